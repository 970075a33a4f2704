section XLG
/-! the generator of turns: it comes through all 2^31 numbers -/
def lc_M : Nat := 2147483648
def lc_f (x : Nat) : Nat := (1103515245 * x + 12345) % lc_M
def lc_n : Nat → Nat → Nat
  | 0, x => x
  | k + 1, x => lc_n k (lc_f x)
theorem lc_n_add (a b x : Nat) : lc_n (a + b) x = lc_n b (lc_n a x) := by
  induction a generalizing x with
  | zero => rw [Nat.zero_add]; rfl
  | succ a ih => rw [show a + 1 + b = (a + b) + 1 by omega]; exact ih (lc_f x)
theorem lc_f_lt (x : Nat) : lc_f x < lc_M := Nat.mod_lt _ (by decide)
theorem lc_n_lt (k : Nat) {x : Nat} (hx : x < lc_M) : lc_n k x < lc_M := by
  induction k generalizing x with
  | zero => exact hx
  | succ k ih => exact ih (lc_f_lt x)
/-- 2^j steps at once: x -> A x + C -/
def lc_AC : Nat → Nat × Nat
  | 0 => (1103515245, 12345)
  | j + 1 => ((lc_AC j).1 * (lc_AC j).1 % lc_M, ((lc_AC j).1 * (lc_AC j).2 + (lc_AC j).2) % lc_M)
theorem lc_mod (A C y : Nat) : (A * (y % lc_M) + C) % lc_M = (A * y + C) % lc_M := by
  rw [Nat.add_mod, Nat.mul_mod, Nat.mod_mod, ← Nat.mul_mod, ← Nat.add_mod]
theorem lc_pow (j x : Nat) (hx : x < lc_M) : lc_n (2 ^ j) x = ((lc_AC j).1 * x + (lc_AC j).2) % lc_M := by
  induction j generalizing x with
  | zero => rfl
  | succ j ih =>
    rw [Nat.pow_succ, Nat.mul_two, lc_n_add, ih x hx, ih _ (Nat.mod_lt _ (by decide)), lc_mod]
    show _ = ((lc_AC j).1 * (lc_AC j).1 % lc_M * x + ((lc_AC j).1 * (lc_AC j).2 + (lc_AC j).2) % lc_M) % lc_M
    rw [Nat.add_mod ((lc_AC j).1 * (lc_AC j).1 % lc_M * x), Nat.mod_mul_mod, Nat.mod_mod, ← Nat.add_mod]
    congr 1
    rw [Nat.mul_add, Nat.mul_assoc, Nat.add_assoc]
theorem lc_AC_ok : ∀ j, j < 31 → (lc_AC j).1 % 2 ^ (j + 1) = 1 ∧ (lc_AC j).2 % 2 ^ (j + 1) = 2 ^ j := by decide +kernel
/-- 2^j steps change bit j and nothing below it -/
theorem lc_bit {j x : Nat} (hj : j < 31) (hx : x < lc_M) : lc_n (2 ^ j) x % 2 ^ (j + 1) = (x + 2 ^ j) % 2 ^ (j + 1) := by
  obtain ⟨h1, h2⟩ := lc_AC_ok j hj
  have hd : 2 ^ (j + 1) ∣ lc_M := ⟨2 ^ (30 - j), by rw [← Nat.pow_add, show j + 1 + (30 - j) = 31 by omega]; rfl⟩
  rw [lc_pow j x hx, Nat.mod_mod_of_dvd _ hd, Nat.add_mod, Nat.mul_mod, h1, h2, Nat.add_mod x]
  have e : 2 ^ j % 2 ^ (j + 1) = 2 ^ j := Nat.mod_eq_of_lt (Nat.pow_lt_pow_right (by decide) (by omega))
  rw [e, Nat.one_mul, Nat.mod_mod]
theorem lc_reach : ∀ (d j x t : Nat), j + d = 31 → x < lc_M → t < lc_M → x % 2 ^ j = t % 2 ^ j → ∃ k, k + 2 ^ j ≤ 2 ^ 31 ∧ lc_n k x = t := by
  intro d
  induction d with
  | zero =>
    intro j x t hj hx ht h
    have e : j = 31 := by omega
    subst e
    have hM : (2 : Nat) ^ 31 = lc_M := by decide
    rw [hM, Nat.mod_eq_of_lt hx, Nat.mod_eq_of_lt ht] at h
    exact ⟨0, by omega, h⟩
  | succ d ih =>
    intro j x t hj hx ht h
    by_cases h2 : x % 2 ^ (j + 1) = t % 2 ^ (j + 1)
    · obtain ⟨k, hk1, hk⟩ := ih (j + 1) x t (by omega) hx ht h2
      exact ⟨k, by rw [Nat.pow_succ] at hk1; omega, hk⟩
    · have h3 : lc_n (2 ^ j) x % 2 ^ (j + 1) = t % 2 ^ (j + 1) := by
        rw [lc_bit (by omega) hx]
        have hp : 2 ^ (j + 1) = 2 * 2 ^ j := by rw [Nat.pow_succ, Nat.mul_comm]
        have hpos : 0 < 2 ^ j := Nat.two_pow_pos j
        rw [hp] at h2 ⊢
        generalize 2 ^ j = m at h h2 hpos ⊢
        have a1 : x % (2 * m) = x % m ∨ x % (2 * m) = x % m + m := by
          have := Nat.mod_mul_left_mod x 2 m
          have h9 : x % (2 * m) < 2 * m := Nat.mod_lt _ (by omega)
          have h8 : x % (2 * m) % m = x % m := this
          rcases Nat.lt_or_ge (x % (2 * m)) m with q | q
          · left; rw [Nat.mod_eq_of_lt q] at h8; exact h8
          · right
            have h7 : (x % (2 * m) - m) % m = x % m := by rw [← h8, Nat.mod_eq_sub_mod q]
            rw [Nat.mod_eq_of_lt (by omega)] at h7
            omega
        have a2 : t % (2 * m) = t % m ∨ t % (2 * m) = t % m + m := by
          have := Nat.mod_mul_left_mod t 2 m
          have h9 : t % (2 * m) < 2 * m := Nat.mod_lt _ (by omega)
          have h8 : t % (2 * m) % m = t % m := this
          rcases Nat.lt_or_ge (t % (2 * m)) m with q | q
          · left; rw [Nat.mod_eq_of_lt q] at h8; exact h8
          · right
            have h7 : (t % (2 * m) - m) % m = t % m := by rw [← h8, Nat.mod_eq_sub_mod q]
            rw [Nat.mod_eq_of_lt (by omega)] at h7
            omega
        have b1 : x % m < m := Nat.mod_lt _ hpos
        rw [Nat.add_mod, Nat.mod_eq_of_lt (show m < 2 * m by omega)]
        rcases a1 with a1 | a1 <;> rcases a2 with a2 | a2
        · exact absurd (by rw [a1, a2, h]) h2
        · rw [a1, a2, Nat.mod_eq_of_lt (by omega), h]
        · rw [a1, a2, show x % m + m + m = x % m + 2 * m by omega, Nat.add_mod_right, Nat.mod_eq_of_lt (by omega), h]
        · exact absurd (by rw [a1, a2, h]) h2
      obtain ⟨k, hk1, hk⟩ := ih (j + 1) (lc_n (2 ^ j) x) t (by omega) (lc_n_lt _ hx) ht h3
      exact ⟨2 ^ j + k, by rw [Nat.pow_succ] at hk1; omega, by rw [lc_n_add]; exact hk⟩
/-- every number comes -/
theorem lc_all {x t : Nat} (hx : x < lc_M) (ht : t < lc_M) : ∃ k, k < 2147483648 ∧ lc_n k x = t := by
  obtain ⟨k, h1, h2⟩ := lc_reach 31 0 x t rfl hx ht (by rw [Nat.pow_zero, Nat.mod_one, Nat.mod_one])
  exact ⟨k, by omega, h2⟩
/-- so every one of n <= 16 is drawn in the end -/
theorem lc_draw {x n i : Nat} (hx : x < lc_M) (hi : i < n) (hn : n ≤ 16) : ∃ k, k < 2147483648 ∧ lc_n k x / 65536 % n = i := by
  obtain ⟨k, hk0, hk⟩ := lc_all hx (t := i * 65536) (by unfold lc_M; omega)
  exact ⟨k, hk0, by rw [hk, Nat.mul_div_cancel _ (by decide), Nat.mod_eq_of_lt hi]⟩
/-- the machine's own step -/
theorem lc_step {x : Nat} : (nI 1103515245 * nI x + nI 12345) &&& nI 2147483647 = nI (lc_f x) := by
  have h31 : (2 : Nat) ^ 31 = 2147483648 := by decide
  have e : (nI (1103515245 * x + 12345)).toBitVec.toNat = (1103515245 * x + 12345) % 2 ^ 32 := by
    show (BitVec.ofNat 32 (1103515245 * x + 12345)).toNat = _
    rw [BitVec.toNat_ofNat]
  have e2 : (nI (1103515245 * x + 12345)).toBitVec.toNat % 2 ^ 31 = lc_f x := by
    rw [e, Nat.mod_mod_of_dvd _ (by decide : 2 ^ 31 ∣ 2 ^ 32), h31]
    rfl
  rw [pk_mul, nI_add, pk_and _ 31 (by decide +kernel), e2]
end XLG
