section XRU
/-! what holds between levels of the reference -/
def mo_P (mst mmv lvl : Nat) (lo : Nat → Int32) (fr to : Nat → Nat) : Prop :=
  (∀ j, lo j = (-1) ∨ ∃ k, k ≤ lvl ∧ j < mst ∧ lo j = nI k) ∧ (∀ j, lo j = nI 0 → j = 0) ∧ ∀ j k, lo j = nI (k + 1) → k < 1000 → ∃ m, m < mmv ∧ to m = j ∧ lo (fr m) = nI k
theorem mo_nn {k : Nat} (hk : k < 2 ^ 31) : ¬ nI k < 0 := nI_pos hk
theorem mo_inj {a b : Nat} (ha : a < 2 ^ 31) (hb : b < 2 ^ 31) (h : nI a = nI b) : a = b := (nI_eq ha hb).mp h
theorem mo_S_up {wk mst lvl k z : Nat} {lo : Nat → Int32} {gs : Nat → Nat} (h : mo_S wk mst lvl lo gs) (hz : z = 0 ∨ (z - 1 < mst ∧ lo (z - 1) = nI lvl)) : mo_S wk mst lvl lo (va_up gs k z) := xs_up_N (P := fun z => z = 0 ∨ (z - 1 < mst ∧ lo (z - 1) = nI lvl)) h hz
def mo_cl (nx lo : Nat → Int32) (v : Int32) : Nat → Int32 := fun j => if nx j = 0 then lo j else v
theorem mo_P_0 {mst mmv : Nat} {fr to : Nat → Nat} (h : 0 < mst) : mo_P mst mmv 0 (upd (fun _ => (-1)) 0 (nI 0)) fr to := by
  refine ⟨fun j => ?_, fun j hj => ?_, fun j k hj hk => ?_⟩
  · by_cases e : j = 0
    · subst e; exact Or.inr ⟨0, Nat.le_refl 0, h, pk_us⟩
    · left; rw [pk_un e]
  · by_cases e : j = 0
    · exact e
    · rw [pk_un e] at hj; exact absurd hj.symm (xs_nm1 (by decide))
  · by_cases e : j = 0
    · subst e; rw [pk_us] at hj; have := mo_inj (by decide) (by omega) hj; omega
    · rw [pk_un e] at hj; exact absurd hj.symm (xs_nm1 (by omega))
theorem mo_P_none {mst mmv lvl : Nat} {fr to : Nat → Nat} : mo_P mst mmv lvl (fun _ => (-1)) fr to := ⟨fun _ => Or.inl rfl, fun j hj => absurd hj.symm (xs_nm1 (by decide)), fun j k hj hk => absurd hj.symm (xs_nm1 (by omega))⟩
theorem mo_P_close {mst mmv lvl : Nat} {lo nx : Nat → Int32} {fr to : Nat → Nat} (hl : lvl < 1000) (h : mo_P mst mmv lvl lo fr to) (hn : mo_N mst mmv lvl lo nx fr to) : mo_P mst mmv (lvl + 1) (xs_fg mst (mo_cl nx lo (nI (lvl + 1))) lo) fr to := by
  obtain ⟨h1, h2, h3⟩ := h
  have old : ∀ j, (xs_fg mst (mo_cl nx lo (nI (lvl + 1))) lo) j = lo j ∨ (j < mst ∧ ¬ nx j = 0 ∧ (xs_fg mst (mo_cl nx lo (nI (lvl + 1))) lo) j = nI (lvl + 1)) := fun j => by
    unfold xs_fg mo_cl
    by_cases a : j < mst
    · by_cases b : nx j = 0
      · left; rw [if_pos a, if_pos b]
      · right; exact ⟨a, b, by rw [if_pos a, if_neg b]⟩
    · left; rw [if_neg a]
  have keep : ∀ j k, k < 2 ^ 31 → lo j = nI k → (xs_fg mst (mo_cl nx lo (nI (lvl + 1))) lo) j = nI k := fun j k hk hj => by
    rcases old j with a | ⟨a, b, -⟩
    · rw [a]; exact hj
    · exact absurd (hn j a b).2 (by rw [hj]; exact mo_nn hk)
  refine ⟨fun j => ?_, fun j hj => ?_, fun j k hj hk => ?_⟩
  · rcases old j with a | ⟨a, b, c⟩
    · rw [a]
      rcases h1 j with q | ⟨k, q1, q2, q3⟩
      · exact Or.inl q
      · exact Or.inr ⟨k, by omega, q2, q3⟩
    · exact Or.inr ⟨lvl + 1, Nat.le_refl _, a, c⟩
  · rcases old j with a | ⟨a, b, c⟩
    · rw [a] at hj; exact h2 j hj
    · rw [c] at hj; have := mo_inj (by omega) (by decide) hj; omega
  · rcases old j with a | ⟨a, b, c⟩
    · rw [a] at hj
      obtain ⟨m, m1, m2, m3⟩ := h3 j k hj hk
      exact ⟨m, m1, m2, keep _ _ (by omega) m3⟩
    · rw [c] at hj
      have e : lvl = k := by have := mo_inj (by omega) (by omega) hj; omega
      subst e
      obtain ⟨m, m1, m2, m3⟩ := (hn j a b).1
      exact ⟨m, m1, m2, keep _ _ (by omega) m3⟩
theorem mo_cnt_close {mst mmv lvl : Nat} {lo nx : Nat → Int32} {fr to : Nat → Nat} (hl : lvl < 1000) (hP : mo_P mst mmv lvl lo fr to) (hn : mo_N mst mmv lvl lo nx fr to) : ∀ n, n ≤ mst → n ≤ 200 → xs_cnt (xs_fg n (mo_cl nx lo (nI (lvl + 1))) lo) 200 = xs_cnt lo 200 + xs_lv nx n := by
  intro n
  induction n with
  | zero =>
    intro _ _
    rw [xs_fg_0]
    exact (Nat.add_zero _).symm
  | succ n ih =>
    intro a b
    have h := ih (by omega) (by omega)
    rw [← xs_fg_s]
    show _ = _ + (xs_lv nx n + _)
    by_cases e : nx n = 0
    · rw [if_pos e]
      have e2 : upd (xs_fg n (mo_cl nx lo (nI (lvl + 1))) lo) n (mo_cl nx lo (nI (lvl + 1)) n) = xs_fg n (mo_cl nx lo (nI (lvl + 1))) lo := by
        funext j
        by_cases f : j = n
        · subst f; rw [pk_us]; simp [mo_cl, e, xs_fg]
        · rw [pk_un f]
      rw [e2, h]
      omega
    · rw [if_neg e]
      have hv : mo_cl nx lo (nI (lvl + 1)) n = nI (lvl + 1) := by unfold mo_cl; rw [if_neg e]
      have ho : xs_fg n (mo_cl nx lo (nI (lvl + 1))) lo n = (-1) := by
        have hlt := (hn n (by omega) e).2
        have e3 : xs_fg n (mo_cl nx lo (nI (lvl + 1))) lo n = lo n := by simp [xs_fg]
        rw [e3]
        rcases hP.1 n with q | ⟨k, q1, q2, q3⟩
        · exact q
        · rw [q3] at hlt; exact absurd hlt (mo_nn (by omega))
      rw [hv, xs_cnt_up (by omega) ho (xs_nm1 (by omega)), h]
      omega
theorem mo_fg_skip {nx lo : Nat → Int32} {v : Int32} {i : Nat} (h : nx i = 0) : xs_fg (i + 1) (mo_cl nx lo v) lo = xs_fg i (mo_cl nx lo v) lo := by
  rw [← xs_fg_s]
  funext j
  by_cases f : j = i
  · subst f; rw [pk_us]; simp [mo_cl, h, xs_fg]
  · rw [pk_un f]
theorem xs_lv_all {wk n : Nat} (h : n ≤ wk) : xs_lv (fun j => if j < wk then nI 1 else nI 0) n = n := by
  induction n with
  | zero => rfl
  | succ n ih =>
    show xs_lv _ n + _ = n + 1
    rw [ih (by omega), if_neg (by show ¬ (if n < wk then nI 1 else nI 0) = 0; rw [if_pos (by omega)]; decide)]
theorem ms_dec0 {S S1 K fu c d : Nat} (hc : c = d + 1) (h : S * c + K < fu + 1) (hs : S1 < S) : S1 * c + d < fu := by
  have h1 : (S1 + 1) * c ≤ S * c := Nat.mul_le_mul_right _ hs
  rw [Nat.add_mul, Nat.one_mul] at h1
  generalize S * c = b at h h1
  generalize S1 * c = a at h1 ⊢
  omega
theorem ms_lt {L Q R Q1 R1 : Nat} (h : Q1 + R1 < Q + R) : L * 5000000 + Q1 + R1 < L * 5000000 + Q + R := by omega
theorem ms_ltF {L L1 Q R Q1 R1 : Nat} (h : L1 + 1 = L) (hq : Q1 = 0) (hr : R1 ≤ 4160000) : L1 * 5000000 + Q1 + R1 < L * 5000000 + Q + R := by omega
theorem ms_dec {S S1 K fu : Nat} (h : S * 2147483649 + K < fu + 1) (hs : S1 < S) : S1 * 2147483649 + 2147483648 < fu := ms_dec0 (c := 2147483649) (d := 2147483648) (by decide) h hs
end XRU
