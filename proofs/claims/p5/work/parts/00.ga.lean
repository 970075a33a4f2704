section XGA
/-! the generator of turns: it comes through all 2^31 numbers -/
def lc_M : Nat := 2147483648
def lc_f (x : Nat) : Nat := (1103515245 * x + 12345) % lc_M
def lc_n : Nat → Nat → Nat
  | 0, x => x
  | k + 1, x => lc_n k (lc_f x)
theorem lc_n_add (a b x : Nat) : lc_n (a + b) x = lc_n b (lc_n a x) := by
  induction a generalizing x with
  | zero => rw [Nat.zero_add]; rfl
  | succ a ih => rw [show a + 1 + b = (a + b) + 1 by omega]; exact ih (lc_f x)
theorem lc_f_lt (x : Nat) : lc_f x < lc_M := Nat.mod_lt _ (by decide)
theorem lc_n_lt (k : Nat) {x : Nat} (hx : x < lc_M) : lc_n k x < lc_M := by
  induction k generalizing x with
  | zero => exact hx
  | succ k ih => exact ih (lc_f_lt x)
/-- 2^j steps at once: x -> A x + C -/
def lc_AC : Nat → Nat × Nat
  | 0 => (1103515245, 12345)
  | j + 1 => ((lc_AC j).1 * (lc_AC j).1 % lc_M, ((lc_AC j).1 * (lc_AC j).2 + (lc_AC j).2) % lc_M)
theorem lc_mod (A C y : Nat) : (A * (y % lc_M) + C) % lc_M = (A * y + C) % lc_M := by
  rw [Nat.add_mod, Nat.mul_mod, Nat.mod_mod, ← Nat.mul_mod, ← Nat.add_mod]
theorem lc_pow (j x : Nat) (hx : x < lc_M) : lc_n (2 ^ j) x = ((lc_AC j).1 * x + (lc_AC j).2) % lc_M := by
  induction j generalizing x with
  | zero => rfl
  | succ j ih =>
    rw [Nat.pow_succ, Nat.mul_two, lc_n_add, ih x hx, ih _ (Nat.mod_lt _ (by decide)), lc_mod]
    show _ = ((lc_AC j).1 * (lc_AC j).1 % lc_M * x + ((lc_AC j).1 * (lc_AC j).2 + (lc_AC j).2) % lc_M) % lc_M
    rw [Nat.add_mod ((lc_AC j).1 * (lc_AC j).1 % lc_M * x), Nat.mod_mul_mod, Nat.mod_mod, ← Nat.add_mod]
    congr 1
    rw [Nat.mul_add, Nat.mul_assoc, Nat.add_assoc]
theorem lc_AC_ok : ∀ j, j < 31 → (lc_AC j).1 % 2 ^ (j + 1) = 1 ∧ (lc_AC j).2 % 2 ^ (j + 1) = 2 ^ j := by decide +kernel
/-- 2^j steps change bit j and nothing below it -/
theorem lc_bit {j x : Nat} (hj : j < 31) (hx : x < lc_M) : lc_n (2 ^ j) x % 2 ^ (j + 1) = (x + 2 ^ j) % 2 ^ (j + 1) := by
  obtain ⟨h1, h2⟩ := lc_AC_ok j hj
  have hd : 2 ^ (j + 1) ∣ lc_M := ⟨2 ^ (30 - j), by rw [← Nat.pow_add, show j + 1 + (30 - j) = 31 by omega]; rfl⟩
  rw [lc_pow j x hx, Nat.mod_mod_of_dvd _ hd, Nat.add_mod, Nat.mul_mod, h1, h2, Nat.add_mod x]
  have e : 2 ^ j % 2 ^ (j + 1) = 2 ^ j := Nat.mod_eq_of_lt (Nat.pow_lt_pow_right (by decide) (by omega))
  rw [e, Nat.one_mul, Nat.mod_mod]
theorem lc_reach : ∀ (d j x t : Nat), j + d = 31 → x < lc_M → t < lc_M → x % 2 ^ j = t % 2 ^ j → ∃ k, k + 2 ^ j ≤ 2 ^ 31 ∧ lc_n k x = t := by
  intro d
  induction d with
  | zero =>
    intro j x t hj hx ht h
    have e : j = 31 := by omega
    subst e
    have hM : (2 : Nat) ^ 31 = lc_M := by decide
    rw [hM, Nat.mod_eq_of_lt hx, Nat.mod_eq_of_lt ht] at h
    exact ⟨0, by omega, h⟩
  | succ d ih =>
    intro j x t hj hx ht h
    by_cases h2 : x % 2 ^ (j + 1) = t % 2 ^ (j + 1)
    · obtain ⟨k, hk1, hk⟩ := ih (j + 1) x t (by omega) hx ht h2
      exact ⟨k, by rw [Nat.pow_succ] at hk1; omega, hk⟩
    · have h3 : lc_n (2 ^ j) x % 2 ^ (j + 1) = t % 2 ^ (j + 1) := by
        rw [lc_bit (by omega) hx]
        have hp : 2 ^ (j + 1) = 2 * 2 ^ j := by rw [Nat.pow_succ, Nat.mul_comm]
        have hpos : 0 < 2 ^ j := Nat.two_pow_pos j
        rw [hp] at h2 ⊢
        generalize 2 ^ j = m at h h2 hpos ⊢
        have a1 : x % (2 * m) = x % m ∨ x % (2 * m) = x % m + m := by
          have := Nat.mod_mul_left_mod x 2 m
          have h9 : x % (2 * m) < 2 * m := Nat.mod_lt _ (by omega)
          have h8 : x % (2 * m) % m = x % m := this
          rcases Nat.lt_or_ge (x % (2 * m)) m with q | q
          · left; rw [Nat.mod_eq_of_lt q] at h8; exact h8
          · right
            have h7 : (x % (2 * m) - m) % m = x % m := by rw [← h8, Nat.mod_eq_sub_mod q]
            rw [Nat.mod_eq_of_lt (by omega)] at h7
            omega
        have a2 : t % (2 * m) = t % m ∨ t % (2 * m) = t % m + m := by
          have := Nat.mod_mul_left_mod t 2 m
          have h9 : t % (2 * m) < 2 * m := Nat.mod_lt _ (by omega)
          have h8 : t % (2 * m) % m = t % m := this
          rcases Nat.lt_or_ge (t % (2 * m)) m with q | q
          · left; rw [Nat.mod_eq_of_lt q] at h8; exact h8
          · right
            have h7 : (t % (2 * m) - m) % m = t % m := by rw [← h8, Nat.mod_eq_sub_mod q]
            rw [Nat.mod_eq_of_lt (by omega)] at h7
            omega
        have b1 : x % m < m := Nat.mod_lt _ hpos
        rw [Nat.add_mod, Nat.mod_eq_of_lt (show m < 2 * m by omega)]
        rcases a1 with a1 | a1 <;> rcases a2 with a2 | a2
        · exact absurd (by rw [a1, a2, h]) h2
        · rw [a1, a2, Nat.mod_eq_of_lt (by omega), h]
        · rw [a1, a2, show x % m + m + m = x % m + 2 * m by omega, Nat.add_mod_right, Nat.mod_eq_of_lt (by omega), h]
        · exact absurd (by rw [a1, a2, h]) h2
      obtain ⟨k, hk1, hk⟩ := ih (j + 1) (lc_n (2 ^ j) x) t (by omega) (lc_n_lt _ hx) ht h3
      exact ⟨2 ^ j + k, by rw [Nat.pow_succ] at hk1; omega, by rw [lc_n_add]; exact hk⟩
/-- every number comes -/
theorem lc_all {x t : Nat} (hx : x < lc_M) (ht : t < lc_M) : ∃ k, k < 2147483648 ∧ lc_n k x = t := by
  obtain ⟨k, h1, h2⟩ := lc_reach 31 0 x t rfl hx ht (by rw [Nat.pow_zero, Nat.mod_one, Nat.mod_one])
  exact ⟨k, by omega, h2⟩
/-- so every one of n <= 16 is drawn in the end -/
theorem lc_draw {x n i : Nat} (hx : x < lc_M) (hi : i < n) (hn : n ≤ 16) : ∃ k, k < 2147483648 ∧ lc_n k x / 65536 % n = i := by
  obtain ⟨k, hk0, hk⟩ := lc_all hx (t := i * 65536) (by unfold lc_M; omega)
  exact ⟨k, hk0, by rw [hk, Nat.mul_div_cancel _ (by decide), Nat.mod_eq_of_lt hi]⟩
/-- lanes of w bits -/
def gp (w : Nat) (f : Nat → Nat) : Nat → Nat
  | 0 => 0
  | k + 1 => f 0 + 2 ^ w * gp w (fun i => f (i + 1)) k
theorem gp_c {w : Nat} : ∀ (k : Nat) {f g : Nat → Nat}, (∀ i, i < k → f i = g i) → gp w f k = gp w g k
  | 0, _, _, _ => rfl
  | k + 1, f, g, h => by
    simp only [gp]; rw [h 0 (by omega), gp_c k (fun i hi => h (i + 1) (by omega))]
theorem gp_add {w : Nat} : ∀ (k : Nat) (f g : Nat → Nat), gp w f k + gp w g k = gp w (fun i => f i + g i) k
  | 0, _, _ => rfl
  | k + 1, f, g => by
    simp only [gp]; rw [← gp_add k, Nat.mul_add]; omega
theorem gp_mul {w : Nat} (c : Nat) : ∀ (k : Nat) (f : Nat → Nat), c * gp w f k = gp w (fun i => c * f i) k
  | 0, _ => rfl
  | k + 1, f => by
    simp only [gp]; rw [← gp_mul c k, Nat.mul_add, Nat.mul_left_comm]
theorem gp_sub {w : Nat} (k : Nat) (f g : Nat → Nat) (h : ∀ i, g i ≤ f i) : gp w f k - gp w g k = gp w (fun i => f i - g i) k := by
  have h1 := gp_add (w := w) k (fun i => f i - g i) g
  rw [show (fun i => f i - g i + g i) = f from funext (fun i => by have := h i; omega)] at h1
  omega
theorem gp_bit {w : Nat} (A : Nat) {a : Nat} (ha : a < 2 ^ w) (j : Nat) : (a + 2 ^ w * A).testBit j = if j < w then a.testBit j else A.testBit (j - w) := by
  rw [Nat.add_comm]; exact Nat.testBit_two_pow_mul_add A ha j
theorem gp_and {w : Nat} : ∀ (k : Nat) (f g : Nat → Nat), (∀ i, f i < 2 ^ w) → (∀ i, g i < 2 ^ w) → gp w f k &&& gp w g k = gp w (fun i => f i &&& g i) k
  | 0, _, _, _, _ => by simp [gp]
  | k + 1, f, g, hf, hg => by
    simp only [gp]; rw [← gp_and k _ _ (fun i => hf (i + 1)) (fun i => hg (i + 1))]
    apply Nat.eq_of_testBit_eq; intro j
    rw [gp_bit _ (Nat.lt_of_le_of_lt Nat.and_le_left (hf 0)), Nat.testBit_and, gp_bit _ (hf 0), gp_bit _ (hg 0), Nat.testBit_and, Nat.testBit_and]; split <;> rfl
/-- shifted down and masked -/
theorem gp_shr {w : Nat} (s m : Nat) (hm : m < 2 ^ (w - s)) (hs : s ≤ w) : ∀ (k : Nat) (f : Nat → Nat), (∀ i, f i < 2 ^ w) → (gp w f k >>> s) &&& gp w (fun _ => m) k = gp w (fun i => (f i >>> s) &&& m) k
  | 0, _, _ => by simp [gp]
  | k + 1, f, hf => by
    simp only [gp]; rw [← gp_shr s m hm hs k _ (fun i => hf (i + 1))]
    have hm64 : m < 2 ^ w := Nat.lt_of_lt_of_le hm (Nat.pow_le_pow_right (by decide) (by omega))
    have hmb : ∀ j, w - s ≤ j → m.testBit j = false := fun j hj => Nat.testBit_lt_two_pow (Nat.lt_of_lt_of_le hm (Nat.pow_le_pow_right (by decide) hj))
    apply Nat.eq_of_testBit_eq; intro j
    rw [gp_bit _ (Nat.lt_of_le_of_lt Nat.and_le_right hm64)]
    rw [Nat.testBit_and, Nat.testBit_and, Nat.testBit_and, Nat.testBit_shiftRight, Nat.testBit_shiftRight, Nat.testBit_shiftRight, gp_bit _ (hf 0), gp_bit _ hm64]
    by_cases h1 : j < w
    · rw [if_pos h1, if_pos h1]
      by_cases h2 : s + j < w
      · rw [if_pos h2]
      · rw [hmb j (by omega), Bool.and_false, Bool.and_false]
    · rw [if_neg h1, if_neg h1, if_neg (by omega), show s + j - w = s + (j - w) by omega]
/-- a bit of a lane -/
theorem gp_tb {w : Nat} : ∀ (k : Nat) (f : Nat → Nat), (∀ i, f i < 2 ^ w) → ∀ l r, l < k → r < w → (gp w f k).testBit (w * l + r) = (f l).testBit r
  | 0, _, _, l, _, hl, _ => absurd hl (by omega)
  | k + 1, f, hf, 0, r, _, hr => by
    simp only [gp]; rw [gp_bit _ (hf 0), if_pos (by omega)]; simp
  | k + 1, f, hf, l + 1, r, hl, hr => by
    simp only [gp]; rw [gp_bit _ (hf 0), if_neg (by rw [Nat.mul_succ]; omega), show w * (l + 1) + r - w = w * l + r by rw [Nat.mul_succ]; omega]
    exact gp_tb k _ (fun i => hf (i + 1)) l r (by omega) hr
theorem gp_app {w : Nat} : ∀ (a : Nat) (f : Nat → Nat) (b : Nat), gp w f (a + b) = gp w f a + 2 ^ (w * a) * gp w (fun i => f (i + a)) b := by
  intro a; induction a with
  | zero => intro f b; simp [gp]
  | succ a ih =>
    intro f b
    rw [show a + 1 + b = (a + b) + 1 by omega]; simp only [gp]; rw [ih, Nat.mul_succ, Nat.add_comm (w * a), Nat.pow_add, Nat.mul_add, Nat.mul_assoc, Nat.add_assoc]; rfl
/-- two by two -/
def gp_il (f g : Nat → Nat) (i : Nat) : Nat := if i % 2 = 0 then f (i / 2) else g (i / 2)
theorem gp_il_e (f g : Nat → Nat) (i : Nat) : gp_il f g (2 * i) = f i := by unfold gp_il; rw [if_pos (by omega), show 2 * i / 2 = i by omega]
theorem gp_il_o (f g : Nat → Nat) (i : Nat) : gp_il f g (2 * i + 1) = g i := by unfold gp_il; rw [if_neg (by omega), show (2 * i + 1) / 2 = i by omega]
theorem gp_two {w : Nat} : ∀ (k : Nat) (f g : Nat → Nat), gp (2 * w) f k + 2 ^ w * gp (2 * w) g k = gp w (gp_il f g) (2 * k)
  | 0, _, _ => by simp [gp]
  | k + 1, f, g => by
    rw [show 2 * (k + 1) = 2 * k + 1 + 1 by omega]; simp only [gp]
    have h := gp_two (w := w) k (fun i => f (i + 1)) (fun i => g (i + 1))
    rw [show (fun i => gp_il f g (i + 1 + 1)) = gp_il (fun i => f (i + 1)) (fun i => g (i + 1)) from funext (fun i => by unfold gp_il; rw [show (i + 1 + 1) % 2 = i % 2 by omega, show (i + 1 + 1) / 2 = i / 2 + 1 by omega]), ← h]
    rw [show gp_il f g 0 = f 0 from rfl, show gp_il f g (0 + 1) = g 0 from rfl, show 2 * w = w + w by omega, Nat.pow_add]
    simp only [Nat.mul_add, Nat.mul_assoc]; omega
theorem gp_one {w : Nat} (hw : 0 < w) : ∀ k, gp w (fun _ => 1) k = (2 ^ (w * k) - 1) / (2 ^ w - 1) := by
  have key : ∀ k, (2 ^ w - 1) * gp w (fun _ => 1) k + 1 = 2 ^ (w * k) := by
    intro k; induction k with
    | zero => simp [gp]
    | succ k ih =>
      simp only [gp]; rw [Nat.mul_succ, Nat.add_comm (w * k), Nat.pow_add, ← ih, Nat.mul_add, Nat.mul_add, Nat.mul_one, Nat.mul_one, Nat.mul_left_comm]
      have : 0 < 2 ^ w := Nat.two_pow_pos w
      omega
  intro k
  have h2 : 1 < 2 ^ w := Nat.one_lt_two_pow (by omega)
  rw [← key k, Nat.add_sub_cancel, Nat.mul_div_cancel_left _ (by omega)]
def gp_st (A C o X : Nat) : Nat := (A * X + C * o) &&& (2147483647 * o)
theorem gp_st_ok {A C : Nat} (hA : A < 2147483648) (hC : C < 2147483648) (k : Nat) (x : Nat → Nat) (hx : ∀ i, x i < 2147483648) : gp_st A C (gp 64 (fun _ => 1) k) (gp 64 x k) = gp 64 (fun i => (A * x i + C) % 2147483648) k := by
  unfold gp_st
  rw [gp_mul, gp_mul, gp_mul, gp_add, gp_and k _ _ (fun i => ?_) (fun i => by decide)]
  · exact gp_c k (fun i _ => by show (A * x i + C * 1) &&& (2 ^ 31 - 1) = _; rw [Nat.and_two_pow_sub_one_eq_mod, Nat.mul_one])
  · have h := Nat.mul_le_mul (Nat.le_of_lt_succ hA) (Nat.le_of_lt_succ (hx i))
    show A * x i + C * 1 < _
    omega
def gp_v (o X Y : Nat) : Nat := ((X >>> 16) &&& (32767 * o)) + 4294967296 * ((Y >>> 16) &&& (32767 * o))
theorem gp_sh16 (k : Nat) (x : Nat → Nat) (hx : ∀ i, x i < 2147483648) : (gp 64 x k >>> 16) &&& (32767 * gp 64 (fun _ => 1) k) = gp 64 (fun i => x i / 65536) k := by
  rw [gp_mul, gp_shr 16 (32767 * 1) (by decide) (by decide) k x (fun i => Nat.lt_trans (hx i) (by decide))]
  refine gp_c k (fun i _ => ?_)
  show (x i >>> 16) &&& (2 ^ 15 - 1) = _
  rw [Nat.and_two_pow_sub_one_eq_mod, Nat.shiftRight_eq_div_pow]
  have := hx i
  omega
theorem gp_v_ok (k : Nat) (x y : Nat → Nat) (hx : ∀ i, x i < 2147483648) (hy : ∀ i, y i < 2147483648) : gp_v (gp 64 (fun _ => 1) k) (gp 64 x k) (gp 64 y k) = gp 32 (gp_il (fun i => x i / 65536) (fun i => y i / 65536)) (2 * k) := by
  unfold gp_v; rw [gp_sh16 k x hx, gp_sh16 k y hy]; exact gp_two (w := 32) k _ _
theorem gp_il1 : gp_il (fun _ => 1) (fun _ => 1) = fun _ => 1 := funext (fun i => by unfold gp_il; split <;> rfl)
theorem gp_o32 (k : Nat) : 4294967297 * gp 64 (fun _ => 1) k = gp 32 (fun _ => 1) (2 * k) := by
  have h := gp_two (w := 32) k (fun _ => 1) (fun _ => 1); rw [gp_il1] at h; rw [← h]; show _ = gp 64 _ k + 4294967296 * gp 64 _ k; omega
theorem gp_o16 (k : Nat) : 65537 * gp 32 (fun _ => 1) k = gp 16 (fun _ => 1) (2 * k) := by
  have h := gp_two (w := 16) k (fun _ => 1) (fun _ => 1); rw [gp_il1] at h; rw [← h]; show _ = gp 32 _ k + 65536 * gp 32 _ k; omega
def gp_m (n M o V : Nat) : Nat := V - n * (((M * V) >>> 19) &&& (4095 * o))
theorem gp_m_ok {n M : Nat} (hM : M < 65536) (h : ∀ v, v < 32768 → M * v / 524288 = v / n) (h9 : 9 ≤ n) (k : Nat) (v : Nat → Nat) (hv : ∀ i, v i < 32768) : gp_m n M (gp 32 (fun _ => 1) k) (gp 32 v k) = gp 32 (fun i => v i % n) k := by
  unfold gp_m
  have hq : ∀ i, v i / n ≤ 3640 := fun i => Nat.le_trans (Nat.div_le_div_left h9 (by decide)) (by have := hv i; omega)
  have hb : ∀ i, M * v i < 2 ^ 32 := fun i => by
    have h := Nat.mul_le_mul (Nat.le_of_lt_succ hM) (Nat.le_of_lt_succ (hv i))
    omega
  rw [gp_mul M, gp_mul 4095, gp_shr 19 (4095 * 1) (by decide) (by decide) k _ hb, gp_mul n]
  have e : ∀ i, ((M * v i) >>> 19) &&& (4095 * 1) = v i / n := fun i => by
    show _ &&& (2 ^ 12 - 1) = _
    rw [Nat.and_two_pow_sub_one_eq_mod, Nat.shiftRight_eq_div_pow]
    have h1 := h _ (hv i); have h2 := hq i
    show M * v i / 524288 % 4096 = _
    omega
  have ee : (fun i => n * (((M * v i) >>> 19) &&& (4095 * 1))) = fun i => n * (v i / n) := funext (fun i => by rw [e])
  rw [ee, gp_sub k _ _ (fun i => Nat.mul_div_le _ _)]
  exact gp_c k (fun i _ => by have := Nat.div_add_mod (v i) n; show v i - n * (v i / n) = _; omega)
def gp_h4 (q D h : Nat) : Nat := h + ((255 * h) &&& (32767 * ((D >>> 3) &&& q)))
def gp_h3 (q D h : Nat) : Nat := h + ((15 * h) &&& (127 * ((D >>> 2) &&& q)))
def gp_h2 (q D h : Nat) : Nat := h + ((3 * h) &&& (7 * ((D >>> 1) &&& q)))
def gp_hot (q D : Nat) : Nat := gp_h4 q D (gp_h3 q D (gp_h2 q D (q + (D &&& q))))
theorem gp_hs {s c μ : Nat} (hs : 1 ≤ s ∧ s ≤ 3) (hμ : μ < 65536) (k : Nat) (d h : Nat → Nat) (hd : ∀ i, d i < 16) (hh : ∀ i, c * h i < 65536) : gp 16 h k + ((c * gp 16 h k) &&& (μ * ((gp 16 d k >>> s) &&& gp 16 (fun _ => 1) k))) = gp 16 (fun i => h i + ((c * h i) &&& (μ * ((d i >>> s) &&& 1)))) k := by
  rw [gp_shr s 1 (by rcases hs with ⟨h1, h2⟩; exact Nat.one_lt_two_pow (by omega)) (by omega) k d (fun i => Nat.lt_trans (hd i) (by decide)), gp_mul, gp_mul, gp_and k _ _ hh (fun i => ?_), gp_add]
  have : (d i >>> s) &&& 1 ≤ 1 := Nat.and_le_right
  show μ * ((d i >>> s) &&& 1) < 65536
  exact Nat.lt_of_le_of_lt (Nat.mul_le_mul_left μ this) (by omega)
theorem gp_hot_ok (k : Nat) (d : Nat → Nat) (hd : ∀ i, d i < 16) : gp_hot (gp 16 (fun _ => 1) k) (gp 16 d k) = gp 16 (fun i => 2 ^ d i) k := by
  have c1 : ∀ a, a < 16 → 1 + (a &&& 1) ≤ 2 := by decide
  have c2 : ∀ a, a < 16 → 1 + (a &&& 1) + ((3 * (1 + (a &&& 1))) &&& (7 * ((a >>> 1) &&& 1))) ≤ 8 := by decide
  have c3 : ∀ a, a < 16 → (fun h => h + ((15 * h) &&& (127 * ((a >>> 2) &&& 1)))) (1 + (a &&& 1) + ((3 * (1 + (a &&& 1))) &&& (7 * ((a >>> 1) &&& 1)))) ≤ 128 := by decide
  have c4 : ∀ a, a < 16 → (fun h => h + ((255 * h) &&& (32767 * ((a >>> 3) &&& 1)))) ((fun h => h + ((15 * h) &&& (127 * ((a >>> 2) &&& 1)))) (1 + (a &&& 1) + ((3 * (1 + (a &&& 1))) &&& (7 * ((a >>> 1) &&& 1))))) = 2 ^ a := by decide
  unfold gp_hot gp_h4 gp_h3 gp_h2
  rw [gp_and k _ _ (fun i => Nat.lt_trans (hd i) (by decide)) (fun i => by decide), gp_add]
  rw [gp_hs (s := 1) (by decide) (by decide) k d _ hd (fun i => by have := c1 _ (hd i); omega)]
  rw [gp_hs (s := 2) (by decide) (by decide) k d _ hd (fun i => by have := c2 _ (hd i); omega)]
  rw [gp_hs (s := 3) (by decide) (by decide) k d _ hd (fun i => by have := c3 _ (hd i); simp only [] at this; omega)]
  exact gp_c k (fun i _ => c4 _ (hd i))

def gp_d (n1 M1 n2 M2 o2 V : Nat) : Nat := gp_m n1 M1 o2 V + 65536 * gp_m n2 M2 o2 V
/-- what is right of n and M -/
def gp_ok (n M : Nat) : Prop := M < 65536 ∧ (∀ v, v < 32768 → M * v / 524288 = v / n) ∧ 9 ≤ n ∧ n ≤ 16
theorem gp_hit {n1 M1 n2 M2 : Nat} (h1 : gp_ok n1 M1) (h2 : gp_ok n2 M2) (k : Nat) (x y : Nat → Nat) (hx : ∀ i, x i < 2147483648) (hy : ∀ i, y i < 2147483648) {l s f r : Nat} (hl : l < k) (hs : s < 2) (hf : f < 2) (hr : r < 16)
    (h : (gp_hot (gp 16 (fun _ => 1) (4 * k)) (gp_d n1 M1 n2 M2 (gp 32 (fun _ => 1) (2 * k)) (gp_v (gp 64 (fun _ => 1) k) (gp 64 x k) (gp 64 y k)))).testBit (64 * l + (32 * s + (16 * f + r))) = true) :
    (if s = 0 then x l else y l) / 65536 % (if f = 0 then n1 else n2) = r := by
  have hv : ∀ i, gp_il (fun i => x i / 65536) (fun i => y i / 65536) i < 32768 := fun i => by
    have h1 := hx (i / 2); have h2 := hy (i / 2); unfold gp_il; split; exact (by omega : x (i / 2) / 65536 < 32768); exact (by omega : y (i / 2) / 65536 < 32768)
  have m1 := gp_m_ok h1.1 h1.2.1 h1.2.2.1 (2 * k) _ hv
  have m2 := gp_m_ok h2.1 h2.2.1 h2.2.2.1 (2 * k) _ hv
  have l1 : ∀ z, z % n1 < 16 := fun z => Nat.lt_of_lt_of_le (Nat.mod_lt _ (by have := h1.2.2.1; omega)) h1.2.2.2
  have l2 : ∀ z, z % n2 < 16 := fun z => Nat.lt_of_lt_of_le (Nat.mod_lt _ (by have := h2.2.2.1; omega)) h2.2.2.2
  rw [gp_v_ok k x y hx hy] at h
  unfold gp_d at h
  rw [m1, m2] at h
  have e2 := gp_two (w := 16) (2 * k) (fun i => gp_il (fun i => x i / 65536) (fun i => y i / 65536) i % n1) (fun i => gp_il (fun i => x i / 65536) (fun i => y i / 65536) i % n2)
  rw [show 2 * (2 * k) = 4 * k by omega] at e2
  have e3 : gp 32 (fun i => gp_il (fun i => x i / 65536) (fun i => y i / 65536) i % n1) (2 * k) + 65536 * gp 32 (fun i => gp_il (fun i => x i / 65536) (fun i => y i / 65536) i % n2) (2 * k) = _ := e2
  rw [e3, gp_hot_ok (4 * k) _ (fun i => by unfold gp_il; split; exact l1 _; exact l2 _)] at h
  rw [show 64 * l + (32 * s + (16 * f + r)) = 16 * (4 * l + 2 * s + f) + r by omega, gp_tb (4 * k) _ (fun i => Nat.pow_lt_pow_right (by decide) (by unfold gp_il; split; exact l1 _; exact l2 _)) _ _ (by omega) hr, Nat.testBit_two_pow] at h
  have h := of_decide_eq_true h
  rcases (show f = 0 ∨ f = 1 by omega) with rfl | rfl <;> rcases (show s = 0 ∨ s = 1 by omega) with rfl | rfl
  · rw [show 4 * l + 2 * 0 + 0 = 2 * (2 * l + 0) by omega, gp_il_e] at h
    have h : gp_il (fun i => x i / 65536) (fun i => y i / 65536) (2 * l + 0) % n1 = r := h
    rw [show 2 * l + 0 = 2 * l from rfl, gp_il_e] at h; exact h
  · rw [show 4 * l + 2 * 1 + 0 = 2 * (2 * l + 1) by omega, gp_il_e] at h
    have h : gp_il (fun i => x i / 65536) (fun i => y i / 65536) (2 * l + 1) % n1 = r := h
    rw [gp_il_o] at h; exact h
  · rw [show 4 * l + 2 * 0 + 1 = 2 * (2 * l + 0) + 1 by omega, gp_il_o] at h
    have h : gp_il (fun i => x i / 65536) (fun i => y i / 65536) (2 * l + 0) % n2 = r := h
    rw [show 2 * l + 0 = 2 * l from rfl, gp_il_e] at h; exact h
  · rw [show 4 * l + 2 * 1 + 1 = 2 * (2 * l + 1) + 1 by omega, gp_il_o] at h
    have h : gp_il (fun i => x i / 65536) (fun i => y i / 65536) (2 * l + 1) % n2 = r := h
    rw [gp_il_o] at h; exact h
/-- two steps of the generator -/
def gp_s2 (o X : Nat) : Nat := gp_st 1117952617 1406932606 o X
theorem gp_s2_ok (k : Nat) (x : Nat → Nat) (hx : ∀ i, x i < 2147483648) : gp_s2 (gp 64 (fun _ => 1) k) (gp 64 x k) = gp 64 (fun i => lc_n 2 (x i)) k := by
  unfold gp_s2; rw [gp_st_ok (by decide) (by decide) k x hx]
  refine gp_c k (fun i _ => ?_)
  have h := lc_pow 1 (x i) (hx i)
  exact h.symm
def gp_acc (n1 M1 n2 M2 o o2 q : Nat) : Nat → Nat → Nat → Nat
  | 0, _, a => a
  | j + 1, X, a => gp_acc n1 M1 n2 M2 o o2 q j (gp_s2 o (gp_s2 o X)) (a ||| gp_hot q (gp_d n1 M1 n2 M2 o2 (gp_v o X (gp_s2 o X))))
theorem gp_acc_tb {n1 M1 n2 M2 : Nat} (h1 : gp_ok n1 M1) (h2 : gp_ok n2 M2) (k : Nat) {l s f r : Nat} (hl : l < k) (hs : s < 2) (hf : f < 2) (hr : r < 16) : ∀ (j : Nat) (x : Nat → Nat) (a : Nat), (∀ i, x i < 2147483648) →
    (gp_acc n1 M1 n2 M2 (gp 64 (fun _ => 1) k) (gp 32 (fun _ => 1) (2 * k)) (gp 16 (fun _ => 1) (4 * k)) j (gp 64 x k) a).testBit (64 * l + (32 * s + (16 * f + r))) = true →
    a.testBit (64 * l + (32 * s + (16 * f + r))) = true ∨ ∃ t, t < 4 * j ∧ t % 2 = 0 ∧ lc_n t (x l) / 65536 % (if f = 0 then n1 else n2) = r := by
  intro j; induction j with
  | zero => intro x a _ h; exact Or.inl h
  | succ j ih =>
    intro x a hx h
    have hy : ∀ i, lc_n 2 (x i) < 2147483648 := fun i => lc_n_lt 2 (hx i)
    have hz : ∀ i, lc_n 2 (lc_n 2 (x i)) < 2147483648 := fun i => lc_n_lt 2 (hy i)
    unfold gp_acc at h
    rw [gp_s2_ok k x hx, gp_s2_ok k _ hy] at h
    rcases ih _ _ hz h with h | ⟨t, ht, he, h⟩
    · rw [Nat.testBit_or, Bool.or_eq_true] at h
      rcases h with h | h
      · exact Or.inl h
      · have h9 := gp_hit h1 h2 k x _ hx hy hl hs hf hr h
        rcases (show s = 0 ∨ s = 1 by omega) with rfl | rfl
        · exact Or.inr ⟨0, by omega, rfl, h9⟩
        · exact Or.inr ⟨2, by omega, rfl, h9⟩
    · refine Or.inr ⟨4 + t, by omega, by omega, ?_⟩
      rw [show 4 + t = 2 + (2 + t) by omega, lc_n_add, lc_n_add]; exact h
/-- 21 lanes and both halves in one -/
def gp_fold (a : Nat) : Nat :=
  (fun y => (fun f1 => (fun f2 => (fun f3 => (fun f4 => f4 ||| ((f2 >>> 1024) ||| (y >>> 1280))) (f3 ||| (f3 >>> 512))) (f2 ||| (f2 >>> 256))) (f1 ||| (f1 >>> 128))) (y ||| (y >>> 64))) (a ||| (a >>> 32))
theorem gp_dbl {y g m : Nat} (h : ∀ p, g.testBit p = true → ∃ t, t < m ∧ y.testBit (p + 64 * t) = true) (p : Nat) (hp : (g ||| (g >>> (64 * m))).testBit p = true) : ∃ t, t < 2 * m ∧ y.testBit (p + 64 * t) = true := by
  rw [Nat.testBit_or, Bool.or_eq_true, Nat.testBit_shiftRight] at hp
  rcases hp with hp | hp
  · obtain ⟨t, ht, e⟩ := h _ hp; exact ⟨t, by omega, e⟩
  · obtain ⟨t, ht, e⟩ := h _ hp; exact ⟨m + t, by omega, by rw [show p + 64 * (m + t) = 64 * m + p + 64 * t by omega]; exact e⟩
theorem gp_fold_tb (a p : Nat) (h : (gp_fold a).testBit p = true) : ∃ t s, t < 21 ∧ s < 2 ∧ a.testBit (p + 64 * t + 32 * s) = true := by
  have key : ∃ t, t < 21 ∧ (a ||| (a >>> 32)).testBit (p + 64 * t) = true := by
    unfold gp_fold at h
    generalize a ||| (a >>> 32) = y at h ⊢
    have h0 : ∀ p, y.testBit p = true → ∃ t, t < 1 ∧ y.testBit (p + 64 * t) = true := fun p h => ⟨0, by omega, h⟩
    have h1 := gp_dbl h0; have h2 := gp_dbl h1; have h3 := gp_dbl h2; have h4 := gp_dbl h3
    have h : ((((y ||| (y >>> (64 * 1))) ||| ((y ||| (y >>> (64 * 1))) >>> (64 * (2 * 1)))) ||| (((y ||| (y >>> (64 * 1))) ||| ((y ||| (y >>> (64 * 1))) >>> (64 * (2 * 1)))) >>> (64 * (2 * (2 * 1)))) ||| ((((y ||| (y >>> (64 * 1))) ||| ((y ||| (y >>> (64 * 1))) >>> (64 * (2 * 1)))) ||| (((y ||| (y >>> (64 * 1))) ||| ((y ||| (y >>> (64 * 1))) >>> (64 * (2 * 1)))) >>> (64 * (2 * (2 * 1))))) >>> (64 * (2 * (2 * (2 * 1)))))) ||| ((((y ||| (y >>> (64 * 1))) ||| ((y ||| (y >>> (64 * 1))) >>> (64 * (2 * 1)))) >>> 1024) ||| (y >>> 1280))).testBit p = true := h
    rw [Nat.testBit_or, Bool.or_eq_true] at h
    rcases h with h | h
    · obtain ⟨t, ht, e⟩ := h4 p h; exact ⟨t, by omega, e⟩
    · rw [Nat.testBit_or, Bool.or_eq_true] at h
      rcases h with h | h
      · rw [Nat.testBit_shiftRight] at h
        obtain ⟨t, ht, e⟩ := h2 _ h
        exact ⟨16 + t, by omega, by rw [show p + 64 * (16 + t) = 1024 + p + 64 * t by omega]; exact e⟩
      · rw [Nat.testBit_shiftRight] at h
        exact ⟨20, by omega, by rw [show p + 64 * 20 = 1280 + p by omega]; exact h⟩
  obtain ⟨t, ht, e⟩ := key
  rw [Nat.testBit_or, Bool.or_eq_true, Nat.testBit_shiftRight] at e
  rcases e with e | e
  · exact ⟨t, 0, ht, by omega, e⟩
  · exact ⟨t, 1, ht, by omega, by rw [show p + 64 * t + 32 * 1 = 32 + (p + 64 * t) by omega]; exact e⟩

def gp_fin (oK m a : Nat) : Bool := Nat.beq (gp_fold a &&& (m * oK)) (m * oK)
def gp_lp (oK o o2 q : Nat) : Nat → Nat → Nat → Nat → Nat → Nat → Bool
  | 0, _, a, b, c, d => gp_fin oK 67043839 a && (gp_fin oK 268371967 b && (gp_fin oK 1073684479 c && gp_fin oK 4294934527 d))
  | j + 1, X, a, b, c, d =>
    (fun Y => (fun V => gp_lp oK o o2 q j (gp_s2 o Y) (a ||| gp_hot q (gp_d 9 58255 10 52429 o2 V)) (b ||| gp_hot q (gp_d 11 47663 12 43691 o2 V)) (c ||| gp_hot q (gp_d 13 40330 14 37450 o2 V)) (d ||| gp_hot q (gp_d 15 34953 16 32768 o2 V))) (gp_v o X Y)) (gp_s2 o X)
theorem gp_lp_eq (oK o o2 q : Nat) : ∀ (j X a b c d : Nat), gp_lp oK o o2 q j X a b c d = (gp_fin oK 67043839 (gp_acc 9 58255 10 52429 o o2 q j X a) && (gp_fin oK 268371967 (gp_acc 11 47663 12 43691 o o2 q j X b) && (gp_fin oK 1073684479 (gp_acc 13 40330 14 37450 o o2 q j X c) && gp_fin oK 4294934527 (gp_acc 15 34953 16 32768 o o2 q j X d))))
  | 0, _, _, _, _, _ => rfl
  | j + 1, _, _, _, _, _ => gp_lp_eq oK o o2 q j _ _ _ _ _
theorem gp_fin_ok {K m a i p : Nat} (h : gp_fin (gp 64 (fun _ => 1) K) m a = true) (hm : m < 2 ^ 64) (hi : i < K) (hp : p < 64) (hmp : m.testBit p = true) : ∃ t s, t < 21 ∧ s < 2 ∧ a.testBit (64 * i + p + 64 * t + 32 * s) = true := by
  have h := Nat.eq_of_beq_eq_true h
  refine gp_fold_tb a _ ?_
  have e : (m * gp 64 (fun _ => 1) K).testBit (64 * i + p) = true := by
    rw [gp_mul, gp_tb K _ (fun _ => by rw [Nat.mul_one]; exact hm) i p hi hp, Nat.mul_one]; exact hmp
  rw [← h, Nat.testBit_and, Bool.and_eq_true] at e
  exact e.1
/-- what the count shows of lane i -/
theorem gp_fin_hit {n1 M1 n2 M2 K m : Nat} (h1 : gp_ok n1 M1) (h2 : gp_ok n2 M2) (hm : m < 2 ^ 64) (hb1 : ∀ r, r < n1 → m.testBit r = true) (hb2 : ∀ r, r < n2 → m.testBit (16 + r) = true) {x : Nat → Nat} (hx : ∀ i, x i < 2147483648)
    (h : gp_fin (gp 64 (fun _ => 1) K) m (gp_acc n1 M1 n2 M2 (gp 64 (fun _ => 1) (K + 32)) (gp 32 (fun _ => 1) (2 * (K + 32))) (gp 16 (fun _ => 1) (4 * (K + 32))) 8 (gp 64 x (K + 32)) 0) = true) {i : Nat} (hi : i < K) :
    (∀ r, r < n1 → ∃ t u, t < 21 ∧ u < 32 ∧ lc_n u (x (i + t)) / 65536 % n1 = r) ∧ (∀ r, r < n2 → ∃ t u, t < 21 ∧ u < 32 ∧ lc_n u (x (i + t)) / 65536 % n2 = r) := by
  have key : ∀ f r, f < 2 → r < 16 → m.testBit (16 * f + r) = true → ∃ t u, t < 21 ∧ u < 32 ∧ lc_n u (x (i + t)) / 65536 % (if f = 0 then n1 else n2) = r := by
    intro f r hf hr hb
    obtain ⟨t, s, ht, hs, e⟩ := gp_fin_ok h hm hi (p := 16 * f + r) (by omega) hb
    rw [show 64 * i + (16 * f + r) + 64 * t + 32 * s = 64 * (i + t) + (32 * s + (16 * f + r)) by omega] at e
    rcases gp_acc_tb h1 h2 (K + 32) (l := i + t) (by omega) hs hf hr 8 x 0 hx e with e | ⟨u, hu, _, e⟩
    · simp at e
    · exact ⟨t, u, ht, by omega, e⟩
  refine ⟨fun r hr => ?_, fun r hr => ?_⟩
  · have := h1.2.2.2
    obtain ⟨t, u, a, b, c⟩ := key 0 r (by omega) (by omega) (by rw [Nat.mul_zero, Nat.zero_add]; exact hb1 r hr); exact ⟨t, u, a, b, c⟩
  · have := h2.2.2.2
    obtain ⟨t, u, a, b, c⟩ := key 1 r (by omega) (by omega) (hb2 r hr); exact ⟨t, u, a, b, c⟩
theorem gk_9 : gp_ok 9 58255 := ⟨by decide, fun v h => by omega, by decide, by decide⟩
theorem gk_10 : gp_ok 10 52429 := ⟨by decide, fun v h => by omega, by decide, by decide⟩
theorem gk_11 : gp_ok 11 47663 := ⟨by decide, fun v h => by omega, by decide, by decide⟩
theorem gk_12 : gp_ok 12 43691 := ⟨by decide, fun v h => by omega, by decide, by decide⟩
theorem gk_13 : gp_ok 13 40330 := ⟨by decide, fun v h => by omega, by decide, by decide⟩
theorem gk_14 : gp_ok 14 37450 := ⟨by decide, fun v h => by omega, by decide, by decide⟩
theorem gk_15 : gp_ok 15 34953 := ⟨by decide, fun v h => by omega, by decide, by decide⟩
theorem gk_16 : gp_ok 16 32768 := ⟨by decide, fun v h => by omega, by decide, by decide⟩
/-- all n at once -/
theorem gp_all {K : Nat} {x : Nat → Nat} (hx : ∀ i, x i < 2147483648) (h : gp_lp (gp 64 (fun _ => 1) K) (gp 64 (fun _ => 1) (K + 32)) (gp 32 (fun _ => 1) (2 * (K + 32))) (gp 16 (fun _ => 1) (4 * (K + 32))) 8 (gp 64 x (K + 32)) 0 0 0 0 = true) {i n r : Nat} (hi : i < K) (h9 : 9 ≤ n) (hn : n ≤ 16) (hr : r < n) : ∃ t u, t < 21 ∧ u < 32 ∧ lc_n u (x (i + t)) / 65536 % n = r := by
  rw [gp_lp_eq, Bool.and_eq_true, Bool.and_eq_true, Bool.and_eq_true] at h
  obtain ⟨ha, hb, hc, hd⟩ := h
  have A := gp_fin_hit gk_9 gk_10 (by decide) (by decide) (by decide) hx ha hi
  have B := gp_fin_hit gk_11 gk_12 (by decide) (by decide) (by decide) hx hb hi
  have C := gp_fin_hit gk_13 gk_14 (by decide) (by decide) (by decide) hx hc hi
  have D := gp_fin_hit gk_15 gk_16 (by decide) (by decide) (by decide) hx hd hi
  rcases (show n = 9 ∨ n = 10 ∨ n = 11 ∨ n = 12 ∨ n = 13 ∨ n = 14 ∨ n = 15 ∨ n = 16 by omega) with rfl | rfl | rfl | rfl | rfl | rfl | rfl | rfl
  · exact A.1 r hr
  · exact A.2 r hr
  · exact B.1 r hr
  · exact B.2 r hr
  · exact C.1 r hr
  · exact C.2 r hr
  · exact D.1 r hr
  · exact D.2 r hr
/-- lanes made by doubling: lane i is 32 i steps behind x -/
def gp_ones (k : Nat) : Nat := (2 ^ (64 * k) - 1) / 18446744073709551615
theorem gp_ones_eq (k : Nat) : gp_ones k = gp 64 (fun _ => 1) k := (gp_one (w := 64) (by decide) k).symm
def gp_x (x : Nat) : Nat → Nat
  | 0 => x
  | e + 1 => (fun X => X + (gp_st (lc_AC (e + 5)).1 (lc_AC (e + 5)).2 (gp_ones (2 ^ e)) X <<< (64 * 2 ^ e))) (gp_x x e)
theorem lc_AC_lt : ∀ j, (lc_AC j).1 < 2147483648 ∧ (lc_AC j).2 < 2147483648
  | 0 => by decide
  | j + 1 => ⟨Nat.mod_lt _ (by decide), Nat.mod_lt _ (by decide)⟩
theorem gp_jump (j k : Nat) (f : Nat → Nat) (hf : ∀ i, f i < 2147483648) : gp_st (lc_AC j).1 (lc_AC j).2 (gp 64 (fun _ => 1) k) (gp 64 f k) = gp 64 (fun i => lc_n (2 ^ j) (f i)) k := by
  rw [gp_st_ok (lc_AC_lt j).1 (lc_AC_lt j).2 k f hf]
  exact gp_c k (fun i _ => (lc_pow j (f i) (hf i)).symm)
theorem gp_ext (x e b : Nat) : gp 64 (fun i => lc_n (32 * i) x) (2 ^ e) + (gp 64 (fun i => lc_n (2 ^ (e + 5)) (lc_n (32 * i) x)) b <<< (64 * 2 ^ e)) = gp 64 (fun i => lc_n (32 * i) x) (2 ^ e + b) := by
  have h : gp 64 (fun i => lc_n (2 ^ (e + 5)) (lc_n (32 * i) x)) b = gp 64 (fun i => lc_n (32 * (i + 2 ^ e)) x) b := gp_c b (fun i _ => by
    rw [← lc_n_add]; congr 1; rw [Nat.pow_add]; omega)
  rw [h, gp_app, Nat.shiftLeft_eq, Nat.mul_comm (2 ^ (64 * 2 ^ e))]
theorem gp_x_ok (x : Nat) (hx : x < 2147483648) : ∀ e, gp_x x e = gp 64 (fun i => lc_n (32 * i) x) (2 ^ e)
  | 0 => by show x = x + 2 ^ 64 * 0; omega
  | e + 1 => by
    show gp_x x e + (gp_st (lc_AC (e + 5)).1 (lc_AC (e + 5)).2 (gp_ones (2 ^ e)) (gp_x x e) <<< (64 * 2 ^ e)) = _
    rw [gp_x_ok x hx e, gp_ones_eq, gp_jump _ _ _ (fun i => lc_n_lt _ hx), gp_ext, show 2 ^ (e + 1) = 2 ^ e + 2 ^ e by rw [Nat.pow_succ]; omega]
/-- 2^e lanes, and 32 more -/
def gp_go (e x : Nat) : Bool :=
  (fun o => (fun o2 => gp_lp (gp_ones (2 ^ e)) o o2 (65537 * o2) 8 (gp_x x e + (gp_st (lc_AC (e + 5)).1 (lc_AC (e + 5)).2 (gp_ones 32) (gp_x x 5) <<< (64 * 2 ^ e))) 0 0 0 0) (4294967297 * o)) (gp_ones (2 ^ e + 32))
theorem gp_go_ok {e x : Nat} (hx : x < 2147483648) (h : gp_go e x = true) {i n r : Nat} (hi : i < 2 ^ e) (h9 : 9 ≤ n) (hn : n ≤ 16) (hr : r < n) : ∃ v, v < 32 * 21 ∧ lc_n (32 * i + v) x / 65536 % n = r := by
  have h : gp_lp (gp_ones (2 ^ e)) (gp_ones (2 ^ e + 32)) (4294967297 * gp_ones (2 ^ e + 32)) (65537 * (4294967297 * gp_ones (2 ^ e + 32))) 8 (gp_x x e + (gp_st (lc_AC (e + 5)).1 (lc_AC (e + 5)).2 (gp_ones 32) (gp_x x 5) <<< (64 * 2 ^ e))) 0 0 0 0 = true := h
  have hX : gp_x x e + (gp_st (lc_AC (e + 5)).1 (lc_AC (e + 5)).2 (gp_ones 32) (gp_x x 5) <<< (64 * 2 ^ e)) = gp 64 (fun i => lc_n (32 * i) x) (2 ^ e + 32) := by
    have h5 : gp_x x 5 = gp 64 (fun i => lc_n (32 * i) x) 32 := gp_x_ok x hx 5
    rw [gp_x_ok x hx e, h5, gp_ones_eq, gp_jump _ _ _ (fun i => lc_n_lt _ hx), gp_ext]
  rw [hX, gp_ones_eq, gp_ones_eq, gp_o32, gp_o16, show 2 * (2 * (2 ^ e + 32)) = 4 * (2 ^ e + 32) by omega] at h
  obtain ⟨t, u, ht, hu, e9⟩ := gp_all (fun i => lc_n_lt _ hx) h hi h9 hn hr
  rw [← lc_n_add] at e9
  exact ⟨32 * t + u, by omega, by rw [show 32 * i + (32 * t + u) = 32 * (i + t) + u by omega]; exact e9⟩
/-- where batch b begins -/
def gp_b : Nat → Nat
  | 0 => 0
  | b + 1 => ((lc_AC 21).1 * gp_b b + (lc_AC 21).2) % lc_M
theorem gp_b_ok : ∀ b, gp_b b = lc_n (2097152 * b) 0
  | 0 => rfl
  | b + 1 => by
    show ((lc_AC 21).1 * gp_b b + (lc_AC 21).2) % lc_M = _
    rw [gp_b_ok b, ← lc_pow 21 _ (lc_n_lt _ (by decide)), ← lc_n_add]; congr 1
theorem gp_nx {P : Nat → Prop} {b : Nat} (h : ∀ i, i < b → P i) (h2 : P b) (i : Nat) (hi : i < b + 1) : P i := by
  rcases Nat.lt_or_ge i b with h9 | h9
  · exact h i h9
  · rw [show i = b by omega]; exact h2
end XGA
