section XSN
theorem xs_lt0_xor (x : Int32) {y : Int32} (hy : y.toBitVec.msb = false) : x ^^^ y < 0 ↔ x < 0 := by
  have h : ∀ z : Int32, z < 0 ↔ z.toBitVec.msb = true := fun z => by
    rw [Int32.lt_iff_toInt_lt, BitVec.msb_eq_toInt]
    exact (decide_eq_true_iff (p := z.toBitVec.toInt < 0)).symm
  rw [h, h, Int32.toBitVec_xor, BitVec.msb_xor, hy]
  simp
theorem xs_and_toInt (x : Int32) {m : Int32} (k : Nat) (hk : k < 31) (hm : m.toBitVec.toNat = 2 ^ k - 1) : (x &&& m).toInt = x.toInt % (2 ^ k : Nat) := by
  rw [pk_and x k hm, nI_toInt (Nat.lt_trans (Nat.mod_lt _ (Nat.two_pow_pos k)) (Nat.pow_lt_pow_right (by decide) hk))]
  have h : x.toInt = if 2 * x.toBitVec.toNat < 2 ^ 32 then (x.toBitVec.toNat : Int) else (x.toBitVec.toNat : Int) - (2 ^ 32 : Nat) := BitVec.toInt_eq_toNat_cond x.toBitVec
  rw [h]
  split
  · rfl
  · have e : (2 ^ 32 : Nat) = 2 ^ k * 2 ^ (32 - k) := by rw [← Nat.pow_add]; congr 1; omega
    rw [e, Int.natCast_mul, Int.sub_mul_emod_self_left]
    rfl
theorem xs_rem_toInt (x y : Int32) (d : Nat) (hd : y.toInt = d) (h1 : 1 < d) (h2 : d < 1000) : (x - x / y * y).toInt = x.toInt.tmod d := by
  have hl := Int32.le_toInt x
  have hu := Int32.toInt_lt x
  rw [Int32.toInt_sub, Int32.toInt_mul, Int32.toInt_div, hd]
  generalize x.toInt = a at hl hu ⊢
  have e1 : a.tdiv d * d + a.tmod d = a := by
    have := Int.mul_tdiv_add_tmod a d
    rw [Int.mul_comm] at this
    exact this
  have e2 : 0 ≤ a → 0 ≤ a.tmod d := fun h => Int.tmod_nonneg _ h
  have e3 : a.tmod d < d := Int.tmod_lt_of_pos _ (by omega)
  have e4 : a ≤ 0 → a.tmod d ≤ 0 := fun h => by
    have := Int.tmod_nonneg (a := -a) (d : Int) (by omega)
    rw [Int.neg_tmod] at this
    omega
  have e5 : -(d : Int) < a.tmod d := Int.lt_tmod_of_pos _ (by omega)
  generalize a.tmod d = r at *
  have e6 : -2147483648 ≤ a.tdiv d * d ∧ a.tdiv d * d < 2147483648 := by
    rcases Int.le_total 0 a with h | h
    · have := e2 h; omega
    · have := e4 h; omega
  have e7 : -2147483648 ≤ a.tdiv d ∧ a.tdiv d < 2147483648 := by
    generalize a.tdiv d = q at e6
    constructor
    · rcases Int.le_total 0 q with h | h
      · omega
      · have : q * d ≤ q * 1 := Int.mul_le_mul_of_nonpos_left h (by omega)
        omega
    · rcases Int.le_total 0 q with h | h
      · have : q * 1 ≤ q * d := Int.mul_le_mul_of_nonneg_left (by omega) h
        omega
      · omega
  have b : ∀ z : Int, -2147483648 ≤ z → z < 2147483648 → z.bmod (2 ^ 32) = z := fun z h3 h4 => Int.bmod_eq_of_le (by omega) (by omega)
  rw [b (a.tdiv d) e7.1 e7.2, b _ e6.1 e6.2, b _ (by omega) (by omega)]
  omega
/-- Math.floorMod by a power of two, as the reference's mask has it -/
theorem xs_floor_p (x y m : Int32) (k d : Nat) (hd : y.toInt = d) (hk : k < 9) (hp : d = 2 ^ k) (h1 : 1 < d) (hm : m.toBitVec.toNat = 2 ^ k - 1) (hx : ¬ x < 0 ∨ x - x / y * y = 0) : x - x / y * y = x &&& m := by
  have h2 : d < 1000 := by rw [hp]; exact Nat.lt_of_lt_of_le (Nat.pow_lt_pow_right (by decide) hk) (by decide)
  have e := xs_rem_toInt x y d hd h1 h2
  have f := xs_and_toInt x k (by omega) hm
  rw [← hp] at f
  have h0 : (0 : Int32).toInt = 0 := rfl
  have hx' : 0 ≤ x.toInt ∨ x.toInt.tmod d = 0 := by
    rcases hx with h | h
    · rw [Int32.lt_iff_toInt_lt, h0] at h; omega
    · rw [h, h0] at e; omega
  apply Int32.toInt_inj.mp
  rw [e, f]
  have g1 := Int.emod_lt_of_pos x.toInt (b := (d : Int)) (by omega)
  have g2 := Int.emod_nonneg x.toInt (b := (d : Int)) (by omega)
  rw [Int.tmod_eq_emod] at hx' ⊢
  by_cases h : 0 ≤ x.toInt ∨ (d : Int) ∣ x.toInt
  · rw [if_pos h]; omega
  · rw [if_neg h] at hx'
    simp only [Int.natAbs_natCast] at hx'
    omega
theorem xs_floor_n (x y m : Int32) (k d : Nat) (hd : y.toInt = d) (hk : k < 9) (hp : d = 2 ^ k) (h1 : 1 < d) (hm : m.toBitVec.toNat = 2 ^ k - 1) (hx : x < 0) (hne : ¬ x - x / y * y = 0) : x - x / y * y + y = x &&& m := by
  have h2 : d < 1000 := by rw [hp]; exact Nat.lt_of_lt_of_le (Nat.pow_lt_pow_right (by decide) hk) (by decide)
  have e := xs_rem_toInt x y d hd h1 h2
  have f := xs_and_toInt x k (by omega) hm
  rw [← hp] at f
  have h0 : (0 : Int32).toInt = 0 := rfl
  rw [Int32.lt_iff_toInt_lt, h0] at hx
  have hne' : ¬ x.toInt.tmod d = 0 := fun z => hne (Int32.toInt_inj.mp (by rw [e, z]; rfl))
  apply Int32.toInt_inj.mp
  rw [Int32.toInt_add, e, f, hd]
  have g1 := Int.emod_lt_of_pos x.toInt (b := (d : Int)) (by omega)
  have g2 := Int.emod_nonneg x.toInt (b := (d : Int)) (by omega)
  have h : ¬ (0 ≤ x.toInt ∨ (d : Int) ∣ x.toInt) := fun z => by
    rcases z with z | z
    · omega
    · exact hne' (Int.tmod_eq_zero_of_dvd z)
  rw [Int.tmod_eq_emod, if_neg h]
  simp only [Int.natAbs_natCast]
  rw [Int.bmod_eq_of_le (by omega) (by omega)]
  omega
/-- no number is below none -/
theorem xs_no0 {k : Int32} (h0 : ¬ k < 0) (h : k < nI 0) : False := h0 (by rw [nI_0] at h; exact h)
end XSN
theorem xs_ltN {a b : Nat} (h : ¬ nI b ≤ nI a) (ha : a < 2 ^ 31) (hb : b < 2 ^ 31) : a < b := by
  rcases Nat.lt_or_ge a b with q | q
  · exact q
  · exact absurd (nI_le q ha) h
theorem xs_geN {a b : Nat} (h : nI b ≤ nI a) (ha : a < 2 ^ 31) (hb : b < 2 ^ 31) : ¬ a < b := fun q => nI_ge q hb h
