section XCJ
/-! the nets of class and reference, call by call -/
def cx_lm (st mv mv1 : Nat) (nb nb1 nt nt1 : Nat → Nat) (a b : Int32) : Prop := (mv1 = mv ∧ nb1 = nb ∧ nt1 = nt ∧ ¬ ∃ i j, a = nI i ∧ b = nI j ∧ i < st ∧ j < st ∧ mv < 600) ∨ ∃ i j, a = nI i ∧ b = nI j ∧ i < st ∧ j < st ∧ mv < 600 ∧ mv1 = mv + 1 ∧ cx_mv i j mv nb nb1 nt nt1
def cx_mm (mst mmv mmv1 : Nat) (fr fr1 to to1 : Nat → Nat) (a b : Int32) : Prop := (mmv1 = mmv ∧ fr1 = fr ∧ to1 = to ∧ ¬ ∃ i j, a = nI i ∧ b = nI j ∧ i < mst ∧ j < mst ∧ mmv < 600) ∨ ∃ i j, a = nI i ∧ b = nI j ∧ i < mst ∧ j < mst ∧ mmv < 600 ∧ mmv1 = mmv + 1 ∧ fr1 = va_up fr mmv i ∧ to1 = va_up to mmv j
theorem cx_law_move {st mst mv mmv mv1 mmv1 : Nat} {nb nb1 nt nt1 fr fr1 to to1 : Nat → Nat} {a b : Int32} (hst : st ≤ 200) (hag : mst = st) (hag2 : mmv = mv) (hN : cx_N st mv nb nt) (hE : ∀ t s, xe_C st nb nt t s ↔ xe_M mmv fr to t s) (hto : ∀ m, m < mmv → to m < mst) (h1 : cx_lm st mv mv1 nb nb1 nt nt1 a b) (h2 : cx_mm mst mmv mmv1 fr fr1 to to1 a b) : mmv1 = mv1 ∧ cx_N st mv1 nb1 nt1 ∧ (∀ t s, xe_C st nb1 nt1 t s ↔ xe_M mmv1 fr1 to1 t s) ∧ ∀ m, m < mmv1 → to1 m < mst := by
  subst hag; subst hag2
  rcases h1 with ⟨e1, e2, e3, no1⟩ | ⟨i, j, ai, bj, hi, hj, h6, e1, hm⟩
  · rcases h2 with ⟨f1, f2, f3, no2⟩ | ⟨i2, j2, ai2, bj2, hi2, hj2, h62, -⟩
    · subst e1; subst e2; subst e3; subst f1; subst f2; subst f3
      exact ⟨rfl, hN, hE, hto⟩
    · exact absurd ⟨i2, j2, ai2, bj2, hi2, hj2, h62⟩ no1
  · rcases h2 with ⟨f1, f2, f3, no2⟩ | ⟨i2, j2, ai2, bj2, hi2, hj2, h62, f1, f2, f3⟩
    · exact absurd ⟨i, j, ai, bj, hi, hj, h6⟩ no2
    · have ei : i = i2 := mo_inj (by omega) (by omega) (ai.symm.trans ai2)
      have ej : j = j2 := mo_inj (by omega) (by omega) (bj.symm.trans bj2)
      subst ei; subst ej; subst e1; subst f1; subst f2; subst f3
      refine ⟨rfl, cx_mv_N hst hi hj hN hm, fun t s => ?_, fun m hm9 => ?_⟩
      · rw [cx_mv_E hst hi hN hm t s, hE t s]
        constructor
        · rintro (⟨m, x, y, z⟩ | ⟨rfl, rfl⟩)
          · exact ⟨m, by omega, by rw [xs_up_ne (by omega)]; exact y, by rw [xs_up_ne (by omega)]; exact z⟩
          · exact ⟨mmv, by omega, by simp [va_up], by simp [va_up]⟩
        · rintro ⟨m, x, y, z⟩
          by_cases e : m = mmv
          · subst e
            simp only [va_up, if_true] at y z
            exact Or.inr ⟨y.symm, z.symm⟩
          · rw [xs_up_ne e] at y z
            exact Or.inl ⟨m, by omega, y, z⟩
      · by_cases e : m = mmv
        · subst e; simp only [va_up, if_true]; exact hj
        · rw [xs_up_ne e]; exact hto m (by omega)
theorem cx_N_up {st st1 mv mv1 : Nat} {nb nt : Nat → Nat} (h : cx_N st mv nb nt) (h1 : st1 = st ∨ st1 = st + 1) (h2 : mv1 = mv) : cx_N st1 mv1 nb nt := by
  subst h2
  rcases h1 with rfl | rfl
  · exact h
  · exact cx_N_st h
theorem cx_E_up {st st1 mv : Nat} {nb nt : Nat → Nat} {F : Nat → Nat → Prop} (h : cx_N st mv nb nt) (hE : ∀ t s, xe_C st nb nt t s ↔ F t s) (h1 : st1 = st ∨ (st1 = st + 1 ∧ st < 200)) : ∀ t s, xe_C st1 nb nt t s ↔ F t s := fun t s => by
  rcases h1 with rfl | ⟨rfl, h9⟩
  · exact hE t s
  · rw [cx_N_stE h9 h]; exact hE t s
theorem cx_N_0 {nt : Nat → Nat} : cx_N 0 0 (fun _ => 0) nt := ⟨fun _ _ => Nat.le_refl _, fun _ _ _ => rfl, fun m h => absurd h (by omega)⟩
theorem cx_E_0 {nb nt fr to : Nat → Nat} (t s : Nat) : xe_C 0 nb nt t s ↔ xe_M 0 fr to t s := ⟨fun h => absurd h.1 (by omega), fun ⟨m, h, _⟩ => absurd h (by omega)⟩
end XCJ
