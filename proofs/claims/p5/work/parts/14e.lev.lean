section XLV
/-! the levels of a net, as a function of its moves alone -/
/-- up to level k -/
noncomputable def xl (E : Nat → Nat → Prop) : Nat → Nat → Int32
  | 0 => fun s => if s = 0 then nI 0 else (-1)
  | k + 1 => fun s => @ite Int32 (xl E k s = (-1) ∧ ∃ t, xl E k t = nI k ∧ E t s) (Classical.propDecidable _) (nI (k + 1)) (xl E k s)
theorem xl_in {E : Nat → Nat → Prop} {k s : Nat} (h : xl E k s = (-1)) (h2 : ∃ t, xl E k t = nI k ∧ E t s) : xl E (k + 1) s = nI (k + 1) := if_pos ⟨h, h2⟩
theorem xl_out {E : Nat → Nat → Prop} {k s : Nat} (h : ¬ (xl E k s = (-1) ∧ ∃ t, xl E k t = nI k ∧ E t s)) : xl E (k + 1) s = xl E k s := if_neg h
theorem xl_val (E : Nat → Nat → Prop) : ∀ (k s : Nat), xl E k s = (-1) ∨ ∃ j, j ≤ k ∧ xl E k s = nI j
  | 0, s => by
    by_cases h : s = 0
    · exact Or.inr ⟨0, Nat.le_refl 0, if_pos h⟩
    · exact Or.inl (if_neg h)
  | k + 1, s => by
    by_cases h : xl E k s = (-1) ∧ ∃ t, xl E k t = nI k ∧ E t s
    · exact Or.inr ⟨k + 1, Nat.le_refl _, xl_in h.1 h.2⟩
    · rw [xl_out h]; exact (xl_val E k s).imp id (fun ⟨j, hj, e⟩ => ⟨j, by omega, e⟩)
/-- the step, by what was found -/
theorem xl_step {E : Nat → Nat → Prop} {k : Nat} {lo lo1 : Nat → Int32} {P : Nat → Prop} (h : lo = xl E k) (hP : ∀ s, P s ↔ (lo s = (-1) ∧ ∃ t, lo t = nI k ∧ E t s)) (h1 : ∀ s, P s → lo1 s = nI (k + 1)) (h2 : ∀ s, ¬ P s → lo1 s = lo s) : lo1 = xl E (k + 1) := by
  subst h
  funext s
  by_cases hp : P s
  · rw [h1 s hp]; have h9 := (hP s).mp hp; exact (xl_in h9.1 h9.2).symm
  · rw [h2 s hp]; exact (xl_out (fun z => hp ((hP s).mpr z))).symm
/-- what a run finds: the first level that is empty, and how many came -/
def xl_R (E : Nat → Nat → Prop) (n : Nat) : Prop := ∃ k, (∀ j, j < k → ∃ s, xl E j s = nI j) ∧ (∀ s, ¬ xl E k s = nI k) ∧ n = xs_cnt (xl E k) 200
theorem xl_R_one {E : Nat → Nat → Prop} {a b : Nat} (h1 : xl_R E a) (h2 : xl_R E b) : a = b := by
  obtain ⟨k, hk1, hk2, hk3⟩ := h1
  obtain ⟨j, hj1, hj2, hj3⟩ := h2
  rcases Nat.lt_trichotomy k j with h | h | h
  · obtain ⟨s, hs⟩ := hj1 k h; exact absurd hs (hk2 s)
  · rw [hk3, hj3, h]
  · obtain ⟨s, hs⟩ := hk1 j h; exact absurd hs (hj2 s)
/-- the moves of the class's net, and of the reference's -/
def xe_C (st : Nat) (nb nt : Nat → Nat) (t s : Nat) : Prop := t < st ∧ ∃ m, nb t ≤ m ∧ m < nb (t + 1) ∧ nt m = s
def xe_M (mmv : Nat) (fr to : Nat → Nat) (t s : Nat) : Prop := ∃ m, m < mmv ∧ fr m = t ∧ to m = s
theorem xl_R_eq {E F : Nat → Nat → Prop} (h : ∀ t s, E t s ↔ F t s) {a b : Nat} (h1 : xl_R E a) (h2 : xl_R F b) : a = b := by
  have e : E = F := funext (fun t => funext (fun s => propext (h t s)))
  subst e
  exact xl_R_one h1 h2
end XLV
