section XMI
theorem xs_tsw (x : Int32) {n : Nat} (hn : n < 2 ^ 31) : (∃ k : Nat, k < n ∧ x = nI k) ∨ (x < 0 ∨ nI n ≤ x) := by
  rcases pk_ix x hn with h | h | h
  · exact Or.inr (Or.inl h)
  · exact Or.inr (Or.inr h)
  · exact Or.inl h
theorem xs_tswI {x : Int32} {n : Nat} (hn : n < 2 ^ 31) (h : x < 0 ∨ nI n ≤ x) : x.toInt < 0 ∨ (n : Int) ≤ x.toInt := by
  rcases h with h | h
  · left
    rw [Int32.lt_iff_toInt_lt] at h
    exact h
  · right
    rw [Int32.le_iff_toInt_le, nI_toInt hn] at h
    exact h
theorem xs_m1 (x : Int32) : x + Int32.ofInt (-1) = x - nI 1 := by
  rw [Int32.sub_eq_add_neg]
  rfl
theorem xs_in {k : Int32} {n j : Nat} (h : k < 0 ∨ nI n ≤ k) (e : k = nI j) (hj : j < n) (hn : n < 2 ^ 31) : False := by
  subst e
  rcases h with h | h
  · exact nI_pos (by omega) h
  · exact nI_ge hj hn h
end XMI
