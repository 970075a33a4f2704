section XCN
/-- how many of the first n have a level -/
def xs_cnt (f : Nat → Int32) : Nat → Nat
  | 0 => 0
  | n + 1 => xs_cnt f n + (if f n = (-1) then 0 else 1)
theorem xs_cnt_le (f : Nat → Int32) (n : Nat) : xs_cnt f n ≤ n := by
  induction n with
  | zero => exact Nat.le_refl 0
  | succ n ih =>
    show xs_cnt f n + _ ≤ n + 1
    split <;> omega
theorem xs_cnt_eq {f g : Nat → Int32} {n : Nat} (h : ∀ j, j < n → f j = g j) : xs_cnt f n = xs_cnt g n := by
  induction n with
  | zero => rfl
  | succ n ih =>
    show xs_cnt f n + _ = xs_cnt g n + _
    rw [ih (fun j hj => h j (by omega)), h n (by omega)]
theorem xs_cnt_lt {f : Nat → Int32} {s n : Nat} (hs : s < n) (h : f s = (-1)) : xs_cnt f n < n := by
  induction n with
  | zero => omega
  | succ n ih =>
    show xs_cnt f n + _ < n + 1
    by_cases e : s = n
    · subst e
      rw [if_pos h]
      have := xs_cnt_le f s
      omega
    · have := ih (by omega)
      split <;> omega
theorem xs_cnt_up {f : Nat → Int32} {s n : Nat} {v : Int32} (hs : s < n) (h : f s = (-1)) (hv : ¬ v = (-1)) : xs_cnt (upd f s v) n = xs_cnt f n + 1 := by
  induction n with
  | zero => omega
  | succ n ih =>
    show xs_cnt (upd f s v) n + _ = xs_cnt f n + _ + 1
    by_cases e : s = n
    · subst e
      rw [xs_cnt_eq (f := upd f s v) (g := f) (fun j hj => pk_un (by omega)), pk_us, if_neg hv, if_pos h]
    · rw [ih (by omega), pk_un (Ne.symm e)]
      omega
theorem xs_nm1 {k : Nat} (h : k < 2 ^ 31) : ¬ nI k = (-1) := fun e => by
  have := nI_pos (n := k) h
  rw [e] at this
  exact this (by decide)
end XCN
