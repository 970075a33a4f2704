section XIV
/-! what holds all through a level of the reference -/
theorem xs_up_P {P : Nat → Prop} {g : Nat → Nat} {k v : Nat} (h : ∀ j, P (g j)) (hv : P v) : ∀ j, P (va_up g k v j) := fun j => by
  by_cases e : j = k
  · subst e; simp [va_up]; exact hv
  · rw [xs_up_ne e]; exact h j
theorem xs_up_I {P : Nat → Prop} {g : Nat → Nat} {i v : Nat} (h : ∀ j, j < i → P (g j)) (hv : P v) : ∀ j, j < i + 1 → P (va_up g i v j) := fun j hj => by
  by_cases e : j = i
  · subst e; simp [va_up]; exact hv
  · rw [xs_up_ne e]; exact h j (by omega)
theorem xs_up_N {P : Nat → Prop} {g : Nat → Nat} {n i v : Nat} (h : ∀ j, j < n → P (g j)) (hv : P v) : ∀ j, j < n → P (va_up g i v j) := fun j hj => by
  by_cases e : j = i
  · subst e; simp [va_up]; exact hv
  · rw [xs_up_ne e]; exact h j hj
theorem ms_nd_q {li : Nat → Int32} {q gs : Nat → Nat} {w : Nat} (h1 : ¬ li w = 0) (h2 : ¬ q w = 0) : ms_nd li q gs w := ⟨h1, Or.inl (by omega)⟩
theorem ms_nd_s {li : Nat → Int32} {q gs : Nat → Nat} {w : Nat} (h1 : ¬ li w = 0) (h2 : 0 < gs w) : ms_nd li q gs w := ⟨h1, Or.inr h2⟩
theorem ms_nn_l {li : Nat → Int32} {q gs : Nat → Nat} {w : Nat} (h1 : li w = 0) : ¬ ms_nd li q gs w := fun z => z.1 h1
theorem ms_nn_s {li : Nat → Int32} {q gs : Nat → Nat} {w : Nat} (h1 : ¬ ¬ q w = 0) (h2 : gs w = 0) : ¬ ms_nd li q gs w := fun z => by
  obtain ⟨-, h⟩ := z
  omega
/-- a state that a move of the level leads to -/
def mo_pred (mmv lvl : Nat) (lo : Nat → Int32) (fr to : Nat → Nat) (t : Nat) : Prop := ∃ m, m < mmv ∧ to m = t ∧ lo (fr m) = nI lvl
def mo_S (wk mst lvl : Nat) (lo : Nat → Int32) (gs : Nat → Nat) : Prop := ∀ w, w < wk → (fun z => z = 0 ∨ (z - 1 < mst ∧ lo (z - 1) = nI lvl)) (gs w)
def mo_Q (wk mmv lvl : Nat) (lo : Nat → Int32) (fr to q gq : Nat → Nat) : Prop := ∀ w k, w < wk → k < q w → mo_pred mmv lvl lo fr to (gq (8 * w + k))
def mo_N (mst mmv lvl : Nat) (lo nx : Nat → Int32) (fr to : Nat → Nat) : Prop := ∀ t, t < mst → ¬ nx t = 0 → mo_pred mmv lvl lo fr to t ∧ lo t < 0
theorem mo_N_meet {mst mmv lvl : Nat} {lo nx nx1 : Nat → Int32} {fr to : Nat → Nat} {s : Nat} (h : mo_N mst mmv lvl lo nx fr to) (hp : mo_pred mmv lvl lo fr to s) (h1 : ∀ j, j ≠ s → nx1 j = nx j) (h2 : ¬ nx1 s = 0 → ¬ nx s = 0 ∨ lo s < 0) : mo_N mst mmv lvl lo nx1 fr to := fun t ht hn => by
  by_cases e : t = s
  · subst e
    rcases h2 hn with h3 | h3
    · exact h t ht h3
    · exact ⟨hp, h3⟩
  · rw [h1 t e] at hn
    exact h t ht hn
theorem mo_Q_take {wk mmv lvl : Nat} {lo : Nat → Int32} {fr to q gq gq1 : Nat → Nat} {w9 : Nat} (h : mo_Q wk mmv lvl lo fr to q gq) (hq8 : ∀ j, q j < 9) (h1 : ∀ j, j + 1 < q w9 → gq1 (8 * w9 + j) = gq (8 * w9 + j + 1)) (h2 : ∀ j, (j < 8 * w9 ∨ 8 * w9 + q w9 ≤ j + 1) → gq1 j = gq j) : mo_Q wk mmv lvl lo fr to (va_up q w9 (q w9 - 1)) gq1 := fun w k hw hk => by
  by_cases e : w = w9
  · subst e
    simp only [va_up, if_true] at hk
    rw [h1 k (by omega)]
    exact h w (k + 1) hw (by omega)
  · rw [xs_up_ne e] at hk
    have hk8 := hq8 w
    have hw8 := hq8 w9
    rw [h2 (8 * w + k) (by omega)]
    exact h w k hw hk
theorem mo_Q_put {wk mmv lvl : Nat} {lo : Nat → Int32} {fr to q gq : Nat → Nat} {o t : Nat} (h : mo_Q wk mmv lvl lo fr to q gq) (hq8 : ∀ j, q j < 9) (ho : q o < 8) (hp : mo_pred mmv lvl lo fr to t) : mo_Q wk mmv lvl lo fr to (va_up q o (q o + 1)) (va_up gq (8 * o + q o) t) := fun w k hw hk => by
  have hk8 := hq8 w
  by_cases e : w = o
  · subst e
    simp only [va_up, if_true] at hk
    by_cases e2 : k = q w
    · subst e2; simp [va_up]; exact hp
    · rw [xs_up_ne (by omega)]
      exact h w k hw (by omega)
  · rw [xs_up_ne e] at hk
    rw [xs_up_ne (by omega)]
    exact h w k hw hk
theorem mo_Q_0 {wk mmv lvl : Nat} {lo : Nat → Int32} {fr to q gq : Nat → Nat} (h : ∀ w, w < wk → q w = 0) : mo_Q wk mmv lvl lo fr to q gq := fun w k hw hk => by
  rw [h w hw] at hk
  omega
theorem mo_N_0 {mst mmv lvl : Nat} {lo nx : Nat → Int32} {fr to : Nat → Nat} (h : ∀ t, t < mst → nx t = 0) : mo_N mst mmv lvl lo nx fr to := fun t ht hn => absurd (h t ht) hn
theorem ms_Q_0 {q : Nat → Nat} {n : Nat} (h : ∀ w, w < n → q w = 0) : xs_sum q n = 0 := by
  rw [xs_sum_eq (g := fun _ => 0) h]
  have := xs_sum_le (f := fun _ => 0) (n := n) (B := 0) (fun _ => Nat.le_refl 0)
  omega
/-! what a turn is: it makes less to do, or it is a stall -/
def ms_turn (wk w9 : Nat) (li : Nat → Int32) (q gs nm q1 gs1 nm1 : Nat → Nat) : Prop := (xs_sum q1 wk + ms_R gs1 nm1 wk < xs_sum q wk + ms_R gs nm wk) ∨ (q1 = q ∧ gs1 = gs ∧ nm1 = nm ∧ q w9 = 0 ∧ ∃ o, o < wk ∧ ¬ li o = 0 ∧ 0 < q o)
theorem ms_turn_take {wk w9 : Nat} {li : Nat → Int32} {q gs nm : Nat → Nat} (hw : w9 < wk) (h : 0 < q w9) : ms_turn wk w9 li q gs nm (va_up q w9 (q w9 - 1)) gs nm := Or.inl (by
  have := xs_sum_up (f := q) (v := q w9 - 1) hw
  omega)
/-- a move done (nothing, or one thing into a queue), the worker stands where it stood -/
theorem ms_turn_m {wk w9 : Nat} {li : Nat → Int32} {q q1 gs nm : Nat → Nat} (hw : w9 < wk) (hg : ¬ gs w9 = 0) (hg2 : gs w9 ≤ 200) (hn : nm w9 < 600) (hq : xs_sum q1 wk ≤ xs_sum q wk + 1) : ms_turn wk w9 li q gs nm q1 gs (va_up nm w9 (nm w9 + 1)) := Or.inl (by
  have h1 := ms_R_nm (gs := gs) (nm := nm) (v := nm w9 + 1) hw
  have h2 := ms_rem_nm (n := nm w9) hg hg2 hn
  omega)
/-- the worker goes on to another state -/
theorem ms_turn_g {wk w9 z : Nat} {li : Nat → Int32} {q q1 gs nm nm0 : Nat → Nat} (hw : w9 < wk) (hg : ¬ gs w9 = 0) (hg2 : gs w9 ≤ 200) (hz : z = 0 ∨ gs w9 < z) (hn : nm w9 ≤ 600) (hq : xs_sum q1 wk ≤ xs_sum q wk + 1) (hnm : nm0 = nm ∨ nm0 = va_up nm w9 (nm w9 + 1)) : ms_turn wk w9 li q gs nm q1 (va_up gs w9 z) (va_up nm0 w9 0) := Or.inl (by
  have e : va_up nm0 w9 0 = va_up nm w9 0 := by
    rcases hnm with h | h
    · rw [h]
    · rw [h]; funext j; by_cases e : j = w9 <;> simp [va_up, e]
  rw [e]
  have h1 := ms_R_gs (gs := gs) (nm := va_up nm w9 0) (v := z) hw
  have h3 := ms_R_nm (gs := gs) (nm := nm) (v := 0) hw
  have h4 : va_up nm w9 0 w9 = 0 := by simp [va_up]
  rw [h4] at h1
  have h2 := ms_rem_gs (n := nm w9) hg hg2 hz hn
  omega)
theorem ms_put_sum {q : Nat → Nat} {o wk : Nat} (ho : o < wk) : xs_sum (va_up q o (q o + 1)) wk ≤ xs_sum q wk + 1 := by
  have := xs_sum_up (f := q) (v := q o + 1) ho
  omega
end XIV
