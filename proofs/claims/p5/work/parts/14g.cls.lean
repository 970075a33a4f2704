section XCX
/-! what the class has still to go through in a level -/
def cx_pred (k st : Nat) (lo : Nat → Int32) (nb nt : Nat → Nat) (s : Nat) : Prop := ∃ t, lo t = nI k ∧ xe_C st nb nt t s
def cx_acc (lo lf : Nat → Int32) (qf qh : Nat → Nat) (rr1 : Nat → Nat → Nat) (s : Nat) : Prop := (¬ lo s = (-1) ∨ ¬ lf s = 0) ∨ ∃ w i, i < qh w ∧ rr1 w ((qf w + i) % 8) = s
def cx_A (k st : Nat) (lo : Nat → Int32) (ld la : Nat → Nat) (rr2 : Nat → Nat → Nat) : Prop := ∀ w j, la w ≤ j → j < ld w → rr2 w j < st ∧ lo (rr2 w j) = nI k
def cx_Q (k st : Nat) (lo : Nat → Int32) (nb nt qf qh : Nat → Nat) (rr1 : Nat → Nat → Nat) : Prop := ∀ w i, i < qh w → cx_pred k st lo nb nt (rr1 w ((qf w + i) % 8))
def cx_F (k st : Nat) (lo lf : Nat → Int32) (nb nt : Nat → Nat) : Prop := ∀ s, ¬ lf s = 0 → lo s = (-1) ∧ cx_pred k st lo nb nt s
def cx_C (k st : Nat) (lo lf : Nat → Int32) (nb nt ld la lm qf qh : Nat → Nat) (rr1 rr2 : Nat → Nat → Nat) : Prop := ∀ t m, t < st → lo t = nI k → nb t ≤ m → m < nb (t + 1) → cx_acc lo lf qf qh rr1 (nt m) ∨ ∃ w j, la w ≤ j ∧ j < ld w ∧ rr2 w j = t ∧ (j = la w → nb t + lm w ≤ m)
def cx_W (wk rm : Nat) (ld la qh : Nat → Nat) : Prop := (∀ w, wk ≤ w → ld w ≤ la w ∧ qh w = 0) ∧ ∀ w, qh w ≤ rm
def cx_D (nb ld la lm : Nat → Nat) (rr2 : Nat → Nat → Nat) : Prop := ∀ w, la w < ld w → nb (rr2 w (la w)) + lm w ≤ nb (rr2 w (la w) + 1)
/-- all of it -/
def cx_I (k st wk rm : Nat) (lo lf : Nat → Int32) (nb nt ld la lm qf qh : Nat → Nat) (rr1 rr2 : Nat → Nat → Nat) : Prop :=
  cx_A k st lo ld la rr2 ∧ cx_Q k st lo nb nt qf qh rr1 ∧ cx_F k st lo lf nb nt ∧ cx_C k st lo lf nb nt ld la lm qf qh rr1 rr2 ∧ cx_W wk rm ld la qh ∧ cx_D nb ld la lm rr2
theorem cx_up2_ne {g : Nat → Nat → Nat} {a b v i j : Nat} (h : ¬ (i = a ∧ j = b)) : xs_up2 g a b v i j = g i j := by
  unfold xs_up2
  by_cases e : i = a
  · subst e; simp only [va_up, if_true]; rw [if_neg (fun z => h ⟨rfl, z⟩)]
  · simp only [va_up]; rw [if_neg e]
theorem cx_up2_eq {g : Nat → Nat → Nat} {a b v : Nat} : xs_up2 g a b v a b = v := by unfold xs_up2; simp [va_up]
/-- a set, with one state more or as it was -/
def cx_set (lo lf lf1 : Nat → Int32) (s : Nat) : Prop := (∀ j, ¬ lf j = 0 → ¬ lf1 j = 0) ∧ (∀ j, ¬ lf1 j = 0 → ¬ lf j = 0 ∨ (j = s ∧ lo j = (-1))) ∧ (¬ lo s = (-1) ∨ ¬ lf1 s = 0)
theorem cx_set_up {lo lf : Nat → Int32} {s : Nat} (h : lo s = (-1)) : cx_set lo lf (upd lf s (nI 1)) s := ⟨fun j h2 => if h9 : j = s then by rw [h9, pk_us]; decide +kernel else by rw [pk_un h9]; exact h2, fun j h2 => if h9 : j = s then Or.inr ⟨h9, by rw [h9]; exact h⟩ else Or.inl (by rw [pk_un h9] at h2; exact h2), Or.inr (by rw [pk_us]; decide +kernel)⟩
theorem cx_acc_set {lo lf lf1 : Nat → Int32} {qf qh : Nat → Nat} {rr1 : Nat → Nat → Nat} {s v : Nat} (h : cx_acc lo lf qf qh rr1 s) (hs : cx_set lo lf lf1 v) : cx_acc lo lf1 qf qh rr1 s := h.imp (fun h => h.imp id (hs.1 s)) id
theorem cx_F_set {k st : Nat} {lo lf lf1 : Nat → Int32} {nb nt : Nat → Nat} {v : Nat} (h : cx_F k st lo lf nb nt) (hp : cx_pred k st lo nb nt v) (hs : cx_set lo lf lf1 v) : cx_F k st lo lf1 nb nt := fun s hn => by
  rcases hs.2.1 s hn with a | ⟨a, b⟩
  · exact h s a
  · exact ⟨b, by rw [a]; exact hp⟩
theorem cx_I_set {k st wk rm : Nat} {lo lf lf1 : Nat → Int32} {nb nt ld la lm qf qh : Nat → Nat} {rr1 rr2 : Nat → Nat → Nat} {v : Nat} (h : cx_I k st wk rm lo lf nb nt ld la lm qf qh rr1 rr2) (hp : cx_pred k st lo nb nt v) (hs : cx_set lo lf lf1 v) : cx_I k st wk rm lo lf1 nb nt ld la lm qf qh rr1 rr2 := by
  obtain ⟨hA, hQ, hF, hC, hW, hD⟩ := h
  exact ⟨hA, hQ, cx_F_set hF hp hs, fun t m a b c d => (hC t m a b c d).imp (fun z => cx_acc_set z hs) id, hW, hD⟩
/-- behind a queue -/
theorem cx_I_put {k st wk rm : Nat} {lo lf : Nat → Int32} {nb nt ld la lm qf qh : Nat → Nat} {rr1 rr2 : Nat → Nat → Nat} {o v : Nat} (hrm : rm ≤ 8) (h : cx_I k st wk rm lo lf nb nt ld la lm qf qh rr1 rr2) (hp : cx_pred k st lo nb nt v) (ho : qh o < rm) (how : o < wk) : cx_I k st wk rm lo lf nb nt ld la lm qf (va_up qh o (qh o + 1)) (xs_up2 rr1 o ((qf o + qh o) % 8) v) rr2 ∧ cx_acc lo lf qf (va_up qh o (qh o + 1)) (xs_up2 rr1 o ((qf o + qh o) % 8) v) v := by
  obtain ⟨hA, hQ, hF, hC, hW, hD⟩ := h
  have old : ∀ w i, i < qh w → xs_up2 rr1 o ((qf o + qh o) % 8) v w ((qf w + i) % 8) = rr1 w ((qf w + i) % 8) := fun w i hi => cx_up2_ne (fun ⟨a, b⟩ => by subst a; have := hW.2 w; omega)
  have more : ∀ w i, i < qh w → i < va_up qh o (qh o + 1) w := fun w i hi => by
    by_cases e : w = o
    · subst e; simp only [va_up, if_true]; omega
    · rw [xs_up_ne e]; exact hi
  refine ⟨⟨hA, fun w i hi => ?_, hF, fun t m a b c d => (hC t m a b c d).imp (fun z => z.imp id (fun ⟨w, i, x, y⟩ => ⟨w, i, more w i x, by rw [old w i x]; exact y⟩)) id, ⟨fun w hw => ?_, fun w => ?_⟩, hD⟩, Or.inr ⟨o, qh o, by simp only [va_up, if_true]; omega, cx_up2_eq⟩⟩
  · by_cases e : w = o
    · subst e
      simp only [va_up, if_true] at hi
      by_cases e2 : i = qh w
      · subst e2; rw [cx_up2_eq]; exact hp
      · rw [old w i (by omega)]; exact hQ w i (by omega)
    · rw [xs_up_ne e] at hi; rw [old w i hi]; exact hQ w i hi
  · rw [xs_up_ne (by omega)]; exact hW.1 w hw
  · by_cases e : w = o
    · subst e; simp only [va_up, if_true]; omega
    · rw [xs_up_ne e]; exact hW.2 w
/-- the first one of a queue is taken -/
theorem cx_I_take {k st wk rm : Nat} {lo lf lf1 : Nat → Int32} {nb nt ld la lm qf qh : Nat → Nat} {rr1 rr2 : Nat → Nat → Nat} {w9 : Nat} (hf8 : ∀ j, qf j < 8) (h : cx_I k st wk rm lo lf nb nt ld la lm qf qh rr1 rr2) (h0 : 0 < qh w9) (hs : cx_set lo lf lf1 (rr1 w9 (qf w9))) : cx_I k st wk rm lo lf1 nb nt ld la lm (va_up qf w9 ((qf w9 + 1) % 8)) (va_up qh w9 (qh w9 - 1)) rr1 rr2 := by
  obtain ⟨hA, hQ, hF, hC, hW, hD⟩ := h
  have hf := hf8 w9
  have first : rr1 w9 ((qf w9 + 0) % 8) = rr1 w9 (qf w9) := by rw [Nat.add_zero, Nat.mod_eq_of_lt hf]
  have sh : ∀ i, ((qf w9 + 1) % 8 + i) % 8 = (qf w9 + (i + 1)) % 8 := fun i => by omega
  have hp := hQ w9 0 h0
  rw [first] at hp
  refine ⟨hA, fun w i hi => ?_, cx_F_set hF hp hs, fun t m a b c d => ?_, ⟨fun w hw => ?_, fun w => ?_⟩, hD⟩
  · by_cases e : w = w9
    · subst e; simp only [va_up, if_true] at hi ⊢; rw [sh]; exact hQ w (i + 1) (by omega)
    · rw [xs_up_ne e] at hi; rw [xs_up_ne e]; exact hQ w i hi
  · rcases hC t m a b c d with (z | ⟨w, i, x, y⟩) | z
    · exact Or.inl (Or.inl (z.imp id (hs.1 _)))
    · by_cases e : w = w9
      · subst e
        cases i with
        | zero => rw [first] at y; rw [← y]; exact Or.inl (Or.inl hs.2.2)
        | succ i => exact Or.inl (Or.inr ⟨w, i, by simp only [va_up, if_true]; omega, by simp only [va_up, if_true]; rw [sh]; exact y⟩)
      · exact Or.inl (Or.inr ⟨w, i, by rw [xs_up_ne e]; exact x, by rw [xs_up_ne e]; exact y⟩)
    · exact Or.inr z
  · have h9 := hW.1 w hw
    by_cases e : w = w9
    · subst e; omega
    · rw [xs_up_ne e]; exact h9
  · by_cases e : w = w9
    · subst e; simp only [va_up, if_true]; have := hW.2 w; omega
    · rw [xs_up_ne e]; exact hW.2 w
/-- one move is done -/
theorem cx_I_adv {k st wk rm : Nat} {lo lf : Nat → Int32} {nb nt ld la lm qf qh : Nat → Nat} {rr1 rr2 : Nat → Nat → Nat} {w9 : Nat} (h : cx_I k st wk rm lo lf nb nt ld la lm qf qh rr1 rr2) (h2 : nb (rr2 w9 (la w9)) + lm w9 < nb (rr2 w9 (la w9) + 1)) (ha : cx_acc lo lf qf qh rr1 (nt (nb (rr2 w9 (la w9)) + lm w9))) : cx_I k st wk rm lo lf nb nt ld la (va_up lm w9 (lm w9 + 1)) qf qh rr1 rr2 := by
  obtain ⟨hA, hQ, hF, hC, hW, hD⟩ := h
  refine ⟨hA, hQ, hF, fun t m a b c d => ?_, hW, fun w hw => ?_⟩
  · rcases hC t m a b c d with z | ⟨w, j, x, y, z, u⟩
    · exact Or.inl z
    · by_cases e : w = w9
      · subst e
        by_cases e2 : j = la w
        · subst e2
          have u := u rfl
          by_cases e3 : m = nb t + lm w
          · left; rw [e3, ← z]; exact ha
          · exact Or.inr ⟨w, la w, x, y, z, fun _ => by simp only [va_up, if_true]; omega⟩
        · exact Or.inr ⟨w, j, x, y, z, fun q => absurd q e2⟩
      · exact Or.inr ⟨w, j, x, y, z, fun q => by rw [xs_up_ne e]; exact u q⟩
  · by_cases e : w = w9
    · subst e; simp only [va_up, if_true]; omega
    · rw [xs_up_ne e]; exact hD w hw
/-- one state is done -/
theorem cx_I_nxt {k st wk rm : Nat} {lo lf : Nat → Int32} {nb nt ld la lm lm0 qf qh : Nat → Nat} {rr1 rr2 : Nat → Nat → Nat} {w9 : Nat} (hmono : ∀ t, t < 200 → nb t ≤ nb (t + 1)) (hrr : ∀ i j, rr2 i j < 200) (h : cx_I k st wk rm lo lf nb nt ld la lm qf qh rr1 rr2) (hlm : ∀ j, j ≠ w9 → lm0 j = lm j) (ha : ∀ m, nb (rr2 w9 (la w9)) + lm w9 ≤ m → m < nb (rr2 w9 (la w9) + 1) → cx_acc lo lf qf qh rr1 (nt m)) : cx_I k st wk rm lo lf nb nt ld (va_up la w9 (la w9 + 1)) (va_up lm0 w9 0) qf qh rr1 rr2 := by
  obtain ⟨hA, hQ, hF, hC, hW, hD⟩ := h
  refine ⟨fun w j hj hj2 => ?_, hQ, hF, fun t m a b c d => ?_, ⟨fun w hw => ?_, hW.2⟩, fun w hw => ?_⟩
  · by_cases e : w = w9
    · subst e; simp only [va_up, if_true] at hj; exact hA w j (by omega) hj2
    · rw [xs_up_ne e] at hj; exact hA w j hj hj2
  · rcases hC t m a b c d with z | ⟨w, j, x, y, z, u⟩
    · exact Or.inl z
    · by_cases e : w = w9
      · subst e
        by_cases e2 : j = la w
        · subst e2
          left; exact ha m (by rw [z]; exact u rfl) (by rw [z]; exact d)
        · exact Or.inr ⟨w, j, by simp only [va_up, if_true]; omega, y, z, fun _ => by simp only [va_up, if_true]; omega⟩
      · exact Or.inr ⟨w, j, by rw [xs_up_ne e]; exact x, y, z, fun q => by rw [xs_up_ne e] at q; rw [xs_up_ne e, hlm w e]; exact u q⟩
  · have h9 := hW.1 w hw
    refine ⟨?_, h9.2⟩
    by_cases e : w = w9
    · subst e; simp only [va_up, if_true]; omega
    · rw [xs_up_ne e]; exact h9.1
  · by_cases e : w = w9
    · subst e; simp only [va_up, if_true]; exact hmono _ (hrr _ _)
    · rw [xs_up_ne e] at hw; rw [xs_up_ne e, xs_up_ne e, hlm w e]; exact hD w hw
/-- nothing is left -/
theorem cx_I_end {k st wk rm : Nat} {lo lf : Nat → Int32} {nb nt ld la lm qf qh : Nat → Nat} {rr1 rr2 : Nat → Nat → Nat} (h : cx_I k st wk rm lo lf nb nt ld la lm qf qh rr1 rr2) (hd : ∀ w, w < wk → ld w ≤ la w ∧ qh w = 0) (s : Nat) : ¬ lf s = 0 ↔ (lo s = (-1) ∧ ∃ t, lo t = nI k ∧ xe_C st nb nt t s) := by
  obtain ⟨hA, hQ, hF, hC, hW, hD⟩ := h
  have hall : ∀ w, ld w ≤ la w ∧ qh w = 0 := fun w => by
    rcases Nat.lt_or_ge w wk with a | a
    · exact hd w a
    · exact hW.1 w a
  refine ⟨hF s, fun ⟨a, t, b, c, m, d, e, f⟩ => ?_⟩
  rcases hC t m c b d e with (z | ⟨w, i, x, y⟩) | ⟨w, j, x, y, z, u⟩
  · rw [f] at z; exact z.resolve_left (fun q => q a)
  · have := hall w; omega
  · have := hall w; omega
/-- how much is left -/
def cx_sg (nb r : Nat → Nat) (a b : Nat) : Nat := xs_sum (fun j => 2 * (nb (r (a + j) + 1) - nb (r (a + j))) + 1) (b - a)
def cx_M (nb ld la lm : Nat → Nat) (rr2 : Nat → Nat → Nat) : Nat := xs_sum (fun w => cx_sg nb (rr2 w) (la w) (ld w) - 2 * lm w) 16
theorem xs_sum_s (f : Nat → Nat) (n : Nat) : xs_sum f (n + 1) = f 0 + xs_sum (fun j => f (j + 1)) n := by
  induction n with
  | zero => show 0 + f 0 = f 0 + 0; omega
  | succ n ih =>
    show xs_sum f (n + 1) + f (n + 1) = f 0 + (xs_sum (fun j => f (j + 1)) n + f (n + 1))
    rw [ih]; omega
theorem cx_sg_s {nb r : Nat → Nat} {a b : Nat} (h : a < b) : cx_sg nb r a b = 2 * (nb (r a + 1) - nb (r a)) + 1 + cx_sg nb r (a + 1) b := by
  unfold cx_sg
  rw [show b - a = (b - (a + 1)) + 1 by omega, xs_sum_s, Nat.add_zero]
  congr 1
  exact xs_sum_eq (fun j _ => by rw [show a + (j + 1) = a + 1 + j by omega])
theorem cx_M_eq {nb ld la lm la1 lm1 : Nat → Nat} {rr2 : Nat → Nat → Nat} {w9 : Nat} (hw : w9 < 16) (h1 : ∀ w, w ≠ w9 → la1 w = la w) (h2 : ∀ w, w ≠ w9 → lm1 w = lm w) : cx_M nb ld la1 lm1 rr2 + (cx_sg nb (rr2 w9) (la w9) (ld w9) - 2 * lm w9) = cx_M nb ld la lm rr2 + (cx_sg nb (rr2 w9) (la1 w9) (ld w9) - 2 * lm1 w9) := by
  have h := xs_sum_up (f := fun w => cx_sg nb (rr2 w) (la w) (ld w) - 2 * lm w) (v := cx_sg nb (rr2 w9) (la1 w9) (ld w9) - 2 * lm1 w9) hw
  have e : xs_sum (va_up (fun w => cx_sg nb (rr2 w) (la w) (ld w) - 2 * lm w) w9 (cx_sg nb (rr2 w9) (la1 w9) (ld w9) - 2 * lm1 w9)) 16 = cx_M nb ld la1 lm1 rr2 := xs_sum_eq (fun j _ => by
    by_cases e : j = w9
    · subst e; simp [va_up]
    · rw [xs_up_ne e, h1 j e, h2 j e])
  rw [e] at h
  exact h
theorem cx_M_adv {nb ld la lm : Nat → Nat} {rr2 : Nat → Nat → Nat} {w9 : Nat} (hw : w9 < 16) (h1 : la w9 < ld w9) (h2 : nb (rr2 w9 (la w9)) + lm w9 < nb (rr2 w9 (la w9) + 1)) : cx_M nb ld la (va_up lm w9 (lm w9 + 1)) rr2 + 2 ≤ cx_M nb ld la lm rr2 := by
  have h := cx_M_eq (nb := nb) (ld := ld) (la := la) (lm := lm) (la1 := la) (lm1 := va_up lm w9 (lm w9 + 1)) (rr2 := rr2) hw (fun _ _ => rfl) (fun w e => xs_up_ne e)
  rw [show va_up lm w9 (lm w9 + 1) w9 = lm w9 + 1 by simp [va_up], cx_sg_s h1] at h
  omega
theorem cx_M_nxt {nb ld la lm lm0 : Nat → Nat} {rr2 : Nat → Nat → Nat} {w9 : Nat} (hw : w9 < 16) (h1 : la w9 < ld w9) (hlm : ∀ j, j ≠ w9 → lm0 j = lm j) (h2 : nb (rr2 w9 (la w9)) + lm w9 ≤ nb (rr2 w9 (la w9) + 1)) : cx_M nb ld (va_up la w9 (la w9 + 1)) (va_up lm0 w9 0) rr2 + 1 + 2 * (nb (rr2 w9 (la w9) + 1) - nb (rr2 w9 (la w9)) - lm w9) ≤ cx_M nb ld la lm rr2 := by
  have h := cx_M_eq (nb := nb) (ld := ld) (la := la) (lm := lm) (la1 := va_up la w9 (la w9 + 1)) (lm1 := va_up lm0 w9 0) (rr2 := rr2) hw (fun w e => xs_up_ne e) (fun w e => by rw [xs_up_ne e]; exact hlm w e)
  rw [show va_up lm0 w9 0 w9 = 0 by simp [va_up], show va_up la w9 (la w9 + 1) w9 = la w9 + 1 by simp [va_up], cx_sg_s h1] at h
  omega
/-- a turn: less is left, or a stall -/
def cx_T (wk w9 : Nat) (nb ld la lm qh la1 lm1 qh1 : Nat → Nat) (rr2 : Nat → Nat → Nat) : Prop := (cx_M nb ld la1 lm1 rr2 + xs_sum qh1 16 < cx_M nb ld la lm rr2 + xs_sum qh 16) ∨ (la1 = la ∧ lm1 = lm ∧ qh1 = qh ∧ qh w9 = 0 ∧ ∃ o, o < wk ∧ 0 < qh o)
theorem cx_none {k st wk rm : Nat} {lo lf : Nat → Int32} {nb nt ld la lm qf qh : Nat → Nat} {rr1 rr2 : Nat → Nat → Nat} (hw : wk ≤ 16) (h : cx_I k st wk rm lo lf nb nt ld la lm qf qh rr1 rr2) (h0 : cx_M nb ld la lm rr2 + xs_sum qh 16 = 0) : ∀ w, w < wk → ld w ≤ la w ∧ qh w = 0 := fun w hw9 => by
  obtain ⟨hA, hQ, hF, hC, hW, hD⟩ := h
  have h1 := xs_sum_ge (f := qh) (show w < 16 by omega)
  have h2 := xs_sum_ge (f := fun w => cx_sg nb (rr2 w) (la w) (ld w) - 2 * lm w) (show w < 16 by omega)
  have h3 : cx_sg nb (rr2 w) (la w) (ld w) - 2 * lm w ≤ cx_M nb ld la lm rr2 := h2
  refine ⟨?_, by omega⟩
  rcases Nat.lt_or_ge (la w) (ld w) with h9 | h9
  · have h8 := hD w h9
    rw [cx_sg_s h9] at h3
    omega
  · exact h9
end XCX
