section XCH
/-! how the class's levels begin and end -/
def cx_L (a i wk : Nat) (lr ld : Nat → Nat) (rr2 : Nat → Nat → Nat) : Prop :=
  (∀ w j, j < ld w → ∃ q, a ≤ q ∧ q < i ∧ rr2 w j = lr q) ∧ (∀ q, a ≤ q → q < i → ∃ w j, j < ld w ∧ rr2 w j = lr q) ∧ (∀ w, wk ≤ w → ld w = 0) ∧ ∀ c : Nat → Nat, xs_sum (fun w => xs_sum (fun j => c (rr2 w j)) (ld w)) 16 = xs_sum (fun j => c (lr (a + j))) (i - a)
theorem cx_L_0 {a wk : Nat} {lr ld : Nat → Nat} {rr2 : Nat → Nat → Nat} (h : ∀ w, ld w = 0) : cx_L a a wk lr ld rr2 := by
  refine ⟨fun w j hj => ?_, fun q h1 h2 => absurd h2 (by omega), fun w _ => h w, fun c => ?_⟩
  · rw [h w] at hj; omega
  · rw [Nat.sub_self, xs_sum_eq (g := fun _ => 0) (fun w _ => by rw [h w]; rfl)]; rfl
theorem cx_L_lt {a i wk w : Nat} {lr ld : Nat → Nat} {rr2 : Nat → Nat → Nat} (h : cx_L a i wk lr ld rr2) (hw : w < 16) : ld w ≤ i - a := by
  have one : ∀ n, xs_sum (fun _ => 1) n = n := fun n => by
    induction n with
    | zero => rfl
    | succ n ih => show xs_sum (fun _ => 1) n + 1 = n + 1; rw [ih]
  have h1 := h.2.2.2 (fun _ => 1)
  have h2 := xs_sum_ge (f := fun w => xs_sum (fun _ => 1) (ld w)) hw
  rw [h1] at h2
  have h3 : xs_sum (fun _ => 1) (ld w) ≤ xs_sum (fun _ => 1) (i - a) := h2
  rw [one, one] at h3
  exact h3
theorem cx_L_add {a i wk w9 : Nat} {lr ld : Nat → Nat} {rr2 : Nat → Nat → Nat} (h : cx_L a i wk lr ld rr2) (hw : w9 < wk) (hw2 : w9 < 16) (hi : a ≤ i) : cx_L a (i + 1) wk lr (va_up ld w9 (ld w9 + 1)) (xs_up2 rr2 w9 (ld w9) (lr i)) := by
  obtain ⟨h1, h2, h3, h4⟩ := h
  have old : ∀ w j, j < ld w → xs_up2 rr2 w9 (ld w9) (lr i) w j = rr2 w j := fun w j hj => cx_up2_ne (fun ⟨x, y⟩ => by subst x; omega)
  refine ⟨fun w j hj => ?_, fun q q1 q2 => ?_, fun w hw3 => ?_, fun c => ?_⟩
  · by_cases e : w = w9
    · subst e
      simp only [va_up, if_true] at hj
      by_cases e2 : j = ld w
      · subst e2; exact ⟨i, hi, by omega, cx_up2_eq⟩
      · obtain ⟨q, x, y, z⟩ := h1 w j (by omega)
        exact ⟨q, x, by omega, by rw [old w j (by omega)]; exact z⟩
    · rw [xs_up_ne e] at hj
      obtain ⟨q, x, y, z⟩ := h1 w j hj
      exact ⟨q, x, by omega, by rw [old w j hj]; exact z⟩
  · by_cases e : q = i
    · subst e; exact ⟨w9, ld w9, by simp only [va_up, if_true]; omega, cx_up2_eq⟩
    · obtain ⟨w, j, x, y⟩ := h2 q q1 (by omega)
      refine ⟨w, j, ?_, by rw [old w j x]; exact y⟩
      by_cases e3 : w = w9
      · subst e3; simp only [va_up, if_true]; omega
      · rw [xs_up_ne e3]; exact x
  · rw [xs_up_ne (by omega)]; exact h3 w hw3
  · have h5 := xs_sum_up (f := fun w => xs_sum (fun j => c (rr2 w j)) (ld w)) (v := xs_sum (fun j => c (rr2 w9 j)) (ld w9) + c (lr i)) hw2
    have e5 : xs_sum (va_up (fun w => xs_sum (fun j => c (rr2 w j)) (ld w)) w9 (xs_sum (fun j => c (rr2 w9 j)) (ld w9) + c (lr i))) 16 = xs_sum (fun w => xs_sum (fun j => c (xs_up2 rr2 w9 (ld w9) (lr i) w j)) (va_up ld w9 (ld w9 + 1) w)) 16 := xs_sum_eq (fun w _ => by
      by_cases e : w = w9
      · subst e
        rw [show va_up ld w (ld w + 1) w = ld w + 1 by simp [va_up]]
        show va_up _ w _ w = xs_sum _ (ld w) + c (xs_up2 rr2 w (ld w) (lr i) w (ld w))
        rw [cx_up2_eq, xs_sum_eq (f := fun j => c (xs_up2 rr2 w (ld w) (lr i) w j)) (g := fun j => c (rr2 w j)) (fun j hj => by rw [old w j hj])]
        simp [va_up]
      · rw [xs_up_ne e, xs_up_ne e]
        exact xs_sum_eq (fun j hj => by rw [old w j hj]))
    rw [e5, h4 c] at h5
    have h5 : xs_sum (fun w => xs_sum (fun j => c (xs_up2 rr2 w9 (ld w9) (lr i) w j)) (va_up ld w9 (ld w9 + 1) w)) 16 + xs_sum (fun j => c (rr2 w9 j)) (ld w9) = xs_sum (fun j => c (lr (a + j))) (i - a) + (xs_sum (fun j => c (rr2 w9 j)) (ld w9) + c (lr i)) := h5
    rw [show i + 1 - a = (i - a) + 1 by omega]
    show _ = xs_sum (fun j => c (lr (a + j))) (i - a) + c (lr (a + (i - a)))
    rw [show a + (i - a) = i by omega]
    omega
/-- level k in the order -/
def cx_V (k : Nat) (lo : Nat → Int32) (lr : Nat → Nat) (a b : Nat) : Prop := (∀ q, a ≤ q → q < b → lo (lr q) = nI k) ∧ (∀ s, lo s = nI k → ∃ q, a ≤ q ∧ q < b ∧ lr q = s) ∧ ∀ q, a ≤ q → q + 1 < b → lr q < lr (q + 1)
theorem cx_I_0 {k st wk rm a b : Nat} {lo lf : Nat → Int32} {nb nt ld la lm qf qh lr : Nat → Nat} {rr1 rr2 : Nat → Nat → Nat} (hL : cx_L a b wk lr ld rr2) (hV : cx_V k lo lr a b) (hst : ∀ s, lo s = nI k → s < st) (hmono : ∀ t, t < 200 → nb t ≤ nb (t + 1)) (hrr : ∀ i j, rr2 i j < 200) (h1 : ∀ w, la w = 0) (h2 : ∀ w, lm w = 0) (h3 : ∀ w, qh w = 0) (h4 : ∀ s, lf s = 0) : cx_I k st wk rm lo lf nb nt ld la lm qf qh rr1 rr2 := by
  refine ⟨fun w j _ hj => ?_, fun w i hi => ?_, fun s hs => absurd (h4 s) hs, fun t m a1 b1 c1 d1 => ?_, ⟨fun w hw => ?_, fun w => ?_⟩, fun w hw => ?_⟩
  · obtain ⟨q, x, y, z⟩ := hL.1 w j hj
    have := hV.1 q x y
    rw [← z] at this
    exact ⟨hst _ this, this⟩
  · rw [h3 w] at hi; omega
  · obtain ⟨q, x, y, z⟩ := hV.2.1 t b1
    obtain ⟨w, j, u, v⟩ := hL.2.1 q x y
    exact Or.inr ⟨w, j, by rw [h1 w]; exact Nat.zero_le _, u, by rw [v]; exact z, fun _ => by rw [h2 w]; exact c1⟩
  · exact ⟨by rw [hL.2.2.1 w hw]; exact Nat.zero_le _, h3 w⟩
  · rw [h3 w]; exact Nat.zero_le _
  · rw [h2 w]; exact hmono _ (hrr _ _)
theorem cx_mono {nb : Nat → Nat} (hmono : ∀ t, t < 200 → nb t ≤ nb (t + 1)) {s t : Nat} (h : s ≤ t) (ht : t ≤ 200) : nb s ≤ nb t := by
  induction t with
  | zero => rw [show s = 0 by omega]; exact Nat.le_refl _
  | succ t ih =>
    by_cases e : s = t + 1
    · rw [e]; exact Nat.le_refl _
    · have h1 := ih (by omega) (by omega)
      have h2 := hmono t (by omega)
      omega
theorem cx_M_0 {k wk a b mv : Nat} {lo : Nat → Int32} {nb ld la lm lr : Nat → Nat} {rr2 : Nat → Nat → Nat} (hL : cx_L a b wk lr ld rr2) (hV : cx_V k lo lr a b) (hmono : ∀ t, t < 200 → nb t ≤ nb (t + 1)) (hnb : ∀ t, nb t < mv + 1) (hlr : ∀ j, lr j < 200) (hb : b ≤ 200) (hmv : mv ≤ 600) (h1 : ∀ w, la w = 0) (h2 : ∀ w, lm w = 0) : cx_M nb ld la lm rr2 ≤ 1400 := by
  have e : cx_M nb ld la lm rr2 = xs_sum (fun j => 2 * (nb (lr (a + j) + 1) - nb (lr (a + j))) + 1) (b - a) := by
    rw [← hL.2.2.2 (fun s => 2 * (nb (s + 1) - nb s) + 1)]
    exact xs_sum_eq (fun w _ => by
      rw [h1 w, h2 w]
      show cx_sg nb (rr2 w) 0 (ld w) - 2 * 0 = _
      unfold cx_sg
      rw [Nat.sub_zero]
      show xs_sum _ (ld w) - 2 * 0 = _
      rw [Nat.mul_zero, Nat.sub_zero]
      exact xs_sum_eq (fun j _ => by rw [Nat.zero_add]))
  have bd : ∀ n, n ≤ b - a → n = 0 ∨ xs_sum (fun j => 2 * (nb (lr (a + j) + 1) - nb (lr (a + j))) + 1) n ≤ 2 * nb (lr (a + (n - 1)) + 1) + n := by
    intro n
    induction n with
    | zero => intro _; exact Or.inl rfl
    | succ n ih =>
      intro hn
      right
      show xs_sum (fun j => 2 * (nb (lr (a + j) + 1) - nb (lr (a + j))) + 1) n + (2 * (nb (lr (a + n) + 1) - nb (lr (a + n))) + 1) ≤ _
      rw [Nat.add_sub_cancel]
      have hm := hmono (lr (a + n)) (hlr _)
      rcases ih (by omega) with h0 | h0
      · subst h0; show 0 + _ ≤ _; omega
      · by_cases e0 : n = 0
        · subst e0; show 0 + _ ≤ _; omega
        · have hinc := hV.2.2 (a + (n - 1)) (by omega) (by omega)
          rw [show a + (n - 1) + 1 = a + n by omega] at hinc
          have hle := cx_mono hmono (show lr (a + (n - 1)) + 1 ≤ lr (a + n) by omega) (by have := hlr (a + n); omega)
          omega
  rw [e]
  rcases bd (b - a) (Nat.le_refl _) with h0 | h0
  · rw [h0]; exact Nat.zero_le _
  · have := hnb (lr (a + (b - a - 1)) + 1)
    omega
theorem ms_K_704 {li : Nat → Int32} {q gs : Nat → Nat} {wk x : Nat} (hw : wk ≤ 16) (hx : x < 2147483648) : ms_K li q gs wk x 704 := by
  intro ⟨o, h1, h2, h3⟩
  have h4 := ms_cn_lt (li := li) (q := q) (gs := gs) h1 ⟨h2, Or.inl h3⟩
  have h5 := ms_cn_le li q gs wk
  obtain ⟨k, hk1, hk, e⟩ := lc_gap (x := x) hx (by omega) h4
  exact ⟨k, hk, o, h1, h2, h3, e.symm⟩
/-- the order of what is found, so far -/
def cx_G (a cm i : Nat) (f2 : Nat → Int32) (gr : Nat → Nat) : Prop := (∀ q, a ≤ q → q < cm → gr q < i ∧ ¬ f2 (gr q) = 0) ∧ (∀ s, s < i → ¬ f2 s = 0 → ∃ q, a ≤ q ∧ q < cm ∧ gr q = s) ∧ ∀ q, a ≤ q → q + 1 < cm → gr q < gr (q + 1)
theorem cx_G_0 {a : Nat} {f2 : Nat → Int32} {gr : Nat → Nat} : cx_G a a 0 f2 gr := ⟨fun q h1 h2 => absurd h2 (by omega), fun s h => absurd h (by omega), fun q h1 h2 => absurd h2 (by omega)⟩
theorem cx_G_skip {a cm i : Nat} {f2 : Nat → Int32} {gr : Nat → Nat} (h : cx_G a cm i f2 gr) (h0 : f2 i = 0) : cx_G a cm (i + 1) f2 gr := by
  refine ⟨fun q h1 h2 => ?_, fun s hs hn => ?_, h.2.2⟩
  · have := h.1 q h1 h2; exact ⟨by omega, this.2⟩
  · by_cases e : s = i
    · subst e; exact absurd h0 hn
    · exact h.2.1 s (by omega) hn
theorem cx_G_add {a cm i : Nat} {f2 : Nat → Int32} {gr : Nat → Nat} (h : cx_G a cm i f2 gr) (h0 : ¬ f2 i = 0) (ha : a ≤ cm) : cx_G a (cm + 1) (i + 1) f2 (va_up gr cm i) := by
  have old : ∀ q, q < cm → va_up gr cm i q = gr q := fun q hq => xs_up_ne (by omega)
  have new : va_up gr cm i cm = i := by simp [va_up]
  refine ⟨fun q h1 h2 => ?_, fun s hs hn => ?_, fun q h1 h2 => ?_⟩
  · by_cases e : q = cm
    · rw [e, new]; exact ⟨by omega, h0⟩
    · rw [old q (by omega)]; have := h.1 q h1 (by omega); exact ⟨by omega, this.2⟩
  · by_cases e : s = i
    · exact ⟨cm, ha, by omega, by rw [new, e]⟩
    · obtain ⟨q, x, y, z⟩ := h.2.1 s (by omega) hn
      exact ⟨q, x, by omega, by rw [old q y]; exact z⟩
  · by_cases e : q + 1 = cm
    · rw [e, new, old q (by omega)]; exact (h.1 q h1 (by omega)).1
    · rw [old q (by omega), old (q + 1) (by omega)]; exact h.2.2 q h1 (by omega)
/-- what closeLevel does -/
def cx_cl (lv lv1 st : Nat) (f1 f2 f3 : Nat → Int32) (gb gb1 gr1 : Nat → Nat) : Prop := (∀ j, j < st → ¬ f2 j = 0 → f3 j = nI lv) ∧ (∀ j, ¬ (j < st ∧ ¬ f2 j = 0) → f3 j = f1 j) ∧ ((lv1 = lv ∧ cx_G (gb lv) (gb lv) st f2 gr1) ∨ (lv1 = lv + 1 ∧ gb lv < gb1 (lv + 1) ∧ gb1 lv = gb lv ∧ cx_G (gb lv) (gb1 (lv + 1)) st f2 gr1))
/-- between the levels of a run -/
def cx_X (E : Nat → Nat → Prop) (k lv : Nat) (lo : Nat → Int32) (lr lb : Nat → Nat) : Prop := lo = xl E k ∧ (∀ j, j < k → ∃ s, xl E j s = nI j) ∧ ((lv = k ∧ ∀ s, ¬ lo s = nI k) ∨ (lv = k + 1 ∧ (∃ s, lo s = nI k) ∧ cx_V k lo lr (lb k) (lb (k + 1))))
theorem cx_X_end {E : Nat → Nat → Prop} {k lv : Nat} {lo : Nat → Int32} {lr lb : Nat → Nat} (h : cx_X E k lv lo lr lb) (hk : lv ≤ k) : xl_R E (xs_cnt lo 200) := by
  obtain ⟨h1, h2, h3 | h3⟩ := h
  · exact ⟨k, h2, by rw [← h1]; exact h3.2, by rw [← h1]⟩
  · omega
/-- new states of level n: what closeLevel leaves, where nothing had level n before -/
theorem cx_cl_V {n lv1 st : Nat} {f1 f2 f3 : Nat → Int32} {gb gb1 gr1 : Nat → Nat} (h : cx_cl n lv1 st f1 f2 f3 gb gb1 gr1) (hno : ∀ s, ¬ f1 s = nI n) : (lv1 = n ∧ ∀ s, ¬ f3 s = nI n) ∨ (lv1 = n + 1 ∧ (∃ s, f3 s = nI n) ∧ cx_V n f3 gr1 (gb1 n) (gb1 (n + 1))) := by
  obtain ⟨h1, h2, h3⟩ := h
  have is : ∀ s, f3 s = nI n → s < st ∧ ¬ f2 s = 0 := fun s hs => Classical.byContradiction (fun z => hno s (by rw [← h2 s z]; exact hs))
  rcases h3 with ⟨e, g⟩ | ⟨e, x, y, g⟩
  · refine Or.inl ⟨e, fun s hs => ?_⟩
    obtain ⟨a, b⟩ := is s hs
    obtain ⟨q, q1, q2, -⟩ := g.2.1 s a b
    omega
  · refine Or.inr ⟨e, ?_, ?_, ?_, ?_⟩
    · have := g.1 (gb n) (Nat.le_refl _) x
      exact ⟨gr1 (gb n), h1 _ this.1 this.2⟩
    · intro q q1 q2
      rw [y] at q1
      have := g.1 q q1 q2
      exact h1 _ this.1 this.2
    · intro s hs
      obtain ⟨a, b⟩ := is s hs
      rw [y]; exact g.2.1 s a b
    · intro q q1 q2
      rw [y] at q1; exact g.2.2 q q1 q2
theorem cx_X_0 {E : Nat → Nat → Prop} {lv1 st : Nat} {f1 f2 f3 : Nat → Int32} {gb gb1 gr1 : Nat → Nat} (hst : 0 < st) (h : cx_cl 0 lv1 st f1 f2 f3 gb gb1 gr1) (h1 : ∀ s, f1 s = (-1)) (h2 : ∀ s, ¬ f2 s = 0 ↔ s = 0) : cx_X E 0 lv1 f3 gr1 gb1 := by
  have hno : ∀ s, ¬ f1 s = nI 0 := fun s hs => xs_nm1 (k := 0) (by decide) (hs.symm.trans (h1 s))
  refine ⟨?_, fun j hj => absurd hj (by omega), cx_cl_V h hno⟩
  funext s
  by_cases e : s = 0
  · subst e; rw [h.1 0 hst ((h2 0).mpr rfl)]; show nI 0 = if (0 : Nat) = 0 then nI 0 else (-1); rw [if_pos rfl]
  · rw [h.2.1 s (fun z => e ((h2 s).mp z.2)), h1 s]; show (-1) = if s = 0 then nI 0 else (-1); rw [if_neg e]
theorem cx_X_close {k lv lv1 st : Nat} {f1 f2 f3 : Nat → Int32} {nb nt gb gb1 gr gr1 : Nat → Nat} (hk : k < 1000) (hnt : ∀ t s, xe_C st nb nt t s → s < st) (hX : cx_X (xe_C st nb nt) k lv f1 gr gb) (hkl : k < lv) (hP : ∀ s, ¬ f2 s = 0 ↔ (f1 s = (-1) ∧ ∃ t, f1 t = nI k ∧ xe_C st nb nt t s)) (h : cx_cl lv lv1 st f1 f2 f3 gb gb1 gr1) : cx_X (xe_C st nb nt) (k + 1) lv1 f3 gr1 gb1 := by
  obtain ⟨h1, h2, h3 | ⟨h3, h4, -⟩⟩ := hX
  · omega
  · subst h3
    have hno : ∀ s, ¬ f1 s = nI (k + 1) := fun s hs => by
      rw [h1] at hs
      rcases xl_val (xe_C st nb nt) k s with a | ⟨j, a, b⟩
      · exact xs_nm1 (by omega) (hs.symm.trans a)
      · have := mo_inj (by omega) (by omega) (b.symm.trans hs); omega
    refine ⟨xl_step (P := fun s => ¬ f2 s = 0) h1 hP (fun s hs => ?_) (fun s hs => h.2.1 s (fun z => hs z.2)), fun j hj => ?_, cx_cl_V h hno⟩
    · obtain ⟨-, t, -, b⟩ := (hP s).mp hs
      exact h.1 s (hnt t s b) hs
    · by_cases e : j = k
      · subst e; rw [← h1]; exact h4
      · exact h2 j (by omega)
/-- a level that is there lies below st -/
theorem xl_lt {E : Nat → Nat → Prop} {st : Nat} (hst : 0 < st) (hE : ∀ t s, E t s → s < st) : ∀ (k s : Nat), ¬ xl E k s = (-1) → s < st
  | 0, s, h => by
    by_cases e : s = 0
    · omega
    · exact absurd (show (if s = 0 then nI 0 else (-1)) = (-1) by rw [if_neg e]) h
  | k + 1, s, h => by
    by_cases e : xl E k s = (-1) ∧ ∃ t, xl E k t = nI k ∧ E t s
    · obtain ⟨-, t, -, b⟩ := e; exact hE t s b
    · rw [xl_out e] at h; exact xl_lt hst hE k s h
/-- a move more, in the class's net -/
def cx_mv (fr to9 mv : Nat) (gb gb1 gt gt1 : Nat → Nat) : Prop := (∀ s, s ≤ fr → gb1 s = gb s) ∧ (∀ s, fr < s → s ≤ 200 → gb1 s = gb s + 1) ∧ (∀ m, m < gb (fr + 1) → gt1 m = gt m) ∧ gt1 (gb (fr + 1)) = to9 ∧ ∀ m, gb (fr + 1) ≤ m → m < mv → gt1 (m + 1) = gt m
/-- what holds of the class's net: begins go up, and those behind the last state are the number of moves -/
def cx_N (st mv : Nat) (gb gt : Nat → Nat) : Prop := (∀ t, t < 200 → gb t ≤ gb (t + 1)) ∧ (∀ t, st ≤ t → t ≤ 200 → gb t = mv) ∧ (∀ m, m < mv → gt m < st)
theorem cx_mv_N {st mv fr to9 : Nat} {gb gb1 gt gt1 : Nat → Nat} (hst : st ≤ 200) (hfr : fr < st) (hto : to9 < st) (h : cx_N st mv gb gt) (hm : cx_mv fr to9 mv gb gb1 gt gt1) : cx_N st (mv + 1) gb1 gt1 := by
  obtain ⟨h1, h2, h3⟩ := h
  obtain ⟨m1, m2, m3, m4, m5⟩ := hm
  refine ⟨fun t ht => ?_, fun t a b => ?_, fun m hm => ?_⟩
  · have := h1 t ht
    rcases Nat.lt_or_ge t fr with e | e
    · rw [m1 t (by omega), m1 (t + 1) (by omega)]; exact this
    · by_cases e2 : t = fr
      · rw [m1 t (by omega), m2 (t + 1) (by omega) (by omega)]; omega
      · rw [m2 t (by omega) (by omega), m2 (t + 1) (by omega) (by omega)]; omega
  · rw [m2 t (by omega) b, h2 t a b]
  · rcases Nat.lt_trichotomy m (gb (fr + 1)) with e | e | e
    · rw [m3 m e]; exact h3 m (by have := cx_mono h1 (show fr + 1 ≤ 200 by omega) (Nat.le_refl 200); have h9 := h2 200 hst (Nat.le_refl _); omega)
    · rw [e, m4]; exact hto
    · rw [show m = (m - 1) + 1 by omega, m5 (m - 1) (by omega) (by omega)]; exact h3 _ (by omega)
theorem cx_mv_E {st mv fr to9 : Nat} {gb gb1 gt gt1 : Nat → Nat} (hst : st ≤ 200) (hfr : fr < st) (h : cx_N st mv gb gt) (hm : cx_mv fr to9 mv gb gb1 gt gt1) (t s : Nat) : xe_C st gb1 gt1 t s ↔ (xe_C st gb gt t s ∨ (t = fr ∧ s = to9)) := by
  obtain ⟨h1, h2, h3⟩ := h
  obtain ⟨m1, m2, m3, m4, m5⟩ := hm
  have top : ∀ t, t ≤ 200 → gb t ≤ mv := fun t ht => by have := cx_mono h1 ht (Nat.le_refl 200); have h9 := h2 200 hst (Nat.le_refl _); omega
  have up : ∀ a b, a ≤ b → b ≤ 200 → gb a ≤ gb b := fun a b h hb => cx_mono h1 h hb
  constructor
  · rintro ⟨ht, m, a, b, c⟩
    rcases Nat.lt_trichotomy t fr with e | e | e
    · rw [m1 t (by omega)] at a; rw [m1 (t + 1) (by omega)] at b
      have := up (t + 1) (fr + 1) (by omega) (by omega)
      rw [m3 m (by omega)] at c
      exact Or.inl ⟨ht, m, a, b, c⟩
    · subst e
      rw [m1 t (by omega)] at a; rw [m2 (t + 1) (by omega) (by omega)] at b
      by_cases e2 : m = gb (t + 1)
      · rw [e2, m4] at c; exact Or.inr ⟨rfl, c.symm⟩
      · rw [m3 m (by omega)] at c; exact Or.inl ⟨ht, m, a, by omega, c⟩
    · rw [m2 t (by omega) (by omega)] at a; rw [m2 (t + 1) (by omega) (by omega)] at b
      have := up (fr + 1) t (by omega) (by omega)
      have h9 := top (t + 1) (by omega)
      rw [show m = (m - 1) + 1 by omega, m5 (m - 1) (by omega) (by omega)] at c
      exact Or.inl ⟨ht, m - 1, by omega, by omega, c⟩
  · rintro (⟨ht, m, a, b, c⟩ | ⟨rfl, rfl⟩)
    · refine ⟨ht, ?_⟩
      rcases Nat.lt_trichotomy t fr with e | e | e
      · have := up (t + 1) (fr + 1) (by omega) (by omega)
        exact ⟨m, by rw [m1 t (by omega)]; exact a, by rw [m1 (t + 1) (by omega)]; exact b, by rw [m3 m (by omega)]; exact c⟩
      · subst e
        exact ⟨m, by rw [m1 t (by omega)]; exact a, by rw [m2 (t + 1) (by omega) (by omega)]; omega, by rw [m3 m (by omega)]; exact c⟩
      · have := up (fr + 1) t (by omega) (by omega)
        have h9 := top (t + 1) (by omega)
        exact ⟨m + 1, by rw [m2 t (by omega) (by omega)]; omega, by rw [m2 (t + 1) (by omega) (by omega)]; omega, by rw [m5 m (by omega) (by omega)]; exact c⟩
    · exact ⟨hfr, gb (t + 1), by rw [m1 t (by omega)]; exact h1 t (by omega), by rw [m2 (t + 1) (by omega) (by omega)]; omega, m4⟩
theorem cx_N_E {st mv : Nat} {gb gt : Nat → Nat} (hst : st ≤ 200) (h : cx_N st mv gb gt) (t s : Nat) (he : xe_C st gb gt t s) : s < st := by
  obtain ⟨h1, h2, h3⟩ := h
  obtain ⟨ht, m, a, b, c⟩ := he
  have := cx_mono h1 (show t + 1 ≤ 200 by omega) (Nat.le_refl 200)
  have h9 := h2 200 hst (Nat.le_refl _)
  rw [← c]; exact h3 m (by omega)
/-- a state more -/
theorem cx_N_st {st mv : Nat} {gb gt : Nat → Nat} (h : cx_N st mv gb gt) : cx_N (st + 1) mv gb gt := ⟨h.1, fun t a b => h.2.1 t (by omega) b, fun m hm => by have := h.2.2 m hm; omega⟩
theorem cx_N_stE {st mv : Nat} {gb gt : Nat → Nat} (hst : st < 200) (h : cx_N st mv gb gt) (t s : Nat) : xe_C (st + 1) gb gt t s ↔ xe_C st gb gt t s := by
  constructor
  · rintro ⟨ht, m, a, b, c⟩
    by_cases e : t = st
    · subst e
      have h1 := h.2.1 t (Nat.le_refl _) (by omega)
      have h2 := h.2.1 (t + 1) (by omega) (by omega)
      omega
    · exact ⟨by omega, m, a, b, c⟩
  · rintro ⟨ht, m, a, b, c⟩
    exact ⟨by omega, m, a, b, c⟩
end XCH
