section XCT
/-! turns of the class -/
theorem cx_nd_m {ld la qh : Nat → Nat} {w : Nat} (h : la w < ld w) : ms_nd (fun _ => 1) qh (fun w => ld w - la w) w := ⟨by show ¬ (1 : Int32) = 0; decide, Or.inr (by show 0 < ld w - la w; omega)⟩
theorem cx_nd_q {ld la qh : Nat → Nat} {w : Nat} (h : 0 < qh w) : ms_nd (fun _ => 1) qh (fun w => ld w - la w) w := ⟨by show ¬ (1 : Int32) = 0; decide, Or.inl h⟩
theorem cx_nd_n {ld la qh : Nat → Nat} {w : Nat} (h1 : ld w ≤ la w) (h2 : qh w = 0) : ¬ ms_nd (fun _ => 1) qh (fun w => ld w - la w) w := fun z => by
  rcases z.2 with a | a
  · omega
  · have a : 0 < ld w - la w := a
    omega
theorem cx_nd_d {ld la qh : Nat → Nat} {w : Nat} (h : ms_nd (fun _ => 1) qh (fun w => ld w - la w) w) : 0 < qh w ∨ la w < ld w := by
  rcases h.2 with a | a
  · exact Or.inl a
  · right; have a : 0 < ld w - la w := a; omega
theorem ms_cn_surj {li : Nat → Int32} {q gs : Nat → Nat} : ∀ (n r : Nat), r < ms_cn li q gs n → ∃ w, w < n ∧ ms_nd li q gs w ∧ ms_cn li q gs w = r
  | 0, r, h => absurd h (Nat.not_lt_zero _)
  | n + 1, r, h => by
    by_cases e : ms_nd li q gs n
    · rw [ms_cn_y e] at h
      by_cases e2 : r = ms_cn li q gs n
      · exact ⟨n, by omega, e, e2.symm⟩
      · obtain ⟨w, a, b, c⟩ := ms_cn_surj (li := li) (q := q) (gs := gs) n r (by omega)
        exact ⟨w, by omega, b, c⟩
    · rw [ms_cn_n e] at h
      obtain ⟨w, a, b, c⟩ := ms_cn_surj (li := li) (q := q) (gs := gs) n r h
      exact ⟨w, by omega, b, c⟩
/-- busy so far -/
def cx_b (i n : Nat) (ld la qh sb : Nat → Nat) : Prop := n = ms_cn (fun _ => 1) qh (fun w => ld w - la w) i ∧ ∀ w, w < i → ms_nd (fun _ => 1) qh (fun w => ld w - la w) w → sb (ms_cn (fun _ => 1) qh (fun w => ld w - la w) w) = w
theorem cx_b_0 {ld la qh sb : Nat → Nat} : cx_b 0 0 ld la qh sb := ⟨rfl, fun w h => absurd h (by omega)⟩
theorem cx_b_y {i n : Nat} {ld la qh sb : Nat → Nat} (h : cx_b i n ld la qh sb) (hd : ms_nd (fun _ => 1) qh (fun w => ld w - la w) i) : cx_b (i + 1) (n + 1) ld la qh (va_up sb n i) := by
  refine ⟨by rw [ms_cn_y hd, ← h.1], fun w hw z => ?_⟩
  by_cases e : w = i
  · rw [e, ← h.1]; simp [va_up]
  · have h1 := ms_cn_lt (show w < i by omega) z
    rw [← h.1] at h1
    rw [xs_up_ne (by omega)]
    exact h.2 w (by omega) z
theorem cx_b_n {i n : Nat} {ld la qh sb : Nat → Nat} (h : cx_b i n ld la qh sb) (hd : ¬ ms_nd (fun _ => 1) qh (fun w => ld w - la w) i) : cx_b (i + 1) n ld la qh sb := by
  refine ⟨by rw [ms_cn_n hd]; exact h.1, fun w hw z => ?_⟩
  by_cases e : w = i
  · rw [e] at z; exact absurd z hd
  · exact h.2 w (by omega) z
/-- whose turn is next -/
def cx_wt (wk x x1 : Nat) (ld la qh : Nat → Nat) (v : Int32) : Prop := (v = (-1) ∧ x1 = x ∧ ∀ w, w < wk → ld w ≤ la w ∧ qh w = 0) ∨ ∃ w, v = nI w ∧ w < wk ∧ x1 = lc_f x ∧ ms_nd (fun _ => 1) qh (fun w => ld w - la w) w ∧ ms_cn (fun _ => 1) qh (fun w => ld w - la w) w = lc_f x / 65536 % ms_cn (fun _ => 1) qh (fun w => ld w - la w) wk
theorem cx_wt_n {wk x i n : Nat} {ld la qh sb : Nat → Nat} (h : cx_b i n ld la qh sb) (hi : i = wk) (h0 : n = 0) : cx_wt wk x x ld la qh (-1) := by
  refine Or.inl ⟨rfl, rfl, fun w hw => ?_⟩
  have hno : ¬ ms_nd (fun _ => 1) qh (fun w => ld w - la w) w := fun z => by
    have h1 := ms_cn_lt (show w < i by omega) z
    rw [← h.1] at h1
    omega
  refine ⟨?_, ?_⟩
  · rcases Nat.lt_or_ge (la w) (ld w) with a | a
    · exact absurd (cx_nd_m a) hno
    · exact a
  · rcases Nat.eq_zero_or_pos (qh w) with a | a
    · exact a
    · exact absurd (cx_nd_q a) hno
theorem cx_wt_y {wk x x1 i n r : Nat} {ld la qh sb : Nat → Nat} (h : cx_b i n ld la qh sb) (hi : i = wk) (hx : x1 = lc_f x) (hr : r = x1 / 65536 % n) (hr2 : r < n) : cx_wt wk x x1 ld la qh (nI (sb r)) := by
  have hn := h.1
  rw [hi] at hn
  obtain ⟨w, a, b, c⟩ := ms_cn_surj wk r (by rw [← hn]; exact hr2)
  have e := h.2 w (by omega) b
  rw [c] at e
  exact Or.inr ⟨w, by rw [e], a, hx, b, by rw [c, ← hn, hr, hx]⟩
/-- what handOver does -/
def cx_ho (wk rm sx : Nat) (lo lf lf1 : Nat → Int32) (qf qh qh1 : Nat → Nat) (rr1 rr9 : Nat → Nat → Nat) (v : Int32) : Prop := (v = 1 ∧ cx_set lo lf lf1 sx ∧ qh1 = qh ∧ rr9 = rr1) ∨ (v = 1 ∧ lf1 = lf ∧ ∃ o, o < wk ∧ qh o < rm ∧ qh1 = va_up qh o (qh o + 1) ∧ rr9 = xs_up2 rr1 o ((qf o + qh o) % 8) sx) ∨ (v = 0 ∧ lf1 = lf ∧ qh1 = qh ∧ rr9 = rr1 ∧ ∃ o, o < wk ∧ rm ≤ qh o)
/-- and what that means -/
def cx_hi (k st wk rm sx : Nat) (lo lf lf1 : Nat → Int32) (nb nt ld la lm qf qh qh1 : Nat → Nat) (rr1 rr9 rr2 : Nat → Nat → Nat) (v : Int32) : Prop := (v = 1 ∧ cx_I k st wk rm lo lf1 nb nt ld la lm qf qh1 rr9 rr2 ∧ cx_acc lo lf1 qf qh1 rr9 sx ∧ xs_sum qh1 16 ≤ xs_sum qh 16 + 1) ∨ (v = 0 ∧ lf1 = lf ∧ qh1 = qh ∧ rr9 = rr1 ∧ ∃ o, o < wk ∧ 0 < qh o)
theorem cx_ho_hi {k st wk rm sx : Nat} {lo lf lf1 : Nat → Int32} {nb nt ld la lm qf qh qh1 : Nat → Nat} {rr1 rr9 rr2 : Nat → Nat → Nat} {v : Int32} (hw : wk ≤ 16) (hrm : rm ≤ 8) (hrm0 : 0 < rm) (hI : cx_I k st wk rm lo lf nb nt ld la lm qf qh rr1 rr2) (hp : cx_pred k st lo nb nt sx) (h : cx_ho wk rm sx lo lf lf1 qf qh qh1 rr1 rr9 v) : cx_hi k st wk rm sx lo lf lf1 nb nt ld la lm qf qh qh1 rr1 rr9 rr2 v := by
  rcases h with ⟨a, b, c, d⟩ | ⟨a, b, o, c, d, e, f⟩ | ⟨a, b, c, d, o, e, f⟩
  · subst c; subst d
    exact Or.inl ⟨a, cx_I_set hI hp b, Or.inl b.2.2, Nat.le_succ _⟩
  · subst b; subst e; subst f
    have h9 := cx_I_put hrm hI hp d c
    exact Or.inl ⟨a, h9.1, h9.2, ms_put_sum (by omega)⟩
  · exact Or.inr ⟨a, b, c, d, o, e, by omega⟩
theorem cx_cur {k st wk rm t w9 : Nat} {lo lf : Nat → Int32} {nb nt ld la lm qf qh : Nat → Nat} {rr1 rr2 : Nat → Nat → Nat} (hI : cx_I k st wk rm lo lf nb nt ld la lm qf qh rr1 rr2) (h1 : la w9 < ld w9) (ht : t = rr2 w9 (la w9)) (h2 : nb t + lm w9 < nb (t + 1)) : cx_pred k st lo nb nt (nt (nb t + lm w9)) := by
  subst ht
  have h9 := hI.1 w9 (la w9) (Nat.le_refl _) h1
  exact ⟨_, h9.2, h9.1, _, Nat.le_add_right _ _, h2, rfl⟩
theorem cx_dg {k st wk rm t w9 : Nat} {lo lf : Nat → Int32} {nb nt ld la lm qf qh : Nat → Nat} {rr1 rr2 : Nat → Nat → Nat} (hI : cx_I k st wk rm lo lf nb nt ld la lm qf qh rr1 rr2) (h1 : la w9 < ld w9) (ht : t = rr2 w9 (la w9)) : nb t + lm w9 ≤ nb (t + 1) := by
  subst ht; exact hI.2.2.2.2.2 w9 h1
/-- one move is done: what is left, and that it is less -/
theorem cx_t_adv {k st wk rm t w9 S : Nat} {lo lf : Nat → Int32} {nb nt ld la lm lm1 qf qh : Nat → Nat} {rr1 rr2 : Nat → Nat → Nat} (hw : w9 < 16) (hI : cx_I k st wk rm lo lf nb nt ld la lm qf qh rr1 rr2) (h1 : la w9 < ld w9) (ht : t = rr2 w9 (la w9)) (h2 : nb t + lm w9 < nb (t + 1)) (ha : cx_acc lo lf qf qh rr1 (nt (nb t + lm w9))) (hs : xs_sum qh 16 ≤ S + 1) (hlm : lm1 = va_up lm w9 (lm w9 + 1)) : cx_I k st wk rm lo lf nb nt ld la lm1 qf qh rr1 rr2 ∧ cx_M nb ld la lm1 rr2 + xs_sum qh 16 < cx_M nb ld la lm rr2 + S := by
  subst ht; subst hlm
  refine ⟨cx_I_adv hI h2 ha, ?_⟩
  have := cx_M_adv hw h1 h2
  omega
/-- one state is done with its last move, or has none -/
theorem cx_t_nxt {k st wk rm t w9 S : Nat} {lo lf : Nat → Int32} {nb nt ld la lm lm1 lm2 la1 qf qh : Nat → Nat} {rr1 rr2 : Nat → Nat → Nat} (hw : w9 < 16) (hmono : ∀ t, t < 200 → nb t ≤ nb (t + 1)) (hrr : ∀ i j, rr2 i j < 200) (hI : cx_I k st wk rm lo lf nb nt ld la lm qf qh rr1 rr2) (h1 : la w9 < ld w9) (ht : t = rr2 w9 (la w9)) (h3 : nb (t + 1) ≤ nb t + lm w9 + 1) (ha : nb t + lm w9 < nb (t + 1) → cx_acc lo lf qf qh rr1 (nt (nb t + lm w9)) ∧ xs_sum qh 16 ≤ S + 1) (hs : ¬ nb t + lm w9 < nb (t + 1) → xs_sum qh 16 = S) (hlm : lm1 = va_up lm w9 (lm w9 + 1)) (hla : la1 = va_up la w9 (la w9 + 1)) (hlm2 : lm2 = va_up lm1 w9 0) : cx_I k st wk rm lo lf nb nt ld la1 lm2 qf qh rr1 rr2 ∧ cx_M nb ld la1 lm2 rr2 + xs_sum qh 16 < cx_M nb ld la lm rr2 + S := by
  subst ht; subst hlm; subst hla; subst hlm2
  have hd := hI.2.2.2.2.2 w9 h1
  refine ⟨cx_I_nxt hmono hrr hI (fun j hj => xs_up_ne hj) (fun m m1 m2 => ?_), ?_⟩
  · rw [show m = nb (rr2 w9 (la w9)) + lm w9 by omega]; exact (ha (by omega)).1
  · have h9 := cx_M_nxt (nb := nb) (ld := ld) (rr2 := rr2) (lm := lm) (lm0 := va_up lm w9 (lm w9 + 1)) hw h1 (fun j hj => xs_up_ne hj) hd
    by_cases e : nb (rr2 w9 (la w9)) + lm w9 < nb (rr2 w9 (la w9) + 1)
    · have := (ha e).2
      omega
    · have := hs e
      omega
theorem cx_t_take {wk w9 : Nat} {nb ld la lm qh qh1 : Nat → Nat} {rr2 : Nat → Nat → Nat} (hw : w9 < 16) (h0 : 0 < qh w9) (hq : qh1 = va_up qh w9 (qh w9 - 1)) : cx_T wk w9 nb ld la lm qh la lm qh1 rr2 := by
  subst hq
  have h := xs_sum_up (f := qh) (v := qh w9 - 1) hw
  left
  omega
/-- what takeTurns answers -/
def cx_tt (k st : Nat) (lo lf1 : Nat → Int32) (nb nt : Nat → Nat) (lw lw1 v : Int32) : Prop := (v = 1 ∧ lw1 = lw ∧ ∀ s, ¬ lf1 s = 0 ↔ (lo s = (-1) ∧ ∃ t, lo t = nI k ∧ xe_C st nb nt t s)) ∨ (v = 0 ∧ nI 1 < lw ∧ lw1 = lw - nI 1)
theorem cx_dec {S S1 K fu : Nat} (h : S * 705 + K < fu + 1 + 1) (hs : S1 < S) : S1 * 705 + 704 < fu + 1 := ms_dec0 (c := 705) (d := 704) rfl h hs
end XCT
section XCU
theorem cx_gt1 {n : Nat} (h : nI 1 < nI n) : 1 < n := by
  rcases Nat.lt_or_ge 1 n with a | a
  · exact a
  · rcases (show n = 0 ∨ n = 1 by omega) with rfl | rfl
    · exact absurd h (by decide)
    · exact absurd h (by decide)
theorem cx_m0 {S : Nat} (h : S ≤ 1400) : S * 705 + 704 < 1000000 + 1 := by
  have h9 := Nat.mul_le_mul_right 705 h
  exact Nat.lt_of_le_of_lt (Nat.add_le_add_right h9 704) (by decide)
theorem cx_z {S K : Nat} (h : S * 705 + K < 0 + 1) : S = 0 := by
  rcases Nat.eq_zero_or_pos S with a | a
  · exact a
  · have h9 := Nat.mul_le_mul_right 705 a
    omega
theorem cx_o {wk : Nat} {q : Nat → Nat} (h : ∃ o, o < wk ∧ 0 < q o) : ∃ o, o < wk ∧ ¬ (fun _ : Nat => (1 : Int32)) o = 0 ∧ 0 < q o := by
  obtain ⟨o, a, b⟩ := h
  exact ⟨o, a, by show ¬ (1 : Int32) = 0; decide, b⟩
theorem cx_set_0 {lo lf1 : Nat → Int32} (hlo : lo 0 = (-1)) (h : cx_set lo (fun _ => nI 0) lf1 0) (s : Nat) : ¬ lf1 s = 0 ↔ s = 0 := by
  refine ⟨fun a => ?_, fun a => ?_⟩
  · rcases h.2.1 s a with b | b
    · exact absurd nI_0 b
    · exact b.1
  · rw [a]; exact h.2.2.resolve_left (fun z => z hlo)
theorem cx_X_V {E : Nat → Nat → Prop} {k lv : Nat} {lo : Nat → Int32} {lr lb : Nat → Nat} (h : cx_X E k lv lo lr lb) (hk : k < lv) : cx_V k lo lr (lb k) (lb (k + 1)) := by
  obtain ⟨-, -, a | a⟩ := h
  · omega
  · exact a.2.2
theorem cx_X_b {E : Nat → Nat → Prop} {k lv : Nat} {lo : Nat → Int32} {lr lb : Nat → Nat} (h : cx_X E k lv lo lr lb) (hk : k < lv) : lb k ≤ lb (k + 1) := by
  obtain ⟨-, -, a | a⟩ := h
  · omega
  · obtain ⟨-, ⟨s, hs⟩, v⟩ := a
    obtain ⟨q, x, y, -⟩ := v.2.1 s hs
    omega
theorem cx_X_lt {E : Nat → Nat → Prop} {k lv st : Nat} {lo : Nat → Int32} {lr lb : Nat → Nat} (hk : k < 1000) (hst : 0 < st) (hE : ∀ t s, E t s → s < st) (h : cx_X E k lv lo lr lb) (s : Nat) (hs : lo s = nI k) : s < st := xl_lt hst hE k s (by rw [← h.1, hs]; exact xs_nm1 (by omega))
/-- what run answers -/
def cx_rn (E : Nat → Nat → Prop) (st : Nat) (v : Int32) (o : Int64) : Prop := (st = 0 ∧ v = 1) ∨ (0 < st ∧ v = 0 ∧ ∃ n, o = (nI n).toInt64 ∧ xl_R E n)
end XCU
