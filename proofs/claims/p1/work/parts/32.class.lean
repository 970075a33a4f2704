set_option maxHeartbeats 4000000 in
set_option maxRecDepth 100000 in
/-- count(0) on a fresh one -/
theorem c_X_count0 (l : Launch) (D : va_G) (cI cB cL : ClassId) (h0 : Nat) (sx : Nat) (sn : Nat) (sp : Nat) (sc : Nat) (sq : Nat) (sl : Nat) (sv : Nat) (sg : Nat) (sw : Nat) (sk : Nat) (sb : Nat) (nb : Nat) (nt : Nat) (p1 : Nat) (p2 : Nat) (p3 : Nat) (cf : Nat) (cl : Nat) (ct : Nat) (ck : Nat) (cs : Nat) (qr : Nat) (qf : Nat) (qh : Nat) (lo : Nat) (lr : Nat) (lb : Nat) (lf : Nat) (g1 : Nat) (g2 : Nat) (g3 : Nat) (wk : Nat) (rm : Nat)  : xG (σ := Unit) l y_X_count w_X_count ({ frames := 0, cells := 0, slots := 0, locals := 0  } : Room) D vwCl (xs_tys cI cB cL) [.ref h0, .int (nI 0)] [(h0, .inr (0, [.ref sx, .ref sn, .ref sp, .ref sc])), (sx, .inr (9, [.ref sn, .ref sp, .ref sc, .ref sq, .ref sl, .ref sv, .ref sg, .ref sw, .ref sk, .ref sb, .int (nI 0)])), (sn, .inr (1, [.int (nI 0), .int (nI 0), .ref nb, .ref nt])), (sp, .inr (2, [.ref p1, .ref p2, .ref p3, .int (nI 0)])), (p1, .inl (cI, 20, .inl (fun _ => 0))), (p2, .inl (cI, 20, .inl (fun _ => 0))), (p3, .inl (cI, 20, .inl (fun _ => 0))), (sc, .inr (4, [.int (nI wk), .ref cf, .ref cl, .ref ct, .ref ck, .ref cs, .int (nI wk), .int (nI 0)])), (cl, .inl (cB, 16, .inl (fun _ => nI 1))), (ct, .inl (cI, 16, .inl (fun _ => 0))), (ck, .inl (cI, 16, .inl (fun _ => 0))), (cs, .inl (cI, 16, .inl (fun _ => 0))), (sq, .inr (5, [.int (nI rm), .ref qr, .ref qf, .ref qh, .int (nI 0)])), (sv, .inr (7, [.ref lo, .ref lr, .ref lb, .int (nI 0), .ref lf])), (lo, .inl (cI, 200, .inl (fun _ => (-1)))), (lb, .inl (cI, 201, .inl (fun _ => 0))), (lf, .inl (cB, 200, .inl (fun _ => 0))), (sg, .inr (3, [.ref g1, .ref g2, .ref g3, .int (nI 0)])), (sk, .inl (cI, 200, .inl (fun _ => 0)))] (fun _ => True) (fun _ => some (.int (nI wk))) (fun _ => []) := by
  refine xG.of b_X_count 2 (some .int) (by decide +kernel) rfl (Nat.le_of_ble_eq_true rfl) ?_
  intro p e s m below meth c A ls hAe C0 hP hD hS hl
  obtain ⟨hx, hb, hr, hml, hown, hlocks, hts, hnm, hN, hK, hA⟩ := C0
  have hU : ∀ w ∈ xU, w.before #[.ref h0, .int (nI 0)] s = true := fun w h => hts w (List.mem_cons_of_mem _ h)
  have hl : lv_has ls 2 [(0, .ref h0), (1, .int (nI 0))] := hl
  refine lv_iload_n hx hb d_X_count_0 rfl (lv_at hl 1 rfl) ?_
  refine lv_tableIn (off := 59) (tgt := 60) hx hb d_X_count_1 (by decide +kernel) (by decide +kernel) (by decide +kernel) (by decide) ?_
  refine lv_aload_n hx hb d_X_count_60 rfl (lv_at hl 0 rfl) ?_
  refine va_get (D := D) (ci := 0) (v := .ref sc) (C := R_X) (T := T_X) (N := 4) hx hb hU iw_X hown hK hP 0 rfl rfl 3 (by decide) (hU _ uw_310) (fun _ h9 => h9) rfl d_X_count_61 ?_
  refine va_getN (D := D) (ci := 4) (v := .int (nI wk)) (C := R_CR) (T := T_CR) (N := 8) hx hb hU iw_CR hown hK hP 7 rfl rfl 0 (by decide) (va_Nw.use rfl (hN _ nw_204)) (fun _ h9 => h9) rfl d_X_count_64 ?_
  have hP9 := xs_P_sub (w := []) hP [] rfl
  have hD9 := hD.sub (ws' := []) [] (by decide) rfl
  exact xw_iret () hx hb hr hlocks d_X_count_67 (rfl) (trivial) hAe hP9 hD9 hS (Nat.le_of_ble_eq_true rfl) (Nat.le_of_ble_eq_true rfl)
set_option maxHeartbeats 4000000 in
set_option maxRecDepth 100000 in
/-- count(1) on a fresh one -/
theorem c_X_count1 (l : Launch) (D : va_G) (cI cB cL : ClassId) (h0 : Nat) (sx : Nat) (sn : Nat) (sp : Nat) (sc : Nat) (sq : Nat) (sl : Nat) (sv : Nat) (sg : Nat) (sw : Nat) (sk : Nat) (sb : Nat) (nb : Nat) (nt : Nat) (p1 : Nat) (p2 : Nat) (p3 : Nat) (cf : Nat) (cl : Nat) (ct : Nat) (ck : Nat) (cs : Nat) (qr : Nat) (qf : Nat) (qh : Nat) (lo : Nat) (lr : Nat) (lb : Nat) (lf : Nat) (g1 : Nat) (g2 : Nat) (g3 : Nat) (wk : Nat) (rm : Nat)  : xG (σ := Unit) l y_X_count w_X_count ({ frames := 0, cells := 0, slots := 0, locals := 0  } : Room) D vwCl (xs_tys cI cB cL) [.ref h0, .int (nI 1)] [(h0, .inr (0, [.ref sx, .ref sn, .ref sp, .ref sc])), (sx, .inr (9, [.ref sn, .ref sp, .ref sc, .ref sq, .ref sl, .ref sv, .ref sg, .ref sw, .ref sk, .ref sb, .int (nI 0)])), (sn, .inr (1, [.int (nI 0), .int (nI 0), .ref nb, .ref nt])), (sp, .inr (2, [.ref p1, .ref p2, .ref p3, .int (nI 0)])), (p1, .inl (cI, 20, .inl (fun _ => 0))), (p2, .inl (cI, 20, .inl (fun _ => 0))), (p3, .inl (cI, 20, .inl (fun _ => 0))), (sc, .inr (4, [.int (nI wk), .ref cf, .ref cl, .ref ct, .ref ck, .ref cs, .int (nI wk), .int (nI 0)])), (cl, .inl (cB, 16, .inl (fun _ => nI 1))), (ct, .inl (cI, 16, .inl (fun _ => 0))), (ck, .inl (cI, 16, .inl (fun _ => 0))), (cs, .inl (cI, 16, .inl (fun _ => 0))), (sq, .inr (5, [.int (nI rm), .ref qr, .ref qf, .ref qh, .int (nI 0)])), (sv, .inr (7, [.ref lo, .ref lr, .ref lb, .int (nI 0), .ref lf])), (lo, .inl (cI, 200, .inl (fun _ => (-1)))), (lb, .inl (cI, 201, .inl (fun _ => 0))), (lf, .inl (cB, 200, .inl (fun _ => 0))), (sg, .inr (3, [.ref g1, .ref g2, .ref g3, .int (nI 0)])), (sk, .inl (cI, 200, .inl (fun _ => 0)))] (fun _ => True) (fun _ => some (.int (nI rm))) (fun _ => []) := by
  refine xG.of b_X_count 2 (some .int) (by decide +kernel) rfl (Nat.le_of_ble_eq_true rfl) ?_
  intro p e s m below meth c A ls hAe C0 hP hD hS hl
  obtain ⟨hx, hb, hr, hml, hown, hlocks, hts, hnm, hN, hK, hA⟩ := C0
  have hU : ∀ w ∈ xU, w.before #[.ref h0, .int (nI 1)] s = true := fun w h => hts w (List.mem_cons_of_mem _ h)
  have hl : lv_has ls 2 [(0, .ref h0), (1, .int (nI 1))] := hl
  refine lv_iload_n hx hb d_X_count_0 rfl (lv_at hl 1 rfl) ?_
  refine lv_tableIn (off := 67) (tgt := 68) hx hb d_X_count_1 (by decide +kernel) (by decide +kernel) (by decide +kernel) (by decide) ?_
  refine lv_aload_n hx hb d_X_count_68 rfl (lv_at hl 0 rfl) ?_
  refine va_get (D := D) (ci := 0) (v := .ref sx) (C := R_X) (T := T_X) (N := 4) hx hb hU iw_X hown hK hP 0 rfl rfl 0 (by decide) (hU _ uw_307) (fun _ h9 => h9) rfl d_X_count_69 ?_
  refine va_getN (D := D) (ci := 9) (v := .ref sq) (C := R_SE) (T := T_SE) (N := 11) hx hb hU iw_SE hown hK hP 1 rfl rfl 3 (by decide) (va_Nw.use rfl (hN _ nw_272)) (fun _ h9 => h9) rfl d_X_count_72 ?_
  refine va_getN (D := D) (ci := 5) (v := .int (nI rm)) (C := R_QU) (T := T_QU) (N := 5) hx hb hU iw_QU hown hK hP 12 rfl rfl 0 (by decide) (va_Nw.use rfl (hN _ nw_247)) (fun _ h9 => h9) rfl d_X_count_75 ?_
  have hP9 := xs_P_sub (w := []) hP [] rfl
  have hD9 := hD.sub (ws' := []) [] (by decide) rfl
  exact xw_iret () hx hb hr hlocks d_X_count_78 (rfl) (trivial) hAe hP9 hD9 hS (Nat.le_of_ble_eq_true rfl) (Nat.le_of_ble_eq_true rfl)
set_option maxHeartbeats 4000000 in
set_option maxRecDepth 100000 in
/-- count(2) on a fresh one -/
theorem c_X_count2 (l : Launch) (D : va_G) (cI cB cL : ClassId) (h0 : Nat) (sx : Nat) (sn : Nat) (sp : Nat) (sc : Nat) (sq : Nat) (sl : Nat) (sv : Nat) (sg : Nat) (sw : Nat) (sk : Nat) (sb : Nat) (nb : Nat) (nt : Nat) (p1 : Nat) (p2 : Nat) (p3 : Nat) (cf : Nat) (cl : Nat) (ct : Nat) (ck : Nat) (cs : Nat) (qr : Nat) (qf : Nat) (qh : Nat) (lo : Nat) (lr : Nat) (lb : Nat) (lf : Nat) (g1 : Nat) (g2 : Nat) (g3 : Nat) (wk : Nat) (rm : Nat)  : xG (σ := Unit) l y_X_count w_X_count ({ frames := 0, cells := 0, slots := 0, locals := 0  } : Room) D vwCl (xs_tys cI cB cL) [.ref h0, .int (nI 2)] [(h0, .inr (0, [.ref sx, .ref sn, .ref sp, .ref sc])), (sx, .inr (9, [.ref sn, .ref sp, .ref sc, .ref sq, .ref sl, .ref sv, .ref sg, .ref sw, .ref sk, .ref sb, .int (nI 0)])), (sn, .inr (1, [.int (nI 0), .int (nI 0), .ref nb, .ref nt])), (sp, .inr (2, [.ref p1, .ref p2, .ref p3, .int (nI 0)])), (p1, .inl (cI, 20, .inl (fun _ => 0))), (p2, .inl (cI, 20, .inl (fun _ => 0))), (p3, .inl (cI, 20, .inl (fun _ => 0))), (sc, .inr (4, [.int (nI wk), .ref cf, .ref cl, .ref ct, .ref ck, .ref cs, .int (nI wk), .int (nI 0)])), (cl, .inl (cB, 16, .inl (fun _ => nI 1))), (ct, .inl (cI, 16, .inl (fun _ => 0))), (ck, .inl (cI, 16, .inl (fun _ => 0))), (cs, .inl (cI, 16, .inl (fun _ => 0))), (sq, .inr (5, [.int (nI rm), .ref qr, .ref qf, .ref qh, .int (nI 0)])), (sv, .inr (7, [.ref lo, .ref lr, .ref lb, .int (nI 0), .ref lf])), (lo, .inl (cI, 200, .inl (fun _ => (-1)))), (lb, .inl (cI, 201, .inl (fun _ => 0))), (lf, .inl (cB, 200, .inl (fun _ => 0))), (sg, .inr (3, [.ref g1, .ref g2, .ref g3, .int (nI 0)])), (sk, .inl (cI, 200, .inl (fun _ => 0)))] (fun _ => True) (fun _ => some (.int (nI 0))) (fun _ => []) := by
  refine xG.of b_X_count 2 (some .int) (by decide +kernel) rfl (Nat.le_of_ble_eq_true rfl) ?_
  intro p e s m below meth c A ls hAe C0 hP hD hS hl
  obtain ⟨hx, hb, hr, hml, hown, hlocks, hts, hnm, hN, hK, hA⟩ := C0
  have hU : ∀ w ∈ xU, w.before #[.ref h0, .int (nI 2)] s = true := fun w h => hts w (List.mem_cons_of_mem _ h)
  have hl : lv_has ls 2 [(0, .ref h0), (1, .int (nI 2))] := hl
  refine lv_iload_n hx hb d_X_count_0 rfl (lv_at hl 1 rfl) ?_
  refine lv_tableIn (off := 78) (tgt := 79) hx hb d_X_count_1 (by decide +kernel) (by decide +kernel) (by decide +kernel) (by decide) ?_
  refine lv_aload_n hx hb d_X_count_79 rfl (lv_at hl 0 rfl) ?_
  refine va_get (D := D) (ci := 0) (v := .ref sn) (C := R_X) (T := T_X) (N := 4) hx hb hU iw_X hown hK hP 0 rfl rfl 1 (by decide) (hU _ uw_308) (fun _ h9 => h9) rfl d_X_count_80 ?_
  refine va_getN (D := D) (ci := 1) (v := .int (nI 0)) (C := R_NET) (T := T_NET) (N := 4) hx hb hU iw_NET hown hK hP 2 rfl rfl 0 (by decide) (va_Nw.use rfl (hN _ nw_44)) (fun _ h9 => h9) rfl d_X_count_83 ?_
  have hP9 := xs_P_sub (w := []) hP [] rfl
  have hD9 := hD.sub (ws' := []) [] (by decide) rfl
  exact xw_iret () hx hb hr hlocks d_X_count_86 (rfl) (trivial) hAe hP9 hD9 hS (Nat.le_of_ble_eq_true rfl) (Nat.le_of_ble_eq_true rfl)
set_option maxHeartbeats 4000000 in
set_option maxRecDepth 100000 in
/-- count(3) on a fresh one -/
theorem c_X_count3 (l : Launch) (D : va_G) (cI cB cL : ClassId) (h0 : Nat) (sx : Nat) (sn : Nat) (sp : Nat) (sc : Nat) (sq : Nat) (sl : Nat) (sv : Nat) (sg : Nat) (sw : Nat) (sk : Nat) (sb : Nat) (nb : Nat) (nt : Nat) (p1 : Nat) (p2 : Nat) (p3 : Nat) (cf : Nat) (cl : Nat) (ct : Nat) (ck : Nat) (cs : Nat) (qr : Nat) (qf : Nat) (qh : Nat) (lo : Nat) (lr : Nat) (lb : Nat) (lf : Nat) (g1 : Nat) (g2 : Nat) (g3 : Nat) (wk : Nat) (rm : Nat)  : xG (σ := Unit) l y_X_count w_X_count ({ frames := 0, cells := 0, slots := 0, locals := 0  } : Room) D vwCl (xs_tys cI cB cL) [.ref h0, .int (nI 3)] [(h0, .inr (0, [.ref sx, .ref sn, .ref sp, .ref sc])), (sx, .inr (9, [.ref sn, .ref sp, .ref sc, .ref sq, .ref sl, .ref sv, .ref sg, .ref sw, .ref sk, .ref sb, .int (nI 0)])), (sn, .inr (1, [.int (nI 0), .int (nI 0), .ref nb, .ref nt])), (sp, .inr (2, [.ref p1, .ref p2, .ref p3, .int (nI 0)])), (p1, .inl (cI, 20, .inl (fun _ => 0))), (p2, .inl (cI, 20, .inl (fun _ => 0))), (p3, .inl (cI, 20, .inl (fun _ => 0))), (sc, .inr (4, [.int (nI wk), .ref cf, .ref cl, .ref ct, .ref ck, .ref cs, .int (nI wk), .int (nI 0)])), (cl, .inl (cB, 16, .inl (fun _ => nI 1))), (ct, .inl (cI, 16, .inl (fun _ => 0))), (ck, .inl (cI, 16, .inl (fun _ => 0))), (cs, .inl (cI, 16, .inl (fun _ => 0))), (sq, .inr (5, [.int (nI rm), .ref qr, .ref qf, .ref qh, .int (nI 0)])), (sv, .inr (7, [.ref lo, .ref lr, .ref lb, .int (nI 0), .ref lf])), (lo, .inl (cI, 200, .inl (fun _ => (-1)))), (lb, .inl (cI, 201, .inl (fun _ => 0))), (lf, .inl (cB, 200, .inl (fun _ => 0))), (sg, .inr (3, [.ref g1, .ref g2, .ref g3, .int (nI 0)])), (sk, .inl (cI, 200, .inl (fun _ => 0)))] (fun _ => True) (fun _ => some (.int (nI 0))) (fun _ => []) := by
  refine xG.of b_X_count 2 (some .int) (by decide +kernel) rfl (Nat.le_of_ble_eq_true rfl) ?_
  intro p e s m below meth c A ls hAe C0 hP hD hS hl
  obtain ⟨hx, hb, hr, hml, hown, hlocks, hts, hnm, hN, hK, hA⟩ := C0
  have hU : ∀ w ∈ xU, w.before #[.ref h0, .int (nI 3)] s = true := fun w h => hts w (List.mem_cons_of_mem _ h)
  have hl : lv_has ls 2 [(0, .ref h0), (1, .int (nI 3))] := hl
  refine lv_iload_n hx hb d_X_count_0 rfl (lv_at hl 1 rfl) ?_
  refine lv_tableIn (off := 86) (tgt := 87) hx hb d_X_count_1 (by decide +kernel) (by decide +kernel) (by decide +kernel) (by decide) ?_
  refine lv_aload_n hx hb d_X_count_87 rfl (lv_at hl 0 rfl) ?_
  refine va_get (D := D) (ci := 0) (v := .ref sn) (C := R_X) (T := T_X) (N := 4) hx hb hU iw_X hown hK hP 0 rfl rfl 1 (by decide) (hU _ uw_308) (fun _ h9 => h9) rfl d_X_count_88 ?_
  refine va_getN (D := D) (ci := 1) (v := .int (nI 0)) (C := R_NET) (T := T_NET) (N := 4) hx hb hU iw_NET hown hK hP 2 rfl rfl 1 (by decide) (va_Nw.use rfl (hN _ nw_47)) (fun _ h9 => h9) rfl d_X_count_91 ?_
  have hP9 := xs_P_sub (w := []) hP [] rfl
  have hD9 := hD.sub (ws' := []) [] (by decide) rfl
  exact xw_iret () hx hb hr hlocks d_X_count_94 (rfl) (trivial) hAe hP9 hD9 hS (Nat.le_of_ble_eq_true rfl) (Nat.le_of_ble_eq_true rfl)
set_option maxHeartbeats 4000000 in
set_option maxRecDepth 100000 in
/-- count(4) on a fresh one -/
theorem c_X_count4 (l : Launch) (D : va_G) (cI cB cL : ClassId) (h0 : Nat) (sx : Nat) (sn : Nat) (sp : Nat) (sc : Nat) (sq : Nat) (sl : Nat) (sv : Nat) (sg : Nat) (sw : Nat) (sk : Nat) (sb : Nat) (nb : Nat) (nt : Nat) (p1 : Nat) (p2 : Nat) (p3 : Nat) (cf : Nat) (cl : Nat) (ct : Nat) (ck : Nat) (cs : Nat) (qr : Nat) (qf : Nat) (qh : Nat) (lo : Nat) (lr : Nat) (lb : Nat) (lf : Nat) (g1 : Nat) (g2 : Nat) (g3 : Nat) (wk : Nat) (rm : Nat)  : xG (σ := Unit) l y_X_count w_X_count ({ frames := 0, cells := 0, slots := 0, locals := 0  } : Room) D vwCl (xs_tys cI cB cL) [.ref h0, .int (nI 4)] [(h0, .inr (0, [.ref sx, .ref sn, .ref sp, .ref sc])), (sx, .inr (9, [.ref sn, .ref sp, .ref sc, .ref sq, .ref sl, .ref sv, .ref sg, .ref sw, .ref sk, .ref sb, .int (nI 0)])), (sn, .inr (1, [.int (nI 0), .int (nI 0), .ref nb, .ref nt])), (sp, .inr (2, [.ref p1, .ref p2, .ref p3, .int (nI 0)])), (p1, .inl (cI, 20, .inl (fun _ => 0))), (p2, .inl (cI, 20, .inl (fun _ => 0))), (p3, .inl (cI, 20, .inl (fun _ => 0))), (sc, .inr (4, [.int (nI wk), .ref cf, .ref cl, .ref ct, .ref ck, .ref cs, .int (nI wk), .int (nI 0)])), (cl, .inl (cB, 16, .inl (fun _ => nI 1))), (ct, .inl (cI, 16, .inl (fun _ => 0))), (ck, .inl (cI, 16, .inl (fun _ => 0))), (cs, .inl (cI, 16, .inl (fun _ => 0))), (sq, .inr (5, [.int (nI rm), .ref qr, .ref qf, .ref qh, .int (nI 0)])), (sv, .inr (7, [.ref lo, .ref lr, .ref lb, .int (nI 0), .ref lf])), (lo, .inl (cI, 200, .inl (fun _ => (-1)))), (lb, .inl (cI, 201, .inl (fun _ => 0))), (lf, .inl (cB, 200, .inl (fun _ => 0))), (sg, .inr (3, [.ref g1, .ref g2, .ref g3, .int (nI 0)])), (sk, .inl (cI, 200, .inl (fun _ => 0)))] (fun _ => True) (fun _ => some (.int (nI 0))) (fun _ => []) := by
  refine xG.of b_X_count 2 (some .int) (by decide +kernel) rfl (Nat.le_of_ble_eq_true rfl) ?_
  intro p e s m below meth c A ls hAe C0 hP hD hS hl
  obtain ⟨hx, hb, hr, hml, hown, hlocks, hts, hnm, hN, hK, hA⟩ := C0
  have hU : ∀ w ∈ xU, w.before #[.ref h0, .int (nI 4)] s = true := fun w h => hts w (List.mem_cons_of_mem _ h)
  have hl : lv_has ls 2 [(0, .ref h0), (1, .int (nI 4))] := hl
  refine lv_iload_n hx hb d_X_count_0 rfl (lv_at hl 1 rfl) ?_
  refine lv_tableIn (off := 94) (tgt := 95) hx hb d_X_count_1 (by decide +kernel) (by decide +kernel) (by decide +kernel) (by decide) ?_
  refine lv_aload_n hx hb d_X_count_95 rfl (lv_at hl 0 rfl) ?_
  refine va_get (D := D) (ci := 0) (v := .ref sp) (C := R_X) (T := T_X) (N := 4) hx hb hU iw_X hown hK hP 0 rfl rfl 2 (by decide) (hU _ uw_309) (fun _ h9 => h9) rfl d_X_count_96 ?_
  refine va_getN (D := D) (ci := 2) (v := .int (nI 0)) (C := R_FP) (T := T_FP) (N := 4) hx hb hU iw_FP hown hK hP 3 rfl rfl 3 (by decide) (va_Nw.use rfl (hN _ nw_75)) (fun _ h9 => h9) rfl d_X_count_99 ?_
  have hP9 := xs_P_sub (w := []) hP [] rfl
  have hD9 := hD.sub (ws' := []) [] (by decide) rfl
  exact xw_iret () hx hb hr hlocks d_X_count_102 (rfl) (trivial) hAe hP9 hD9 hS (Nat.le_of_ble_eq_true rfl) (Nat.le_of_ble_eq_true rfl)
set_option maxHeartbeats 4000000 in
set_option maxRecDepth 100000 in
/-- count(5) on a fresh one -/
theorem c_X_count5 (l : Launch) (D : va_G) (cI cB cL : ClassId) (h0 : Nat) (sx : Nat) (sn : Nat) (sp : Nat) (sc : Nat) (sq : Nat) (sl : Nat) (sv : Nat) (sg : Nat) (sw : Nat) (sk : Nat) (sb : Nat) (nb : Nat) (nt : Nat) (p1 : Nat) (p2 : Nat) (p3 : Nat) (cf : Nat) (cl : Nat) (ct : Nat) (ck : Nat) (cs : Nat) (qr : Nat) (qf : Nat) (qh : Nat) (lo : Nat) (lr : Nat) (lb : Nat) (lf : Nat) (g1 : Nat) (g2 : Nat) (g3 : Nat) (wk : Nat) (rm : Nat)  : xG (σ := Unit) l y_X_count w_X_count ({ frames := 1, cells := 0, slots := 0, locals := 20  } : Room) D vwCl (xs_tys cI cB cL) [.ref h0, .int (nI 5)] [(h0, .inr (0, [.ref sx, .ref sn, .ref sp, .ref sc])), (sx, .inr (9, [.ref sn, .ref sp, .ref sc, .ref sq, .ref sl, .ref sv, .ref sg, .ref sw, .ref sk, .ref sb, .int (nI 0)])), (sn, .inr (1, [.int (nI 0), .int (nI 0), .ref nb, .ref nt])), (sp, .inr (2, [.ref p1, .ref p2, .ref p3, .int (nI 0)])), (p1, .inl (cI, 20, .inl (fun _ => 0))), (p2, .inl (cI, 20, .inl (fun _ => 0))), (p3, .inl (cI, 20, .inl (fun _ => 0))), (sc, .inr (4, [.int (nI wk), .ref cf, .ref cl, .ref ct, .ref ck, .ref cs, .int (nI wk), .int (nI 0)])), (cl, .inl (cB, 16, .inl (fun _ => nI 1))), (ct, .inl (cI, 16, .inl (fun _ => 0))), (ck, .inl (cI, 16, .inl (fun _ => 0))), (cs, .inl (cI, 16, .inl (fun _ => 0))), (sq, .inr (5, [.int (nI rm), .ref qr, .ref qf, .ref qh, .int (nI 0)])), (sv, .inr (7, [.ref lo, .ref lr, .ref lb, .int (nI 0), .ref lf])), (lo, .inl (cI, 200, .inl (fun _ => (-1)))), (lb, .inl (cI, 201, .inl (fun _ => 0))), (lf, .inl (cB, 200, .inl (fun _ => 0))), (sg, .inr (3, [.ref g1, .ref g2, .ref g3, .int (nI 0)])), (sk, .inl (cI, 200, .inl (fun _ => 0)))] (fun _ => True) (fun _ => some (.int (nI 0))) (fun _ => []) := by
  refine xG.of b_X_count 2 (some .int) (by decide +kernel) rfl (Nat.le_of_ble_eq_true rfl) ?_
  intro p e s m below meth c A ls hAe C0 hP hD hS hl
  obtain ⟨hx, hb, hr, hml, hown, hlocks, hts, hnm, hN, hK, hA⟩ := C0
  have hU : ∀ w ∈ xU, w.before #[.ref h0, .int (nI 5)] s = true := fun w h => hts w (List.mem_cons_of_mem _ h)
  have hl : lv_has ls 2 [(0, .ref h0), (1, .int (nI 5))] := hl
  refine lv_iload_n hx hb d_X_count_0 rfl (lv_at hl 1 rfl) ?_
  refine lv_tableIn (off := 102) (tgt := 103) hx hb d_X_count_1 (by decide +kernel) (by decide +kernel) (by decide +kernel) (by decide) ?_
  refine lv_aload_n hx hb d_X_count_103 rfl (lv_at hl 0 rfl) ?_
  refine va_get (D := D) (ci := 0) (v := .ref sx) (C := R_X) (T := T_X) (N := 4) hx hb hU iw_X hown hK hP 0 rfl rfl 0 (by decide) (hU _ uw_307) (fun _ h9 => h9) rfl d_X_count_104 ?_
  refine va_getN (D := D) (ci := 9) (v := .ref sv) (C := R_SE) (T := T_SE) (N := 11) hx hb hU iw_SE hown hK hP 1 rfl rfl 5 (by decide) (va_Nw.use rfl (hN _ nw_275)) (fun _ h9 => h9) rfl d_X_count_107 ?_
  refine xw_callV (C := R_LE) (wr := [(h0, .inr (0, [.ref sx, .ref sn, .ref sp, .ref sc])), (sx, .inr (9, [.ref sn, .ref sp, .ref sc, .ref sq, .ref sl, .ref sv, .ref sg, .ref sw, .ref sk, .ref sb, .int (nI 0)])), (sn, .inr (1, [.int (nI 0), .int (nI 0), .ref nb, .ref nt])), (sp, .inr (2, [.ref p1, .ref p2, .ref p3, .int (nI 0)])), (p1, .inl (cI, 20, .inl (fun _ => 0))), (p2, .inl (cI, 20, .inl (fun _ => 0))), (p3, .inl (cI, 20, .inl (fun _ => 0))), (sc, .inr (4, [.int (nI wk), .ref cf, .ref cl, .ref ct, .ref ck, .ref cs, .int (nI wk), .int (nI 0)])), (cl, .inl (cB, 16, .inl (fun _ => nI 1))), (ct, .inl (cI, 16, .inl (fun _ => 0))), (ck, .inl (cI, 16, .inl (fun _ => 0))), (cs, .inl (cI, 16, .inl (fun _ => 0))), (sq, .inr (5, [.int (nI rm), .ref qr, .ref qf, .ref qh, .int (nI 0)])), (lo, .inl (cI, 200, .inl (fun _ => (-1)))), (lf, .inl (cB, 200, .inl (fun _ => 0))), (sg, .inr (3, [.ref g1, .ref g2, .ref g3, .int (nI 0)])), (sk, .inl (cI, 200, .inl (fun _ => 0)))]) [] (c_LE_cameInAll0 l D cI cB cL sv lo lr lb lf) ⟨hx, hb, hml, hown, hU⟩ (cwV 0 hU (xs_goodV uw_324 uw_325 uw_326 uw_7 uw_327) rfl rfl rfl (by decide +kernel) ⟨Nat.le_of_ble_eq_true rfl, Nat.le_of_ble_eq_true rfl⟩) 13 rfl rfl rfl rfl hl.1 rfl (Nat.le_of_ble_eq_true rfl) d_X_count_110 ⟨Nat.le_of_ble_eq_true rfl, Nat.le_of_ble_eq_true rfl⟩ [13, 15] [0, 1, 2, 3, 4, 5, 6, 7, 8, 9, 10, 11, 12, 14, 16, 17, 18] rfl rfl (by decide) (by decide) (by decide) hN hK hP hD hS hA (fun u H locs hf hP hD hS => ?_)
  have hP : va_P D vwCl [(h0, .inr (0, [.ref sx, .ref sn, .ref sp, .ref sc])), (sx, .inr (9, [.ref sn, .ref sp, .ref sc, .ref sq, .ref sl, .ref sv, .ref sg, .ref sw, .ref sk, .ref sb, .int (nI 0)])), (sn, .inr (1, [.int (nI 0), .int (nI 0), .ref nb, .ref nt])), (sp, .inr (2, [.ref p1, .ref p2, .ref p3, .int (nI 0)])), (p1, .inl (cI, 20, .inl (fun _ => 0))), (p2, .inl (cI, 20, .inl (fun _ => 0))), (p3, .inl (cI, 20, .inl (fun _ => 0))), (sc, .inr (4, [.int (nI wk), .ref cf, .ref cl, .ref ct, .ref ck, .ref cs, .int (nI wk), .int (nI 0)])), (cl, .inl (cB, 16, .inl (fun _ => nI 1))), (ct, .inl (cI, 16, .inl (fun _ => 0))), (ck, .inl (cI, 16, .inl (fun _ => 0))), (cs, .inl (cI, 16, .inl (fun _ => 0))), (sq, .inr (5, [.int (nI rm), .ref qr, .ref qf, .ref qh, .int (nI 0)])), (lo, .inl (cI, 200, .inl (fun _ => (-1)))), (lf, .inl (cB, 200, .inl (fun _ => 0))), (sg, .inr (3, [.ref g1, .ref g2, .ref g3, .int (nI 0)])), (sk, .inl (cI, 200, .inl (fun _ => 0))), (sv, .inr (7, [.ref lo, .ref lr, .ref lb, .int (nI 0), .ref lf])), (lb, .inl (cI, 201, .inl (fun _ => 0)))] H := hP
  have hD : va_D A [(h0, .inr (0, [.ref sx, .ref sn, .ref sp, .ref sc])), (sx, .inr (9, [.ref sn, .ref sp, .ref sc, .ref sq, .ref sl, .ref sv, .ref sg, .ref sw, .ref sk, .ref sb, .int (nI 0)])), (sn, .inr (1, [.int (nI 0), .int (nI 0), .ref nb, .ref nt])), (sp, .inr (2, [.ref p1, .ref p2, .ref p3, .int (nI 0)])), (p1, .inl (cI, 20, .inl (fun _ => 0))), (p2, .inl (cI, 20, .inl (fun _ => 0))), (p3, .inl (cI, 20, .inl (fun _ => 0))), (sc, .inr (4, [.int (nI wk), .ref cf, .ref cl, .ref ct, .ref ck, .ref cs, .int (nI wk), .int (nI 0)])), (cl, .inl (cB, 16, .inl (fun _ => nI 1))), (ct, .inl (cI, 16, .inl (fun _ => 0))), (ck, .inl (cI, 16, .inl (fun _ => 0))), (cs, .inl (cI, 16, .inl (fun _ => 0))), (sq, .inr (5, [.int (nI rm), .ref qr, .ref qf, .ref qh, .int (nI 0)])), (lo, .inl (cI, 200, .inl (fun _ => (-1)))), (lf, .inl (cB, 200, .inl (fun _ => 0))), (sg, .inr (3, [.ref g1, .ref g2, .ref g3, .int (nI 0)])), (sk, .inl (cI, 200, .inl (fun _ => 0))), (sv, .inr (7, [.ref lo, .ref lr, .ref lb, .int (nI 0), .ref lf])), (lb, .inl (cI, 201, .inl (fun _ => 0)))] := hD
  refine W.widen (k := 0) (n := 0) (Nat.le_of_ble_eq_true rfl) (Nat.le_of_ble_eq_true rfl) ?_
  refine W.eq (g2 := F0 m 113 ls [.int (nI 0)]) rfl ?_
  have hP9 := xs_P_sub (w := []) hP [] rfl
  have hD9 := hD.sub (ws' := []) [] (by decide) rfl
  exact xw_iret () hx hb hr hlocks d_X_count_113 (rfl) (trivial) hAe hP9 hD9 hS (Nat.le_of_ble_eq_true rfl) (Nat.le_of_ble_eq_true rfl)
set_option maxHeartbeats 4000000 in
set_option maxRecDepth 100000 in
/-- count(6) on a fresh one -/
theorem c_X_count6 (l : Launch) (D : va_G) (cI cB cL : ClassId) (h0 : Nat) (sx : Nat) (sn : Nat) (sp : Nat) (sc : Nat) (sq : Nat) (sl : Nat) (sv : Nat) (sg : Nat) (sw : Nat) (sk : Nat) (sb : Nat) (nb : Nat) (nt : Nat) (p1 : Nat) (p2 : Nat) (p3 : Nat) (cf : Nat) (cl : Nat) (ct : Nat) (ck : Nat) (cs : Nat) (qr : Nat) (qf : Nat) (qh : Nat) (lo : Nat) (lr : Nat) (lb : Nat) (lf : Nat) (g1 : Nat) (g2 : Nat) (g3 : Nat) (wk : Nat) (rm : Nat)  : xG (σ := Unit) l y_X_count w_X_count ({ frames := 0, cells := 0, slots := 0, locals := 0  } : Room) D vwCl (xs_tys cI cB cL) [.ref h0, .int (nI 6)] [(h0, .inr (0, [.ref sx, .ref sn, .ref sp, .ref sc])), (sx, .inr (9, [.ref sn, .ref sp, .ref sc, .ref sq, .ref sl, .ref sv, .ref sg, .ref sw, .ref sk, .ref sb, .int (nI 0)])), (sn, .inr (1, [.int (nI 0), .int (nI 0), .ref nb, .ref nt])), (sp, .inr (2, [.ref p1, .ref p2, .ref p3, .int (nI 0)])), (p1, .inl (cI, 20, .inl (fun _ => 0))), (p2, .inl (cI, 20, .inl (fun _ => 0))), (p3, .inl (cI, 20, .inl (fun _ => 0))), (sc, .inr (4, [.int (nI wk), .ref cf, .ref cl, .ref ct, .ref ck, .ref cs, .int (nI wk), .int (nI 0)])), (cl, .inl (cB, 16, .inl (fun _ => nI 1))), (ct, .inl (cI, 16, .inl (fun _ => 0))), (ck, .inl (cI, 16, .inl (fun _ => 0))), (cs, .inl (cI, 16, .inl (fun _ => 0))), (sq, .inr (5, [.int (nI rm), .ref qr, .ref qf, .ref qh, .int (nI 0)])), (sv, .inr (7, [.ref lo, .ref lr, .ref lb, .int (nI 0), .ref lf])), (lo, .inl (cI, 200, .inl (fun _ => (-1)))), (lb, .inl (cI, 201, .inl (fun _ => 0))), (lf, .inl (cB, 200, .inl (fun _ => 0))), (sg, .inr (3, [.ref g1, .ref g2, .ref g3, .int (nI 0)])), (sk, .inl (cI, 200, .inl (fun _ => 0)))] (fun _ => True) (fun _ => some (.int (nI 0))) (fun _ => []) := by
  refine xG.of b_X_count 2 (some .int) (by decide +kernel) rfl (Nat.le_of_ble_eq_true rfl) ?_
  intro p e s m below meth c A ls hAe C0 hP hD hS hl
  obtain ⟨hx, hb, hr, hml, hown, hlocks, hts, hnm, hN, hK, hA⟩ := C0
  have hU : ∀ w ∈ xU, w.before #[.ref h0, .int (nI 6)] s = true := fun w h => hts w (List.mem_cons_of_mem _ h)
  have hl : lv_has ls 2 [(0, .ref h0), (1, .int (nI 6))] := hl
  refine lv_iload_n hx hb d_X_count_0 rfl (lv_at hl 1 rfl) ?_
  refine lv_tableIn (off := 113) (tgt := 114) hx hb d_X_count_1 (by decide +kernel) (by decide +kernel) (by decide +kernel) (by decide) ?_
  refine lv_aload_n hx hb d_X_count_114 rfl (lv_at hl 0 rfl) ?_
  refine va_get (D := D) (ci := 0) (v := .ref sx) (C := R_X) (T := T_X) (N := 4) hx hb hU iw_X hown hK hP 0 rfl rfl 0 (by decide) (hU _ uw_307) (fun _ h9 => h9) rfl d_X_count_115 ?_
  refine va_getN (D := D) (ci := 9) (v := .ref sv) (C := R_SE) (T := T_SE) (N := 11) hx hb hU iw_SE hown hK hP 1 rfl rfl 5 (by decide) (va_Nw.use rfl (hN _ nw_275)) (fun _ h9 => h9) rfl d_X_count_118 ?_
  refine va_getN (D := D) (ci := 7) (v := .int (nI 0)) (C := R_LE) (T := T_LE) (N := 5) hx hb hU iw_LE hown hK hP 13 rfl rfl 3 (by decide) (va_Nw.use rfl (hN _ nw_137)) (fun _ h9 => h9) rfl d_X_count_121 ?_
  have hP9 := xs_P_sub (w := []) hP [] rfl
  have hD9 := hD.sub (ws' := []) [] (by decide) rfl
  exact xw_iret () hx hb hr hlocks d_X_count_124 (rfl) (trivial) hAe hP9 hD9 hS (Nat.le_of_ble_eq_true rfl) (Nat.le_of_ble_eq_true rfl)
set_option maxHeartbeats 4000000 in
set_option maxRecDepth 100000 in
/-- count(7) on a fresh one -/
theorem c_X_count7 (l : Launch) (D : va_G) (cI cB cL : ClassId) (h0 : Nat) (sx : Nat) (sn : Nat) (sp : Nat) (sc : Nat) (sq : Nat) (sl : Nat) (sv : Nat) (sg : Nat) (sw : Nat) (sk : Nat) (sb : Nat) (nb : Nat) (nt : Nat) (p1 : Nat) (p2 : Nat) (p3 : Nat) (cf : Nat) (cl : Nat) (ct : Nat) (ck : Nat) (cs : Nat) (qr : Nat) (qf : Nat) (qh : Nat) (lo : Nat) (lr : Nat) (lb : Nat) (lf : Nat) (g1 : Nat) (g2 : Nat) (g3 : Nat) (wk : Nat) (rm : Nat)  : xG (σ := Unit) l y_X_count w_X_count ({ frames := 0, cells := 0, slots := 0, locals := 0  } : Room) D vwCl (xs_tys cI cB cL) [.ref h0, .int (nI 7)] [(h0, .inr (0, [.ref sx, .ref sn, .ref sp, .ref sc])), (sx, .inr (9, [.ref sn, .ref sp, .ref sc, .ref sq, .ref sl, .ref sv, .ref sg, .ref sw, .ref sk, .ref sb, .int (nI 0)])), (sn, .inr (1, [.int (nI 0), .int (nI 0), .ref nb, .ref nt])), (sp, .inr (2, [.ref p1, .ref p2, .ref p3, .int (nI 0)])), (p1, .inl (cI, 20, .inl (fun _ => 0))), (p2, .inl (cI, 20, .inl (fun _ => 0))), (p3, .inl (cI, 20, .inl (fun _ => 0))), (sc, .inr (4, [.int (nI wk), .ref cf, .ref cl, .ref ct, .ref ck, .ref cs, .int (nI wk), .int (nI 0)])), (cl, .inl (cB, 16, .inl (fun _ => nI 1))), (ct, .inl (cI, 16, .inl (fun _ => 0))), (ck, .inl (cI, 16, .inl (fun _ => 0))), (cs, .inl (cI, 16, .inl (fun _ => 0))), (sq, .inr (5, [.int (nI rm), .ref qr, .ref qf, .ref qh, .int (nI 0)])), (sv, .inr (7, [.ref lo, .ref lr, .ref lb, .int (nI 0), .ref lf])), (lo, .inl (cI, 200, .inl (fun _ => (-1)))), (lb, .inl (cI, 201, .inl (fun _ => 0))), (lf, .inl (cB, 200, .inl (fun _ => 0))), (sg, .inr (3, [.ref g1, .ref g2, .ref g3, .int (nI 0)])), (sk, .inl (cI, 200, .inl (fun _ => 0)))] (fun _ => True) (fun _ => some (.int (nI 0))) (fun _ => []) := by
  refine xG.of b_X_count 2 (some .int) (by decide +kernel) rfl (Nat.le_of_ble_eq_true rfl) ?_
  intro p e s m below meth c A ls hAe C0 hP hD hS hl
  obtain ⟨hx, hb, hr, hml, hown, hlocks, hts, hnm, hN, hK, hA⟩ := C0
  have hU : ∀ w ∈ xU, w.before #[.ref h0, .int (nI 7)] s = true := fun w h => hts w (List.mem_cons_of_mem _ h)
  have hl : lv_has ls 2 [(0, .ref h0), (1, .int (nI 7))] := hl
  refine lv_iload_n hx hb d_X_count_0 rfl (lv_at hl 1 rfl) ?_
  refine lv_tableIn (off := 124) (tgt := 125) hx hb d_X_count_1 (by decide +kernel) (by decide +kernel) (by decide +kernel) (by decide) ?_
  refine lv_aload_n hx hb d_X_count_125 rfl (lv_at hl 0 rfl) ?_
  refine va_get (D := D) (ci := 0) (v := .ref sc) (C := R_X) (T := T_X) (N := 4) hx hb hU iw_X hown hK hP 0 rfl rfl 3 (by decide) (hU _ uw_310) (fun _ h9 => h9) rfl d_X_count_126 ?_
  refine va_getN (D := D) (ci := 4) (v := .int (nI 0)) (C := R_CR) (T := T_CR) (N := 8) hx hb hU iw_CR hown hK hP 7 rfl rfl 7 (by decide) (va_Nw.use rfl (hN _ nw_221)) (fun _ h9 => h9) rfl d_X_count_129 ?_
  have hP9 := xs_P_sub (w := []) hP [] rfl
  have hD9 := hD.sub (ws' := []) [] (by decide) rfl
  exact xw_iret () hx hb hr hlocks d_X_count_132 (rfl) (trivial) hAe hP9 hD9 hS (Nat.le_of_ble_eq_true rfl) (Nat.le_of_ble_eq_true rfl)
set_option maxHeartbeats 4000000 in
set_option maxRecDepth 100000 in
/-- count(8) on a fresh one -/
theorem c_X_count8 (l : Launch) (D : va_G) (cI cB cL : ClassId) (h0 : Nat) (sx : Nat) (sn : Nat) (sp : Nat) (sc : Nat) (sq : Nat) (sl : Nat) (sv : Nat) (sg : Nat) (sw : Nat) (sk : Nat) (sb : Nat) (nb : Nat) (nt : Nat) (p1 : Nat) (p2 : Nat) (p3 : Nat) (cf : Nat) (cl : Nat) (ct : Nat) (ck : Nat) (cs : Nat) (qr : Nat) (qf : Nat) (qh : Nat) (lo : Nat) (lr : Nat) (lb : Nat) (lf : Nat) (g1 : Nat) (g2 : Nat) (g3 : Nat) (wk : Nat) (rm : Nat)  : xG (σ := Unit) l y_X_count w_X_count ({ frames := 0, cells := 0, slots := 0, locals := 0  } : Room) D vwCl (xs_tys cI cB cL) [.ref h0, .int (nI 8)] [(h0, .inr (0, [.ref sx, .ref sn, .ref sp, .ref sc])), (sx, .inr (9, [.ref sn, .ref sp, .ref sc, .ref sq, .ref sl, .ref sv, .ref sg, .ref sw, .ref sk, .ref sb, .int (nI 0)])), (sn, .inr (1, [.int (nI 0), .int (nI 0), .ref nb, .ref nt])), (sp, .inr (2, [.ref p1, .ref p2, .ref p3, .int (nI 0)])), (p1, .inl (cI, 20, .inl (fun _ => 0))), (p2, .inl (cI, 20, .inl (fun _ => 0))), (p3, .inl (cI, 20, .inl (fun _ => 0))), (sc, .inr (4, [.int (nI wk), .ref cf, .ref cl, .ref ct, .ref ck, .ref cs, .int (nI wk), .int (nI 0)])), (cl, .inl (cB, 16, .inl (fun _ => nI 1))), (ct, .inl (cI, 16, .inl (fun _ => 0))), (ck, .inl (cI, 16, .inl (fun _ => 0))), (cs, .inl (cI, 16, .inl (fun _ => 0))), (sq, .inr (5, [.int (nI rm), .ref qr, .ref qf, .ref qh, .int (nI 0)])), (sv, .inr (7, [.ref lo, .ref lr, .ref lb, .int (nI 0), .ref lf])), (lo, .inl (cI, 200, .inl (fun _ => (-1)))), (lb, .inl (cI, 201, .inl (fun _ => 0))), (lf, .inl (cB, 200, .inl (fun _ => 0))), (sg, .inr (3, [.ref g1, .ref g2, .ref g3, .int (nI 0)])), (sk, .inl (cI, 200, .inl (fun _ => 0)))] (fun _ => True) (fun _ => some (.int (nI 0))) (fun _ => []) := by
  refine xG.of b_X_count 2 (some .int) (by decide +kernel) rfl (Nat.le_of_ble_eq_true rfl) ?_
  intro p e s m below meth c A ls hAe C0 hP hD hS hl
  obtain ⟨hx, hb, hr, hml, hown, hlocks, hts, hnm, hN, hK, hA⟩ := C0
  have hU : ∀ w ∈ xU, w.before #[.ref h0, .int (nI 8)] s = true := fun w h => hts w (List.mem_cons_of_mem _ h)
  have hl : lv_has ls 2 [(0, .ref h0), (1, .int (nI 8))] := hl
  refine lv_iload_n hx hb d_X_count_0 rfl (lv_at hl 1 rfl) ?_
  refine lv_tableIn (off := 132) (tgt := 133) hx hb d_X_count_1 (by decide +kernel) (by decide +kernel) (by decide +kernel) (by decide) ?_
  refine lv_aload_n hx hb d_X_count_133 rfl (lv_at hl 0 rfl) ?_
  refine va_get (D := D) (ci := 0) (v := .ref sx) (C := R_X) (T := T_X) (N := 4) hx hb hU iw_X hown hK hP 0 rfl rfl 0 (by decide) (hU _ uw_307) (fun _ h9 => h9) rfl d_X_count_134 ?_
  refine va_getN (D := D) (ci := 9) (v := .ref sq) (C := R_SE) (T := T_SE) (N := 11) hx hb hU iw_SE hown hK hP 1 rfl rfl 3 (by decide) (va_Nw.use rfl (hN _ nw_272)) (fun _ h9 => h9) rfl d_X_count_137 ?_
  refine va_getN (D := D) (ci := 5) (v := .int (nI 0)) (C := R_QU) (T := T_QU) (N := 5) hx hb hU iw_QU hown hK hP 12 rfl rfl 4 (by decide) (va_Nw.use rfl (hN _ nw_253)) (fun _ h9 => h9) rfl d_X_count_140 ?_
  have hP9 := xs_P_sub (w := []) hP [] rfl
  have hD9 := hD.sub (ws' := []) [] (by decide) rfl
  exact xw_iret () hx hb hr hlocks d_X_count_143 (rfl) (trivial) hAe hP9 hD9 hS (Nat.le_of_ble_eq_true rfl) (Nat.le_of_ble_eq_true rfl)
set_option maxHeartbeats 4000000 in
set_option maxRecDepth 100000 in
/-- count(9) on a fresh one -/
theorem c_X_count9 (l : Launch) (D : va_G) (cI cB cL : ClassId) (h0 : Nat) (sx : Nat) (sn : Nat) (sp : Nat) (sc : Nat) (sq : Nat) (sl : Nat) (sv : Nat) (sg : Nat) (sw : Nat) (sk : Nat) (sb : Nat) (nb : Nat) (nt : Nat) (p1 : Nat) (p2 : Nat) (p3 : Nat) (cf : Nat) (cl : Nat) (ct : Nat) (ck : Nat) (cs : Nat) (qr : Nat) (qf : Nat) (qh : Nat) (lo : Nat) (lr : Nat) (lb : Nat) (lf : Nat) (g1 : Nat) (g2 : Nat) (g3 : Nat) (wk : Nat) (rm : Nat)  : xG (σ := Unit) l y_X_count w_X_count ({ frames := 0, cells := 0, slots := 0, locals := 0  } : Room) D vwCl (xs_tys cI cB cL) [.ref h0, .int (nI 9)] [(h0, .inr (0, [.ref sx, .ref sn, .ref sp, .ref sc])), (sx, .inr (9, [.ref sn, .ref sp, .ref sc, .ref sq, .ref sl, .ref sv, .ref sg, .ref sw, .ref sk, .ref sb, .int (nI 0)])), (sn, .inr (1, [.int (nI 0), .int (nI 0), .ref nb, .ref nt])), (sp, .inr (2, [.ref p1, .ref p2, .ref p3, .int (nI 0)])), (p1, .inl (cI, 20, .inl (fun _ => 0))), (p2, .inl (cI, 20, .inl (fun _ => 0))), (p3, .inl (cI, 20, .inl (fun _ => 0))), (sc, .inr (4, [.int (nI wk), .ref cf, .ref cl, .ref ct, .ref ck, .ref cs, .int (nI wk), .int (nI 0)])), (cl, .inl (cB, 16, .inl (fun _ => nI 1))), (ct, .inl (cI, 16, .inl (fun _ => 0))), (ck, .inl (cI, 16, .inl (fun _ => 0))), (cs, .inl (cI, 16, .inl (fun _ => 0))), (sq, .inr (5, [.int (nI rm), .ref qr, .ref qf, .ref qh, .int (nI 0)])), (sv, .inr (7, [.ref lo, .ref lr, .ref lb, .int (nI 0), .ref lf])), (lo, .inl (cI, 200, .inl (fun _ => (-1)))), (lb, .inl (cI, 201, .inl (fun _ => 0))), (lf, .inl (cB, 200, .inl (fun _ => 0))), (sg, .inr (3, [.ref g1, .ref g2, .ref g3, .int (nI 0)])), (sk, .inl (cI, 200, .inl (fun _ => 0)))] (fun _ => True) (fun _ => some (.int (nI wk))) (fun _ => []) := by
  refine xG.of b_X_count 2 (some .int) (by decide +kernel) rfl (Nat.le_of_ble_eq_true rfl) ?_
  intro p e s m below meth c A ls hAe C0 hP hD hS hl
  obtain ⟨hx, hb, hr, hml, hown, hlocks, hts, hnm, hN, hK, hA⟩ := C0
  have hU : ∀ w ∈ xU, w.before #[.ref h0, .int (nI 9)] s = true := fun w h => hts w (List.mem_cons_of_mem _ h)
  have hl : lv_has ls 2 [(0, .ref h0), (1, .int (nI 9))] := hl
  refine lv_iload_n hx hb d_X_count_0 rfl (lv_at hl 1 rfl) ?_
  refine lv_tableIn (off := 143) (tgt := 144) hx hb d_X_count_1 (by decide +kernel) (by decide +kernel) (by decide +kernel) (by decide) ?_
  refine lv_aload_n hx hb d_X_count_144 rfl (lv_at hl 0 rfl) ?_
  refine va_get (D := D) (ci := 0) (v := .ref sc) (C := R_X) (T := T_X) (N := 4) hx hb hU iw_X hown hK hP 0 rfl rfl 3 (by decide) (hU _ uw_310) (fun _ h9 => h9) rfl d_X_count_145 ?_
  refine va_getN (D := D) (ci := 4) (v := .int (nI wk)) (C := R_CR) (T := T_CR) (N := 8) hx hb hU iw_CR hown hK hP 7 rfl rfl 6 (by decide) (va_Nw.use rfl (hN _ nw_218)) (fun _ h9 => h9) rfl d_X_count_148 ?_
  have hP9 := xs_P_sub (w := []) hP [] rfl
  have hD9 := hD.sub (ws' := []) [] (by decide) rfl
  exact xw_iret () hx hb hr hlocks d_X_count_151 (rfl) (trivial) hAe hP9 hD9 hS (Nat.le_of_ble_eq_true rfl) (Nat.le_of_ble_eq_true rfl)
set_option maxHeartbeats 4000000 in
set_option maxRecDepth 100000 in
/-- count(10) on a fresh one -/
theorem c_X_count10 (l : Launch) (D : va_G) (cI cB cL : ClassId) (h0 : Nat) (sx : Nat) (sn : Nat) (sp : Nat) (sc : Nat) (sq : Nat) (sl : Nat) (sv : Nat) (sg : Nat) (sw : Nat) (sk : Nat) (sb : Nat) (nb : Nat) (nt : Nat) (p1 : Nat) (p2 : Nat) (p3 : Nat) (cf : Nat) (cl : Nat) (ct : Nat) (ck : Nat) (cs : Nat) (qr : Nat) (qf : Nat) (qh : Nat) (lo : Nat) (lr : Nat) (lb : Nat) (lf : Nat) (g1 : Nat) (g2 : Nat) (g3 : Nat) (wk : Nat) (rm : Nat)  : xG (σ := Unit) l y_X_count w_X_count ({ frames := 0, cells := 0, slots := 0, locals := 0  } : Room) D vwCl (xs_tys cI cB cL) [.ref h0, .int (nI 10)] [(h0, .inr (0, [.ref sx, .ref sn, .ref sp, .ref sc])), (sx, .inr (9, [.ref sn, .ref sp, .ref sc, .ref sq, .ref sl, .ref sv, .ref sg, .ref sw, .ref sk, .ref sb, .int (nI 0)])), (sn, .inr (1, [.int (nI 0), .int (nI 0), .ref nb, .ref nt])), (sp, .inr (2, [.ref p1, .ref p2, .ref p3, .int (nI 0)])), (p1, .inl (cI, 20, .inl (fun _ => 0))), (p2, .inl (cI, 20, .inl (fun _ => 0))), (p3, .inl (cI, 20, .inl (fun _ => 0))), (sc, .inr (4, [.int (nI wk), .ref cf, .ref cl, .ref ct, .ref ck, .ref cs, .int (nI wk), .int (nI 0)])), (cl, .inl (cB, 16, .inl (fun _ => nI 1))), (ct, .inl (cI, 16, .inl (fun _ => 0))), (ck, .inl (cI, 16, .inl (fun _ => 0))), (cs, .inl (cI, 16, .inl (fun _ => 0))), (sq, .inr (5, [.int (nI rm), .ref qr, .ref qf, .ref qh, .int (nI 0)])), (sv, .inr (7, [.ref lo, .ref lr, .ref lb, .int (nI 0), .ref lf])), (lo, .inl (cI, 200, .inl (fun _ => (-1)))), (lb, .inl (cI, 201, .inl (fun _ => 0))), (lf, .inl (cB, 200, .inl (fun _ => 0))), (sg, .inr (3, [.ref g1, .ref g2, .ref g3, .int (nI 0)])), (sk, .inl (cI, 200, .inl (fun _ => 0)))] (fun _ => True) (fun _ => some (.int (nI 0))) (fun _ => []) := by
  refine xG.of b_X_count 2 (some .int) (by decide +kernel) rfl (Nat.le_of_ble_eq_true rfl) ?_
  intro p e s m below meth c A ls hAe C0 hP hD hS hl
  obtain ⟨hx, hb, hr, hml, hown, hlocks, hts, hnm, hN, hK, hA⟩ := C0
  have hU : ∀ w ∈ xU, w.before #[.ref h0, .int (nI 10)] s = true := fun w h => hts w (List.mem_cons_of_mem _ h)
  have hl : lv_has ls 2 [(0, .ref h0), (1, .int (nI 10))] := hl
  refine lv_iload_n hx hb d_X_count_0 rfl (lv_at hl 1 rfl) ?_
  refine lv_tableIn (off := 151) (tgt := 152) hx hb d_X_count_1 (by decide +kernel) (by decide +kernel) (by decide +kernel) (by decide) ?_
  refine lv_aload_n hx hb d_X_count_152 rfl (lv_at hl 0 rfl) ?_
  refine va_get (D := D) (ci := 0) (v := .ref sx) (C := R_X) (T := T_X) (N := 4) hx hb hU iw_X hown hK hP 0 rfl rfl 0 (by decide) (hU _ uw_307) (fun _ h9 => h9) rfl d_X_count_153 ?_
  refine va_getN (D := D) (ci := 9) (v := .ref sg) (C := R_SE) (T := T_SE) (N := 11) hx hb hU iw_SE hown hK hP 1 rfl rfl 6 (by decide) (va_Nw.use rfl (hN _ nw_277)) (fun _ h9 => h9) rfl d_X_count_156 ?_
  refine va_getN (D := D) (ci := 3) (v := .int (nI 0)) (C := R_FL) (T := T_FL) (N := 4) hx hb hU iw_FL hown hK hP 17 rfl rfl 3 (by decide) (va_Nw.use rfl (hN _ nw_164)) (fun _ h9 => h9) rfl d_X_count_159 ?_
  have hP9 := xs_P_sub (w := []) hP [] rfl
  have hD9 := hD.sub (ws' := []) [] (by decide) rfl
  exact xw_iret () hx hb hr hlocks d_X_count_162 (rfl) (trivial) hAe hP9 hD9 hS (Nat.le_of_ble_eq_true rfl) (Nat.le_of_ble_eq_true rfl)
set_option maxHeartbeats 4000000 in
set_option maxRecDepth 100000 in
/-- count of another what -/
theorem c_X_countX (l : Launch) (D : va_G) (cI cB cL : ClassId) (h0 : Nat) (sx : Nat) (sn : Nat) (sp : Nat) (sc : Nat) (sq : Nat) (sl : Nat) (sv : Nat) (sg : Nat) (sw : Nat) (sk : Nat) (sb : Nat) (nb : Nat) (nt : Nat) (p1 : Nat) (p2 : Nat) (p3 : Nat) (cf : Nat) (cl : Nat) (ct : Nat) (ck : Nat) (cs : Nat) (qr : Nat) (qf : Nat) (qh : Nat) (lo : Nat) (lr : Nat) (lb : Nat) (lf : Nat) (g1 : Nat) (g2 : Nat) (g3 : Nat) (wk : Nat) (rm : Nat) (a : Int32) (hbad : a.toInt < 0 ∨ 10 < a.toInt) : xG (σ := Unit) l y_X_count w_X_count ({ frames := 0, cells := 0, slots := 0, locals := 0  } : Room) D vwCl (xs_tys cI cB cL) [.ref h0, .int a] [(h0, .inr (0, [.ref sx, .ref sn, .ref sp, .ref sc])), (sx, .inr (9, [.ref sn, .ref sp, .ref sc, .ref sq, .ref sl, .ref sv, .ref sg, .ref sw, .ref sk, .ref sb, .int (nI 0)])), (sn, .inr (1, [.int (nI 0), .int (nI 0), .ref nb, .ref nt])), (sp, .inr (2, [.ref p1, .ref p2, .ref p3, .int (nI 0)])), (p1, .inl (cI, 20, .inl (fun _ => 0))), (p2, .inl (cI, 20, .inl (fun _ => 0))), (p3, .inl (cI, 20, .inl (fun _ => 0))), (sc, .inr (4, [.int (nI wk), .ref cf, .ref cl, .ref ct, .ref ck, .ref cs, .int (nI wk), .int (nI 0)])), (cl, .inl (cB, 16, .inl (fun _ => nI 1))), (ct, .inl (cI, 16, .inl (fun _ => 0))), (ck, .inl (cI, 16, .inl (fun _ => 0))), (cs, .inl (cI, 16, .inl (fun _ => 0))), (sq, .inr (5, [.int (nI rm), .ref qr, .ref qf, .ref qh, .int (nI 0)])), (sv, .inr (7, [.ref lo, .ref lr, .ref lb, .int (nI 0), .ref lf])), (lo, .inl (cI, 200, .inl (fun _ => (-1)))), (lb, .inl (cI, 201, .inl (fun _ => 0))), (lf, .inl (cB, 200, .inl (fun _ => 0))), (sg, .inr (3, [.ref g1, .ref g2, .ref g3, .int (nI 0)])), (sk, .inl (cI, 200, .inl (fun _ => 0)))] (fun _ => True) (fun _ => some (.int (-1))) (fun _ => []) := by
  refine xG.of b_X_count 2 (some .int) (by decide +kernel) rfl (Nat.le_of_ble_eq_true rfl) ?_
  intro p e s m below meth c A ls hAe C0 hP hD hS hl
  obtain ⟨hx, hb, hr, hml, hown, hlocks, hts, hnm, hN, hK, hA⟩ := C0
  have hU : ∀ w ∈ xU, w.before #[.ref h0, .int a] s = true := fun w h => hts w (List.mem_cons_of_mem _ h)
  have hl : lv_has ls 2 [(0, .ref h0), (1, .int a)] := hl
  refine lv_iload_n hx hb d_X_count_0 rfl (lv_at hl 1 rfl) ?_
  refine lv_tableOut (tgt := 163) hx hb d_X_count_1 (hbad) (by decide) ?_
  refine lv_iconst (v := (-1)) hx hb d_X_count_163 (by decide +kernel) ?_
  have hP9 := xs_P_sub (w := []) hP [] rfl
  have hD9 := hD.sub (ws' := []) [] (by decide) rfl
  exact xw_iret () hx hb hr hlocks d_X_count_164 (rfl) (trivial) hAe hP9 hD9 hS (Nat.le_of_ble_eq_true rfl) (Nat.le_of_ble_eq_true rfl)
