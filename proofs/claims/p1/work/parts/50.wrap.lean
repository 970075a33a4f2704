set_option maxHeartbeats 4000000 in
set_option maxRecDepth 100000 in
/-- the law's state -/
theorem c_L_state (l : Launch) (htr : l.stackTraces = false) (D : va_G) (cI cB cL : ClassId) (h0 : Nat) (sx : Nat) (sn : Nat) (sp : Nat) (sc : Nat) (sq : Nat) (sl : Nat) (sv : Nat) (sg : Nat) (sw : Nat) (sk : Nat) (sb : Nat) (nb : Nat) (nt : Nat) (p1 : Nat) (p2 : Nat) (p3 : Nat) (cf : Nat) (cl : Nat) (ct : Nat) (ck : Nat) (cs : Nat) (qr : Nat) (qf : Nat) (qh : Nat) (lo : Nat) (lr : Nat) (lb : Nat) (lf : Nat) (g1 : Nat) (g2 : Nat) (g3 : Nat) (wk : Nat) (rm : Nat) (ou : Nat) (fo : Nat → Int64)  : xH (σ := Unit) l y_LW_state w_LW_state ({ frames := 5, cells := 0, slots := 0, locals := 102  } : Room) D vwCl (xs_tys cI cB cL) [.ref h0, .ref ou] [(h0, .inr (0, [.ref sx, .ref sn, .ref sp, .ref sc])), (sx, .inr (9, [.ref sn, .ref sp, .ref sc, .ref sq, .ref sl, .ref sv, .ref sg, .ref sw, .ref sk, .ref sb, .int (nI 0)])), (sn, .inr (1, [.int (nI 0), .int (nI 0), .ref nb, .ref nt])), (sp, .inr (2, [.ref p1, .ref p2, .ref p3, .int (nI 0)])), (p1, .inl (cI, 20, .inl (fun _ => 0))), (p2, .inl (cI, 20, .inl (fun _ => 0))), (p3, .inl (cI, 20, .inl (fun _ => 0))), (sc, .inr (4, [.int (nI wk), .ref cf, .ref cl, .ref ct, .ref ck, .ref cs, .int (nI wk), .int (nI 0)])), (cl, .inl (cB, 16, .inl (fun _ => nI 1))), (ct, .inl (cI, 16, .inl (fun _ => 0))), (ck, .inl (cI, 16, .inl (fun _ => 0))), (cs, .inl (cI, 16, .inl (fun _ => 0))), (sq, .inr (5, [.int (nI rm), .ref qr, .ref qf, .ref qh, .int (nI 0)])), (sv, .inr (7, [.ref lo, .ref lr, .ref lb, .int (nI 0), .ref lf])), (lo, .inl (cI, 200, .inl (fun _ => (-1)))), (lb, .inl (cI, 201, .inl (fun _ => 0))), (lf, .inl (cB, 200, .inl (fun _ => 0))), (sg, .inr (3, [.ref g1, .ref g2, .ref g3, .int (nI 0)])), (sk, .inl (cI, 200, .inl (fun _ => 0))), (ou, .inl (cL, 1, .inr (.inl fo)))] (fun _ => True) (fun _ => some (.int (nI 0))) (fun _ => [(ou, .inl (cL, 1, .inr (.inl (vp_updL fo (nI 0).toNatClampNeg (nI 0).toInt64))))]) := by
  refine xH.of b_LW_state 3 (some .int) h_LW_state (by decide +kernel) rfl (Nat.le_of_ble_eq_true rfl) ?_
  intro p e s m below meth c A ls hAe C0 htab hZ hP hD hS hl
  obtain ⟨hx, hb, hr, hml, hown, hlocks, hts, hnm, hN, hK, hA⟩ := C0
  have hU : ∀ w ∈ xU, w.before #[.ref h0, .ref ou] s = true := fun w h => hts w (List.mem_cons_of_mem _ h)
  have hl : lv_has ls 3 [(0, .ref h0), (1, .ref ou)] := hl
  refine lv_aload_n hx hb d_LW_state_0 rfl (lv_at hl 1 rfl) ?_
  refine lv_iconst (v := nI 0) hx hb d_LW_state_1 (by decide +kernel) ?_
  refine lv_aload_n hx hb d_LW_state_2 rfl (lv_at hl 0 rfl) ?_
  refine xw_callV (C := R_X) (wr := [(ou, .inl (cL, 1, .inr (.inl fo)))]) [] (c_X_state l D cI cB cL h0 sx sn sp sc sq sl sv sg sw sk sb nb nt p1 p2 p3 cf cl ct ck cs qr qf qh lo lr lb lf g1 g2 g3 wk rm) ⟨hx, hb, hml, hown, hU⟩ (cwV 0 hU (xs_goodV uw_335 uw_336 uw_337 uw_1 uw_338) rfl rfl rfl (by decide +kernel) ⟨Nat.le_of_ble_eq_true rfl, Nat.le_of_ble_eq_true rfl⟩) 0 rfl rfl rfl rfl hl.1 rfl (Nat.le_of_ble_eq_true rfl) d_LW_state_3 ⟨Nat.le_of_ble_eq_true rfl, Nat.le_of_ble_eq_true rfl⟩ [0, 1, 2, 3, 4, 5, 6, 7, 8, 9, 10, 11, 12, 13, 14, 15, 16, 17, 18] [19] rfl rfl (by decide) (by decide) (by decide) hN hK hP hD hS hA (fun u H locs hf hP hD hS => ?_)
  have hP : va_P D vwCl [(ou, .inl (cL, 1, .inr (.inl fo)))] H := hP
  have hD : va_D A [(ou, .inl (cL, 1, .inr (.inl fo)))] := hD
  refine W.widen (k := 0) (n := 0) (Nat.le_of_ble_eq_true rfl) (Nat.le_of_ble_eq_true rfl) ?_
  refine W.eq (g2 := F0 m 6 ls [.int (nI 0), .int (nI 0), .ref ou]) rfl ?_
  refine lv_i2l (v := (nI 0).toInt64) hx hb d_LW_state_6 rfl ?_
  refine va_last hx hb hK hP hD hS 0 2 rfl rfl (vp_in_nI (by decide) (by decide)) d_LW_state_7 (fun H locs hP hD hS => ?_)
  have hP : va_P D vwCl [(ou, .inl (cL, 1, .inr (.inl (vp_updL fo (nI 0).toNatClampNeg ((nI 0).toInt64)))))] H := hP
  have hD : va_D A [(ou, .inl (cL, 1, .inr (.inl (vp_updL fo (nI 0).toNatClampNeg ((nI 0).toInt64)))))] := hD
  refine lv_goto (tgt := 14) hx hb d_LW_state_8 (by decide) ?_
  refine lv_iconst (v := nI 0) hx hb d_LW_state_14 (by decide +kernel) ?_
  have hP9 := xs_P_sub (w := [(ou, .inl (cL, 1, .inr (.inl (vp_updL fo (nI 0).toNatClampNeg ((nI 0).toInt64)))))]) hP [0] rfl
  have hD9 := hD.sub (ws' := [(ou, .inl (cL, 1, .inr (.inl (vp_updL fo (nI 0).toNatClampNeg ((nI 0).toInt64)))))]) [0] (by decide) rfl
  exact xw_iret () hx hb hr hlocks d_LW_state_15 (rfl) (trivial) hAe hP9 hD9 hS (Nat.le_of_ble_eq_true rfl) (Nat.le_of_ble_eq_true rfl)
set_option maxHeartbeats 4000000 in
set_option maxRecDepth 100000 in
/-- the law's move -/
theorem c_L_move (l : Launch) (htr : l.stackTraces = false) (D : va_G) (cI cB cL : ClassId) (h0 : Nat) (sx : Nat) (sn : Nat) (sp : Nat) (sc : Nat) (sq : Nat) (sl : Nat) (sv : Nat) (sg : Nat) (sw : Nat) (sk : Nat) (sb : Nat) (nb : Nat) (nt : Nat) (p1 : Nat) (p2 : Nat) (p3 : Nat) (cf : Nat) (cl : Nat) (ct : Nat) (ck : Nat) (cs : Nat) (qr : Nat) (qf : Nat) (qh : Nat) (lo : Nat) (lr : Nat) (lb : Nat) (lf : Nat) (g1 : Nat) (g2 : Nat) (g3 : Nat) (wk : Nat) (rm : Nat) (a : Int32) (b : Int32) (ou : Nat) (fo : Nat → Int64)  : xH (σ := Unit) l y_LW_move w_LW_move ({ frames := 7, cells := 1, slots := 6, locals := 104  } : Room) D vwCl (xs_tys cI cB cL) [.ref h0, .int a, .int b, .ref ou] [(h0, .inr (0, [.ref sx, .ref sn, .ref sp, .ref sc])), (sx, .inr (9, [.ref sn, .ref sp, .ref sc, .ref sq, .ref sl, .ref sv, .ref sg, .ref sw, .ref sk, .ref sb, .int (nI 0)])), (sn, .inr (1, [.int (nI 0), .int (nI 0), .ref nb, .ref nt])), (sp, .inr (2, [.ref p1, .ref p2, .ref p3, .int (nI 0)])), (p1, .inl (cI, 20, .inl (fun _ => 0))), (p2, .inl (cI, 20, .inl (fun _ => 0))), (p3, .inl (cI, 20, .inl (fun _ => 0))), (sc, .inr (4, [.int (nI wk), .ref cf, .ref cl, .ref ct, .ref ck, .ref cs, .int (nI wk), .int (nI 0)])), (cl, .inl (cB, 16, .inl (fun _ => nI 1))), (ct, .inl (cI, 16, .inl (fun _ => 0))), (ck, .inl (cI, 16, .inl (fun _ => 0))), (cs, .inl (cI, 16, .inl (fun _ => 0))), (sq, .inr (5, [.int (nI rm), .ref qr, .ref qf, .ref qh, .int (nI 0)])), (sv, .inr (7, [.ref lo, .ref lr, .ref lb, .int (nI 0), .ref lf])), (lo, .inl (cI, 200, .inl (fun _ => (-1)))), (lb, .inl (cI, 201, .inl (fun _ => 0))), (lf, .inl (cB, 200, .inl (fun _ => 0))), (sg, .inr (3, [.ref g1, .ref g2, .ref g3, .int (nI 0)])), (sk, .inl (cI, 200, .inl (fun _ => 0))), (ou, .inl (cL, 1, .inr (.inl fo)))] (fun _ => True) (fun _ => some (.int (nI 1))) (fun _ => []) := by
  refine xH.of b_LW_move 5 (some .int) h_LW_move (by decide +kernel) rfl (Nat.le_of_ble_eq_true rfl) ?_
  intro p e s m below meth c A ls hAe C0 htab hZ hP hD hS hl
  obtain ⟨hx, hb, hr, hml, hown, hlocks, hts, hnm, hN, hK, hA⟩ := C0
  have hU : ∀ w ∈ xU, w.before #[.ref h0, .int a, .int b, .ref ou] s = true := fun w h => hts w (List.mem_cons_of_mem _ h)
  have hl : lv_has ls 5 [(0, .ref h0), (1, .int a), (2, .int b), (3, .ref ou)] := hl
  refine lv_aload_n hx hb d_LW_move_0 rfl (lv_at hl 3 rfl) ?_
  refine lv_iconst (v := nI 0) hx hb d_LW_move_1 (by decide +kernel) ?_
  refine lv_aload_n hx hb d_LW_move_2 rfl (lv_at hl 0 rfl) ?_
  refine lv_iload_n hx hb d_LW_move_3 rfl (lv_at hl 1 rfl) ?_
  refine lv_iload_n hx hb d_LW_move_4 rfl (lv_at hl 2 rfl) ?_
  refine xw_callT (C := R_X) (wr := [(ou, .inl (cL, 1, .inr (.inl fo)))]) [.int a, .int b] (c_X_moveT l htr D cI cB cL h0 sx sn sp sc sq sl sv sg sw sk sb nb nt p1 p2 p3 cf cl ct ck cs qr qf qh lo lr lb lf g1 g2 g3 wk rm a b) ⟨hx, hb, hml, hown, hU⟩ (cwV 2 hU (xs_goodV uw_435 uw_436 uw_437 uw_1 uw_438) rfl rfl rfl (by decide +kernel) ⟨Nat.le_of_ble_eq_true rfl, Nat.le_of_ble_eq_true rfl⟩) 0 rfl rfl rfl rfl hl.1 rfl (Nat.le_of_ble_eq_true rfl) d_LW_move_5 ⟨Nat.le_of_ble_eq_true rfl, Nat.le_of_ble_eq_true rfl⟩ [0, 1, 2, 3, 4, 5, 6, 7, 8, 9, 10, 11, 12, 13, 14, 15, 16, 17, 18] [19] rfl rfl (by decide) (by decide) (by decide) hN hZ hK hP hD hS hA [] (⟨0, 10, 13, 19⟩ : ExceptionTableEntry) [(⟨0, 10, 17, 13⟩ : ExceptionTableEntry)] (htab.trans rfl) (fun z hz => by cases hz) (by decide) (by decide) (hU _ uw_434) (va_Nw.use rfl (hN _ nw_445)) (fun q_1 H locs hP hD hS => ?_)
  have hP : va_P D vwCl [(ou, .inl (cL, 1, .inr (.inl fo)))] H := hP
  have hD : va_D A [(ou, .inl (cL, 1, .inr (.inl fo)))] := hD
  refine W.widen (k := 1) (n := 6) (Nat.le_of_ble_eq_true rfl) (Nat.le_of_ble_eq_true rfl) ?_
  refine W.eq (g2 := F0 m 13 ls [.ref q_1]) rfl ?_
  refine lv_astore (lv' := [(4, .ref q_1), (0, .ref h0), (1, .int a), (2, .int b), (3, .ref ou)]) hx hb d_LW_move_13 hl (by decide) rfl (fun ls hl => ?_)
  refine lv_iconst (v := nI 1) hx hb d_LW_move_15 (by decide +kernel) ?_
  have hP9 := xs_P_sub (w := []) hP [] rfl
  have hD9 := hD.sub (ws' := []) [] (by decide) rfl
  exact xw_iret () hx hb hr hlocks d_LW_move_16 (rfl) (trivial) hAe hP9 hD9 hS (Nat.le_of_ble_eq_true rfl) (Nat.le_of_ble_eq_true rfl)
set_option maxHeartbeats 4000000 in
set_option maxRecDepth 100000 in
/-- the law's run -/
theorem c_L_run (l : Launch) (htr : l.stackTraces = false) (D : va_G) (cI cB cL : ClassId) (h0 : Nat) (sx : Nat) (sn : Nat) (sp : Nat) (sc : Nat) (sq : Nat) (sl : Nat) (sv : Nat) (sg : Nat) (sw : Nat) (sk : Nat) (sb : Nat) (nb : Nat) (nt : Nat) (p1 : Nat) (p2 : Nat) (p3 : Nat) (cf : Nat) (cl : Nat) (ct : Nat) (ck : Nat) (cs : Nat) (qr : Nat) (qf : Nat) (qh : Nat) (lo : Nat) (lr : Nat) (lb : Nat) (lf : Nat) (g1 : Nat) (g2 : Nat) (g3 : Nat) (wk : Nat) (rm : Nat) (a : Int32) (ou : Nat) (fo : Nat → Int64)  : xH (σ := Unit) l y_LW_run w_LW_run ({ frames := 7, cells := 1, slots := 6, locals := 103  } : Room) D vwCl (xs_tys cI cB cL) [.ref h0, .int a, .ref ou] [(h0, .inr (0, [.ref sx, .ref sn, .ref sp, .ref sc])), (sx, .inr (9, [.ref sn, .ref sp, .ref sc, .ref sq, .ref sl, .ref sv, .ref sg, .ref sw, .ref sk, .ref sb, .int (nI 0)])), (sn, .inr (1, [.int (nI 0), .int (nI 0), .ref nb, .ref nt])), (sp, .inr (2, [.ref p1, .ref p2, .ref p3, .int (nI 0)])), (p1, .inl (cI, 20, .inl (fun _ => 0))), (p2, .inl (cI, 20, .inl (fun _ => 0))), (p3, .inl (cI, 20, .inl (fun _ => 0))), (sc, .inr (4, [.int (nI wk), .ref cf, .ref cl, .ref ct, .ref ck, .ref cs, .int (nI wk), .int (nI 0)])), (cl, .inl (cB, 16, .inl (fun _ => nI 1))), (ct, .inl (cI, 16, .inl (fun _ => 0))), (ck, .inl (cI, 16, .inl (fun _ => 0))), (cs, .inl (cI, 16, .inl (fun _ => 0))), (sq, .inr (5, [.int (nI rm), .ref qr, .ref qf, .ref qh, .int (nI 0)])), (sv, .inr (7, [.ref lo, .ref lr, .ref lb, .int (nI 0), .ref lf])), (lo, .inl (cI, 200, .inl (fun _ => (-1)))), (lb, .inl (cI, 201, .inl (fun _ => 0))), (lf, .inl (cB, 200, .inl (fun _ => 0))), (sg, .inr (3, [.ref g1, .ref g2, .ref g3, .int (nI 0)])), (sk, .inl (cI, 200, .inl (fun _ => 0))), (ou, .inl (cL, 1, .inr (.inl fo)))] (fun _ => True) (fun _ => some (.int (nI 1))) (fun _ => []) := by
  refine xH.of b_LW_run 4 (some .int) h_LW_run (by decide +kernel) rfl (Nat.le_of_ble_eq_true rfl) ?_
  intro p e s m below meth c A ls hAe C0 htab hZ hP hD hS hl
  obtain ⟨hx, hb, hr, hml, hown, hlocks, hts, hnm, hN, hK, hA⟩ := C0
  have hU : ∀ w ∈ xU, w.before #[.ref h0, .int a, .ref ou] s = true := fun w h => hts w (List.mem_cons_of_mem _ h)
  have hl : lv_has ls 4 [(0, .ref h0), (1, .int a), (2, .ref ou)] := hl
  refine lv_aload_n hx hb d_LW_run_0 rfl (lv_at hl 2 rfl) ?_
  refine lv_iconst (v := nI 0) hx hb d_LW_run_1 (by decide +kernel) ?_
  refine lv_aload_n hx hb d_LW_run_2 rfl (lv_at hl 0 rfl) ?_
  refine lv_iload_n hx hb d_LW_run_3 rfl (lv_at hl 1 rfl) ?_
  refine xw_callT (C := R_X) (wr := [(ou, .inl (cL, 1, .inr (.inl fo)))]) [.int a] (c_X_runT l htr D cI cB cL h0 sx sn sp sc sq sl sv sg sw sk sb nb nt p1 p2 p3 cf cl ct ck cs qr qf qh lo lr lb lf g1 g2 g3 wk rm a) ⟨hx, hb, hml, hown, hU⟩ (cwV 1 hU (xs_goodV uw_511 uw_512 uw_513 uw_1 uw_514) rfl rfl rfl (by decide +kernel) ⟨Nat.le_of_ble_eq_true rfl, Nat.le_of_ble_eq_true rfl⟩) 0 rfl rfl rfl rfl hl.1 rfl (Nat.le_of_ble_eq_true rfl) d_LW_run_4 ⟨Nat.le_of_ble_eq_true rfl, Nat.le_of_ble_eq_true rfl⟩ [0, 1, 2, 3, 4, 5, 6, 7, 8, 9, 10, 11, 12, 13, 14, 15, 16, 17, 18] [19] rfl rfl (by decide) (by decide) (by decide) hN hZ hK hP hD hS hA [] (⟨0, 9, 12, 31⟩ : ExceptionTableEntry) [] (htab.trans rfl) (fun z hz => by cases hz) (by decide) (by decide) (hU _ uw_510) (va_Nw.use rfl (hN _ nw_517)) (fun q_1 H locs hP hD hS => ?_)
  have hP : va_P D vwCl [(ou, .inl (cL, 1, .inr (.inl fo)))] H := hP
  have hD : va_D A [(ou, .inl (cL, 1, .inr (.inl fo)))] := hD
  refine W.widen (k := 1) (n := 6) (Nat.le_of_ble_eq_true rfl) (Nat.le_of_ble_eq_true rfl) ?_
  refine W.eq (g2 := F0 m 12 ls [.ref q_1]) rfl ?_
  refine lv_astore_n (lv' := [(3, .ref q_1), (0, .ref h0), (1, .int a), (2, .ref ou)]) hx hb d_LW_run_12 rfl hl (by decide) rfl (fun ls hl => ?_)
  refine lv_iconst (v := nI 1) hx hb d_LW_run_13 (by decide +kernel) ?_
  have hP9 := xs_P_sub (w := []) hP [] rfl
  have hD9 := hD.sub (ws' := []) [] (by decide) rfl
  exact xw_iret () hx hb hr hlocks d_LW_run_14 (rfl) (trivial) hAe hP9 hD9 hS (Nat.le_of_ble_eq_true rfl) (Nat.le_of_ble_eq_true rfl)
set_option maxHeartbeats 4000000 in
set_option maxRecDepth 100000 in
/-- the law's level -/
theorem c_L_level (l : Launch) (htr : l.stackTraces = false) (D : va_G) (cI cB cL : ClassId) (h0 : Nat) (sx : Nat) (sn : Nat) (sp : Nat) (sc : Nat) (sq : Nat) (sl : Nat) (sv : Nat) (sg : Nat) (sw : Nat) (sk : Nat) (sb : Nat) (nb : Nat) (nt : Nat) (p1 : Nat) (p2 : Nat) (p3 : Nat) (cf : Nat) (cl : Nat) (ct : Nat) (ck : Nat) (cs : Nat) (qr : Nat) (qf : Nat) (qh : Nat) (lo : Nat) (lr : Nat) (lb : Nat) (lf : Nat) (g1 : Nat) (g2 : Nat) (g3 : Nat) (wk : Nat) (rm : Nat) (a : Int32) (ou : Nat) (fo : Nat → Int64)  : xH (σ := Unit) l y_LW_level w_LW_level ({ frames := 7, cells := 1, slots := 6, locals := 103  } : Room) D vwCl (xs_tys cI cB cL) [.ref h0, .int a, .ref ou] [(h0, .inr (0, [.ref sx, .ref sn, .ref sp, .ref sc])), (sx, .inr (9, [.ref sn, .ref sp, .ref sc, .ref sq, .ref sl, .ref sv, .ref sg, .ref sw, .ref sk, .ref sb, .int (nI 0)])), (sn, .inr (1, [.int (nI 0), .int (nI 0), .ref nb, .ref nt])), (sp, .inr (2, [.ref p1, .ref p2, .ref p3, .int (nI 0)])), (p1, .inl (cI, 20, .inl (fun _ => 0))), (p2, .inl (cI, 20, .inl (fun _ => 0))), (p3, .inl (cI, 20, .inl (fun _ => 0))), (sc, .inr (4, [.int (nI wk), .ref cf, .ref cl, .ref ct, .ref ck, .ref cs, .int (nI wk), .int (nI 0)])), (cl, .inl (cB, 16, .inl (fun _ => nI 1))), (ct, .inl (cI, 16, .inl (fun _ => 0))), (ck, .inl (cI, 16, .inl (fun _ => 0))), (cs, .inl (cI, 16, .inl (fun _ => 0))), (sq, .inr (5, [.int (nI rm), .ref qr, .ref qf, .ref qh, .int (nI 0)])), (sv, .inr (7, [.ref lo, .ref lr, .ref lb, .int (nI 0), .ref lf])), (lo, .inl (cI, 200, .inl (fun _ => (-1)))), (lb, .inl (cI, 201, .inl (fun _ => 0))), (lf, .inl (cB, 200, .inl (fun _ => 0))), (sg, .inr (3, [.ref g1, .ref g2, .ref g3, .int (nI 0)])), (sk, .inl (cI, 200, .inl (fun _ => 0))), (ou, .inl (cL, 1, .inr (.inl fo)))] (fun _ => True) (fun _ => some (.int (nI 1))) (fun _ => []) := by
  refine xH.of b_LW_level 4 (some .int) h_LW_level (by decide +kernel) rfl (Nat.le_of_ble_eq_true rfl) ?_
  intro p e s m below meth c A ls hAe C0 htab hZ hP hD hS hl
  obtain ⟨hx, hb, hr, hml, hown, hlocks, hts, hnm, hN, hK, hA⟩ := C0
  have hU : ∀ w ∈ xU, w.before #[.ref h0, .int a, .ref ou] s = true := fun w h => hts w (List.mem_cons_of_mem _ h)
  have hl : lv_has ls 4 [(0, .ref h0), (1, .int a), (2, .ref ou)] := hl
  refine lv_aload_n hx hb d_LW_level_0 rfl (lv_at hl 2 rfl) ?_
  refine lv_iconst (v := nI 0) hx hb d_LW_level_1 (by decide +kernel) ?_
  refine lv_aload_n hx hb d_LW_level_2 rfl (lv_at hl 0 rfl) ?_
  refine lv_iload_n hx hb d_LW_level_3 rfl (lv_at hl 1 rfl) ?_
  refine xw_callT (C := R_X) (wr := [(ou, .inl (cL, 1, .inr (.inl fo)))]) [.int a] (c_X_levelT l htr D cI cB cL h0 sx sn sp sc sq sl sv sg sw sk sb nb nt p1 p2 p3 cf cl ct ck cs qr qf qh lo lr lb lf g1 g2 g3 wk rm a) ⟨hx, hb, hml, hown, hU⟩ (cwV 1 hU (xs_goodV uw_643 uw_644 uw_645 uw_1 uw_646) rfl rfl rfl (by decide +kernel) ⟨Nat.le_of_ble_eq_true rfl, Nat.le_of_ble_eq_true rfl⟩) 0 rfl rfl rfl rfl hl.1 rfl (Nat.le_of_ble_eq_true rfl) d_LW_level_4 ⟨Nat.le_of_ble_eq_true rfl, Nat.le_of_ble_eq_true rfl⟩ [0, 1, 2, 3, 4, 5, 6, 7, 8, 9, 10, 11, 12, 13, 14, 15, 16, 17, 18] [19] rfl rfl (by decide) (by decide) (by decide) hN hZ hK hP hD hS hA [] (⟨0, 9, 12, 25⟩ : ExceptionTableEntry) [] (htab.trans rfl) (fun z hz => by cases hz) (by decide) (by decide) (hU _ uw_467) (va_Nw.use rfl (hN _ nw_478)) (fun q_1 H locs hP hD hS => ?_)
  have hP : va_P D vwCl [(ou, .inl (cL, 1, .inr (.inl fo)))] H := hP
  have hD : va_D A [(ou, .inl (cL, 1, .inr (.inl fo)))] := hD
  refine W.widen (k := 1) (n := 6) (Nat.le_of_ble_eq_true rfl) (Nat.le_of_ble_eq_true rfl) ?_
  refine W.eq (g2 := F0 m 12 ls [.ref q_1]) rfl ?_
  refine lv_astore_n (lv' := [(3, .ref q_1), (0, .ref h0), (1, .int a), (2, .ref ou)]) hx hb d_LW_level_12 rfl hl (by decide) rfl (fun ls hl => ?_)
  refine lv_iconst (v := nI 1) hx hb d_LW_level_13 (by decide +kernel) ?_
  have hP9 := xs_P_sub (w := []) hP [] rfl
  have hD9 := hD.sub (ws' := []) [] (by decide) rfl
  exact xw_iret () hx hb hr hlocks d_LW_level_14 (rfl) (trivial) hAe hP9 hD9 hS (Nat.le_of_ble_eq_true rfl) (Nat.le_of_ble_eq_true rfl)
set_option maxHeartbeats 4000000 in
set_option maxRecDepth 100000 in
/-- the law's owner -/
theorem c_L_owner (l : Launch) (htr : l.stackTraces = false) (D : va_G) (cI cB cL : ClassId) (h0 : Nat) (sx : Nat) (sn : Nat) (sp : Nat) (sc : Nat) (sq : Nat) (sl : Nat) (sv : Nat) (sg : Nat) (sw : Nat) (sk : Nat) (sb : Nat) (nb : Nat) (nt : Nat) (p1 : Nat) (p2 : Nat) (p3 : Nat) (cf : Nat) (cl : Nat) (ct : Nat) (ck : Nat) (cs : Nat) (qr : Nat) (qf : Nat) (qh : Nat) (lo : Nat) (lr : Nat) (lb : Nat) (lf : Nat) (g1 : Nat) (g2 : Nat) (g3 : Nat) (wk : Nat) (rm : Nat) (a : Int32) (ou : Nat) (fo : Nat → Int64)  : xH (σ := Unit) l y_LW_owner w_LW_owner ({ frames := 7, cells := 1, slots := 6, locals := 103  } : Room) D vwCl (xs_tys cI cB cL) [.ref h0, .int a, .ref ou] [(h0, .inr (0, [.ref sx, .ref sn, .ref sp, .ref sc])), (sx, .inr (9, [.ref sn, .ref sp, .ref sc, .ref sq, .ref sl, .ref sv, .ref sg, .ref sw, .ref sk, .ref sb, .int (nI 0)])), (sn, .inr (1, [.int (nI 0), .int (nI 0), .ref nb, .ref nt])), (sp, .inr (2, [.ref p1, .ref p2, .ref p3, .int (nI 0)])), (p1, .inl (cI, 20, .inl (fun _ => 0))), (p2, .inl (cI, 20, .inl (fun _ => 0))), (p3, .inl (cI, 20, .inl (fun _ => 0))), (sc, .inr (4, [.int (nI wk), .ref cf, .ref cl, .ref ct, .ref ck, .ref cs, .int (nI wk), .int (nI 0)])), (cl, .inl (cB, 16, .inl (fun _ => nI 1))), (ct, .inl (cI, 16, .inl (fun _ => 0))), (ck, .inl (cI, 16, .inl (fun _ => 0))), (cs, .inl (cI, 16, .inl (fun _ => 0))), (sq, .inr (5, [.int (nI rm), .ref qr, .ref qf, .ref qh, .int (nI 0)])), (sv, .inr (7, [.ref lo, .ref lr, .ref lb, .int (nI 0), .ref lf])), (lo, .inl (cI, 200, .inl (fun _ => (-1)))), (lb, .inl (cI, 201, .inl (fun _ => 0))), (lf, .inl (cB, 200, .inl (fun _ => 0))), (sg, .inr (3, [.ref g1, .ref g2, .ref g3, .int (nI 0)])), (sk, .inl (cI, 200, .inl (fun _ => 0))), (ou, .inl (cL, 1, .inr (.inl fo)))] (fun _ => True) (fun _ => some (.int (nI 1))) (fun _ => []) := by
  refine xH.of b_LW_owner 4 (some .int) h_LW_owner (by decide +kernel) rfl (Nat.le_of_ble_eq_true rfl) ?_
  intro p e s m below meth c A ls hAe C0 htab hZ hP hD hS hl
  obtain ⟨hx, hb, hr, hml, hown, hlocks, hts, hnm, hN, hK, hA⟩ := C0
  have hU : ∀ w ∈ xU, w.before #[.ref h0, .int a, .ref ou] s = true := fun w h => hts w (List.mem_cons_of_mem _ h)
  have hl : lv_has ls 4 [(0, .ref h0), (1, .int a), (2, .ref ou)] := hl
  refine lv_aload_n hx hb d_LW_owner_0 rfl (lv_at hl 2 rfl) ?_
  refine lv_iconst (v := nI 0) hx hb d_LW_owner_1 (by decide +kernel) ?_
  refine lv_aload_n hx hb d_LW_owner_2 rfl (lv_at hl 0 rfl) ?_
  refine lv_iload_n hx hb d_LW_owner_3 rfl (lv_at hl 1 rfl) ?_
  refine xw_callT (C := R_X) (wr := [(ou, .inl (cL, 1, .inr (.inl fo)))]) [.int a] (c_X_ownerT l htr D cI cB cL h0 sx sn sp sc sq sl sv sg sw sk sb nb nt p1 p2 p3 cf cl ct ck cs qr qf qh lo lr lb lf g1 g2 g3 wk rm a) ⟨hx, hb, hml, hown, hU⟩ (cwV 1 hU (xs_goodV uw_650 uw_651 uw_652 uw_1 uw_653) rfl rfl rfl (by decide +kernel) ⟨Nat.le_of_ble_eq_true rfl, Nat.le_of_ble_eq_true rfl⟩) 0 rfl rfl rfl rfl hl.1 rfl (Nat.le_of_ble_eq_true rfl) d_LW_owner_4 ⟨Nat.le_of_ble_eq_true rfl, Nat.le_of_ble_eq_true rfl⟩ [0, 1, 2, 3, 4, 5, 6, 7, 8, 9, 10, 11, 12, 13, 14, 15, 16, 17, 18] [19] rfl rfl (by decide) (by decide) (by decide) hN hZ hK hP hD hS hA [] (⟨0, 9, 12, 25⟩ : ExceptionTableEntry) [] (htab.trans rfl) (fun z hz => by cases hz) (by decide) (by decide) (hU _ uw_467) (va_Nw.use rfl (hN _ nw_478)) (fun q_1 H locs hP hD hS => ?_)
  have hP : va_P D vwCl [(ou, .inl (cL, 1, .inr (.inl fo)))] H := hP
  have hD : va_D A [(ou, .inl (cL, 1, .inr (.inl fo)))] := hD
  refine W.widen (k := 1) (n := 6) (Nat.le_of_ble_eq_true rfl) (Nat.le_of_ble_eq_true rfl) ?_
  refine W.eq (g2 := F0 m 12 ls [.ref q_1]) rfl ?_
  refine lv_astore_n (lv' := [(3, .ref q_1), (0, .ref h0), (1, .int a), (2, .ref ou)]) hx hb d_LW_owner_12 rfl hl (by decide) rfl (fun ls hl => ?_)
  refine lv_iconst (v := nI 1) hx hb d_LW_owner_13 (by decide +kernel) ?_
  have hP9 := xs_P_sub (w := []) hP [] rfl
  have hD9 := hD.sub (ws' := []) [] (by decide) rfl
  exact xw_iret () hx hb hr hlocks d_LW_owner_14 (rfl) (trivial) hAe hP9 hD9 hS (Nat.le_of_ble_eq_true rfl) (Nat.le_of_ble_eq_true rfl)
set_option maxHeartbeats 4000000 in
set_option maxRecDepth 100000 in
/-- the law's times -/
theorem c_L_times (l : Launch) (htr : l.stackTraces = false) (D : va_G) (cI cB cL : ClassId) (h0 : Nat) (sx : Nat) (sn : Nat) (sp : Nat) (sc : Nat) (sq : Nat) (sl : Nat) (sv : Nat) (sg : Nat) (sw : Nat) (sk : Nat) (sb : Nat) (nb : Nat) (nt : Nat) (p1 : Nat) (p2 : Nat) (p3 : Nat) (cf : Nat) (cl : Nat) (ct : Nat) (ck : Nat) (cs : Nat) (qr : Nat) (qf : Nat) (qh : Nat) (lo : Nat) (lr : Nat) (lb : Nat) (lf : Nat) (g1 : Nat) (g2 : Nat) (g3 : Nat) (wk : Nat) (rm : Nat) (a : Int32) (ou : Nat) (fo : Nat → Int64)  : xH (σ := Unit) l y_LW_times w_LW_times ({ frames := 7, cells := 1, slots := 6, locals := 103  } : Room) D vwCl (xs_tys cI cB cL) [.ref h0, .int a, .ref ou] [(h0, .inr (0, [.ref sx, .ref sn, .ref sp, .ref sc])), (sx, .inr (9, [.ref sn, .ref sp, .ref sc, .ref sq, .ref sl, .ref sv, .ref sg, .ref sw, .ref sk, .ref sb, .int (nI 0)])), (sn, .inr (1, [.int (nI 0), .int (nI 0), .ref nb, .ref nt])), (sp, .inr (2, [.ref p1, .ref p2, .ref p3, .int (nI 0)])), (p1, .inl (cI, 20, .inl (fun _ => 0))), (p2, .inl (cI, 20, .inl (fun _ => 0))), (p3, .inl (cI, 20, .inl (fun _ => 0))), (sc, .inr (4, [.int (nI wk), .ref cf, .ref cl, .ref ct, .ref ck, .ref cs, .int (nI wk), .int (nI 0)])), (cl, .inl (cB, 16, .inl (fun _ => nI 1))), (ct, .inl (cI, 16, .inl (fun _ => 0))), (ck, .inl (cI, 16, .inl (fun _ => 0))), (cs, .inl (cI, 16, .inl (fun _ => 0))), (sq, .inr (5, [.int (nI rm), .ref qr, .ref qf, .ref qh, .int (nI 0)])), (sv, .inr (7, [.ref lo, .ref lr, .ref lb, .int (nI 0), .ref lf])), (lo, .inl (cI, 200, .inl (fun _ => (-1)))), (lb, .inl (cI, 201, .inl (fun _ => 0))), (lf, .inl (cB, 200, .inl (fun _ => 0))), (sg, .inr (3, [.ref g1, .ref g2, .ref g3, .int (nI 0)])), (sk, .inl (cI, 200, .inl (fun _ => 0))), (ou, .inl (cL, 1, .inr (.inl fo)))] (fun _ => True) (fun _ => some (.int (nI 1))) (fun _ => []) := by
  refine xH.of b_LW_times 4 (some .int) h_LW_times (by decide +kernel) rfl (Nat.le_of_ble_eq_true rfl) ?_
  intro p e s m below meth c A ls hAe C0 htab hZ hP hD hS hl
  obtain ⟨hx, hb, hr, hml, hown, hlocks, hts, hnm, hN, hK, hA⟩ := C0
  have hU : ∀ w ∈ xU, w.before #[.ref h0, .int a, .ref ou] s = true := fun w h => hts w (List.mem_cons_of_mem _ h)
  have hl : lv_has ls 4 [(0, .ref h0), (1, .int a), (2, .ref ou)] := hl
  refine lv_aload_n hx hb d_LW_times_0 rfl (lv_at hl 2 rfl) ?_
  refine lv_iconst (v := nI 0) hx hb d_LW_times_1 (by decide +kernel) ?_
  refine lv_aload_n hx hb d_LW_times_2 rfl (lv_at hl 0 rfl) ?_
  refine lv_iload_n hx hb d_LW_times_3 rfl (lv_at hl 1 rfl) ?_
  refine xw_callT (C := R_X) (wr := [(ou, .inl (cL, 1, .inr (.inl fo)))]) [.int a] (c_X_timesT l htr D cI cB cL h0 sx sn sp sc sq sl sv sg sw sk sb nb nt p1 p2 p3 cf cl ct ck cs qr qf qh lo lr lb lf g1 g2 g3 wk rm a) ⟨hx, hb, hml, hown, hU⟩ (cwV 1 hU (xs_goodV uw_658 uw_659 uw_660 uw_1 uw_661) rfl rfl rfl (by decide +kernel) ⟨Nat.le_of_ble_eq_true rfl, Nat.le_of_ble_eq_true rfl⟩) 0 rfl rfl rfl rfl hl.1 rfl (Nat.le_of_ble_eq_true rfl) d_LW_times_4 ⟨Nat.le_of_ble_eq_true rfl, Nat.le_of_ble_eq_true rfl⟩ [0, 1, 2, 3, 4, 5, 6, 7, 8, 9, 10, 11, 12, 13, 14, 15, 16, 17, 18] [19] rfl rfl (by decide) (by decide) (by decide) hN hZ hK hP hD hS hA [] (⟨0, 9, 12, 25⟩ : ExceptionTableEntry) [] (htab.trans rfl) (fun z hz => by cases hz) (by decide) (by decide) (hU _ uw_467) (va_Nw.use rfl (hN _ nw_478)) (fun q_1 H locs hP hD hS => ?_)
  have hP : va_P D vwCl [(ou, .inl (cL, 1, .inr (.inl fo)))] H := hP
  have hD : va_D A [(ou, .inl (cL, 1, .inr (.inl fo)))] := hD
  refine W.widen (k := 1) (n := 6) (Nat.le_of_ble_eq_true rfl) (Nat.le_of_ble_eq_true rfl) ?_
  refine W.eq (g2 := F0 m 12 ls [.ref q_1]) rfl ?_
  refine lv_astore_n (lv' := [(3, .ref q_1), (0, .ref h0), (1, .int a), (2, .ref ou)]) hx hb d_LW_times_12 rfl hl (by decide) rfl (fun ls hl => ?_)
  refine lv_iconst (v := nI 1) hx hb d_LW_times_13 (by decide +kernel) ?_
  have hP9 := xs_P_sub (w := []) hP [] rfl
  have hD9 := hD.sub (ws' := []) [] (by decide) rfl
  exact xw_iret () hx hb hr hlocks d_LW_times_14 (rfl) (trivial) hAe hP9 hD9 hS (Nat.le_of_ble_eq_true rfl) (Nat.le_of_ble_eq_true rfl)
set_option maxHeartbeats 4000000 in
set_option maxRecDepth 100000 in
/-- the law's way -/
theorem c_L_way (l : Launch) (htr : l.stackTraces = false) (D : va_G) (cI cB cL : ClassId) (h0 : Nat) (sx : Nat) (sn : Nat) (sp : Nat) (sc : Nat) (sq : Nat) (sl : Nat) (sv : Nat) (sg : Nat) (sw : Nat) (sk : Nat) (sb : Nat) (nb : Nat) (nt : Nat) (p1 : Nat) (p2 : Nat) (p3 : Nat) (cf : Nat) (cl : Nat) (ct : Nat) (ck : Nat) (cs : Nat) (qr : Nat) (qf : Nat) (qh : Nat) (lo : Nat) (lr : Nat) (lb : Nat) (lf : Nat) (g1 : Nat) (g2 : Nat) (g3 : Nat) (wk : Nat) (rm : Nat) (a : Int32) (b : Int32) (ou : Nat) (fo : Nat → Int64)  : xH (σ := Unit) l y_LW_way w_LW_way ({ frames := 7, cells := 1, slots := 6, locals := 104  } : Room) D vwCl (xs_tys cI cB cL) [.ref h0, .int a, .int b, .ref ou] [(h0, .inr (0, [.ref sx, .ref sn, .ref sp, .ref sc])), (sx, .inr (9, [.ref sn, .ref sp, .ref sc, .ref sq, .ref sl, .ref sv, .ref sg, .ref sw, .ref sk, .ref sb, .int (nI 0)])), (sn, .inr (1, [.int (nI 0), .int (nI 0), .ref nb, .ref nt])), (sp, .inr (2, [.ref p1, .ref p2, .ref p3, .int (nI 0)])), (p1, .inl (cI, 20, .inl (fun _ => 0))), (p2, .inl (cI, 20, .inl (fun _ => 0))), (p3, .inl (cI, 20, .inl (fun _ => 0))), (sc, .inr (4, [.int (nI wk), .ref cf, .ref cl, .ref ct, .ref ck, .ref cs, .int (nI wk), .int (nI 0)])), (cl, .inl (cB, 16, .inl (fun _ => nI 1))), (ct, .inl (cI, 16, .inl (fun _ => 0))), (ck, .inl (cI, 16, .inl (fun _ => 0))), (cs, .inl (cI, 16, .inl (fun _ => 0))), (sq, .inr (5, [.int (nI rm), .ref qr, .ref qf, .ref qh, .int (nI 0)])), (sv, .inr (7, [.ref lo, .ref lr, .ref lb, .int (nI 0), .ref lf])), (lo, .inl (cI, 200, .inl (fun _ => (-1)))), (lb, .inl (cI, 201, .inl (fun _ => 0))), (lf, .inl (cB, 200, .inl (fun _ => 0))), (sg, .inr (3, [.ref g1, .ref g2, .ref g3, .int (nI 0)])), (sk, .inl (cI, 200, .inl (fun _ => 0))), (ou, .inl (cL, 1, .inr (.inl fo)))] (fun _ => True) (fun _ => some (.int (nI 1))) (fun _ => []) := by
  refine xH.of b_LW_way 5 (some .int) h_LW_way (by decide +kernel) rfl (Nat.le_of_ble_eq_true rfl) ?_
  intro p e s m below meth c A ls hAe C0 htab hZ hP hD hS hl
  obtain ⟨hx, hb, hr, hml, hown, hlocks, hts, hnm, hN, hK, hA⟩ := C0
  have hU : ∀ w ∈ xU, w.before #[.ref h0, .int a, .int b, .ref ou] s = true := fun w h => hts w (List.mem_cons_of_mem _ h)
  have hl : lv_has ls 5 [(0, .ref h0), (1, .int a), (2, .int b), (3, .ref ou)] := hl
  refine lv_aload_n hx hb d_LW_way_0 rfl (lv_at hl 3 rfl) ?_
  refine lv_iconst (v := nI 0) hx hb d_LW_way_1 (by decide +kernel) ?_
  refine lv_aload_n hx hb d_LW_way_2 rfl (lv_at hl 0 rfl) ?_
  refine lv_iload_n hx hb d_LW_way_3 rfl (lv_at hl 1 rfl) ?_
  refine lv_iload_n hx hb d_LW_way_4 rfl (lv_at hl 2 rfl) ?_
  refine xw_callT (C := R_X) (wr := [(ou, .inl (cL, 1, .inr (.inl fo)))]) [.int a, .int b] (c_X_wayT l htr D cI cB cL h0 sx sn sp sc sq sl sv sg sw sk sb nb nt p1 p2 p3 cf cl ct ck cs qr qf qh lo lr lb lf g1 g2 g3 wk rm a b) ⟨hx, hb, hml, hown, hU⟩ (cwV 2 hU (xs_goodV uw_665 uw_666 uw_667 uw_1 uw_668) rfl rfl rfl (by decide +kernel) ⟨Nat.le_of_ble_eq_true rfl, Nat.le_of_ble_eq_true rfl⟩) 0 rfl rfl rfl rfl hl.1 rfl (Nat.le_of_ble_eq_true rfl) d_LW_way_5 ⟨Nat.le_of_ble_eq_true rfl, Nat.le_of_ble_eq_true rfl⟩ [0, 1, 2, 3, 4, 5, 6, 7, 8, 9, 10, 11, 12, 13, 14, 15, 16, 17, 18] [19] rfl rfl (by decide) (by decide) (by decide) hN hZ hK hP hD hS hA [] (⟨0, 10, 13, 25⟩ : ExceptionTableEntry) [] (htab.trans rfl) (fun z hz => by cases hz) (by decide) (by decide) (hU _ uw_467) (va_Nw.use rfl (hN _ nw_478)) (fun q_1 H locs hP hD hS => ?_)
  have hP : va_P D vwCl [(ou, .inl (cL, 1, .inr (.inl fo)))] H := hP
  have hD : va_D A [(ou, .inl (cL, 1, .inr (.inl fo)))] := hD
  refine W.widen (k := 1) (n := 6) (Nat.le_of_ble_eq_true rfl) (Nat.le_of_ble_eq_true rfl) ?_
  refine W.eq (g2 := F0 m 13 ls [.ref q_1]) rfl ?_
  refine lv_astore (lv' := [(4, .ref q_1), (0, .ref h0), (1, .int a), (2, .int b), (3, .ref ou)]) hx hb d_LW_way_13 hl (by decide) rfl (fun ls hl => ?_)
  refine lv_iconst (v := nI 1) hx hb d_LW_way_15 (by decide +kernel) ?_
  have hP9 := xs_P_sub (w := []) hP [] rfl
  have hD9 := hD.sub (ws' := []) [] (by decide) rfl
  exact xw_iret () hx hb hr hlocks d_LW_way_16 (rfl) (trivial) hAe hP9 hD9 hS (Nat.le_of_ble_eq_true rfl) (Nat.le_of_ble_eq_true rfl)
set_option maxHeartbeats 4000000 in
set_option maxRecDepth 100000 in
/-- the law's failed -/
theorem c_L_failed (l : Launch) (htr : l.stackTraces = false) (D : va_G) (cI cB cL : ClassId) (h0 : Nat) (sx : Nat) (sn : Nat) (sp : Nat) (sc : Nat) (sq : Nat) (sl : Nat) (sv : Nat) (sg : Nat) (sw : Nat) (sk : Nat) (sb : Nat) (nb : Nat) (nt : Nat) (p1 : Nat) (p2 : Nat) (p3 : Nat) (cf : Nat) (cl : Nat) (ct : Nat) (ck : Nat) (cs : Nat) (qr : Nat) (qf : Nat) (qh : Nat) (lo : Nat) (lr : Nat) (lb : Nat) (lf : Nat) (g1 : Nat) (g2 : Nat) (g3 : Nat) (wk : Nat) (rm : Nat) (a : Int32) (b : Int32) (ou : Nat) (fo : Nat → Int64)  : xH (σ := Unit) l y_LW_failed w_LW_failed ({ frames := 7, cells := 1, slots := 6, locals := 105  } : Room) D vwCl (xs_tys cI cB cL) [.ref h0, .int a, .int b, .ref ou] [(h0, .inr (0, [.ref sx, .ref sn, .ref sp, .ref sc])), (sx, .inr (9, [.ref sn, .ref sp, .ref sc, .ref sq, .ref sl, .ref sv, .ref sg, .ref sw, .ref sk, .ref sb, .int (nI 0)])), (sn, .inr (1, [.int (nI 0), .int (nI 0), .ref nb, .ref nt])), (sp, .inr (2, [.ref p1, .ref p2, .ref p3, .int (nI 0)])), (p1, .inl (cI, 20, .inl (fun _ => 0))), (p2, .inl (cI, 20, .inl (fun _ => 0))), (p3, .inl (cI, 20, .inl (fun _ => 0))), (sc, .inr (4, [.int (nI wk), .ref cf, .ref cl, .ref ct, .ref ck, .ref cs, .int (nI wk), .int (nI 0)])), (cl, .inl (cB, 16, .inl (fun _ => nI 1))), (ct, .inl (cI, 16, .inl (fun _ => 0))), (ck, .inl (cI, 16, .inl (fun _ => 0))), (cs, .inl (cI, 16, .inl (fun _ => 0))), (sq, .inr (5, [.int (nI rm), .ref qr, .ref qf, .ref qh, .int (nI 0)])), (sv, .inr (7, [.ref lo, .ref lr, .ref lb, .int (nI 0), .ref lf])), (lo, .inl (cI, 200, .inl (fun _ => (-1)))), (lb, .inl (cI, 201, .inl (fun _ => 0))), (lf, .inl (cB, 200, .inl (fun _ => 0))), (sg, .inr (3, [.ref g1, .ref g2, .ref g3, .int (nI 0)])), (sk, .inl (cI, 200, .inl (fun _ => 0))), (ou, .inl (cL, 1, .inr (.inl fo)))] (fun _ => True) (fun _ => some (.int (nI 1))) (fun _ => []) := by
  refine xH.of b_LW_failed 5 (some .int) h_LW_failed (by decide +kernel) rfl (Nat.le_of_ble_eq_true rfl) ?_
  intro p e s m below meth c A ls hAe C0 htab hZ hP hD hS hl
  obtain ⟨hx, hb, hr, hml, hown, hlocks, hts, hnm, hN, hK, hA⟩ := C0
  have hU : ∀ w ∈ xU, w.before #[.ref h0, .int a, .int b, .ref ou] s = true := fun w h => hts w (List.mem_cons_of_mem _ h)
  have hl : lv_has ls 5 [(0, .ref h0), (1, .int a), (2, .int b), (3, .ref ou)] := hl
  refine lv_aload_n hx hb d_LW_failed_0 rfl (lv_at hl 3 rfl) ?_
  refine lv_iconst (v := nI 0) hx hb d_LW_failed_1 (by decide +kernel) ?_
  refine lv_aload_n hx hb d_LW_failed_2 rfl (lv_at hl 0 rfl) ?_
  refine lv_iload_n hx hb d_LW_failed_3 rfl (lv_at hl 1 rfl) ?_
  refine lv_iload_n hx hb d_LW_failed_4 rfl (lv_at hl 2 rfl) ?_
  refine xw_callT (C := R_X) (wr := [(ou, .inl (cL, 1, .inr (.inl fo)))]) [.int a, .int b] (c_X_failedT l htr D cI cB cL h0 sx sn sp sc sq sl sv sg sw sk sb nb nt p1 p2 p3 cf cl ct ck cs qr qf qh lo lr lb lf g1 g2 g3 wk rm a b) ⟨hx, hb, hml, hown, hU⟩ (cwV 2 hU (xs_goodV uw_699 uw_700 uw_701 uw_1 uw_702) rfl rfl rfl (by decide +kernel) ⟨Nat.le_of_ble_eq_true rfl, Nat.le_of_ble_eq_true rfl⟩) 0 rfl rfl rfl rfl hl.1 rfl (Nat.le_of_ble_eq_true rfl) d_LW_failed_5 ⟨Nat.le_of_ble_eq_true rfl, Nat.le_of_ble_eq_true rfl⟩ [0, 1, 2, 3, 4, 5, 6, 7, 8, 9, 10, 11, 12, 13, 14, 15, 16, 17, 18] [19] rfl rfl (by decide) (by decide) (by decide) hN hZ hK hP hD hS hA [] (⟨0, 10, 13, 25⟩ : ExceptionTableEntry) [] (htab.trans rfl) (fun z hz => by cases hz) (by decide) (by decide) (hU _ uw_467) (va_Nw.use rfl (hN _ nw_478)) (fun q_1 H locs hP hD hS => ?_)
  have hP : va_P D vwCl [(ou, .inl (cL, 1, .inr (.inl fo)))] H := hP
  have hD : va_D A [(ou, .inl (cL, 1, .inr (.inl fo)))] := hD
  refine W.widen (k := 1) (n := 6) (Nat.le_of_ble_eq_true rfl) (Nat.le_of_ble_eq_true rfl) ?_
  refine W.eq (g2 := F0 m 13 ls [.ref q_1]) rfl ?_
  refine lv_astore (lv' := [(4, .ref q_1), (0, .ref h0), (1, .int a), (2, .int b), (3, .ref ou)]) hx hb d_LW_failed_13 hl (by decide) rfl (fun ls hl => ?_)
  refine lv_iconst (v := nI 1) hx hb d_LW_failed_15 (by decide +kernel) ?_
  have hP9 := xs_P_sub (w := []) hP [] rfl
  have hD9 := hD.sub (ws' := []) [] (by decide) rfl
  exact xw_iret () hx hb hr hlocks d_LW_failed_16 (rfl) (trivial) hAe hP9 hD9 hS (Nat.le_of_ble_eq_true rfl) (Nat.le_of_ble_eq_true rfl)
set_option maxHeartbeats 4000000 in
set_option maxRecDepth 100000 in
/-- the law's size -/
theorem c_L_size (l : Launch) (htr : l.stackTraces = false) (D : va_G) (cI cB cL : ClassId) (h0 : Nat) (sx : Nat) (sn : Nat) (sp : Nat) (sc : Nat) (sq : Nat) (sl : Nat) (sv : Nat) (sg : Nat) (sw : Nat) (sk : Nat) (sb : Nat) (nb : Nat) (nt : Nat) (p1 : Nat) (p2 : Nat) (p3 : Nat) (cf : Nat) (cl : Nat) (ct : Nat) (ck : Nat) (cs : Nat) (qr : Nat) (qf : Nat) (qh : Nat) (lo : Nat) (lr : Nat) (lb : Nat) (lf : Nat) (g1 : Nat) (g2 : Nat) (g3 : Nat) (wk : Nat) (rm : Nat) (a : Int32) (ou : Nat) (fo : Nat → Int64)  : xH (σ := Unit) l y_LW_size w_LW_size ({ frames := 7, cells := 1, slots := 6, locals := 104  } : Room) D vwCl (xs_tys cI cB cL) [.ref h0, .int a, .ref ou] [(h0, .inr (0, [.ref sx, .ref sn, .ref sp, .ref sc])), (sx, .inr (9, [.ref sn, .ref sp, .ref sc, .ref sq, .ref sl, .ref sv, .ref sg, .ref sw, .ref sk, .ref sb, .int (nI 0)])), (sn, .inr (1, [.int (nI 0), .int (nI 0), .ref nb, .ref nt])), (sp, .inr (2, [.ref p1, .ref p2, .ref p3, .int (nI 0)])), (p1, .inl (cI, 20, .inl (fun _ => 0))), (p2, .inl (cI, 20, .inl (fun _ => 0))), (p3, .inl (cI, 20, .inl (fun _ => 0))), (sc, .inr (4, [.int (nI wk), .ref cf, .ref cl, .ref ct, .ref ck, .ref cs, .int (nI wk), .int (nI 0)])), (cl, .inl (cB, 16, .inl (fun _ => nI 1))), (ct, .inl (cI, 16, .inl (fun _ => 0))), (ck, .inl (cI, 16, .inl (fun _ => 0))), (cs, .inl (cI, 16, .inl (fun _ => 0))), (sq, .inr (5, [.int (nI rm), .ref qr, .ref qf, .ref qh, .int (nI 0)])), (sv, .inr (7, [.ref lo, .ref lr, .ref lb, .int (nI 0), .ref lf])), (lo, .inl (cI, 200, .inl (fun _ => (-1)))), (lb, .inl (cI, 201, .inl (fun _ => 0))), (lf, .inl (cB, 200, .inl (fun _ => 0))), (sg, .inr (3, [.ref g1, .ref g2, .ref g3, .int (nI 0)])), (sk, .inl (cI, 200, .inl (fun _ => 0))), (ou, .inl (cL, 1, .inr (.inl fo)))] (fun _ => True) (fun _ => some (.int (nI 1))) (fun _ => []) := by
  refine xH.of b_LW_size 4 (some .int) h_LW_size (by decide +kernel) rfl (Nat.le_of_ble_eq_true rfl) ?_
  intro p e s m below meth c A ls hAe C0 htab hZ hP hD hS hl
  obtain ⟨hx, hb, hr, hml, hown, hlocks, hts, hnm, hN, hK, hA⟩ := C0
  have hU : ∀ w ∈ xU, w.before #[.ref h0, .int a, .ref ou] s = true := fun w h => hts w (List.mem_cons_of_mem _ h)
  have hl : lv_has ls 4 [(0, .ref h0), (1, .int a), (2, .ref ou)] := hl
  refine lv_aload_n hx hb d_LW_size_0 rfl (lv_at hl 2 rfl) ?_
  refine lv_iconst (v := nI 0) hx hb d_LW_size_1 (by decide +kernel) ?_
  refine lv_aload_n hx hb d_LW_size_2 rfl (lv_at hl 0 rfl) ?_
  refine lv_iload_n hx hb d_LW_size_3 rfl (lv_at hl 1 rfl) ?_
  refine xw_callT (C := R_X) (wr := [(ou, .inl (cL, 1, .inr (.inl fo)))]) [.int a] (c_X_sizeT l htr D cI cB cL h0 sx sn sp sc sq sl sv sg sw sk sb nb nt p1 p2 p3 cf cl ct ck cs qr qf qh lo lr lb lf g1 g2 g3 wk rm a) ⟨hx, hb, hml, hown, hU⟩ (cwV 1 hU (xs_goodV uw_708 uw_709 uw_710 uw_1 uw_711) rfl rfl rfl (by decide +kernel) ⟨Nat.le_of_ble_eq_true rfl, Nat.le_of_ble_eq_true rfl⟩) 0 rfl rfl rfl rfl hl.1 rfl (Nat.le_of_ble_eq_true rfl) d_LW_size_4 ⟨Nat.le_of_ble_eq_true rfl, Nat.le_of_ble_eq_true rfl⟩ [0, 1, 2, 3, 4, 5, 6, 7, 8, 9, 10, 11, 12, 13, 14, 15, 16, 17, 18] [19] rfl rfl (by decide) (by decide) (by decide) hN hZ hK hP hD hS hA [] (⟨0, 9, 12, 25⟩ : ExceptionTableEntry) [] (htab.trans rfl) (fun z hz => by cases hz) (by decide) (by decide) (hU _ uw_467) (va_Nw.use rfl (hN _ nw_478)) (fun q_1 H locs hP hD hS => ?_)
  have hP : va_P D vwCl [(ou, .inl (cL, 1, .inr (.inl fo)))] H := hP
  have hD : va_D A [(ou, .inl (cL, 1, .inr (.inl fo)))] := hD
  refine W.widen (k := 1) (n := 6) (Nat.le_of_ble_eq_true rfl) (Nat.le_of_ble_eq_true rfl) ?_
  refine W.eq (g2 := F0 m 12 ls [.ref q_1]) rfl ?_
  refine lv_astore_n (lv' := [(3, .ref q_1), (0, .ref h0), (1, .int a), (2, .ref ou)]) hx hb d_LW_size_12 rfl hl (by decide) rfl (fun ls hl => ?_)
  refine lv_iconst (v := nI 1) hx hb d_LW_size_13 (by decide +kernel) ?_
  have hP9 := xs_P_sub (w := []) hP [] rfl
  have hD9 := hD.sub (ws' := []) [] (by decide) rfl
  exact xw_iret () hx hb hr hlocks d_LW_size_14 (rfl) (trivial) hAe hP9 hD9 hS (Nat.le_of_ble_eq_true rfl) (Nat.le_of_ble_eq_true rfl)
