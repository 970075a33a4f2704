set_option maxHeartbeats 4000000 in
set_option maxRecDepth 100000 in
/-- the law's fail -/
theorem c_L_failT1 (l : Launch) (htr : l.stackTraces = false) (D : va_G) (cI cB cL : ClassId) (h0 : Nat) (sx : Nat) (sn : Nat) (sp : Nat) (sc : Nat) (sq : Nat) (sl : Nat) (sv : Nat) (sg : Nat) (sw : Nat) (sk : Nat) (sb : Nat) (nb : Nat) (nt : Nat) (p1 : Nat) (p2 : Nat) (p3 : Nat) (cf : Nat) (cl : Nat) (ct : Nat) (ck : Nat) (cs : Nat) (qr : Nat) (qf : Nat) (qh : Nat) (lo : Nat) (lr : Nat) (lb : Nat) (lf : Nat) (g1 : Nat) (g2 : Nat) (g3 : Nat) (wk : Nat) (rm : Nat) (a : Int32) (b : Int32) (c9 : Int32) (ou : Nat) (fo : Nat → Int64) (hbad : a < 0 ∨ nI wk ≤ a) : xH (σ := Unit) l y_LW_fail w_LW_fail ({ frames := 7, cells := 1, slots := 6, locals := 105  } : Room) D vwCl (xs_tys cI cB cL) [.ref h0, .int a, .int b, .int c9, .ref ou] [(h0, .inr (0, [.ref sx, .ref sn, .ref sp, .ref sc])), (sx, .inr (9, [.ref sn, .ref sp, .ref sc, .ref sq, .ref sl, .ref sv, .ref sg, .ref sw, .ref sk, .ref sb, .int (nI 0)])), (sn, .inr (1, [.int (nI 0), .int (nI 0), .ref nb, .ref nt])), (sp, .inr (2, [.ref p1, .ref p2, .ref p3, .int (nI 0)])), (p1, .inl (cI, 20, .inl (fun _ => 0))), (p2, .inl (cI, 20, .inl (fun _ => 0))), (p3, .inl (cI, 20, .inl (fun _ => 0))), (sc, .inr (4, [.int (nI wk), .ref cf, .ref cl, .ref ct, .ref ck, .ref cs, .int (nI wk), .int (nI 0)])), (cl, .inl (cB, 16, .inl (fun _ => nI 1))), (ct, .inl (cI, 16, .inl (fun _ => 0))), (ck, .inl (cI, 16, .inl (fun _ => 0))), (cs, .inl (cI, 16, .inl (fun _ => 0))), (sq, .inr (5, [.int (nI rm), .ref qr, .ref qf, .ref qh, .int (nI 0)])), (sv, .inr (7, [.ref lo, .ref lr, .ref lb, .int (nI 0), .ref lf])), (lo, .inl (cI, 200, .inl (fun _ => (-1)))), (lb, .inl (cI, 201, .inl (fun _ => 0))), (lf, .inl (cB, 200, .inl (fun _ => 0))), (sg, .inr (3, [.ref g1, .ref g2, .ref g3, .int (nI 0)])), (sk, .inl (cI, 200, .inl (fun _ => 0))), (ou, .inl (cL, 1, .inr (.inl fo)))] (fun _ => True) (fun _ => some (.int (nI 1))) (fun _ => []) := by
  refine xH.of b_LW_fail 6 (some .int) h_LW_fail (by decide +kernel) rfl (Nat.le_of_ble_eq_true rfl) ?_
  intro p e s m below meth c A ls hAe C0 htab hZ hP hD hS hl
  obtain ⟨hx, hb, hr, hml, hown, hlocks, hts, hnm, hN, hK, hA⟩ := C0
  have hU : ∀ w ∈ xU, w.before #[.ref h0, .int a, .int b, .int c9, .ref ou] s = true := fun w h => hts w (List.mem_cons_of_mem _ h)
  have hl : lv_has ls 6 [(0, .ref h0), (1, .int a), (2, .int b), (3, .int c9), (4, .ref ou)] := hl
  refine lv_aload hx hb d_LW_fail_0 (lv_at hl 4 rfl) ?_
  refine lv_iconst (v := nI 0) hx hb d_LW_fail_2 (by decide +kernel) ?_
  refine lv_aload_n hx hb d_LW_fail_3 rfl (lv_at hl 0 rfl) ?_
  refine lv_iload_n hx hb d_LW_fail_4 rfl (lv_at hl 1 rfl) ?_
  refine lv_iload_n hx hb d_LW_fail_5 rfl (lv_at hl 2 rfl) ?_
  refine lv_iload_n hx hb d_LW_fail_6 rfl (lv_at hl 3 rfl) ?_
  refine xw_callT (C := R_X) (wr := [(ou, .inl (cL, 1, .inr (.inl fo)))]) [.int a, .int b, .int c9] (c_X_failT1 l htr D cI cB cL h0 sx sn sp sc sq sl sv sg sw sk sb nb nt p1 p2 p3 cf cl ct ck cs qr qf qh lo lr lb lf g1 g2 g3 wk rm a b c9 (hbad)) ⟨hx, hb, hml, hown, hU⟩ (cwV 3 hU (xs_goodV uw_468 uw_469 uw_470 uw_1 uw_471) rfl rfl rfl (by decide +kernel) ⟨Nat.le_of_ble_eq_true rfl, Nat.le_of_ble_eq_true rfl⟩) 0 rfl rfl rfl rfl hl.1 rfl (Nat.le_of_ble_eq_true rfl) d_LW_fail_7 ⟨Nat.le_of_ble_eq_true rfl, Nat.le_of_ble_eq_true rfl⟩ [0, 1, 2, 3, 4, 5, 6, 7, 8, 9, 10, 11, 12, 13, 14, 15, 16, 17, 18] [19] rfl rfl (by decide) (by decide) (by decide) hN hZ hK hP hD hS hA [] (⟨0, 12, 15, 25⟩ : ExceptionTableEntry) [(⟨0, 12, 19, 19⟩ : ExceptionTableEntry), (⟨0, 12, 23, 13⟩ : ExceptionTableEntry)] (htab.trans rfl) (fun z hz => by cases hz) (by decide) (by decide) (hU _ uw_467) (va_Nw.use rfl (hN _ nw_478)) (fun q_1 H locs hP hD hS => ?_)
  have hP : va_P D vwCl [(ou, .inl (cL, 1, .inr (.inl fo)))] H := hP
  have hD : va_D A [(ou, .inl (cL, 1, .inr (.inl fo)))] := hD
  refine W.widen (k := 1) (n := 6) (Nat.le_of_ble_eq_true rfl) (Nat.le_of_ble_eq_true rfl) ?_
  refine W.eq (g2 := F0 m 15 ls [.ref q_1]) rfl ?_
  refine lv_astore (lv' := [(5, .ref q_1), (0, .ref h0), (1, .int a), (2, .int b), (3, .int c9), (4, .ref ou)]) hx hb d_LW_fail_15 hl (by decide) rfl (fun ls hl => ?_)
  refine lv_iconst (v := nI 1) hx hb d_LW_fail_17 (by decide +kernel) ?_
  have hP9 := xs_P_sub (w := []) hP [] rfl
  have hD9 := hD.sub (ws' := []) [] (by decide) rfl
  exact xw_iret () hx hb hr hlocks d_LW_fail_18 (rfl) (trivial) hAe hP9 hD9 hS (Nat.le_of_ble_eq_true rfl) (Nat.le_of_ble_eq_true rfl)
set_option maxHeartbeats 4000000 in
set_option maxRecDepth 100000 in
/-- the law's fail -/
theorem c_L_failT2 (l : Launch) (htr : l.stackTraces = false) (D : va_G) (cI cB cL : ClassId) (h0 : Nat) (sx : Nat) (sn : Nat) (sp : Nat) (sc : Nat) (sq : Nat) (sl : Nat) (sv : Nat) (sg : Nat) (sw : Nat) (sk : Nat) (sb : Nat) (nb : Nat) (nt : Nat) (p1 : Nat) (p2 : Nat) (p3 : Nat) (cf : Nat) (cl : Nat) (ct : Nat) (ck : Nat) (cs : Nat) (qr : Nat) (qf : Nat) (qh : Nat) (lo : Nat) (lr : Nat) (lb : Nat) (lf : Nat) (g1 : Nat) (g2 : Nat) (g3 : Nat) (wk : Nat) (rm : Nat) (j : Nat) (b : Int32) (c9 : Int32) (ou : Nat) (fo : Nat → Int64) (hw : wk ≤ 16) (hj : j < wk) (hbad : (b < 0 ∨ nI 200 ≤ b) ∨ (c9 < 0 ∨ nI 1000 < c9)) : xH (σ := Unit) l y_LW_fail w_LW_fail ({ frames := 7, cells := 1, slots := 6, locals := 105  } : Room) D vwCl (xs_tys cI cB cL) [.ref h0, .int (nI j), .int b, .int c9, .ref ou] [(h0, .inr (0, [.ref sx, .ref sn, .ref sp, .ref sc])), (sx, .inr (9, [.ref sn, .ref sp, .ref sc, .ref sq, .ref sl, .ref sv, .ref sg, .ref sw, .ref sk, .ref sb, .int (nI 0)])), (sn, .inr (1, [.int (nI 0), .int (nI 0), .ref nb, .ref nt])), (sp, .inr (2, [.ref p1, .ref p2, .ref p3, .int (nI 0)])), (p1, .inl (cI, 20, .inl (fun _ => 0))), (p2, .inl (cI, 20, .inl (fun _ => 0))), (p3, .inl (cI, 20, .inl (fun _ => 0))), (sc, .inr (4, [.int (nI wk), .ref cf, .ref cl, .ref ct, .ref ck, .ref cs, .int (nI wk), .int (nI 0)])), (cl, .inl (cB, 16, .inl (fun _ => nI 1))), (ct, .inl (cI, 16, .inl (fun _ => 0))), (ck, .inl (cI, 16, .inl (fun _ => 0))), (cs, .inl (cI, 16, .inl (fun _ => 0))), (sq, .inr (5, [.int (nI rm), .ref qr, .ref qf, .ref qh, .int (nI 0)])), (sv, .inr (7, [.ref lo, .ref lr, .ref lb, .int (nI 0), .ref lf])), (lo, .inl (cI, 200, .inl (fun _ => (-1)))), (lb, .inl (cI, 201, .inl (fun _ => 0))), (lf, .inl (cB, 200, .inl (fun _ => 0))), (sg, .inr (3, [.ref g1, .ref g2, .ref g3, .int (nI 0)])), (sk, .inl (cI, 200, .inl (fun _ => 0))), (ou, .inl (cL, 1, .inr (.inl fo)))] (fun _ => True) (fun _ => some (.int (nI 2))) (fun _ => []) := by
  refine xH.of b_LW_fail 6 (some .int) h_LW_fail (by decide +kernel) rfl (Nat.le_of_ble_eq_true rfl) ?_
  intro p e s m below meth c A ls hAe C0 htab hZ hP hD hS hl
  obtain ⟨hx, hb, hr, hml, hown, hlocks, hts, hnm, hN, hK, hA⟩ := C0
  have hU : ∀ w ∈ xU, w.before #[.ref h0, .int (nI j), .int b, .int c9, .ref ou] s = true := fun w h => hts w (List.mem_cons_of_mem _ h)
  have hl : lv_has ls 6 [(0, .ref h0), (1, .int (nI j)), (2, .int b), (3, .int c9), (4, .ref ou)] := hl
  refine lv_aload hx hb d_LW_fail_0 (lv_at hl 4 rfl) ?_
  refine lv_iconst (v := nI 0) hx hb d_LW_fail_2 (by decide +kernel) ?_
  refine lv_aload_n hx hb d_LW_fail_3 rfl (lv_at hl 0 rfl) ?_
  refine lv_iload_n hx hb d_LW_fail_4 rfl (lv_at hl 1 rfl) ?_
  refine lv_iload_n hx hb d_LW_fail_5 rfl (lv_at hl 2 rfl) ?_
  refine lv_iload_n hx hb d_LW_fail_6 rfl (lv_at hl 3 rfl) ?_
  refine xw_callT (C := R_X) (wr := [(ou, .inl (cL, 1, .inr (.inl fo)))]) [.int (nI j), .int b, .int c9] (c_X_failT2 l htr D cI cB cL h0 sx sn sp sc sq sl sv sg sw sk sb nb nt p1 p2 p3 cf cl ct ck cs qr qf qh lo lr lb lf g1 g2 g3 wk rm j b c9 (hw) (hj) (hbad)) ⟨hx, hb, hml, hown, hU⟩ (cwV 3 hU (xs_goodV uw_468 uw_469 uw_470 uw_1 uw_471) rfl rfl rfl (by decide +kernel) ⟨Nat.le_of_ble_eq_true rfl, Nat.le_of_ble_eq_true rfl⟩) 0 rfl rfl rfl rfl hl.1 rfl (Nat.le_of_ble_eq_true rfl) d_LW_fail_7 ⟨Nat.le_of_ble_eq_true rfl, Nat.le_of_ble_eq_true rfl⟩ [0, 1, 2, 3, 4, 5, 6, 7, 8, 9, 10, 11, 12, 13, 14, 15, 16, 17, 18] [19] rfl rfl (by decide) (by decide) (by decide) hN hZ hK hP hD hS hA [(⟨0, 12, 15, 25⟩ : ExceptionTableEntry)] (⟨0, 12, 19, 19⟩ : ExceptionTableEntry) [(⟨0, 12, 23, 13⟩ : ExceptionTableEntry)] (htab.trans rfl) (fun z hz => by rcases List.mem_singleton.mp hz with rfl; exact ⟨by decide, "java/lang/IndexOutOfBoundsException", hU _ uw_467, hZ.2.2.2⟩) (by decide) (by decide) (hU _ uw_434) (va_Nw.use rfl (hN _ nw_445)) (fun q_1 H locs hP hD hS => ?_)
  have hP : va_P D vwCl [(ou, .inl (cL, 1, .inr (.inl fo)))] H := hP
  have hD : va_D A [(ou, .inl (cL, 1, .inr (.inl fo)))] := hD
  refine W.widen (k := 1) (n := 6) (Nat.le_of_ble_eq_true rfl) (Nat.le_of_ble_eq_true rfl) ?_
  refine W.eq (g2 := F0 m 19 ls [.ref q_1]) rfl ?_
  refine lv_astore (lv' := [(5, .ref q_1), (0, .ref h0), (1, .int (nI j)), (2, .int b), (3, .int c9), (4, .ref ou)]) hx hb d_LW_fail_19 hl (by decide) rfl (fun ls hl => ?_)
  refine lv_iconst (v := nI 2) hx hb d_LW_fail_21 (by decide +kernel) ?_
  have hP9 := xs_P_sub (w := []) hP [] rfl
  have hD9 := hD.sub (ws' := []) [] (by decide) rfl
  exact xw_iret () hx hb hr hlocks d_LW_fail_22 (rfl) (trivial) hAe hP9 hD9 hS (Nat.le_of_ble_eq_true rfl) (Nat.le_of_ble_eq_true rfl)
set_option maxHeartbeats 4000000 in
set_option maxRecDepth 100000 in
/-- the law's fail -/
theorem c_L_fail0 (l : Launch) (htr : l.stackTraces = false) (D : va_G) (cI cB cL : ClassId) (h0 : Nat) (sx : Nat) (sn : Nat) (sp : Nat) (sc : Nat) (sq : Nat) (sl : Nat) (sv : Nat) (sg : Nat) (sw : Nat) (sk : Nat) (sb : Nat) (nb : Nat) (nt : Nat) (p1 : Nat) (p2 : Nat) (p3 : Nat) (cf : Nat) (cl : Nat) (ct : Nat) (ck : Nat) (cs : Nat) (qr : Nat) (qf : Nat) (qh : Nat) (lo : Nat) (lr : Nat) (lb : Nat) (lf : Nat) (g1 : Nat) (g2 : Nat) (g3 : Nat) (wk : Nat) (rm : Nat) (j : Nat) (lv : Nat) (ou : Nat) (fo : Nat → Int64) (hw : wk ≤ 16) (hj : j < wk) (hl9 : lv < 200) : xH (σ := Unit) l y_LW_fail w_LW_fail ({ frames := 5, cells := 0, slots := 0, locals := 105  } : Room) D vwCl (xs_tys cI cB cL) [.ref h0, .int (nI j), .int (nI lv), .int (nI 0), .ref ou] [(h0, .inr (0, [.ref sx, .ref sn, .ref sp, .ref sc])), (sx, .inr (9, [.ref sn, .ref sp, .ref sc, .ref sq, .ref sl, .ref sv, .ref sg, .ref sw, .ref sk, .ref sb, .int (nI 0)])), (sn, .inr (1, [.int (nI 0), .int (nI 0), .ref nb, .ref nt])), (sp, .inr (2, [.ref p1, .ref p2, .ref p3, .int (nI 0)])), (p1, .inl (cI, 20, .inl (fun _ => 0))), (p2, .inl (cI, 20, .inl (fun _ => 0))), (p3, .inl (cI, 20, .inl (fun _ => 0))), (sc, .inr (4, [.int (nI wk), .ref cf, .ref cl, .ref ct, .ref ck, .ref cs, .int (nI wk), .int (nI 0)])), (cl, .inl (cB, 16, .inl (fun _ => nI 1))), (ct, .inl (cI, 16, .inl (fun _ => 0))), (ck, .inl (cI, 16, .inl (fun _ => 0))), (cs, .inl (cI, 16, .inl (fun _ => 0))), (sq, .inr (5, [.int (nI rm), .ref qr, .ref qf, .ref qh, .int (nI 0)])), (sv, .inr (7, [.ref lo, .ref lr, .ref lb, .int (nI 0), .ref lf])), (lo, .inl (cI, 200, .inl (fun _ => (-1)))), (lb, .inl (cI, 201, .inl (fun _ => 0))), (lf, .inl (cB, 200, .inl (fun _ => 0))), (sg, .inr (3, [.ref g1, .ref g2, .ref g3, .int (nI 0)])), (sk, .inl (cI, 200, .inl (fun _ => 0))), (ou, .inl (cL, 1, .inr (.inl fo)))] (fun _ => True) (fun _ => some (.int (nI 0))) (fun _ => [(ou, .inl (cL, 1, .inr (.inl (vp_updL fo (nI 0).toNatClampNeg (nI 0).toInt64))))]) := by
  refine xH.of b_LW_fail 6 (some .int) h_LW_fail (by decide +kernel) rfl (Nat.le_of_ble_eq_true rfl) ?_
  intro p e s m below meth c A ls hAe C0 htab hZ hP hD hS hl
  obtain ⟨hx, hb, hr, hml, hown, hlocks, hts, hnm, hN, hK, hA⟩ := C0
  have hU : ∀ w ∈ xU, w.before #[.ref h0, .int (nI j), .int (nI lv), .int (nI 0), .ref ou] s = true := fun w h => hts w (List.mem_cons_of_mem _ h)
  have hl : lv_has ls 6 [(0, .ref h0), (1, .int (nI j)), (2, .int (nI lv)), (3, .int (nI 0)), (4, .ref ou)] := hl
  refine lv_aload hx hb d_LW_fail_0 (lv_at hl 4 rfl) ?_
  refine lv_iconst (v := nI 0) hx hb d_LW_fail_2 (by decide +kernel) ?_
  refine lv_aload_n hx hb d_LW_fail_3 rfl (lv_at hl 0 rfl) ?_
  refine lv_iload_n hx hb d_LW_fail_4 rfl (lv_at hl 1 rfl) ?_
  refine lv_iload_n hx hb d_LW_fail_5 rfl (lv_at hl 2 rfl) ?_
  refine lv_iload_n hx hb d_LW_fail_6 rfl (lv_at hl 3 rfl) ?_
  refine xw_callV (C := R_X) (wr := [(ou, .inl (cL, 1, .inr (.inl fo)))]) [.int (nI j), .int (nI lv), .int (nI 0)] (c_X_fail0 l D cI cB cL h0 sx sn sp sc sq sl sv sg sw sk sb nb nt p1 p2 p3 cf cl ct ck cs qr qf qh lo lr lb lf g1 g2 g3 wk rm j lv (hw) (hj) (hl9)) ⟨hx, hb, hml, hown, hU⟩ (cwV 3 hU (xs_goodV uw_468 uw_469 uw_470 uw_1 uw_471) rfl rfl rfl (by decide +kernel) ⟨Nat.le_of_ble_eq_true rfl, Nat.le_of_ble_eq_true rfl⟩) 0 rfl rfl rfl rfl hl.1 rfl (Nat.le_of_ble_eq_true rfl) d_LW_fail_7 ⟨Nat.le_of_ble_eq_true rfl, Nat.le_of_ble_eq_true rfl⟩ [0, 1, 2, 3, 4, 5, 6, 7, 8, 9, 10, 11, 12, 13, 14, 15, 16, 17, 18] [19] rfl rfl (by decide) (by decide) (by decide) hN hK hP hD hS hA (fun u H locs hf hP hD hS => ?_)
  have hP : va_P D vwCl [(ou, .inl (cL, 1, .inr (.inl fo)))] H := hP
  have hD : va_D A [(ou, .inl (cL, 1, .inr (.inl fo)))] := hD
  refine W.widen (k := 0) (n := 0) (Nat.le_of_ble_eq_true rfl) (Nat.le_of_ble_eq_true rfl) ?_
  refine W.eq (g2 := F0 m 10 ls [.int (nI 0), .int (nI 0), .ref ou]) rfl ?_
  refine lv_i2l (v := (nI 0).toInt64) hx hb d_LW_fail_10 rfl ?_
  refine va_last hx hb hK hP hD hS 0 2 rfl rfl (vp_in_nI (by decide) (by decide)) d_LW_fail_11 (fun H locs hP hD hS => ?_)
  have hP : va_P D vwCl [(ou, .inl (cL, 1, .inr (.inl (vp_updL fo (nI 0).toNatClampNeg ((nI 0).toInt64)))))] H := hP
  have hD : va_D A [(ou, .inl (cL, 1, .inr (.inl (vp_updL fo (nI 0).toNatClampNeg ((nI 0).toInt64)))))] := hD
  refine lv_goto (tgt := 27) hx hb d_LW_fail_12 (by decide) ?_
  refine lv_iconst (v := nI 0) hx hb d_LW_fail_27 (by decide +kernel) ?_
  have hP9 := xs_P_sub (w := [(ou, .inl (cL, 1, .inr (.inl (vp_updL fo (nI 0).toNatClampNeg ((nI 0).toInt64)))))]) hP [0] rfl
  have hD9 := hD.sub (ws' := [(ou, .inl (cL, 1, .inr (.inl (vp_updL fo (nI 0).toNatClampNeg ((nI 0).toInt64)))))]) [0] (by decide) rfl
  exact xw_iret () hx hb hr hlocks d_LW_fail_28 (rfl) (trivial) hAe hP9 hD9 hS (Nat.le_of_ble_eq_true rfl) (Nat.le_of_ble_eq_true rfl)
set_option maxHeartbeats 4000000 in
set_option maxRecDepth 100000 in
/-- the law's fail -/
theorem c_L_fail1 (l : Launch) (htr : l.stackTraces = false) (D : va_G) (cI cB cL : ClassId) (h0 : Nat) (sx : Nat) (sn : Nat) (sp : Nat) (sc : Nat) (sq : Nat) (sl : Nat) (sv : Nat) (sg : Nat) (sw : Nat) (sk : Nat) (sb : Nat) (nb : Nat) (nt : Nat) (p1 : Nat) (p2 : Nat) (p3 : Nat) (cf : Nat) (cl : Nat) (ct : Nat) (ck : Nat) (cs : Nat) (qr : Nat) (qf : Nat) (qh : Nat) (lo : Nat) (lr : Nat) (lb : Nat) (lf : Nat) (g1 : Nat) (g2 : Nat) (g3 : Nat) (wk : Nat) (rm : Nat) (j : Nat) (lv : Nat) (t : Nat) (ou : Nat) (fo : Nat → Int64) (hw : wk ≤ 16) (hj : j < wk) (hl9 : lv < 200) (ht0 : 0 < t) (ht : t ≤ 1000) : xH (σ := Unit) l y_LW_fail w_LW_fail ({ frames := 5, cells := 0, slots := 0, locals := 105  } : Room) D vwCl (xs_tys cI cB cL) [.ref h0, .int (nI j), .int (nI lv), .int (nI t), .ref ou] [(h0, .inr (0, [.ref sx, .ref sn, .ref sp, .ref sc])), (sx, .inr (9, [.ref sn, .ref sp, .ref sc, .ref sq, .ref sl, .ref sv, .ref sg, .ref sw, .ref sk, .ref sb, .int (nI 0)])), (sn, .inr (1, [.int (nI 0), .int (nI 0), .ref nb, .ref nt])), (sp, .inr (2, [.ref p1, .ref p2, .ref p3, .int (nI 0)])), (p1, .inl (cI, 20, .inl (fun _ => 0))), (p2, .inl (cI, 20, .inl (fun _ => 0))), (p3, .inl (cI, 20, .inl (fun _ => 0))), (sc, .inr (4, [.int (nI wk), .ref cf, .ref cl, .ref ct, .ref ck, .ref cs, .int (nI wk), .int (nI 0)])), (cl, .inl (cB, 16, .inl (fun _ => nI 1))), (ct, .inl (cI, 16, .inl (fun _ => 0))), (ck, .inl (cI, 16, .inl (fun _ => 0))), (cs, .inl (cI, 16, .inl (fun _ => 0))), (sq, .inr (5, [.int (nI rm), .ref qr, .ref qf, .ref qh, .int (nI 0)])), (sv, .inr (7, [.ref lo, .ref lr, .ref lb, .int (nI 0), .ref lf])), (lo, .inl (cI, 200, .inl (fun _ => (-1)))), (lb, .inl (cI, 201, .inl (fun _ => 0))), (lf, .inl (cB, 200, .inl (fun _ => 0))), (sg, .inr (3, [.ref g1, .ref g2, .ref g3, .int (nI 0)])), (sk, .inl (cI, 200, .inl (fun _ => 0))), (ou, .inl (cL, 1, .inr (.inl fo)))] (fun _ => True) (fun _ => some (.int (nI 0))) (fun _ => [(ou, .inl (cL, 1, .inr (.inl (vp_updL fo (nI 0).toNatClampNeg (nI 1).toInt64))))]) := by
  refine xH.of b_LW_fail 6 (some .int) h_LW_fail (by decide +kernel) rfl (Nat.le_of_ble_eq_true rfl) ?_
  intro p e s m below meth c A ls hAe C0 htab hZ hP hD hS hl
  obtain ⟨hx, hb, hr, hml, hown, hlocks, hts, hnm, hN, hK, hA⟩ := C0
  have hU : ∀ w ∈ xU, w.before #[.ref h0, .int (nI j), .int (nI lv), .int (nI t), .ref ou] s = true := fun w h => hts w (List.mem_cons_of_mem _ h)
  have hl : lv_has ls 6 [(0, .ref h0), (1, .int (nI j)), (2, .int (nI lv)), (3, .int (nI t)), (4, .ref ou)] := hl
  refine lv_aload hx hb d_LW_fail_0 (lv_at hl 4 rfl) ?_
  refine lv_iconst (v := nI 0) hx hb d_LW_fail_2 (by decide +kernel) ?_
  refine lv_aload_n hx hb d_LW_fail_3 rfl (lv_at hl 0 rfl) ?_
  refine lv_iload_n hx hb d_LW_fail_4 rfl (lv_at hl 1 rfl) ?_
  refine lv_iload_n hx hb d_LW_fail_5 rfl (lv_at hl 2 rfl) ?_
  refine lv_iload_n hx hb d_LW_fail_6 rfl (lv_at hl 3 rfl) ?_
  refine xw_callV (C := R_X) (wr := [(ou, .inl (cL, 1, .inr (.inl fo)))]) [.int (nI j), .int (nI lv), .int (nI t)] (c_X_fail1 l D cI cB cL h0 sx sn sp sc sq sl sv sg sw sk sb nb nt p1 p2 p3 cf cl ct ck cs qr qf qh lo lr lb lf g1 g2 g3 wk rm j lv t (hw) (hj) (hl9) (ht0) (ht)) ⟨hx, hb, hml, hown, hU⟩ (cwV 3 hU (xs_goodV uw_468 uw_469 uw_470 uw_1 uw_471) rfl rfl rfl (by decide +kernel) ⟨Nat.le_of_ble_eq_true rfl, Nat.le_of_ble_eq_true rfl⟩) 0 rfl rfl rfl rfl hl.1 rfl (Nat.le_of_ble_eq_true rfl) d_LW_fail_7 ⟨Nat.le_of_ble_eq_true rfl, Nat.le_of_ble_eq_true rfl⟩ [0, 1, 2, 3, 4, 5, 6, 7, 8, 9, 10, 11, 12, 13, 14, 15, 16, 17, 18] [19] rfl rfl (by decide) (by decide) (by decide) hN hK hP hD hS hA (fun u H locs hf hP hD hS => ?_)
  have hP : va_P D vwCl [(ou, .inl (cL, 1, .inr (.inl fo)))] H := hP
  have hD : va_D A [(ou, .inl (cL, 1, .inr (.inl fo)))] := hD
  refine W.widen (k := 0) (n := 0) (Nat.le_of_ble_eq_true rfl) (Nat.le_of_ble_eq_true rfl) ?_
  refine W.eq (g2 := F0 m 10 ls [.int (nI 1), .int (nI 0), .ref ou]) rfl ?_
  refine lv_i2l (v := (nI 1).toInt64) hx hb d_LW_fail_10 rfl ?_
  refine va_last hx hb hK hP hD hS 0 2 rfl rfl (vp_in_nI (by decide) (by decide)) d_LW_fail_11 (fun H locs hP hD hS => ?_)
  have hP : va_P D vwCl [(ou, .inl (cL, 1, .inr (.inl (vp_updL fo (nI 0).toNatClampNeg ((nI 1).toInt64)))))] H := hP
  have hD : va_D A [(ou, .inl (cL, 1, .inr (.inl (vp_updL fo (nI 0).toNatClampNeg ((nI 1).toInt64)))))] := hD
  refine lv_goto (tgt := 27) hx hb d_LW_fail_12 (by decide) ?_
  refine lv_iconst (v := nI 0) hx hb d_LW_fail_27 (by decide +kernel) ?_
  have hP9 := xs_P_sub (w := [(ou, .inl (cL, 1, .inr (.inl (vp_updL fo (nI 0).toNatClampNeg ((nI 1).toInt64)))))]) hP [0] rfl
  have hD9 := hD.sub (ws' := [(ou, .inl (cL, 1, .inr (.inl (vp_updL fo (nI 0).toNatClampNeg ((nI 1).toInt64)))))]) [0] (by decide) rfl
  exact xw_iret () hx hb hr hlocks d_LW_fail_28 (rfl) (trivial) hAe hP9 hD9 hS (Nat.le_of_ble_eq_true rfl) (Nat.le_of_ble_eq_true rfl)
