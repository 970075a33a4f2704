set_option maxHeartbeats 4000000 in
set_option maxRecDepth 100000 in
/-- failed, before a run -/
theorem c_X_failedT (l : Launch) (htr : l.stackTraces = false) (D : va_G) (cI cB cL : ClassId) (h0 : Nat) (sx : Nat) (sn : Nat) (sp : Nat) (sc : Nat) (sq : Nat) (sl : Nat) (sv : Nat) (sg : Nat) (sw : Nat) (sk : Nat) (sb : Nat) (nb : Nat) (nt : Nat) (p1 : Nat) (p2 : Nat) (p3 : Nat) (cf : Nat) (cl : Nat) (ct : Nat) (ck : Nat) (cs : Nat) (qr : Nat) (qf : Nat) (qh : Nat) (lo : Nat) (lr : Nat) (lb : Nat) (lf : Nat) (g1 : Nat) (g2 : Nat) (g3 : Nat) (wk : Nat) (rm : Nat) (a : Int32) (b : Int32)  : xT l y_X_failed w_X_failed ({ frames := 6, cells := 1, slots := 6, locals := 82  } : Room) D vwCl (xs_tys cI cB cL) [.ref h0, .int a, .int b] [(h0, .inr (0, [.ref sx, .ref sn, .ref sp, .ref sc])), (sx, .inr (9, [.ref sn, .ref sp, .ref sc, .ref sq, .ref sl, .ref sv, .ref sg, .ref sw, .ref sk, .ref sb, .int (nI 0)])), (sn, .inr (1, [.int (nI 0), .int (nI 0), .ref nb, .ref nt])), (sp, .inr (2, [.ref p1, .ref p2, .ref p3, .int (nI 0)])), (p1, .inl (cI, 20, .inl (fun _ => 0))), (p2, .inl (cI, 20, .inl (fun _ => 0))), (p3, .inl (cI, 20, .inl (fun _ => 0))), (sc, .inr (4, [.int (nI wk), .ref cf, .ref cl, .ref ct, .ref ck, .ref cs, .int (nI wk), .int (nI 0)])), (cl, .inl (cB, 16, .inl (fun _ => nI 1))), (ct, .inl (cI, 16, .inl (fun _ => 0))), (ck, .inl (cI, 16, .inl (fun _ => 0))), (cs, .inl (cI, 16, .inl (fun _ => 0))), (sq, .inr (5, [.int (nI rm), .ref qr, .ref qf, .ref qh, .int (nI 0)])), (sv, .inr (7, [.ref lo, .ref lr, .ref lb, .int (nI 0), .ref lf])), (lo, .inl (cI, 200, .inl (fun _ => (-1)))), (lb, .inl (cI, 201, .inl (fun _ => 0))), (lf, .inl (cB, 200, .inl (fun _ => 0))), (sg, .inr (3, [.ref g1, .ref g2, .ref g3, .int (nI 0)])), (sk, .inl (cI, 200, .inl (fun _ => 0)))] "java/lang/IndexOutOfBoundsException" := by
  refine xT.of b_X_failed 4 (some .int) (by decide +kernel) rfl (Nat.le_of_ble_eq_true rfl) ?_
  intro p e s m below meth c A ls hAe C0 hout hZ hP hD hS hl
  have hP0 := hP
  obtain ⟨hx, hb, hr, hml, hown, hlocks, hts, hnm, hN, hK, hA⟩ := C0
  have hU : ∀ w ∈ xU, w.before #[.ref h0, .int a, .int b] s = true := fun w h => hts w (List.mem_cons_of_mem _ h)
  have hl : lv_has ls 4 [(0, .ref h0), (1, .int a), (2, .int b)] := hl
  refine lv_aload_n hx hb d_X_failed_0 rfl (lv_at hl 0 rfl) ?_
  refine va_get (D := D) (ci := 0) (v := .ref sx) (C := R_X) (T := T_X) (N := 4) hx hb hU iw_X hown hK hP 0 rfl rfl 0 (by decide) (hU _ uw_307) (fun _ h9 => h9) rfl d_X_failed_1 ?_
  refine va_getN (D := D) (ci := 9) (v := .ref sg) (C := R_SE) (T := T_SE) (N := 11) hx hb hU iw_SE hown hK hP 1 rfl rfl 6 (by decide) (va_Nw.use rfl (hN _ nw_277)) (fun _ h9 => h9) rfl d_X_failed_4 ?_
  refine lv_astore_n (lv' := [(3, .ref sg), (0, .ref h0), (1, .int a), (2, .int b)]) hx hb d_X_failed_7 rfl hl (by decide) rfl (fun ls hl => ?_)
  refine lv_iload_n hx hb d_X_failed_8 rfl (lv_at hl 2 rfl) ?_
  refine lv_if_lt (tgt := 20) hx hb d_X_failed_9 (by decide) (fun c_9 => ?_) (fun c_9 => ?_)
  · exact xw_throwS (text := "no such failing") (names := ["java/lang/RuntimeException", "java/lang/Exception"]) hx hb htr hown (by decide +kernel) (by decide +kernel) (hU _ uw_476) (hU _ uw_19) (hZ.2.2.1 (168, "no such failing") (by decide +kernel)) (xs_hat hat_83 hU hN hZ) hAe hP0 hS (hl.1.trans hml.symm) d_X_failed_20 d_X_failed_23 d_X_failed_24 d_X_failed_26 d_X_failed_29 hout (Nat.le_of_ble_eq_true rfl) (Nat.le_of_ble_eq_true rfl) (Nat.le_of_ble_eq_true rfl) (Nat.le_of_ble_eq_true rfl) hlocks (Nat.le_of_ble_eq_true rfl) (Nat.le_of_ble_eq_true rfl)
  · refine lv_iload_n hx hb d_X_failed_12 rfl (lv_at hl 2 rfl) ?_
    refine lv_aload_n hx hb d_X_failed_13 rfl (lv_at hl 0 rfl) ?_
    refine va_getN (D := D) (ci := 3) (v := .int (nI 0)) (C := R_FL) (T := T_FL) (N := 4) hx hb hU iw_FL hown hK hP 17 rfl rfl 3 (by decide) (va_Nw.use rfl (hN _ nw_164)) (fun _ h9 => h9) rfl d_X_failed_14 ?_
    refine lv_icmp_lt (tgt := 30) hx hb d_X_failed_17 (by decide) (fun c_17 => ?_) (fun c_17 => ?_)
    · exact (xs_no0 c_9 c_17).elim
    · exact xw_throwS (text := "no such failing") (names := ["java/lang/RuntimeException", "java/lang/Exception"]) hx hb htr hown (by decide +kernel) (by decide +kernel) (hU _ uw_476) (hU _ uw_19) (hZ.2.2.1 (168, "no such failing") (by decide +kernel)) (xs_hat hat_83 hU hN hZ) hAe hP0 hS (hl.1.trans hml.symm) d_X_failed_20 d_X_failed_23 d_X_failed_24 d_X_failed_26 d_X_failed_29 hout (Nat.le_of_ble_eq_true rfl) (Nat.le_of_ble_eq_true rfl) (Nat.le_of_ble_eq_true rfl) (Nat.le_of_ble_eq_true rfl) hlocks (Nat.le_of_ble_eq_true rfl) (Nat.le_of_ble_eq_true rfl)
set_option maxHeartbeats 4000000 in
set_option maxRecDepth 100000 in
/-- size, before a run -/
theorem c_X_sizeT (l : Launch) (htr : l.stackTraces = false) (D : va_G) (cI cB cL : ClassId) (h0 : Nat) (sx : Nat) (sn : Nat) (sp : Nat) (sc : Nat) (sq : Nat) (sl : Nat) (sv : Nat) (sg : Nat) (sw : Nat) (sk : Nat) (sb : Nat) (nb : Nat) (nt : Nat) (p1 : Nat) (p2 : Nat) (p3 : Nat) (cf : Nat) (cl : Nat) (ct : Nat) (ck : Nat) (cs : Nat) (qr : Nat) (qf : Nat) (qh : Nat) (lo : Nat) (lr : Nat) (lb : Nat) (lf : Nat) (g1 : Nat) (g2 : Nat) (g3 : Nat) (wk : Nat) (rm : Nat) (a : Int32)  : xT l y_X_size w_X_size ({ frames := 6, cells := 1, slots := 6, locals := 82  } : Room) D vwCl (xs_tys cI cB cL) [.ref h0, .int a] [(h0, .inr (0, [.ref sx, .ref sn, .ref sp, .ref sc])), (sx, .inr (9, [.ref sn, .ref sp, .ref sc, .ref sq, .ref sl, .ref sv, .ref sg, .ref sw, .ref sk, .ref sb, .int (nI 0)])), (sn, .inr (1, [.int (nI 0), .int (nI 0), .ref nb, .ref nt])), (sp, .inr (2, [.ref p1, .ref p2, .ref p3, .int (nI 0)])), (p1, .inl (cI, 20, .inl (fun _ => 0))), (p2, .inl (cI, 20, .inl (fun _ => 0))), (p3, .inl (cI, 20, .inl (fun _ => 0))), (sc, .inr (4, [.int (nI wk), .ref cf, .ref cl, .ref ct, .ref ck, .ref cs, .int (nI wk), .int (nI 0)])), (cl, .inl (cB, 16, .inl (fun _ => nI 1))), (ct, .inl (cI, 16, .inl (fun _ => 0))), (ck, .inl (cI, 16, .inl (fun _ => 0))), (cs, .inl (cI, 16, .inl (fun _ => 0))), (sq, .inr (5, [.int (nI rm), .ref qr, .ref qf, .ref qh, .int (nI 0)])), (sv, .inr (7, [.ref lo, .ref lr, .ref lb, .int (nI 0), .ref lf])), (lo, .inl (cI, 200, .inl (fun _ => (-1)))), (lb, .inl (cI, 201, .inl (fun _ => 0))), (lf, .inl (cB, 200, .inl (fun _ => 0))), (sg, .inr (3, [.ref g1, .ref g2, .ref g3, .int (nI 0)])), (sk, .inl (cI, 200, .inl (fun _ => 0)))] "java/lang/IndexOutOfBoundsException" := by
  refine xT.of b_X_size 3 (some .int) (by decide +kernel) rfl (Nat.le_of_ble_eq_true rfl) ?_
  intro p e s m below meth c A ls hAe C0 hout hZ hP hD hS hl
  have hP0 := hP
  obtain ⟨hx, hb, hr, hml, hown, hlocks, hts, hnm, hN, hK, hA⟩ := C0
  have hU : ∀ w ∈ xU, w.before #[.ref h0, .int a] s = true := fun w h => hts w (List.mem_cons_of_mem _ h)
  have hl : lv_has ls 3 [(0, .ref h0), (1, .int a)] := hl
  refine lv_aload_n hx hb d_X_size_0 rfl (lv_at hl 0 rfl) ?_
  refine va_get (D := D) (ci := 0) (v := .ref sx) (C := R_X) (T := T_X) (N := 4) hx hb hU iw_X hown hK hP 0 rfl rfl 0 (by decide) (hU _ uw_307) (fun _ h9 => h9) rfl d_X_size_1 ?_
  refine va_getN (D := D) (ci := 9) (v := .ref sv) (C := R_SE) (T := T_SE) (N := 11) hx hb hU iw_SE hown hK hP 1 rfl rfl 5 (by decide) (va_Nw.use rfl (hN _ nw_275)) (fun _ h9 => h9) rfl d_X_size_4 ?_
  refine lv_astore_n (lv' := [(2, .ref sv), (0, .ref h0), (1, .int a)]) hx hb d_X_size_7 rfl hl (by decide) rfl (fun ls hl => ?_)
  refine lv_iload_n hx hb d_X_size_8 rfl (lv_at hl 2 rfl) ?_
  refine lv_if_lt (tgt := 20) hx hb d_X_size_9 (by decide) (fun c_9 => ?_) (fun c_9 => ?_)
  · exact xw_throwS (text := "no such level") (names := ["java/lang/RuntimeException", "java/lang/Exception"]) hx hb htr hown (by decide +kernel) (by decide +kernel) (hU _ uw_476) (hU _ uw_19) (hZ.2.2.1 (183, "no such level") (by decide +kernel)) (xs_hat hat_83 hU hN hZ) hAe hP0 hS (hl.1.trans hml.symm) d_X_size_20 d_X_size_23 d_X_size_24 d_X_size_26 d_X_size_29 hout (Nat.le_of_ble_eq_true rfl) (Nat.le_of_ble_eq_true rfl) (Nat.le_of_ble_eq_true rfl) (Nat.le_of_ble_eq_true rfl) hlocks (Nat.le_of_ble_eq_true rfl) (Nat.le_of_ble_eq_true rfl)
  · refine lv_iload_n hx hb d_X_size_12 rfl (lv_at hl 2 rfl) ?_
    refine lv_aload_n hx hb d_X_size_13 rfl (lv_at hl 0 rfl) ?_
    refine va_getN (D := D) (ci := 7) (v := .int (nI 0)) (C := R_LE) (T := T_LE) (N := 5) hx hb hU iw_LE hown hK hP 13 rfl rfl 3 (by decide) (va_Nw.use rfl (hN _ nw_137)) (fun _ h9 => h9) rfl d_X_size_14 ?_
    refine lv_icmp_lt (tgt := 30) hx hb d_X_size_17 (by decide) (fun c_17 => ?_) (fun c_17 => ?_)
    · exact (xs_no0 c_9 c_17).elim
    · exact xw_throwS (text := "no such level") (names := ["java/lang/RuntimeException", "java/lang/Exception"]) hx hb htr hown (by decide +kernel) (by decide +kernel) (hU _ uw_476) (hU _ uw_19) (hZ.2.2.1 (183, "no such level") (by decide +kernel)) (xs_hat hat_83 hU hN hZ) hAe hP0 hS (hl.1.trans hml.symm) d_X_size_20 d_X_size_23 d_X_size_24 d_X_size_26 d_X_size_29 hout (Nat.le_of_ble_eq_true rfl) (Nat.le_of_ble_eq_true rfl) (Nat.le_of_ble_eq_true rfl) (Nat.le_of_ble_eq_true rfl) hlocks (Nat.le_of_ble_eq_true rfl) (Nat.le_of_ble_eq_true rfl)
