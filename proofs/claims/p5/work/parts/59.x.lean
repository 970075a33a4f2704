set_option maxHeartbeats 4000000 in
set_option maxRecDepth 100000 in
/-- worker, no such worker -/
theorem n_X_workerT1 (l : Launch) (htr : l.stackTraces = false) (D : va_G) (cI cB cL cR : ClassId) (hx0 : Nat) (h0 : Nat) (sn : Nat) (sp : Nat) (sc : Nat) (wk : Nat) (cf : Nat) (cl : Nat) (ct : Nat) (ck : Nat) (cs : Nat) (lw : Int32) (att : Int32) (a : Int32) (b : Int32) (hw0 : 0 < wk) (hw : wk ≤ 16) (hbad : a < 0 ∨ nI wk ≤ a) : xY l y_X_worker w_X_worker ({ frames := 6, cells := 1, slots := 6, locals := 82  } : Room) D vwCl (xs_tys cI cB cL cR) [.ref hx0, .int a, .int b] [(hx0, .inr (0, [.ref h0, .ref sn, .ref sp, .ref sc])), (sc, .inr (4, [.int (nI wk), .ref cf, .ref cl, .ref ct, .ref ck, .ref cs, .int lw, .int att]))] "java/lang/IndexOutOfBoundsException" := by
  refine xY.of b_X_worker 3 (some .int) (by decide +kernel) rfl (Nat.le_of_ble_eq_true rfl) ?_
  intro p e s m below meth c A ls hAe C0 hout hZ hP hD hS hl
  have hP0 : va_P D vwCl [] s.heap := xs_P_nil
  obtain ⟨hx, hb, hr, hml, hown, hlocks, hts, hnm, hN, hK, hA⟩ := C0
  have hU : ∀ w ∈ xU, w.before #[.ref hx0, .int a, .int b] s = true := fun w h => hts w (List.mem_cons_of_mem _ h)
  have hl : lv_has ls 3 [(0, .ref hx0), (1, .int a), (2, .int b)] := hl
  refine lv_aload_n hx hb d_X_worker_0 rfl (lv_at hl 0 rfl) ?_
  refine va_get (D := D) (a := hx0) (fs := [.ref h0, .ref sn, .ref sp, .ref sc]) (ci := 0) (v := .ref sc) (C := R_X) (T := T_X) (N := 4) hx hb hU iw_X hown hK hP 0 rfl rfl 3 (by decide) (hU _ uw_310) (fun _ h9 => h9) rfl d_X_worker_1 ?_
  refine lv_iload_n hx hb d_X_worker_4 rfl (lv_at hl 1 rfl) ?_
  refine xw_callR (C := R_CR) [.int a] (n_CR_has l D cI cB cL cR sc wk cf cl ct ck cs (.int lw) (.int att) a (by omega)) ⟨hx, hb, hml, hown, hU⟩ (cwV 1 hU (xs_goodV uw_472 uw_473 uw_474 uw_11 uw_475) rfl rfl rfl (by decide +kernel) ⟨Nat.le_of_ble_eq_true rfl, Nat.le_of_ble_eq_true rfl⟩) 1 rfl rfl rfl rfl hl.1 rfl (Nat.le_of_ble_eq_true rfl) d_X_worker_5 ⟨Nat.le_of_ble_eq_true rfl, Nat.le_of_ble_eq_true rfl⟩ [1] rfl (by decide +kernel) hN hK hP hD hS hA (fun u H locs hf hP hS => ?_)
  obtain ⟨v_1, rfl⟩ : ∃ z, z = u := ⟨_, rfl⟩
  have hf_5 : ((v_1 = 0 ∧ (a < 0 ∨ nI wk ≤ a)) ∨ ∃ j, v_1 = 1 ∧ j < wk ∧ a = nI j) := hf
  have hv_2 := hf_5
  replace hP : va_P D vwCl [(hx0, .inr (0, [.ref h0, .ref sn, .ref sp, .ref sc])), (sc, .inr (4, [.int (nI wk), .ref cf, .ref cl, .ref ct, .ref ck, .ref cs, .int lw, .int att]))] H := hP
  replace hD : va_D (fun _ => True) [(hx0, .inr (0, [.ref h0, .ref sn, .ref sp, .ref sc])), (sc, .inr (4, [.int (nI wk), .ref cf, .ref cl, .ref ct, .ref ck, .ref cs, .int lw, .int att]))] := hD
  refine W.widen (k := 0) (n := 0) (Nat.le_of_ble_eq_true rfl) (Nat.le_of_ble_eq_true rfl) ?_
  refine W.eq (g2 := F0 m 8 ls [.int v_1]) rfl ?_
  rcases hv_2 with ⟨rfl, hg⟩ | ⟨j8, rfl, hj8, ej8⟩
  · refine lv_if_ne (tgt := 21) hx hb d_X_worker_8 (by decide) (fun c_8 => ?_) (fun c_8 => ?_)
    · exact absurd c_8 (by decide +kernel)
    · exact xw_throwS (text := "no such worker") (names := ["java/lang/RuntimeException", "java/lang/Exception"]) hx hb htr hown (by decide +kernel) (by decide +kernel) (hU _ uw_476) (hU _ uw_19) (hZ.2.2.1 (81, "no such worker") (by decide +kernel)) (xs_hat hat_83 hU hN hZ) hAe hP0 hS (hl.1.trans hml.symm) d_X_worker_11 d_X_worker_14 d_X_worker_15 d_X_worker_17 d_X_worker_20 hout (Nat.le_of_ble_eq_true rfl) (Nat.le_of_ble_eq_true rfl) (Nat.le_of_ble_eq_true rfl) (Nat.le_of_ble_eq_true rfl) hlocks (Nat.le_of_ble_eq_true rfl) (Nat.le_of_ble_eq_true rfl)
  · exact (xs_in hbad ej8 hj8 (by omega)).elim
set_option maxHeartbeats 4000000 in
set_option maxRecDepth 100000 in
/-- worker, no such what -/
theorem n_X_workerT2 (l : Launch) (htr : l.stackTraces = false) (D : va_G) (cI cB cL cR : ClassId) (hx0 : Nat) (h0 : Nat) (sn : Nat) (sp : Nat) (sc : Nat) (wk : Nat) (cf : Nat) (cl : Nat) (ct : Nat) (ck : Nat) (cs : Nat) (lw : Int32) (att : Int32) (i9 : Nat) (b : Int32) (hw0 : 0 < wk) (hw : wk ≤ 16) (hi9 : i9 < wk) (hbad : b.toInt < 0 ∨ 4 < b.toInt) : xY l y_X_worker w_X_worker ({ frames := 6, cells := 1, slots := 6, locals := 82  } : Room) D vwCl (xs_tys cI cB cL cR) [.ref hx0, .int (nI i9), .int b] [(hx0, .inr (0, [.ref h0, .ref sn, .ref sp, .ref sc])), (sc, .inr (4, [.int (nI wk), .ref cf, .ref cl, .ref ct, .ref ck, .ref cs, .int lw, .int att]))] "java/lang/IndexOutOfBoundsException" := by
  refine xY.of b_X_worker 3 (some .int) (by decide +kernel) rfl (Nat.le_of_ble_eq_true rfl) ?_
  intro p e s m below meth c A ls hAe C0 hout hZ hP hD hS hl
  have hP0 : va_P D vwCl [] s.heap := xs_P_nil
  obtain ⟨hx, hb, hr, hml, hown, hlocks, hts, hnm, hN, hK, hA⟩ := C0
  have hU : ∀ w ∈ xU, w.before #[.ref hx0, .int (nI i9), .int b] s = true := fun w h => hts w (List.mem_cons_of_mem _ h)
  have hl : lv_has ls 3 [(0, .ref hx0), (1, .int (nI i9)), (2, .int b)] := hl
  refine lv_aload_n hx hb d_X_worker_0 rfl (lv_at hl 0 rfl) ?_
  refine va_get (D := D) (a := hx0) (fs := [.ref h0, .ref sn, .ref sp, .ref sc]) (ci := 0) (v := .ref sc) (C := R_X) (T := T_X) (N := 4) hx hb hU iw_X hown hK hP 0 rfl rfl 3 (by decide) (hU _ uw_310) (fun _ h9 => h9) rfl d_X_worker_1 ?_
  refine lv_iload_n hx hb d_X_worker_4 rfl (lv_at hl 1 rfl) ?_
  refine xw_callR (C := R_CR) [.int (nI i9)] (n_CR_has l D cI cB cL cR sc wk cf cl ct ck cs (.int lw) (.int att) (nI i9) (by omega)) ⟨hx, hb, hml, hown, hU⟩ (cwV 1 hU (xs_goodV uw_472 uw_473 uw_474 uw_11 uw_475) rfl rfl rfl (by decide +kernel) ⟨Nat.le_of_ble_eq_true rfl, Nat.le_of_ble_eq_true rfl⟩) 1 rfl rfl rfl rfl hl.1 rfl (Nat.le_of_ble_eq_true rfl) d_X_worker_5 ⟨Nat.le_of_ble_eq_true rfl, Nat.le_of_ble_eq_true rfl⟩ [1] rfl (by decide +kernel) hN hK hP hD hS hA (fun u H locs hf hP hS => ?_)
  obtain ⟨v_1, rfl⟩ : ∃ z, z = u := ⟨_, rfl⟩
  have hf_5 : ((v_1 = 0 ∧ ((nI i9) < 0 ∨ nI wk ≤ (nI i9))) ∨ ∃ j, v_1 = 1 ∧ j < wk ∧ (nI i9) = nI j) := hf
  have hv_2 := hf_5
  replace hP : va_P D vwCl [(hx0, .inr (0, [.ref h0, .ref sn, .ref sp, .ref sc])), (sc, .inr (4, [.int (nI wk), .ref cf, .ref cl, .ref ct, .ref ck, .ref cs, .int lw, .int att]))] H := hP
  replace hD : va_D (fun _ => True) [(hx0, .inr (0, [.ref h0, .ref sn, .ref sp, .ref sc])), (sc, .inr (4, [.int (nI wk), .ref cf, .ref cl, .ref ct, .ref ck, .ref cs, .int lw, .int att]))] := hD
  refine W.widen (k := 0) (n := 0) (Nat.le_of_ble_eq_true rfl) (Nat.le_of_ble_eq_true rfl) ?_
  refine W.eq (g2 := F0 m 8 ls [.int v_1]) rfl ?_
  rcases hv_2 with ⟨rfl, hg⟩ | ⟨j8, rfl, hj8, ej8⟩
  · exact (xs_in hg rfl (by omega) (by omega)).elim
  · refine lv_if_ne (tgt := 21) hx hb d_X_worker_8 (by decide) (fun c_8 => ?_) (fun c_8 => ?_)
    · refine lv_iload_n hx hb d_X_worker_21 rfl (lv_at hl 2 rfl) ?_
      refine lv_tableOut (tgt := 129) hx hb d_X_worker_22 (hbad) (by decide) ?_
      exact xw_throwS (text := "no such thing of a worker") (names := ["java/lang/RuntimeException", "java/lang/Exception"]) hx hb htr hown (by decide +kernel) (by decide +kernel) (hU _ uw_476) (hU _ uw_19) (hZ.2.2.1 (157, "no such thing of a worker") (by decide +kernel)) (xs_hat hat_83 hU hN hZ) hAe hP0 hS (hl.1.trans hml.symm) d_X_worker_129 d_X_worker_132 d_X_worker_133 d_X_worker_135 d_X_worker_138 hout (Nat.le_of_ble_eq_true rfl) (Nat.le_of_ble_eq_true rfl) (Nat.le_of_ble_eq_true rfl) (Nat.le_of_ble_eq_true rfl) hlocks (Nat.le_of_ble_eq_true rfl) (Nat.le_of_ble_eq_true rfl)
    · exact absurd c_8 (by decide +kernel)
set_option maxHeartbeats 4000000 in
set_option maxRecDepth 100000 in
/-- failed, no such failing -/
theorem n_X_failedT1 (l : Launch) (htr : l.stackTraces = false) (D : va_G) (cI cB cL cR : ClassId) (hx0 : Nat) (h0 : Nat) (sn : Nat) (sp : Nat) (sc : Nat) (sq : Nat) (sl : Nat) (sv : Nat) (sg : Nat) (sw : Nat) (sk : Nat) (sb : Nat) (x : Nat) (g1 : Nat) (g2 : Nat) (g3 : Nat) (hp : Nat) (a : Int32) (b : Int32) (hx9 : x < 2147483648) (hhp : hp ≤ 16) (hbad : a < 0 ∨ nI hp ≤ a) : xY l y_X_failed w_X_failed ({ frames := 6, cells := 1, slots := 6, locals := 82  } : Room) D vwCl (xs_tys cI cB cL cR) [.ref hx0, .int a, .int b] [(hx0, .inr (0, [.ref h0, .ref sn, .ref sp, .ref sc])), (h0, .inr (9, [.ref sn, .ref sp, .ref sc, .ref sq, .ref sl, .ref sv, .ref sg, .ref sw, .ref sk, .ref sb, .int (nI x)])), (sg, .inr (3, [.ref g1, .ref g2, .ref g3, .int (nI hp)]))] "java/lang/IndexOutOfBoundsException" := by
  refine xY.of b_X_failed 4 (some .int) (by decide +kernel) rfl (Nat.le_of_ble_eq_true rfl) ?_
  intro p e s m below meth c A ls hAe C0 hout hZ hP hD hS hl
  have hP0 : va_P D vwCl [] s.heap := xs_P_nil
  obtain ⟨hx, hb, hr, hml, hown, hlocks, hts, hnm, hN, hK, hA⟩ := C0
  have hU : ∀ w ∈ xU, w.before #[.ref hx0, .int a, .int b] s = true := fun w h => hts w (List.mem_cons_of_mem _ h)
  have hl : lv_has ls 4 [(0, .ref hx0), (1, .int a), (2, .int b)] := hl
  refine lv_aload_n hx hb d_X_failed_0 rfl (lv_at hl 0 rfl) ?_
  refine va_get (D := D) (a := hx0) (fs := [.ref h0, .ref sn, .ref sp, .ref sc]) (ci := 0) (v := .ref h0) (C := R_X) (T := T_X) (N := 4) hx hb hU iw_X hown hK hP 0 rfl rfl 0 (by decide) (hU _ uw_307) (fun _ h9 => h9) rfl d_X_failed_1 ?_
  refine va_getN (D := D) (a := h0) (fs := [.ref sn, .ref sp, .ref sc, .ref sq, .ref sl, .ref sv, .ref sg, .ref sw, .ref sk, .ref sb, .int (nI x)]) (ci := 9) (v := .ref sg) (C := R_SE) (T := T_SE) (N := 11) hx hb hU iw_SE hown hK hP 1 rfl rfl 6 (by decide) (va_Nw.use rfl (hN _ nw_277)) (fun _ h9 => h9) rfl d_X_failed_4 ?_
  refine lv_astore_n (lv' := [(3, .ref sg), (0, .ref hx0), (1, .int a), (2, .int b)]) hx hb d_X_failed_7 rfl hl (by decide) rfl (fun ls hl => ?_)
  refine lv_iload_n hx hb d_X_failed_8 rfl (lv_at hl 2 rfl) ?_
  refine lv_if_lt (tgt := 20) hx hb d_X_failed_9 (by decide) (fun c_9 => ?_) (fun c_9 => ?_)
  · exact xw_throwS (text := "no such failing") (names := ["java/lang/RuntimeException", "java/lang/Exception"]) hx hb htr hown (by decide +kernel) (by decide +kernel) (hU _ uw_476) (hU _ uw_19) (hZ.2.2.1 (168, "no such failing") (by decide +kernel)) (xs_hat hat_83 hU hN hZ) hAe hP0 hS (hl.1.trans hml.symm) d_X_failed_20 d_X_failed_23 d_X_failed_24 d_X_failed_26 d_X_failed_29 hout (Nat.le_of_ble_eq_true rfl) (Nat.le_of_ble_eq_true rfl) (Nat.le_of_ble_eq_true rfl) (Nat.le_of_ble_eq_true rfl) hlocks (Nat.le_of_ble_eq_true rfl) (Nat.le_of_ble_eq_true rfl)
  · refine lv_iload_n hx hb d_X_failed_12 rfl (lv_at hl 2 rfl) ?_
    refine lv_aload_n hx hb d_X_failed_13 rfl (lv_at hl 0 rfl) ?_
    refine va_getN (D := D) (a := sg) (fs := [.ref g1, .ref g2, .ref g3, .int (nI hp)]) (ci := 3) (v := .int (nI hp)) (C := R_FL) (T := T_FL) (N := 4) hx hb hU iw_FL hown hK hP 2 rfl rfl 3 (by decide) (va_Nw.use rfl (hN _ nw_164)) (fun _ h9 => h9) rfl d_X_failed_14 ?_
    refine lv_icmp_lt (tgt := 30) hx hb d_X_failed_17 (by decide) (fun c_17 => ?_) (fun c_17 => ?_)
    · exact (hbad.elim (fun h => c_9 h) (fun h => Int32.not_lt.mpr h c_17) : False).elim
    · exact xw_throwS (text := "no such failing") (names := ["java/lang/RuntimeException", "java/lang/Exception"]) hx hb htr hown (by decide +kernel) (by decide +kernel) (hU _ uw_476) (hU _ uw_19) (hZ.2.2.1 (168, "no such failing") (by decide +kernel)) (xs_hat hat_83 hU hN hZ) hAe hP0 hS (hl.1.trans hml.symm) d_X_failed_20 d_X_failed_23 d_X_failed_24 d_X_failed_26 d_X_failed_29 hout (Nat.le_of_ble_eq_true rfl) (Nat.le_of_ble_eq_true rfl) (Nat.le_of_ble_eq_true rfl) (Nat.le_of_ble_eq_true rfl) hlocks (Nat.le_of_ble_eq_true rfl) (Nat.le_of_ble_eq_true rfl)
set_option maxHeartbeats 4000000 in
set_option maxRecDepth 100000 in
/-- failed, no such what -/
theorem n_X_failedT2 (l : Launch) (htr : l.stackTraces = false) (D : va_G) (cI cB cL cR : ClassId) (hx0 : Nat) (h0 : Nat) (sn : Nat) (sp : Nat) (sc : Nat) (sq : Nat) (sl : Nat) (sv : Nat) (sg : Nat) (sw : Nat) (sk : Nat) (sb : Nat) (x : Nat) (g1 : Nat) (g2 : Nat) (g3 : Nat) (hp : Nat) (i9 : Nat) (b : Int32) (hx9 : x < 2147483648) (hhp : hp ≤ 16) (hi9 : i9 < hp) (hbad : b.toInt < 0 ∨ 2 < b.toInt) : xY l y_X_failed w_X_failed ({ frames := 6, cells := 1, slots := 6, locals := 82  } : Room) D vwCl (xs_tys cI cB cL cR) [.ref hx0, .int (nI i9), .int b] [(hx0, .inr (0, [.ref h0, .ref sn, .ref sp, .ref sc])), (h0, .inr (9, [.ref sn, .ref sp, .ref sc, .ref sq, .ref sl, .ref sv, .ref sg, .ref sw, .ref sk, .ref sb, .int (nI x)])), (sg, .inr (3, [.ref g1, .ref g2, .ref g3, .int (nI hp)]))] "java/lang/IndexOutOfBoundsException" := by
  refine xY.of b_X_failed 4 (some .int) (by decide +kernel) rfl (Nat.le_of_ble_eq_true rfl) ?_
  intro p e s m below meth c A ls hAe C0 hout hZ hP hD hS hl
  have hP0 : va_P D vwCl [] s.heap := xs_P_nil
  obtain ⟨hx, hb, hr, hml, hown, hlocks, hts, hnm, hN, hK, hA⟩ := C0
  have hU : ∀ w ∈ xU, w.before #[.ref hx0, .int (nI i9), .int b] s = true := fun w h => hts w (List.mem_cons_of_mem _ h)
  have hl : lv_has ls 4 [(0, .ref hx0), (1, .int (nI i9)), (2, .int b)] := hl
  refine lv_aload_n hx hb d_X_failed_0 rfl (lv_at hl 0 rfl) ?_
  refine va_get (D := D) (a := hx0) (fs := [.ref h0, .ref sn, .ref sp, .ref sc]) (ci := 0) (v := .ref h0) (C := R_X) (T := T_X) (N := 4) hx hb hU iw_X hown hK hP 0 rfl rfl 0 (by decide) (hU _ uw_307) (fun _ h9 => h9) rfl d_X_failed_1 ?_
  refine va_getN (D := D) (a := h0) (fs := [.ref sn, .ref sp, .ref sc, .ref sq, .ref sl, .ref sv, .ref sg, .ref sw, .ref sk, .ref sb, .int (nI x)]) (ci := 9) (v := .ref sg) (C := R_SE) (T := T_SE) (N := 11) hx hb hU iw_SE hown hK hP 1 rfl rfl 6 (by decide) (va_Nw.use rfl (hN _ nw_277)) (fun _ h9 => h9) rfl d_X_failed_4 ?_
  refine lv_astore_n (lv' := [(3, .ref sg), (0, .ref hx0), (1, .int (nI i9)), (2, .int b)]) hx hb d_X_failed_7 rfl hl (by decide) rfl (fun ls hl => ?_)
  refine lv_iload_n hx hb d_X_failed_8 rfl (lv_at hl 2 rfl) ?_
  refine xw_if_lt (tgt := 20) hx hb d_X_failed_9 (by decide) (by omega) ?_
  refine lv_iload_n hx hb d_X_failed_12 rfl (lv_at hl 2 rfl) ?_
  refine lv_aload_n hx hb d_X_failed_13 rfl (lv_at hl 0 rfl) ?_
  refine va_getN (D := D) (a := sg) (fs := [.ref g1, .ref g2, .ref g3, .int (nI hp)]) (ci := 3) (v := .int (nI hp)) (C := R_FL) (T := T_FL) (N := 4) hx hb hU iw_FL hown hK hP 2 rfl rfl 3 (by decide) (va_Nw.use rfl (hN _ nw_164)) (fun _ h9 => h9) rfl d_X_failed_14 ?_
  refine xw_icmp_lt (tgt := 30) hx hb d_X_failed_17 (by decide) (by omega) (by omega) (fun c_17 => ?_) (fun c_17 => ?_)
  · refine lv_iload_n hx hb d_X_failed_30 rfl (lv_at hl 3 rfl) ?_
    refine lv_tableOut (tgt := 77) hx hb d_X_failed_31 (hbad) (by decide) ?_
    exact xw_throwS (text := "no such thing of a failing") (names := ["java/lang/RuntimeException", "java/lang/Exception"]) hx hb htr hown (by decide +kernel) (by decide +kernel) (hU _ uw_476) (hU _ uw_19) (hZ.2.2.1 (179, "no such thing of a failing") (by decide +kernel)) (xs_hat hat_83 hU hN hZ) hAe hP0 hS (hl.1.trans hml.symm) d_X_failed_77 d_X_failed_80 d_X_failed_81 d_X_failed_83 d_X_failed_86 hout (Nat.le_of_ble_eq_true rfl) (Nat.le_of_ble_eq_true rfl) (Nat.le_of_ble_eq_true rfl) (Nat.le_of_ble_eq_true rfl) hlocks (Nat.le_of_ble_eq_true rfl) (Nat.le_of_ble_eq_true rfl)
  · exact (by omega : False).elim
set_option maxHeartbeats 4000000 in
set_option maxRecDepth 100000 in
/-- size, no such level -/
theorem n_X_sizeT (l : Launch) (htr : l.stackTraces = false) (D : va_G) (cI cB cL cR : ClassId) (hx0 : Nat) (h0 : Nat) (sn : Nat) (sp : Nat) (sc : Nat) (sq : Nat) (sl : Nat) (sv : Nat) (sg : Nat) (sw : Nat) (sk : Nat) (sb : Nat) (x : Nat) (lo : Nat) (lr : Nat) (lb : Nat) (lv : Nat) (lf : Nat) (a : Int32) (hx9 : x < 2147483648) (hlv : lv ≤ 200) (hbad : a < 0 ∨ nI lv ≤ a) : xY l y_X_size w_X_size ({ frames := 6, cells := 1, slots := 6, locals := 82  } : Room) D vwCl (xs_tys cI cB cL cR) [.ref hx0, .int a] [(hx0, .inr (0, [.ref h0, .ref sn, .ref sp, .ref sc])), (h0, .inr (9, [.ref sn, .ref sp, .ref sc, .ref sq, .ref sl, .ref sv, .ref sg, .ref sw, .ref sk, .ref sb, .int (nI x)])), (sv, .inr (7, [.ref lo, .ref lr, .ref lb, .int (nI lv), .ref lf]))] "java/lang/IndexOutOfBoundsException" := by
  refine xY.of b_X_size 3 (some .int) (by decide +kernel) rfl (Nat.le_of_ble_eq_true rfl) ?_
  intro p e s m below meth c A ls hAe C0 hout hZ hP hD hS hl
  have hP0 : va_P D vwCl [] s.heap := xs_P_nil
  obtain ⟨hx, hb, hr, hml, hown, hlocks, hts, hnm, hN, hK, hA⟩ := C0
  have hU : ∀ w ∈ xU, w.before #[.ref hx0, .int a] s = true := fun w h => hts w (List.mem_cons_of_mem _ h)
  have hl : lv_has ls 3 [(0, .ref hx0), (1, .int a)] := hl
  refine lv_aload_n hx hb d_X_size_0 rfl (lv_at hl 0 rfl) ?_
  refine va_get (D := D) (a := hx0) (fs := [.ref h0, .ref sn, .ref sp, .ref sc]) (ci := 0) (v := .ref h0) (C := R_X) (T := T_X) (N := 4) hx hb hU iw_X hown hK hP 0 rfl rfl 0 (by decide) (hU _ uw_307) (fun _ h9 => h9) rfl d_X_size_1 ?_
  refine va_getN (D := D) (a := h0) (fs := [.ref sn, .ref sp, .ref sc, .ref sq, .ref sl, .ref sv, .ref sg, .ref sw, .ref sk, .ref sb, .int (nI x)]) (ci := 9) (v := .ref sv) (C := R_SE) (T := T_SE) (N := 11) hx hb hU iw_SE hown hK hP 1 rfl rfl 5 (by decide) (va_Nw.use rfl (hN _ nw_275)) (fun _ h9 => h9) rfl d_X_size_4 ?_
  refine lv_astore_n (lv' := [(2, .ref sv), (0, .ref hx0), (1, .int a)]) hx hb d_X_size_7 rfl hl (by decide) rfl (fun ls hl => ?_)
  refine lv_iload_n hx hb d_X_size_8 rfl (lv_at hl 2 rfl) ?_
  refine lv_if_lt (tgt := 20) hx hb d_X_size_9 (by decide) (fun c_9 => ?_) (fun c_9 => ?_)
  · exact xw_throwS (text := "no such level") (names := ["java/lang/RuntimeException", "java/lang/Exception"]) hx hb htr hown (by decide +kernel) (by decide +kernel) (hU _ uw_476) (hU _ uw_19) (hZ.2.2.1 (183, "no such level") (by decide +kernel)) (xs_hat hat_83 hU hN hZ) hAe hP0 hS (hl.1.trans hml.symm) d_X_size_20 d_X_size_23 d_X_size_24 d_X_size_26 d_X_size_29 hout (Nat.le_of_ble_eq_true rfl) (Nat.le_of_ble_eq_true rfl) (Nat.le_of_ble_eq_true rfl) (Nat.le_of_ble_eq_true rfl) hlocks (Nat.le_of_ble_eq_true rfl) (Nat.le_of_ble_eq_true rfl)
  · refine lv_iload_n hx hb d_X_size_12 rfl (lv_at hl 2 rfl) ?_
    refine lv_aload_n hx hb d_X_size_13 rfl (lv_at hl 0 rfl) ?_
    refine va_getN (D := D) (a := sv) (fs := [.ref lo, .ref lr, .ref lb, .int (nI lv), .ref lf]) (ci := 7) (v := .int (nI lv)) (C := R_LE) (T := T_LE) (N := 5) hx hb hU iw_LE hown hK hP 2 rfl rfl 3 (by decide) (va_Nw.use rfl (hN _ nw_137)) (fun _ h9 => h9) rfl d_X_size_14 ?_
    refine lv_icmp_lt (tgt := 30) hx hb d_X_size_17 (by decide) (fun c_17 => ?_) (fun c_17 => ?_)
    · exact (hbad.elim (fun h => c_9 h) (fun h => Int32.not_lt.mpr h c_17) : False).elim
    · exact xw_throwS (text := "no such level") (names := ["java/lang/RuntimeException", "java/lang/Exception"]) hx hb htr hown (by decide +kernel) (by decide +kernel) (hU _ uw_476) (hU _ uw_19) (hZ.2.2.1 (183, "no such level") (by decide +kernel)) (xs_hat hat_83 hU hN hZ) hAe hP0 hS (hl.1.trans hml.symm) d_X_size_20 d_X_size_23 d_X_size_24 d_X_size_26 d_X_size_29 hout (Nat.le_of_ble_eq_true rfl) (Nat.le_of_ble_eq_true rfl) (Nat.le_of_ble_eq_true rfl) (Nat.le_of_ble_eq_true rfl) hlocks (Nat.le_of_ble_eq_true rfl) (Nat.le_of_ble_eq_true rfl)
