set_option maxHeartbeats 4000000 in
set_option maxRecDepth 100000 in
/-- state, when there are 200 -/
theorem n_X_stateT (l : Launch) (htr : l.stackTraces = false) (D : va_G) (cI cB cL cR : ClassId) (hx0 : Nat) (h0 : Nat) (sn : Nat) (sp : Nat) (sc : Nat) (st : Nat) (mv : Nat) (nb : Nat) (nt : Nat) (hst : st ≤ 200) (hmv : mv ≤ 600) (hs2 : 200 ≤ st) : xY l y_X_state w_X_state ({ frames := 6, cells := 1, slots := 6, locals := 82  } : Room) D vwCl (xs_tys cI cB cL cR) [.ref hx0] [(hx0, .inr (0, [.ref h0, .ref sn, .ref sp, .ref sc])), (sn, .inr (1, [.int (nI st), .int (nI mv), .ref nb, .ref nt]))] "java/lang/UnsupportedOperationException" := by
  refine xY.of b_X_state 1 (some .int) (by decide +kernel) rfl (Nat.le_of_ble_eq_true rfl) ?_
  intro p e s m below meth c A ls hAe C0 hout hZ hP hD hS hl
  have hP0 : va_P D vwCl [] s.heap := xs_P_nil
  obtain ⟨hx, hb, hr, hml, hown, hlocks, hts, hnm, hN, hK, hA⟩ := C0
  have hU : ∀ w ∈ xU, w.before #[.ref hx0] s = true := fun w h => hts w (List.mem_cons_of_mem _ h)
  have hl : lv_has ls 1 [(0, .ref hx0)] := hl
  refine lv_aload_n hx hb d_X_state_0 rfl (lv_at hl 0 rfl) ?_
  refine va_get (D := D) (a := hx0) (fs := [.ref h0, .ref sn, .ref sp, .ref sc]) (ci := 0) (v := .ref sn) (C := R_X) (T := T_X) (N := 4) hx hb hU iw_X hown hK hP 0 rfl rfl 1 (by decide) (hU _ uw_308) (fun _ h9 => h9) rfl d_X_state_1 ?_
  refine va_getN (D := D) (a := sn) (fs := [.int (nI st), .int (nI mv), .ref nb, .ref nt]) (ci := 1) (v := .int (nI st)) (C := R_NET) (T := T_NET) (N := 4) hx hb hU iw_NET hown hK hP 1 rfl rfl 0 (by decide) (va_Nw.use rfl (hN _ nw_44)) (fun _ h9 => h9) rfl d_X_state_4 ?_
  refine lv_sipush (v := nI 200) hx hb d_X_state_7 (by decide +kernel) ?_
  refine xw_icmp_lt (tgt := 23) hx hb d_X_state_10 (by decide) (by omega) (by omega) (fun c_10 => ?_) (fun c_10 => ?_)
  · exact (by omega : False).elim
  · exact xw_throwS (text := "there are 200 states") (names := ["java/lang/RuntimeException", "java/lang/Exception"]) hx hb htr hown (by decide +kernel) (by decide +kernel) (hU _ uw_339) (hU _ uw_17) (hZ.2.2.1 (47, "there are 200 states") (by decide +kernel)) (xs_hat hat_49 hU hN hZ) hAe hP0 hS (hl.1.trans hml.symm) d_X_state_13 d_X_state_16 d_X_state_17 d_X_state_19 d_X_state_22 hout (Nat.le_of_ble_eq_true rfl) (Nat.le_of_ble_eq_true rfl) (Nat.le_of_ble_eq_true rfl) (Nat.le_of_ble_eq_true rfl) hlocks (Nat.le_of_ble_eq_true rfl) (Nat.le_of_ble_eq_true rfl)
set_option maxHeartbeats 4000000 in
set_option maxRecDepth 100000 in
/-- move, no such state -/
theorem n_X_moveT1 (l : Launch) (htr : l.stackTraces = false) (D : va_G) (cI cB cL cR : ClassId) (hx0 : Nat) (h0 : Nat) (sn : Nat) (sp : Nat) (sc : Nat) (st : Nat) (mv : Nat) (nb : Nat) (nt : Nat) (a : Int32) (b : Int32) (hst : st ≤ 200) (hmv : mv ≤ 600) (hbad : (a < 0 ∨ nI st ≤ a) ∨ (b < 0 ∨ nI st ≤ b)) : xY l y_X_move w_X_move ({ frames := 6, cells := 1, slots := 6, locals := 82  } : Room) D vwCl (xs_tys cI cB cL cR) [.ref hx0, .int a, .int b] [(hx0, .inr (0, [.ref h0, .ref sn, .ref sp, .ref sc])), (sn, .inr (1, [.int (nI st), .int (nI mv), .ref nb, .ref nt]))] "java/lang/IllegalArgumentException" := by
  refine xY.of b_X_move 3 (some .int) (by decide +kernel) rfl (Nat.le_of_ble_eq_true rfl) ?_
  intro p e s m below meth c A ls hAe C0 hout hZ hP hD hS hl
  have hP0 : va_P D vwCl [] s.heap := xs_P_nil
  obtain ⟨hx, hb, hr, hml, hown, hlocks, hts, hnm, hN, hK, hA⟩ := C0
  have hU : ∀ w ∈ xU, w.before #[.ref hx0, .int a, .int b] s = true := fun w h => hts w (List.mem_cons_of_mem _ h)
  have hl : lv_has ls 3 [(0, .ref hx0), (1, .int a), (2, .int b)] := hl
  refine lv_aload_n hx hb d_X_move_0 rfl (lv_at hl 0 rfl) ?_
  refine va_get (D := D) (a := hx0) (fs := [.ref h0, .ref sn, .ref sp, .ref sc]) (ci := 0) (v := .ref sn) (C := R_X) (T := T_X) (N := 4) hx hb hU iw_X hown hK hP 0 rfl rfl 1 (by decide) (hU _ uw_308) (fun _ h9 => h9) rfl d_X_move_1 ?_
  refine lv_iload_n hx hb d_X_move_4 rfl (lv_at hl 1 rfl) ?_
  refine xw_callR (C := R_NET) [.int a] (n_NET_has l D cI cB cL cR sn nb nt st (.int (nI mv)) a (by omega)) ⟨hx, hb, hml, hown, hU⟩ (cwV 1 hU (xs_goodV uw_439 uw_440 uw_441 uw_4 uw_442) rfl rfl rfl (by decide +kernel) ⟨Nat.le_of_ble_eq_true rfl, Nat.le_of_ble_eq_true rfl⟩) 1 rfl rfl rfl rfl hl.1 rfl (Nat.le_of_ble_eq_true rfl) d_X_move_5 ⟨Nat.le_of_ble_eq_true rfl, Nat.le_of_ble_eq_true rfl⟩ [1] rfl (by decide +kernel) hN hK hP hD hS hA (fun u H locs hf hP hS => ?_)
  obtain ⟨v_1, rfl⟩ : ∃ z, z = u := ⟨_, rfl⟩
  have hf_5 : ((v_1 = 0 ∧ (a < 0 ∨ nI st ≤ a)) ∨ ∃ j, v_1 = 1 ∧ j < st ∧ a = nI j) := hf
  have hv_2 := hf_5
  replace hP : va_P D vwCl [(hx0, .inr (0, [.ref h0, .ref sn, .ref sp, .ref sc])), (sn, .inr (1, [.int (nI st), .int (nI mv), .ref nb, .ref nt]))] H := hP
  replace hD : va_D (fun _ => True) [(hx0, .inr (0, [.ref h0, .ref sn, .ref sp, .ref sc])), (sn, .inr (1, [.int (nI st), .int (nI mv), .ref nb, .ref nt]))] := hD
  refine W.widen (k := 0) (n := 0) (Nat.le_of_ble_eq_true rfl) (Nat.le_of_ble_eq_true rfl) ?_
  refine W.eq (g2 := F0 m 8 ls [.int v_1]) rfl ?_
  rcases hv_2 with ⟨rfl, hg⟩ | ⟨j7, rfl, hj7, ej7⟩
  · refine lv_if_eq (tgt := 22) hx hb d_X_move_8 (by decide) (fun c_8 => ?_) (fun c_8 => ?_)
    · exact xw_throwS (text := "no such state") (names := ["java/lang/RuntimeException", "java/lang/Exception"]) hx hb htr hown (by decide +kernel) (by decide +kernel) (hU _ uw_443) (hU _ uw_18) (hZ.2.2.1 (65, "no such state") (by decide +kernel)) (xs_hat hat_67 hU hN hZ) hAe hP0 hS (hl.1.trans hml.symm) d_X_move_22 d_X_move_25 d_X_move_26 d_X_move_28 d_X_move_31 hout (Nat.le_of_ble_eq_true rfl) (Nat.le_of_ble_eq_true rfl) (Nat.le_of_ble_eq_true rfl) (Nat.le_of_ble_eq_true rfl) hlocks (Nat.le_of_ble_eq_true rfl) (Nat.le_of_ble_eq_true rfl)
    · exact absurd c_8 (by decide +kernel)
  · refine lv_if_eq (tgt := 22) hx hb d_X_move_8 (by decide) (fun c_8 => ?_) (fun c_8 => ?_)
    · exact absurd c_8 (by decide +kernel)
    · refine lv_aload_n hx hb d_X_move_11 rfl (lv_at hl 0 rfl) ?_
      refine va_get (D := D) (a := hx0) (fs := [.ref h0, .ref sn, .ref sp, .ref sc]) (ci := 0) (v := .ref sn) (C := R_X) (T := T_X) (N := 4) hx hb hU iw_X hown hK hP 0 rfl rfl 1 (by decide) (hU _ uw_308) (fun _ h9 => h9) rfl d_X_move_12 ?_
      refine lv_iload_n hx hb d_X_move_15 rfl (lv_at hl 2 rfl) ?_
      refine xw_callR (C := R_NET) [.int b] (n_NET_has l D cI cB cL cR sn nb nt st (.int (nI mv)) b (by omega)) ⟨hx, hb, hml, hown, hU⟩ (cwV 1 hU (xs_goodV uw_439 uw_440 uw_441 uw_4 uw_442) rfl rfl rfl (by decide +kernel) ⟨Nat.le_of_ble_eq_true rfl, Nat.le_of_ble_eq_true rfl⟩) 1 rfl rfl rfl rfl hl.1 rfl (Nat.le_of_ble_eq_true rfl) d_X_move_16 ⟨Nat.le_of_ble_eq_true rfl, Nat.le_of_ble_eq_true rfl⟩ [1] rfl (by decide +kernel) hN hK hP hD hS hA (fun u H locs hf hP hS => ?_)
      obtain ⟨v_3, rfl⟩ : ∃ z, z = u := ⟨_, rfl⟩
      have hf_16 : ((v_3 = 0 ∧ (b < 0 ∨ nI st ≤ b)) ∨ ∃ j, v_3 = 1 ∧ j < st ∧ b = nI j) := hf
      have hv_4 := hf_16
      replace hP : va_P D vwCl [(hx0, .inr (0, [.ref h0, .ref sn, .ref sp, .ref sc])), (sn, .inr (1, [.int (nI st), .int (nI mv), .ref nb, .ref nt]))] H := hP
      replace hD : va_D (fun _ => True) [(hx0, .inr (0, [.ref h0, .ref sn, .ref sp, .ref sc])), (sn, .inr (1, [.int (nI st), .int (nI mv), .ref nb, .ref nt]))] := hD
      refine W.widen (k := 0) (n := 0) (Nat.le_of_ble_eq_true rfl) (Nat.le_of_ble_eq_true rfl) ?_
      refine W.eq (g2 := F0 m 19 ls [.int v_3]) rfl ?_
      rcases hv_4 with ⟨rfl, hg⟩ | ⟨j8, rfl, hj8, ej8⟩
      · refine lv_if_ne (tgt := 32) hx hb d_X_move_19 (by decide) (fun c_19 => ?_) (fun c_19 => ?_)
        · exact absurd c_19 (by decide +kernel)
        · exact xw_throwS (text := "no such state") (names := ["java/lang/RuntimeException", "java/lang/Exception"]) hx hb htr hown (by decide +kernel) (by decide +kernel) (hU _ uw_443) (hU _ uw_18) (hZ.2.2.1 (65, "no such state") (by decide +kernel)) (xs_hat hat_67 hU hN hZ) hAe hP0 hS (hl.1.trans hml.symm) d_X_move_22 d_X_move_25 d_X_move_26 d_X_move_28 d_X_move_31 hout (Nat.le_of_ble_eq_true rfl) (Nat.le_of_ble_eq_true rfl) (Nat.le_of_ble_eq_true rfl) (Nat.le_of_ble_eq_true rfl) hlocks (Nat.le_of_ble_eq_true rfl) (Nat.le_of_ble_eq_true rfl)
      · exact (hbad.elim (fun h => xs_in h ej7 hj7 (by omega)) (fun h => xs_in h ej8 hj8 (by omega)) : False).elim
set_option maxHeartbeats 4000000 in
set_option maxRecDepth 100000 in
/-- move, when there are 600 -/
theorem n_X_moveT2 (l : Launch) (htr : l.stackTraces = false) (D : va_G) (cI cB cL cR : ClassId) (hx0 : Nat) (h0 : Nat) (sn : Nat) (sp : Nat) (sc : Nat) (st : Nat) (mv : Nat) (nb : Nat) (nt : Nat) (i9 : Nat) (j9 : Nat) (hst : st ≤ 200) (hmv : mv ≤ 600) (hi9 : i9 < st) (hj9 : j9 < st) (hm2 : 600 ≤ mv) : xY l y_X_move w_X_move ({ frames := 6, cells := 1, slots := 6, locals := 82  } : Room) D vwCl (xs_tys cI cB cL cR) [.ref hx0, .int (nI i9), .int (nI j9)] [(hx0, .inr (0, [.ref h0, .ref sn, .ref sp, .ref sc])), (sn, .inr (1, [.int (nI st), .int (nI mv), .ref nb, .ref nt]))] "java/lang/UnsupportedOperationException" := by
  refine xY.of b_X_move 3 (some .int) (by decide +kernel) rfl (Nat.le_of_ble_eq_true rfl) ?_
  intro p e s m below meth c A ls hAe C0 hout hZ hP hD hS hl
  have hP0 : va_P D vwCl [] s.heap := xs_P_nil
  obtain ⟨hx, hb, hr, hml, hown, hlocks, hts, hnm, hN, hK, hA⟩ := C0
  have hU : ∀ w ∈ xU, w.before #[.ref hx0, .int (nI i9), .int (nI j9)] s = true := fun w h => hts w (List.mem_cons_of_mem _ h)
  have hl : lv_has ls 3 [(0, .ref hx0), (1, .int (nI i9)), (2, .int (nI j9))] := hl
  refine lv_aload_n hx hb d_X_move_0 rfl (lv_at hl 0 rfl) ?_
  refine va_get (D := D) (a := hx0) (fs := [.ref h0, .ref sn, .ref sp, .ref sc]) (ci := 0) (v := .ref sn) (C := R_X) (T := T_X) (N := 4) hx hb hU iw_X hown hK hP 0 rfl rfl 1 (by decide) (hU _ uw_308) (fun _ h9 => h9) rfl d_X_move_1 ?_
  refine lv_iload_n hx hb d_X_move_4 rfl (lv_at hl 1 rfl) ?_
  refine xw_callR (C := R_NET) [.int (nI i9)] (n_NET_has l D cI cB cL cR sn nb nt st (.int (nI mv)) (nI i9) (by omega)) ⟨hx, hb, hml, hown, hU⟩ (cwV 1 hU (xs_goodV uw_439 uw_440 uw_441 uw_4 uw_442) rfl rfl rfl (by decide +kernel) ⟨Nat.le_of_ble_eq_true rfl, Nat.le_of_ble_eq_true rfl⟩) 1 rfl rfl rfl rfl hl.1 rfl (Nat.le_of_ble_eq_true rfl) d_X_move_5 ⟨Nat.le_of_ble_eq_true rfl, Nat.le_of_ble_eq_true rfl⟩ [1] rfl (by decide +kernel) hN hK hP hD hS hA (fun u H locs hf hP hS => ?_)
  obtain ⟨v_1, rfl⟩ : ∃ z, z = u := ⟨_, rfl⟩
  have hf_5 : ((v_1 = 0 ∧ ((nI i9) < 0 ∨ nI st ≤ (nI i9))) ∨ ∃ j, v_1 = 1 ∧ j < st ∧ (nI i9) = nI j) := hf
  have hv_2 := hf_5
  replace hP : va_P D vwCl [(hx0, .inr (0, [.ref h0, .ref sn, .ref sp, .ref sc])), (sn, .inr (1, [.int (nI st), .int (nI mv), .ref nb, .ref nt]))] H := hP
  replace hD : va_D (fun _ => True) [(hx0, .inr (0, [.ref h0, .ref sn, .ref sp, .ref sc])), (sn, .inr (1, [.int (nI st), .int (nI mv), .ref nb, .ref nt]))] := hD
  refine W.widen (k := 0) (n := 0) (Nat.le_of_ble_eq_true rfl) (Nat.le_of_ble_eq_true rfl) ?_
  refine W.eq (g2 := F0 m 8 ls [.int v_1]) rfl ?_
  rcases hv_2 with ⟨rfl, hg⟩ | ⟨j7, rfl, hj7, ej7⟩
  · exact (xs_in hg rfl (by omega) (by omega)).elim
  · refine lv_if_eq (tgt := 22) hx hb d_X_move_8 (by decide) (fun c_8 => ?_) (fun c_8 => ?_)
    · exact absurd c_8 (by decide +kernel)
    · refine lv_aload_n hx hb d_X_move_11 rfl (lv_at hl 0 rfl) ?_
      refine va_get (D := D) (a := hx0) (fs := [.ref h0, .ref sn, .ref sp, .ref sc]) (ci := 0) (v := .ref sn) (C := R_X) (T := T_X) (N := 4) hx hb hU iw_X hown hK hP 0 rfl rfl 1 (by decide) (hU _ uw_308) (fun _ h9 => h9) rfl d_X_move_12 ?_
      refine lv_iload_n hx hb d_X_move_15 rfl (lv_at hl 2 rfl) ?_
      refine xw_callR (C := R_NET) [.int (nI j9)] (n_NET_has l D cI cB cL cR sn nb nt st (.int (nI mv)) (nI j9) (by omega)) ⟨hx, hb, hml, hown, hU⟩ (cwV 1 hU (xs_goodV uw_439 uw_440 uw_441 uw_4 uw_442) rfl rfl rfl (by decide +kernel) ⟨Nat.le_of_ble_eq_true rfl, Nat.le_of_ble_eq_true rfl⟩) 1 rfl rfl rfl rfl hl.1 rfl (Nat.le_of_ble_eq_true rfl) d_X_move_16 ⟨Nat.le_of_ble_eq_true rfl, Nat.le_of_ble_eq_true rfl⟩ [1] rfl (by decide +kernel) hN hK hP hD hS hA (fun u H locs hf hP hS => ?_)
      obtain ⟨v_3, rfl⟩ : ∃ z, z = u := ⟨_, rfl⟩
      have hf_16 : ((v_3 = 0 ∧ ((nI j9) < 0 ∨ nI st ≤ (nI j9))) ∨ ∃ j, v_3 = 1 ∧ j < st ∧ (nI j9) = nI j) := hf
      have hv_4 := hf_16
      replace hP : va_P D vwCl [(hx0, .inr (0, [.ref h0, .ref sn, .ref sp, .ref sc])), (sn, .inr (1, [.int (nI st), .int (nI mv), .ref nb, .ref nt]))] H := hP
      replace hD : va_D (fun _ => True) [(hx0, .inr (0, [.ref h0, .ref sn, .ref sp, .ref sc])), (sn, .inr (1, [.int (nI st), .int (nI mv), .ref nb, .ref nt]))] := hD
      refine W.widen (k := 0) (n := 0) (Nat.le_of_ble_eq_true rfl) (Nat.le_of_ble_eq_true rfl) ?_
      refine W.eq (g2 := F0 m 19 ls [.int v_3]) rfl ?_
      rcases hv_4 with ⟨rfl, hg⟩ | ⟨j8, rfl, hj8, ej8⟩
      · exact (xs_in hg rfl (by omega) (by omega)).elim
      · refine lv_if_ne (tgt := 32) hx hb d_X_move_19 (by decide) (fun c_19 => ?_) (fun c_19 => ?_)
        · refine lv_aload_n hx hb d_X_move_32 rfl (lv_at hl 0 rfl) ?_
          refine va_get (D := D) (a := hx0) (fs := [.ref h0, .ref sn, .ref sp, .ref sc]) (ci := 0) (v := .ref sn) (C := R_X) (T := T_X) (N := 4) hx hb hU iw_X hown hK hP 0 rfl rfl 1 (by decide) (hU _ uw_308) (fun _ h9 => h9) rfl d_X_move_33 ?_
          refine va_getN (D := D) (a := sn) (fs := [.int (nI st), .int (nI mv), .ref nb, .ref nt]) (ci := 1) (v := .int (nI mv)) (C := R_NET) (T := T_NET) (N := 4) hx hb hU iw_NET hown hK hP 1 rfl rfl 1 (by decide) (va_Nw.use rfl (hN _ nw_47)) (fun _ h9 => h9) rfl d_X_move_36 ?_
          refine lv_sipush (v := nI 600) hx hb d_X_move_39 (by decide +kernel) ?_
          refine xw_icmp_lt (tgt := 55) hx hb d_X_move_42 (by decide) (by omega) (by omega) (fun c_42 => ?_) (fun c_42 => ?_)
          · exact (by omega : False).elim
          · exact xw_throwS (text := "there are 600 moves") (names := ["java/lang/RuntimeException", "java/lang/Exception"]) hx hb htr hown (by decide +kernel) (by decide +kernel) (hU _ uw_339) (hU _ uw_17) (hZ.2.2.1 (71, "there are 600 moves") (by decide +kernel)) (xs_hat hat_49 hU hN hZ) hAe hP0 hS (hl.1.trans hml.symm) d_X_move_45 d_X_move_48 d_X_move_49 d_X_move_51 d_X_move_54 hout (Nat.le_of_ble_eq_true rfl) (Nat.le_of_ble_eq_true rfl) (Nat.le_of_ble_eq_true rfl) (Nat.le_of_ble_eq_true rfl) hlocks (Nat.le_of_ble_eq_true rfl) (Nat.le_of_ble_eq_true rfl)
        · exact absurd c_19 (by decide +kernel)
