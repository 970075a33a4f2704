set_option maxHeartbeats 4000000 in
set_option maxRecDepth 100000 in
/-- level, no such state -/
theorem n_X_levelT (l : Launch) (htr : l.stackTraces = false) (D : va_G) (cI cB cL cR : ClassId) (hx0 : Nat) (h0 : Nat) (sn : Nat) (sp : Nat) (sc : Nat) (st : Nat) (mv : Nat) (nb : Nat) (nt : Nat) (a : Int32) (hst : st ≤ 200) (hmv : mv ≤ 600) (hbad : a < 0 ∨ nI st ≤ a) : xY l y_X_level w_X_level ({ frames := 6, cells := 1, slots := 6, locals := 82  } : Room) D vwCl (xs_tys cI cB cL cR) [.ref hx0, .int a] [(hx0, .inr (0, [.ref h0, .ref sn, .ref sp, .ref sc])), (sn, .inr (1, [.int (nI st), .int (nI mv), .ref nb, .ref nt]))] "java/lang/IndexOutOfBoundsException" := by
  refine xY.of b_X_level 2 (some .int) (by decide +kernel) rfl (Nat.le_of_ble_eq_true rfl) ?_
  intro p e s m below meth c A ls hAe C0 hout hZ hP hD hS hl
  have hP0 : va_P D vwCl [] s.heap := xs_P_nil
  obtain ⟨hx, hb, hr, hml, hown, hlocks, hts, hnm, hN, hK, hA⟩ := C0
  have hU : ∀ w ∈ xU, w.before #[.ref hx0, .int a] s = true := fun w h => hts w (List.mem_cons_of_mem _ h)
  have hl : lv_has ls 2 [(0, .ref hx0), (1, .int a)] := hl
  refine lv_aload_n hx hb d_X_level_0 rfl (lv_at hl 0 rfl) ?_
  refine va_get (D := D) (a := hx0) (fs := [.ref h0, .ref sn, .ref sp, .ref sc]) (ci := 0) (v := .ref sn) (C := R_X) (T := T_X) (N := 4) hx hb hU iw_X hown hK hP 0 rfl rfl 1 (by decide) (hU _ uw_308) (fun _ h9 => h9) rfl d_X_level_1 ?_
  refine lv_iload_n hx hb d_X_level_4 rfl (lv_at hl 1 rfl) ?_
  refine xw_callR (C := R_NET) [.int a] (n_NET_has l D cI cB cL cR sn nb nt st (.int (nI mv)) a (by omega)) ⟨hx, hb, hml, hown, hU⟩ (cwV 1 hU (xs_goodV uw_439 uw_440 uw_441 uw_4 uw_442) rfl rfl rfl (by decide +kernel) ⟨Nat.le_of_ble_eq_true rfl, Nat.le_of_ble_eq_true rfl⟩) 1 rfl rfl rfl rfl hl.1 rfl (Nat.le_of_ble_eq_true rfl) d_X_level_5 ⟨Nat.le_of_ble_eq_true rfl, Nat.le_of_ble_eq_true rfl⟩ [1] rfl (by decide +kernel) hN hK hP hD hS hA (fun u H locs hf hP hS => ?_)
  obtain ⟨v_1, rfl⟩ : ∃ z, z = u := ⟨_, rfl⟩
  have hf_5 : ((v_1 = 0 ∧ (a < 0 ∨ nI st ≤ a)) ∨ ∃ j, v_1 = 1 ∧ j < st ∧ a = nI j) := hf
  have hv_2 := hf_5
  replace hP : va_P D vwCl [(hx0, .inr (0, [.ref h0, .ref sn, .ref sp, .ref sc])), (sn, .inr (1, [.int (nI st), .int (nI mv), .ref nb, .ref nt]))] H := hP
  replace hD : va_D (fun _ => True) [(hx0, .inr (0, [.ref h0, .ref sn, .ref sp, .ref sc])), (sn, .inr (1, [.int (nI st), .int (nI mv), .ref nb, .ref nt]))] := hD
  refine W.widen (k := 0) (n := 0) (Nat.le_of_ble_eq_true rfl) (Nat.le_of_ble_eq_true rfl) ?_
  refine W.eq (g2 := F0 m 8 ls [.int v_1]) rfl ?_
  rcases hv_2 with ⟨rfl, hg⟩ | ⟨j8, rfl, hj8, ej8⟩
  · refine lv_if_ne (tgt := 21) hx hb d_X_level_8 (by decide) (fun c_8 => ?_) (fun c_8 => ?_)
    · exact absurd c_8 (by decide +kernel)
    · exact xw_throwS (text := "no such state") (names := ["java/lang/RuntimeException", "java/lang/Exception"]) hx hb htr hown (by decide +kernel) (by decide +kernel) (hU _ uw_476) (hU _ uw_19) (hZ.2.2.1 (65, "no such state") (by decide +kernel)) (xs_hat hat_83 hU hN hZ) hAe hP0 hS (hl.1.trans hml.symm) d_X_level_11 d_X_level_14 d_X_level_15 d_X_level_17 d_X_level_20 hout (Nat.le_of_ble_eq_true rfl) (Nat.le_of_ble_eq_true rfl) (Nat.le_of_ble_eq_true rfl) (Nat.le_of_ble_eq_true rfl) hlocks (Nat.le_of_ble_eq_true rfl) (Nat.le_of_ble_eq_true rfl)
  · exact (xs_in hbad ej8 hj8 (by omega)).elim
set_option maxHeartbeats 4000000 in
set_option maxRecDepth 100000 in
/-- owner, no such state -/
theorem n_X_ownerT (l : Launch) (htr : l.stackTraces = false) (D : va_G) (cI cB cL cR : ClassId) (hx0 : Nat) (h0 : Nat) (sn : Nat) (sp : Nat) (sc : Nat) (st : Nat) (mv : Nat) (nb : Nat) (nt : Nat) (a : Int32) (hst : st ≤ 200) (hmv : mv ≤ 600) (hbad : a < 0 ∨ nI st ≤ a) : xY l y_X_owner w_X_owner ({ frames := 6, cells := 1, slots := 6, locals := 82  } : Room) D vwCl (xs_tys cI cB cL cR) [.ref hx0, .int a] [(hx0, .inr (0, [.ref h0, .ref sn, .ref sp, .ref sc])), (sn, .inr (1, [.int (nI st), .int (nI mv), .ref nb, .ref nt]))] "java/lang/IndexOutOfBoundsException" := by
  refine xY.of b_X_owner 2 (some .int) (by decide +kernel) rfl (Nat.le_of_ble_eq_true rfl) ?_
  intro p e s m below meth c A ls hAe C0 hout hZ hP hD hS hl
  have hP0 : va_P D vwCl [] s.heap := xs_P_nil
  obtain ⟨hx, hb, hr, hml, hown, hlocks, hts, hnm, hN, hK, hA⟩ := C0
  have hU : ∀ w ∈ xU, w.before #[.ref hx0, .int a] s = true := fun w h => hts w (List.mem_cons_of_mem _ h)
  have hl : lv_has ls 2 [(0, .ref hx0), (1, .int a)] := hl
  refine lv_aload_n hx hb d_X_owner_0 rfl (lv_at hl 0 rfl) ?_
  refine va_get (D := D) (a := hx0) (fs := [.ref h0, .ref sn, .ref sp, .ref sc]) (ci := 0) (v := .ref sn) (C := R_X) (T := T_X) (N := 4) hx hb hU iw_X hown hK hP 0 rfl rfl 1 (by decide) (hU _ uw_308) (fun _ h9 => h9) rfl d_X_owner_1 ?_
  refine lv_iload_n hx hb d_X_owner_4 rfl (lv_at hl 1 rfl) ?_
  refine xw_callR (C := R_NET) [.int a] (n_NET_has l D cI cB cL cR sn nb nt st (.int (nI mv)) a (by omega)) ⟨hx, hb, hml, hown, hU⟩ (cwV 1 hU (xs_goodV uw_439 uw_440 uw_441 uw_4 uw_442) rfl rfl rfl (by decide +kernel) ⟨Nat.le_of_ble_eq_true rfl, Nat.le_of_ble_eq_true rfl⟩) 1 rfl rfl rfl rfl hl.1 rfl (Nat.le_of_ble_eq_true rfl) d_X_owner_5 ⟨Nat.le_of_ble_eq_true rfl, Nat.le_of_ble_eq_true rfl⟩ [1] rfl (by decide +kernel) hN hK hP hD hS hA (fun u H locs hf hP hS => ?_)
  obtain ⟨v_1, rfl⟩ : ∃ z, z = u := ⟨_, rfl⟩
  have hf_5 : ((v_1 = 0 ∧ (a < 0 ∨ nI st ≤ a)) ∨ ∃ j, v_1 = 1 ∧ j < st ∧ a = nI j) := hf
  have hv_2 := hf_5
  replace hP : va_P D vwCl [(hx0, .inr (0, [.ref h0, .ref sn, .ref sp, .ref sc])), (sn, .inr (1, [.int (nI st), .int (nI mv), .ref nb, .ref nt]))] H := hP
  replace hD : va_D (fun _ => True) [(hx0, .inr (0, [.ref h0, .ref sn, .ref sp, .ref sc])), (sn, .inr (1, [.int (nI st), .int (nI mv), .ref nb, .ref nt]))] := hD
  refine W.widen (k := 0) (n := 0) (Nat.le_of_ble_eq_true rfl) (Nat.le_of_ble_eq_true rfl) ?_
  refine W.eq (g2 := F0 m 8 ls [.int v_1]) rfl ?_
  rcases hv_2 with ⟨rfl, hg⟩ | ⟨j8, rfl, hj8, ej8⟩
  · refine lv_if_ne (tgt := 21) hx hb d_X_owner_8 (by decide) (fun c_8 => ?_) (fun c_8 => ?_)
    · exact absurd c_8 (by decide +kernel)
    · exact xw_throwS (text := "no such state") (names := ["java/lang/RuntimeException", "java/lang/Exception"]) hx hb htr hown (by decide +kernel) (by decide +kernel) (hU _ uw_476) (hU _ uw_19) (hZ.2.2.1 (65, "no such state") (by decide +kernel)) (xs_hat hat_83 hU hN hZ) hAe hP0 hS (hl.1.trans hml.symm) d_X_owner_11 d_X_owner_14 d_X_owner_15 d_X_owner_17 d_X_owner_20 hout (Nat.le_of_ble_eq_true rfl) (Nat.le_of_ble_eq_true rfl) (Nat.le_of_ble_eq_true rfl) (Nat.le_of_ble_eq_true rfl) hlocks (Nat.le_of_ble_eq_true rfl) (Nat.le_of_ble_eq_true rfl)
  · exact (xs_in hbad ej8 hj8 (by omega)).elim
set_option maxHeartbeats 4000000 in
set_option maxRecDepth 100000 in
/-- times, no such state -/
theorem n_X_timesT (l : Launch) (htr : l.stackTraces = false) (D : va_G) (cI cB cL cR : ClassId) (hx0 : Nat) (h0 : Nat) (sn : Nat) (sp : Nat) (sc : Nat) (st : Nat) (mv : Nat) (nb : Nat) (nt : Nat) (a : Int32) (hst : st ≤ 200) (hmv : mv ≤ 600) (hbad : a < 0 ∨ nI st ≤ a) : xY l y_X_times w_X_times ({ frames := 6, cells := 1, slots := 6, locals := 82  } : Room) D vwCl (xs_tys cI cB cL cR) [.ref hx0, .int a] [(hx0, .inr (0, [.ref h0, .ref sn, .ref sp, .ref sc])), (sn, .inr (1, [.int (nI st), .int (nI mv), .ref nb, .ref nt]))] "java/lang/IndexOutOfBoundsException" := by
  refine xY.of b_X_times 2 (some .int) (by decide +kernel) rfl (Nat.le_of_ble_eq_true rfl) ?_
  intro p e s m below meth c A ls hAe C0 hout hZ hP hD hS hl
  have hP0 : va_P D vwCl [] s.heap := xs_P_nil
  obtain ⟨hx, hb, hr, hml, hown, hlocks, hts, hnm, hN, hK, hA⟩ := C0
  have hU : ∀ w ∈ xU, w.before #[.ref hx0, .int a] s = true := fun w h => hts w (List.mem_cons_of_mem _ h)
  have hl : lv_has ls 2 [(0, .ref hx0), (1, .int a)] := hl
  refine lv_aload_n hx hb d_X_times_0 rfl (lv_at hl 0 rfl) ?_
  refine va_get (D := D) (a := hx0) (fs := [.ref h0, .ref sn, .ref sp, .ref sc]) (ci := 0) (v := .ref sn) (C := R_X) (T := T_X) (N := 4) hx hb hU iw_X hown hK hP 0 rfl rfl 1 (by decide) (hU _ uw_308) (fun _ h9 => h9) rfl d_X_times_1 ?_
  refine lv_iload_n hx hb d_X_times_4 rfl (lv_at hl 1 rfl) ?_
  refine xw_callR (C := R_NET) [.int a] (n_NET_has l D cI cB cL cR sn nb nt st (.int (nI mv)) a (by omega)) ⟨hx, hb, hml, hown, hU⟩ (cwV 1 hU (xs_goodV uw_439 uw_440 uw_441 uw_4 uw_442) rfl rfl rfl (by decide +kernel) ⟨Nat.le_of_ble_eq_true rfl, Nat.le_of_ble_eq_true rfl⟩) 1 rfl rfl rfl rfl hl.1 rfl (Nat.le_of_ble_eq_true rfl) d_X_times_5 ⟨Nat.le_of_ble_eq_true rfl, Nat.le_of_ble_eq_true rfl⟩ [1] rfl (by decide +kernel) hN hK hP hD hS hA (fun u H locs hf hP hS => ?_)
  obtain ⟨v_1, rfl⟩ : ∃ z, z = u := ⟨_, rfl⟩
  have hf_5 : ((v_1 = 0 ∧ (a < 0 ∨ nI st ≤ a)) ∨ ∃ j, v_1 = 1 ∧ j < st ∧ a = nI j) := hf
  have hv_2 := hf_5
  replace hP : va_P D vwCl [(hx0, .inr (0, [.ref h0, .ref sn, .ref sp, .ref sc])), (sn, .inr (1, [.int (nI st), .int (nI mv), .ref nb, .ref nt]))] H := hP
  replace hD : va_D (fun _ => True) [(hx0, .inr (0, [.ref h0, .ref sn, .ref sp, .ref sc])), (sn, .inr (1, [.int (nI st), .int (nI mv), .ref nb, .ref nt]))] := hD
  refine W.widen (k := 0) (n := 0) (Nat.le_of_ble_eq_true rfl) (Nat.le_of_ble_eq_true rfl) ?_
  refine W.eq (g2 := F0 m 8 ls [.int v_1]) rfl ?_
  rcases hv_2 with ⟨rfl, hg⟩ | ⟨j8, rfl, hj8, ej8⟩
  · refine lv_if_ne (tgt := 21) hx hb d_X_times_8 (by decide) (fun c_8 => ?_) (fun c_8 => ?_)
    · exact absurd c_8 (by decide +kernel)
    · exact xw_throwS (text := "no such state") (names := ["java/lang/RuntimeException", "java/lang/Exception"]) hx hb htr hown (by decide +kernel) (by decide +kernel) (hU _ uw_476) (hU _ uw_19) (hZ.2.2.1 (65, "no such state") (by decide +kernel)) (xs_hat hat_83 hU hN hZ) hAe hP0 hS (hl.1.trans hml.symm) d_X_times_11 d_X_times_14 d_X_times_15 d_X_times_17 d_X_times_20 hout (Nat.le_of_ble_eq_true rfl) (Nat.le_of_ble_eq_true rfl) (Nat.le_of_ble_eq_true rfl) (Nat.le_of_ble_eq_true rfl) hlocks (Nat.le_of_ble_eq_true rfl) (Nat.le_of_ble_eq_true rfl)
  · exact (xs_in hbad ej8 hj8 (by omega)).elim
set_option maxHeartbeats 4000000 in
set_option maxRecDepth 100000 in
/-- way, no such state -/
theorem n_X_wayT1 (l : Launch) (htr : l.stackTraces = false) (D : va_G) (cI cB cL cR : ClassId) (hx0 : Nat) (h0 : Nat) (sn : Nat) (sp : Nat) (sc : Nat) (st : Nat) (mv : Nat) (nb : Nat) (nt : Nat) (a : Int32) (b : Int32) (hst : st ≤ 200) (hmv : mv ≤ 600) (hbad : a < 0 ∨ nI st ≤ a) : xY l y_X_way w_X_way ({ frames := 6, cells := 1, slots := 6, locals := 82  } : Room) D vwCl (xs_tys cI cB cL cR) [.ref hx0, .int a, .int b] [(hx0, .inr (0, [.ref h0, .ref sn, .ref sp, .ref sc])), (sn, .inr (1, [.int (nI st), .int (nI mv), .ref nb, .ref nt]))] "java/lang/IndexOutOfBoundsException" := by
  refine xY.of b_X_way 3 (some .int) (by decide +kernel) rfl (Nat.le_of_ble_eq_true rfl) ?_
  intro p e s m below meth c A ls hAe C0 hout hZ hP hD hS hl
  have hP0 : va_P D vwCl [] s.heap := xs_P_nil
  obtain ⟨hx, hb, hr, hml, hown, hlocks, hts, hnm, hN, hK, hA⟩ := C0
  have hU : ∀ w ∈ xU, w.before #[.ref hx0, .int a, .int b] s = true := fun w h => hts w (List.mem_cons_of_mem _ h)
  have hl : lv_has ls 3 [(0, .ref hx0), (1, .int a), (2, .int b)] := hl
  refine lv_aload_n hx hb d_X_way_0 rfl (lv_at hl 0 rfl) ?_
  refine va_get (D := D) (a := hx0) (fs := [.ref h0, .ref sn, .ref sp, .ref sc]) (ci := 0) (v := .ref sn) (C := R_X) (T := T_X) (N := 4) hx hb hU iw_X hown hK hP 0 rfl rfl 1 (by decide) (hU _ uw_308) (fun _ h9 => h9) rfl d_X_way_1 ?_
  refine lv_iload_n hx hb d_X_way_4 rfl (lv_at hl 1 rfl) ?_
  refine xw_callR (C := R_NET) [.int a] (n_NET_has l D cI cB cL cR sn nb nt st (.int (nI mv)) a (by omega)) ⟨hx, hb, hml, hown, hU⟩ (cwV 1 hU (xs_goodV uw_439 uw_440 uw_441 uw_4 uw_442) rfl rfl rfl (by decide +kernel) ⟨Nat.le_of_ble_eq_true rfl, Nat.le_of_ble_eq_true rfl⟩) 1 rfl rfl rfl rfl hl.1 rfl (Nat.le_of_ble_eq_true rfl) d_X_way_5 ⟨Nat.le_of_ble_eq_true rfl, Nat.le_of_ble_eq_true rfl⟩ [1] rfl (by decide +kernel) hN hK hP hD hS hA (fun u H locs hf hP hS => ?_)
  obtain ⟨v_1, rfl⟩ : ∃ z, z = u := ⟨_, rfl⟩
  have hf_5 : ((v_1 = 0 ∧ (a < 0 ∨ nI st ≤ a)) ∨ ∃ j, v_1 = 1 ∧ j < st ∧ a = nI j) := hf
  have hv_2 := hf_5
  replace hP : va_P D vwCl [(hx0, .inr (0, [.ref h0, .ref sn, .ref sp, .ref sc])), (sn, .inr (1, [.int (nI st), .int (nI mv), .ref nb, .ref nt]))] H := hP
  replace hD : va_D (fun _ => True) [(hx0, .inr (0, [.ref h0, .ref sn, .ref sp, .ref sc])), (sn, .inr (1, [.int (nI st), .int (nI mv), .ref nb, .ref nt]))] := hD
  refine W.widen (k := 0) (n := 0) (Nat.le_of_ble_eq_true rfl) (Nat.le_of_ble_eq_true rfl) ?_
  refine W.eq (g2 := F0 m 8 ls [.int v_1]) rfl ?_
  rcases hv_2 with ⟨rfl, hg⟩ | ⟨j8, rfl, hj8, ej8⟩
  · refine lv_if_eq (tgt := 31) hx hb d_X_way_8 (by decide) (fun c_8 => ?_) (fun c_8 => ?_)
    · exact xw_throwS (text := "no such state on a way") (names := ["java/lang/RuntimeException", "java/lang/Exception"]) hx hb htr hown (by decide +kernel) (by decide +kernel) (hU _ uw_476) (hU _ uw_19) (hZ.2.2.1 (129, "no such state on a way") (by decide +kernel)) (xs_hat hat_83 hU hN hZ) hAe hP0 hS (hl.1.trans hml.symm) d_X_way_31 d_X_way_34 d_X_way_35 d_X_way_37 d_X_way_40 hout (Nat.le_of_ble_eq_true rfl) (Nat.le_of_ble_eq_true rfl) (Nat.le_of_ble_eq_true rfl) (Nat.le_of_ble_eq_true rfl) hlocks (Nat.le_of_ble_eq_true rfl) (Nat.le_of_ble_eq_true rfl)
    · exact absurd c_8 (by decide +kernel)
  · exact (xs_in hbad ej8 hj8 (by omega)).elim
set_option maxHeartbeats 4000000 in
set_option maxRecDepth 100000 in
/-- way, no such k -/
theorem n_X_wayT2 (l : Launch) (htr : l.stackTraces = false) (D : va_G) (cI cB cL cR : ClassId) (hx0 : Nat) (h0 : Nat) (sn : Nat) (sp : Nat) (sc : Nat) (st : Nat) (mv : Nat) (nb : Nat) (nt : Nat) (sq : Nat) (sl : Nat) (sv : Nat) (sg : Nat) (sw : Nat) (sk : Nat) (sb : Nat) (x : Nat) (lo : Nat) (lr : Nat) (lb : Nat) (lv : Nat) (lf : Nat) (f_lo : Nat → Int32) (i9 : Nat) (b : Int32) (hst : st ≤ 200) (hmv : mv ≤ 600) (hx9 : x < 2147483648) (hlv : lv ≤ 200) (hi9 : i9 < st) (hbad : b < 0 ∨ f_lo i9 < b) : xY l y_X_way w_X_way ({ frames := 6, cells := 1, slots := 6, locals := 82  } : Room) D vwCl (xs_tys cI cB cL cR) [.ref hx0, .int (nI i9), .int b] [(hx0, .inr (0, [.ref h0, .ref sn, .ref sp, .ref sc])), (sn, .inr (1, [.int (nI st), .int (nI mv), .ref nb, .ref nt])), (h0, .inr (9, [.ref sn, .ref sp, .ref sc, .ref sq, .ref sl, .ref sv, .ref sg, .ref sw, .ref sk, .ref sb, .int (nI x)])), (sv, .inr (7, [.ref lo, .ref lr, .ref lb, .int (nI lv), .ref lf])), (lo, .inl (cI, 200, .inl f_lo))] "java/lang/IndexOutOfBoundsException" := by
  refine xY.of b_X_way 3 (some .int) (by decide +kernel) rfl (Nat.le_of_ble_eq_true rfl) ?_
  intro p e s m below meth c A ls hAe C0 hout hZ hP hD hS hl
  have hP0 : va_P D vwCl [] s.heap := xs_P_nil
  obtain ⟨hx, hb, hr, hml, hown, hlocks, hts, hnm, hN, hK, hA⟩ := C0
  have hU : ∀ w ∈ xU, w.before #[.ref hx0, .int (nI i9), .int b] s = true := fun w h => hts w (List.mem_cons_of_mem _ h)
  have hl : lv_has ls 3 [(0, .ref hx0), (1, .int (nI i9)), (2, .int b)] := hl
  refine lv_aload_n hx hb d_X_way_0 rfl (lv_at hl 0 rfl) ?_
  refine va_get (D := D) (a := hx0) (fs := [.ref h0, .ref sn, .ref sp, .ref sc]) (ci := 0) (v := .ref sn) (C := R_X) (T := T_X) (N := 4) hx hb hU iw_X hown hK hP 0 rfl rfl 1 (by decide) (hU _ uw_308) (fun _ h9 => h9) rfl d_X_way_1 ?_
  refine lv_iload_n hx hb d_X_way_4 rfl (lv_at hl 1 rfl) ?_
  refine xw_callR (C := R_NET) [.int (nI i9)] (n_NET_has l D cI cB cL cR sn nb nt st (.int (nI mv)) (nI i9) (by omega)) ⟨hx, hb, hml, hown, hU⟩ (cwV 1 hU (xs_goodV uw_439 uw_440 uw_441 uw_4 uw_442) rfl rfl rfl (by decide +kernel) ⟨Nat.le_of_ble_eq_true rfl, Nat.le_of_ble_eq_true rfl⟩) 1 rfl rfl rfl rfl hl.1 rfl (Nat.le_of_ble_eq_true rfl) d_X_way_5 ⟨Nat.le_of_ble_eq_true rfl, Nat.le_of_ble_eq_true rfl⟩ [1] rfl (by decide +kernel) hN hK hP hD hS hA (fun u H locs hf hP hS => ?_)
  obtain ⟨v_1, rfl⟩ : ∃ z, z = u := ⟨_, rfl⟩
  have hf_5 : ((v_1 = 0 ∧ ((nI i9) < 0 ∨ nI st ≤ (nI i9))) ∨ ∃ j, v_1 = 1 ∧ j < st ∧ (nI i9) = nI j) := hf
  have hv_2 := hf_5
  replace hP : va_P D vwCl [(hx0, .inr (0, [.ref h0, .ref sn, .ref sp, .ref sc])), (sn, .inr (1, [.int (nI st), .int (nI mv), .ref nb, .ref nt])), (h0, .inr (9, [.ref sn, .ref sp, .ref sc, .ref sq, .ref sl, .ref sv, .ref sg, .ref sw, .ref sk, .ref sb, .int (nI x)])), (sv, .inr (7, [.ref lo, .ref lr, .ref lb, .int (nI lv), .ref lf])), (lo, .inl (cI, 200, .inl f_lo))] H := hP
  replace hD : va_D (fun _ => True) [(hx0, .inr (0, [.ref h0, .ref sn, .ref sp, .ref sc])), (sn, .inr (1, [.int (nI st), .int (nI mv), .ref nb, .ref nt])), (h0, .inr (9, [.ref sn, .ref sp, .ref sc, .ref sq, .ref sl, .ref sv, .ref sg, .ref sw, .ref sk, .ref sb, .int (nI x)])), (sv, .inr (7, [.ref lo, .ref lr, .ref lb, .int (nI lv), .ref lf])), (lo, .inl (cI, 200, .inl f_lo))] := hD
  refine W.widen (k := 0) (n := 0) (Nat.le_of_ble_eq_true rfl) (Nat.le_of_ble_eq_true rfl) ?_
  refine W.eq (g2 := F0 m 8 ls [.int v_1]) rfl ?_
  rcases hv_2 with ⟨rfl, hg⟩ | ⟨j8, rfl, hj8, ej8⟩
  · exact (xs_in hg rfl (by omega) (by omega)).elim
  · refine lv_if_eq (tgt := 31) hx hb d_X_way_8 (by decide) (fun c_8 => ?_) (fun c_8 => ?_)
    · exact absurd c_8 (by decide +kernel)
    · refine lv_iload_n hx hb d_X_way_11 rfl (lv_at hl 2 rfl) ?_
      refine lv_if_lt (tgt := 31) hx hb d_X_way_12 (by decide) (fun c_12 => ?_) (fun c_12 => ?_)
      · exact xw_throwS (text := "no such state on a way") (names := ["java/lang/RuntimeException", "java/lang/Exception"]) hx hb htr hown (by decide +kernel) (by decide +kernel) (hU _ uw_476) (hU _ uw_19) (hZ.2.2.1 (129, "no such state on a way") (by decide +kernel)) (xs_hat hat_83 hU hN hZ) hAe hP0 hS (hl.1.trans hml.symm) d_X_way_31 d_X_way_34 d_X_way_35 d_X_way_37 d_X_way_40 hout (Nat.le_of_ble_eq_true rfl) (Nat.le_of_ble_eq_true rfl) (Nat.le_of_ble_eq_true rfl) (Nat.le_of_ble_eq_true rfl) hlocks (Nat.le_of_ble_eq_true rfl) (Nat.le_of_ble_eq_true rfl)
      · refine lv_iload_n hx hb d_X_way_15 rfl (lv_at hl 2 rfl) ?_
        refine lv_aload_n hx hb d_X_way_16 rfl (lv_at hl 0 rfl) ?_
        refine va_get (D := D) (a := hx0) (fs := [.ref h0, .ref sn, .ref sp, .ref sc]) (ci := 0) (v := .ref h0) (C := R_X) (T := T_X) (N := 4) hx hb hU iw_X hown hK hP 0 rfl rfl 0 (by decide) (hU _ uw_307) (fun _ h9 => h9) rfl d_X_way_17 ?_
        refine va_getN (D := D) (a := h0) (fs := [.ref sn, .ref sp, .ref sc, .ref sq, .ref sl, .ref sv, .ref sg, .ref sw, .ref sk, .ref sb, .int (nI x)]) (ci := 9) (v := .ref sv) (C := R_SE) (T := T_SE) (N := 11) hx hb hU iw_SE hown hK hP 2 rfl rfl 5 (by decide) (va_Nw.use rfl (hN _ nw_275)) (fun _ h9 => h9) rfl d_X_way_20 ?_
        refine va_getN (D := D) (a := sv) (fs := [.ref lo, .ref lr, .ref lb, .int (nI lv), .ref lf]) (ci := 7) (v := .ref lo) (C := R_LE) (T := T_LE) (N := 5) hx hb hU iw_LE hown hK hP 3 rfl rfl 0 (by decide) (va_Nw.use rfl (hN _ nw_127)) (fun _ h9 => h9) rfl d_X_way_23 ?_
        refine lv_iload_n hx hb d_X_way_26 rfl (lv_at hl 1 rfl) ?_
        refine xw_ild hx hb hK hP 4 0 rfl rfl (by omega) (by decide) d_X_way_27 ?_
        refine lv_icmp_le (tgt := 41) hx hb d_X_way_28 (by decide) (fun c_28 => ?_) (fun c_28 => ?_)
        · exact absurd hbad (fun z => z.elim (fun q => c_12 q) (fun q => Int32.not_lt.mpr c_28 q))
        · exact xw_throwS (text := "no such state on a way") (names := ["java/lang/RuntimeException", "java/lang/Exception"]) hx hb htr hown (by decide +kernel) (by decide +kernel) (hU _ uw_476) (hU _ uw_19) (hZ.2.2.1 (129, "no such state on a way") (by decide +kernel)) (xs_hat hat_83 hU hN hZ) hAe hP0 hS (hl.1.trans hml.symm) d_X_way_31 d_X_way_34 d_X_way_35 d_X_way_37 d_X_way_40 hout (Nat.le_of_ble_eq_true rfl) (Nat.le_of_ble_eq_true rfl) (Nat.le_of_ble_eq_true rfl) (Nat.le_of_ble_eq_true rfl) hlocks (Nat.le_of_ble_eq_true rfl) (Nat.le_of_ble_eq_true rfl)
