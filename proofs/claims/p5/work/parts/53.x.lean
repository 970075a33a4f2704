set_option maxHeartbeats 4000000 in
set_option maxRecDepth 100000 in
/-- fail, no such worker -/
theorem n_X_failT1 (l : Launch) (htr : l.stackTraces = false) (D : va_G) (cI cB cL cR : ClassId) (hx0 : Nat) (h0 : Nat) (sn : Nat) (sp : Nat) (sc : Nat) (wk : Nat) (cf : Nat) (cl : Nat) (ct : Nat) (ck : Nat) (cs : Nat) (lw : Int32) (att : Int32) (a : Int32) (b : Int32) (c9 : Int32) (hw0 : 0 < wk) (hw : wk ≤ 16) (hbad : a < 0 ∨ nI wk ≤ a) : xY l y_X_fail w_X_fail ({ frames := 6, cells := 1, slots := 6, locals := 82  } : Room) D vwCl (xs_tys cI cB cL cR) [.ref hx0, .int a, .int b, .int c9] [(hx0, .inr (0, [.ref h0, .ref sn, .ref sp, .ref sc])), (sc, .inr (4, [.int (nI wk), .ref cf, .ref cl, .ref ct, .ref ck, .ref cs, .int lw, .int att]))] "java/lang/IndexOutOfBoundsException" := by
  refine xY.of b_X_fail 4 (some .int) (by decide +kernel) rfl (Nat.le_of_ble_eq_true rfl) ?_
  intro p e s m below meth c A ls hAe C0 hout hZ hP hD hS hl
  have hP0 : va_P D vwCl [] s.heap := xs_P_nil
  obtain ⟨hx, hb, hr, hml, hown, hlocks, hts, hnm, hN, hK, hA⟩ := C0
  have hU : ∀ w ∈ xU, w.before #[.ref hx0, .int a, .int b, .int c9] s = true := fun w h => hts w (List.mem_cons_of_mem _ h)
  have hl : lv_has ls 4 [(0, .ref hx0), (1, .int a), (2, .int b), (3, .int c9)] := hl
  refine lv_aload_n hx hb d_X_fail_0 rfl (lv_at hl 0 rfl) ?_
  refine va_get (D := D) (a := hx0) (fs := [.ref h0, .ref sn, .ref sp, .ref sc]) (ci := 0) (v := .ref sc) (C := R_X) (T := T_X) (N := 4) hx hb hU iw_X hown hK hP 0 rfl rfl 3 (by decide) (hU _ uw_310) (fun _ h9 => h9) rfl d_X_fail_1 ?_
  refine lv_iload_n hx hb d_X_fail_4 rfl (lv_at hl 1 rfl) ?_
  refine xw_callR (C := R_CR) [.int a] (n_CR_has l D cI cB cL cR sc wk cf cl ct ck cs (.int lw) (.int att) a (by omega)) ⟨hx, hb, hml, hown, hU⟩ (cwV 1 hU (xs_goodV uw_472 uw_473 uw_474 uw_11 uw_475) rfl rfl rfl (by decide +kernel) ⟨Nat.le_of_ble_eq_true rfl, Nat.le_of_ble_eq_true rfl⟩) 1 rfl rfl rfl rfl hl.1 rfl (Nat.le_of_ble_eq_true rfl) d_X_fail_5 ⟨Nat.le_of_ble_eq_true rfl, Nat.le_of_ble_eq_true rfl⟩ [1] rfl (by decide +kernel) hN hK hP hD hS hA (fun u H locs hf hP hS => ?_)
  obtain ⟨v_1, rfl⟩ : ∃ z, z = u := ⟨_, rfl⟩
  have hf_5 : ((v_1 = 0 ∧ (a < 0 ∨ nI wk ≤ a)) ∨ ∃ j, v_1 = 1 ∧ j < wk ∧ a = nI j) := hf
  have hv_2 := hf_5
  replace hP : va_P D vwCl [(hx0, .inr (0, [.ref h0, .ref sn, .ref sp, .ref sc])), (sc, .inr (4, [.int (nI wk), .ref cf, .ref cl, .ref ct, .ref ck, .ref cs, .int lw, .int att]))] H := hP
  replace hD : va_D (fun _ => True) [(hx0, .inr (0, [.ref h0, .ref sn, .ref sp, .ref sc])), (sc, .inr (4, [.int (nI wk), .ref cf, .ref cl, .ref ct, .ref ck, .ref cs, .int lw, .int att]))] := hD
  refine W.widen (k := 0) (n := 0) (Nat.le_of_ble_eq_true rfl) (Nat.le_of_ble_eq_true rfl) ?_
  refine W.eq (g2 := F0 m 8 ls [.int v_1]) rfl ?_
  rcases hv_2 with ⟨rfl, hg⟩ | ⟨j8, rfl, hj8, ej8⟩
  · refine lv_if_ne (tgt := 21) hx hb d_X_fail_8 (by decide) (fun c_8 => ?_) (fun c_8 => ?_)
    · exact absurd c_8 (by decide +kernel)
    · exact xw_throwS (text := "no such worker") (names := ["java/lang/RuntimeException", "java/lang/Exception"]) hx hb htr hown (by decide +kernel) (by decide +kernel) (hU _ uw_476) (hU _ uw_19) (hZ.2.2.1 (81, "no such worker") (by decide +kernel)) (xs_hat hat_83 hU hN hZ) hAe hP0 hS (hl.1.trans hml.symm) d_X_fail_11 d_X_fail_14 d_X_fail_15 d_X_fail_17 d_X_fail_20 hout (Nat.le_of_ble_eq_true rfl) (Nat.le_of_ble_eq_true rfl) (Nat.le_of_ble_eq_true rfl) (Nat.le_of_ble_eq_true rfl) hlocks (Nat.le_of_ble_eq_true rfl) (Nat.le_of_ble_eq_true rfl)
  · exact (xs_in hbad ej8 hj8 (by omega)).elim
set_option maxHeartbeats 4000000 in
set_option maxRecDepth 100000 in
/-- fail, no such level or turn -/
theorem n_X_failT2 (l : Launch) (htr : l.stackTraces = false) (D : va_G) (cI cB cL cR : ClassId) (hx0 : Nat) (h0 : Nat) (sn : Nat) (sp : Nat) (sc : Nat) (wk : Nat) (cf : Nat) (cl : Nat) (ct : Nat) (ck : Nat) (cs : Nat) (lw : Int32) (att : Int32) (j9 : Nat) (b : Int32) (c9 : Int32) (hw0 : 0 < wk) (hw : wk ≤ 16) (hj : j9 < wk) (hbad : (b < 0 ∨ nI 200 ≤ b) ∨ (c9 < 0 ∨ nI 1000 < c9)) : xY l y_X_fail w_X_fail ({ frames := 6, cells := 1, slots := 6, locals := 82  } : Room) D vwCl (xs_tys cI cB cL cR) [.ref hx0, .int (nI j9), .int b, .int c9] [(hx0, .inr (0, [.ref h0, .ref sn, .ref sp, .ref sc])), (sc, .inr (4, [.int (nI wk), .ref cf, .ref cl, .ref ct, .ref ck, .ref cs, .int lw, .int att]))] "java/lang/IllegalArgumentException" := by
  refine xY.of b_X_fail 4 (some .int) (by decide +kernel) rfl (Nat.le_of_ble_eq_true rfl) ?_
  intro p e s m below meth c A ls hAe C0 hout hZ hP hD hS hl
  have hP0 : va_P D vwCl [] s.heap := xs_P_nil
  obtain ⟨hx, hb, hr, hml, hown, hlocks, hts, hnm, hN, hK, hA⟩ := C0
  have hU : ∀ w ∈ xU, w.before #[.ref hx0, .int (nI j9), .int b, .int c9] s = true := fun w h => hts w (List.mem_cons_of_mem _ h)
  have hl : lv_has ls 4 [(0, .ref hx0), (1, .int (nI j9)), (2, .int b), (3, .int c9)] := hl
  refine lv_aload_n hx hb d_X_fail_0 rfl (lv_at hl 0 rfl) ?_
  refine va_get (D := D) (a := hx0) (fs := [.ref h0, .ref sn, .ref sp, .ref sc]) (ci := 0) (v := .ref sc) (C := R_X) (T := T_X) (N := 4) hx hb hU iw_X hown hK hP 0 rfl rfl 3 (by decide) (hU _ uw_310) (fun _ h9 => h9) rfl d_X_fail_1 ?_
  refine lv_iload_n hx hb d_X_fail_4 rfl (lv_at hl 1 rfl) ?_
  refine xw_callR (C := R_CR) [.int (nI j9)] (n_CR_has l D cI cB cL cR sc wk cf cl ct ck cs (.int lw) (.int att) (nI j9) (by omega)) ⟨hx, hb, hml, hown, hU⟩ (cwV 1 hU (xs_goodV uw_472 uw_473 uw_474 uw_11 uw_475) rfl rfl rfl (by decide +kernel) ⟨Nat.le_of_ble_eq_true rfl, Nat.le_of_ble_eq_true rfl⟩) 1 rfl rfl rfl rfl hl.1 rfl (Nat.le_of_ble_eq_true rfl) d_X_fail_5 ⟨Nat.le_of_ble_eq_true rfl, Nat.le_of_ble_eq_true rfl⟩ [1] rfl (by decide +kernel) hN hK hP hD hS hA (fun u H locs hf hP hS => ?_)
  obtain ⟨v_1, rfl⟩ : ∃ z, z = u := ⟨_, rfl⟩
  have hf_5 : ((v_1 = 0 ∧ ((nI j9) < 0 ∨ nI wk ≤ (nI j9))) ∨ ∃ j, v_1 = 1 ∧ j < wk ∧ (nI j9) = nI j) := hf
  have hv_2 := hf_5
  replace hP : va_P D vwCl [(hx0, .inr (0, [.ref h0, .ref sn, .ref sp, .ref sc])), (sc, .inr (4, [.int (nI wk), .ref cf, .ref cl, .ref ct, .ref ck, .ref cs, .int lw, .int att]))] H := hP
  replace hD : va_D (fun _ => True) [(hx0, .inr (0, [.ref h0, .ref sn, .ref sp, .ref sc])), (sc, .inr (4, [.int (nI wk), .ref cf, .ref cl, .ref ct, .ref ck, .ref cs, .int lw, .int att]))] := hD
  refine W.widen (k := 0) (n := 0) (Nat.le_of_ble_eq_true rfl) (Nat.le_of_ble_eq_true rfl) ?_
  refine W.eq (g2 := F0 m 8 ls [.int v_1]) rfl ?_
  rcases hv_2 with ⟨rfl, hg⟩ | ⟨j8, rfl, hj8, ej8⟩
  · exact (xs_in hg rfl (by omega) (by omega)).elim
  · refine lv_if_ne (tgt := 21) hx hb d_X_fail_8 (by decide) (fun c_8 => ?_) (fun c_8 => ?_)
    · refine lv_iload_n hx hb d_X_fail_21 rfl (lv_at hl 2 rfl) ?_
      refine lv_if_lt (tgt := 43) hx hb d_X_fail_22 (by decide) (fun c_22 => ?_) (fun c_22 => ?_)
      · exact xw_throwS (text := "no such level or turn") (names := ["java/lang/RuntimeException", "java/lang/Exception"]) hx hb htr hown (by decide +kernel) (by decide +kernel) (hU _ uw_443) (hU _ uw_18) (hZ.2.2.1 (84, "no such level or turn") (by decide +kernel)) (xs_hat hat_67 hU hN hZ) hAe hP0 hS (hl.1.trans hml.symm) d_X_fail_43 d_X_fail_46 d_X_fail_47 d_X_fail_49 d_X_fail_52 hout (Nat.le_of_ble_eq_true rfl) (Nat.le_of_ble_eq_true rfl) (Nat.le_of_ble_eq_true rfl) (Nat.le_of_ble_eq_true rfl) hlocks (Nat.le_of_ble_eq_true rfl) (Nat.le_of_ble_eq_true rfl)
      · refine lv_iload_n hx hb d_X_fail_25 rfl (lv_at hl 2 rfl) ?_
        refine lv_sipush (v := nI 200) hx hb d_X_fail_26 (by decide +kernel) ?_
        refine lv_icmp_ge (tgt := 43) hx hb d_X_fail_29 (by decide) (fun c_29 => ?_) (fun c_29 => ?_)
        · exact xw_throwS (text := "no such level or turn") (names := ["java/lang/RuntimeException", "java/lang/Exception"]) hx hb htr hown (by decide +kernel) (by decide +kernel) (hU _ uw_443) (hU _ uw_18) (hZ.2.2.1 (84, "no such level or turn") (by decide +kernel)) (xs_hat hat_67 hU hN hZ) hAe hP0 hS (hl.1.trans hml.symm) d_X_fail_43 d_X_fail_46 d_X_fail_47 d_X_fail_49 d_X_fail_52 hout (Nat.le_of_ble_eq_true rfl) (Nat.le_of_ble_eq_true rfl) (Nat.le_of_ble_eq_true rfl) (Nat.le_of_ble_eq_true rfl) hlocks (Nat.le_of_ble_eq_true rfl) (Nat.le_of_ble_eq_true rfl)
        · refine lv_iload_n hx hb d_X_fail_32 rfl (lv_at hl 3 rfl) ?_
          refine lv_if_lt (tgt := 43) hx hb d_X_fail_33 (by decide) (fun c_33 => ?_) (fun c_33 => ?_)
          · exact xw_throwS (text := "no such level or turn") (names := ["java/lang/RuntimeException", "java/lang/Exception"]) hx hb htr hown (by decide +kernel) (by decide +kernel) (hU _ uw_443) (hU _ uw_18) (hZ.2.2.1 (84, "no such level or turn") (by decide +kernel)) (xs_hat hat_67 hU hN hZ) hAe hP0 hS (hl.1.trans hml.symm) d_X_fail_43 d_X_fail_46 d_X_fail_47 d_X_fail_49 d_X_fail_52 hout (Nat.le_of_ble_eq_true rfl) (Nat.le_of_ble_eq_true rfl) (Nat.le_of_ble_eq_true rfl) (Nat.le_of_ble_eq_true rfl) hlocks (Nat.le_of_ble_eq_true rfl) (Nat.le_of_ble_eq_true rfl)
          · refine lv_iload_n hx hb d_X_fail_36 rfl (lv_at hl 3 rfl) ?_
            refine lv_sipush (v := nI 1000) hx hb d_X_fail_37 (by decide +kernel) ?_
            refine lv_icmp_le (tgt := 53) hx hb d_X_fail_40 (by decide) (fun c_40 => ?_) (fun c_40 => ?_)
            · exact absurd hbad (fun z => z.elim (fun q => q.elim (fun q => c_22 q) (fun q => c_29 q)) (fun q => q.elim (fun q => c_33 q) (fun q => Int32.not_lt.mpr c_40 q)))
            · exact xw_throwS (text := "no such level or turn") (names := ["java/lang/RuntimeException", "java/lang/Exception"]) hx hb htr hown (by decide +kernel) (by decide +kernel) (hU _ uw_443) (hU _ uw_18) (hZ.2.2.1 (84, "no such level or turn") (by decide +kernel)) (xs_hat hat_67 hU hN hZ) hAe hP0 hS (hl.1.trans hml.symm) d_X_fail_43 d_X_fail_46 d_X_fail_47 d_X_fail_49 d_X_fail_52 hout (Nat.le_of_ble_eq_true rfl) (Nat.le_of_ble_eq_true rfl) (Nat.le_of_ble_eq_true rfl) (Nat.le_of_ble_eq_true rfl) hlocks (Nat.le_of_ble_eq_true rfl) (Nat.le_of_ble_eq_true rfl)
    · exact absurd c_8 (by decide +kernel)
set_option maxHeartbeats 4000000 in
set_option maxRecDepth 100000 in
/-- fail, twenty are told -/
theorem n_X_failT3 (l : Launch) (htr : l.stackTraces = false) (D : va_G) (cI cB cL cR : ClassId) (hx0 : Nat) (h0 : Nat) (sn : Nat) (sp : Nat) (sc : Nat) (wk : Nat) (cf : Nat) (cl : Nat) (ct : Nat) (ck : Nat) (cs : Nat) (lw : Int32) (att : Int32) (p1 : Nat) (p2 : Nat) (p3 : Nat) (td : Nat) (f_p1 : Nat → Int32) (f_p2 : Nat → Int32) (f_p3 : Nat → Int32) (j9 : Nat) (l9 : Nat) (t9 : Nat) (hw0 : 0 < wk) (hw : wk ≤ 16) (htd : td ≤ 20) (hj : j9 < wk) (hl9 : l9 < 200) (ht9 : t9 ≤ 1000) (ht20 : 20 ≤ td) (hno : ∀ i, i < td → ¬ (f_p1 i = nI j9 ∧ f_p2 i = nI l9)) : xY l y_X_fail w_X_fail ({ frames := 6, cells := 1, slots := 6, locals := 82  } : Room) D vwCl (xs_tys cI cB cL cR) [.ref hx0, .int (nI j9), .int (nI l9), .int (nI t9)] [(hx0, .inr (0, [.ref h0, .ref sn, .ref sp, .ref sc])), (sc, .inr (4, [.int (nI wk), .ref cf, .ref cl, .ref ct, .ref ck, .ref cs, .int lw, .int att])), (sp, .inr (2, [.ref p1, .ref p2, .ref p3, .int (nI td)])), (p1, .inl (cI, 20, .inl f_p1)), (p2, .inl (cI, 20, .inl f_p2)), (p3, .inl (cI, 20, .inl f_p3))] "java/lang/UnsupportedOperationException" := by
  refine xY.of b_X_fail 4 (some .int) (by decide +kernel) rfl (Nat.le_of_ble_eq_true rfl) ?_
  intro p e s m below meth c A ls hAe C0 hout hZ hP hD hS hl
  have hP0 : va_P D vwCl [] s.heap := xs_P_nil
  obtain ⟨hx, hb, hr, hml, hown, hlocks, hts, hnm, hN, hK, hA⟩ := C0
  have hU : ∀ w ∈ xU, w.before #[.ref hx0, .int (nI j9), .int (nI l9), .int (nI t9)] s = true := fun w h => hts w (List.mem_cons_of_mem _ h)
  have hl : lv_has ls 4 [(0, .ref hx0), (1, .int (nI j9)), (2, .int (nI l9)), (3, .int (nI t9))] := hl
  refine lv_aload_n hx hb d_X_fail_0 rfl (lv_at hl 0 rfl) ?_
  refine va_get (D := D) (a := hx0) (fs := [.ref h0, .ref sn, .ref sp, .ref sc]) (ci := 0) (v := .ref sc) (C := R_X) (T := T_X) (N := 4) hx hb hU iw_X hown hK hP 0 rfl rfl 3 (by decide) (hU _ uw_310) (fun _ h9 => h9) rfl d_X_fail_1 ?_
  refine lv_iload_n hx hb d_X_fail_4 rfl (lv_at hl 1 rfl) ?_
  refine xw_callR (C := R_CR) [.int (nI j9)] (n_CR_has l D cI cB cL cR sc wk cf cl ct ck cs (.int lw) (.int att) (nI j9) (by omega)) ⟨hx, hb, hml, hown, hU⟩ (cwV 1 hU (xs_goodV uw_472 uw_473 uw_474 uw_11 uw_475) rfl rfl rfl (by decide +kernel) ⟨Nat.le_of_ble_eq_true rfl, Nat.le_of_ble_eq_true rfl⟩) 1 rfl rfl rfl rfl hl.1 rfl (Nat.le_of_ble_eq_true rfl) d_X_fail_5 ⟨Nat.le_of_ble_eq_true rfl, Nat.le_of_ble_eq_true rfl⟩ [1] rfl (by decide +kernel) hN hK hP hD hS hA (fun u H locs hf hP hS => ?_)
  obtain ⟨v_1, rfl⟩ : ∃ z, z = u := ⟨_, rfl⟩
  have hf_5 : ((v_1 = 0 ∧ ((nI j9) < 0 ∨ nI wk ≤ (nI j9))) ∨ ∃ j, v_1 = 1 ∧ j < wk ∧ (nI j9) = nI j) := hf
  have hv_2 := hf_5
  replace hP : va_P D vwCl [(hx0, .inr (0, [.ref h0, .ref sn, .ref sp, .ref sc])), (sc, .inr (4, [.int (nI wk), .ref cf, .ref cl, .ref ct, .ref ck, .ref cs, .int lw, .int att])), (sp, .inr (2, [.ref p1, .ref p2, .ref p3, .int (nI td)])), (p1, .inl (cI, 20, .inl f_p1)), (p2, .inl (cI, 20, .inl f_p2)), (p3, .inl (cI, 20, .inl f_p3))] H := hP
  replace hD : va_D (fun _ => True) [(hx0, .inr (0, [.ref h0, .ref sn, .ref sp, .ref sc])), (sc, .inr (4, [.int (nI wk), .ref cf, .ref cl, .ref ct, .ref ck, .ref cs, .int lw, .int att])), (sp, .inr (2, [.ref p1, .ref p2, .ref p3, .int (nI td)])), (p1, .inl (cI, 20, .inl f_p1)), (p2, .inl (cI, 20, .inl f_p2)), (p3, .inl (cI, 20, .inl f_p3))] := hD
  refine W.widen (k := 0) (n := 0) (Nat.le_of_ble_eq_true rfl) (Nat.le_of_ble_eq_true rfl) ?_
  refine W.eq (g2 := F0 m 8 ls [.int v_1]) rfl ?_
  rcases hv_2 with ⟨rfl, hg⟩ | ⟨j8, rfl, hj8, ej8⟩
  · exact (xs_in hg rfl (by omega) (by omega)).elim
  · refine lv_if_ne (tgt := 21) hx hb d_X_fail_8 (by decide) (fun c_8 => ?_) (fun c_8 => ?_)
    · refine lv_iload_n hx hb d_X_fail_21 rfl (lv_at hl 2 rfl) ?_
      refine xw_if_lt (tgt := 43) hx hb d_X_fail_22 (by decide) (by omega) ?_
      refine lv_iload_n hx hb d_X_fail_25 rfl (lv_at hl 2 rfl) ?_
      refine lv_sipush (v := nI 200) hx hb d_X_fail_26 (by decide +kernel) ?_
      refine xw_icmp_ge (tgt := 43) hx hb d_X_fail_29 (by decide) (by omega) (by omega) (fun c_29 => ?_) (fun c_29 => ?_)
      · exact (by omega : False).elim
      · refine lv_iload_n hx hb d_X_fail_32 rfl (lv_at hl 3 rfl) ?_
        refine xw_if_lt (tgt := 43) hx hb d_X_fail_33 (by decide) (by omega) ?_
        refine lv_iload_n hx hb d_X_fail_36 rfl (lv_at hl 3 rfl) ?_
        refine lv_sipush (v := nI 1000) hx hb d_X_fail_37 (by decide +kernel) ?_
        refine xw_icmp_le (tgt := 53) hx hb d_X_fail_40 (by decide) (by omega) (by omega) (fun c_40 => ?_) (fun c_40 => ?_)
        · refine lv_aload_n hx hb d_X_fail_53 rfl (lv_at hl 0 rfl) ?_
          refine va_get (D := D) (a := hx0) (fs := [.ref h0, .ref sn, .ref sp, .ref sc]) (ci := 0) (v := .ref sp) (C := R_X) (T := T_X) (N := 4) hx hb hU iw_X hown hK hP 0 rfl rfl 2 (by decide) (hU _ uw_309) (fun _ h9 => h9) rfl d_X_fail_54 ?_
          refine va_getN (D := D) (a := sp) (fs := [.ref p1, .ref p2, .ref p3, .int (nI td)]) (ci := 2) (v := .int (nI td)) (C := R_FP) (T := T_FP) (N := 4) hx hb hU iw_FP hown hK hP 2 rfl rfl 3 (by decide) (va_Nw.use rfl (hN _ nw_75)) (fun _ h9 => h9) rfl d_X_fail_57 ?_
          refine lv_bipush (v := nI 20) hx hb d_X_fail_60 (by decide +kernel) ?_
          refine xw_icmp_lt (tgt := 88) hx hb d_X_fail_62 (by decide) (by omega) (by omega) (fun c_62 => ?_) (fun c_62 => ?_)
          · exact (by omega : False).elim
          · refine lv_aload_n hx hb d_X_fail_65 rfl (lv_at hl 0 rfl) ?_
            refine va_get (D := D) (a := hx0) (fs := [.ref h0, .ref sn, .ref sp, .ref sc]) (ci := 0) (v := .ref sp) (C := R_X) (T := T_X) (N := 4) hx hb hU iw_X hown hK hP 0 rfl rfl 2 (by decide) (hU _ uw_309) (fun _ h9 => h9) rfl d_X_fail_66 ?_
            refine lv_iload_n hx hb d_X_fail_69 rfl (lv_at hl 1 rfl) ?_
            refine lv_iload_n hx hb d_X_fail_70 rfl (lv_at hl 2 rfl) ?_
            refine xw_callR (C := R_FP) [.int (nI j9), .int (nI l9)] (n_FP_placeOf l D cI cB cL cR sp p1 p2 p3 td f_p1 f_p2 f_p3 (nI j9) (nI l9) (by omega)) ⟨hx, hb, hml, hown, hU⟩ (cwV 2 hU (xs_goodV uw_493 uw_494 uw_495 uw_5 uw_496) rfl rfl rfl (by decide +kernel) ⟨Nat.le_of_ble_eq_true rfl, Nat.le_of_ble_eq_true rfl⟩) 2 rfl rfl rfl rfl hl.1 rfl (Nat.le_of_ble_eq_true rfl) d_X_fail_71 ⟨Nat.le_of_ble_eq_true rfl, Nat.le_of_ble_eq_true rfl⟩ [2, 3, 4, 5] rfl (by decide +kernel) hN hK hP hD hS hA (fun u H locs hf hP hS => ?_)
            obtain ⟨v_3, rfl⟩ : ∃ z, z = u := ⟨_, rfl⟩
            have hf_71 : ((v_3 = (-1) ∧ ∀ i, i < td → ¬ (f_p1 i = (nI j9) ∧ f_p2 i = (nI l9))) ∨ ∃ i, i < td ∧ v_3 = nI i ∧ f_p1 i = (nI j9) ∧ f_p2 i = (nI l9)) := hf
            have hv_4 := hf_71
            replace hP : va_P D vwCl [(hx0, .inr (0, [.ref h0, .ref sn, .ref sp, .ref sc])), (sc, .inr (4, [.int (nI wk), .ref cf, .ref cl, .ref ct, .ref ck, .ref cs, .int lw, .int att])), (sp, .inr (2, [.ref p1, .ref p2, .ref p3, .int (nI td)])), (p1, .inl (cI, 20, .inl f_p1)), (p2, .inl (cI, 20, .inl f_p2)), (p3, .inl (cI, 20, .inl f_p3))] H := hP
            replace hD : va_D (fun _ => True) [(hx0, .inr (0, [.ref h0, .ref sn, .ref sp, .ref sc])), (sc, .inr (4, [.int (nI wk), .ref cf, .ref cl, .ref ct, .ref ck, .ref cs, .int lw, .int att])), (sp, .inr (2, [.ref p1, .ref p2, .ref p3, .int (nI td)])), (p1, .inl (cI, 20, .inl f_p1)), (p2, .inl (cI, 20, .inl f_p2)), (p3, .inl (cI, 20, .inl f_p3))] := hD
            refine W.widen (k := 0) (n := 0) (Nat.le_of_ble_eq_true rfl) (Nat.le_of_ble_eq_true rfl) ?_
            refine W.eq (g2 := F0 m 74 ls [.int v_3]) rfl ?_
            rcases hv_4 with ⟨rfl, hno9⟩ | ⟨i8, hi8, rfl, e1, e2⟩
            · refine lv_iconst (v := (-1)) hx hb d_X_fail_74 (by decide +kernel) ?_
              refine lv_icmp_ne (tgt := 88) hx hb d_X_fail_75 (by decide) (fun c_75 => ?_) (fun c_75 => ?_)
              · exact absurd c_75 (by decide +kernel)
              · exact xw_throwS (text := "twenty failings are told") (names := ["java/lang/RuntimeException", "java/lang/Exception"]) hx hb htr hown (by decide +kernel) (by decide +kernel) (hU _ uw_339) (hU _ uw_17) (hZ.2.2.1 (94, "twenty failings are told") (by decide +kernel)) (xs_hat hat_49 hU hN hZ) hAe hP0 hS (hl.1.trans hml.symm) d_X_fail_78 d_X_fail_81 d_X_fail_82 d_X_fail_84 d_X_fail_87 hout (Nat.le_of_ble_eq_true rfl) (Nat.le_of_ble_eq_true rfl) (Nat.le_of_ble_eq_true rfl) (Nat.le_of_ble_eq_true rfl) hlocks (Nat.le_of_ble_eq_true rfl) (Nat.le_of_ble_eq_true rfl)
            · exact (hno i8 hi8 ⟨e1, e2⟩).elim
        · exact (by omega : False).elim
    · exact absurd c_8 (by decide +kernel)
