set_option maxHeartbeats 4000000 in
set_option maxRecDepth 100000 in
/-- level -/
theorem n_X_level (l : Launch) (D : va_G) (cI cB cL cR : ClassId) (hx0 : Nat) (h0 : Nat) (sn : Nat) (sp : Nat) (sc : Nat) (st : Nat) (mv : Nat) (nb : Nat) (nt : Nat) (sq : Nat) (sl : Nat) (sv : Nat) (sg : Nat) (sw : Nat) (sk : Nat) (sb : Nat) (x : Nat) (lo : Nat) (lr : Nat) (lb : Nat) (lv : Nat) (lf : Nat) (f_lo : Nat → Int32) (i9 : Nat) (hst : st ≤ 200) (hmv : mv ≤ 600) (hx9 : x < 2147483648) (hlv : lv ≤ 200) (hi9 : i9 < st) : xG (σ := Int32) l y_X_level w_X_level ({ frames := 1, cells := 0, slots := 0, locals := 21  } : Room) D vwCl (xs_tys cI cB cL cR) [.ref hx0, .int (nI i9)] [(hx0, .inr (0, [.ref h0, .ref sn, .ref sp, .ref sc])), (sn, .inr (1, [.int (nI st), .int (nI mv), .ref nb, .ref nt])), (h0, .inr (9, [.ref sn, .ref sp, .ref sc, .ref sq, .ref sl, .ref sv, .ref sg, .ref sw, .ref sk, .ref sb, .int (nI x)])), (sv, .inr (7, [.ref lo, .ref lr, .ref lb, .int (nI lv), .ref lf])), (lo, .inl (cI, 200, .inl f_lo))] (fun v => True) (fun v => some (.int v)) (fun v => [(hx0, .inr (0, [.ref h0, .ref sn, .ref sp, .ref sc])), (sn, .inr (1, [.int (nI st), .int (nI mv), .ref nb, .ref nt])), (h0, .inr (9, [.ref sn, .ref sp, .ref sc, .ref sq, .ref sl, .ref sv, .ref sg, .ref sw, .ref sk, .ref sb, .int (nI x)])), (sv, .inr (7, [.ref lo, .ref lr, .ref lb, .int (nI lv), .ref lf])), (lo, .inl (cI, 200, .inl f_lo))]) := by
  refine xG.of b_X_level 2 (some .int) (by decide +kernel) rfl (Nat.le_of_ble_eq_true rfl) ?_
  intro p e s m below meth c A ls hAe C0 hP hD hS hl
  obtain ⟨hx, hb, hr, hml, hown, hlocks, hts, hnm, hN, hK, hA⟩ := C0
  have hU : ∀ w ∈ xU, w.before #[.ref hx0, .int (nI i9)] s = true := fun w h => hts w (List.mem_cons_of_mem _ h)
  have hl : lv_has ls 2 [(0, .ref hx0), (1, .int (nI i9))] := hl
  refine lv_aload_n hx hb d_X_level_0 rfl (lv_at hl 0 rfl) ?_
  refine va_get (D := D) (a := hx0) (fs := [.ref h0, .ref sn, .ref sp, .ref sc]) (ci := 0) (v := .ref sn) (C := R_X) (T := T_X) (N := 4) hx hb hU iw_X hown hK hP 0 rfl rfl 1 (by decide) (hU _ uw_308) (fun _ h9 => h9) rfl d_X_level_1 ?_
  refine lv_iload_n hx hb d_X_level_4 rfl (lv_at hl 1 rfl) ?_
  refine xw_callR (C := R_NET) [.int (nI i9)] (n_NET_has l D cI cB cL cR sn nb nt st (.int (nI mv)) (nI i9) (by omega)) ⟨hx, hb, hml, hown, hU⟩ (cwV 1 hU (xs_goodV uw_439 uw_440 uw_441 uw_4 uw_442) rfl rfl rfl (by decide +kernel) ⟨Nat.le_of_ble_eq_true rfl, Nat.le_of_ble_eq_true rfl⟩) 1 rfl rfl rfl rfl hl.1 rfl (Nat.le_of_ble_eq_true rfl) d_X_level_5 ⟨Nat.le_of_ble_eq_true rfl, Nat.le_of_ble_eq_true rfl⟩ [1] rfl (by decide +kernel) hN hK hP hD hS hA (fun u H locs hf hP hS => ?_)
  obtain ⟨v_1, rfl⟩ : ∃ z, z = u := ⟨_, rfl⟩
  have hf_5 : ((v_1 = 0 ∧ ((nI i9) < 0 ∨ nI st ≤ (nI i9))) ∨ ∃ j, v_1 = 1 ∧ j < st ∧ (nI i9) = nI j) := hf
  have hv_2 := hf_5
  replace hP : va_P D vwCl [(hx0, .inr (0, [.ref h0, .ref sn, .ref sp, .ref sc])), (sn, .inr (1, [.int (nI st), .int (nI mv), .ref nb, .ref nt])), (h0, .inr (9, [.ref sn, .ref sp, .ref sc, .ref sq, .ref sl, .ref sv, .ref sg, .ref sw, .ref sk, .ref sb, .int (nI x)])), (sv, .inr (7, [.ref lo, .ref lr, .ref lb, .int (nI lv), .ref lf])), (lo, .inl (cI, 200, .inl f_lo))] H := hP
  replace hD : va_D A [(hx0, .inr (0, [.ref h0, .ref sn, .ref sp, .ref sc])), (sn, .inr (1, [.int (nI st), .int (nI mv), .ref nb, .ref nt])), (h0, .inr (9, [.ref sn, .ref sp, .ref sc, .ref sq, .ref sl, .ref sv, .ref sg, .ref sw, .ref sk, .ref sb, .int (nI x)])), (sv, .inr (7, [.ref lo, .ref lr, .ref lb, .int (nI lv), .ref lf])), (lo, .inl (cI, 200, .inl f_lo))] := hD
  refine W.widen (k := 0) (n := 0) (Nat.le_of_ble_eq_true rfl) (Nat.le_of_ble_eq_true rfl) ?_
  refine W.eq (g2 := F0 m 8 ls [.int v_1]) rfl ?_
  rcases hv_2 with ⟨rfl, hg⟩ | ⟨j8, rfl, hj8, ej8⟩
  · exact (xs_in hg rfl (by omega) (by omega)).elim
  · refine lv_if_ne (tgt := 21) hx hb d_X_level_8 (by decide) (fun c_8 => ?_) (fun c_8 => ?_)
    · refine lv_aload_n hx hb d_X_level_21 rfl (lv_at hl 0 rfl) ?_
      refine va_get (D := D) (a := hx0) (fs := [.ref h0, .ref sn, .ref sp, .ref sc]) (ci := 0) (v := .ref h0) (C := R_X) (T := T_X) (N := 4) hx hb hU iw_X hown hK hP 0 rfl rfl 0 (by decide) (hU _ uw_307) (fun _ h9 => h9) rfl d_X_level_22 ?_
      refine va_getN (D := D) (a := h0) (fs := [.ref sn, .ref sp, .ref sc, .ref sq, .ref sl, .ref sv, .ref sg, .ref sw, .ref sk, .ref sb, .int (nI x)]) (ci := 9) (v := .ref sv) (C := R_SE) (T := T_SE) (N := 11) hx hb hU iw_SE hown hK hP 2 rfl rfl 5 (by decide) (va_Nw.use rfl (hN _ nw_275)) (fun _ h9 => h9) rfl d_X_level_25 ?_
      refine va_getN (D := D) (a := sv) (fs := [.ref lo, .ref lr, .ref lb, .int (nI lv), .ref lf]) (ci := 7) (v := .ref lo) (C := R_LE) (T := T_LE) (N := 5) hx hb hU iw_LE hown hK hP 3 rfl rfl 0 (by decide) (va_Nw.use rfl (hN _ nw_127)) (fun _ h9 => h9) rfl d_X_level_28 ?_
      refine lv_iload_n hx hb d_X_level_31 rfl (lv_at hl 1 rfl) ?_
      refine xw_ild hx hb hK hP 4 0 rfl rfl (by omega) (by decide) d_X_level_32 ?_
      have hP9 := xs_P_sub (w := [(hx0, .inr (0, [.ref h0, .ref sn, .ref sp, .ref sc])), (sn, .inr (1, [.int (nI st), .int (nI mv), .ref nb, .ref nt])), (h0, .inr (9, [.ref sn, .ref sp, .ref sc, .ref sq, .ref sl, .ref sv, .ref sg, .ref sw, .ref sk, .ref sb, .int (nI x)])), (sv, .inr (7, [.ref lo, .ref lr, .ref lb, .int (nI lv), .ref lf])), (lo, .inl (cI, 200, .inl f_lo))]) hP [0, 1, 2, 3, 4] rfl
      have hD9 := hD.sub (ws' := [(hx0, .inr (0, [.ref h0, .ref sn, .ref sp, .ref sc])), (sn, .inr (1, [.int (nI st), .int (nI mv), .ref nb, .ref nt])), (h0, .inr (9, [.ref sn, .ref sp, .ref sc, .ref sq, .ref sl, .ref sv, .ref sg, .ref sw, .ref sk, .ref sb, .int (nI x)])), (sv, .inr (7, [.ref lo, .ref lr, .ref lb, .int (nI lv), .ref lf])), (lo, .inl (cI, 200, .inl f_lo))]) [0, 1, 2, 3, 4] (by decide +kernel) rfl
      exact xw_iret (f_lo i9) hx hb hr hlocks d_X_level_33 (rfl) (trivial) hAe hP9 hD9 hS (Nat.le_of_ble_eq_true rfl) (Nat.le_of_ble_eq_true rfl)
    · exact absurd c_8 (by decide +kernel)
set_option maxHeartbeats 4000000 in
set_option maxRecDepth 100000 in
/-- owner -/
theorem n_X_owner (l : Launch) (D : va_G) (cI cB cL cR : ClassId) (hx0 : Nat) (h0 : Nat) (sn : Nat) (sp : Nat) (sc : Nat) (st : Nat) (mv : Nat) (nb : Nat) (nt : Nat) (wk : Nat) (cf : Nat) (cl : Nat) (ct : Nat) (ck : Nat) (cs : Nat) (lw : Int32) (att : Int32) (g_cf : Nat → Nat) (f_cl : Nat → Int32) (i9 : Nat) (hst : st ≤ 200) (hmv : mv ≤ 600) (hw0 : 0 < wk) (hw : wk ≤ 16) (hi9 : i9 < st) (hg_cf : ∀ j, g_cf j < wk) : xG (σ := Int32) l y_X_owner w_X_owner ({ frames := 1, cells := 0, slots := 0, locals := 23  } : Room) D vwCl (xs_tys cI cB cL cR) [.ref hx0, .int (nI i9)] [(hx0, .inr (0, [.ref h0, .ref sn, .ref sp, .ref sc])), (sn, .inr (1, [.int (nI st), .int (nI mv), .ref nb, .ref nt])), (sc, .inr (4, [.int (nI wk), .ref cf, .ref cl, .ref ct, .ref ck, .ref cs, .int lw, .int att])), (cf, .inl (cI, 200, .inl (xs_G g_cf))), (cl, .inl (cB, 16, .inl f_cl))] (fun v => True) (fun v => some (.int v)) (fun v => [(hx0, .inr (0, [.ref h0, .ref sn, .ref sp, .ref sc])), (sn, .inr (1, [.int (nI st), .int (nI mv), .ref nb, .ref nt])), (sc, .inr (4, [.int (nI wk), .ref cf, .ref cl, .ref ct, .ref ck, .ref cs, .int lw, .int att])), (cf, .inl (cI, 200, .inl (xs_G g_cf))), (cl, .inl (cB, 16, .inl f_cl))]) := by
  refine xG.of b_X_owner 2 (some .int) (by decide +kernel) rfl (Nat.le_of_ble_eq_true rfl) ?_
  intro p e s m below meth c A ls hAe C0 hP hD hS hl
  obtain ⟨hx, hb, hr, hml, hown, hlocks, hts, hnm, hN, hK, hA⟩ := C0
  have hU : ∀ w ∈ xU, w.before #[.ref hx0, .int (nI i9)] s = true := fun w h => hts w (List.mem_cons_of_mem _ h)
  have hl : lv_has ls 2 [(0, .ref hx0), (1, .int (nI i9))] := hl
  refine lv_aload_n hx hb d_X_owner_0 rfl (lv_at hl 0 rfl) ?_
  refine va_get (D := D) (a := hx0) (fs := [.ref h0, .ref sn, .ref sp, .ref sc]) (ci := 0) (v := .ref sn) (C := R_X) (T := T_X) (N := 4) hx hb hU iw_X hown hK hP 0 rfl rfl 1 (by decide) (hU _ uw_308) (fun _ h9 => h9) rfl d_X_owner_1 ?_
  refine lv_iload_n hx hb d_X_owner_4 rfl (lv_at hl 1 rfl) ?_
  refine xw_callR (C := R_NET) [.int (nI i9)] (n_NET_has l D cI cB cL cR sn nb nt st (.int (nI mv)) (nI i9) (by omega)) ⟨hx, hb, hml, hown, hU⟩ (cwV 1 hU (xs_goodV uw_439 uw_440 uw_441 uw_4 uw_442) rfl rfl rfl (by decide +kernel) ⟨Nat.le_of_ble_eq_true rfl, Nat.le_of_ble_eq_true rfl⟩) 1 rfl rfl rfl rfl hl.1 rfl (Nat.le_of_ble_eq_true rfl) d_X_owner_5 ⟨Nat.le_of_ble_eq_true rfl, Nat.le_of_ble_eq_true rfl⟩ [1] rfl (by decide +kernel) hN hK hP hD hS hA (fun u H locs hf hP hS => ?_)
  obtain ⟨v_1, rfl⟩ : ∃ z, z = u := ⟨_, rfl⟩
  have hf_5 : ((v_1 = 0 ∧ ((nI i9) < 0 ∨ nI st ≤ (nI i9))) ∨ ∃ j, v_1 = 1 ∧ j < st ∧ (nI i9) = nI j) := hf
  have hv_2 := hf_5
  replace hP : va_P D vwCl [(hx0, .inr (0, [.ref h0, .ref sn, .ref sp, .ref sc])), (sn, .inr (1, [.int (nI st), .int (nI mv), .ref nb, .ref nt])), (sc, .inr (4, [.int (nI wk), .ref cf, .ref cl, .ref ct, .ref ck, .ref cs, .int lw, .int att])), (cf, .inl (cI, 200, .inl (xs_G g_cf))), (cl, .inl (cB, 16, .inl f_cl))] H := hP
  replace hD : va_D A [(hx0, .inr (0, [.ref h0, .ref sn, .ref sp, .ref sc])), (sn, .inr (1, [.int (nI st), .int (nI mv), .ref nb, .ref nt])), (sc, .inr (4, [.int (nI wk), .ref cf, .ref cl, .ref ct, .ref ck, .ref cs, .int lw, .int att])), (cf, .inl (cI, 200, .inl (xs_G g_cf))), (cl, .inl (cB, 16, .inl f_cl))] := hD
  refine W.widen (k := 0) (n := 0) (Nat.le_of_ble_eq_true rfl) (Nat.le_of_ble_eq_true rfl) ?_
  refine W.eq (g2 := F0 m 8 ls [.int v_1]) rfl ?_
  rcases hv_2 with ⟨rfl, hg⟩ | ⟨j8, rfl, hj8, ej8⟩
  · exact (xs_in hg rfl (by omega) (by omega)).elim
  · refine lv_if_ne (tgt := 21) hx hb d_X_owner_8 (by decide) (fun c_8 => ?_) (fun c_8 => ?_)
    · refine lv_aload_n hx hb d_X_owner_21 rfl (lv_at hl 0 rfl) ?_
      refine va_get (D := D) (a := hx0) (fs := [.ref h0, .ref sn, .ref sp, .ref sc]) (ci := 0) (v := .ref sc) (C := R_X) (T := T_X) (N := 4) hx hb hU iw_X hown hK hP 0 rfl rfl 3 (by decide) (hU _ uw_310) (fun _ h9 => h9) rfl d_X_owner_22 ?_
      refine lv_iload_n hx hb d_X_owner_25 rfl (lv_at hl 1 rfl) ?_
      refine xw_callV (C := R_CR) (wr := [(hx0, .inr (0, [.ref h0, .ref sn, .ref sp, .ref sc])), (sn, .inr (1, [.int (nI st), .int (nI mv), .ref nb, .ref nt]))]) [.int (nI i9)] (n_CR_ownerOf l D cI cB cL cR sc wk cf cl ct ck cs (.int lw) (.int att) f_cl i9 g_cf (by omega) (by omega) (by omega) (hg_cf)) ⟨hx, hb, hml, hown, hU⟩ (cwV 1 hU (xs_goodV uw_654 uw_562 uw_563 uw_11 uw_564) rfl rfl rfl (by decide +kernel) ⟨Nat.le_of_ble_eq_true rfl, Nat.le_of_ble_eq_true rfl⟩) 2 rfl rfl rfl rfl hl.1 rfl (Nat.le_of_ble_eq_true rfl) d_X_owner_26 ⟨Nat.le_of_ble_eq_true rfl, Nat.le_of_ble_eq_true rfl⟩ [2, 3, 4] [0, 1] rfl rfl (by decide +kernel) (by decide +kernel) (by decide +kernel) hN hK hP hD hS hA (fun u H locs hf hP hD hS => ?_)
      obtain ⟨v_3, rfl⟩ : ∃ z, z = u := ⟨_, rfl⟩
      have hf_26 : (v_3 < wk) := hf
      have hv_4 := hf_26
      replace hP : va_P D vwCl [(hx0, .inr (0, [.ref h0, .ref sn, .ref sp, .ref sc])), (sn, .inr (1, [.int (nI st), .int (nI mv), .ref nb, .ref nt])), (sc, .inr (4, [.int (nI wk), .ref cf, .ref cl, .ref ct, .ref ck, .ref cs, .int lw, .int att])), (cf, .inl (cI, 200, .inl (xs_G g_cf))), (cl, .inl (cB, 16, .inl f_cl))] H := hP
      replace hD : va_D A [(hx0, .inr (0, [.ref h0, .ref sn, .ref sp, .ref sc])), (sn, .inr (1, [.int (nI st), .int (nI mv), .ref nb, .ref nt])), (sc, .inr (4, [.int (nI wk), .ref cf, .ref cl, .ref ct, .ref ck, .ref cs, .int lw, .int att])), (cf, .inl (cI, 200, .inl (xs_G g_cf))), (cl, .inl (cB, 16, .inl f_cl))] := hD
      refine W.widen (k := 0) (n := 0) (Nat.le_of_ble_eq_true rfl) (Nat.le_of_ble_eq_true rfl) ?_
      refine W.eq (g2 := F0 m 29 ls [.int (nI v_3)]) rfl ?_
      have hP9 := xs_P_sub (w := [(hx0, .inr (0, [.ref h0, .ref sn, .ref sp, .ref sc])), (sn, .inr (1, [.int (nI st), .int (nI mv), .ref nb, .ref nt])), (sc, .inr (4, [.int (nI wk), .ref cf, .ref cl, .ref ct, .ref ck, .ref cs, .int lw, .int att])), (cf, .inl (cI, 200, .inl (xs_G g_cf))), (cl, .inl (cB, 16, .inl f_cl))]) hP [0, 1, 2, 3, 4] rfl
      have hD9 := hD.sub (ws' := [(hx0, .inr (0, [.ref h0, .ref sn, .ref sp, .ref sc])), (sn, .inr (1, [.int (nI st), .int (nI mv), .ref nb, .ref nt])), (sc, .inr (4, [.int (nI wk), .ref cf, .ref cl, .ref ct, .ref ck, .ref cs, .int lw, .int att])), (cf, .inl (cI, 200, .inl (xs_G g_cf))), (cl, .inl (cB, 16, .inl f_cl))]) [0, 1, 2, 3, 4] (by decide +kernel) rfl
      exact xw_iret (nI v_3) hx hb hr hlocks d_X_owner_29 (rfl) (trivial) hAe hP9 hD9 hS (Nat.le_of_ble_eq_true rfl) (Nat.le_of_ble_eq_true rfl)
    · exact absurd c_8 (by decide +kernel)
set_option maxHeartbeats 4000000 in
set_option maxRecDepth 100000 in
/-- times -/
theorem n_X_times (l : Launch) (D : va_G) (cI cB cL cR : ClassId) (hx0 : Nat) (h0 : Nat) (sn : Nat) (sp : Nat) (sc : Nat) (st : Nat) (mv : Nat) (nb : Nat) (nt : Nat) (sq : Nat) (sl : Nat) (sv : Nat) (sg : Nat) (sw : Nat) (sk : Nat) (sb : Nat) (x : Nat) (f_sk : Nat → Int32) (i9 : Nat) (hst : st ≤ 200) (hmv : mv ≤ 600) (hx9 : x < 2147483648) (hi9 : i9 < st) : xG (σ := Int32) l y_X_times w_X_times ({ frames := 1, cells := 0, slots := 0, locals := 21  } : Room) D vwCl (xs_tys cI cB cL cR) [.ref hx0, .int (nI i9)] [(hx0, .inr (0, [.ref h0, .ref sn, .ref sp, .ref sc])), (sn, .inr (1, [.int (nI st), .int (nI mv), .ref nb, .ref nt])), (h0, .inr (9, [.ref sn, .ref sp, .ref sc, .ref sq, .ref sl, .ref sv, .ref sg, .ref sw, .ref sk, .ref sb, .int (nI x)])), (sk, .inl (cI, 200, .inl f_sk))] (fun v => True) (fun v => some (.int v)) (fun v => [(hx0, .inr (0, [.ref h0, .ref sn, .ref sp, .ref sc])), (sn, .inr (1, [.int (nI st), .int (nI mv), .ref nb, .ref nt])), (h0, .inr (9, [.ref sn, .ref sp, .ref sc, .ref sq, .ref sl, .ref sv, .ref sg, .ref sw, .ref sk, .ref sb, .int (nI x)])), (sk, .inl (cI, 200, .inl f_sk))]) := by
  refine xG.of b_X_times 2 (some .int) (by decide +kernel) rfl (Nat.le_of_ble_eq_true rfl) ?_
  intro p e s m below meth c A ls hAe C0 hP hD hS hl
  obtain ⟨hx, hb, hr, hml, hown, hlocks, hts, hnm, hN, hK, hA⟩ := C0
  have hU : ∀ w ∈ xU, w.before #[.ref hx0, .int (nI i9)] s = true := fun w h => hts w (List.mem_cons_of_mem _ h)
  have hl : lv_has ls 2 [(0, .ref hx0), (1, .int (nI i9))] := hl
  refine lv_aload_n hx hb d_X_times_0 rfl (lv_at hl 0 rfl) ?_
  refine va_get (D := D) (a := hx0) (fs := [.ref h0, .ref sn, .ref sp, .ref sc]) (ci := 0) (v := .ref sn) (C := R_X) (T := T_X) (N := 4) hx hb hU iw_X hown hK hP 0 rfl rfl 1 (by decide) (hU _ uw_308) (fun _ h9 => h9) rfl d_X_times_1 ?_
  refine lv_iload_n hx hb d_X_times_4 rfl (lv_at hl 1 rfl) ?_
  refine xw_callR (C := R_NET) [.int (nI i9)] (n_NET_has l D cI cB cL cR sn nb nt st (.int (nI mv)) (nI i9) (by omega)) ⟨hx, hb, hml, hown, hU⟩ (cwV 1 hU (xs_goodV uw_439 uw_440 uw_441 uw_4 uw_442) rfl rfl rfl (by decide +kernel) ⟨Nat.le_of_ble_eq_true rfl, Nat.le_of_ble_eq_true rfl⟩) 1 rfl rfl rfl rfl hl.1 rfl (Nat.le_of_ble_eq_true rfl) d_X_times_5 ⟨Nat.le_of_ble_eq_true rfl, Nat.le_of_ble_eq_true rfl⟩ [1] rfl (by decide +kernel) hN hK hP hD hS hA (fun u H locs hf hP hS => ?_)
  obtain ⟨v_1, rfl⟩ : ∃ z, z = u := ⟨_, rfl⟩
  have hf_5 : ((v_1 = 0 ∧ ((nI i9) < 0 ∨ nI st ≤ (nI i9))) ∨ ∃ j, v_1 = 1 ∧ j < st ∧ (nI i9) = nI j) := hf
  have hv_2 := hf_5
  replace hP : va_P D vwCl [(hx0, .inr (0, [.ref h0, .ref sn, .ref sp, .ref sc])), (sn, .inr (1, [.int (nI st), .int (nI mv), .ref nb, .ref nt])), (h0, .inr (9, [.ref sn, .ref sp, .ref sc, .ref sq, .ref sl, .ref sv, .ref sg, .ref sw, .ref sk, .ref sb, .int (nI x)])), (sk, .inl (cI, 200, .inl f_sk))] H := hP
  replace hD : va_D A [(hx0, .inr (0, [.ref h0, .ref sn, .ref sp, .ref sc])), (sn, .inr (1, [.int (nI st), .int (nI mv), .ref nb, .ref nt])), (h0, .inr (9, [.ref sn, .ref sp, .ref sc, .ref sq, .ref sl, .ref sv, .ref sg, .ref sw, .ref sk, .ref sb, .int (nI x)])), (sk, .inl (cI, 200, .inl f_sk))] := hD
  refine W.widen (k := 0) (n := 0) (Nat.le_of_ble_eq_true rfl) (Nat.le_of_ble_eq_true rfl) ?_
  refine W.eq (g2 := F0 m 8 ls [.int v_1]) rfl ?_
  rcases hv_2 with ⟨rfl, hg⟩ | ⟨j8, rfl, hj8, ej8⟩
  · exact (xs_in hg rfl (by omega) (by omega)).elim
  · refine lv_if_ne (tgt := 21) hx hb d_X_times_8 (by decide) (fun c_8 => ?_) (fun c_8 => ?_)
    · refine lv_aload_n hx hb d_X_times_21 rfl (lv_at hl 0 rfl) ?_
      refine va_get (D := D) (a := hx0) (fs := [.ref h0, .ref sn, .ref sp, .ref sc]) (ci := 0) (v := .ref h0) (C := R_X) (T := T_X) (N := 4) hx hb hU iw_X hown hK hP 0 rfl rfl 0 (by decide) (hU _ uw_307) (fun _ h9 => h9) rfl d_X_times_22 ?_
      refine va_getN (D := D) (a := h0) (fs := [.ref sn, .ref sp, .ref sc, .ref sq, .ref sl, .ref sv, .ref sg, .ref sw, .ref sk, .ref sb, .int (nI x)]) (ci := 9) (v := .ref sk) (C := R_SE) (T := T_SE) (N := 11) hx hb hU iw_SE hown hK hP 2 rfl rfl 8 (by decide) (va_Nw.use rfl (hN _ nw_281)) (fun _ h9 => h9) rfl d_X_times_25 ?_
      refine lv_iload_n hx hb d_X_times_28 rfl (lv_at hl 1 rfl) ?_
      refine xw_ild hx hb hK hP 3 0 rfl rfl (by omega) (by decide) d_X_times_29 ?_
      have hP9 := xs_P_sub (w := [(hx0, .inr (0, [.ref h0, .ref sn, .ref sp, .ref sc])), (sn, .inr (1, [.int (nI st), .int (nI mv), .ref nb, .ref nt])), (h0, .inr (9, [.ref sn, .ref sp, .ref sc, .ref sq, .ref sl, .ref sv, .ref sg, .ref sw, .ref sk, .ref sb, .int (nI x)])), (sk, .inl (cI, 200, .inl f_sk))]) hP [0, 1, 2, 3] rfl
      have hD9 := hD.sub (ws' := [(hx0, .inr (0, [.ref h0, .ref sn, .ref sp, .ref sc])), (sn, .inr (1, [.int (nI st), .int (nI mv), .ref nb, .ref nt])), (h0, .inr (9, [.ref sn, .ref sp, .ref sc, .ref sq, .ref sl, .ref sv, .ref sg, .ref sw, .ref sk, .ref sb, .int (nI x)])), (sk, .inl (cI, 200, .inl f_sk))]) [0, 1, 2, 3] (by decide +kernel) rfl
      exact xw_iret (f_sk i9) hx hb hr hlocks d_X_times_30 (rfl) (trivial) hAe hP9 hD9 hS (Nat.le_of_ble_eq_true rfl) (Nat.le_of_ble_eq_true rfl)
    · exact absurd c_8 (by decide +kernel)
set_option maxHeartbeats 4000000 in
set_option maxRecDepth 100000 in
/-- way -/
theorem n_X_way (l : Launch) (D : va_G) (cI cB cL cR : ClassId) (hx0 : Nat) (h0 : Nat) (sn : Nat) (sp : Nat) (sc : Nat) (st : Nat) (mv : Nat) (nb : Nat) (nt : Nat) (g_nb : Nat → Nat) (g_nt : Nat → Nat) (sq : Nat) (sl : Nat) (sv : Nat) (sg : Nat) (sw : Nat) (sk : Nat) (sb : Nat) (x : Nat) (wl : Nat) (f_wl : Nat → Int32) (lo : Nat) (lr : Nat) (lb : Nat) (lv : Nat) (lf : Nat) (f_lo : Nat → Int32) (g_lr : Nat → Nat) (g_lb : Nat → Nat) (i9 : Nat) (k : Nat) (kg : Nat) (hst : st ≤ 200) (hmv : mv ≤ 600) (hx9 : x < 2147483648) (hlv : lv ≤ 200) (hi9 : i9 < st) (hlk : f_lo i9 = nI kg) (hkg : kg ≤ 200) (hk : k ≤ kg) (hg_nb : ∀ j, g_nb j < mv + 1) (hg_nt : ∀ j, g_nt j < 200) (hg_lr : ∀ j, g_lr j < 200) (hg_lb : ∀ j, g_lb j < 201) : xG (σ := Int32 × (Nat → Int32)) l y_X_way w_X_way ({ frames := 3, cells := 0, slots := 0, locals := 78  } : Room) D vwCl (xs_tys cI cB cL cR) [.ref hx0, .int (nI i9), .int (nI k)] [(hx0, .inr (0, [.ref h0, .ref sn, .ref sp, .ref sc])), (sn, .inr (1, [.int (nI st), .int (nI mv), .ref nb, .ref nt])), (nb, .inl (cI, 201, .inl (xs_G g_nb))), (nt, .inl (cI, 600, .inl (xs_G g_nt))), (h0, .inr (9, [.ref sn, .ref sp, .ref sc, .ref sq, .ref sl, .ref sv, .ref sg, .ref sw, .ref sk, .ref sb, .int (nI x)])), (sw, .inr (8, [.ref wl])), (wl, .inl (cB, 200, .inl f_wl)), (sv, .inr (7, [.ref lo, .ref lr, .ref lb, .int (nI lv), .ref lf])), (lo, .inl (cI, 200, .inl f_lo)), (lr, .inl (cI, 200, .inl (xs_G g_lr))), (lb, .inl (cI, 201, .inl (xs_G g_lb)))] (fun (v, f_wl1) => True) (fun (v, f_wl1) => some (.int v)) (fun (v, f_wl1) => [(hx0, .inr (0, [.ref h0, .ref sn, .ref sp, .ref sc])), (sn, .inr (1, [.int (nI st), .int (nI mv), .ref nb, .ref nt])), (nb, .inl (cI, 201, .inl (xs_G g_nb))), (nt, .inl (cI, 600, .inl (xs_G g_nt))), (h0, .inr (9, [.ref sn, .ref sp, .ref sc, .ref sq, .ref sl, .ref sv, .ref sg, .ref sw, .ref sk, .ref sb, .int (nI x)])), (sw, .inr (8, [.ref wl])), (wl, .inl (cB, 200, .inl f_wl1)), (sv, .inr (7, [.ref lo, .ref lr, .ref lb, .int (nI lv), .ref lf])), (lo, .inl (cI, 200, .inl f_lo)), (lr, .inl (cI, 200, .inl (xs_G g_lr))), (lb, .inl (cI, 201, .inl (xs_G g_lb)))]) := by
  refine xG.of b_X_way 3 (some .int) (by decide +kernel) rfl (Nat.le_of_ble_eq_true rfl) ?_
  intro p e s m below meth c A ls hAe C0 hP hD hS hl
  obtain ⟨hx, hb, hr, hml, hown, hlocks, hts, hnm, hN, hK, hA⟩ := C0
  have hU : ∀ w ∈ xU, w.before #[.ref hx0, .int (nI i9), .int (nI k)] s = true := fun w h => hts w (List.mem_cons_of_mem _ h)
  have hl : lv_has ls 3 [(0, .ref hx0), (1, .int (nI i9)), (2, .int (nI k))] := hl
  refine lv_aload_n hx hb d_X_way_0 rfl (lv_at hl 0 rfl) ?_
  refine va_get (D := D) (a := hx0) (fs := [.ref h0, .ref sn, .ref sp, .ref sc]) (ci := 0) (v := .ref sn) (C := R_X) (T := T_X) (N := 4) hx hb hU iw_X hown hK hP 0 rfl rfl 1 (by decide) (hU _ uw_308) (fun _ h9 => h9) rfl d_X_way_1 ?_
  refine lv_iload_n hx hb d_X_way_4 rfl (lv_at hl 1 rfl) ?_
  refine xw_callR (C := R_NET) [.int (nI i9)] (n_NET_has l D cI cB cL cR sn nb nt st (.int (nI mv)) (nI i9) (by omega)) ⟨hx, hb, hml, hown, hU⟩ (cwV 1 hU (xs_goodV uw_439 uw_440 uw_441 uw_4 uw_442) rfl rfl rfl (by decide +kernel) ⟨Nat.le_of_ble_eq_true rfl, Nat.le_of_ble_eq_true rfl⟩) 1 rfl rfl rfl rfl hl.1 rfl (Nat.le_of_ble_eq_true rfl) d_X_way_5 ⟨Nat.le_of_ble_eq_true rfl, Nat.le_of_ble_eq_true rfl⟩ [1] rfl (by decide +kernel) hN hK hP hD hS hA (fun u H locs hf hP hS => ?_)
  obtain ⟨v_1, rfl⟩ : ∃ z, z = u := ⟨_, rfl⟩
  have hf_5 : ((v_1 = 0 ∧ ((nI i9) < 0 ∨ nI st ≤ (nI i9))) ∨ ∃ j, v_1 = 1 ∧ j < st ∧ (nI i9) = nI j) := hf
  have hv_2 := hf_5
  replace hP : va_P D vwCl [(hx0, .inr (0, [.ref h0, .ref sn, .ref sp, .ref sc])), (sn, .inr (1, [.int (nI st), .int (nI mv), .ref nb, .ref nt])), (nb, .inl (cI, 201, .inl (xs_G g_nb))), (nt, .inl (cI, 600, .inl (xs_G g_nt))), (h0, .inr (9, [.ref sn, .ref sp, .ref sc, .ref sq, .ref sl, .ref sv, .ref sg, .ref sw, .ref sk, .ref sb, .int (nI x)])), (sw, .inr (8, [.ref wl])), (wl, .inl (cB, 200, .inl f_wl)), (sv, .inr (7, [.ref lo, .ref lr, .ref lb, .int (nI lv), .ref lf])), (lo, .inl (cI, 200, .inl f_lo)), (lr, .inl (cI, 200, .inl (xs_G g_lr))), (lb, .inl (cI, 201, .inl (xs_G g_lb)))] H := hP
  replace hD : va_D A [(hx0, .inr (0, [.ref h0, .ref sn, .ref sp, .ref sc])), (sn, .inr (1, [.int (nI st), .int (nI mv), .ref nb, .ref nt])), (nb, .inl (cI, 201, .inl (xs_G g_nb))), (nt, .inl (cI, 600, .inl (xs_G g_nt))), (h0, .inr (9, [.ref sn, .ref sp, .ref sc, .ref sq, .ref sl, .ref sv, .ref sg, .ref sw, .ref sk, .ref sb, .int (nI x)])), (sw, .inr (8, [.ref wl])), (wl, .inl (cB, 200, .inl f_wl)), (sv, .inr (7, [.ref lo, .ref lr, .ref lb, .int (nI lv), .ref lf])), (lo, .inl (cI, 200, .inl f_lo)), (lr, .inl (cI, 200, .inl (xs_G g_lr))), (lb, .inl (cI, 201, .inl (xs_G g_lb)))] := hD
  refine W.widen (k := 0) (n := 0) (Nat.le_of_ble_eq_true rfl) (Nat.le_of_ble_eq_true rfl) ?_
  refine W.eq (g2 := F0 m 8 ls [.int v_1]) rfl ?_
  rcases hv_2 with ⟨rfl, hg⟩ | ⟨j8, rfl, hj8, ej8⟩
  · exact (xs_in hg rfl (by omega) (by omega)).elim
  · refine lv_if_eq (tgt := 31) hx hb d_X_way_8 (by decide) (fun c_8 => ?_) (fun c_8 => ?_)
    · exact absurd c_8 (by decide +kernel)
    · refine lv_iload_n hx hb d_X_way_11 rfl (lv_at hl 2 rfl) ?_
      refine xw_if_lt (tgt := 31) hx hb d_X_way_12 (by decide) (by omega) ?_
      refine lv_iload_n hx hb d_X_way_15 rfl (lv_at hl 2 rfl) ?_
      refine lv_aload_n hx hb d_X_way_16 rfl (lv_at hl 0 rfl) ?_
      refine va_get (D := D) (a := hx0) (fs := [.ref h0, .ref sn, .ref sp, .ref sc]) (ci := 0) (v := .ref h0) (C := R_X) (T := T_X) (N := 4) hx hb hU iw_X hown hK hP 0 rfl rfl 0 (by decide) (hU _ uw_307) (fun _ h9 => h9) rfl d_X_way_17 ?_
      refine va_getN (D := D) (a := h0) (fs := [.ref sn, .ref sp, .ref sc, .ref sq, .ref sl, .ref sv, .ref sg, .ref sw, .ref sk, .ref sb, .int (nI x)]) (ci := 9) (v := .ref sv) (C := R_SE) (T := T_SE) (N := 11) hx hb hU iw_SE hown hK hP 4 rfl rfl 5 (by decide) (va_Nw.use rfl (hN _ nw_275)) (fun _ h9 => h9) rfl d_X_way_20 ?_
      refine va_getN (D := D) (a := sv) (fs := [.ref lo, .ref lr, .ref lb, .int (nI lv), .ref lf]) (ci := 7) (v := .ref lo) (C := R_LE) (T := T_LE) (N := 5) hx hb hU iw_LE hown hK hP 7 rfl rfl 0 (by decide) (va_Nw.use rfl (hN _ nw_127)) (fun _ h9 => h9) rfl d_X_way_23 ?_
      refine lv_iload_n hx hb d_X_way_26 rfl (lv_at hl 1 rfl) ?_
      refine xw_ild hx hb hK hP 8 0 rfl rfl (by omega) (by decide) d_X_way_27 ?_
      refine xw_top (nI kg) (hlk) ?_
      refine xw_icmp_le (tgt := 41) hx hb d_X_way_28 (by decide) (by omega) (by omega) (fun c_28 => ?_) (fun c_28 => ?_)
      · refine lv_aload_n hx hb d_X_way_41 rfl (lv_at hl 0 rfl) ?_
        refine va_get (D := D) (a := hx0) (fs := [.ref h0, .ref sn, .ref sp, .ref sc]) (ci := 0) (v := .ref h0) (C := R_X) (T := T_X) (N := 4) hx hb hU iw_X hown hK hP 0 rfl rfl 0 (by decide) (hU _ uw_307) (fun _ h9 => h9) rfl d_X_way_42 ?_
        refine va_getN (D := D) (a := h0) (fs := [.ref sn, .ref sp, .ref sc, .ref sq, .ref sl, .ref sv, .ref sg, .ref sw, .ref sk, .ref sb, .int (nI x)]) (ci := 9) (v := .ref sw) (C := R_SE) (T := T_SE) (N := 11) hx hb hU iw_SE hown hK hP 4 rfl rfl 7 (by decide) (va_Nw.use rfl (hN _ nw_279)) (fun _ h9 => h9) rfl d_X_way_45 ?_
        refine lv_aload_n hx hb d_X_way_48 rfl (lv_at hl 0 rfl) ?_
        refine va_get (D := D) (a := hx0) (fs := [.ref h0, .ref sn, .ref sp, .ref sc]) (ci := 0) (v := .ref sn) (C := R_X) (T := T_X) (N := 4) hx hb hU iw_X hown hK hP 0 rfl rfl 1 (by decide) (hU _ uw_308) (fun _ h9 => h9) rfl d_X_way_49 ?_
        refine lv_aload_n hx hb d_X_way_52 rfl (lv_at hl 0 rfl) ?_
        refine va_get (D := D) (a := hx0) (fs := [.ref h0, .ref sn, .ref sp, .ref sc]) (ci := 0) (v := .ref h0) (C := R_X) (T := T_X) (N := 4) hx hb hU iw_X hown hK hP 0 rfl rfl 0 (by decide) (hU _ uw_307) (fun _ h9 => h9) rfl d_X_way_53 ?_
        refine va_getN (D := D) (a := h0) (fs := [.ref sn, .ref sp, .ref sc, .ref sq, .ref sl, .ref sv, .ref sg, .ref sw, .ref sk, .ref sb, .int (nI x)]) (ci := 9) (v := .ref sv) (C := R_SE) (T := T_SE) (N := 11) hx hb hU iw_SE hown hK hP 4 rfl rfl 5 (by decide) (va_Nw.use rfl (hN _ nw_275)) (fun _ h9 => h9) rfl d_X_way_56 ?_
        refine lv_iload_n hx hb d_X_way_59 rfl (lv_at hl 1 rfl) ?_
        refine lv_iload_n hx hb d_X_way_60 rfl (lv_at hl 2 rfl) ?_
        refine xw_callV (C := R_WA) (wr := [(hx0, .inr (0, [.ref h0, .ref sn, .ref sp, .ref sc])), (h0, .inr (9, [.ref sn, .ref sp, .ref sc, .ref sq, .ref sl, .ref sv, .ref sg, .ref sw, .ref sk, .ref sb, .int (nI x)]))]) [.ref sn, .ref sv, .int (nI i9), .int (nI k)] (n_WA_stateAt l D cI cB cL cR sw wl f_wl sn st mv nb nt g_nb g_nt sv lo lr lb lv lf f_lo g_lr g_lb i9 kg k (by omega) (by omega) (by omega) (by omega) (hlk) (by omega) (by omega) (hg_nb) (hg_nt) (hg_lr) (hg_lb)) ⟨hx, hb, hml, hown, hU⟩ (cwV 4 hU (xs_goodV uw_670 uw_671 uw_672 uw_10 uw_673) rfl rfl rfl (by decide +kernel) ⟨Nat.le_of_ble_eq_true rfl, Nat.le_of_ble_eq_true rfl⟩) 5 rfl rfl rfl rfl hl.1 rfl (Nat.le_of_ble_eq_true rfl) d_X_way_61 ⟨Nat.le_of_ble_eq_true rfl, Nat.le_of_ble_eq_true rfl⟩ [5, 6, 1, 2, 3, 7, 8, 9, 10] [0, 4] rfl rfl (by decide +kernel) (by decide +kernel) (by decide +kernel) hN hK hP hD hS hA (fun u H locs hf hP hD hS => ?_)
        obtain ⟨v_3, f_wl1_4⟩ := u
        replace hP : va_P D vwCl [(hx0, .inr (0, [.ref h0, .ref sn, .ref sp, .ref sc])), (h0, .inr (9, [.ref sn, .ref sp, .ref sc, .ref sq, .ref sl, .ref sv, .ref sg, .ref sw, .ref sk, .ref sb, .int (nI x)])), (sw, .inr (8, [.ref wl])), (wl, .inl (cB, 200, .inl f_wl1_4)), (sn, .inr (1, [.int (nI st), .int (nI mv), .ref nb, .ref nt])), (nb, .inl (cI, 201, .inl (xs_G g_nb))), (nt, .inl (cI, 600, .inl (xs_G g_nt))), (sv, .inr (7, [.ref lo, .ref lr, .ref lb, .int (nI lv), .ref lf])), (lo, .inl (cI, 200, .inl f_lo)), (lr, .inl (cI, 200, .inl (xs_G g_lr))), (lb, .inl (cI, 201, .inl (xs_G g_lb)))] H := hP
        replace hD : va_D A [(hx0, .inr (0, [.ref h0, .ref sn, .ref sp, .ref sc])), (h0, .inr (9, [.ref sn, .ref sp, .ref sc, .ref sq, .ref sl, .ref sv, .ref sg, .ref sw, .ref sk, .ref sb, .int (nI x)])), (sw, .inr (8, [.ref wl])), (wl, .inl (cB, 200, .inl f_wl1_4)), (sn, .inr (1, [.int (nI st), .int (nI mv), .ref nb, .ref nt])), (nb, .inl (cI, 201, .inl (xs_G g_nb))), (nt, .inl (cI, 600, .inl (xs_G g_nt))), (sv, .inr (7, [.ref lo, .ref lr, .ref lb, .int (nI lv), .ref lf])), (lo, .inl (cI, 200, .inl f_lo)), (lr, .inl (cI, 200, .inl (xs_G g_lr))), (lb, .inl (cI, 201, .inl (xs_G g_lb)))] := hD
        refine W.widen (k := 0) (n := 0) (Nat.le_of_ble_eq_true rfl) (Nat.le_of_ble_eq_true rfl) ?_
        refine W.eq (g2 := F0 m 64 ls [.int v_3]) rfl ?_
        have hP9 := xs_P_sub (w := [(hx0, .inr (0, [.ref h0, .ref sn, .ref sp, .ref sc])), (sn, .inr (1, [.int (nI st), .int (nI mv), .ref nb, .ref nt])), (nb, .inl (cI, 201, .inl (xs_G g_nb))), (nt, .inl (cI, 600, .inl (xs_G g_nt))), (h0, .inr (9, [.ref sn, .ref sp, .ref sc, .ref sq, .ref sl, .ref sv, .ref sg, .ref sw, .ref sk, .ref sb, .int (nI x)])), (sw, .inr (8, [.ref wl])), (wl, .inl (cB, 200, .inl f_wl1_4)), (sv, .inr (7, [.ref lo, .ref lr, .ref lb, .int (nI lv), .ref lf])), (lo, .inl (cI, 200, .inl f_lo)), (lr, .inl (cI, 200, .inl (xs_G g_lr))), (lb, .inl (cI, 201, .inl (xs_G g_lb)))]) hP [0, 4, 5, 6, 1, 2, 3, 7, 8, 9, 10] rfl
        have hD9 := hD.sub (ws' := [(hx0, .inr (0, [.ref h0, .ref sn, .ref sp, .ref sc])), (sn, .inr (1, [.int (nI st), .int (nI mv), .ref nb, .ref nt])), (nb, .inl (cI, 201, .inl (xs_G g_nb))), (nt, .inl (cI, 600, .inl (xs_G g_nt))), (h0, .inr (9, [.ref sn, .ref sp, .ref sc, .ref sq, .ref sl, .ref sv, .ref sg, .ref sw, .ref sk, .ref sb, .int (nI x)])), (sw, .inr (8, [.ref wl])), (wl, .inl (cB, 200, .inl f_wl1_4)), (sv, .inr (7, [.ref lo, .ref lr, .ref lb, .int (nI lv), .ref lf])), (lo, .inl (cI, 200, .inl f_lo)), (lr, .inl (cI, 200, .inl (xs_G g_lr))), (lb, .inl (cI, 201, .inl (xs_G g_lb)))]) [0, 4, 5, 6, 1, 2, 3, 7, 8, 9, 10] (by decide +kernel) rfl
        exact xw_iret (v_3, f_wl1_4) hx hb hr hlocks d_X_way_64 (rfl) (trivial) hAe hP9 hD9 hS (Nat.le_of_ble_eq_true rfl) (Nat.le_of_ble_eq_true rfl)
      · exact (by omega : False).elim
