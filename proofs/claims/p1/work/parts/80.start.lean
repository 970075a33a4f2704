set_option maxHeartbeats 16000000 in
set_option maxRecDepth 100000 in
/-- THE LAW, from its entry -/
theorem whole_start {p : Program} {e : Env} {s : State} {m : MethodId} {below : List Frame} {meth : Method} {c : Code} (l : Launch) (htr : l.stackTraces = false) {b L : Nat} {xs : Nat → Int32} (hL : L ≤ 6) (C0 : lw_At p s m meth c b L xs) : W p l e room_1 s m #[Value.ref b] below meth c s.heap [] 0 0 (lw_Z below #[Value.ref b] s) (entryFrame m ([Value.ref b] : List Value).toArray 7) := by
  obtain ⟨hx, hb, hr, hml, hown, hts, hX, hbl, hlocks, hgv⟩ := id C0
  have hU : ∀ w ∈ xU, w.before #[Value.ref b] s = true := fun w h => hts w (List.mem_filter.mp h).1
  have hN : xs_N s := xs_N_of hts
  obtain ⟨A, hAe⟩ : ∃ A : Nat → Prop, A = fun q : Nat => s.heap.size ≤ q := ⟨_, rfl⟩
  have hA : ∀ q : Nat, s.heap.size ≤ q → A q := fun q h => by rw [hAe]; exact h
  have hAs : ∀ q : Nat, A q → s.heap.size ≤ q := fun q h => by rw [hAe] at h; exact h
  have hbA : ¬ A b := fun h => absurd (hAs b h) (Nat.not_le.mpr hbl)
  have hfl := flat_of_before _ hgv
  obtain ⟨c0, i0, hk0⟩ := u_known (C := R_X) (T := T_X) (N := 4) hU iw_X (hU _ uw_22)
  obtain ⟨c1, i1, hk1⟩ := u_known (C := R_NET) (T := T_NET) (N := 4) hU iw_NET (hU _ uw_39)
  obtain ⟨c2, i2, hk2⟩ := u_known (C := R_FP) (T := T_FP) (N := 4) hU iw_FP (hU _ uw_66)
  obtain ⟨c3, i3, hk3⟩ := u_known (C := R_FL) (T := T_FL) (N := 4) hU iw_FL (hU _ uw_151)
  obtain ⟨c4, i4, hk4⟩ := u_known (C := R_CR) (T := T_CR) (N := 8) hU iw_CR (hU _ uw_185)
  obtain ⟨c5, i5, hk5⟩ := u_known (C := R_QU) (T := T_QU) (N := 5) hU iw_QU (hU _ uw_240)
  obtain ⟨c6, i6, hk6⟩ := u_known (C := R_LI) (T := T_LI) (N := 6) hU iw_LI (hU _ uw_86)
  obtain ⟨c7, i7, hk7⟩ := u_known (C := R_LE) (T := T_LE) (N := 5) hU iw_LE (hU _ uw_117)
  obtain ⟨c8, i8, hk8⟩ := u_known (C := R_WA) (T := T_WA) (N := 1) hU iw_WA (hU _ uw_175)
  obtain ⟨c9, i9, hk9⟩ := u_known (C := R_SE) (T := T_SE) (N := 11) hU iw_SE (hU _ uw_30)
  obtain ⟨c10, i10, hk10⟩ := u_known (C := R_MO) (T := T_MO) (N := 36) hU iw_MO (hU _ uw_714)
  obtain ⟨cI, aI1, aI2⟩ := xs_arr (hU _ uw_64)
  obtain ⟨cB, aB1, aB2⟩ := xs_arr (hU _ uw_115)
  obtain ⟨cL, aL1, aL2⟩ := xs_arr (hU _ uw_965)
  obtain ⟨D, hK⟩ : ∃ D : va_G, va_K D vwCl (xs_tys cI cB cL) s := by
    refine ⟨(fun k => if k = 0 then c0 else if k = 1 then c1 else if k = 2 then c2 else if k = 3 then c3 else if k = 4 then c4 else if k = 5 then c5 else if k = 6 then c6 else if k = 7 then c7 else if k = 8 then c8 else if k = 9 then c9 else c10, fun k => if k = 0 then i0 else if k = 1 then i1 else if k = 2 then i2 else if k = 3 then i3 else if k = 4 then i4 else if k = 5 then i5 else if k = 6 then i6 else if k = 7 then i7 else if k = 8 then i8 else if k = 9 then i9 else i10), fun k q hq => ?_, fun k q hq => ?_⟩
    · match k, hq with
      | 0, hq => cases hq; exact hk0
      | 1, hq => cases hq; exact hk1
      | 2, hq => cases hq; exact hk2
      | 3, hq => cases hq; exact hk3
      | 4, hq => cases hq; exact hk4
      | 5, hq => cases hq; exact hk5
      | 6, hq => cases hq; exact hk6
      | 7, hq => cases hq; exact hk7
      | 8, hq => cases hq; exact hk8
      | 9, hq => cases hq; exact hk9
      | 10, hq => cases hq; exact hk10
      | k + 11, hq => simp [vwCl] at hq
    · match k, hq with
      | 0, hq => cases hq; exact ⟨aI1, aI2⟩
      | 1, hq => cases hq; exact ⟨aB1, aB2⟩
      | 2, hq => cases hq; exact ⟨aL1, aL2⟩
      | k + 3, hq => simp [xs_tys] at hq
  have hnA : ∀ a : Nat, a < s.heap.size → ¬ A a := fun a h z => absurd (hAs a z) (Nat.not_le.mpr h)
  have hZ : xz A s := by
    refine ⟨xst_of (args := #[Value.ref b]) (hfl _ (by decide +kernel)) (hts _ (List.mem_of_getElem? (i := 396) (by decide +kernel))) hnA, xst_of (args := #[Value.ref b]) (hfl _ (by decide +kernel)) (hts _ (List.mem_of_getElem? (i := 398) (by decide +kernel))) hnA, fun q hq => ?_, va_Nc.of (args := #[Value.ref b]) (hfl _ (by decide +kernel))⟩
    obtain ⟨-, -, -, a9, -, -, -, -, -, hev⟩ := Cond.stringRef_spec (show s.vm.findClass "ExploreShares" = some c0 from hk0.2.1) (hts _ (xs_strs_in q hq))
    exact ⟨a9, vk_R.of (hts _ (xs_strs_in q hq)) hev⟩
  have hS : va_S A s.heap s.heap [] := va_S.rf
  have hP : va_P D vwCl [] s.heap := fun k q h => by simp at h
  have hD : va_D A [] := ⟨fun i j p q h => by simp at h, fun k q h => by simp at h⟩
  have hl := lv_entry ([.ref b]) (n := 7) (Nat.le_of_ble_eq_true rfl)
  rw [lg_entry_eq]
  generalize (lg_sl ([.ref b]) ++ List.replicate (7 - (lg_sl ([.ref b])).length) Slot.unset).toArray = ls at hl ⊢
  have hl : lv_has ls 7 [(0, .ref b)] := hl
  obtain ⟨jw, hjw, ejw⟩ := pk_andE ((if 0 < L then xs 0 else 0) - nI 1) (m := nI 15) 4 (by decide +kernel)
  obtain ⟨jq, hjq, ejq⟩ := pk_andE ((if 1 < L then xs 1 else 0) - nI 1) (m := nI 7) 3 (by decide +kernel)
  refine va_new (ci := 0) (fs := [.null, .null, .null, .null]) (C := R_X) (T := T_X) (N := 4) hx hb hU iw_X ty_X ty_X_ok hown (hU _ uw_21) (hU _ uw_22) (hU _ uw_1) hK hP hD hS hA rfl (fun j hj => by rcases (show j = 0 ∨ j = 1 ∨ j = 2 ∨ j = 3 by omega) with rfl | rfl | rfl | rfl <;> rfl) (Nat.le_of_ble_eq_true rfl) (Nat.le_of_ble_eq_true rfl) d_LW_law_0 (fun q_1 H hP hD hS => ?_)
  have hP : va_P D vwCl [(q_1, .inr (0, [.null, .null, .null, .null]))] H := hP
  have hD : va_D A [(q_1, .inr (0, [.null, .null, .null, .null]))] := hD
  refine W.widen (k := 1) (n := 4) (Nat.le_of_ble_eq_true rfl) (Nat.le_of_ble_eq_true rfl) ?_
  refine lv_dup hx hb d_LW_law_3 rfl ?_
  refine lv_aload_n hx hb d_LW_law_4 rfl (lv_at hl 0 rfl) ?_
  refine lv_iconst (v := nI 0) hx hb d_LW_law_5 (by decide +kernel) ?_
  refine xw_cell 0 (by decide) (by omega) ⟨hx, hb, hml, hown, hU⟩ uw_328 uw_329 uw_0 uw_330 ⟨Nat.le_of_ble_eq_true rfl, Nat.le_of_ble_eq_true rfl⟩ hl.1 (Nat.le_of_ble_eq_true rfl) d_LW_law_6 ⟨Nat.le_of_ble_eq_true rfl, Nat.le_of_ble_eq_true rfl⟩ hX hbl hbA hS ?_
  refine lv_aload_n hx hb d_LW_law_9 rfl (lv_at hl 0 rfl) ?_
  refine lv_iconst (v := nI 1) hx hb d_LW_law_10 (by decide +kernel) ?_
  refine xw_cell 1 (by decide) (by omega) ⟨hx, hb, hml, hown, hU⟩ uw_328 uw_329 uw_0 uw_330 ⟨Nat.le_of_ble_eq_true rfl, Nat.le_of_ble_eq_true rfl⟩ hl.1 (Nat.le_of_ble_eq_true rfl) d_LW_law_11 ⟨Nat.le_of_ble_eq_true rfl, Nat.le_of_ble_eq_true rfl⟩ hX hbl hbA hS ?_
  refine xw_callI (wr := []) [.int (if 0 < L then xs 0 else 0), .int (if 1 < L then xs 1 else 0)] (c_X_init l D cI cB cL q_1 (if 0 < L then xs 0 else 0) (if 1 < L then xs 1 else 0) jw jq (ejw) (by omega) (ejq) (by omega)) ⟨hx, hb, hml, hown, hU⟩ (cwI 2 hU (xs_good uw_25) rfl rfl rfl (hU _ uw_1) (hU _ uw_23) (hU _ uw_24) rfl (by decide +kernel) ⟨Nat.le_of_ble_eq_true rfl, Nat.le_of_ble_eq_true rfl⟩) rfl hl.1 rfl (Nat.le_of_ble_eq_true rfl) d_LW_law_14 ⟨Nat.le_of_ble_eq_true rfl, Nat.le_of_ble_eq_true rfl⟩ [0] [] rfl rfl (by decide) (by decide) (by decide) hN hK hP hD hS hA (fun u H locs hf hP hD hS => ?_)
  obtain ⟨sx_2, sn_3, sp_4, sc_5, sq_6, sl_7, sv_8, sg_9, sw_10, sk_11, sb_12, nb_13, nt_14, p1_15, p2_16, p3_17, cf_18, cl_19, ct_20, ck_21, cs_22, qr_23, qf_24, qh_25, lo_26, lr_27, lb_28, lf_29, g1_30, g2_31, g3_32⟩ := u
  have hP : va_P D vwCl [(q_1, .inr (0, [.ref sx_2, .ref sn_3, .ref sp_4, .ref sc_5])), (sx_2, .inr (9, [.ref sn_3, .ref sp_4, .ref sc_5, .ref sq_6, .ref sl_7, .ref sv_8, .ref sg_9, .ref sw_10, .ref sk_11, .ref sb_12, .int (nI 0)])), (sn_3, .inr (1, [.int (nI 0), .int (nI 0), .ref nb_13, .ref nt_14])), (sp_4, .inr (2, [.ref p1_15, .ref p2_16, .ref p3_17, .int (nI 0)])), (p1_15, .inl (cI, 20, .inl (fun _ => 0))), (p2_16, .inl (cI, 20, .inl (fun _ => 0))), (p3_17, .inl (cI, 20, .inl (fun _ => 0))), (sc_5, .inr (4, [.int (nI (1 + jw)), .ref cf_18, .ref cl_19, .ref ct_20, .ref ck_21, .ref cs_22, .int (nI (1 + jw)), .int (nI 0)])), (cl_19, .inl (cB, 16, .inl (fun _ => nI 1))), (ct_20, .inl (cI, 16, .inl (fun _ => 0))), (ck_21, .inl (cI, 16, .inl (fun _ => 0))), (cs_22, .inl (cI, 16, .inl (fun _ => 0))), (sq_6, .inr (5, [.int (nI (1 + jq)), .ref qr_23, .ref qf_24, .ref qh_25, .int (nI 0)])), (sv_8, .inr (7, [.ref lo_26, .ref lr_27, .ref lb_28, .int (nI 0), .ref lf_29])), (lo_26, .inl (cI, 200, .inl (fun _ => (-1)))), (lb_28, .inl (cI, 201, .inl (fun _ => 0))), (lf_29, .inl (cB, 200, .inl (fun _ => 0))), (sg_9, .inr (3, [.ref g1_30, .ref g2_31, .ref g3_32, .int (nI 0)])), (sk_11, .inl (cI, 200, .inl (fun _ => 0)))] H := hP
  have hD : va_D A [(q_1, .inr (0, [.ref sx_2, .ref sn_3, .ref sp_4, .ref sc_5])), (sx_2, .inr (9, [.ref sn_3, .ref sp_4, .ref sc_5, .ref sq_6, .ref sl_7, .ref sv_8, .ref sg_9, .ref sw_10, .ref sk_11, .ref sb_12, .int (nI 0)])), (sn_3, .inr (1, [.int (nI 0), .int (nI 0), .ref nb_13, .ref nt_14])), (sp_4, .inr (2, [.ref p1_15, .ref p2_16, .ref p3_17, .int (nI 0)])), (p1_15, .inl (cI, 20, .inl (fun _ => 0))), (p2_16, .inl (cI, 20, .inl (fun _ => 0))), (p3_17, .inl (cI, 20, .inl (fun _ => 0))), (sc_5, .inr (4, [.int (nI (1 + jw)), .ref cf_18, .ref cl_19, .ref ct_20, .ref ck_21, .ref cs_22, .int (nI (1 + jw)), .int (nI 0)])), (cl_19, .inl (cB, 16, .inl (fun _ => nI 1))), (ct_20, .inl (cI, 16, .inl (fun _ => 0))), (ck_21, .inl (cI, 16, .inl (fun _ => 0))), (cs_22, .inl (cI, 16, .inl (fun _ => 0))), (sq_6, .inr (5, [.int (nI (1 + jq)), .ref qr_23, .ref qf_24, .ref qh_25, .int (nI 0)])), (sv_8, .inr (7, [.ref lo_26, .ref lr_27, .ref lb_28, .int (nI 0), .ref lf_29])), (lo_26, .inl (cI, 200, .inl (fun _ => (-1)))), (lb_28, .inl (cI, 201, .inl (fun _ => 0))), (lf_29, .inl (cB, 200, .inl (fun _ => 0))), (sg_9, .inr (3, [.ref g1_30, .ref g2_31, .ref g3_32, .int (nI 0)])), (sk_11, .inl (cI, 200, .inl (fun _ => 0)))] := hD
  refine W.widen (k := 71) (n := 5914) (Nat.le_of_ble_eq_true rfl) (Nat.le_of_ble_eq_true rfl) ?_
  refine W.eq (g2 := F0 m 17 ls [.ref q_1]) rfl ?_
  refine lv_astore_n (lv' := [(1, .ref q_1), (0, .ref b)]) hx hb d_LW_law_17 rfl hl (by decide) rfl (fun ls hl => ?_)
  refine va_new (ci := 10) (fs := [.int (nI 0), .int (nI 0), .int (nI 0), .int (nI 0), .int (nI 0), .int (nI 0), .null, .null, .null, .null, .null, .int (nI 0), .int (nI 0), .int (nI 0), .int (nI 0), .int (nI 0), .int (nI 0), .int (nI 0), .null, .null, .null, .null, .null, .null, .null, .null, .null, .null, .null, .null, .null, .null, .null, .null, .null, .null]) (C := R_MO) (T := T_MO) (N := 36) hx hb hU iw_MO ty_MO ty_MO_ok hown (hU _ uw_713) (hU _ uw_714) (hU _ uw_13) hK hP hD hS hA rfl (fun j hj => by rcases (show j = 0 ∨ j = 1 ∨ j = 2 ∨ j = 3 ∨ j = 4 ∨ j = 5 ∨ j = 6 ∨ j = 7 ∨ j = 8 ∨ j = 9 ∨ j = 10 ∨ j = 11 ∨ j = 12 ∨ j = 13 ∨ j = 14 ∨ j = 15 ∨ j = 16 ∨ j = 17 ∨ j = 18 ∨ j = 19 ∨ j = 20 ∨ j = 21 ∨ j = 22 ∨ j = 23 ∨ j = 24 ∨ j = 25 ∨ j = 26 ∨ j = 27 ∨ j = 28 ∨ j = 29 ∨ j = 30 ∨ j = 31 ∨ j = 32 ∨ j = 33 ∨ j = 34 ∨ j = 35 by omega) with rfl | rfl | rfl | rfl | rfl | rfl | rfl | rfl | rfl | rfl | rfl | rfl | rfl | rfl | rfl | rfl | rfl | rfl | rfl | rfl | rfl | rfl | rfl | rfl | rfl | rfl | rfl | rfl | rfl | rfl | rfl | rfl | rfl | rfl | rfl | rfl <;> rfl) (Nat.le_of_ble_eq_true rfl) (Nat.le_of_ble_eq_true rfl) d_LW_law_18 (fun q_33 H hP hD hS => ?_)
  have hP : va_P D vwCl [(q_1, .inr (0, [.ref sx_2, .ref sn_3, .ref sp_4, .ref sc_5])), (sx_2, .inr (9, [.ref sn_3, .ref sp_4, .ref sc_5, .ref sq_6, .ref sl_7, .ref sv_8, .ref sg_9, .ref sw_10, .ref sk_11, .ref sb_12, .int (nI 0)])), (sn_3, .inr (1, [.int (nI 0), .int (nI 0), .ref nb_13, .ref nt_14])), (sp_4, .inr (2, [.ref p1_15, .ref p2_16, .ref p3_17, .int (nI 0)])), (p1_15, .inl (cI, 20, .inl (fun _ => 0))), (p2_16, .inl (cI, 20, .inl (fun _ => 0))), (p3_17, .inl (cI, 20, .inl (fun _ => 0))), (sc_5, .inr (4, [.int (nI (1 + jw)), .ref cf_18, .ref cl_19, .ref ct_20, .ref ck_21, .ref cs_22, .int (nI (1 + jw)), .int (nI 0)])), (cl_19, .inl (cB, 16, .inl (fun _ => nI 1))), (ct_20, .inl (cI, 16, .inl (fun _ => 0))), (ck_21, .inl (cI, 16, .inl (fun _ => 0))), (cs_22, .inl (cI, 16, .inl (fun _ => 0))), (sq_6, .inr (5, [.int (nI (1 + jq)), .ref qr_23, .ref qf_24, .ref qh_25, .int (nI 0)])), (sv_8, .inr (7, [.ref lo_26, .ref lr_27, .ref lb_28, .int (nI 0), .ref lf_29])), (lo_26, .inl (cI, 200, .inl (fun _ => (-1)))), (lb_28, .inl (cI, 201, .inl (fun _ => 0))), (lf_29, .inl (cB, 200, .inl (fun _ => 0))), (sg_9, .inr (3, [.ref g1_30, .ref g2_31, .ref g3_32, .int (nI 0)])), (sk_11, .inl (cI, 200, .inl (fun _ => 0))), (q_33, .inr (10, [.int (nI 0), .int (nI 0), .int (nI 0), .int (nI 0), .int (nI 0), .int (nI 0), .null, .null, .null, .null, .null, .int (nI 0), .int (nI 0), .int (nI 0), .int (nI 0), .int (nI 0), .int (nI 0), .int (nI 0), .null, .null, .null, .null, .null, .null, .null, .null, .null, .null, .null, .null, .null, .null, .null, .null, .null, .null]))] H := hP
  have hD : va_D A [(q_1, .inr (0, [.ref sx_2, .ref sn_3, .ref sp_4, .ref sc_5])), (sx_2, .inr (9, [.ref sn_3, .ref sp_4, .ref sc_5, .ref sq_6, .ref sl_7, .ref sv_8, .ref sg_9, .ref sw_10, .ref sk_11, .ref sb_12, .int (nI 0)])), (sn_3, .inr (1, [.int (nI 0), .int (nI 0), .ref nb_13, .ref nt_14])), (sp_4, .inr (2, [.ref p1_15, .ref p2_16, .ref p3_17, .int (nI 0)])), (p1_15, .inl (cI, 20, .inl (fun _ => 0))), (p2_16, .inl (cI, 20, .inl (fun _ => 0))), (p3_17, .inl (cI, 20, .inl (fun _ => 0))), (sc_5, .inr (4, [.int (nI (1 + jw)), .ref cf_18, .ref cl_19, .ref ct_20, .ref ck_21, .ref cs_22, .int (nI (1 + jw)), .int (nI 0)])), (cl_19, .inl (cB, 16, .inl (fun _ => nI 1))), (ct_20, .inl (cI, 16, .inl (fun _ => 0))), (ck_21, .inl (cI, 16, .inl (fun _ => 0))), (cs_22, .inl (cI, 16, .inl (fun _ => 0))), (sq_6, .inr (5, [.int (nI (1 + jq)), .ref qr_23, .ref qf_24, .ref qh_25, .int (nI 0)])), (sv_8, .inr (7, [.ref lo_26, .ref lr_27, .ref lb_28, .int (nI 0), .ref lf_29])), (lo_26, .inl (cI, 200, .inl (fun _ => (-1)))), (lb_28, .inl (cI, 201, .inl (fun _ => 0))), (lf_29, .inl (cB, 200, .inl (fun _ => 0))), (sg_9, .inr (3, [.ref g1_30, .ref g2_31, .ref g3_32, .int (nI 0)])), (sk_11, .inl (cI, 200, .inl (fun _ => 0))), (q_33, .inr (10, [.int (nI 0), .int (nI 0), .int (nI 0), .int (nI 0), .int (nI 0), .int (nI 0), .null, .null, .null, .null, .null, .int (nI 0), .int (nI 0), .int (nI 0), .int (nI 0), .int (nI 0), .int (nI 0), .int (nI 0), .null, .null, .null, .null, .null, .null, .null, .null, .null, .null, .null, .null, .null, .null, .null, .null, .null, .null]))] := hD
  refine W.widen (k := 72) (n := 5950) (Nat.le_of_ble_eq_true rfl) (Nat.le_of_ble_eq_true rfl) ?_
  refine lv_dup hx hb d_LW_law_21 rfl ?_
  refine lv_aload_n hx hb d_LW_law_22 rfl (lv_at hl 1 rfl) ?_
  refine lv_iconst (v := nI 0) hx hb d_LW_law_23 (by decide +kernel) ?_
  refine xw_cell 0 (by decide) (by omega) ⟨hx, hb, hml, hown, hU⟩ uw_328 uw_329 uw_0 uw_330 ⟨Nat.le_of_ble_eq_true rfl, Nat.le_of_ble_eq_true rfl⟩ hl.1 (Nat.le_of_ble_eq_true rfl) d_LW_law_24 ⟨Nat.le_of_ble_eq_true rfl, Nat.le_of_ble_eq_true rfl⟩ hX hbl hbA hS ?_
  refine lv_aload_n hx hb d_LW_law_27 rfl (lv_at hl 1 rfl) ?_
  refine lv_iconst (v := nI 1) hx hb d_LW_law_28 (by decide +kernel) ?_
  refine xw_cell 1 (by decide) (by omega) ⟨hx, hb, hml, hown, hU⟩ uw_328 uw_329 uw_0 uw_330 ⟨Nat.le_of_ble_eq_true rfl, Nat.le_of_ble_eq_true rfl⟩ hl.1 (Nat.le_of_ble_eq_true rfl) d_LW_law_29 ⟨Nat.le_of_ble_eq_true rfl, Nat.le_of_ble_eq_true rfl⟩ hX hbl hbA hS ?_
  refine xw_callI (wr := [(q_1, .inr (0, [.ref sx_2, .ref sn_3, .ref sp_4, .ref sc_5])), (sx_2, .inr (9, [.ref sn_3, .ref sp_4, .ref sc_5, .ref sq_6, .ref sl_7, .ref sv_8, .ref sg_9, .ref sw_10, .ref sk_11, .ref sb_12, .int (nI 0)])), (sn_3, .inr (1, [.int (nI 0), .int (nI 0), .ref nb_13, .ref nt_14])), (sp_4, .inr (2, [.ref p1_15, .ref p2_16, .ref p3_17, .int (nI 0)])), (p1_15, .inl (cI, 20, .inl (fun _ => 0))), (p2_16, .inl (cI, 20, .inl (fun _ => 0))), (p3_17, .inl (cI, 20, .inl (fun _ => 0))), (sc_5, .inr (4, [.int (nI (1 + jw)), .ref cf_18, .ref cl_19, .ref ct_20, .ref ck_21, .ref cs_22, .int (nI (1 + jw)), .int (nI 0)])), (cl_19, .inl (cB, 16, .inl (fun _ => nI 1))), (ct_20, .inl (cI, 16, .inl (fun _ => 0))), (ck_21, .inl (cI, 16, .inl (fun _ => 0))), (cs_22, .inl (cI, 16, .inl (fun _ => 0))), (sq_6, .inr (5, [.int (nI (1 + jq)), .ref qr_23, .ref qf_24, .ref qh_25, .int (nI 0)])), (sv_8, .inr (7, [.ref lo_26, .ref lr_27, .ref lb_28, .int (nI 0), .ref lf_29])), (lo_26, .inl (cI, 200, .inl (fun _ => (-1)))), (lb_28, .inl (cI, 201, .inl (fun _ => 0))), (lf_29, .inl (cB, 200, .inl (fun _ => 0))), (sg_9, .inr (3, [.ref g1_30, .ref g2_31, .ref g3_32, .int (nI 0)])), (sk_11, .inl (cI, 200, .inl (fun _ => 0)))]) [.int (if 0 < L then xs 0 else 0), .int (if 1 < L then xs 1 else 0)] (c_MO_init l D cI cB cL q_33 (if 0 < L then xs 0 else 0) (if 1 < L then xs 1 else 0) jw jq (ejw) (by omega) (ejq) (by omega)) ⟨hx, hb, hml, hown, hU⟩ (cwI 2 hU (xs_good uw_717) rfl rfl rfl (hU _ uw_13) (hU _ uw_715) (hU _ uw_716) rfl (by decide +kernel) ⟨Nat.le_of_ble_eq_true rfl, Nat.le_of_ble_eq_true rfl⟩) rfl hl.1 rfl (Nat.le_of_ble_eq_true rfl) d_LW_law_32 ⟨Nat.le_of_ble_eq_true rfl, Nat.le_of_ble_eq_true rfl⟩ [19] [0, 1, 2, 3, 4, 5, 6, 7, 8, 9, 10, 11, 12, 13, 14, 15, 16, 17, 18] rfl rfl (by decide) (by decide) (by decide) hN hK hP hD hS hA (fun u H locs hf hP hD hS => ?_)
  obtain ⟨m_from_34, m_to_35, m_failWorker_36, m_failLevel_37, m_failTurn_38, m_levelOf_39, m_times_40, m_sizes_41, m_isNext_42, m_isLive_43, m_isLooked_44, m_turnsOf_45, m_takenOf_46, m_stallsOf_47, m_here_48, m_stands_49, m_nextMove_50, m_queued_51, m_queue_52, m_failedWorker_53, m_failedLevel_54, m_failedTurns_55, m_can_56⟩ := u
  have hP : va_P D vwCl [(q_1, .inr (0, [.ref sx_2, .ref sn_3, .ref sp_4, .ref sc_5])), (sx_2, .inr (9, [.ref sn_3, .ref sp_4, .ref sc_5, .ref sq_6, .ref sl_7, .ref sv_8, .ref sg_9, .ref sw_10, .ref sk_11, .ref sb_12, .int (nI 0)])), (sn_3, .inr (1, [.int (nI 0), .int (nI 0), .ref nb_13, .ref nt_14])), (sp_4, .inr (2, [.ref p1_15, .ref p2_16, .ref p3_17, .int (nI 0)])), (p1_15, .inl (cI, 20, .inl (fun _ => 0))), (p2_16, .inl (cI, 20, .inl (fun _ => 0))), (p3_17, .inl (cI, 20, .inl (fun _ => 0))), (sc_5, .inr (4, [.int (nI (1 + jw)), .ref cf_18, .ref cl_19, .ref ct_20, .ref ck_21, .ref cs_22, .int (nI (1 + jw)), .int (nI 0)])), (cl_19, .inl (cB, 16, .inl (fun _ => nI 1))), (ct_20, .inl (cI, 16, .inl (fun _ => 0))), (ck_21, .inl (cI, 16, .inl (fun _ => 0))), (cs_22, .inl (cI, 16, .inl (fun _ => 0))), (sq_6, .inr (5, [.int (nI (1 + jq)), .ref qr_23, .ref qf_24, .ref qh_25, .int (nI 0)])), (sv_8, .inr (7, [.ref lo_26, .ref lr_27, .ref lb_28, .int (nI 0), .ref lf_29])), (lo_26, .inl (cI, 200, .inl (fun _ => (-1)))), (lb_28, .inl (cI, 201, .inl (fun _ => 0))), (lf_29, .inl (cB, 200, .inl (fun _ => 0))), (sg_9, .inr (3, [.ref g1_30, .ref g2_31, .ref g3_32, .int (nI 0)])), (sk_11, .inl (cI, 200, .inl (fun _ => 0))), (q_33, .inr (10, [.int (nI 0), .int (nI (1 + jw)), .int (nI (1 + jq)), .int (nI 0), .int (nI 0), .int (nI 0), .ref m_from_34, .ref m_to_35, .ref m_failWorker_36, .ref m_failLevel_37, .ref m_failTurn_38, .int (nI 0), .int (nI 0), .int (nI 0), .int (nI 0), .int (nI 0), .int (nI 0), .int (nI 0), .ref m_levelOf_39, .ref m_times_40, .ref m_sizes_41, .ref m_isNext_42, .ref m_isLive_43, .ref m_isLooked_44, .ref m_turnsOf_45, .ref m_takenOf_46, .ref m_stallsOf_47, .ref m_here_48, .ref m_stands_49, .ref m_nextMove_50, .ref m_queued_51, .ref m_queue_52, .ref m_failedWorker_53, .ref m_failedLevel_54, .ref m_failedTurns_55, .ref m_can_56])), (m_failWorker_36, .inl (cI, 20, .inl (fun _ => 0))), (m_failLevel_37, .inl (cI, 20, .inl (fun _ => 0))), (m_failTurn_38, .inl (cI, 20, .inl (fun _ => 0))), (m_levelOf_39, .inl (cI, 200, .inl (fun _ => (-1)))), (m_times_40, .inl (cI, 200, .inl (fun _ => nI 0))), (m_isNext_42, .inl (cB, 200, .inl (fun _ => nI 0))), (m_isLive_43, .inl (cB, 16, .inl (fun j => if j < (1 + jw) then nI 1 else nI 0))), (m_turnsOf_45, .inl (cI, 16, .inl (fun _ => nI 0))), (m_takenOf_46, .inl (cI, 16, .inl (fun _ => nI 0))), (m_stallsOf_47, .inl (cI, 16, .inl (fun _ => nI 0))), (m_queued_51, .inl (cI, 16, .inl (fun _ => nI 0)))] H := hP
  have hD : va_D A [(q_1, .inr (0, [.ref sx_2, .ref sn_3, .ref sp_4, .ref sc_5])), (sx_2, .inr (9, [.ref sn_3, .ref sp_4, .ref sc_5, .ref sq_6, .ref sl_7, .ref sv_8, .ref sg_9, .ref sw_10, .ref sk_11, .ref sb_12, .int (nI 0)])), (sn_3, .inr (1, [.int (nI 0), .int (nI 0), .ref nb_13, .ref nt_14])), (sp_4, .inr (2, [.ref p1_15, .ref p2_16, .ref p3_17, .int (nI 0)])), (p1_15, .inl (cI, 20, .inl (fun _ => 0))), (p2_16, .inl (cI, 20, .inl (fun _ => 0))), (p3_17, .inl (cI, 20, .inl (fun _ => 0))), (sc_5, .inr (4, [.int (nI (1 + jw)), .ref cf_18, .ref cl_19, .ref ct_20, .ref ck_21, .ref cs_22, .int (nI (1 + jw)), .int (nI 0)])), (cl_19, .inl (cB, 16, .inl (fun _ => nI 1))), (ct_20, .inl (cI, 16, .inl (fun _ => 0))), (ck_21, .inl (cI, 16, .inl (fun _ => 0))), (cs_22, .inl (cI, 16, .inl (fun _ => 0))), (sq_6, .inr (5, [.int (nI (1 + jq)), .ref qr_23, .ref qf_24, .ref qh_25, .int (nI 0)])), (sv_8, .inr (7, [.ref lo_26, .ref lr_27, .ref lb_28, .int (nI 0), .ref lf_29])), (lo_26, .inl (cI, 200, .inl (fun _ => (-1)))), (lb_28, .inl (cI, 201, .inl (fun _ => 0))), (lf_29, .inl (cB, 200, .inl (fun _ => 0))), (sg_9, .inr (3, [.ref g1_30, .ref g2_31, .ref g3_32, .int (nI 0)])), (sk_11, .inl (cI, 200, .inl (fun _ => 0))), (q_33, .inr (10, [.int (nI 0), .int (nI (1 + jw)), .int (nI (1 + jq)), .int (nI 0), .int (nI 0), .int (nI 0), .ref m_from_34, .ref m_to_35, .ref m_failWorker_36, .ref m_failLevel_37, .ref m_failTurn_38, .int (nI 0), .int (nI 0), .int (nI 0), .int (nI 0), .int (nI 0), .int (nI 0), .int (nI 0), .ref m_levelOf_39, .ref m_times_40, .ref m_sizes_41, .ref m_isNext_42, .ref m_isLive_43, .ref m_isLooked_44, .ref m_turnsOf_45, .ref m_takenOf_46, .ref m_stallsOf_47, .ref m_here_48, .ref m_stands_49, .ref m_nextMove_50, .ref m_queued_51, .ref m_queue_52, .ref m_failedWorker_53, .ref m_failedLevel_54, .ref m_failedTurns_55, .ref m_can_56])), (m_failWorker_36, .inl (cI, 20, .inl (fun _ => 0))), (m_failLevel_37, .inl (cI, 20, .inl (fun _ => 0))), (m_failTurn_38, .inl (cI, 20, .inl (fun _ => 0))), (m_levelOf_39, .inl (cI, 200, .inl (fun _ => (-1)))), (m_times_40, .inl (cI, 200, .inl (fun _ => nI 0))), (m_isNext_42, .inl (cB, 200, .inl (fun _ => nI 0))), (m_isLive_43, .inl (cB, 16, .inl (fun j => if j < (1 + jw) then nI 1 else nI 0))), (m_turnsOf_45, .inl (cI, 16, .inl (fun _ => nI 0))), (m_takenOf_46, .inl (cI, 16, .inl (fun _ => nI 0))), (m_stallsOf_47, .inl (cI, 16, .inl (fun _ => nI 0))), (m_queued_51, .inl (cI, 16, .inl (fun _ => nI 0)))] := hD
  refine W.widen (k := 95) (n := 8531) (Nat.le_of_ble_eq_true rfl) (Nat.le_of_ble_eq_true rfl) ?_
  refine W.eq (g2 := F0 m 35 ls [.ref q_33]) rfl ?_
  refine lv_astore_n (lv' := [(2, .ref q_33), (1, .ref q_1), (0, .ref b)]) hx hb d_LW_law_35 rfl hl (by decide) rfl (fun ls hl => ?_)
  refine lv_iconst (v := nI 1) hx hb d_LW_law_36 (by decide +kernel) ?_
  refine xw_newL (N := 1) hx hb (hU _ uw_965) hK 2 rfl hP hD hS hA (by decide +kernel) (by decide +kernel) (by decide) (Nat.le_of_ble_eq_true rfl) (Nat.le_of_ble_eq_true rfl) d_LW_law_37 (fun q_57 H hP hD hS => ?_)
  have hP : va_P D vwCl [(q_1, .inr (0, [.ref sx_2, .ref sn_3, .ref sp_4, .ref sc_5])), (sx_2, .inr (9, [.ref sn_3, .ref sp_4, .ref sc_5, .ref sq_6, .ref sl_7, .ref sv_8, .ref sg_9, .ref sw_10, .ref sk_11, .ref sb_12, .int (nI 0)])), (sn_3, .inr (1, [.int (nI 0), .int (nI 0), .ref nb_13, .ref nt_14])), (sp_4, .inr (2, [.ref p1_15, .ref p2_16, .ref p3_17, .int (nI 0)])), (p1_15, .inl (cI, 20, .inl (fun _ => 0))), (p2_16, .inl (cI, 20, .inl (fun _ => 0))), (p3_17, .inl (cI, 20, .inl (fun _ => 0))), (sc_5, .inr (4, [.int (nI (1 + jw)), .ref cf_18, .ref cl_19, .ref ct_20, .ref ck_21, .ref cs_22, .int (nI (1 + jw)), .int (nI 0)])), (cl_19, .inl (cB, 16, .inl (fun _ => nI 1))), (ct_20, .inl (cI, 16, .inl (fun _ => 0))), (ck_21, .inl (cI, 16, .inl (fun _ => 0))), (cs_22, .inl (cI, 16, .inl (fun _ => 0))), (sq_6, .inr (5, [.int (nI (1 + jq)), .ref qr_23, .ref qf_24, .ref qh_25, .int (nI 0)])), (sv_8, .inr (7, [.ref lo_26, .ref lr_27, .ref lb_28, .int (nI 0), .ref lf_29])), (lo_26, .inl (cI, 200, .inl (fun _ => (-1)))), (lb_28, .inl (cI, 201, .inl (fun _ => 0))), (lf_29, .inl (cB, 200, .inl (fun _ => 0))), (sg_9, .inr (3, [.ref g1_30, .ref g2_31, .ref g3_32, .int (nI 0)])), (sk_11, .inl (cI, 200, .inl (fun _ => 0))), (q_33, .inr (10, [.int (nI 0), .int (nI (1 + jw)), .int (nI (1 + jq)), .int (nI 0), .int (nI 0), .int (nI 0), .ref m_from_34, .ref m_to_35, .ref m_failWorker_36, .ref m_failLevel_37, .ref m_failTurn_38, .int (nI 0), .int (nI 0), .int (nI 0), .int (nI 0), .int (nI 0), .int (nI 0), .int (nI 0), .ref m_levelOf_39, .ref m_times_40, .ref m_sizes_41, .ref m_isNext_42, .ref m_isLive_43, .ref m_isLooked_44, .ref m_turnsOf_45, .ref m_takenOf_46, .ref m_stallsOf_47, .ref m_here_48, .ref m_stands_49, .ref m_nextMove_50, .ref m_queued_51, .ref m_queue_52, .ref m_failedWorker_53, .ref m_failedLevel_54, .ref m_failedTurns_55, .ref m_can_56])), (m_failWorker_36, .inl (cI, 20, .inl (fun _ => 0))), (m_failLevel_37, .inl (cI, 20, .inl (fun _ => 0))), (m_failTurn_38, .inl (cI, 20, .inl (fun _ => 0))), (m_levelOf_39, .inl (cI, 200, .inl (fun _ => (-1)))), (m_times_40, .inl (cI, 200, .inl (fun _ => nI 0))), (m_isNext_42, .inl (cB, 200, .inl (fun _ => nI 0))), (m_isLive_43, .inl (cB, 16, .inl (fun j => if j < (1 + jw) then nI 1 else nI 0))), (m_turnsOf_45, .inl (cI, 16, .inl (fun _ => nI 0))), (m_takenOf_46, .inl (cI, 16, .inl (fun _ => nI 0))), (m_stallsOf_47, .inl (cI, 16, .inl (fun _ => nI 0))), (m_queued_51, .inl (cI, 16, .inl (fun _ => nI 0))), (q_57, .inl (cL, 1, .inr (.inl (fun _ => 0))))] H := hP
  have hD : va_D A [(q_1, .inr (0, [.ref sx_2, .ref sn_3, .ref sp_4, .ref sc_5])), (sx_2, .inr (9, [.ref sn_3, .ref sp_4, .ref sc_5, .ref sq_6, .ref sl_7, .ref sv_8, .ref sg_9, .ref sw_10, .ref sk_11, .ref sb_12, .int (nI 0)])), (sn_3, .inr (1, [.int (nI 0), .int (nI 0), .ref nb_13, .ref nt_14])), (sp_4, .inr (2, [.ref p1_15, .ref p2_16, .ref p3_17, .int (nI 0)])), (p1_15, .inl (cI, 20, .inl (fun _ => 0))), (p2_16, .inl (cI, 20, .inl (fun _ => 0))), (p3_17, .inl (cI, 20, .inl (fun _ => 0))), (sc_5, .inr (4, [.int (nI (1 + jw)), .ref cf_18, .ref cl_19, .ref ct_20, .ref ck_21, .ref cs_22, .int (nI (1 + jw)), .int (nI 0)])), (cl_19, .inl (cB, 16, .inl (fun _ => nI 1))), (ct_20, .inl (cI, 16, .inl (fun _ => 0))), (ck_21, .inl (cI, 16, .inl (fun _ => 0))), (cs_22, .inl (cI, 16, .inl (fun _ => 0))), (sq_6, .inr (5, [.int (nI (1 + jq)), .ref qr_23, .ref qf_24, .ref qh_25, .int (nI 0)])), (sv_8, .inr (7, [.ref lo_26, .ref lr_27, .ref lb_28, .int (nI 0), .ref lf_29])), (lo_26, .inl (cI, 200, .inl (fun _ => (-1)))), (lb_28, .inl (cI, 201, .inl (fun _ => 0))), (lf_29, .inl (cB, 200, .inl (fun _ => 0))), (sg_9, .inr (3, [.ref g1_30, .ref g2_31, .ref g3_32, .int (nI 0)])), (sk_11, .inl (cI, 200, .inl (fun _ => 0))), (q_33, .inr (10, [.int (nI 0), .int (nI (1 + jw)), .int (nI (1 + jq)), .int (nI 0), .int (nI 0), .int (nI 0), .ref m_from_34, .ref m_to_35, .ref m_failWorker_36, .ref m_failLevel_37, .ref m_failTurn_38, .int (nI 0), .int (nI 0), .int (nI 0), .int (nI 0), .int (nI 0), .int (nI 0), .int (nI 0), .ref m_levelOf_39, .ref m_times_40, .ref m_sizes_41, .ref m_isNext_42, .ref m_isLive_43, .ref m_isLooked_44, .ref m_turnsOf_45, .ref m_takenOf_46, .ref m_stallsOf_47, .ref m_here_48, .ref m_stands_49, .ref m_nextMove_50, .ref m_queued_51, .ref m_queue_52, .ref m_failedWorker_53, .ref m_failedLevel_54, .ref m_failedTurns_55, .ref m_can_56])), (m_failWorker_36, .inl (cI, 20, .inl (fun _ => 0))), (m_failLevel_37, .inl (cI, 20, .inl (fun _ => 0))), (m_failTurn_38, .inl (cI, 20, .inl (fun _ => 0))), (m_levelOf_39, .inl (cI, 200, .inl (fun _ => (-1)))), (m_times_40, .inl (cI, 200, .inl (fun _ => nI 0))), (m_isNext_42, .inl (cB, 200, .inl (fun _ => nI 0))), (m_isLive_43, .inl (cB, 16, .inl (fun j => if j < (1 + jw) then nI 1 else nI 0))), (m_turnsOf_45, .inl (cI, 16, .inl (fun _ => nI 0))), (m_takenOf_46, .inl (cI, 16, .inl (fun _ => nI 0))), (m_stallsOf_47, .inl (cI, 16, .inl (fun _ => nI 0))), (m_queued_51, .inl (cI, 16, .inl (fun _ => nI 0))), (q_57, .inl (cL, 1, .inr (.inl (fun _ => 0))))] := hD
  refine W.widen (k := 96) (n := 8532) (Nat.le_of_ble_eq_true rfl) (Nat.le_of_ble_eq_true rfl) ?_
  refine lv_astore_n (lv' := [(3, .ref q_57), (2, .ref q_33), (1, .ref q_1), (0, .ref b)]) hx hb d_LW_law_39 rfl hl (by decide) rfl (fun ls hl => ?_)
  refine lv_iconst (v := nI 2) hx hb d_LW_law_40 (by decide +kernel) ?_
  refine lv_istore (lv' := [(4, .int (nI 2)), (3, .ref q_57), (2, .ref q_33), (1, .ref q_1), (0, .ref b)]) hx hb d_LW_law_41 hl (by decide) rfl (fun ls hl => ?_)
  rcases (show L = 6 ∨ L = 5 ∨ L = 4 ∨ L = 3 ∨ L = 2 ∨ L = 1 ∨ L = 0 by omega) with rfl | rfl | rfl | rfl | rfl | rfl | rfl
  · refine lv_iload hx hb d_LW_law_43 (lv_at hl 0 rfl) ?_
    refine lv_aload_n hx hb d_LW_law_45 rfl (lv_at hl 4 rfl) ?_
    refine va_slen hx hb hX hbl hbA hS d_LW_law_46 ?_
    refine xw_top (nI 6) rfl ?_
    refine lv_iconst (v := nI 4) hx hb d_LW_law_47 (by decide +kernel) ?_
    refine lv_isub hx hb d_LW_law_48 ?_
    refine xw_top (nI 2) (by decide +kernel) ?_
    refine lv_icmp_gt (tgt := 827) hx hb d_LW_law_49 (by decide) (fun c_49 => ?_) (fun c_49 => ?_)
    · exact absurd c_49 (by decide +kernel)
    · refine lv_aload_n hx hb d_LW_law_52 rfl (lv_at hl 4 rfl) ?_
      refine lv_iload hx hb d_LW_law_53 (lv_at hl 0 rfl) ?_
      refine va_sld hx hb hX hbl hbA hS (vp_in_nI (by decide) (by decide)) d_LW_law_55 ?_
      refine xw_top (xs 2) (by rw [nI_clamp (by decide)]) ?_
      refine lv_bipush (v := nI 15) hx hb d_LW_law_56 (by decide +kernel) ?_
      refine lv_iand hx hb d_LW_law_58 ?_
      obtain ⟨k9, hk9, ek9⟩ := pk_andE (xs 2) (m := nI 15) 4 (by decide +kernel)
      refine xw_top (nI k9) ek9 ?_
      rcases (show k9 = 0 ∨ k9 = 1 ∨ k9 = 2 ∨ k9 = 3 ∨ k9 = 4 ∨ k9 = 5 ∨ k9 = 6 ∨ k9 = 7 ∨ k9 = 8 ∨ k9 = 9 ∨ k9 = 10 ∨ k9 = 11 ∨ k9 = 12 ∨ k9 = 13 ∨ k9 = 14 ∨ k9 = 15 by omega) with rfl | rfl | rfl | rfl | rfl | rfl | rfl | rfl | rfl | rfl | rfl | rfl | rfl | rfl | rfl | rfl
      · refine lv_tableIn (off := 61) (tgt := 120) hx hb d_LW_law_59 (by decide +kernel) (by decide +kernel) (by decide +kernel) (by decide) ?_
        refine W.widen (k := 300) (n := 30000) (Nat.le_of_ble_eq_true rfl) (Nat.le_of_ble_eq_true rfl) ?_
        exact law_c0 l htr C0 hN hA hAs hbA hZ D cI cB cL hK q_1 sx_2 sn_3 sp_4 sc_5 sq_6 sl_7 sv_8 sg_9 sw_10 sk_11 sb_12 nb_13 nt_14 p1_15 p2_16 p3_17 cf_18 cl_19 ct_20 ck_21 cs_22 qr_23 qf_24 qh_25 lo_26 lr_27 lb_28 lf_29 g1_30 g2_31 g3_32 (1 + jw) (1 + jq) q_33 m_from_34 m_to_35 m_failWorker_36 m_failLevel_37 m_failTurn_38 m_levelOf_39 m_times_40 m_sizes_41 m_isNext_42 m_isLive_43 m_isLooked_44 m_turnsOf_45 m_takenOf_46 m_stallsOf_47 m_here_48 m_stands_49 m_nextMove_50 m_queued_51 m_queue_52 m_failedWorker_53 m_failedLevel_54 m_failedTurns_55 m_can_56 q_57 (by omega) hP hD hS (lv_sub hl [0, 1, 2, 3, 4] rfl)
      · refine lv_tableIn (off := 105) (tgt := 164) hx hb d_LW_law_59 (by decide +kernel) (by decide +kernel) (by decide +kernel) (by decide) ?_
        refine W.widen (k := 300) (n := 30000) (Nat.le_of_ble_eq_true rfl) (Nat.le_of_ble_eq_true rfl) ?_
        exact law_c1 l htr C0 hN hA hAs hbA hZ D cI cB cL hK q_1 sx_2 sn_3 sp_4 sc_5 sq_6 sl_7 sv_8 sg_9 sw_10 sk_11 sb_12 nb_13 nt_14 p1_15 p2_16 p3_17 cf_18 cl_19 ct_20 ck_21 cs_22 qr_23 qf_24 qh_25 lo_26 lr_27 lb_28 lf_29 g1_30 g2_31 g3_32 (1 + jw) (1 + jq) q_33 m_from_34 m_to_35 m_failWorker_36 m_failLevel_37 m_failTurn_38 m_levelOf_39 m_times_40 m_sizes_41 m_isNext_42 m_isLive_43 m_isLooked_44 m_turnsOf_45 m_takenOf_46 m_stallsOf_47 m_here_48 m_stands_49 m_nextMove_50 m_queued_51 m_queue_52 m_failedWorker_53 m_failedLevel_54 m_failedTurns_55 m_can_56 q_57 (by omega) hP hD hS (lv_sub hl [0, 1, 2, 3, 4] rfl)
      · refine lv_tableIn (off := 173) (tgt := 232) hx hb d_LW_law_59 (by decide +kernel) (by decide +kernel) (by decide +kernel) (by decide) ?_
        refine W.widen (k := 300) (n := 30000) (Nat.le_of_ble_eq_true rfl) (Nat.le_of_ble_eq_true rfl) ?_
        exact law_c2 l htr C0 hN hA hAs hbA hZ D cI cB cL hK q_1 sx_2 sn_3 sp_4 sc_5 sq_6 sl_7 sv_8 sg_9 sw_10 sk_11 sb_12 nb_13 nt_14 p1_15 p2_16 p3_17 cf_18 cl_19 ct_20 ck_21 cs_22 qr_23 qf_24 qh_25 lo_26 lr_27 lb_28 lf_29 g1_30 g2_31 g3_32 (1 + jw) (1 + jq) q_33 m_from_34 m_to_35 m_failWorker_36 m_failLevel_37 m_failTurn_38 m_levelOf_39 m_times_40 m_sizes_41 m_isNext_42 m_isLive_43 m_isLooked_44 m_turnsOf_45 m_takenOf_46 m_stallsOf_47 m_here_48 m_stands_49 m_nextMove_50 m_queued_51 m_queue_52 m_failedWorker_53 m_failedLevel_54 m_failedTurns_55 m_can_56 q_57 (by omega) hP hD hS (lv_sub hl [0, 1, 2, 3, 4] rfl)
      · refine lv_tableIn (off := 253) (tgt := 312) hx hb d_LW_law_59 (by decide +kernel) (by decide +kernel) (by decide +kernel) (by decide) ?_
        refine W.widen (k := 300) (n := 30000) (Nat.le_of_ble_eq_true rfl) (Nat.le_of_ble_eq_true rfl) ?_
        exact law_c3 l htr C0 hN hA hAs hbA hZ D cI cB cL hK q_1 sx_2 sn_3 sp_4 sc_5 sq_6 sl_7 sv_8 sg_9 sw_10 sk_11 sb_12 nb_13 nt_14 p1_15 p2_16 p3_17 cf_18 cl_19 ct_20 ck_21 cs_22 qr_23 qf_24 qh_25 lo_26 lr_27 lb_28 lf_29 g1_30 g2_31 g3_32 (1 + jw) (1 + jq) q_33 m_from_34 m_to_35 m_failWorker_36 m_failLevel_37 m_failTurn_38 m_levelOf_39 m_times_40 m_sizes_41 m_isNext_42 m_isLive_43 m_isLooked_44 m_turnsOf_45 m_takenOf_46 m_stallsOf_47 m_here_48 m_stands_49 m_nextMove_50 m_queued_51 m_queue_52 m_failedWorker_53 m_failedLevel_54 m_failedTurns_55 m_can_56 q_57 (by omega) hP hD hS (lv_sub hl [0, 1, 2, 3, 4] rfl)
      · refine lv_tableIn (off := 309) (tgt := 368) hx hb d_LW_law_59 (by decide +kernel) (by decide +kernel) (by decide +kernel) (by decide) ?_
        refine W.widen (k := 300) (n := 30000) (Nat.le_of_ble_eq_true rfl) (Nat.le_of_ble_eq_true rfl) ?_
        exact law_c4 l htr C0 hN hA hAs hbA hZ D cI cB cL hK q_1 sx_2 sn_3 sp_4 sc_5 sq_6 sl_7 sv_8 sg_9 sw_10 sk_11 sb_12 nb_13 nt_14 p1_15 p2_16 p3_17 cf_18 cl_19 ct_20 ck_21 cs_22 qr_23 qf_24 qh_25 lo_26 lr_27 lb_28 lf_29 g1_30 g2_31 g3_32 (1 + jw) (1 + jq) q_33 m_from_34 m_to_35 m_failWorker_36 m_failLevel_37 m_failTurn_38 m_levelOf_39 m_times_40 m_sizes_41 m_isNext_42 m_isLive_43 m_isLooked_44 m_turnsOf_45 m_takenOf_46 m_stallsOf_47 m_here_48 m_stands_49 m_nextMove_50 m_queued_51 m_queue_52 m_failedWorker_53 m_failedLevel_54 m_failedTurns_55 m_can_56 q_57 (by omega) hP hD hS (lv_sub hl [0, 1, 2, 3, 4] rfl)
      · refine lv_tableIn (off := 365) (tgt := 424) hx hb d_LW_law_59 (by decide +kernel) (by decide +kernel) (by decide +kernel) (by decide) ?_
        refine W.widen (k := 300) (n := 30000) (Nat.le_of_ble_eq_true rfl) (Nat.le_of_ble_eq_true rfl) ?_
        exact law_c5 l htr C0 hN hA hAs hbA hZ D cI cB cL hK q_1 sx_2 sn_3 sp_4 sc_5 sq_6 sl_7 sv_8 sg_9 sw_10 sk_11 sb_12 nb_13 nt_14 p1_15 p2_16 p3_17 cf_18 cl_19 ct_20 ck_21 cs_22 qr_23 qf_24 qh_25 lo_26 lr_27 lb_28 lf_29 g1_30 g2_31 g3_32 (1 + jw) (1 + jq) q_33 m_from_34 m_to_35 m_failWorker_36 m_failLevel_37 m_failTurn_38 m_levelOf_39 m_times_40 m_sizes_41 m_isNext_42 m_isLive_43 m_isLooked_44 m_turnsOf_45 m_takenOf_46 m_stallsOf_47 m_here_48 m_stands_49 m_nextMove_50 m_queued_51 m_queue_52 m_failedWorker_53 m_failedLevel_54 m_failedTurns_55 m_can_56 q_57 (by omega) hP hD hS (lv_sub hl [0, 1, 2, 3, 4] rfl)
      · refine lv_tableIn (off := 421) (tgt := 480) hx hb d_LW_law_59 (by decide +kernel) (by decide +kernel) (by decide +kernel) (by decide) ?_
        refine W.widen (k := 300) (n := 30000) (Nat.le_of_ble_eq_true rfl) (Nat.le_of_ble_eq_true rfl) ?_
        exact law_c6 l htr C0 hN hA hAs hbA hZ D cI cB cL hK q_1 sx_2 sn_3 sp_4 sc_5 sq_6 sl_7 sv_8 sg_9 sw_10 sk_11 sb_12 nb_13 nt_14 p1_15 p2_16 p3_17 cf_18 cl_19 ct_20 ck_21 cs_22 qr_23 qf_24 qh_25 lo_26 lr_27 lb_28 lf_29 g1_30 g2_31 g3_32 (1 + jw) (1 + jq) q_33 m_from_34 m_to_35 m_failWorker_36 m_failLevel_37 m_failTurn_38 m_levelOf_39 m_times_40 m_sizes_41 m_isNext_42 m_isLive_43 m_isLooked_44 m_turnsOf_45 m_takenOf_46 m_stallsOf_47 m_here_48 m_stands_49 m_nextMove_50 m_queued_51 m_queue_52 m_failedWorker_53 m_failedLevel_54 m_failedTurns_55 m_can_56 q_57 (by omega) hP hD hS (lv_sub hl [0, 1, 2, 3, 4] rfl)
      · refine lv_tableIn (off := 477) (tgt := 536) hx hb d_LW_law_59 (by decide +kernel) (by decide +kernel) (by decide +kernel) (by decide) ?_
        refine W.widen (k := 300) (n := 30000) (Nat.le_of_ble_eq_true rfl) (Nat.le_of_ble_eq_true rfl) ?_
        exact law_c7 l htr C0 hN hA hAs hbA hZ D cI cB cL hK q_1 sx_2 sn_3 sp_4 sc_5 sq_6 sl_7 sv_8 sg_9 sw_10 sk_11 sb_12 nb_13 nt_14 p1_15 p2_16 p3_17 cf_18 cl_19 ct_20 ck_21 cs_22 qr_23 qf_24 qh_25 lo_26 lr_27 lb_28 lf_29 g1_30 g2_31 g3_32 (1 + jw) (1 + jq) q_33 m_from_34 m_to_35 m_failWorker_36 m_failLevel_37 m_failTurn_38 m_levelOf_39 m_times_40 m_sizes_41 m_isNext_42 m_isLive_43 m_isLooked_44 m_turnsOf_45 m_takenOf_46 m_stallsOf_47 m_here_48 m_stands_49 m_nextMove_50 m_queued_51 m_queue_52 m_failedWorker_53 m_failedLevel_54 m_failedTurns_55 m_can_56 q_57 (by omega) hP hD hS (lv_sub hl [0, 1, 2, 3, 4] rfl)
      · refine lv_tableIn (off := 545) (tgt := 604) hx hb d_LW_law_59 (by decide +kernel) (by decide +kernel) (by decide +kernel) (by decide) ?_
        refine W.widen (k := 300) (n := 30000) (Nat.le_of_ble_eq_true rfl) (Nat.le_of_ble_eq_true rfl) ?_
        exact law_c8 l htr C0 hN hA hAs hbA hZ D cI cB cL hK q_1 sx_2 sn_3 sp_4 sc_5 sq_6 sl_7 sv_8 sg_9 sw_10 sk_11 sb_12 nb_13 nt_14 p1_15 p2_16 p3_17 cf_18 cl_19 ct_20 ck_21 cs_22 qr_23 qf_24 qh_25 lo_26 lr_27 lb_28 lf_29 g1_30 g2_31 g3_32 (1 + jw) (1 + jq) q_33 m_from_34 m_to_35 m_failWorker_36 m_failLevel_37 m_failTurn_38 m_levelOf_39 m_times_40 m_sizes_41 m_isNext_42 m_isLive_43 m_isLooked_44 m_turnsOf_45 m_takenOf_46 m_stallsOf_47 m_here_48 m_stands_49 m_nextMove_50 m_queued_51 m_queue_52 m_failedWorker_53 m_failedLevel_54 m_failedTurns_55 m_can_56 q_57 (by omega) hP hD hS (lv_sub hl [0, 1, 2, 3, 4] rfl)
      · refine lv_tableIn (off := 613) (tgt := 672) hx hb d_LW_law_59 (by decide +kernel) (by decide +kernel) (by decide +kernel) (by decide) ?_
        refine W.widen (k := 300) (n := 30000) (Nat.le_of_ble_eq_true rfl) (Nat.le_of_ble_eq_true rfl) ?_
        exact law_c9 l htr C0 hN hA hAs hbA hZ D cI cB cL hK q_1 sx_2 sn_3 sp_4 sc_5 sq_6 sl_7 sv_8 sg_9 sw_10 sk_11 sb_12 nb_13 nt_14 p1_15 p2_16 p3_17 cf_18 cl_19 ct_20 ck_21 cs_22 qr_23 qf_24 qh_25 lo_26 lr_27 lb_28 lf_29 g1_30 g2_31 g3_32 (1 + jw) (1 + jq) q_33 m_from_34 m_to_35 m_failWorker_36 m_failLevel_37 m_failTurn_38 m_levelOf_39 m_times_40 m_sizes_41 m_isNext_42 m_isLive_43 m_isLooked_44 m_turnsOf_45 m_takenOf_46 m_stallsOf_47 m_here_48 m_stands_49 m_nextMove_50 m_queued_51 m_queue_52 m_failedWorker_53 m_failedLevel_54 m_failedTurns_55 m_can_56 q_57 (by omega) hP hD hS (lv_sub hl [0, 1, 2, 3, 4] rfl)
      · refine lv_tableIn (off := 681) (tgt := 740) hx hb d_LW_law_59 (by decide +kernel) (by decide +kernel) (by decide +kernel) (by decide) ?_
        refine W.widen (k := 300) (n := 30000) (Nat.le_of_ble_eq_true rfl) (Nat.le_of_ble_eq_true rfl) ?_
        exact law_c10 l htr C0 hN hA hAs hbA hZ D cI cB cL hK q_1 sx_2 sn_3 sp_4 sc_5 sq_6 sl_7 sv_8 sg_9 sw_10 sk_11 sb_12 nb_13 nt_14 p1_15 p2_16 p3_17 cf_18 cl_19 ct_20 ck_21 cs_22 qr_23 qf_24 qh_25 lo_26 lr_27 lb_28 lf_29 g1_30 g2_31 g3_32 (1 + jw) (1 + jq) q_33 m_from_34 m_to_35 m_failWorker_36 m_failLevel_37 m_failTurn_38 m_levelOf_39 m_times_40 m_sizes_41 m_isNext_42 m_isLive_43 m_isLooked_44 m_turnsOf_45 m_takenOf_46 m_stallsOf_47 m_here_48 m_stands_49 m_nextMove_50 m_queued_51 m_queue_52 m_failedWorker_53 m_failedLevel_54 m_failedTurns_55 m_can_56 q_57 (by omega) hP hD hS (lv_sub hl [0, 1, 2, 3, 4] rfl)
      · refine lv_tableIn (off := 737) (tgt := 796) hx hb d_LW_law_59 (by decide +kernel) (by decide +kernel) (by decide +kernel) (by decide) ?_
        refine W.widen (k := 300) (n := 30000) (Nat.le_of_ble_eq_true rfl) (Nat.le_of_ble_eq_true rfl) ?_
        exact law_c11 l htr C0 hN hA hAs hbA hZ D cI cB cL hK q_1 sx_2 sn_3 sp_4 sc_5 sq_6 sl_7 sv_8 sg_9 sw_10 sk_11 sb_12 nb_13 nt_14 p1_15 p2_16 p3_17 cf_18 cl_19 ct_20 ck_21 cs_22 qr_23 qf_24 qh_25 lo_26 lr_27 lb_28 lf_29 g1_30 g2_31 g3_32 (1 + jw) (1 + jq) q_33 m_from_34 m_to_35 m_failWorker_36 m_failLevel_37 m_failTurn_38 m_levelOf_39 m_times_40 m_sizes_41 m_isNext_42 m_isLive_43 m_isLooked_44 m_turnsOf_45 m_takenOf_46 m_stallsOf_47 m_here_48 m_stands_49 m_nextMove_50 m_queued_51 m_queue_52 m_failedWorker_53 m_failedLevel_54 m_failedTurns_55 m_can_56 q_57 (by omega) hP hD hS (lv_sub hl [0, 1, 2, 3, 4] rfl)
      · refine lv_tableOut (tgt := 821) hx hb d_LW_law_59 (by decide +kernel) (by decide) ?_
        refine W.widen (k := 400) (n := 31000) (Nat.le_of_ble_eq_true rfl) (Nat.le_of_ble_eq_true rfl) ?_
        exact law_end l C0 hAs hbA hS (lv_sub hl [0, 4] rfl)
      · refine lv_tableOut (tgt := 821) hx hb d_LW_law_59 (by decide +kernel) (by decide) ?_
        refine W.widen (k := 400) (n := 31000) (Nat.le_of_ble_eq_true rfl) (Nat.le_of_ble_eq_true rfl) ?_
        exact law_end l C0 hAs hbA hS (lv_sub hl [0, 4] rfl)
      · refine lv_tableOut (tgt := 821) hx hb d_LW_law_59 (by decide +kernel) (by decide) ?_
        refine W.widen (k := 400) (n := 31000) (Nat.le_of_ble_eq_true rfl) (Nat.le_of_ble_eq_true rfl) ?_
        exact law_end l C0 hAs hbA hS (lv_sub hl [0, 4] rfl)
      · refine lv_tableOut (tgt := 821) hx hb d_LW_law_59 (by decide +kernel) (by decide) ?_
        refine W.widen (k := 400) (n := 31000) (Nat.le_of_ble_eq_true rfl) (Nat.le_of_ble_eq_true rfl) ?_
        exact law_end l C0 hAs hbA hS (lv_sub hl [0, 4] rfl)
  · refine lv_iload hx hb d_LW_law_43 (lv_at hl 0 rfl) ?_
    refine lv_aload_n hx hb d_LW_law_45 rfl (lv_at hl 4 rfl) ?_
    refine va_slen hx hb hX hbl hbA hS d_LW_law_46 ?_
    refine xw_top (nI 5) rfl ?_
    refine lv_iconst (v := nI 4) hx hb d_LW_law_47 (by decide +kernel) ?_
    refine lv_isub hx hb d_LW_law_48 ?_
    refine xw_top (nI 1) (by decide +kernel) ?_
    refine lv_icmp_gt (tgt := 827) hx hb d_LW_law_49 (by decide) (fun c_49 => ?_) (fun c_49 => ?_)
    · refine lv_iconst (v := nI 1) hx hb d_LW_law_827 (by decide +kernel) ?_
      refine xw_top 1 (by decide +kernel) ?_
      refine va_forget (fun q hq => hAs _ (hS.2.2 q hq)) ?_
      refine W.widen (k := 600002) (n := 7302198) (Nat.le_of_ble_eq_true rfl) (Nat.le_of_ble_eq_true rfl) ?_
      exact lw_ret hx hb hr hlocks d_LW_law_828
    · exact absurd c_49 (by decide +kernel)
  · refine lv_iload hx hb d_LW_law_43 (lv_at hl 0 rfl) ?_
    refine lv_aload_n hx hb d_LW_law_45 rfl (lv_at hl 4 rfl) ?_
    refine va_slen hx hb hX hbl hbA hS d_LW_law_46 ?_
    refine xw_top (nI 4) rfl ?_
    refine lv_iconst (v := nI 4) hx hb d_LW_law_47 (by decide +kernel) ?_
    refine lv_isub hx hb d_LW_law_48 ?_
    refine xw_top (nI 0) (by decide +kernel) ?_
    refine lv_icmp_gt (tgt := 827) hx hb d_LW_law_49 (by decide) (fun c_49 => ?_) (fun c_49 => ?_)
    · refine lv_iconst (v := nI 1) hx hb d_LW_law_827 (by decide +kernel) ?_
      refine xw_top 1 (by decide +kernel) ?_
      refine va_forget (fun q hq => hAs _ (hS.2.2 q hq)) ?_
      refine W.widen (k := 600002) (n := 7302198) (Nat.le_of_ble_eq_true rfl) (Nat.le_of_ble_eq_true rfl) ?_
      exact lw_ret hx hb hr hlocks d_LW_law_828
    · exact absurd c_49 (by decide +kernel)
  · refine lv_iload hx hb d_LW_law_43 (lv_at hl 0 rfl) ?_
    refine lv_aload_n hx hb d_LW_law_45 rfl (lv_at hl 4 rfl) ?_
    refine va_slen hx hb hX hbl hbA hS d_LW_law_46 ?_
    refine xw_top (nI 3) rfl ?_
    refine lv_iconst (v := nI 4) hx hb d_LW_law_47 (by decide +kernel) ?_
    refine lv_isub hx hb d_LW_law_48 ?_
    refine xw_top ((-1)) (by decide +kernel) ?_
    refine lv_icmp_gt (tgt := 827) hx hb d_LW_law_49 (by decide) (fun c_49 => ?_) (fun c_49 => ?_)
    · refine lv_iconst (v := nI 1) hx hb d_LW_law_827 (by decide +kernel) ?_
      refine xw_top 1 (by decide +kernel) ?_
      refine va_forget (fun q hq => hAs _ (hS.2.2 q hq)) ?_
      refine W.widen (k := 600002) (n := 7302198) (Nat.le_of_ble_eq_true rfl) (Nat.le_of_ble_eq_true rfl) ?_
      exact lw_ret hx hb hr hlocks d_LW_law_828
    · exact absurd c_49 (by decide +kernel)
  · refine lv_iload hx hb d_LW_law_43 (lv_at hl 0 rfl) ?_
    refine lv_aload_n hx hb d_LW_law_45 rfl (lv_at hl 4 rfl) ?_
    refine va_slen hx hb hX hbl hbA hS d_LW_law_46 ?_
    refine xw_top (nI 2) rfl ?_
    refine lv_iconst (v := nI 4) hx hb d_LW_law_47 (by decide +kernel) ?_
    refine lv_isub hx hb d_LW_law_48 ?_
    refine xw_top ((-2)) (by decide +kernel) ?_
    refine lv_icmp_gt (tgt := 827) hx hb d_LW_law_49 (by decide) (fun c_49 => ?_) (fun c_49 => ?_)
    · refine lv_iconst (v := nI 1) hx hb d_LW_law_827 (by decide +kernel) ?_
      refine xw_top 1 (by decide +kernel) ?_
      refine va_forget (fun q hq => hAs _ (hS.2.2 q hq)) ?_
      refine W.widen (k := 600002) (n := 7302198) (Nat.le_of_ble_eq_true rfl) (Nat.le_of_ble_eq_true rfl) ?_
      exact lw_ret hx hb hr hlocks d_LW_law_828
    · exact absurd c_49 (by decide +kernel)
  · refine lv_iload hx hb d_LW_law_43 (lv_at hl 0 rfl) ?_
    refine lv_aload_n hx hb d_LW_law_45 rfl (lv_at hl 4 rfl) ?_
    refine va_slen hx hb hX hbl hbA hS d_LW_law_46 ?_
    refine xw_top (nI 1) rfl ?_
    refine lv_iconst (v := nI 4) hx hb d_LW_law_47 (by decide +kernel) ?_
    refine lv_isub hx hb d_LW_law_48 ?_
    refine xw_top ((-3)) (by decide +kernel) ?_
    refine lv_icmp_gt (tgt := 827) hx hb d_LW_law_49 (by decide) (fun c_49 => ?_) (fun c_49 => ?_)
    · refine lv_iconst (v := nI 1) hx hb d_LW_law_827 (by decide +kernel) ?_
      refine xw_top 1 (by decide +kernel) ?_
      refine va_forget (fun q hq => hAs _ (hS.2.2 q hq)) ?_
      refine W.widen (k := 600002) (n := 7302198) (Nat.le_of_ble_eq_true rfl) (Nat.le_of_ble_eq_true rfl) ?_
      exact lw_ret hx hb hr hlocks d_LW_law_828
    · exact absurd c_49 (by decide +kernel)
  · refine lv_iload hx hb d_LW_law_43 (lv_at hl 0 rfl) ?_
    refine lv_aload_n hx hb d_LW_law_45 rfl (lv_at hl 4 rfl) ?_
    refine va_slen hx hb hX hbl hbA hS d_LW_law_46 ?_
    refine xw_top (nI 0) rfl ?_
    refine lv_iconst (v := nI 4) hx hb d_LW_law_47 (by decide +kernel) ?_
    refine lv_isub hx hb d_LW_law_48 ?_
    refine xw_top ((-4)) (by decide +kernel) ?_
    refine lv_icmp_gt (tgt := 827) hx hb d_LW_law_49 (by decide) (fun c_49 => ?_) (fun c_49 => ?_)
    · refine lv_iconst (v := nI 1) hx hb d_LW_law_827 (by decide +kernel) ?_
      refine xw_top 1 (by decide +kernel) ?_
      refine va_forget (fun q hq => hAs _ (hS.2.2 q hq)) ?_
      refine W.widen (k := 600002) (n := 7302198) (Nat.le_of_ble_eq_true rfl) (Nat.le_of_ble_eq_true rfl) ?_
      exact lw_ret hx hb hr hlocks d_LW_law_828
    · exact absurd c_49 (by decide +kernel)
