set_option maxHeartbeats 4000000 in
set_option maxRecDepth 100000 in
/-- new Queues -/
theorem c_QU_init (l : Launch) (D : va_G) (cI cB cL : ClassId) (h0 : Nat) (rm : Nat)  : xG (σ := Nat × Nat × Nat) l y_QU_init w_QU_init ({ frames := 1, cells := 19, slots := 176, locals := 12  } : Room) D vwCl (xs_tys cI cB cL) [.ref h0, .int (nI rm)] [(h0, .inr (5, [.int (nI 0), .null, .null, .null, .int (nI 0)]))] (fun (q1, q2, q3) => True) (fun (q1, q2, q3) => none) (fun (q1, q2, q3) => [(h0, .inr (5, [.int (nI rm), .ref q1, .ref q2, .ref q3, .int (nI 0)]))]) := by
  refine xG.of b_QU_init 2 (none) (by decide +kernel) rfl (Nat.le_of_ble_eq_true rfl) ?_
  intro p e s m below meth c A ls hAe C0 hP hD hS hl
  obtain ⟨hx, hb, hr, hml, hown, hlocks, hts, hnm, hN, hK, hA⟩ := C0
  have hU : ∀ w ∈ xU, w.before #[.ref h0, .int (nI rm)] s = true := fun w h => hts w (List.mem_cons_of_mem _ h)
  have hl : lv_has ls 2 [(0, .ref h0), (1, .int (nI rm))] := hl
  refine lv_aload_n hx hb d_QU_init_0 rfl (lv_at hl 0 rfl) ?_
  refine W.objInit hx hb hown (hU _ uw_244) (hU _ uw_27) (hU _ uw_28) rfl (by rw [hml]; exact hl.1) rfl d_QU_init_1 (Nat.le_of_ble_eq_true rfl) (Nat.le_of_ble_eq_true rfl) ?_
  refine W.eq (g2 := F0 m 4 ls []) rfl ?_
  refine lv_aload_n hx hb d_QU_init_4 rfl (lv_at hl 0 rfl) ?_
  refine lv_bipush (v := nI 16) hx hb d_QU_init_5 (by decide +kernel) ?_
  refine lv_bipush (v := nI 8) hx hb d_QU_init_7 (by decide +kernel) ?_
  refine xw_mna (N := 16) (K := 8) hx hb hown (hU _ uw_245) (hN _ nw_92) (hU _ uw_64) hP hD hS (by decide +kernel) (by decide +kernel) (by decide +kernel) (by decide +kernel) (by decide) (by decide) (Nat.le_of_ble_eq_true rfl) (Nat.le_of_ble_eq_true rfl) d_QU_init_9 (fun q_1 H hP hD hS => ?_)
  have hP : va_P D vwCl [(h0, .inr (5, [.int (nI 0), .null, .null, .null, .int (nI 0)]))] H := hP
  have hD : va_D A [(h0, .inr (5, [.int (nI 0), .null, .null, .null, .int (nI 0)]))] := hD
  refine W.widen (k := 17) (n := 144) (Nat.le_of_ble_eq_true rfl) (Nat.le_of_ble_eq_true rfl) ?_
  refine va_putF (D := D) (ci := 5) (v := .ref q_1) (ty := (.array (.array .int))) (C := R_QU) (T := T_QU) (N := 5) hx hb hU iw_QU ty_QU ty_QU_ok nm_QU hown hK hP hD hS 0 rfl rfl 1 (by decide) (hU _ uw_248) (fun _ h9 => h9) rfl hnm rfl (by decide +kernel) (by first | rfl | decide +kernel) (by first | rfl | decide +kernel) (Nat.le_of_ble_eq_true rfl) d_QU_init_13 (fun H locs hP hD hS => ?_)
  have hP : va_P D vwCl [(h0, .inr (5, [.int (nI 0), .ref q_1, .null, .null, .int (nI 0)]))] H := hP
  have hD : va_D A [(h0, .inr (5, [.int (nI 0), .ref q_1, .null, .null, .int (nI 0)]))] := hD
  refine lv_aload_n hx hb d_QU_init_16 rfl (lv_at hl 0 rfl) ?_
  refine lv_bipush (v := nI 16) hx hb d_QU_init_17 (by decide +kernel) ?_
  refine xw_newI (N := 16) hx hb (hU _ uw_64) hK 0 rfl hP hD hS hA (by decide +kernel) (by decide +kernel) (by decide) (Nat.le_of_ble_eq_true rfl) (Nat.le_of_ble_eq_true rfl) d_QU_init_19 (fun q_2 H hP hD hS => ?_)
  have hP : va_P D vwCl [(h0, .inr (5, [.int (nI 0), .ref q_1, .null, .null, .int (nI 0)])), (q_2, .inl (cI, 16, .inl (fun _ => 0)))] H := hP
  have hD : va_D A [(h0, .inr (5, [.int (nI 0), .ref q_1, .null, .null, .int (nI 0)])), (q_2, .inl (cI, 16, .inl (fun _ => 0)))] := hD
  refine W.widen (k := 18) (n := 160) (Nat.le_of_ble_eq_true rfl) (Nat.le_of_ble_eq_true rfl) ?_
  refine va_putF (D := D) (ci := 5) (v := .ref q_2) (ty := (.array .int)) (C := R_QU) (T := T_QU) (N := 5) hx hb hU iw_QU ty_QU ty_QU_ok nm_QU hown hK hP hD hS 0 rfl rfl 2 (by decide) (hU _ uw_249) (fun _ h9 => h9) rfl hnm rfl (by decide +kernel) (by first | rfl | decide +kernel) (by first | rfl | decide +kernel) (Nat.le_of_ble_eq_true rfl) d_QU_init_21 (fun H locs hP hD hS => ?_)
  have hP : va_P D vwCl [(h0, .inr (5, [.int (nI 0), .ref q_1, .ref q_2, .null, .int (nI 0)])), (q_2, .inl (cI, 16, .inl (fun _ => 0)))] H := hP
  have hD : va_D A [(h0, .inr (5, [.int (nI 0), .ref q_1, .ref q_2, .null, .int (nI 0)])), (q_2, .inl (cI, 16, .inl (fun _ => 0)))] := hD
  refine lv_aload_n hx hb d_QU_init_24 rfl (lv_at hl 0 rfl) ?_
  refine lv_bipush (v := nI 16) hx hb d_QU_init_25 (by decide +kernel) ?_
  refine xw_newI (N := 16) hx hb (hU _ uw_64) hK 0 rfl hP hD hS hA (by decide +kernel) (by decide +kernel) (by decide) (Nat.le_of_ble_eq_true rfl) (Nat.le_of_ble_eq_true rfl) d_QU_init_27 (fun q_3 H hP hD hS => ?_)
  have hP : va_P D vwCl [(h0, .inr (5, [.int (nI 0), .ref q_1, .ref q_2, .null, .int (nI 0)])), (q_2, .inl (cI, 16, .inl (fun _ => 0))), (q_3, .inl (cI, 16, .inl (fun _ => 0)))] H := hP
  have hD : va_D A [(h0, .inr (5, [.int (nI 0), .ref q_1, .ref q_2, .null, .int (nI 0)])), (q_2, .inl (cI, 16, .inl (fun _ => 0))), (q_3, .inl (cI, 16, .inl (fun _ => 0)))] := hD
  refine W.widen (k := 19) (n := 176) (Nat.le_of_ble_eq_true rfl) (Nat.le_of_ble_eq_true rfl) ?_
  refine va_putF (D := D) (ci := 5) (v := .ref q_3) (ty := (.array .int)) (C := R_QU) (T := T_QU) (N := 5) hx hb hU iw_QU ty_QU ty_QU_ok nm_QU hown hK hP hD hS 0 rfl rfl 3 (by decide) (hU _ uw_250) (fun _ h9 => h9) rfl hnm rfl (by decide +kernel) (by first | rfl | decide +kernel) (by first | rfl | decide +kernel) (Nat.le_of_ble_eq_true rfl) d_QU_init_29 (fun H locs hP hD hS => ?_)
  have hP : va_P D vwCl [(h0, .inr (5, [.int (nI 0), .ref q_1, .ref q_2, .ref q_3, .int (nI 0)])), (q_2, .inl (cI, 16, .inl (fun _ => 0))), (q_3, .inl (cI, 16, .inl (fun _ => 0)))] H := hP
  have hD : va_D A [(h0, .inr (5, [.int (nI 0), .ref q_1, .ref q_2, .ref q_3, .int (nI 0)])), (q_2, .inl (cI, 16, .inl (fun _ => 0))), (q_3, .inl (cI, 16, .inl (fun _ => 0)))] := hD
  refine lv_aload_n hx hb d_QU_init_32 rfl (lv_at hl 0 rfl) ?_
  refine lv_iload_n hx hb d_QU_init_33 rfl (lv_at hl 1 rfl) ?_
  refine va_putF (D := D) (ci := 5) (v := .int (nI rm)) (ty := .int) (C := R_QU) (T := T_QU) (N := 5) hx hb hU iw_QU ty_QU ty_QU_ok nm_QU hown hK hP hD hS 0 rfl rfl 0 (by decide) (hU _ uw_246) (fun _ h9 => h9) rfl hnm rfl (by decide +kernel) (by first | rfl | decide +kernel) (by first | rfl | decide +kernel) (Nat.le_of_ble_eq_true rfl) d_QU_init_34 (fun H locs hP hD hS => ?_)
  have hP : va_P D vwCl [(h0, .inr (5, [.int (nI rm), .ref q_1, .ref q_2, .ref q_3, .int (nI 0)])), (q_2, .inl (cI, 16, .inl (fun _ => 0))), (q_3, .inl (cI, 16, .inl (fun _ => 0)))] H := hP
  have hD : va_D A [(h0, .inr (5, [.int (nI rm), .ref q_1, .ref q_2, .ref q_3, .int (nI 0)])), (q_2, .inl (cI, 16, .inl (fun _ => 0))), (q_3, .inl (cI, 16, .inl (fun _ => 0)))] := hD
  have hP9 := xs_P_sub (w := [(h0, .inr (5, [.int (nI rm), .ref q_1, .ref q_2, .ref q_3, .int (nI 0)]))]) hP [0] rfl
  have hD9 := hD.sub (ws' := [(h0, .inr (5, [.int (nI rm), .ref q_1, .ref q_2, .ref q_3, .int (nI 0)]))]) [0] (by decide) rfl
  exact xw_vret (q_1, q_2, q_3) hx hb hr hlocks d_QU_init_37 (rfl) (trivial) hAe hP9 hD9 hS (Nat.le_of_ble_eq_true rfl) (Nat.le_of_ble_eq_true rfl)
set_option maxHeartbeats 4000000 in
set_option maxRecDepth 100000 in
/-- new Lists -/
theorem c_LI_init (l : Launch) (D : va_G) (cI cB cL : ClassId) (h0 : Nat)  : xG (σ := Unit) l y_LI_init w_LI_init ({ frames := 1, cells := 22, slots := 3296, locals := 12  } : Room) D vwCl (xs_tys cI cB cL) [.ref h0] [(h0, .inr (6, [.null, .null, .null, .null, .null, .null]))] (fun _ => True) (fun _ => none) (fun _ => []) := by
  refine xG.of b_LI_init 1 (none) (by decide +kernel) rfl (Nat.le_of_ble_eq_true rfl) ?_
  intro p e s m below meth c A ls hAe C0 hP hD hS hl
  obtain ⟨hx, hb, hr, hml, hown, hlocks, hts, hnm, hN, hK, hA⟩ := C0
  have hU : ∀ w ∈ xU, w.before #[.ref h0] s = true := fun w h => hts w (List.mem_cons_of_mem _ h)
  have hl : lv_has ls 1 [(0, .ref h0)] := hl
  refine lv_aload_n hx hb d_LI_init_0 rfl (lv_at hl 0 rfl) ?_
  refine W.objInit hx hb hown (hU _ uw_90) (hU _ uw_27) (hU _ uw_28) rfl (by rw [hml]; exact hl.1) rfl d_LI_init_1 (Nat.le_of_ble_eq_true rfl) (Nat.le_of_ble_eq_true rfl) ?_
  refine W.eq (g2 := F0 m 4 ls []) rfl ?_
  refine lv_aload_n hx hb d_LI_init_4 rfl (lv_at hl 0 rfl) ?_
  refine lv_bipush (v := nI 16) hx hb d_LI_init_5 (by decide +kernel) ?_
  refine lv_sipush (v := nI 200) hx hb d_LI_init_7 (by decide +kernel) ?_
  refine xw_mna (N := 16) (K := 200) hx hb hown (hU _ uw_91) (hN _ nw_92) (hU _ uw_64) hP hD hS (by decide +kernel) (by decide +kernel) (by decide +kernel) (by decide +kernel) (by decide) (by decide) (Nat.le_of_ble_eq_true rfl) (Nat.le_of_ble_eq_true rfl) d_LI_init_10 (fun q_1 H hP hD hS => ?_)
  have hP : va_P D vwCl [(h0, .inr (6, [.null, .null, .null, .null, .null, .null]))] H := hP
  have hD : va_D A [(h0, .inr (6, [.null, .null, .null, .null, .null, .null]))] := hD
  refine W.widen (k := 17) (n := 3216) (Nat.le_of_ble_eq_true rfl) (Nat.le_of_ble_eq_true rfl) ?_
  refine va_putF (D := D) (ci := 6) (v := .ref q_1) (ty := (.array (.array .int))) (C := R_LI) (T := T_LI) (N := 6) hx hb hU iw_LI ty_LI ty_LI_ok nm_LI hown hK hP hD hS 0 rfl rfl 0 (by decide) (hU _ uw_93) (fun _ h9 => h9) rfl hnm rfl (by decide +kernel) (by first | rfl | decide +kernel) (by first | rfl | decide +kernel) (Nat.le_of_ble_eq_true rfl) d_LI_init_14 (fun H locs hP hD hS => ?_)
  have hP : va_P D vwCl [(h0, .inr (6, [.ref q_1, .null, .null, .null, .null, .null]))] H := hP
  have hD : va_D A [(h0, .inr (6, [.ref q_1, .null, .null, .null, .null, .null]))] := hD
  refine lv_aload_n hx hb d_LI_init_17 rfl (lv_at hl 0 rfl) ?_
  refine lv_bipush (v := nI 16) hx hb d_LI_init_18 (by decide +kernel) ?_
  refine xw_newI (N := 16) hx hb (hU _ uw_64) hK 0 rfl hP hD hS hA (by decide +kernel) (by decide +kernel) (by decide) (Nat.le_of_ble_eq_true rfl) (Nat.le_of_ble_eq_true rfl) d_LI_init_20 (fun q_2 H hP hD hS => ?_)
  have hP : va_P D vwCl [(h0, .inr (6, [.ref q_1, .null, .null, .null, .null, .null])), (q_2, .inl (cI, 16, .inl (fun _ => 0)))] H := hP
  have hD : va_D A [(h0, .inr (6, [.ref q_1, .null, .null, .null, .null, .null])), (q_2, .inl (cI, 16, .inl (fun _ => 0)))] := hD
  refine W.widen (k := 18) (n := 3232) (Nat.le_of_ble_eq_true rfl) (Nat.le_of_ble_eq_true rfl) ?_
  refine va_putF (D := D) (ci := 6) (v := .ref q_2) (ty := (.array .int)) (C := R_LI) (T := T_LI) (N := 6) hx hb hU iw_LI ty_LI ty_LI_ok nm_LI hown hK hP hD hS 0 rfl rfl 1 (by decide) (hU _ uw_94) (fun _ h9 => h9) rfl hnm rfl (by decide +kernel) (by first | rfl | decide +kernel) (by first | rfl | decide +kernel) (Nat.le_of_ble_eq_true rfl) d_LI_init_22 (fun H locs hP hD hS => ?_)
  have hP : va_P D vwCl [(h0, .inr (6, [.ref q_1, .ref q_2, .null, .null, .null, .null])), (q_2, .inl (cI, 16, .inl (fun _ => 0)))] H := hP
  have hD : va_D A [(h0, .inr (6, [.ref q_1, .ref q_2, .null, .null, .null, .null])), (q_2, .inl (cI, 16, .inl (fun _ => 0)))] := hD
  refine lv_aload_n hx hb d_LI_init_25 rfl (lv_at hl 0 rfl) ?_
  refine lv_bipush (v := nI 16) hx hb d_LI_init_26 (by decide +kernel) ?_
  refine xw_newI (N := 16) hx hb (hU _ uw_64) hK 0 rfl hP hD hS hA (by decide +kernel) (by decide +kernel) (by decide) (Nat.le_of_ble_eq_true rfl) (Nat.le_of_ble_eq_true rfl) d_LI_init_28 (fun q_3 H hP hD hS => ?_)
  have hP : va_P D vwCl [(h0, .inr (6, [.ref q_1, .ref q_2, .null, .null, .null, .null])), (q_2, .inl (cI, 16, .inl (fun _ => 0))), (q_3, .inl (cI, 16, .inl (fun _ => 0)))] H := hP
  have hD : va_D A [(h0, .inr (6, [.ref q_1, .ref q_2, .null, .null, .null, .null])), (q_2, .inl (cI, 16, .inl (fun _ => 0))), (q_3, .inl (cI, 16, .inl (fun _ => 0)))] := hD
  refine W.widen (k := 19) (n := 3248) (Nat.le_of_ble_eq_true rfl) (Nat.le_of_ble_eq_true rfl) ?_
  refine va_putF (D := D) (ci := 6) (v := .ref q_3) (ty := (.array .int)) (C := R_LI) (T := T_LI) (N := 6) hx hb hU iw_LI ty_LI ty_LI_ok nm_LI hown hK hP hD hS 0 rfl rfl 2 (by decide) (hU _ uw_95) (fun _ h9 => h9) rfl hnm rfl (by decide +kernel) (by first | rfl | decide +kernel) (by first | rfl | decide +kernel) (Nat.le_of_ble_eq_true rfl) d_LI_init_30 (fun H locs hP hD hS => ?_)
  have hP : va_P D vwCl [(h0, .inr (6, [.ref q_1, .ref q_2, .ref q_3, .null, .null, .null])), (q_2, .inl (cI, 16, .inl (fun _ => 0))), (q_3, .inl (cI, 16, .inl (fun _ => 0)))] H := hP
  have hD : va_D A [(h0, .inr (6, [.ref q_1, .ref q_2, .ref q_3, .null, .null, .null])), (q_2, .inl (cI, 16, .inl (fun _ => 0))), (q_3, .inl (cI, 16, .inl (fun _ => 0)))] := hD
  refine lv_aload_n hx hb d_LI_init_33 rfl (lv_at hl 0 rfl) ?_
  refine lv_bipush (v := nI 16) hx hb d_LI_init_34 (by decide +kernel) ?_
  refine xw_newI (N := 16) hx hb (hU _ uw_64) hK 0 rfl hP hD hS hA (by decide +kernel) (by decide +kernel) (by decide) (Nat.le_of_ble_eq_true rfl) (Nat.le_of_ble_eq_true rfl) d_LI_init_36 (fun q_4 H hP hD hS => ?_)
  have hP : va_P D vwCl [(h0, .inr (6, [.ref q_1, .ref q_2, .ref q_3, .null, .null, .null])), (q_2, .inl (cI, 16, .inl (fun _ => 0))), (q_3, .inl (cI, 16, .inl (fun _ => 0))), (q_4, .inl (cI, 16, .inl (fun _ => 0)))] H := hP
  have hD : va_D A [(h0, .inr (6, [.ref q_1, .ref q_2, .ref q_3, .null, .null, .null])), (q_2, .inl (cI, 16, .inl (fun _ => 0))), (q_3, .inl (cI, 16, .inl (fun _ => 0))), (q_4, .inl (cI, 16, .inl (fun _ => 0)))] := hD
  refine W.widen (k := 20) (n := 3264) (Nat.le_of_ble_eq_true rfl) (Nat.le_of_ble_eq_true rfl) ?_
  refine va_putF (D := D) (ci := 6) (v := .ref q_4) (ty := (.array .int)) (C := R_LI) (T := T_LI) (N := 6) hx hb hU iw_LI ty_LI ty_LI_ok nm_LI hown hK hP hD hS 0 rfl rfl 3 (by decide) (hU _ uw_96) (fun _ h9 => h9) rfl hnm rfl (by decide +kernel) (by first | rfl | decide +kernel) (by first | rfl | decide +kernel) (Nat.le_of_ble_eq_true rfl) d_LI_init_38 (fun H locs hP hD hS => ?_)
  have hP : va_P D vwCl [(h0, .inr (6, [.ref q_1, .ref q_2, .ref q_3, .ref q_4, .null, .null])), (q_2, .inl (cI, 16, .inl (fun _ => 0))), (q_3, .inl (cI, 16, .inl (fun _ => 0))), (q_4, .inl (cI, 16, .inl (fun _ => 0)))] H := hP
  have hD : va_D A [(h0, .inr (6, [.ref q_1, .ref q_2, .ref q_3, .ref q_4, .null, .null])), (q_2, .inl (cI, 16, .inl (fun _ => 0))), (q_3, .inl (cI, 16, .inl (fun _ => 0))), (q_4, .inl (cI, 16, .inl (fun _ => 0)))] := hD
  refine lv_aload_n hx hb d_LI_init_41 rfl (lv_at hl 0 rfl) ?_
  refine lv_bipush (v := nI 16) hx hb d_LI_init_42 (by decide +kernel) ?_
  refine xw_newB (N := 16) hx hb (hU _ uw_115) hK 1 rfl hP hD hS hA (by decide +kernel) (by decide +kernel) (by decide) (Nat.le_of_ble_eq_true rfl) (Nat.le_of_ble_eq_true rfl) d_LI_init_44 (fun q_5 H hP hD hS => ?_)
  have hP : va_P D vwCl [(h0, .inr (6, [.ref q_1, .ref q_2, .ref q_3, .ref q_4, .null, .null])), (q_2, .inl (cI, 16, .inl (fun _ => 0))), (q_3, .inl (cI, 16, .inl (fun _ => 0))), (q_4, .inl (cI, 16, .inl (fun _ => 0))), (q_5, .inl (cB, 16, .inl (fun _ => 0)))] H := hP
  have hD : va_D A [(h0, .inr (6, [.ref q_1, .ref q_2, .ref q_3, .ref q_4, .null, .null])), (q_2, .inl (cI, 16, .inl (fun _ => 0))), (q_3, .inl (cI, 16, .inl (fun _ => 0))), (q_4, .inl (cI, 16, .inl (fun _ => 0))), (q_5, .inl (cB, 16, .inl (fun _ => 0)))] := hD
  refine W.widen (k := 21) (n := 3280) (Nat.le_of_ble_eq_true rfl) (Nat.le_of_ble_eq_true rfl) ?_
  refine va_putF (D := D) (ci := 6) (v := .ref q_5) (ty := (.array .boolean)) (C := R_LI) (T := T_LI) (N := 6) hx hb hU iw_LI ty_LI ty_LI_ok nm_LI hown hK hP hD hS 0 rfl rfl 4 (by decide) (hU _ uw_98) (fun _ h9 => h9) rfl hnm rfl (by decide +kernel) (by first | rfl | decide +kernel) (by first | rfl | decide +kernel) (Nat.le_of_ble_eq_true rfl) d_LI_init_46 (fun H locs hP hD hS => ?_)
  have hP : va_P D vwCl [(h0, .inr (6, [.ref q_1, .ref q_2, .ref q_3, .ref q_4, .ref q_5, .null])), (q_2, .inl (cI, 16, .inl (fun _ => 0))), (q_3, .inl (cI, 16, .inl (fun _ => 0))), (q_4, .inl (cI, 16, .inl (fun _ => 0))), (q_5, .inl (cB, 16, .inl (fun _ => 0)))] H := hP
  have hD : va_D A [(h0, .inr (6, [.ref q_1, .ref q_2, .ref q_3, .ref q_4, .ref q_5, .null])), (q_2, .inl (cI, 16, .inl (fun _ => 0))), (q_3, .inl (cI, 16, .inl (fun _ => 0))), (q_4, .inl (cI, 16, .inl (fun _ => 0))), (q_5, .inl (cB, 16, .inl (fun _ => 0)))] := hD
  refine lv_aload_n hx hb d_LI_init_49 rfl (lv_at hl 0 rfl) ?_
  refine lv_bipush (v := nI 16) hx hb d_LI_init_50 (by decide +kernel) ?_
  refine xw_newI (N := 16) hx hb (hU _ uw_64) hK 0 rfl hP hD hS hA (by decide +kernel) (by decide +kernel) (by decide) (Nat.le_of_ble_eq_true rfl) (Nat.le_of_ble_eq_true rfl) d_LI_init_52 (fun q_6 H hP hD hS => ?_)
  have hP : va_P D vwCl [(h0, .inr (6, [.ref q_1, .ref q_2, .ref q_3, .ref q_4, .ref q_5, .null])), (q_2, .inl (cI, 16, .inl (fun _ => 0))), (q_3, .inl (cI, 16, .inl (fun _ => 0))), (q_4, .inl (cI, 16, .inl (fun _ => 0))), (q_5, .inl (cB, 16, .inl (fun _ => 0))), (q_6, .inl (cI, 16, .inl (fun _ => 0)))] H := hP
  have hD : va_D A [(h0, .inr (6, [.ref q_1, .ref q_2, .ref q_3, .ref q_4, .ref q_5, .null])), (q_2, .inl (cI, 16, .inl (fun _ => 0))), (q_3, .inl (cI, 16, .inl (fun _ => 0))), (q_4, .inl (cI, 16, .inl (fun _ => 0))), (q_5, .inl (cB, 16, .inl (fun _ => 0))), (q_6, .inl (cI, 16, .inl (fun _ => 0)))] := hD
  refine W.widen (k := 22) (n := 3296) (Nat.le_of_ble_eq_true rfl) (Nat.le_of_ble_eq_true rfl) ?_
  refine va_putF (D := D) (ci := 6) (v := .ref q_6) (ty := (.array .int)) (C := R_LI) (T := T_LI) (N := 6) hx hb hU iw_LI ty_LI ty_LI_ok nm_LI hown hK hP hD hS 0 rfl rfl 5 (by decide) (hU _ uw_100) (fun _ h9 => h9) rfl hnm rfl (by decide +kernel) (by first | rfl | decide +kernel) (by first | rfl | decide +kernel) (Nat.le_of_ble_eq_true rfl) d_LI_init_54 (fun H locs hP hD hS => ?_)
  have hP : va_P D vwCl [(h0, .inr (6, [.ref q_1, .ref q_2, .ref q_3, .ref q_4, .ref q_5, .ref q_6])), (q_2, .inl (cI, 16, .inl (fun _ => 0))), (q_3, .inl (cI, 16, .inl (fun _ => 0))), (q_4, .inl (cI, 16, .inl (fun _ => 0))), (q_5, .inl (cB, 16, .inl (fun _ => 0))), (q_6, .inl (cI, 16, .inl (fun _ => 0)))] H := hP
  have hD : va_D A [(h0, .inr (6, [.ref q_1, .ref q_2, .ref q_3, .ref q_4, .ref q_5, .ref q_6])), (q_2, .inl (cI, 16, .inl (fun _ => 0))), (q_3, .inl (cI, 16, .inl (fun _ => 0))), (q_4, .inl (cI, 16, .inl (fun _ => 0))), (q_5, .inl (cB, 16, .inl (fun _ => 0))), (q_6, .inl (cI, 16, .inl (fun _ => 0)))] := hD
  have hP9 := xs_P_sub (w := []) hP [] rfl
  have hD9 := hD.sub (ws' := []) [] (by decide) rfl
  exact xw_vret () hx hb hr hlocks d_LI_init_57 (rfl) (trivial) hAe hP9 hD9 hS (Nat.le_of_ble_eq_true rfl) (Nat.le_of_ble_eq_true rfl)
set_option maxHeartbeats 4000000 in
set_option maxRecDepth 100000 in
/-- new Crew -/
theorem c_CR_init (l : Launch) (D : va_G) (cI cB cL : ClassId) (h0 : Nat) (wk : Nat) (hw0 : 0 < wk) (hw : wk ≤ 16) : xG (σ := Nat × Nat × Nat × Nat × Nat) l y_CR_init w_CR_init ({ frames := 1, cells := 5, slots := 264, locals := 22  } : Room) D vwCl (xs_tys cI cB cL) [.ref h0, .int (nI wk)] [(h0, .inr (4, [.int (nI 0), .null, .null, .null, .null, .null, .int (nI 0), .int (nI 0)]))] (fun (cf, cl, ct, ck, cs) => True) (fun (cf, cl, ct, ck, cs) => none) (fun (cf, cl, ct, ck, cs) => [(h0, .inr (4, [.int (nI wk), .ref cf, .ref cl, .ref ct, .ref ck, .ref cs, .int (nI wk), .int (nI 0)])), (cl, .inl (cB, 16, .inl (fun _ => nI 1))), (ct, .inl (cI, 16, .inl (fun _ => 0))), (ck, .inl (cI, 16, .inl (fun _ => 0))), (cs, .inl (cI, 16, .inl (fun _ => 0)))]) := by
  refine xG.of b_CR_init 3 (none) (by decide +kernel) rfl (Nat.le_of_ble_eq_true rfl) ?_
  intro p e s m below meth c A ls hAe C0 hP hD hS hl
  obtain ⟨hx, hb, hr, hml, hown, hlocks, hts, hnm, hN, hK, hA⟩ := C0
  have hU : ∀ w ∈ xU, w.before #[.ref h0, .int (nI wk)] s = true := fun w h => hts w (List.mem_cons_of_mem _ h)
  have hl : lv_has ls 3 [(0, .ref h0), (1, .int (nI wk))] := hl
  refine lv_aload_n hx hb d_CR_init_0 rfl (lv_at hl 0 rfl) ?_
  refine W.objInit hx hb hown (hU _ uw_189) (hU _ uw_27) (hU _ uw_28) rfl (by rw [hml]; exact hl.1) rfl d_CR_init_1 (Nat.le_of_ble_eq_true rfl) (Nat.le_of_ble_eq_true rfl) ?_
  refine W.eq (g2 := F0 m 4 ls []) rfl ?_
  refine lv_aload_n hx hb d_CR_init_4 rfl (lv_at hl 0 rfl) ?_
  refine lv_sipush (v := nI 200) hx hb d_CR_init_5 (by decide +kernel) ?_
  refine xw_newI (N := 200) hx hb (hU _ uw_64) hK 0 rfl hP hD hS hA (by decide +kernel) (by decide +kernel) (by decide) (Nat.le_of_ble_eq_true rfl) (Nat.le_of_ble_eq_true rfl) d_CR_init_8 (fun q_1 H hP hD hS => ?_)
  have hP : va_P D vwCl [(h0, .inr (4, [.int (nI 0), .null, .null, .null, .null, .null, .int (nI 0), .int (nI 0)])), (q_1, .inl (cI, 200, .inl (fun _ => 0)))] H := hP
  have hD : va_D A [(h0, .inr (4, [.int (nI 0), .null, .null, .null, .null, .null, .int (nI 0), .int (nI 0)])), (q_1, .inl (cI, 200, .inl (fun _ => 0)))] := hD
  refine W.widen (k := 1) (n := 200) (Nat.le_of_ble_eq_true rfl) (Nat.le_of_ble_eq_true rfl) ?_
  refine va_putF (D := D) (ci := 4) (v := .ref q_1) (ty := (.array .int)) (C := R_CR) (T := T_CR) (N := 8) hx hb hU iw_CR ty_CR ty_CR_ok nm_CR hown hK hP hD hS 0 rfl rfl 1 (by decide) (hU _ uw_205) (fun _ h9 => h9) rfl hnm rfl (by decide +kernel) (by first | rfl | decide +kernel) (by first | rfl | decide +kernel) (Nat.le_of_ble_eq_true rfl) d_CR_init_10 (fun H locs hP hD hS => ?_)
  have hP : va_P D vwCl [(h0, .inr (4, [.int (nI 0), .ref q_1, .null, .null, .null, .null, .int (nI 0), .int (nI 0)])), (q_1, .inl (cI, 200, .inl (fun _ => 0)))] H := hP
  have hD : va_D A [(h0, .inr (4, [.int (nI 0), .ref q_1, .null, .null, .null, .null, .int (nI 0), .int (nI 0)])), (q_1, .inl (cI, 200, .inl (fun _ => 0)))] := hD
  refine lv_aload_n hx hb d_CR_init_13 rfl (lv_at hl 0 rfl) ?_
  refine lv_bipush (v := nI 16) hx hb d_CR_init_14 (by decide +kernel) ?_
  refine xw_newB (N := 16) hx hb (hU _ uw_115) hK 1 rfl hP hD hS hA (by decide +kernel) (by decide +kernel) (by decide) (Nat.le_of_ble_eq_true rfl) (Nat.le_of_ble_eq_true rfl) d_CR_init_16 (fun q_2 H hP hD hS => ?_)
  have hP : va_P D vwCl [(h0, .inr (4, [.int (nI 0), .ref q_1, .null, .null, .null, .null, .int (nI 0), .int (nI 0)])), (q_1, .inl (cI, 200, .inl (fun _ => 0))), (q_2, .inl (cB, 16, .inl (fun _ => 0)))] H := hP
  have hD : va_D A [(h0, .inr (4, [.int (nI 0), .ref q_1, .null, .null, .null, .null, .int (nI 0), .int (nI 0)])), (q_1, .inl (cI, 200, .inl (fun _ => 0))), (q_2, .inl (cB, 16, .inl (fun _ => 0)))] := hD
  refine W.widen (k := 2) (n := 216) (Nat.le_of_ble_eq_true rfl) (Nat.le_of_ble_eq_true rfl) ?_
  refine va_putF (D := D) (ci := 4) (v := .ref q_2) (ty := (.array .boolean)) (C := R_CR) (T := T_CR) (N := 8) hx hb hU iw_CR ty_CR ty_CR_ok nm_CR hown hK hP hD hS 0 rfl rfl 2 (by decide) (hU _ uw_206) (fun _ h9 => h9) rfl hnm rfl (by decide +kernel) (by first | rfl | decide +kernel) (by first | rfl | decide +kernel) (Nat.le_of_ble_eq_true rfl) d_CR_init_18 (fun H locs hP hD hS => ?_)
  have hP : va_P D vwCl [(h0, .inr (4, [.int (nI 0), .ref q_1, .ref q_2, .null, .null, .null, .int (nI 0), .int (nI 0)])), (q_1, .inl (cI, 200, .inl (fun _ => 0))), (q_2, .inl (cB, 16, .inl (fun _ => 0)))] H := hP
  have hD : va_D A [(h0, .inr (4, [.int (nI 0), .ref q_1, .ref q_2, .null, .null, .null, .int (nI 0), .int (nI 0)])), (q_1, .inl (cI, 200, .inl (fun _ => 0))), (q_2, .inl (cB, 16, .inl (fun _ => 0)))] := hD
  refine lv_aload_n hx hb d_CR_init_21 rfl (lv_at hl 0 rfl) ?_
  refine lv_bipush (v := nI 16) hx hb d_CR_init_22 (by decide +kernel) ?_
  refine xw_newI (N := 16) hx hb (hU _ uw_64) hK 0 rfl hP hD hS hA (by decide +kernel) (by decide +kernel) (by decide) (Nat.le_of_ble_eq_true rfl) (Nat.le_of_ble_eq_true rfl) d_CR_init_24 (fun q_3 H hP hD hS => ?_)
  have hP : va_P D vwCl [(h0, .inr (4, [.int (nI 0), .ref q_1, .ref q_2, .null, .null, .null, .int (nI 0), .int (nI 0)])), (q_1, .inl (cI, 200, .inl (fun _ => 0))), (q_2, .inl (cB, 16, .inl (fun _ => 0))), (q_3, .inl (cI, 16, .inl (fun _ => 0)))] H := hP
  have hD : va_D A [(h0, .inr (4, [.int (nI 0), .ref q_1, .ref q_2, .null, .null, .null, .int (nI 0), .int (nI 0)])), (q_1, .inl (cI, 200, .inl (fun _ => 0))), (q_2, .inl (cB, 16, .inl (fun _ => 0))), (q_3, .inl (cI, 16, .inl (fun _ => 0)))] := hD
  refine W.widen (k := 3) (n := 232) (Nat.le_of_ble_eq_true rfl) (Nat.le_of_ble_eq_true rfl) ?_
  refine va_putF (D := D) (ci := 4) (v := .ref q_3) (ty := (.array .int)) (C := R_CR) (T := T_CR) (N := 8) hx hb hU iw_CR ty_CR ty_CR_ok nm_CR hown hK hP hD hS 0 rfl rfl 3 (by decide) (hU _ uw_208) (fun _ h9 => h9) rfl hnm rfl (by decide +kernel) (by first | rfl | decide +kernel) (by first | rfl | decide +kernel) (Nat.le_of_ble_eq_true rfl) d_CR_init_26 (fun H locs hP hD hS => ?_)
  have hP : va_P D vwCl [(h0, .inr (4, [.int (nI 0), .ref q_1, .ref q_2, .ref q_3, .null, .null, .int (nI 0), .int (nI 0)])), (q_1, .inl (cI, 200, .inl (fun _ => 0))), (q_2, .inl (cB, 16, .inl (fun _ => 0))), (q_3, .inl (cI, 16, .inl (fun _ => 0)))] H := hP
  have hD : va_D A [(h0, .inr (4, [.int (nI 0), .ref q_1, .ref q_2, .ref q_3, .null, .null, .int (nI 0), .int (nI 0)])), (q_1, .inl (cI, 200, .inl (fun _ => 0))), (q_2, .inl (cB, 16, .inl (fun _ => 0))), (q_3, .inl (cI, 16, .inl (fun _ => 0)))] := hD
  refine lv_aload_n hx hb d_CR_init_29 rfl (lv_at hl 0 rfl) ?_
  refine lv_bipush (v := nI 16) hx hb d_CR_init_30 (by decide +kernel) ?_
  refine xw_newI (N := 16) hx hb (hU _ uw_64) hK 0 rfl hP hD hS hA (by decide +kernel) (by decide +kernel) (by decide) (Nat.le_of_ble_eq_true rfl) (Nat.le_of_ble_eq_true rfl) d_CR_init_32 (fun q_4 H hP hD hS => ?_)
  have hP : va_P D vwCl [(h0, .inr (4, [.int (nI 0), .ref q_1, .ref q_2, .ref q_3, .null, .null, .int (nI 0), .int (nI 0)])), (q_1, .inl (cI, 200, .inl (fun _ => 0))), (q_2, .inl (cB, 16, .inl (fun _ => 0))), (q_3, .inl (cI, 16, .inl (fun _ => 0))), (q_4, .inl (cI, 16, .inl (fun _ => 0)))] H := hP
  have hD : va_D A [(h0, .inr (4, [.int (nI 0), .ref q_1, .ref q_2, .ref q_3, .null, .null, .int (nI 0), .int (nI 0)])), (q_1, .inl (cI, 200, .inl (fun _ => 0))), (q_2, .inl (cB, 16, .inl (fun _ => 0))), (q_3, .inl (cI, 16, .inl (fun _ => 0))), (q_4, .inl (cI, 16, .inl (fun _ => 0)))] := hD
  refine W.widen (k := 4) (n := 248) (Nat.le_of_ble_eq_true rfl) (Nat.le_of_ble_eq_true rfl) ?_
  refine va_putF (D := D) (ci := 4) (v := .ref q_4) (ty := (.array .int)) (C := R_CR) (T := T_CR) (N := 8) hx hb hU iw_CR ty_CR ty_CR_ok nm_CR hown hK hP hD hS 0 rfl rfl 4 (by decide) (hU _ uw_210) (fun _ h9 => h9) rfl hnm rfl (by decide +kernel) (by first | rfl | decide +kernel) (by first | rfl | decide +kernel) (Nat.le_of_ble_eq_true rfl) d_CR_init_34 (fun H locs hP hD hS => ?_)
  have hP : va_P D vwCl [(h0, .inr (4, [.int (nI 0), .ref q_1, .ref q_2, .ref q_3, .ref q_4, .null, .int (nI 0), .int (nI 0)])), (q_1, .inl (cI, 200, .inl (fun _ => 0))), (q_2, .inl (cB, 16, .inl (fun _ => 0))), (q_3, .inl (cI, 16, .inl (fun _ => 0))), (q_4, .inl (cI, 16, .inl (fun _ => 0)))] H := hP
  have hD : va_D A [(h0, .inr (4, [.int (nI 0), .ref q_1, .ref q_2, .ref q_3, .ref q_4, .null, .int (nI 0), .int (nI 0)])), (q_1, .inl (cI, 200, .inl (fun _ => 0))), (q_2, .inl (cB, 16, .inl (fun _ => 0))), (q_3, .inl (cI, 16, .inl (fun _ => 0))), (q_4, .inl (cI, 16, .inl (fun _ => 0)))] := hD
  refine lv_aload_n hx hb d_CR_init_37 rfl (lv_at hl 0 rfl) ?_
  refine lv_bipush (v := nI 16) hx hb d_CR_init_38 (by decide +kernel) ?_
  refine xw_newI (N := 16) hx hb (hU _ uw_64) hK 0 rfl hP hD hS hA (by decide +kernel) (by decide +kernel) (by decide) (Nat.le_of_ble_eq_true rfl) (Nat.le_of_ble_eq_true rfl) d_CR_init_40 (fun q_5 H hP hD hS => ?_)
  have hP : va_P D vwCl [(h0, .inr (4, [.int (nI 0), .ref q_1, .ref q_2, .ref q_3, .ref q_4, .null, .int (nI 0), .int (nI 0)])), (q_1, .inl (cI, 200, .inl (fun _ => 0))), (q_2, .inl (cB, 16, .inl (fun _ => 0))), (q_3, .inl (cI, 16, .inl (fun _ => 0))), (q_4, .inl (cI, 16, .inl (fun _ => 0))), (q_5, .inl (cI, 16, .inl (fun _ => 0)))] H := hP
  have hD : va_D A [(h0, .inr (4, [.int (nI 0), .ref q_1, .ref q_2, .ref q_3, .ref q_4, .null, .int (nI 0), .int (nI 0)])), (q_1, .inl (cI, 200, .inl (fun _ => 0))), (q_2, .inl (cB, 16, .inl (fun _ => 0))), (q_3, .inl (cI, 16, .inl (fun _ => 0))), (q_4, .inl (cI, 16, .inl (fun _ => 0))), (q_5, .inl (cI, 16, .inl (fun _ => 0)))] := hD
  refine W.widen (k := 5) (n := 264) (Nat.le_of_ble_eq_true rfl) (Nat.le_of_ble_eq_true rfl) ?_
  refine va_putF (D := D) (ci := 4) (v := .ref q_5) (ty := (.array .int)) (C := R_CR) (T := T_CR) (N := 8) hx hb hU iw_CR ty_CR ty_CR_ok nm_CR hown hK hP hD hS 0 rfl rfl 5 (by decide) (hU _ uw_213) (fun _ h9 => h9) rfl hnm rfl (by decide +kernel) (by first | rfl | decide +kernel) (by first | rfl | decide +kernel) (Nat.le_of_ble_eq_true rfl) d_CR_init_42 (fun H locs hP hD hS => ?_)
  have hP : va_P D vwCl [(h0, .inr (4, [.int (nI 0), .ref q_1, .ref q_2, .ref q_3, .ref q_4, .ref q_5, .int (nI 0), .int (nI 0)])), (q_1, .inl (cI, 200, .inl (fun _ => 0))), (q_2, .inl (cB, 16, .inl (fun _ => 0))), (q_3, .inl (cI, 16, .inl (fun _ => 0))), (q_4, .inl (cI, 16, .inl (fun _ => 0))), (q_5, .inl (cI, 16, .inl (fun _ => 0)))] H := hP
  have hD : va_D A [(h0, .inr (4, [.int (nI 0), .ref q_1, .ref q_2, .ref q_3, .ref q_4, .ref q_5, .int (nI 0), .int (nI 0)])), (q_1, .inl (cI, 200, .inl (fun _ => 0))), (q_2, .inl (cB, 16, .inl (fun _ => 0))), (q_3, .inl (cI, 16, .inl (fun _ => 0))), (q_4, .inl (cI, 16, .inl (fun _ => 0))), (q_5, .inl (cI, 16, .inl (fun _ => 0)))] := hD
  refine lv_aload_n hx hb d_CR_init_45 rfl (lv_at hl 0 rfl) ?_
  refine lv_iload_n hx hb d_CR_init_46 rfl (lv_at hl 1 rfl) ?_
  refine va_putF (D := D) (ci := 4) (v := .int (nI wk)) (ty := .int) (C := R_CR) (T := T_CR) (N := 8) hx hb hU iw_CR ty_CR ty_CR_ok nm_CR hown hK hP hD hS 0 rfl rfl 0 (by decide) (hU _ uw_202) (fun _ h9 => h9) rfl hnm rfl (by decide +kernel) (by first | rfl | decide +kernel) (by first | rfl | decide +kernel) (Nat.le_of_ble_eq_true rfl) d_CR_init_47 (fun H locs hP hD hS => ?_)
  have hP : va_P D vwCl [(h0, .inr (4, [.int (nI wk), .ref q_1, .ref q_2, .ref q_3, .ref q_4, .ref q_5, .int (nI 0), .int (nI 0)])), (q_1, .inl (cI, 200, .inl (fun _ => 0))), (q_2, .inl (cB, 16, .inl (fun _ => 0))), (q_3, .inl (cI, 16, .inl (fun _ => 0))), (q_4, .inl (cI, 16, .inl (fun _ => 0))), (q_5, .inl (cI, 16, .inl (fun _ => 0)))] H := hP
  have hD : va_D A [(h0, .inr (4, [.int (nI wk), .ref q_1, .ref q_2, .ref q_3, .ref q_4, .ref q_5, .int (nI 0), .int (nI 0)])), (q_1, .inl (cI, 200, .inl (fun _ => 0))), (q_2, .inl (cB, 16, .inl (fun _ => 0))), (q_3, .inl (cI, 16, .inl (fun _ => 0))), (q_4, .inl (cI, 16, .inl (fun _ => 0))), (q_5, .inl (cI, 16, .inl (fun _ => 0)))] := hD
  refine lv_aload_n hx hb d_CR_init_50 rfl (lv_at hl 0 rfl) ?_
  refine lv_iload_n hx hb d_CR_init_51 rfl (lv_at hl 1 rfl) ?_
  refine va_put (D := D) (ci := 4) (v := .int (nI wk)) (ty := .int) (C := R_CR) (T := T_CR) (N := 8) hx hb hU iw_CR ty_CR ty_CR_ok nm_CR hown hK hP hD hS 0 rfl rfl 6 (by decide) (hU _ uw_216) (fun _ h9 => h9) rfl (by decide +kernel) (by first | rfl | decide +kernel) (by first | rfl | decide +kernel) (Nat.le_of_ble_eq_true rfl) d_CR_init_52 (fun H locs hP hD hS => ?_)
  have hP : va_P D vwCl [(h0, .inr (4, [.int (nI wk), .ref q_1, .ref q_2, .ref q_3, .ref q_4, .ref q_5, .int (nI wk), .int (nI 0)])), (q_1, .inl (cI, 200, .inl (fun _ => 0))), (q_2, .inl (cB, 16, .inl (fun _ => 0))), (q_3, .inl (cI, 16, .inl (fun _ => 0))), (q_4, .inl (cI, 16, .inl (fun _ => 0))), (q_5, .inl (cI, 16, .inl (fun _ => 0)))] H := hP
  have hD : va_D A [(h0, .inr (4, [.int (nI wk), .ref q_1, .ref q_2, .ref q_3, .ref q_4, .ref q_5, .int (nI wk), .int (nI 0)])), (q_1, .inl (cI, 200, .inl (fun _ => 0))), (q_2, .inl (cB, 16, .inl (fun _ => 0))), (q_3, .inl (cI, 16, .inl (fun _ => 0))), (q_4, .inl (cI, 16, .inl (fun _ => 0))), (q_5, .inl (cI, 16, .inl (fun _ => 0)))] := hD
  refine lv_aload_n hx hb d_CR_init_55 rfl (lv_at hl 0 rfl) ?_
  refine va_get (D := D) (ci := 4) (v := .ref q_2) (C := R_CR) (T := T_CR) (N := 8) hx hb hU iw_CR hown hK hP 0 rfl rfl 2 (by decide) (hU _ uw_206) (fun _ h9 => h9) rfl d_CR_init_56 ?_
  refine lv_iconst (v := nI 1) hx hb d_CR_init_59 (by decide +kernel) ?_
  refine xw_callSN (wr := [(h0, .inr (4, [.int (nI wk), .ref q_1, .ref q_2, .ref q_3, .ref q_4, .ref q_5, .int (nI wk), .int (nI 0)])), (q_1, .inl (cI, 200, .inl (fun _ => 0))), (q_3, .inl (cI, 16, .inl (fun _ => 0))), (q_4, .inl (cI, 16, .inl (fun _ => 0))), (q_5, .inl (cI, 16, .inl (fun _ => 0)))]) [.ref q_2, .int (nI 1)] (c_fillFlags l D cI cB cL q_2 16 (fun _ => 0) (nI 1) (by decide) (by first | exact Or.inl rfl | exact Or.inr rfl)) ⟨hx, hb, hml, hown, hU⟩ ⟨va_cnB 2 hU (xs_good uw_192) rfl rfl rfl (hN _ nw_190) (hU _ uw_1) (by decide +kernel) ⟨Nat.le_of_ble_eq_true rfl, Nat.le_of_ble_eq_true rfl⟩, hU _ uw_191, trivial⟩ rfl hl.1 rfl (Nat.le_of_ble_eq_true rfl) d_CR_init_60 ⟨Nat.le_of_ble_eq_true rfl, Nat.le_of_ble_eq_true rfl⟩ [2] [0, 1, 3, 4, 5] rfl rfl (by decide) (by decide) (by decide) hN hK hP hD hS hA (fun u H locs hf hP hD hS => ?_)
  have hP : va_P D vwCl [(h0, .inr (4, [.int (nI wk), .ref q_1, .ref q_2, .ref q_3, .ref q_4, .ref q_5, .int (nI wk), .int (nI 0)])), (q_1, .inl (cI, 200, .inl (fun _ => 0))), (q_3, .inl (cI, 16, .inl (fun _ => 0))), (q_4, .inl (cI, 16, .inl (fun _ => 0))), (q_5, .inl (cI, 16, .inl (fun _ => 0))), (q_2, .inl (cB, 16, .inl (fun _ => (nI 1))))] H := hP
  have hD : va_D A [(h0, .inr (4, [.int (nI wk), .ref q_1, .ref q_2, .ref q_3, .ref q_4, .ref q_5, .int (nI wk), .int (nI 0)])), (q_1, .inl (cI, 200, .inl (fun _ => 0))), (q_3, .inl (cI, 16, .inl (fun _ => 0))), (q_4, .inl (cI, 16, .inl (fun _ => 0))), (q_5, .inl (cI, 16, .inl (fun _ => 0))), (q_2, .inl (cB, 16, .inl (fun _ => (nI 1))))] := hD
  refine W.widen (k := 5) (n := 264) (Nat.le_of_ble_eq_true rfl) (Nat.le_of_ble_eq_true rfl) ?_
  refine W.eq (g2 := F0 m 63 ls []) rfl ?_
  refine lv_iconst (v := nI 0) hx hb d_CR_init_63 (by decide +kernel) ?_
  refine lv_istore_n (lv' := [(2, .int (nI 0)), (0, .ref h0), (1, .int (nI wk))]) hx hb d_CR_init_64 rfl hl (by decide) rfl (fun ls hl => ?_)
  refine W.widen (k := 5) (n := 264) (Nat.le_of_ble_eq_true rfl) (Nat.le_of_ble_eq_true rfl) ?_
  have lp_65 : ∀ (fu : Nat) (i : Nat) (f9 : Nat → Int32) (H : Heap) (locs : List Loc) (ls : Array Slot), (i + fu = 200) → va_P D vwCl [(h0, .inr (4, [.int (nI wk), .ref q_1, .ref q_2, .ref q_3, .ref q_4, .ref q_5, .int (nI wk), .int (nI 0)])), (q_1, .inl (cI, 200, .inl f9)), (q_3, .inl (cI, 16, .inl (fun _ => 0))), (q_4, .inl (cI, 16, .inl (fun _ => 0))), (q_5, .inl (cI, 16, .inl (fun _ => 0))), (q_2, .inl (cB, 16, .inl (fun _ => (nI 1))))] H → va_D A [(h0, .inr (4, [.int (nI wk), .ref q_1, .ref q_2, .ref q_3, .ref q_4, .ref q_5, .int (nI wk), .int (nI 0)])), (q_1, .inl (cI, 200, .inl f9)), (q_3, .inl (cI, 16, .inl (fun _ => 0))), (q_4, .inl (cI, 16, .inl (fun _ => 0))), (q_5, .inl (cI, 16, .inl (fun _ => 0))), (q_2, .inl (cB, 16, .inl (fun _ => (nI 1))))] → va_S A s.heap H locs → lv_has ls 3 [(2, .int (nI i)), (0, .ref h0), (1, .int (nI wk))] → W p l e (headSpec w_CR_init ({ frames := 1, cells := 5, slots := 264, locals := 22  } : Room)).room s m #[.ref h0, .int (nI wk)] below meth c H locs 5 264 (xZ (σ := Nat × Nat × Nat × Nat × Nat) below #[.ref h0, .int (nI wk)] s D vwCl [(h0, .inr (4, [.int (nI 0), .null, .null, .null, .null, .null, .int (nI 0), .int (nI 0)]))] s.heap.size ({ frames := 1, cells := 5, slots := 264, locals := 22  } : Room).cells ({ frames := 1, cells := 5, slots := 264, locals := 22  } : Room).slots (fun (cf, cl, ct, ck, cs) => True) (fun (cf, cl, ct, ck, cs) => none) (fun (cf, cl, ct, ck, cs) => [(h0, .inr (4, [.int (nI wk), .ref cf, .ref cl, .ref ct, .ref ck, .ref cs, .int (nI wk), .int (nI 0)])), (cl, .inl (cB, 16, .inl (fun _ => nI 1))), (ct, .inl (cI, 16, .inl (fun _ => 0))), (ck, .inl (cI, 16, .inl (fun _ => 0))), (cs, .inl (cI, 16, .inl (fun _ => 0)))])) (F0 m 65 ls []) := by
    intro fu
    induction fu with
    | zero =>
      intro i f9 H locs ls hi hP hD hS hl
      refine lv_iload_n hx hb d_CR_init_65 rfl (lv_at hl 0 rfl) ?_
      refine lv_sipush (v := nI 200) hx hb d_CR_init_66 (by decide +kernel) ?_
      refine lv_icmp_ge (tgt := 92) hx hb d_CR_init_69 (by decide) (fun c_69 => ?_) (fun c_69 => ?_)
      · have hP9 := xs_P_sub (w := [(h0, .inr (4, [.int (nI wk), .ref q_1, .ref q_2, .ref q_3, .ref q_4, .ref q_5, .int (nI wk), .int (nI 0)])), (q_2, .inl (cB, 16, .inl (fun _ => (nI 1)))), (q_3, .inl (cI, 16, .inl (fun _ => 0))), (q_4, .inl (cI, 16, .inl (fun _ => 0))), (q_5, .inl (cI, 16, .inl (fun _ => 0)))]) hP [0, 5, 2, 3, 4] rfl
        have hD9 := hD.sub (ws' := [(h0, .inr (4, [.int (nI wk), .ref q_1, .ref q_2, .ref q_3, .ref q_4, .ref q_5, .int (nI wk), .int (nI 0)])), (q_2, .inl (cB, 16, .inl (fun _ => (nI 1)))), (q_3, .inl (cI, 16, .inl (fun _ => 0))), (q_4, .inl (cI, 16, .inl (fun _ => 0))), (q_5, .inl (cI, 16, .inl (fun _ => 0)))]) [0, 5, 2, 3, 4] (by decide) rfl
        exact xw_vret (q_1, q_2, q_3, q_4, q_5) hx hb hr hlocks d_CR_init_92 (rfl) (trivial) hAe hP9 hD9 hS (Nat.le_of_ble_eq_true rfl) (Nat.le_of_ble_eq_true rfl)
      · exact absurd (nI_le (a := 200) (b := i) (by omega) (by omega)) c_69
    | succ fu ih =>
      intro i f9 H locs ls hi hP hD hS hl
      refine lv_iload_n hx hb d_CR_init_65 rfl (lv_at hl 0 rfl) ?_
      refine lv_sipush (v := nI 200) hx hb d_CR_init_66 (by decide +kernel) ?_
      refine lv_icmp_ge (tgt := 92) hx hb d_CR_init_69 (by decide) (fun c_69 => ?_) (fun c_69 => ?_)
      · exact absurd c_69 (nI_ge (by omega) (by omega))
      · refine lv_aload_n hx hb d_CR_init_72 rfl (lv_at hl 1 rfl) ?_
        refine va_get (D := D) (ci := 4) (v := .ref q_1) (C := R_CR) (T := T_CR) (N := 8) hx hb hU iw_CR hown hK hP 0 rfl rfl 1 (by decide) (hU _ uw_205) (fun _ h9 => h9) rfl d_CR_init_73 ?_
        refine lv_iload_n hx hb d_CR_init_76 rfl (lv_at hl 0 rfl) ?_
        refine lv_iload_n hx hb d_CR_init_77 rfl (lv_at hl 2 rfl) ?_
        refine lv_iload_n hx hb d_CR_init_78 rfl (lv_at hl 0 rfl) ?_
        refine xw_callSN (wr := [(h0, .inr (4, [.int (nI wk), .ref q_1, .ref q_2, .ref q_3, .ref q_4, .ref q_5, .int (nI wk), .int (nI 0)])), (q_1, .inl (cI, 200, .inl f9)), (q_3, .inl (cI, 16, .inl (fun _ => 0))), (q_4, .inl (cI, 16, .inl (fun _ => 0))), (q_5, .inl (cI, 16, .inl (fun _ => 0))), (q_2, .inl (cB, 16, .inl (fun _ => (nI 1))))]) [.int (nI i)] (c_numberBehind l D cI cB cL (nI i)) ⟨hx, hb, hml, hown, hU⟩ ⟨va_cnB 1 hU (xs_good uw_195) rfl rfl rfl (hN _ nw_193) (hU _ uw_1) (by decide +kernel) ⟨Nat.le_of_ble_eq_true rfl, Nat.le_of_ble_eq_true rfl⟩, hU _ uw_194, trivial⟩ rfl hl.1 rfl (Nat.le_of_ble_eq_true rfl) d_CR_init_79 ⟨Nat.le_of_ble_eq_true rfl, Nat.le_of_ble_eq_true rfl⟩ [] [0, 1, 2, 3, 4, 5] rfl rfl (by decide) (by decide) (by decide) hN hK hP hD hS hA (fun u H locs hf hP hD hS => ?_)
        have hP : va_P D vwCl [(h0, .inr (4, [.int (nI wk), .ref q_1, .ref q_2, .ref q_3, .ref q_4, .ref q_5, .int (nI wk), .int (nI 0)])), (q_1, .inl (cI, 200, .inl f9)), (q_3, .inl (cI, 16, .inl (fun _ => 0))), (q_4, .inl (cI, 16, .inl (fun _ => 0))), (q_5, .inl (cI, 16, .inl (fun _ => 0))), (q_2, .inl (cB, 16, .inl (fun _ => (nI 1))))] H := hP
        have hD : va_D A [(h0, .inr (4, [.int (nI wk), .ref q_1, .ref q_2, .ref q_3, .ref q_4, .ref q_5, .int (nI wk), .int (nI 0)])), (q_1, .inl (cI, 200, .inl f9)), (q_3, .inl (cI, 16, .inl (fun _ => 0))), (q_4, .inl (cI, 16, .inl (fun _ => 0))), (q_5, .inl (cI, 16, .inl (fun _ => 0))), (q_2, .inl (cB, 16, .inl (fun _ => (nI 1))))] := hD
        refine W.widen (k := 5) (n := 264) (Nat.le_of_ble_eq_true rfl) (Nat.le_of_ble_eq_true rfl) ?_
        refine W.eq (g2 := F0 m 82 ls [.int ((nI 1103515245 * (nI i) + nI 12345) &&& nI 2147483647), .int (nI wk), .int (nI i), .ref q_1]) rfl ?_
        refine xw_callSN (wr := [(h0, .inr (4, [.int (nI wk), .ref q_1, .ref q_2, .ref q_3, .ref q_4, .ref q_5, .int (nI wk), .int (nI 0)])), (q_1, .inl (cI, 200, .inl f9)), (q_3, .inl (cI, 16, .inl (fun _ => 0))), (q_4, .inl (cI, 16, .inl (fun _ => 0))), (q_5, .inl (cI, 16, .inl (fun _ => 0))), (q_2, .inl (cB, 16, .inl (fun _ => (nI 1))))]) [.int (nI wk), .int ((nI 1103515245 * (nI i) + nI 12345) &&& nI 2147483647)] (c_oneOf l D cI cB cL wk ((nI 1103515245 * (nI i) + nI 12345) &&& nI 2147483647) (by omega) (by omega)) ⟨hx, hb, hml, hown, hU⟩ ⟨va_cnB 2 hU (xs_good uw_200) rfl rfl rfl (hN _ nw_198) (hU _ uw_1) (by decide +kernel) ⟨Nat.le_of_ble_eq_true rfl, Nat.le_of_ble_eq_true rfl⟩, hU _ uw_199, trivial⟩ rfl hl.1 rfl (Nat.le_of_ble_eq_true rfl) d_CR_init_82 ⟨Nat.le_of_ble_eq_true rfl, Nat.le_of_ble_eq_true rfl⟩ [] [0, 1, 2, 3, 4, 5] rfl rfl (by decide) (by decide) (by decide) hN hK hP hD hS hA (fun u H locs hf hP hD hS => ?_)
        obtain ⟨v_6, rfl⟩ : ∃ z, z = u := ⟨_, rfl⟩
        have hP : va_P D vwCl [(h0, .inr (4, [.int (nI wk), .ref q_1, .ref q_2, .ref q_3, .ref q_4, .ref q_5, .int (nI wk), .int (nI 0)])), (q_1, .inl (cI, 200, .inl f9)), (q_3, .inl (cI, 16, .inl (fun _ => 0))), (q_4, .inl (cI, 16, .inl (fun _ => 0))), (q_5, .inl (cI, 16, .inl (fun _ => 0))), (q_2, .inl (cB, 16, .inl (fun _ => (nI 1))))] H := hP
        have hD : va_D A [(h0, .inr (4, [.int (nI wk), .ref q_1, .ref q_2, .ref q_3, .ref q_4, .ref q_5, .int (nI wk), .int (nI 0)])), (q_1, .inl (cI, 200, .inl f9)), (q_3, .inl (cI, 16, .inl (fun _ => 0))), (q_4, .inl (cI, 16, .inl (fun _ => 0))), (q_5, .inl (cI, 16, .inl (fun _ => 0))), (q_2, .inl (cB, 16, .inl (fun _ => (nI 1))))] := hD
        refine W.widen (k := 5) (n := 264) (Nat.le_of_ble_eq_true rfl) (Nat.le_of_ble_eq_true rfl) ?_
        refine W.eq (g2 := F0 m 85 ls [.int v_6, .int (nI i), .ref q_1]) rfl ?_
        refine xw_ist hx hb hK hP hD hS 1 0 rfl rfl (by omega) (by decide) d_CR_init_85 (fun H locs hP hD hS => ?_)
        have hP : va_P D vwCl [(h0, .inr (4, [.int (nI wk), .ref q_1, .ref q_2, .ref q_3, .ref q_4, .ref q_5, .int (nI wk), .int (nI 0)])), (q_1, .inl (cI, 200, .inl (upd f9 i v_6))), (q_3, .inl (cI, 16, .inl (fun _ => 0))), (q_4, .inl (cI, 16, .inl (fun _ => 0))), (q_5, .inl (cI, 16, .inl (fun _ => 0))), (q_2, .inl (cB, 16, .inl (fun _ => (nI 1))))] H := hP
        have hD : va_D A [(h0, .inr (4, [.int (nI wk), .ref q_1, .ref q_2, .ref q_3, .ref q_4, .ref q_5, .int (nI wk), .int (nI 0)])), (q_1, .inl (cI, 200, .inl (upd f9 i v_6))), (q_3, .inl (cI, 16, .inl (fun _ => 0))), (q_4, .inl (cI, 16, .inl (fun _ => 0))), (q_5, .inl (cI, 16, .inl (fun _ => 0))), (q_2, .inl (cB, 16, .inl (fun _ => (nI 1))))] := hD
        refine lv_iinc (v := nI (i + 1)) (lv' := [(2, .int (nI (i + 1))), (0, .ref h0), (1, .int (nI wk))]) hx hb d_CR_init_86 hl (k := 0) rfl (xs_inc i 1) (by decide) rfl (fun ls hl => ?_)
        refine lv_goto (tgt := 65) hx hb d_CR_init_89 (by decide) ?_
        exact ih (i + 1) (upd f9 i v_6) _ _ _ (by omega) (xs_P_sub hP [0, 1, 2, 3, 4, 5] rfl) (hD.sub [0, 1, 2, 3, 4, 5] (by decide) rfl) hS (lv_sub hl [0, 1, 2] rfl)
  exact lp_65 (200) 0 (fun _ => 0) _ _ _ (by omega) hP hD hS (lv_sub hl [0, 1, 2] rfl)
