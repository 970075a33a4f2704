set_option maxHeartbeats 4000000 in
set_option maxRecDepth 100000 in
/-- new Net -/
theorem c_NET_init (l : Launch) (D : va_G) (cI cB cL : ClassId) (h0 : Nat)  : xG (σ := Nat × Nat) l y_NET_init w_NET_init ({ frames := 1, cells := 2, slots := 801, locals := 12  } : Room) D vwCl (xs_tys cI cB cL) [.ref h0] [(h0, .inr (1, [.int (nI 0), .int (nI 0), .null, .null]))] (fun (q1, q2) => True) (fun (q1, q2) => none) (fun (q1, q2) => [(h0, .inr (1, [.int (nI 0), .int (nI 0), .ref q1, .ref q2]))]) := by
  refine xG.of b_NET_init 1 (none) (by decide +kernel) rfl (Nat.le_of_ble_eq_true rfl) ?_
  intro p e s m below meth c A ls hAe C0 hP hD hS hl
  obtain ⟨hx, hb, hr, hml, hown, hlocks, hts, hnm, hN, hK, hA⟩ := C0
  have hU : ∀ w ∈ xU, w.before #[.ref h0] s = true := fun w h => hts w (List.mem_cons_of_mem _ h)
  have hl : lv_has ls 1 [(0, .ref h0)] := hl
  refine lv_aload_n hx hb d_NET_init_0 rfl (lv_at hl 0 rfl) ?_
  refine W.objInit hx hb hown (hU _ uw_43) (hU _ uw_27) (hU _ uw_28) rfl (by rw [hml]; exact hl.1) rfl d_NET_init_1 (Nat.le_of_ble_eq_true rfl) (Nat.le_of_ble_eq_true rfl) ?_
  refine W.eq (g2 := F0 m 4 ls []) rfl ?_
  refine lv_aload_n hx hb d_NET_init_4 rfl (lv_at hl 0 rfl) ?_
  refine lv_sipush (v := nI 201) hx hb d_NET_init_5 (by decide +kernel) ?_
  refine xw_newI (N := 201) hx hb (hU _ uw_64) hK 0 rfl hP hD hS hA (by decide +kernel) (by decide +kernel) (by decide) (Nat.le_of_ble_eq_true rfl) (Nat.le_of_ble_eq_true rfl) d_NET_init_8 (fun q_1 H hP hD hS => ?_)
  have hP : va_P D vwCl [(h0, .inr (1, [.int (nI 0), .int (nI 0), .null, .null])), (q_1, .inl (cI, 201, .inl (fun _ => 0)))] H := hP
  have hD : va_D A [(h0, .inr (1, [.int (nI 0), .int (nI 0), .null, .null])), (q_1, .inl (cI, 201, .inl (fun _ => 0)))] := hD
  refine W.widen (k := 1) (n := 201) (Nat.le_of_ble_eq_true rfl) (Nat.le_of_ble_eq_true rfl) ?_
  refine va_putF (D := D) (ci := 1) (v := .ref q_1) (ty := (.array .int)) (C := R_NET) (T := T_NET) (N := 4) hx hb hU iw_NET ty_NET ty_NET_ok nm_NET hown hK hP hD hS 0 rfl rfl 2 (by decide) (hU _ uw_49) (fun _ h9 => h9) rfl hnm rfl (by decide +kernel) (by first | rfl | decide +kernel) (by first | rfl | decide +kernel) (Nat.le_of_ble_eq_true rfl) d_NET_init_10 (fun H locs hP hD hS => ?_)
  have hP : va_P D vwCl [(h0, .inr (1, [.int (nI 0), .int (nI 0), .ref q_1, .null])), (q_1, .inl (cI, 201, .inl (fun _ => 0)))] H := hP
  have hD : va_D A [(h0, .inr (1, [.int (nI 0), .int (nI 0), .ref q_1, .null])), (q_1, .inl (cI, 201, .inl (fun _ => 0)))] := hD
  refine lv_aload_n hx hb d_NET_init_13 rfl (lv_at hl 0 rfl) ?_
  refine lv_sipush (v := nI 600) hx hb d_NET_init_14 (by decide +kernel) ?_
  refine xw_newI (N := 600) hx hb (hU _ uw_64) hK 0 rfl hP hD hS hA (by decide +kernel) (by decide +kernel) (by decide) (Nat.le_of_ble_eq_true rfl) (Nat.le_of_ble_eq_true rfl) d_NET_init_17 (fun q_2 H hP hD hS => ?_)
  have hP : va_P D vwCl [(h0, .inr (1, [.int (nI 0), .int (nI 0), .ref q_1, .null])), (q_1, .inl (cI, 201, .inl (fun _ => 0))), (q_2, .inl (cI, 600, .inl (fun _ => 0)))] H := hP
  have hD : va_D A [(h0, .inr (1, [.int (nI 0), .int (nI 0), .ref q_1, .null])), (q_1, .inl (cI, 201, .inl (fun _ => 0))), (q_2, .inl (cI, 600, .inl (fun _ => 0)))] := hD
  refine W.widen (k := 2) (n := 801) (Nat.le_of_ble_eq_true rfl) (Nat.le_of_ble_eq_true rfl) ?_
  refine va_putF (D := D) (ci := 1) (v := .ref q_2) (ty := (.array .int)) (C := R_NET) (T := T_NET) (N := 4) hx hb hU iw_NET ty_NET ty_NET_ok nm_NET hown hK hP hD hS 0 rfl rfl 3 (by decide) (hU _ uw_52) (fun _ h9 => h9) rfl hnm rfl (by decide +kernel) (by first | rfl | decide +kernel) (by first | rfl | decide +kernel) (Nat.le_of_ble_eq_true rfl) d_NET_init_19 (fun H locs hP hD hS => ?_)
  have hP : va_P D vwCl [(h0, .inr (1, [.int (nI 0), .int (nI 0), .ref q_1, .ref q_2])), (q_1, .inl (cI, 201, .inl (fun _ => 0))), (q_2, .inl (cI, 600, .inl (fun _ => 0)))] H := hP
  have hD : va_D A [(h0, .inr (1, [.int (nI 0), .int (nI 0), .ref q_1, .ref q_2])), (q_1, .inl (cI, 201, .inl (fun _ => 0))), (q_2, .inl (cI, 600, .inl (fun _ => 0)))] := hD
  have hP9 := xs_P_sub (w := [(h0, .inr (1, [.int (nI 0), .int (nI 0), .ref q_1, .ref q_2]))]) hP [0] rfl
  have hD9 := hD.sub (ws' := [(h0, .inr (1, [.int (nI 0), .int (nI 0), .ref q_1, .ref q_2]))]) [0] (by decide) rfl
  exact xw_vret (q_1, q_2) hx hb hr hlocks d_NET_init_22 (rfl) (trivial) hAe hP9 hD9 hS (Nat.le_of_ble_eq_true rfl) (Nat.le_of_ble_eq_true rfl)
set_option maxHeartbeats 4000000 in
set_option maxRecDepth 100000 in
/-- new FailPlan -/
theorem c_FP_init (l : Launch) (D : va_G) (cI cB cL : ClassId) (h0 : Nat)  : xG (σ := Nat × Nat × Nat) l y_FP_init w_FP_init ({ frames := 1, cells := 3, slots := 60, locals := 12  } : Room) D vwCl (xs_tys cI cB cL) [.ref h0] [(h0, .inr (2, [.null, .null, .null, .int (nI 0)]))] (fun (q1, q2, q3) => True) (fun (q1, q2, q3) => none) (fun (q1, q2, q3) => [(h0, .inr (2, [.ref q1, .ref q2, .ref q3, .int (nI 0)])), (q1, .inl (cI, 20, .inl (fun _ => 0))), (q2, .inl (cI, 20, .inl (fun _ => 0))), (q3, .inl (cI, 20, .inl (fun _ => 0)))]) := by
  refine xG.of b_FP_init 1 (none) (by decide +kernel) rfl (Nat.le_of_ble_eq_true rfl) ?_
  intro p e s m below meth c A ls hAe C0 hP hD hS hl
  obtain ⟨hx, hb, hr, hml, hown, hlocks, hts, hnm, hN, hK, hA⟩ := C0
  have hU : ∀ w ∈ xU, w.before #[.ref h0] s = true := fun w h => hts w (List.mem_cons_of_mem _ h)
  have hl : lv_has ls 1 [(0, .ref h0)] := hl
  refine lv_aload_n hx hb d_FP_init_0 rfl (lv_at hl 0 rfl) ?_
  refine W.objInit hx hb hown (hU _ uw_70) (hU _ uw_27) (hU _ uw_28) rfl (by rw [hml]; exact hl.1) rfl d_FP_init_1 (Nat.le_of_ble_eq_true rfl) (Nat.le_of_ble_eq_true rfl) ?_
  refine W.eq (g2 := F0 m 4 ls []) rfl ?_
  refine lv_aload_n hx hb d_FP_init_4 rfl (lv_at hl 0 rfl) ?_
  refine lv_bipush (v := nI 20) hx hb d_FP_init_5 (by decide +kernel) ?_
  refine xw_newI (N := 20) hx hb (hU _ uw_64) hK 0 rfl hP hD hS hA (by decide +kernel) (by decide +kernel) (by decide) (Nat.le_of_ble_eq_true rfl) (Nat.le_of_ble_eq_true rfl) d_FP_init_7 (fun q_1 H hP hD hS => ?_)
  have hP : va_P D vwCl [(h0, .inr (2, [.null, .null, .null, .int (nI 0)])), (q_1, .inl (cI, 20, .inl (fun _ => 0)))] H := hP
  have hD : va_D A [(h0, .inr (2, [.null, .null, .null, .int (nI 0)])), (q_1, .inl (cI, 20, .inl (fun _ => 0)))] := hD
  refine W.widen (k := 1) (n := 20) (Nat.le_of_ble_eq_true rfl) (Nat.le_of_ble_eq_true rfl) ?_
  refine va_putF (D := D) (ci := 2) (v := .ref q_1) (ty := (.array .int)) (C := R_FP) (T := T_FP) (N := 4) hx hb hU iw_FP ty_FP ty_FP_ok nm_FP hown hK hP hD hS 0 rfl rfl 0 (by decide) (hU _ uw_71) (fun _ h9 => h9) rfl hnm rfl (by decide +kernel) (by first | rfl | decide +kernel) (by first | rfl | decide +kernel) (Nat.le_of_ble_eq_true rfl) d_FP_init_9 (fun H locs hP hD hS => ?_)
  have hP : va_P D vwCl [(h0, .inr (2, [.ref q_1, .null, .null, .int (nI 0)])), (q_1, .inl (cI, 20, .inl (fun _ => 0)))] H := hP
  have hD : va_D A [(h0, .inr (2, [.ref q_1, .null, .null, .int (nI 0)])), (q_1, .inl (cI, 20, .inl (fun _ => 0)))] := hD
  refine lv_aload_n hx hb d_FP_init_12 rfl (lv_at hl 0 rfl) ?_
  refine lv_bipush (v := nI 20) hx hb d_FP_init_13 (by decide +kernel) ?_
  refine xw_newI (N := 20) hx hb (hU _ uw_64) hK 0 rfl hP hD hS hA (by decide +kernel) (by decide +kernel) (by decide) (Nat.le_of_ble_eq_true rfl) (Nat.le_of_ble_eq_true rfl) d_FP_init_15 (fun q_2 H hP hD hS => ?_)
  have hP : va_P D vwCl [(h0, .inr (2, [.ref q_1, .null, .null, .int (nI 0)])), (q_1, .inl (cI, 20, .inl (fun _ => 0))), (q_2, .inl (cI, 20, .inl (fun _ => 0)))] H := hP
  have hD : va_D A [(h0, .inr (2, [.ref q_1, .null, .null, .int (nI 0)])), (q_1, .inl (cI, 20, .inl (fun _ => 0))), (q_2, .inl (cI, 20, .inl (fun _ => 0)))] := hD
  refine W.widen (k := 2) (n := 40) (Nat.le_of_ble_eq_true rfl) (Nat.le_of_ble_eq_true rfl) ?_
  refine va_putF (D := D) (ci := 2) (v := .ref q_2) (ty := (.array .int)) (C := R_FP) (T := T_FP) (N := 4) hx hb hU iw_FP ty_FP ty_FP_ok nm_FP hown hK hP hD hS 0 rfl rfl 1 (by decide) (hU _ uw_72) (fun _ h9 => h9) rfl hnm rfl (by decide +kernel) (by first | rfl | decide +kernel) (by first | rfl | decide +kernel) (Nat.le_of_ble_eq_true rfl) d_FP_init_17 (fun H locs hP hD hS => ?_)
  have hP : va_P D vwCl [(h0, .inr (2, [.ref q_1, .ref q_2, .null, .int (nI 0)])), (q_1, .inl (cI, 20, .inl (fun _ => 0))), (q_2, .inl (cI, 20, .inl (fun _ => 0)))] H := hP
  have hD : va_D A [(h0, .inr (2, [.ref q_1, .ref q_2, .null, .int (nI 0)])), (q_1, .inl (cI, 20, .inl (fun _ => 0))), (q_2, .inl (cI, 20, .inl (fun _ => 0)))] := hD
  refine lv_aload_n hx hb d_FP_init_20 rfl (lv_at hl 0 rfl) ?_
  refine lv_bipush (v := nI 20) hx hb d_FP_init_21 (by decide +kernel) ?_
  refine xw_newI (N := 20) hx hb (hU _ uw_64) hK 0 rfl hP hD hS hA (by decide +kernel) (by decide +kernel) (by decide) (Nat.le_of_ble_eq_true rfl) (Nat.le_of_ble_eq_true rfl) d_FP_init_23 (fun q_3 H hP hD hS => ?_)
  have hP : va_P D vwCl [(h0, .inr (2, [.ref q_1, .ref q_2, .null, .int (nI 0)])), (q_1, .inl (cI, 20, .inl (fun _ => 0))), (q_2, .inl (cI, 20, .inl (fun _ => 0))), (q_3, .inl (cI, 20, .inl (fun _ => 0)))] H := hP
  have hD : va_D A [(h0, .inr (2, [.ref q_1, .ref q_2, .null, .int (nI 0)])), (q_1, .inl (cI, 20, .inl (fun _ => 0))), (q_2, .inl (cI, 20, .inl (fun _ => 0))), (q_3, .inl (cI, 20, .inl (fun _ => 0)))] := hD
  refine W.widen (k := 3) (n := 60) (Nat.le_of_ble_eq_true rfl) (Nat.le_of_ble_eq_true rfl) ?_
  refine va_putF (D := D) (ci := 2) (v := .ref q_3) (ty := (.array .int)) (C := R_FP) (T := T_FP) (N := 4) hx hb hU iw_FP ty_FP ty_FP_ok nm_FP hown hK hP hD hS 0 rfl rfl 2 (by decide) (hU _ uw_73) (fun _ h9 => h9) rfl hnm rfl (by decide +kernel) (by first | rfl | decide +kernel) (by first | rfl | decide +kernel) (Nat.le_of_ble_eq_true rfl) d_FP_init_25 (fun H locs hP hD hS => ?_)
  have hP : va_P D vwCl [(h0, .inr (2, [.ref q_1, .ref q_2, .ref q_3, .int (nI 0)])), (q_1, .inl (cI, 20, .inl (fun _ => 0))), (q_2, .inl (cI, 20, .inl (fun _ => 0))), (q_3, .inl (cI, 20, .inl (fun _ => 0)))] H := hP
  have hD : va_D A [(h0, .inr (2, [.ref q_1, .ref q_2, .ref q_3, .int (nI 0)])), (q_1, .inl (cI, 20, .inl (fun _ => 0))), (q_2, .inl (cI, 20, .inl (fun _ => 0))), (q_3, .inl (cI, 20, .inl (fun _ => 0)))] := hD
  have hP9 := xs_P_sub (w := [(h0, .inr (2, [.ref q_1, .ref q_2, .ref q_3, .int (nI 0)])), (q_1, .inl (cI, 20, .inl (fun _ => 0))), (q_2, .inl (cI, 20, .inl (fun _ => 0))), (q_3, .inl (cI, 20, .inl (fun _ => 0)))]) hP [0, 1, 2, 3] rfl
  have hD9 := hD.sub (ws' := [(h0, .inr (2, [.ref q_1, .ref q_2, .ref q_3, .int (nI 0)])), (q_1, .inl (cI, 20, .inl (fun _ => 0))), (q_2, .inl (cI, 20, .inl (fun _ => 0))), (q_3, .inl (cI, 20, .inl (fun _ => 0)))]) [0, 1, 2, 3] (by decide) rfl
  exact xw_vret (q_1, q_2, q_3) hx hb hr hlocks d_FP_init_28 (rfl) (trivial) hAe hP9 hD9 hS (Nat.le_of_ble_eq_true rfl) (Nat.le_of_ble_eq_true rfl)
set_option maxHeartbeats 4000000 in
set_option maxRecDepth 100000 in
/-- new FailLog -/
theorem c_FL_init (l : Launch) (D : va_G) (cI cB cL : ClassId) (h0 : Nat)  : xG (σ := Nat × Nat × Nat) l y_FL_init w_FL_init ({ frames := 1, cells := 3, slots := 48, locals := 12  } : Room) D vwCl (xs_tys cI cB cL) [.ref h0] [(h0, .inr (3, [.null, .null, .null, .int (nI 0)]))] (fun (q1, q2, q3) => True) (fun (q1, q2, q3) => none) (fun (q1, q2, q3) => [(h0, .inr (3, [.ref q1, .ref q2, .ref q3, .int (nI 0)]))]) := by
  refine xG.of b_FL_init 1 (none) (by decide +kernel) rfl (Nat.le_of_ble_eq_true rfl) ?_
  intro p e s m below meth c A ls hAe C0 hP hD hS hl
  obtain ⟨hx, hb, hr, hml, hown, hlocks, hts, hnm, hN, hK, hA⟩ := C0
  have hU : ∀ w ∈ xU, w.before #[.ref h0] s = true := fun w h => hts w (List.mem_cons_of_mem _ h)
  have hl : lv_has ls 1 [(0, .ref h0)] := hl
  refine lv_aload_n hx hb d_FL_init_0 rfl (lv_at hl 0 rfl) ?_
  refine W.objInit hx hb hown (hU _ uw_155) (hU _ uw_27) (hU _ uw_28) rfl (by rw [hml]; exact hl.1) rfl d_FL_init_1 (Nat.le_of_ble_eq_true rfl) (Nat.le_of_ble_eq_true rfl) ?_
  refine W.eq (g2 := F0 m 4 ls []) rfl ?_
  refine lv_aload_n hx hb d_FL_init_4 rfl (lv_at hl 0 rfl) ?_
  refine lv_bipush (v := nI 16) hx hb d_FL_init_5 (by decide +kernel) ?_
  refine xw_newI (N := 16) hx hb (hU _ uw_64) hK 0 rfl hP hD hS hA (by decide +kernel) (by decide +kernel) (by decide) (Nat.le_of_ble_eq_true rfl) (Nat.le_of_ble_eq_true rfl) d_FL_init_7 (fun q_1 H hP hD hS => ?_)
  have hP : va_P D vwCl [(h0, .inr (3, [.null, .null, .null, .int (nI 0)])), (q_1, .inl (cI, 16, .inl (fun _ => 0)))] H := hP
  have hD : va_D A [(h0, .inr (3, [.null, .null, .null, .int (nI 0)])), (q_1, .inl (cI, 16, .inl (fun _ => 0)))] := hD
  refine W.widen (k := 1) (n := 16) (Nat.le_of_ble_eq_true rfl) (Nat.le_of_ble_eq_true rfl) ?_
  refine va_putF (D := D) (ci := 3) (v := .ref q_1) (ty := (.array .int)) (C := R_FL) (T := T_FL) (N := 4) hx hb hU iw_FL ty_FL ty_FL_ok nm_FL hown hK hP hD hS 0 rfl rfl 0 (by decide) (hU _ uw_156) (fun _ h9 => h9) rfl hnm rfl (by decide +kernel) (by first | rfl | decide +kernel) (by first | rfl | decide +kernel) (Nat.le_of_ble_eq_true rfl) d_FL_init_9 (fun H locs hP hD hS => ?_)
  have hP : va_P D vwCl [(h0, .inr (3, [.ref q_1, .null, .null, .int (nI 0)])), (q_1, .inl (cI, 16, .inl (fun _ => 0)))] H := hP
  have hD : va_D A [(h0, .inr (3, [.ref q_1, .null, .null, .int (nI 0)])), (q_1, .inl (cI, 16, .inl (fun _ => 0)))] := hD
  refine lv_aload_n hx hb d_FL_init_12 rfl (lv_at hl 0 rfl) ?_
  refine lv_bipush (v := nI 16) hx hb d_FL_init_13 (by decide +kernel) ?_
  refine xw_newI (N := 16) hx hb (hU _ uw_64) hK 0 rfl hP hD hS hA (by decide +kernel) (by decide +kernel) (by decide) (Nat.le_of_ble_eq_true rfl) (Nat.le_of_ble_eq_true rfl) d_FL_init_15 (fun q_2 H hP hD hS => ?_)
  have hP : va_P D vwCl [(h0, .inr (3, [.ref q_1, .null, .null, .int (nI 0)])), (q_1, .inl (cI, 16, .inl (fun _ => 0))), (q_2, .inl (cI, 16, .inl (fun _ => 0)))] H := hP
  have hD : va_D A [(h0, .inr (3, [.ref q_1, .null, .null, .int (nI 0)])), (q_1, .inl (cI, 16, .inl (fun _ => 0))), (q_2, .inl (cI, 16, .inl (fun _ => 0)))] := hD
  refine W.widen (k := 2) (n := 32) (Nat.le_of_ble_eq_true rfl) (Nat.le_of_ble_eq_true rfl) ?_
  refine va_putF (D := D) (ci := 3) (v := .ref q_2) (ty := (.array .int)) (C := R_FL) (T := T_FL) (N := 4) hx hb hU iw_FL ty_FL ty_FL_ok nm_FL hown hK hP hD hS 0 rfl rfl 1 (by decide) (hU _ uw_158) (fun _ h9 => h9) rfl hnm rfl (by decide +kernel) (by first | rfl | decide +kernel) (by first | rfl | decide +kernel) (Nat.le_of_ble_eq_true rfl) d_FL_init_17 (fun H locs hP hD hS => ?_)
  have hP : va_P D vwCl [(h0, .inr (3, [.ref q_1, .ref q_2, .null, .int (nI 0)])), (q_1, .inl (cI, 16, .inl (fun _ => 0))), (q_2, .inl (cI, 16, .inl (fun _ => 0)))] H := hP
  have hD : va_D A [(h0, .inr (3, [.ref q_1, .ref q_2, .null, .int (nI 0)])), (q_1, .inl (cI, 16, .inl (fun _ => 0))), (q_2, .inl (cI, 16, .inl (fun _ => 0)))] := hD
  refine lv_aload_n hx hb d_FL_init_20 rfl (lv_at hl 0 rfl) ?_
  refine lv_bipush (v := nI 16) hx hb d_FL_init_21 (by decide +kernel) ?_
  refine xw_newI (N := 16) hx hb (hU _ uw_64) hK 0 rfl hP hD hS hA (by decide +kernel) (by decide +kernel) (by decide) (Nat.le_of_ble_eq_true rfl) (Nat.le_of_ble_eq_true rfl) d_FL_init_23 (fun q_3 H hP hD hS => ?_)
  have hP : va_P D vwCl [(h0, .inr (3, [.ref q_1, .ref q_2, .null, .int (nI 0)])), (q_1, .inl (cI, 16, .inl (fun _ => 0))), (q_2, .inl (cI, 16, .inl (fun _ => 0))), (q_3, .inl (cI, 16, .inl (fun _ => 0)))] H := hP
  have hD : va_D A [(h0, .inr (3, [.ref q_1, .ref q_2, .null, .int (nI 0)])), (q_1, .inl (cI, 16, .inl (fun _ => 0))), (q_2, .inl (cI, 16, .inl (fun _ => 0))), (q_3, .inl (cI, 16, .inl (fun _ => 0)))] := hD
  refine W.widen (k := 3) (n := 48) (Nat.le_of_ble_eq_true rfl) (Nat.le_of_ble_eq_true rfl) ?_
  refine va_putF (D := D) (ci := 3) (v := .ref q_3) (ty := (.array .int)) (C := R_FL) (T := T_FL) (N := 4) hx hb hU iw_FL ty_FL ty_FL_ok nm_FL hown hK hP hD hS 0 rfl rfl 2 (by decide) (hU _ uw_160) (fun _ h9 => h9) rfl hnm rfl (by decide +kernel) (by first | rfl | decide +kernel) (by first | rfl | decide +kernel) (Nat.le_of_ble_eq_true rfl) d_FL_init_25 (fun H locs hP hD hS => ?_)
  have hP : va_P D vwCl [(h0, .inr (3, [.ref q_1, .ref q_2, .ref q_3, .int (nI 0)])), (q_1, .inl (cI, 16, .inl (fun _ => 0))), (q_2, .inl (cI, 16, .inl (fun _ => 0))), (q_3, .inl (cI, 16, .inl (fun _ => 0)))] H := hP
  have hD : va_D A [(h0, .inr (3, [.ref q_1, .ref q_2, .ref q_3, .int (nI 0)])), (q_1, .inl (cI, 16, .inl (fun _ => 0))), (q_2, .inl (cI, 16, .inl (fun _ => 0))), (q_3, .inl (cI, 16, .inl (fun _ => 0)))] := hD
  have hP9 := xs_P_sub (w := [(h0, .inr (3, [.ref q_1, .ref q_2, .ref q_3, .int (nI 0)]))]) hP [0] rfl
  have hD9 := hD.sub (ws' := [(h0, .inr (3, [.ref q_1, .ref q_2, .ref q_3, .int (nI 0)]))]) [0] (by decide) rfl
  exact xw_vret (q_1, q_2, q_3) hx hb hr hlocks d_FL_init_28 (rfl) (trivial) hAe hP9 hD9 hS (Nat.le_of_ble_eq_true rfl) (Nat.le_of_ble_eq_true rfl)
set_option maxHeartbeats 4000000 in
set_option maxRecDepth 100000 in
/-- new Ways -/
theorem c_WA_init (l : Launch) (D : va_G) (cI cB cL : ClassId) (h0 : Nat)  : xG (σ := Unit) l y_WA_init w_WA_init ({ frames := 1, cells := 1, slots := 200, locals := 12  } : Room) D vwCl (xs_tys cI cB cL) [.ref h0] [(h0, .inr (8, [.null]))] (fun _ => True) (fun _ => none) (fun _ => []) := by
  refine xG.of b_WA_init 1 (none) (by decide +kernel) rfl (Nat.le_of_ble_eq_true rfl) ?_
  intro p e s m below meth c A ls hAe C0 hP hD hS hl
  obtain ⟨hx, hb, hr, hml, hown, hlocks, hts, hnm, hN, hK, hA⟩ := C0
  have hU : ∀ w ∈ xU, w.before #[.ref h0] s = true := fun w h => hts w (List.mem_cons_of_mem _ h)
  have hl : lv_has ls 1 [(0, .ref h0)] := hl
  refine lv_aload_n hx hb d_WA_init_0 rfl (lv_at hl 0 rfl) ?_
  refine W.objInit hx hb hown (hU _ uw_179) (hU _ uw_27) (hU _ uw_28) rfl (by rw [hml]; exact hl.1) rfl d_WA_init_1 (Nat.le_of_ble_eq_true rfl) (Nat.le_of_ble_eq_true rfl) ?_
  refine W.eq (g2 := F0 m 4 ls []) rfl ?_
  refine lv_aload_n hx hb d_WA_init_4 rfl (lv_at hl 0 rfl) ?_
  refine lv_sipush (v := nI 200) hx hb d_WA_init_5 (by decide +kernel) ?_
  refine xw_newB (N := 200) hx hb (hU _ uw_115) hK 1 rfl hP hD hS hA (by decide +kernel) (by decide +kernel) (by decide) (Nat.le_of_ble_eq_true rfl) (Nat.le_of_ble_eq_true rfl) d_WA_init_8 (fun q_1 H hP hD hS => ?_)
  have hP : va_P D vwCl [(h0, .inr (8, [.null])), (q_1, .inl (cB, 200, .inl (fun _ => 0)))] H := hP
  have hD : va_D A [(h0, .inr (8, [.null])), (q_1, .inl (cB, 200, .inl (fun _ => 0)))] := hD
  refine W.widen (k := 1) (n := 200) (Nat.le_of_ble_eq_true rfl) (Nat.le_of_ble_eq_true rfl) ?_
  refine va_putF (D := D) (ci := 8) (v := .ref q_1) (ty := (.array .boolean)) (C := R_WA) (T := T_WA) (N := 1) hx hb hU iw_WA ty_WA ty_WA_ok nm_WA hown hK hP hD hS 0 rfl rfl 0 (by decide) (hU _ uw_180) (fun _ h9 => h9) rfl hnm rfl (by decide +kernel) (by first | rfl | decide +kernel) (by first | rfl | decide +kernel) (Nat.le_of_ble_eq_true rfl) d_WA_init_10 (fun H locs hP hD hS => ?_)
  have hP : va_P D vwCl [(h0, .inr (8, [.ref q_1])), (q_1, .inl (cB, 200, .inl (fun _ => 0)))] H := hP
  have hD : va_D A [(h0, .inr (8, [.ref q_1])), (q_1, .inl (cB, 200, .inl (fun _ => 0)))] := hD
  have hP9 := xs_P_sub (w := []) hP [] rfl
  have hD9 := hD.sub (ws' := []) [] (by decide) rfl
  exact xw_vret () hx hb hr hlocks d_WA_init_13 (rfl) (trivial) hAe hP9 hD9 hS (Nat.le_of_ble_eq_true rfl) (Nat.le_of_ble_eq_true rfl)
set_option maxHeartbeats 4000000 in
set_option maxRecDepth 100000 in
/-- new Levels -/
theorem c_LE_init (l : Launch) (D : va_G) (cI cB cL : ClassId) (h0 : Nat)  : xG (σ := Nat × Nat × Nat × Nat) l y_LE_init w_LE_init ({ frames := 1, cells := 4, slots := 801, locals := 23  } : Room) D vwCl (xs_tys cI cB cL) [.ref h0] [(h0, .inr (7, [.null, .null, .null, .int (nI 0), .null]))] (fun (lo, lr, lb, lf) => True) (fun (lo, lr, lb, lf) => none) (fun (lo, lr, lb, lf) => [(h0, .inr (7, [.ref lo, .ref lr, .ref lb, .int (nI 0), .ref lf])), (lo, .inl (cI, 200, .inl (fun _ => (-1)))), (lb, .inl (cI, 201, .inl (fun _ => 0))), (lf, .inl (cB, 200, .inl (fun _ => 0)))]) := by
  refine xG.of b_LE_init 1 (none) (by decide +kernel) rfl (Nat.le_of_ble_eq_true rfl) ?_
  intro p e s m below meth c A ls hAe C0 hP hD hS hl
  obtain ⟨hx, hb, hr, hml, hown, hlocks, hts, hnm, hN, hK, hA⟩ := C0
  have hU : ∀ w ∈ xU, w.before #[.ref h0] s = true := fun w h => hts w (List.mem_cons_of_mem _ h)
  have hl : lv_has ls 1 [(0, .ref h0)] := hl
  refine lv_aload_n hx hb d_LE_init_0 rfl (lv_at hl 0 rfl) ?_
  refine W.objInit hx hb hown (hU _ uw_121) (hU _ uw_27) (hU _ uw_28) rfl (by rw [hml]; exact hl.1) rfl d_LE_init_1 (Nat.le_of_ble_eq_true rfl) (Nat.le_of_ble_eq_true rfl) ?_
  refine W.eq (g2 := F0 m 4 ls []) rfl ?_
  refine lv_aload_n hx hb d_LE_init_4 rfl (lv_at hl 0 rfl) ?_
  refine lv_sipush (v := nI 200) hx hb d_LE_init_5 (by decide +kernel) ?_
  refine xw_newI (N := 200) hx hb (hU _ uw_64) hK 0 rfl hP hD hS hA (by decide +kernel) (by decide +kernel) (by decide) (Nat.le_of_ble_eq_true rfl) (Nat.le_of_ble_eq_true rfl) d_LE_init_8 (fun q_1 H hP hD hS => ?_)
  have hP : va_P D vwCl [(h0, .inr (7, [.null, .null, .null, .int (nI 0), .null])), (q_1, .inl (cI, 200, .inl (fun _ => 0)))] H := hP
  have hD : va_D A [(h0, .inr (7, [.null, .null, .null, .int (nI 0), .null])), (q_1, .inl (cI, 200, .inl (fun _ => 0)))] := hD
  refine W.widen (k := 1) (n := 200) (Nat.le_of_ble_eq_true rfl) (Nat.le_of_ble_eq_true rfl) ?_
  refine va_putF (D := D) (ci := 7) (v := .ref q_1) (ty := (.array .int)) (C := R_LE) (T := T_LE) (N := 5) hx hb hU iw_LE ty_LE ty_LE_ok nm_LE hown hK hP hD hS 0 rfl rfl 0 (by decide) (hU _ uw_125) (fun _ h9 => h9) rfl hnm rfl (by decide +kernel) (by first | rfl | decide +kernel) (by first | rfl | decide +kernel) (Nat.le_of_ble_eq_true rfl) d_LE_init_10 (fun H locs hP hD hS => ?_)
  have hP : va_P D vwCl [(h0, .inr (7, [.ref q_1, .null, .null, .int (nI 0), .null])), (q_1, .inl (cI, 200, .inl (fun _ => 0)))] H := hP
  have hD : va_D A [(h0, .inr (7, [.ref q_1, .null, .null, .int (nI 0), .null])), (q_1, .inl (cI, 200, .inl (fun _ => 0)))] := hD
  refine lv_aload_n hx hb d_LE_init_13 rfl (lv_at hl 0 rfl) ?_
  refine lv_sipush (v := nI 200) hx hb d_LE_init_14 (by decide +kernel) ?_
  refine xw_newI (N := 200) hx hb (hU _ uw_64) hK 0 rfl hP hD hS hA (by decide +kernel) (by decide +kernel) (by decide) (Nat.le_of_ble_eq_true rfl) (Nat.le_of_ble_eq_true rfl) d_LE_init_17 (fun q_2 H hP hD hS => ?_)
  have hP : va_P D vwCl [(h0, .inr (7, [.ref q_1, .null, .null, .int (nI 0), .null])), (q_1, .inl (cI, 200, .inl (fun _ => 0))), (q_2, .inl (cI, 200, .inl (fun _ => 0)))] H := hP
  have hD : va_D A [(h0, .inr (7, [.ref q_1, .null, .null, .int (nI 0), .null])), (q_1, .inl (cI, 200, .inl (fun _ => 0))), (q_2, .inl (cI, 200, .inl (fun _ => 0)))] := hD
  refine W.widen (k := 2) (n := 400) (Nat.le_of_ble_eq_true rfl) (Nat.le_of_ble_eq_true rfl) ?_
  refine va_putF (D := D) (ci := 7) (v := .ref q_2) (ty := (.array .int)) (C := R_LE) (T := T_LE) (N := 5) hx hb hU iw_LE ty_LE ty_LE_ok nm_LE hown hK hP hD hS 0 rfl rfl 1 (by decide) (hU _ uw_128) (fun _ h9 => h9) rfl hnm rfl (by decide +kernel) (by first | rfl | decide +kernel) (by first | rfl | decide +kernel) (Nat.le_of_ble_eq_true rfl) d_LE_init_19 (fun H locs hP hD hS => ?_)
  have hP : va_P D vwCl [(h0, .inr (7, [.ref q_1, .ref q_2, .null, .int (nI 0), .null])), (q_1, .inl (cI, 200, .inl (fun _ => 0))), (q_2, .inl (cI, 200, .inl (fun _ => 0)))] H := hP
  have hD : va_D A [(h0, .inr (7, [.ref q_1, .ref q_2, .null, .int (nI 0), .null])), (q_1, .inl (cI, 200, .inl (fun _ => 0))), (q_2, .inl (cI, 200, .inl (fun _ => 0)))] := hD
  refine lv_aload_n hx hb d_LE_init_22 rfl (lv_at hl 0 rfl) ?_
  refine lv_sipush (v := nI 201) hx hb d_LE_init_23 (by decide +kernel) ?_
  refine xw_newI (N := 201) hx hb (hU _ uw_64) hK 0 rfl hP hD hS hA (by decide +kernel) (by decide +kernel) (by decide) (Nat.le_of_ble_eq_true rfl) (Nat.le_of_ble_eq_true rfl) d_LE_init_26 (fun q_3 H hP hD hS => ?_)
  have hP : va_P D vwCl [(h0, .inr (7, [.ref q_1, .ref q_2, .null, .int (nI 0), .null])), (q_1, .inl (cI, 200, .inl (fun _ => 0))), (q_2, .inl (cI, 200, .inl (fun _ => 0))), (q_3, .inl (cI, 201, .inl (fun _ => 0)))] H := hP
  have hD : va_D A [(h0, .inr (7, [.ref q_1, .ref q_2, .null, .int (nI 0), .null])), (q_1, .inl (cI, 200, .inl (fun _ => 0))), (q_2, .inl (cI, 200, .inl (fun _ => 0))), (q_3, .inl (cI, 201, .inl (fun _ => 0)))] := hD
  refine W.widen (k := 3) (n := 601) (Nat.le_of_ble_eq_true rfl) (Nat.le_of_ble_eq_true rfl) ?_
  refine va_putF (D := D) (ci := 7) (v := .ref q_3) (ty := (.array .int)) (C := R_LE) (T := T_LE) (N := 5) hx hb hU iw_LE ty_LE ty_LE_ok nm_LE hown hK hP hD hS 0 rfl rfl 2 (by decide) (hU _ uw_131) (fun _ h9 => h9) rfl hnm rfl (by decide +kernel) (by first | rfl | decide +kernel) (by first | rfl | decide +kernel) (Nat.le_of_ble_eq_true rfl) d_LE_init_28 (fun H locs hP hD hS => ?_)
  have hP : va_P D vwCl [(h0, .inr (7, [.ref q_1, .ref q_2, .ref q_3, .int (nI 0), .null])), (q_1, .inl (cI, 200, .inl (fun _ => 0))), (q_2, .inl (cI, 200, .inl (fun _ => 0))), (q_3, .inl (cI, 201, .inl (fun _ => 0)))] H := hP
  have hD : va_D A [(h0, .inr (7, [.ref q_1, .ref q_2, .ref q_3, .int (nI 0), .null])), (q_1, .inl (cI, 200, .inl (fun _ => 0))), (q_2, .inl (cI, 200, .inl (fun _ => 0))), (q_3, .inl (cI, 201, .inl (fun _ => 0)))] := hD
  refine lv_aload_n hx hb d_LE_init_31 rfl (lv_at hl 0 rfl) ?_
  refine lv_sipush (v := nI 200) hx hb d_LE_init_32 (by decide +kernel) ?_
  refine xw_newB (N := 200) hx hb (hU _ uw_115) hK 1 rfl hP hD hS hA (by decide +kernel) (by decide +kernel) (by decide) (Nat.le_of_ble_eq_true rfl) (Nat.le_of_ble_eq_true rfl) d_LE_init_35 (fun q_4 H hP hD hS => ?_)
  have hP : va_P D vwCl [(h0, .inr (7, [.ref q_1, .ref q_2, .ref q_3, .int (nI 0), .null])), (q_1, .inl (cI, 200, .inl (fun _ => 0))), (q_2, .inl (cI, 200, .inl (fun _ => 0))), (q_3, .inl (cI, 201, .inl (fun _ => 0))), (q_4, .inl (cB, 200, .inl (fun _ => 0)))] H := hP
  have hD : va_D A [(h0, .inr (7, [.ref q_1, .ref q_2, .ref q_3, .int (nI 0), .null])), (q_1, .inl (cI, 200, .inl (fun _ => 0))), (q_2, .inl (cI, 200, .inl (fun _ => 0))), (q_3, .inl (cI, 201, .inl (fun _ => 0))), (q_4, .inl (cB, 200, .inl (fun _ => 0)))] := hD
  refine W.widen (k := 4) (n := 801) (Nat.le_of_ble_eq_true rfl) (Nat.le_of_ble_eq_true rfl) ?_
  refine va_putF (D := D) (ci := 7) (v := .ref q_4) (ty := (.array .boolean)) (C := R_LE) (T := T_LE) (N := 5) hx hb hU iw_LE ty_LE ty_LE_ok nm_LE hown hK hP hD hS 0 rfl rfl 4 (by decide) (hU _ uw_138) (fun _ h9 => h9) rfl hnm rfl (by decide +kernel) (by first | rfl | decide +kernel) (by first | rfl | decide +kernel) (Nat.le_of_ble_eq_true rfl) d_LE_init_37 (fun H locs hP hD hS => ?_)
  have hP : va_P D vwCl [(h0, .inr (7, [.ref q_1, .ref q_2, .ref q_3, .int (nI 0), .ref q_4])), (q_1, .inl (cI, 200, .inl (fun _ => 0))), (q_2, .inl (cI, 200, .inl (fun _ => 0))), (q_3, .inl (cI, 201, .inl (fun _ => 0))), (q_4, .inl (cB, 200, .inl (fun _ => 0)))] H := hP
  have hD : va_D A [(h0, .inr (7, [.ref q_1, .ref q_2, .ref q_3, .int (nI 0), .ref q_4])), (q_1, .inl (cI, 200, .inl (fun _ => 0))), (q_2, .inl (cI, 200, .inl (fun _ => 0))), (q_3, .inl (cI, 201, .inl (fun _ => 0))), (q_4, .inl (cB, 200, .inl (fun _ => 0)))] := hD
  refine lv_aload_n hx hb d_LE_init_40 rfl (lv_at hl 0 rfl) ?_
  refine va_get (D := D) (ci := 7) (v := .ref q_1) (C := R_LE) (T := T_LE) (N := 5) hx hb hU iw_LE hown hK hP 0 rfl rfl 0 (by decide) (hU _ uw_125) (fun _ h9 => h9) rfl d_LE_init_41 ?_
  refine lv_iconst (v := (-1)) hx hb d_LE_init_44 (by decide +kernel) ?_
  refine xw_callS (wr := [(h0, .inr (7, [.ref q_1, .ref q_2, .ref q_3, .int (nI 0), .ref q_4])), (q_2, .inl (cI, 200, .inl (fun _ => 0))), (q_3, .inl (cI, 201, .inl (fun _ => 0))), (q_4, .inl (cB, 200, .inl (fun _ => 0)))]) [.ref q_1, .int (-1)] (c_fill l D cI cB cL q_1 200 (fun _ => 0) (-1) (by decide)) ⟨hx, hb, hml, hown, hU⟩ (va_cwS 2 hU (xs_goodS uw_122 uw_123 uw_8 uw_124) rfl rfl rfl (by decide +kernel) ⟨Nat.le_of_ble_eq_true rfl, Nat.le_of_ble_eq_true rfl⟩) rfl hl.1 rfl (Nat.le_of_ble_eq_true rfl) d_LE_init_45 ⟨Nat.le_of_ble_eq_true rfl, Nat.le_of_ble_eq_true rfl⟩ [1] [0, 2, 3, 4] rfl rfl (by decide) (by decide) (by decide) hN hK hP hD hS hA (fun u H locs hf hP hD hS => ?_)
  have hP : va_P D vwCl [(h0, .inr (7, [.ref q_1, .ref q_2, .ref q_3, .int (nI 0), .ref q_4])), (q_2, .inl (cI, 200, .inl (fun _ => 0))), (q_3, .inl (cI, 201, .inl (fun _ => 0))), (q_4, .inl (cB, 200, .inl (fun _ => 0))), (q_1, .inl (cI, 200, .inl (fun _ => ((-1)))))] H := hP
  have hD : va_D A [(h0, .inr (7, [.ref q_1, .ref q_2, .ref q_3, .int (nI 0), .ref q_4])), (q_2, .inl (cI, 200, .inl (fun _ => 0))), (q_3, .inl (cI, 201, .inl (fun _ => 0))), (q_4, .inl (cB, 200, .inl (fun _ => 0))), (q_1, .inl (cI, 200, .inl (fun _ => ((-1)))))] := hD
  refine W.widen (k := 4) (n := 801) (Nat.le_of_ble_eq_true rfl) (Nat.le_of_ble_eq_true rfl) ?_
  refine W.eq (g2 := F0 m 48 ls []) rfl ?_
  have hP9 := xs_P_sub (w := [(h0, .inr (7, [.ref q_1, .ref q_2, .ref q_3, .int (nI 0), .ref q_4])), (q_1, .inl (cI, 200, .inl (fun _ => ((-1))))), (q_3, .inl (cI, 201, .inl (fun _ => 0))), (q_4, .inl (cB, 200, .inl (fun _ => 0)))]) hP [0, 4, 2, 3] rfl
  have hD9 := hD.sub (ws' := [(h0, .inr (7, [.ref q_1, .ref q_2, .ref q_3, .int (nI 0), .ref q_4])), (q_1, .inl (cI, 200, .inl (fun _ => ((-1))))), (q_3, .inl (cI, 201, .inl (fun _ => 0))), (q_4, .inl (cB, 200, .inl (fun _ => 0)))]) [0, 4, 2, 3] (by decide) rfl
  exact xw_vret (q_1, q_2, q_3, q_4) hx hb hr hlocks d_LE_init_48 (rfl) (trivial) hAe hP9 hD9 hS (Nat.le_of_ble_eq_true rfl) (Nat.le_of_ble_eq_true rfl)
