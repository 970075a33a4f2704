set_option maxHeartbeats 4000000 in
set_option maxRecDepth 100000 in
/-- new Net -/
theorem k_NET (l : Launch) (D : va_G) (cI cB cL cR : ClassId) (sn : Nat)  : xG (σ := Nat × Nat) l y_NET_init w_NET_init ({ frames := 1, cells := 2, slots := 801, locals := 12  } : Room) D vwCl (xs_tys cI cB cL cR) [.ref sn] [(sn, .inr (1, [.int (nI 0), .int (nI 0), .null, .null]))] (fun (nb, nt) => (∀ j : Nat, (fun _ => 0 : Nat → Nat) j < 0 + 1) ∧ (∀ j : Nat, (fun _ => 0 : Nat → Nat) j < 200)) (fun (nb, nt) => none) (fun (nb, nt) => [(sn, .inr (1, [.int (nI 0), .int (nI 0), .ref nb, .ref nt])), (nb, .inl (cI, 201, .inl (xs_G (fun _ => 0)))), (nt, .inl (cI, 600, .inl (xs_G (fun _ => 0))))]) := by
  refine xG.of b_NET_init 1 (none) (by decide +kernel) rfl (Nat.le_of_ble_eq_true rfl) ?_
  intro p e s m below meth c A ls hAe C0 hP hD hS hl
  obtain ⟨hx, hb, hr, hml, hown, hlocks, hts, hnm, hN, hK, hA⟩ := C0
  have hU : ∀ w ∈ xU, w.before #[.ref sn] s = true := fun w h => hts w (List.mem_cons_of_mem _ h)
  have hl : lv_has ls 1 [(0, .ref sn)] := hl
  refine lv_aload_n hx hb d_NET_init_0 rfl (lv_at hl 0 rfl) ?_
  refine W.objInit hx hb hown (hU _ uw_43) (hU _ uw_27) (hU _ uw_28) rfl (by rw [hml]; exact hl.1) rfl d_NET_init_1 (Nat.le_of_ble_eq_true rfl) (Nat.le_of_ble_eq_true rfl) ?_
  refine W.eq (g2 := F0 m 4 ls []) rfl ?_
  refine lv_aload_n hx hb d_NET_init_4 rfl (lv_at hl 0 rfl) ?_
  refine lv_sipush (v := nI 201) hx hb d_NET_init_5 (by decide +kernel) ?_
  refine xw_newI (N := 201) hx hb (hU _ uw_64) hK 0 rfl hP hD hS hA (by decide +kernel) (by decide +kernel) (by decide) (Nat.le_of_ble_eq_true rfl) (Nat.le_of_ble_eq_true rfl) d_NET_init_8 (fun q_1 H hP hD hS => ?_)
  replace hP : va_P D vwCl [(sn, .inr (1, [.int (nI 0), .int (nI 0), .null, .null])), (q_1, .inl (cI, 201, .inl (fun _ => 0)))] H := hP
  replace hD : va_D A [(sn, .inr (1, [.int (nI 0), .int (nI 0), .null, .null])), (q_1, .inl (cI, 201, .inl (fun _ => 0)))] := hD
  refine W.widen (k := 1) (n := 201) (Nat.le_of_ble_eq_true rfl) (Nat.le_of_ble_eq_true rfl) ?_
  have hz_2 : ∀ j, (fun _ => 0 : Nat → Nat) j < 0 + 1 := fun _ => by show 0 < 0 + 1; omega
  replace hP : va_P D vwCl [(sn, .inr (1, [.int (nI 0), .int (nI 0), .null, .null])), (q_1, .inl (cI, 201, .inl (xs_G (fun _ => 0))))] H := hP
  replace hD : va_D A [(sn, .inr (1, [.int (nI 0), .int (nI 0), .null, .null])), (q_1, .inl (cI, 201, .inl (xs_G (fun _ => 0))))] := hD
  refine va_putF (D := D) (ci := 1) (v := .ref q_1) (ty := (.array .int)) (C := R_NET) (T := T_NET) (N := 4) hx hb hU iw_NET ty_NET ty_NET_ok nm_NET hown hK hP hD hS 0 rfl rfl 2 (by decide) (hU _ uw_49) (fun _ h9 => h9) rfl hnm rfl (by decide +kernel) (by first | rfl | decide +kernel) (by first | rfl | decide +kernel) (Nat.le_of_ble_eq_true rfl) d_NET_init_10 (fun H locs hP hD hS => ?_)
  replace hP : va_P D vwCl [(sn, .inr (1, [.int (nI 0), .int (nI 0), .ref q_1, .null])), (q_1, .inl (cI, 201, .inl (xs_G (fun _ => 0))))] H := hP
  replace hD : va_D A [(sn, .inr (1, [.int (nI 0), .int (nI 0), .ref q_1, .null])), (q_1, .inl (cI, 201, .inl (xs_G (fun _ => 0))))] := hD
  refine lv_aload_n hx hb d_NET_init_13 rfl (lv_at hl 0 rfl) ?_
  refine lv_sipush (v := nI 600) hx hb d_NET_init_14 (by decide +kernel) ?_
  refine xw_newI (N := 600) hx hb (hU _ uw_64) hK 0 rfl hP hD hS hA (by decide +kernel) (by decide +kernel) (by decide) (Nat.le_of_ble_eq_true rfl) (Nat.le_of_ble_eq_true rfl) d_NET_init_17 (fun q_3 H hP hD hS => ?_)
  replace hP : va_P D vwCl [(sn, .inr (1, [.int (nI 0), .int (nI 0), .ref q_1, .null])), (q_1, .inl (cI, 201, .inl (xs_G (fun _ => 0)))), (q_3, .inl (cI, 600, .inl (fun _ => 0)))] H := hP
  replace hD : va_D A [(sn, .inr (1, [.int (nI 0), .int (nI 0), .ref q_1, .null])), (q_1, .inl (cI, 201, .inl (xs_G (fun _ => 0)))), (q_3, .inl (cI, 600, .inl (fun _ => 0)))] := hD
  refine W.widen (k := 2) (n := 801) (Nat.le_of_ble_eq_true rfl) (Nat.le_of_ble_eq_true rfl) ?_
  have hz_4 : ∀ j, (fun _ => 0 : Nat → Nat) j < 200 := fun _ => by show 0 < 200; omega
  replace hP : va_P D vwCl [(sn, .inr (1, [.int (nI 0), .int (nI 0), .ref q_1, .null])), (q_1, .inl (cI, 201, .inl (xs_G (fun _ => 0)))), (q_3, .inl (cI, 600, .inl (xs_G (fun _ => 0))))] H := hP
  replace hD : va_D A [(sn, .inr (1, [.int (nI 0), .int (nI 0), .ref q_1, .null])), (q_1, .inl (cI, 201, .inl (xs_G (fun _ => 0)))), (q_3, .inl (cI, 600, .inl (xs_G (fun _ => 0))))] := hD
  refine va_putF (D := D) (ci := 1) (v := .ref q_3) (ty := (.array .int)) (C := R_NET) (T := T_NET) (N := 4) hx hb hU iw_NET ty_NET ty_NET_ok nm_NET hown hK hP hD hS 0 rfl rfl 3 (by decide) (hU _ uw_52) (fun _ h9 => h9) rfl hnm rfl (by decide +kernel) (by first | rfl | decide +kernel) (by first | rfl | decide +kernel) (Nat.le_of_ble_eq_true rfl) d_NET_init_19 (fun H locs hP hD hS => ?_)
  replace hP : va_P D vwCl [(sn, .inr (1, [.int (nI 0), .int (nI 0), .ref q_1, .ref q_3])), (q_1, .inl (cI, 201, .inl (xs_G (fun _ => 0)))), (q_3, .inl (cI, 600, .inl (xs_G (fun _ => 0))))] H := hP
  replace hD : va_D A [(sn, .inr (1, [.int (nI 0), .int (nI 0), .ref q_1, .ref q_3])), (q_1, .inl (cI, 201, .inl (xs_G (fun _ => 0)))), (q_3, .inl (cI, 600, .inl (xs_G (fun _ => 0))))] := hD
  have hP9 := xs_P_sub (w := [(sn, .inr (1, [.int (nI 0), .int (nI 0), .ref q_1, .ref q_3])), (q_1, .inl (cI, 201, .inl (xs_G (fun _ => 0)))), (q_3, .inl (cI, 600, .inl (xs_G (fun _ => 0))))]) hP [0, 1, 2] rfl
  have hD9 := hD.sub (ws' := [(sn, .inr (1, [.int (nI 0), .int (nI 0), .ref q_1, .ref q_3])), (q_1, .inl (cI, 201, .inl (xs_G (fun _ => 0)))), (q_3, .inl (cI, 600, .inl (xs_G (fun _ => 0))))]) [0, 1, 2] (by decide +kernel) rfl
  exact xw_vret (q_1, q_3) hx hb hr hlocks d_NET_init_22 (rfl) (⟨fun j => by have h8 := hz_2 j; omega, fun j => by have h8 := hz_4 j; omega⟩) hAe hP9 hD9 hS (Nat.le_of_ble_eq_true rfl) (Nat.le_of_ble_eq_true rfl)
set_option maxHeartbeats 4000000 in
set_option maxRecDepth 100000 in
/-- new FailPlan -/
theorem k_FP (l : Launch) (D : va_G) (cI cB cL cR : ClassId) (sp : Nat)  : xG (σ := Nat × Nat × Nat) l y_FP_init w_FP_init ({ frames := 1, cells := 3, slots := 60, locals := 12  } : Room) D vwCl (xs_tys cI cB cL cR) [.ref sp] [(sp, .inr (2, [.null, .null, .null, .int (nI 0)]))] (fun (p1, p2, p3) => True) (fun (p1, p2, p3) => none) (fun (p1, p2, p3) => [(sp, .inr (2, [.ref p1, .ref p2, .ref p3, .int (nI 0)])), (p1, .inl (cI, 20, .inl (fun _ => 0))), (p2, .inl (cI, 20, .inl (fun _ => 0))), (p3, .inl (cI, 20, .inl (fun _ => 0)))]) := by
  refine xG.of b_FP_init 1 (none) (by decide +kernel) rfl (Nat.le_of_ble_eq_true rfl) ?_
  intro p e s m below meth c A ls hAe C0 hP hD hS hl
  obtain ⟨hx, hb, hr, hml, hown, hlocks, hts, hnm, hN, hK, hA⟩ := C0
  have hU : ∀ w ∈ xU, w.before #[.ref sp] s = true := fun w h => hts w (List.mem_cons_of_mem _ h)
  have hl : lv_has ls 1 [(0, .ref sp)] := hl
  refine lv_aload_n hx hb d_FP_init_0 rfl (lv_at hl 0 rfl) ?_
  refine W.objInit hx hb hown (hU _ uw_70) (hU _ uw_27) (hU _ uw_28) rfl (by rw [hml]; exact hl.1) rfl d_FP_init_1 (Nat.le_of_ble_eq_true rfl) (Nat.le_of_ble_eq_true rfl) ?_
  refine W.eq (g2 := F0 m 4 ls []) rfl ?_
  refine lv_aload_n hx hb d_FP_init_4 rfl (lv_at hl 0 rfl) ?_
  refine lv_bipush (v := nI 20) hx hb d_FP_init_5 (by decide +kernel) ?_
  refine xw_newI (N := 20) hx hb (hU _ uw_64) hK 0 rfl hP hD hS hA (by decide +kernel) (by decide +kernel) (by decide) (Nat.le_of_ble_eq_true rfl) (Nat.le_of_ble_eq_true rfl) d_FP_init_7 (fun q_1 H hP hD hS => ?_)
  replace hP : va_P D vwCl [(sp, .inr (2, [.null, .null, .null, .int (nI 0)])), (q_1, .inl (cI, 20, .inl (fun _ => 0)))] H := hP
  replace hD : va_D A [(sp, .inr (2, [.null, .null, .null, .int (nI 0)])), (q_1, .inl (cI, 20, .inl (fun _ => 0)))] := hD
  refine W.widen (k := 1) (n := 20) (Nat.le_of_ble_eq_true rfl) (Nat.le_of_ble_eq_true rfl) ?_
  refine va_putF (D := D) (ci := 2) (v := .ref q_1) (ty := (.array .int)) (C := R_FP) (T := T_FP) (N := 4) hx hb hU iw_FP ty_FP ty_FP_ok nm_FP hown hK hP hD hS 0 rfl rfl 0 (by decide) (hU _ uw_71) (fun _ h9 => h9) rfl hnm rfl (by decide +kernel) (by first | rfl | decide +kernel) (by first | rfl | decide +kernel) (Nat.le_of_ble_eq_true rfl) d_FP_init_9 (fun H locs hP hD hS => ?_)
  replace hP : va_P D vwCl [(sp, .inr (2, [.ref q_1, .null, .null, .int (nI 0)])), (q_1, .inl (cI, 20, .inl (fun _ => 0)))] H := hP
  replace hD : va_D A [(sp, .inr (2, [.ref q_1, .null, .null, .int (nI 0)])), (q_1, .inl (cI, 20, .inl (fun _ => 0)))] := hD
  refine lv_aload_n hx hb d_FP_init_12 rfl (lv_at hl 0 rfl) ?_
  refine lv_bipush (v := nI 20) hx hb d_FP_init_13 (by decide +kernel) ?_
  refine xw_newI (N := 20) hx hb (hU _ uw_64) hK 0 rfl hP hD hS hA (by decide +kernel) (by decide +kernel) (by decide) (Nat.le_of_ble_eq_true rfl) (Nat.le_of_ble_eq_true rfl) d_FP_init_15 (fun q_2 H hP hD hS => ?_)
  replace hP : va_P D vwCl [(sp, .inr (2, [.ref q_1, .null, .null, .int (nI 0)])), (q_1, .inl (cI, 20, .inl (fun _ => 0))), (q_2, .inl (cI, 20, .inl (fun _ => 0)))] H := hP
  replace hD : va_D A [(sp, .inr (2, [.ref q_1, .null, .null, .int (nI 0)])), (q_1, .inl (cI, 20, .inl (fun _ => 0))), (q_2, .inl (cI, 20, .inl (fun _ => 0)))] := hD
  refine W.widen (k := 2) (n := 40) (Nat.le_of_ble_eq_true rfl) (Nat.le_of_ble_eq_true rfl) ?_
  refine va_putF (D := D) (ci := 2) (v := .ref q_2) (ty := (.array .int)) (C := R_FP) (T := T_FP) (N := 4) hx hb hU iw_FP ty_FP ty_FP_ok nm_FP hown hK hP hD hS 0 rfl rfl 1 (by decide) (hU _ uw_72) (fun _ h9 => h9) rfl hnm rfl (by decide +kernel) (by first | rfl | decide +kernel) (by first | rfl | decide +kernel) (Nat.le_of_ble_eq_true rfl) d_FP_init_17 (fun H locs hP hD hS => ?_)
  replace hP : va_P D vwCl [(sp, .inr (2, [.ref q_1, .ref q_2, .null, .int (nI 0)])), (q_1, .inl (cI, 20, .inl (fun _ => 0))), (q_2, .inl (cI, 20, .inl (fun _ => 0)))] H := hP
  replace hD : va_D A [(sp, .inr (2, [.ref q_1, .ref q_2, .null, .int (nI 0)])), (q_1, .inl (cI, 20, .inl (fun _ => 0))), (q_2, .inl (cI, 20, .inl (fun _ => 0)))] := hD
  refine lv_aload_n hx hb d_FP_init_20 rfl (lv_at hl 0 rfl) ?_
  refine lv_bipush (v := nI 20) hx hb d_FP_init_21 (by decide +kernel) ?_
  refine xw_newI (N := 20) hx hb (hU _ uw_64) hK 0 rfl hP hD hS hA (by decide +kernel) (by decide +kernel) (by decide) (Nat.le_of_ble_eq_true rfl) (Nat.le_of_ble_eq_true rfl) d_FP_init_23 (fun q_3 H hP hD hS => ?_)
  replace hP : va_P D vwCl [(sp, .inr (2, [.ref q_1, .ref q_2, .null, .int (nI 0)])), (q_1, .inl (cI, 20, .inl (fun _ => 0))), (q_2, .inl (cI, 20, .inl (fun _ => 0))), (q_3, .inl (cI, 20, .inl (fun _ => 0)))] H := hP
  replace hD : va_D A [(sp, .inr (2, [.ref q_1, .ref q_2, .null, .int (nI 0)])), (q_1, .inl (cI, 20, .inl (fun _ => 0))), (q_2, .inl (cI, 20, .inl (fun _ => 0))), (q_3, .inl (cI, 20, .inl (fun _ => 0)))] := hD
  refine W.widen (k := 3) (n := 60) (Nat.le_of_ble_eq_true rfl) (Nat.le_of_ble_eq_true rfl) ?_
  refine va_putF (D := D) (ci := 2) (v := .ref q_3) (ty := (.array .int)) (C := R_FP) (T := T_FP) (N := 4) hx hb hU iw_FP ty_FP ty_FP_ok nm_FP hown hK hP hD hS 0 rfl rfl 2 (by decide) (hU _ uw_73) (fun _ h9 => h9) rfl hnm rfl (by decide +kernel) (by first | rfl | decide +kernel) (by first | rfl | decide +kernel) (Nat.le_of_ble_eq_true rfl) d_FP_init_25 (fun H locs hP hD hS => ?_)
  replace hP : va_P D vwCl [(sp, .inr (2, [.ref q_1, .ref q_2, .ref q_3, .int (nI 0)])), (q_1, .inl (cI, 20, .inl (fun _ => 0))), (q_2, .inl (cI, 20, .inl (fun _ => 0))), (q_3, .inl (cI, 20, .inl (fun _ => 0)))] H := hP
  replace hD : va_D A [(sp, .inr (2, [.ref q_1, .ref q_2, .ref q_3, .int (nI 0)])), (q_1, .inl (cI, 20, .inl (fun _ => 0))), (q_2, .inl (cI, 20, .inl (fun _ => 0))), (q_3, .inl (cI, 20, .inl (fun _ => 0)))] := hD
  have hP9 := xs_P_sub (w := [(sp, .inr (2, [.ref q_1, .ref q_2, .ref q_3, .int (nI 0)])), (q_1, .inl (cI, 20, .inl (fun _ => 0))), (q_2, .inl (cI, 20, .inl (fun _ => 0))), (q_3, .inl (cI, 20, .inl (fun _ => 0)))]) hP [0, 1, 2, 3] rfl
  have hD9 := hD.sub (ws' := [(sp, .inr (2, [.ref q_1, .ref q_2, .ref q_3, .int (nI 0)])), (q_1, .inl (cI, 20, .inl (fun _ => 0))), (q_2, .inl (cI, 20, .inl (fun _ => 0))), (q_3, .inl (cI, 20, .inl (fun _ => 0)))]) [0, 1, 2, 3] (by decide +kernel) rfl
  exact xw_vret (q_1, q_2, q_3) hx hb hr hlocks d_FP_init_28 (rfl) (trivial) hAe hP9 hD9 hS (Nat.le_of_ble_eq_true rfl) (Nat.le_of_ble_eq_true rfl)
set_option maxHeartbeats 4000000 in
set_option maxRecDepth 100000 in
/-- new FailLog -/
theorem k_FL (l : Launch) (D : va_G) (cI cB cL cR : ClassId) (sg : Nat)  : xG (σ := Nat × Nat × Nat) l y_FL_init w_FL_init ({ frames := 1, cells := 3, slots := 48, locals := 12  } : Room) D vwCl (xs_tys cI cB cL cR) [.ref sg] [(sg, .inr (3, [.null, .null, .null, .int (nI 0)]))] (fun (g1, g2, g3) => True) (fun (g1, g2, g3) => none) (fun (g1, g2, g3) => [(sg, .inr (3, [.ref g1, .ref g2, .ref g3, .int (nI 0)])), (g1, .inl (cI, 16, .inl (fun _ => 0))), (g2, .inl (cI, 16, .inl (fun _ => 0))), (g3, .inl (cI, 16, .inl (fun _ => 0)))]) := by
  refine xG.of b_FL_init 1 (none) (by decide +kernel) rfl (Nat.le_of_ble_eq_true rfl) ?_
  intro p e s m below meth c A ls hAe C0 hP hD hS hl
  obtain ⟨hx, hb, hr, hml, hown, hlocks, hts, hnm, hN, hK, hA⟩ := C0
  have hU : ∀ w ∈ xU, w.before #[.ref sg] s = true := fun w h => hts w (List.mem_cons_of_mem _ h)
  have hl : lv_has ls 1 [(0, .ref sg)] := hl
  refine lv_aload_n hx hb d_FL_init_0 rfl (lv_at hl 0 rfl) ?_
  refine W.objInit hx hb hown (hU _ uw_155) (hU _ uw_27) (hU _ uw_28) rfl (by rw [hml]; exact hl.1) rfl d_FL_init_1 (Nat.le_of_ble_eq_true rfl) (Nat.le_of_ble_eq_true rfl) ?_
  refine W.eq (g2 := F0 m 4 ls []) rfl ?_
  refine lv_aload_n hx hb d_FL_init_4 rfl (lv_at hl 0 rfl) ?_
  refine lv_bipush (v := nI 16) hx hb d_FL_init_5 (by decide +kernel) ?_
  refine xw_newI (N := 16) hx hb (hU _ uw_64) hK 0 rfl hP hD hS hA (by decide +kernel) (by decide +kernel) (by decide) (Nat.le_of_ble_eq_true rfl) (Nat.le_of_ble_eq_true rfl) d_FL_init_7 (fun q_1 H hP hD hS => ?_)
  replace hP : va_P D vwCl [(sg, .inr (3, [.null, .null, .null, .int (nI 0)])), (q_1, .inl (cI, 16, .inl (fun _ => 0)))] H := hP
  replace hD : va_D A [(sg, .inr (3, [.null, .null, .null, .int (nI 0)])), (q_1, .inl (cI, 16, .inl (fun _ => 0)))] := hD
  refine W.widen (k := 1) (n := 16) (Nat.le_of_ble_eq_true rfl) (Nat.le_of_ble_eq_true rfl) ?_
  refine va_putF (D := D) (ci := 3) (v := .ref q_1) (ty := (.array .int)) (C := R_FL) (T := T_FL) (N := 4) hx hb hU iw_FL ty_FL ty_FL_ok nm_FL hown hK hP hD hS 0 rfl rfl 0 (by decide) (hU _ uw_156) (fun _ h9 => h9) rfl hnm rfl (by decide +kernel) (by first | rfl | decide +kernel) (by first | rfl | decide +kernel) (Nat.le_of_ble_eq_true rfl) d_FL_init_9 (fun H locs hP hD hS => ?_)
  replace hP : va_P D vwCl [(sg, .inr (3, [.ref q_1, .null, .null, .int (nI 0)])), (q_1, .inl (cI, 16, .inl (fun _ => 0)))] H := hP
  replace hD : va_D A [(sg, .inr (3, [.ref q_1, .null, .null, .int (nI 0)])), (q_1, .inl (cI, 16, .inl (fun _ => 0)))] := hD
  refine lv_aload_n hx hb d_FL_init_12 rfl (lv_at hl 0 rfl) ?_
  refine lv_bipush (v := nI 16) hx hb d_FL_init_13 (by decide +kernel) ?_
  refine xw_newI (N := 16) hx hb (hU _ uw_64) hK 0 rfl hP hD hS hA (by decide +kernel) (by decide +kernel) (by decide) (Nat.le_of_ble_eq_true rfl) (Nat.le_of_ble_eq_true rfl) d_FL_init_15 (fun q_2 H hP hD hS => ?_)
  replace hP : va_P D vwCl [(sg, .inr (3, [.ref q_1, .null, .null, .int (nI 0)])), (q_1, .inl (cI, 16, .inl (fun _ => 0))), (q_2, .inl (cI, 16, .inl (fun _ => 0)))] H := hP
  replace hD : va_D A [(sg, .inr (3, [.ref q_1, .null, .null, .int (nI 0)])), (q_1, .inl (cI, 16, .inl (fun _ => 0))), (q_2, .inl (cI, 16, .inl (fun _ => 0)))] := hD
  refine W.widen (k := 2) (n := 32) (Nat.le_of_ble_eq_true rfl) (Nat.le_of_ble_eq_true rfl) ?_
  refine va_putF (D := D) (ci := 3) (v := .ref q_2) (ty := (.array .int)) (C := R_FL) (T := T_FL) (N := 4) hx hb hU iw_FL ty_FL ty_FL_ok nm_FL hown hK hP hD hS 0 rfl rfl 1 (by decide) (hU _ uw_158) (fun _ h9 => h9) rfl hnm rfl (by decide +kernel) (by first | rfl | decide +kernel) (by first | rfl | decide +kernel) (Nat.le_of_ble_eq_true rfl) d_FL_init_17 (fun H locs hP hD hS => ?_)
  replace hP : va_P D vwCl [(sg, .inr (3, [.ref q_1, .ref q_2, .null, .int (nI 0)])), (q_1, .inl (cI, 16, .inl (fun _ => 0))), (q_2, .inl (cI, 16, .inl (fun _ => 0)))] H := hP
  replace hD : va_D A [(sg, .inr (3, [.ref q_1, .ref q_2, .null, .int (nI 0)])), (q_1, .inl (cI, 16, .inl (fun _ => 0))), (q_2, .inl (cI, 16, .inl (fun _ => 0)))] := hD
  refine lv_aload_n hx hb d_FL_init_20 rfl (lv_at hl 0 rfl) ?_
  refine lv_bipush (v := nI 16) hx hb d_FL_init_21 (by decide +kernel) ?_
  refine xw_newI (N := 16) hx hb (hU _ uw_64) hK 0 rfl hP hD hS hA (by decide +kernel) (by decide +kernel) (by decide) (Nat.le_of_ble_eq_true rfl) (Nat.le_of_ble_eq_true rfl) d_FL_init_23 (fun q_3 H hP hD hS => ?_)
  replace hP : va_P D vwCl [(sg, .inr (3, [.ref q_1, .ref q_2, .null, .int (nI 0)])), (q_1, .inl (cI, 16, .inl (fun _ => 0))), (q_2, .inl (cI, 16, .inl (fun _ => 0))), (q_3, .inl (cI, 16, .inl (fun _ => 0)))] H := hP
  replace hD : va_D A [(sg, .inr (3, [.ref q_1, .ref q_2, .null, .int (nI 0)])), (q_1, .inl (cI, 16, .inl (fun _ => 0))), (q_2, .inl (cI, 16, .inl (fun _ => 0))), (q_3, .inl (cI, 16, .inl (fun _ => 0)))] := hD
  refine W.widen (k := 3) (n := 48) (Nat.le_of_ble_eq_true rfl) (Nat.le_of_ble_eq_true rfl) ?_
  refine va_putF (D := D) (ci := 3) (v := .ref q_3) (ty := (.array .int)) (C := R_FL) (T := T_FL) (N := 4) hx hb hU iw_FL ty_FL ty_FL_ok nm_FL hown hK hP hD hS 0 rfl rfl 2 (by decide) (hU _ uw_160) (fun _ h9 => h9) rfl hnm rfl (by decide +kernel) (by first | rfl | decide +kernel) (by first | rfl | decide +kernel) (Nat.le_of_ble_eq_true rfl) d_FL_init_25 (fun H locs hP hD hS => ?_)
  replace hP : va_P D vwCl [(sg, .inr (3, [.ref q_1, .ref q_2, .ref q_3, .int (nI 0)])), (q_1, .inl (cI, 16, .inl (fun _ => 0))), (q_2, .inl (cI, 16, .inl (fun _ => 0))), (q_3, .inl (cI, 16, .inl (fun _ => 0)))] H := hP
  replace hD : va_D A [(sg, .inr (3, [.ref q_1, .ref q_2, .ref q_3, .int (nI 0)])), (q_1, .inl (cI, 16, .inl (fun _ => 0))), (q_2, .inl (cI, 16, .inl (fun _ => 0))), (q_3, .inl (cI, 16, .inl (fun _ => 0)))] := hD
  have hP9 := xs_P_sub (w := [(sg, .inr (3, [.ref q_1, .ref q_2, .ref q_3, .int (nI 0)])), (q_1, .inl (cI, 16, .inl (fun _ => 0))), (q_2, .inl (cI, 16, .inl (fun _ => 0))), (q_3, .inl (cI, 16, .inl (fun _ => 0)))]) hP [0, 1, 2, 3] rfl
  have hD9 := hD.sub (ws' := [(sg, .inr (3, [.ref q_1, .ref q_2, .ref q_3, .int (nI 0)])), (q_1, .inl (cI, 16, .inl (fun _ => 0))), (q_2, .inl (cI, 16, .inl (fun _ => 0))), (q_3, .inl (cI, 16, .inl (fun _ => 0)))]) [0, 1, 2, 3] (by decide +kernel) rfl
  exact xw_vret (q_1, q_2, q_3) hx hb hr hlocks d_FL_init_28 (rfl) (trivial) hAe hP9 hD9 hS (Nat.le_of_ble_eq_true rfl) (Nat.le_of_ble_eq_true rfl)
set_option maxHeartbeats 4000000 in
set_option maxRecDepth 100000 in
/-- new Ways -/
theorem k_WA (l : Launch) (D : va_G) (cI cB cL cR : ClassId) (sw : Nat)  : xG (σ := Nat) l y_WA_init w_WA_init ({ frames := 1, cells := 1, slots := 200, locals := 12  } : Room) D vwCl (xs_tys cI cB cL cR) [.ref sw] [(sw, .inr (8, [.null]))] (fun wl => True) (fun wl => none) (fun wl => [(sw, .inr (8, [.ref wl])), (wl, .inl (cB, 200, .inl (fun _ => 0)))]) := by
  refine xG.of b_WA_init 1 (none) (by decide +kernel) rfl (Nat.le_of_ble_eq_true rfl) ?_
  intro p e s m below meth c A ls hAe C0 hP hD hS hl
  obtain ⟨hx, hb, hr, hml, hown, hlocks, hts, hnm, hN, hK, hA⟩ := C0
  have hU : ∀ w ∈ xU, w.before #[.ref sw] s = true := fun w h => hts w (List.mem_cons_of_mem _ h)
  have hl : lv_has ls 1 [(0, .ref sw)] := hl
  refine lv_aload_n hx hb d_WA_init_0 rfl (lv_at hl 0 rfl) ?_
  refine W.objInit hx hb hown (hU _ uw_179) (hU _ uw_27) (hU _ uw_28) rfl (by rw [hml]; exact hl.1) rfl d_WA_init_1 (Nat.le_of_ble_eq_true rfl) (Nat.le_of_ble_eq_true rfl) ?_
  refine W.eq (g2 := F0 m 4 ls []) rfl ?_
  refine lv_aload_n hx hb d_WA_init_4 rfl (lv_at hl 0 rfl) ?_
  refine lv_sipush (v := nI 200) hx hb d_WA_init_5 (by decide +kernel) ?_
  refine xw_newB (N := 200) hx hb (hU _ uw_115) hK 1 rfl hP hD hS hA (by decide +kernel) (by decide +kernel) (by decide) (Nat.le_of_ble_eq_true rfl) (Nat.le_of_ble_eq_true rfl) d_WA_init_8 (fun q_1 H hP hD hS => ?_)
  replace hP : va_P D vwCl [(sw, .inr (8, [.null])), (q_1, .inl (cB, 200, .inl (fun _ => 0)))] H := hP
  replace hD : va_D A [(sw, .inr (8, [.null])), (q_1, .inl (cB, 200, .inl (fun _ => 0)))] := hD
  refine W.widen (k := 1) (n := 200) (Nat.le_of_ble_eq_true rfl) (Nat.le_of_ble_eq_true rfl) ?_
  refine va_putF (D := D) (ci := 8) (v := .ref q_1) (ty := (.array .boolean)) (C := R_WA) (T := T_WA) (N := 1) hx hb hU iw_WA ty_WA ty_WA_ok nm_WA hown hK hP hD hS 0 rfl rfl 0 (by decide) (hU _ uw_180) (fun _ h9 => h9) rfl hnm rfl (by decide +kernel) (by first | rfl | decide +kernel) (by first | rfl | decide +kernel) (Nat.le_of_ble_eq_true rfl) d_WA_init_10 (fun H locs hP hD hS => ?_)
  replace hP : va_P D vwCl [(sw, .inr (8, [.ref q_1])), (q_1, .inl (cB, 200, .inl (fun _ => 0)))] H := hP
  replace hD : va_D A [(sw, .inr (8, [.ref q_1])), (q_1, .inl (cB, 200, .inl (fun _ => 0)))] := hD
  have hP9 := xs_P_sub (w := [(sw, .inr (8, [.ref q_1])), (q_1, .inl (cB, 200, .inl (fun _ => 0)))]) hP [0, 1] rfl
  have hD9 := hD.sub (ws' := [(sw, .inr (8, [.ref q_1])), (q_1, .inl (cB, 200, .inl (fun _ => 0)))]) [0, 1] (by decide +kernel) rfl
  exact xw_vret q_1 hx hb hr hlocks d_WA_init_13 (rfl) (trivial) hAe hP9 hD9 hS (Nat.le_of_ble_eq_true rfl) (Nat.le_of_ble_eq_true rfl)
set_option maxHeartbeats 4000000 in
set_option maxRecDepth 100000 in
/-- new Levels -/
theorem k_LE (l : Launch) (D : va_G) (cI cB cL cR : ClassId) (sv : Nat)  : xG (σ := Nat × Nat × Nat × Nat) l y_LE_init w_LE_init ({ frames := 1, cells := 4, slots := 801, locals := 23  } : Room) D vwCl (xs_tys cI cB cL cR) [.ref sv] [(sv, .inr (7, [.null, .null, .null, .int (nI 0), .null]))] (fun (lo, lr, lb, lf) => (∀ j : Nat, (fun _ => 0 : Nat → Nat) j < 200) ∧ (∀ j : Nat, (fun _ => 0 : Nat → Nat) j < 201)) (fun (lo, lr, lb, lf) => none) (fun (lo, lr, lb, lf) => [(sv, .inr (7, [.ref lo, .ref lr, .ref lb, .int (nI 0), .ref lf])), (lo, .inl (cI, 200, .inl (fun _ => (-1)))), (lr, .inl (cI, 200, .inl (xs_G (fun _ => 0)))), (lb, .inl (cI, 201, .inl (xs_G (fun _ => 0)))), (lf, .inl (cB, 200, .inl (fun _ => 0)))]) := by
  refine xG.of b_LE_init 1 (none) (by decide +kernel) rfl (Nat.le_of_ble_eq_true rfl) ?_
  intro p e s m below meth c A ls hAe C0 hP hD hS hl
  obtain ⟨hx, hb, hr, hml, hown, hlocks, hts, hnm, hN, hK, hA⟩ := C0
  have hU : ∀ w ∈ xU, w.before #[.ref sv] s = true := fun w h => hts w (List.mem_cons_of_mem _ h)
  have hl : lv_has ls 1 [(0, .ref sv)] := hl
  refine lv_aload_n hx hb d_LE_init_0 rfl (lv_at hl 0 rfl) ?_
  refine W.objInit hx hb hown (hU _ uw_121) (hU _ uw_27) (hU _ uw_28) rfl (by rw [hml]; exact hl.1) rfl d_LE_init_1 (Nat.le_of_ble_eq_true rfl) (Nat.le_of_ble_eq_true rfl) ?_
  refine W.eq (g2 := F0 m 4 ls []) rfl ?_
  refine lv_aload_n hx hb d_LE_init_4 rfl (lv_at hl 0 rfl) ?_
  refine lv_sipush (v := nI 200) hx hb d_LE_init_5 (by decide +kernel) ?_
  refine xw_newI (N := 200) hx hb (hU _ uw_64) hK 0 rfl hP hD hS hA (by decide +kernel) (by decide +kernel) (by decide) (Nat.le_of_ble_eq_true rfl) (Nat.le_of_ble_eq_true rfl) d_LE_init_8 (fun q_1 H hP hD hS => ?_)
  replace hP : va_P D vwCl [(sv, .inr (7, [.null, .null, .null, .int (nI 0), .null])), (q_1, .inl (cI, 200, .inl (fun _ => 0)))] H := hP
  replace hD : va_D A [(sv, .inr (7, [.null, .null, .null, .int (nI 0), .null])), (q_1, .inl (cI, 200, .inl (fun _ => 0)))] := hD
  refine W.widen (k := 1) (n := 200) (Nat.le_of_ble_eq_true rfl) (Nat.le_of_ble_eq_true rfl) ?_
  refine va_putF (D := D) (ci := 7) (v := .ref q_1) (ty := (.array .int)) (C := R_LE) (T := T_LE) (N := 5) hx hb hU iw_LE ty_LE ty_LE_ok nm_LE hown hK hP hD hS 0 rfl rfl 0 (by decide) (hU _ uw_125) (fun _ h9 => h9) rfl hnm rfl (by decide +kernel) (by first | rfl | decide +kernel) (by first | rfl | decide +kernel) (Nat.le_of_ble_eq_true rfl) d_LE_init_10 (fun H locs hP hD hS => ?_)
  replace hP : va_P D vwCl [(sv, .inr (7, [.ref q_1, .null, .null, .int (nI 0), .null])), (q_1, .inl (cI, 200, .inl (fun _ => 0)))] H := hP
  replace hD : va_D A [(sv, .inr (7, [.ref q_1, .null, .null, .int (nI 0), .null])), (q_1, .inl (cI, 200, .inl (fun _ => 0)))] := hD
  refine lv_aload_n hx hb d_LE_init_13 rfl (lv_at hl 0 rfl) ?_
  refine lv_sipush (v := nI 200) hx hb d_LE_init_14 (by decide +kernel) ?_
  refine xw_newI (N := 200) hx hb (hU _ uw_64) hK 0 rfl hP hD hS hA (by decide +kernel) (by decide +kernel) (by decide) (Nat.le_of_ble_eq_true rfl) (Nat.le_of_ble_eq_true rfl) d_LE_init_17 (fun q_2 H hP hD hS => ?_)
  replace hP : va_P D vwCl [(sv, .inr (7, [.ref q_1, .null, .null, .int (nI 0), .null])), (q_1, .inl (cI, 200, .inl (fun _ => 0))), (q_2, .inl (cI, 200, .inl (fun _ => 0)))] H := hP
  replace hD : va_D A [(sv, .inr (7, [.ref q_1, .null, .null, .int (nI 0), .null])), (q_1, .inl (cI, 200, .inl (fun _ => 0))), (q_2, .inl (cI, 200, .inl (fun _ => 0)))] := hD
  refine W.widen (k := 2) (n := 400) (Nat.le_of_ble_eq_true rfl) (Nat.le_of_ble_eq_true rfl) ?_
  have hz_3 : ∀ j, (fun _ => 0 : Nat → Nat) j < 200 := fun _ => by show 0 < 200; omega
  replace hP : va_P D vwCl [(sv, .inr (7, [.ref q_1, .null, .null, .int (nI 0), .null])), (q_1, .inl (cI, 200, .inl (fun _ => 0))), (q_2, .inl (cI, 200, .inl (xs_G (fun _ => 0))))] H := hP
  replace hD : va_D A [(sv, .inr (7, [.ref q_1, .null, .null, .int (nI 0), .null])), (q_1, .inl (cI, 200, .inl (fun _ => 0))), (q_2, .inl (cI, 200, .inl (xs_G (fun _ => 0))))] := hD
  refine va_putF (D := D) (ci := 7) (v := .ref q_2) (ty := (.array .int)) (C := R_LE) (T := T_LE) (N := 5) hx hb hU iw_LE ty_LE ty_LE_ok nm_LE hown hK hP hD hS 0 rfl rfl 1 (by decide) (hU _ uw_128) (fun _ h9 => h9) rfl hnm rfl (by decide +kernel) (by first | rfl | decide +kernel) (by first | rfl | decide +kernel) (Nat.le_of_ble_eq_true rfl) d_LE_init_19 (fun H locs hP hD hS => ?_)
  replace hP : va_P D vwCl [(sv, .inr (7, [.ref q_1, .ref q_2, .null, .int (nI 0), .null])), (q_1, .inl (cI, 200, .inl (fun _ => 0))), (q_2, .inl (cI, 200, .inl (xs_G (fun _ => 0))))] H := hP
  replace hD : va_D A [(sv, .inr (7, [.ref q_1, .ref q_2, .null, .int (nI 0), .null])), (q_1, .inl (cI, 200, .inl (fun _ => 0))), (q_2, .inl (cI, 200, .inl (xs_G (fun _ => 0))))] := hD
  refine lv_aload_n hx hb d_LE_init_22 rfl (lv_at hl 0 rfl) ?_
  refine lv_sipush (v := nI 201) hx hb d_LE_init_23 (by decide +kernel) ?_
  refine xw_newI (N := 201) hx hb (hU _ uw_64) hK 0 rfl hP hD hS hA (by decide +kernel) (by decide +kernel) (by decide) (Nat.le_of_ble_eq_true rfl) (Nat.le_of_ble_eq_true rfl) d_LE_init_26 (fun q_4 H hP hD hS => ?_)
  replace hP : va_P D vwCl [(sv, .inr (7, [.ref q_1, .ref q_2, .null, .int (nI 0), .null])), (q_1, .inl (cI, 200, .inl (fun _ => 0))), (q_2, .inl (cI, 200, .inl (xs_G (fun _ => 0)))), (q_4, .inl (cI, 201, .inl (fun _ => 0)))] H := hP
  replace hD : va_D A [(sv, .inr (7, [.ref q_1, .ref q_2, .null, .int (nI 0), .null])), (q_1, .inl (cI, 200, .inl (fun _ => 0))), (q_2, .inl (cI, 200, .inl (xs_G (fun _ => 0)))), (q_4, .inl (cI, 201, .inl (fun _ => 0)))] := hD
  refine W.widen (k := 3) (n := 601) (Nat.le_of_ble_eq_true rfl) (Nat.le_of_ble_eq_true rfl) ?_
  have hz_5 : ∀ j, (fun _ => 0 : Nat → Nat) j < 201 := fun _ => by show 0 < 201; omega
  replace hP : va_P D vwCl [(sv, .inr (7, [.ref q_1, .ref q_2, .null, .int (nI 0), .null])), (q_1, .inl (cI, 200, .inl (fun _ => 0))), (q_2, .inl (cI, 200, .inl (xs_G (fun _ => 0)))), (q_4, .inl (cI, 201, .inl (xs_G (fun _ => 0))))] H := hP
  replace hD : va_D A [(sv, .inr (7, [.ref q_1, .ref q_2, .null, .int (nI 0), .null])), (q_1, .inl (cI, 200, .inl (fun _ => 0))), (q_2, .inl (cI, 200, .inl (xs_G (fun _ => 0)))), (q_4, .inl (cI, 201, .inl (xs_G (fun _ => 0))))] := hD
  refine va_putF (D := D) (ci := 7) (v := .ref q_4) (ty := (.array .int)) (C := R_LE) (T := T_LE) (N := 5) hx hb hU iw_LE ty_LE ty_LE_ok nm_LE hown hK hP hD hS 0 rfl rfl 2 (by decide) (hU _ uw_131) (fun _ h9 => h9) rfl hnm rfl (by decide +kernel) (by first | rfl | decide +kernel) (by first | rfl | decide +kernel) (Nat.le_of_ble_eq_true rfl) d_LE_init_28 (fun H locs hP hD hS => ?_)
  replace hP : va_P D vwCl [(sv, .inr (7, [.ref q_1, .ref q_2, .ref q_4, .int (nI 0), .null])), (q_1, .inl (cI, 200, .inl (fun _ => 0))), (q_2, .inl (cI, 200, .inl (xs_G (fun _ => 0)))), (q_4, .inl (cI, 201, .inl (xs_G (fun _ => 0))))] H := hP
  replace hD : va_D A [(sv, .inr (7, [.ref q_1, .ref q_2, .ref q_4, .int (nI 0), .null])), (q_1, .inl (cI, 200, .inl (fun _ => 0))), (q_2, .inl (cI, 200, .inl (xs_G (fun _ => 0)))), (q_4, .inl (cI, 201, .inl (xs_G (fun _ => 0))))] := hD
  refine lv_aload_n hx hb d_LE_init_31 rfl (lv_at hl 0 rfl) ?_
  refine lv_sipush (v := nI 200) hx hb d_LE_init_32 (by decide +kernel) ?_
  refine xw_newB (N := 200) hx hb (hU _ uw_115) hK 1 rfl hP hD hS hA (by decide +kernel) (by decide +kernel) (by decide) (Nat.le_of_ble_eq_true rfl) (Nat.le_of_ble_eq_true rfl) d_LE_init_35 (fun q_6 H hP hD hS => ?_)
  replace hP : va_P D vwCl [(sv, .inr (7, [.ref q_1, .ref q_2, .ref q_4, .int (nI 0), .null])), (q_1, .inl (cI, 200, .inl (fun _ => 0))), (q_2, .inl (cI, 200, .inl (xs_G (fun _ => 0)))), (q_4, .inl (cI, 201, .inl (xs_G (fun _ => 0)))), (q_6, .inl (cB, 200, .inl (fun _ => 0)))] H := hP
  replace hD : va_D A [(sv, .inr (7, [.ref q_1, .ref q_2, .ref q_4, .int (nI 0), .null])), (q_1, .inl (cI, 200, .inl (fun _ => 0))), (q_2, .inl (cI, 200, .inl (xs_G (fun _ => 0)))), (q_4, .inl (cI, 201, .inl (xs_G (fun _ => 0)))), (q_6, .inl (cB, 200, .inl (fun _ => 0)))] := hD
  refine W.widen (k := 4) (n := 801) (Nat.le_of_ble_eq_true rfl) (Nat.le_of_ble_eq_true rfl) ?_
  refine va_putF (D := D) (ci := 7) (v := .ref q_6) (ty := (.array .boolean)) (C := R_LE) (T := T_LE) (N := 5) hx hb hU iw_LE ty_LE ty_LE_ok nm_LE hown hK hP hD hS 0 rfl rfl 4 (by decide) (hU _ uw_138) (fun _ h9 => h9) rfl hnm rfl (by decide +kernel) (by first | rfl | decide +kernel) (by first | rfl | decide +kernel) (Nat.le_of_ble_eq_true rfl) d_LE_init_37 (fun H locs hP hD hS => ?_)
  replace hP : va_P D vwCl [(sv, .inr (7, [.ref q_1, .ref q_2, .ref q_4, .int (nI 0), .ref q_6])), (q_1, .inl (cI, 200, .inl (fun _ => 0))), (q_2, .inl (cI, 200, .inl (xs_G (fun _ => 0)))), (q_4, .inl (cI, 201, .inl (xs_G (fun _ => 0)))), (q_6, .inl (cB, 200, .inl (fun _ => 0)))] H := hP
  replace hD : va_D A [(sv, .inr (7, [.ref q_1, .ref q_2, .ref q_4, .int (nI 0), .ref q_6])), (q_1, .inl (cI, 200, .inl (fun _ => 0))), (q_2, .inl (cI, 200, .inl (xs_G (fun _ => 0)))), (q_4, .inl (cI, 201, .inl (xs_G (fun _ => 0)))), (q_6, .inl (cB, 200, .inl (fun _ => 0)))] := hD
  refine lv_aload_n hx hb d_LE_init_40 rfl (lv_at hl 0 rfl) ?_
  refine va_get (D := D) (a := sv) (fs := [.ref q_1, .ref q_2, .ref q_4, .int (nI 0), .ref q_6]) (ci := 7) (v := .ref q_1) (C := R_LE) (T := T_LE) (N := 5) hx hb hU iw_LE hown hK hP 0 rfl rfl 0 (by decide) (hU _ uw_125) (fun _ h9 => h9) rfl d_LE_init_41 ?_
  refine lv_iconst (v := (-1)) hx hb d_LE_init_44 (by decide +kernel) ?_
  refine xw_callS (wr := [(sv, .inr (7, [.ref q_1, .ref q_2, .ref q_4, .int (nI 0), .ref q_6])), (q_2, .inl (cI, 200, .inl (xs_G (fun _ => 0)))), (q_4, .inl (cI, 201, .inl (xs_G (fun _ => 0)))), (q_6, .inl (cB, 200, .inl (fun _ => 0)))]) [.ref q_1, .int (-1)] (n_fill l D cI cB cL cR q_1 200 (fun _ => 0) (-1) (by decide)) ⟨hx, hb, hml, hown, hU⟩ (va_cwS 2 hU (xs_goodS uw_122 uw_123 uw_8 uw_124) rfl rfl rfl (by decide +kernel) ⟨Nat.le_of_ble_eq_true rfl, Nat.le_of_ble_eq_true rfl⟩) rfl hl.1 rfl (Nat.le_of_ble_eq_true rfl) d_LE_init_45 ⟨Nat.le_of_ble_eq_true rfl, Nat.le_of_ble_eq_true rfl⟩ [1] [0, 2, 3, 4] rfl rfl (by decide +kernel) (by decide +kernel) (by decide +kernel) hN hK hP hD hS hA (fun u H locs hf hP hD hS => ?_)
  replace hP : va_P D vwCl [(sv, .inr (7, [.ref q_1, .ref q_2, .ref q_4, .int (nI 0), .ref q_6])), (q_2, .inl (cI, 200, .inl (xs_G (fun _ => 0)))), (q_4, .inl (cI, 201, .inl (xs_G (fun _ => 0)))), (q_6, .inl (cB, 200, .inl (fun _ => 0))), (q_1, .inl (cI, 200, .inl (fun _ => ((-1)))))] H := hP
  replace hD : va_D A [(sv, .inr (7, [.ref q_1, .ref q_2, .ref q_4, .int (nI 0), .ref q_6])), (q_2, .inl (cI, 200, .inl (xs_G (fun _ => 0)))), (q_4, .inl (cI, 201, .inl (xs_G (fun _ => 0)))), (q_6, .inl (cB, 200, .inl (fun _ => 0))), (q_1, .inl (cI, 200, .inl (fun _ => ((-1)))))] := hD
  refine W.widen (k := 4) (n := 801) (Nat.le_of_ble_eq_true rfl) (Nat.le_of_ble_eq_true rfl) ?_
  refine W.eq (g2 := F0 m 48 ls []) rfl ?_
  have hP9 := xs_P_sub (w := [(sv, .inr (7, [.ref q_1, .ref q_2, .ref q_4, .int (nI 0), .ref q_6])), (q_1, .inl (cI, 200, .inl (fun _ => ((-1))))), (q_2, .inl (cI, 200, .inl (xs_G (fun _ => 0)))), (q_4, .inl (cI, 201, .inl (xs_G (fun _ => 0)))), (q_6, .inl (cB, 200, .inl (fun _ => 0)))]) hP [0, 4, 1, 2, 3] rfl
  have hD9 := hD.sub (ws' := [(sv, .inr (7, [.ref q_1, .ref q_2, .ref q_4, .int (nI 0), .ref q_6])), (q_1, .inl (cI, 200, .inl (fun _ => ((-1))))), (q_2, .inl (cI, 200, .inl (xs_G (fun _ => 0)))), (q_4, .inl (cI, 201, .inl (xs_G (fun _ => 0)))), (q_6, .inl (cB, 200, .inl (fun _ => 0)))]) [0, 4, 1, 2, 3] (by decide +kernel) rfl
  exact xw_vret (q_1, q_2, q_4, q_6) hx hb hr hlocks d_LE_init_48 (rfl) (⟨fun j => by have h8 := hz_3 j; omega, fun j => by have h8 := hz_5 j; omega⟩) hAe hP9 hD9 hS (Nat.le_of_ble_eq_true rfl) (Nat.le_of_ble_eq_true rfl)
set_option maxHeartbeats 4000000 in
set_option maxRecDepth 100000 in
/-- new Queues -/
theorem k_QU (l : Launch) (D : va_G) (cI cB cL cR : ClassId) (sq : Nat) (rm : Nat)  : xG (σ := Nat × Nat × Nat × (Nat → Nat)) l y_QU_init w_QU_init ({ frames := 1, cells := 19, slots := 176, locals := 12  } : Room) D vwCl (xs_tys cI cB cL cR) [.ref sq, .int (nI rm)] [(sq, .inr (5, [.int (nI 0), .null, .null, .null, .int (nI 0)]))] (fun (qr, qf, qh, r1) => (∀ j : Nat, (fun _ => 0 : Nat → Nat) j < 8) ∧ (∀ j : Nat, (fun _ => 0 : Nat → Nat) j < 9) ∧ (∀ i j : Nat, (fun _ _ => 0 : Nat → Nat → Nat) i j < 200)) (fun (qr, qf, qh, r1) => none) (fun (qr, qf, qh, r1) => (xs_ap [(sq, .inr (5, [.int (nI rm), .ref qr, .ref qf, .ref qh, .int (nI 0)])), (qr, .inl (cR, 16, .inr (.inr (.inr (.inr (xs_out r1 16)))))), (qf, .inl (cI, 16, .inl (xs_G (fun _ => 0)))), (qh, .inl (cI, 16, .inl (xs_G (fun _ => 0))))] (xs_rows cI r1 16 8 (fun _ _ => 0)))) := by
  refine xG.of b_QU_init 2 (none) (by decide +kernel) rfl (Nat.le_of_ble_eq_true rfl) ?_
  intro p e s m below meth c A ls hAe C0 hP hD hS hl
  obtain ⟨hx, hb, hr, hml, hown, hlocks, hts, hnm, hN, hK, hA⟩ := C0
  have hU : ∀ w ∈ xU, w.before #[.ref sq, .int (nI rm)] s = true := fun w h => hts w (List.mem_cons_of_mem _ h)
  have hl : lv_has ls 2 [(0, .ref sq), (1, .int (nI rm))] := hl
  refine lv_aload_n hx hb d_QU_init_0 rfl (lv_at hl 0 rfl) ?_
  refine W.objInit hx hb hown (hU _ uw_244) (hU _ uw_27) (hU _ uw_28) rfl (by rw [hml]; exact hl.1) rfl d_QU_init_1 (Nat.le_of_ble_eq_true rfl) (Nat.le_of_ble_eq_true rfl) ?_
  refine W.eq (g2 := F0 m 4 ls []) rfl ?_
  refine lv_aload_n hx hb d_QU_init_4 rfl (lv_at hl 0 rfl) ?_
  refine lv_bipush (v := nI 16) hx hb d_QU_init_5 (by decide +kernel) ?_
  refine lv_bipush (v := nI 8) hx hb d_QU_init_7 (by decide +kernel) ?_
  refine xw_mnaG (N := 16) (K := 8) hx hb hown (hU _ uw_245) (hN _ nw_92) (hU _ uw_64) hK 0 3 rfl rfl hP hD hS hA (by decide +kernel) (by decide +kernel) (by decide +kernel) (by decide +kernel) (by decide) (by decide) (Nat.le_of_ble_eq_true rfl) (Nat.le_of_ble_eq_true rfl) d_QU_init_9 (fun q_1 r_2 H hP hD hS => ?_)
  have hz_4 : ∀ i j, (fun _ _ => 0 : Nat → Nat → Nat) i j < 200 := fun _ _ => by show 0 < 200; omega
  replace hP : va_P D vwCl (xs_ap [(sq, .inr (5, [.int (nI 0), .null, .null, .null, .int (nI 0)])), (q_1, .inl (cR, 16, .inr (.inr (.inr (.inr (xs_out r_2 16))))))] (xs_rows cI r_2 16 8 (fun _ _ => 0))) H := hP
  replace hD : va_D A (xs_ap [(sq, .inr (5, [.int (nI 0), .null, .null, .null, .int (nI 0)])), (q_1, .inl (cR, 16, .inr (.inr (.inr (.inr (xs_out r_2 16))))))] (xs_rows cI r_2 16 8 (fun _ _ => 0))) := hD
  refine W.widen (k := 17) (n := 144) (Nat.le_of_ble_eq_true rfl) (Nat.le_of_ble_eq_true rfl) ?_
  refine va_putF (D := D) (ci := 5) (v := .ref q_1) (ty := (.array (.array .int))) (C := R_QU) (T := T_QU) (N := 5) hx hb hU iw_QU ty_QU ty_QU_ok nm_QU hown hK hP hD hS 0 rfl rfl 1 (by decide) (hU _ uw_248) (fun _ h9 => h9) rfl hnm rfl (by decide +kernel) (by first | rfl | decide +kernel) (by first | rfl | decide +kernel) (Nat.le_of_ble_eq_true rfl) d_QU_init_13 (fun H locs hP hD hS => ?_)
  replace hP : va_P D vwCl (xs_ap [(sq, .inr (5, [.int (nI 0), .ref q_1, .null, .null, .int (nI 0)])), (q_1, .inl (cR, 16, .inr (.inr (.inr (.inr (xs_out r_2 16))))))] (xs_rows cI r_2 16 8 (fun _ _ => 0))) H := hP
  replace hD : va_D A (xs_ap [(sq, .inr (5, [.int (nI 0), .ref q_1, .null, .null, .int (nI 0)])), (q_1, .inl (cR, 16, .inr (.inr (.inr (.inr (xs_out r_2 16))))))] (xs_rows cI r_2 16 8 (fun _ _ => 0))) := hD
  refine lv_aload_n hx hb d_QU_init_16 rfl (lv_at hl 0 rfl) ?_
  refine lv_bipush (v := nI 16) hx hb d_QU_init_17 (by decide +kernel) ?_
  refine xw_newI (N := 16) hx hb (hU _ uw_64) hK 0 rfl hP hD hS hA (by decide +kernel) (by decide +kernel) (by decide) (Nat.le_of_ble_eq_true rfl) (Nat.le_of_ble_eq_true rfl) d_QU_init_19 (fun q_5 H hP hD hS => ?_)
  replace hP : va_P D vwCl (xs_ap [(sq, .inr (5, [.int (nI 0), .ref q_1, .null, .null, .int (nI 0)])), (q_1, .inl (cR, 16, .inr (.inr (.inr (.inr (xs_out r_2 16)))))), (q_5, .inl (cI, 16, .inl (fun _ => 0)))] (xs_rows cI r_2 16 8 (fun _ _ => 0))) H := xs_P_sub hP [0, 1, 18, 2, 3, 4, 5, 6, 7, 8, 9, 10, 11, 12, 13, 14, 15, 16, 17] rfl
  replace hD : va_D A (xs_ap [(sq, .inr (5, [.int (nI 0), .ref q_1, .null, .null, .int (nI 0)])), (q_1, .inl (cR, 16, .inr (.inr (.inr (.inr (xs_out r_2 16)))))), (q_5, .inl (cI, 16, .inl (fun _ => 0)))] (xs_rows cI r_2 16 8 (fun _ _ => 0))) := hD.sub [0, 1, 18, 2, 3, 4, 5, 6, 7, 8, 9, 10, 11, 12, 13, 14, 15, 16, 17] (by decide +kernel) rfl
  refine W.widen (k := 18) (n := 160) (Nat.le_of_ble_eq_true rfl) (Nat.le_of_ble_eq_true rfl) ?_
  have hz_6 : ∀ j, (fun _ => 0 : Nat → Nat) j < 8 := fun _ => by show 0 < 8; omega
  replace hP : va_P D vwCl (xs_ap [(sq, .inr (5, [.int (nI 0), .ref q_1, .null, .null, .int (nI 0)])), (q_1, .inl (cR, 16, .inr (.inr (.inr (.inr (xs_out r_2 16)))))), (q_5, .inl (cI, 16, .inl (xs_G (fun _ => 0))))] (xs_rows cI r_2 16 8 (fun _ _ => 0))) H := hP
  replace hD : va_D A (xs_ap [(sq, .inr (5, [.int (nI 0), .ref q_1, .null, .null, .int (nI 0)])), (q_1, .inl (cR, 16, .inr (.inr (.inr (.inr (xs_out r_2 16)))))), (q_5, .inl (cI, 16, .inl (xs_G (fun _ => 0))))] (xs_rows cI r_2 16 8 (fun _ _ => 0))) := hD
  refine va_putF (D := D) (ci := 5) (v := .ref q_5) (ty := (.array .int)) (C := R_QU) (T := T_QU) (N := 5) hx hb hU iw_QU ty_QU ty_QU_ok nm_QU hown hK hP hD hS 0 rfl rfl 2 (by decide) (hU _ uw_249) (fun _ h9 => h9) rfl hnm rfl (by decide +kernel) (by first | rfl | decide +kernel) (by first | rfl | decide +kernel) (Nat.le_of_ble_eq_true rfl) d_QU_init_21 (fun H locs hP hD hS => ?_)
  replace hP : va_P D vwCl (xs_ap [(sq, .inr (5, [.int (nI 0), .ref q_1, .ref q_5, .null, .int (nI 0)])), (q_1, .inl (cR, 16, .inr (.inr (.inr (.inr (xs_out r_2 16)))))), (q_5, .inl (cI, 16, .inl (xs_G (fun _ => 0))))] (xs_rows cI r_2 16 8 (fun _ _ => 0))) H := hP
  replace hD : va_D A (xs_ap [(sq, .inr (5, [.int (nI 0), .ref q_1, .ref q_5, .null, .int (nI 0)])), (q_1, .inl (cR, 16, .inr (.inr (.inr (.inr (xs_out r_2 16)))))), (q_5, .inl (cI, 16, .inl (xs_G (fun _ => 0))))] (xs_rows cI r_2 16 8 (fun _ _ => 0))) := hD
  refine lv_aload_n hx hb d_QU_init_24 rfl (lv_at hl 0 rfl) ?_
  refine lv_bipush (v := nI 16) hx hb d_QU_init_25 (by decide +kernel) ?_
  refine xw_newI (N := 16) hx hb (hU _ uw_64) hK 0 rfl hP hD hS hA (by decide +kernel) (by decide +kernel) (by decide) (Nat.le_of_ble_eq_true rfl) (Nat.le_of_ble_eq_true rfl) d_QU_init_27 (fun q_7 H hP hD hS => ?_)
  replace hP : va_P D vwCl (xs_ap [(sq, .inr (5, [.int (nI 0), .ref q_1, .ref q_5, .null, .int (nI 0)])), (q_1, .inl (cR, 16, .inr (.inr (.inr (.inr (xs_out r_2 16)))))), (q_5, .inl (cI, 16, .inl (xs_G (fun _ => 0)))), (q_7, .inl (cI, 16, .inl (fun _ => 0)))] (xs_rows cI r_2 16 8 (fun _ _ => 0))) H := xs_P_sub hP [0, 1, 2, 19, 3, 4, 5, 6, 7, 8, 9, 10, 11, 12, 13, 14, 15, 16, 17, 18] rfl
  replace hD : va_D A (xs_ap [(sq, .inr (5, [.int (nI 0), .ref q_1, .ref q_5, .null, .int (nI 0)])), (q_1, .inl (cR, 16, .inr (.inr (.inr (.inr (xs_out r_2 16)))))), (q_5, .inl (cI, 16, .inl (xs_G (fun _ => 0)))), (q_7, .inl (cI, 16, .inl (fun _ => 0)))] (xs_rows cI r_2 16 8 (fun _ _ => 0))) := hD.sub [0, 1, 2, 19, 3, 4, 5, 6, 7, 8, 9, 10, 11, 12, 13, 14, 15, 16, 17, 18] (by decide +kernel) rfl
  refine W.widen (k := 19) (n := 176) (Nat.le_of_ble_eq_true rfl) (Nat.le_of_ble_eq_true rfl) ?_
  have hz_8 : ∀ j, (fun _ => 0 : Nat → Nat) j < 9 := fun _ => by show 0 < 9; omega
  replace hP : va_P D vwCl (xs_ap [(sq, .inr (5, [.int (nI 0), .ref q_1, .ref q_5, .null, .int (nI 0)])), (q_1, .inl (cR, 16, .inr (.inr (.inr (.inr (xs_out r_2 16)))))), (q_5, .inl (cI, 16, .inl (xs_G (fun _ => 0)))), (q_7, .inl (cI, 16, .inl (xs_G (fun _ => 0))))] (xs_rows cI r_2 16 8 (fun _ _ => 0))) H := hP
  replace hD : va_D A (xs_ap [(sq, .inr (5, [.int (nI 0), .ref q_1, .ref q_5, .null, .int (nI 0)])), (q_1, .inl (cR, 16, .inr (.inr (.inr (.inr (xs_out r_2 16)))))), (q_5, .inl (cI, 16, .inl (xs_G (fun _ => 0)))), (q_7, .inl (cI, 16, .inl (xs_G (fun _ => 0))))] (xs_rows cI r_2 16 8 (fun _ _ => 0))) := hD
  refine va_putF (D := D) (ci := 5) (v := .ref q_7) (ty := (.array .int)) (C := R_QU) (T := T_QU) (N := 5) hx hb hU iw_QU ty_QU ty_QU_ok nm_QU hown hK hP hD hS 0 rfl rfl 3 (by decide) (hU _ uw_250) (fun _ h9 => h9) rfl hnm rfl (by decide +kernel) (by first | rfl | decide +kernel) (by first | rfl | decide +kernel) (Nat.le_of_ble_eq_true rfl) d_QU_init_29 (fun H locs hP hD hS => ?_)
  replace hP : va_P D vwCl (xs_ap [(sq, .inr (5, [.int (nI 0), .ref q_1, .ref q_5, .ref q_7, .int (nI 0)])), (q_1, .inl (cR, 16, .inr (.inr (.inr (.inr (xs_out r_2 16)))))), (q_5, .inl (cI, 16, .inl (xs_G (fun _ => 0)))), (q_7, .inl (cI, 16, .inl (xs_G (fun _ => 0))))] (xs_rows cI r_2 16 8 (fun _ _ => 0))) H := hP
  replace hD : va_D A (xs_ap [(sq, .inr (5, [.int (nI 0), .ref q_1, .ref q_5, .ref q_7, .int (nI 0)])), (q_1, .inl (cR, 16, .inr (.inr (.inr (.inr (xs_out r_2 16)))))), (q_5, .inl (cI, 16, .inl (xs_G (fun _ => 0)))), (q_7, .inl (cI, 16, .inl (xs_G (fun _ => 0))))] (xs_rows cI r_2 16 8 (fun _ _ => 0))) := hD
  refine lv_aload_n hx hb d_QU_init_32 rfl (lv_at hl 0 rfl) ?_
  refine lv_iload_n hx hb d_QU_init_33 rfl (lv_at hl 1 rfl) ?_
  refine va_putF (D := D) (ci := 5) (v := .int (nI rm)) (ty := .int) (C := R_QU) (T := T_QU) (N := 5) hx hb hU iw_QU ty_QU ty_QU_ok nm_QU hown hK hP hD hS 0 rfl rfl 0 (by decide) (hU _ uw_246) (fun _ h9 => h9) rfl hnm rfl (by decide +kernel) (by first | rfl | decide +kernel) (by first | rfl | decide +kernel) (Nat.le_of_ble_eq_true rfl) d_QU_init_34 (fun H locs hP hD hS => ?_)
  replace hP : va_P D vwCl (xs_ap [(sq, .inr (5, [.int (nI rm), .ref q_1, .ref q_5, .ref q_7, .int (nI 0)])), (q_1, .inl (cR, 16, .inr (.inr (.inr (.inr (xs_out r_2 16)))))), (q_5, .inl (cI, 16, .inl (xs_G (fun _ => 0)))), (q_7, .inl (cI, 16, .inl (xs_G (fun _ => 0))))] (xs_rows cI r_2 16 8 (fun _ _ => 0))) H := hP
  replace hD : va_D A (xs_ap [(sq, .inr (5, [.int (nI rm), .ref q_1, .ref q_5, .ref q_7, .int (nI 0)])), (q_1, .inl (cR, 16, .inr (.inr (.inr (.inr (xs_out r_2 16)))))), (q_5, .inl (cI, 16, .inl (xs_G (fun _ => 0)))), (q_7, .inl (cI, 16, .inl (xs_G (fun _ => 0))))] (xs_rows cI r_2 16 8 (fun _ _ => 0))) := hD
  have hP9 := xs_P_sub (w := (xs_ap [(sq, .inr (5, [.int (nI rm), .ref q_1, .ref q_5, .ref q_7, .int (nI 0)])), (q_1, .inl (cR, 16, .inr (.inr (.inr (.inr (xs_out r_2 16)))))), (q_5, .inl (cI, 16, .inl (xs_G (fun _ => 0)))), (q_7, .inl (cI, 16, .inl (xs_G (fun _ => 0))))] (xs_rows cI r_2 16 8 (fun _ _ => 0)))) hP [0, 1, 2, 3, 4, 5, 6, 7, 8, 9, 10, 11, 12, 13, 14, 15, 16, 17, 18, 19] rfl
  have hD9 := hD.sub (ws' := (xs_ap [(sq, .inr (5, [.int (nI rm), .ref q_1, .ref q_5, .ref q_7, .int (nI 0)])), (q_1, .inl (cR, 16, .inr (.inr (.inr (.inr (xs_out r_2 16)))))), (q_5, .inl (cI, 16, .inl (xs_G (fun _ => 0)))), (q_7, .inl (cI, 16, .inl (xs_G (fun _ => 0))))] (xs_rows cI r_2 16 8 (fun _ _ => 0)))) [0, 1, 2, 3, 4, 5, 6, 7, 8, 9, 10, 11, 12, 13, 14, 15, 16, 17, 18, 19] (by decide +kernel) rfl
  exact xw_vret (q_1, q_5, q_7, r_2) hx hb hr hlocks d_QU_init_37 (rfl) (⟨fun j => by have h8 := hz_6 j; omega, fun j => by have h8 := hz_8 j; omega, fun i j => by have h8 := hz_4 i j; omega⟩) hAe hP9 hD9 hS (Nat.le_of_ble_eq_true rfl) (Nat.le_of_ble_eq_true rfl)
set_option maxHeartbeats 4000000 in
set_option maxRecDepth 100000 in
/-- new Lists -/
theorem k_LI (l : Launch) (D : va_G) (cI cB cL cR : ClassId) (sl : Nat)  : xG (σ := Nat × Nat × Nat × Nat × Nat × Nat × (Nat → Nat)) l y_LI_init w_LI_init ({ frames := 1, cells := 22, slots := 3296, locals := 12  } : Room) D vwCl (xs_tys cI cB cL cR) [.ref sl] [(sl, .inr (6, [.null, .null, .null, .null, .null, .null]))] (fun (ll, ld, la, lm, lk, lt, r2) => (∀ j : Nat, (fun _ => 0 : Nat → Nat) j < 201) ∧ (∀ j : Nat, (fun _ => 0 : Nat → Nat) j < 201) ∧ (∀ j : Nat, (fun _ => 0 : Nat → Nat) j < 601) ∧ (∀ i j : Nat, (fun _ _ => 0 : Nat → Nat → Nat) i j < 200)) (fun (ll, ld, la, lm, lk, lt, r2) => none) (fun (ll, ld, la, lm, lk, lt, r2) => (xs_ap [(sl, .inr (6, [.ref ll, .ref ld, .ref la, .ref lm, .ref lk, .ref lt])), (ll, .inl (cR, 16, .inr (.inr (.inr (.inr (xs_out r2 16)))))), (ld, .inl (cI, 16, .inl (xs_G (fun _ => 0)))), (la, .inl (cI, 16, .inl (xs_G (fun _ => 0)))), (lm, .inl (cI, 16, .inl (xs_G (fun _ => 0)))), (lk, .inl (cB, 16, .inl (fun _ => 0))), (lt, .inl (cI, 16, .inl (fun _ => 0)))] (xs_rows cI r2 16 200 (fun _ _ => 0)))) := by
  refine xG.of b_LI_init 1 (none) (by decide +kernel) rfl (Nat.le_of_ble_eq_true rfl) ?_
  intro p e s m below meth c A ls hAe C0 hP hD hS hl
  obtain ⟨hx, hb, hr, hml, hown, hlocks, hts, hnm, hN, hK, hA⟩ := C0
  have hU : ∀ w ∈ xU, w.before #[.ref sl] s = true := fun w h => hts w (List.mem_cons_of_mem _ h)
  have hl : lv_has ls 1 [(0, .ref sl)] := hl
  refine lv_aload_n hx hb d_LI_init_0 rfl (lv_at hl 0 rfl) ?_
  refine W.objInit hx hb hown (hU _ uw_90) (hU _ uw_27) (hU _ uw_28) rfl (by rw [hml]; exact hl.1) rfl d_LI_init_1 (Nat.le_of_ble_eq_true rfl) (Nat.le_of_ble_eq_true rfl) ?_
  refine W.eq (g2 := F0 m 4 ls []) rfl ?_
  refine lv_aload_n hx hb d_LI_init_4 rfl (lv_at hl 0 rfl) ?_
  refine lv_bipush (v := nI 16) hx hb d_LI_init_5 (by decide +kernel) ?_
  refine lv_sipush (v := nI 200) hx hb d_LI_init_7 (by decide +kernel) ?_
  refine xw_mnaG (N := 16) (K := 200) hx hb hown (hU _ uw_91) (hN _ nw_92) (hU _ uw_64) hK 0 3 rfl rfl hP hD hS hA (by decide +kernel) (by decide +kernel) (by decide +kernel) (by decide +kernel) (by decide) (by decide) (Nat.le_of_ble_eq_true rfl) (Nat.le_of_ble_eq_true rfl) d_LI_init_10 (fun q_1 r_2 H hP hD hS => ?_)
  have hz_4 : ∀ i j, (fun _ _ => 0 : Nat → Nat → Nat) i j < 200 := fun _ _ => by show 0 < 200; omega
  replace hP : va_P D vwCl (xs_ap [(sl, .inr (6, [.null, .null, .null, .null, .null, .null])), (q_1, .inl (cR, 16, .inr (.inr (.inr (.inr (xs_out r_2 16))))))] (xs_rows cI r_2 16 200 (fun _ _ => 0))) H := hP
  replace hD : va_D A (xs_ap [(sl, .inr (6, [.null, .null, .null, .null, .null, .null])), (q_1, .inl (cR, 16, .inr (.inr (.inr (.inr (xs_out r_2 16))))))] (xs_rows cI r_2 16 200 (fun _ _ => 0))) := hD
  refine W.widen (k := 17) (n := 3216) (Nat.le_of_ble_eq_true rfl) (Nat.le_of_ble_eq_true rfl) ?_
  refine va_putF (D := D) (ci := 6) (v := .ref q_1) (ty := (.array (.array .int))) (C := R_LI) (T := T_LI) (N := 6) hx hb hU iw_LI ty_LI ty_LI_ok nm_LI hown hK hP hD hS 0 rfl rfl 0 (by decide) (hU _ uw_93) (fun _ h9 => h9) rfl hnm rfl (by decide +kernel) (by first | rfl | decide +kernel) (by first | rfl | decide +kernel) (Nat.le_of_ble_eq_true rfl) d_LI_init_14 (fun H locs hP hD hS => ?_)
  replace hP : va_P D vwCl (xs_ap [(sl, .inr (6, [.ref q_1, .null, .null, .null, .null, .null])), (q_1, .inl (cR, 16, .inr (.inr (.inr (.inr (xs_out r_2 16))))))] (xs_rows cI r_2 16 200 (fun _ _ => 0))) H := hP
  replace hD : va_D A (xs_ap [(sl, .inr (6, [.ref q_1, .null, .null, .null, .null, .null])), (q_1, .inl (cR, 16, .inr (.inr (.inr (.inr (xs_out r_2 16))))))] (xs_rows cI r_2 16 200 (fun _ _ => 0))) := hD
  refine lv_aload_n hx hb d_LI_init_17 rfl (lv_at hl 0 rfl) ?_
  refine lv_bipush (v := nI 16) hx hb d_LI_init_18 (by decide +kernel) ?_
  refine xw_newI (N := 16) hx hb (hU _ uw_64) hK 0 rfl hP hD hS hA (by decide +kernel) (by decide +kernel) (by decide) (Nat.le_of_ble_eq_true rfl) (Nat.le_of_ble_eq_true rfl) d_LI_init_20 (fun q_5 H hP hD hS => ?_)
  replace hP : va_P D vwCl (xs_ap [(sl, .inr (6, [.ref q_1, .null, .null, .null, .null, .null])), (q_1, .inl (cR, 16, .inr (.inr (.inr (.inr (xs_out r_2 16)))))), (q_5, .inl (cI, 16, .inl (fun _ => 0)))] (xs_rows cI r_2 16 200 (fun _ _ => 0))) H := xs_P_sub hP [0, 1, 18, 2, 3, 4, 5, 6, 7, 8, 9, 10, 11, 12, 13, 14, 15, 16, 17] rfl
  replace hD : va_D A (xs_ap [(sl, .inr (6, [.ref q_1, .null, .null, .null, .null, .null])), (q_1, .inl (cR, 16, .inr (.inr (.inr (.inr (xs_out r_2 16)))))), (q_5, .inl (cI, 16, .inl (fun _ => 0)))] (xs_rows cI r_2 16 200 (fun _ _ => 0))) := hD.sub [0, 1, 18, 2, 3, 4, 5, 6, 7, 8, 9, 10, 11, 12, 13, 14, 15, 16, 17] (by decide +kernel) rfl
  refine W.widen (k := 18) (n := 3232) (Nat.le_of_ble_eq_true rfl) (Nat.le_of_ble_eq_true rfl) ?_
  have hz_6 : ∀ j, (fun _ => 0 : Nat → Nat) j < 201 := fun _ => by show 0 < 201; omega
  replace hP : va_P D vwCl (xs_ap [(sl, .inr (6, [.ref q_1, .null, .null, .null, .null, .null])), (q_1, .inl (cR, 16, .inr (.inr (.inr (.inr (xs_out r_2 16)))))), (q_5, .inl (cI, 16, .inl (xs_G (fun _ => 0))))] (xs_rows cI r_2 16 200 (fun _ _ => 0))) H := hP
  replace hD : va_D A (xs_ap [(sl, .inr (6, [.ref q_1, .null, .null, .null, .null, .null])), (q_1, .inl (cR, 16, .inr (.inr (.inr (.inr (xs_out r_2 16)))))), (q_5, .inl (cI, 16, .inl (xs_G (fun _ => 0))))] (xs_rows cI r_2 16 200 (fun _ _ => 0))) := hD
  refine va_putF (D := D) (ci := 6) (v := .ref q_5) (ty := (.array .int)) (C := R_LI) (T := T_LI) (N := 6) hx hb hU iw_LI ty_LI ty_LI_ok nm_LI hown hK hP hD hS 0 rfl rfl 1 (by decide) (hU _ uw_94) (fun _ h9 => h9) rfl hnm rfl (by decide +kernel) (by first | rfl | decide +kernel) (by first | rfl | decide +kernel) (Nat.le_of_ble_eq_true rfl) d_LI_init_22 (fun H locs hP hD hS => ?_)
  replace hP : va_P D vwCl (xs_ap [(sl, .inr (6, [.ref q_1, .ref q_5, .null, .null, .null, .null])), (q_1, .inl (cR, 16, .inr (.inr (.inr (.inr (xs_out r_2 16)))))), (q_5, .inl (cI, 16, .inl (xs_G (fun _ => 0))))] (xs_rows cI r_2 16 200 (fun _ _ => 0))) H := hP
  replace hD : va_D A (xs_ap [(sl, .inr (6, [.ref q_1, .ref q_5, .null, .null, .null, .null])), (q_1, .inl (cR, 16, .inr (.inr (.inr (.inr (xs_out r_2 16)))))), (q_5, .inl (cI, 16, .inl (xs_G (fun _ => 0))))] (xs_rows cI r_2 16 200 (fun _ _ => 0))) := hD
  refine lv_aload_n hx hb d_LI_init_25 rfl (lv_at hl 0 rfl) ?_
  refine lv_bipush (v := nI 16) hx hb d_LI_init_26 (by decide +kernel) ?_
  refine xw_newI (N := 16) hx hb (hU _ uw_64) hK 0 rfl hP hD hS hA (by decide +kernel) (by decide +kernel) (by decide) (Nat.le_of_ble_eq_true rfl) (Nat.le_of_ble_eq_true rfl) d_LI_init_28 (fun q_7 H hP hD hS => ?_)
  replace hP : va_P D vwCl (xs_ap [(sl, .inr (6, [.ref q_1, .ref q_5, .null, .null, .null, .null])), (q_1, .inl (cR, 16, .inr (.inr (.inr (.inr (xs_out r_2 16)))))), (q_5, .inl (cI, 16, .inl (xs_G (fun _ => 0)))), (q_7, .inl (cI, 16, .inl (fun _ => 0)))] (xs_rows cI r_2 16 200 (fun _ _ => 0))) H := xs_P_sub hP [0, 1, 2, 19, 3, 4, 5, 6, 7, 8, 9, 10, 11, 12, 13, 14, 15, 16, 17, 18] rfl
  replace hD : va_D A (xs_ap [(sl, .inr (6, [.ref q_1, .ref q_5, .null, .null, .null, .null])), (q_1, .inl (cR, 16, .inr (.inr (.inr (.inr (xs_out r_2 16)))))), (q_5, .inl (cI, 16, .inl (xs_G (fun _ => 0)))), (q_7, .inl (cI, 16, .inl (fun _ => 0)))] (xs_rows cI r_2 16 200 (fun _ _ => 0))) := hD.sub [0, 1, 2, 19, 3, 4, 5, 6, 7, 8, 9, 10, 11, 12, 13, 14, 15, 16, 17, 18] (by decide +kernel) rfl
  refine W.widen (k := 19) (n := 3248) (Nat.le_of_ble_eq_true rfl) (Nat.le_of_ble_eq_true rfl) ?_
  have hz_8 : ∀ j, (fun _ => 0 : Nat → Nat) j < 201 := fun _ => by show 0 < 201; omega
  replace hP : va_P D vwCl (xs_ap [(sl, .inr (6, [.ref q_1, .ref q_5, .null, .null, .null, .null])), (q_1, .inl (cR, 16, .inr (.inr (.inr (.inr (xs_out r_2 16)))))), (q_5, .inl (cI, 16, .inl (xs_G (fun _ => 0)))), (q_7, .inl (cI, 16, .inl (xs_G (fun _ => 0))))] (xs_rows cI r_2 16 200 (fun _ _ => 0))) H := hP
  replace hD : va_D A (xs_ap [(sl, .inr (6, [.ref q_1, .ref q_5, .null, .null, .null, .null])), (q_1, .inl (cR, 16, .inr (.inr (.inr (.inr (xs_out r_2 16)))))), (q_5, .inl (cI, 16, .inl (xs_G (fun _ => 0)))), (q_7, .inl (cI, 16, .inl (xs_G (fun _ => 0))))] (xs_rows cI r_2 16 200 (fun _ _ => 0))) := hD
  refine va_putF (D := D) (ci := 6) (v := .ref q_7) (ty := (.array .int)) (C := R_LI) (T := T_LI) (N := 6) hx hb hU iw_LI ty_LI ty_LI_ok nm_LI hown hK hP hD hS 0 rfl rfl 2 (by decide) (hU _ uw_95) (fun _ h9 => h9) rfl hnm rfl (by decide +kernel) (by first | rfl | decide +kernel) (by first | rfl | decide +kernel) (Nat.le_of_ble_eq_true rfl) d_LI_init_30 (fun H locs hP hD hS => ?_)
  replace hP : va_P D vwCl (xs_ap [(sl, .inr (6, [.ref q_1, .ref q_5, .ref q_7, .null, .null, .null])), (q_1, .inl (cR, 16, .inr (.inr (.inr (.inr (xs_out r_2 16)))))), (q_5, .inl (cI, 16, .inl (xs_G (fun _ => 0)))), (q_7, .inl (cI, 16, .inl (xs_G (fun _ => 0))))] (xs_rows cI r_2 16 200 (fun _ _ => 0))) H := hP
  replace hD : va_D A (xs_ap [(sl, .inr (6, [.ref q_1, .ref q_5, .ref q_7, .null, .null, .null])), (q_1, .inl (cR, 16, .inr (.inr (.inr (.inr (xs_out r_2 16)))))), (q_5, .inl (cI, 16, .inl (xs_G (fun _ => 0)))), (q_7, .inl (cI, 16, .inl (xs_G (fun _ => 0))))] (xs_rows cI r_2 16 200 (fun _ _ => 0))) := hD
  refine lv_aload_n hx hb d_LI_init_33 rfl (lv_at hl 0 rfl) ?_
  refine lv_bipush (v := nI 16) hx hb d_LI_init_34 (by decide +kernel) ?_
  refine xw_newI (N := 16) hx hb (hU _ uw_64) hK 0 rfl hP hD hS hA (by decide +kernel) (by decide +kernel) (by decide) (Nat.le_of_ble_eq_true rfl) (Nat.le_of_ble_eq_true rfl) d_LI_init_36 (fun q_9 H hP hD hS => ?_)
  replace hP : va_P D vwCl (xs_ap [(sl, .inr (6, [.ref q_1, .ref q_5, .ref q_7, .null, .null, .null])), (q_1, .inl (cR, 16, .inr (.inr (.inr (.inr (xs_out r_2 16)))))), (q_5, .inl (cI, 16, .inl (xs_G (fun _ => 0)))), (q_7, .inl (cI, 16, .inl (xs_G (fun _ => 0)))), (q_9, .inl (cI, 16, .inl (fun _ => 0)))] (xs_rows cI r_2 16 200 (fun _ _ => 0))) H := xs_P_sub hP [0, 1, 2, 3, 20, 4, 5, 6, 7, 8, 9, 10, 11, 12, 13, 14, 15, 16, 17, 18, 19] rfl
  replace hD : va_D A (xs_ap [(sl, .inr (6, [.ref q_1, .ref q_5, .ref q_7, .null, .null, .null])), (q_1, .inl (cR, 16, .inr (.inr (.inr (.inr (xs_out r_2 16)))))), (q_5, .inl (cI, 16, .inl (xs_G (fun _ => 0)))), (q_7, .inl (cI, 16, .inl (xs_G (fun _ => 0)))), (q_9, .inl (cI, 16, .inl (fun _ => 0)))] (xs_rows cI r_2 16 200 (fun _ _ => 0))) := hD.sub [0, 1, 2, 3, 20, 4, 5, 6, 7, 8, 9, 10, 11, 12, 13, 14, 15, 16, 17, 18, 19] (by decide +kernel) rfl
  refine W.widen (k := 20) (n := 3264) (Nat.le_of_ble_eq_true rfl) (Nat.le_of_ble_eq_true rfl) ?_
  have hz_10 : ∀ j, (fun _ => 0 : Nat → Nat) j < 601 := fun _ => by show 0 < 601; omega
  replace hP : va_P D vwCl (xs_ap [(sl, .inr (6, [.ref q_1, .ref q_5, .ref q_7, .null, .null, .null])), (q_1, .inl (cR, 16, .inr (.inr (.inr (.inr (xs_out r_2 16)))))), (q_5, .inl (cI, 16, .inl (xs_G (fun _ => 0)))), (q_7, .inl (cI, 16, .inl (xs_G (fun _ => 0)))), (q_9, .inl (cI, 16, .inl (xs_G (fun _ => 0))))] (xs_rows cI r_2 16 200 (fun _ _ => 0))) H := hP
  replace hD : va_D A (xs_ap [(sl, .inr (6, [.ref q_1, .ref q_5, .ref q_7, .null, .null, .null])), (q_1, .inl (cR, 16, .inr (.inr (.inr (.inr (xs_out r_2 16)))))), (q_5, .inl (cI, 16, .inl (xs_G (fun _ => 0)))), (q_7, .inl (cI, 16, .inl (xs_G (fun _ => 0)))), (q_9, .inl (cI, 16, .inl (xs_G (fun _ => 0))))] (xs_rows cI r_2 16 200 (fun _ _ => 0))) := hD
  refine va_putF (D := D) (ci := 6) (v := .ref q_9) (ty := (.array .int)) (C := R_LI) (T := T_LI) (N := 6) hx hb hU iw_LI ty_LI ty_LI_ok nm_LI hown hK hP hD hS 0 rfl rfl 3 (by decide) (hU _ uw_96) (fun _ h9 => h9) rfl hnm rfl (by decide +kernel) (by first | rfl | decide +kernel) (by first | rfl | decide +kernel) (Nat.le_of_ble_eq_true rfl) d_LI_init_38 (fun H locs hP hD hS => ?_)
  replace hP : va_P D vwCl (xs_ap [(sl, .inr (6, [.ref q_1, .ref q_5, .ref q_7, .ref q_9, .null, .null])), (q_1, .inl (cR, 16, .inr (.inr (.inr (.inr (xs_out r_2 16)))))), (q_5, .inl (cI, 16, .inl (xs_G (fun _ => 0)))), (q_7, .inl (cI, 16, .inl (xs_G (fun _ => 0)))), (q_9, .inl (cI, 16, .inl (xs_G (fun _ => 0))))] (xs_rows cI r_2 16 200 (fun _ _ => 0))) H := hP
  replace hD : va_D A (xs_ap [(sl, .inr (6, [.ref q_1, .ref q_5, .ref q_7, .ref q_9, .null, .null])), (q_1, .inl (cR, 16, .inr (.inr (.inr (.inr (xs_out r_2 16)))))), (q_5, .inl (cI, 16, .inl (xs_G (fun _ => 0)))), (q_7, .inl (cI, 16, .inl (xs_G (fun _ => 0)))), (q_9, .inl (cI, 16, .inl (xs_G (fun _ => 0))))] (xs_rows cI r_2 16 200 (fun _ _ => 0))) := hD
  refine lv_aload_n hx hb d_LI_init_41 rfl (lv_at hl 0 rfl) ?_
  refine lv_bipush (v := nI 16) hx hb d_LI_init_42 (by decide +kernel) ?_
  refine xw_newB (N := 16) hx hb (hU _ uw_115) hK 1 rfl hP hD hS hA (by decide +kernel) (by decide +kernel) (by decide) (Nat.le_of_ble_eq_true rfl) (Nat.le_of_ble_eq_true rfl) d_LI_init_44 (fun q_11 H hP hD hS => ?_)
  replace hP : va_P D vwCl (xs_ap [(sl, .inr (6, [.ref q_1, .ref q_5, .ref q_7, .ref q_9, .null, .null])), (q_1, .inl (cR, 16, .inr (.inr (.inr (.inr (xs_out r_2 16)))))), (q_5, .inl (cI, 16, .inl (xs_G (fun _ => 0)))), (q_7, .inl (cI, 16, .inl (xs_G (fun _ => 0)))), (q_9, .inl (cI, 16, .inl (xs_G (fun _ => 0)))), (q_11, .inl (cB, 16, .inl (fun _ => 0)))] (xs_rows cI r_2 16 200 (fun _ _ => 0))) H := xs_P_sub hP [0, 1, 2, 3, 4, 21, 5, 6, 7, 8, 9, 10, 11, 12, 13, 14, 15, 16, 17, 18, 19, 20] rfl
  replace hD : va_D A (xs_ap [(sl, .inr (6, [.ref q_1, .ref q_5, .ref q_7, .ref q_9, .null, .null])), (q_1, .inl (cR, 16, .inr (.inr (.inr (.inr (xs_out r_2 16)))))), (q_5, .inl (cI, 16, .inl (xs_G (fun _ => 0)))), (q_7, .inl (cI, 16, .inl (xs_G (fun _ => 0)))), (q_9, .inl (cI, 16, .inl (xs_G (fun _ => 0)))), (q_11, .inl (cB, 16, .inl (fun _ => 0)))] (xs_rows cI r_2 16 200 (fun _ _ => 0))) := hD.sub [0, 1, 2, 3, 4, 21, 5, 6, 7, 8, 9, 10, 11, 12, 13, 14, 15, 16, 17, 18, 19, 20] (by decide +kernel) rfl
  refine W.widen (k := 21) (n := 3280) (Nat.le_of_ble_eq_true rfl) (Nat.le_of_ble_eq_true rfl) ?_
  refine va_putF (D := D) (ci := 6) (v := .ref q_11) (ty := (.array .boolean)) (C := R_LI) (T := T_LI) (N := 6) hx hb hU iw_LI ty_LI ty_LI_ok nm_LI hown hK hP hD hS 0 rfl rfl 4 (by decide) (hU _ uw_98) (fun _ h9 => h9) rfl hnm rfl (by decide +kernel) (by first | rfl | decide +kernel) (by first | rfl | decide +kernel) (Nat.le_of_ble_eq_true rfl) d_LI_init_46 (fun H locs hP hD hS => ?_)
  replace hP : va_P D vwCl (xs_ap [(sl, .inr (6, [.ref q_1, .ref q_5, .ref q_7, .ref q_9, .ref q_11, .null])), (q_1, .inl (cR, 16, .inr (.inr (.inr (.inr (xs_out r_2 16)))))), (q_5, .inl (cI, 16, .inl (xs_G (fun _ => 0)))), (q_7, .inl (cI, 16, .inl (xs_G (fun _ => 0)))), (q_9, .inl (cI, 16, .inl (xs_G (fun _ => 0)))), (q_11, .inl (cB, 16, .inl (fun _ => 0)))] (xs_rows cI r_2 16 200 (fun _ _ => 0))) H := hP
  replace hD : va_D A (xs_ap [(sl, .inr (6, [.ref q_1, .ref q_5, .ref q_7, .ref q_9, .ref q_11, .null])), (q_1, .inl (cR, 16, .inr (.inr (.inr (.inr (xs_out r_2 16)))))), (q_5, .inl (cI, 16, .inl (xs_G (fun _ => 0)))), (q_7, .inl (cI, 16, .inl (xs_G (fun _ => 0)))), (q_9, .inl (cI, 16, .inl (xs_G (fun _ => 0)))), (q_11, .inl (cB, 16, .inl (fun _ => 0)))] (xs_rows cI r_2 16 200 (fun _ _ => 0))) := hD
  refine lv_aload_n hx hb d_LI_init_49 rfl (lv_at hl 0 rfl) ?_
  refine lv_bipush (v := nI 16) hx hb d_LI_init_50 (by decide +kernel) ?_
  refine xw_newI (N := 16) hx hb (hU _ uw_64) hK 0 rfl hP hD hS hA (by decide +kernel) (by decide +kernel) (by decide) (Nat.le_of_ble_eq_true rfl) (Nat.le_of_ble_eq_true rfl) d_LI_init_52 (fun q_12 H hP hD hS => ?_)
  replace hP : va_P D vwCl (xs_ap [(sl, .inr (6, [.ref q_1, .ref q_5, .ref q_7, .ref q_9, .ref q_11, .null])), (q_1, .inl (cR, 16, .inr (.inr (.inr (.inr (xs_out r_2 16)))))), (q_5, .inl (cI, 16, .inl (xs_G (fun _ => 0)))), (q_7, .inl (cI, 16, .inl (xs_G (fun _ => 0)))), (q_9, .inl (cI, 16, .inl (xs_G (fun _ => 0)))), (q_11, .inl (cB, 16, .inl (fun _ => 0))), (q_12, .inl (cI, 16, .inl (fun _ => 0)))] (xs_rows cI r_2 16 200 (fun _ _ => 0))) H := xs_P_sub hP [0, 1, 2, 3, 4, 5, 22, 6, 7, 8, 9, 10, 11, 12, 13, 14, 15, 16, 17, 18, 19, 20, 21] rfl
  replace hD : va_D A (xs_ap [(sl, .inr (6, [.ref q_1, .ref q_5, .ref q_7, .ref q_9, .ref q_11, .null])), (q_1, .inl (cR, 16, .inr (.inr (.inr (.inr (xs_out r_2 16)))))), (q_5, .inl (cI, 16, .inl (xs_G (fun _ => 0)))), (q_7, .inl (cI, 16, .inl (xs_G (fun _ => 0)))), (q_9, .inl (cI, 16, .inl (xs_G (fun _ => 0)))), (q_11, .inl (cB, 16, .inl (fun _ => 0))), (q_12, .inl (cI, 16, .inl (fun _ => 0)))] (xs_rows cI r_2 16 200 (fun _ _ => 0))) := hD.sub [0, 1, 2, 3, 4, 5, 22, 6, 7, 8, 9, 10, 11, 12, 13, 14, 15, 16, 17, 18, 19, 20, 21] (by decide +kernel) rfl
  refine W.widen (k := 22) (n := 3296) (Nat.le_of_ble_eq_true rfl) (Nat.le_of_ble_eq_true rfl) ?_
  refine va_putF (D := D) (ci := 6) (v := .ref q_12) (ty := (.array .int)) (C := R_LI) (T := T_LI) (N := 6) hx hb hU iw_LI ty_LI ty_LI_ok nm_LI hown hK hP hD hS 0 rfl rfl 5 (by decide) (hU _ uw_100) (fun _ h9 => h9) rfl hnm rfl (by decide +kernel) (by first | rfl | decide +kernel) (by first | rfl | decide +kernel) (Nat.le_of_ble_eq_true rfl) d_LI_init_54 (fun H locs hP hD hS => ?_)
  replace hP : va_P D vwCl (xs_ap [(sl, .inr (6, [.ref q_1, .ref q_5, .ref q_7, .ref q_9, .ref q_11, .ref q_12])), (q_1, .inl (cR, 16, .inr (.inr (.inr (.inr (xs_out r_2 16)))))), (q_5, .inl (cI, 16, .inl (xs_G (fun _ => 0)))), (q_7, .inl (cI, 16, .inl (xs_G (fun _ => 0)))), (q_9, .inl (cI, 16, .inl (xs_G (fun _ => 0)))), (q_11, .inl (cB, 16, .inl (fun _ => 0))), (q_12, .inl (cI, 16, .inl (fun _ => 0)))] (xs_rows cI r_2 16 200 (fun _ _ => 0))) H := hP
  replace hD : va_D A (xs_ap [(sl, .inr (6, [.ref q_1, .ref q_5, .ref q_7, .ref q_9, .ref q_11, .ref q_12])), (q_1, .inl (cR, 16, .inr (.inr (.inr (.inr (xs_out r_2 16)))))), (q_5, .inl (cI, 16, .inl (xs_G (fun _ => 0)))), (q_7, .inl (cI, 16, .inl (xs_G (fun _ => 0)))), (q_9, .inl (cI, 16, .inl (xs_G (fun _ => 0)))), (q_11, .inl (cB, 16, .inl (fun _ => 0))), (q_12, .inl (cI, 16, .inl (fun _ => 0)))] (xs_rows cI r_2 16 200 (fun _ _ => 0))) := hD
  have hP9 := xs_P_sub (w := (xs_ap [(sl, .inr (6, [.ref q_1, .ref q_5, .ref q_7, .ref q_9, .ref q_11, .ref q_12])), (q_1, .inl (cR, 16, .inr (.inr (.inr (.inr (xs_out r_2 16)))))), (q_5, .inl (cI, 16, .inl (xs_G (fun _ => 0)))), (q_7, .inl (cI, 16, .inl (xs_G (fun _ => 0)))), (q_9, .inl (cI, 16, .inl (xs_G (fun _ => 0)))), (q_11, .inl (cB, 16, .inl (fun _ => 0))), (q_12, .inl (cI, 16, .inl (fun _ => 0)))] (xs_rows cI r_2 16 200 (fun _ _ => 0)))) hP [0, 1, 2, 3, 4, 5, 6, 7, 8, 9, 10, 11, 12, 13, 14, 15, 16, 17, 18, 19, 20, 21, 22] rfl
  have hD9 := hD.sub (ws' := (xs_ap [(sl, .inr (6, [.ref q_1, .ref q_5, .ref q_7, .ref q_9, .ref q_11, .ref q_12])), (q_1, .inl (cR, 16, .inr (.inr (.inr (.inr (xs_out r_2 16)))))), (q_5, .inl (cI, 16, .inl (xs_G (fun _ => 0)))), (q_7, .inl (cI, 16, .inl (xs_G (fun _ => 0)))), (q_9, .inl (cI, 16, .inl (xs_G (fun _ => 0)))), (q_11, .inl (cB, 16, .inl (fun _ => 0))), (q_12, .inl (cI, 16, .inl (fun _ => 0)))] (xs_rows cI r_2 16 200 (fun _ _ => 0)))) [0, 1, 2, 3, 4, 5, 6, 7, 8, 9, 10, 11, 12, 13, 14, 15, 16, 17, 18, 19, 20, 21, 22] (by decide +kernel) rfl
  exact xw_vret (q_1, q_5, q_7, q_9, q_11, q_12, r_2) hx hb hr hlocks d_LI_init_57 (rfl) (⟨fun j => by have h8 := hz_6 j; omega, fun j => by have h8 := hz_8 j; omega, fun j => by have h8 := hz_10 j; omega, fun i j => by have h8 := hz_4 i j; omega⟩) hAe hP9 hD9 hS (Nat.le_of_ble_eq_true rfl) (Nat.le_of_ble_eq_true rfl)
set_option maxHeartbeats 4000000 in
set_option maxRecDepth 100000 in
/-- new Crew -/
theorem k_CR (l : Launch) (D : va_G) (cI cB cL cR : ClassId) (sc : Nat) (wk : Nat) (hw0 : 0 < wk) (hw : wk ≤ 16) : xG (σ := Nat × Nat × Nat × Nat × Nat × (Nat → Nat)) l y_CR_init w_CR_init ({ frames := 1, cells := 5, slots := 264, locals := 22  } : Room) D vwCl (xs_tys cI cB cL cR) [.ref sc, .int (nI wk)] [(sc, .inr (4, [.int (nI 0), .null, .null, .null, .null, .null, .int (nI 0), .int (nI 0)]))] (fun (cf, cl, ct, ck, cs, g_cf) => (∀ j, g_cf j < wk)) (fun (cf, cl, ct, ck, cs, g_cf) => none) (fun (cf, cl, ct, ck, cs, g_cf) => [(sc, .inr (4, [.int (nI wk), .ref cf, .ref cl, .ref ct, .ref ck, .ref cs, .int (nI wk), .int (nI 0)])), (cf, .inl (cI, 200, .inl (xs_G g_cf))), (cl, .inl (cB, 16, .inl (fun _ => nI 1))), (ct, .inl (cI, 16, .inl (fun _ => 0))), (ck, .inl (cI, 16, .inl (fun _ => 0))), (cs, .inl (cI, 16, .inl (fun _ => 0)))]) := by
  refine xG.of b_CR_init 3 (none) (by decide +kernel) rfl (Nat.le_of_ble_eq_true rfl) ?_
  intro p e s m below meth c A ls hAe C0 hP hD hS hl
  obtain ⟨hx, hb, hr, hml, hown, hlocks, hts, hnm, hN, hK, hA⟩ := C0
  have hU : ∀ w ∈ xU, w.before #[.ref sc, .int (nI wk)] s = true := fun w h => hts w (List.mem_cons_of_mem _ h)
  have hl : lv_has ls 3 [(0, .ref sc), (1, .int (nI wk))] := hl
  refine lv_aload_n hx hb d_CR_init_0 rfl (lv_at hl 0 rfl) ?_
  refine W.objInit hx hb hown (hU _ uw_189) (hU _ uw_27) (hU _ uw_28) rfl (by rw [hml]; exact hl.1) rfl d_CR_init_1 (Nat.le_of_ble_eq_true rfl) (Nat.le_of_ble_eq_true rfl) ?_
  refine W.eq (g2 := F0 m 4 ls []) rfl ?_
  refine lv_aload_n hx hb d_CR_init_4 rfl (lv_at hl 0 rfl) ?_
  refine lv_sipush (v := nI 200) hx hb d_CR_init_5 (by decide +kernel) ?_
  refine xw_newI (N := 200) hx hb (hU _ uw_64) hK 0 rfl hP hD hS hA (by decide +kernel) (by decide +kernel) (by decide) (Nat.le_of_ble_eq_true rfl) (Nat.le_of_ble_eq_true rfl) d_CR_init_8 (fun q_1 H hP hD hS => ?_)
  replace hP : va_P D vwCl [(sc, .inr (4, [.int (nI 0), .null, .null, .null, .null, .null, .int (nI 0), .int (nI 0)])), (q_1, .inl (cI, 200, .inl (fun _ => 0)))] H := hP
  replace hD : va_D A [(sc, .inr (4, [.int (nI 0), .null, .null, .null, .null, .null, .int (nI 0), .int (nI 0)])), (q_1, .inl (cI, 200, .inl (fun _ => 0)))] := hD
  refine W.widen (k := 1) (n := 200) (Nat.le_of_ble_eq_true rfl) (Nat.le_of_ble_eq_true rfl) ?_
  have hz_2 : ∀ j, (fun _ => 0 : Nat → Nat) j < wk := fun _ => by show 0 < wk; omega
  replace hP : va_P D vwCl [(sc, .inr (4, [.int (nI 0), .null, .null, .null, .null, .null, .int (nI 0), .int (nI 0)])), (q_1, .inl (cI, 200, .inl (xs_G (fun _ => 0))))] H := hP
  replace hD : va_D A [(sc, .inr (4, [.int (nI 0), .null, .null, .null, .null, .null, .int (nI 0), .int (nI 0)])), (q_1, .inl (cI, 200, .inl (xs_G (fun _ => 0))))] := hD
  refine va_putF (D := D) (ci := 4) (v := .ref q_1) (ty := (.array .int)) (C := R_CR) (T := T_CR) (N := 8) hx hb hU iw_CR ty_CR ty_CR_ok nm_CR hown hK hP hD hS 0 rfl rfl 1 (by decide) (hU _ uw_205) (fun _ h9 => h9) rfl hnm rfl (by decide +kernel) (by first | rfl | decide +kernel) (by first | rfl | decide +kernel) (Nat.le_of_ble_eq_true rfl) d_CR_init_10 (fun H locs hP hD hS => ?_)
  replace hP : va_P D vwCl [(sc, .inr (4, [.int (nI 0), .ref q_1, .null, .null, .null, .null, .int (nI 0), .int (nI 0)])), (q_1, .inl (cI, 200, .inl (xs_G (fun _ => 0))))] H := hP
  replace hD : va_D A [(sc, .inr (4, [.int (nI 0), .ref q_1, .null, .null, .null, .null, .int (nI 0), .int (nI 0)])), (q_1, .inl (cI, 200, .inl (xs_G (fun _ => 0))))] := hD
  refine lv_aload_n hx hb d_CR_init_13 rfl (lv_at hl 0 rfl) ?_
  refine lv_bipush (v := nI 16) hx hb d_CR_init_14 (by decide +kernel) ?_
  refine xw_newB (N := 16) hx hb (hU _ uw_115) hK 1 rfl hP hD hS hA (by decide +kernel) (by decide +kernel) (by decide) (Nat.le_of_ble_eq_true rfl) (Nat.le_of_ble_eq_true rfl) d_CR_init_16 (fun q_3 H hP hD hS => ?_)
  replace hP : va_P D vwCl [(sc, .inr (4, [.int (nI 0), .ref q_1, .null, .null, .null, .null, .int (nI 0), .int (nI 0)])), (q_1, .inl (cI, 200, .inl (xs_G (fun _ => 0)))), (q_3, .inl (cB, 16, .inl (fun _ => 0)))] H := hP
  replace hD : va_D A [(sc, .inr (4, [.int (nI 0), .ref q_1, .null, .null, .null, .null, .int (nI 0), .int (nI 0)])), (q_1, .inl (cI, 200, .inl (xs_G (fun _ => 0)))), (q_3, .inl (cB, 16, .inl (fun _ => 0)))] := hD
  refine W.widen (k := 2) (n := 216) (Nat.le_of_ble_eq_true rfl) (Nat.le_of_ble_eq_true rfl) ?_
  refine va_putF (D := D) (ci := 4) (v := .ref q_3) (ty := (.array .boolean)) (C := R_CR) (T := T_CR) (N := 8) hx hb hU iw_CR ty_CR ty_CR_ok nm_CR hown hK hP hD hS 0 rfl rfl 2 (by decide) (hU _ uw_206) (fun _ h9 => h9) rfl hnm rfl (by decide +kernel) (by first | rfl | decide +kernel) (by first | rfl | decide +kernel) (Nat.le_of_ble_eq_true rfl) d_CR_init_18 (fun H locs hP hD hS => ?_)
  replace hP : va_P D vwCl [(sc, .inr (4, [.int (nI 0), .ref q_1, .ref q_3, .null, .null, .null, .int (nI 0), .int (nI 0)])), (q_1, .inl (cI, 200, .inl (xs_G (fun _ => 0)))), (q_3, .inl (cB, 16, .inl (fun _ => 0)))] H := hP
  replace hD : va_D A [(sc, .inr (4, [.int (nI 0), .ref q_1, .ref q_3, .null, .null, .null, .int (nI 0), .int (nI 0)])), (q_1, .inl (cI, 200, .inl (xs_G (fun _ => 0)))), (q_3, .inl (cB, 16, .inl (fun _ => 0)))] := hD
  refine lv_aload_n hx hb d_CR_init_21 rfl (lv_at hl 0 rfl) ?_
  refine lv_bipush (v := nI 16) hx hb d_CR_init_22 (by decide +kernel) ?_
  refine xw_newI (N := 16) hx hb (hU _ uw_64) hK 0 rfl hP hD hS hA (by decide +kernel) (by decide +kernel) (by decide) (Nat.le_of_ble_eq_true rfl) (Nat.le_of_ble_eq_true rfl) d_CR_init_24 (fun q_4 H hP hD hS => ?_)
  replace hP : va_P D vwCl [(sc, .inr (4, [.int (nI 0), .ref q_1, .ref q_3, .null, .null, .null, .int (nI 0), .int (nI 0)])), (q_1, .inl (cI, 200, .inl (xs_G (fun _ => 0)))), (q_3, .inl (cB, 16, .inl (fun _ => 0))), (q_4, .inl (cI, 16, .inl (fun _ => 0)))] H := hP
  replace hD : va_D A [(sc, .inr (4, [.int (nI 0), .ref q_1, .ref q_3, .null, .null, .null, .int (nI 0), .int (nI 0)])), (q_1, .inl (cI, 200, .inl (xs_G (fun _ => 0)))), (q_3, .inl (cB, 16, .inl (fun _ => 0))), (q_4, .inl (cI, 16, .inl (fun _ => 0)))] := hD
  refine W.widen (k := 3) (n := 232) (Nat.le_of_ble_eq_true rfl) (Nat.le_of_ble_eq_true rfl) ?_
  refine va_putF (D := D) (ci := 4) (v := .ref q_4) (ty := (.array .int)) (C := R_CR) (T := T_CR) (N := 8) hx hb hU iw_CR ty_CR ty_CR_ok nm_CR hown hK hP hD hS 0 rfl rfl 3 (by decide) (hU _ uw_208) (fun _ h9 => h9) rfl hnm rfl (by decide +kernel) (by first | rfl | decide +kernel) (by first | rfl | decide +kernel) (Nat.le_of_ble_eq_true rfl) d_CR_init_26 (fun H locs hP hD hS => ?_)
  replace hP : va_P D vwCl [(sc, .inr (4, [.int (nI 0), .ref q_1, .ref q_3, .ref q_4, .null, .null, .int (nI 0), .int (nI 0)])), (q_1, .inl (cI, 200, .inl (xs_G (fun _ => 0)))), (q_3, .inl (cB, 16, .inl (fun _ => 0))), (q_4, .inl (cI, 16, .inl (fun _ => 0)))] H := hP
  replace hD : va_D A [(sc, .inr (4, [.int (nI 0), .ref q_1, .ref q_3, .ref q_4, .null, .null, .int (nI 0), .int (nI 0)])), (q_1, .inl (cI, 200, .inl (xs_G (fun _ => 0)))), (q_3, .inl (cB, 16, .inl (fun _ => 0))), (q_4, .inl (cI, 16, .inl (fun _ => 0)))] := hD
  refine lv_aload_n hx hb d_CR_init_29 rfl (lv_at hl 0 rfl) ?_
  refine lv_bipush (v := nI 16) hx hb d_CR_init_30 (by decide +kernel) ?_
  refine xw_newI (N := 16) hx hb (hU _ uw_64) hK 0 rfl hP hD hS hA (by decide +kernel) (by decide +kernel) (by decide) (Nat.le_of_ble_eq_true rfl) (Nat.le_of_ble_eq_true rfl) d_CR_init_32 (fun q_5 H hP hD hS => ?_)
  replace hP : va_P D vwCl [(sc, .inr (4, [.int (nI 0), .ref q_1, .ref q_3, .ref q_4, .null, .null, .int (nI 0), .int (nI 0)])), (q_1, .inl (cI, 200, .inl (xs_G (fun _ => 0)))), (q_3, .inl (cB, 16, .inl (fun _ => 0))), (q_4, .inl (cI, 16, .inl (fun _ => 0))), (q_5, .inl (cI, 16, .inl (fun _ => 0)))] H := hP
  replace hD : va_D A [(sc, .inr (4, [.int (nI 0), .ref q_1, .ref q_3, .ref q_4, .null, .null, .int (nI 0), .int (nI 0)])), (q_1, .inl (cI, 200, .inl (xs_G (fun _ => 0)))), (q_3, .inl (cB, 16, .inl (fun _ => 0))), (q_4, .inl (cI, 16, .inl (fun _ => 0))), (q_5, .inl (cI, 16, .inl (fun _ => 0)))] := hD
  refine W.widen (k := 4) (n := 248) (Nat.le_of_ble_eq_true rfl) (Nat.le_of_ble_eq_true rfl) ?_
  refine va_putF (D := D) (ci := 4) (v := .ref q_5) (ty := (.array .int)) (C := R_CR) (T := T_CR) (N := 8) hx hb hU iw_CR ty_CR ty_CR_ok nm_CR hown hK hP hD hS 0 rfl rfl 4 (by decide) (hU _ uw_210) (fun _ h9 => h9) rfl hnm rfl (by decide +kernel) (by first | rfl | decide +kernel) (by first | rfl | decide +kernel) (Nat.le_of_ble_eq_true rfl) d_CR_init_34 (fun H locs hP hD hS => ?_)
  replace hP : va_P D vwCl [(sc, .inr (4, [.int (nI 0), .ref q_1, .ref q_3, .ref q_4, .ref q_5, .null, .int (nI 0), .int (nI 0)])), (q_1, .inl (cI, 200, .inl (xs_G (fun _ => 0)))), (q_3, .inl (cB, 16, .inl (fun _ => 0))), (q_4, .inl (cI, 16, .inl (fun _ => 0))), (q_5, .inl (cI, 16, .inl (fun _ => 0)))] H := hP
  replace hD : va_D A [(sc, .inr (4, [.int (nI 0), .ref q_1, .ref q_3, .ref q_4, .ref q_5, .null, .int (nI 0), .int (nI 0)])), (q_1, .inl (cI, 200, .inl (xs_G (fun _ => 0)))), (q_3, .inl (cB, 16, .inl (fun _ => 0))), (q_4, .inl (cI, 16, .inl (fun _ => 0))), (q_5, .inl (cI, 16, .inl (fun _ => 0)))] := hD
  refine lv_aload_n hx hb d_CR_init_37 rfl (lv_at hl 0 rfl) ?_
  refine lv_bipush (v := nI 16) hx hb d_CR_init_38 (by decide +kernel) ?_
  refine xw_newI (N := 16) hx hb (hU _ uw_64) hK 0 rfl hP hD hS hA (by decide +kernel) (by decide +kernel) (by decide) (Nat.le_of_ble_eq_true rfl) (Nat.le_of_ble_eq_true rfl) d_CR_init_40 (fun q_6 H hP hD hS => ?_)
  replace hP : va_P D vwCl [(sc, .inr (4, [.int (nI 0), .ref q_1, .ref q_3, .ref q_4, .ref q_5, .null, .int (nI 0), .int (nI 0)])), (q_1, .inl (cI, 200, .inl (xs_G (fun _ => 0)))), (q_3, .inl (cB, 16, .inl (fun _ => 0))), (q_4, .inl (cI, 16, .inl (fun _ => 0))), (q_5, .inl (cI, 16, .inl (fun _ => 0))), (q_6, .inl (cI, 16, .inl (fun _ => 0)))] H := hP
  replace hD : va_D A [(sc, .inr (4, [.int (nI 0), .ref q_1, .ref q_3, .ref q_4, .ref q_5, .null, .int (nI 0), .int (nI 0)])), (q_1, .inl (cI, 200, .inl (xs_G (fun _ => 0)))), (q_3, .inl (cB, 16, .inl (fun _ => 0))), (q_4, .inl (cI, 16, .inl (fun _ => 0))), (q_5, .inl (cI, 16, .inl (fun _ => 0))), (q_6, .inl (cI, 16, .inl (fun _ => 0)))] := hD
  refine W.widen (k := 5) (n := 264) (Nat.le_of_ble_eq_true rfl) (Nat.le_of_ble_eq_true rfl) ?_
  refine va_putF (D := D) (ci := 4) (v := .ref q_6) (ty := (.array .int)) (C := R_CR) (T := T_CR) (N := 8) hx hb hU iw_CR ty_CR ty_CR_ok nm_CR hown hK hP hD hS 0 rfl rfl 5 (by decide) (hU _ uw_213) (fun _ h9 => h9) rfl hnm rfl (by decide +kernel) (by first | rfl | decide +kernel) (by first | rfl | decide +kernel) (Nat.le_of_ble_eq_true rfl) d_CR_init_42 (fun H locs hP hD hS => ?_)
  replace hP : va_P D vwCl [(sc, .inr (4, [.int (nI 0), .ref q_1, .ref q_3, .ref q_4, .ref q_5, .ref q_6, .int (nI 0), .int (nI 0)])), (q_1, .inl (cI, 200, .inl (xs_G (fun _ => 0)))), (q_3, .inl (cB, 16, .inl (fun _ => 0))), (q_4, .inl (cI, 16, .inl (fun _ => 0))), (q_5, .inl (cI, 16, .inl (fun _ => 0))), (q_6, .inl (cI, 16, .inl (fun _ => 0)))] H := hP
  replace hD : va_D A [(sc, .inr (4, [.int (nI 0), .ref q_1, .ref q_3, .ref q_4, .ref q_5, .ref q_6, .int (nI 0), .int (nI 0)])), (q_1, .inl (cI, 200, .inl (xs_G (fun _ => 0)))), (q_3, .inl (cB, 16, .inl (fun _ => 0))), (q_4, .inl (cI, 16, .inl (fun _ => 0))), (q_5, .inl (cI, 16, .inl (fun _ => 0))), (q_6, .inl (cI, 16, .inl (fun _ => 0)))] := hD
  refine lv_aload_n hx hb d_CR_init_45 rfl (lv_at hl 0 rfl) ?_
  refine lv_iload_n hx hb d_CR_init_46 rfl (lv_at hl 1 rfl) ?_
  refine va_putF (D := D) (ci := 4) (v := .int (nI wk)) (ty := .int) (C := R_CR) (T := T_CR) (N := 8) hx hb hU iw_CR ty_CR ty_CR_ok nm_CR hown hK hP hD hS 0 rfl rfl 0 (by decide) (hU _ uw_202) (fun _ h9 => h9) rfl hnm rfl (by decide +kernel) (by first | rfl | decide +kernel) (by first | rfl | decide +kernel) (Nat.le_of_ble_eq_true rfl) d_CR_init_47 (fun H locs hP hD hS => ?_)
  replace hP : va_P D vwCl [(sc, .inr (4, [.int (nI wk), .ref q_1, .ref q_3, .ref q_4, .ref q_5, .ref q_6, .int (nI 0), .int (nI 0)])), (q_1, .inl (cI, 200, .inl (xs_G (fun _ => 0)))), (q_3, .inl (cB, 16, .inl (fun _ => 0))), (q_4, .inl (cI, 16, .inl (fun _ => 0))), (q_5, .inl (cI, 16, .inl (fun _ => 0))), (q_6, .inl (cI, 16, .inl (fun _ => 0)))] H := hP
  replace hD : va_D A [(sc, .inr (4, [.int (nI wk), .ref q_1, .ref q_3, .ref q_4, .ref q_5, .ref q_6, .int (nI 0), .int (nI 0)])), (q_1, .inl (cI, 200, .inl (xs_G (fun _ => 0)))), (q_3, .inl (cB, 16, .inl (fun _ => 0))), (q_4, .inl (cI, 16, .inl (fun _ => 0))), (q_5, .inl (cI, 16, .inl (fun _ => 0))), (q_6, .inl (cI, 16, .inl (fun _ => 0)))] := hD
  refine lv_aload_n hx hb d_CR_init_50 rfl (lv_at hl 0 rfl) ?_
  refine lv_iload_n hx hb d_CR_init_51 rfl (lv_at hl 1 rfl) ?_
  refine va_put (D := D) (ci := 4) (v := .int (nI wk)) (ty := .int) (C := R_CR) (T := T_CR) (N := 8) hx hb hU iw_CR ty_CR ty_CR_ok nm_CR hown hK hP hD hS 0 rfl rfl 6 (by decide) (hU _ uw_216) (fun _ h9 => h9) rfl (by decide +kernel) (by first | rfl | decide +kernel) (by first | rfl | decide +kernel) (Nat.le_of_ble_eq_true rfl) d_CR_init_52 (fun H locs hP hD hS => ?_)
  replace hP : va_P D vwCl [(sc, .inr (4, [.int (nI wk), .ref q_1, .ref q_3, .ref q_4, .ref q_5, .ref q_6, .int (nI wk), .int (nI 0)])), (q_1, .inl (cI, 200, .inl (xs_G (fun _ => 0)))), (q_3, .inl (cB, 16, .inl (fun _ => 0))), (q_4, .inl (cI, 16, .inl (fun _ => 0))), (q_5, .inl (cI, 16, .inl (fun _ => 0))), (q_6, .inl (cI, 16, .inl (fun _ => 0)))] H := hP
  replace hD : va_D A [(sc, .inr (4, [.int (nI wk), .ref q_1, .ref q_3, .ref q_4, .ref q_5, .ref q_6, .int (nI wk), .int (nI 0)])), (q_1, .inl (cI, 200, .inl (xs_G (fun _ => 0)))), (q_3, .inl (cB, 16, .inl (fun _ => 0))), (q_4, .inl (cI, 16, .inl (fun _ => 0))), (q_5, .inl (cI, 16, .inl (fun _ => 0))), (q_6, .inl (cI, 16, .inl (fun _ => 0)))] := hD
  refine lv_aload_n hx hb d_CR_init_55 rfl (lv_at hl 0 rfl) ?_
  refine va_get (D := D) (a := sc) (fs := [.int (nI wk), .ref q_1, .ref q_3, .ref q_4, .ref q_5, .ref q_6, .int (nI wk), .int (nI 0)]) (ci := 4) (v := .ref q_3) (C := R_CR) (T := T_CR) (N := 8) hx hb hU iw_CR hown hK hP 0 rfl rfl 2 (by decide) (hU _ uw_206) (fun _ h9 => h9) rfl d_CR_init_56 ?_
  refine lv_iconst (v := nI 1) hx hb d_CR_init_59 (by decide +kernel) ?_
  refine xw_callSN (wr := [(sc, .inr (4, [.int (nI wk), .ref q_1, .ref q_3, .ref q_4, .ref q_5, .ref q_6, .int (nI wk), .int (nI 0)])), (q_1, .inl (cI, 200, .inl (xs_G (fun _ => 0)))), (q_4, .inl (cI, 16, .inl (fun _ => 0))), (q_5, .inl (cI, 16, .inl (fun _ => 0))), (q_6, .inl (cI, 16, .inl (fun _ => 0)))]) [.ref q_3, .int (nI 1)] (n_fillFlags l D cI cB cL cR q_3 16 (fun _ => 0) (nI 1) (by decide) (by first | exact Or.inl rfl | exact Or.inr rfl)) ⟨hx, hb, hml, hown, hU⟩ ⟨va_cnB 2 hU (xs_good uw_192) rfl rfl rfl (hN _ nw_190) (hU _ uw_1) (by decide +kernel) ⟨Nat.le_of_ble_eq_true rfl, Nat.le_of_ble_eq_true rfl⟩, hU _ uw_191, trivial⟩ rfl hl.1 rfl (Nat.le_of_ble_eq_true rfl) d_CR_init_60 ⟨Nat.le_of_ble_eq_true rfl, Nat.le_of_ble_eq_true rfl⟩ [2] [0, 1, 3, 4, 5] rfl rfl (by decide +kernel) (by decide +kernel) (by decide +kernel) hN hK hP hD hS hA (fun u H locs hf hP hD hS => ?_)
  replace hP : va_P D vwCl [(sc, .inr (4, [.int (nI wk), .ref q_1, .ref q_3, .ref q_4, .ref q_5, .ref q_6, .int (nI wk), .int (nI 0)])), (q_1, .inl (cI, 200, .inl (xs_G (fun _ => 0)))), (q_4, .inl (cI, 16, .inl (fun _ => 0))), (q_5, .inl (cI, 16, .inl (fun _ => 0))), (q_6, .inl (cI, 16, .inl (fun _ => 0))), (q_3, .inl (cB, 16, .inl (fun _ => (nI 1))))] H := hP
  replace hD : va_D A [(sc, .inr (4, [.int (nI wk), .ref q_1, .ref q_3, .ref q_4, .ref q_5, .ref q_6, .int (nI wk), .int (nI 0)])), (q_1, .inl (cI, 200, .inl (xs_G (fun _ => 0)))), (q_4, .inl (cI, 16, .inl (fun _ => 0))), (q_5, .inl (cI, 16, .inl (fun _ => 0))), (q_6, .inl (cI, 16, .inl (fun _ => 0))), (q_3, .inl (cB, 16, .inl (fun _ => (nI 1))))] := hD
  refine W.widen (k := 5) (n := 264) (Nat.le_of_ble_eq_true rfl) (Nat.le_of_ble_eq_true rfl) ?_
  refine W.eq (g2 := F0 m 63 ls []) rfl ?_
  refine lv_iconst (v := nI 0) hx hb d_CR_init_63 (by decide +kernel) ?_
  refine lv_istore_n (lv' := [(2, .int (nI 0)), (0, .ref sc), (1, .int (nI wk))]) hx hb d_CR_init_64 rfl hl (by decide) rfl (fun ls hl => ?_)
  refine W.widen (k := 5) (n := 264) (Nat.le_of_ble_eq_true rfl) (Nat.le_of_ble_eq_true rfl) ?_
  have lp_65 : ∀ (fu : Nat) (i : Nat) (g9_q_1 : Nat → Nat) (H : Heap) (locs : List Loc) (ls : Array Slot), (∀ j, g9_q_1 j < wk) → (i + fu = 200) → va_P D vwCl [(sc, .inr (4, [.int (nI wk), .ref q_1, .ref q_3, .ref q_4, .ref q_5, .ref q_6, .int (nI wk), .int (nI 0)])), (q_1, .inl (cI, 200, .inl (xs_G g9_q_1))), (q_4, .inl (cI, 16, .inl (fun _ => 0))), (q_5, .inl (cI, 16, .inl (fun _ => 0))), (q_6, .inl (cI, 16, .inl (fun _ => 0))), (q_3, .inl (cB, 16, .inl (fun _ => (nI 1))))] H → va_D A [(sc, .inr (4, [.int (nI wk), .ref q_1, .ref q_3, .ref q_4, .ref q_5, .ref q_6, .int (nI wk), .int (nI 0)])), (q_1, .inl (cI, 200, .inl (xs_G g9_q_1))), (q_4, .inl (cI, 16, .inl (fun _ => 0))), (q_5, .inl (cI, 16, .inl (fun _ => 0))), (q_6, .inl (cI, 16, .inl (fun _ => 0))), (q_3, .inl (cB, 16, .inl (fun _ => (nI 1))))] → va_S A s.heap H locs → lv_has ls 3 [(2, .int (nI i)), (0, .ref sc), (1, .int (nI wk))] → W p l e (headSpec w_CR_init ({ frames := 1, cells := 5, slots := 264, locals := 22  } : Room)).room s m #[.ref sc, .int (nI wk)] below meth c H locs 5 264 (xZ (σ := Nat × Nat × Nat × Nat × Nat × (Nat → Nat)) below #[.ref sc, .int (nI wk)] s D vwCl [(sc, .inr (4, [.int (nI 0), .null, .null, .null, .null, .null, .int (nI 0), .int (nI 0)]))] s.heap.size ({ frames := 1, cells := 5, slots := 264, locals := 22  } : Room).cells ({ frames := 1, cells := 5, slots := 264, locals := 22  } : Room).slots (fun (cf, cl, ct, ck, cs, g_cf) => (∀ j, g_cf j < wk)) (fun (cf, cl, ct, ck, cs, g_cf) => none) (fun (cf, cl, ct, ck, cs, g_cf) => [(sc, .inr (4, [.int (nI wk), .ref cf, .ref cl, .ref ct, .ref ck, .ref cs, .int (nI wk), .int (nI 0)])), (cf, .inl (cI, 200, .inl (xs_G g_cf))), (cl, .inl (cB, 16, .inl (fun _ => nI 1))), (ct, .inl (cI, 16, .inl (fun _ => 0))), (ck, .inl (cI, 16, .inl (fun _ => 0))), (cs, .inl (cI, 16, .inl (fun _ => 0)))])) (F0 m 65 ls []) := by
    intro fu
    induction fu with
    | zero =>
      intro i g9_q_1 H locs ls hg9_q_1 hi hP hD hS hl
      refine lv_iload_n hx hb d_CR_init_65 rfl (lv_at hl 0 rfl) ?_
      refine lv_sipush (v := nI 200) hx hb d_CR_init_66 (by decide +kernel) ?_
      refine xw_icmp_ge (tgt := 92) hx hb d_CR_init_69 (by decide) (by omega) (by omega) (fun c_69 => ?_) (fun c_69 => ?_)
      · have hP9 := xs_P_sub (w := [(sc, .inr (4, [.int (nI wk), .ref q_1, .ref q_3, .ref q_4, .ref q_5, .ref q_6, .int (nI wk), .int (nI 0)])), (q_1, .inl (cI, 200, .inl (xs_G g9_q_1))), (q_3, .inl (cB, 16, .inl (fun _ => (nI 1)))), (q_4, .inl (cI, 16, .inl (fun _ => 0))), (q_5, .inl (cI, 16, .inl (fun _ => 0))), (q_6, .inl (cI, 16, .inl (fun _ => 0)))]) hP [0, 1, 5, 2, 3, 4] rfl
        have hD9 := hD.sub (ws' := [(sc, .inr (4, [.int (nI wk), .ref q_1, .ref q_3, .ref q_4, .ref q_5, .ref q_6, .int (nI wk), .int (nI 0)])), (q_1, .inl (cI, 200, .inl (xs_G g9_q_1))), (q_3, .inl (cB, 16, .inl (fun _ => (nI 1)))), (q_4, .inl (cI, 16, .inl (fun _ => 0))), (q_5, .inl (cI, 16, .inl (fun _ => 0))), (q_6, .inl (cI, 16, .inl (fun _ => 0)))]) [0, 1, 5, 2, 3, 4] (by decide +kernel) rfl
        exact xw_vret (q_1, q_3, q_4, q_5, q_6, g9_q_1) hx hb hr hlocks d_CR_init_92 (rfl) (hg9_q_1) hAe hP9 hD9 hS (Nat.le_of_ble_eq_true rfl) (Nat.le_of_ble_eq_true rfl)
      · exact (by omega : False).elim
    | succ fu ih =>
      intro i g9_q_1 H locs ls hg9_q_1 hi hP hD hS hl
      refine lv_iload_n hx hb d_CR_init_65 rfl (lv_at hl 0 rfl) ?_
      refine lv_sipush (v := nI 200) hx hb d_CR_init_66 (by decide +kernel) ?_
      refine xw_icmp_ge (tgt := 92) hx hb d_CR_init_69 (by decide) (by omega) (by omega) (fun c_69 => ?_) (fun c_69 => ?_)
      · exact (by omega : False).elim
      · refine lv_aload_n hx hb d_CR_init_72 rfl (lv_at hl 1 rfl) ?_
        refine va_get (D := D) (a := sc) (fs := [.int (nI wk), .ref q_1, .ref q_3, .ref q_4, .ref q_5, .ref q_6, .int (nI wk), .int (nI 0)]) (ci := 4) (v := .ref q_1) (C := R_CR) (T := T_CR) (N := 8) hx hb hU iw_CR hown hK hP 0 rfl rfl 1 (by decide) (hU _ uw_205) (fun _ h9 => h9) rfl d_CR_init_73 ?_
        refine lv_iload_n hx hb d_CR_init_76 rfl (lv_at hl 0 rfl) ?_
        refine lv_iload_n hx hb d_CR_init_77 rfl (lv_at hl 2 rfl) ?_
        refine lv_iload_n hx hb d_CR_init_78 rfl (lv_at hl 0 rfl) ?_
        refine xw_callSN (wr := [(sc, .inr (4, [.int (nI wk), .ref q_1, .ref q_3, .ref q_4, .ref q_5, .ref q_6, .int (nI wk), .int (nI 0)])), (q_1, .inl (cI, 200, .inl (xs_G g9_q_1))), (q_4, .inl (cI, 16, .inl (fun _ => 0))), (q_5, .inl (cI, 16, .inl (fun _ => 0))), (q_6, .inl (cI, 16, .inl (fun _ => 0))), (q_3, .inl (cB, 16, .inl (fun _ => (nI 1))))]) [.int (nI i)] (n_numberBehind l D cI cB cL cR i) ⟨hx, hb, hml, hown, hU⟩ ⟨va_cnB 1 hU (xs_good uw_195) rfl rfl rfl (hN _ nw_193) (hU _ uw_1) (by decide +kernel) ⟨Nat.le_of_ble_eq_true rfl, Nat.le_of_ble_eq_true rfl⟩, hU _ uw_194, trivial⟩ rfl hl.1 rfl (Nat.le_of_ble_eq_true rfl) d_CR_init_79 ⟨Nat.le_of_ble_eq_true rfl, Nat.le_of_ble_eq_true rfl⟩ [] [0, 1, 2, 3, 4, 5] rfl rfl (by decide +kernel) (by decide +kernel) (by decide +kernel) hN hK hP hD hS hA (fun u H locs hf hP hD hS => ?_)
        obtain ⟨v_7, rfl⟩ : ∃ z, z = u := ⟨_, rfl⟩
        have hf_79 : (v_7 = lc_f i) ∧ (v_7 < 2147483648) := hf
        obtain ⟨hv_8, hv2_9⟩ := hf_79
        replace hP : va_P D vwCl [(sc, .inr (4, [.int (nI wk), .ref q_1, .ref q_3, .ref q_4, .ref q_5, .ref q_6, .int (nI wk), .int (nI 0)])), (q_1, .inl (cI, 200, .inl (xs_G g9_q_1))), (q_4, .inl (cI, 16, .inl (fun _ => 0))), (q_5, .inl (cI, 16, .inl (fun _ => 0))), (q_6, .inl (cI, 16, .inl (fun _ => 0))), (q_3, .inl (cB, 16, .inl (fun _ => (nI 1))))] H := hP
        replace hD : va_D A [(sc, .inr (4, [.int (nI wk), .ref q_1, .ref q_3, .ref q_4, .ref q_5, .ref q_6, .int (nI wk), .int (nI 0)])), (q_1, .inl (cI, 200, .inl (xs_G g9_q_1))), (q_4, .inl (cI, 16, .inl (fun _ => 0))), (q_5, .inl (cI, 16, .inl (fun _ => 0))), (q_6, .inl (cI, 16, .inl (fun _ => 0))), (q_3, .inl (cB, 16, .inl (fun _ => (nI 1))))] := hD
        refine W.widen (k := 5) (n := 264) (Nat.le_of_ble_eq_true rfl) (Nat.le_of_ble_eq_true rfl) ?_
        refine W.eq (g2 := F0 m 82 ls [.int (nI v_7), .int (nI wk), .int (nI i), .ref q_1]) rfl ?_
        refine xw_callSN (wr := [(sc, .inr (4, [.int (nI wk), .ref q_1, .ref q_3, .ref q_4, .ref q_5, .ref q_6, .int (nI wk), .int (nI 0)])), (q_1, .inl (cI, 200, .inl (xs_G g9_q_1))), (q_4, .inl (cI, 16, .inl (fun _ => 0))), (q_5, .inl (cI, 16, .inl (fun _ => 0))), (q_6, .inl (cI, 16, .inl (fun _ => 0))), (q_3, .inl (cB, 16, .inl (fun _ => (nI 1))))]) [.int (nI wk), .int (nI v_7)] (n_oneOf l D cI cB cL cR wk v_7 (by omega) (by omega) (by omega)) ⟨hx, hb, hml, hown, hU⟩ ⟨va_cnB 2 hU (xs_good uw_200) rfl rfl rfl (hN _ nw_198) (hU _ uw_1) (by decide +kernel) ⟨Nat.le_of_ble_eq_true rfl, Nat.le_of_ble_eq_true rfl⟩, hU _ uw_199, trivial⟩ rfl hl.1 rfl (Nat.le_of_ble_eq_true rfl) d_CR_init_82 ⟨Nat.le_of_ble_eq_true rfl, Nat.le_of_ble_eq_true rfl⟩ [] [0, 1, 2, 3, 4, 5] rfl rfl (by decide +kernel) (by decide +kernel) (by decide +kernel) hN hK hP hD hS hA (fun u H locs hf hP hD hS => ?_)
        obtain ⟨v_10, rfl⟩ : ∃ z, z = u := ⟨_, rfl⟩
        have hf_82 : (v_10 = v_7 / 65536 % wk) ∧ (v_10 < wk) := hf
        obtain ⟨hv_11, hv2_12⟩ := hf_82
        replace hP : va_P D vwCl [(sc, .inr (4, [.int (nI wk), .ref q_1, .ref q_3, .ref q_4, .ref q_5, .ref q_6, .int (nI wk), .int (nI 0)])), (q_1, .inl (cI, 200, .inl (xs_G g9_q_1))), (q_4, .inl (cI, 16, .inl (fun _ => 0))), (q_5, .inl (cI, 16, .inl (fun _ => 0))), (q_6, .inl (cI, 16, .inl (fun _ => 0))), (q_3, .inl (cB, 16, .inl (fun _ => (nI 1))))] H := hP
        replace hD : va_D A [(sc, .inr (4, [.int (nI wk), .ref q_1, .ref q_3, .ref q_4, .ref q_5, .ref q_6, .int (nI wk), .int (nI 0)])), (q_1, .inl (cI, 200, .inl (xs_G g9_q_1))), (q_4, .inl (cI, 16, .inl (fun _ => 0))), (q_5, .inl (cI, 16, .inl (fun _ => 0))), (q_6, .inl (cI, 16, .inl (fun _ => 0))), (q_3, .inl (cB, 16, .inl (fun _ => (nI 1))))] := hD
        refine W.widen (k := 5) (n := 264) (Nat.le_of_ble_eq_true rfl) (Nat.le_of_ble_eq_true rfl) ?_
        refine W.eq (g2 := F0 m 85 ls [.int (nI v_10), .int (nI i), .ref q_1]) rfl ?_
        refine xw_istN hx hb hK hP hD hS 1 0 rfl rfl (by omega) (by decide) d_CR_init_85 (fun H locs hP hD hS => ?_)
        have hg_14 : ∀ j, (va_up g9_q_1 i v_10) j < wk := xs_up_lt (fun j => by have h8 := hg9_q_1 j; omega) (by omega)
        replace hP : va_P D vwCl [(sc, .inr (4, [.int (nI wk), .ref q_1, .ref q_3, .ref q_4, .ref q_5, .ref q_6, .int (nI wk), .int (nI 0)])), (q_1, .inl (cI, 200, .inl (xs_G (va_up g9_q_1 i v_10)))), (q_4, .inl (cI, 16, .inl (fun _ => 0))), (q_5, .inl (cI, 16, .inl (fun _ => 0))), (q_6, .inl (cI, 16, .inl (fun _ => 0))), (q_3, .inl (cB, 16, .inl (fun _ => (nI 1))))] H := hP
        replace hD : va_D A [(sc, .inr (4, [.int (nI wk), .ref q_1, .ref q_3, .ref q_4, .ref q_5, .ref q_6, .int (nI wk), .int (nI 0)])), (q_1, .inl (cI, 200, .inl (xs_G (va_up g9_q_1 i v_10)))), (q_4, .inl (cI, 16, .inl (fun _ => 0))), (q_5, .inl (cI, 16, .inl (fun _ => 0))), (q_6, .inl (cI, 16, .inl (fun _ => 0))), (q_3, .inl (cB, 16, .inl (fun _ => (nI 1))))] := hD
        generalize va_up g9_q_1 i v_10 = g_13 at hP hD hg_14
        replace hP : va_P D vwCl [(sc, .inr (4, [.int (nI wk), .ref q_1, .ref q_3, .ref q_4, .ref q_5, .ref q_6, .int (nI wk), .int (nI 0)])), (q_1, .inl (cI, 200, .inl (xs_G g_13))), (q_4, .inl (cI, 16, .inl (fun _ => 0))), (q_5, .inl (cI, 16, .inl (fun _ => 0))), (q_6, .inl (cI, 16, .inl (fun _ => 0))), (q_3, .inl (cB, 16, .inl (fun _ => (nI 1))))] H := hP
        replace hD : va_D A [(sc, .inr (4, [.int (nI wk), .ref q_1, .ref q_3, .ref q_4, .ref q_5, .ref q_6, .int (nI wk), .int (nI 0)])), (q_1, .inl (cI, 200, .inl (xs_G g_13))), (q_4, .inl (cI, 16, .inl (fun _ => 0))), (q_5, .inl (cI, 16, .inl (fun _ => 0))), (q_6, .inl (cI, 16, .inl (fun _ => 0))), (q_3, .inl (cB, 16, .inl (fun _ => (nI 1))))] := hD
        refine lv_iinc (v := nI (i + 1)) (lv' := [(2, .int (nI (i + 1))), (0, .ref sc), (1, .int (nI wk))]) hx hb d_CR_init_86 hl (k := 0) rfl (xs_inc i 1) (by decide) rfl (fun ls hl => ?_)
        refine lv_goto (tgt := 65) hx hb d_CR_init_89 (by decide) ?_
        exact ih (i + 1) g_13 _ _ _ (hg_14) (by omega) (xs_P_sub hP [0, 1, 2, 3, 4, 5] rfl) (hD.sub [0, 1, 2, 3, 4, 5] (by decide +kernel) rfl) hS (lv_sub hl [0, 1, 2] rfl)
  exact lp_65 (200) 0 (fun _ => 0) _ _ _ (fun j => by have h8 := hz_2 j; omega) (by omega) hP hD hS (lv_sub hl [0, 1, 2] rfl)
