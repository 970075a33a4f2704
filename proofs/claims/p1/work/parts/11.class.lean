set_option maxHeartbeats 4000000 in
set_option maxRecDepth 100000 in
/-- addState, when there are none -/
theorem c_Net_addState (l : Launch) (D : va_G) (cI cB cL : ClassId) (h0 : Nat) (mv : Nat) (q1 : Nat) (q2 : Nat)  : xG (σ := Unit) l y_NET_addState w_NET_addState ({ frames := 0, cells := 0, slots := 0, locals := 0  } : Room) D vwCl (xs_tys cI cB cL) [.ref h0] [(h0, .inr (1, [.int (nI 0), .int (nI mv), .ref q1, .ref q2]))] (fun _ => True) (fun _ => some (.int (nI 0))) (fun _ => [(h0, .inr (1, [.int (nI 1), .int (nI mv), .ref q1, .ref q2]))]) := by
  refine xG.of b_NET_addState 1 (some .int) (by decide +kernel) rfl (Nat.le_of_ble_eq_true rfl) ?_
  intro p e s m below meth c A ls hAe C0 hP hD hS hl
  obtain ⟨hx, hb, hr, hml, hown, hlocks, hts, hnm, hN, hK, hA⟩ := C0
  have hU : ∀ w ∈ xU, w.before #[.ref h0] s = true := fun w h => hts w (List.mem_cons_of_mem _ h)
  have hl : lv_has ls 1 [(0, .ref h0)] := hl
  refine lv_aload_n hx hb d_NET_addState_0 rfl (lv_at hl 0 rfl) ?_
  refine lv_dup hx hb d_NET_addState_1 rfl ?_
  refine va_get (D := D) (ci := 1) (v := .int (nI 0)) (C := R_NET) (T := T_NET) (N := 4) hx hb hU iw_NET hown hK hP 0 rfl rfl 0 (by decide) (hU _ uw_45) (fun _ h9 => h9) rfl d_NET_addState_2 ?_
  refine lv_iconst (v := nI 1) hx hb d_NET_addState_5 (by decide +kernel) ?_
  refine lv_iadd hx hb d_NET_addState_6 ?_
  refine xw_top (nI 1) (by decide +kernel) ?_
  refine va_put (D := D) (ci := 1) (v := .int (nI 1)) (ty := .int) (C := R_NET) (T := T_NET) (N := 4) hx hb hU iw_NET ty_NET ty_NET_ok nm_NET hown hK hP hD hS 0 rfl rfl 0 (by decide) (hU _ uw_45) (fun _ h9 => h9) rfl (by decide +kernel) (by first | rfl | decide +kernel) (by first | rfl | decide +kernel) (Nat.le_of_ble_eq_true rfl) d_NET_addState_7 (fun H locs hP hD hS => ?_)
  have hP : va_P D vwCl [(h0, .inr (1, [.int (nI 1), .int (nI mv), .ref q1, .ref q2]))] H := hP
  have hD : va_D A [(h0, .inr (1, [.int (nI 1), .int (nI mv), .ref q1, .ref q2]))] := hD
  refine lv_aload_n hx hb d_NET_addState_10 rfl (lv_at hl 0 rfl) ?_
  refine va_get (D := D) (ci := 1) (v := .int (nI 1)) (C := R_NET) (T := T_NET) (N := 4) hx hb hU iw_NET hown hK hP 0 rfl rfl 0 (by decide) (hU _ uw_45) (fun _ h9 => h9) rfl d_NET_addState_11 ?_
  refine lv_iconst (v := nI 1) hx hb d_NET_addState_14 (by decide +kernel) ?_
  refine lv_isub hx hb d_NET_addState_15 ?_
  refine xw_top (nI 0) (by decide +kernel) ?_
  have hP9 := xs_P_sub (w := [(h0, .inr (1, [.int (nI 1), .int (nI mv), .ref q1, .ref q2]))]) hP [0] rfl
  have hD9 := hD.sub (ws' := [(h0, .inr (1, [.int (nI 1), .int (nI mv), .ref q1, .ref q2]))]) [0] (by decide) rfl
  exact xw_iret () hx hb hr hlocks d_NET_addState_16 (rfl) (trivial) hAe hP9 hD9 hS (Nat.le_of_ble_eq_true rfl) (Nat.le_of_ble_eq_true rfl)
set_option maxHeartbeats 4000000 in
set_option maxRecDepth 100000 in
/-- placeOf, when none is told -/
theorem c_FP_placeOf0 (l : Launch) (D : va_G) (cI cB cL : ClassId) (h0 : Nat) (q1 : Nat) (q2 : Nat) (q3 : Nat) (a : Int32) (b : Int32)  : xG (σ := Unit) l y_FP_placeOf w_FP_placeOf ({ frames := 0, cells := 0, slots := 0, locals := 0  } : Room) D vwCl (xs_tys cI cB cL) [.ref h0, .int a, .int b] [(h0, .inr (2, [.ref q1, .ref q2, .ref q3, .int (nI 0)]))] (fun _ => True) (fun _ => some (.int (-1))) (fun _ => [(h0, .inr (2, [.ref q1, .ref q2, .ref q3, .int (nI 0)]))]) := by
  refine xG.of b_FP_placeOf 4 (some .int) (by decide +kernel) rfl (Nat.le_of_ble_eq_true rfl) ?_
  intro p e s m below meth c A ls hAe C0 hP hD hS hl
  obtain ⟨hx, hb, hr, hml, hown, hlocks, hts, hnm, hN, hK, hA⟩ := C0
  have hU : ∀ w ∈ xU, w.before #[.ref h0, .int a, .int b] s = true := fun w h => hts w (List.mem_cons_of_mem _ h)
  have hl : lv_has ls 4 [(0, .ref h0), (1, .int a), (2, .int b)] := hl
  refine lv_iconst (v := nI 0) hx hb d_FP_placeOf_0 (by decide +kernel) ?_
  refine lv_istore_n (lv' := [(3, .int (nI 0)), (0, .ref h0), (1, .int a), (2, .int b)]) hx hb d_FP_placeOf_1 rfl hl (by decide) rfl (fun ls hl => ?_)
  refine lv_iload_n hx hb d_FP_placeOf_2 rfl (lv_at hl 0 rfl) ?_
  refine lv_aload_n hx hb d_FP_placeOf_3 rfl (lv_at hl 1 rfl) ?_
  refine va_get (D := D) (ci := 2) (v := .int (nI 0)) (C := R_FP) (T := T_FP) (N := 4) hx hb hU iw_FP hown hK hP 0 rfl rfl 3 (by decide) (hU _ uw_74) (fun _ h9 => h9) rfl d_FP_placeOf_4 ?_
  refine lv_icmp_ge (tgt := 38) hx hb d_FP_placeOf_7 (by decide) (fun c_7 => ?_) (fun c_7 => ?_)
  · refine lv_iconst (v := (-1)) hx hb d_FP_placeOf_38 (by decide +kernel) ?_
    have hP9 := xs_P_sub (w := [(h0, .inr (2, [.ref q1, .ref q2, .ref q3, .int (nI 0)]))]) hP [0] rfl
    have hD9 := hD.sub (ws' := [(h0, .inr (2, [.ref q1, .ref q2, .ref q3, .int (nI 0)]))]) [0] (by decide) rfl
    exact xw_iret () hx hb hr hlocks d_FP_placeOf_39 (rfl) (trivial) hAe hP9 hD9 hS (Nat.le_of_ble_eq_true rfl) (Nat.le_of_ble_eq_true rfl)
  · exact absurd c_7 (by decide +kernel)
set_option maxHeartbeats 4000000 in
set_option maxRecDepth 100000 in
/-- tell with 0, when none is told -/
theorem c_FP_tell0 (l : Launch) (D : va_G) (cI cB cL : ClassId) (h0 : Nat) (q1 : Nat) (q2 : Nat) (q3 : Nat) (f1 : Nat → Int32) (f2 : Nat → Int32) (f3 : Nat → Int32) (a : Int32) (b : Int32)  : xG (σ := Unit) l y_FP_tell w_FP_tell ({ frames := 1, cells := 0, slots := 0, locals := 23  } : Room) D vwCl (xs_tys cI cB cL) [.ref h0, .int a, .int b, .int (nI 0)] [(h0, .inr (2, [.ref q1, .ref q2, .ref q3, .int (nI 0)])), (q1, .inl (cI, 20, .inl f1)), (q2, .inl (cI, 20, .inl f2)), (q3, .inl (cI, 20, .inl f3))] (fun _ => True) (fun _ => none) (fun _ => [(h0, .inr (2, [.ref q1, .ref q2, .ref q3, .int (nI 0)]))]) := by
  refine xG.of b_FP_tell 5 (none) (by decide +kernel) rfl (Nat.le_of_ble_eq_true rfl) ?_
  intro p e s m below meth c A ls hAe C0 hP hD hS hl
  obtain ⟨hx, hb, hr, hml, hown, hlocks, hts, hnm, hN, hK, hA⟩ := C0
  have hU : ∀ w ∈ xU, w.before #[.ref h0, .int a, .int b, .int (nI 0)] s = true := fun w h => hts w (List.mem_cons_of_mem _ h)
  have hl : lv_has ls 5 [(0, .ref h0), (1, .int a), (2, .int b), (3, .int (nI 0))] := hl
  refine lv_aload_n hx hb d_FP_tell_0 rfl (lv_at hl 0 rfl) ?_
  refine lv_iload_n hx hb d_FP_tell_1 rfl (lv_at hl 1 rfl) ?_
  refine lv_iload_n hx hb d_FP_tell_2 rfl (lv_at hl 2 rfl) ?_
  refine xw_callV (C := R_FP) (wr := [(q1, .inl (cI, 20, .inl f1)), (q2, .inl (cI, 20, .inl f2)), (q3, .inl (cI, 20, .inl f3))]) [.int a, .int b] (c_FP_placeOf0 l D cI cB cL h0 q1 q2 q3 a b) ⟨hx, hb, hml, hown, hU⟩ (cwV 2 hU (xs_goodV uw_502 uw_494 uw_495 uw_5 uw_496) rfl rfl rfl (by decide +kernel) ⟨Nat.le_of_ble_eq_true rfl, Nat.le_of_ble_eq_true rfl⟩) 0 rfl rfl rfl rfl hl.1 rfl (Nat.le_of_ble_eq_true rfl) d_FP_tell_3 ⟨Nat.le_of_ble_eq_true rfl, Nat.le_of_ble_eq_true rfl⟩ [0] [1, 2, 3] rfl rfl (by decide) (by decide) (by decide) hN hK hP hD hS hA (fun u H locs hf hP hD hS => ?_)
  have hP : va_P D vwCl [(q1, .inl (cI, 20, .inl f1)), (q2, .inl (cI, 20, .inl f2)), (q3, .inl (cI, 20, .inl f3)), (h0, .inr (2, [.ref q1, .ref q2, .ref q3, .int (nI 0)]))] H := hP
  have hD : va_D A [(q1, .inl (cI, 20, .inl f1)), (q2, .inl (cI, 20, .inl f2)), (q3, .inl (cI, 20, .inl f3)), (h0, .inr (2, [.ref q1, .ref q2, .ref q3, .int (nI 0)]))] := hD
  refine W.widen (k := 0) (n := 0) (Nat.le_of_ble_eq_true rfl) (Nat.le_of_ble_eq_true rfl) ?_
  refine W.eq (g2 := F0 m 6 ls [.int (-1)]) rfl ?_
  refine lv_istore (lv' := [(4, .int (-1)), (0, .ref h0), (1, .int a), (2, .int b), (3, .int (nI 0))]) hx hb d_FP_tell_6 hl (by decide) rfl (fun ls hl => ?_)
  refine lv_iload hx hb d_FP_tell_8 (lv_at hl 0 rfl) ?_
  refine lv_iconst (v := (-1)) hx hb d_FP_tell_10 (by decide +kernel) ?_
  refine lv_icmp_eq (tgt := 27) hx hb d_FP_tell_11 (by decide) (fun c_11 => ?_) (fun c_11 => ?_)
  · refine lv_iload hx hb d_FP_tell_27 (lv_at hl 0 rfl) ?_
    refine lv_iconst (v := (-1)) hx hb d_FP_tell_29 (by decide +kernel) ?_
    refine lv_icmp_eq (tgt := 44) hx hb d_FP_tell_30 (by decide) (fun c_30 => ?_) (fun c_30 => ?_)
    · refine lv_iload_n hx hb d_FP_tell_44 rfl (lv_at hl 4 rfl) ?_
      refine lv_if_eq (tgt := 97) hx hb d_FP_tell_45 (by decide) (fun c_45 => ?_) (fun c_45 => ?_)
      · have hP9 := xs_P_sub (w := [(h0, .inr (2, [.ref q1, .ref q2, .ref q3, .int (nI 0)]))]) hP [3] rfl
        have hD9 := hD.sub (ws' := [(h0, .inr (2, [.ref q1, .ref q2, .ref q3, .int (nI 0)]))]) [3] (by decide) rfl
        exact xw_vret () hx hb hr hlocks d_FP_tell_97 (rfl) (trivial) hAe hP9 hD9 hS (Nat.le_of_ble_eq_true rfl) (Nat.le_of_ble_eq_true rfl)
      · exact absurd c_45 (by decide +kernel)
    · exact absurd c_30 (by decide +kernel)
  · exact absurd c_11 (by decide +kernel)
set_option maxHeartbeats 4000000 in
set_option maxRecDepth 100000 in
/-- tell with another number, when none is told -/
theorem c_FP_tell1 (l : Launch) (D : va_G) (cI cB cL : ClassId) (h0 : Nat) (q1 : Nat) (q2 : Nat) (q3 : Nat) (f1 : Nat → Int32) (f2 : Nat → Int32) (f3 : Nat → Int32) (a : Int32) (b : Int32) (c9 : Int32) (hc : ¬ c9 = 0) : xG (σ := Unit) l y_FP_tell w_FP_tell ({ frames := 1, cells := 0, slots := 0, locals := 23  } : Room) D vwCl (xs_tys cI cB cL) [.ref h0, .int a, .int b, .int c9] [(h0, .inr (2, [.ref q1, .ref q2, .ref q3, .int (nI 0)])), (q1, .inl (cI, 20, .inl f1)), (q2, .inl (cI, 20, .inl f2)), (q3, .inl (cI, 20, .inl f3))] (fun _ => True) (fun _ => none) (fun _ => [(h0, .inr (2, [.ref q1, .ref q2, .ref q3, .int (nI 1)]))]) := by
  refine xG.of b_FP_tell 5 (none) (by decide +kernel) rfl (Nat.le_of_ble_eq_true rfl) ?_
  intro p e s m below meth c A ls hAe C0 hP hD hS hl
  obtain ⟨hx, hb, hr, hml, hown, hlocks, hts, hnm, hN, hK, hA⟩ := C0
  have hU : ∀ w ∈ xU, w.before #[.ref h0, .int a, .int b, .int c9] s = true := fun w h => hts w (List.mem_cons_of_mem _ h)
  have hl : lv_has ls 5 [(0, .ref h0), (1, .int a), (2, .int b), (3, .int c9)] := hl
  refine lv_aload_n hx hb d_FP_tell_0 rfl (lv_at hl 0 rfl) ?_
  refine lv_iload_n hx hb d_FP_tell_1 rfl (lv_at hl 1 rfl) ?_
  refine lv_iload_n hx hb d_FP_tell_2 rfl (lv_at hl 2 rfl) ?_
  refine xw_callV (C := R_FP) (wr := [(q1, .inl (cI, 20, .inl f1)), (q2, .inl (cI, 20, .inl f2)), (q3, .inl (cI, 20, .inl f3))]) [.int a, .int b] (c_FP_placeOf0 l D cI cB cL h0 q1 q2 q3 a b) ⟨hx, hb, hml, hown, hU⟩ (cwV 2 hU (xs_goodV uw_502 uw_494 uw_495 uw_5 uw_496) rfl rfl rfl (by decide +kernel) ⟨Nat.le_of_ble_eq_true rfl, Nat.le_of_ble_eq_true rfl⟩) 0 rfl rfl rfl rfl hl.1 rfl (Nat.le_of_ble_eq_true rfl) d_FP_tell_3 ⟨Nat.le_of_ble_eq_true rfl, Nat.le_of_ble_eq_true rfl⟩ [0] [1, 2, 3] rfl rfl (by decide) (by decide) (by decide) hN hK hP hD hS hA (fun u H locs hf hP hD hS => ?_)
  have hP : va_P D vwCl [(q1, .inl (cI, 20, .inl f1)), (q2, .inl (cI, 20, .inl f2)), (q3, .inl (cI, 20, .inl f3)), (h0, .inr (2, [.ref q1, .ref q2, .ref q3, .int (nI 0)]))] H := hP
  have hD : va_D A [(q1, .inl (cI, 20, .inl f1)), (q2, .inl (cI, 20, .inl f2)), (q3, .inl (cI, 20, .inl f3)), (h0, .inr (2, [.ref q1, .ref q2, .ref q3, .int (nI 0)]))] := hD
  refine W.widen (k := 0) (n := 0) (Nat.le_of_ble_eq_true rfl) (Nat.le_of_ble_eq_true rfl) ?_
  refine W.eq (g2 := F0 m 6 ls [.int (-1)]) rfl ?_
  refine lv_istore (lv' := [(4, .int (-1)), (0, .ref h0), (1, .int a), (2, .int b), (3, .int c9)]) hx hb d_FP_tell_6 hl (by decide) rfl (fun ls hl => ?_)
  refine lv_iload hx hb d_FP_tell_8 (lv_at hl 0 rfl) ?_
  refine lv_iconst (v := (-1)) hx hb d_FP_tell_10 (by decide +kernel) ?_
  refine lv_icmp_eq (tgt := 27) hx hb d_FP_tell_11 (by decide) (fun c_11 => ?_) (fun c_11 => ?_)
  · refine lv_iload hx hb d_FP_tell_27 (lv_at hl 0 rfl) ?_
    refine lv_iconst (v := (-1)) hx hb d_FP_tell_29 (by decide +kernel) ?_
    refine lv_icmp_eq (tgt := 44) hx hb d_FP_tell_30 (by decide) (fun c_30 => ?_) (fun c_30 => ?_)
    · refine lv_iload_n hx hb d_FP_tell_44 rfl (lv_at hl 4 rfl) ?_
      refine lv_if_eq (tgt := 97) hx hb d_FP_tell_45 (by decide) (fun c_45 => ?_) (fun c_45 => ?_)
      · exact absurd c_45 hc
      · refine lv_aload_n hx hb d_FP_tell_48 rfl (lv_at hl 1 rfl) ?_
        refine va_get (D := D) (ci := 2) (v := .int (nI 0)) (C := R_FP) (T := T_FP) (N := 4) hx hb hU iw_FP hown hK hP 3 rfl rfl 3 (by decide) (hU _ uw_74) (fun _ h9 => h9) rfl d_FP_tell_49 ?_
        refine lv_bipush (v := nI 20) hx hb d_FP_tell_52 (by decide +kernel) ?_
        refine lv_icmp_ge (tgt := 97) hx hb d_FP_tell_54 (by decide) (fun c_54 => ?_) (fun c_54 => ?_)
        · exact absurd c_54 (by decide +kernel)
        · refine lv_aload_n hx hb d_FP_tell_57 rfl (lv_at hl 1 rfl) ?_
          refine va_get (D := D) (ci := 2) (v := .ref q1) (C := R_FP) (T := T_FP) (N := 4) hx hb hU iw_FP hown hK hP 3 rfl rfl 0 (by decide) (hU _ uw_71) (fun _ h9 => h9) rfl d_FP_tell_58 ?_
          refine lv_aload_n hx hb d_FP_tell_61 rfl (lv_at hl 1 rfl) ?_
          refine va_get (D := D) (ci := 2) (v := .int (nI 0)) (C := R_FP) (T := T_FP) (N := 4) hx hb hU iw_FP hown hK hP 3 rfl rfl 3 (by decide) (hU _ uw_74) (fun _ h9 => h9) rfl d_FP_tell_62 ?_
          refine lv_iload_n hx hb d_FP_tell_65 rfl (lv_at hl 2 rfl) ?_
          refine xw_ist hx hb hK hP hD hS 0 0 rfl rfl (by decide) (by decide) d_FP_tell_66 (fun H locs hP hD hS => ?_)
          have hP : va_P D vwCl [(q1, .inl (cI, 20, .inl (upd f1 0 a))), (q2, .inl (cI, 20, .inl f2)), (q3, .inl (cI, 20, .inl f3)), (h0, .inr (2, [.ref q1, .ref q2, .ref q3, .int (nI 0)]))] H := hP
          have hD : va_D A [(q1, .inl (cI, 20, .inl (upd f1 0 a))), (q2, .inl (cI, 20, .inl f2)), (q3, .inl (cI, 20, .inl f3)), (h0, .inr (2, [.ref q1, .ref q2, .ref q3, .int (nI 0)]))] := hD
          refine lv_aload_n hx hb d_FP_tell_67 rfl (lv_at hl 1 rfl) ?_
          refine va_get (D := D) (ci := 2) (v := .ref q2) (C := R_FP) (T := T_FP) (N := 4) hx hb hU iw_FP hown hK hP 3 rfl rfl 1 (by decide) (hU _ uw_72) (fun _ h9 => h9) rfl d_FP_tell_68 ?_
          refine lv_aload_n hx hb d_FP_tell_71 rfl (lv_at hl 1 rfl) ?_
          refine va_get (D := D) (ci := 2) (v := .int (nI 0)) (C := R_FP) (T := T_FP) (N := 4) hx hb hU iw_FP hown hK hP 3 rfl rfl 3 (by decide) (hU _ uw_74) (fun _ h9 => h9) rfl d_FP_tell_72 ?_
          refine lv_iload_n hx hb d_FP_tell_75 rfl (lv_at hl 3 rfl) ?_
          refine xw_ist hx hb hK hP hD hS 1 0 rfl rfl (by decide) (by decide) d_FP_tell_76 (fun H locs hP hD hS => ?_)
          have hP : va_P D vwCl [(q1, .inl (cI, 20, .inl (upd f1 0 a))), (q2, .inl (cI, 20, .inl (upd f2 0 b))), (q3, .inl (cI, 20, .inl f3)), (h0, .inr (2, [.ref q1, .ref q2, .ref q3, .int (nI 0)]))] H := hP
          have hD : va_D A [(q1, .inl (cI, 20, .inl (upd f1 0 a))), (q2, .inl (cI, 20, .inl (upd f2 0 b))), (q3, .inl (cI, 20, .inl f3)), (h0, .inr (2, [.ref q1, .ref q2, .ref q3, .int (nI 0)]))] := hD
          refine lv_aload_n hx hb d_FP_tell_77 rfl (lv_at hl 1 rfl) ?_
          refine va_get (D := D) (ci := 2) (v := .ref q3) (C := R_FP) (T := T_FP) (N := 4) hx hb hU iw_FP hown hK hP 3 rfl rfl 2 (by decide) (hU _ uw_73) (fun _ h9 => h9) rfl d_FP_tell_78 ?_
          refine lv_aload_n hx hb d_FP_tell_81 rfl (lv_at hl 1 rfl) ?_
          refine va_get (D := D) (ci := 2) (v := .int (nI 0)) (C := R_FP) (T := T_FP) (N := 4) hx hb hU iw_FP hown hK hP 3 rfl rfl 3 (by decide) (hU _ uw_74) (fun _ h9 => h9) rfl d_FP_tell_82 ?_
          refine lv_iload_n hx hb d_FP_tell_85 rfl (lv_at hl 4 rfl) ?_
          refine xw_ist hx hb hK hP hD hS 2 0 rfl rfl (by decide) (by decide) d_FP_tell_86 (fun H locs hP hD hS => ?_)
          have hP : va_P D vwCl [(q1, .inl (cI, 20, .inl (upd f1 0 a))), (q2, .inl (cI, 20, .inl (upd f2 0 b))), (q3, .inl (cI, 20, .inl (upd f3 0 c9))), (h0, .inr (2, [.ref q1, .ref q2, .ref q3, .int (nI 0)]))] H := hP
          have hD : va_D A [(q1, .inl (cI, 20, .inl (upd f1 0 a))), (q2, .inl (cI, 20, .inl (upd f2 0 b))), (q3, .inl (cI, 20, .inl (upd f3 0 c9))), (h0, .inr (2, [.ref q1, .ref q2, .ref q3, .int (nI 0)]))] := hD
          refine lv_aload_n hx hb d_FP_tell_87 rfl (lv_at hl 1 rfl) ?_
          refine lv_dup hx hb d_FP_tell_88 rfl ?_
          refine va_get (D := D) (ci := 2) (v := .int (nI 0)) (C := R_FP) (T := T_FP) (N := 4) hx hb hU iw_FP hown hK hP 3 rfl rfl 3 (by decide) (hU _ uw_74) (fun _ h9 => h9) rfl d_FP_tell_89 ?_
          refine lv_iconst (v := nI 1) hx hb d_FP_tell_92 (by decide +kernel) ?_
          refine lv_iadd hx hb d_FP_tell_93 ?_
          refine xw_top (nI 1) (by decide +kernel) ?_
          refine va_put (D := D) (ci := 2) (v := .int (nI 1)) (ty := .int) (C := R_FP) (T := T_FP) (N := 4) hx hb hU iw_FP ty_FP ty_FP_ok nm_FP hown hK hP hD hS 3 rfl rfl 3 (by decide) (hU _ uw_74) (fun _ h9 => h9) rfl (by decide +kernel) (by first | rfl | decide +kernel) (by first | rfl | decide +kernel) (Nat.le_of_ble_eq_true rfl) d_FP_tell_94 (fun H locs hP hD hS => ?_)
          have hP : va_P D vwCl [(q1, .inl (cI, 20, .inl (upd f1 0 a))), (q2, .inl (cI, 20, .inl (upd f2 0 b))), (q3, .inl (cI, 20, .inl (upd f3 0 c9))), (h0, .inr (2, [.ref q1, .ref q2, .ref q3, .int (nI 1)]))] H := hP
          have hD : va_D A [(q1, .inl (cI, 20, .inl (upd f1 0 a))), (q2, .inl (cI, 20, .inl (upd f2 0 b))), (q3, .inl (cI, 20, .inl (upd f3 0 c9))), (h0, .inr (2, [.ref q1, .ref q2, .ref q3, .int (nI 1)]))] := hD
          have hP9 := xs_P_sub (w := [(h0, .inr (2, [.ref q1, .ref q2, .ref q3, .int (nI 1)]))]) hP [3] rfl
          have hD9 := hD.sub (ws' := [(h0, .inr (2, [.ref q1, .ref q2, .ref q3, .int (nI 1)]))]) [3] (by decide) rfl
          exact xw_vret () hx hb hr hlocks d_FP_tell_97 (rfl) (trivial) hAe hP9 hD9 hS (Nat.le_of_ble_eq_true rfl) (Nat.le_of_ble_eq_true rfl)
    · exact absurd c_30 (by decide +kernel)
  · exact absurd c_11 (by decide +kernel)
set_option maxHeartbeats 4000000 in
set_option maxRecDepth 100000 in
/-- Crew.has -/
theorem c_CR_has (l : Launch) (D : va_G) (cI cB cL : ClassId) (h0 : Nat) (wk : Nat) (cf : Nat) (cl : Nat) (ct : Nat) (ck : Nat) (cs : Nat) (lw : Nat) (att : Nat) (k : Int32)  : xG (σ := Int32) l y_CR_has w_CR_has ({ frames := 0, cells := 0, slots := 0, locals := 0  } : Room) D vwCl (xs_tys cI cB cL) [.ref h0, .int k] [(h0, .inr (4, [.int (nI wk), .ref cf, .ref cl, .ref ct, .ref ck, .ref cs, .int (nI lw), .int (nI att)]))] (fun v => (v = 1 ∧ ¬ k < 0 ∧ k < nI wk) ∨ (v = 0 ∧ (k < 0 ∨ nI wk ≤ k))) (fun v => some (.int v)) (fun v => [(h0, .inr (4, [.int (nI wk), .ref cf, .ref cl, .ref ct, .ref ck, .ref cs, .int (nI lw), .int (nI att)]))]) := by
  refine xG.of b_CR_has 2 (some .boolean) (by decide +kernel) rfl (Nat.le_of_ble_eq_true rfl) ?_
  intro p e s m below meth c A ls hAe C0 hP hD hS hl
  obtain ⟨hx, hb, hr, hml, hown, hlocks, hts, hnm, hN, hK, hA⟩ := C0
  have hU : ∀ w ∈ xU, w.before #[.ref h0, .int k] s = true := fun w h => hts w (List.mem_cons_of_mem _ h)
  have hl : lv_has ls 2 [(0, .ref h0), (1, .int k)] := hl
  refine lv_iload_n hx hb d_CR_has_0 rfl (lv_at hl 1 rfl) ?_
  refine lv_if_lt (tgt := 16) hx hb d_CR_has_1 (by decide) (fun c_1 => ?_) (fun c_1 => ?_)
  · refine lv_iconst (v := nI 0) hx hb d_CR_has_16 (by decide +kernel) ?_
    have hP9 := xs_P_sub (w := [(h0, .inr (4, [.int (nI wk), .ref cf, .ref cl, .ref ct, .ref ck, .ref cs, .int (nI lw), .int (nI att)]))]) hP [0] rfl
    have hD9 := hD.sub (ws' := [(h0, .inr (4, [.int (nI wk), .ref cf, .ref cl, .ref ct, .ref ck, .ref cs, .int (nI lw), .int (nI att)]))]) [0] (by decide) rfl
    exact xw_zret (nI 0) (by first | exact Or.inl rfl | exact Or.inr rfl) hx hb hr hlocks d_CR_has_17 (rfl) (by first | exact Or.inl ⟨rfl, c_1, Int32.not_le.mp c_9⟩ | exact Or.inr ⟨rfl, Or.inl c_1⟩ | exact Or.inr ⟨rfl, Or.inr c_9⟩) hAe hP9 hD9 hS (Nat.le_of_ble_eq_true rfl) (Nat.le_of_ble_eq_true rfl)
  · refine lv_iload_n hx hb d_CR_has_4 rfl (lv_at hl 1 rfl) ?_
    refine lv_aload_n hx hb d_CR_has_5 rfl (lv_at hl 0 rfl) ?_
    refine va_get (D := D) (ci := 4) (v := .int (nI wk)) (C := R_CR) (T := T_CR) (N := 8) hx hb hU iw_CR hown hK hP 0 rfl rfl 0 (by decide) (hU _ uw_202) (fun _ h9 => h9) rfl d_CR_has_6 ?_
    refine lv_icmp_ge (tgt := 16) hx hb d_CR_has_9 (by decide) (fun c_9 => ?_) (fun c_9 => ?_)
    · refine lv_iconst (v := nI 0) hx hb d_CR_has_16 (by decide +kernel) ?_
      have hP9 := xs_P_sub (w := [(h0, .inr (4, [.int (nI wk), .ref cf, .ref cl, .ref ct, .ref ck, .ref cs, .int (nI lw), .int (nI att)]))]) hP [0] rfl
      have hD9 := hD.sub (ws' := [(h0, .inr (4, [.int (nI wk), .ref cf, .ref cl, .ref ct, .ref ck, .ref cs, .int (nI lw), .int (nI att)]))]) [0] (by decide) rfl
      exact xw_zret (nI 0) (by first | exact Or.inl rfl | exact Or.inr rfl) hx hb hr hlocks d_CR_has_17 (rfl) (by first | exact Or.inl ⟨rfl, c_1, Int32.not_le.mp c_9⟩ | exact Or.inr ⟨rfl, Or.inl c_1⟩ | exact Or.inr ⟨rfl, Or.inr c_9⟩) hAe hP9 hD9 hS (Nat.le_of_ble_eq_true rfl) (Nat.le_of_ble_eq_true rfl)
    · refine lv_iconst (v := nI 1) hx hb d_CR_has_12 (by decide +kernel) ?_
      refine lv_goto (tgt := 17) hx hb d_CR_has_13 (by decide) ?_
      have hP9 := xs_P_sub (w := [(h0, .inr (4, [.int (nI wk), .ref cf, .ref cl, .ref ct, .ref ck, .ref cs, .int (nI lw), .int (nI att)]))]) hP [0] rfl
      have hD9 := hD.sub (ws' := [(h0, .inr (4, [.int (nI wk), .ref cf, .ref cl, .ref ct, .ref ck, .ref cs, .int (nI lw), .int (nI att)]))]) [0] (by decide) rfl
      exact xw_zret (nI 1) (by first | exact Or.inl rfl | exact Or.inr rfl) hx hb hr hlocks d_CR_has_17 (rfl) (by first | exact Or.inl ⟨rfl, c_1, Int32.not_le.mp c_9⟩ | exact Or.inr ⟨rfl, Or.inl c_1⟩ | exact Or.inr ⟨rfl, Or.inr c_9⟩) hAe hP9 hD9 hS (Nat.le_of_ble_eq_true rfl) (Nat.le_of_ble_eq_true rfl)
set_option maxHeartbeats 4000000 in
set_option maxRecDepth 100000 in
/-- Crew.startAnew -/
theorem c_CR_startAnew (l : Launch) (D : va_G) (cI cB cL : ClassId) (h0 : Nat) (wk : Nat) (cf : Nat) (cl : Nat) (ct : Nat) (ck : Nat) (cs : Nat) (lw : Nat) (att : Nat) (f1 : Nat → Int32) (f2 : Nat → Int32) (f3 : Nat → Int32) (f4 : Nat → Int32)  : xG (σ := Unit) l y_CR_startAnew w_CR_startAnew ({ frames := 1, cells := 0, slots := 0, locals := 23  } : Room) D vwCl (xs_tys cI cB cL) [.ref h0] [(h0, .inr (4, [.int (nI wk), .ref cf, .ref cl, .ref ct, .ref ck, .ref cs, .int (nI lw), .int (nI att)])), (cl, .inl (cB, 16, .inl f1)), (ct, .inl (cI, 16, .inl f2)), (ck, .inl (cI, 16, .inl f3)), (cs, .inl (cI, 16, .inl f4))] (fun _ => True) (fun _ => none) (fun _ => [(h0, .inr (4, [.int (nI wk), .ref cf, .ref cl, .ref ct, .ref ck, .ref cs, .int (nI wk), .int (nI 0)])), (cl, .inl (cB, 16, .inl (fun _ => nI 1))), (ct, .inl (cI, 16, .inl (fun _ => nI 0))), (ck, .inl (cI, 16, .inl (fun _ => nI 0))), (cs, .inl (cI, 16, .inl (fun _ => nI 0)))]) := by
  refine xG.of b_CR_startAnew 1 (none) (by decide +kernel) rfl (Nat.le_of_ble_eq_true rfl) ?_
  intro p e s m below meth c A ls hAe C0 hP hD hS hl
  obtain ⟨hx, hb, hr, hml, hown, hlocks, hts, hnm, hN, hK, hA⟩ := C0
  have hU : ∀ w ∈ xU, w.before #[.ref h0] s = true := fun w h => hts w (List.mem_cons_of_mem _ h)
  have hl : lv_has ls 1 [(0, .ref h0)] := hl
  refine lv_aload_n hx hb d_CR_startAnew_0 rfl (lv_at hl 0 rfl) ?_
  refine va_get (D := D) (ci := 4) (v := .ref cl) (C := R_CR) (T := T_CR) (N := 8) hx hb hU iw_CR hown hK hP 0 rfl rfl 2 (by decide) (hU _ uw_206) (fun _ h9 => h9) rfl d_CR_startAnew_1 ?_
  refine lv_iconst (v := nI 1) hx hb d_CR_startAnew_4 (by decide +kernel) ?_
  refine xw_callSN (wr := [(h0, .inr (4, [.int (nI wk), .ref cf, .ref cl, .ref ct, .ref ck, .ref cs, .int (nI lw), .int (nI att)])), (ct, .inl (cI, 16, .inl f2)), (ck, .inl (cI, 16, .inl f3)), (cs, .inl (cI, 16, .inl f4))]) [.ref cl, .int (nI 1)] (c_fillFlags l D cI cB cL cl 16 f1 (nI 1) (by decide) (by first | exact Or.inl rfl | exact Or.inr rfl)) ⟨hx, hb, hml, hown, hU⟩ ⟨va_cnB 2 hU (xs_good uw_192) rfl rfl rfl (hN _ nw_190) (hU _ uw_1) (by decide +kernel) ⟨Nat.le_of_ble_eq_true rfl, Nat.le_of_ble_eq_true rfl⟩, hU _ uw_191, trivial⟩ rfl hl.1 rfl (Nat.le_of_ble_eq_true rfl) d_CR_startAnew_5 ⟨Nat.le_of_ble_eq_true rfl, Nat.le_of_ble_eq_true rfl⟩ [1] [0, 2, 3, 4] rfl rfl (by decide) (by decide) (by decide) hN hK hP hD hS hA (fun u H locs hf hP hD hS => ?_)
  have hP : va_P D vwCl [(h0, .inr (4, [.int (nI wk), .ref cf, .ref cl, .ref ct, .ref ck, .ref cs, .int (nI lw), .int (nI att)])), (ct, .inl (cI, 16, .inl f2)), (ck, .inl (cI, 16, .inl f3)), (cs, .inl (cI, 16, .inl f4)), (cl, .inl (cB, 16, .inl (fun _ => (nI 1))))] H := hP
  have hD : va_D A [(h0, .inr (4, [.int (nI wk), .ref cf, .ref cl, .ref ct, .ref ck, .ref cs, .int (nI lw), .int (nI att)])), (ct, .inl (cI, 16, .inl f2)), (ck, .inl (cI, 16, .inl f3)), (cs, .inl (cI, 16, .inl f4)), (cl, .inl (cB, 16, .inl (fun _ => (nI 1))))] := hD
  refine W.widen (k := 0) (n := 0) (Nat.le_of_ble_eq_true rfl) (Nat.le_of_ble_eq_true rfl) ?_
  refine W.eq (g2 := F0 m 8 ls []) rfl ?_
  refine lv_aload_n hx hb d_CR_startAnew_8 rfl (lv_at hl 0 rfl) ?_
  refine va_get (D := D) (ci := 4) (v := .ref ct) (C := R_CR) (T := T_CR) (N := 8) hx hb hU iw_CR hown hK hP 0 rfl rfl 3 (by decide) (hU _ uw_208) (fun _ h9 => h9) rfl d_CR_startAnew_9 ?_
  refine lv_iconst (v := nI 0) hx hb d_CR_startAnew_12 (by decide +kernel) ?_
  refine xw_callS (wr := [(h0, .inr (4, [.int (nI wk), .ref cf, .ref cl, .ref ct, .ref ck, .ref cs, .int (nI lw), .int (nI att)])), (ck, .inl (cI, 16, .inl f3)), (cs, .inl (cI, 16, .inl f4)), (cl, .inl (cB, 16, .inl (fun _ => (nI 1))))]) [.ref ct, .int (nI 0)] (c_fill l D cI cB cL ct 16 f2 (nI 0) (by decide)) ⟨hx, hb, hml, hown, hU⟩ (va_cwS 2 hU (xs_goodS uw_416 uw_123 uw_8 uw_124) rfl rfl rfl (by decide +kernel) ⟨Nat.le_of_ble_eq_true rfl, Nat.le_of_ble_eq_true rfl⟩) rfl hl.1 rfl (Nat.le_of_ble_eq_true rfl) d_CR_startAnew_13 ⟨Nat.le_of_ble_eq_true rfl, Nat.le_of_ble_eq_true rfl⟩ [1] [0, 2, 3, 4] rfl rfl (by decide) (by decide) (by decide) hN hK hP hD hS hA (fun u H locs hf hP hD hS => ?_)
  have hP : va_P D vwCl [(h0, .inr (4, [.int (nI wk), .ref cf, .ref cl, .ref ct, .ref ck, .ref cs, .int (nI lw), .int (nI att)])), (ck, .inl (cI, 16, .inl f3)), (cs, .inl (cI, 16, .inl f4)), (cl, .inl (cB, 16, .inl (fun _ => (nI 1)))), (ct, .inl (cI, 16, .inl (fun _ => (nI 0))))] H := hP
  have hD : va_D A [(h0, .inr (4, [.int (nI wk), .ref cf, .ref cl, .ref ct, .ref ck, .ref cs, .int (nI lw), .int (nI att)])), (ck, .inl (cI, 16, .inl f3)), (cs, .inl (cI, 16, .inl f4)), (cl, .inl (cB, 16, .inl (fun _ => (nI 1)))), (ct, .inl (cI, 16, .inl (fun _ => (nI 0))))] := hD
  refine W.widen (k := 0) (n := 0) (Nat.le_of_ble_eq_true rfl) (Nat.le_of_ble_eq_true rfl) ?_
  refine W.eq (g2 := F0 m 16 ls []) rfl ?_
  refine lv_aload_n hx hb d_CR_startAnew_16 rfl (lv_at hl 0 rfl) ?_
  refine va_get (D := D) (ci := 4) (v := .ref ck) (C := R_CR) (T := T_CR) (N := 8) hx hb hU iw_CR hown hK hP 0 rfl rfl 4 (by decide) (hU _ uw_210) (fun _ h9 => h9) rfl d_CR_startAnew_17 ?_
  refine lv_iconst (v := nI 0) hx hb d_CR_startAnew_20 (by decide +kernel) ?_
  refine xw_callS (wr := [(h0, .inr (4, [.int (nI wk), .ref cf, .ref cl, .ref ct, .ref ck, .ref cs, .int (nI lw), .int (nI att)])), (cs, .inl (cI, 16, .inl f4)), (cl, .inl (cB, 16, .inl (fun _ => (nI 1)))), (ct, .inl (cI, 16, .inl (fun _ => (nI 0))))]) [.ref ck, .int (nI 0)] (c_fill l D cI cB cL ck 16 f3 (nI 0) (by decide)) ⟨hx, hb, hml, hown, hU⟩ (va_cwS 2 hU (xs_goodS uw_416 uw_123 uw_8 uw_124) rfl rfl rfl (by decide +kernel) ⟨Nat.le_of_ble_eq_true rfl, Nat.le_of_ble_eq_true rfl⟩) rfl hl.1 rfl (Nat.le_of_ble_eq_true rfl) d_CR_startAnew_21 ⟨Nat.le_of_ble_eq_true rfl, Nat.le_of_ble_eq_true rfl⟩ [1] [0, 2, 3, 4] rfl rfl (by decide) (by decide) (by decide) hN hK hP hD hS hA (fun u H locs hf hP hD hS => ?_)
  have hP : va_P D vwCl [(h0, .inr (4, [.int (nI wk), .ref cf, .ref cl, .ref ct, .ref ck, .ref cs, .int (nI lw), .int (nI att)])), (cs, .inl (cI, 16, .inl f4)), (cl, .inl (cB, 16, .inl (fun _ => (nI 1)))), (ct, .inl (cI, 16, .inl (fun _ => (nI 0)))), (ck, .inl (cI, 16, .inl (fun _ => (nI 0))))] H := hP
  have hD : va_D A [(h0, .inr (4, [.int (nI wk), .ref cf, .ref cl, .ref ct, .ref ck, .ref cs, .int (nI lw), .int (nI att)])), (cs, .inl (cI, 16, .inl f4)), (cl, .inl (cB, 16, .inl (fun _ => (nI 1)))), (ct, .inl (cI, 16, .inl (fun _ => (nI 0)))), (ck, .inl (cI, 16, .inl (fun _ => (nI 0))))] := hD
  refine W.widen (k := 0) (n := 0) (Nat.le_of_ble_eq_true rfl) (Nat.le_of_ble_eq_true rfl) ?_
  refine W.eq (g2 := F0 m 24 ls []) rfl ?_
  refine lv_aload_n hx hb d_CR_startAnew_24 rfl (lv_at hl 0 rfl) ?_
  refine va_get (D := D) (ci := 4) (v := .ref cs) (C := R_CR) (T := T_CR) (N := 8) hx hb hU iw_CR hown hK hP 0 rfl rfl 5 (by decide) (hU _ uw_213) (fun _ h9 => h9) rfl d_CR_startAnew_25 ?_
  refine lv_iconst (v := nI 0) hx hb d_CR_startAnew_28 (by decide +kernel) ?_
  refine xw_callS (wr := [(h0, .inr (4, [.int (nI wk), .ref cf, .ref cl, .ref ct, .ref ck, .ref cs, .int (nI lw), .int (nI att)])), (cl, .inl (cB, 16, .inl (fun _ => (nI 1)))), (ct, .inl (cI, 16, .inl (fun _ => (nI 0)))), (ck, .inl (cI, 16, .inl (fun _ => (nI 0))))]) [.ref cs, .int (nI 0)] (c_fill l D cI cB cL cs 16 f4 (nI 0) (by decide)) ⟨hx, hb, hml, hown, hU⟩ (va_cwS 2 hU (xs_goodS uw_416 uw_123 uw_8 uw_124) rfl rfl rfl (by decide +kernel) ⟨Nat.le_of_ble_eq_true rfl, Nat.le_of_ble_eq_true rfl⟩) rfl hl.1 rfl (Nat.le_of_ble_eq_true rfl) d_CR_startAnew_29 ⟨Nat.le_of_ble_eq_true rfl, Nat.le_of_ble_eq_true rfl⟩ [1] [0, 2, 3, 4] rfl rfl (by decide) (by decide) (by decide) hN hK hP hD hS hA (fun u H locs hf hP hD hS => ?_)
  have hP : va_P D vwCl [(h0, .inr (4, [.int (nI wk), .ref cf, .ref cl, .ref ct, .ref ck, .ref cs, .int (nI lw), .int (nI att)])), (cl, .inl (cB, 16, .inl (fun _ => (nI 1)))), (ct, .inl (cI, 16, .inl (fun _ => (nI 0)))), (ck, .inl (cI, 16, .inl (fun _ => (nI 0)))), (cs, .inl (cI, 16, .inl (fun _ => (nI 0))))] H := hP
  have hD : va_D A [(h0, .inr (4, [.int (nI wk), .ref cf, .ref cl, .ref ct, .ref ck, .ref cs, .int (nI lw), .int (nI att)])), (cl, .inl (cB, 16, .inl (fun _ => (nI 1)))), (ct, .inl (cI, 16, .inl (fun _ => (nI 0)))), (ck, .inl (cI, 16, .inl (fun _ => (nI 0)))), (cs, .inl (cI, 16, .inl (fun _ => (nI 0))))] := hD
  refine W.widen (k := 0) (n := 0) (Nat.le_of_ble_eq_true rfl) (Nat.le_of_ble_eq_true rfl) ?_
  refine W.eq (g2 := F0 m 32 ls []) rfl ?_
  refine lv_aload_n hx hb d_CR_startAnew_32 rfl (lv_at hl 0 rfl) ?_
  refine lv_aload_n hx hb d_CR_startAnew_33 rfl (lv_at hl 0 rfl) ?_
  refine va_get (D := D) (ci := 4) (v := .int (nI wk)) (C := R_CR) (T := T_CR) (N := 8) hx hb hU iw_CR hown hK hP 0 rfl rfl 0 (by decide) (hU _ uw_202) (fun _ h9 => h9) rfl d_CR_startAnew_34 ?_
  refine va_put (D := D) (ci := 4) (v := .int (nI wk)) (ty := .int) (C := R_CR) (T := T_CR) (N := 8) hx hb hU iw_CR ty_CR ty_CR_ok nm_CR hown hK hP hD hS 0 rfl rfl 6 (by decide) (hU _ uw_216) (fun _ h9 => h9) rfl (by decide +kernel) (by first | rfl | decide +kernel) (by first | rfl | decide +kernel) (Nat.le_of_ble_eq_true rfl) d_CR_startAnew_37 (fun H locs hP hD hS => ?_)
  have hP : va_P D vwCl [(h0, .inr (4, [.int (nI wk), .ref cf, .ref cl, .ref ct, .ref ck, .ref cs, .int (nI wk), .int (nI att)])), (cl, .inl (cB, 16, .inl (fun _ => (nI 1)))), (ct, .inl (cI, 16, .inl (fun _ => (nI 0)))), (ck, .inl (cI, 16, .inl (fun _ => (nI 0)))), (cs, .inl (cI, 16, .inl (fun _ => (nI 0))))] H := hP
  have hD : va_D A [(h0, .inr (4, [.int (nI wk), .ref cf, .ref cl, .ref ct, .ref ck, .ref cs, .int (nI wk), .int (nI att)])), (cl, .inl (cB, 16, .inl (fun _ => (nI 1)))), (ct, .inl (cI, 16, .inl (fun _ => (nI 0)))), (ck, .inl (cI, 16, .inl (fun _ => (nI 0)))), (cs, .inl (cI, 16, .inl (fun _ => (nI 0))))] := hD
  refine lv_aload_n hx hb d_CR_startAnew_40 rfl (lv_at hl 0 rfl) ?_
  refine lv_iconst (v := nI 0) hx hb d_CR_startAnew_41 (by decide +kernel) ?_
  refine va_put (D := D) (ci := 4) (v := .int (nI 0)) (ty := .int) (C := R_CR) (T := T_CR) (N := 8) hx hb hU iw_CR ty_CR ty_CR_ok nm_CR hown hK hP hD hS 0 rfl rfl 7 (by decide) (hU _ uw_219) (fun _ h9 => h9) rfl (by decide +kernel) (by first | rfl | decide +kernel) (by first | rfl | decide +kernel) (Nat.le_of_ble_eq_true rfl) d_CR_startAnew_42 (fun H locs hP hD hS => ?_)
  have hP : va_P D vwCl [(h0, .inr (4, [.int (nI wk), .ref cf, .ref cl, .ref ct, .ref ck, .ref cs, .int (nI wk), .int (nI 0)])), (cl, .inl (cB, 16, .inl (fun _ => (nI 1)))), (ct, .inl (cI, 16, .inl (fun _ => (nI 0)))), (ck, .inl (cI, 16, .inl (fun _ => (nI 0)))), (cs, .inl (cI, 16, .inl (fun _ => (nI 0))))] H := hP
  have hD : va_D A [(h0, .inr (4, [.int (nI wk), .ref cf, .ref cl, .ref ct, .ref ck, .ref cs, .int (nI wk), .int (nI 0)])), (cl, .inl (cB, 16, .inl (fun _ => (nI 1)))), (ct, .inl (cI, 16, .inl (fun _ => (nI 0)))), (ck, .inl (cI, 16, .inl (fun _ => (nI 0)))), (cs, .inl (cI, 16, .inl (fun _ => (nI 0))))] := hD
  have hP9 := xs_P_sub (w := [(h0, .inr (4, [.int (nI wk), .ref cf, .ref cl, .ref ct, .ref ck, .ref cs, .int (nI wk), .int (nI 0)])), (cl, .inl (cB, 16, .inl (fun _ => (nI 1)))), (ct, .inl (cI, 16, .inl (fun _ => (nI 0)))), (ck, .inl (cI, 16, .inl (fun _ => (nI 0)))), (cs, .inl (cI, 16, .inl (fun _ => (nI 0))))]) hP [0, 1, 2, 3, 4] rfl
  have hD9 := hD.sub (ws' := [(h0, .inr (4, [.int (nI wk), .ref cf, .ref cl, .ref ct, .ref ck, .ref cs, .int (nI wk), .int (nI 0)])), (cl, .inl (cB, 16, .inl (fun _ => (nI 1)))), (ct, .inl (cI, 16, .inl (fun _ => (nI 0)))), (ck, .inl (cI, 16, .inl (fun _ => (nI 0)))), (cs, .inl (cI, 16, .inl (fun _ => (nI 0))))]) [0, 1, 2, 3, 4] (by decide) rfl
  exact xw_vret () hx hb hr hlocks d_CR_startAnew_45 (rfl) (trivial) hAe hP9 hD9 hS (Nat.le_of_ble_eq_true rfl) (Nat.le_of_ble_eq_true rfl)
set_option maxHeartbeats 4000000 in
set_option maxRecDepth 100000 in
/-- Levels.emptySets -/
theorem c_LE_emptySets (l : Launch) (D : va_G) (cI cB cL : ClassId) (h0 : Nat) (lo : Nat) (lr : Nat) (lb : Nat) (lf : Nat) (lv : Nat) (f1 : Nat → Int32)  : xG (σ := Unit) l y_LE_emptySets w_LE_emptySets ({ frames := 1, cells := 0, slots := 0, locals := 22  } : Room) D vwCl (xs_tys cI cB cL) [.ref h0] [(h0, .inr (7, [.ref lo, .ref lr, .ref lb, .int (nI lv), .ref lf])), (lf, .inl (cB, 200, .inl f1))] (fun _ => True) (fun _ => none) (fun _ => [(h0, .inr (7, [.ref lo, .ref lr, .ref lb, .int (nI lv), .ref lf])), (lf, .inl (cB, 200, .inl (fun _ => nI 0)))]) := by
  refine xG.of b_LE_emptySets 1 (none) (by decide +kernel) rfl (Nat.le_of_ble_eq_true rfl) ?_
  intro p e s m below meth c A ls hAe C0 hP hD hS hl
  obtain ⟨hx, hb, hr, hml, hown, hlocks, hts, hnm, hN, hK, hA⟩ := C0
  have hU : ∀ w ∈ xU, w.before #[.ref h0] s = true := fun w h => hts w (List.mem_cons_of_mem _ h)
  have hl : lv_has ls 1 [(0, .ref h0)] := hl
  refine lv_aload_n hx hb d_LE_emptySets_0 rfl (lv_at hl 0 rfl) ?_
  refine va_get (D := D) (ci := 7) (v := .ref lf) (C := R_LE) (T := T_LE) (N := 5) hx hb hU iw_LE hown hK hP 0 rfl rfl 4 (by decide) (hU _ uw_138) (fun _ h9 => h9) rfl d_LE_emptySets_1 ?_
  refine lv_iconst (v := nI 0) hx hb d_LE_emptySets_4 (by decide +kernel) ?_
  refine xw_callSN (wr := [(h0, .inr (7, [.ref lo, .ref lr, .ref lb, .int (nI lv), .ref lf]))]) [.ref lf, .int (nI 0)] (c_fillFlags l D cI cB cL lf 200 f1 (nI 0) (by decide) (by first | exact Or.inl rfl | exact Or.inr rfl)) ⟨hx, hb, hml, hown, hU⟩ ⟨va_cnB 2 hU (xs_good uw_192) rfl rfl rfl (hN _ nw_425) (hU _ uw_1) (by decide +kernel) ⟨Nat.le_of_ble_eq_true rfl, Nat.le_of_ble_eq_true rfl⟩, hU _ uw_191, trivial⟩ rfl hl.1 rfl (Nat.le_of_ble_eq_true rfl) d_LE_emptySets_5 ⟨Nat.le_of_ble_eq_true rfl, Nat.le_of_ble_eq_true rfl⟩ [1] [0] rfl rfl (by decide) (by decide) (by decide) hN hK hP hD hS hA (fun u H locs hf hP hD hS => ?_)
  have hP : va_P D vwCl [(h0, .inr (7, [.ref lo, .ref lr, .ref lb, .int (nI lv), .ref lf])), (lf, .inl (cB, 200, .inl (fun _ => (nI 0))))] H := hP
  have hD : va_D A [(h0, .inr (7, [.ref lo, .ref lr, .ref lb, .int (nI lv), .ref lf])), (lf, .inl (cB, 200, .inl (fun _ => (nI 0))))] := hD
  refine W.widen (k := 0) (n := 0) (Nat.le_of_ble_eq_true rfl) (Nat.le_of_ble_eq_true rfl) ?_
  refine W.eq (g2 := F0 m 8 ls []) rfl ?_
  have hP9 := xs_P_sub (w := [(h0, .inr (7, [.ref lo, .ref lr, .ref lb, .int (nI lv), .ref lf])), (lf, .inl (cB, 200, .inl (fun _ => (nI 0))))]) hP [0, 1] rfl
  have hD9 := hD.sub (ws' := [(h0, .inr (7, [.ref lo, .ref lr, .ref lb, .int (nI lv), .ref lf])), (lf, .inl (cB, 200, .inl (fun _ => (nI 0))))]) [0, 1] (by decide) rfl
  exact xw_vret () hx hb hr hlocks d_LE_emptySets_8 (rfl) (trivial) hAe hP9 hD9 hS (Nat.le_of_ble_eq_true rfl) (Nat.le_of_ble_eq_true rfl)
set_option maxHeartbeats 4000000 in
set_option maxRecDepth 100000 in
/-- Levels.startAnew -/
theorem c_LE_startAnew (l : Launch) (D : va_G) (cI cB cL : ClassId) (h0 : Nat) (lo : Nat) (lr : Nat) (lb : Nat) (lf : Nat) (lv : Nat) (f1 : Nat → Int32) (f2 : Nat → Int32)  : xG (σ := Unit) l y_LE_startAnew w_LE_startAnew ({ frames := 2, cells := 0, slots := 0, locals := 42  } : Room) D vwCl (xs_tys cI cB cL) [.ref h0] [(h0, .inr (7, [.ref lo, .ref lr, .ref lb, .int (nI lv), .ref lf])), (lo, .inl (cI, 200, .inl f1)), (lf, .inl (cB, 200, .inl f2))] (fun _ => True) (fun _ => none) (fun _ => [(h0, .inr (7, [.ref lo, .ref lr, .ref lb, .int (nI 0), .ref lf])), (lo, .inl (cI, 200, .inl (fun _ => (-1)))), (lf, .inl (cB, 200, .inl (fun _ => nI 0)))]) := by
  refine xG.of b_LE_startAnew 1 (none) (by decide +kernel) rfl (Nat.le_of_ble_eq_true rfl) ?_
  intro p e s m below meth c A ls hAe C0 hP hD hS hl
  obtain ⟨hx, hb, hr, hml, hown, hlocks, hts, hnm, hN, hK, hA⟩ := C0
  have hU : ∀ w ∈ xU, w.before #[.ref h0] s = true := fun w h => hts w (List.mem_cons_of_mem _ h)
  have hl : lv_has ls 1 [(0, .ref h0)] := hl
  refine lv_aload_n hx hb d_LE_startAnew_0 rfl (lv_at hl 0 rfl) ?_
  refine va_get (D := D) (ci := 7) (v := .ref lo) (C := R_LE) (T := T_LE) (N := 5) hx hb hU iw_LE hown hK hP 0 rfl rfl 0 (by decide) (hU _ uw_125) (fun _ h9 => h9) rfl d_LE_startAnew_1 ?_
  refine lv_iconst (v := (-1)) hx hb d_LE_startAnew_4 (by decide +kernel) ?_
  refine xw_callS (wr := [(h0, .inr (7, [.ref lo, .ref lr, .ref lb, .int (nI lv), .ref lf])), (lf, .inl (cB, 200, .inl f2))]) [.ref lo, .int (-1)] (c_fill l D cI cB cL lo 200 f1 (-1) (by decide)) ⟨hx, hb, hml, hown, hU⟩ (va_cwS 2 hU (xs_goodS uw_122 uw_123 uw_8 uw_124) rfl rfl rfl (by decide +kernel) ⟨Nat.le_of_ble_eq_true rfl, Nat.le_of_ble_eq_true rfl⟩) rfl hl.1 rfl (Nat.le_of_ble_eq_true rfl) d_LE_startAnew_5 ⟨Nat.le_of_ble_eq_true rfl, Nat.le_of_ble_eq_true rfl⟩ [1] [0, 2] rfl rfl (by decide) (by decide) (by decide) hN hK hP hD hS hA (fun u H locs hf hP hD hS => ?_)
  have hP : va_P D vwCl [(h0, .inr (7, [.ref lo, .ref lr, .ref lb, .int (nI lv), .ref lf])), (lf, .inl (cB, 200, .inl f2)), (lo, .inl (cI, 200, .inl (fun _ => ((-1)))))] H := hP
  have hD : va_D A [(h0, .inr (7, [.ref lo, .ref lr, .ref lb, .int (nI lv), .ref lf])), (lf, .inl (cB, 200, .inl f2)), (lo, .inl (cI, 200, .inl (fun _ => ((-1)))))] := hD
  refine W.widen (k := 0) (n := 0) (Nat.le_of_ble_eq_true rfl) (Nat.le_of_ble_eq_true rfl) ?_
  refine W.eq (g2 := F0 m 8 ls []) rfl ?_
  refine lv_aload_n hx hb d_LE_startAnew_8 rfl (lv_at hl 0 rfl) ?_
  refine lv_iconst (v := nI 0) hx hb d_LE_startAnew_9 (by decide +kernel) ?_
  refine va_put (D := D) (ci := 7) (v := .int (nI 0)) (ty := .int) (C := R_LE) (T := T_LE) (N := 5) hx hb hU iw_LE ty_LE ty_LE_ok nm_LE hown hK hP hD hS 0 rfl rfl 3 (by decide) (hU _ uw_135) (fun _ h9 => h9) rfl (by decide +kernel) (by first | rfl | decide +kernel) (by first | rfl | decide +kernel) (Nat.le_of_ble_eq_true rfl) d_LE_startAnew_10 (fun H locs hP hD hS => ?_)
  have hP : va_P D vwCl [(h0, .inr (7, [.ref lo, .ref lr, .ref lb, .int (nI 0), .ref lf])), (lf, .inl (cB, 200, .inl f2)), (lo, .inl (cI, 200, .inl (fun _ => ((-1)))))] H := hP
  have hD : va_D A [(h0, .inr (7, [.ref lo, .ref lr, .ref lb, .int (nI 0), .ref lf])), (lf, .inl (cB, 200, .inl f2)), (lo, .inl (cI, 200, .inl (fun _ => ((-1)))))] := hD
  refine lv_aload_n hx hb d_LE_startAnew_13 rfl (lv_at hl 0 rfl) ?_
  refine xw_callV (C := R_LE) (wr := [(lo, .inl (cI, 200, .inl (fun _ => ((-1)))))]) [] (c_LE_emptySets l D cI cB cL h0 lo lr lb lf 0 f2) ⟨hx, hb, hml, hown, hU⟩ (cwV 0 hU (xs_goodV uw_421 uw_422 uw_423 uw_7 uw_424) rfl rfl rfl (by decide +kernel) ⟨Nat.le_of_ble_eq_true rfl, Nat.le_of_ble_eq_true rfl⟩) 0 rfl rfl rfl rfl hl.1 rfl (Nat.le_of_ble_eq_true rfl) d_LE_startAnew_14 ⟨Nat.le_of_ble_eq_true rfl, Nat.le_of_ble_eq_true rfl⟩ [0, 1] [2] rfl rfl (by decide) (by decide) (by decide) hN hK hP hD hS hA (fun u H locs hf hP hD hS => ?_)
  have hP : va_P D vwCl [(lo, .inl (cI, 200, .inl (fun _ => ((-1))))), (h0, .inr (7, [.ref lo, .ref lr, .ref lb, .int (nI 0), .ref lf])), (lf, .inl (cB, 200, .inl (fun _ => nI 0)))] H := hP
  have hD : va_D A [(lo, .inl (cI, 200, .inl (fun _ => ((-1))))), (h0, .inr (7, [.ref lo, .ref lr, .ref lb, .int (nI 0), .ref lf])), (lf, .inl (cB, 200, .inl (fun _ => nI 0)))] := hD
  refine W.widen (k := 0) (n := 0) (Nat.le_of_ble_eq_true rfl) (Nat.le_of_ble_eq_true rfl) ?_
  refine W.eq (g2 := F0 m 17 ls []) rfl ?_
  have hP9 := xs_P_sub (w := [(h0, .inr (7, [.ref lo, .ref lr, .ref lb, .int (nI 0), .ref lf])), (lo, .inl (cI, 200, .inl (fun _ => ((-1))))), (lf, .inl (cB, 200, .inl (fun _ => nI 0)))]) hP [1, 0, 2] rfl
  have hD9 := hD.sub (ws' := [(h0, .inr (7, [.ref lo, .ref lr, .ref lb, .int (nI 0), .ref lf])), (lo, .inl (cI, 200, .inl (fun _ => ((-1))))), (lf, .inl (cB, 200, .inl (fun _ => nI 0)))]) [1, 0, 2] (by decide) rfl
  exact xw_vret () hx hb hr hlocks d_LE_startAnew_17 (rfl) (trivial) hAe hP9 hD9 hS (Nat.le_of_ble_eq_true rfl) (Nat.le_of_ble_eq_true rfl)
set_option maxHeartbeats 4000000 in
set_option maxRecDepth 100000 in
/-- cameInAll, before a run -/
theorem c_LE_cameInAll0 (l : Launch) (D : va_G) (cI cB cL : ClassId) (h0 : Nat) (lo : Nat) (lr : Nat) (lb : Nat) (lf : Nat)  : xG (σ := Unit) l y_LE_cameInAll w_LE_cameInAll ({ frames := 0, cells := 0, slots := 0, locals := 0  } : Room) D vwCl (xs_tys cI cB cL) [.ref h0] [(h0, .inr (7, [.ref lo, .ref lr, .ref lb, .int (nI 0), .ref lf])), (lb, .inl (cI, 201, .inl (fun _ => 0)))] (fun _ => True) (fun _ => some (.int (nI 0))) (fun _ => [(h0, .inr (7, [.ref lo, .ref lr, .ref lb, .int (nI 0), .ref lf])), (lb, .inl (cI, 201, .inl (fun _ => 0)))]) := by
  refine xG.of b_LE_cameInAll 1 (some .int) (by decide +kernel) rfl (Nat.le_of_ble_eq_true rfl) ?_
  intro p e s m below meth c A ls hAe C0 hP hD hS hl
  obtain ⟨hx, hb, hr, hml, hown, hlocks, hts, hnm, hN, hK, hA⟩ := C0
  have hU : ∀ w ∈ xU, w.before #[.ref h0] s = true := fun w h => hts w (List.mem_cons_of_mem _ h)
  have hl : lv_has ls 1 [(0, .ref h0)] := hl
  refine lv_aload_n hx hb d_LE_cameInAll_0 rfl (lv_at hl 0 rfl) ?_
  refine va_get (D := D) (ci := 7) (v := .ref lb) (C := R_LE) (T := T_LE) (N := 5) hx hb hU iw_LE hown hK hP 0 rfl rfl 2 (by decide) (hU _ uw_131) (fun _ h9 => h9) rfl d_LE_cameInAll_1 ?_
  refine lv_aload_n hx hb d_LE_cameInAll_4 rfl (lv_at hl 0 rfl) ?_
  refine va_get (D := D) (ci := 7) (v := .int (nI 0)) (C := R_LE) (T := T_LE) (N := 5) hx hb hU iw_LE hown hK hP 0 rfl rfl 3 (by decide) (hU _ uw_135) (fun _ h9 => h9) rfl d_LE_cameInAll_5 ?_
  refine xw_ild hx hb hK hP 1 0 rfl rfl (by decide) (by decide) d_LE_cameInAll_8 ?_
  refine xw_top (nI 0) (by first | rfl | decide +kernel) ?_
  have hP9 := xs_P_sub (w := [(h0, .inr (7, [.ref lo, .ref lr, .ref lb, .int (nI 0), .ref lf])), (lb, .inl (cI, 201, .inl (fun _ => 0)))]) hP [0, 1] rfl
  have hD9 := hD.sub (ws' := [(h0, .inr (7, [.ref lo, .ref lr, .ref lb, .int (nI 0), .ref lf])), (lb, .inl (cI, 201, .inl (fun _ => 0)))]) [0, 1] (by decide) rfl
  exact xw_iret () hx hb hr hlocks d_LE_cameInAll_9 (rfl) (trivial) hAe hP9 hD9 hS (Nat.le_of_ble_eq_true rfl) (Nat.le_of_ble_eq_true rfl)
