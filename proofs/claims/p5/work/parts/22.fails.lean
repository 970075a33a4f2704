set_option maxHeartbeats 4000000 in
set_option maxRecDepth 100000 in
/-- placeOf: -1 or a place -/
theorem n_FP_placeOf (l : Launch) (D : va_G) (cI cB cL cR : ClassId) (h0 : Nat) (q1 : Nat) (q2 : Nat) (q3 : Nat) (td : Nat) (f1 : Nat → Int32) (f2 : Nat → Int32) (f3 : Nat → Int32) (a : Int32) (b : Int32) (htd : td ≤ 20) : xR (σ := Int32) l y_FP_placeOf w_FP_placeOf ({ frames := 0, cells := 0, slots := 0, locals := 0  } : Room) D vwCl (xs_tys cI cB cL cR) [.ref h0, .int a, .int b] [(h0, .inr (2, [.ref q1, .ref q2, .ref q3, .int (nI td)])), (q1, .inl (cI, 20, .inl f1)), (q2, .inl (cI, 20, .inl f2)), (q3, .inl (cI, 20, .inl f3))] (fun v => ((v = (-1) ∧ ∀ i, i < td → ¬ (f1 i = a ∧ f2 i = b)) ∨ ∃ i, i < td ∧ v = nI i ∧ f1 i = a ∧ f2 i = b)) (fun v => some (.int v)) := by
  refine xR.of b_FP_placeOf 4 (some .int) (by decide +kernel) rfl (Nat.le_of_ble_eq_true rfl) ?_
  intro p e s m below meth c A ls hAe C0 hP hD hS hl
  obtain ⟨hx, hb, hr, hml, hown, hlocks, hts, hnm, hN, hK, hA⟩ := C0
  have hU : ∀ w ∈ xU, w.before #[.ref h0, .int a, .int b] s = true := fun w h => hts w (List.mem_cons_of_mem _ h)
  have hl : lv_has ls 4 [(0, .ref h0), (1, .int a), (2, .int b)] := hl
  refine lv_iconst (v := nI 0) hx hb d_FP_placeOf_0 (by decide +kernel) ?_
  refine lv_istore_n (lv' := [(3, .int (nI 0)), (0, .ref h0), (1, .int a), (2, .int b)]) hx hb d_FP_placeOf_1 rfl hl (by decide) rfl (fun ls hl => ?_)
  refine W.widen (k := 0) (n := 0) (Nat.le_of_ble_eq_true rfl) (Nat.le_of_ble_eq_true rfl) ?_
  have lp_2 : ∀ (fu : Nat) (i : Nat) (H : Heap) (locs : List Loc) (ls : Array Slot), (i + fu = td) → (∀ q, q < i → ¬ (f1 q = a ∧ f2 q = b)) → va_P D vwCl [(h0, .inr (2, [.ref q1, .ref q2, .ref q3, .int (nI td)])), (q1, .inl (cI, 20, .inl f1)), (q2, .inl (cI, 20, .inl f2)), (q3, .inl (cI, 20, .inl f3))] H → va_D (fun _ => True) [(h0, .inr (2, [.ref q1, .ref q2, .ref q3, .int (nI td)])), (q1, .inl (cI, 20, .inl f1)), (q2, .inl (cI, 20, .inl f2)), (q3, .inl (cI, 20, .inl f3))] → va_S A s.heap H locs → lv_has ls 4 [(3, .int (nI i)), (0, .ref h0), (1, .int a), (2, .int b)] → W p l e (headSpec w_FP_placeOf ({ frames := 0, cells := 0, slots := 0, locals := 0  } : Room)).room s m #[.ref h0, .int a, .int b] below meth c H locs 0 0 (xZ (σ := Int32) below #[.ref h0, .int a, .int b] s D vwCl [] s.heap.size ({ frames := 0, cells := 0, slots := 0, locals := 0  } : Room).cells ({ frames := 0, cells := 0, slots := 0, locals := 0  } : Room).slots (fun v => ((v = (-1) ∧ ∀ i, i < td → ¬ (f1 i = a ∧ f2 i = b)) ∨ ∃ i, i < td ∧ v = nI i ∧ f1 i = a ∧ f2 i = b)) (fun v => some (.int v)) (fun _ => [])) (F0 m 2 ls []) := by
    intro fu
    induction fu with
    | zero =>
      intro i H locs ls hi hno hP hD hS hl
      refine lv_iload_n hx hb d_FP_placeOf_2 rfl (lv_at hl 0 rfl) ?_
      refine lv_aload_n hx hb d_FP_placeOf_3 rfl (lv_at hl 1 rfl) ?_
      refine va_get (D := D) (a := h0) (fs := [.ref q1, .ref q2, .ref q3, .int (nI td)]) (ci := 2) (v := .int (nI td)) (C := R_FP) (T := T_FP) (N := 4) hx hb hU iw_FP hown hK hP 0 rfl rfl 3 (by decide) (hU _ uw_74) (fun _ h9 => h9) rfl d_FP_placeOf_4 ?_
      refine xw_icmp_ge (tgt := 38) hx hb d_FP_placeOf_7 (by decide) (by omega) (by omega) (fun c_7 => ?_) (fun c_7 => ?_)
      · refine lv_iconst (v := (-1)) hx hb d_FP_placeOf_38 (by decide +kernel) ?_
        have hP9 : va_P D vwCl [] _ := xs_P_nil (H := H)
        have hD9 : va_D A [] := xs_D_nil
        exact xw_iret (-1) hx hb hr hlocks d_FP_placeOf_39 (rfl) (by first | exact Or.inl ⟨rfl, fun q h => hno q (by omega)⟩ | exact Or.inr ⟨i, by omega, rfl, c_17, c_27⟩) hAe hP9 hD9 hS (Nat.le_of_ble_eq_true rfl) (Nat.le_of_ble_eq_true rfl)
      · exact (by omega : False).elim
    | succ fu ih =>
      intro i H locs ls hi hno hP hD hS hl
      refine lv_iload_n hx hb d_FP_placeOf_2 rfl (lv_at hl 0 rfl) ?_
      refine lv_aload_n hx hb d_FP_placeOf_3 rfl (lv_at hl 1 rfl) ?_
      refine va_get (D := D) (a := h0) (fs := [.ref q1, .ref q2, .ref q3, .int (nI td)]) (ci := 2) (v := .int (nI td)) (C := R_FP) (T := T_FP) (N := 4) hx hb hU iw_FP hown hK hP 0 rfl rfl 3 (by decide) (hU _ uw_74) (fun _ h9 => h9) rfl d_FP_placeOf_4 ?_
      refine xw_icmp_ge (tgt := 38) hx hb d_FP_placeOf_7 (by decide) (by omega) (by omega) (fun c_7 => ?_) (fun c_7 => ?_)
      · exact (by omega : False).elim
      · refine lv_aload_n hx hb d_FP_placeOf_10 rfl (lv_at hl 1 rfl) ?_
        refine va_get (D := D) (a := h0) (fs := [.ref q1, .ref q2, .ref q3, .int (nI td)]) (ci := 2) (v := .ref q1) (C := R_FP) (T := T_FP) (N := 4) hx hb hU iw_FP hown hK hP 0 rfl rfl 0 (by decide) (hU _ uw_71) (fun _ h9 => h9) rfl d_FP_placeOf_11 ?_
        refine lv_iload_n hx hb d_FP_placeOf_14 rfl (lv_at hl 0 rfl) ?_
        refine xw_ild hx hb hK hP 1 0 rfl rfl (by omega) (by decide) d_FP_placeOf_15 ?_
        refine lv_iload_n hx hb d_FP_placeOf_16 rfl (lv_at hl 2 rfl) ?_
        refine lv_icmp_ne (tgt := 32) hx hb d_FP_placeOf_17 (by decide) (fun c_17 => ?_) (fun c_17 => ?_)
        · refine lv_iinc (v := nI (i + 1)) (lv' := [(3, .int (nI (i + 1))), (0, .ref h0), (1, .int a), (2, .int b)]) hx hb d_FP_placeOf_32 hl (k := 0) rfl (xs_inc i 1) (by decide) rfl (fun ls hl => ?_)
          refine lv_goto (tgt := 2) hx hb d_FP_placeOf_35 (by decide) ?_
          exact ih (i + 1) _ _ _ (by omega) (fun q h => if h9 : q = i then by rw [h9]; first | exact fun z => c_17 z.1 | exact fun z => c_27 z.2 else hno q (by omega)) (xs_P_sub hP [0, 1, 2, 3] rfl) (hD.sub [0, 1, 2, 3] (by decide +kernel) rfl) hS (lv_sub hl [0, 1, 2, 3] rfl)
        · refine lv_aload_n hx hb d_FP_placeOf_20 rfl (lv_at hl 1 rfl) ?_
          refine va_get (D := D) (a := h0) (fs := [.ref q1, .ref q2, .ref q3, .int (nI td)]) (ci := 2) (v := .ref q2) (C := R_FP) (T := T_FP) (N := 4) hx hb hU iw_FP hown hK hP 0 rfl rfl 1 (by decide) (hU _ uw_72) (fun _ h9 => h9) rfl d_FP_placeOf_21 ?_
          refine lv_iload_n hx hb d_FP_placeOf_24 rfl (lv_at hl 0 rfl) ?_
          refine xw_ild hx hb hK hP 2 0 rfl rfl (by omega) (by decide) d_FP_placeOf_25 ?_
          refine lv_iload_n hx hb d_FP_placeOf_26 rfl (lv_at hl 3 rfl) ?_
          refine lv_icmp_ne (tgt := 32) hx hb d_FP_placeOf_27 (by decide) (fun c_27 => ?_) (fun c_27 => ?_)
          · refine lv_iinc (v := nI (i + 1)) (lv' := [(3, .int (nI (i + 1))), (0, .ref h0), (1, .int a), (2, .int b)]) hx hb d_FP_placeOf_32 hl (k := 0) rfl (xs_inc i 1) (by decide) rfl (fun ls hl => ?_)
            refine lv_goto (tgt := 2) hx hb d_FP_placeOf_35 (by decide) ?_
            exact ih (i + 1) _ _ _ (by omega) (fun q h => if h9 : q = i then by rw [h9]; first | exact fun z => c_17 z.1 | exact fun z => c_27 z.2 else hno q (by omega)) (xs_P_sub hP [0, 1, 2, 3] rfl) (hD.sub [0, 1, 2, 3] (by decide +kernel) rfl) hS (lv_sub hl [0, 1, 2, 3] rfl)
          · refine lv_iload_n hx hb d_FP_placeOf_30 rfl (lv_at hl 0 rfl) ?_
            have hP9 : va_P D vwCl [] _ := xs_P_nil (H := H)
            have hD9 : va_D A [] := xs_D_nil
            exact xw_iret (nI i) hx hb hr hlocks d_FP_placeOf_31 (rfl) (by first | exact Or.inl ⟨rfl, fun q h => hno q (by omega)⟩ | exact Or.inr ⟨i, by omega, rfl, c_17, c_27⟩) hAe hP9 hD9 hS (Nat.le_of_ble_eq_true rfl) (Nat.le_of_ble_eq_true rfl)
  exact lp_2 (td) 0 _ _ _ (by omega) (fun q h => absurd h (by omega)) hP hD hS (lv_sub hl [0, 1, 2, 3] rfl)
set_option maxHeartbeats 4000000 in
set_option maxRecDepth 100000 in
/-- takeBack -/
theorem n_FP_takeBack (l : Launch) (D : va_G) (cI cB cL cR : ClassId) (h0 : Nat) (q1 : Nat) (q2 : Nat) (q3 : Nat) (td : Nat) (f1 : Nat → Int32) (f2 : Nat → Int32) (f3 : Nat → Int32) (pl : Nat) (htd : td ≤ 20) (hpl : pl < td) : xG (σ := Nat × (Nat → Int32) × (Nat → Int32) × (Nat → Int32)) l y_FP_takeBack w_FP_takeBack ({ frames := 0, cells := 0, slots := 0, locals := 0  } : Room) D vwCl (xs_tys cI cB cL cR) [.ref h0, .int (nI pl)] [(h0, .inr (2, [.ref q1, .ref q2, .ref q3, .int (nI td)])), (q1, .inl (cI, 20, .inl f1)), (q2, .inl (cI, 20, .inl f2)), (q3, .inl (cI, 20, .inl f3))] (fun (td1, f4, f5, f6) => (td1 ≤ 20)) (fun (td1, f4, f5, f6) => none) (fun (td1, f4, f5, f6) => [(h0, .inr (2, [.ref q1, .ref q2, .ref q3, .int (nI td1)])), (q1, .inl (cI, 20, .inl f4)), (q2, .inl (cI, 20, .inl f5)), (q3, .inl (cI, 20, .inl f6))]) := by
  refine xG.of b_FP_takeBack 2 (none) (by decide +kernel) rfl (Nat.le_of_ble_eq_true rfl) ?_
  intro p e s m below meth c A ls hAe C0 hP hD hS hl
  obtain ⟨hx, hb, hr, hml, hown, hlocks, hts, hnm, hN, hK, hA⟩ := C0
  have hU : ∀ w ∈ xU, w.before #[.ref h0, .int (nI pl)] s = true := fun w h => hts w (List.mem_cons_of_mem _ h)
  have hl : lv_has ls 2 [(0, .ref h0), (1, .int (nI pl))] := hl
  refine lv_aload_n hx hb d_FP_takeBack_0 rfl (lv_at hl 0 rfl) ?_
  refine lv_dup hx hb d_FP_takeBack_1 rfl ?_
  refine va_get (D := D) (a := h0) (fs := [.ref q1, .ref q2, .ref q3, .int (nI td)]) (ci := 2) (v := .int (nI td)) (C := R_FP) (T := T_FP) (N := 4) hx hb hU iw_FP hown hK hP 0 rfl rfl 3 (by decide) (hU _ uw_74) (fun _ h9 => h9) rfl d_FP_takeBack_2 ?_
  refine lv_iconst (v := nI 1) hx hb d_FP_takeBack_5 (by decide +kernel) ?_
  refine lv_isub hx hb d_FP_takeBack_6 ?_
  refine xw_top (nI (td - 1)) (pk_sub (by omega)) ?_
  refine va_put (D := D) (ci := 2) (v := .int (nI (td - 1))) (ty := .int) (C := R_FP) (T := T_FP) (N := 4) hx hb hU iw_FP ty_FP ty_FP_ok nm_FP hown hK hP hD hS 0 rfl rfl 3 (by decide) (hU _ uw_74) (fun _ h9 => h9) rfl (by decide +kernel) (by first | rfl | decide +kernel) (by first | rfl | decide +kernel) (Nat.le_of_ble_eq_true rfl) d_FP_takeBack_7 (fun H locs hP hD hS => ?_)
  replace hP : va_P D vwCl [(h0, .inr (2, [.ref q1, .ref q2, .ref q3, .int (nI (td - 1))])), (q1, .inl (cI, 20, .inl f1)), (q2, .inl (cI, 20, .inl f2)), (q3, .inl (cI, 20, .inl f3))] H := hP
  replace hD : va_D A [(h0, .inr (2, [.ref q1, .ref q2, .ref q3, .int (nI (td - 1))])), (q1, .inl (cI, 20, .inl f1)), (q2, .inl (cI, 20, .inl f2)), (q3, .inl (cI, 20, .inl f3))] := hD
  refine lv_aload_n hx hb d_FP_takeBack_10 rfl (lv_at hl 0 rfl) ?_
  refine va_get (D := D) (a := h0) (fs := [.ref q1, .ref q2, .ref q3, .int (nI (td - 1))]) (ci := 2) (v := .ref q1) (C := R_FP) (T := T_FP) (N := 4) hx hb hU iw_FP hown hK hP 0 rfl rfl 0 (by decide) (hU _ uw_71) (fun _ h9 => h9) rfl d_FP_takeBack_11 ?_
  refine lv_iload_n hx hb d_FP_takeBack_14 rfl (lv_at hl 1 rfl) ?_
  refine lv_aload_n hx hb d_FP_takeBack_15 rfl (lv_at hl 0 rfl) ?_
  refine va_get (D := D) (a := h0) (fs := [.ref q1, .ref q2, .ref q3, .int (nI (td - 1))]) (ci := 2) (v := .ref q1) (C := R_FP) (T := T_FP) (N := 4) hx hb hU iw_FP hown hK hP 0 rfl rfl 0 (by decide) (hU _ uw_71) (fun _ h9 => h9) rfl d_FP_takeBack_16 ?_
  refine lv_aload_n hx hb d_FP_takeBack_19 rfl (lv_at hl 0 rfl) ?_
  refine va_get (D := D) (a := h0) (fs := [.ref q1, .ref q2, .ref q3, .int (nI (td - 1))]) (ci := 2) (v := .int (nI (td - 1))) (C := R_FP) (T := T_FP) (N := 4) hx hb hU iw_FP hown hK hP 0 rfl rfl 3 (by decide) (hU _ uw_74) (fun _ h9 => h9) rfl d_FP_takeBack_20 ?_
  refine xw_ild hx hb hK hP 1 0 rfl rfl (by omega) (by decide) d_FP_takeBack_23 ?_
  refine xw_ist hx hb hK hP hD hS 1 0 rfl rfl (by omega) (by decide) d_FP_takeBack_24 (fun H locs hP hD hS => ?_)
  replace hP : va_P D vwCl [(h0, .inr (2, [.ref q1, .ref q2, .ref q3, .int (nI (td - 1))])), (q1, .inl (cI, 20, .inl (upd f1 pl (f1 (td - 1))))), (q2, .inl (cI, 20, .inl f2)), (q3, .inl (cI, 20, .inl f3))] H := hP
  replace hD : va_D A [(h0, .inr (2, [.ref q1, .ref q2, .ref q3, .int (nI (td - 1))])), (q1, .inl (cI, 20, .inl (upd f1 pl (f1 (td - 1))))), (q2, .inl (cI, 20, .inl f2)), (q3, .inl (cI, 20, .inl f3))] := hD
  generalize upd f1 pl (f1 (td - 1)) = f_1 at hP hD
  replace hP : va_P D vwCl [(h0, .inr (2, [.ref q1, .ref q2, .ref q3, .int (nI (td - 1))])), (q1, .inl (cI, 20, .inl f_1)), (q2, .inl (cI, 20, .inl f2)), (q3, .inl (cI, 20, .inl f3))] H := hP
  replace hD : va_D A [(h0, .inr (2, [.ref q1, .ref q2, .ref q3, .int (nI (td - 1))])), (q1, .inl (cI, 20, .inl f_1)), (q2, .inl (cI, 20, .inl f2)), (q3, .inl (cI, 20, .inl f3))] := hD
  refine lv_aload_n hx hb d_FP_takeBack_25 rfl (lv_at hl 0 rfl) ?_
  refine va_get (D := D) (a := h0) (fs := [.ref q1, .ref q2, .ref q3, .int (nI (td - 1))]) (ci := 2) (v := .ref q2) (C := R_FP) (T := T_FP) (N := 4) hx hb hU iw_FP hown hK hP 0 rfl rfl 1 (by decide) (hU _ uw_72) (fun _ h9 => h9) rfl d_FP_takeBack_26 ?_
  refine lv_iload_n hx hb d_FP_takeBack_29 rfl (lv_at hl 1 rfl) ?_
  refine lv_aload_n hx hb d_FP_takeBack_30 rfl (lv_at hl 0 rfl) ?_
  refine va_get (D := D) (a := h0) (fs := [.ref q1, .ref q2, .ref q3, .int (nI (td - 1))]) (ci := 2) (v := .ref q2) (C := R_FP) (T := T_FP) (N := 4) hx hb hU iw_FP hown hK hP 0 rfl rfl 1 (by decide) (hU _ uw_72) (fun _ h9 => h9) rfl d_FP_takeBack_31 ?_
  refine lv_aload_n hx hb d_FP_takeBack_34 rfl (lv_at hl 0 rfl) ?_
  refine va_get (D := D) (a := h0) (fs := [.ref q1, .ref q2, .ref q3, .int (nI (td - 1))]) (ci := 2) (v := .int (nI (td - 1))) (C := R_FP) (T := T_FP) (N := 4) hx hb hU iw_FP hown hK hP 0 rfl rfl 3 (by decide) (hU _ uw_74) (fun _ h9 => h9) rfl d_FP_takeBack_35 ?_
  refine xw_ild hx hb hK hP 2 0 rfl rfl (by omega) (by decide) d_FP_takeBack_38 ?_
  refine xw_ist hx hb hK hP hD hS 2 0 rfl rfl (by omega) (by decide) d_FP_takeBack_39 (fun H locs hP hD hS => ?_)
  replace hP : va_P D vwCl [(h0, .inr (2, [.ref q1, .ref q2, .ref q3, .int (nI (td - 1))])), (q1, .inl (cI, 20, .inl f_1)), (q2, .inl (cI, 20, .inl (upd f2 pl (f2 (td - 1))))), (q3, .inl (cI, 20, .inl f3))] H := hP
  replace hD : va_D A [(h0, .inr (2, [.ref q1, .ref q2, .ref q3, .int (nI (td - 1))])), (q1, .inl (cI, 20, .inl f_1)), (q2, .inl (cI, 20, .inl (upd f2 pl (f2 (td - 1))))), (q3, .inl (cI, 20, .inl f3))] := hD
  generalize upd f2 pl (f2 (td - 1)) = f_2 at hP hD
  replace hP : va_P D vwCl [(h0, .inr (2, [.ref q1, .ref q2, .ref q3, .int (nI (td - 1))])), (q1, .inl (cI, 20, .inl f_1)), (q2, .inl (cI, 20, .inl f_2)), (q3, .inl (cI, 20, .inl f3))] H := hP
  replace hD : va_D A [(h0, .inr (2, [.ref q1, .ref q2, .ref q3, .int (nI (td - 1))])), (q1, .inl (cI, 20, .inl f_1)), (q2, .inl (cI, 20, .inl f_2)), (q3, .inl (cI, 20, .inl f3))] := hD
  refine lv_aload_n hx hb d_FP_takeBack_40 rfl (lv_at hl 0 rfl) ?_
  refine va_get (D := D) (a := h0) (fs := [.ref q1, .ref q2, .ref q3, .int (nI (td - 1))]) (ci := 2) (v := .ref q3) (C := R_FP) (T := T_FP) (N := 4) hx hb hU iw_FP hown hK hP 0 rfl rfl 2 (by decide) (hU _ uw_73) (fun _ h9 => h9) rfl d_FP_takeBack_41 ?_
  refine lv_iload_n hx hb d_FP_takeBack_44 rfl (lv_at hl 1 rfl) ?_
  refine lv_aload_n hx hb d_FP_takeBack_45 rfl (lv_at hl 0 rfl) ?_
  refine va_get (D := D) (a := h0) (fs := [.ref q1, .ref q2, .ref q3, .int (nI (td - 1))]) (ci := 2) (v := .ref q3) (C := R_FP) (T := T_FP) (N := 4) hx hb hU iw_FP hown hK hP 0 rfl rfl 2 (by decide) (hU _ uw_73) (fun _ h9 => h9) rfl d_FP_takeBack_46 ?_
  refine lv_aload_n hx hb d_FP_takeBack_49 rfl (lv_at hl 0 rfl) ?_
  refine va_get (D := D) (a := h0) (fs := [.ref q1, .ref q2, .ref q3, .int (nI (td - 1))]) (ci := 2) (v := .int (nI (td - 1))) (C := R_FP) (T := T_FP) (N := 4) hx hb hU iw_FP hown hK hP 0 rfl rfl 3 (by decide) (hU _ uw_74) (fun _ h9 => h9) rfl d_FP_takeBack_50 ?_
  refine xw_ild hx hb hK hP 3 0 rfl rfl (by omega) (by decide) d_FP_takeBack_53 ?_
  refine xw_ist hx hb hK hP hD hS 3 0 rfl rfl (by omega) (by decide) d_FP_takeBack_54 (fun H locs hP hD hS => ?_)
  replace hP : va_P D vwCl [(h0, .inr (2, [.ref q1, .ref q2, .ref q3, .int (nI (td - 1))])), (q1, .inl (cI, 20, .inl f_1)), (q2, .inl (cI, 20, .inl f_2)), (q3, .inl (cI, 20, .inl (upd f3 pl (f3 (td - 1)))))] H := hP
  replace hD : va_D A [(h0, .inr (2, [.ref q1, .ref q2, .ref q3, .int (nI (td - 1))])), (q1, .inl (cI, 20, .inl f_1)), (q2, .inl (cI, 20, .inl f_2)), (q3, .inl (cI, 20, .inl (upd f3 pl (f3 (td - 1)))))] := hD
  generalize upd f3 pl (f3 (td - 1)) = f_3 at hP hD
  replace hP : va_P D vwCl [(h0, .inr (2, [.ref q1, .ref q2, .ref q3, .int (nI (td - 1))])), (q1, .inl (cI, 20, .inl f_1)), (q2, .inl (cI, 20, .inl f_2)), (q3, .inl (cI, 20, .inl f_3))] H := hP
  replace hD : va_D A [(h0, .inr (2, [.ref q1, .ref q2, .ref q3, .int (nI (td - 1))])), (q1, .inl (cI, 20, .inl f_1)), (q2, .inl (cI, 20, .inl f_2)), (q3, .inl (cI, 20, .inl f_3))] := hD
  have hP9 := xs_P_sub (w := [(h0, .inr (2, [.ref q1, .ref q2, .ref q3, .int (nI (td - 1))])), (q1, .inl (cI, 20, .inl f_1)), (q2, .inl (cI, 20, .inl f_2)), (q3, .inl (cI, 20, .inl f_3))]) hP [0, 1, 2, 3] rfl
  have hD9 := hD.sub (ws' := [(h0, .inr (2, [.ref q1, .ref q2, .ref q3, .int (nI (td - 1))])), (q1, .inl (cI, 20, .inl f_1)), (q2, .inl (cI, 20, .inl f_2)), (q3, .inl (cI, 20, .inl f_3))]) [0, 1, 2, 3] (by decide +kernel) rfl
  exact xw_vret (td - 1, f_1, f_2, f_3) hx hb hr hlocks d_FP_takeBack_55 (rfl) (by omega) hAe hP9 hD9 hS (Nat.le_of_ble_eq_true rfl) (Nat.le_of_ble_eq_true rfl)
set_option maxHeartbeats 4000000 in
set_option maxRecDepth 100000 in
/-- tell -/
theorem n_FP_tell (l : Launch) (D : va_G) (cI cB cL cR : ClassId) (h0 : Nat) (q1 : Nat) (q2 : Nat) (q3 : Nat) (td : Nat) (f1 : Nat → Int32) (f2 : Nat → Int32) (f3 : Nat → Int32) (a : Int32) (b : Int32) (c9 : Int32) (htd : td ≤ 20) : xG (σ := Nat × (Nat → Int32) × (Nat → Int32) × (Nat → Int32)) l y_FP_tell w_FP_tell ({ frames := 1, cells := 0, slots := 0, locals := 23  } : Room) D vwCl (xs_tys cI cB cL cR) [.ref h0, .int a, .int b, .int c9] [(h0, .inr (2, [.ref q1, .ref q2, .ref q3, .int (nI td)])), (q1, .inl (cI, 20, .inl f1)), (q2, .inl (cI, 20, .inl f2)), (q3, .inl (cI, 20, .inl f3))] (fun (td1, f4, f5, f6) => (td1 ≤ 20)) (fun (td1, f4, f5, f6) => none) (fun (td1, f4, f5, f6) => [(h0, .inr (2, [.ref q1, .ref q2, .ref q3, .int (nI td1)])), (q1, .inl (cI, 20, .inl f4)), (q2, .inl (cI, 20, .inl f5)), (q3, .inl (cI, 20, .inl f6))]) := by
  refine xG.of b_FP_tell 5 (none) (by decide +kernel) rfl (Nat.le_of_ble_eq_true rfl) ?_
  intro p e s m below meth c A ls hAe C0 hP hD hS hl
  obtain ⟨hx, hb, hr, hml, hown, hlocks, hts, hnm, hN, hK, hA⟩ := C0
  have hU : ∀ w ∈ xU, w.before #[.ref h0, .int a, .int b, .int c9] s = true := fun w h => hts w (List.mem_cons_of_mem _ h)
  have hl : lv_has ls 5 [(0, .ref h0), (1, .int a), (2, .int b), (3, .int c9)] := hl
  refine lv_aload_n hx hb d_FP_tell_0 rfl (lv_at hl 0 rfl) ?_
  refine lv_iload_n hx hb d_FP_tell_1 rfl (lv_at hl 1 rfl) ?_
  refine lv_iload_n hx hb d_FP_tell_2 rfl (lv_at hl 2 rfl) ?_
  refine xw_callR (C := R_FP) [.int a, .int b] (n_FP_placeOf l D cI cB cL cR h0 q1 q2 q3 td f1 f2 f3 a b (by omega)) ⟨hx, hb, hml, hown, hU⟩ (cwV 2 hU (xs_goodV uw_502 uw_494 uw_495 uw_5 uw_496) rfl rfl rfl (by decide +kernel) ⟨Nat.le_of_ble_eq_true rfl, Nat.le_of_ble_eq_true rfl⟩) 0 rfl rfl rfl rfl hl.1 rfl (Nat.le_of_ble_eq_true rfl) d_FP_tell_3 ⟨Nat.le_of_ble_eq_true rfl, Nat.le_of_ble_eq_true rfl⟩ [0, 1, 2, 3] rfl (by decide +kernel) hN hK hP hD hS hA (fun u H locs hf hP hS => ?_)
  obtain ⟨v_1, rfl⟩ : ∃ z, z = u := ⟨_, rfl⟩
  have hf_3 : ((v_1 = (-1) ∧ ∀ i, i < td → ¬ (f1 i = a ∧ f2 i = b)) ∨ ∃ i, i < td ∧ v_1 = nI i ∧ f1 i = a ∧ f2 i = b) := hf
  have hv_2 := hf_3
  replace hP : va_P D vwCl [(h0, .inr (2, [.ref q1, .ref q2, .ref q3, .int (nI td)])), (q1, .inl (cI, 20, .inl f1)), (q2, .inl (cI, 20, .inl f2)), (q3, .inl (cI, 20, .inl f3))] H := hP
  replace hD : va_D A [(h0, .inr (2, [.ref q1, .ref q2, .ref q3, .int (nI td)])), (q1, .inl (cI, 20, .inl f1)), (q2, .inl (cI, 20, .inl f2)), (q3, .inl (cI, 20, .inl f3))] := hD
  refine W.widen (k := 0) (n := 0) (Nat.le_of_ble_eq_true rfl) (Nat.le_of_ble_eq_true rfl) ?_
  refine W.eq (g2 := F0 m 6 ls [.int v_1]) rfl ?_
  rcases hv_2 with ⟨rfl, -⟩ | ⟨i, hi9, rfl, -⟩
  · refine lv_istore (lv' := [(4, .int (-1)), (0, .ref h0), (1, .int a), (2, .int b), (3, .int c9)]) hx hb d_FP_tell_6 hl (by decide) rfl (fun ls hl => ?_)
    refine lv_iload hx hb d_FP_tell_8 (lv_at hl 0 rfl) ?_
    refine lv_iconst (v := (-1)) hx hb d_FP_tell_10 (by decide +kernel) ?_
    refine lv_icmp_eq (tgt := 27) hx hb d_FP_tell_11 (by decide) (fun c_11 => ?_) (fun c_11 => ?_)
    · refine lv_iload hx hb d_FP_tell_27 (lv_at hl 0 rfl) ?_
      refine lv_iconst (v := (-1)) hx hb d_FP_tell_29 (by decide +kernel) ?_
      refine lv_icmp_eq (tgt := 44) hx hb d_FP_tell_30 (by decide) (fun c_30 => ?_) (fun c_30 => ?_)
      · refine lv_iload_n hx hb d_FP_tell_44 rfl (lv_at hl 4 rfl) ?_
        refine lv_if_eq (tgt := 97) hx hb d_FP_tell_45 (by decide) (fun c_45 => ?_) (fun c_45 => ?_)
        · have hP9 := xs_P_sub (w := [(h0, .inr (2, [.ref q1, .ref q2, .ref q3, .int (nI td)])), (q1, .inl (cI, 20, .inl f1)), (q2, .inl (cI, 20, .inl f2)), (q3, .inl (cI, 20, .inl f3))]) hP [0, 1, 2, 3] rfl
          have hD9 := hD.sub (ws' := [(h0, .inr (2, [.ref q1, .ref q2, .ref q3, .int (nI td)])), (q1, .inl (cI, 20, .inl f1)), (q2, .inl (cI, 20, .inl f2)), (q3, .inl (cI, 20, .inl f3))]) [0, 1, 2, 3] (by decide +kernel) rfl
          exact xw_vret (td, f1, f2, f3) hx hb hr hlocks d_FP_tell_97 (rfl) (by omega) hAe hP9 hD9 hS (Nat.le_of_ble_eq_true rfl) (Nat.le_of_ble_eq_true rfl)
        · refine lv_aload_n hx hb d_FP_tell_48 rfl (lv_at hl 1 rfl) ?_
          refine va_get (D := D) (a := h0) (fs := [.ref q1, .ref q2, .ref q3, .int (nI td)]) (ci := 2) (v := .int (nI td)) (C := R_FP) (T := T_FP) (N := 4) hx hb hU iw_FP hown hK hP 0 rfl rfl 3 (by decide) (hU _ uw_74) (fun _ h9 => h9) rfl d_FP_tell_49 ?_
          refine lv_bipush (v := nI 20) hx hb d_FP_tell_52 (by decide +kernel) ?_
          refine xw_icmp_ge (tgt := 97) hx hb d_FP_tell_54 (by decide) (by omega) (by omega) (fun c_54 => ?_) (fun c_54 => ?_)
          · have hP9 := xs_P_sub (w := [(h0, .inr (2, [.ref q1, .ref q2, .ref q3, .int (nI td)])), (q1, .inl (cI, 20, .inl f1)), (q2, .inl (cI, 20, .inl f2)), (q3, .inl (cI, 20, .inl f3))]) hP [0, 1, 2, 3] rfl
            have hD9 := hD.sub (ws' := [(h0, .inr (2, [.ref q1, .ref q2, .ref q3, .int (nI td)])), (q1, .inl (cI, 20, .inl f1)), (q2, .inl (cI, 20, .inl f2)), (q3, .inl (cI, 20, .inl f3))]) [0, 1, 2, 3] (by decide +kernel) rfl
            exact xw_vret (td, f1, f2, f3) hx hb hr hlocks d_FP_tell_97 (rfl) (by omega) hAe hP9 hD9 hS (Nat.le_of_ble_eq_true rfl) (Nat.le_of_ble_eq_true rfl)
          · refine lv_aload_n hx hb d_FP_tell_57 rfl (lv_at hl 1 rfl) ?_
            refine va_get (D := D) (a := h0) (fs := [.ref q1, .ref q2, .ref q3, .int (nI td)]) (ci := 2) (v := .ref q1) (C := R_FP) (T := T_FP) (N := 4) hx hb hU iw_FP hown hK hP 0 rfl rfl 0 (by decide) (hU _ uw_71) (fun _ h9 => h9) rfl d_FP_tell_58 ?_
            refine lv_aload_n hx hb d_FP_tell_61 rfl (lv_at hl 1 rfl) ?_
            refine va_get (D := D) (a := h0) (fs := [.ref q1, .ref q2, .ref q3, .int (nI td)]) (ci := 2) (v := .int (nI td)) (C := R_FP) (T := T_FP) (N := 4) hx hb hU iw_FP hown hK hP 0 rfl rfl 3 (by decide) (hU _ uw_74) (fun _ h9 => h9) rfl d_FP_tell_62 ?_
            refine lv_iload_n hx hb d_FP_tell_65 rfl (lv_at hl 2 rfl) ?_
            refine xw_ist hx hb hK hP hD hS 1 0 rfl rfl (by omega) (by decide) d_FP_tell_66 (fun H locs hP hD hS => ?_)
            replace hP : va_P D vwCl [(h0, .inr (2, [.ref q1, .ref q2, .ref q3, .int (nI td)])), (q1, .inl (cI, 20, .inl (upd f1 td a))), (q2, .inl (cI, 20, .inl f2)), (q3, .inl (cI, 20, .inl f3))] H := hP
            replace hD : va_D A [(h0, .inr (2, [.ref q1, .ref q2, .ref q3, .int (nI td)])), (q1, .inl (cI, 20, .inl (upd f1 td a))), (q2, .inl (cI, 20, .inl f2)), (q3, .inl (cI, 20, .inl f3))] := hD
            generalize upd f1 td a = f_3 at hP hD
            replace hP : va_P D vwCl [(h0, .inr (2, [.ref q1, .ref q2, .ref q3, .int (nI td)])), (q1, .inl (cI, 20, .inl f_3)), (q2, .inl (cI, 20, .inl f2)), (q3, .inl (cI, 20, .inl f3))] H := hP
            replace hD : va_D A [(h0, .inr (2, [.ref q1, .ref q2, .ref q3, .int (nI td)])), (q1, .inl (cI, 20, .inl f_3)), (q2, .inl (cI, 20, .inl f2)), (q3, .inl (cI, 20, .inl f3))] := hD
            refine lv_aload_n hx hb d_FP_tell_67 rfl (lv_at hl 1 rfl) ?_
            refine va_get (D := D) (a := h0) (fs := [.ref q1, .ref q2, .ref q3, .int (nI td)]) (ci := 2) (v := .ref q2) (C := R_FP) (T := T_FP) (N := 4) hx hb hU iw_FP hown hK hP 0 rfl rfl 1 (by decide) (hU _ uw_72) (fun _ h9 => h9) rfl d_FP_tell_68 ?_
            refine lv_aload_n hx hb d_FP_tell_71 rfl (lv_at hl 1 rfl) ?_
            refine va_get (D := D) (a := h0) (fs := [.ref q1, .ref q2, .ref q3, .int (nI td)]) (ci := 2) (v := .int (nI td)) (C := R_FP) (T := T_FP) (N := 4) hx hb hU iw_FP hown hK hP 0 rfl rfl 3 (by decide) (hU _ uw_74) (fun _ h9 => h9) rfl d_FP_tell_72 ?_
            refine lv_iload_n hx hb d_FP_tell_75 rfl (lv_at hl 3 rfl) ?_
            refine xw_ist hx hb hK hP hD hS 2 0 rfl rfl (by omega) (by decide) d_FP_tell_76 (fun H locs hP hD hS => ?_)
            replace hP : va_P D vwCl [(h0, .inr (2, [.ref q1, .ref q2, .ref q3, .int (nI td)])), (q1, .inl (cI, 20, .inl f_3)), (q2, .inl (cI, 20, .inl (upd f2 td b))), (q3, .inl (cI, 20, .inl f3))] H := hP
            replace hD : va_D A [(h0, .inr (2, [.ref q1, .ref q2, .ref q3, .int (nI td)])), (q1, .inl (cI, 20, .inl f_3)), (q2, .inl (cI, 20, .inl (upd f2 td b))), (q3, .inl (cI, 20, .inl f3))] := hD
            generalize upd f2 td b = f_4 at hP hD
            replace hP : va_P D vwCl [(h0, .inr (2, [.ref q1, .ref q2, .ref q3, .int (nI td)])), (q1, .inl (cI, 20, .inl f_3)), (q2, .inl (cI, 20, .inl f_4)), (q3, .inl (cI, 20, .inl f3))] H := hP
            replace hD : va_D A [(h0, .inr (2, [.ref q1, .ref q2, .ref q3, .int (nI td)])), (q1, .inl (cI, 20, .inl f_3)), (q2, .inl (cI, 20, .inl f_4)), (q3, .inl (cI, 20, .inl f3))] := hD
            refine lv_aload_n hx hb d_FP_tell_77 rfl (lv_at hl 1 rfl) ?_
            refine va_get (D := D) (a := h0) (fs := [.ref q1, .ref q2, .ref q3, .int (nI td)]) (ci := 2) (v := .ref q3) (C := R_FP) (T := T_FP) (N := 4) hx hb hU iw_FP hown hK hP 0 rfl rfl 2 (by decide) (hU _ uw_73) (fun _ h9 => h9) rfl d_FP_tell_78 ?_
            refine lv_aload_n hx hb d_FP_tell_81 rfl (lv_at hl 1 rfl) ?_
            refine va_get (D := D) (a := h0) (fs := [.ref q1, .ref q2, .ref q3, .int (nI td)]) (ci := 2) (v := .int (nI td)) (C := R_FP) (T := T_FP) (N := 4) hx hb hU iw_FP hown hK hP 0 rfl rfl 3 (by decide) (hU _ uw_74) (fun _ h9 => h9) rfl d_FP_tell_82 ?_
            refine lv_iload_n hx hb d_FP_tell_85 rfl (lv_at hl 4 rfl) ?_
            refine xw_ist hx hb hK hP hD hS 3 0 rfl rfl (by omega) (by decide) d_FP_tell_86 (fun H locs hP hD hS => ?_)
            replace hP : va_P D vwCl [(h0, .inr (2, [.ref q1, .ref q2, .ref q3, .int (nI td)])), (q1, .inl (cI, 20, .inl f_3)), (q2, .inl (cI, 20, .inl f_4)), (q3, .inl (cI, 20, .inl (upd f3 td c9)))] H := hP
            replace hD : va_D A [(h0, .inr (2, [.ref q1, .ref q2, .ref q3, .int (nI td)])), (q1, .inl (cI, 20, .inl f_3)), (q2, .inl (cI, 20, .inl f_4)), (q3, .inl (cI, 20, .inl (upd f3 td c9)))] := hD
            generalize upd f3 td c9 = f_5 at hP hD
            replace hP : va_P D vwCl [(h0, .inr (2, [.ref q1, .ref q2, .ref q3, .int (nI td)])), (q1, .inl (cI, 20, .inl f_3)), (q2, .inl (cI, 20, .inl f_4)), (q3, .inl (cI, 20, .inl f_5))] H := hP
            replace hD : va_D A [(h0, .inr (2, [.ref q1, .ref q2, .ref q3, .int (nI td)])), (q1, .inl (cI, 20, .inl f_3)), (q2, .inl (cI, 20, .inl f_4)), (q3, .inl (cI, 20, .inl f_5))] := hD
            refine lv_aload_n hx hb d_FP_tell_87 rfl (lv_at hl 1 rfl) ?_
            refine lv_dup hx hb d_FP_tell_88 rfl ?_
            refine va_get (D := D) (a := h0) (fs := [.ref q1, .ref q2, .ref q3, .int (nI td)]) (ci := 2) (v := .int (nI td)) (C := R_FP) (T := T_FP) (N := 4) hx hb hU iw_FP hown hK hP 0 rfl rfl 3 (by decide) (hU _ uw_74) (fun _ h9 => h9) rfl d_FP_tell_89 ?_
            refine lv_iconst (v := nI 1) hx hb d_FP_tell_92 (by decide +kernel) ?_
            refine lv_iadd hx hb d_FP_tell_93 ?_
            refine xw_top (nI (td + 1)) (nI_add _ _) ?_
            refine va_put (D := D) (ci := 2) (v := .int (nI (td + 1))) (ty := .int) (C := R_FP) (T := T_FP) (N := 4) hx hb hU iw_FP ty_FP ty_FP_ok nm_FP hown hK hP hD hS 0 rfl rfl 3 (by decide) (hU _ uw_74) (fun _ h9 => h9) rfl (by decide +kernel) (by first | rfl | decide +kernel) (by first | rfl | decide +kernel) (Nat.le_of_ble_eq_true rfl) d_FP_tell_94 (fun H locs hP hD hS => ?_)
            replace hP : va_P D vwCl [(h0, .inr (2, [.ref q1, .ref q2, .ref q3, .int (nI (td + 1))])), (q1, .inl (cI, 20, .inl f_3)), (q2, .inl (cI, 20, .inl f_4)), (q3, .inl (cI, 20, .inl f_5))] H := hP
            replace hD : va_D A [(h0, .inr (2, [.ref q1, .ref q2, .ref q3, .int (nI (td + 1))])), (q1, .inl (cI, 20, .inl f_3)), (q2, .inl (cI, 20, .inl f_4)), (q3, .inl (cI, 20, .inl f_5))] := hD
            have hP9 := xs_P_sub (w := [(h0, .inr (2, [.ref q1, .ref q2, .ref q3, .int (nI (td + 1))])), (q1, .inl (cI, 20, .inl f_3)), (q2, .inl (cI, 20, .inl f_4)), (q3, .inl (cI, 20, .inl f_5))]) hP [0, 1, 2, 3] rfl
            have hD9 := hD.sub (ws' := [(h0, .inr (2, [.ref q1, .ref q2, .ref q3, .int (nI (td + 1))])), (q1, .inl (cI, 20, .inl f_3)), (q2, .inl (cI, 20, .inl f_4)), (q3, .inl (cI, 20, .inl f_5))]) [0, 1, 2, 3] (by decide +kernel) rfl
            exact xw_vret (td + 1, f_3, f_4, f_5) hx hb hr hlocks d_FP_tell_97 (rfl) (by omega) hAe hP9 hD9 hS (Nat.le_of_ble_eq_true rfl) (Nat.le_of_ble_eq_true rfl)
      · exact absurd c_30 (by decide +kernel)
    · exact absurd c_11 (by decide +kernel)
  · refine lv_istore (lv' := [(4, .int (nI i)), (0, .ref h0), (1, .int a), (2, .int b), (3, .int c9)]) hx hb d_FP_tell_6 hl (by decide) rfl (fun ls hl => ?_)
    refine lv_iload hx hb d_FP_tell_8 (lv_at hl 0 rfl) ?_
    refine lv_iconst (v := (-1)) hx hb d_FP_tell_10 (by decide +kernel) ?_
    refine lv_icmp_eq (tgt := 27) hx hb d_FP_tell_11 (by decide) (fun c_11 => ?_) (fun c_11 => ?_)
    · refine lv_iload hx hb d_FP_tell_27 (lv_at hl 0 rfl) ?_
      refine lv_iconst (v := (-1)) hx hb d_FP_tell_29 (by decide +kernel) ?_
      refine lv_icmp_eq (tgt := 44) hx hb d_FP_tell_30 (by decide) (fun c_30 => ?_) (fun c_30 => ?_)
      · refine lv_iload_n hx hb d_FP_tell_44 rfl (lv_at hl 4 rfl) ?_
        refine lv_if_eq (tgt := 97) hx hb d_FP_tell_45 (by decide) (fun c_45 => ?_) (fun c_45 => ?_)
        · have hP9 := xs_P_sub (w := [(h0, .inr (2, [.ref q1, .ref q2, .ref q3, .int (nI td)])), (q1, .inl (cI, 20, .inl f1)), (q2, .inl (cI, 20, .inl f2)), (q3, .inl (cI, 20, .inl f3))]) hP [0, 1, 2, 3] rfl
          have hD9 := hD.sub (ws' := [(h0, .inr (2, [.ref q1, .ref q2, .ref q3, .int (nI td)])), (q1, .inl (cI, 20, .inl f1)), (q2, .inl (cI, 20, .inl f2)), (q3, .inl (cI, 20, .inl f3))]) [0, 1, 2, 3] (by decide +kernel) rfl
          exact xw_vret (td, f1, f2, f3) hx hb hr hlocks d_FP_tell_97 (rfl) (by omega) hAe hP9 hD9 hS (Nat.le_of_ble_eq_true rfl) (Nat.le_of_ble_eq_true rfl)
        · refine lv_aload_n hx hb d_FP_tell_48 rfl (lv_at hl 1 rfl) ?_
          refine va_get (D := D) (a := h0) (fs := [.ref q1, .ref q2, .ref q3, .int (nI td)]) (ci := 2) (v := .int (nI td)) (C := R_FP) (T := T_FP) (N := 4) hx hb hU iw_FP hown hK hP 0 rfl rfl 3 (by decide) (hU _ uw_74) (fun _ h9 => h9) rfl d_FP_tell_49 ?_
          refine lv_bipush (v := nI 20) hx hb d_FP_tell_52 (by decide +kernel) ?_
          refine xw_icmp_ge (tgt := 97) hx hb d_FP_tell_54 (by decide) (by omega) (by omega) (fun c_54 => ?_) (fun c_54 => ?_)
          · have hP9 := xs_P_sub (w := [(h0, .inr (2, [.ref q1, .ref q2, .ref q3, .int (nI td)])), (q1, .inl (cI, 20, .inl f1)), (q2, .inl (cI, 20, .inl f2)), (q3, .inl (cI, 20, .inl f3))]) hP [0, 1, 2, 3] rfl
            have hD9 := hD.sub (ws' := [(h0, .inr (2, [.ref q1, .ref q2, .ref q3, .int (nI td)])), (q1, .inl (cI, 20, .inl f1)), (q2, .inl (cI, 20, .inl f2)), (q3, .inl (cI, 20, .inl f3))]) [0, 1, 2, 3] (by decide +kernel) rfl
            exact xw_vret (td, f1, f2, f3) hx hb hr hlocks d_FP_tell_97 (rfl) (by omega) hAe hP9 hD9 hS (Nat.le_of_ble_eq_true rfl) (Nat.le_of_ble_eq_true rfl)
          · refine lv_aload_n hx hb d_FP_tell_57 rfl (lv_at hl 1 rfl) ?_
            refine va_get (D := D) (a := h0) (fs := [.ref q1, .ref q2, .ref q3, .int (nI td)]) (ci := 2) (v := .ref q1) (C := R_FP) (T := T_FP) (N := 4) hx hb hU iw_FP hown hK hP 0 rfl rfl 0 (by decide) (hU _ uw_71) (fun _ h9 => h9) rfl d_FP_tell_58 ?_
            refine lv_aload_n hx hb d_FP_tell_61 rfl (lv_at hl 1 rfl) ?_
            refine va_get (D := D) (a := h0) (fs := [.ref q1, .ref q2, .ref q3, .int (nI td)]) (ci := 2) (v := .int (nI td)) (C := R_FP) (T := T_FP) (N := 4) hx hb hU iw_FP hown hK hP 0 rfl rfl 3 (by decide) (hU _ uw_74) (fun _ h9 => h9) rfl d_FP_tell_62 ?_
            refine lv_iload_n hx hb d_FP_tell_65 rfl (lv_at hl 2 rfl) ?_
            refine xw_ist hx hb hK hP hD hS 1 0 rfl rfl (by omega) (by decide) d_FP_tell_66 (fun H locs hP hD hS => ?_)
            replace hP : va_P D vwCl [(h0, .inr (2, [.ref q1, .ref q2, .ref q3, .int (nI td)])), (q1, .inl (cI, 20, .inl (upd f1 td a))), (q2, .inl (cI, 20, .inl f2)), (q3, .inl (cI, 20, .inl f3))] H := hP
            replace hD : va_D A [(h0, .inr (2, [.ref q1, .ref q2, .ref q3, .int (nI td)])), (q1, .inl (cI, 20, .inl (upd f1 td a))), (q2, .inl (cI, 20, .inl f2)), (q3, .inl (cI, 20, .inl f3))] := hD
            generalize upd f1 td a = f_6 at hP hD
            replace hP : va_P D vwCl [(h0, .inr (2, [.ref q1, .ref q2, .ref q3, .int (nI td)])), (q1, .inl (cI, 20, .inl f_6)), (q2, .inl (cI, 20, .inl f2)), (q3, .inl (cI, 20, .inl f3))] H := hP
            replace hD : va_D A [(h0, .inr (2, [.ref q1, .ref q2, .ref q3, .int (nI td)])), (q1, .inl (cI, 20, .inl f_6)), (q2, .inl (cI, 20, .inl f2)), (q3, .inl (cI, 20, .inl f3))] := hD
            refine lv_aload_n hx hb d_FP_tell_67 rfl (lv_at hl 1 rfl) ?_
            refine va_get (D := D) (a := h0) (fs := [.ref q1, .ref q2, .ref q3, .int (nI td)]) (ci := 2) (v := .ref q2) (C := R_FP) (T := T_FP) (N := 4) hx hb hU iw_FP hown hK hP 0 rfl rfl 1 (by decide) (hU _ uw_72) (fun _ h9 => h9) rfl d_FP_tell_68 ?_
            refine lv_aload_n hx hb d_FP_tell_71 rfl (lv_at hl 1 rfl) ?_
            refine va_get (D := D) (a := h0) (fs := [.ref q1, .ref q2, .ref q3, .int (nI td)]) (ci := 2) (v := .int (nI td)) (C := R_FP) (T := T_FP) (N := 4) hx hb hU iw_FP hown hK hP 0 rfl rfl 3 (by decide) (hU _ uw_74) (fun _ h9 => h9) rfl d_FP_tell_72 ?_
            refine lv_iload_n hx hb d_FP_tell_75 rfl (lv_at hl 3 rfl) ?_
            refine xw_ist hx hb hK hP hD hS 2 0 rfl rfl (by omega) (by decide) d_FP_tell_76 (fun H locs hP hD hS => ?_)
            replace hP : va_P D vwCl [(h0, .inr (2, [.ref q1, .ref q2, .ref q3, .int (nI td)])), (q1, .inl (cI, 20, .inl f_6)), (q2, .inl (cI, 20, .inl (upd f2 td b))), (q3, .inl (cI, 20, .inl f3))] H := hP
            replace hD : va_D A [(h0, .inr (2, [.ref q1, .ref q2, .ref q3, .int (nI td)])), (q1, .inl (cI, 20, .inl f_6)), (q2, .inl (cI, 20, .inl (upd f2 td b))), (q3, .inl (cI, 20, .inl f3))] := hD
            generalize upd f2 td b = f_7 at hP hD
            replace hP : va_P D vwCl [(h0, .inr (2, [.ref q1, .ref q2, .ref q3, .int (nI td)])), (q1, .inl (cI, 20, .inl f_6)), (q2, .inl (cI, 20, .inl f_7)), (q3, .inl (cI, 20, .inl f3))] H := hP
            replace hD : va_D A [(h0, .inr (2, [.ref q1, .ref q2, .ref q3, .int (nI td)])), (q1, .inl (cI, 20, .inl f_6)), (q2, .inl (cI, 20, .inl f_7)), (q3, .inl (cI, 20, .inl f3))] := hD
            refine lv_aload_n hx hb d_FP_tell_77 rfl (lv_at hl 1 rfl) ?_
            refine va_get (D := D) (a := h0) (fs := [.ref q1, .ref q2, .ref q3, .int (nI td)]) (ci := 2) (v := .ref q3) (C := R_FP) (T := T_FP) (N := 4) hx hb hU iw_FP hown hK hP 0 rfl rfl 2 (by decide) (hU _ uw_73) (fun _ h9 => h9) rfl d_FP_tell_78 ?_
            refine lv_aload_n hx hb d_FP_tell_81 rfl (lv_at hl 1 rfl) ?_
            refine va_get (D := D) (a := h0) (fs := [.ref q1, .ref q2, .ref q3, .int (nI td)]) (ci := 2) (v := .int (nI td)) (C := R_FP) (T := T_FP) (N := 4) hx hb hU iw_FP hown hK hP 0 rfl rfl 3 (by decide) (hU _ uw_74) (fun _ h9 => h9) rfl d_FP_tell_82 ?_
            refine lv_iload_n hx hb d_FP_tell_85 rfl (lv_at hl 4 rfl) ?_
            refine xw_ist hx hb hK hP hD hS 3 0 rfl rfl (by omega) (by decide) d_FP_tell_86 (fun H locs hP hD hS => ?_)
            replace hP : va_P D vwCl [(h0, .inr (2, [.ref q1, .ref q2, .ref q3, .int (nI td)])), (q1, .inl (cI, 20, .inl f_6)), (q2, .inl (cI, 20, .inl f_7)), (q3, .inl (cI, 20, .inl (upd f3 td c9)))] H := hP
            replace hD : va_D A [(h0, .inr (2, [.ref q1, .ref q2, .ref q3, .int (nI td)])), (q1, .inl (cI, 20, .inl f_6)), (q2, .inl (cI, 20, .inl f_7)), (q3, .inl (cI, 20, .inl (upd f3 td c9)))] := hD
            generalize upd f3 td c9 = f_8 at hP hD
            replace hP : va_P D vwCl [(h0, .inr (2, [.ref q1, .ref q2, .ref q3, .int (nI td)])), (q1, .inl (cI, 20, .inl f_6)), (q2, .inl (cI, 20, .inl f_7)), (q3, .inl (cI, 20, .inl f_8))] H := hP
            replace hD : va_D A [(h0, .inr (2, [.ref q1, .ref q2, .ref q3, .int (nI td)])), (q1, .inl (cI, 20, .inl f_6)), (q2, .inl (cI, 20, .inl f_7)), (q3, .inl (cI, 20, .inl f_8))] := hD
            refine lv_aload_n hx hb d_FP_tell_87 rfl (lv_at hl 1 rfl) ?_
            refine lv_dup hx hb d_FP_tell_88 rfl ?_
            refine va_get (D := D) (a := h0) (fs := [.ref q1, .ref q2, .ref q3, .int (nI td)]) (ci := 2) (v := .int (nI td)) (C := R_FP) (T := T_FP) (N := 4) hx hb hU iw_FP hown hK hP 0 rfl rfl 3 (by decide) (hU _ uw_74) (fun _ h9 => h9) rfl d_FP_tell_89 ?_
            refine lv_iconst (v := nI 1) hx hb d_FP_tell_92 (by decide +kernel) ?_
            refine lv_iadd hx hb d_FP_tell_93 ?_
            refine xw_top (nI (td + 1)) (nI_add _ _) ?_
            refine va_put (D := D) (ci := 2) (v := .int (nI (td + 1))) (ty := .int) (C := R_FP) (T := T_FP) (N := 4) hx hb hU iw_FP ty_FP ty_FP_ok nm_FP hown hK hP hD hS 0 rfl rfl 3 (by decide) (hU _ uw_74) (fun _ h9 => h9) rfl (by decide +kernel) (by first | rfl | decide +kernel) (by first | rfl | decide +kernel) (Nat.le_of_ble_eq_true rfl) d_FP_tell_94 (fun H locs hP hD hS => ?_)
            replace hP : va_P D vwCl [(h0, .inr (2, [.ref q1, .ref q2, .ref q3, .int (nI (td + 1))])), (q1, .inl (cI, 20, .inl f_6)), (q2, .inl (cI, 20, .inl f_7)), (q3, .inl (cI, 20, .inl f_8))] H := hP
            replace hD : va_D A [(h0, .inr (2, [.ref q1, .ref q2, .ref q3, .int (nI (td + 1))])), (q1, .inl (cI, 20, .inl f_6)), (q2, .inl (cI, 20, .inl f_7)), (q3, .inl (cI, 20, .inl f_8))] := hD
            have hP9 := xs_P_sub (w := [(h0, .inr (2, [.ref q1, .ref q2, .ref q3, .int (nI (td + 1))])), (q1, .inl (cI, 20, .inl f_6)), (q2, .inl (cI, 20, .inl f_7)), (q3, .inl (cI, 20, .inl f_8))]) hP [0, 1, 2, 3] rfl
            have hD9 := hD.sub (ws' := [(h0, .inr (2, [.ref q1, .ref q2, .ref q3, .int (nI (td + 1))])), (q1, .inl (cI, 20, .inl f_6)), (q2, .inl (cI, 20, .inl f_7)), (q3, .inl (cI, 20, .inl f_8))]) [0, 1, 2, 3] (by decide +kernel) rfl
            exact xw_vret (td + 1, f_6, f_7, f_8) hx hb hr hlocks d_FP_tell_97 (rfl) (by omega) hAe hP9 hD9 hS (Nat.le_of_ble_eq_true rfl) (Nat.le_of_ble_eq_true rfl)
      · refine lv_aload_n hx hb d_FP_tell_33 rfl (lv_at hl 1 rfl) ?_
        refine va_get (D := D) (a := h0) (fs := [.ref q1, .ref q2, .ref q3, .int (nI td)]) (ci := 2) (v := .ref q3) (C := R_FP) (T := T_FP) (N := 4) hx hb hU iw_FP hown hK hP 0 rfl rfl 2 (by decide) (hU _ uw_73) (fun _ h9 => h9) rfl d_FP_tell_34 ?_
        refine lv_iload hx hb d_FP_tell_37 (lv_at hl 0 rfl) ?_
        refine lv_iload_n hx hb d_FP_tell_39 rfl (lv_at hl 4 rfl) ?_
        refine xw_ist hx hb hK hP hD hS 3 0 rfl rfl (by omega) (by decide) d_FP_tell_40 (fun H locs hP hD hS => ?_)
        replace hP : va_P D vwCl [(h0, .inr (2, [.ref q1, .ref q2, .ref q3, .int (nI td)])), (q1, .inl (cI, 20, .inl f1)), (q2, .inl (cI, 20, .inl f2)), (q3, .inl (cI, 20, .inl (upd f3 i c9)))] H := hP
        replace hD : va_D A [(h0, .inr (2, [.ref q1, .ref q2, .ref q3, .int (nI td)])), (q1, .inl (cI, 20, .inl f1)), (q2, .inl (cI, 20, .inl f2)), (q3, .inl (cI, 20, .inl (upd f3 i c9)))] := hD
        generalize upd f3 i c9 = f_9 at hP hD
        replace hP : va_P D vwCl [(h0, .inr (2, [.ref q1, .ref q2, .ref q3, .int (nI td)])), (q1, .inl (cI, 20, .inl f1)), (q2, .inl (cI, 20, .inl f2)), (q3, .inl (cI, 20, .inl f_9))] H := hP
        replace hD : va_D A [(h0, .inr (2, [.ref q1, .ref q2, .ref q3, .int (nI td)])), (q1, .inl (cI, 20, .inl f1)), (q2, .inl (cI, 20, .inl f2)), (q3, .inl (cI, 20, .inl f_9))] := hD
        refine lv_goto (tgt := 97) hx hb d_FP_tell_41 (by decide) ?_
        have hP9 := xs_P_sub (w := [(h0, .inr (2, [.ref q1, .ref q2, .ref q3, .int (nI td)])), (q1, .inl (cI, 20, .inl f1)), (q2, .inl (cI, 20, .inl f2)), (q3, .inl (cI, 20, .inl f_9))]) hP [0, 1, 2, 3] rfl
        have hD9 := hD.sub (ws' := [(h0, .inr (2, [.ref q1, .ref q2, .ref q3, .int (nI td)])), (q1, .inl (cI, 20, .inl f1)), (q2, .inl (cI, 20, .inl f2)), (q3, .inl (cI, 20, .inl f_9))]) [0, 1, 2, 3] (by decide +kernel) rfl
        exact xw_vret (td, f1, f2, f_9) hx hb hr hlocks d_FP_tell_97 (rfl) (by omega) hAe hP9 hD9 hS (Nat.le_of_ble_eq_true rfl) (Nat.le_of_ble_eq_true rfl)
    · refine lv_iload_n hx hb d_FP_tell_14 rfl (lv_at hl 4 rfl) ?_
      refine lv_if_ne (tgt := 27) hx hb d_FP_tell_15 (by decide) (fun c_15 => ?_) (fun c_15 => ?_)
      · refine lv_iload hx hb d_FP_tell_27 (lv_at hl 0 rfl) ?_
        refine lv_iconst (v := (-1)) hx hb d_FP_tell_29 (by decide +kernel) ?_
        refine lv_icmp_eq (tgt := 44) hx hb d_FP_tell_30 (by decide) (fun c_30 => ?_) (fun c_30 => ?_)
        · refine lv_iload_n hx hb d_FP_tell_44 rfl (lv_at hl 4 rfl) ?_
          refine lv_if_eq (tgt := 97) hx hb d_FP_tell_45 (by decide) (fun c_45 => ?_) (fun c_45 => ?_)
          · have hP9 := xs_P_sub (w := [(h0, .inr (2, [.ref q1, .ref q2, .ref q3, .int (nI td)])), (q1, .inl (cI, 20, .inl f1)), (q2, .inl (cI, 20, .inl f2)), (q3, .inl (cI, 20, .inl f3))]) hP [0, 1, 2, 3] rfl
            have hD9 := hD.sub (ws' := [(h0, .inr (2, [.ref q1, .ref q2, .ref q3, .int (nI td)])), (q1, .inl (cI, 20, .inl f1)), (q2, .inl (cI, 20, .inl f2)), (q3, .inl (cI, 20, .inl f3))]) [0, 1, 2, 3] (by decide +kernel) rfl
            exact xw_vret (td, f1, f2, f3) hx hb hr hlocks d_FP_tell_97 (rfl) (by omega) hAe hP9 hD9 hS (Nat.le_of_ble_eq_true rfl) (Nat.le_of_ble_eq_true rfl)
          · refine lv_aload_n hx hb d_FP_tell_48 rfl (lv_at hl 1 rfl) ?_
            refine va_get (D := D) (a := h0) (fs := [.ref q1, .ref q2, .ref q3, .int (nI td)]) (ci := 2) (v := .int (nI td)) (C := R_FP) (T := T_FP) (N := 4) hx hb hU iw_FP hown hK hP 0 rfl rfl 3 (by decide) (hU _ uw_74) (fun _ h9 => h9) rfl d_FP_tell_49 ?_
            refine lv_bipush (v := nI 20) hx hb d_FP_tell_52 (by decide +kernel) ?_
            refine xw_icmp_ge (tgt := 97) hx hb d_FP_tell_54 (by decide) (by omega) (by omega) (fun c_54 => ?_) (fun c_54 => ?_)
            · have hP9 := xs_P_sub (w := [(h0, .inr (2, [.ref q1, .ref q2, .ref q3, .int (nI td)])), (q1, .inl (cI, 20, .inl f1)), (q2, .inl (cI, 20, .inl f2)), (q3, .inl (cI, 20, .inl f3))]) hP [0, 1, 2, 3] rfl
              have hD9 := hD.sub (ws' := [(h0, .inr (2, [.ref q1, .ref q2, .ref q3, .int (nI td)])), (q1, .inl (cI, 20, .inl f1)), (q2, .inl (cI, 20, .inl f2)), (q3, .inl (cI, 20, .inl f3))]) [0, 1, 2, 3] (by decide +kernel) rfl
              exact xw_vret (td, f1, f2, f3) hx hb hr hlocks d_FP_tell_97 (rfl) (by omega) hAe hP9 hD9 hS (Nat.le_of_ble_eq_true rfl) (Nat.le_of_ble_eq_true rfl)
            · refine lv_aload_n hx hb d_FP_tell_57 rfl (lv_at hl 1 rfl) ?_
              refine va_get (D := D) (a := h0) (fs := [.ref q1, .ref q2, .ref q3, .int (nI td)]) (ci := 2) (v := .ref q1) (C := R_FP) (T := T_FP) (N := 4) hx hb hU iw_FP hown hK hP 0 rfl rfl 0 (by decide) (hU _ uw_71) (fun _ h9 => h9) rfl d_FP_tell_58 ?_
              refine lv_aload_n hx hb d_FP_tell_61 rfl (lv_at hl 1 rfl) ?_
              refine va_get (D := D) (a := h0) (fs := [.ref q1, .ref q2, .ref q3, .int (nI td)]) (ci := 2) (v := .int (nI td)) (C := R_FP) (T := T_FP) (N := 4) hx hb hU iw_FP hown hK hP 0 rfl rfl 3 (by decide) (hU _ uw_74) (fun _ h9 => h9) rfl d_FP_tell_62 ?_
              refine lv_iload_n hx hb d_FP_tell_65 rfl (lv_at hl 2 rfl) ?_
              refine xw_ist hx hb hK hP hD hS 1 0 rfl rfl (by omega) (by decide) d_FP_tell_66 (fun H locs hP hD hS => ?_)
              replace hP : va_P D vwCl [(h0, .inr (2, [.ref q1, .ref q2, .ref q3, .int (nI td)])), (q1, .inl (cI, 20, .inl (upd f1 td a))), (q2, .inl (cI, 20, .inl f2)), (q3, .inl (cI, 20, .inl f3))] H := hP
              replace hD : va_D A [(h0, .inr (2, [.ref q1, .ref q2, .ref q3, .int (nI td)])), (q1, .inl (cI, 20, .inl (upd f1 td a))), (q2, .inl (cI, 20, .inl f2)), (q3, .inl (cI, 20, .inl f3))] := hD
              generalize upd f1 td a = f_10 at hP hD
              replace hP : va_P D vwCl [(h0, .inr (2, [.ref q1, .ref q2, .ref q3, .int (nI td)])), (q1, .inl (cI, 20, .inl f_10)), (q2, .inl (cI, 20, .inl f2)), (q3, .inl (cI, 20, .inl f3))] H := hP
              replace hD : va_D A [(h0, .inr (2, [.ref q1, .ref q2, .ref q3, .int (nI td)])), (q1, .inl (cI, 20, .inl f_10)), (q2, .inl (cI, 20, .inl f2)), (q3, .inl (cI, 20, .inl f3))] := hD
              refine lv_aload_n hx hb d_FP_tell_67 rfl (lv_at hl 1 rfl) ?_
              refine va_get (D := D) (a := h0) (fs := [.ref q1, .ref q2, .ref q3, .int (nI td)]) (ci := 2) (v := .ref q2) (C := R_FP) (T := T_FP) (N := 4) hx hb hU iw_FP hown hK hP 0 rfl rfl 1 (by decide) (hU _ uw_72) (fun _ h9 => h9) rfl d_FP_tell_68 ?_
              refine lv_aload_n hx hb d_FP_tell_71 rfl (lv_at hl 1 rfl) ?_
              refine va_get (D := D) (a := h0) (fs := [.ref q1, .ref q2, .ref q3, .int (nI td)]) (ci := 2) (v := .int (nI td)) (C := R_FP) (T := T_FP) (N := 4) hx hb hU iw_FP hown hK hP 0 rfl rfl 3 (by decide) (hU _ uw_74) (fun _ h9 => h9) rfl d_FP_tell_72 ?_
              refine lv_iload_n hx hb d_FP_tell_75 rfl (lv_at hl 3 rfl) ?_
              refine xw_ist hx hb hK hP hD hS 2 0 rfl rfl (by omega) (by decide) d_FP_tell_76 (fun H locs hP hD hS => ?_)
              replace hP : va_P D vwCl [(h0, .inr (2, [.ref q1, .ref q2, .ref q3, .int (nI td)])), (q1, .inl (cI, 20, .inl f_10)), (q2, .inl (cI, 20, .inl (upd f2 td b))), (q3, .inl (cI, 20, .inl f3))] H := hP
              replace hD : va_D A [(h0, .inr (2, [.ref q1, .ref q2, .ref q3, .int (nI td)])), (q1, .inl (cI, 20, .inl f_10)), (q2, .inl (cI, 20, .inl (upd f2 td b))), (q3, .inl (cI, 20, .inl f3))] := hD
              generalize upd f2 td b = f_11 at hP hD
              replace hP : va_P D vwCl [(h0, .inr (2, [.ref q1, .ref q2, .ref q3, .int (nI td)])), (q1, .inl (cI, 20, .inl f_10)), (q2, .inl (cI, 20, .inl f_11)), (q3, .inl (cI, 20, .inl f3))] H := hP
              replace hD : va_D A [(h0, .inr (2, [.ref q1, .ref q2, .ref q3, .int (nI td)])), (q1, .inl (cI, 20, .inl f_10)), (q2, .inl (cI, 20, .inl f_11)), (q3, .inl (cI, 20, .inl f3))] := hD
              refine lv_aload_n hx hb d_FP_tell_77 rfl (lv_at hl 1 rfl) ?_
              refine va_get (D := D) (a := h0) (fs := [.ref q1, .ref q2, .ref q3, .int (nI td)]) (ci := 2) (v := .ref q3) (C := R_FP) (T := T_FP) (N := 4) hx hb hU iw_FP hown hK hP 0 rfl rfl 2 (by decide) (hU _ uw_73) (fun _ h9 => h9) rfl d_FP_tell_78 ?_
              refine lv_aload_n hx hb d_FP_tell_81 rfl (lv_at hl 1 rfl) ?_
              refine va_get (D := D) (a := h0) (fs := [.ref q1, .ref q2, .ref q3, .int (nI td)]) (ci := 2) (v := .int (nI td)) (C := R_FP) (T := T_FP) (N := 4) hx hb hU iw_FP hown hK hP 0 rfl rfl 3 (by decide) (hU _ uw_74) (fun _ h9 => h9) rfl d_FP_tell_82 ?_
              refine lv_iload_n hx hb d_FP_tell_85 rfl (lv_at hl 4 rfl) ?_
              refine xw_ist hx hb hK hP hD hS 3 0 rfl rfl (by omega) (by decide) d_FP_tell_86 (fun H locs hP hD hS => ?_)
              replace hP : va_P D vwCl [(h0, .inr (2, [.ref q1, .ref q2, .ref q3, .int (nI td)])), (q1, .inl (cI, 20, .inl f_10)), (q2, .inl (cI, 20, .inl f_11)), (q3, .inl (cI, 20, .inl (upd f3 td c9)))] H := hP
              replace hD : va_D A [(h0, .inr (2, [.ref q1, .ref q2, .ref q3, .int (nI td)])), (q1, .inl (cI, 20, .inl f_10)), (q2, .inl (cI, 20, .inl f_11)), (q3, .inl (cI, 20, .inl (upd f3 td c9)))] := hD
              generalize upd f3 td c9 = f_12 at hP hD
              replace hP : va_P D vwCl [(h0, .inr (2, [.ref q1, .ref q2, .ref q3, .int (nI td)])), (q1, .inl (cI, 20, .inl f_10)), (q2, .inl (cI, 20, .inl f_11)), (q3, .inl (cI, 20, .inl f_12))] H := hP
              replace hD : va_D A [(h0, .inr (2, [.ref q1, .ref q2, .ref q3, .int (nI td)])), (q1, .inl (cI, 20, .inl f_10)), (q2, .inl (cI, 20, .inl f_11)), (q3, .inl (cI, 20, .inl f_12))] := hD
              refine lv_aload_n hx hb d_FP_tell_87 rfl (lv_at hl 1 rfl) ?_
              refine lv_dup hx hb d_FP_tell_88 rfl ?_
              refine va_get (D := D) (a := h0) (fs := [.ref q1, .ref q2, .ref q3, .int (nI td)]) (ci := 2) (v := .int (nI td)) (C := R_FP) (T := T_FP) (N := 4) hx hb hU iw_FP hown hK hP 0 rfl rfl 3 (by decide) (hU _ uw_74) (fun _ h9 => h9) rfl d_FP_tell_89 ?_
              refine lv_iconst (v := nI 1) hx hb d_FP_tell_92 (by decide +kernel) ?_
              refine lv_iadd hx hb d_FP_tell_93 ?_
              refine xw_top (nI (td + 1)) (nI_add _ _) ?_
              refine va_put (D := D) (ci := 2) (v := .int (nI (td + 1))) (ty := .int) (C := R_FP) (T := T_FP) (N := 4) hx hb hU iw_FP ty_FP ty_FP_ok nm_FP hown hK hP hD hS 0 rfl rfl 3 (by decide) (hU _ uw_74) (fun _ h9 => h9) rfl (by decide +kernel) (by first | rfl | decide +kernel) (by first | rfl | decide +kernel) (Nat.le_of_ble_eq_true rfl) d_FP_tell_94 (fun H locs hP hD hS => ?_)
              replace hP : va_P D vwCl [(h0, .inr (2, [.ref q1, .ref q2, .ref q3, .int (nI (td + 1))])), (q1, .inl (cI, 20, .inl f_10)), (q2, .inl (cI, 20, .inl f_11)), (q3, .inl (cI, 20, .inl f_12))] H := hP
              replace hD : va_D A [(h0, .inr (2, [.ref q1, .ref q2, .ref q3, .int (nI (td + 1))])), (q1, .inl (cI, 20, .inl f_10)), (q2, .inl (cI, 20, .inl f_11)), (q3, .inl (cI, 20, .inl f_12))] := hD
              have hP9 := xs_P_sub (w := [(h0, .inr (2, [.ref q1, .ref q2, .ref q3, .int (nI (td + 1))])), (q1, .inl (cI, 20, .inl f_10)), (q2, .inl (cI, 20, .inl f_11)), (q3, .inl (cI, 20, .inl f_12))]) hP [0, 1, 2, 3] rfl
              have hD9 := hD.sub (ws' := [(h0, .inr (2, [.ref q1, .ref q2, .ref q3, .int (nI (td + 1))])), (q1, .inl (cI, 20, .inl f_10)), (q2, .inl (cI, 20, .inl f_11)), (q3, .inl (cI, 20, .inl f_12))]) [0, 1, 2, 3] (by decide +kernel) rfl
              exact xw_vret (td + 1, f_10, f_11, f_12) hx hb hr hlocks d_FP_tell_97 (rfl) (by omega) hAe hP9 hD9 hS (Nat.le_of_ble_eq_true rfl) (Nat.le_of_ble_eq_true rfl)
        · refine lv_aload_n hx hb d_FP_tell_33 rfl (lv_at hl 1 rfl) ?_
          refine va_get (D := D) (a := h0) (fs := [.ref q1, .ref q2, .ref q3, .int (nI td)]) (ci := 2) (v := .ref q3) (C := R_FP) (T := T_FP) (N := 4) hx hb hU iw_FP hown hK hP 0 rfl rfl 2 (by decide) (hU _ uw_73) (fun _ h9 => h9) rfl d_FP_tell_34 ?_
          refine lv_iload hx hb d_FP_tell_37 (lv_at hl 0 rfl) ?_
          refine lv_iload_n hx hb d_FP_tell_39 rfl (lv_at hl 4 rfl) ?_
          refine xw_ist hx hb hK hP hD hS 3 0 rfl rfl (by omega) (by decide) d_FP_tell_40 (fun H locs hP hD hS => ?_)
          replace hP : va_P D vwCl [(h0, .inr (2, [.ref q1, .ref q2, .ref q3, .int (nI td)])), (q1, .inl (cI, 20, .inl f1)), (q2, .inl (cI, 20, .inl f2)), (q3, .inl (cI, 20, .inl (upd f3 i c9)))] H := hP
          replace hD : va_D A [(h0, .inr (2, [.ref q1, .ref q2, .ref q3, .int (nI td)])), (q1, .inl (cI, 20, .inl f1)), (q2, .inl (cI, 20, .inl f2)), (q3, .inl (cI, 20, .inl (upd f3 i c9)))] := hD
          generalize upd f3 i c9 = f_13 at hP hD
          replace hP : va_P D vwCl [(h0, .inr (2, [.ref q1, .ref q2, .ref q3, .int (nI td)])), (q1, .inl (cI, 20, .inl f1)), (q2, .inl (cI, 20, .inl f2)), (q3, .inl (cI, 20, .inl f_13))] H := hP
          replace hD : va_D A [(h0, .inr (2, [.ref q1, .ref q2, .ref q3, .int (nI td)])), (q1, .inl (cI, 20, .inl f1)), (q2, .inl (cI, 20, .inl f2)), (q3, .inl (cI, 20, .inl f_13))] := hD
          refine lv_goto (tgt := 97) hx hb d_FP_tell_41 (by decide) ?_
          have hP9 := xs_P_sub (w := [(h0, .inr (2, [.ref q1, .ref q2, .ref q3, .int (nI td)])), (q1, .inl (cI, 20, .inl f1)), (q2, .inl (cI, 20, .inl f2)), (q3, .inl (cI, 20, .inl f_13))]) hP [0, 1, 2, 3] rfl
          have hD9 := hD.sub (ws' := [(h0, .inr (2, [.ref q1, .ref q2, .ref q3, .int (nI td)])), (q1, .inl (cI, 20, .inl f1)), (q2, .inl (cI, 20, .inl f2)), (q3, .inl (cI, 20, .inl f_13))]) [0, 1, 2, 3] (by decide +kernel) rfl
          exact xw_vret (td, f1, f2, f_13) hx hb hr hlocks d_FP_tell_97 (rfl) (by omega) hAe hP9 hD9 hS (Nat.le_of_ble_eq_true rfl) (Nat.le_of_ble_eq_true rfl)
      · refine lv_aload_n hx hb d_FP_tell_18 rfl (lv_at hl 1 rfl) ?_
        refine lv_iload hx hb d_FP_tell_19 (lv_at hl 0 rfl) ?_
        refine xw_callV (C := R_FP) (wr := []) [.int (nI i)] (n_FP_takeBack l D cI cB cL cR h0 q1 q2 q3 td f1 f2 f3 i (by omega) (by omega)) ⟨hx, hb, hml, hown, hU⟩ (cwV 1 hU (xs_goodV uw_503 uw_505 uw_m2 uw_5 uw_506) rfl rfl rfl (by decide +kernel) ⟨Nat.le_of_ble_eq_true rfl, Nat.le_of_ble_eq_true rfl⟩) 0 rfl rfl rfl rfl hl.1 rfl (Nat.le_of_ble_eq_true rfl) d_FP_tell_21 ⟨Nat.le_of_ble_eq_true rfl, Nat.le_of_ble_eq_true rfl⟩ [0, 1, 2, 3] [] rfl rfl (by decide +kernel) (by decide +kernel) (by decide +kernel) hN hK hP hD hS hA (fun u H locs hf hP hD hS => ?_)
        obtain ⟨td1_14, f4_15, f5_16, f6_17⟩ := u
        have hf_21 : (td1_14 ≤ 20) := hf
        have htd1_18 := hf_21
        replace hP : va_P D vwCl [(h0, .inr (2, [.ref q1, .ref q2, .ref q3, .int (nI td1_14)])), (q1, .inl (cI, 20, .inl f4_15)), (q2, .inl (cI, 20, .inl f5_16)), (q3, .inl (cI, 20, .inl f6_17))] H := hP
        replace hD : va_D A [(h0, .inr (2, [.ref q1, .ref q2, .ref q3, .int (nI td1_14)])), (q1, .inl (cI, 20, .inl f4_15)), (q2, .inl (cI, 20, .inl f5_16)), (q3, .inl (cI, 20, .inl f6_17))] := hD
        refine W.widen (k := 0) (n := 0) (Nat.le_of_ble_eq_true rfl) (Nat.le_of_ble_eq_true rfl) ?_
        refine W.eq (g2 := F0 m 24 ls []) rfl ?_
        refine lv_goto (tgt := 97) hx hb d_FP_tell_24 (by decide) ?_
        have hP9 := xs_P_sub (w := [(h0, .inr (2, [.ref q1, .ref q2, .ref q3, .int (nI td1_14)])), (q1, .inl (cI, 20, .inl f4_15)), (q2, .inl (cI, 20, .inl f5_16)), (q3, .inl (cI, 20, .inl f6_17))]) hP [0, 1, 2, 3] rfl
        have hD9 := hD.sub (ws' := [(h0, .inr (2, [.ref q1, .ref q2, .ref q3, .int (nI td1_14)])), (q1, .inl (cI, 20, .inl f4_15)), (q2, .inl (cI, 20, .inl f5_16)), (q3, .inl (cI, 20, .inl f6_17))]) [0, 1, 2, 3] (by decide +kernel) rfl
        exact xw_vret (td1_14, f4_15, f5_16, f6_17) hx hb hr hlocks d_FP_tell_97 (rfl) (by omega) hAe hP9 hD9 hS (Nat.le_of_ble_eq_true rfl) (Nat.le_of_ble_eq_true rfl)
set_option maxHeartbeats 4000000 in
set_option maxRecDepth 100000 in
/-- turnOf: some number -/
theorem n_FP_turnOf (l : Launch) (D : va_G) (cI cB cL cR : ClassId) (h0 : Nat) (q1 : Nat) (q2 : Nat) (q3 : Nat) (td : Nat) (f1 : Nat → Int32) (f2 : Nat → Int32) (f3 : Nat → Int32) (a : Int32) (b : Int32) (htd : td ≤ 20) : xG (σ := Int32) l y_FP_turnOf w_FP_turnOf ({ frames := 1, cells := 0, slots := 0, locals := 23  } : Room) D vwCl (xs_tys cI cB cL cR) [.ref h0, .int a, .int b] [(h0, .inr (2, [.ref q1, .ref q2, .ref q3, .int (nI td)])), (q1, .inl (cI, 20, .inl f1)), (q2, .inl (cI, 20, .inl f2)), (q3, .inl (cI, 20, .inl f3))] (fun v => (True)) (fun v => some (.int v)) (fun v => [(h0, .inr (2, [.ref q1, .ref q2, .ref q3, .int (nI td)])), (q1, .inl (cI, 20, .inl f1)), (q2, .inl (cI, 20, .inl f2)), (q3, .inl (cI, 20, .inl f3))]) := by
  refine xG.of b_FP_turnOf 4 (some .int) (by decide +kernel) rfl (Nat.le_of_ble_eq_true rfl) ?_
  intro p e s m below meth c A ls hAe C0 hP hD hS hl
  obtain ⟨hx, hb, hr, hml, hown, hlocks, hts, hnm, hN, hK, hA⟩ := C0
  have hU : ∀ w ∈ xU, w.before #[.ref h0, .int a, .int b] s = true := fun w h => hts w (List.mem_cons_of_mem _ h)
  have hl : lv_has ls 4 [(0, .ref h0), (1, .int a), (2, .int b)] := hl
  refine lv_aload_n hx hb d_FP_turnOf_0 rfl (lv_at hl 0 rfl) ?_
  refine lv_iload_n hx hb d_FP_turnOf_1 rfl (lv_at hl 1 rfl) ?_
  refine lv_iload_n hx hb d_FP_turnOf_2 rfl (lv_at hl 2 rfl) ?_
  refine xw_callR (C := R_FP) [.int a, .int b] (n_FP_placeOf l D cI cB cL cR h0 q1 q2 q3 td f1 f2 f3 a b (by omega)) ⟨hx, hb, hml, hown, hU⟩ (cwV 2 hU (xs_goodV uw_502 uw_494 uw_495 uw_5 uw_496) rfl rfl rfl (by decide +kernel) ⟨Nat.le_of_ble_eq_true rfl, Nat.le_of_ble_eq_true rfl⟩) 0 rfl rfl rfl rfl hl.1 rfl (Nat.le_of_ble_eq_true rfl) d_FP_turnOf_3 ⟨Nat.le_of_ble_eq_true rfl, Nat.le_of_ble_eq_true rfl⟩ [0, 1, 2, 3] rfl (by decide +kernel) hN hK hP hD hS hA (fun u H locs hf hP hS => ?_)
  obtain ⟨v_1, rfl⟩ : ∃ z, z = u := ⟨_, rfl⟩
  have hf_3 : ((v_1 = (-1) ∧ ∀ i, i < td → ¬ (f1 i = a ∧ f2 i = b)) ∨ ∃ i, i < td ∧ v_1 = nI i ∧ f1 i = a ∧ f2 i = b) := hf
  have hv_2 := hf_3
  replace hP : va_P D vwCl [(h0, .inr (2, [.ref q1, .ref q2, .ref q3, .int (nI td)])), (q1, .inl (cI, 20, .inl f1)), (q2, .inl (cI, 20, .inl f2)), (q3, .inl (cI, 20, .inl f3))] H := hP
  replace hD : va_D A [(h0, .inr (2, [.ref q1, .ref q2, .ref q3, .int (nI td)])), (q1, .inl (cI, 20, .inl f1)), (q2, .inl (cI, 20, .inl f2)), (q3, .inl (cI, 20, .inl f3))] := hD
  refine W.widen (k := 0) (n := 0) (Nat.le_of_ble_eq_true rfl) (Nat.le_of_ble_eq_true rfl) ?_
  refine W.eq (g2 := F0 m 6 ls [.int v_1]) rfl ?_
  rcases hv_2 with ⟨rfl, -⟩ | ⟨i, hi9, rfl, -⟩
  · refine lv_istore_n (lv' := [(3, .int (-1)), (0, .ref h0), (1, .int a), (2, .int b)]) hx hb d_FP_turnOf_6 rfl hl (by decide) rfl (fun ls hl => ?_)
    refine lv_iload_n hx hb d_FP_turnOf_7 rfl (lv_at hl 0 rfl) ?_
    refine lv_iconst (v := (-1)) hx hb d_FP_turnOf_8 (by decide +kernel) ?_
    refine lv_icmp_ne (tgt := 16) hx hb d_FP_turnOf_9 (by decide) (fun c_9 => ?_) (fun c_9 => ?_)
    · exact absurd c_9 (by decide +kernel)
    · refine lv_iconst (v := (-1)) hx hb d_FP_turnOf_12 (by decide +kernel) ?_
      refine lv_goto (tgt := 22) hx hb d_FP_turnOf_13 (by decide) ?_
      have hP9 := xs_P_sub (w := [(h0, .inr (2, [.ref q1, .ref q2, .ref q3, .int (nI td)])), (q1, .inl (cI, 20, .inl f1)), (q2, .inl (cI, 20, .inl f2)), (q3, .inl (cI, 20, .inl f3))]) hP [0, 1, 2, 3] rfl
      have hD9 := hD.sub (ws' := [(h0, .inr (2, [.ref q1, .ref q2, .ref q3, .int (nI td)])), (q1, .inl (cI, 20, .inl f1)), (q2, .inl (cI, 20, .inl f2)), (q3, .inl (cI, 20, .inl f3))]) [0, 1, 2, 3] (by decide +kernel) rfl
      exact xw_iret (-1) hx hb hr hlocks d_FP_turnOf_22 (rfl) (trivial) hAe hP9 hD9 hS (Nat.le_of_ble_eq_true rfl) (Nat.le_of_ble_eq_true rfl)
  · refine lv_istore_n (lv' := [(3, .int (nI i)), (0, .ref h0), (1, .int a), (2, .int b)]) hx hb d_FP_turnOf_6 rfl hl (by decide) rfl (fun ls hl => ?_)
    refine lv_iload_n hx hb d_FP_turnOf_7 rfl (lv_at hl 0 rfl) ?_
    refine lv_iconst (v := (-1)) hx hb d_FP_turnOf_8 (by decide +kernel) ?_
    refine lv_icmp_ne (tgt := 16) hx hb d_FP_turnOf_9 (by decide) (fun c_9 => ?_) (fun c_9 => ?_)
    · refine lv_aload_n hx hb d_FP_turnOf_16 rfl (lv_at hl 1 rfl) ?_
      refine va_get (D := D) (a := h0) (fs := [.ref q1, .ref q2, .ref q3, .int (nI td)]) (ci := 2) (v := .ref q3) (C := R_FP) (T := T_FP) (N := 4) hx hb hU iw_FP hown hK hP 0 rfl rfl 2 (by decide) (hU _ uw_73) (fun _ h9 => h9) rfl d_FP_turnOf_17 ?_
      refine lv_iload_n hx hb d_FP_turnOf_20 rfl (lv_at hl 0 rfl) ?_
      refine xw_ild hx hb hK hP 3 0 rfl rfl (by omega) (by decide) d_FP_turnOf_21 ?_
      have hP9 := xs_P_sub (w := [(h0, .inr (2, [.ref q1, .ref q2, .ref q3, .int (nI td)])), (q1, .inl (cI, 20, .inl f1)), (q2, .inl (cI, 20, .inl f2)), (q3, .inl (cI, 20, .inl f3))]) hP [0, 1, 2, 3] rfl
      have hD9 := hD.sub (ws' := [(h0, .inr (2, [.ref q1, .ref q2, .ref q3, .int (nI td)])), (q1, .inl (cI, 20, .inl f1)), (q2, .inl (cI, 20, .inl f2)), (q3, .inl (cI, 20, .inl f3))]) [0, 1, 2, 3] (by decide +kernel) rfl
      exact xw_iret (f3 i) hx hb hr hlocks d_FP_turnOf_22 (rfl) (trivial) hAe hP9 hD9 hS (Nat.le_of_ble_eq_true rfl) (Nat.le_of_ble_eq_true rfl)
    · refine lv_iconst (v := (-1)) hx hb d_FP_turnOf_12 (by decide +kernel) ?_
      refine lv_goto (tgt := 22) hx hb d_FP_turnOf_13 (by decide) ?_
      have hP9 := xs_P_sub (w := [(h0, .inr (2, [.ref q1, .ref q2, .ref q3, .int (nI td)])), (q1, .inl (cI, 20, .inl f1)), (q2, .inl (cI, 20, .inl f2)), (q3, .inl (cI, 20, .inl f3))]) hP [0, 1, 2, 3] rfl
      have hD9 := hD.sub (ws' := [(h0, .inr (2, [.ref q1, .ref q2, .ref q3, .int (nI td)])), (q1, .inl (cI, 20, .inl f1)), (q2, .inl (cI, 20, .inl f2)), (q3, .inl (cI, 20, .inl f3))]) [0, 1, 2, 3] (by decide +kernel) rfl
      exact xw_iret (-1) hx hb hr hlocks d_FP_turnOf_22 (rfl) (trivial) hAe hP9 hD9 hS (Nat.le_of_ble_eq_true rfl) (Nat.le_of_ble_eq_true rfl)
set_option maxHeartbeats 4000000 in
set_option maxRecDepth 100000 in
/-- FailLog.add -/
theorem n_FL_add (l : Launch) (D : va_G) (cI cB cL cR : ClassId) (h0 : Nat) (q1 : Nat) (q2 : Nat) (q3 : Nat) (hp : Nat) (f1 : Nat → Int32) (f2 : Nat → Int32) (f3 : Nat → Int32) (a : Int32) (b : Int32) (c9 : Int32) (hhp : hp ≤ 16) : xG (σ := Nat × (Nat → Int32) × (Nat → Int32) × (Nat → Int32)) l y_FL_add w_FL_add ({ frames := 0, cells := 0, slots := 0, locals := 0  } : Room) D vwCl (xs_tys cI cB cL cR) [.ref h0, .int a, .int b, .int c9] [(h0, .inr (3, [.ref q1, .ref q2, .ref q3, .int (nI hp)])), (q1, .inl (cI, 16, .inl f1)), (q2, .inl (cI, 16, .inl f2)), (q3, .inl (cI, 16, .inl f3))] (fun (hp1, f4, f5, f6) => (hp1 ≤ 16)) (fun (hp1, f4, f5, f6) => none) (fun (hp1, f4, f5, f6) => [(h0, .inr (3, [.ref q1, .ref q2, .ref q3, .int (nI hp1)])), (q1, .inl (cI, 16, .inl f4)), (q2, .inl (cI, 16, .inl f5)), (q3, .inl (cI, 16, .inl f6))]) := by
  refine xG.of b_FL_add 4 (none) (by decide +kernel) rfl (Nat.le_of_ble_eq_true rfl) ?_
  intro p e s m below meth c A ls hAe C0 hP hD hS hl
  obtain ⟨hx, hb, hr, hml, hown, hlocks, hts, hnm, hN, hK, hA⟩ := C0
  have hU : ∀ w ∈ xU, w.before #[.ref h0, .int a, .int b, .int c9] s = true := fun w h => hts w (List.mem_cons_of_mem _ h)
  have hl : lv_has ls 4 [(0, .ref h0), (1, .int a), (2, .int b), (3, .int c9)] := hl
  refine lv_aload_n hx hb d_FL_add_0 rfl (lv_at hl 0 rfl) ?_
  refine va_get (D := D) (a := h0) (fs := [.ref q1, .ref q2, .ref q3, .int (nI hp)]) (ci := 3) (v := .int (nI hp)) (C := R_FL) (T := T_FL) (N := 4) hx hb hU iw_FL hown hK hP 0 rfl rfl 3 (by decide) (hU _ uw_162) (fun _ h9 => h9) rfl d_FL_add_1 ?_
  refine lv_bipush (v := nI 16) hx hb d_FL_add_4 (by decide +kernel) ?_
  refine xw_icmp_ge (tgt := 49) hx hb d_FL_add_6 (by decide) (by omega) (by omega) (fun c_6 => ?_) (fun c_6 => ?_)
  · have hP9 := xs_P_sub (w := [(h0, .inr (3, [.ref q1, .ref q2, .ref q3, .int (nI hp)])), (q1, .inl (cI, 16, .inl f1)), (q2, .inl (cI, 16, .inl f2)), (q3, .inl (cI, 16, .inl f3))]) hP [0, 1, 2, 3] rfl
    have hD9 := hD.sub (ws' := [(h0, .inr (3, [.ref q1, .ref q2, .ref q3, .int (nI hp)])), (q1, .inl (cI, 16, .inl f1)), (q2, .inl (cI, 16, .inl f2)), (q3, .inl (cI, 16, .inl f3))]) [0, 1, 2, 3] (by decide +kernel) rfl
    exact xw_vret (hp, f1, f2, f3) hx hb hr hlocks d_FL_add_49 (rfl) (by omega) hAe hP9 hD9 hS (Nat.le_of_ble_eq_true rfl) (Nat.le_of_ble_eq_true rfl)
  · refine lv_aload_n hx hb d_FL_add_9 rfl (lv_at hl 0 rfl) ?_
    refine va_get (D := D) (a := h0) (fs := [.ref q1, .ref q2, .ref q3, .int (nI hp)]) (ci := 3) (v := .ref q1) (C := R_FL) (T := T_FL) (N := 4) hx hb hU iw_FL hown hK hP 0 rfl rfl 0 (by decide) (hU _ uw_156) (fun _ h9 => h9) rfl d_FL_add_10 ?_
    refine lv_aload_n hx hb d_FL_add_13 rfl (lv_at hl 0 rfl) ?_
    refine va_get (D := D) (a := h0) (fs := [.ref q1, .ref q2, .ref q3, .int (nI hp)]) (ci := 3) (v := .int (nI hp)) (C := R_FL) (T := T_FL) (N := 4) hx hb hU iw_FL hown hK hP 0 rfl rfl 3 (by decide) (hU _ uw_162) (fun _ h9 => h9) rfl d_FL_add_14 ?_
    refine lv_iload_n hx hb d_FL_add_17 rfl (lv_at hl 1 rfl) ?_
    refine xw_ist hx hb hK hP hD hS 1 0 rfl rfl (by omega) (by decide) d_FL_add_18 (fun H locs hP hD hS => ?_)
    replace hP : va_P D vwCl [(h0, .inr (3, [.ref q1, .ref q2, .ref q3, .int (nI hp)])), (q1, .inl (cI, 16, .inl (upd f1 hp a))), (q2, .inl (cI, 16, .inl f2)), (q3, .inl (cI, 16, .inl f3))] H := hP
    replace hD : va_D A [(h0, .inr (3, [.ref q1, .ref q2, .ref q3, .int (nI hp)])), (q1, .inl (cI, 16, .inl (upd f1 hp a))), (q2, .inl (cI, 16, .inl f2)), (q3, .inl (cI, 16, .inl f3))] := hD
    generalize upd f1 hp a = f_1 at hP hD
    replace hP : va_P D vwCl [(h0, .inr (3, [.ref q1, .ref q2, .ref q3, .int (nI hp)])), (q1, .inl (cI, 16, .inl f_1)), (q2, .inl (cI, 16, .inl f2)), (q3, .inl (cI, 16, .inl f3))] H := hP
    replace hD : va_D A [(h0, .inr (3, [.ref q1, .ref q2, .ref q3, .int (nI hp)])), (q1, .inl (cI, 16, .inl f_1)), (q2, .inl (cI, 16, .inl f2)), (q3, .inl (cI, 16, .inl f3))] := hD
    refine lv_aload_n hx hb d_FL_add_19 rfl (lv_at hl 0 rfl) ?_
    refine va_get (D := D) (a := h0) (fs := [.ref q1, .ref q2, .ref q3, .int (nI hp)]) (ci := 3) (v := .ref q2) (C := R_FL) (T := T_FL) (N := 4) hx hb hU iw_FL hown hK hP 0 rfl rfl 1 (by decide) (hU _ uw_158) (fun _ h9 => h9) rfl d_FL_add_20 ?_
    refine lv_aload_n hx hb d_FL_add_23 rfl (lv_at hl 0 rfl) ?_
    refine va_get (D := D) (a := h0) (fs := [.ref q1, .ref q2, .ref q3, .int (nI hp)]) (ci := 3) (v := .int (nI hp)) (C := R_FL) (T := T_FL) (N := 4) hx hb hU iw_FL hown hK hP 0 rfl rfl 3 (by decide) (hU _ uw_162) (fun _ h9 => h9) rfl d_FL_add_24 ?_
    refine lv_iload_n hx hb d_FL_add_27 rfl (lv_at hl 2 rfl) ?_
    refine xw_ist hx hb hK hP hD hS 2 0 rfl rfl (by omega) (by decide) d_FL_add_28 (fun H locs hP hD hS => ?_)
    replace hP : va_P D vwCl [(h0, .inr (3, [.ref q1, .ref q2, .ref q3, .int (nI hp)])), (q1, .inl (cI, 16, .inl f_1)), (q2, .inl (cI, 16, .inl (upd f2 hp b))), (q3, .inl (cI, 16, .inl f3))] H := hP
    replace hD : va_D A [(h0, .inr (3, [.ref q1, .ref q2, .ref q3, .int (nI hp)])), (q1, .inl (cI, 16, .inl f_1)), (q2, .inl (cI, 16, .inl (upd f2 hp b))), (q3, .inl (cI, 16, .inl f3))] := hD
    generalize upd f2 hp b = f_2 at hP hD
    replace hP : va_P D vwCl [(h0, .inr (3, [.ref q1, .ref q2, .ref q3, .int (nI hp)])), (q1, .inl (cI, 16, .inl f_1)), (q2, .inl (cI, 16, .inl f_2)), (q3, .inl (cI, 16, .inl f3))] H := hP
    replace hD : va_D A [(h0, .inr (3, [.ref q1, .ref q2, .ref q3, .int (nI hp)])), (q1, .inl (cI, 16, .inl f_1)), (q2, .inl (cI, 16, .inl f_2)), (q3, .inl (cI, 16, .inl f3))] := hD
    refine lv_aload_n hx hb d_FL_add_29 rfl (lv_at hl 0 rfl) ?_
    refine va_get (D := D) (a := h0) (fs := [.ref q1, .ref q2, .ref q3, .int (nI hp)]) (ci := 3) (v := .ref q3) (C := R_FL) (T := T_FL) (N := 4) hx hb hU iw_FL hown hK hP 0 rfl rfl 2 (by decide) (hU _ uw_160) (fun _ h9 => h9) rfl d_FL_add_30 ?_
    refine lv_aload_n hx hb d_FL_add_33 rfl (lv_at hl 0 rfl) ?_
    refine va_get (D := D) (a := h0) (fs := [.ref q1, .ref q2, .ref q3, .int (nI hp)]) (ci := 3) (v := .int (nI hp)) (C := R_FL) (T := T_FL) (N := 4) hx hb hU iw_FL hown hK hP 0 rfl rfl 3 (by decide) (hU _ uw_162) (fun _ h9 => h9) rfl d_FL_add_34 ?_
    refine lv_iload_n hx hb d_FL_add_37 rfl (lv_at hl 3 rfl) ?_
    refine xw_ist hx hb hK hP hD hS 3 0 rfl rfl (by omega) (by decide) d_FL_add_38 (fun H locs hP hD hS => ?_)
    replace hP : va_P D vwCl [(h0, .inr (3, [.ref q1, .ref q2, .ref q3, .int (nI hp)])), (q1, .inl (cI, 16, .inl f_1)), (q2, .inl (cI, 16, .inl f_2)), (q3, .inl (cI, 16, .inl (upd f3 hp c9)))] H := hP
    replace hD : va_D A [(h0, .inr (3, [.ref q1, .ref q2, .ref q3, .int (nI hp)])), (q1, .inl (cI, 16, .inl f_1)), (q2, .inl (cI, 16, .inl f_2)), (q3, .inl (cI, 16, .inl (upd f3 hp c9)))] := hD
    generalize upd f3 hp c9 = f_3 at hP hD
    replace hP : va_P D vwCl [(h0, .inr (3, [.ref q1, .ref q2, .ref q3, .int (nI hp)])), (q1, .inl (cI, 16, .inl f_1)), (q2, .inl (cI, 16, .inl f_2)), (q3, .inl (cI, 16, .inl f_3))] H := hP
    replace hD : va_D A [(h0, .inr (3, [.ref q1, .ref q2, .ref q3, .int (nI hp)])), (q1, .inl (cI, 16, .inl f_1)), (q2, .inl (cI, 16, .inl f_2)), (q3, .inl (cI, 16, .inl f_3))] := hD
    refine lv_aload_n hx hb d_FL_add_39 rfl (lv_at hl 0 rfl) ?_
    refine lv_dup hx hb d_FL_add_40 rfl ?_
    refine va_get (D := D) (a := h0) (fs := [.ref q1, .ref q2, .ref q3, .int (nI hp)]) (ci := 3) (v := .int (nI hp)) (C := R_FL) (T := T_FL) (N := 4) hx hb hU iw_FL hown hK hP 0 rfl rfl 3 (by decide) (hU _ uw_162) (fun _ h9 => h9) rfl d_FL_add_41 ?_
    refine lv_iconst (v := nI 1) hx hb d_FL_add_44 (by decide +kernel) ?_
    refine lv_iadd hx hb d_FL_add_45 ?_
    refine xw_top (nI (hp + 1)) (nI_add _ _) ?_
    refine va_put (D := D) (ci := 3) (v := .int (nI (hp + 1))) (ty := .int) (C := R_FL) (T := T_FL) (N := 4) hx hb hU iw_FL ty_FL ty_FL_ok nm_FL hown hK hP hD hS 0 rfl rfl 3 (by decide) (hU _ uw_162) (fun _ h9 => h9) rfl (by decide +kernel) (by first | rfl | decide +kernel) (by first | rfl | decide +kernel) (Nat.le_of_ble_eq_true rfl) d_FL_add_46 (fun H locs hP hD hS => ?_)
    replace hP : va_P D vwCl [(h0, .inr (3, [.ref q1, .ref q2, .ref q3, .int (nI (hp + 1))])), (q1, .inl (cI, 16, .inl f_1)), (q2, .inl (cI, 16, .inl f_2)), (q3, .inl (cI, 16, .inl f_3))] H := hP
    replace hD : va_D A [(h0, .inr (3, [.ref q1, .ref q2, .ref q3, .int (nI (hp + 1))])), (q1, .inl (cI, 16, .inl f_1)), (q2, .inl (cI, 16, .inl f_2)), (q3, .inl (cI, 16, .inl f_3))] := hD
    have hP9 := xs_P_sub (w := [(h0, .inr (3, [.ref q1, .ref q2, .ref q3, .int (nI (hp + 1))])), (q1, .inl (cI, 16, .inl f_1)), (q2, .inl (cI, 16, .inl f_2)), (q3, .inl (cI, 16, .inl f_3))]) hP [0, 1, 2, 3] rfl
    have hD9 := hD.sub (ws' := [(h0, .inr (3, [.ref q1, .ref q2, .ref q3, .int (nI (hp + 1))])), (q1, .inl (cI, 16, .inl f_1)), (q2, .inl (cI, 16, .inl f_2)), (q3, .inl (cI, 16, .inl f_3))]) [0, 1, 2, 3] (by decide +kernel) rfl
    exact xw_vret (hp + 1, f_1, f_2, f_3) hx hb hr hlocks d_FL_add_49 (rfl) (by omega) hAe hP9 hD9 hS (Nat.le_of_ble_eq_true rfl) (Nat.le_of_ble_eq_true rfl)
