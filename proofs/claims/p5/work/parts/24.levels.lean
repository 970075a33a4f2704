set_option maxHeartbeats 4000000 in
set_option maxRecDepth 100000 in
/-- emptySets -/
theorem n_LE_emptySets (l : Launch) (D : va_G) (cI cB cL cR : ClassId) (h0 : Nat) (lo : Nat) (lr : Nat) (lb : Nat) (lf : Nat) (lv : Nat) (f1 : Nat → Int32)  : xG (σ := Unit) l y_LE_emptySets w_LE_emptySets ({ frames := 1, cells := 0, slots := 0, locals := 22  } : Room) D vwCl (xs_tys cI cB cL cR) [.ref h0] [(h0, .inr (7, [.ref lo, .ref lr, .ref lb, .int (nI lv), .ref lf])), (lf, .inl (cB, 200, .inl f1))] (fun _ => True) (fun _ => none) (fun _ => [(h0, .inr (7, [.ref lo, .ref lr, .ref lb, .int (nI lv), .ref lf])), (lf, .inl (cB, 200, .inl (fun _ => nI 0)))]) := by
  refine xG.of b_LE_emptySets 1 (none) (by decide +kernel) rfl (Nat.le_of_ble_eq_true rfl) ?_
  intro p e s m below meth c A ls hAe C0 hP hD hS hl
  obtain ⟨hx, hb, hr, hml, hown, hlocks, hts, hnm, hN, hK, hA⟩ := C0
  have hU : ∀ w ∈ xU, w.before #[.ref h0] s = true := fun w h => hts w (List.mem_cons_of_mem _ h)
  have hl : lv_has ls 1 [(0, .ref h0)] := hl
  refine lv_aload_n hx hb d_LE_emptySets_0 rfl (lv_at hl 0 rfl) ?_
  refine va_get (D := D) (a := h0) (fs := [.ref lo, .ref lr, .ref lb, .int (nI lv), .ref lf]) (ci := 7) (v := .ref lf) (C := R_LE) (T := T_LE) (N := 5) hx hb hU iw_LE hown hK hP 0 rfl rfl 4 (by decide) (hU _ uw_138) (fun _ h9 => h9) rfl d_LE_emptySets_1 ?_
  refine lv_iconst (v := nI 0) hx hb d_LE_emptySets_4 (by decide +kernel) ?_
  refine xw_callSN (wr := [(h0, .inr (7, [.ref lo, .ref lr, .ref lb, .int (nI lv), .ref lf]))]) [.ref lf, .int (nI 0)] (n_fillFlags l D cI cB cL cR lf 200 f1 (nI 0) (by decide) (by first | exact Or.inl rfl | exact Or.inr rfl)) ⟨hx, hb, hml, hown, hU⟩ ⟨va_cnB 2 hU (xs_good uw_192) rfl rfl rfl (hN _ nw_425) (hU _ uw_1) (by decide +kernel) ⟨Nat.le_of_ble_eq_true rfl, Nat.le_of_ble_eq_true rfl⟩, hU _ uw_191, trivial⟩ rfl hl.1 rfl (Nat.le_of_ble_eq_true rfl) d_LE_emptySets_5 ⟨Nat.le_of_ble_eq_true rfl, Nat.le_of_ble_eq_true rfl⟩ [1] [0] rfl rfl (by decide +kernel) (by decide +kernel) (by decide +kernel) hN hK hP hD hS hA (fun u H locs hf hP hD hS => ?_)
  replace hP : va_P D vwCl [(h0, .inr (7, [.ref lo, .ref lr, .ref lb, .int (nI lv), .ref lf])), (lf, .inl (cB, 200, .inl (fun _ => (nI 0))))] H := hP
  replace hD : va_D A [(h0, .inr (7, [.ref lo, .ref lr, .ref lb, .int (nI lv), .ref lf])), (lf, .inl (cB, 200, .inl (fun _ => (nI 0))))] := hD
  refine W.widen (k := 0) (n := 0) (Nat.le_of_ble_eq_true rfl) (Nat.le_of_ble_eq_true rfl) ?_
  refine W.eq (g2 := F0 m 8 ls []) rfl ?_
  have hP9 := xs_P_sub (w := [(h0, .inr (7, [.ref lo, .ref lr, .ref lb, .int (nI lv), .ref lf])), (lf, .inl (cB, 200, .inl (fun _ => (nI 0))))]) hP [0, 1] rfl
  have hD9 := hD.sub (ws' := [(h0, .inr (7, [.ref lo, .ref lr, .ref lb, .int (nI lv), .ref lf])), (lf, .inl (cB, 200, .inl (fun _ => (nI 0))))]) [0, 1] (by decide +kernel) rfl
  exact xw_vret () hx hb hr hlocks d_LE_emptySets_8 (rfl) (trivial) hAe hP9 hD9 hS (Nat.le_of_ble_eq_true rfl) (Nat.le_of_ble_eq_true rfl)
set_option maxHeartbeats 4000000 in
set_option maxRecDepth 100000 in
/-- startAnew -/
theorem n_LE_startAnew (l : Launch) (D : va_G) (cI cB cL cR : ClassId) (h0 : Nat) (lo : Nat) (lr : Nat) (lb : Nat) (lf : Nat) (lv : Nat) (f1 : Nat → Int32) (f2 : Nat → Int32)  : xG (σ := Unit) l y_LE_startAnew w_LE_startAnew ({ frames := 2, cells := 0, slots := 0, locals := 42  } : Room) D vwCl (xs_tys cI cB cL cR) [.ref h0] [(h0, .inr (7, [.ref lo, .ref lr, .ref lb, .int (nI lv), .ref lf])), (lo, .inl (cI, 200, .inl f1)), (lf, .inl (cB, 200, .inl f2))] (fun _ => True) (fun _ => none) (fun _ => [(h0, .inr (7, [.ref lo, .ref lr, .ref lb, .int (nI 0), .ref lf])), (lo, .inl (cI, 200, .inl (fun _ => (-1)))), (lf, .inl (cB, 200, .inl (fun _ => nI 0)))]) := by
  refine xG.of b_LE_startAnew 1 (none) (by decide +kernel) rfl (Nat.le_of_ble_eq_true rfl) ?_
  intro p e s m below meth c A ls hAe C0 hP hD hS hl
  obtain ⟨hx, hb, hr, hml, hown, hlocks, hts, hnm, hN, hK, hA⟩ := C0
  have hU : ∀ w ∈ xU, w.before #[.ref h0] s = true := fun w h => hts w (List.mem_cons_of_mem _ h)
  have hl : lv_has ls 1 [(0, .ref h0)] := hl
  refine lv_aload_n hx hb d_LE_startAnew_0 rfl (lv_at hl 0 rfl) ?_
  refine va_get (D := D) (a := h0) (fs := [.ref lo, .ref lr, .ref lb, .int (nI lv), .ref lf]) (ci := 7) (v := .ref lo) (C := R_LE) (T := T_LE) (N := 5) hx hb hU iw_LE hown hK hP 0 rfl rfl 0 (by decide) (hU _ uw_125) (fun _ h9 => h9) rfl d_LE_startAnew_1 ?_
  refine lv_iconst (v := (-1)) hx hb d_LE_startAnew_4 (by decide +kernel) ?_
  refine xw_callS (wr := [(h0, .inr (7, [.ref lo, .ref lr, .ref lb, .int (nI lv), .ref lf])), (lf, .inl (cB, 200, .inl f2))]) [.ref lo, .int (-1)] (n_fill l D cI cB cL cR lo 200 f1 (-1) (by decide)) ⟨hx, hb, hml, hown, hU⟩ (va_cwS 2 hU (xs_goodS uw_122 uw_123 uw_8 uw_124) rfl rfl rfl (by decide +kernel) ⟨Nat.le_of_ble_eq_true rfl, Nat.le_of_ble_eq_true rfl⟩) rfl hl.1 rfl (Nat.le_of_ble_eq_true rfl) d_LE_startAnew_5 ⟨Nat.le_of_ble_eq_true rfl, Nat.le_of_ble_eq_true rfl⟩ [1] [0, 2] rfl rfl (by decide +kernel) (by decide +kernel) (by decide +kernel) hN hK hP hD hS hA (fun u H locs hf hP hD hS => ?_)
  replace hP : va_P D vwCl [(h0, .inr (7, [.ref lo, .ref lr, .ref lb, .int (nI lv), .ref lf])), (lf, .inl (cB, 200, .inl f2)), (lo, .inl (cI, 200, .inl (fun _ => ((-1)))))] H := hP
  replace hD : va_D A [(h0, .inr (7, [.ref lo, .ref lr, .ref lb, .int (nI lv), .ref lf])), (lf, .inl (cB, 200, .inl f2)), (lo, .inl (cI, 200, .inl (fun _ => ((-1)))))] := hD
  refine W.widen (k := 0) (n := 0) (Nat.le_of_ble_eq_true rfl) (Nat.le_of_ble_eq_true rfl) ?_
  refine W.eq (g2 := F0 m 8 ls []) rfl ?_
  refine lv_aload_n hx hb d_LE_startAnew_8 rfl (lv_at hl 0 rfl) ?_
  refine lv_iconst (v := nI 0) hx hb d_LE_startAnew_9 (by decide +kernel) ?_
  refine va_put (D := D) (ci := 7) (v := .int (nI 0)) (ty := .int) (C := R_LE) (T := T_LE) (N := 5) hx hb hU iw_LE ty_LE ty_LE_ok nm_LE hown hK hP hD hS 0 rfl rfl 3 (by decide) (hU _ uw_135) (fun _ h9 => h9) rfl (by decide +kernel) (by first | rfl | decide +kernel) (by first | rfl | decide +kernel) (Nat.le_of_ble_eq_true rfl) d_LE_startAnew_10 (fun H locs hP hD hS => ?_)
  replace hP : va_P D vwCl [(h0, .inr (7, [.ref lo, .ref lr, .ref lb, .int (nI 0), .ref lf])), (lf, .inl (cB, 200, .inl f2)), (lo, .inl (cI, 200, .inl (fun _ => ((-1)))))] H := hP
  replace hD : va_D A [(h0, .inr (7, [.ref lo, .ref lr, .ref lb, .int (nI 0), .ref lf])), (lf, .inl (cB, 200, .inl f2)), (lo, .inl (cI, 200, .inl (fun _ => ((-1)))))] := hD
  refine lv_aload_n hx hb d_LE_startAnew_13 rfl (lv_at hl 0 rfl) ?_
  refine xw_callV (C := R_LE) (wr := [(lo, .inl (cI, 200, .inl (fun _ => ((-1)))))]) [] (n_LE_emptySets l D cI cB cL cR h0 lo lr lb lf 0 f2) ⟨hx, hb, hml, hown, hU⟩ (cwV 0 hU (xs_goodV uw_421 uw_422 uw_423 uw_7 uw_424) rfl rfl rfl (by decide +kernel) ⟨Nat.le_of_ble_eq_true rfl, Nat.le_of_ble_eq_true rfl⟩) 0 rfl rfl rfl rfl hl.1 rfl (Nat.le_of_ble_eq_true rfl) d_LE_startAnew_14 ⟨Nat.le_of_ble_eq_true rfl, Nat.le_of_ble_eq_true rfl⟩ [0, 1] [2] rfl rfl (by decide +kernel) (by decide +kernel) (by decide +kernel) hN hK hP hD hS hA (fun u H locs hf hP hD hS => ?_)
  replace hP : va_P D vwCl [(lo, .inl (cI, 200, .inl (fun _ => ((-1))))), (h0, .inr (7, [.ref lo, .ref lr, .ref lb, .int (nI 0), .ref lf])), (lf, .inl (cB, 200, .inl (fun _ => nI 0)))] H := hP
  replace hD : va_D A [(lo, .inl (cI, 200, .inl (fun _ => ((-1))))), (h0, .inr (7, [.ref lo, .ref lr, .ref lb, .int (nI 0), .ref lf])), (lf, .inl (cB, 200, .inl (fun _ => nI 0)))] := hD
  refine W.widen (k := 0) (n := 0) (Nat.le_of_ble_eq_true rfl) (Nat.le_of_ble_eq_true rfl) ?_
  refine W.eq (g2 := F0 m 17 ls []) rfl ?_
  have hP9 := xs_P_sub (w := [(h0, .inr (7, [.ref lo, .ref lr, .ref lb, .int (nI 0), .ref lf])), (lo, .inl (cI, 200, .inl (fun _ => ((-1))))), (lf, .inl (cB, 200, .inl (fun _ => nI 0)))]) hP [1, 0, 2] rfl
  have hD9 := hD.sub (ws' := [(h0, .inr (7, [.ref lo, .ref lr, .ref lb, .int (nI 0), .ref lf])), (lo, .inl (cI, 200, .inl (fun _ => ((-1))))), (lf, .inl (cB, 200, .inl (fun _ => nI 0)))]) [1, 0, 2] (by decide +kernel) rfl
  exact xw_vret () hx hb hr hlocks d_LE_startAnew_17 (rfl) (trivial) hAe hP9 hD9 hS (Nat.le_of_ble_eq_true rfl) (Nat.le_of_ble_eq_true rfl)
set_option maxHeartbeats 4000000 in
set_option maxRecDepth 100000 in
/-- cameInAll -/
theorem n_LE_cameInAll (l : Launch) (D : va_G) (cI cB cL cR : ClassId) (h0 : Nat) (lo : Nat) (lr : Nat) (lb : Nat) (lf : Nat) (lv : Nat) (gb : Nat → Nat) (hlv : lv ≤ 200) (hgb : ∀ j, gb j < 201) : xG (σ := Nat) l y_LE_cameInAll w_LE_cameInAll ({ frames := 0, cells := 0, slots := 0, locals := 0  } : Room) D vwCl (xs_tys cI cB cL cR) [.ref h0] [(h0, .inr (7, [.ref lo, .ref lr, .ref lb, .int (nI lv), .ref lf])), (lb, .inl (cI, 201, .inl (xs_G gb)))] (fun v => (v = gb lv)) (fun v => some (.int (nI v))) (fun v => [(h0, .inr (7, [.ref lo, .ref lr, .ref lb, .int (nI lv), .ref lf])), (lb, .inl (cI, 201, .inl (xs_G gb)))]) := by
  refine xG.of b_LE_cameInAll 1 (some .int) (by decide +kernel) rfl (Nat.le_of_ble_eq_true rfl) ?_
  intro p e s m below meth c A ls hAe C0 hP hD hS hl
  obtain ⟨hx, hb, hr, hml, hown, hlocks, hts, hnm, hN, hK, hA⟩ := C0
  have hU : ∀ w ∈ xU, w.before #[.ref h0] s = true := fun w h => hts w (List.mem_cons_of_mem _ h)
  have hl : lv_has ls 1 [(0, .ref h0)] := hl
  refine lv_aload_n hx hb d_LE_cameInAll_0 rfl (lv_at hl 0 rfl) ?_
  refine va_get (D := D) (a := h0) (fs := [.ref lo, .ref lr, .ref lb, .int (nI lv), .ref lf]) (ci := 7) (v := .ref lb) (C := R_LE) (T := T_LE) (N := 5) hx hb hU iw_LE hown hK hP 0 rfl rfl 2 (by decide) (hU _ uw_131) (fun _ h9 => h9) rfl d_LE_cameInAll_1 ?_
  refine lv_aload_n hx hb d_LE_cameInAll_4 rfl (lv_at hl 0 rfl) ?_
  refine va_get (D := D) (a := h0) (fs := [.ref lo, .ref lr, .ref lb, .int (nI lv), .ref lf]) (ci := 7) (v := .int (nI lv)) (C := R_LE) (T := T_LE) (N := 5) hx hb hU iw_LE hown hK hP 0 rfl rfl 3 (by decide) (hU _ uw_135) (fun _ h9 => h9) rfl d_LE_cameInAll_5 ?_
  refine xw_ildN hx hb hK hP 1 0 rfl rfl (by omega) (by decide) d_LE_cameInAll_8 ?_
  have hv_1 := hgb lv
  have hP9 := xs_P_sub (w := [(h0, .inr (7, [.ref lo, .ref lr, .ref lb, .int (nI lv), .ref lf])), (lb, .inl (cI, 201, .inl (xs_G gb)))]) hP [0, 1] rfl
  have hD9 := hD.sub (ws' := [(h0, .inr (7, [.ref lo, .ref lr, .ref lb, .int (nI lv), .ref lf])), (lb, .inl (cI, 201, .inl (xs_G gb)))]) [0, 1] (by decide +kernel) rfl
  exact xw_iret (gb lv) hx hb hr hlocks d_LE_cameInAll_9 (rfl) (rfl) hAe hP9 hD9 hS (Nat.le_of_ble_eq_true rfl) (Nat.le_of_ble_eq_true rfl)
set_option maxHeartbeats 4000000 in
set_option maxRecDepth 100000 in
/-- putIntoSet -/
theorem n_LE_putIntoSet (l : Launch) (D : va_G) (cI cB cL cR : ClassId) (h0 : Nat) (lo : Nat) (lr : Nat) (lb : Nat) (lf : Nat) (lv : Nat) (f1 : Nat → Int32) (f2 : Nat → Int32) (sx : Nat) (hsx : sx < 200) : xG (σ := (Nat → Int32)) l y_LE_putIntoSet w_LE_putIntoSet ({ frames := 0, cells := 0, slots := 0, locals := 0  } : Room) D vwCl (xs_tys cI cB cL cR) [.ref h0, .int (nI sx)] [(h0, .inr (7, [.ref lo, .ref lr, .ref lb, .int (nI lv), .ref lf])), (lo, .inl (cI, 200, .inl f1)), (lf, .inl (cB, 200, .inl f2))] (fun f3 => (∀ j, (f3 j = f2 j) ∨ (f3 j = 1 ∧ f1 j = (-1))) ∧ (cx_set f1 f2 f3 sx)) (fun f3 => none) (fun f3 => [(h0, .inr (7, [.ref lo, .ref lr, .ref lb, .int (nI lv), .ref lf])), (lo, .inl (cI, 200, .inl f1)), (lf, .inl (cB, 200, .inl f3))]) := by
  refine xG.of b_LE_putIntoSet 2 (none) (by decide +kernel) rfl (Nat.le_of_ble_eq_true rfl) ?_
  intro p e s m below meth c A ls hAe C0 hP hD hS hl
  obtain ⟨hx, hb, hr, hml, hown, hlocks, hts, hnm, hN, hK, hA⟩ := C0
  have hU : ∀ w ∈ xU, w.before #[.ref h0, .int (nI sx)] s = true := fun w h => hts w (List.mem_cons_of_mem _ h)
  have hl : lv_has ls 2 [(0, .ref h0), (1, .int (nI sx))] := hl
  refine lv_aload_n hx hb d_LE_putIntoSet_0 rfl (lv_at hl 0 rfl) ?_
  refine va_get (D := D) (a := h0) (fs := [.ref lo, .ref lr, .ref lb, .int (nI lv), .ref lf]) (ci := 7) (v := .ref lo) (C := R_LE) (T := T_LE) (N := 5) hx hb hU iw_LE hown hK hP 0 rfl rfl 0 (by decide) (hU _ uw_125) (fun _ h9 => h9) rfl d_LE_putIntoSet_1 ?_
  refine lv_iload_n hx hb d_LE_putIntoSet_4 rfl (lv_at hl 1 rfl) ?_
  refine xw_ild hx hb hK hP 1 0 rfl rfl (by omega) (by decide) d_LE_putIntoSet_5 ?_
  refine lv_iconst (v := (-1)) hx hb d_LE_putIntoSet_6 (by decide +kernel) ?_
  refine lv_icmp_ne (tgt := 17) hx hb d_LE_putIntoSet_7 (by decide) (fun c_7 => ?_) (fun c_7 => ?_)
  · have hP9 := xs_P_sub (w := [(h0, .inr (7, [.ref lo, .ref lr, .ref lb, .int (nI lv), .ref lf])), (lo, .inl (cI, 200, .inl f1)), (lf, .inl (cB, 200, .inl f2))]) hP [0, 1, 2] rfl
    have hD9 := hD.sub (ws' := [(h0, .inr (7, [.ref lo, .ref lr, .ref lb, .int (nI lv), .ref lf])), (lo, .inl (cI, 200, .inl f1)), (lf, .inl (cB, 200, .inl f2))]) [0, 1, 2] (by decide +kernel) rfl
    exact xw_vret f2 hx hb hr hlocks d_LE_putIntoSet_17 (rfl) (⟨fun j => by first | exact Or.inl rfl | exact if h9 : j = sx then Or.inr ⟨by rw [h9, pk_us]; rfl, by rw [h9]; exact c_7⟩ else Or.inl (pk_un h9), by first | exact ⟨fun _ h => h, fun _ h => Or.inl h, Or.inl c_7⟩ | exact cx_set_up c_7⟩) hAe hP9 hD9 hS (Nat.le_of_ble_eq_true rfl) (Nat.le_of_ble_eq_true rfl)
  · refine lv_aload_n hx hb d_LE_putIntoSet_10 rfl (lv_at hl 0 rfl) ?_
    refine va_get (D := D) (a := h0) (fs := [.ref lo, .ref lr, .ref lb, .int (nI lv), .ref lf]) (ci := 7) (v := .ref lf) (C := R_LE) (T := T_LE) (N := 5) hx hb hU iw_LE hown hK hP 0 rfl rfl 4 (by decide) (hU _ uw_138) (fun _ h9 => h9) rfl d_LE_putIntoSet_11 ?_
    refine lv_iload_n hx hb d_LE_putIntoSet_14 rfl (lv_at hl 1 rfl) ?_
    refine lv_iconst (v := nI 1) hx hb d_LE_putIntoSet_15 (by decide +kernel) ?_
    refine xw_zst hx hb hK hP hD hS 2 1 rfl rfl (by first | exact Or.inl rfl | exact Or.inr rfl) (by omega) (by decide) d_LE_putIntoSet_16 (fun H locs hP hD hS => ?_)
    replace hP : va_P D vwCl [(h0, .inr (7, [.ref lo, .ref lr, .ref lb, .int (nI lv), .ref lf])), (lo, .inl (cI, 200, .inl f1)), (lf, .inl (cB, 200, .inl (upd f2 sx (nI 1))))] H := hP
    replace hD : va_D A [(h0, .inr (7, [.ref lo, .ref lr, .ref lb, .int (nI lv), .ref lf])), (lo, .inl (cI, 200, .inl f1)), (lf, .inl (cB, 200, .inl (upd f2 sx (nI 1))))] := hD
    have hP9 := xs_P_sub (w := [(h0, .inr (7, [.ref lo, .ref lr, .ref lb, .int (nI lv), .ref lf])), (lo, .inl (cI, 200, .inl f1)), (lf, .inl (cB, 200, .inl (upd f2 sx (nI 1))))]) hP [0, 1, 2] rfl
    have hD9 := hD.sub (ws' := [(h0, .inr (7, [.ref lo, .ref lr, .ref lb, .int (nI lv), .ref lf])), (lo, .inl (cI, 200, .inl f1)), (lf, .inl (cB, 200, .inl (upd f2 sx (nI 1))))]) [0, 1, 2] (by decide +kernel) rfl
    exact xw_vret (upd f2 sx (nI 1)) hx hb hr hlocks d_LE_putIntoSet_17 (rfl) (⟨fun j => by first | exact Or.inl rfl | exact if h9 : j = sx then Or.inr ⟨by rw [h9, pk_us]; rfl, by rw [h9]; exact c_7⟩ else Or.inl (pk_un h9), by first | exact ⟨fun _ h => h, fun _ h => Or.inl h, Or.inl c_7⟩ | exact cx_set_up c_7⟩) hAe hP9 hD9 hS (Nat.le_of_ble_eq_true rfl) (Nat.le_of_ble_eq_true rfl)
