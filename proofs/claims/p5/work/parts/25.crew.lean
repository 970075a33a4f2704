set_option maxHeartbeats 4000000 in
set_option maxRecDepth 100000 in
/-- Crew.has -/
theorem n_CR_has (l : Launch) (D : va_G) (cI cB cL cR : ClassId) (h0 : Nat) (wk : Nat) (cf : Nat) (cl : Nat) (ct : Nat) (ck : Nat) (cs : Nat) (lw : Value) (att : Value) (k : Int32) (hw : wk ≤ 16) : xR (σ := Int32) l y_CR_has w_CR_has ({ frames := 0, cells := 0, slots := 0, locals := 0  } : Room) D vwCl (xs_tys cI cB cL cR) [.ref h0, .int k] [(h0, .inr (4, [.int (nI wk), .ref cf, .ref cl, .ref ct, .ref ck, .ref cs, lw, att]))] (fun v => ((v = 0 ∧ (k < 0 ∨ nI wk ≤ k)) ∨ ∃ j, v = 1 ∧ j < wk ∧ k = nI j)) (fun v => some (.int v)) := by
  refine xR.of b_CR_has 2 (some .boolean) (by decide +kernel) rfl (Nat.le_of_ble_eq_true rfl) ?_
  intro p e s m below meth c A ls hAe C0 hP hD hS hl
  obtain ⟨hx, hb, hr, hml, hown, hlocks, hts, hnm, hN, hK, hA⟩ := C0
  have hU : ∀ w ∈ xU, w.before #[.ref h0, .int k] s = true := fun w h => hts w (List.mem_cons_of_mem _ h)
  have hl : lv_has ls 2 [(0, .ref h0), (1, .int k)] := hl
  refine lv_iload_n hx hb d_CR_has_0 rfl (lv_at hl 1 rfl) ?_
  refine lv_if_lt (tgt := 16) hx hb d_CR_has_1 (by decide) (fun c_1 => ?_) (fun c_1 => ?_)
  · refine lv_iconst (v := nI 0) hx hb d_CR_has_16 (by decide +kernel) ?_
    have hP9 : va_P D vwCl [] _ := xs_P_nil (H := s.heap)
    have hD9 : va_D A [] := xs_D_nil
    exact xw_zret (nI 0) (by first | exact Or.inl rfl | exact Or.inr rfl) hx hb hr hlocks d_CR_has_17 (rfl) (by first | exact Or.inl ⟨rfl, Or.inl c_1⟩ | exact Or.inl ⟨rfl, Or.inr c_9⟩ | (rcases pk_ix k (n := wk) (by omega) with h9 | h9 | ⟨j, h8, h9⟩; exact absurd h9 c_1; exact absurd h9 c_9; exact Or.inr ⟨j, rfl, h8, h9⟩)) hAe hP9 hD9 hS (Nat.le_of_ble_eq_true rfl) (Nat.le_of_ble_eq_true rfl)
  · refine lv_iload_n hx hb d_CR_has_4 rfl (lv_at hl 1 rfl) ?_
    refine lv_aload_n hx hb d_CR_has_5 rfl (lv_at hl 0 rfl) ?_
    refine va_get (D := D) (a := h0) (fs := [.int (nI wk), .ref cf, .ref cl, .ref ct, .ref ck, .ref cs, lw, att]) (ci := 4) (v := .int (nI wk)) (C := R_CR) (T := T_CR) (N := 8) hx hb hU iw_CR hown hK hP 0 rfl rfl 0 (by decide) (hU _ uw_202) (fun _ h9 => h9) rfl d_CR_has_6 ?_
    refine lv_icmp_ge (tgt := 16) hx hb d_CR_has_9 (by decide) (fun c_9 => ?_) (fun c_9 => ?_)
    · refine lv_iconst (v := nI 0) hx hb d_CR_has_16 (by decide +kernel) ?_
      have hP9 : va_P D vwCl [] _ := xs_P_nil (H := s.heap)
      have hD9 : va_D A [] := xs_D_nil
      exact xw_zret (nI 0) (by first | exact Or.inl rfl | exact Or.inr rfl) hx hb hr hlocks d_CR_has_17 (rfl) (by first | exact Or.inl ⟨rfl, Or.inl c_1⟩ | exact Or.inl ⟨rfl, Or.inr c_9⟩ | (rcases pk_ix k (n := wk) (by omega) with h9 | h9 | ⟨j, h8, h9⟩; exact absurd h9 c_1; exact absurd h9 c_9; exact Or.inr ⟨j, rfl, h8, h9⟩)) hAe hP9 hD9 hS (Nat.le_of_ble_eq_true rfl) (Nat.le_of_ble_eq_true rfl)
    · refine lv_iconst (v := nI 1) hx hb d_CR_has_12 (by decide +kernel) ?_
      refine lv_goto (tgt := 17) hx hb d_CR_has_13 (by decide) ?_
      have hP9 : va_P D vwCl [] _ := xs_P_nil (H := s.heap)
      have hD9 : va_D A [] := xs_D_nil
      exact xw_zret (nI 1) (by first | exact Or.inl rfl | exact Or.inr rfl) hx hb hr hlocks d_CR_has_17 (rfl) (by first | exact Or.inl ⟨rfl, Or.inl c_1⟩ | exact Or.inl ⟨rfl, Or.inr c_9⟩ | (rcases pk_ix k (n := wk) (by omega) with h9 | h9 | ⟨j, h8, h9⟩; exact absurd h9 c_1; exact absurd h9 c_9; exact Or.inr ⟨j, rfl, h8, h9⟩)) hAe hP9 hD9 hS (Nat.le_of_ble_eq_true rfl) (Nat.le_of_ble_eq_true rfl)
set_option maxHeartbeats 4000000 in
set_option maxRecDepth 100000 in
/-- Crew.startAnew -/
theorem n_CR_startAnew (l : Launch) (D : va_G) (cI cB cL cR : ClassId) (h0 : Nat) (wk : Nat) (cf : Nat) (cl : Nat) (ct : Nat) (ck : Nat) (cs : Nat) (lw : Value) (att : Value) (f1 : Nat → Int32) (f2 : Nat → Int32) (f3 : Nat → Int32) (f4 : Nat → Int32)  : xG (σ := Unit) l y_CR_startAnew w_CR_startAnew ({ frames := 1, cells := 0, slots := 0, locals := 23  } : Room) D vwCl (xs_tys cI cB cL cR) [.ref h0] [(h0, .inr (4, [.int (nI wk), .ref cf, .ref cl, .ref ct, .ref ck, .ref cs, lw, att])), (cl, .inl (cB, 16, .inl f1)), (ct, .inl (cI, 16, .inl f2)), (ck, .inl (cI, 16, .inl f3)), (cs, .inl (cI, 16, .inl f4))] (fun _ => True) (fun _ => none) (fun _ => [(h0, .inr (4, [.int (nI wk), .ref cf, .ref cl, .ref ct, .ref ck, .ref cs, .int (nI wk), .int (nI 0)])), (cl, .inl (cB, 16, .inl (fun _ => nI 1))), (ct, .inl (cI, 16, .inl (fun _ => nI 0))), (ck, .inl (cI, 16, .inl (fun _ => nI 0))), (cs, .inl (cI, 16, .inl (fun _ => nI 0)))]) := by
  refine xG.of b_CR_startAnew 1 (none) (by decide +kernel) rfl (Nat.le_of_ble_eq_true rfl) ?_
  intro p e s m below meth c A ls hAe C0 hP hD hS hl
  obtain ⟨hx, hb, hr, hml, hown, hlocks, hts, hnm, hN, hK, hA⟩ := C0
  have hU : ∀ w ∈ xU, w.before #[.ref h0] s = true := fun w h => hts w (List.mem_cons_of_mem _ h)
  have hl : lv_has ls 1 [(0, .ref h0)] := hl
  refine lv_aload_n hx hb d_CR_startAnew_0 rfl (lv_at hl 0 rfl) ?_
  refine va_get (D := D) (a := h0) (fs := [.int (nI wk), .ref cf, .ref cl, .ref ct, .ref ck, .ref cs, lw, att]) (ci := 4) (v := .ref cl) (C := R_CR) (T := T_CR) (N := 8) hx hb hU iw_CR hown hK hP 0 rfl rfl 2 (by decide) (hU _ uw_206) (fun _ h9 => h9) rfl d_CR_startAnew_1 ?_
  refine lv_iconst (v := nI 1) hx hb d_CR_startAnew_4 (by decide +kernel) ?_
  refine xw_callSN (wr := [(h0, .inr (4, [.int (nI wk), .ref cf, .ref cl, .ref ct, .ref ck, .ref cs, lw, att])), (ct, .inl (cI, 16, .inl f2)), (ck, .inl (cI, 16, .inl f3)), (cs, .inl (cI, 16, .inl f4))]) [.ref cl, .int (nI 1)] (n_fillFlags l D cI cB cL cR cl 16 f1 (nI 1) (by decide) (by first | exact Or.inl rfl | exact Or.inr rfl)) ⟨hx, hb, hml, hown, hU⟩ ⟨va_cnB 2 hU (xs_good uw_192) rfl rfl rfl (hN _ nw_190) (hU _ uw_1) (by decide +kernel) ⟨Nat.le_of_ble_eq_true rfl, Nat.le_of_ble_eq_true rfl⟩, hU _ uw_191, trivial⟩ rfl hl.1 rfl (Nat.le_of_ble_eq_true rfl) d_CR_startAnew_5 ⟨Nat.le_of_ble_eq_true rfl, Nat.le_of_ble_eq_true rfl⟩ [1] [0, 2, 3, 4] rfl rfl (by decide +kernel) (by decide +kernel) (by decide +kernel) hN hK hP hD hS hA (fun u H locs hf hP hD hS => ?_)
  replace hP : va_P D vwCl [(h0, .inr (4, [.int (nI wk), .ref cf, .ref cl, .ref ct, .ref ck, .ref cs, lw, att])), (ct, .inl (cI, 16, .inl f2)), (ck, .inl (cI, 16, .inl f3)), (cs, .inl (cI, 16, .inl f4)), (cl, .inl (cB, 16, .inl (fun _ => (nI 1))))] H := hP
  replace hD : va_D A [(h0, .inr (4, [.int (nI wk), .ref cf, .ref cl, .ref ct, .ref ck, .ref cs, lw, att])), (ct, .inl (cI, 16, .inl f2)), (ck, .inl (cI, 16, .inl f3)), (cs, .inl (cI, 16, .inl f4)), (cl, .inl (cB, 16, .inl (fun _ => (nI 1))))] := hD
  refine W.widen (k := 0) (n := 0) (Nat.le_of_ble_eq_true rfl) (Nat.le_of_ble_eq_true rfl) ?_
  refine W.eq (g2 := F0 m 8 ls []) rfl ?_
  refine lv_aload_n hx hb d_CR_startAnew_8 rfl (lv_at hl 0 rfl) ?_
  refine va_get (D := D) (a := h0) (fs := [.int (nI wk), .ref cf, .ref cl, .ref ct, .ref ck, .ref cs, lw, att]) (ci := 4) (v := .ref ct) (C := R_CR) (T := T_CR) (N := 8) hx hb hU iw_CR hown hK hP 0 rfl rfl 3 (by decide) (hU _ uw_208) (fun _ h9 => h9) rfl d_CR_startAnew_9 ?_
  refine lv_iconst (v := nI 0) hx hb d_CR_startAnew_12 (by decide +kernel) ?_
  refine xw_callS (wr := [(h0, .inr (4, [.int (nI wk), .ref cf, .ref cl, .ref ct, .ref ck, .ref cs, lw, att])), (ck, .inl (cI, 16, .inl f3)), (cs, .inl (cI, 16, .inl f4)), (cl, .inl (cB, 16, .inl (fun _ => (nI 1))))]) [.ref ct, .int (nI 0)] (n_fill l D cI cB cL cR ct 16 f2 (nI 0) (by decide)) ⟨hx, hb, hml, hown, hU⟩ (va_cwS 2 hU (xs_goodS uw_416 uw_123 uw_8 uw_124) rfl rfl rfl (by decide +kernel) ⟨Nat.le_of_ble_eq_true rfl, Nat.le_of_ble_eq_true rfl⟩) rfl hl.1 rfl (Nat.le_of_ble_eq_true rfl) d_CR_startAnew_13 ⟨Nat.le_of_ble_eq_true rfl, Nat.le_of_ble_eq_true rfl⟩ [1] [0, 2, 3, 4] rfl rfl (by decide +kernel) (by decide +kernel) (by decide +kernel) hN hK hP hD hS hA (fun u H locs hf hP hD hS => ?_)
  replace hP : va_P D vwCl [(h0, .inr (4, [.int (nI wk), .ref cf, .ref cl, .ref ct, .ref ck, .ref cs, lw, att])), (ck, .inl (cI, 16, .inl f3)), (cs, .inl (cI, 16, .inl f4)), (cl, .inl (cB, 16, .inl (fun _ => (nI 1)))), (ct, .inl (cI, 16, .inl (fun _ => (nI 0))))] H := hP
  replace hD : va_D A [(h0, .inr (4, [.int (nI wk), .ref cf, .ref cl, .ref ct, .ref ck, .ref cs, lw, att])), (ck, .inl (cI, 16, .inl f3)), (cs, .inl (cI, 16, .inl f4)), (cl, .inl (cB, 16, .inl (fun _ => (nI 1)))), (ct, .inl (cI, 16, .inl (fun _ => (nI 0))))] := hD
  refine W.widen (k := 0) (n := 0) (Nat.le_of_ble_eq_true rfl) (Nat.le_of_ble_eq_true rfl) ?_
  refine W.eq (g2 := F0 m 16 ls []) rfl ?_
  refine lv_aload_n hx hb d_CR_startAnew_16 rfl (lv_at hl 0 rfl) ?_
  refine va_get (D := D) (a := h0) (fs := [.int (nI wk), .ref cf, .ref cl, .ref ct, .ref ck, .ref cs, lw, att]) (ci := 4) (v := .ref ck) (C := R_CR) (T := T_CR) (N := 8) hx hb hU iw_CR hown hK hP 0 rfl rfl 4 (by decide) (hU _ uw_210) (fun _ h9 => h9) rfl d_CR_startAnew_17 ?_
  refine lv_iconst (v := nI 0) hx hb d_CR_startAnew_20 (by decide +kernel) ?_
  refine xw_callS (wr := [(h0, .inr (4, [.int (nI wk), .ref cf, .ref cl, .ref ct, .ref ck, .ref cs, lw, att])), (cs, .inl (cI, 16, .inl f4)), (cl, .inl (cB, 16, .inl (fun _ => (nI 1)))), (ct, .inl (cI, 16, .inl (fun _ => (nI 0))))]) [.ref ck, .int (nI 0)] (n_fill l D cI cB cL cR ck 16 f3 (nI 0) (by decide)) ⟨hx, hb, hml, hown, hU⟩ (va_cwS 2 hU (xs_goodS uw_416 uw_123 uw_8 uw_124) rfl rfl rfl (by decide +kernel) ⟨Nat.le_of_ble_eq_true rfl, Nat.le_of_ble_eq_true rfl⟩) rfl hl.1 rfl (Nat.le_of_ble_eq_true rfl) d_CR_startAnew_21 ⟨Nat.le_of_ble_eq_true rfl, Nat.le_of_ble_eq_true rfl⟩ [1] [0, 2, 3, 4] rfl rfl (by decide +kernel) (by decide +kernel) (by decide +kernel) hN hK hP hD hS hA (fun u H locs hf hP hD hS => ?_)
  replace hP : va_P D vwCl [(h0, .inr (4, [.int (nI wk), .ref cf, .ref cl, .ref ct, .ref ck, .ref cs, lw, att])), (cs, .inl (cI, 16, .inl f4)), (cl, .inl (cB, 16, .inl (fun _ => (nI 1)))), (ct, .inl (cI, 16, .inl (fun _ => (nI 0)))), (ck, .inl (cI, 16, .inl (fun _ => (nI 0))))] H := hP
  replace hD : va_D A [(h0, .inr (4, [.int (nI wk), .ref cf, .ref cl, .ref ct, .ref ck, .ref cs, lw, att])), (cs, .inl (cI, 16, .inl f4)), (cl, .inl (cB, 16, .inl (fun _ => (nI 1)))), (ct, .inl (cI, 16, .inl (fun _ => (nI 0)))), (ck, .inl (cI, 16, .inl (fun _ => (nI 0))))] := hD
  refine W.widen (k := 0) (n := 0) (Nat.le_of_ble_eq_true rfl) (Nat.le_of_ble_eq_true rfl) ?_
  refine W.eq (g2 := F0 m 24 ls []) rfl ?_
  refine lv_aload_n hx hb d_CR_startAnew_24 rfl (lv_at hl 0 rfl) ?_
  refine va_get (D := D) (a := h0) (fs := [.int (nI wk), .ref cf, .ref cl, .ref ct, .ref ck, .ref cs, lw, att]) (ci := 4) (v := .ref cs) (C := R_CR) (T := T_CR) (N := 8) hx hb hU iw_CR hown hK hP 0 rfl rfl 5 (by decide) (hU _ uw_213) (fun _ h9 => h9) rfl d_CR_startAnew_25 ?_
  refine lv_iconst (v := nI 0) hx hb d_CR_startAnew_28 (by decide +kernel) ?_
  refine xw_callS (wr := [(h0, .inr (4, [.int (nI wk), .ref cf, .ref cl, .ref ct, .ref ck, .ref cs, lw, att])), (cl, .inl (cB, 16, .inl (fun _ => (nI 1)))), (ct, .inl (cI, 16, .inl (fun _ => (nI 0)))), (ck, .inl (cI, 16, .inl (fun _ => (nI 0))))]) [.ref cs, .int (nI 0)] (n_fill l D cI cB cL cR cs 16 f4 (nI 0) (by decide)) ⟨hx, hb, hml, hown, hU⟩ (va_cwS 2 hU (xs_goodS uw_416 uw_123 uw_8 uw_124) rfl rfl rfl (by decide +kernel) ⟨Nat.le_of_ble_eq_true rfl, Nat.le_of_ble_eq_true rfl⟩) rfl hl.1 rfl (Nat.le_of_ble_eq_true rfl) d_CR_startAnew_29 ⟨Nat.le_of_ble_eq_true rfl, Nat.le_of_ble_eq_true rfl⟩ [1] [0, 2, 3, 4] rfl rfl (by decide +kernel) (by decide +kernel) (by decide +kernel) hN hK hP hD hS hA (fun u H locs hf hP hD hS => ?_)
  replace hP : va_P D vwCl [(h0, .inr (4, [.int (nI wk), .ref cf, .ref cl, .ref ct, .ref ck, .ref cs, lw, att])), (cl, .inl (cB, 16, .inl (fun _ => (nI 1)))), (ct, .inl (cI, 16, .inl (fun _ => (nI 0)))), (ck, .inl (cI, 16, .inl (fun _ => (nI 0)))), (cs, .inl (cI, 16, .inl (fun _ => (nI 0))))] H := hP
  replace hD : va_D A [(h0, .inr (4, [.int (nI wk), .ref cf, .ref cl, .ref ct, .ref ck, .ref cs, lw, att])), (cl, .inl (cB, 16, .inl (fun _ => (nI 1)))), (ct, .inl (cI, 16, .inl (fun _ => (nI 0)))), (ck, .inl (cI, 16, .inl (fun _ => (nI 0)))), (cs, .inl (cI, 16, .inl (fun _ => (nI 0))))] := hD
  refine W.widen (k := 0) (n := 0) (Nat.le_of_ble_eq_true rfl) (Nat.le_of_ble_eq_true rfl) ?_
  refine W.eq (g2 := F0 m 32 ls []) rfl ?_
  refine lv_aload_n hx hb d_CR_startAnew_32 rfl (lv_at hl 0 rfl) ?_
  refine lv_aload_n hx hb d_CR_startAnew_33 rfl (lv_at hl 0 rfl) ?_
  refine va_get (D := D) (a := h0) (fs := [.int (nI wk), .ref cf, .ref cl, .ref ct, .ref ck, .ref cs, lw, att]) (ci := 4) (v := .int (nI wk)) (C := R_CR) (T := T_CR) (N := 8) hx hb hU iw_CR hown hK hP 0 rfl rfl 0 (by decide) (hU _ uw_202) (fun _ h9 => h9) rfl d_CR_startAnew_34 ?_
  refine va_put (D := D) (ci := 4) (v := .int (nI wk)) (ty := .int) (C := R_CR) (T := T_CR) (N := 8) hx hb hU iw_CR ty_CR ty_CR_ok nm_CR hown hK hP hD hS 0 rfl rfl 6 (by decide) (hU _ uw_216) (fun _ h9 => h9) rfl (by decide +kernel) (by first | rfl | decide +kernel) (by first | rfl | decide +kernel) (Nat.le_of_ble_eq_true rfl) d_CR_startAnew_37 (fun H locs hP hD hS => ?_)
  replace hP : va_P D vwCl [(h0, .inr (4, [.int (nI wk), .ref cf, .ref cl, .ref ct, .ref ck, .ref cs, .int (nI wk), att])), (cl, .inl (cB, 16, .inl (fun _ => (nI 1)))), (ct, .inl (cI, 16, .inl (fun _ => (nI 0)))), (ck, .inl (cI, 16, .inl (fun _ => (nI 0)))), (cs, .inl (cI, 16, .inl (fun _ => (nI 0))))] H := hP
  replace hD : va_D A [(h0, .inr (4, [.int (nI wk), .ref cf, .ref cl, .ref ct, .ref ck, .ref cs, .int (nI wk), att])), (cl, .inl (cB, 16, .inl (fun _ => (nI 1)))), (ct, .inl (cI, 16, .inl (fun _ => (nI 0)))), (ck, .inl (cI, 16, .inl (fun _ => (nI 0)))), (cs, .inl (cI, 16, .inl (fun _ => (nI 0))))] := hD
  refine lv_aload_n hx hb d_CR_startAnew_40 rfl (lv_at hl 0 rfl) ?_
  refine lv_iconst (v := nI 0) hx hb d_CR_startAnew_41 (by decide +kernel) ?_
  refine va_put (D := D) (ci := 4) (v := .int (nI 0)) (ty := .int) (C := R_CR) (T := T_CR) (N := 8) hx hb hU iw_CR ty_CR ty_CR_ok nm_CR hown hK hP hD hS 0 rfl rfl 7 (by decide) (hU _ uw_219) (fun _ h9 => h9) rfl (by decide +kernel) (by first | rfl | decide +kernel) (by first | rfl | decide +kernel) (Nat.le_of_ble_eq_true rfl) d_CR_startAnew_42 (fun H locs hP hD hS => ?_)
  replace hP : va_P D vwCl [(h0, .inr (4, [.int (nI wk), .ref cf, .ref cl, .ref ct, .ref ck, .ref cs, .int (nI wk), .int (nI 0)])), (cl, .inl (cB, 16, .inl (fun _ => (nI 1)))), (ct, .inl (cI, 16, .inl (fun _ => (nI 0)))), (ck, .inl (cI, 16, .inl (fun _ => (nI 0)))), (cs, .inl (cI, 16, .inl (fun _ => (nI 0))))] H := hP
  replace hD : va_D A [(h0, .inr (4, [.int (nI wk), .ref cf, .ref cl, .ref ct, .ref ck, .ref cs, .int (nI wk), .int (nI 0)])), (cl, .inl (cB, 16, .inl (fun _ => (nI 1)))), (ct, .inl (cI, 16, .inl (fun _ => (nI 0)))), (ck, .inl (cI, 16, .inl (fun _ => (nI 0)))), (cs, .inl (cI, 16, .inl (fun _ => (nI 0))))] := hD
  have hP9 := xs_P_sub (w := [(h0, .inr (4, [.int (nI wk), .ref cf, .ref cl, .ref ct, .ref ck, .ref cs, .int (nI wk), .int (nI 0)])), (cl, .inl (cB, 16, .inl (fun _ => (nI 1)))), (ct, .inl (cI, 16, .inl (fun _ => (nI 0)))), (ck, .inl (cI, 16, .inl (fun _ => (nI 0)))), (cs, .inl (cI, 16, .inl (fun _ => (nI 0))))]) hP [0, 1, 2, 3, 4] rfl
  have hD9 := hD.sub (ws' := [(h0, .inr (4, [.int (nI wk), .ref cf, .ref cl, .ref ct, .ref ck, .ref cs, .int (nI wk), .int (nI 0)])), (cl, .inl (cB, 16, .inl (fun _ => (nI 1)))), (ct, .inl (cI, 16, .inl (fun _ => (nI 0)))), (ck, .inl (cI, 16, .inl (fun _ => (nI 0)))), (cs, .inl (cI, 16, .inl (fun _ => (nI 0))))]) [0, 1, 2, 3, 4] (by decide +kernel) rfl
  exact xw_vret () hx hb hr hlocks d_CR_startAnew_45 (rfl) (trivial) hAe hP9 hD9 hS (Nat.le_of_ble_eq_true rfl) (Nat.le_of_ble_eq_true rfl)
set_option maxHeartbeats 4000000 in
set_option maxRecDepth 100000 in
/-- countTurn -/
theorem n_CR_countTurn (l : Launch) (D : va_G) (cI cB cL cR : ClassId) (h0 : Nat) (wk : Nat) (cf : Nat) (cl : Nat) (ct : Nat) (ck : Nat) (cs : Nat) (lw : Value) (att : Int32) (f2 : Nat → Int32) (w9 : Nat) (hw9 : w9 < 16) : xG (σ := Int32 × (Nat → Int32)) l y_CR_countTurn w_CR_countTurn ({ frames := 0, cells := 0, slots := 0, locals := 0  } : Room) D vwCl (xs_tys cI cB cL cR) [.ref h0, .int (nI w9)] [(h0, .inr (4, [.int (nI wk), .ref cf, .ref cl, .ref ct, .ref ck, .ref cs, lw, .int att])), (ct, .inl (cI, 16, .inl f2))] (fun (at1, f3) => True) (fun (at1, f3) => none) (fun (at1, f3) => [(h0, .inr (4, [.int (nI wk), .ref cf, .ref cl, .ref ct, .ref ck, .ref cs, lw, .int at1])), (ct, .inl (cI, 16, .inl f3))]) := by
  refine xG.of b_CR_countTurn 2 (none) (by decide +kernel) rfl (Nat.le_of_ble_eq_true rfl) ?_
  intro p e s m below meth c A ls hAe C0 hP hD hS hl
  obtain ⟨hx, hb, hr, hml, hown, hlocks, hts, hnm, hN, hK, hA⟩ := C0
  have hU : ∀ w ∈ xU, w.before #[.ref h0, .int (nI w9)] s = true := fun w h => hts w (List.mem_cons_of_mem _ h)
  have hl : lv_has ls 2 [(0, .ref h0), (1, .int (nI w9))] := hl
  refine lv_aload_n hx hb d_CR_countTurn_0 rfl (lv_at hl 0 rfl) ?_
  refine va_get (D := D) (a := h0) (fs := [.int (nI wk), .ref cf, .ref cl, .ref ct, .ref ck, .ref cs, lw, .int att]) (ci := 4) (v := .ref ct) (C := R_CR) (T := T_CR) (N := 8) hx hb hU iw_CR hown hK hP 0 rfl rfl 3 (by decide) (hU _ uw_208) (fun _ h9 => h9) rfl d_CR_countTurn_1 ?_
  refine lv_iload_n hx hb d_CR_countTurn_4 rfl (lv_at hl 1 rfl) ?_
  refine lv_dup2_11 hx hb d_CR_countTurn_5 rfl rfl ?_
  refine xw_ild hx hb hK hP 1 0 rfl rfl (by omega) (by decide) d_CR_countTurn_6 ?_
  refine lv_iconst (v := nI 1) hx hb d_CR_countTurn_7 (by decide +kernel) ?_
  refine lv_iadd hx hb d_CR_countTurn_8 ?_
  refine xw_ist hx hb hK hP hD hS 1 0 rfl rfl (by omega) (by decide) d_CR_countTurn_9 (fun H locs hP hD hS => ?_)
  replace hP : va_P D vwCl [(h0, .inr (4, [.int (nI wk), .ref cf, .ref cl, .ref ct, .ref ck, .ref cs, lw, .int att])), (ct, .inl (cI, 16, .inl (upd f2 w9 ((f2 w9) + (nI 1)))))] H := hP
  replace hD : va_D A [(h0, .inr (4, [.int (nI wk), .ref cf, .ref cl, .ref ct, .ref ck, .ref cs, lw, .int att])), (ct, .inl (cI, 16, .inl (upd f2 w9 ((f2 w9) + (nI 1)))))] := hD
  generalize upd f2 w9 ((f2 w9) + (nI 1)) = f_1 at hP hD
  replace hP : va_P D vwCl [(h0, .inr (4, [.int (nI wk), .ref cf, .ref cl, .ref ct, .ref ck, .ref cs, lw, .int att])), (ct, .inl (cI, 16, .inl f_1))] H := hP
  replace hD : va_D A [(h0, .inr (4, [.int (nI wk), .ref cf, .ref cl, .ref ct, .ref ck, .ref cs, lw, .int att])), (ct, .inl (cI, 16, .inl f_1))] := hD
  refine lv_aload_n hx hb d_CR_countTurn_10 rfl (lv_at hl 0 rfl) ?_
  refine lv_dup hx hb d_CR_countTurn_11 rfl ?_
  refine va_get (D := D) (a := h0) (fs := [.int (nI wk), .ref cf, .ref cl, .ref ct, .ref ck, .ref cs, lw, .int att]) (ci := 4) (v := .int att) (C := R_CR) (T := T_CR) (N := 8) hx hb hU iw_CR hown hK hP 0 rfl rfl 7 (by decide) (hU _ uw_219) (fun _ h9 => h9) rfl d_CR_countTurn_12 ?_
  refine lv_iconst (v := nI 1) hx hb d_CR_countTurn_15 (by decide +kernel) ?_
  refine lv_iadd hx hb d_CR_countTurn_16 ?_
  refine va_put (D := D) (ci := 4) (v := .int (att + (nI 1))) (ty := .int) (C := R_CR) (T := T_CR) (N := 8) hx hb hU iw_CR ty_CR ty_CR_ok nm_CR hown hK hP hD hS 0 rfl rfl 7 (by decide) (hU _ uw_219) (fun _ h9 => h9) rfl (by decide +kernel) (by first | rfl | decide +kernel) (by first | rfl | decide +kernel) (Nat.le_of_ble_eq_true rfl) d_CR_countTurn_17 (fun H locs hP hD hS => ?_)
  replace hP : va_P D vwCl [(h0, .inr (4, [.int (nI wk), .ref cf, .ref cl, .ref ct, .ref ck, .ref cs, lw, .int (att + (nI 1))])), (ct, .inl (cI, 16, .inl f_1))] H := hP
  replace hD : va_D A [(h0, .inr (4, [.int (nI wk), .ref cf, .ref cl, .ref ct, .ref ck, .ref cs, lw, .int (att + (nI 1))])), (ct, .inl (cI, 16, .inl f_1))] := hD
  have hP9 := xs_P_sub (w := [(h0, .inr (4, [.int (nI wk), .ref cf, .ref cl, .ref ct, .ref ck, .ref cs, lw, .int (att + (nI 1))])), (ct, .inl (cI, 16, .inl f_1))]) hP [0, 1] rfl
  have hD9 := hD.sub (ws' := [(h0, .inr (4, [.int (nI wk), .ref cf, .ref cl, .ref ct, .ref ck, .ref cs, lw, .int (att + (nI 1))])), (ct, .inl (cI, 16, .inl f_1))]) [0, 1] (by decide +kernel) rfl
  exact xw_vret (att + (nI 1), f_1) hx hb hr hlocks d_CR_countTurn_20 (rfl) (trivial) hAe hP9 hD9 hS (Nat.le_of_ble_eq_true rfl) (Nat.le_of_ble_eq_true rfl)
set_option maxHeartbeats 4000000 in
set_option maxRecDepth 100000 in
/-- lose -/
theorem n_CR_lose (l : Launch) (D : va_G) (cI cB cL cR : ClassId) (h0 : Nat) (wk : Nat) (cf : Nat) (cl : Nat) (ct : Nat) (ck : Nat) (cs : Nat) (lw : Int32) (att : Value) (f2 : Nat → Int32) (w9 : Nat) (hw9 : w9 < 16) : xG (σ := Int32 × (Nat → Int32)) l y_CR_lose w_CR_lose ({ frames := 0, cells := 0, slots := 0, locals := 0  } : Room) D vwCl (xs_tys cI cB cL cR) [.ref h0, .int (nI w9)] [(h0, .inr (4, [.int (nI wk), .ref cf, .ref cl, .ref ct, .ref ck, .ref cs, .int lw, att])), (cl, .inl (cB, 16, .inl f2))] (fun (lw1, f3) => (lw1 = lw - nI 1)) (fun (lw1, f3) => none) (fun (lw1, f3) => [(h0, .inr (4, [.int (nI wk), .ref cf, .ref cl, .ref ct, .ref ck, .ref cs, .int lw1, att])), (cl, .inl (cB, 16, .inl f3))]) := by
  refine xG.of b_CR_lose 2 (none) (by decide +kernel) rfl (Nat.le_of_ble_eq_true rfl) ?_
  intro p e s m below meth c A ls hAe C0 hP hD hS hl
  obtain ⟨hx, hb, hr, hml, hown, hlocks, hts, hnm, hN, hK, hA⟩ := C0
  have hU : ∀ w ∈ xU, w.before #[.ref h0, .int (nI w9)] s = true := fun w h => hts w (List.mem_cons_of_mem _ h)
  have hl : lv_has ls 2 [(0, .ref h0), (1, .int (nI w9))] := hl
  refine lv_aload_n hx hb d_CR_lose_0 rfl (lv_at hl 0 rfl) ?_
  refine va_get (D := D) (a := h0) (fs := [.int (nI wk), .ref cf, .ref cl, .ref ct, .ref ck, .ref cs, .int lw, att]) (ci := 4) (v := .ref cl) (C := R_CR) (T := T_CR) (N := 8) hx hb hU iw_CR hown hK hP 0 rfl rfl 2 (by decide) (hU _ uw_206) (fun _ h9 => h9) rfl d_CR_lose_1 ?_
  refine lv_iload_n hx hb d_CR_lose_4 rfl (lv_at hl 1 rfl) ?_
  refine lv_iconst (v := nI 0) hx hb d_CR_lose_5 (by decide +kernel) ?_
  refine xw_zst hx hb hK hP hD hS 1 1 rfl rfl (by first | exact Or.inl rfl | exact Or.inr rfl) (by omega) (by decide) d_CR_lose_6 (fun H locs hP hD hS => ?_)
  replace hP : va_P D vwCl [(h0, .inr (4, [.int (nI wk), .ref cf, .ref cl, .ref ct, .ref ck, .ref cs, .int lw, att])), (cl, .inl (cB, 16, .inl (upd f2 w9 (nI 0))))] H := hP
  replace hD : va_D A [(h0, .inr (4, [.int (nI wk), .ref cf, .ref cl, .ref ct, .ref ck, .ref cs, .int lw, att])), (cl, .inl (cB, 16, .inl (upd f2 w9 (nI 0))))] := hD
  generalize upd f2 w9 (nI 0) = f_1 at hP hD
  replace hP : va_P D vwCl [(h0, .inr (4, [.int (nI wk), .ref cf, .ref cl, .ref ct, .ref ck, .ref cs, .int lw, att])), (cl, .inl (cB, 16, .inl f_1))] H := hP
  replace hD : va_D A [(h0, .inr (4, [.int (nI wk), .ref cf, .ref cl, .ref ct, .ref ck, .ref cs, .int lw, att])), (cl, .inl (cB, 16, .inl f_1))] := hD
  refine lv_aload_n hx hb d_CR_lose_7 rfl (lv_at hl 0 rfl) ?_
  refine lv_dup hx hb d_CR_lose_8 rfl ?_
  refine va_get (D := D) (a := h0) (fs := [.int (nI wk), .ref cf, .ref cl, .ref ct, .ref ck, .ref cs, .int lw, att]) (ci := 4) (v := .int lw) (C := R_CR) (T := T_CR) (N := 8) hx hb hU iw_CR hown hK hP 0 rfl rfl 6 (by decide) (hU _ uw_216) (fun _ h9 => h9) rfl d_CR_lose_9 ?_
  refine lv_iconst (v := nI 1) hx hb d_CR_lose_12 (by decide +kernel) ?_
  refine lv_isub hx hb d_CR_lose_13 ?_
  refine va_put (D := D) (ci := 4) (v := .int (lw - (nI 1))) (ty := .int) (C := R_CR) (T := T_CR) (N := 8) hx hb hU iw_CR ty_CR ty_CR_ok nm_CR hown hK hP hD hS 0 rfl rfl 6 (by decide) (hU _ uw_216) (fun _ h9 => h9) rfl (by decide +kernel) (by first | rfl | decide +kernel) (by first | rfl | decide +kernel) (Nat.le_of_ble_eq_true rfl) d_CR_lose_14 (fun H locs hP hD hS => ?_)
  replace hP : va_P D vwCl [(h0, .inr (4, [.int (nI wk), .ref cf, .ref cl, .ref ct, .ref ck, .ref cs, .int (lw - (nI 1)), att])), (cl, .inl (cB, 16, .inl f_1))] H := hP
  replace hD : va_D A [(h0, .inr (4, [.int (nI wk), .ref cf, .ref cl, .ref ct, .ref ck, .ref cs, .int (lw - (nI 1)), att])), (cl, .inl (cB, 16, .inl f_1))] := hD
  have hP9 := xs_P_sub (w := [(h0, .inr (4, [.int (nI wk), .ref cf, .ref cl, .ref ct, .ref ck, .ref cs, .int (lw - (nI 1)), att])), (cl, .inl (cB, 16, .inl f_1))]) hP [0, 1] rfl
  have hD9 := hD.sub (ws' := [(h0, .inr (4, [.int (nI wk), .ref cf, .ref cl, .ref ct, .ref ck, .ref cs, .int (lw - (nI 1)), att])), (cl, .inl (cB, 16, .inl f_1))]) [0, 1] (by decide +kernel) rfl
  exact xw_vret (lw - (nI 1), f_1) hx hb hr hlocks d_CR_lose_17 (rfl) (rfl) hAe hP9 hD9 hS (Nat.le_of_ble_eq_true rfl) (Nat.le_of_ble_eq_true rfl)
