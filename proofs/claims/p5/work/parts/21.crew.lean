set_option maxHeartbeats 4000000 in
set_option maxRecDepth 100000 in
/-- ownerOf: some worker -/
theorem n_CR_ownerOf (l : Launch) (D : va_G) (cI cB cL cR : ClassId) (h0 : Nat) (wk : Nat) (cf : Nat) (cl : Nat) (ct : Nat) (ck : Nat) (cs : Nat) (lw : Value) (att : Value) (fl : Nat → Int32) (sx : Nat) (gf : Nat → Nat) (hw0 : 0 < wk) (hw : wk ≤ 16) (hsx : sx < 200) (hgf : ∀ j, gf j < wk) : xG (σ := Nat) l y_CR_ownerOf w_CR_ownerOf ({ frames := 0, cells := 0, slots := 0, locals := 0  } : Room) D vwCl (xs_tys cI cB cL cR) [.ref h0, .int (nI sx)] [(h0, .inr (4, [.int (nI wk), .ref cf, .ref cl, .ref ct, .ref ck, .ref cs, lw, att])), (cf, .inl (cI, 200, .inl (xs_G gf))), (cl, .inl (cB, 16, .inl fl))] (fun v => (v < wk)) (fun v => some (.int (nI v))) (fun v => [(h0, .inr (4, [.int (nI wk), .ref cf, .ref cl, .ref ct, .ref ck, .ref cs, lw, att])), (cf, .inl (cI, 200, .inl (xs_G gf))), (cl, .inl (cB, 16, .inl fl))]) := by
  refine xG.of b_CR_ownerOf 4 (some .int) (by decide +kernel) rfl (Nat.le_of_ble_eq_true rfl) ?_
  intro p e s m below meth c A ls hAe C0 hP hD hS hl
  obtain ⟨hx, hb, hr, hml, hown, hlocks, hts, hnm, hN, hK, hA⟩ := C0
  have hU : ∀ w ∈ xU, w.before #[.ref h0, .int (nI sx)] s = true := fun w h => hts w (List.mem_cons_of_mem _ h)
  have hl : lv_has ls 4 [(0, .ref h0), (1, .int (nI sx))] := hl
  refine lv_aload_n hx hb d_CR_ownerOf_0 rfl (lv_at hl 0 rfl) ?_
  refine va_get (D := D) (a := h0) (fs := [.int (nI wk), .ref cf, .ref cl, .ref ct, .ref ck, .ref cs, lw, att]) (ci := 4) (v := .ref cf) (C := R_CR) (T := T_CR) (N := 8) hx hb hU iw_CR hown hK hP 0 rfl rfl 1 (by decide) (hU _ uw_205) (fun _ h9 => h9) rfl d_CR_ownerOf_1 ?_
  refine lv_iload_n hx hb d_CR_ownerOf_4 rfl (lv_at hl 1 rfl) ?_
  refine xw_ildN hx hb hK hP 1 0 rfl rfl (by omega) (by decide) d_CR_ownerOf_5 ?_
  have hv_1 := hgf sx
  refine lv_istore_n (lv' := [(2, .int (nI (gf sx))), (0, .ref h0), (1, .int (nI sx))]) hx hb d_CR_ownerOf_6 rfl hl (by decide) rfl (fun ls hl => ?_)
  refine lv_iconst (v := nI 0) hx hb d_CR_ownerOf_7 (by decide +kernel) ?_
  refine lv_istore_n (lv' := [(3, .int (nI 0)), (2, .int (nI (gf sx))), (0, .ref h0), (1, .int (nI sx))]) hx hb d_CR_ownerOf_8 rfl hl (by decide) rfl (fun ls hl => ?_)
  refine W.widen (k := 0) (n := 0) (Nat.le_of_ble_eq_true rfl) (Nat.le_of_ble_eq_true rfl) ?_
  have lp_9 : ∀ (fu : Nat) (i : Nat) (v : Nat) (H : Heap) (locs : List Loc) (ls : Array Slot), (i + fu = wk) → (v < wk) → va_P D vwCl [(h0, .inr (4, [.int (nI wk), .ref cf, .ref cl, .ref ct, .ref ck, .ref cs, lw, att])), (cf, .inl (cI, 200, .inl (xs_G gf))), (cl, .inl (cB, 16, .inl fl))] H → va_D A [(h0, .inr (4, [.int (nI wk), .ref cf, .ref cl, .ref ct, .ref ck, .ref cs, lw, att])), (cf, .inl (cI, 200, .inl (xs_G gf))), (cl, .inl (cB, 16, .inl fl))] → va_S A s.heap H locs → lv_has ls 4 [(3, .int (nI i)), (2, .int (nI v)), (0, .ref h0), (1, .int (nI sx))] → W p l e (headSpec w_CR_ownerOf ({ frames := 0, cells := 0, slots := 0, locals := 0  } : Room)).room s m #[.ref h0, .int (nI sx)] below meth c H locs 0 0 (xZ (σ := Nat) below #[.ref h0, .int (nI sx)] s D vwCl [(h0, .inr (4, [.int (nI wk), .ref cf, .ref cl, .ref ct, .ref ck, .ref cs, lw, att])), (cf, .inl (cI, 200, .inl (xs_G gf))), (cl, .inl (cB, 16, .inl fl))] s.heap.size ({ frames := 0, cells := 0, slots := 0, locals := 0  } : Room).cells ({ frames := 0, cells := 0, slots := 0, locals := 0  } : Room).slots (fun v => (v < wk)) (fun v => some (.int (nI v))) (fun v => [(h0, .inr (4, [.int (nI wk), .ref cf, .ref cl, .ref ct, .ref ck, .ref cs, lw, att])), (cf, .inl (cI, 200, .inl (xs_G gf))), (cl, .inl (cB, 16, .inl fl))])) (F0 m 9 ls []) := by
    intro fu
    induction fu with
    | zero =>
      intro i v H locs ls hi hv9 hP hD hS hl
      refine lv_iload_n hx hb d_CR_ownerOf_9 rfl (lv_at hl 0 rfl) ?_
      refine lv_aload_n hx hb d_CR_ownerOf_10 rfl (lv_at hl 2 rfl) ?_
      refine va_get (D := D) (a := h0) (fs := [.int (nI wk), .ref cf, .ref cl, .ref ct, .ref ck, .ref cs, lw, att]) (ci := 4) (v := .int (nI wk)) (C := R_CR) (T := T_CR) (N := 8) hx hb hU iw_CR hown hK hP 0 rfl rfl 0 (by decide) (hU _ uw_202) (fun _ h9 => h9) rfl d_CR_ownerOf_11 ?_
      refine xw_icmp_ge (tgt := 50) hx hb d_CR_ownerOf_14 (by decide) (by omega) (by omega) (fun c_14 => ?_) (fun c_14 => ?_)
      · refine lv_iload_n hx hb d_CR_ownerOf_50 rfl (lv_at hl 1 rfl) ?_
        have hP9 := xs_P_sub (w := [(h0, .inr (4, [.int (nI wk), .ref cf, .ref cl, .ref ct, .ref ck, .ref cs, lw, att])), (cf, .inl (cI, 200, .inl (xs_G gf))), (cl, .inl (cB, 16, .inl fl))]) hP [0, 1, 2] rfl
        have hD9 := hD.sub (ws' := [(h0, .inr (4, [.int (nI wk), .ref cf, .ref cl, .ref ct, .ref ck, .ref cs, lw, att])), (cf, .inl (cI, 200, .inl (xs_G gf))), (cl, .inl (cB, 16, .inl fl))]) [0, 1, 2] (by decide +kernel) rfl
        exact xw_iret v hx hb hr hlocks d_CR_ownerOf_51 (rfl) (by omega) hAe hP9 hD9 hS (Nat.le_of_ble_eq_true rfl) (Nat.le_of_ble_eq_true rfl)
      · exact (by omega : False).elim
    | succ fu ih =>
      intro i v H locs ls hi hv9 hP hD hS hl
      refine lv_iload_n hx hb d_CR_ownerOf_9 rfl (lv_at hl 0 rfl) ?_
      refine lv_aload_n hx hb d_CR_ownerOf_10 rfl (lv_at hl 2 rfl) ?_
      refine va_get (D := D) (a := h0) (fs := [.int (nI wk), .ref cf, .ref cl, .ref ct, .ref ck, .ref cs, lw, att]) (ci := 4) (v := .int (nI wk)) (C := R_CR) (T := T_CR) (N := 8) hx hb hU iw_CR hown hK hP 0 rfl rfl 0 (by decide) (hU _ uw_202) (fun _ h9 => h9) rfl d_CR_ownerOf_11 ?_
      refine xw_icmp_ge (tgt := 50) hx hb d_CR_ownerOf_14 (by decide) (by omega) (by omega) (fun c_14 => ?_) (fun c_14 => ?_)
      · exact (by omega : False).elim
      · refine lv_aload_n hx hb d_CR_ownerOf_17 rfl (lv_at hl 2 rfl) ?_
        refine va_get (D := D) (a := h0) (fs := [.int (nI wk), .ref cf, .ref cl, .ref ct, .ref ck, .ref cs, lw, att]) (ci := 4) (v := .ref cl) (C := R_CR) (T := T_CR) (N := 8) hx hb hU iw_CR hown hK hP 0 rfl rfl 2 (by decide) (hU _ uw_206) (fun _ h9 => h9) rfl d_CR_ownerOf_18 ?_
        refine lv_iload_n hx hb d_CR_ownerOf_21 rfl (lv_at hl 1 rfl) ?_
        refine xw_zld hx hb hK hP 2 1 rfl rfl (by omega) (by decide) d_CR_ownerOf_22 ?_
        refine lv_if_ne (tgt := 50) hx hb d_CR_ownerOf_23 (by decide) (fun c_23 => ?_) (fun c_23 => ?_)
        · refine lv_iload_n hx hb d_CR_ownerOf_50 rfl (lv_at hl 1 rfl) ?_
          have hP9 := xs_P_sub (w := [(h0, .inr (4, [.int (nI wk), .ref cf, .ref cl, .ref ct, .ref ck, .ref cs, lw, att])), (cf, .inl (cI, 200, .inl (xs_G gf))), (cl, .inl (cB, 16, .inl fl))]) hP [0, 1, 2] rfl
          have hD9 := hD.sub (ws' := [(h0, .inr (4, [.int (nI wk), .ref cf, .ref cl, .ref ct, .ref ck, .ref cs, lw, att])), (cf, .inl (cI, 200, .inl (xs_G gf))), (cl, .inl (cB, 16, .inl fl))]) [0, 1, 2] (by decide +kernel) rfl
          exact xw_iret v hx hb hr hlocks d_CR_ownerOf_51 (rfl) (by omega) hAe hP9 hD9 hS (Nat.le_of_ble_eq_true rfl) (Nat.le_of_ble_eq_true rfl)
        · refine lv_iload_n hx hb d_CR_ownerOf_26 rfl (lv_at hl 1 rfl) ?_
          refine lv_iconst (v := nI 1) hx hb d_CR_ownerOf_27 (by decide +kernel) ?_
          refine lv_iadd hx hb d_CR_ownerOf_28 ?_
          refine xw_top (nI (v + 1)) (nI_add _ _) ?_
          refine lv_aload_n hx hb d_CR_ownerOf_29 rfl (lv_at hl 2 rfl) ?_
          refine va_get (D := D) (a := h0) (fs := [.int (nI wk), .ref cf, .ref cl, .ref ct, .ref ck, .ref cs, lw, att]) (ci := 4) (v := .int (nI wk)) (C := R_CR) (T := T_CR) (N := 8) hx hb hU iw_CR hown hK hP 0 rfl rfl 0 (by decide) (hU _ uw_202) (fun _ h9 => h9) rfl d_CR_ownerOf_30 ?_
          refine xw_icmp_ge (tgt := 42) hx hb d_CR_ownerOf_33 (by decide) (by omega) (by omega) (fun c_33 => ?_) (fun c_33 => ?_)
          · refine lv_iconst (v := nI 0) hx hb d_CR_ownerOf_42 (by decide +kernel) ?_
            refine lv_istore_n (lv' := [(2, .int (nI 0)), (3, .int (nI i)), (0, .ref h0), (1, .int (nI sx))]) hx hb d_CR_ownerOf_43 rfl hl (by decide) rfl (fun ls hl => ?_)
            refine lv_iinc (v := nI (i + 1)) (lv' := [(3, .int (nI (i + 1))), (2, .int (nI 0)), (0, .ref h0), (1, .int (nI sx))]) hx hb d_CR_ownerOf_44 hl (k := 1) rfl (xs_inc i 1) (by decide) rfl (fun ls hl => ?_)
            refine lv_goto (tgt := 9) hx hb d_CR_ownerOf_47 (by decide) ?_
            exact ih (i + 1) 0 _ _ _ (by omega) (by omega) (xs_P_sub hP [0, 1, 2] rfl) (hD.sub [0, 1, 2] (by decide +kernel) rfl) hS (lv_sub hl [0, 1, 2, 3] rfl)
          · refine lv_iload_n hx hb d_CR_ownerOf_36 rfl (lv_at hl 1 rfl) ?_
            refine lv_iconst (v := nI 1) hx hb d_CR_ownerOf_37 (by decide +kernel) ?_
            refine lv_iadd hx hb d_CR_ownerOf_38 ?_
            refine xw_top (nI (v + 1)) (nI_add _ _) ?_
            refine lv_goto (tgt := 43) hx hb d_CR_ownerOf_39 (by decide) ?_
            refine lv_istore_n (lv' := [(2, .int (nI (v + 1))), (3, .int (nI i)), (0, .ref h0), (1, .int (nI sx))]) hx hb d_CR_ownerOf_43 rfl hl (by decide) rfl (fun ls hl => ?_)
            refine lv_iinc (v := nI (i + 1)) (lv' := [(3, .int (nI (i + 1))), (2, .int (nI (v + 1))), (0, .ref h0), (1, .int (nI sx))]) hx hb d_CR_ownerOf_44 hl (k := 1) rfl (xs_inc i 1) (by decide) rfl (fun ls hl => ?_)
            refine lv_goto (tgt := 9) hx hb d_CR_ownerOf_47 (by decide) ?_
            exact ih (i + 1) (v + 1) _ _ _ (by omega) (by omega) (xs_P_sub hP [0, 1, 2] rfl) (hD.sub [0, 1, 2] (by decide +kernel) rfl) hS (lv_sub hl [0, 1, 2, 3] rfl)
  exact lp_9 (wk) 0 (gf sx) _ _ _ (by omega) (by omega) hP hD hS (lv_sub hl [0, 1, 2, 3] rfl)
