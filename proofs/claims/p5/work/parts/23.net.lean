set_option maxHeartbeats 4000000 in
set_option maxRecDepth 100000 in
/-- has -/
theorem n_NET_has (l : Launch) (D : va_G) (cI cB cL cR : ClassId) (h0 : Nat) (q1 : Nat) (q2 : Nat) (st : Nat) (mv : Value) (k : Int32) (hst : st ≤ 200) : xR (σ := Int32) l y_NET_has w_NET_has ({ frames := 0, cells := 0, slots := 0, locals := 0  } : Room) D vwCl (xs_tys cI cB cL cR) [.ref h0, .int k] [(h0, .inr (1, [.int (nI st), mv, .ref q1, .ref q2]))] (fun v => ((v = 0 ∧ (k < 0 ∨ nI st ≤ k)) ∨ ∃ j, v = 1 ∧ j < st ∧ k = nI j)) (fun v => some (.int v)) := by
  refine xR.of b_NET_has 2 (some .boolean) (by decide +kernel) rfl (Nat.le_of_ble_eq_true rfl) ?_
  intro p e s m below meth c A ls hAe C0 hP hD hS hl
  obtain ⟨hx, hb, hr, hml, hown, hlocks, hts, hnm, hN, hK, hA⟩ := C0
  have hU : ∀ w ∈ xU, w.before #[.ref h0, .int k] s = true := fun w h => hts w (List.mem_cons_of_mem _ h)
  have hl : lv_has ls 2 [(0, .ref h0), (1, .int k)] := hl
  refine lv_iload_n hx hb d_NET_has_0 rfl (lv_at hl 1 rfl) ?_
  refine lv_if_lt (tgt := 16) hx hb d_NET_has_1 (by decide) (fun c_1 => ?_) (fun c_1 => ?_)
  · refine lv_iconst (v := nI 0) hx hb d_NET_has_16 (by decide +kernel) ?_
    have hP9 : va_P D vwCl [] _ := xs_P_nil (H := s.heap)
    have hD9 : va_D A [] := xs_D_nil
    exact xw_zret (nI 0) (by first | exact Or.inl rfl | exact Or.inr rfl) hx hb hr hlocks d_NET_has_17 (rfl) (by first | exact Or.inl ⟨rfl, Or.inl c_1⟩ | exact Or.inl ⟨rfl, Or.inr c_9⟩ | (rcases pk_ix k (n := st) (by omega) with h9 | h9 | ⟨j, h8, h9⟩; exact absurd h9 c_1; exact absurd h9 c_9; exact Or.inr ⟨j, rfl, h8, h9⟩)) hAe hP9 hD9 hS (Nat.le_of_ble_eq_true rfl) (Nat.le_of_ble_eq_true rfl)
  · refine lv_iload_n hx hb d_NET_has_4 rfl (lv_at hl 1 rfl) ?_
    refine lv_aload_n hx hb d_NET_has_5 rfl (lv_at hl 0 rfl) ?_
    refine va_get (D := D) (a := h0) (fs := [.int (nI st), mv, .ref q1, .ref q2]) (ci := 1) (v := .int (nI st)) (C := R_NET) (T := T_NET) (N := 4) hx hb hU iw_NET hown hK hP 0 rfl rfl 0 (by decide) (hU _ uw_45) (fun _ h9 => h9) rfl d_NET_has_6 ?_
    refine lv_icmp_ge (tgt := 16) hx hb d_NET_has_9 (by decide) (fun c_9 => ?_) (fun c_9 => ?_)
    · refine lv_iconst (v := nI 0) hx hb d_NET_has_16 (by decide +kernel) ?_
      have hP9 : va_P D vwCl [] _ := xs_P_nil (H := s.heap)
      have hD9 : va_D A [] := xs_D_nil
      exact xw_zret (nI 0) (by first | exact Or.inl rfl | exact Or.inr rfl) hx hb hr hlocks d_NET_has_17 (rfl) (by first | exact Or.inl ⟨rfl, Or.inl c_1⟩ | exact Or.inl ⟨rfl, Or.inr c_9⟩ | (rcases pk_ix k (n := st) (by omega) with h9 | h9 | ⟨j, h8, h9⟩; exact absurd h9 c_1; exact absurd h9 c_9; exact Or.inr ⟨j, rfl, h8, h9⟩)) hAe hP9 hD9 hS (Nat.le_of_ble_eq_true rfl) (Nat.le_of_ble_eq_true rfl)
    · refine lv_iconst (v := nI 1) hx hb d_NET_has_12 (by decide +kernel) ?_
      refine lv_goto (tgt := 17) hx hb d_NET_has_13 (by decide) ?_
      have hP9 : va_P D vwCl [] _ := xs_P_nil (H := s.heap)
      have hD9 : va_D A [] := xs_D_nil
      exact xw_zret (nI 1) (by first | exact Or.inl rfl | exact Or.inr rfl) hx hb hr hlocks d_NET_has_17 (rfl) (by first | exact Or.inl ⟨rfl, Or.inl c_1⟩ | exact Or.inl ⟨rfl, Or.inr c_9⟩ | (rcases pk_ix k (n := st) (by omega) with h9 | h9 | ⟨j, h8, h9⟩; exact absurd h9 c_1; exact absurd h9 c_9; exact Or.inr ⟨j, rfl, h8, h9⟩)) hAe hP9 hD9 hS (Nat.le_of_ble_eq_true rfl) (Nat.le_of_ble_eq_true rfl)
set_option maxHeartbeats 4000000 in
set_option maxRecDepth 100000 in
/-- addState -/
theorem n_NET_addState (l : Launch) (D : va_G) (cI cB cL cR : ClassId) (h0 : Nat) (q1 : Nat) (q2 : Nat) (st : Nat) (mv : Value)  : xG (σ := Unit) l y_NET_addState w_NET_addState ({ frames := 0, cells := 0, slots := 0, locals := 0  } : Room) D vwCl (xs_tys cI cB cL cR) [.ref h0] [(h0, .inr (1, [.int (nI st), mv, .ref q1, .ref q2]))] (fun _ => True) (fun _ => some (.int (nI st))) (fun _ => [(h0, .inr (1, [.int (nI (st + 1)), mv, .ref q1, .ref q2]))]) := by
  refine xG.of b_NET_addState 1 (some .int) (by decide +kernel) rfl (Nat.le_of_ble_eq_true rfl) ?_
  intro p e s m below meth c A ls hAe C0 hP hD hS hl
  obtain ⟨hx, hb, hr, hml, hown, hlocks, hts, hnm, hN, hK, hA⟩ := C0
  have hU : ∀ w ∈ xU, w.before #[.ref h0] s = true := fun w h => hts w (List.mem_cons_of_mem _ h)
  have hl : lv_has ls 1 [(0, .ref h0)] := hl
  refine lv_aload_n hx hb d_NET_addState_0 rfl (lv_at hl 0 rfl) ?_
  refine lv_dup hx hb d_NET_addState_1 rfl ?_
  refine va_get (D := D) (a := h0) (fs := [.int (nI st), mv, .ref q1, .ref q2]) (ci := 1) (v := .int (nI st)) (C := R_NET) (T := T_NET) (N := 4) hx hb hU iw_NET hown hK hP 0 rfl rfl 0 (by decide) (hU _ uw_45) (fun _ h9 => h9) rfl d_NET_addState_2 ?_
  refine lv_iconst (v := nI 1) hx hb d_NET_addState_5 (by decide +kernel) ?_
  refine lv_iadd hx hb d_NET_addState_6 ?_
  refine xw_top (nI (st + 1)) (nI_add _ _) ?_
  refine va_put (D := D) (ci := 1) (v := .int (nI (st + 1))) (ty := .int) (C := R_NET) (T := T_NET) (N := 4) hx hb hU iw_NET ty_NET ty_NET_ok nm_NET hown hK hP hD hS 0 rfl rfl 0 (by decide) (hU _ uw_45) (fun _ h9 => h9) rfl (by decide +kernel) (by first | rfl | decide +kernel) (by first | rfl | decide +kernel) (Nat.le_of_ble_eq_true rfl) d_NET_addState_7 (fun H locs hP hD hS => ?_)
  replace hP : va_P D vwCl [(h0, .inr (1, [.int (nI (st + 1)), mv, .ref q1, .ref q2]))] H := hP
  replace hD : va_D A [(h0, .inr (1, [.int (nI (st + 1)), mv, .ref q1, .ref q2]))] := hD
  refine lv_aload_n hx hb d_NET_addState_10 rfl (lv_at hl 0 rfl) ?_
  refine va_get (D := D) (a := h0) (fs := [.int (nI (st + 1)), mv, .ref q1, .ref q2]) (ci := 1) (v := .int (nI (st + 1))) (C := R_NET) (T := T_NET) (N := 4) hx hb hU iw_NET hown hK hP 0 rfl rfl 0 (by decide) (hU _ uw_45) (fun _ h9 => h9) rfl d_NET_addState_11 ?_
  refine lv_iconst (v := nI 1) hx hb d_NET_addState_14 (by decide +kernel) ?_
  refine lv_isub hx hb d_NET_addState_15 ?_
  refine xw_top (nI (st + 1 - 1)) (pk_sub (by omega)) ?_
  have hP9 := xs_P_sub (w := [(h0, .inr (1, [.int (nI (st + 1)), mv, .ref q1, .ref q2]))]) hP [0] rfl
  have hD9 := hD.sub (ws' := [(h0, .inr (1, [.int (nI (st + 1)), mv, .ref q1, .ref q2]))]) [0] (by decide +kernel) rfl
  exact xw_iret () hx hb hr hlocks d_NET_addState_16 (by rw [Nat.add_sub_cancel]) (trivial) hAe hP9 hD9 hS (Nat.le_of_ble_eq_true rfl) (Nat.le_of_ble_eq_true rfl)
