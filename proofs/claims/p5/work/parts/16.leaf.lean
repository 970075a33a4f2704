set_option maxHeartbeats 4000000 in
set_option maxRecDepth 100000 in
/-- fillFlags -/
theorem n_fillFlags (l : Launch) (D : va_G) (cI cB cL cR : ClassId) (h0 : Nat) (n : Nat) (f : Nat → Int32) (v : Int32) (hn : n ≤ 1000) (hv : v = 0 ∨ v = 1) : xG (σ := Unit) l y_X_fillFlags w_X_fillFlags ({ frames := 0, cells := 0, slots := 0, locals := 0  } : Room) D vwCl (xs_tys cI cB cL cR) [.ref h0, .int v] [(h0, .inl (cB, n, .inl f))] (fun _ => True) (fun _ => none) (fun _ => [(h0, .inl (cB, n, .inl (fun _ => v)))]) := by
  refine xG.of b_X_fillFlags 3 (none) (by decide +kernel) rfl (Nat.le_of_ble_eq_true rfl) ?_
  intro p e s m below meth c A ls hAe C0 hP hD hS hl
  obtain ⟨hx, hb, hr, hml, hown, hlocks, hts, hnm, hN, hK, hA⟩ := C0
  have hU : ∀ w ∈ xU, w.before #[.ref h0, .int v] s = true := fun w h => hts w (List.mem_cons_of_mem _ h)
  have hl : lv_has ls 3 [(0, .ref h0), (1, .int v)] := hl
  refine lv_iconst (v := nI 0) hx hb d_X_fillFlags_0 (by decide +kernel) ?_
  refine lv_istore_n (lv' := [(2, .int (nI 0)), (0, .ref h0), (1, .int v)]) hx hb d_X_fillFlags_1 rfl hl (by decide) rfl (fun ls hl => ?_)
  obtain ⟨hP, hD⟩ := xs_refill (q0 := 0) (g := xs_fl 0 v f) hP hD rfl (fun j _ => by rw [xs_fl_0])
  replace hP : va_P D vwCl [(h0, .inl (cB, n, .inl (xs_fl 0 v f)))] s.heap := hP
  replace hD : va_D A [(h0, .inl (cB, n, .inl (xs_fl 0 v f)))] := hD
  refine W.widen (k := 0) (n := 0) (Nat.le_of_ble_eq_true rfl) (Nat.le_of_ble_eq_true rfl) ?_
  have lp_2 : ∀ (fu : Nat) (i : Nat) (H : Heap) (locs : List Loc) (ls : Array Slot), (i + fu = n) → va_P D vwCl [(h0, .inl (cB, n, .inl (xs_fl i v f)))] H → va_D A [(h0, .inl (cB, n, .inl (xs_fl i v f)))] → va_S A s.heap H locs → lv_has ls 3 [(2, .int (nI i)), (0, .ref h0), (1, .int v)] → W p l e (headSpec w_X_fillFlags ({ frames := 0, cells := 0, slots := 0, locals := 0  } : Room)).room s m #[.ref h0, .int v] below meth c H locs 0 0 (xZ (σ := Unit) below #[.ref h0, .int v] s D vwCl [(h0, .inl (cB, n, .inl f))] s.heap.size ({ frames := 0, cells := 0, slots := 0, locals := 0  } : Room).cells ({ frames := 0, cells := 0, slots := 0, locals := 0  } : Room).slots (fun _ => True) (fun _ => none) (fun _ => [(h0, .inl (cB, n, .inl (fun _ => v)))])) (F0 m 2 ls []) := by
    intro fu
    induction fu with
    | zero =>
      intro i H locs ls hi hP hD hS hl
      refine lv_iload_n hx hb d_X_fillFlags_2 rfl (lv_at hl 0 rfl) ?_
      refine lv_aload_n hx hb d_X_fillFlags_3 rfl (lv_at hl 1 rfl) ?_
      refine va_alen hx hb hK hP 0 1 rfl rfl (v := nI n) rfl d_X_fillFlags_4 ?_
      refine xw_icmp_ge (tgt := 18) hx hb d_X_fillFlags_5 (by decide) (by omega) (by omega) (fun c_5 => ?_) (fun c_5 => ?_)
      · obtain ⟨hP, hD⟩ := xs_refill (q0 := 0) (g := fun _ => v) hP hD rfl (fun j hj => by show (if j < i then _ else _) = _; rw [if_pos (by omega)])
        replace hP : va_P D vwCl [(h0, .inl (cB, n, .inl (fun _ => v)))] H := hP
        replace hD : va_D A [(h0, .inl (cB, n, .inl (fun _ => v)))] := hD
        have hP9 := xs_P_sub (w := [(h0, .inl (cB, n, .inl (fun _ => v)))]) hP [0] rfl
        have hD9 := hD.sub (ws' := [(h0, .inl (cB, n, .inl (fun _ => v)))]) [0] (by decide +kernel) rfl
        exact xw_vret () hx hb hr hlocks d_X_fillFlags_18 (rfl) (trivial) hAe hP9 hD9 hS (Nat.le_of_ble_eq_true rfl) (Nat.le_of_ble_eq_true rfl)
      · exact (by omega : False).elim
    | succ fu ih =>
      intro i H locs ls hi hP hD hS hl
      refine lv_iload_n hx hb d_X_fillFlags_2 rfl (lv_at hl 0 rfl) ?_
      refine lv_aload_n hx hb d_X_fillFlags_3 rfl (lv_at hl 1 rfl) ?_
      refine va_alen hx hb hK hP 0 1 rfl rfl (v := nI n) rfl d_X_fillFlags_4 ?_
      refine xw_icmp_ge (tgt := 18) hx hb d_X_fillFlags_5 (by decide) (by omega) (by omega) (fun c_5 => ?_) (fun c_5 => ?_)
      · exact (by omega : False).elim
      · refine lv_aload_n hx hb d_X_fillFlags_8 rfl (lv_at hl 1 rfl) ?_
        refine lv_iload_n hx hb d_X_fillFlags_9 rfl (lv_at hl 0 rfl) ?_
        refine lv_iload_n hx hb d_X_fillFlags_10 rfl (lv_at hl 2 rfl) ?_
        refine xw_zst hx hb hK hP hD hS 0 1 rfl rfl (hv) (by omega) (by omega) d_X_fillFlags_11 (fun H locs hP hD hS => ?_)
        replace hP : va_P D vwCl [(h0, .inl (cB, n, .inl (upd (xs_fl i v f) i v)))] H := hP
        replace hD : va_D A [(h0, .inl (cB, n, .inl (upd (xs_fl i v f) i v)))] := hD
        have e_11 : upd (xs_fl i v f) i v = xs_fl (i + 1) v f := xs_fl_s i v f
        rw [e_11] at hP hD
        replace hP : va_P D vwCl [(h0, .inl (cB, n, .inl (xs_fl (i + 1) v f)))] H := hP
        replace hD : va_D A [(h0, .inl (cB, n, .inl (xs_fl (i + 1) v f)))] := hD
        refine lv_iinc (v := nI (i + 1)) (lv' := [(2, .int (nI (i + 1))), (0, .ref h0), (1, .int v)]) hx hb d_X_fillFlags_12 hl (k := 0) rfl (xs_inc i 1) (by decide) rfl (fun ls hl => ?_)
        refine lv_goto (tgt := 2) hx hb d_X_fillFlags_15 (by decide) ?_
        exact ih (i + 1) _ _ _ (by omega) (xs_P_sub hP [0] rfl) (hD.sub [0] (by decide +kernel) rfl) hS (lv_sub hl [0, 1, 2] rfl)
  exact lp_2 (n) 0 _ _ _ (by omega) hP hD hS (lv_sub hl [0, 1, 2] rfl)
set_option maxHeartbeats 4000000 in
set_option maxRecDepth 100000 in
/-- Arrays.fill -/
theorem n_fill (l : Launch) (D : va_G) (cI cB cL cR : ClassId) (h0 : Nat) (n : Nat) (f : Nat → Int32) (v : Int32) (hn : n ≤ 1000) : xG (σ := Unit) l y_AR_fill w_AR_fill ({ frames := 0, cells := 0, slots := 0, locals := 0  } : Room) D vwCl (xs_tys cI cB cL cR) [.ref h0, .int v] [(h0, .inl (cI, n, .inl f))] (fun _ => True) (fun _ => none) (fun _ => [(h0, .inl (cI, n, .inl (fun _ => v)))]) := by
  refine xG.of b_AR_fill 4 (none) (by decide +kernel) rfl (Nat.le_of_ble_eq_true rfl) ?_
  intro p e s m below meth c A ls hAe C0 hP hD hS hl
  obtain ⟨hx, hb, hr, hml, hown, hlocks, hts, hnm, hN, hK, hA⟩ := C0
  have hU : ∀ w ∈ xU, w.before #[.ref h0, .int v] s = true := fun w h => hts w (List.mem_cons_of_mem _ h)
  have hl : lv_has ls 4 [(0, .ref h0), (1, .int v)] := hl
  refine lv_iconst (v := nI 0) hx hb d_AR_fill_0 (by decide +kernel) ?_
  refine lv_istore_n (lv' := [(2, .int (nI 0)), (0, .ref h0), (1, .int v)]) hx hb d_AR_fill_1 rfl hl (by decide) rfl (fun ls hl => ?_)
  refine lv_aload_n hx hb d_AR_fill_2 rfl (lv_at hl 1 rfl) ?_
  refine va_alen hx hb hK hP 0 0 rfl rfl (v := nI n) rfl d_AR_fill_3 ?_
  refine lv_istore_n (lv' := [(3, .int (nI n)), (2, .int (nI 0)), (0, .ref h0), (1, .int v)]) hx hb d_AR_fill_4 rfl hl (by decide) rfl (fun ls hl => ?_)
  obtain ⟨hP, hD⟩ := xs_refill (q0 := 0) (g := xs_fl 0 v f) hP hD rfl (fun j _ => by rw [xs_fl_0])
  replace hP : va_P D vwCl [(h0, .inl (cI, n, .inl (xs_fl 0 v f)))] s.heap := hP
  replace hD : va_D A [(h0, .inl (cI, n, .inl (xs_fl 0 v f)))] := hD
  refine W.widen (k := 0) (n := 0) (Nat.le_of_ble_eq_true rfl) (Nat.le_of_ble_eq_true rfl) ?_
  have lp_5 : ∀ (fu : Nat) (i : Nat) (H : Heap) (locs : List Loc) (ls : Array Slot), (i + fu = n) → va_P D vwCl [(h0, .inl (cI, n, .inl (xs_fl i v f)))] H → va_D A [(h0, .inl (cI, n, .inl (xs_fl i v f)))] → va_S A s.heap H locs → lv_has ls 4 [(3, .int (nI n)), (2, .int (nI i)), (0, .ref h0), (1, .int v)] → W p l e (headSpec w_AR_fill ({ frames := 0, cells := 0, slots := 0, locals := 0  } : Room)).room s m #[.ref h0, .int v] below meth c H locs 0 0 (xZ (σ := Unit) below #[.ref h0, .int v] s D vwCl [(h0, .inl (cI, n, .inl f))] s.heap.size ({ frames := 0, cells := 0, slots := 0, locals := 0  } : Room).cells ({ frames := 0, cells := 0, slots := 0, locals := 0  } : Room).slots (fun _ => True) (fun _ => none) (fun _ => [(h0, .inl (cI, n, .inl (fun _ => v)))])) (F0 m 5 ls []) := by
    intro fu
    induction fu with
    | zero =>
      intro i H locs ls hi hP hD hS hl
      refine lv_iload_n hx hb d_AR_fill_5 rfl (lv_at hl 1 rfl) ?_
      refine lv_iload_n hx hb d_AR_fill_6 rfl (lv_at hl 0 rfl) ?_
      refine xw_icmp_ge (tgt := 20) hx hb d_AR_fill_7 (by decide) (by omega) (by omega) (fun c_7 => ?_) (fun c_7 => ?_)
      · obtain ⟨hP, hD⟩ := xs_refill (q0 := 0) (g := fun _ => v) hP hD rfl (fun j hj => by show (if j < i then _ else _) = _; rw [if_pos (by omega)])
        replace hP : va_P D vwCl [(h0, .inl (cI, n, .inl (fun _ => v)))] H := hP
        replace hD : va_D A [(h0, .inl (cI, n, .inl (fun _ => v)))] := hD
        have hP9 := xs_P_sub (w := [(h0, .inl (cI, n, .inl (fun _ => v)))]) hP [0] rfl
        have hD9 := hD.sub (ws' := [(h0, .inl (cI, n, .inl (fun _ => v)))]) [0] (by decide +kernel) rfl
        exact xw_vret () hx hb hr hlocks d_AR_fill_20 (rfl) (trivial) hAe hP9 hD9 hS (Nat.le_of_ble_eq_true rfl) (Nat.le_of_ble_eq_true rfl)
      · exact (by omega : False).elim
    | succ fu ih =>
      intro i H locs ls hi hP hD hS hl
      refine lv_iload_n hx hb d_AR_fill_5 rfl (lv_at hl 1 rfl) ?_
      refine lv_iload_n hx hb d_AR_fill_6 rfl (lv_at hl 0 rfl) ?_
      refine xw_icmp_ge (tgt := 20) hx hb d_AR_fill_7 (by decide) (by omega) (by omega) (fun c_7 => ?_) (fun c_7 => ?_)
      · exact (by omega : False).elim
      · refine lv_aload_n hx hb d_AR_fill_10 rfl (lv_at hl 2 rfl) ?_
        refine lv_iload_n hx hb d_AR_fill_11 rfl (lv_at hl 1 rfl) ?_
        refine lv_iload_n hx hb d_AR_fill_12 rfl (lv_at hl 3 rfl) ?_
        refine xw_ist hx hb hK hP hD hS 0 0 rfl rfl (by omega) (by omega) d_AR_fill_13 (fun H locs hP hD hS => ?_)
        replace hP : va_P D vwCl [(h0, .inl (cI, n, .inl (upd (xs_fl i v f) i v)))] H := hP
        replace hD : va_D A [(h0, .inl (cI, n, .inl (upd (xs_fl i v f) i v)))] := hD
        have e_13 : upd (xs_fl i v f) i v = xs_fl (i + 1) v f := xs_fl_s i v f
        rw [e_13] at hP hD
        replace hP : va_P D vwCl [(h0, .inl (cI, n, .inl (xs_fl (i + 1) v f)))] H := hP
        replace hD : va_D A [(h0, .inl (cI, n, .inl (xs_fl (i + 1) v f)))] := hD
        refine lv_iinc (v := nI (i + 1)) (lv' := [(2, .int (nI (i + 1))), (3, .int (nI n)), (0, .ref h0), (1, .int v)]) hx hb d_AR_fill_14 hl (k := 1) rfl (xs_inc i 1) (by decide) rfl (fun ls hl => ?_)
        refine lv_goto (tgt := 5) hx hb d_AR_fill_17 (by decide) ?_
        exact ih (i + 1) _ _ _ (by omega) (xs_P_sub hP [0] rfl) (hD.sub [0] (by decide +kernel) rfl) hS (lv_sub hl [1, 0, 2, 3] rfl)
  exact lp_5 (n) 0 _ _ _ (by omega) hP hD hS (lv_sub hl [0, 1, 2, 3] rfl)
