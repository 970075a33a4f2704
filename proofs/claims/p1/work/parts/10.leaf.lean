set_option maxHeartbeats 4000000 in
set_option maxRecDepth 100000 in
/-- Arrays.fill: all places are v -/
theorem c_fill (l : Launch) (D : va_G) (cI cB cL : ClassId) (h0 : Nat) (n : Nat) (f : Nat → Int32) (v : Int32) (hn : n ≤ 1000) : xG (σ := Unit) l y_AR_fill w_AR_fill ({ frames := 0, cells := 0, slots := 0, locals := 0  } : Room) D vwCl (xs_tys cI cB cL) [.ref h0, .int v] [(h0, .inl (cI, n, .inl f))] (fun _ => True) (fun _ => none) (fun _ => [(h0, .inl (cI, n, .inl (fun _ => v)))]) := by
  refine xG.of b_AR_fill 4 (none) (by decide +kernel) rfl (Nat.le_of_ble_eq_true rfl) ?_
  intro p e s m below meth c A ls hAe C0 hP hD hS hl
  obtain ⟨hx, hb, hr, hml, hown, hlocks, hts, hnm, hN, hK, hA⟩ := C0
  have hU : ∀ w ∈ xU, w.before #[.ref h0, .int v] s = true := fun w h => hts w (List.mem_cons_of_mem _ h)
  have hl : lv_has ls 4 [(0, .ref h0), (1, .int v)] := hl
  refine lv_iconst (v := nI 0) hx hb d_AR_fill_0 (by decide +kernel) ?_
  refine lv_istore_n (lv' := [(2, .int (nI 0)), (0, .ref h0), (1, .int v)]) hx hb d_AR_fill_1 rfl hl (by decide) rfl (fun ls hl => ?_)
  refine lv_aload_n hx hb d_AR_fill_2 rfl (lv_at hl 1 rfl) ?_
  refine va_alen hx hb hK hP 0 0 rfl rfl (v := nI n) rfl d_AR_fill_3 ?_
  refine lv_istore_n (lv' := [(3, .int (nI n)), (2, .int (nI 0)), (0, .ref h0), (1, .int v)]) hx hb d_AR_fill_4 rfl hl (by decide) rfl (fun ls hl => ?_)
  obtain ⟨hP, hD⟩ := xs_refill (q0 := 0) (g := xs_fl 0 v f) hP hD rfl (fun j _ => by rw [xs_fl_0])
  have hP : va_P D vwCl [(h0, .inl (cI, n, .inl (xs_fl 0 v f)))] s.heap := hP
  have hD : va_D A [(h0, .inl (cI, n, .inl (xs_fl 0 v f)))] := hD
  refine W.widen (k := 0) (n := 0) (Nat.le_of_ble_eq_true rfl) (Nat.le_of_ble_eq_true rfl) ?_
  have lp_5 : ∀ (fu : Nat) (i : Nat) (H : Heap) (locs : List Loc) (ls : Array Slot), (i + fu = n) → va_P D vwCl [(h0, .inl (cI, n, .inl (xs_fl i v f)))] H → va_D A [(h0, .inl (cI, n, .inl (xs_fl i v f)))] → va_S A s.heap H locs → lv_has ls 4 [(3, .int (nI n)), (2, .int (nI i)), (0, .ref h0), (1, .int v)] → W p l e (headSpec w_AR_fill ({ frames := 0, cells := 0, slots := 0, locals := 0  } : Room)).room s m #[.ref h0, .int v] below meth c H locs 0 0 (xZ (σ := Unit) below #[.ref h0, .int v] s D vwCl [(h0, .inl (cI, n, .inl f))] s.heap.size ({ frames := 0, cells := 0, slots := 0, locals := 0  } : Room).cells ({ frames := 0, cells := 0, slots := 0, locals := 0  } : Room).slots (fun _ => True) (fun _ => none) (fun _ => [(h0, .inl (cI, n, .inl (fun _ => v)))])) (F0 m 5 ls []) := by
    intro fu
    induction fu with
    | zero =>
      intro i H locs ls hi hP hD hS hl
      refine lv_iload_n hx hb d_AR_fill_5 rfl (lv_at hl 1 rfl) ?_
      refine lv_iload_n hx hb d_AR_fill_6 rfl (lv_at hl 0 rfl) ?_
      refine lv_icmp_ge (tgt := 20) hx hb d_AR_fill_7 (by decide) (fun c_7 => ?_) (fun c_7 => ?_)
      · obtain ⟨hP, hD⟩ := xs_refill (q0 := 0) (g := fun _ => v) hP hD rfl (fun j hj => by show (if j < i then _ else _) = _; rw [if_pos (by omega)])
        have hP : va_P D vwCl [(h0, .inl (cI, n, .inl (fun _ => v)))] H := hP
        have hD : va_D A [(h0, .inl (cI, n, .inl (fun _ => v)))] := hD
        have hP9 := xs_P_sub (w := [(h0, .inl (cI, n, .inl (fun _ => v)))]) hP [0] rfl
        have hD9 := hD.sub (ws' := [(h0, .inl (cI, n, .inl (fun _ => v)))]) [0] (by decide) rfl
        exact xw_vret () hx hb hr hlocks d_AR_fill_20 (rfl) (trivial) hAe hP9 hD9 hS (Nat.le_of_ble_eq_true rfl) (Nat.le_of_ble_eq_true rfl)
      · exact absurd (nI_le (a := n) (b := i) (by omega) (by omega)) c_7
    | succ fu ih =>
      intro i H locs ls hi hP hD hS hl
      refine lv_iload_n hx hb d_AR_fill_5 rfl (lv_at hl 1 rfl) ?_
      refine lv_iload_n hx hb d_AR_fill_6 rfl (lv_at hl 0 rfl) ?_
      refine lv_icmp_ge (tgt := 20) hx hb d_AR_fill_7 (by decide) (fun c_7 => ?_) (fun c_7 => ?_)
      · exact absurd c_7 (nI_ge (by omega) (by omega))
      · refine lv_aload_n hx hb d_AR_fill_10 rfl (lv_at hl 2 rfl) ?_
        refine lv_iload_n hx hb d_AR_fill_11 rfl (lv_at hl 1 rfl) ?_
        refine lv_iload_n hx hb d_AR_fill_12 rfl (lv_at hl 3 rfl) ?_
        refine xw_ist hx hb hK hP hD hS 0 0 rfl rfl (by omega) (by omega) d_AR_fill_13 (fun H locs hP hD hS => ?_)
        have hP : va_P D vwCl [(h0, .inl (cI, n, .inl (upd (xs_fl i v f) i v)))] H := hP
        have hD : va_D A [(h0, .inl (cI, n, .inl (upd (xs_fl i v f) i v)))] := hD
        have e_13 : upd (xs_fl i v f) i v = xs_fl (i + 1) v f := xs_fl_s i v f
        rw [e_13] at hP hD
        have hP : va_P D vwCl [(h0, .inl (cI, n, .inl (xs_fl (i + 1) v f)))] H := hP
        have hD : va_D A [(h0, .inl (cI, n, .inl (xs_fl (i + 1) v f)))] := hD
        refine lv_iinc (v := nI (i + 1)) (lv' := [(2, .int (nI (i + 1))), (3, .int (nI n)), (0, .ref h0), (1, .int v)]) hx hb d_AR_fill_14 hl (k := 1) rfl (xs_inc i 1) (by decide) rfl (fun ls hl => ?_)
        refine lv_goto (tgt := 5) hx hb d_AR_fill_17 (by decide) ?_
        exact ih (i + 1) _ _ _ (by omega) (xs_P_sub hP [0] rfl) (hD.sub [0] (by decide) rfl) hS (lv_sub hl [1, 0, 2, 3] rfl)
  exact lp_5 (n) 0 _ _ _ (by omega) hP hD hS (lv_sub hl [0, 1, 2, 3] rfl)
set_option maxHeartbeats 4000000 in
set_option maxRecDepth 100000 in
/-- floorMod by 16 -/
theorem c_floorMod16 (l : Launch) (D : va_G) (cI cB cL : ClassId) (x : Int32)  : xG (σ := Unit) l y_MA_floorMod w_MA_floorMod ({ frames := 0, cells := 0, slots := 0, locals := 0  } : Room) D vwCl (xs_tys cI cB cL) [.int x, .int (nI 16)] [] (fun _ => True) (fun _ => some (.int (x &&& nI 15))) (fun _ => []) := by
  refine xG.of b_MA_floorMod 3 (some .int) (by decide +kernel) rfl (Nat.le_of_ble_eq_true rfl) ?_
  intro p e s m below meth c A ls hAe C0 hP hD hS hl
  obtain ⟨hx, hb, hr, hml, hown, hlocks, hts, hnm, hN, hK, hA⟩ := C0
  have hU : ∀ w ∈ xU, w.before #[.int x, .int (nI 16)] s = true := fun w h => hts w (List.mem_cons_of_mem _ h)
  have hl : lv_has ls 3 [(0, .int x), (1, .int (nI 16))] := hl
  refine lv_iload_n hx hb d_MA_floorMod_0 rfl (lv_at hl 0 rfl) ?_
  refine lv_iload_n hx hb d_MA_floorMod_1 rfl (lv_at hl 1 rfl) ?_
  refine lv_irem hx hb d_MA_floorMod_2 (by decide +kernel) ?_
  refine lv_istore_n (lv' := [(2, .int (x - x / (nI 16) * (nI 16))), (0, .int x), (1, .int (nI 16))]) hx hb d_MA_floorMod_3 rfl hl (by decide) rfl (fun ls hl => ?_)
  refine lv_iload_n hx hb d_MA_floorMod_4 rfl (lv_at hl 1 rfl) ?_
  refine lv_iload_n hx hb d_MA_floorMod_5 rfl (lv_at hl 2 rfl) ?_
  refine lv_ixor hx hb d_MA_floorMod_6 ?_
  refine lv_if_ge (tgt := 18) hx hb d_MA_floorMod_7 (by decide) (fun c_7 => ?_) (fun c_7 => ?_)
  · refine lv_iload_n hx hb d_MA_floorMod_18 rfl (lv_at hl 0 rfl) ?_
    have hP9 := xs_P_sub (w := []) hP [] rfl
    have hD9 := hD.sub (ws' := []) [] (by decide) rfl
    exact xw_iret () hx hb hr hlocks d_MA_floorMod_19 (by first | exact congrArg (fun z => some (Value.int z)) (Eq.symm (xs_floor_p x (nI 16) (nI 15) 4 16 (by decide +kernel) (by decide) (by decide) (by decide) (by decide +kernel) (Or.inl (fun z => absurd ((xs_lt0_xor (y := nI 16) _ (by decide +kernel)).mpr z) (Int32.not_lt.mpr c_7))))) | exact congrArg (fun z => some (Value.int z)) (Eq.symm (xs_floor_p x (nI 16) (nI 15) 4 16 (by decide +kernel) (by decide) (by decide) (by decide) (by decide +kernel) (Or.inr c_11))) | exact congrArg (fun z => some (Value.int z)) (Eq.symm (xs_floor_n x (nI 16) (nI 15) 4 16 (by decide +kernel) (by decide) (by decide) (by decide) (by decide +kernel) ((xs_lt0_xor (y := nI 16) _ (by decide +kernel)).mp (Int32.not_le.mp c_7)) (c_11)))) (trivial) hAe hP9 hD9 hS (Nat.le_of_ble_eq_true rfl) (Nat.le_of_ble_eq_true rfl)
  · refine lv_iload_n hx hb d_MA_floorMod_10 rfl (lv_at hl 0 rfl) ?_
    refine lv_if_eq (tgt := 18) hx hb d_MA_floorMod_11 (by decide) (fun c_11 => ?_) (fun c_11 => ?_)
    · refine lv_iload_n hx hb d_MA_floorMod_18 rfl (lv_at hl 0 rfl) ?_
      have hP9 := xs_P_sub (w := []) hP [] rfl
      have hD9 := hD.sub (ws' := []) [] (by decide) rfl
      exact xw_iret () hx hb hr hlocks d_MA_floorMod_19 (by first | exact congrArg (fun z => some (Value.int z)) (Eq.symm (xs_floor_p x (nI 16) (nI 15) 4 16 (by decide +kernel) (by decide) (by decide) (by decide) (by decide +kernel) (Or.inl (fun z => absurd ((xs_lt0_xor (y := nI 16) _ (by decide +kernel)).mpr z) (Int32.not_lt.mpr c_7))))) | exact congrArg (fun z => some (Value.int z)) (Eq.symm (xs_floor_p x (nI 16) (nI 15) 4 16 (by decide +kernel) (by decide) (by decide) (by decide) (by decide +kernel) (Or.inr c_11))) | exact congrArg (fun z => some (Value.int z)) (Eq.symm (xs_floor_n x (nI 16) (nI 15) 4 16 (by decide +kernel) (by decide) (by decide) (by decide) (by decide +kernel) ((xs_lt0_xor (y := nI 16) _ (by decide +kernel)).mp (Int32.not_le.mp c_7)) (c_11)))) (trivial) hAe hP9 hD9 hS (Nat.le_of_ble_eq_true rfl) (Nat.le_of_ble_eq_true rfl)
    · refine lv_iload_n hx hb d_MA_floorMod_14 rfl (lv_at hl 0 rfl) ?_
      refine lv_iload_n hx hb d_MA_floorMod_15 rfl (lv_at hl 2 rfl) ?_
      refine lv_iadd hx hb d_MA_floorMod_16 ?_
      have hP9 := xs_P_sub (w := []) hP [] rfl
      have hD9 := hD.sub (ws' := []) [] (by decide) rfl
      exact xw_iret () hx hb hr hlocks d_MA_floorMod_17 (by first | exact congrArg (fun z => some (Value.int z)) (Eq.symm (xs_floor_p x (nI 16) (nI 15) 4 16 (by decide +kernel) (by decide) (by decide) (by decide) (by decide +kernel) (Or.inl (fun z => absurd ((xs_lt0_xor (y := nI 16) _ (by decide +kernel)).mpr z) (Int32.not_lt.mpr c_7))))) | exact congrArg (fun z => some (Value.int z)) (Eq.symm (xs_floor_p x (nI 16) (nI 15) 4 16 (by decide +kernel) (by decide) (by decide) (by decide) (by decide +kernel) (Or.inr c_11))) | exact congrArg (fun z => some (Value.int z)) (Eq.symm (xs_floor_n x (nI 16) (nI 15) 4 16 (by decide +kernel) (by decide) (by decide) (by decide) (by decide +kernel) ((xs_lt0_xor (y := nI 16) _ (by decide +kernel)).mp (Int32.not_le.mp c_7)) (c_11)))) (trivial) hAe hP9 hD9 hS (Nat.le_of_ble_eq_true rfl) (Nat.le_of_ble_eq_true rfl)
set_option maxHeartbeats 4000000 in
set_option maxRecDepth 100000 in
/-- floorMod by 8 -/
theorem c_floorMod8 (l : Launch) (D : va_G) (cI cB cL : ClassId) (x : Int32)  : xG (σ := Unit) l y_MA_floorMod w_MA_floorMod ({ frames := 0, cells := 0, slots := 0, locals := 0  } : Room) D vwCl (xs_tys cI cB cL) [.int x, .int (nI 8)] [] (fun _ => True) (fun _ => some (.int (x &&& nI 7))) (fun _ => []) := by
  refine xG.of b_MA_floorMod 3 (some .int) (by decide +kernel) rfl (Nat.le_of_ble_eq_true rfl) ?_
  intro p e s m below meth c A ls hAe C0 hP hD hS hl
  obtain ⟨hx, hb, hr, hml, hown, hlocks, hts, hnm, hN, hK, hA⟩ := C0
  have hU : ∀ w ∈ xU, w.before #[.int x, .int (nI 8)] s = true := fun w h => hts w (List.mem_cons_of_mem _ h)
  have hl : lv_has ls 3 [(0, .int x), (1, .int (nI 8))] := hl
  refine lv_iload_n hx hb d_MA_floorMod_0 rfl (lv_at hl 0 rfl) ?_
  refine lv_iload_n hx hb d_MA_floorMod_1 rfl (lv_at hl 1 rfl) ?_
  refine lv_irem hx hb d_MA_floorMod_2 (by decide +kernel) ?_
  refine lv_istore_n (lv' := [(2, .int (x - x / (nI 8) * (nI 8))), (0, .int x), (1, .int (nI 8))]) hx hb d_MA_floorMod_3 rfl hl (by decide) rfl (fun ls hl => ?_)
  refine lv_iload_n hx hb d_MA_floorMod_4 rfl (lv_at hl 1 rfl) ?_
  refine lv_iload_n hx hb d_MA_floorMod_5 rfl (lv_at hl 2 rfl) ?_
  refine lv_ixor hx hb d_MA_floorMod_6 ?_
  refine lv_if_ge (tgt := 18) hx hb d_MA_floorMod_7 (by decide) (fun c_7 => ?_) (fun c_7 => ?_)
  · refine lv_iload_n hx hb d_MA_floorMod_18 rfl (lv_at hl 0 rfl) ?_
    have hP9 := xs_P_sub (w := []) hP [] rfl
    have hD9 := hD.sub (ws' := []) [] (by decide) rfl
    exact xw_iret () hx hb hr hlocks d_MA_floorMod_19 (by first | exact congrArg (fun z => some (Value.int z)) (Eq.symm (xs_floor_p x (nI 8) (nI 7) 3 8 (by decide +kernel) (by decide) (by decide) (by decide) (by decide +kernel) (Or.inl (fun z => absurd ((xs_lt0_xor (y := nI 8) _ (by decide +kernel)).mpr z) (Int32.not_lt.mpr c_7))))) | exact congrArg (fun z => some (Value.int z)) (Eq.symm (xs_floor_p x (nI 8) (nI 7) 3 8 (by decide +kernel) (by decide) (by decide) (by decide) (by decide +kernel) (Or.inr c_11))) | exact congrArg (fun z => some (Value.int z)) (Eq.symm (xs_floor_n x (nI 8) (nI 7) 3 8 (by decide +kernel) (by decide) (by decide) (by decide) (by decide +kernel) ((xs_lt0_xor (y := nI 8) _ (by decide +kernel)).mp (Int32.not_le.mp c_7)) (c_11)))) (trivial) hAe hP9 hD9 hS (Nat.le_of_ble_eq_true rfl) (Nat.le_of_ble_eq_true rfl)
  · refine lv_iload_n hx hb d_MA_floorMod_10 rfl (lv_at hl 0 rfl) ?_
    refine lv_if_eq (tgt := 18) hx hb d_MA_floorMod_11 (by decide) (fun c_11 => ?_) (fun c_11 => ?_)
    · refine lv_iload_n hx hb d_MA_floorMod_18 rfl (lv_at hl 0 rfl) ?_
      have hP9 := xs_P_sub (w := []) hP [] rfl
      have hD9 := hD.sub (ws' := []) [] (by decide) rfl
      exact xw_iret () hx hb hr hlocks d_MA_floorMod_19 (by first | exact congrArg (fun z => some (Value.int z)) (Eq.symm (xs_floor_p x (nI 8) (nI 7) 3 8 (by decide +kernel) (by decide) (by decide) (by decide) (by decide +kernel) (Or.inl (fun z => absurd ((xs_lt0_xor (y := nI 8) _ (by decide +kernel)).mpr z) (Int32.not_lt.mpr c_7))))) | exact congrArg (fun z => some (Value.int z)) (Eq.symm (xs_floor_p x (nI 8) (nI 7) 3 8 (by decide +kernel) (by decide) (by decide) (by decide) (by decide +kernel) (Or.inr c_11))) | exact congrArg (fun z => some (Value.int z)) (Eq.symm (xs_floor_n x (nI 8) (nI 7) 3 8 (by decide +kernel) (by decide) (by decide) (by decide) (by decide +kernel) ((xs_lt0_xor (y := nI 8) _ (by decide +kernel)).mp (Int32.not_le.mp c_7)) (c_11)))) (trivial) hAe hP9 hD9 hS (Nat.le_of_ble_eq_true rfl) (Nat.le_of_ble_eq_true rfl)
    · refine lv_iload_n hx hb d_MA_floorMod_14 rfl (lv_at hl 0 rfl) ?_
      refine lv_iload_n hx hb d_MA_floorMod_15 rfl (lv_at hl 2 rfl) ?_
      refine lv_iadd hx hb d_MA_floorMod_16 ?_
      have hP9 := xs_P_sub (w := []) hP [] rfl
      have hD9 := hD.sub (ws' := []) [] (by decide) rfl
      exact xw_iret () hx hb hr hlocks d_MA_floorMod_17 (by first | exact congrArg (fun z => some (Value.int z)) (Eq.symm (xs_floor_p x (nI 8) (nI 7) 3 8 (by decide +kernel) (by decide) (by decide) (by decide) (by decide +kernel) (Or.inl (fun z => absurd ((xs_lt0_xor (y := nI 8) _ (by decide +kernel)).mpr z) (Int32.not_lt.mpr c_7))))) | exact congrArg (fun z => some (Value.int z)) (Eq.symm (xs_floor_p x (nI 8) (nI 7) 3 8 (by decide +kernel) (by decide) (by decide) (by decide) (by decide +kernel) (Or.inr c_11))) | exact congrArg (fun z => some (Value.int z)) (Eq.symm (xs_floor_n x (nI 8) (nI 7) 3 8 (by decide +kernel) (by decide) (by decide) (by decide) (by decide +kernel) ((xs_lt0_xor (y := nI 8) _ (by decide +kernel)).mp (Int32.not_le.mp c_7)) (c_11)))) (trivial) hAe hP9 hD9 hS (Nat.le_of_ble_eq_true rfl) (Nat.le_of_ble_eq_true rfl)
set_option maxHeartbeats 4000000 in
set_option maxRecDepth 100000 in
/-- oneOf -/
theorem c_oneOf (l : Launch) (D : va_G) (cI cB cL : ClassId) (n : Nat) (x : Int32) (h0 : 0 < n) (hn : n ≤ 16) : xG (σ := Int32) l y_X_oneOf w_X_oneOf ({ frames := 0, cells := 0, slots := 0, locals := 0  } : Room) D vwCl (xs_tys cI cB cL) [.int (nI n), .int x] [] (fun v => True) (fun v => some (.int v)) (fun v => []) := by
  refine xG.of b_X_oneOf 2 (some .int) (by decide +kernel) rfl (Nat.le_of_ble_eq_true rfl) ?_
  intro p e s m below meth c A ls hAe C0 hP hD hS hl
  obtain ⟨hx, hb, hr, hml, hown, hlocks, hts, hnm, hN, hK, hA⟩ := C0
  have hU : ∀ w ∈ xU, w.before #[.int (nI n), .int x] s = true := fun w h => hts w (List.mem_cons_of_mem _ h)
  have hl : lv_has ls 2 [(0, .int (nI n)), (1, .int x)] := hl
  refine lv_iload_n hx hb d_X_oneOf_0 rfl (lv_at hl 0 rfl) ?_
  refine lv_if_le (tgt := 13) hx hb d_X_oneOf_1 (by decide) (fun c_1 => ?_) (fun c_1 => ?_)
  · exact absurd c_1 (nI_nle h0 (by omega))
  · refine lv_iload_n hx hb d_X_oneOf_4 rfl (lv_at hl 1 rfl) ?_
    refine lv_ldc (v := nI 65536) hx hb hown (hU _ uw_201) d_X_oneOf_5 ?_
    refine lv_idiv hx hb d_X_oneOf_7 (by decide +kernel) ?_
    refine lv_iload_n hx hb d_X_oneOf_8 rfl (lv_at hl 0 rfl) ?_
    refine lv_irem hx hb d_X_oneOf_9 (nI_ne0 h0 (by omega)) ?_
    refine lv_goto (tgt := 14) hx hb d_X_oneOf_10 (by decide) ?_
    have hP9 := xs_P_sub (w := []) hP [] rfl
    have hD9 := hD.sub (ws' := []) [] (by decide) rfl
    exact xw_iret ((x / (nI 65536)) - (x / (nI 65536)) / (nI n) * (nI n)) hx hb hr hlocks d_X_oneOf_14 (rfl) (trivial) hAe hP9 hD9 hS (Nat.le_of_ble_eq_true rfl) (Nat.le_of_ble_eq_true rfl)
set_option maxHeartbeats 4000000 in
set_option maxRecDepth 100000 in
/-- fillFlags: all places are v -/
theorem c_fillFlags (l : Launch) (D : va_G) (cI cB cL : ClassId) (h0 : Nat) (n : Nat) (f : Nat → Int32) (v : Int32) (hn : n ≤ 1000) (hv : v = 0 ∨ v = 1) : xG (σ := Unit) l y_X_fillFlags w_X_fillFlags ({ frames := 0, cells := 0, slots := 0, locals := 0  } : Room) D vwCl (xs_tys cI cB cL) [.ref h0, .int v] [(h0, .inl (cB, n, .inl f))] (fun _ => True) (fun _ => none) (fun _ => [(h0, .inl (cB, n, .inl (fun _ => v)))]) := by
  refine xG.of b_X_fillFlags 3 (none) (by decide +kernel) rfl (Nat.le_of_ble_eq_true rfl) ?_
  intro p e s m below meth c A ls hAe C0 hP hD hS hl
  obtain ⟨hx, hb, hr, hml, hown, hlocks, hts, hnm, hN, hK, hA⟩ := C0
  have hU : ∀ w ∈ xU, w.before #[.ref h0, .int v] s = true := fun w h => hts w (List.mem_cons_of_mem _ h)
  have hl : lv_has ls 3 [(0, .ref h0), (1, .int v)] := hl
  refine lv_iconst (v := nI 0) hx hb d_X_fillFlags_0 (by decide +kernel) ?_
  refine lv_istore_n (lv' := [(2, .int (nI 0)), (0, .ref h0), (1, .int v)]) hx hb d_X_fillFlags_1 rfl hl (by decide) rfl (fun ls hl => ?_)
  obtain ⟨hP, hD⟩ := xs_refill (q0 := 0) (g := xs_fl 0 v f) hP hD rfl (fun j _ => by rw [xs_fl_0])
  have hP : va_P D vwCl [(h0, .inl (cB, n, .inl (xs_fl 0 v f)))] s.heap := hP
  have hD : va_D A [(h0, .inl (cB, n, .inl (xs_fl 0 v f)))] := hD
  refine W.widen (k := 0) (n := 0) (Nat.le_of_ble_eq_true rfl) (Nat.le_of_ble_eq_true rfl) ?_
  have lp_2 : ∀ (fu : Nat) (i : Nat) (H : Heap) (locs : List Loc) (ls : Array Slot), (i + fu = n) → va_P D vwCl [(h0, .inl (cB, n, .inl (xs_fl i v f)))] H → va_D A [(h0, .inl (cB, n, .inl (xs_fl i v f)))] → va_S A s.heap H locs → lv_has ls 3 [(2, .int (nI i)), (0, .ref h0), (1, .int v)] → W p l e (headSpec w_X_fillFlags ({ frames := 0, cells := 0, slots := 0, locals := 0  } : Room)).room s m #[.ref h0, .int v] below meth c H locs 0 0 (xZ (σ := Unit) below #[.ref h0, .int v] s D vwCl [(h0, .inl (cB, n, .inl f))] s.heap.size ({ frames := 0, cells := 0, slots := 0, locals := 0  } : Room).cells ({ frames := 0, cells := 0, slots := 0, locals := 0  } : Room).slots (fun _ => True) (fun _ => none) (fun _ => [(h0, .inl (cB, n, .inl (fun _ => v)))])) (F0 m 2 ls []) := by
    intro fu
    induction fu with
    | zero =>
      intro i H locs ls hi hP hD hS hl
      refine lv_iload_n hx hb d_X_fillFlags_2 rfl (lv_at hl 0 rfl) ?_
      refine lv_aload_n hx hb d_X_fillFlags_3 rfl (lv_at hl 1 rfl) ?_
      refine va_alen hx hb hK hP 0 1 rfl rfl (v := nI n) rfl d_X_fillFlags_4 ?_
      refine lv_icmp_ge (tgt := 18) hx hb d_X_fillFlags_5 (by decide) (fun c_5 => ?_) (fun c_5 => ?_)
      · obtain ⟨hP, hD⟩ := xs_refill (q0 := 0) (g := fun _ => v) hP hD rfl (fun j hj => by show (if j < i then _ else _) = _; rw [if_pos (by omega)])
        have hP : va_P D vwCl [(h0, .inl (cB, n, .inl (fun _ => v)))] H := hP
        have hD : va_D A [(h0, .inl (cB, n, .inl (fun _ => v)))] := hD
        have hP9 := xs_P_sub (w := [(h0, .inl (cB, n, .inl (fun _ => v)))]) hP [0] rfl
        have hD9 := hD.sub (ws' := [(h0, .inl (cB, n, .inl (fun _ => v)))]) [0] (by decide) rfl
        exact xw_vret () hx hb hr hlocks d_X_fillFlags_18 (rfl) (trivial) hAe hP9 hD9 hS (Nat.le_of_ble_eq_true rfl) (Nat.le_of_ble_eq_true rfl)
      · exact absurd (nI_le (a := n) (b := i) (by omega) (by omega)) c_5
    | succ fu ih =>
      intro i H locs ls hi hP hD hS hl
      refine lv_iload_n hx hb d_X_fillFlags_2 rfl (lv_at hl 0 rfl) ?_
      refine lv_aload_n hx hb d_X_fillFlags_3 rfl (lv_at hl 1 rfl) ?_
      refine va_alen hx hb hK hP 0 1 rfl rfl (v := nI n) rfl d_X_fillFlags_4 ?_
      refine lv_icmp_ge (tgt := 18) hx hb d_X_fillFlags_5 (by decide) (fun c_5 => ?_) (fun c_5 => ?_)
      · exact absurd c_5 (nI_ge (by omega) (by omega))
      · refine lv_aload_n hx hb d_X_fillFlags_8 rfl (lv_at hl 1 rfl) ?_
        refine lv_iload_n hx hb d_X_fillFlags_9 rfl (lv_at hl 0 rfl) ?_
        refine lv_iload_n hx hb d_X_fillFlags_10 rfl (lv_at hl 2 rfl) ?_
        refine xw_zst hx hb hK hP hD hS 0 1 rfl rfl (hv) (by omega) (by omega) d_X_fillFlags_11 (fun H locs hP hD hS => ?_)
        have hP : va_P D vwCl [(h0, .inl (cB, n, .inl (upd (xs_fl i v f) i v)))] H := hP
        have hD : va_D A [(h0, .inl (cB, n, .inl (upd (xs_fl i v f) i v)))] := hD
        have e_11 : upd (xs_fl i v f) i v = xs_fl (i + 1) v f := xs_fl_s i v f
        rw [e_11] at hP hD
        have hP : va_P D vwCl [(h0, .inl (cB, n, .inl (xs_fl (i + 1) v f)))] H := hP
        have hD : va_D A [(h0, .inl (cB, n, .inl (xs_fl (i + 1) v f)))] := hD
        refine lv_iinc (v := nI (i + 1)) (lv' := [(2, .int (nI (i + 1))), (0, .ref h0), (1, .int v)]) hx hb d_X_fillFlags_12 hl (k := 0) rfl (xs_inc i 1) (by decide) rfl (fun ls hl => ?_)
        refine lv_goto (tgt := 2) hx hb d_X_fillFlags_15 (by decide) ?_
        exact ih (i + 1) _ _ _ (by omega) (xs_P_sub hP [0] rfl) (hD.sub [0] (by decide) rfl) hS (lv_sub hl [0, 1, 2] rfl)
  exact lp_2 (n) 0 _ _ _ (by omega) hP hD hS (lv_sub hl [0, 1, 2] rfl)
set_option maxHeartbeats 4000000 in
set_option maxRecDepth 100000 in
/-- numberBehind -/
theorem c_numberBehind (l : Launch) (D : va_G) (cI cB cL : ClassId) (x : Int32)  : xG (σ := Unit) l y_X_numberBehind w_X_numberBehind ({ frames := 0, cells := 0, slots := 0, locals := 0  } : Room) D vwCl (xs_tys cI cB cL) [.int x] [] (fun _ => True) (fun _ => some (.int ((nI 1103515245 * x + nI 12345) &&& nI 2147483647))) (fun _ => []) := by
  refine xG.of b_X_numberBehind 1 (some .int) (by decide +kernel) rfl (Nat.le_of_ble_eq_true rfl) ?_
  intro p e s m below meth c A ls hAe C0 hP hD hS hl
  obtain ⟨hx, hb, hr, hml, hown, hlocks, hts, hnm, hN, hK, hA⟩ := C0
  have hU : ∀ w ∈ xU, w.before #[.int x] s = true := fun w h => hts w (List.mem_cons_of_mem _ h)
  have hl : lv_has ls 1 [(0, .int x)] := hl
  refine lv_ldc (v := nI 1103515245) hx hb hown (hU _ uw_196) d_X_numberBehind_0 ?_
  refine lv_iload_n hx hb d_X_numberBehind_2 rfl (lv_at hl 0 rfl) ?_
  refine lv_imul hx hb d_X_numberBehind_3 ?_
  refine lv_sipush (v := nI 12345) hx hb d_X_numberBehind_4 (by decide +kernel) ?_
  refine lv_iadd hx hb d_X_numberBehind_7 ?_
  refine lv_ldc (v := nI 2147483647) hx hb hown (hU _ uw_197) d_X_numberBehind_8 ?_
  refine lv_iand hx hb d_X_numberBehind_10 ?_
  have hP9 := xs_P_sub (w := []) hP [] rfl
  have hD9 := hD.sub (ws' := []) [] (by decide) rfl
  exact xw_iret () hx hb hr hlocks d_X_numberBehind_11 (rfl) (trivial) hAe hP9 hD9 hS (Nat.le_of_ble_eq_true rfl) (Nat.le_of_ble_eq_true rfl)
set_option maxHeartbeats 4000000 in
set_option maxRecDepth 100000 in
/-- has, when there are no states -/
theorem c_Net_has0 (l : Launch) (D : va_G) (cI cB cL : ClassId) (h0 : Nat) (mv : Nat) (q1 : Nat) (q2 : Nat) (k : Int32)  : xG (σ := Unit) l y_NET_has w_NET_has ({ frames := 0, cells := 0, slots := 0, locals := 0  } : Room) D vwCl (xs_tys cI cB cL) [.ref h0, .int k] [(h0, .inr (1, [.int (nI 0), .int (nI mv), .ref q1, .ref q2]))] (fun _ => True) (fun _ => some (.int (nI 0))) (fun _ => [(h0, .inr (1, [.int (nI 0), .int (nI mv), .ref q1, .ref q2]))]) := by
  refine xG.of b_NET_has 2 (some .boolean) (by decide +kernel) rfl (Nat.le_of_ble_eq_true rfl) ?_
  intro p e s m below meth c A ls hAe C0 hP hD hS hl
  obtain ⟨hx, hb, hr, hml, hown, hlocks, hts, hnm, hN, hK, hA⟩ := C0
  have hU : ∀ w ∈ xU, w.before #[.ref h0, .int k] s = true := fun w h => hts w (List.mem_cons_of_mem _ h)
  have hl : lv_has ls 2 [(0, .ref h0), (1, .int k)] := hl
  refine lv_iload_n hx hb d_NET_has_0 rfl (lv_at hl 1 rfl) ?_
  refine lv_if_lt (tgt := 16) hx hb d_NET_has_1 (by decide) (fun c_1 => ?_) (fun c_1 => ?_)
  · refine lv_iconst (v := nI 0) hx hb d_NET_has_16 (by decide +kernel) ?_
    have hP9 := xs_P_sub (w := [(h0, .inr (1, [.int (nI 0), .int (nI mv), .ref q1, .ref q2]))]) hP [0] rfl
    have hD9 := hD.sub (ws' := [(h0, .inr (1, [.int (nI 0), .int (nI mv), .ref q1, .ref q2]))]) [0] (by decide) rfl
    exact xw_zret () (by first | exact Or.inl rfl | exact Or.inr rfl) hx hb hr hlocks d_NET_has_17 (rfl) (trivial) hAe hP9 hD9 hS (Nat.le_of_ble_eq_true rfl) (Nat.le_of_ble_eq_true rfl)
  · refine lv_iload_n hx hb d_NET_has_4 rfl (lv_at hl 1 rfl) ?_
    refine lv_aload_n hx hb d_NET_has_5 rfl (lv_at hl 0 rfl) ?_
    refine va_get (D := D) (ci := 1) (v := .int (nI 0)) (C := R_NET) (T := T_NET) (N := 4) hx hb hU iw_NET hown hK hP 0 rfl rfl 0 (by decide) (hU _ uw_45) (fun _ h9 => h9) rfl d_NET_has_6 ?_
    refine lv_icmp_ge (tgt := 16) hx hb d_NET_has_9 (by decide) (fun c_9 => ?_) (fun c_9 => ?_)
    · refine lv_iconst (v := nI 0) hx hb d_NET_has_16 (by decide +kernel) ?_
      have hP9 := xs_P_sub (w := [(h0, .inr (1, [.int (nI 0), .int (nI mv), .ref q1, .ref q2]))]) hP [0] rfl
      have hD9 := hD.sub (ws' := [(h0, .inr (1, [.int (nI 0), .int (nI mv), .ref q1, .ref q2]))]) [0] (by decide) rfl
      exact xw_zret () (by first | exact Or.inl rfl | exact Or.inr rfl) hx hb hr hlocks d_NET_has_17 (rfl) (trivial) hAe hP9 hD9 hS (Nat.le_of_ble_eq_true rfl) (Nat.le_of_ble_eq_true rfl)
    · exact absurd c_9 (fun z => z (by first | exact Int32.not_lt.mp (fun q => xs_no0 c_1 q)))
