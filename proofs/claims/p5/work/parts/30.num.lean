set_option maxHeartbeats 4000000 in
set_option maxRecDepth 100000 in
/-- numberBehind -/
theorem n_numberBehind (l : Launch) (D : va_G) (cI cB cL cR : ClassId) (x : Nat)  : xG (σ := Nat) l y_X_numberBehind w_X_numberBehind ({ frames := 0, cells := 0, slots := 0, locals := 0  } : Room) D vwCl (xs_tys cI cB cL cR) [.int (nI x)] [] (fun v => (v = lc_f x) ∧ (v < 2147483648)) (fun v => some (.int (nI v))) (fun v => []) := by
  refine xG.of b_X_numberBehind 1 (some .int) (by decide +kernel) rfl (Nat.le_of_ble_eq_true rfl) ?_
  intro p e s m below meth c A ls hAe C0 hP hD hS hl
  obtain ⟨hx, hb, hr, hml, hown, hlocks, hts, hnm, hN, hK, hA⟩ := C0
  have hU : ∀ w ∈ xU, w.before #[.int (nI x)] s = true := fun w h => hts w (List.mem_cons_of_mem _ h)
  have hl : lv_has ls 1 [(0, .int (nI x))] := hl
  refine lv_ldc (v := nI 1103515245) hx hb hown (hU _ uw_196) d_X_numberBehind_0 ?_
  refine lv_iload_n hx hb d_X_numberBehind_2 rfl (lv_at hl 0 rfl) ?_
  refine lv_imul hx hb d_X_numberBehind_3 ?_
  refine lv_sipush (v := nI 12345) hx hb d_X_numberBehind_4 (by decide +kernel) ?_
  refine lv_iadd hx hb d_X_numberBehind_7 ?_
  refine lv_ldc (v := nI 2147483647) hx hb hown (hU _ uw_197) d_X_numberBehind_8 ?_
  refine lv_iand hx hb d_X_numberBehind_10 ?_
  have hP9 := xs_P_sub (w := []) hP [] rfl
  have hD9 := hD.sub (ws' := []) [] (by decide +kernel) rfl
  exact xw_iret (lc_f x) hx hb hr hlocks d_X_numberBehind_11 (congrArg (fun z => some (Value.int z)) lc_step.symm) (⟨rfl, lc_f_lt x⟩) hAe hP9 hD9 hS (Nat.le_of_ble_eq_true rfl) (Nat.le_of_ble_eq_true rfl)
set_option maxHeartbeats 4000000 in
set_option maxRecDepth 100000 in
/-- oneOf -/
theorem n_oneOf (l : Launch) (D : va_G) (cI cB cL cR : ClassId) (n : Nat) (x : Nat) (h0 : 0 < n) (hn : n ≤ 16) (hx9 : x < 2147483648) : xG (σ := Nat) l y_X_oneOf w_X_oneOf ({ frames := 0, cells := 0, slots := 0, locals := 0  } : Room) D vwCl (xs_tys cI cB cL cR) [.int (nI n), .int (nI x)] [] (fun v => (v = x / 65536 % n) ∧ (v < n)) (fun v => some (.int (nI v))) (fun v => []) := by
  refine xG.of b_X_oneOf 2 (some .int) (by decide +kernel) rfl (Nat.le_of_ble_eq_true rfl) ?_
  intro p e s m below meth c A ls hAe C0 hP hD hS hl
  obtain ⟨hx, hb, hr, hml, hown, hlocks, hts, hnm, hN, hK, hA⟩ := C0
  have hU : ∀ w ∈ xU, w.before #[.int (nI n), .int (nI x)] s = true := fun w h => hts w (List.mem_cons_of_mem _ h)
  have hl : lv_has ls 2 [(0, .int (nI n)), (1, .int (nI x))] := hl
  refine lv_iload_n hx hb d_X_oneOf_0 rfl (lv_at hl 0 rfl) ?_
  refine xw_if_le (tgt := 13) hx hb d_X_oneOf_1 (by decide) (by omega) (fun c_1 => ?_) (fun c_1 => ?_)
  · exact (by omega : False).elim
  · refine lv_iload_n hx hb d_X_oneOf_4 rfl (lv_at hl 1 rfl) ?_
    refine lv_ldc (v := nI 65536) hx hb hown (hU _ uw_201) d_X_oneOf_5 ?_
    refine lv_idiv hx hb d_X_oneOf_7 (by decide +kernel) ?_
    refine xw_top (nI (x / 65536)) (pk_div (by omega) (by omega) (by omega)) ?_
    refine lv_iload_n hx hb d_X_oneOf_8 rfl (lv_at hl 0 rfl) ?_
    refine lv_irem hx hb d_X_oneOf_9 (nI_ne0 (by omega) (by omega)) ?_
    refine xw_top (nI ((x / 65536) % n)) (pk_rem (by omega) (by omega) (by omega)) ?_
    refine lv_goto (tgt := 14) hx hb d_X_oneOf_10 (by decide) ?_
    have hP9 := xs_P_sub (w := []) hP [] rfl
    have hD9 := hD.sub (ws' := []) [] (by decide +kernel) rfl
    exact xw_iret ((x / 65536) % n) hx hb hr hlocks d_X_oneOf_14 (rfl) (⟨rfl, Nat.mod_lt _ h0⟩) hAe hP9 hD9 hS (Nat.le_of_ble_eq_true rfl) (Nat.le_of_ble_eq_true rfl)
