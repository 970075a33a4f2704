set_option maxHeartbeats 4000000 in
set_option maxRecDepth 100000 in
/-- the law behind a call: the loop is through -/
theorem law_end {p : Program} {e : Env} {s : State} {m : MethodId} {below : List Frame} {meth : Method} {c : Code} (l : Launch) {b : Nat} {xs : Nat → Int32} (C0 : lw_At p s m meth c b 6 xs) {A : Nat → Prop} (hAs : ∀ q, A q → s.heap.size ≤ q) (hbA : ¬ A b) {H : Heap} {locs : List Loc} {ls : Array Slot} (hS : va_S A s.heap H locs) (hl : lv_has ls 7 [(4, .int (nI 2)), (0, .ref b)]) : W p l e room_1 s m #[Value.ref b] below meth c H locs 400 31000 (lw_Z below #[Value.ref b] s) (F0 m 821 ls []) := by
  obtain ⟨hx, hb, hr, hml, hown, hts, hX, hbl, hlocks, hgv⟩ := id C0
  refine lv_iinc (v := nI 6) (lv' := [(4, .int (nI 6)), (0, .ref b)]) hx hb d_LW_law_821 hl (k := 0) rfl (by decide +kernel) (by decide) rfl (fun ls hl => ?_)
  refine lv_goto (tgt := 43) hx hb d_LW_law_824 (by decide) ?_
  refine lv_iload hx hb d_LW_law_43 (lv_at hl 0 rfl) ?_
  refine lv_aload_n hx hb d_LW_law_45 rfl (lv_at hl 1 rfl) ?_
  refine va_slen hx hb hX hbl hbA hS d_LW_law_46 ?_
  refine lv_iconst (v := nI 4) hx hb d_LW_law_47 (by decide +kernel) ?_
  refine lv_isub hx hb d_LW_law_48 ?_
  refine lv_icmp_gt (tgt := 827) hx hb d_LW_law_49 (by decide) (fun c_49 => ?_) (fun c_49 => ?_)
  · refine lv_iconst (v := 1) hx hb d_LW_law_827 (by decide +kernel) ?_
    refine va_forget (fun q hq => hAs _ (hS.2.2 q hq)) ?_
    refine W.widen (k := 600002) (n := 7302198) (Nat.le_of_ble_eq_true rfl) (Nat.le_of_ble_eq_true rfl) ?_
    exact lw_ret hx hb hr hlocks d_LW_law_828
  · exact absurd (by decide +kernel) c_49
