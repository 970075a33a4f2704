set_option maxHeartbeats 4000000 in
/-- the law's cell(script, k): the script's k-th int, or 0 -/
theorem c_cell (l : Launch) (b L : Nat) (xs : Nat → Int32) (k : Nat) (hk : k < 10) (hL : L ≤ 3000) : Met l y_LW_cell w_LW_cell ({ frames := 0, cells := 0, slots := 0, locals := 0 } : Room) (va_Pc [.ref b, .int (nI k)] (fun U => va_X b L xs U U.heap ∧ b < U.heap.size)) (fun _ st oc t => oc = .returned (some (.int (if k < L then xs k else 0))) ∧ t.heap = st.heap) 0 0 (fun _ => False) := by
  refine xs_ofW (cc := b_LW_cell) (maxL := 2) (ret := some .int) (by decide +kernel) rfl ?_
  intro p e s m args below meth c s₁ B hml hv
  obtain ⟨rfl, hX, hbl⟩ := hv
  have hx := B.exec
  have hb := B.bytes
  have hr := B.returns
  have hlocks := B.notSynchronized
  have hl := lv_entry ([.ref b, .int (nI k)]) (n := 2) (Nat.le_of_ble_eq_true rfl)
  rw [lg_entry_eq]
  generalize (lg_sl ([.ref b, .int (nI k)]) ++ List.replicate (2 - (lg_sl ([.ref b, .int (nI k)])).length) Slot.unset).toArray = ls at hl ⊢
  have hl : lv_has ls 2 [(0, .ref b), (1, .int (nI k))] := hl
  have hS : va_S (fun _ => False) s.heap s.heap [] := va_S.rf
  have hbA : ¬ (fun _ : Nat => False) b := fun h => h
  refine lv_iload_n hx hb d_LW_cell_0 rfl (lv_at hl 1 rfl) ?_
  refine lv_aload_n hx hb d_LW_cell_1 rfl (lv_at hl 0 rfl) ?_
  refine va_slen hx hb hX hbl hbA hS d_LW_cell_2 ?_
  refine lv_icmp_ge (tgt := 12) hx hb d_LW_cell_3 (by decide) (fun c_3 => ?_) (fun c_3 => ?_)
  · have hge : ¬ k < L := xs_geN c_3 (by omega) (by omega)
    refine lv_iconst (v := 0) hx hb d_LW_cell_12 (by decide +kernel) ?_
    exact W.iret (v := 0) hx hb hr (fun t ht _ => ⟨by rw [if_neg hge], ht⟩) (fun q h => by cases h) d_LW_cell_13 hlocks
  · have hlt : k < L := xs_ltN c_3 (by omega) (by omega)
    refine lv_aload_n hx hb d_LW_cell_6 rfl (lv_at hl 0 rfl) ?_
    refine lv_iload_n hx hb d_LW_cell_7 rfl (lv_at hl 1 rfl) ?_
    refine va_sld hx hb hX hbl hbA hS (vp_in_nI hlt (by omega)) d_LW_cell_8 ?_
    refine lv_goto (tgt := 13) hx hb d_LW_cell_9 (by decide) ?_
    exact W.iret hx hb hr (fun t ht _ => ⟨by rw [if_pos hlt, nI_clamp (by omega)], ht⟩) (fun q h => by cases h) d_LW_cell_13 hlocks
section XLC
variable {p : Program} {l : Launch} {e : Env} {R : Room} {s : State} {m : MethodId} {args : Array Value} {below : List Frame} {meth : Method} {c : Code} {H : Heap} {locs : List Loc} {cells slots : Nat} {Q : State → Prop}
variable {pc : Nat} {ls : Array Slot} {rest st0 : List Value} {A : Nat → Prop} {cc : ByteArray} {nL index : Nat} {own : String}
theorem xw_cell {b L : Nat} {xs : Nat → Int32} (k : Nat) (hk : k < 10) (hL : L ≤ 3000) (S : CallFix p m c cc nL s args xU own) (hli : Cond.methodLink own index y_LW_cell ∈ xU) (hst : Cond.static y_LW_cell ∈ xU) (hin : Cond.initialized y_LW_cell.cls ∈ xU) (hcd : Cond.code y_LW_cell b_LW_cell 2 (some .int) ∈ xU) (hRm : 1 ≤ R.frames ∧ 21 ≤ R.locals)
    (hsize : ls.size = nL) (hW : (rest.map fun v => v.category).sum ≤ 8) (hdg : decode cc pc = .ok (.invokestatic index, 3)) (hf : cells ≤ R.cells ∧ slots ≤ R.slots) (hX : va_X b L xs s s.heap) (hbl : b < s.heap.size) (hbA : ¬ A b) (hS : va_S A s.heap H locs)
    (kk : W p l e R s m args below meth c H locs cells slots Q (F0 m (pc + 3) ls (.int (if k < L then xs k else 0) :: rest))) : W p l e R s m args below meth c H locs cells slots Q (F0 m pc ls (.int (nI k) :: .ref b :: rest)) := by
  intro T hT X
  obtain ⟨v, st₀, t, T', L9, h0, X', hL9, e1, e2, ⟨hv, hh⟩, st⟩ := va_runS (As := [.ref b, .int (nI k)]) (rest := rest) (g := F0 m pc ls (.int (nI k) :: .ref b :: rest)) S (c_cell l b L xs k hk hL) (va_cwS 2 S.2.2.2.2 (xs_goodS hli hst hin hcd) rfl rfl rfl (by decide +kernel) ⟨by show 0 + 1 ≤ _; omega, by show 8 + (2 + 11) + 0 ≤ _; omega⟩)
    ⟨fun a U g mk q => by obtain ⟨q0, q1, q2⟩ := q; exact ⟨q0, va_X.moved (u := U) (U := U.calling g mk a) (Vm.Alike.refl U.vm) q1, q2⟩, fun U hU hW => ⟨rfl, by rw [hU]; exact va_X.moved hW.alike (hX.kept (hS.2.1 b hbl hbA)), by rw [hU]; exact Nat.lt_of_lt_of_le hbl hS.1⟩⟩ rfl rfl hsize rfl (lv_room hW) hdg hf T hT X
  cases hv
  have hL0 : L9 = [] := List.eq_nil_iff_forall_not_mem.mpr (fun q hq => hL9 q hq)
  subst hL0
  rw [List.append_nil] at X'
  obtain ⟨t2, a1, b1⟩ := kk T' (e1.trans (hh.trans h0)) X'
  exact ⟨t2, st t2 a1, b1⟩
theorem xw_topL {x : Int64} (z : Int64) (h : x = z) (k : W p l e R s m args below meth c H locs cells slots Q (F0 m pc ls (.long z :: rest))) : W p l e R s m args below meth c H locs cells slots Q (F0 m pc ls (.long x :: rest)) := by rw [h]; exact k
end XLC
theorem xs_N_of {a : Array Value} {s : State} (hts : ∀ w ∈ lw_tbl, w.before a s = true) : xs_N s := fun w hw => by
  obtain ⟨h1, h2⟩ := List.mem_filter.mp hw
  have h3 := hts w h1
  cases w with
  | fieldLinkNest => exact va_Nw.of rfl h3
  | methodLinkNest => exact va_Nw.of rfl h3
  | declares => exact va_Nw.of rfl h3
  | castable => exact va_Nw.of rfl h3
  | arrayOver t =>
    cases t with
    | array t => exact h3
    | _ => exact Bool.noConfusion h2
  | _ => exact Bool.noConfusion h2
