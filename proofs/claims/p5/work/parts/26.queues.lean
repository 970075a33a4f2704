set_option maxHeartbeats 4000000 in
set_option maxRecDepth 100000 in
/-- isEmpty -/
theorem n_QU_isEmpty (l : Launch) (D : va_G) (cI cB cL cR : ClassId) (h0 : Nat) (rm : Nat) (qr : Nat) (qf : Nat) (qh : Nat) (mo : Int32) (w9 : Nat) (gh : Nat → Nat) (hrm : rm ≤ 8) (hw9 : w9 < 16) (hgh : ∀ j, gh j < 9) : xG (σ := Int32) l y_QU_isEmpty w_QU_isEmpty ({ frames := 0, cells := 0, slots := 0, locals := 0  } : Room) D vwCl (xs_tys cI cB cL cR) [.ref h0, .int (nI w9)] [(h0, .inr (5, [.int (nI rm), .ref qr, .ref qf, .ref qh, .int mo])), (qh, .inl (cI, 16, .inl (xs_G gh)))] (fun v => ((v = 1 ∧ gh w9 = 0) ∨ (v = 0 ∧ 0 < gh w9))) (fun v => some (.int v)) (fun v => [(h0, .inr (5, [.int (nI rm), .ref qr, .ref qf, .ref qh, .int mo])), (qh, .inl (cI, 16, .inl (xs_G gh)))]) := by
  refine xG.of b_QU_isEmpty 2 (some .boolean) (by decide +kernel) rfl (Nat.le_of_ble_eq_true rfl) ?_
  intro p e s m below meth c A ls hAe C0 hP hD hS hl
  obtain ⟨hx, hb, hr, hml, hown, hlocks, hts, hnm, hN, hK, hA⟩ := C0
  have hU : ∀ w ∈ xU, w.before #[.ref h0, .int (nI w9)] s = true := fun w h => hts w (List.mem_cons_of_mem _ h)
  have hl : lv_has ls 2 [(0, .ref h0), (1, .int (nI w9))] := hl
  refine lv_aload_n hx hb d_QU_isEmpty_0 rfl (lv_at hl 0 rfl) ?_
  refine va_get (D := D) (a := h0) (fs := [.int (nI rm), .ref qr, .ref qf, .ref qh, .int mo]) (ci := 5) (v := .ref qh) (C := R_QU) (T := T_QU) (N := 5) hx hb hU iw_QU hown hK hP 0 rfl rfl 3 (by decide) (hU _ uw_250) (fun _ h9 => h9) rfl d_QU_isEmpty_1 ?_
  refine lv_iload_n hx hb d_QU_isEmpty_4 rfl (lv_at hl 1 rfl) ?_
  refine xw_ildN hx hb hK hP 1 0 rfl rfl (by omega) (by decide) d_QU_isEmpty_5 ?_
  have hv_1 := hgh w9
  refine xw_if_ne (tgt := 13) hx hb d_QU_isEmpty_6 (by decide) (by omega) (fun c_6 => ?_) (fun c_6 => ?_)
  · refine lv_iconst (v := nI 0) hx hb d_QU_isEmpty_13 (by decide +kernel) ?_
    have hP9 := xs_P_sub (w := [(h0, .inr (5, [.int (nI rm), .ref qr, .ref qf, .ref qh, .int mo])), (qh, .inl (cI, 16, .inl (xs_G gh)))]) hP [0, 1] rfl
    have hD9 := hD.sub (ws' := [(h0, .inr (5, [.int (nI rm), .ref qr, .ref qf, .ref qh, .int mo])), (qh, .inl (cI, 16, .inl (xs_G gh)))]) [0, 1] (by decide +kernel) rfl
    exact xw_zret (nI 0) (by first | exact Or.inl rfl | exact Or.inr rfl) hx hb hr hlocks d_QU_isEmpty_14 (rfl) (by first | exact Or.inl ⟨rfl, by omega⟩ | exact Or.inr ⟨rfl, by omega⟩) hAe hP9 hD9 hS (Nat.le_of_ble_eq_true rfl) (Nat.le_of_ble_eq_true rfl)
  · refine lv_iconst (v := nI 1) hx hb d_QU_isEmpty_9 (by decide +kernel) ?_
    refine lv_goto (tgt := 14) hx hb d_QU_isEmpty_10 (by decide) ?_
    have hP9 := xs_P_sub (w := [(h0, .inr (5, [.int (nI rm), .ref qr, .ref qf, .ref qh, .int mo])), (qh, .inl (cI, 16, .inl (xs_G gh)))]) hP [0, 1] rfl
    have hD9 := hD.sub (ws' := [(h0, .inr (5, [.int (nI rm), .ref qr, .ref qf, .ref qh, .int mo])), (qh, .inl (cI, 16, .inl (xs_G gh)))]) [0, 1] (by decide +kernel) rfl
    exact xw_zret (nI 1) (by first | exact Or.inl rfl | exact Or.inr rfl) hx hb hr hlocks d_QU_isEmpty_14 (rfl) (by first | exact Or.inl ⟨rfl, by omega⟩ | exact Or.inr ⟨rfl, by omega⟩) hAe hP9 hD9 hS (Nat.le_of_ble_eq_true rfl) (Nat.le_of_ble_eq_true rfl)
set_option maxHeartbeats 4000000 in
set_option maxRecDepth 100000 in
/-- isFull -/
theorem n_QU_isFull (l : Launch) (D : va_G) (cI cB cL cR : ClassId) (h0 : Nat) (rm : Nat) (qr : Nat) (qf : Nat) (qh : Nat) (mo : Int32) (w9 : Nat) (gh : Nat → Nat) (hrm : rm ≤ 8) (hw9 : w9 < 16) (hgh : ∀ j, gh j < 9) : xG (σ := Int32) l y_QU_isFull w_QU_isFull ({ frames := 0, cells := 0, slots := 0, locals := 0  } : Room) D vwCl (xs_tys cI cB cL cR) [.ref h0, .int (nI w9)] [(h0, .inr (5, [.int (nI rm), .ref qr, .ref qf, .ref qh, .int mo])), (qh, .inl (cI, 16, .inl (xs_G gh)))] (fun v => ((v = 1 ∧ rm ≤ gh w9) ∨ (v = 0 ∧ gh w9 < rm))) (fun v => some (.int v)) (fun v => [(h0, .inr (5, [.int (nI rm), .ref qr, .ref qf, .ref qh, .int mo])), (qh, .inl (cI, 16, .inl (xs_G gh)))]) := by
  refine xG.of b_QU_isFull 2 (some .boolean) (by decide +kernel) rfl (Nat.le_of_ble_eq_true rfl) ?_
  intro p e s m below meth c A ls hAe C0 hP hD hS hl
  obtain ⟨hx, hb, hr, hml, hown, hlocks, hts, hnm, hN, hK, hA⟩ := C0
  have hU : ∀ w ∈ xU, w.before #[.ref h0, .int (nI w9)] s = true := fun w h => hts w (List.mem_cons_of_mem _ h)
  have hl : lv_has ls 2 [(0, .ref h0), (1, .int (nI w9))] := hl
  refine lv_aload_n hx hb d_QU_isFull_0 rfl (lv_at hl 0 rfl) ?_
  refine va_get (D := D) (a := h0) (fs := [.int (nI rm), .ref qr, .ref qf, .ref qh, .int mo]) (ci := 5) (v := .ref qh) (C := R_QU) (T := T_QU) (N := 5) hx hb hU iw_QU hown hK hP 0 rfl rfl 3 (by decide) (hU _ uw_250) (fun _ h9 => h9) rfl d_QU_isFull_1 ?_
  refine lv_iload_n hx hb d_QU_isFull_4 rfl (lv_at hl 1 rfl) ?_
  refine xw_ildN hx hb hK hP 1 0 rfl rfl (by omega) (by decide) d_QU_isFull_5 ?_
  have hv_1 := hgh w9
  refine lv_aload_n hx hb d_QU_isFull_6 rfl (lv_at hl 0 rfl) ?_
  refine va_get (D := D) (a := h0) (fs := [.int (nI rm), .ref qr, .ref qf, .ref qh, .int mo]) (ci := 5) (v := .int (nI rm)) (C := R_QU) (T := T_QU) (N := 5) hx hb hU iw_QU hown hK hP 0 rfl rfl 0 (by decide) (hU _ uw_246) (fun _ h9 => h9) rfl d_QU_isFull_7 ?_
  refine xw_icmp_lt (tgt := 17) hx hb d_QU_isFull_10 (by decide) (by omega) (by omega) (fun c_10 => ?_) (fun c_10 => ?_)
  · refine lv_iconst (v := nI 0) hx hb d_QU_isFull_17 (by decide +kernel) ?_
    have hP9 := xs_P_sub (w := [(h0, .inr (5, [.int (nI rm), .ref qr, .ref qf, .ref qh, .int mo])), (qh, .inl (cI, 16, .inl (xs_G gh)))]) hP [0, 1] rfl
    have hD9 := hD.sub (ws' := [(h0, .inr (5, [.int (nI rm), .ref qr, .ref qf, .ref qh, .int mo])), (qh, .inl (cI, 16, .inl (xs_G gh)))]) [0, 1] (by decide +kernel) rfl
    exact xw_zret (nI 0) (by first | exact Or.inl rfl | exact Or.inr rfl) hx hb hr hlocks d_QU_isFull_18 (rfl) (by first | exact Or.inl ⟨rfl, by omega⟩ | exact Or.inr ⟨rfl, by omega⟩) hAe hP9 hD9 hS (Nat.le_of_ble_eq_true rfl) (Nat.le_of_ble_eq_true rfl)
  · refine lv_iconst (v := nI 1) hx hb d_QU_isFull_13 (by decide +kernel) ?_
    refine lv_goto (tgt := 18) hx hb d_QU_isFull_14 (by decide) ?_
    have hP9 := xs_P_sub (w := [(h0, .inr (5, [.int (nI rm), .ref qr, .ref qf, .ref qh, .int mo])), (qh, .inl (cI, 16, .inl (xs_G gh)))]) hP [0, 1] rfl
    have hD9 := hD.sub (ws' := [(h0, .inr (5, [.int (nI rm), .ref qr, .ref qf, .ref qh, .int mo])), (qh, .inl (cI, 16, .inl (xs_G gh)))]) [0, 1] (by decide +kernel) rfl
    exact xw_zret (nI 1) (by first | exact Or.inl rfl | exact Or.inr rfl) hx hb hr hlocks d_QU_isFull_18 (rfl) (by first | exact Or.inl ⟨rfl, by omega⟩ | exact Or.inr ⟨rfl, by omega⟩) hAe hP9 hD9 hS (Nat.le_of_ble_eq_true rfl) (Nat.le_of_ble_eq_true rfl)
set_option maxHeartbeats 4000000 in
set_option maxRecDepth 100000 in
/-- put -/
theorem n_QU_put (l : Launch) (D : va_G) (cI cB cL cR : ClassId) (h0 : Nat) (rm : Nat) (qr : Nat) (qf : Nat) (qh : Nat) (mo : Int32) (w9 : Nat) (r : Nat → Nat) (sx : Nat) (gf : Nat → Nat) (gh : Nat → Nat) (g : Nat → Nat → Nat) (hrm : rm ≤ 8) (hw9 : w9 < 16) (hsx : sx < 200) (hfree : gh w9 < rm) (hgf : ∀ j, gf j < 8) (hgh : ∀ j, gh j < 9) (hg : ∀ i j, g i j < 200) : xG (σ := Int32 × (Nat → Nat) × (Nat → Nat → Nat)) l y_QU_put w_QU_put ({ frames := 0, cells := 0, slots := 0, locals := 0  } : Room) D vwCl (xs_tys cI cB cL cR) [.ref h0, .int (nI w9), .int (nI sx)] (xs_ap [(h0, .inr (5, [.int (nI rm), .ref qr, .ref qf, .ref qh, .int mo])), (qr, .inl (cR, 16, .inr (.inr (.inr (.inr (xs_out r 16)))))), (qf, .inl (cI, 16, .inl (xs_G gf))), (qh, .inl (cI, 16, .inl (xs_G gh)))] (xs_rows cI r 16 8 g)) (fun (mo1, gh1, g1) => (∀ j, gh1 j < 9) ∧ (∀ i j, g1 i j < 200) ∧ (gh1 = va_up gh w9 (gh w9 + 1)) ∧ (g1 = xs_up2 g w9 ((gf w9 + gh w9) % 8) sx)) (fun (mo1, gh1, g1) => none) (fun (mo1, gh1, g1) => (xs_ap [(h0, .inr (5, [.int (nI rm), .ref qr, .ref qf, .ref qh, .int mo1])), (qr, .inl (cR, 16, .inr (.inr (.inr (.inr (xs_out r 16)))))), (qf, .inl (cI, 16, .inl (xs_G gf))), (qh, .inl (cI, 16, .inl (xs_G gh1)))] (xs_rows cI r 16 8 g1))) := by
  refine xG.of b_QU_put 3 (none) (by decide +kernel) rfl (Nat.le_of_ble_eq_true rfl) ?_
  intro p e s m below meth c A ls hAe C0 hP hD hS hl
  obtain ⟨hx, hb, hr, hml, hown, hlocks, hts, hnm, hN, hK, hA⟩ := C0
  have hU : ∀ w ∈ xU, w.before #[.ref h0, .int (nI w9), .int (nI sx)] s = true := fun w h => hts w (List.mem_cons_of_mem _ h)
  have hl : lv_has ls 3 [(0, .ref h0), (1, .int (nI w9)), (2, .int (nI sx))] := hl
  refine lv_aload_n hx hb d_QU_put_0 rfl (lv_at hl 0 rfl) ?_
  refine va_get (D := D) (a := h0) (fs := [.int (nI rm), .ref qr, .ref qf, .ref qh, .int mo]) (ci := 5) (v := .ref qr) (C := R_QU) (T := T_QU) (N := 5) hx hb hU iw_QU hown hK hP 0 rfl rfl 1 (by decide) (hU _ uw_248) (fun _ h9 => h9) rfl d_QU_put_1 ?_
  refine lv_iload_n hx hb d_QU_put_4 rfl (lv_at hl 1 rfl) ?_
  refine xw_ald hx hb hK hP 1 3 rfl rfl (by omega) (by decide) d_QU_put_5 ?_
  refine lv_aload_n hx hb d_QU_put_6 rfl (lv_at hl 0 rfl) ?_
  refine va_get (D := D) (a := h0) (fs := [.int (nI rm), .ref qr, .ref qf, .ref qh, .int mo]) (ci := 5) (v := .ref qf) (C := R_QU) (T := T_QU) (N := 5) hx hb hU iw_QU hown hK hP 0 rfl rfl 2 (by decide) (hU _ uw_249) (fun _ h9 => h9) rfl d_QU_put_7 ?_
  refine lv_iload_n hx hb d_QU_put_10 rfl (lv_at hl 1 rfl) ?_
  refine xw_ildN hx hb hK hP 2 0 rfl rfl (by omega) (by decide) d_QU_put_11 ?_
  have hv_1 := hgf w9
  refine lv_aload_n hx hb d_QU_put_12 rfl (lv_at hl 0 rfl) ?_
  refine va_get (D := D) (a := h0) (fs := [.int (nI rm), .ref qr, .ref qf, .ref qh, .int mo]) (ci := 5) (v := .ref qh) (C := R_QU) (T := T_QU) (N := 5) hx hb hU iw_QU hown hK hP 0 rfl rfl 3 (by decide) (hU _ uw_250) (fun _ h9 => h9) rfl d_QU_put_13 ?_
  refine lv_iload_n hx hb d_QU_put_16 rfl (lv_at hl 1 rfl) ?_
  refine xw_ildN hx hb hK hP 3 0 rfl rfl (by omega) (by decide) d_QU_put_17 ?_
  have hv_2 := hgh w9
  refine lv_iadd hx hb d_QU_put_18 ?_
  refine xw_top (nI (gf w9 + (gh w9))) (nI_add _ _) ?_
  refine lv_bipush (v := nI 8) hx hb d_QU_put_19 (by decide +kernel) ?_
  refine lv_irem hx hb d_QU_put_21 (by decide +kernel) ?_
  refine xw_top (nI ((gf w9 + (gh w9)) % 8)) (pk_rem (by omega) (by omega) (by omega)) ?_
  refine lv_iload_n hx hb d_QU_put_22 rfl (lv_at hl 2 rfl) ?_
  refine xw_rst1 hx hb hK [(h0, .inr (5, [.int (nI rm), .ref qr, .ref qf, .ref qh, .int mo])), (qr, .inl (cR, 16, .inr (.inr (.inr (.inr (xs_out r 16)))))), (qf, .inl (cI, 16, .inl (xs_G gf))), (qh, .inl (cI, 16, .inl (xs_G gh)))] hP hD hS 0 rfl (by omega) (by omega) (by decide) d_QU_put_23 (fun H locs hP hD hS => ?_)
  have hg_4 : ∀ a b, (xs_up2 g w9 ((gf w9 + (gh w9)) % 8) sx) a b < 200 := xs_up2_lt hg (by omega)
  obtain ⟨g_3, hge⟩ : ∃ z, z = xs_up2 g w9 ((gf w9 + (gh w9)) % 8) sx := ⟨_, rfl⟩
  rw [← hge] at hP hD hg_4
  replace hP : va_P D vwCl (xs_ap [(h0, .inr (5, [.int (nI rm), .ref qr, .ref qf, .ref qh, .int mo])), (qr, .inl (cR, 16, .inr (.inr (.inr (.inr (xs_out r 16)))))), (qf, .inl (cI, 16, .inl (xs_G gf))), (qh, .inl (cI, 16, .inl (xs_G gh)))] (xs_rows cI r 16 8 g_3)) H := hP
  replace hD : va_D A (xs_ap [(h0, .inr (5, [.int (nI rm), .ref qr, .ref qf, .ref qh, .int mo])), (qr, .inl (cR, 16, .inr (.inr (.inr (.inr (xs_out r 16)))))), (qf, .inl (cI, 16, .inl (xs_G gf))), (qh, .inl (cI, 16, .inl (xs_G gh)))] (xs_rows cI r 16 8 g_3)) := hD
  refine lv_aload_n hx hb d_QU_put_24 rfl (lv_at hl 0 rfl) ?_
  refine va_get (D := D) (a := h0) (fs := [.int (nI rm), .ref qr, .ref qf, .ref qh, .int mo]) (ci := 5) (v := .ref qh) (C := R_QU) (T := T_QU) (N := 5) hx hb hU iw_QU hown hK hP 0 rfl rfl 3 (by decide) (hU _ uw_250) (fun _ h9 => h9) rfl d_QU_put_25 ?_
  refine lv_iload_n hx hb d_QU_put_28 rfl (lv_at hl 1 rfl) ?_
  refine lv_dup2_11 hx hb d_QU_put_29 rfl rfl ?_
  refine xw_ildN hx hb hK hP 3 0 rfl rfl (by omega) (by decide) d_QU_put_30 ?_
  have hv_5 := hgh w9
  refine lv_iconst (v := nI 1) hx hb d_QU_put_31 (by decide +kernel) ?_
  refine lv_iadd hx hb d_QU_put_32 ?_
  refine xw_top (nI (gh w9 + 1)) (nI_add _ _) ?_
  refine xw_istN hx hb hK hP hD hS 3 0 rfl rfl (by omega) (by decide) d_QU_put_33 (fun H locs hP hD hS => ?_)
  have hg_7 : ∀ j, (va_up gh w9 (gh w9 + 1)) j < 9 := xs_up_lt (fun j => by have h8 := hgh j; omega) (by omega)
  replace hP : va_P D vwCl (xs_ap [(h0, .inr (5, [.int (nI rm), .ref qr, .ref qf, .ref qh, .int mo])), (qr, .inl (cR, 16, .inr (.inr (.inr (.inr (xs_out r 16)))))), (qf, .inl (cI, 16, .inl (xs_G gf))), (qh, .inl (cI, 16, .inl (xs_G (va_up gh w9 (gh w9 + 1)))))] (xs_rows cI r 16 8 g_3)) H := hP
  replace hD : va_D A (xs_ap [(h0, .inr (5, [.int (nI rm), .ref qr, .ref qf, .ref qh, .int mo])), (qr, .inl (cR, 16, .inr (.inr (.inr (.inr (xs_out r 16)))))), (qf, .inl (cI, 16, .inl (xs_G gf))), (qh, .inl (cI, 16, .inl (xs_G (va_up gh w9 (gh w9 + 1)))))] (xs_rows cI r 16 8 g_3)) := hD
  obtain ⟨g_6, hqe⟩ : ∃ z, z = va_up gh w9 (gh w9 + 1) := ⟨_, rfl⟩
  rw [← hqe] at hP hD hg_7
  replace hP : va_P D vwCl (xs_ap [(h0, .inr (5, [.int (nI rm), .ref qr, .ref qf, .ref qh, .int mo])), (qr, .inl (cR, 16, .inr (.inr (.inr (.inr (xs_out r 16)))))), (qf, .inl (cI, 16, .inl (xs_G gf))), (qh, .inl (cI, 16, .inl (xs_G g_6)))] (xs_rows cI r 16 8 g_3)) H := hP
  replace hD : va_D A (xs_ap [(h0, .inr (5, [.int (nI rm), .ref qr, .ref qf, .ref qh, .int mo])), (qr, .inl (cR, 16, .inr (.inr (.inr (.inr (xs_out r 16)))))), (qf, .inl (cI, 16, .inl (xs_G gf))), (qh, .inl (cI, 16, .inl (xs_G g_6)))] (xs_rows cI r 16 8 g_3)) := hD
  refine lv_aload_n hx hb d_QU_put_34 rfl (lv_at hl 0 rfl) ?_
  refine va_get (D := D) (a := h0) (fs := [.int (nI rm), .ref qr, .ref qf, .ref qh, .int mo]) (ci := 5) (v := .ref qh) (C := R_QU) (T := T_QU) (N := 5) hx hb hU iw_QU hown hK hP 0 rfl rfl 3 (by decide) (hU _ uw_250) (fun _ h9 => h9) rfl d_QU_put_35 ?_
  refine lv_iload_n hx hb d_QU_put_38 rfl (lv_at hl 1 rfl) ?_
  refine xw_ildN hx hb hK hP 3 0 rfl rfl (by omega) (by decide) d_QU_put_39 ?_
  have hv_8 := hg_7 w9
  refine lv_aload_n hx hb d_QU_put_40 rfl (lv_at hl 0 rfl) ?_
  refine va_get (D := D) (a := h0) (fs := [.int (nI rm), .ref qr, .ref qf, .ref qh, .int mo]) (ci := 5) (v := .int mo) (C := R_QU) (T := T_QU) (N := 5) hx hb hU iw_QU hown hK hP 0 rfl rfl 4 (by decide) (hU _ uw_252) (fun _ h9 => h9) rfl d_QU_put_41 ?_
  refine lv_icmp_le (tgt := 57) hx hb d_QU_put_44 (by decide) (fun c_44 => ?_) (fun c_44 => ?_)
  · have hP9 := xs_P_sub (w := (xs_ap [(h0, .inr (5, [.int (nI rm), .ref qr, .ref qf, .ref qh, .int mo])), (qr, .inl (cR, 16, .inr (.inr (.inr (.inr (xs_out r 16)))))), (qf, .inl (cI, 16, .inl (xs_G gf))), (qh, .inl (cI, 16, .inl (xs_G g_6)))] (xs_rows cI r 16 8 g_3))) hP [0, 1, 2, 3, 4, 5, 6, 7, 8, 9, 10, 11, 12, 13, 14, 15, 16, 17, 18, 19] rfl
    have hD9 := hD.sub (ws' := (xs_ap [(h0, .inr (5, [.int (nI rm), .ref qr, .ref qf, .ref qh, .int mo])), (qr, .inl (cR, 16, .inr (.inr (.inr (.inr (xs_out r 16)))))), (qf, .inl (cI, 16, .inl (xs_G gf))), (qh, .inl (cI, 16, .inl (xs_G g_6)))] (xs_rows cI r 16 8 g_3))) [0, 1, 2, 3, 4, 5, 6, 7, 8, 9, 10, 11, 12, 13, 14, 15, 16, 17, 18, 19] (by decide +kernel) rfl
    exact xw_vret (mo, g_6, g_3) hx hb hr hlocks d_QU_put_57 (rfl) (⟨hg_7, hg_4, hqe, hge⟩) hAe hP9 hD9 hS (Nat.le_of_ble_eq_true rfl) (Nat.le_of_ble_eq_true rfl)
  · refine lv_aload_n hx hb d_QU_put_47 rfl (lv_at hl 0 rfl) ?_
    refine lv_aload_n hx hb d_QU_put_48 rfl (lv_at hl 0 rfl) ?_
    refine va_get (D := D) (a := h0) (fs := [.int (nI rm), .ref qr, .ref qf, .ref qh, .int mo]) (ci := 5) (v := .ref qh) (C := R_QU) (T := T_QU) (N := 5) hx hb hU iw_QU hown hK hP 0 rfl rfl 3 (by decide) (hU _ uw_250) (fun _ h9 => h9) rfl d_QU_put_49 ?_
    refine lv_iload_n hx hb d_QU_put_52 rfl (lv_at hl 1 rfl) ?_
    refine xw_ildN hx hb hK hP 3 0 rfl rfl (by omega) (by decide) d_QU_put_53 ?_
    have hv_9 := hg_7 w9
    refine va_put (D := D) (ci := 5) (v := .int (nI (g_6 w9))) (ty := .int) (C := R_QU) (T := T_QU) (N := 5) hx hb hU iw_QU ty_QU ty_QU_ok nm_QU hown hK hP hD hS 0 rfl rfl 4 (by decide) (hU _ uw_252) (fun _ h9 => h9) rfl (by decide +kernel) (by first | rfl | decide +kernel) (by first | rfl | decide +kernel) (Nat.le_of_ble_eq_true rfl) d_QU_put_54 (fun H locs hP hD hS => ?_)
    replace hP : va_P D vwCl (xs_ap [(h0, .inr (5, [.int (nI rm), .ref qr, .ref qf, .ref qh, .int (nI (g_6 w9))])), (qr, .inl (cR, 16, .inr (.inr (.inr (.inr (xs_out r 16)))))), (qf, .inl (cI, 16, .inl (xs_G gf))), (qh, .inl (cI, 16, .inl (xs_G g_6)))] (xs_rows cI r 16 8 g_3)) H := hP
    replace hD : va_D A (xs_ap [(h0, .inr (5, [.int (nI rm), .ref qr, .ref qf, .ref qh, .int (nI (g_6 w9))])), (qr, .inl (cR, 16, .inr (.inr (.inr (.inr (xs_out r 16)))))), (qf, .inl (cI, 16, .inl (xs_G gf))), (qh, .inl (cI, 16, .inl (xs_G g_6)))] (xs_rows cI r 16 8 g_3)) := hD
    have hP9 := xs_P_sub (w := (xs_ap [(h0, .inr (5, [.int (nI rm), .ref qr, .ref qf, .ref qh, .int (nI (g_6 w9))])), (qr, .inl (cR, 16, .inr (.inr (.inr (.inr (xs_out r 16)))))), (qf, .inl (cI, 16, .inl (xs_G gf))), (qh, .inl (cI, 16, .inl (xs_G g_6)))] (xs_rows cI r 16 8 g_3))) hP [0, 1, 2, 3, 4, 5, 6, 7, 8, 9, 10, 11, 12, 13, 14, 15, 16, 17, 18, 19] rfl
    have hD9 := hD.sub (ws' := (xs_ap [(h0, .inr (5, [.int (nI rm), .ref qr, .ref qf, .ref qh, .int (nI (g_6 w9))])), (qr, .inl (cR, 16, .inr (.inr (.inr (.inr (xs_out r 16)))))), (qf, .inl (cI, 16, .inl (xs_G gf))), (qh, .inl (cI, 16, .inl (xs_G g_6)))] (xs_rows cI r 16 8 g_3))) [0, 1, 2, 3, 4, 5, 6, 7, 8, 9, 10, 11, 12, 13, 14, 15, 16, 17, 18, 19] (by decide +kernel) rfl
    exact xw_vret (nI (g_6 w9), g_6, g_3) hx hb hr hlocks d_QU_put_57 (rfl) (⟨hg_7, hg_4, hqe, hge⟩) hAe hP9 hD9 hS (Nat.le_of_ble_eq_true rfl) (Nat.le_of_ble_eq_true rfl)
set_option maxHeartbeats 4000000 in
set_option maxRecDepth 100000 in
/-- take -/
theorem n_QU_take (l : Launch) (D : va_G) (cI cB cL cR : ClassId) (h0 : Nat) (rm : Nat) (qr : Nat) (qf : Nat) (qh : Nat) (mo : Int32) (w9 : Nat) (r : Nat → Nat) (gf : Nat → Nat) (gh : Nat → Nat) (g : Nat → Nat → Nat) (hrm : rm ≤ 8) (hw9 : w9 < 16) (hne : 0 < gh w9) (hgf : ∀ j, gf j < 8) (hgh : ∀ j, gh j < 9) (hg : ∀ i j, g i j < 200) : xG (σ := Nat × (Nat → Nat) × (Nat → Nat)) l y_QU_take w_QU_take ({ frames := 0, cells := 0, slots := 0, locals := 0  } : Room) D vwCl (xs_tys cI cB cL cR) [.ref h0, .int (nI w9)] (xs_ap [(h0, .inr (5, [.int (nI rm), .ref qr, .ref qf, .ref qh, .int mo])), (qr, .inl (cR, 16, .inr (.inr (.inr (.inr (xs_out r 16)))))), (qf, .inl (cI, 16, .inl (xs_G gf))), (qh, .inl (cI, 16, .inl (xs_G gh)))] (xs_rows cI r 16 8 g)) (fun (v, gf1, gh1) => (v < 200) ∧ (∀ j, gf1 j < 8) ∧ (∀ j, gh1 j < 9) ∧ (v = g w9 (gf w9)) ∧ (gh1 = va_up gh w9 (gh w9 - 1)) ∧ (gf1 = va_up gf w9 ((gf w9 + 1) % 8))) (fun (v, gf1, gh1) => some (.int (nI v))) (fun (v, gf1, gh1) => (xs_ap [(h0, .inr (5, [.int (nI rm), .ref qr, .ref qf, .ref qh, .int mo])), (qr, .inl (cR, 16, .inr (.inr (.inr (.inr (xs_out r 16)))))), (qf, .inl (cI, 16, .inl (xs_G gf1))), (qh, .inl (cI, 16, .inl (xs_G gh1)))] (xs_rows cI r 16 8 g))) := by
  refine xG.of b_QU_take 3 (some .int) (by decide +kernel) rfl (Nat.le_of_ble_eq_true rfl) ?_
  intro p e s m below meth c A ls hAe C0 hP hD hS hl
  obtain ⟨hx, hb, hr, hml, hown, hlocks, hts, hnm, hN, hK, hA⟩ := C0
  have hU : ∀ w ∈ xU, w.before #[.ref h0, .int (nI w9)] s = true := fun w h => hts w (List.mem_cons_of_mem _ h)
  have hl : lv_has ls 3 [(0, .ref h0), (1, .int (nI w9))] := hl
  refine lv_aload_n hx hb d_QU_take_0 rfl (lv_at hl 0 rfl) ?_
  refine va_get (D := D) (a := h0) (fs := [.int (nI rm), .ref qr, .ref qf, .ref qh, .int mo]) (ci := 5) (v := .ref qr) (C := R_QU) (T := T_QU) (N := 5) hx hb hU iw_QU hown hK hP 0 rfl rfl 1 (by decide) (hU _ uw_248) (fun _ h9 => h9) rfl d_QU_take_1 ?_
  refine lv_iload_n hx hb d_QU_take_4 rfl (lv_at hl 1 rfl) ?_
  refine xw_ald hx hb hK hP 1 3 rfl rfl (by omega) (by decide) d_QU_take_5 ?_
  refine lv_aload_n hx hb d_QU_take_6 rfl (lv_at hl 0 rfl) ?_
  refine va_get (D := D) (a := h0) (fs := [.int (nI rm), .ref qr, .ref qf, .ref qh, .int mo]) (ci := 5) (v := .ref qf) (C := R_QU) (T := T_QU) (N := 5) hx hb hU iw_QU hown hK hP 0 rfl rfl 2 (by decide) (hU _ uw_249) (fun _ h9 => h9) rfl d_QU_take_7 ?_
  refine lv_iload_n hx hb d_QU_take_10 rfl (lv_at hl 1 rfl) ?_
  refine xw_ildN hx hb hK hP 2 0 rfl rfl (by omega) (by decide) d_QU_take_11 ?_
  have hv_1 := hgf w9
  refine xw_rld1 hx hb hK [(h0, .inr (5, [.int (nI rm), .ref qr, .ref qf, .ref qh, .int mo])), (qr, .inl (cR, 16, .inr (.inr (.inr (.inr (xs_out r 16)))))), (qf, .inl (cI, 16, .inl (xs_G gf))), (qh, .inl (cI, 16, .inl (xs_G gh)))] hP 0 rfl (by omega) (by omega) (by decide) d_QU_take_12 ?_
  have hv_2 := hg w9 (gf w9)
  refine lv_istore_n (lv' := [(2, .int (nI (g w9 (gf w9)))), (0, .ref h0), (1, .int (nI w9))]) hx hb d_QU_take_13 rfl hl (by decide) rfl (fun ls hl => ?_)
  refine lv_aload_n hx hb d_QU_take_14 rfl (lv_at hl 1 rfl) ?_
  refine va_get (D := D) (a := h0) (fs := [.int (nI rm), .ref qr, .ref qf, .ref qh, .int mo]) (ci := 5) (v := .ref qf) (C := R_QU) (T := T_QU) (N := 5) hx hb hU iw_QU hown hK hP 0 rfl rfl 2 (by decide) (hU _ uw_249) (fun _ h9 => h9) rfl d_QU_take_15 ?_
  refine lv_iload_n hx hb d_QU_take_18 rfl (lv_at hl 2 rfl) ?_
  refine lv_aload_n hx hb d_QU_take_19 rfl (lv_at hl 1 rfl) ?_
  refine va_get (D := D) (a := h0) (fs := [.int (nI rm), .ref qr, .ref qf, .ref qh, .int mo]) (ci := 5) (v := .ref qf) (C := R_QU) (T := T_QU) (N := 5) hx hb hU iw_QU hown hK hP 0 rfl rfl 2 (by decide) (hU _ uw_249) (fun _ h9 => h9) rfl d_QU_take_20 ?_
  refine lv_iload_n hx hb d_QU_take_23 rfl (lv_at hl 2 rfl) ?_
  refine xw_ildN hx hb hK hP 2 0 rfl rfl (by omega) (by decide) d_QU_take_24 ?_
  have hv_3 := hgf w9
  refine lv_iconst (v := nI 1) hx hb d_QU_take_25 (by decide +kernel) ?_
  refine lv_iadd hx hb d_QU_take_26 ?_
  refine xw_top (nI (gf w9 + 1)) (nI_add _ _) ?_
  refine lv_bipush (v := nI 8) hx hb d_QU_take_27 (by decide +kernel) ?_
  refine lv_irem hx hb d_QU_take_29 (by decide +kernel) ?_
  refine xw_top (nI ((gf w9 + 1) % 8)) (pk_rem (by omega) (by omega) (by omega)) ?_
  refine xw_istN hx hb hK hP hD hS 2 0 rfl rfl (by omega) (by decide) d_QU_take_30 (fun H locs hP hD hS => ?_)
  have hg_5 : ∀ j, (va_up gf w9 ((gf w9 + 1) % 8)) j < 8 := xs_up_lt (fun j => by have h8 := hgf j; omega) (by omega)
  replace hP : va_P D vwCl (xs_ap [(h0, .inr (5, [.int (nI rm), .ref qr, .ref qf, .ref qh, .int mo])), (qr, .inl (cR, 16, .inr (.inr (.inr (.inr (xs_out r 16)))))), (qf, .inl (cI, 16, .inl (xs_G (va_up gf w9 ((gf w9 + 1) % 8))))), (qh, .inl (cI, 16, .inl (xs_G gh)))] (xs_rows cI r 16 8 g)) H := hP
  replace hD : va_D A (xs_ap [(h0, .inr (5, [.int (nI rm), .ref qr, .ref qf, .ref qh, .int mo])), (qr, .inl (cR, 16, .inr (.inr (.inr (.inr (xs_out r 16)))))), (qf, .inl (cI, 16, .inl (xs_G (va_up gf w9 ((gf w9 + 1) % 8))))), (qh, .inl (cI, 16, .inl (xs_G gh)))] (xs_rows cI r 16 8 g)) := hD
  obtain ⟨g_4, hfe⟩ : ∃ z, z = va_up gf w9 ((gf w9 + 1) % 8) := ⟨_, rfl⟩
  rw [← hfe] at hP hD hg_5
  replace hP : va_P D vwCl (xs_ap [(h0, .inr (5, [.int (nI rm), .ref qr, .ref qf, .ref qh, .int mo])), (qr, .inl (cR, 16, .inr (.inr (.inr (.inr (xs_out r 16)))))), (qf, .inl (cI, 16, .inl (xs_G g_4))), (qh, .inl (cI, 16, .inl (xs_G gh)))] (xs_rows cI r 16 8 g)) H := hP
  replace hD : va_D A (xs_ap [(h0, .inr (5, [.int (nI rm), .ref qr, .ref qf, .ref qh, .int mo])), (qr, .inl (cR, 16, .inr (.inr (.inr (.inr (xs_out r 16)))))), (qf, .inl (cI, 16, .inl (xs_G g_4))), (qh, .inl (cI, 16, .inl (xs_G gh)))] (xs_rows cI r 16 8 g)) := hD
  refine lv_aload_n hx hb d_QU_take_31 rfl (lv_at hl 1 rfl) ?_
  refine va_get (D := D) (a := h0) (fs := [.int (nI rm), .ref qr, .ref qf, .ref qh, .int mo]) (ci := 5) (v := .ref qh) (C := R_QU) (T := T_QU) (N := 5) hx hb hU iw_QU hown hK hP 0 rfl rfl 3 (by decide) (hU _ uw_250) (fun _ h9 => h9) rfl d_QU_take_32 ?_
  refine lv_iload_n hx hb d_QU_take_35 rfl (lv_at hl 2 rfl) ?_
  refine lv_dup2_11 hx hb d_QU_take_36 rfl rfl ?_
  refine xw_ildN hx hb hK hP 3 0 rfl rfl (by omega) (by decide) d_QU_take_37 ?_
  have hv_6 := hgh w9
  refine lv_iconst (v := nI 1) hx hb d_QU_take_38 (by decide +kernel) ?_
  refine lv_isub hx hb d_QU_take_39 ?_
  refine xw_top (nI (gh w9 - 1)) (pk_sub (by omega)) ?_
  refine xw_istN hx hb hK hP hD hS 3 0 rfl rfl (by omega) (by decide) d_QU_take_40 (fun H locs hP hD hS => ?_)
  have hg_8 : ∀ j, (va_up gh w9 (gh w9 - 1)) j < 9 := xs_up_lt (fun j => by have h8 := hgh j; omega) (by omega)
  replace hP : va_P D vwCl (xs_ap [(h0, .inr (5, [.int (nI rm), .ref qr, .ref qf, .ref qh, .int mo])), (qr, .inl (cR, 16, .inr (.inr (.inr (.inr (xs_out r 16)))))), (qf, .inl (cI, 16, .inl (xs_G g_4))), (qh, .inl (cI, 16, .inl (xs_G (va_up gh w9 (gh w9 - 1)))))] (xs_rows cI r 16 8 g)) H := hP
  replace hD : va_D A (xs_ap [(h0, .inr (5, [.int (nI rm), .ref qr, .ref qf, .ref qh, .int mo])), (qr, .inl (cR, 16, .inr (.inr (.inr (.inr (xs_out r 16)))))), (qf, .inl (cI, 16, .inl (xs_G g_4))), (qh, .inl (cI, 16, .inl (xs_G (va_up gh w9 (gh w9 - 1)))))] (xs_rows cI r 16 8 g)) := hD
  obtain ⟨g_7, hqe⟩ : ∃ z, z = va_up gh w9 (gh w9 - 1) := ⟨_, rfl⟩
  rw [← hqe] at hP hD hg_8
  replace hP : va_P D vwCl (xs_ap [(h0, .inr (5, [.int (nI rm), .ref qr, .ref qf, .ref qh, .int mo])), (qr, .inl (cR, 16, .inr (.inr (.inr (.inr (xs_out r 16)))))), (qf, .inl (cI, 16, .inl (xs_G g_4))), (qh, .inl (cI, 16, .inl (xs_G g_7)))] (xs_rows cI r 16 8 g)) H := hP
  replace hD : va_D A (xs_ap [(h0, .inr (5, [.int (nI rm), .ref qr, .ref qf, .ref qh, .int mo])), (qr, .inl (cR, 16, .inr (.inr (.inr (.inr (xs_out r 16)))))), (qf, .inl (cI, 16, .inl (xs_G g_4))), (qh, .inl (cI, 16, .inl (xs_G g_7)))] (xs_rows cI r 16 8 g)) := hD
  refine lv_iload_n hx hb d_QU_take_41 rfl (lv_at hl 0 rfl) ?_
  have hP9 := xs_P_sub (w := (xs_ap [(h0, .inr (5, [.int (nI rm), .ref qr, .ref qf, .ref qh, .int mo])), (qr, .inl (cR, 16, .inr (.inr (.inr (.inr (xs_out r 16)))))), (qf, .inl (cI, 16, .inl (xs_G g_4))), (qh, .inl (cI, 16, .inl (xs_G g_7)))] (xs_rows cI r 16 8 g))) hP [0, 1, 2, 3, 4, 5, 6, 7, 8, 9, 10, 11, 12, 13, 14, 15, 16, 17, 18, 19] rfl
  have hD9 := hD.sub (ws' := (xs_ap [(h0, .inr (5, [.int (nI rm), .ref qr, .ref qf, .ref qh, .int mo])), (qr, .inl (cR, 16, .inr (.inr (.inr (.inr (xs_out r 16)))))), (qf, .inl (cI, 16, .inl (xs_G g_4))), (qh, .inl (cI, 16, .inl (xs_G g_7)))] (xs_rows cI r 16 8 g))) [0, 1, 2, 3, 4, 5, 6, 7, 8, 9, 10, 11, 12, 13, 14, 15, 16, 17, 18, 19] (by decide +kernel) rfl
  exact xw_iret (g w9 (gf w9), g_4, g_7) hx hb hr hlocks d_QU_take_42 (rfl) (⟨by omega, hg_5, hg_8, rfl, hqe, hfe⟩) hAe hP9 hD9 hS (Nat.le_of_ble_eq_true rfl) (Nat.le_of_ble_eq_true rfl)
