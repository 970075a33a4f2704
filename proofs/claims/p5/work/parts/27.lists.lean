set_option maxHeartbeats 4000000 in
set_option maxRecDepth 100000 in
/-- hasMore -/
theorem n_LI_hasMore (l : Launch) (D : va_G) (cI cB cL cR : ClassId) (h0 : Nat) (ll : Nat) (ld : Nat) (la : Nat) (lm : Nat) (lk : Nat) (lt : Nat) (w9 : Nat) (gl : Nat → Nat) (ga : Nat → Nat) (hw9 : w9 < 16) (hgl : ∀ j, gl j < 201) (hga : ∀ j, ga j < 201) : xG (σ := Int32) l y_LI_hasMore w_LI_hasMore ({ frames := 0, cells := 0, slots := 0, locals := 0  } : Room) D vwCl (xs_tys cI cB cL cR) [.ref h0, .int (nI w9)] [(h0, .inr (6, [.ref ll, .ref ld, .ref la, .ref lm, .ref lk, .ref lt])), (ld, .inl (cI, 16, .inl (xs_G gl))), (la, .inl (cI, 16, .inl (xs_G ga)))] (fun v => ((v = 1 ∧ ga w9 < gl w9) ∨ (v = 0 ∧ gl w9 ≤ ga w9))) (fun v => some (.int v)) (fun v => [(h0, .inr (6, [.ref ll, .ref ld, .ref la, .ref lm, .ref lk, .ref lt])), (ld, .inl (cI, 16, .inl (xs_G gl))), (la, .inl (cI, 16, .inl (xs_G ga)))]) := by
  refine xG.of b_LI_hasMore 2 (some .boolean) (by decide +kernel) rfl (Nat.le_of_ble_eq_true rfl) ?_
  intro p e s m below meth c A ls hAe C0 hP hD hS hl
  obtain ⟨hx, hb, hr, hml, hown, hlocks, hts, hnm, hN, hK, hA⟩ := C0
  have hU : ∀ w ∈ xU, w.before #[.ref h0, .int (nI w9)] s = true := fun w h => hts w (List.mem_cons_of_mem _ h)
  have hl : lv_has ls 2 [(0, .ref h0), (1, .int (nI w9))] := hl
  refine lv_aload_n hx hb d_LI_hasMore_0 rfl (lv_at hl 0 rfl) ?_
  refine va_get (D := D) (a := h0) (fs := [.ref ll, .ref ld, .ref la, .ref lm, .ref lk, .ref lt]) (ci := 6) (v := .ref la) (C := R_LI) (T := T_LI) (N := 6) hx hb hU iw_LI hown hK hP 0 rfl rfl 2 (by decide) (hU _ uw_95) (fun _ h9 => h9) rfl d_LI_hasMore_1 ?_
  refine lv_iload_n hx hb d_LI_hasMore_4 rfl (lv_at hl 1 rfl) ?_
  refine xw_ildN hx hb hK hP 2 0 rfl rfl (by omega) (by decide) d_LI_hasMore_5 ?_
  have hv_1 := hga w9
  refine lv_aload_n hx hb d_LI_hasMore_6 rfl (lv_at hl 0 rfl) ?_
  refine va_get (D := D) (a := h0) (fs := [.ref ll, .ref ld, .ref la, .ref lm, .ref lk, .ref lt]) (ci := 6) (v := .ref ld) (C := R_LI) (T := T_LI) (N := 6) hx hb hU iw_LI hown hK hP 0 rfl rfl 1 (by decide) (hU _ uw_94) (fun _ h9 => h9) rfl d_LI_hasMore_7 ?_
  refine lv_iload_n hx hb d_LI_hasMore_10 rfl (lv_at hl 1 rfl) ?_
  refine xw_ildN hx hb hK hP 1 0 rfl rfl (by omega) (by decide) d_LI_hasMore_11 ?_
  have hv_2 := hgl w9
  refine xw_icmp_ge (tgt := 19) hx hb d_LI_hasMore_12 (by decide) (by omega) (by omega) (fun c_12 => ?_) (fun c_12 => ?_)
  · refine lv_iconst (v := nI 0) hx hb d_LI_hasMore_19 (by decide +kernel) ?_
    have hP9 := xs_P_sub (w := [(h0, .inr (6, [.ref ll, .ref ld, .ref la, .ref lm, .ref lk, .ref lt])), (ld, .inl (cI, 16, .inl (xs_G gl))), (la, .inl (cI, 16, .inl (xs_G ga)))]) hP [0, 1, 2] rfl
    have hD9 := hD.sub (ws' := [(h0, .inr (6, [.ref ll, .ref ld, .ref la, .ref lm, .ref lk, .ref lt])), (ld, .inl (cI, 16, .inl (xs_G gl))), (la, .inl (cI, 16, .inl (xs_G ga)))]) [0, 1, 2] (by decide +kernel) rfl
    exact xw_zret (nI 0) (by first | exact Or.inl rfl | exact Or.inr rfl) hx hb hr hlocks d_LI_hasMore_20 (rfl) (by first | exact Or.inl ⟨rfl, by omega⟩ | exact Or.inr ⟨rfl, by omega⟩) hAe hP9 hD9 hS (Nat.le_of_ble_eq_true rfl) (Nat.le_of_ble_eq_true rfl)
  · refine lv_iconst (v := nI 1) hx hb d_LI_hasMore_15 (by decide +kernel) ?_
    refine lv_goto (tgt := 20) hx hb d_LI_hasMore_16 (by decide) ?_
    have hP9 := xs_P_sub (w := [(h0, .inr (6, [.ref ll, .ref ld, .ref la, .ref lm, .ref lk, .ref lt])), (ld, .inl (cI, 16, .inl (xs_G gl))), (la, .inl (cI, 16, .inl (xs_G ga)))]) hP [0, 1, 2] rfl
    have hD9 := hD.sub (ws' := [(h0, .inr (6, [.ref ll, .ref ld, .ref la, .ref lm, .ref lk, .ref lt])), (ld, .inl (cI, 16, .inl (xs_G gl))), (la, .inl (cI, 16, .inl (xs_G ga)))]) [0, 1, 2] (by decide +kernel) rfl
    exact xw_zret (nI 1) (by first | exact Or.inl rfl | exact Or.inr rfl) hx hb hr hlocks d_LI_hasMore_20 (rfl) (by first | exact Or.inl ⟨rfl, by omega⟩ | exact Or.inr ⟨rfl, by omega⟩) hAe hP9 hD9 hS (Nat.le_of_ble_eq_true rfl) (Nat.le_of_ble_eq_true rfl)
set_option maxHeartbeats 4000000 in
set_option maxRecDepth 100000 in
/-- current -/
theorem n_LI_current (l : Launch) (D : va_G) (cI cB cL cR : ClassId) (h0 : Nat) (ll : Nat) (ld : Nat) (la : Nat) (lm : Nat) (lk : Nat) (lt : Nat) (r : Nat → Nat) (w9 : Nat) (ga : Nat → Nat) (g : Nat → Nat → Nat) (hw9 : w9 < 16) (hat : ga w9 < 200) (hga : ∀ j, ga j < 201) (hg : ∀ i j, g i j < 200) : xG (σ := Nat) l y_LI_current w_LI_current ({ frames := 0, cells := 0, slots := 0, locals := 0  } : Room) D vwCl (xs_tys cI cB cL cR) [.ref h0, .int (nI w9)] (xs_ap [(h0, .inr (6, [.ref ll, .ref ld, .ref la, .ref lm, .ref lk, .ref lt])), (ll, .inl (cR, 16, .inr (.inr (.inr (.inr (xs_out r 16)))))), (la, .inl (cI, 16, .inl (xs_G ga)))] (xs_rows cI r 16 200 g)) (fun v => (v < 200) ∧ (v = g w9 (ga w9))) (fun v => some (.int (nI v))) (fun v => (xs_ap [(h0, .inr (6, [.ref ll, .ref ld, .ref la, .ref lm, .ref lk, .ref lt])), (ll, .inl (cR, 16, .inr (.inr (.inr (.inr (xs_out r 16)))))), (la, .inl (cI, 16, .inl (xs_G ga)))] (xs_rows cI r 16 200 g))) := by
  refine xG.of b_LI_current 2 (some .int) (by decide +kernel) rfl (Nat.le_of_ble_eq_true rfl) ?_
  intro p e s m below meth c A ls hAe C0 hP hD hS hl
  obtain ⟨hx, hb, hr, hml, hown, hlocks, hts, hnm, hN, hK, hA⟩ := C0
  have hU : ∀ w ∈ xU, w.before #[.ref h0, .int (nI w9)] s = true := fun w h => hts w (List.mem_cons_of_mem _ h)
  have hl : lv_has ls 2 [(0, .ref h0), (1, .int (nI w9))] := hl
  refine lv_aload_n hx hb d_LI_current_0 rfl (lv_at hl 0 rfl) ?_
  refine va_get (D := D) (a := h0) (fs := [.ref ll, .ref ld, .ref la, .ref lm, .ref lk, .ref lt]) (ci := 6) (v := .ref ll) (C := R_LI) (T := T_LI) (N := 6) hx hb hU iw_LI hown hK hP 0 rfl rfl 0 (by decide) (hU _ uw_93) (fun _ h9 => h9) rfl d_LI_current_1 ?_
  refine lv_iload_n hx hb d_LI_current_4 rfl (lv_at hl 1 rfl) ?_
  refine xw_ald hx hb hK hP 1 3 rfl rfl (by omega) (by decide) d_LI_current_5 ?_
  refine lv_aload_n hx hb d_LI_current_6 rfl (lv_at hl 0 rfl) ?_
  refine va_get (D := D) (a := h0) (fs := [.ref ll, .ref ld, .ref la, .ref lm, .ref lk, .ref lt]) (ci := 6) (v := .ref la) (C := R_LI) (T := T_LI) (N := 6) hx hb hU iw_LI hown hK hP 0 rfl rfl 2 (by decide) (hU _ uw_95) (fun _ h9 => h9) rfl d_LI_current_7 ?_
  refine lv_iload_n hx hb d_LI_current_10 rfl (lv_at hl 1 rfl) ?_
  refine xw_ildN hx hb hK hP 2 0 rfl rfl (by omega) (by decide) d_LI_current_11 ?_
  have hv_1 := hga w9
  refine xw_rld1 hx hb hK [(h0, .inr (6, [.ref ll, .ref ld, .ref la, .ref lm, .ref lk, .ref lt])), (ll, .inl (cR, 16, .inr (.inr (.inr (.inr (xs_out r 16)))))), (la, .inl (cI, 16, .inl (xs_G ga)))] hP 0 rfl (by omega) (by omega) (by decide) d_LI_current_12 ?_
  have hv_2 := hg w9 (ga w9)
  have hP9 := xs_P_sub (w := (xs_ap [(h0, .inr (6, [.ref ll, .ref ld, .ref la, .ref lm, .ref lk, .ref lt])), (ll, .inl (cR, 16, .inr (.inr (.inr (.inr (xs_out r 16)))))), (la, .inl (cI, 16, .inl (xs_G ga)))] (xs_rows cI r 16 200 g))) hP [0, 1, 2, 3, 4, 5, 6, 7, 8, 9, 10, 11, 12, 13, 14, 15, 16, 17, 18] rfl
  have hD9 := hD.sub (ws' := (xs_ap [(h0, .inr (6, [.ref ll, .ref ld, .ref la, .ref lm, .ref lk, .ref lt])), (ll, .inl (cR, 16, .inr (.inr (.inr (.inr (xs_out r 16)))))), (la, .inl (cI, 16, .inl (xs_G ga)))] (xs_rows cI r 16 200 g))) [0, 1, 2, 3, 4, 5, 6, 7, 8, 9, 10, 11, 12, 13, 14, 15, 16, 17, 18] (by decide +kernel) rfl
  exact xw_iret (g w9 (ga w9)) hx hb hr hlocks d_LI_current_13 (rfl) (⟨by omega, rfl⟩) hAe hP9 hD9 hS (Nat.le_of_ble_eq_true rfl) (Nat.le_of_ble_eq_true rfl)
set_option maxHeartbeats 4000000 in
set_option maxRecDepth 100000 in
/-- add -/
theorem n_LI_add (l : Launch) (D : va_G) (cI cB cL cR : ClassId) (h0 : Nat) (ll : Nat) (ld : Nat) (la : Nat) (lm : Nat) (lk : Nat) (lt : Nat) (r : Nat → Nat) (w9 : Nat) (sx : Nat) (gl : Nat → Nat) (g : Nat → Nat → Nat) (hw9 : w9 < 16) (hsx : sx < 200) (hgl : ∀ j, gl j < 201) (hg : ∀ i j, g i j < 200) : xG (σ := (Nat → Nat) × (Nat → Nat → Nat)) l y_LI_add w_LI_add ({ frames := 0, cells := 0, slots := 0, locals := 0  } : Room) D vwCl (xs_tys cI cB cL cR) [.ref h0, .int (nI w9), .int (nI sx)] (xs_ap [(h0, .inr (6, [.ref ll, .ref ld, .ref la, .ref lm, .ref lk, .ref lt])), (ll, .inl (cR, 16, .inr (.inr (.inr (.inr (xs_out r 16)))))), (ld, .inl (cI, 16, .inl (xs_G gl)))] (xs_rows cI r 16 200 g)) (fun (gl1, g1) => (∀ j, gl1 j < 201) ∧ (∀ i j, g1 i j < 200) ∧ (gl w9 < 200 → gl1 = va_up gl w9 (gl w9 + 1) ∧ g1 = xs_up2 g w9 (gl w9) sx)) (fun (gl1, g1) => none) (fun (gl1, g1) => (xs_ap [(h0, .inr (6, [.ref ll, .ref ld, .ref la, .ref lm, .ref lk, .ref lt])), (ll, .inl (cR, 16, .inr (.inr (.inr (.inr (xs_out r 16)))))), (ld, .inl (cI, 16, .inl (xs_G gl1)))] (xs_rows cI r 16 200 g1))) := by
  refine xG.of b_LI_add 3 (none) (by decide +kernel) rfl (Nat.le_of_ble_eq_true rfl) ?_
  intro p e s m below meth c A ls hAe C0 hP hD hS hl
  obtain ⟨hx, hb, hr, hml, hown, hlocks, hts, hnm, hN, hK, hA⟩ := C0
  have hU : ∀ w ∈ xU, w.before #[.ref h0, .int (nI w9), .int (nI sx)] s = true := fun w h => hts w (List.mem_cons_of_mem _ h)
  have hl : lv_has ls 3 [(0, .ref h0), (1, .int (nI w9)), (2, .int (nI sx))] := hl
  refine lv_aload_n hx hb d_LI_add_0 rfl (lv_at hl 0 rfl) ?_
  refine va_get (D := D) (a := h0) (fs := [.ref ll, .ref ld, .ref la, .ref lm, .ref lk, .ref lt]) (ci := 6) (v := .ref ld) (C := R_LI) (T := T_LI) (N := 6) hx hb hU iw_LI hown hK hP 0 rfl rfl 1 (by decide) (hU _ uw_94) (fun _ h9 => h9) rfl d_LI_add_1 ?_
  refine lv_iload_n hx hb d_LI_add_4 rfl (lv_at hl 1 rfl) ?_
  refine xw_ildN hx hb hK hP 2 0 rfl rfl (by omega) (by decide) d_LI_add_5 ?_
  have hv_1 := hgl w9
  refine lv_sipush (v := nI 200) hx hb d_LI_add_6 (by decide +kernel) ?_
  refine xw_icmp_ge (tgt := 36) hx hb d_LI_add_9 (by decide) (by omega) (by omega) (fun c_9 => ?_) (fun c_9 => ?_)
  · have hP9 := xs_P_sub (w := (xs_ap [(h0, .inr (6, [.ref ll, .ref ld, .ref la, .ref lm, .ref lk, .ref lt])), (ll, .inl (cR, 16, .inr (.inr (.inr (.inr (xs_out r 16)))))), (ld, .inl (cI, 16, .inl (xs_G gl)))] (xs_rows cI r 16 200 g))) hP [0, 1, 2, 3, 4, 5, 6, 7, 8, 9, 10, 11, 12, 13, 14, 15, 16, 17, 18] rfl
    have hD9 := hD.sub (ws' := (xs_ap [(h0, .inr (6, [.ref ll, .ref ld, .ref la, .ref lm, .ref lk, .ref lt])), (ll, .inl (cR, 16, .inr (.inr (.inr (.inr (xs_out r 16)))))), (ld, .inl (cI, 16, .inl (xs_G gl)))] (xs_rows cI r 16 200 g))) [0, 1, 2, 3, 4, 5, 6, 7, 8, 9, 10, 11, 12, 13, 14, 15, 16, 17, 18] (by decide +kernel) rfl
    exact xw_vret (gl, g) hx hb hr hlocks d_LI_add_36 (rfl) (⟨hgl, hg, by first | exact fun _ => ⟨hqe, hge⟩ | exact fun h => absurd h (by omega)⟩) hAe hP9 hD9 hS (Nat.le_of_ble_eq_true rfl) (Nat.le_of_ble_eq_true rfl)
  · refine lv_aload_n hx hb d_LI_add_12 rfl (lv_at hl 0 rfl) ?_
    refine va_get (D := D) (a := h0) (fs := [.ref ll, .ref ld, .ref la, .ref lm, .ref lk, .ref lt]) (ci := 6) (v := .ref ll) (C := R_LI) (T := T_LI) (N := 6) hx hb hU iw_LI hown hK hP 0 rfl rfl 0 (by decide) (hU _ uw_93) (fun _ h9 => h9) rfl d_LI_add_13 ?_
    refine lv_iload_n hx hb d_LI_add_16 rfl (lv_at hl 1 rfl) ?_
    refine xw_ald hx hb hK hP 1 3 rfl rfl (by omega) (by decide) d_LI_add_17 ?_
    refine lv_aload_n hx hb d_LI_add_18 rfl (lv_at hl 0 rfl) ?_
    refine va_get (D := D) (a := h0) (fs := [.ref ll, .ref ld, .ref la, .ref lm, .ref lk, .ref lt]) (ci := 6) (v := .ref ld) (C := R_LI) (T := T_LI) (N := 6) hx hb hU iw_LI hown hK hP 0 rfl rfl 1 (by decide) (hU _ uw_94) (fun _ h9 => h9) rfl d_LI_add_19 ?_
    refine lv_iload_n hx hb d_LI_add_22 rfl (lv_at hl 1 rfl) ?_
    refine xw_ildN hx hb hK hP 2 0 rfl rfl (by omega) (by decide) d_LI_add_23 ?_
    have hv_2 := hgl w9
    refine lv_iload_n hx hb d_LI_add_24 rfl (lv_at hl 2 rfl) ?_
    refine xw_rst1 hx hb hK [(h0, .inr (6, [.ref ll, .ref ld, .ref la, .ref lm, .ref lk, .ref lt])), (ll, .inl (cR, 16, .inr (.inr (.inr (.inr (xs_out r 16)))))), (ld, .inl (cI, 16, .inl (xs_G gl)))] hP hD hS 0 rfl (by omega) (by omega) (by decide) d_LI_add_25 (fun H locs hP hD hS => ?_)
    have hg_4 : ∀ a b, (xs_up2 g w9 (gl w9) sx) a b < 200 := xs_up2_lt hg (by omega)
    obtain ⟨g_3, hge⟩ : ∃ z, z = xs_up2 g w9 (gl w9) sx := ⟨_, rfl⟩
    rw [← hge] at hP hD hg_4
    replace hP : va_P D vwCl (xs_ap [(h0, .inr (6, [.ref ll, .ref ld, .ref la, .ref lm, .ref lk, .ref lt])), (ll, .inl (cR, 16, .inr (.inr (.inr (.inr (xs_out r 16)))))), (ld, .inl (cI, 16, .inl (xs_G gl)))] (xs_rows cI r 16 200 g_3)) H := hP
    replace hD : va_D A (xs_ap [(h0, .inr (6, [.ref ll, .ref ld, .ref la, .ref lm, .ref lk, .ref lt])), (ll, .inl (cR, 16, .inr (.inr (.inr (.inr (xs_out r 16)))))), (ld, .inl (cI, 16, .inl (xs_G gl)))] (xs_rows cI r 16 200 g_3)) := hD
    refine lv_aload_n hx hb d_LI_add_26 rfl (lv_at hl 0 rfl) ?_
    refine va_get (D := D) (a := h0) (fs := [.ref ll, .ref ld, .ref la, .ref lm, .ref lk, .ref lt]) (ci := 6) (v := .ref ld) (C := R_LI) (T := T_LI) (N := 6) hx hb hU iw_LI hown hK hP 0 rfl rfl 1 (by decide) (hU _ uw_94) (fun _ h9 => h9) rfl d_LI_add_27 ?_
    refine lv_iload_n hx hb d_LI_add_30 rfl (lv_at hl 1 rfl) ?_
    refine lv_dup2_11 hx hb d_LI_add_31 rfl rfl ?_
    refine xw_ildN hx hb hK hP 2 0 rfl rfl (by omega) (by decide) d_LI_add_32 ?_
    have hv_5 := hgl w9
    refine lv_iconst (v := nI 1) hx hb d_LI_add_33 (by decide +kernel) ?_
    refine lv_iadd hx hb d_LI_add_34 ?_
    refine xw_top (nI (gl w9 + 1)) (nI_add _ _) ?_
    refine xw_istN hx hb hK hP hD hS 2 0 rfl rfl (by omega) (by decide) d_LI_add_35 (fun H locs hP hD hS => ?_)
    have hg_7 : ∀ j, (va_up gl w9 (gl w9 + 1)) j < 201 := xs_up_lt (fun j => by have h8 := hgl j; omega) (by omega)
    replace hP : va_P D vwCl (xs_ap [(h0, .inr (6, [.ref ll, .ref ld, .ref la, .ref lm, .ref lk, .ref lt])), (ll, .inl (cR, 16, .inr (.inr (.inr (.inr (xs_out r 16)))))), (ld, .inl (cI, 16, .inl (xs_G (va_up gl w9 (gl w9 + 1)))))] (xs_rows cI r 16 200 g_3)) H := hP
    replace hD : va_D A (xs_ap [(h0, .inr (6, [.ref ll, .ref ld, .ref la, .ref lm, .ref lk, .ref lt])), (ll, .inl (cR, 16, .inr (.inr (.inr (.inr (xs_out r 16)))))), (ld, .inl (cI, 16, .inl (xs_G (va_up gl w9 (gl w9 + 1)))))] (xs_rows cI r 16 200 g_3)) := hD
    obtain ⟨g_6, hqe⟩ : ∃ z, z = va_up gl w9 (gl w9 + 1) := ⟨_, rfl⟩
    rw [← hqe] at hP hD hg_7
    replace hP : va_P D vwCl (xs_ap [(h0, .inr (6, [.ref ll, .ref ld, .ref la, .ref lm, .ref lk, .ref lt])), (ll, .inl (cR, 16, .inr (.inr (.inr (.inr (xs_out r 16)))))), (ld, .inl (cI, 16, .inl (xs_G g_6)))] (xs_rows cI r 16 200 g_3)) H := hP
    replace hD : va_D A (xs_ap [(h0, .inr (6, [.ref ll, .ref ld, .ref la, .ref lm, .ref lk, .ref lt])), (ll, .inl (cR, 16, .inr (.inr (.inr (.inr (xs_out r 16)))))), (ld, .inl (cI, 16, .inl (xs_G g_6)))] (xs_rows cI r 16 200 g_3)) := hD
    have hP9 := xs_P_sub (w := (xs_ap [(h0, .inr (6, [.ref ll, .ref ld, .ref la, .ref lm, .ref lk, .ref lt])), (ll, .inl (cR, 16, .inr (.inr (.inr (.inr (xs_out r 16)))))), (ld, .inl (cI, 16, .inl (xs_G g_6)))] (xs_rows cI r 16 200 g_3))) hP [0, 1, 2, 3, 4, 5, 6, 7, 8, 9, 10, 11, 12, 13, 14, 15, 16, 17, 18] rfl
    have hD9 := hD.sub (ws' := (xs_ap [(h0, .inr (6, [.ref ll, .ref ld, .ref la, .ref lm, .ref lk, .ref lt])), (ll, .inl (cR, 16, .inr (.inr (.inr (.inr (xs_out r 16)))))), (ld, .inl (cI, 16, .inl (xs_G g_6)))] (xs_rows cI r 16 200 g_3))) [0, 1, 2, 3, 4, 5, 6, 7, 8, 9, 10, 11, 12, 13, 14, 15, 16, 17, 18] (by decide +kernel) rfl
    exact xw_vret (g_6, g_3) hx hb hr hlocks d_LI_add_36 (rfl) (⟨hg_7, hg_4, by first | exact fun _ => ⟨hqe, hge⟩ | exact fun h => absurd h (by omega)⟩) hAe hP9 hD9 hS (Nat.le_of_ble_eq_true rfl) (Nat.le_of_ble_eq_true rfl)
set_option maxHeartbeats 4000000 in
set_option maxRecDepth 100000 in
/-- goToNext -/
theorem n_LI_goToNext (l : Launch) (D : va_G) (cI cB cL cR : ClassId) (h0 : Nat) (ll : Nat) (ld : Nat) (la : Nat) (lm : Nat) (lk : Nat) (lt : Nat) (fk : Nat → Int32) (w9 : Nat) (ga : Nat → Nat) (gm : Nat → Nat) (hw9 : w9 < 16) (hat : ga w9 < 200) (hmm : ∀ j, j ≠ w9 → gm j < 601) (hga : ∀ j, ga j < 201) (hgm : ∀ j, gm j < 602) : xG (σ := (Nat → Nat) × (Nat → Nat) × (Nat → Int32)) l y_LI_goToNext w_LI_goToNext ({ frames := 0, cells := 0, slots := 0, locals := 0  } : Room) D vwCl (xs_tys cI cB cL cR) [.ref h0, .int (nI w9)] [(h0, .inr (6, [.ref ll, .ref ld, .ref la, .ref lm, .ref lk, .ref lt])), (la, .inl (cI, 16, .inl (xs_G ga))), (lm, .inl (cI, 16, .inl (xs_G gm))), (lk, .inl (cB, 16, .inl fk))] (fun (ga1, gm1, fk1) => (∀ j, ga1 j < 201) ∧ (∀ j, gm1 j < 601) ∧ (ga1 = va_up ga w9 (ga w9 + 1)) ∧ (gm1 = va_up gm w9 0)) (fun (ga1, gm1, fk1) => none) (fun (ga1, gm1, fk1) => [(h0, .inr (6, [.ref ll, .ref ld, .ref la, .ref lm, .ref lk, .ref lt])), (la, .inl (cI, 16, .inl (xs_G ga1))), (lm, .inl (cI, 16, .inl (xs_G gm1))), (lk, .inl (cB, 16, .inl fk1))]) := by
  refine xG.of b_LI_goToNext 2 (none) (by decide +kernel) rfl (Nat.le_of_ble_eq_true rfl) ?_
  intro p e s m below meth c A ls hAe C0 hP hD hS hl
  obtain ⟨hx, hb, hr, hml, hown, hlocks, hts, hnm, hN, hK, hA⟩ := C0
  have hU : ∀ w ∈ xU, w.before #[.ref h0, .int (nI w9)] s = true := fun w h => hts w (List.mem_cons_of_mem _ h)
  have hl : lv_has ls 2 [(0, .ref h0), (1, .int (nI w9))] := hl
  refine lv_aload_n hx hb d_LI_goToNext_0 rfl (lv_at hl 0 rfl) ?_
  refine va_get (D := D) (a := h0) (fs := [.ref ll, .ref ld, .ref la, .ref lm, .ref lk, .ref lt]) (ci := 6) (v := .ref la) (C := R_LI) (T := T_LI) (N := 6) hx hb hU iw_LI hown hK hP 0 rfl rfl 2 (by decide) (hU _ uw_95) (fun _ h9 => h9) rfl d_LI_goToNext_1 ?_
  refine lv_iload_n hx hb d_LI_goToNext_4 rfl (lv_at hl 1 rfl) ?_
  refine lv_dup2_11 hx hb d_LI_goToNext_5 rfl rfl ?_
  refine xw_ildN hx hb hK hP 1 0 rfl rfl (by omega) (by decide) d_LI_goToNext_6 ?_
  have hv_1 := hga w9
  refine lv_iconst (v := nI 1) hx hb d_LI_goToNext_7 (by decide +kernel) ?_
  refine lv_iadd hx hb d_LI_goToNext_8 ?_
  refine xw_top (nI (ga w9 + 1)) (nI_add _ _) ?_
  refine xw_istN hx hb hK hP hD hS 1 0 rfl rfl (by omega) (by decide) d_LI_goToNext_9 (fun H locs hP hD hS => ?_)
  have hg_3 : ∀ j, (va_up ga w9 (ga w9 + 1)) j < 201 := xs_up_lt (fun j => by have h8 := hga j; omega) (by omega)
  replace hP : va_P D vwCl [(h0, .inr (6, [.ref ll, .ref ld, .ref la, .ref lm, .ref lk, .ref lt])), (la, .inl (cI, 16, .inl (xs_G (va_up ga w9 (ga w9 + 1))))), (lm, .inl (cI, 16, .inl (xs_G gm))), (lk, .inl (cB, 16, .inl fk))] H := hP
  replace hD : va_D A [(h0, .inr (6, [.ref ll, .ref ld, .ref la, .ref lm, .ref lk, .ref lt])), (la, .inl (cI, 16, .inl (xs_G (va_up ga w9 (ga w9 + 1))))), (lm, .inl (cI, 16, .inl (xs_G gm))), (lk, .inl (cB, 16, .inl fk))] := hD
  obtain ⟨g_2, hae9⟩ : ∃ z, z = va_up ga w9 (ga w9 + 1) := ⟨_, rfl⟩
  rw [← hae9] at hP hD hg_3
  replace hP : va_P D vwCl [(h0, .inr (6, [.ref ll, .ref ld, .ref la, .ref lm, .ref lk, .ref lt])), (la, .inl (cI, 16, .inl (xs_G g_2))), (lm, .inl (cI, 16, .inl (xs_G gm))), (lk, .inl (cB, 16, .inl fk))] H := hP
  replace hD : va_D A [(h0, .inr (6, [.ref ll, .ref ld, .ref la, .ref lm, .ref lk, .ref lt])), (la, .inl (cI, 16, .inl (xs_G g_2))), (lm, .inl (cI, 16, .inl (xs_G gm))), (lk, .inl (cB, 16, .inl fk))] := hD
  refine lv_aload_n hx hb d_LI_goToNext_10 rfl (lv_at hl 0 rfl) ?_
  refine va_get (D := D) (a := h0) (fs := [.ref ll, .ref ld, .ref la, .ref lm, .ref lk, .ref lt]) (ci := 6) (v := .ref lm) (C := R_LI) (T := T_LI) (N := 6) hx hb hU iw_LI hown hK hP 0 rfl rfl 3 (by decide) (hU _ uw_96) (fun _ h9 => h9) rfl d_LI_goToNext_11 ?_
  refine lv_iload_n hx hb d_LI_goToNext_14 rfl (lv_at hl 1 rfl) ?_
  refine lv_iconst (v := nI 0) hx hb d_LI_goToNext_15 (by decide +kernel) ?_
  refine xw_istN hx hb hK hP hD hS 2 0 rfl rfl (by omega) (by decide) d_LI_goToNext_16 (fun H locs hP hD hS => ?_)
  have hg_5 : ∀ j, (va_up gm w9 0) j < 601 := fun j => if h9 : j = w9 then by rw [h9]; simp [va_up] else by rw [xs_up_ne h9]; exact hmm j h9
  replace hP : va_P D vwCl [(h0, .inr (6, [.ref ll, .ref ld, .ref la, .ref lm, .ref lk, .ref lt])), (la, .inl (cI, 16, .inl (xs_G g_2))), (lm, .inl (cI, 16, .inl (xs_G (va_up gm w9 0)))), (lk, .inl (cB, 16, .inl fk))] H := hP
  replace hD : va_D A [(h0, .inr (6, [.ref ll, .ref ld, .ref la, .ref lm, .ref lk, .ref lt])), (la, .inl (cI, 16, .inl (xs_G g_2))), (lm, .inl (cI, 16, .inl (xs_G (va_up gm w9 0)))), (lk, .inl (cB, 16, .inl fk))] := hD
  obtain ⟨g_4, hme9⟩ : ∃ z, z = va_up gm w9 0 := ⟨_, rfl⟩
  rw [← hme9] at hP hD hg_5
  replace hP : va_P D vwCl [(h0, .inr (6, [.ref ll, .ref ld, .ref la, .ref lm, .ref lk, .ref lt])), (la, .inl (cI, 16, .inl (xs_G g_2))), (lm, .inl (cI, 16, .inl (xs_G g_4))), (lk, .inl (cB, 16, .inl fk))] H := hP
  replace hD : va_D A [(h0, .inr (6, [.ref ll, .ref ld, .ref la, .ref lm, .ref lk, .ref lt])), (la, .inl (cI, 16, .inl (xs_G g_2))), (lm, .inl (cI, 16, .inl (xs_G g_4))), (lk, .inl (cB, 16, .inl fk))] := hD
  refine lv_aload_n hx hb d_LI_goToNext_17 rfl (lv_at hl 0 rfl) ?_
  refine va_get (D := D) (a := h0) (fs := [.ref ll, .ref ld, .ref la, .ref lm, .ref lk, .ref lt]) (ci := 6) (v := .ref lk) (C := R_LI) (T := T_LI) (N := 6) hx hb hU iw_LI hown hK hP 0 rfl rfl 4 (by decide) (hU _ uw_98) (fun _ h9 => h9) rfl d_LI_goToNext_18 ?_
  refine lv_iload_n hx hb d_LI_goToNext_21 rfl (lv_at hl 1 rfl) ?_
  refine lv_iconst (v := nI 0) hx hb d_LI_goToNext_22 (by decide +kernel) ?_
  refine xw_zst hx hb hK hP hD hS 3 1 rfl rfl (by first | exact Or.inl rfl | exact Or.inr rfl) (by omega) (by decide) d_LI_goToNext_23 (fun H locs hP hD hS => ?_)
  replace hP : va_P D vwCl [(h0, .inr (6, [.ref ll, .ref ld, .ref la, .ref lm, .ref lk, .ref lt])), (la, .inl (cI, 16, .inl (xs_G g_2))), (lm, .inl (cI, 16, .inl (xs_G g_4))), (lk, .inl (cB, 16, .inl (upd fk w9 (nI 0))))] H := hP
  replace hD : va_D A [(h0, .inr (6, [.ref ll, .ref ld, .ref la, .ref lm, .ref lk, .ref lt])), (la, .inl (cI, 16, .inl (xs_G g_2))), (lm, .inl (cI, 16, .inl (xs_G g_4))), (lk, .inl (cB, 16, .inl (upd fk w9 (nI 0))))] := hD
  generalize upd fk w9 (nI 0) = f_6 at hP hD
  replace hP : va_P D vwCl [(h0, .inr (6, [.ref ll, .ref ld, .ref la, .ref lm, .ref lk, .ref lt])), (la, .inl (cI, 16, .inl (xs_G g_2))), (lm, .inl (cI, 16, .inl (xs_G g_4))), (lk, .inl (cB, 16, .inl f_6))] H := hP
  replace hD : va_D A [(h0, .inr (6, [.ref ll, .ref ld, .ref la, .ref lm, .ref lk, .ref lt])), (la, .inl (cI, 16, .inl (xs_G g_2))), (lm, .inl (cI, 16, .inl (xs_G g_4))), (lk, .inl (cB, 16, .inl f_6))] := hD
  have hP9 := xs_P_sub (w := [(h0, .inr (6, [.ref ll, .ref ld, .ref la, .ref lm, .ref lk, .ref lt])), (la, .inl (cI, 16, .inl (xs_G g_2))), (lm, .inl (cI, 16, .inl (xs_G g_4))), (lk, .inl (cB, 16, .inl f_6))]) hP [0, 1, 2, 3] rfl
  have hD9 := hD.sub (ws' := [(h0, .inr (6, [.ref ll, .ref ld, .ref la, .ref lm, .ref lk, .ref lt])), (la, .inl (cI, 16, .inl (xs_G g_2))), (lm, .inl (cI, 16, .inl (xs_G g_4))), (lk, .inl (cB, 16, .inl f_6))]) [0, 1, 2, 3] (by decide +kernel) rfl
  exact xw_vret (g_2, g_4, f_6) hx hb hr hlocks d_LI_goToNext_24 (rfl) (⟨hg_3, hg_5, hae9, hme9⟩) hAe hP9 hD9 hS (Nat.le_of_ble_eq_true rfl) (Nat.le_of_ble_eq_true rfl)
set_option maxHeartbeats 4000000 in
set_option maxRecDepth 100000 in
/-- Lists.empty -/
theorem n_LI_empty (l : Launch) (D : va_G) (cI cB cL cR : ClassId) (h0 : Nat) (ll : Nat) (ld : Nat) (la : Nat) (lm : Nat) (lk : Nat) (lt : Nat) (fk : Nat → Int32) (ft : Nat → Int32) (gl : Nat → Nat) (ga : Nat → Nat) (gm : Nat → Nat) (hgl : ∀ j, gl j < 201) (hga : ∀ j, ga j < 201) (hgm : ∀ j, gm j < 601) : xG (σ := Unit) l y_LI_empty w_LI_empty ({ frames := 1, cells := 0, slots := 0, locals := 23  } : Room) D vwCl (xs_tys cI cB cL cR) [.ref h0] [(h0, .inr (6, [.ref ll, .ref ld, .ref la, .ref lm, .ref lk, .ref lt])), (ld, .inl (cI, 16, .inl (xs_G gl))), (la, .inl (cI, 16, .inl (xs_G ga))), (lm, .inl (cI, 16, .inl (xs_G gm))), (lk, .inl (cB, 16, .inl fk)), (lt, .inl (cI, 16, .inl ft))] (fun _ => True) (fun _ => none) (fun _ => [(h0, .inr (6, [.ref ll, .ref ld, .ref la, .ref lm, .ref lk, .ref lt])), (ld, .inl (cI, 16, .inl (fun _ => nI 0))), (la, .inl (cI, 16, .inl (fun _ => nI 0))), (lm, .inl (cI, 16, .inl (fun _ => nI 0))), (lk, .inl (cB, 16, .inl (fun _ => nI 0))), (lt, .inl (cI, 16, .inl (fun _ => nI 0)))]) := by
  refine xG.of b_LI_empty 1 (none) (by decide +kernel) rfl (Nat.le_of_ble_eq_true rfl) ?_
  intro p e s m below meth c A ls hAe C0 hP hD hS hl
  obtain ⟨hx, hb, hr, hml, hown, hlocks, hts, hnm, hN, hK, hA⟩ := C0
  have hU : ∀ w ∈ xU, w.before #[.ref h0] s = true := fun w h => hts w (List.mem_cons_of_mem _ h)
  have hl : lv_has ls 1 [(0, .ref h0)] := hl
  refine lv_aload_n hx hb d_LI_empty_0 rfl (lv_at hl 0 rfl) ?_
  refine va_get (D := D) (a := h0) (fs := [.ref ll, .ref ld, .ref la, .ref lm, .ref lk, .ref lt]) (ci := 6) (v := .ref ld) (C := R_LI) (T := T_LI) (N := 6) hx hb hU iw_LI hown hK hP 0 rfl rfl 1 (by decide) (hU _ uw_94) (fun _ h9 => h9) rfl d_LI_empty_1 ?_
  refine lv_iconst (v := nI 0) hx hb d_LI_empty_4 (by decide +kernel) ?_
  refine xw_callS (wr := [(h0, .inr (6, [.ref ll, .ref ld, .ref la, .ref lm, .ref lk, .ref lt])), (la, .inl (cI, 16, .inl (xs_G ga))), (lm, .inl (cI, 16, .inl (xs_G gm))), (lk, .inl (cB, 16, .inl fk)), (lt, .inl (cI, 16, .inl ft))]) [.ref ld, .int (nI 0)] (n_fill l D cI cB cL cR ld 16 (xs_G gl) (nI 0) (by decide)) ⟨hx, hb, hml, hown, hU⟩ (va_cwS 2 hU (xs_goodS uw_559 uw_123 uw_8 uw_124) rfl rfl rfl (by decide +kernel) ⟨Nat.le_of_ble_eq_true rfl, Nat.le_of_ble_eq_true rfl⟩) rfl hl.1 rfl (Nat.le_of_ble_eq_true rfl) d_LI_empty_5 ⟨Nat.le_of_ble_eq_true rfl, Nat.le_of_ble_eq_true rfl⟩ [1] [0, 2, 3, 4, 5] rfl rfl (by decide +kernel) (by decide +kernel) (by decide +kernel) hN hK hP hD hS hA (fun u H locs hf hP hD hS => ?_)
  replace hP : va_P D vwCl [(h0, .inr (6, [.ref ll, .ref ld, .ref la, .ref lm, .ref lk, .ref lt])), (la, .inl (cI, 16, .inl (xs_G ga))), (lm, .inl (cI, 16, .inl (xs_G gm))), (lk, .inl (cB, 16, .inl fk)), (lt, .inl (cI, 16, .inl ft)), (ld, .inl (cI, 16, .inl (fun _ => (nI 0))))] H := hP
  replace hD : va_D A [(h0, .inr (6, [.ref ll, .ref ld, .ref la, .ref lm, .ref lk, .ref lt])), (la, .inl (cI, 16, .inl (xs_G ga))), (lm, .inl (cI, 16, .inl (xs_G gm))), (lk, .inl (cB, 16, .inl fk)), (lt, .inl (cI, 16, .inl ft)), (ld, .inl (cI, 16, .inl (fun _ => (nI 0))))] := hD
  refine W.widen (k := 0) (n := 0) (Nat.le_of_ble_eq_true rfl) (Nat.le_of_ble_eq_true rfl) ?_
  refine W.eq (g2 := F0 m 8 ls []) rfl ?_
  refine lv_aload_n hx hb d_LI_empty_8 rfl (lv_at hl 0 rfl) ?_
  refine va_get (D := D) (a := h0) (fs := [.ref ll, .ref ld, .ref la, .ref lm, .ref lk, .ref lt]) (ci := 6) (v := .ref la) (C := R_LI) (T := T_LI) (N := 6) hx hb hU iw_LI hown hK hP 0 rfl rfl 2 (by decide) (hU _ uw_95) (fun _ h9 => h9) rfl d_LI_empty_9 ?_
  refine lv_iconst (v := nI 0) hx hb d_LI_empty_12 (by decide +kernel) ?_
  refine xw_callS (wr := [(h0, .inr (6, [.ref ll, .ref ld, .ref la, .ref lm, .ref lk, .ref lt])), (lm, .inl (cI, 16, .inl (xs_G gm))), (lk, .inl (cB, 16, .inl fk)), (lt, .inl (cI, 16, .inl ft)), (ld, .inl (cI, 16, .inl (fun _ => (nI 0))))]) [.ref la, .int (nI 0)] (n_fill l D cI cB cL cR la 16 (xs_G ga) (nI 0) (by decide)) ⟨hx, hb, hml, hown, hU⟩ (va_cwS 2 hU (xs_goodS uw_559 uw_123 uw_8 uw_124) rfl rfl rfl (by decide +kernel) ⟨Nat.le_of_ble_eq_true rfl, Nat.le_of_ble_eq_true rfl⟩) rfl hl.1 rfl (Nat.le_of_ble_eq_true rfl) d_LI_empty_13 ⟨Nat.le_of_ble_eq_true rfl, Nat.le_of_ble_eq_true rfl⟩ [1] [0, 2, 3, 4, 5] rfl rfl (by decide +kernel) (by decide +kernel) (by decide +kernel) hN hK hP hD hS hA (fun u H locs hf hP hD hS => ?_)
  replace hP : va_P D vwCl [(h0, .inr (6, [.ref ll, .ref ld, .ref la, .ref lm, .ref lk, .ref lt])), (lm, .inl (cI, 16, .inl (xs_G gm))), (lk, .inl (cB, 16, .inl fk)), (lt, .inl (cI, 16, .inl ft)), (ld, .inl (cI, 16, .inl (fun _ => (nI 0)))), (la, .inl (cI, 16, .inl (fun _ => (nI 0))))] H := hP
  replace hD : va_D A [(h0, .inr (6, [.ref ll, .ref ld, .ref la, .ref lm, .ref lk, .ref lt])), (lm, .inl (cI, 16, .inl (xs_G gm))), (lk, .inl (cB, 16, .inl fk)), (lt, .inl (cI, 16, .inl ft)), (ld, .inl (cI, 16, .inl (fun _ => (nI 0)))), (la, .inl (cI, 16, .inl (fun _ => (nI 0))))] := hD
  refine W.widen (k := 0) (n := 0) (Nat.le_of_ble_eq_true rfl) (Nat.le_of_ble_eq_true rfl) ?_
  refine W.eq (g2 := F0 m 16 ls []) rfl ?_
  refine lv_aload_n hx hb d_LI_empty_16 rfl (lv_at hl 0 rfl) ?_
  refine va_get (D := D) (a := h0) (fs := [.ref ll, .ref ld, .ref la, .ref lm, .ref lk, .ref lt]) (ci := 6) (v := .ref lm) (C := R_LI) (T := T_LI) (N := 6) hx hb hU iw_LI hown hK hP 0 rfl rfl 3 (by decide) (hU _ uw_96) (fun _ h9 => h9) rfl d_LI_empty_17 ?_
  refine lv_iconst (v := nI 0) hx hb d_LI_empty_20 (by decide +kernel) ?_
  refine xw_callS (wr := [(h0, .inr (6, [.ref ll, .ref ld, .ref la, .ref lm, .ref lk, .ref lt])), (lk, .inl (cB, 16, .inl fk)), (lt, .inl (cI, 16, .inl ft)), (ld, .inl (cI, 16, .inl (fun _ => (nI 0)))), (la, .inl (cI, 16, .inl (fun _ => (nI 0))))]) [.ref lm, .int (nI 0)] (n_fill l D cI cB cL cR lm 16 (xs_G gm) (nI 0) (by decide)) ⟨hx, hb, hml, hown, hU⟩ (va_cwS 2 hU (xs_goodS uw_559 uw_123 uw_8 uw_124) rfl rfl rfl (by decide +kernel) ⟨Nat.le_of_ble_eq_true rfl, Nat.le_of_ble_eq_true rfl⟩) rfl hl.1 rfl (Nat.le_of_ble_eq_true rfl) d_LI_empty_21 ⟨Nat.le_of_ble_eq_true rfl, Nat.le_of_ble_eq_true rfl⟩ [1] [0, 2, 3, 4, 5] rfl rfl (by decide +kernel) (by decide +kernel) (by decide +kernel) hN hK hP hD hS hA (fun u H locs hf hP hD hS => ?_)
  replace hP : va_P D vwCl [(h0, .inr (6, [.ref ll, .ref ld, .ref la, .ref lm, .ref lk, .ref lt])), (lk, .inl (cB, 16, .inl fk)), (lt, .inl (cI, 16, .inl ft)), (ld, .inl (cI, 16, .inl (fun _ => (nI 0)))), (la, .inl (cI, 16, .inl (fun _ => (nI 0)))), (lm, .inl (cI, 16, .inl (fun _ => (nI 0))))] H := hP
  replace hD : va_D A [(h0, .inr (6, [.ref ll, .ref ld, .ref la, .ref lm, .ref lk, .ref lt])), (lk, .inl (cB, 16, .inl fk)), (lt, .inl (cI, 16, .inl ft)), (ld, .inl (cI, 16, .inl (fun _ => (nI 0)))), (la, .inl (cI, 16, .inl (fun _ => (nI 0)))), (lm, .inl (cI, 16, .inl (fun _ => (nI 0))))] := hD
  refine W.widen (k := 0) (n := 0) (Nat.le_of_ble_eq_true rfl) (Nat.le_of_ble_eq_true rfl) ?_
  refine W.eq (g2 := F0 m 24 ls []) rfl ?_
  refine lv_aload_n hx hb d_LI_empty_24 rfl (lv_at hl 0 rfl) ?_
  refine va_get (D := D) (a := h0) (fs := [.ref ll, .ref ld, .ref la, .ref lm, .ref lk, .ref lt]) (ci := 6) (v := .ref lt) (C := R_LI) (T := T_LI) (N := 6) hx hb hU iw_LI hown hK hP 0 rfl rfl 5 (by decide) (hU _ uw_100) (fun _ h9 => h9) rfl d_LI_empty_25 ?_
  refine lv_iconst (v := nI 0) hx hb d_LI_empty_28 (by decide +kernel) ?_
  refine xw_callS (wr := [(h0, .inr (6, [.ref ll, .ref ld, .ref la, .ref lm, .ref lk, .ref lt])), (lk, .inl (cB, 16, .inl fk)), (ld, .inl (cI, 16, .inl (fun _ => (nI 0)))), (la, .inl (cI, 16, .inl (fun _ => (nI 0)))), (lm, .inl (cI, 16, .inl (fun _ => (nI 0))))]) [.ref lt, .int (nI 0)] (n_fill l D cI cB cL cR lt 16 ft (nI 0) (by decide)) ⟨hx, hb, hml, hown, hU⟩ (va_cwS 2 hU (xs_goodS uw_559 uw_123 uw_8 uw_124) rfl rfl rfl (by decide +kernel) ⟨Nat.le_of_ble_eq_true rfl, Nat.le_of_ble_eq_true rfl⟩) rfl hl.1 rfl (Nat.le_of_ble_eq_true rfl) d_LI_empty_29 ⟨Nat.le_of_ble_eq_true rfl, Nat.le_of_ble_eq_true rfl⟩ [2] [0, 1, 3, 4, 5] rfl rfl (by decide +kernel) (by decide +kernel) (by decide +kernel) hN hK hP hD hS hA (fun u H locs hf hP hD hS => ?_)
  replace hP : va_P D vwCl [(h0, .inr (6, [.ref ll, .ref ld, .ref la, .ref lm, .ref lk, .ref lt])), (lk, .inl (cB, 16, .inl fk)), (ld, .inl (cI, 16, .inl (fun _ => (nI 0)))), (la, .inl (cI, 16, .inl (fun _ => (nI 0)))), (lm, .inl (cI, 16, .inl (fun _ => (nI 0)))), (lt, .inl (cI, 16, .inl (fun _ => (nI 0))))] H := hP
  replace hD : va_D A [(h0, .inr (6, [.ref ll, .ref ld, .ref la, .ref lm, .ref lk, .ref lt])), (lk, .inl (cB, 16, .inl fk)), (ld, .inl (cI, 16, .inl (fun _ => (nI 0)))), (la, .inl (cI, 16, .inl (fun _ => (nI 0)))), (lm, .inl (cI, 16, .inl (fun _ => (nI 0)))), (lt, .inl (cI, 16, .inl (fun _ => (nI 0))))] := hD
  refine W.widen (k := 0) (n := 0) (Nat.le_of_ble_eq_true rfl) (Nat.le_of_ble_eq_true rfl) ?_
  refine W.eq (g2 := F0 m 32 ls []) rfl ?_
  refine lv_aload_n hx hb d_LI_empty_32 rfl (lv_at hl 0 rfl) ?_
  refine va_get (D := D) (a := h0) (fs := [.ref ll, .ref ld, .ref la, .ref lm, .ref lk, .ref lt]) (ci := 6) (v := .ref lk) (C := R_LI) (T := T_LI) (N := 6) hx hb hU iw_LI hown hK hP 0 rfl rfl 4 (by decide) (hU _ uw_98) (fun _ h9 => h9) rfl d_LI_empty_33 ?_
  refine lv_iconst (v := nI 0) hx hb d_LI_empty_36 (by decide +kernel) ?_
  refine xw_callSN (wr := [(h0, .inr (6, [.ref ll, .ref ld, .ref la, .ref lm, .ref lk, .ref lt])), (ld, .inl (cI, 16, .inl (fun _ => (nI 0)))), (la, .inl (cI, 16, .inl (fun _ => (nI 0)))), (lm, .inl (cI, 16, .inl (fun _ => (nI 0)))), (lt, .inl (cI, 16, .inl (fun _ => (nI 0))))]) [.ref lk, .int (nI 0)] (n_fillFlags l D cI cB cL cR lk 16 fk (nI 0) (by decide) (by first | exact Or.inl rfl | exact Or.inr rfl)) ⟨hx, hb, hml, hown, hU⟩ ⟨va_cnB 2 hU (xs_good uw_192) rfl rfl rfl (hN _ nw_560) (hU _ uw_1) (by decide +kernel) ⟨Nat.le_of_ble_eq_true rfl, Nat.le_of_ble_eq_true rfl⟩, hU _ uw_191, trivial⟩ rfl hl.1 rfl (Nat.le_of_ble_eq_true rfl) d_LI_empty_37 ⟨Nat.le_of_ble_eq_true rfl, Nat.le_of_ble_eq_true rfl⟩ [1] [0, 2, 3, 4, 5] rfl rfl (by decide +kernel) (by decide +kernel) (by decide +kernel) hN hK hP hD hS hA (fun u H locs hf hP hD hS => ?_)
  replace hP : va_P D vwCl [(h0, .inr (6, [.ref ll, .ref ld, .ref la, .ref lm, .ref lk, .ref lt])), (ld, .inl (cI, 16, .inl (fun _ => (nI 0)))), (la, .inl (cI, 16, .inl (fun _ => (nI 0)))), (lm, .inl (cI, 16, .inl (fun _ => (nI 0)))), (lt, .inl (cI, 16, .inl (fun _ => (nI 0)))), (lk, .inl (cB, 16, .inl (fun _ => (nI 0))))] H := hP
  replace hD : va_D A [(h0, .inr (6, [.ref ll, .ref ld, .ref la, .ref lm, .ref lk, .ref lt])), (ld, .inl (cI, 16, .inl (fun _ => (nI 0)))), (la, .inl (cI, 16, .inl (fun _ => (nI 0)))), (lm, .inl (cI, 16, .inl (fun _ => (nI 0)))), (lt, .inl (cI, 16, .inl (fun _ => (nI 0)))), (lk, .inl (cB, 16, .inl (fun _ => (nI 0))))] := hD
  refine W.widen (k := 0) (n := 0) (Nat.le_of_ble_eq_true rfl) (Nat.le_of_ble_eq_true rfl) ?_
  refine W.eq (g2 := F0 m 40 ls []) rfl ?_
  have hP9 := xs_P_sub (w := [(h0, .inr (6, [.ref ll, .ref ld, .ref la, .ref lm, .ref lk, .ref lt])), (ld, .inl (cI, 16, .inl (fun _ => (nI 0)))), (la, .inl (cI, 16, .inl (fun _ => (nI 0)))), (lm, .inl (cI, 16, .inl (fun _ => (nI 0)))), (lk, .inl (cB, 16, .inl (fun _ => (nI 0)))), (lt, .inl (cI, 16, .inl (fun _ => (nI 0))))]) hP [0, 1, 2, 3, 5, 4] rfl
  have hD9 := hD.sub (ws' := [(h0, .inr (6, [.ref ll, .ref ld, .ref la, .ref lm, .ref lk, .ref lt])), (ld, .inl (cI, 16, .inl (fun _ => (nI 0)))), (la, .inl (cI, 16, .inl (fun _ => (nI 0)))), (lm, .inl (cI, 16, .inl (fun _ => (nI 0)))), (lk, .inl (cB, 16, .inl (fun _ => (nI 0)))), (lt, .inl (cI, 16, .inl (fun _ => (nI 0))))]) [0, 1, 2, 3, 5, 4] (by decide +kernel) rfl
  exact xw_vret () hx hb hr hlocks d_LI_empty_40 (rfl) (trivial) hAe hP9 hD9 hS (Nat.le_of_ble_eq_true rfl) (Nat.le_of_ble_eq_true rfl)
set_option maxHeartbeats 4000000 in
set_option maxRecDepth 100000 in
/-- Queues.empty -/
theorem n_QU_empty (l : Launch) (D : va_G) (cI cB cL cR : ClassId) (h0 : Nat) (rm : Nat) (qr : Nat) (qf : Nat) (qh : Nat) (mo : Value) (gf : Nat → Nat) (gh : Nat → Nat) (hgf : ∀ j, gf j < 8) (hgh : ∀ j, gh j < 9) : xG (σ := Unit) l y_QU_empty w_QU_empty ({ frames := 1, cells := 0, slots := 0, locals := 23  } : Room) D vwCl (xs_tys cI cB cL cR) [.ref h0] [(h0, .inr (5, [.int (nI rm), .ref qr, .ref qf, .ref qh, mo])), (qf, .inl (cI, 16, .inl (xs_G gf))), (qh, .inl (cI, 16, .inl (xs_G gh)))] (fun _ => True) (fun _ => none) (fun _ => [(h0, .inr (5, [.int (nI rm), .ref qr, .ref qf, .ref qh, mo])), (qf, .inl (cI, 16, .inl (fun _ => nI 0))), (qh, .inl (cI, 16, .inl (fun _ => nI 0)))]) := by
  refine xG.of b_QU_empty 1 (none) (by decide +kernel) rfl (Nat.le_of_ble_eq_true rfl) ?_
  intro p e s m below meth c A ls hAe C0 hP hD hS hl
  obtain ⟨hx, hb, hr, hml, hown, hlocks, hts, hnm, hN, hK, hA⟩ := C0
  have hU : ∀ w ∈ xU, w.before #[.ref h0] s = true := fun w h => hts w (List.mem_cons_of_mem _ h)
  have hl : lv_has ls 1 [(0, .ref h0)] := hl
  refine lv_aload_n hx hb d_QU_empty_0 rfl (lv_at hl 0 rfl) ?_
  refine va_get (D := D) (a := h0) (fs := [.int (nI rm), .ref qr, .ref qf, .ref qh, mo]) (ci := 5) (v := .ref qf) (C := R_QU) (T := T_QU) (N := 5) hx hb hU iw_QU hown hK hP 0 rfl rfl 2 (by decide) (hU _ uw_249) (fun _ h9 => h9) rfl d_QU_empty_1 ?_
  refine lv_iconst (v := nI 0) hx hb d_QU_empty_4 (by decide +kernel) ?_
  refine xw_callS (wr := [(h0, .inr (5, [.int (nI rm), .ref qr, .ref qf, .ref qh, mo])), (qh, .inl (cI, 16, .inl (xs_G gh)))]) [.ref qf, .int (nI 0)] (n_fill l D cI cB cL cR qf 16 (xs_G gf) (nI 0) (by decide)) ⟨hx, hb, hml, hown, hU⟩ (va_cwS 2 hU (xs_goodS uw_554 uw_123 uw_8 uw_124) rfl rfl rfl (by decide +kernel) ⟨Nat.le_of_ble_eq_true rfl, Nat.le_of_ble_eq_true rfl⟩) rfl hl.1 rfl (Nat.le_of_ble_eq_true rfl) d_QU_empty_5 ⟨Nat.le_of_ble_eq_true rfl, Nat.le_of_ble_eq_true rfl⟩ [1] [0, 2] rfl rfl (by decide +kernel) (by decide +kernel) (by decide +kernel) hN hK hP hD hS hA (fun u H locs hf hP hD hS => ?_)
  replace hP : va_P D vwCl [(h0, .inr (5, [.int (nI rm), .ref qr, .ref qf, .ref qh, mo])), (qh, .inl (cI, 16, .inl (xs_G gh))), (qf, .inl (cI, 16, .inl (fun _ => (nI 0))))] H := hP
  replace hD : va_D A [(h0, .inr (5, [.int (nI rm), .ref qr, .ref qf, .ref qh, mo])), (qh, .inl (cI, 16, .inl (xs_G gh))), (qf, .inl (cI, 16, .inl (fun _ => (nI 0))))] := hD
  refine W.widen (k := 0) (n := 0) (Nat.le_of_ble_eq_true rfl) (Nat.le_of_ble_eq_true rfl) ?_
  refine W.eq (g2 := F0 m 8 ls []) rfl ?_
  refine lv_aload_n hx hb d_QU_empty_8 rfl (lv_at hl 0 rfl) ?_
  refine va_get (D := D) (a := h0) (fs := [.int (nI rm), .ref qr, .ref qf, .ref qh, mo]) (ci := 5) (v := .ref qh) (C := R_QU) (T := T_QU) (N := 5) hx hb hU iw_QU hown hK hP 0 rfl rfl 3 (by decide) (hU _ uw_250) (fun _ h9 => h9) rfl d_QU_empty_9 ?_
  refine lv_iconst (v := nI 0) hx hb d_QU_empty_12 (by decide +kernel) ?_
  refine xw_callS (wr := [(h0, .inr (5, [.int (nI rm), .ref qr, .ref qf, .ref qh, mo])), (qf, .inl (cI, 16, .inl (fun _ => (nI 0))))]) [.ref qh, .int (nI 0)] (n_fill l D cI cB cL cR qh 16 (xs_G gh) (nI 0) (by decide)) ⟨hx, hb, hml, hown, hU⟩ (va_cwS 2 hU (xs_goodS uw_554 uw_123 uw_8 uw_124) rfl rfl rfl (by decide +kernel) ⟨Nat.le_of_ble_eq_true rfl, Nat.le_of_ble_eq_true rfl⟩) rfl hl.1 rfl (Nat.le_of_ble_eq_true rfl) d_QU_empty_13 ⟨Nat.le_of_ble_eq_true rfl, Nat.le_of_ble_eq_true rfl⟩ [1] [0, 2] rfl rfl (by decide +kernel) (by decide +kernel) (by decide +kernel) hN hK hP hD hS hA (fun u H locs hf hP hD hS => ?_)
  replace hP : va_P D vwCl [(h0, .inr (5, [.int (nI rm), .ref qr, .ref qf, .ref qh, mo])), (qf, .inl (cI, 16, .inl (fun _ => (nI 0)))), (qh, .inl (cI, 16, .inl (fun _ => (nI 0))))] H := hP
  replace hD : va_D A [(h0, .inr (5, [.int (nI rm), .ref qr, .ref qf, .ref qh, mo])), (qf, .inl (cI, 16, .inl (fun _ => (nI 0)))), (qh, .inl (cI, 16, .inl (fun _ => (nI 0))))] := hD
  refine W.widen (k := 0) (n := 0) (Nat.le_of_ble_eq_true rfl) (Nat.le_of_ble_eq_true rfl) ?_
  refine W.eq (g2 := F0 m 16 ls []) rfl ?_
  have hP9 := xs_P_sub (w := [(h0, .inr (5, [.int (nI rm), .ref qr, .ref qf, .ref qh, mo])), (qf, .inl (cI, 16, .inl (fun _ => (nI 0)))), (qh, .inl (cI, 16, .inl (fun _ => (nI 0))))]) hP [0, 1, 2] rfl
  have hD9 := hD.sub (ws' := [(h0, .inr (5, [.int (nI rm), .ref qr, .ref qf, .ref qh, mo])), (qf, .inl (cI, 16, .inl (fun _ => (nI 0)))), (qh, .inl (cI, 16, .inl (fun _ => (nI 0))))]) [0, 1, 2] (by decide +kernel) rfl
  exact xw_vret () hx hb hr hlocks d_QU_empty_16 (rfl) (trivial) hAe hP9 hD9 hS (Nat.le_of_ble_eq_true rfl) (Nat.le_of_ble_eq_true rfl)
