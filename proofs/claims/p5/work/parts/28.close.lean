set_option maxHeartbeats 4000000 in
set_option maxRecDepth 100000 in
/-- closeLevel -/
theorem n_LE_closeLevel (l : Launch) (D : va_G) (cI cB cL cR : ClassId) (h0 : Nat) (lo : Nat) (lr : Nat) (lb : Nat) (lf : Nat) (lv : Nat) (f1 : Nat → Int32) (f2 : Nat → Int32) (st : Nat) (gr : Nat → Nat) (gb : Nat → Nat) (hst : st ≤ 200) (hc : gb lv = xs_cnt f1 200) (hlv : lv ≤ gb lv) (hfd : ∀ j, ¬ f2 j = 0 → f1 j = (-1)) (hlo : ∀ j, f1 j = (-1) ∨ ∃ k, k < lv ∧ f1 j = nI k) (hgr : ∀ j, gr j < 200) (hgb : ∀ j, gb j < 201) : xG (σ := Nat × (Nat → Int32) × (Nat → Nat) × (Nat → Nat)) l y_LE_closeLevel w_LE_closeLevel ({ frames := 0, cells := 0, slots := 0, locals := 0  } : Room) D vwCl (xs_tys cI cB cL cR) [.ref h0, .int (nI st)] [(h0, .inr (7, [.ref lo, .ref lr, .ref lb, .int (nI lv), .ref lf])), (lo, .inl (cI, 200, .inl f1)), (lr, .inl (cI, 200, .inl (xs_G gr))), (lb, .inl (cI, 201, .inl (xs_G gb))), (lf, .inl (cB, 200, .inl f2))] (fun (lv1, f3, gr1, gb1) => (∀ j, gr1 j < 200) ∧ (∀ j, gb1 j < 201) ∧ (gb1 0 = gb 0) ∧ (gb1 lv1 = xs_cnt f3 200) ∧ (lv1 ≤ gb1 lv1) ∧ (∀ j, f3 j = (-1) ∨ ∃ k, k < lv1 ∧ f3 j = nI k) ∧ (cx_cl lv lv1 st f1 f2 f3 gb gb1 gr1)) (fun (lv1, f3, gr1, gb1) => none) (fun (lv1, f3, gr1, gb1) => [(h0, .inr (7, [.ref lo, .ref lr, .ref lb, .int (nI lv1), .ref lf])), (lo, .inl (cI, 200, .inl f3)), (lr, .inl (cI, 200, .inl (xs_G gr1))), (lb, .inl (cI, 201, .inl (xs_G gb1))), (lf, .inl (cB, 200, .inl f2))]) := by
  refine xG.of b_LE_closeLevel 4 (none) (by decide +kernel) rfl (Nat.le_of_ble_eq_true rfl) ?_
  intro p e s m below meth c A ls hAe C0 hP hD hS hl
  obtain ⟨hx, hb, hr, hml, hown, hlocks, hts, hnm, hN, hK, hA⟩ := C0
  have hU : ∀ w ∈ xU, w.before #[.ref h0, .int (nI st)] s = true := fun w h => hts w (List.mem_cons_of_mem _ h)
  have hl : lv_has ls 4 [(0, .ref h0), (1, .int (nI st))] := hl
  have hq0 := hgb lv
  refine lv_aload_n hx hb d_LE_closeLevel_0 rfl (lv_at hl 0 rfl) ?_
  refine va_get (D := D) (a := h0) (fs := [.ref lo, .ref lr, .ref lb, .int (nI lv), .ref lf]) (ci := 7) (v := .ref lb) (C := R_LE) (T := T_LE) (N := 5) hx hb hU iw_LE hown hK hP 0 rfl rfl 2 (by decide) (hU _ uw_131) (fun _ h9 => h9) rfl d_LE_closeLevel_1 ?_
  refine lv_aload_n hx hb d_LE_closeLevel_4 rfl (lv_at hl 0 rfl) ?_
  refine va_get (D := D) (a := h0) (fs := [.ref lo, .ref lr, .ref lb, .int (nI lv), .ref lf]) (ci := 7) (v := .int (nI lv)) (C := R_LE) (T := T_LE) (N := 5) hx hb hU iw_LE hown hK hP 0 rfl rfl 3 (by decide) (hU _ uw_135) (fun _ h9 => h9) rfl d_LE_closeLevel_5 ?_
  refine xw_ildN hx hb hK hP 3 0 rfl rfl (by omega) (by decide) d_LE_closeLevel_8 ?_
  have hv_1 := hgb lv
  refine lv_istore_n (lv' := [(2, .int (nI (gb lv))), (0, .ref h0), (1, .int (nI st))]) hx hb d_LE_closeLevel_9 rfl hl (by decide) rfl (fun ls hl => ?_)
  refine lv_iconst (v := nI 0) hx hb d_LE_closeLevel_10 (by decide +kernel) ?_
  refine lv_istore_n (lv' := [(3, .int (nI 0)), (2, .int (nI (gb lv))), (0, .ref h0), (1, .int (nI st))]) hx hb d_LE_closeLevel_11 rfl hl (by decide) rfl (fun ls hl => ?_)
  refine W.widen (k := 0) (n := 0) (Nat.le_of_ble_eq_true rfl) (Nat.le_of_ble_eq_true rfl) ?_
  have lp_12 : ∀ (fu : Nat) (i : Nat) (cm : Nat) (f9 : Nat → Int32) (gr9 : Nat → Nat) (H : Heap) (locs : List Loc) (ls : Array Slot), (i + fu = st) → (cm = xs_cnt f9 200) → (gb lv ≤ cm) → (∀ j, i ≤ j → ¬ f2 j = 0 → f9 j = (-1)) → (∀ j, f9 j = (-1) ∨ ∃ k, k < lv + 1 ∧ f9 j = nI k) → (cm = gb lv → ∀ j, f9 j = (-1) ∨ ∃ k, k < lv ∧ f9 j = nI k) → (∀ j, j < i → ¬ f2 j = 0 → f9 j = nI lv) → (∀ j, ¬ (j < i ∧ ¬ f2 j = 0) → f9 j = f1 j) → (∀ j, gr9 j < 200) → (cx_G (gb lv) cm i f2 gr9) → va_P D vwCl [(h0, .inr (7, [.ref lo, .ref lr, .ref lb, .int (nI lv), .ref lf])), (lo, .inl (cI, 200, .inl f9)), (lr, .inl (cI, 200, .inl (xs_G gr9))), (lb, .inl (cI, 201, .inl (xs_G gb))), (lf, .inl (cB, 200, .inl f2))] H → va_D A [(h0, .inr (7, [.ref lo, .ref lr, .ref lb, .int (nI lv), .ref lf])), (lo, .inl (cI, 200, .inl f9)), (lr, .inl (cI, 200, .inl (xs_G gr9))), (lb, .inl (cI, 201, .inl (xs_G gb))), (lf, .inl (cB, 200, .inl f2))] → va_S A s.heap H locs → lv_has ls 4 [(3, .int (nI i)), (2, .int (nI cm)), (0, .ref h0), (1, .int (nI st))] → W p l e (headSpec w_LE_closeLevel ({ frames := 0, cells := 0, slots := 0, locals := 0  } : Room)).room s m #[.ref h0, .int (nI st)] below meth c H locs 0 0 (xZ (σ := Nat × (Nat → Int32) × (Nat → Nat) × (Nat → Nat)) below #[.ref h0, .int (nI st)] s D vwCl [(h0, .inr (7, [.ref lo, .ref lr, .ref lb, .int (nI lv), .ref lf])), (lo, .inl (cI, 200, .inl f1)), (lr, .inl (cI, 200, .inl (xs_G gr))), (lb, .inl (cI, 201, .inl (xs_G gb))), (lf, .inl (cB, 200, .inl f2))] s.heap.size ({ frames := 0, cells := 0, slots := 0, locals := 0  } : Room).cells ({ frames := 0, cells := 0, slots := 0, locals := 0  } : Room).slots (fun (lv1, f3, gr1, gb1) => (∀ j, gr1 j < 200) ∧ (∀ j, gb1 j < 201) ∧ (gb1 0 = gb 0) ∧ (gb1 lv1 = xs_cnt f3 200) ∧ (lv1 ≤ gb1 lv1) ∧ (∀ j, f3 j = (-1) ∨ ∃ k, k < lv1 ∧ f3 j = nI k) ∧ (cx_cl lv lv1 st f1 f2 f3 gb gb1 gr1)) (fun (lv1, f3, gr1, gb1) => none) (fun (lv1, f3, gr1, gb1) => [(h0, .inr (7, [.ref lo, .ref lr, .ref lb, .int (nI lv1), .ref lf])), (lo, .inl (cI, 200, .inl f3)), (lr, .inl (cI, 200, .inl (xs_G gr1))), (lb, .inl (cI, 201, .inl (xs_G gb1))), (lf, .inl (cB, 200, .inl f2))])) (F0 m 12 ls []) := by
    intro fu
    induction fu with
    | zero =>
      intro i cm f9 gr9 H locs ls hi hcm hge hf9 hl9 hs9 hn1 hn2 hgr9 hG hP hD hS hl
      have hq1 := xs_cnt_le f9 200
      refine lv_iload_n hx hb d_LE_closeLevel_12 rfl (lv_at hl 0 rfl) ?_
      refine lv_iload_n hx hb d_LE_closeLevel_13 rfl (lv_at hl 3 rfl) ?_
      refine xw_icmp_ge (tgt := 52) hx hb d_LE_closeLevel_14 (by decide) (by omega) (by omega) (fun c_14 => ?_) (fun c_14 => ?_)
      · refine lv_iload_n hx hb d_LE_closeLevel_52 rfl (lv_at hl 1 rfl) ?_
        refine lv_aload_n hx hb d_LE_closeLevel_53 rfl (lv_at hl 2 rfl) ?_
        refine va_get (D := D) (a := h0) (fs := [.ref lo, .ref lr, .ref lb, .int (nI lv), .ref lf]) (ci := 7) (v := .ref lb) (C := R_LE) (T := T_LE) (N := 5) hx hb hU iw_LE hown hK hP 0 rfl rfl 2 (by decide) (hU _ uw_131) (fun _ h9 => h9) rfl d_LE_closeLevel_54 ?_
        refine lv_aload_n hx hb d_LE_closeLevel_57 rfl (lv_at hl 2 rfl) ?_
        refine va_get (D := D) (a := h0) (fs := [.ref lo, .ref lr, .ref lb, .int (nI lv), .ref lf]) (ci := 7) (v := .int (nI lv)) (C := R_LE) (T := T_LE) (N := 5) hx hb hU iw_LE hown hK hP 0 rfl rfl 3 (by decide) (hU _ uw_135) (fun _ h9 => h9) rfl d_LE_closeLevel_58 ?_
        refine xw_ildN hx hb hK hP 3 0 rfl rfl (by omega) (by decide) d_LE_closeLevel_61 ?_
        have hv_2 := hgb lv
        refine xw_icmp_le (tgt := 85) hx hb d_LE_closeLevel_62 (by decide) (by omega) (by omega) (fun c_62 => ?_) (fun c_62 => ?_)
        · have hP9 := xs_P_sub (w := [(h0, .inr (7, [.ref lo, .ref lr, .ref lb, .int (nI lv), .ref lf])), (lo, .inl (cI, 200, .inl f9)), (lr, .inl (cI, 200, .inl (xs_G gr9))), (lb, .inl (cI, 201, .inl (xs_G gb))), (lf, .inl (cB, 200, .inl f2))]) hP [0, 1, 2, 3, 4] rfl
          have hD9 := hD.sub (ws' := [(h0, .inr (7, [.ref lo, .ref lr, .ref lb, .int (nI lv), .ref lf])), (lo, .inl (cI, 200, .inl f9)), (lr, .inl (cI, 200, .inl (xs_G gr9))), (lb, .inl (cI, 201, .inl (xs_G gb))), (lf, .inl (cB, 200, .inl f2))]) [0, 1, 2, 3, 4] (by decide +kernel) rfl
          exact xw_vret (lv, f9, gr9, gb) hx hb hr hlocks d_LE_closeLevel_85 (rfl) (⟨hgr9, hgb, by first | rfl | exact hk2, by first | omega | (rw [hk1]; exact hcm), by first | exact hlv | omega, by first | exact hl9 | exact hs9 (by omega), ⟨fun j h => hn1 j (by omega), fun j h => hn2 j (fun z => h ⟨by omega, z.2⟩), Or.inl ⟨rfl, by rw [← show cm = gb lv by omega, ← show i = st by omega]; rw [← show cm = gb lv by omega] at hG; exact hG⟩⟩⟩) hAe hP9 hD9 hS (Nat.le_of_ble_eq_true rfl) (Nat.le_of_ble_eq_true rfl)
        · refine lv_aload_n hx hb d_LE_closeLevel_65 rfl (lv_at hl 2 rfl) ?_
          refine lv_dup hx hb d_LE_closeLevel_66 rfl ?_
          refine va_get (D := D) (a := h0) (fs := [.ref lo, .ref lr, .ref lb, .int (nI lv), .ref lf]) (ci := 7) (v := .int (nI lv)) (C := R_LE) (T := T_LE) (N := 5) hx hb hU iw_LE hown hK hP 0 rfl rfl 3 (by decide) (hU _ uw_135) (fun _ h9 => h9) rfl d_LE_closeLevel_67 ?_
          refine lv_iconst (v := nI 1) hx hb d_LE_closeLevel_70 (by decide +kernel) ?_
          refine lv_iadd hx hb d_LE_closeLevel_71 ?_
          refine xw_top (nI (lv + 1)) (nI_add _ _) ?_
          refine va_put (D := D) (ci := 7) (v := .int (nI (lv + 1))) (ty := .int) (C := R_LE) (T := T_LE) (N := 5) hx hb hU iw_LE ty_LE ty_LE_ok nm_LE hown hK hP hD hS 0 rfl rfl 3 (by decide) (hU _ uw_135) (fun _ h9 => h9) rfl (by decide +kernel) (by first | rfl | decide +kernel) (by first | rfl | decide +kernel) (Nat.le_of_ble_eq_true rfl) d_LE_closeLevel_72 (fun H locs hP hD hS => ?_)
          replace hP : va_P D vwCl [(h0, .inr (7, [.ref lo, .ref lr, .ref lb, .int (nI (lv + 1)), .ref lf])), (lo, .inl (cI, 200, .inl f9)), (lr, .inl (cI, 200, .inl (xs_G gr9))), (lb, .inl (cI, 201, .inl (xs_G gb))), (lf, .inl (cB, 200, .inl f2))] H := hP
          replace hD : va_D A [(h0, .inr (7, [.ref lo, .ref lr, .ref lb, .int (nI (lv + 1)), .ref lf])), (lo, .inl (cI, 200, .inl f9)), (lr, .inl (cI, 200, .inl (xs_G gr9))), (lb, .inl (cI, 201, .inl (xs_G gb))), (lf, .inl (cB, 200, .inl f2))] := hD
          refine lv_aload_n hx hb d_LE_closeLevel_75 rfl (lv_at hl 2 rfl) ?_
          refine va_get (D := D) (a := h0) (fs := [.ref lo, .ref lr, .ref lb, .int (nI (lv + 1)), .ref lf]) (ci := 7) (v := .ref lb) (C := R_LE) (T := T_LE) (N := 5) hx hb hU iw_LE hown hK hP 0 rfl rfl 2 (by decide) (hU _ uw_131) (fun _ h9 => h9) rfl d_LE_closeLevel_76 ?_
          refine lv_aload_n hx hb d_LE_closeLevel_79 rfl (lv_at hl 2 rfl) ?_
          refine va_get (D := D) (a := h0) (fs := [.ref lo, .ref lr, .ref lb, .int (nI (lv + 1)), .ref lf]) (ci := 7) (v := .int (nI (lv + 1))) (C := R_LE) (T := T_LE) (N := 5) hx hb hU iw_LE hown hK hP 0 rfl rfl 3 (by decide) (hU _ uw_135) (fun _ h9 => h9) rfl d_LE_closeLevel_80 ?_
          refine lv_iload_n hx hb d_LE_closeLevel_83 rfl (lv_at hl 1 rfl) ?_
          refine xw_istN hx hb hK hP hD hS 3 0 rfl rfl (by omega) (by decide) d_LE_closeLevel_84 (fun H locs hP hD hS => ?_)
          have hg_4 : ∀ j, (va_up gb (lv + 1) cm) j < 201 := xs_up_lt (fun j => by have h8 := hgb j; omega) (by omega)
          have hk1 : (va_up gb (lv + 1) cm) (lv + 1) = cm := by simp [va_up]
          have hk2 : (va_up gb (lv + 1) cm) 0 = gb 0 := xs_up_ne (by omega)
          have hk3 : (va_up gb (lv + 1) cm) lv = gb lv := xs_up_ne (by omega)
          replace hP : va_P D vwCl [(h0, .inr (7, [.ref lo, .ref lr, .ref lb, .int (nI (lv + 1)), .ref lf])), (lo, .inl (cI, 200, .inl f9)), (lr, .inl (cI, 200, .inl (xs_G gr9))), (lb, .inl (cI, 201, .inl (xs_G (va_up gb (lv + 1) cm)))), (lf, .inl (cB, 200, .inl f2))] H := hP
          replace hD : va_D A [(h0, .inr (7, [.ref lo, .ref lr, .ref lb, .int (nI (lv + 1)), .ref lf])), (lo, .inl (cI, 200, .inl f9)), (lr, .inl (cI, 200, .inl (xs_G gr9))), (lb, .inl (cI, 201, .inl (xs_G (va_up gb (lv + 1) cm)))), (lf, .inl (cB, 200, .inl f2))] := hD
          generalize va_up gb (lv + 1) cm = g_3 at hP hD hg_4 hk1 hk2 hk3
          replace hP : va_P D vwCl [(h0, .inr (7, [.ref lo, .ref lr, .ref lb, .int (nI (lv + 1)), .ref lf])), (lo, .inl (cI, 200, .inl f9)), (lr, .inl (cI, 200, .inl (xs_G gr9))), (lb, .inl (cI, 201, .inl (xs_G g_3))), (lf, .inl (cB, 200, .inl f2))] H := hP
          replace hD : va_D A [(h0, .inr (7, [.ref lo, .ref lr, .ref lb, .int (nI (lv + 1)), .ref lf])), (lo, .inl (cI, 200, .inl f9)), (lr, .inl (cI, 200, .inl (xs_G gr9))), (lb, .inl (cI, 201, .inl (xs_G g_3))), (lf, .inl (cB, 200, .inl f2))] := hD
          have hP9 := xs_P_sub (w := [(h0, .inr (7, [.ref lo, .ref lr, .ref lb, .int (nI (lv + 1)), .ref lf])), (lo, .inl (cI, 200, .inl f9)), (lr, .inl (cI, 200, .inl (xs_G gr9))), (lb, .inl (cI, 201, .inl (xs_G g_3))), (lf, .inl (cB, 200, .inl f2))]) hP [0, 1, 2, 3, 4] rfl
          have hD9 := hD.sub (ws' := [(h0, .inr (7, [.ref lo, .ref lr, .ref lb, .int (nI (lv + 1)), .ref lf])), (lo, .inl (cI, 200, .inl f9)), (lr, .inl (cI, 200, .inl (xs_G gr9))), (lb, .inl (cI, 201, .inl (xs_G g_3))), (lf, .inl (cB, 200, .inl f2))]) [0, 1, 2, 3, 4] (by decide +kernel) rfl
          exact xw_vret (lv + 1, f9, gr9, g_3) hx hb hr hlocks d_LE_closeLevel_85 (rfl) (⟨hgr9, hg_4, by first | rfl | exact hk2, by first | omega | (rw [hk1]; exact hcm), by first | exact hlv | omega, by first | exact hl9 | exact hs9 (by omega), ⟨fun j h => hn1 j (by omega), fun j h => hn2 j (fun z => h ⟨by omega, z.2⟩), Or.inr ⟨rfl, by rw [hk1]; omega, hk3, by rw [hk1, ← show i = st by omega]; exact hG⟩⟩⟩) hAe hP9 hD9 hS (Nat.le_of_ble_eq_true rfl) (Nat.le_of_ble_eq_true rfl)
      · exact (by omega : False).elim
    | succ fu ih =>
      intro i cm f9 gr9 H locs ls hi hcm hge hf9 hl9 hs9 hn1 hn2 hgr9 hG hP hD hS hl
      have hq1 := xs_cnt_le f9 200
      refine lv_iload_n hx hb d_LE_closeLevel_12 rfl (lv_at hl 0 rfl) ?_
      refine lv_iload_n hx hb d_LE_closeLevel_13 rfl (lv_at hl 3 rfl) ?_
      refine xw_icmp_ge (tgt := 52) hx hb d_LE_closeLevel_14 (by decide) (by omega) (by omega) (fun c_14 => ?_) (fun c_14 => ?_)
      · exact (by omega : False).elim
      · refine lv_aload_n hx hb d_LE_closeLevel_17 rfl (lv_at hl 2 rfl) ?_
        refine va_get (D := D) (a := h0) (fs := [.ref lo, .ref lr, .ref lb, .int (nI lv), .ref lf]) (ci := 7) (v := .ref lf) (C := R_LE) (T := T_LE) (N := 5) hx hb hU iw_LE hown hK hP 0 rfl rfl 4 (by decide) (hU _ uw_138) (fun _ h9 => h9) rfl d_LE_closeLevel_18 ?_
        refine lv_iload_n hx hb d_LE_closeLevel_21 rfl (lv_at hl 0 rfl) ?_
        refine xw_zld hx hb hK hP 4 1 rfl rfl (by omega) (by decide) d_LE_closeLevel_22 ?_
        refine lv_if_eq (tgt := 46) hx hb d_LE_closeLevel_23 (by decide) (fun c_23 => ?_) (fun c_23 => ?_)
        · refine lv_iinc (v := nI (i + 1)) (lv' := [(3, .int (nI (i + 1))), (2, .int (nI cm)), (0, .ref h0), (1, .int (nI st))]) hx hb d_LE_closeLevel_46 hl (k := 0) rfl (xs_inc i 1) (by decide) rfl (fun ls hl => ?_)
          refine lv_goto (tgt := 12) hx hb d_LE_closeLevel_49 (by decide) ?_
          exact ih (i + 1) cm f9 gr9 _ _ _ (by omega) (hcm) (by omega) (fun j hj h => hf9 j (by omega) h) (hl9) (hs9) (fun j hj h => if h9 : j = i then absurd c_23 (by rw [← h9]; exact h) else hn1 j (by omega) h) (fun j h => hn2 j (fun z => h ⟨by omega, z.2⟩)) (fun j => by have h8 := hgr9 j; omega) (cx_G_skip hG c_23) (xs_P_sub hP [0, 1, 2, 3, 4] rfl) (hD.sub [0, 1, 2, 3, 4] (by decide +kernel) rfl) hS (lv_sub hl [0, 1, 2, 3] rfl)
        · refine lv_aload_n hx hb d_LE_closeLevel_26 rfl (lv_at hl 2 rfl) ?_
          refine va_get (D := D) (a := h0) (fs := [.ref lo, .ref lr, .ref lb, .int (nI lv), .ref lf]) (ci := 7) (v := .ref lo) (C := R_LE) (T := T_LE) (N := 5) hx hb hU iw_LE hown hK hP 0 rfl rfl 0 (by decide) (hU _ uw_125) (fun _ h9 => h9) rfl d_LE_closeLevel_27 ?_
          refine lv_iload_n hx hb d_LE_closeLevel_30 rfl (lv_at hl 0 rfl) ?_
          refine lv_aload_n hx hb d_LE_closeLevel_31 rfl (lv_at hl 2 rfl) ?_
          refine va_get (D := D) (a := h0) (fs := [.ref lo, .ref lr, .ref lb, .int (nI lv), .ref lf]) (ci := 7) (v := .int (nI lv)) (C := R_LE) (T := T_LE) (N := 5) hx hb hU iw_LE hown hK hP 0 rfl rfl 3 (by decide) (hU _ uw_135) (fun _ h9 => h9) rfl d_LE_closeLevel_32 ?_
          refine xw_ist hx hb hK hP hD hS 1 0 rfl rfl (by omega) (by decide) d_LE_closeLevel_35 (fun H locs hP hD hS => ?_)
          replace hP : va_P D vwCl [(h0, .inr (7, [.ref lo, .ref lr, .ref lb, .int (nI lv), .ref lf])), (lo, .inl (cI, 200, .inl (upd f9 i (nI lv)))), (lr, .inl (cI, 200, .inl (xs_G gr9))), (lb, .inl (cI, 201, .inl (xs_G gb))), (lf, .inl (cB, 200, .inl f2))] H := hP
          replace hD : va_D A [(h0, .inr (7, [.ref lo, .ref lr, .ref lb, .int (nI lv), .ref lf])), (lo, .inl (cI, 200, .inl (upd f9 i (nI lv)))), (lr, .inl (cI, 200, .inl (xs_G gr9))), (lb, .inl (cI, 201, .inl (xs_G gb))), (lf, .inl (cB, 200, .inl f2))] := hD
          refine lv_aload_n hx hb d_LE_closeLevel_36 rfl (lv_at hl 2 rfl) ?_
          refine va_get (D := D) (a := h0) (fs := [.ref lo, .ref lr, .ref lb, .int (nI lv), .ref lf]) (ci := 7) (v := .ref lr) (C := R_LE) (T := T_LE) (N := 5) hx hb hU iw_LE hown hK hP 0 rfl rfl 1 (by decide) (hU _ uw_128) (fun _ h9 => h9) rfl d_LE_closeLevel_37 ?_
          refine lv_iload_n hx hb d_LE_closeLevel_40 rfl (lv_at hl 1 rfl) ?_
          refine lv_iload_n hx hb d_LE_closeLevel_41 rfl (lv_at hl 0 rfl) ?_
          refine xw_istN hx hb hK hP hD hS 2 0 rfl rfl (by have h9 := xs_cnt_lt (n := 200) (show i < 200 by omega) (hf9 i (Nat.le_refl i) c_23); omega) (by decide) d_LE_closeLevel_42 (fun H locs hP hD hS => ?_)
          have hg_6 : ∀ j, (va_up gr9 cm i) j < 200 := xs_up_lt (fun j => by have h8 := hgr9 j; omega) (by omega)
          have hG2 : cx_G (gb lv) (cm + 1) (i + 1) f2 (va_up gr9 cm i) := cx_G_add hG c_23 hge
          replace hP : va_P D vwCl [(h0, .inr (7, [.ref lo, .ref lr, .ref lb, .int (nI lv), .ref lf])), (lo, .inl (cI, 200, .inl (upd f9 i (nI lv)))), (lr, .inl (cI, 200, .inl (xs_G (va_up gr9 cm i)))), (lb, .inl (cI, 201, .inl (xs_G gb))), (lf, .inl (cB, 200, .inl f2))] H := hP
          replace hD : va_D A [(h0, .inr (7, [.ref lo, .ref lr, .ref lb, .int (nI lv), .ref lf])), (lo, .inl (cI, 200, .inl (upd f9 i (nI lv)))), (lr, .inl (cI, 200, .inl (xs_G (va_up gr9 cm i)))), (lb, .inl (cI, 201, .inl (xs_G gb))), (lf, .inl (cB, 200, .inl f2))] := hD
          generalize va_up gr9 cm i = g_5 at hP hD hg_6 hG2
          replace hP : va_P D vwCl [(h0, .inr (7, [.ref lo, .ref lr, .ref lb, .int (nI lv), .ref lf])), (lo, .inl (cI, 200, .inl (upd f9 i (nI lv)))), (lr, .inl (cI, 200, .inl (xs_G g_5))), (lb, .inl (cI, 201, .inl (xs_G gb))), (lf, .inl (cB, 200, .inl f2))] H := hP
          replace hD : va_D A [(h0, .inr (7, [.ref lo, .ref lr, .ref lb, .int (nI lv), .ref lf])), (lo, .inl (cI, 200, .inl (upd f9 i (nI lv)))), (lr, .inl (cI, 200, .inl (xs_G g_5))), (lb, .inl (cI, 201, .inl (xs_G gb))), (lf, .inl (cB, 200, .inl f2))] := hD
          refine lv_iinc (v := nI (cm + 1)) (lv' := [(2, .int (nI (cm + 1))), (3, .int (nI i)), (0, .ref h0), (1, .int (nI st))]) hx hb d_LE_closeLevel_43 hl (k := 1) rfl (xs_inc cm 1) (by decide) rfl (fun ls hl => ?_)
          refine lv_iinc (v := nI (i + 1)) (lv' := [(3, .int (nI (i + 1))), (2, .int (nI (cm + 1))), (0, .ref h0), (1, .int (nI st))]) hx hb d_LE_closeLevel_46 hl (k := 1) rfl (xs_inc i 1) (by decide) rfl (fun ls hl => ?_)
          refine lv_goto (tgt := 12) hx hb d_LE_closeLevel_49 (by decide) ?_
          exact ih (i + 1) (cm + 1) (upd f9 i (nI lv)) g_5 _ _ _ (by omega) (by rw [xs_cnt_up (by omega) (hf9 i (Nat.le_refl i) c_23) (xs_nm1 (by omega)), ← hcm]) (by omega) (fun j hj h => by rw [pk_un (by omega)]; exact hf9 j (by omega) h) (fun j => if h9 : j = i then Or.inr ⟨lv, by omega, by rw [h9, pk_us]⟩ else by rw [pk_un h9]; exact hl9 j) (fun h => absurd h (by omega)) (fun j hj h => if h9 : j = i then by rw [h9, pk_us] else by rw [pk_un h9]; exact hn1 j (by omega) h) (fun j h => if h9 : j = i then absurd ⟨by omega, by rw [h9]; exact c_23⟩ h else by rw [pk_un h9]; exact hn2 j (fun z => h ⟨by omega, z.2⟩)) (fun j => by have h8 := hg_6 j; omega) (hG2) (xs_P_sub hP [0, 1, 2, 3, 4] rfl) (hD.sub [0, 1, 2, 3, 4] (by decide +kernel) rfl) hS (lv_sub hl [0, 1, 2, 3] rfl)
  exact lp_12 (st) 0 (gb lv) f1 gr _ _ _ (by omega) (hc) (Nat.le_refl _) (fun j _ h => hfd j h) (fun j => (hlo j).imp id (fun ⟨k, h, e9⟩ => ⟨k, by omega, e9⟩)) (fun _ => hlo) (fun j h => absurd h (by omega)) (fun _ _ => rfl) (fun j => by have h8 := hgr j; omega) (cx_G_0) hP hD hS (lv_sub hl [0, 1, 2, 3] rfl)
