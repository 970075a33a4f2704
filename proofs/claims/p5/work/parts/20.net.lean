set_option maxHeartbeats 4000000 in
set_option maxRecDepth 100000 in
/-- addMove -/
theorem n_NET_addMove (l : Launch) (D : va_G) (cI cB cL cR : ClassId) (h0 : Nat) (q1 : Nat) (q2 : Nat) (st : Nat) (mv : Nat) (fr : Nat) (to9 : Nat) (gb : Nat → Nat) (gt : Nat → Nat) (hfr : fr < 200) (hto : to9 < 200) (hmv : mv < 600) (hgb : ∀ j, gb j < mv + 1) (hgt : ∀ j, gt j < 200) : xG (σ := (Nat → Nat) × (Nat → Nat)) l y_NET_addMove w_NET_addMove ({ frames := 0, cells := 0, slots := 0, locals := 0  } : Room) D vwCl (xs_tys cI cB cL cR) [.ref h0, .int (nI fr), .int (nI to9)] [(h0, .inr (1, [.int (nI st), .int (nI mv), .ref q1, .ref q2])), (q1, .inl (cI, 201, .inl (xs_G gb))), (q2, .inl (cI, 600, .inl (xs_G gt)))] (fun (gb1, gt1) => (∀ j, gb1 j < mv + 2) ∧ (∀ j, gt1 j < 200) ∧ (cx_mv fr to9 mv gb gb1 gt gt1)) (fun (gb1, gt1) => none) (fun (gb1, gt1) => [(h0, .inr (1, [.int (nI st), .int (nI (mv + 1)), .ref q1, .ref q2])), (q1, .inl (cI, 201, .inl (xs_G gb1))), (q2, .inl (cI, 600, .inl (xs_G gt1)))]) := by
  refine xG.of b_NET_addMove 5 (none) (by decide +kernel) rfl (Nat.le_of_ble_eq_true rfl) ?_
  intro p e s m below meth c A ls hAe C0 hP hD hS hl
  obtain ⟨hx, hb, hr, hml, hown, hlocks, hts, hnm, hN, hK, hA⟩ := C0
  have hU : ∀ w ∈ xU, w.before #[.ref h0, .int (nI fr), .int (nI to9)] s = true := fun w h => hts w (List.mem_cons_of_mem _ h)
  have hl : lv_has ls 5 [(0, .ref h0), (1, .int (nI fr)), (2, .int (nI to9))] := hl
  refine lv_aload_n hx hb d_NET_addMove_0 rfl (lv_at hl 0 rfl) ?_
  refine va_get (D := D) (a := h0) (fs := [.int (nI st), .int (nI mv), .ref q1, .ref q2]) (ci := 1) (v := .ref q1) (C := R_NET) (T := T_NET) (N := 4) hx hb hU iw_NET hown hK hP 0 rfl rfl 2 (by decide) (hU _ uw_49) (fun _ h9 => h9) rfl d_NET_addMove_1 ?_
  refine lv_iload_n hx hb d_NET_addMove_4 rfl (lv_at hl 1 rfl) ?_
  refine lv_iconst (v := nI 1) hx hb d_NET_addMove_5 (by decide +kernel) ?_
  refine lv_iadd hx hb d_NET_addMove_6 ?_
  refine xw_top (nI (fr + 1)) (nI_add _ _) ?_
  refine xw_ildN hx hb hK hP 1 0 rfl rfl (by omega) (by decide) d_NET_addMove_7 ?_
  have hv_1 := hgb (fr + 1)
  refine lv_istore_n (lv' := [(3, .int (nI (gb (fr + 1)))), (0, .ref h0), (1, .int (nI fr)), (2, .int (nI to9))]) hx hb d_NET_addMove_8 rfl hl (by decide) rfl (fun ls hl => ?_)
  refine lv_aload_n hx hb d_NET_addMove_9 rfl (lv_at hl 1 rfl) ?_
  refine va_get (D := D) (a := h0) (fs := [.int (nI st), .int (nI mv), .ref q1, .ref q2]) (ci := 1) (v := .int (nI mv)) (C := R_NET) (T := T_NET) (N := 4) hx hb hU iw_NET hown hK hP 0 rfl rfl 1 (by decide) (hU _ uw_48) (fun _ h9 => h9) rfl d_NET_addMove_10 ?_
  refine lv_istore (lv' := [(4, .int (nI mv)), (3, .int (nI (gb (fr + 1)))), (0, .ref h0), (1, .int (nI fr)), (2, .int (nI to9))]) hx hb d_NET_addMove_13 hl (by decide) rfl (fun ls hl => ?_)
  refine W.widen (k := 0) (n := 0) (Nat.le_of_ble_eq_true rfl) (Nat.le_of_ble_eq_true rfl) ?_
  have lp_15 : ∀ (fu : Nat) (k : Nat) (gt9 : Nat → Nat) (H : Heap) (locs : List Loc) (ls : Array Slot), (gb (fr + 1) + fu = k) → (k ≤ mv) → (∀ j, gt9 j < 200) → (∀ m, m < k → gt9 m = gt m) → (∀ m, k ≤ m → m < mv → gt9 (m + 1) = gt m) → va_P D vwCl [(h0, .inr (1, [.int (nI st), .int (nI mv), .ref q1, .ref q2])), (q1, .inl (cI, 201, .inl (xs_G gb))), (q2, .inl (cI, 600, .inl (xs_G gt9)))] H → va_D A [(h0, .inr (1, [.int (nI st), .int (nI mv), .ref q1, .ref q2])), (q1, .inl (cI, 201, .inl (xs_G gb))), (q2, .inl (cI, 600, .inl (xs_G gt9)))] → va_S A s.heap H locs → lv_has ls 5 [(4, .int (nI k)), (3, .int (nI (gb (fr + 1)))), (0, .ref h0), (1, .int (nI fr)), (2, .int (nI to9))] → W p l e (headSpec w_NET_addMove ({ frames := 0, cells := 0, slots := 0, locals := 0  } : Room)).room s m #[.ref h0, .int (nI fr), .int (nI to9)] below meth c H locs 0 0 (xZ (σ := (Nat → Nat) × (Nat → Nat)) below #[.ref h0, .int (nI fr), .int (nI to9)] s D vwCl [(h0, .inr (1, [.int (nI st), .int (nI mv), .ref q1, .ref q2])), (q1, .inl (cI, 201, .inl (xs_G gb))), (q2, .inl (cI, 600, .inl (xs_G gt)))] s.heap.size ({ frames := 0, cells := 0, slots := 0, locals := 0  } : Room).cells ({ frames := 0, cells := 0, slots := 0, locals := 0  } : Room).slots (fun (gb1, gt1) => (∀ j, gb1 j < mv + 2) ∧ (∀ j, gt1 j < 200) ∧ (cx_mv fr to9 mv gb gb1 gt gt1)) (fun (gb1, gt1) => none) (fun (gb1, gt1) => [(h0, .inr (1, [.int (nI st), .int (nI (mv + 1)), .ref q1, .ref q2])), (q1, .inl (cI, 201, .inl (xs_G gb1))), (q2, .inl (cI, 600, .inl (xs_G gt1)))])) (F0 m 15 ls []) := by
    intro fu
    induction fu with
    | zero =>
      intro k gt9 H locs ls hm hm2 hgt9 ht1 ht2 hP hD hS hl
      refine lv_iload hx hb d_NET_addMove_15 (lv_at hl 0 rfl) ?_
      refine lv_iload_n hx hb d_NET_addMove_17 rfl (lv_at hl 1 rfl) ?_
      refine xw_icmp_le (tgt := 43) hx hb d_NET_addMove_18 (by decide) (by omega) (by omega) (fun c_18 => ?_) (fun c_18 => ?_)
      · refine lv_aload_n hx hb d_NET_addMove_43 rfl (lv_at hl 2 rfl) ?_
        refine va_get (D := D) (a := h0) (fs := [.int (nI st), .int (nI mv), .ref q1, .ref q2]) (ci := 1) (v := .ref q2) (C := R_NET) (T := T_NET) (N := 4) hx hb hU iw_NET hown hK hP 0 rfl rfl 3 (by decide) (hU _ uw_52) (fun _ h9 => h9) rfl d_NET_addMove_44 ?_
        refine lv_iload_n hx hb d_NET_addMove_47 rfl (lv_at hl 1 rfl) ?_
        refine lv_iload_n hx hb d_NET_addMove_48 rfl (lv_at hl 4 rfl) ?_
        refine xw_istN hx hb hK hP hD hS 2 0 rfl rfl (by omega) (by decide) d_NET_addMove_49 (fun H locs hP hD hS => ?_)
        have hg_3 : ∀ j, (va_up gt9 (gb (fr + 1)) to9) j < 200 := xs_up_lt (fun j => by have h8 := hgt9 j; omega) (by omega)
        have ht5 : ∀ m, m < gb (fr + 1) → (va_up gt9 (gb (fr + 1)) to9) m = gt m := fun m h => by rw [xs_up_ne (by omega)]; exact ht1 m (by omega)
        have ht6 : (va_up gt9 (gb (fr + 1)) to9) (gb (fr + 1)) = to9 := by simp [va_up]
        have ht7 : ∀ m, gb (fr + 1) ≤ m → m < mv → (va_up gt9 (gb (fr + 1)) to9) (m + 1) = gt m := fun m h1 h2 => by rw [xs_up_ne (by omega)]; exact ht2 m (by omega) h2
        replace hP : va_P D vwCl [(h0, .inr (1, [.int (nI st), .int (nI mv), .ref q1, .ref q2])), (q1, .inl (cI, 201, .inl (xs_G gb))), (q2, .inl (cI, 600, .inl (xs_G (va_up gt9 (gb (fr + 1)) to9))))] H := hP
        replace hD : va_D A [(h0, .inr (1, [.int (nI st), .int (nI mv), .ref q1, .ref q2])), (q1, .inl (cI, 201, .inl (xs_G gb))), (q2, .inl (cI, 600, .inl (xs_G (va_up gt9 (gb (fr + 1)) to9))))] := hD
        generalize va_up gt9 (gb (fr + 1)) to9 = g_2 at hP hD hg_3 ht5 ht6 ht7
        replace hP : va_P D vwCl [(h0, .inr (1, [.int (nI st), .int (nI mv), .ref q1, .ref q2])), (q1, .inl (cI, 201, .inl (xs_G gb))), (q2, .inl (cI, 600, .inl (xs_G g_2)))] H := hP
        replace hD : va_D A [(h0, .inr (1, [.int (nI st), .int (nI mv), .ref q1, .ref q2])), (q1, .inl (cI, 201, .inl (xs_G gb))), (q2, .inl (cI, 600, .inl (xs_G g_2)))] := hD
        refine lv_iload_n hx hb d_NET_addMove_50 rfl (lv_at hl 3 rfl) ?_
        refine lv_iconst (v := nI 1) hx hb d_NET_addMove_51 (by decide +kernel) ?_
        refine lv_iadd hx hb d_NET_addMove_52 ?_
        refine xw_top (nI (fr + 1)) (nI_add _ _) ?_
        refine lv_istore (lv' := [(4, .int (nI (fr + 1))), (3, .int (nI (gb (fr + 1)))), (0, .ref h0), (1, .int (nI fr)), (2, .int (nI to9))]) hx hb d_NET_addMove_53 hl (by decide) rfl (fun ls hl => ?_)
        refine W.widen (k := 0) (n := 0) (Nat.le_of_ble_eq_true rfl) (Nat.le_of_ble_eq_true rfl) ?_
        have lp_55 : ∀ (fu : Nat) (i : Nat) (gb9 : Nat → Nat) (H : Heap) (locs : List Loc) (ls : Array Slot), (i + fu = 201) → (fr < i) → (∀ j, gb9 j < mv + 2) → (∀ j, i ≤ j → gb9 j < mv + 1) → (∀ j, j ≤ fr → gb9 j = gb j) → (∀ j, fr < j → j < i → gb9 j = gb j + 1) → (∀ j, i ≤ j → gb9 j = gb j) → va_P D vwCl [(h0, .inr (1, [.int (nI st), .int (nI mv), .ref q1, .ref q2])), (q1, .inl (cI, 201, .inl (xs_G gb9))), (q2, .inl (cI, 600, .inl (xs_G g_2)))] H → va_D A [(h0, .inr (1, [.int (nI st), .int (nI mv), .ref q1, .ref q2])), (q1, .inl (cI, 201, .inl (xs_G gb9))), (q2, .inl (cI, 600, .inl (xs_G g_2)))] → va_S A s.heap H locs → lv_has ls 5 [(4, .int (nI i)), (3, .int (nI (gb (fr + 1)))), (0, .ref h0), (1, .int (nI fr)), (2, .int (nI to9))] → W p l e (headSpec w_NET_addMove ({ frames := 0, cells := 0, slots := 0, locals := 0  } : Room)).room s m #[.ref h0, .int (nI fr), .int (nI to9)] below meth c H locs 0 0 (xZ (σ := (Nat → Nat) × (Nat → Nat)) below #[.ref h0, .int (nI fr), .int (nI to9)] s D vwCl [(h0, .inr (1, [.int (nI st), .int (nI mv), .ref q1, .ref q2])), (q1, .inl (cI, 201, .inl (xs_G gb))), (q2, .inl (cI, 600, .inl (xs_G gt)))] s.heap.size ({ frames := 0, cells := 0, slots := 0, locals := 0  } : Room).cells ({ frames := 0, cells := 0, slots := 0, locals := 0  } : Room).slots (fun (gb1, gt1) => (∀ j, gb1 j < mv + 2) ∧ (∀ j, gt1 j < 200) ∧ (cx_mv fr to9 mv gb gb1 gt gt1)) (fun (gb1, gt1) => none) (fun (gb1, gt1) => [(h0, .inr (1, [.int (nI st), .int (nI (mv + 1)), .ref q1, .ref q2])), (q1, .inl (cI, 201, .inl (xs_G gb1))), (q2, .inl (cI, 600, .inl (xs_G gt1)))])) (F0 m 55 ls []) := by
          intro fu
          induction fu with
          | zero =>
            intro i gb9 H locs ls hi hif hgb9 hq hb1 hb2 hb3 hP hD hS hl
            refine lv_iload hx hb d_NET_addMove_55 (lv_at hl 0 rfl) ?_
            refine lv_sipush (v := nI 200) hx hb d_NET_addMove_57 (by decide +kernel) ?_
            refine xw_icmp_gt (tgt := 80) hx hb d_NET_addMove_60 (by decide) (by omega) (by omega) (fun c_60 => ?_) (fun c_60 => ?_)
            · refine lv_aload_n hx hb d_NET_addMove_80 rfl (lv_at hl 2 rfl) ?_
              refine lv_dup hx hb d_NET_addMove_81 rfl ?_
              refine va_get (D := D) (a := h0) (fs := [.int (nI st), .int (nI mv), .ref q1, .ref q2]) (ci := 1) (v := .int (nI mv)) (C := R_NET) (T := T_NET) (N := 4) hx hb hU iw_NET hown hK hP 0 rfl rfl 1 (by decide) (hU _ uw_48) (fun _ h9 => h9) rfl d_NET_addMove_82 ?_
              refine lv_iconst (v := nI 1) hx hb d_NET_addMove_85 (by decide +kernel) ?_
              refine lv_iadd hx hb d_NET_addMove_86 ?_
              refine xw_top (nI (mv + 1)) (nI_add _ _) ?_
              refine va_put (D := D) (ci := 1) (v := .int (nI (mv + 1))) (ty := .int) (C := R_NET) (T := T_NET) (N := 4) hx hb hU iw_NET ty_NET ty_NET_ok nm_NET hown hK hP hD hS 0 rfl rfl 1 (by decide) (hU _ uw_48) (fun _ h9 => h9) rfl (by decide +kernel) (by first | rfl | decide +kernel) (by first | rfl | decide +kernel) (Nat.le_of_ble_eq_true rfl) d_NET_addMove_87 (fun H locs hP hD hS => ?_)
              replace hP : va_P D vwCl [(h0, .inr (1, [.int (nI st), .int (nI (mv + 1)), .ref q1, .ref q2])), (q1, .inl (cI, 201, .inl (xs_G gb9))), (q2, .inl (cI, 600, .inl (xs_G g_2)))] H := hP
              replace hD : va_D A [(h0, .inr (1, [.int (nI st), .int (nI (mv + 1)), .ref q1, .ref q2])), (q1, .inl (cI, 201, .inl (xs_G gb9))), (q2, .inl (cI, 600, .inl (xs_G g_2)))] := hD
              have hP9 := xs_P_sub (w := [(h0, .inr (1, [.int (nI st), .int (nI (mv + 1)), .ref q1, .ref q2])), (q1, .inl (cI, 201, .inl (xs_G gb9))), (q2, .inl (cI, 600, .inl (xs_G g_2)))]) hP [0, 1, 2] rfl
              have hD9 := hD.sub (ws' := [(h0, .inr (1, [.int (nI st), .int (nI (mv + 1)), .ref q1, .ref q2])), (q1, .inl (cI, 201, .inl (xs_G gb9))), (q2, .inl (cI, 600, .inl (xs_G g_2)))]) [0, 1, 2] (by decide +kernel) rfl
              exact xw_vret (gb9, g_2) hx hb hr hlocks d_NET_addMove_90 (rfl) (⟨hgb9, hg_3, ⟨hb1, fun s h1 h2 => hb2 s h1 (by omega), ht5, ht6, ht7⟩⟩) hAe hP9 hD9 hS (Nat.le_of_ble_eq_true rfl) (Nat.le_of_ble_eq_true rfl)
            · exact (by omega : False).elim
          | succ fu ih =>
            intro i gb9 H locs ls hi hif hgb9 hq hb1 hb2 hb3 hP hD hS hl
            refine lv_iload hx hb d_NET_addMove_55 (lv_at hl 0 rfl) ?_
            refine lv_sipush (v := nI 200) hx hb d_NET_addMove_57 (by decide +kernel) ?_
            refine xw_icmp_gt (tgt := 80) hx hb d_NET_addMove_60 (by decide) (by omega) (by omega) (fun c_60 => ?_) (fun c_60 => ?_)
            · exact (by omega : False).elim
            · refine lv_aload_n hx hb d_NET_addMove_63 rfl (lv_at hl 2 rfl) ?_
              refine va_get (D := D) (a := h0) (fs := [.int (nI st), .int (nI mv), .ref q1, .ref q2]) (ci := 1) (v := .ref q1) (C := R_NET) (T := T_NET) (N := 4) hx hb hU iw_NET hown hK hP 0 rfl rfl 2 (by decide) (hU _ uw_49) (fun _ h9 => h9) rfl d_NET_addMove_64 ?_
              refine lv_iload hx hb d_NET_addMove_67 (lv_at hl 0 rfl) ?_
              refine lv_dup2_11 hx hb d_NET_addMove_69 rfl rfl ?_
              refine xw_ildN hx hb hK hP 1 0 rfl rfl (by omega) (by decide) d_NET_addMove_70 ?_
              have hv_4 := hgb9 i
              have hw_70 := hq i (Nat.le_refl i)
              refine lv_iconst (v := nI 1) hx hb d_NET_addMove_71 (by decide +kernel) ?_
              refine lv_iadd hx hb d_NET_addMove_72 ?_
              refine xw_top (nI (gb9 i + 1)) (nI_add _ _) ?_
              refine xw_istN hx hb hK hP hD hS 1 0 rfl rfl (by omega) (by decide) d_NET_addMove_73 (fun H locs hP hD hS => ?_)
              have hg_6 : ∀ j, (va_up gb9 i (gb9 i + 1)) j < mv + 2 := xs_up_lt (fun j => by have h8 := hgb9 j; omega) (by omega)
              have hq2 : ∀ j, i + 1 ≤ j → (va_up gb9 i (gb9 i + 1)) j < mv + 1 := fun j hj => by rw [xs_up_ne (by omega)]; exact hq j (by omega)
              have hb4 : ∀ j, j ≤ fr → (va_up gb9 i (gb9 i + 1)) j = gb j := fun j hj => by rw [xs_up_ne (by omega)]; exact hb1 j hj
              have hb5 : ∀ j, fr < j → j < i + 1 → (va_up gb9 i (gb9 i + 1)) j = gb j + 1 := fun j h1 h2 => if h9 : j = i then by rw [h9]; simp only [va_up, if_true]; rw [hb3 i (Nat.le_refl i)] else by rw [xs_up_ne h9]; exact hb2 j h1 (by omega)
              have hb6 : ∀ j, i + 1 ≤ j → (va_up gb9 i (gb9 i + 1)) j = gb j := fun j hj => by rw [xs_up_ne (by omega)]; exact hb3 j (by omega)
              replace hP : va_P D vwCl [(h0, .inr (1, [.int (nI st), .int (nI mv), .ref q1, .ref q2])), (q1, .inl (cI, 201, .inl (xs_G (va_up gb9 i (gb9 i + 1))))), (q2, .inl (cI, 600, .inl (xs_G g_2)))] H := hP
              replace hD : va_D A [(h0, .inr (1, [.int (nI st), .int (nI mv), .ref q1, .ref q2])), (q1, .inl (cI, 201, .inl (xs_G (va_up gb9 i (gb9 i + 1))))), (q2, .inl (cI, 600, .inl (xs_G g_2)))] := hD
              generalize va_up gb9 i (gb9 i + 1) = g_5 at hP hD hg_6 hq2 hb4 hb5 hb6
              replace hP : va_P D vwCl [(h0, .inr (1, [.int (nI st), .int (nI mv), .ref q1, .ref q2])), (q1, .inl (cI, 201, .inl (xs_G g_5))), (q2, .inl (cI, 600, .inl (xs_G g_2)))] H := hP
              replace hD : va_D A [(h0, .inr (1, [.int (nI st), .int (nI mv), .ref q1, .ref q2])), (q1, .inl (cI, 201, .inl (xs_G g_5))), (q2, .inl (cI, 600, .inl (xs_G g_2)))] := hD
              refine lv_iinc (v := nI (i + 1)) (lv' := [(4, .int (nI (i + 1))), (3, .int (nI (gb (fr + 1)))), (0, .ref h0), (1, .int (nI fr)), (2, .int (nI to9))]) hx hb d_NET_addMove_74 hl (k := 0) rfl (xs_inc i 1) (by decide) rfl (fun ls hl => ?_)
              refine lv_goto (tgt := 55) hx hb d_NET_addMove_77 (by decide) ?_
              exact ih (i + 1) g_5 _ _ _ (by omega) (by omega) (fun j => by have h8 := hg_6 j; omega) (hq2) (hb4) (hb5) (hb6) (xs_P_sub hP [0, 1, 2] rfl) (hD.sub [0, 1, 2] (by decide +kernel) rfl) hS (lv_sub hl [0, 1, 2, 3, 4] rfl)
        exact lp_55 (200 - fr) (fr + 1) gb _ _ _ (by omega) (by omega) (fun j => by have h8 := hgb j; omega) (fun j _ => hgb j) (fun _ _ => rfl) (fun j h1 h2 => absurd h2 (by omega)) (fun _ _ => rfl) hP hD hS (lv_sub hl [0, 1, 2, 3, 4] rfl)
      · exact (by omega : False).elim
    | succ fu ih =>
      intro k gt9 H locs ls hm hm2 hgt9 ht1 ht2 hP hD hS hl
      refine lv_iload hx hb d_NET_addMove_15 (lv_at hl 0 rfl) ?_
      refine lv_iload_n hx hb d_NET_addMove_17 rfl (lv_at hl 1 rfl) ?_
      refine xw_icmp_le (tgt := 43) hx hb d_NET_addMove_18 (by decide) (by omega) (by omega) (fun c_18 => ?_) (fun c_18 => ?_)
      · exact (by omega : False).elim
      · refine lv_aload_n hx hb d_NET_addMove_21 rfl (lv_at hl 2 rfl) ?_
        refine va_get (D := D) (a := h0) (fs := [.int (nI st), .int (nI mv), .ref q1, .ref q2]) (ci := 1) (v := .ref q2) (C := R_NET) (T := T_NET) (N := 4) hx hb hU iw_NET hown hK hP 0 rfl rfl 3 (by decide) (hU _ uw_52) (fun _ h9 => h9) rfl d_NET_addMove_22 ?_
        refine lv_iload hx hb d_NET_addMove_25 (lv_at hl 0 rfl) ?_
        refine lv_aload_n hx hb d_NET_addMove_27 rfl (lv_at hl 2 rfl) ?_
        refine va_get (D := D) (a := h0) (fs := [.int (nI st), .int (nI mv), .ref q1, .ref q2]) (ci := 1) (v := .ref q2) (C := R_NET) (T := T_NET) (N := 4) hx hb hU iw_NET hown hK hP 0 rfl rfl 3 (by decide) (hU _ uw_52) (fun _ h9 => h9) rfl d_NET_addMove_28 ?_
        refine lv_iload hx hb d_NET_addMove_31 (lv_at hl 0 rfl) ?_
        refine lv_iconst (v := nI 1) hx hb d_NET_addMove_33 (by decide +kernel) ?_
        refine lv_isub hx hb d_NET_addMove_34 ?_
        refine xw_top (nI (k - 1)) (pk_sub (by omega)) ?_
        refine xw_ildN hx hb hK hP 2 0 rfl rfl (by omega) (by decide) d_NET_addMove_35 ?_
        have hv_7 := hgt9 (k - 1)
        refine xw_istN hx hb hK hP hD hS 2 0 rfl rfl (by omega) (by decide) d_NET_addMove_36 (fun H locs hP hD hS => ?_)
        have hg_9 : ∀ j, (va_up gt9 k (gt9 (k - 1))) j < 200 := xs_up_lt (fun j => by have h8 := hgt9 j; omega) (by omega)
        have ht3 : ∀ m, m < k - 1 → (va_up gt9 k (gt9 (k - 1))) m = gt m := fun m h => by rw [xs_up_ne (by omega)]; exact ht1 m (by omega)
        have ht4 : ∀ m, k - 1 ≤ m → m < mv → (va_up gt9 k (gt9 (k - 1))) (m + 1) = gt m := fun m h1 h2 => if h9 : m = k - 1 then by rw [h9, show k - 1 + 1 = k by omega]; simp only [va_up, if_true]; exact ht1 (k - 1) (by omega) else by rw [xs_up_ne (by omega)]; exact ht2 m (by omega) h2
        replace hP : va_P D vwCl [(h0, .inr (1, [.int (nI st), .int (nI mv), .ref q1, .ref q2])), (q1, .inl (cI, 201, .inl (xs_G gb))), (q2, .inl (cI, 600, .inl (xs_G (va_up gt9 k (gt9 (k - 1))))))] H := hP
        replace hD : va_D A [(h0, .inr (1, [.int (nI st), .int (nI mv), .ref q1, .ref q2])), (q1, .inl (cI, 201, .inl (xs_G gb))), (q2, .inl (cI, 600, .inl (xs_G (va_up gt9 k (gt9 (k - 1))))))] := hD
        generalize va_up gt9 k (gt9 (k - 1)) = g_8 at hP hD hg_9 ht3 ht4
        replace hP : va_P D vwCl [(h0, .inr (1, [.int (nI st), .int (nI mv), .ref q1, .ref q2])), (q1, .inl (cI, 201, .inl (xs_G gb))), (q2, .inl (cI, 600, .inl (xs_G g_8)))] H := hP
        replace hD : va_D A [(h0, .inr (1, [.int (nI st), .int (nI mv), .ref q1, .ref q2])), (q1, .inl (cI, 201, .inl (xs_G gb))), (q2, .inl (cI, 600, .inl (xs_G g_8)))] := hD
        refine lv_iinc (v := nI (k - 1)) (lv' := [(4, .int (nI (k - 1))), (3, .int (nI (gb (fr + 1)))), (0, .ref h0), (1, .int (nI fr)), (2, .int (nI to9))]) hx hb d_NET_addMove_37 hl (k := 0) rfl (xs_dec (by omega)) (by decide) rfl (fun ls hl => ?_)
        refine lv_goto (tgt := 15) hx hb d_NET_addMove_40 (by decide) ?_
        exact ih (k - 1) g_8 _ _ _ (by omega) (by omega) (fun j => by have h8 := hg_9 j; omega) (ht3) (ht4) (xs_P_sub hP [0, 1, 2] rfl) (hD.sub [0, 1, 2] (by decide +kernel) rfl) hS (lv_sub hl [0, 1, 2, 3, 4] rfl)
  exact lp_15 (mv - gb (fr + 1)) mv gt _ _ _ (by omega) (by omega) (fun j => by have h8 := hgt j; omega) (fun _ _ => rfl) (fun m h1 h2 => absurd h2 (by omega)) hP hD hS (lv_sub hl [0, 1, 2, 3, 4] rfl)
