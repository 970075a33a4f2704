set_option maxHeartbeats 4000000 in
set_option maxRecDepth 100000 in
/-- stateAt: some number -/
theorem n_WA_stateAt (l : Launch) (D : va_G) (cI cB cL cR : ClassId) (sw : Nat) (wl : Nat) (f_wl : Nat → Int32) (sn : Nat) (st : Nat) (mv : Nat) (nb : Nat) (nt : Nat) (g_nb : Nat → Nat) (g_nt : Nat → Nat) (sv : Nat) (lo : Nat) (lr : Nat) (lb : Nat) (lv : Nat) (lf : Nat) (f_lo : Nat → Int32) (g_lr : Nat → Nat) (g_lb : Nat → Nat) (sx : Nat) (kg : Nat) (k : Nat) (hst : st ≤ 200) (hmv : mv ≤ 600) (hlv : lv ≤ 200) (hsx : sx < 200) (hlk : f_lo sx = nI kg) (hkg : kg ≤ 200) (hk : k ≤ 200) (hg_nb : ∀ j, g_nb j < mv + 1) (hg_nt : ∀ j, g_nt j < 200) (hg_lr : ∀ j, g_lr j < 200) (hg_lb : ∀ j, g_lb j < 201) : xG (σ := Int32 × (Nat → Int32)) l y_WA_stateAt w_WA_stateAt ({ frames := 2, cells := 0, slots := 0, locals := 52  } : Room) D vwCl (xs_tys cI cB cL cR) [.ref sw, .ref sn, .ref sv, .int (nI sx), .int (nI k)] [(sw, .inr (8, [.ref wl])), (wl, .inl (cB, 200, .inl f_wl)), (sn, .inr (1, [.int (nI st), .int (nI mv), .ref nb, .ref nt])), (nb, .inl (cI, 201, .inl (xs_G g_nb))), (nt, .inl (cI, 600, .inl (xs_G g_nt))), (sv, .inr (7, [.ref lo, .ref lr, .ref lb, .int (nI lv), .ref lf])), (lo, .inl (cI, 200, .inl f_lo)), (lr, .inl (cI, 200, .inl (xs_G g_lr))), (lb, .inl (cI, 201, .inl (xs_G g_lb)))] (fun (v, f_wl1) => True) (fun (v, f_wl1) => some (.int v)) (fun (v, f_wl1) => [(sw, .inr (8, [.ref wl])), (wl, .inl (cB, 200, .inl f_wl1)), (sn, .inr (1, [.int (nI st), .int (nI mv), .ref nb, .ref nt])), (nb, .inl (cI, 201, .inl (xs_G g_nb))), (nt, .inl (cI, 600, .inl (xs_G g_nt))), (sv, .inr (7, [.ref lo, .ref lr, .ref lb, .int (nI lv), .ref lf])), (lo, .inl (cI, 200, .inl f_lo)), (lr, .inl (cI, 200, .inl (xs_G g_lr))), (lb, .inl (cI, 201, .inl (xs_G g_lb)))]) := by
  refine xG.of b_WA_stateAt 7 (some .int) (by decide +kernel) rfl (Nat.le_of_ble_eq_true rfl) ?_
  intro p e s m below meth c A ls hAe C0 hP hD hS hl
  obtain ⟨hx, hb, hr, hml, hown, hlocks, hts, hnm, hN, hK, hA⟩ := C0
  have hU : ∀ w ∈ xU, w.before #[.ref sw, .ref sn, .ref sv, .int (nI sx), .int (nI k)] s = true := fun w h => hts w (List.mem_cons_of_mem _ h)
  have hl : lv_has ls 7 [(0, .ref sw), (1, .ref sn), (2, .ref sv), (3, .int (nI sx)), (4, .int (nI k))] := hl
  refine lv_aload_n hx hb d_WA_stateAt_0 rfl (lv_at hl 0 rfl) ?_
  refine lv_aload_n hx hb d_WA_stateAt_1 rfl (lv_at hl 1 rfl) ?_
  refine lv_aload_n hx hb d_WA_stateAt_2 rfl (lv_at hl 2 rfl) ?_
  refine lv_iload_n hx hb d_WA_stateAt_3 rfl (lv_at hl 3 rfl) ?_
  refine xw_callV (C := R_WA) (wr := []) [.ref sn, .ref sv, .int (nI sx)] (n_WA_mark l D cI cB cL cR sw wl f_wl sn st mv nb nt g_nb g_nt sv lo lr lb lv lf f_lo g_lr g_lb sx kg (by omega) (by omega) (by omega) (by omega) (hlk) (by omega) (hg_nb) (hg_nt) (hg_lr) (hg_lb)) ⟨hx, hb, hml, hown, hU⟩ (cwV 3 hU (xs_goodV uw_674 uw_676 uw_m10 uw_10 uw_677) rfl rfl rfl (by decide +kernel) ⟨Nat.le_of_ble_eq_true rfl, Nat.le_of_ble_eq_true rfl⟩) 0 rfl rfl rfl rfl hl.1 rfl (Nat.le_of_ble_eq_true rfl) d_WA_stateAt_4 ⟨Nat.le_of_ble_eq_true rfl, Nat.le_of_ble_eq_true rfl⟩ [0, 1, 2, 3, 4, 5, 6, 7, 8] [] rfl rfl (by decide +kernel) (by decide +kernel) (by decide +kernel) hN hK hP hD hS hA (fun u H locs hf hP hD hS => ?_)
  obtain ⟨f_wl1_1, rfl⟩ : ∃ z, z = u := ⟨_, rfl⟩
  replace hP : va_P D vwCl [(sw, .inr (8, [.ref wl])), (wl, .inl (cB, 200, .inl f_wl1_1)), (sn, .inr (1, [.int (nI st), .int (nI mv), .ref nb, .ref nt])), (nb, .inl (cI, 201, .inl (xs_G g_nb))), (nt, .inl (cI, 600, .inl (xs_G g_nt))), (sv, .inr (7, [.ref lo, .ref lr, .ref lb, .int (nI lv), .ref lf])), (lo, .inl (cI, 200, .inl f_lo)), (lr, .inl (cI, 200, .inl (xs_G g_lr))), (lb, .inl (cI, 201, .inl (xs_G g_lb)))] H := hP
  replace hD : va_D A [(sw, .inr (8, [.ref wl])), (wl, .inl (cB, 200, .inl f_wl1_1)), (sn, .inr (1, [.int (nI st), .int (nI mv), .ref nb, .ref nt])), (nb, .inl (cI, 201, .inl (xs_G g_nb))), (nt, .inl (cI, 600, .inl (xs_G g_nt))), (sv, .inr (7, [.ref lo, .ref lr, .ref lb, .int (nI lv), .ref lf])), (lo, .inl (cI, 200, .inl f_lo)), (lr, .inl (cI, 200, .inl (xs_G g_lr))), (lb, .inl (cI, 201, .inl (xs_G g_lb)))] := hD
  refine W.widen (k := 0) (n := 0) (Nat.le_of_ble_eq_true rfl) (Nat.le_of_ble_eq_true rfl) ?_
  refine W.eq (g2 := F0 m 7 ls []) rfl ?_
  refine lv_iconst (v := nI 0) hx hb d_WA_stateAt_7 (by decide +kernel) ?_
  refine lv_istore (lv' := [(5, .int (nI 0)), (0, .ref sw), (1, .ref sn), (2, .ref sv), (3, .int (nI sx)), (4, .int (nI k))]) hx hb d_WA_stateAt_8 hl (by decide) rfl (fun ls hl => ?_)
  refine lv_iconst (v := nI 0) hx hb d_WA_stateAt_10 (by decide +kernel) ?_
  refine lv_istore (lv' := [(6, .int (nI 0)), (5, .int (nI 0)), (0, .ref sw), (1, .ref sn), (2, .ref sv), (3, .int (nI sx)), (4, .int (nI k))]) hx hb d_WA_stateAt_11 hl (by decide) rfl (fun ls hl => ?_)
  refine W.widen (k := 0) (n := 0) (Nat.le_of_ble_eq_true rfl) (Nat.le_of_ble_eq_true rfl) ?_
  have lp_13 : ∀ (fu : Nat) (i : Nat) (s9 : Int32) (H : Heap) (locs : List Loc) (ls : Array Slot), (i + fu = k) → (s9 = (-1) ∨ ∃ j, j < 200 ∧ s9 = nI j) → va_P D vwCl [(sw, .inr (8, [.ref wl])), (wl, .inl (cB, 200, .inl f_wl1_1)), (sn, .inr (1, [.int (nI st), .int (nI mv), .ref nb, .ref nt])), (nb, .inl (cI, 201, .inl (xs_G g_nb))), (nt, .inl (cI, 600, .inl (xs_G g_nt))), (sv, .inr (7, [.ref lo, .ref lr, .ref lb, .int (nI lv), .ref lf])), (lo, .inl (cI, 200, .inl f_lo)), (lr, .inl (cI, 200, .inl (xs_G g_lr))), (lb, .inl (cI, 201, .inl (xs_G g_lb)))] H → va_D A [(sw, .inr (8, [.ref wl])), (wl, .inl (cB, 200, .inl f_wl1_1)), (sn, .inr (1, [.int (nI st), .int (nI mv), .ref nb, .ref nt])), (nb, .inl (cI, 201, .inl (xs_G g_nb))), (nt, .inl (cI, 600, .inl (xs_G g_nt))), (sv, .inr (7, [.ref lo, .ref lr, .ref lb, .int (nI lv), .ref lf])), (lo, .inl (cI, 200, .inl f_lo)), (lr, .inl (cI, 200, .inl (xs_G g_lr))), (lb, .inl (cI, 201, .inl (xs_G g_lb)))] → va_S A s.heap H locs → lv_has ls 7 [(6, .int (nI i)), (5, .int s9), (0, .ref sw), (1, .ref sn), (2, .ref sv), (3, .int (nI sx)), (4, .int (nI k))] → W p l e (headSpec w_WA_stateAt ({ frames := 2, cells := 0, slots := 0, locals := 52  } : Room)).room s m #[.ref sw, .ref sn, .ref sv, .int (nI sx), .int (nI k)] below meth c H locs 0 0 (xZ (σ := Int32 × (Nat → Int32)) below #[.ref sw, .ref sn, .ref sv, .int (nI sx), .int (nI k)] s D vwCl [(sw, .inr (8, [.ref wl])), (wl, .inl (cB, 200, .inl f_wl)), (sn, .inr (1, [.int (nI st), .int (nI mv), .ref nb, .ref nt])), (nb, .inl (cI, 201, .inl (xs_G g_nb))), (nt, .inl (cI, 600, .inl (xs_G g_nt))), (sv, .inr (7, [.ref lo, .ref lr, .ref lb, .int (nI lv), .ref lf])), (lo, .inl (cI, 200, .inl f_lo)), (lr, .inl (cI, 200, .inl (xs_G g_lr))), (lb, .inl (cI, 201, .inl (xs_G g_lb)))] s.heap.size ({ frames := 2, cells := 0, slots := 0, locals := 52  } : Room).cells ({ frames := 2, cells := 0, slots := 0, locals := 52  } : Room).slots (fun (v, f_wl1) => True) (fun (v, f_wl1) => some (.int v)) (fun (v, f_wl1) => [(sw, .inr (8, [.ref wl])), (wl, .inl (cB, 200, .inl f_wl1)), (sn, .inr (1, [.int (nI st), .int (nI mv), .ref nb, .ref nt])), (nb, .inl (cI, 201, .inl (xs_G g_nb))), (nt, .inl (cI, 600, .inl (xs_G g_nt))), (sv, .inr (7, [.ref lo, .ref lr, .ref lb, .int (nI lv), .ref lf])), (lo, .inl (cI, 200, .inl f_lo)), (lr, .inl (cI, 200, .inl (xs_G g_lr))), (lb, .inl (cI, 201, .inl (xs_G g_lb)))])) (F0 m 13 ls []) := by
    intro fu
    induction fu with
    | zero =>
      intro i s9 H locs ls hi hs9 hP hD hS hl
      refine lv_iload hx hb d_WA_stateAt_13 (lv_at hl 0 rfl) ?_
      refine lv_iload hx hb d_WA_stateAt_15 (lv_at hl 6 rfl) ?_
      refine xw_icmp_ge (tgt := 42) hx hb d_WA_stateAt_17 (by decide) (by omega) (by omega) (fun c_17 => ?_) (fun c_17 => ?_)
      · refine lv_iload hx hb d_WA_stateAt_42 (lv_at hl 1 rfl) ?_
        have hP9 := xs_P_sub (w := [(sw, .inr (8, [.ref wl])), (wl, .inl (cB, 200, .inl f_wl1_1)), (sn, .inr (1, [.int (nI st), .int (nI mv), .ref nb, .ref nt])), (nb, .inl (cI, 201, .inl (xs_G g_nb))), (nt, .inl (cI, 600, .inl (xs_G g_nt))), (sv, .inr (7, [.ref lo, .ref lr, .ref lb, .int (nI lv), .ref lf])), (lo, .inl (cI, 200, .inl f_lo)), (lr, .inl (cI, 200, .inl (xs_G g_lr))), (lb, .inl (cI, 201, .inl (xs_G g_lb)))]) hP [0, 1, 2, 3, 4, 5, 6, 7, 8] rfl
        have hD9 := hD.sub (ws' := [(sw, .inr (8, [.ref wl])), (wl, .inl (cB, 200, .inl f_wl1_1)), (sn, .inr (1, [.int (nI st), .int (nI mv), .ref nb, .ref nt])), (nb, .inl (cI, 201, .inl (xs_G g_nb))), (nt, .inl (cI, 600, .inl (xs_G g_nt))), (sv, .inr (7, [.ref lo, .ref lr, .ref lb, .int (nI lv), .ref lf])), (lo, .inl (cI, 200, .inl f_lo)), (lr, .inl (cI, 200, .inl (xs_G g_lr))), (lb, .inl (cI, 201, .inl (xs_G g_lb)))]) [0, 1, 2, 3, 4, 5, 6, 7, 8] (by decide +kernel) rfl
        exact xw_iret (s9, f_wl1_1) hx hb hr hlocks d_WA_stateAt_44 (rfl) (trivial) hAe hP9 hD9 hS (Nat.le_of_ble_eq_true rfl) (Nat.le_of_ble_eq_true rfl)
      · exact (by omega : False).elim
    | succ fu ih =>
      intro i s9 H locs ls hi hs9 hP hD hS hl
      refine lv_iload hx hb d_WA_stateAt_13 (lv_at hl 0 rfl) ?_
      refine lv_iload hx hb d_WA_stateAt_15 (lv_at hl 6 rfl) ?_
      refine xw_icmp_ge (tgt := 42) hx hb d_WA_stateAt_17 (by decide) (by omega) (by omega) (fun c_17 => ?_) (fun c_17 => ?_)
      · exact (by omega : False).elim
      · refine lv_iload hx hb d_WA_stateAt_20 (lv_at hl 1 rfl) ?_
        refine lv_iconst (v := (-1)) hx hb d_WA_stateAt_22 (by decide +kernel) ?_
        refine lv_icmp_eq (tgt := 42) hx hb d_WA_stateAt_23 (by decide) (fun c_23 => ?_) (fun c_23 => ?_)
        · refine lv_iload hx hb d_WA_stateAt_42 (lv_at hl 1 rfl) ?_
          have hP9 := xs_P_sub (w := [(sw, .inr (8, [.ref wl])), (wl, .inl (cB, 200, .inl f_wl1_1)), (sn, .inr (1, [.int (nI st), .int (nI mv), .ref nb, .ref nt])), (nb, .inl (cI, 201, .inl (xs_G g_nb))), (nt, .inl (cI, 600, .inl (xs_G g_nt))), (sv, .inr (7, [.ref lo, .ref lr, .ref lb, .int (nI lv), .ref lf])), (lo, .inl (cI, 200, .inl f_lo)), (lr, .inl (cI, 200, .inl (xs_G g_lr))), (lb, .inl (cI, 201, .inl (xs_G g_lb)))]) hP [0, 1, 2, 3, 4, 5, 6, 7, 8] rfl
          have hD9 := hD.sub (ws' := [(sw, .inr (8, [.ref wl])), (wl, .inl (cB, 200, .inl f_wl1_1)), (sn, .inr (1, [.int (nI st), .int (nI mv), .ref nb, .ref nt])), (nb, .inl (cI, 201, .inl (xs_G g_nb))), (nt, .inl (cI, 600, .inl (xs_G g_nt))), (sv, .inr (7, [.ref lo, .ref lr, .ref lb, .int (nI lv), .ref lf])), (lo, .inl (cI, 200, .inl f_lo)), (lr, .inl (cI, 200, .inl (xs_G g_lr))), (lb, .inl (cI, 201, .inl (xs_G g_lb)))]) [0, 1, 2, 3, 4, 5, 6, 7, 8] (by decide +kernel) rfl
          exact xw_iret (s9, f_wl1_1) hx hb hr hlocks d_WA_stateAt_44 (rfl) (trivial) hAe hP9 hD9 hS (Nat.le_of_ble_eq_true rfl) (Nat.le_of_ble_eq_true rfl)
        · obtain ⟨j9, hj9, ej9⟩ := hs9.resolve_left c_23
          refine lv_aload_n hx hb d_WA_stateAt_26 rfl (lv_at hl 2 rfl) ?_
          refine lv_aload_n hx hb d_WA_stateAt_27 rfl (lv_at hl 3 rfl) ?_
          refine lv_aload_n hx hb d_WA_stateAt_28 rfl (lv_at hl 4 rfl) ?_
          refine lv_iload hx hb d_WA_stateAt_29 (lv_at hl 1 rfl) ?_
          refine xw_top (nI j9) (ej9) ?_
          refine xw_callV (C := R_WA) (wr := [(lr, .inl (cI, 200, .inl (xs_G g_lr))), (lb, .inl (cI, 201, .inl (xs_G g_lb)))]) [.ref sn, .ref sv, .int (nI j9)] (n_WA_lowest l D cI cB cL cR sw wl f_wl1_1 sn st mv nb nt g_nb g_nt sv lo lr lb lv lf f_lo j9 (by omega) (by omega) (by omega) (by omega) (hg_nb) (hg_nt)) ⟨hx, hb, hml, hown, hU⟩ (cwV 3 hU (xs_goodV uw_679 uw_681 uw_m11 uw_10 uw_682) rfl rfl rfl (by decide +kernel) ⟨Nat.le_of_ble_eq_true rfl, Nat.le_of_ble_eq_true rfl⟩) 0 rfl rfl rfl rfl hl.1 rfl (Nat.le_of_ble_eq_true rfl) d_WA_stateAt_31 ⟨Nat.le_of_ble_eq_true rfl, Nat.le_of_ble_eq_true rfl⟩ [0, 1, 2, 3, 4, 5, 6] [7, 8] rfl rfl (by decide +kernel) (by decide +kernel) (by decide +kernel) hN hK hP hD hS hA (fun u H locs hf hP hD hS => ?_)
          obtain ⟨v_2, rfl⟩ : ∃ z, z = u := ⟨_, rfl⟩
          have hf_31 : (v_2 = (-1) ∨ ∃ j, j < 200 ∧ v_2 = nI j) := hf
          have hv_3 := hf_31
          replace hP : va_P D vwCl [(lr, .inl (cI, 200, .inl (xs_G g_lr))), (lb, .inl (cI, 201, .inl (xs_G g_lb))), (sw, .inr (8, [.ref wl])), (wl, .inl (cB, 200, .inl f_wl1_1)), (sn, .inr (1, [.int (nI st), .int (nI mv), .ref nb, .ref nt])), (nb, .inl (cI, 201, .inl (xs_G g_nb))), (nt, .inl (cI, 600, .inl (xs_G g_nt))), (sv, .inr (7, [.ref lo, .ref lr, .ref lb, .int (nI lv), .ref lf])), (lo, .inl (cI, 200, .inl f_lo))] H := hP
          replace hD : va_D A [(lr, .inl (cI, 200, .inl (xs_G g_lr))), (lb, .inl (cI, 201, .inl (xs_G g_lb))), (sw, .inr (8, [.ref wl])), (wl, .inl (cB, 200, .inl f_wl1_1)), (sn, .inr (1, [.int (nI st), .int (nI mv), .ref nb, .ref nt])), (nb, .inl (cI, 201, .inl (xs_G g_nb))), (nt, .inl (cI, 600, .inl (xs_G g_nt))), (sv, .inr (7, [.ref lo, .ref lr, .ref lb, .int (nI lv), .ref lf])), (lo, .inl (cI, 200, .inl f_lo))] := hD
          refine W.widen (k := 0) (n := 0) (Nat.le_of_ble_eq_true rfl) (Nat.le_of_ble_eq_true rfl) ?_
          refine W.eq (g2 := F0 m 34 ls [.int v_2]) rfl ?_
          refine lv_istore (lv' := [(5, .int v_2), (6, .int (nI i)), (0, .ref sw), (1, .ref sn), (2, .ref sv), (3, .int (nI sx)), (4, .int (nI k))]) hx hb d_WA_stateAt_34 hl (by decide) rfl (fun ls hl => ?_)
          refine lv_iinc (v := nI (i + 1)) (lv' := [(6, .int (nI (i + 1))), (5, .int v_2), (0, .ref sw), (1, .ref sn), (2, .ref sv), (3, .int (nI sx)), (4, .int (nI k))]) hx hb d_WA_stateAt_36 hl (k := 1) rfl (xs_inc i 1) (by decide) rfl (fun ls hl => ?_)
          refine lv_goto (tgt := 13) hx hb d_WA_stateAt_39 (by decide) ?_
          exact ih (i + 1) v_2 _ _ _ (by omega) (hv_3) (xs_P_sub hP [2, 3, 4, 5, 6, 7, 8, 0, 1] rfl) (hD.sub [2, 3, 4, 5, 6, 7, 8, 0, 1] (by decide +kernel) rfl) hS (lv_sub hl [0, 1, 2, 3, 4, 5, 6] rfl)
  exact lp_13 (k) 0 (nI 0) _ _ _ (by omega) (Or.inr ⟨0, by decide, rfl⟩) hP hD hS (lv_sub hl [0, 1, 2, 3, 4, 5, 6] rfl)
