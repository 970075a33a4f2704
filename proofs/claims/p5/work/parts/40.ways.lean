set_option maxHeartbeats 4000000 in
set_option maxRecDepth 100000 in
/-- lowestBehind: -1 or a state -/
theorem n_WA_lowest (l : Launch) (D : va_G) (cI cB cL cR : ClassId) (sw : Nat) (wl : Nat) (f_wl : Nat → Int32) (sn : Nat) (st : Nat) (mv : Nat) (nb : Nat) (nt : Nat) (g_nb : Nat → Nat) (g_nt : Nat → Nat) (sv : Nat) (lo : Nat) (lr : Nat) (lb : Nat) (lv : Nat) (lf : Nat) (f_lo : Nat → Int32) (sx : Nat) (hst : st ≤ 200) (hmv : mv ≤ 600) (hlv : lv ≤ 200) (hsx : sx < 200) (hg_nb : ∀ j, g_nb j < mv + 1) (hg_nt : ∀ j, g_nt j < 200) : xG (σ := Int32) l y_WA_lowestBehind w_WA_lowestBehind ({ frames := 0, cells := 0, slots := 0, locals := 0  } : Room) D vwCl (xs_tys cI cB cL cR) [.ref sw, .ref sn, .ref sv, .int (nI sx)] [(sw, .inr (8, [.ref wl])), (wl, .inl (cB, 200, .inl f_wl)), (sn, .inr (1, [.int (nI st), .int (nI mv), .ref nb, .ref nt])), (nb, .inl (cI, 201, .inl (xs_G g_nb))), (nt, .inl (cI, 600, .inl (xs_G g_nt))), (sv, .inr (7, [.ref lo, .ref lr, .ref lb, .int (nI lv), .ref lf])), (lo, .inl (cI, 200, .inl f_lo))] (fun v => (v = (-1) ∨ ∃ j, j < 200 ∧ v = nI j)) (fun v => some (.int v)) (fun v => [(sw, .inr (8, [.ref wl])), (wl, .inl (cB, 200, .inl f_wl)), (sn, .inr (1, [.int (nI st), .int (nI mv), .ref nb, .ref nt])), (nb, .inl (cI, 201, .inl (xs_G g_nb))), (nt, .inl (cI, 600, .inl (xs_G g_nt))), (sv, .inr (7, [.ref lo, .ref lr, .ref lb, .int (nI lv), .ref lf])), (lo, .inl (cI, 200, .inl f_lo))]) := by
  refine xG.of b_WA_lowestBehind 8 (some .int) (by decide +kernel) rfl (Nat.le_of_ble_eq_true rfl) ?_
  intro p e s m below meth c A ls hAe C0 hP hD hS hl
  obtain ⟨hx, hb, hr, hml, hown, hlocks, hts, hnm, hN, hK, hA⟩ := C0
  have hU : ∀ w ∈ xU, w.before #[.ref sw, .ref sn, .ref sv, .int (nI sx)] s = true := fun w h => hts w (List.mem_cons_of_mem _ h)
  have hl : lv_has ls 8 [(0, .ref sw), (1, .ref sn), (2, .ref sv), (3, .int (nI sx))] := hl
  refine lv_iconst (v := (-1)) hx hb d_WA_lowestBehind_0 (by decide +kernel) ?_
  refine lv_istore (lv' := [(4, .int (-1)), (0, .ref sw), (1, .ref sn), (2, .ref sv), (3, .int (nI sx))]) hx hb d_WA_lowestBehind_1 hl (by decide) rfl (fun ls hl => ?_)
  refine lv_aload_n hx hb d_WA_lowestBehind_3 rfl (lv_at hl 2 rfl) ?_
  refine va_getN (D := D) (a := sn) (fs := [.int (nI st), .int (nI mv), .ref nb, .ref nt]) (ci := 1) (v := .ref nb) (C := R_NET) (T := T_NET) (N := 4) hx hb hU iw_NET hown hK hP 2 rfl rfl 2 (by decide) (va_Nw.use rfl (hN _ nw_50)) (fun _ h9 => h9) rfl d_WA_lowestBehind_4 ?_
  refine lv_iload_n hx hb d_WA_lowestBehind_7 rfl (lv_at hl 4 rfl) ?_
  refine xw_ildN hx hb hK hP 3 0 rfl rfl (by omega) (by decide) d_WA_lowestBehind_8 ?_
  have hv_1 := hg_nb sx
  refine lv_istore (lv' := [(5, .int (nI (g_nb sx))), (4, .int (-1)), (0, .ref sw), (1, .ref sn), (2, .ref sv), (3, .int (nI sx))]) hx hb d_WA_lowestBehind_9 hl (by decide) rfl (fun ls hl => ?_)
  refine W.widen (k := 0) (n := 0) (Nat.le_of_ble_eq_true rfl) (Nat.le_of_ble_eq_true rfl) ?_
  have lp_11 : ∀ (fu : Nat) (i : Nat) (l9 : Int32) (H : Heap) (locs : List Loc) (ls : Array Slot), (i + fu = g_nb (sx + 1) ∨ (fu = 0 ∧ g_nb (sx + 1) ≤ i)) → (i ≤ 601) → (l9 = (-1) ∨ ∃ j, j < 200 ∧ l9 = nI j) → va_P D vwCl [(sw, .inr (8, [.ref wl])), (wl, .inl (cB, 200, .inl f_wl)), (sn, .inr (1, [.int (nI st), .int (nI mv), .ref nb, .ref nt])), (nb, .inl (cI, 201, .inl (xs_G g_nb))), (nt, .inl (cI, 600, .inl (xs_G g_nt))), (sv, .inr (7, [.ref lo, .ref lr, .ref lb, .int (nI lv), .ref lf])), (lo, .inl (cI, 200, .inl f_lo))] H → va_D A [(sw, .inr (8, [.ref wl])), (wl, .inl (cB, 200, .inl f_wl)), (sn, .inr (1, [.int (nI st), .int (nI mv), .ref nb, .ref nt])), (nb, .inl (cI, 201, .inl (xs_G g_nb))), (nt, .inl (cI, 600, .inl (xs_G g_nt))), (sv, .inr (7, [.ref lo, .ref lr, .ref lb, .int (nI lv), .ref lf])), (lo, .inl (cI, 200, .inl f_lo))] → va_S A s.heap H locs → lv_has ls 8 [(5, .int (nI i)), (4, .int l9), (0, .ref sw), (1, .ref sn), (2, .ref sv), (3, .int (nI sx))] → W p l e (headSpec w_WA_lowestBehind ({ frames := 0, cells := 0, slots := 0, locals := 0  } : Room)).room s m #[.ref sw, .ref sn, .ref sv, .int (nI sx)] below meth c H locs 0 0 (xZ (σ := Int32) below #[.ref sw, .ref sn, .ref sv, .int (nI sx)] s D vwCl [(sw, .inr (8, [.ref wl])), (wl, .inl (cB, 200, .inl f_wl)), (sn, .inr (1, [.int (nI st), .int (nI mv), .ref nb, .ref nt])), (nb, .inl (cI, 201, .inl (xs_G g_nb))), (nt, .inl (cI, 600, .inl (xs_G g_nt))), (sv, .inr (7, [.ref lo, .ref lr, .ref lb, .int (nI lv), .ref lf])), (lo, .inl (cI, 200, .inl f_lo))] s.heap.size ({ frames := 0, cells := 0, slots := 0, locals := 0  } : Room).cells ({ frames := 0, cells := 0, slots := 0, locals := 0  } : Room).slots (fun v => (v = (-1) ∨ ∃ j, j < 200 ∧ v = nI j)) (fun v => some (.int v)) (fun v => [(sw, .inr (8, [.ref wl])), (wl, .inl (cB, 200, .inl f_wl)), (sn, .inr (1, [.int (nI st), .int (nI mv), .ref nb, .ref nt])), (nb, .inl (cI, 201, .inl (xs_G g_nb))), (nt, .inl (cI, 600, .inl (xs_G g_nt))), (sv, .inr (7, [.ref lo, .ref lr, .ref lb, .int (nI lv), .ref lf])), (lo, .inl (cI, 200, .inl f_lo))])) (F0 m 11 ls []) := by
    intro fu
    induction fu with
    | zero =>
      intro i l9 H locs ls hi hi2 hl9 hP hD hS hl
      refine lv_iload hx hb d_WA_lowestBehind_11 (lv_at hl 0 rfl) ?_
      refine lv_aload_n hx hb d_WA_lowestBehind_13 rfl (lv_at hl 3 rfl) ?_
      refine va_getN (D := D) (a := sn) (fs := [.int (nI st), .int (nI mv), .ref nb, .ref nt]) (ci := 1) (v := .ref nb) (C := R_NET) (T := T_NET) (N := 4) hx hb hU iw_NET hown hK hP 2 rfl rfl 2 (by decide) (va_Nw.use rfl (hN _ nw_50)) (fun _ h9 => h9) rfl d_WA_lowestBehind_14 ?_
      refine lv_iload_n hx hb d_WA_lowestBehind_17 rfl (lv_at hl 5 rfl) ?_
      refine lv_iconst (v := nI 1) hx hb d_WA_lowestBehind_18 (by decide +kernel) ?_
      refine lv_iadd hx hb d_WA_lowestBehind_19 ?_
      refine xw_top (nI (sx + 1)) (nI_add _ _) ?_
      refine xw_ildN hx hb hK hP 3 0 rfl rfl (by omega) (by decide) d_WA_lowestBehind_20 ?_
      have hv_2 := hg_nb (sx + 1)
      refine xw_icmp_ge (tgt := 96) hx hb d_WA_lowestBehind_21 (by decide) (by omega) (by omega) (fun c_21 => ?_) (fun c_21 => ?_)
      · refine lv_iload hx hb d_WA_lowestBehind_96 (lv_at hl 1 rfl) ?_
        have hP9 := xs_P_sub (w := [(sw, .inr (8, [.ref wl])), (wl, .inl (cB, 200, .inl f_wl)), (sn, .inr (1, [.int (nI st), .int (nI mv), .ref nb, .ref nt])), (nb, .inl (cI, 201, .inl (xs_G g_nb))), (nt, .inl (cI, 600, .inl (xs_G g_nt))), (sv, .inr (7, [.ref lo, .ref lr, .ref lb, .int (nI lv), .ref lf])), (lo, .inl (cI, 200, .inl f_lo))]) hP [0, 1, 2, 3, 4, 5, 6] rfl
        have hD9 := hD.sub (ws' := [(sw, .inr (8, [.ref wl])), (wl, .inl (cB, 200, .inl f_wl)), (sn, .inr (1, [.int (nI st), .int (nI mv), .ref nb, .ref nt])), (nb, .inl (cI, 201, .inl (xs_G g_nb))), (nt, .inl (cI, 600, .inl (xs_G g_nt))), (sv, .inr (7, [.ref lo, .ref lr, .ref lb, .int (nI lv), .ref lf])), (lo, .inl (cI, 200, .inl f_lo))]) [0, 1, 2, 3, 4, 5, 6] (by decide +kernel) rfl
        exact xw_iret l9 hx hb hr hlocks d_WA_lowestBehind_98 (rfl) (hl9) hAe hP9 hD9 hS (Nat.le_of_ble_eq_true rfl) (Nat.le_of_ble_eq_true rfl)
      · exact (by omega : False).elim
    | succ fu ih =>
      intro i l9 H locs ls hi hi2 hl9 hP hD hS hl
      refine lv_iload hx hb d_WA_lowestBehind_11 (lv_at hl 0 rfl) ?_
      refine lv_aload_n hx hb d_WA_lowestBehind_13 rfl (lv_at hl 3 rfl) ?_
      refine va_getN (D := D) (a := sn) (fs := [.int (nI st), .int (nI mv), .ref nb, .ref nt]) (ci := 1) (v := .ref nb) (C := R_NET) (T := T_NET) (N := 4) hx hb hU iw_NET hown hK hP 2 rfl rfl 2 (by decide) (va_Nw.use rfl (hN _ nw_50)) (fun _ h9 => h9) rfl d_WA_lowestBehind_14 ?_
      refine lv_iload_n hx hb d_WA_lowestBehind_17 rfl (lv_at hl 5 rfl) ?_
      refine lv_iconst (v := nI 1) hx hb d_WA_lowestBehind_18 (by decide +kernel) ?_
      refine lv_iadd hx hb d_WA_lowestBehind_19 ?_
      refine xw_top (nI (sx + 1)) (nI_add _ _) ?_
      refine xw_ildN hx hb hK hP 3 0 rfl rfl (by omega) (by decide) d_WA_lowestBehind_20 ?_
      have hv_3 := hg_nb (sx + 1)
      refine xw_icmp_ge (tgt := 96) hx hb d_WA_lowestBehind_21 (by decide) (by omega) (by omega) (fun c_21 => ?_) (fun c_21 => ?_)
      · exact (by omega : False).elim
      · refine lv_aload_n hx hb d_WA_lowestBehind_24 rfl (lv_at hl 3 rfl) ?_
        refine va_getN (D := D) (a := sn) (fs := [.int (nI st), .int (nI mv), .ref nb, .ref nt]) (ci := 1) (v := .ref nt) (C := R_NET) (T := T_NET) (N := 4) hx hb hU iw_NET hown hK hP 2 rfl rfl 3 (by decide) (va_Nw.use rfl (hN _ nw_53)) (fun _ h9 => h9) rfl d_WA_lowestBehind_25 ?_
        refine lv_iload hx hb d_WA_lowestBehind_28 (lv_at hl 0 rfl) ?_
        refine xw_ildN hx hb hK hP 4 0 rfl rfl (by omega) (by decide) d_WA_lowestBehind_30 ?_
        have hv_4 := hg_nt i
        refine lv_istore (lv' := [(6, .int (nI (g_nt i))), (5, .int (nI i)), (4, .int l9), (0, .ref sw), (1, .ref sn), (2, .ref sv), (3, .int (nI sx))]) hx hb d_WA_lowestBehind_31 hl (by decide) rfl (fun ls hl => ?_)
        refine lv_aload_n hx hb d_WA_lowestBehind_33 rfl (lv_at hl 3 rfl) ?_
        refine va_get (D := D) (a := sw) (fs := [.ref wl]) (ci := 8) (v := .ref wl) (C := R_WA) (T := T_WA) (N := 1) hx hb hU iw_WA hown hK hP 0 rfl rfl 0 (by decide) (hU _ uw_180) (fun _ h9 => h9) rfl d_WA_lowestBehind_34 ?_
        refine lv_iload hx hb d_WA_lowestBehind_37 (lv_at hl 0 rfl) ?_
        refine xw_zld hx hb hK hP 1 1 rfl rfl (by omega) (by decide) d_WA_lowestBehind_39 ?_
        refine lv_if_eq (tgt := 65) hx hb d_WA_lowestBehind_40 (by decide) (fun c_40 => ?_) (fun c_40 => ?_)
        · refine lv_iconst (v := nI 0) hx hb d_WA_lowestBehind_65 (by decide +kernel) ?_
          refine lv_istore (lv' := [(7, .int (nI 0)), (6, .int (nI (g_nt i))), (5, .int (nI i)), (4, .int l9), (0, .ref sw), (1, .ref sn), (2, .ref sv), (3, .int (nI sx))]) hx hb d_WA_lowestBehind_66 hl (by decide) rfl (fun ls hl => ?_)
          refine lv_iload hx hb d_WA_lowestBehind_68 (lv_at hl 0 rfl) ?_
          refine lv_if_eq (tgt := 90) hx hb d_WA_lowestBehind_70 (by decide) (fun c_70 => ?_) (fun c_70 => ?_)
          · refine lv_iinc (v := nI (i + 1)) (lv' := [(5, .int (nI (i + 1))), (7, .int (nI 0)), (6, .int (nI (g_nt i))), (4, .int l9), (0, .ref sw), (1, .ref sn), (2, .ref sv), (3, .int (nI sx))]) hx hb d_WA_lowestBehind_90 hl (k := 2) rfl (xs_inc i 1) (by decide) rfl (fun ls hl => ?_)
            refine lv_goto (tgt := 11) hx hb d_WA_lowestBehind_93 (by decide) ?_
            exact ih (i + 1) l9 _ _ _ (by omega) (by omega) (hl9) (xs_P_sub hP [0, 1, 2, 3, 4, 5, 6] rfl) (hD.sub [0, 1, 2, 3, 4, 5, 6] (by decide +kernel) rfl) hS (lv_sub hl [0, 3, 4, 5, 6, 7] rfl)
          · exact absurd c_70 (by decide +kernel)
        · refine lv_aload_n hx hb d_WA_lowestBehind_43 rfl (lv_at hl 5 rfl) ?_
          refine va_getN (D := D) (a := sv) (fs := [.ref lo, .ref lr, .ref lb, .int (nI lv), .ref lf]) (ci := 7) (v := .ref lo) (C := R_LE) (T := T_LE) (N := 5) hx hb hU iw_LE hown hK hP 5 rfl rfl 0 (by decide) (va_Nw.use rfl (hN _ nw_126)) (fun _ h9 => h9) rfl d_WA_lowestBehind_44 ?_
          refine lv_iload hx hb d_WA_lowestBehind_47 (lv_at hl 0 rfl) ?_
          refine xw_ild hx hb hK hP 6 0 rfl rfl (by omega) (by decide) d_WA_lowestBehind_49 ?_
          refine lv_aload_n hx hb d_WA_lowestBehind_50 rfl (lv_at hl 5 rfl) ?_
          refine va_getN (D := D) (a := sv) (fs := [.ref lo, .ref lr, .ref lb, .int (nI lv), .ref lf]) (ci := 7) (v := .ref lo) (C := R_LE) (T := T_LE) (N := 5) hx hb hU iw_LE hown hK hP 5 rfl rfl 0 (by decide) (va_Nw.use rfl (hN _ nw_126)) (fun _ h9 => h9) rfl d_WA_lowestBehind_51 ?_
          refine lv_iload_n hx hb d_WA_lowestBehind_54 rfl (lv_at hl 6 rfl) ?_
          refine xw_ild hx hb hK hP 6 0 rfl rfl (by omega) (by decide) d_WA_lowestBehind_55 ?_
          refine lv_iconst (v := nI 1) hx hb d_WA_lowestBehind_56 (by decide +kernel) ?_
          refine lv_iadd hx hb d_WA_lowestBehind_57 ?_
          refine lv_icmp_ne (tgt := 65) hx hb d_WA_lowestBehind_58 (by decide) (fun c_58 => ?_) (fun c_58 => ?_)
          · refine lv_iconst (v := nI 0) hx hb d_WA_lowestBehind_65 (by decide +kernel) ?_
            refine lv_istore (lv' := [(7, .int (nI 0)), (6, .int (nI (g_nt i))), (5, .int (nI i)), (4, .int l9), (0, .ref sw), (1, .ref sn), (2, .ref sv), (3, .int (nI sx))]) hx hb d_WA_lowestBehind_66 hl (by decide) rfl (fun ls hl => ?_)
            refine lv_iload hx hb d_WA_lowestBehind_68 (lv_at hl 0 rfl) ?_
            refine lv_if_eq (tgt := 90) hx hb d_WA_lowestBehind_70 (by decide) (fun c_70 => ?_) (fun c_70 => ?_)
            · refine lv_iinc (v := nI (i + 1)) (lv' := [(5, .int (nI (i + 1))), (7, .int (nI 0)), (6, .int (nI (g_nt i))), (4, .int l9), (0, .ref sw), (1, .ref sn), (2, .ref sv), (3, .int (nI sx))]) hx hb d_WA_lowestBehind_90 hl (k := 2) rfl (xs_inc i 1) (by decide) rfl (fun ls hl => ?_)
              refine lv_goto (tgt := 11) hx hb d_WA_lowestBehind_93 (by decide) ?_
              exact ih (i + 1) l9 _ _ _ (by omega) (by omega) (hl9) (xs_P_sub hP [0, 1, 2, 3, 4, 5, 6] rfl) (hD.sub [0, 1, 2, 3, 4, 5, 6] (by decide +kernel) rfl) hS (lv_sub hl [0, 3, 4, 5, 6, 7] rfl)
            · exact absurd c_70 (by decide +kernel)
          · refine lv_iconst (v := nI 1) hx hb d_WA_lowestBehind_61 (by decide +kernel) ?_
            refine lv_goto (tgt := 66) hx hb d_WA_lowestBehind_62 (by decide) ?_
            refine lv_istore (lv' := [(7, .int (nI 1)), (6, .int (nI (g_nt i))), (5, .int (nI i)), (4, .int l9), (0, .ref sw), (1, .ref sn), (2, .ref sv), (3, .int (nI sx))]) hx hb d_WA_lowestBehind_66 hl (by decide) rfl (fun ls hl => ?_)
            refine lv_iload hx hb d_WA_lowestBehind_68 (lv_at hl 0 rfl) ?_
            refine lv_if_eq (tgt := 90) hx hb d_WA_lowestBehind_70 (by decide) (fun c_70 => ?_) (fun c_70 => ?_)
            · exact absurd c_70 (by decide +kernel)
            · refine lv_iload hx hb d_WA_lowestBehind_73 (lv_at hl 3 rfl) ?_
              refine lv_iconst (v := (-1)) hx hb d_WA_lowestBehind_75 (by decide +kernel) ?_
              refine lv_icmp_eq (tgt := 86) hx hb d_WA_lowestBehind_76 (by decide) (fun c_76 => ?_) (fun c_76 => ?_)
              · refine lv_iload hx hb d_WA_lowestBehind_86 (lv_at hl 1 rfl) ?_
                refine lv_istore (lv' := [(4, .int (nI (g_nt i))), (7, .int (nI 1)), (6, .int (nI (g_nt i))), (5, .int (nI i)), (0, .ref sw), (1, .ref sn), (2, .ref sv), (3, .int (nI sx))]) hx hb d_WA_lowestBehind_88 hl (by decide) rfl (fun ls hl => ?_)
                refine lv_iinc (v := nI (i + 1)) (lv' := [(5, .int (nI (i + 1))), (4, .int (nI (g_nt i))), (7, .int (nI 1)), (6, .int (nI (g_nt i))), (0, .ref sw), (1, .ref sn), (2, .ref sv), (3, .int (nI sx))]) hx hb d_WA_lowestBehind_90 hl (k := 3) rfl (xs_inc i 1) (by decide) rfl (fun ls hl => ?_)
                refine lv_goto (tgt := 11) hx hb d_WA_lowestBehind_93 (by decide) ?_
                exact ih (i + 1) (nI (g_nt i)) _ _ _ (by omega) (by omega) (Or.inr ⟨_, hg_nt _, rfl⟩) (xs_P_sub hP [0, 1, 2, 3, 4, 5, 6] rfl) (hD.sub [0, 1, 2, 3, 4, 5, 6] (by decide +kernel) rfl) hS (lv_sub hl [0, 1, 4, 5, 6, 7] rfl)
              · refine lv_iload hx hb d_WA_lowestBehind_79 (lv_at hl 1 rfl) ?_
                refine lv_iload hx hb d_WA_lowestBehind_81 (lv_at hl 3 rfl) ?_
                refine lv_icmp_ge (tgt := 90) hx hb d_WA_lowestBehind_83 (by decide) (fun c_83 => ?_) (fun c_83 => ?_)
                · refine lv_iinc (v := nI (i + 1)) (lv' := [(5, .int (nI (i + 1))), (7, .int (nI 1)), (6, .int (nI (g_nt i))), (4, .int l9), (0, .ref sw), (1, .ref sn), (2, .ref sv), (3, .int (nI sx))]) hx hb d_WA_lowestBehind_90 hl (k := 2) rfl (xs_inc i 1) (by decide) rfl (fun ls hl => ?_)
                  refine lv_goto (tgt := 11) hx hb d_WA_lowestBehind_93 (by decide) ?_
                  exact ih (i + 1) l9 _ _ _ (by omega) (by omega) (hl9) (xs_P_sub hP [0, 1, 2, 3, 4, 5, 6] rfl) (hD.sub [0, 1, 2, 3, 4, 5, 6] (by decide +kernel) rfl) hS (lv_sub hl [0, 3, 4, 5, 6, 7] rfl)
                · refine lv_iload hx hb d_WA_lowestBehind_86 (lv_at hl 1 rfl) ?_
                  refine lv_istore (lv' := [(4, .int (nI (g_nt i))), (7, .int (nI 1)), (6, .int (nI (g_nt i))), (5, .int (nI i)), (0, .ref sw), (1, .ref sn), (2, .ref sv), (3, .int (nI sx))]) hx hb d_WA_lowestBehind_88 hl (by decide) rfl (fun ls hl => ?_)
                  refine lv_iinc (v := nI (i + 1)) (lv' := [(5, .int (nI (i + 1))), (4, .int (nI (g_nt i))), (7, .int (nI 1)), (6, .int (nI (g_nt i))), (0, .ref sw), (1, .ref sn), (2, .ref sv), (3, .int (nI sx))]) hx hb d_WA_lowestBehind_90 hl (k := 3) rfl (xs_inc i 1) (by decide) rfl (fun ls hl => ?_)
                  refine lv_goto (tgt := 11) hx hb d_WA_lowestBehind_93 (by decide) ?_
                  exact ih (i + 1) (nI (g_nt i)) _ _ _ (by omega) (by omega) (Or.inr ⟨_, hg_nt _, rfl⟩) (xs_P_sub hP [0, 1, 2, 3, 4, 5, 6] rfl) (hD.sub [0, 1, 2, 3, 4, 5, 6] (by decide +kernel) rfl) hS (lv_sub hl [0, 1, 4, 5, 6, 7] rfl)
  exact lp_11 (g_nb (sx + 1) - g_nb sx) (g_nb sx) (-1) _ _ _ (by omega) (by omega) (Or.inl rfl) hP hD hS (lv_sub hl [0, 1, 2, 3, 4, 5] rfl)
