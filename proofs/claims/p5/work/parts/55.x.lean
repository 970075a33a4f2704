set_option maxHeartbeats 4000000 in
set_option maxRecDepth 100000 in
/-- run, without states -/
theorem n_X_runT (l : Launch) (htr : l.stackTraces = false) (D : va_G) (cI cB cL cR : ClassId) (hx0 : Nat) (h0 : Nat) (sn : Nat) (sp : Nat) (sc : Nat) (st : Nat) (mv : Nat) (nb : Nat) (nt : Nat) (a : Int32) (hst : st ≤ 200) (hmv : mv ≤ 600) (hs2 : st = 0) : xY l y_X_run w_X_run ({ frames := 6, cells := 1, slots := 6, locals := 82  } : Room) D vwCl (xs_tys cI cB cL cR) [.ref hx0, .int a] [(hx0, .inr (0, [.ref h0, .ref sn, .ref sp, .ref sc])), (sn, .inr (1, [.int (nI st), .int (nI mv), .ref nb, .ref nt]))] "java/lang/IllegalStateException" := by
  refine xY.of b_X_run 2 (some .int) (by decide +kernel) rfl (Nat.le_of_ble_eq_true rfl) ?_
  intro p e s m below meth c A ls hAe C0 hout hZ hP hD hS hl
  have hP0 : va_P D vwCl [] s.heap := xs_P_nil
  obtain ⟨hx, hb, hr, hml, hown, hlocks, hts, hnm, hN, hK, hA⟩ := C0
  have hU : ∀ w ∈ xU, w.before #[.ref hx0, .int a] s = true := fun w h => hts w (List.mem_cons_of_mem _ h)
  have hl : lv_has ls 2 [(0, .ref hx0), (1, .int a)] := hl
  refine lv_aload_n hx hb d_X_run_0 rfl (lv_at hl 0 rfl) ?_
  refine va_get (D := D) (a := hx0) (fs := [.ref h0, .ref sn, .ref sp, .ref sc]) (ci := 0) (v := .ref sn) (C := R_X) (T := T_X) (N := 4) hx hb hU iw_X hown hK hP 0 rfl rfl 1 (by decide) (hU _ uw_308) (fun _ h9 => h9) rfl d_X_run_1 ?_
  refine va_getN (D := D) (a := sn) (fs := [.int (nI st), .int (nI mv), .ref nb, .ref nt]) (ci := 1) (v := .int (nI st)) (C := R_NET) (T := T_NET) (N := 4) hx hb hU iw_NET hown hK hP 1 rfl rfl 0 (by decide) (va_Nw.use rfl (hN _ nw_44)) (fun _ h9 => h9) rfl d_X_run_4 ?_
  refine xw_if_ne (tgt := 20) hx hb d_X_run_7 (by decide) (by omega) (fun c_7 => ?_) (fun c_7 => ?_)
  · exact (by omega : False).elim
  · exact xw_throwS (text := "no states") (names := ["java/lang/RuntimeException", "java/lang/Exception"]) hx hb htr hown (by decide +kernel) (by decide +kernel) (hU _ uw_515) (hU _ uw_20) (hZ.2.2.1 (102, "no states") (by decide +kernel)) (xs_hat hat_104 hU hN hZ) hAe hP0 hS (hl.1.trans hml.symm) d_X_run_10 d_X_run_13 d_X_run_14 d_X_run_16 d_X_run_19 hout (Nat.le_of_ble_eq_true rfl) (Nat.le_of_ble_eq_true rfl) (Nat.le_of_ble_eq_true rfl) (Nat.le_of_ble_eq_true rfl) hlocks (Nat.le_of_ble_eq_true rfl) (Nat.le_of_ble_eq_true rfl)
