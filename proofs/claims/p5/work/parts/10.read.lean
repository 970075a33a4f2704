section XRD
/-! methods that only read: nothing that was there changes; and methods that throw before they change anything -/
theorem xs_P_nil {D : va_G} {cl : List vw_C} {H : Heap} : va_P D cl [] H := fun k q h => by simp at h
theorem xs_D_nil {A : Nat → Prop} : va_D A [] := ⟨fun i j p q h => by simp at h, fun k q h => by simp at h⟩
theorem xs_A_nil {A : Nat → Prop} {H0 H : Heap} {locs : List Loc} (hS : va_S A H0 H locs) (hA : ∀ q, H0.size ≤ q → A q) : ∀ q, va_A [] H.size q → A q := fun q h => by
  rcases h with ⟨k, e, h⟩ | h
  · simp at h
  · exact hA q (Nat.le_trans hS.1 h)
theorem xs_nA_nil {sz q : Nat} (h : q < sz) : ¬ va_A [] sz q := fun z => by
  rcases z with ⟨k, e, h9⟩ | h9
  · simp at h9
  · omega
def xR {σ : Type} (l : Launch) (y : MethodName) (wd : List Cond) (rm : Room) (D : va_G) (cl : List vw_C) (tys : List (ClassId × FieldType)) (av : List Value) (w : va_W) (f : σ → Prop) (r : σ → Option Value) : Prop :=
  ∀ sz : Nat, Met l y wd rm (xPre D cl tys av w sz) (fun _ => xPost D cl [] sz f r (fun _ => [])) rm.cells rm.slots (va_A [] sz)
theorem xR.of {σ : Type} {l : Launch} {y : MethodName} {wd wd' : List Cond} {rm : Room} {D : va_G} {cl : List vw_C} {tys : List (ClassId × FieldType)} {av : List Value} {w : va_W} {f : σ → Prop} {r : σ → Option Value} (cc : ByteArray) (nL : Nat) (ret : Option FieldType)
    (hy : plainFor y = true) (hw : wd = Cond.code y cc nL ret :: wd') (hlen : (lg_sl av).length ≤ nL)
    (body : ∀ (p : Program) (e : Env) (s : State) (m : MethodId) (below : List Frame) (meth : Method) (c : Code) (A : Nat → Prop) (ls : Array Slot), A = va_A [] s.heap.size → xC p s m av.toArray meth c cc nL ret y.cls y.name wd D cl tys A → va_P D cl w s.heap → va_D (fun _ => True) w → va_S A s.heap s.heap [] → lv_has ls nL (lv_args 0 av) →
      W p l e (headSpec wd rm).room s m av.toArray below meth c s.heap [] 0 0 (xZ below av.toArray s D cl [] s.heap.size rm.cells rm.slots f r (fun _ => [])) (F0 m 0 ls [])) : xR l y wd rm D cl tys av w f r := by
  intro sz
  refine xs_ofW (cc := cc) (maxL := nL) (ret := ret) hy hw ?_
  intro p e s m args below meth c s₁ B hml hv
  obtain ⟨rfl, hsz, hP, hK, hD0, hN⟩ := hv
  subst hsz
  rw [lg_entry_eq]
  exact body p e s m below meth c (va_A [] s.heap.size) _ rfl ⟨B.exec, B.bytes, B.returns, hml, findClass_of_methodNamed B.named, B.notSynchronized, atoms_spec (ws := wd) B.pre, (name_of_methodNamed B.named B.method).1, hN, hK, fun q h => Or.inr h⟩ hP hD0 va_S.rf (lv_entry av hlen)
section XRR
variable {p : Program} {l : Launch} {e : Env} {R : Room} {s : State} {m : MethodId} {args : Array Value} {below : List Frame} {meth : Method} {c : Code} {H : Heap} {locs : List Loc} {cells slots : Nat} {Q : State → Prop}
variable {pc : Nat} {ls : Array Slot} {rest st0 : List Value} {A B : Nat → Prop} {H0 : Heap} {D : va_G} {cl : List vw_C} {tys : List (ClassId × FieldType)}
variable {y : MethodName} {bytes cc : ByteArray} {maxL nL n index : Nat} {ret : Option FieldType} {wd : List Cond} {rm : Room} {Ts : List Cond} {own C host : String} {b : Nat}
/-- a call of a method that only reads -/
theorem xw_callR {σ : Type} {f : σ → Prop} {r : σ → Option Value} {ws w : va_W} (As : List Value) (hM : xR l y wd rm D cl tys (.ref b :: As) w f r) (S : CallFix p m c cc nL s args Ts own) (cw : CallW R s args own C index y bytes maxL ret wd rm rm.cells rm.slots n)
    (q0 : Nat) {ci : Nat} {q : vw_C} {fs : List Value} (hc : cl[ci]? = some q) (he : ws[q0]? = some (b, .inr (ci, fs))) (hq : q.1 = C) (hn9 : As.length = n) (hsize : ls.size = nL) (hstack : st0 = As.reverse ++ .ref b :: rest) (hW : (rest.map fun v => v.category).sum ≤ 8) (hdg : decode cc pc = .ok (.invokevirtual index, 3)) (hf : cells + rm.cells ≤ R.cells ∧ slots + rm.slots ≤ R.slots)
    (isC : List Nat) (hC : isC.map (fun i => ws[i]?) = w.map some) (hnC : va_nd isC = true) (hN : xs_N s) (hK : va_K D cl tys s) (hP : va_P D cl ws H) (hD : va_D B ws) (hS : va_S A H0 H locs) (hA : ∀ q, H0.size ≤ q → A q)
    (kk : ∀ (u : σ) (H1 : Heap) (locs1 : List Loc), f u → va_P D cl ws H1 → va_S A H0 H1 locs1 → W p l e R s m args below meth c H1 locs1 (cells + rm.cells) (slots + rm.slots) Q (F0 m (pc + 3) ls ((r u).toList ++ rest))) : W p l e R s m args below meth c H locs cells slots Q (F0 m pc ls st0) := by
  have hr := va_runV (e := e) (below := below) (meth := meth) (locs := locs) (cells := cells) (slots := slots) (g := F0 m pc ls st0) (rest := rest) S (hM H.size) cw ⟨xs_blind, by have h9 := va_recv hK hP hc he; rw [hq] at h9; exact h9, xs_pre (.ref b :: As) hN hK hP hD isC hnC hC⟩ rfl hn9 hsize hstack (lv_room hW) hdg hf
  intro T hT X
  obtain ⟨v, st₀, t, T', L, h0, X', hL, e1, e2, ⟨u, hv, hq9, -, -, hf9⟩, st⟩ := hr T hT X
  cases hv
  obtain ⟨hk, hS'⟩ := xs_keep h0 e1 hS (xs_A_nil hS hA) hL hf9
  obtain ⟨t2, a1, b1⟩ := kk u T'.heap (locs ++ L) hq9 (hP.kept (fun i q hq => hk q.1 ((hP i q hq).lt) (xs_nA_nil ((hP i q hq).lt)))) hS' T' rfl X'
  exact ⟨t2, st t2 a1, b1⟩
end XRR
def xPreY (D : va_G) (cl : List vw_C) (tys : List (ClassId × FieldType)) (av : List Value) (w : va_W) (sz : Nat) : Array Value → State → Prop := va_Pc av (fun U => U.heap.size = sz ∧ va_P D cl w U.heap ∧ va_K D cl tys U ∧ va_D (fun _ => True) w ∧ xs_N U ∧ xz (va_A [] sz) U)
def xY (l : Launch) (y : MethodName) (wd : List Cond) (rm : Room) (D : va_G) (cl : List vw_C) (tys : List (ClassId × FieldType)) (av : List Value) (w : va_W) (E : String) : Prop :=
  ∀ sz : Nat, MetFree l y (headSpec wd rm) (xPreY D cl tys av w sz) (fun _ _ _ _ _ => True) (xTh E [] sz rm.cells rm.slots)
theorem xs_blindY {av : List Value} {sz : Nat} {D : va_G} {cl : List vw_C} {tys : List (ClassId × FieldType)} {w : va_W} : FrameBlind (xPreY D cl tys av w sz) :=
  fun a U g mk q => by obtain ⟨q0, q1, qP, qK, qD, qN, qZ⟩ := q; exact ⟨q0, q1, qP, va_K.moved (u := U) (U := U.calling g mk a) (Vm.Alike.refl U.vm) qK, qD, xs_N.warm (s := U) (U := U.calling g mk a) (State.WarmedH.refl U) qN, xz.down (s := U) (U := U.calling g mk a) (H := U.heap) (locs := []) qZ va_S.rf (fun _ h => h) rfl (State.WarmedH.refl U)⟩
theorem xs_preY {D : va_G} {cl : List vw_C} {tys : List (ClassId × FieldType)} {s : State} {ws w : va_W} {A B : Nat → Prop} {H : Heap} {locs : List Loc} (av : List Value) (hN : xs_N s) (hZ : xz A s) (hS : va_S A s.heap H locs) (hA : ∀ q, s.heap.size ≤ q → A q) (hK : va_K D cl tys s) (hP : va_P D cl ws H) (hD : va_D B ws) (is : List Nat) (hn : va_nd is = true) (hs : is.map (fun i => ws[i]?) = w.map some) :
    ∀ U : State, U.heap = H → s.WarmedH U.vm → xPreY D cl tys av w H.size av.toArray U := fun U hU hW =>
  ⟨rfl, by rw [hU], by rw [hU]; exact xs_P_sub hP is hs, va_K.moved hW.alike hK, (hD.sub is hn hs).weaken (fun _ _ _ _ => trivial), xs_N.warm hW hN, xz.down hZ hS (xs_A_nil hS hA) hU hW⟩
theorem xY.of {l : Launch} {y : MethodName} {wd wd' : List Cond} {rm : Room} {D : va_G} {cl : List vw_C} {tys : List (ClassId × FieldType)} {av : List Value} {w : va_W} {E : String} (cc : ByteArray) (nL : Nat) (ret : Option FieldType)
    (hy : plainFor y = true) (hw : wd = Cond.code y cc nL ret :: wd') (hlen : (lg_sl av).length ≤ nL)
    (body : ∀ (p : Program) (e : Env) (s : State) (m : MethodId) (below : List Frame) (meth : Method) (c : Code) (A : Nat → Prop) (ls : Array Slot), A = va_A [] s.heap.size → xC p s m av.toArray meth c cc nL ret y.cls y.name wd D cl tys A → (∀ x ∈ c.exceptionTable.toList, False) → xz A s → va_P D cl w s.heap → va_D (fun _ => True) w → va_S A s.heap s.heap [] → lv_has ls nL (lv_args 0 av) →
      W p l e (headSpec wd rm).room s m av.toArray below meth c s.heap [] 0 0 (xZT below av.toArray s E [] s.heap.size rm.cells rm.slots) (F0 m 0 ls [])) : xY l y wd rm D cl tys av w E := by
  intro sz
  refine MetFree.of_bodySF (code := cc) (maxLocals := nL) (ret := ret) hy (fun args s m h hn => ?_) (fun p e s m args below meth c s₁ B hml hv _ => ?_)
  · obtain ⟨meth, c, h1, h2, h3, h4, h5, h6, -, -⟩ := Cond.code_spec hn (atoms_spec (ws := wd) h _ (by rw [hw]; exact List.mem_cons_self))
    exact ⟨meth, c, h1, h2, h3, h4, h5, h6⟩
  · obtain ⟨rfl, hsz, hP, hK, hD0, hN, hZ⟩ := hv
    subst hsz
    have ht : ∀ x ∈ c.exceptionTable.toList, False := by
      obtain ⟨meth9, c9, h1, h2, -, -, -, -, h7, -⟩ := Cond.code_spec B.named (atoms_spec (ws := wd) B.pre _ (by rw [hw]; exact List.mem_cons_self))
      cases Option.some.inj (h1.symm.trans B.method)
      cases Option.some.inj (h2.symm.trans (Stand.of_body B).code)
      intro x hx
      rw [Array.isEmpty_iff.mp h7] at hx
      cases hx
    have K := body p e s m below meth c (va_A [] s.heap.size) _ rfl ⟨B.exec, B.bytes, B.returns, hml, findClass_of_methodNamed B.named, B.notSynchronized, atoms_spec (ws := wd) B.pre, (name_of_methodNamed B.named B.method).1, hN, hK, fun q h => Or.inr h⟩ ht hZ hP hD0 va_S.rf (lv_entry av hlen)
    rw [← lg_entry_eq] at K
    obtain ⟨t, a1, o, b1, b2, b3⟩ := K s₁ (by rw [B.state]; rfl) (Stand.of_body B)
    exact ⟨t, o, a1, b1, b2, b3⟩
section XCR
variable {p : Program} {l : Launch} {e : Env} {R : Room} {s : State} {m : MethodId} {args : Array Value} {below : List Frame} {meth : Method} {c : Code} {H : Heap} {locs : List Loc} {cells slots : Nat} {Q : State → Prop}
variable {pc : Nat} {ls : Array Slot} {rest st0 : List Value} {A : Nat → Prop} {D : va_G} {cl : List vw_C} {tys : List (ClassId × FieldType)} {cc : ByteArray}
variable {y : MethodName} {bytes : ByteArray} {maxL nL n index : Nat} {ret : Option FieldType} {wd : List Cond} {rm : Room} {Ts : List Cond} {own C : String} {b : Nat}
set_option maxHeartbeats 2000000 in
/-- a call of a method that throws an E, caught by the row x of the caller's table -/
theorem xw_callY {E : String} {B : Nat → Prop} {ws w : va_W} (As : List Value) (hM : xY l y wd rm D cl tys (.ref b :: As) w E) (S : CallFix p m c cc nL s args Ts own) (cw : CallW R s args own C index y bytes maxL ret wd rm rm.cells rm.slots n)
    (q0 : Nat) {ci : Nat} {q : vw_C} {fs : List Value} (hc : cl[ci]? = some q) (he : ws[q0]? = some (b, .inr (ci, fs))) (hq : q.1 = C) (hn9 : As.length = n) (hsize : ls.size = nL) (hstack : st0 = As.reverse ++ .ref b :: rest) (hW : (rest.map fun v => v.category).sum ≤ 8) (hdg : decode cc pc = .ok (.invokevirtual index, 3)) (hf : cells + rm.cells ≤ R.cells ∧ slots + rm.slots ≤ R.slots)
    (isC : List Nat) (hC : isC.map (fun i => ws[i]?) = w.map some) (hnC : va_nd isC = true) (hN : xs_N s) (hZ : xz A s) (hK : va_K D cl tys s) (hP : va_P D cl ws H) (hD : va_D B ws) (hS : va_S A s.heap H locs) (hA : ∀ q, s.heap.size ≤ q → A q)
    (pre : List ExceptionTableEntry) (x : ExceptionTableEntry) (suf : List ExceptionTableEntry) (hsplit : c.exceptionTable.toList = pre ++ x :: suf) (hpass : ∀ z ∈ pre, z.catchType ≠ 0 ∧ ∃ nm : String, (Cond.classLink own z.catchType nm).before args s = true ∧ va_Nc E nm s) (hx : covers x pc = true) (h0 : x.catchType ≠ 0)
    (hlink : (Cond.classLink own x.catchType E).before args s = true) (hcast : (Cond.castable E E).before args s = true)
    (kk : ∀ (q9 : Addr) (H1 : Heap) (locs1 : List Loc), va_P D cl ws H1 → va_S A s.heap H1 locs1 → W p l e R s m args below meth c H1 locs1 (cells + rm.cells) (slots + rm.slots) Q (F0 m x.handlerPc ls [.ref q9])) : W p l e R s m args below meth c H locs cells slots Q (F0 m pc ls st0) := by
  intro T hT X
  obtain ⟨cellB, hcB, hoB, hclB⟩ : ∃ cellB : Cell, H[b]? = some cellB ∧ cellB.vm.isStatics = false ∧ s.vm.findClass C = some cellB.cls := by
    have h9 := va_recv hK hP hc he
    rw [hq] at h9
    exact h9
  obtain ⟨⟨-, -, hfr, hlo, hws, hcw, hcode, hini, hy, hlen, hl⟩, hin, hse⟩ := cw
  obtain ⟨hx9, hb, hml, ho, -⟩ := S
  obtain ⟨mk, methM, hnamed, hmethM, hstM, habM⟩ := Cond.instanceMethod_spec hin
  obtain ⟨methM', cM, hmethM', -, -, -, -, -, -, hsigM⟩ := Cond.code_spec hnamed hcode
  cases hmethM.symm.trans hmethM'
  obtain ⟨c2, r2, m2, q1, q2, q3, q4, kP, hkP, hkPi⟩ := Cond.selects_spec hse
  cases hclB.symm.trans q1
  cases (State.methodFound?_of_named hnamed hy).symm.trans q2
  cases hnamed.symm.trans q3
  have hsel : selectMethod e.platform s.vm cellB.cls mk = .method mk := by rw [Launch.admits_selectMethod X.admits]; exact q4
  have hdg' : decode c.code pc = .ok (.invokevirtual index, 3) := by rw [hb]; exact hdg
  obtain ⟨vm₁, X₁, hstep₁⟩ := X.invokevirtual hx9 ho hl hnamed hmethM hstM hkP hkPi hy (a := b) (cell := cellB) (by rw [hT]; exact hcB) (fun z h => by rw [h] at hoB; cases hoB) hsel hmethM habM hkP hkPi (g := F0 m pc ls st0) rfl (argsL := As) (rest := rest) (hn9.trans (hlen _ hsigM)) hstack hdg'
  have hPc := xs_preY (.ref b :: As) hN hZ hS hA hK hP hD isC hnC hC (T.setVm vm₁) hT X₁.warmed
  have hF9 := xs_A_nil hS hA
  have hTU : (T.setVm vm₁).heap = H := hT
  generalize T.setVm vm₁ = U at X₁ hstep₁ hPc hTU
  have hnU : U.methodNamed? y = some mk := X₁.named hnamed
  have h1 : (headSpec wd rm).pre.before (Value.ref b :: As).toArray U = true := atoms_intro fun w hw => hws w hw _ _ X₁.warmed
  have h2 : (Cond.code y bytes maxL ret).before (Value.ref b :: As).toArray U = true := hws _ hcw _ _ X₁.warmed
  have h3 : (Cond.initialized y.cls).before (Value.ref b :: As).toArray U = true := word_at X₁.warmed (Or.inl (by first | rfl | simp [Cond.onTables, Cond.keeps, Cond.steady])) hini
  obtain ⟨methY, cY, hmY, hcY, -, hlY, -, -, -, -⟩ := Cond.code_spec hnU h2
  obtain ⟨kY, hkY, -⟩ := className_of_methodNamed hnU
  have hinitY := Cond.initialized_spec (findClass_of_methodNamed hnU) hkY h3
  have hh : At U (F0 m pc ls rest).method c below := X₁.here
  have hlo9 : 8 + (maxL + 11) + (headSpec wd rm).room.locals ≤ R.locals := hlo
  have hWr : 2 * (F0 m pc ls rest).monitorRoom + ((F0 m pc ls rest).stack.map fun v => v.category).sum ≤ 8 := lv_room hW
  have happ : (headSpec wd rm).appliesLoose y e.platform (U.calling (F0 m pc ls rest) mk (Value.ref b :: As).toArray) = true :=
    Spec.appliesLoose_calling (g := F0 m pc ls rest) hh hdg' hnU hkY hinitY
      (X₁.room_calling (g := F0 m pc ls rest) (R' := (headSpec wd rm).room) (hsize.trans hml.symm) hmY hcY hfr (by rw [hlY]; omega) hf.1 hf.2) h1
  obtain ⟨mid, hmid⟩ := hh.above
  have hfr9 : (U.setTop (F0 m pc ls rest)).frames = (.java (F0 m pc ls rest) :: mid) ++ below := by rw [State.frames_setTop' _ hh.top, hmid]; rfl
  obtain ⟨o, s₂, hsteps, -, hend, q9, ce, L, rfl, hce, hcv, hcl, hF, hW₂, hsm, hL⟩ := Steps.callFree (hM H.size) p X.admits X.cas X.clock (acts := []) hfr9 happ (xs_blindY _ _ (F0 m pc ls rest) mk hPc) trivial
  rw [State.frames_setTop' _ hh.top] at hend
  obtain ⟨g₀, hg0⟩ := Option.isSome_iff_exists.mp hh.top
  obtain ⟨r, hr⟩ := State.topJava?_eq_some.mp hg0
  have hr' : (({ U with heap := s₂.heap, slotsUsed := s₂.slotsUsed } : State).setVm s₂.vm).frames = .java g₀ :: r := hr
  obtain ⟨e2, p2, p3, p4, p5, p6⟩ := id hsm
  have e3 : s₂ = ({ (U.calling (F0 m pc ls rest) mk (Value.ref b :: As).toArray).setFrames s₂.frames with heap := s₂.heap, slotsUsed := s₂.slotsUsed } : State).setVm s₂.vm := by
    have h9 : s₂ = ({ s₂ with vm := (U.calling (F0 m pc ls rest) mk (Value.ref b :: As).toArray).vm } : State).setVm s₂.vm := rfl
    exact h9.trans (congrArg (fun z : State => z.setVm s₂.vm) e2)
  have hf₂ : s₂.frames = .throwing q9 :: .java (F0 m pc ls rest) :: U.frames.tail := hend
  have hW' : U.WarmedH s₂.vm := hW₂
  have hs₂ : s₂ = ((({ U with heap := s₂.heap, slotsUsed := s₂.slotsUsed } : State).setVm s₂.vm).setTop (F0 m pc ls rest)).pushFrame (.throwing q9) := by
    refine e3.trans ?_
    rw [hf₂, State.calling_eq hh.top, State.setFrames_setFrames, State.pushFrame, State.frames_setTop _ hr', State.setTop_of_frames _ hr', State.setFrames_setFrames, hr]
    rfl
  have hsame : U.sameButNew ({ U with heap := s₂.heap, slotsUsed := s₂.slotsUsed } : State) L rm.cells rm.slots := by
    refine ⟨?_, p2, p3, p4, p5, p6⟩
    obtain ⟨t, ht, -⟩ := State.frames_cons hr
    show ({ U with heap := s₂.heap, slotsUsed := s₂.slotsUsed } : State) = { U.setFrames U.frames with heap := s₂.heap, slotsUsed := s₂.slotsUsed }
    rw [State.setFrames_self ht]
  have X₂ : Stand p l e R s m args below meth c (({ U with heap := s₂.heap, slotsUsed := s₂.slotsUsed } : State).setVm s₂.vm) (locs ++ L) (cells + rm.cells) (slots + rm.slots) :=
    ⟨X₁.admits, X₁.cas, X₁.clock, X₁.frames, X₁.room, X₁.hears, X₁.method, X₁.code, (X₁.here.setHeapUsed s₂.heap s₂.slotsUsed).setVm hW'.alike, X₁.tail, State.WarmedH.trans X₁.warmed hW', X₁.limits, X₁.bytes, X₁.same.trans (hsame.setVm s.vm)⟩
  have hcome : Steps p.tables e below (T.setTop (F0 m pc ls st0)) (((({ U with heap := s₂.heap, slotsUsed := s₂.slotsUsed } : State).setVm s₂.vm).setTop (F0 m pc ls rest)).pushFrame (.throwing q9)) := by
    rw [← hs₂]
    exact hstep₁ _ fun acts => by rw [doInvoke_state]; exact hsteps
  have hTh : (({ U with heap := s₂.heap, slotsUsed := s₂.slotsUsed } : State).setVm s₂.vm).heap = s₂.heap := rfl
  have hclS : s.vm.findClass E = some ce.cls := by
    have h9 : U.vm.findClass E = some ce.cls := hcl
    rw [X₁.warmed.alike.findClass] at h9
    exact h9
  obtain ⟨hk9, hS9⟩ := xs_keep (st₀ := U.calling (F0 m pc ls rest) mk (Value.ref b :: As).toArray) (T' := ({ U with heap := s₂.heap, slotsUsed := s₂.slotsUsed } : State).setVm s₂.vm) (t := s₂) hTU hTh hS hF9 hL hF
  generalize (({ U with heap := s₂.heap, slotsUsed := s₂.slotsUsed } : State).setVm s₂.vm) = T' at X₂ hcome hTh hk9 hS9
  have hpl : e.platform.magicAccessors = ({} : Platform).magicAccessors := by rw [X.admits.platform]
  obtain ⟨c3, c4, hc3, hc4, hasg⟩ := Cond.castable_spec hcast
  cases Option.some.inj (hc3.symm.trans hclS)
  obtain ⟨c5, hc5, hcl5⟩ := Cond.classLink_spec ho hlink e.platform hpl
  cases Option.some.inj (hc4.symm.trans hc5)
  obtain ⟨vm', X', st⟩ := X₂.thenCaughtThrough q9 (g := F0 m pc ls rest) rfl hcome (by rw [hTh]; exact hce) (by rw [hcv]; rfl) (by obtain ⟨k9, h9, -⟩ := Vm.findClass_spec hclS; exact ⟨k9, h9⟩) pre x suf hsplit
    (fun z hz => by
      obtain ⟨hz0, nm, hl1, a8, b8, g1, g2, g3⟩ := hpass z hz
      obtain ⟨c6, hc6, hcl6⟩ := Cond.classLink_spec ho hl1 e.platform hpl
      cases Option.some.inj (g1.symm.trans hclS)
      cases Option.some.inj (g2.symm.trans hc6)
      exact Or.inr ⟨hz0, _, hcl6, g3⟩) hx (Or.inr ⟨h0, c4, hcl5, hasg⟩)
  obtain ⟨t2, a1, b1⟩ := kk q9 T'.heap (locs ++ L) (hP.kept (fun i q hq => hk9 q.1 ((hP i q hq).lt) (xs_nA_nil ((hP i q hq).lt)))) hS9 (T'.setVm vm') rfl X'
  exact ⟨t2, st.trans a1, b1⟩
end XCR
end XRD
