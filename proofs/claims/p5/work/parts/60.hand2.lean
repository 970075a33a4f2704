section XH2
/-- what else the wrappers need: an UnsupportedOperationException is none of the other two -/
def xzz (U : State) : Prop := va_Nc "java/lang/UnsupportedOperationException" "java/lang/IllegalArgumentException" U ∧ va_Nc "java/lang/UnsupportedOperationException" "java/lang/IndexOutOfBoundsException" U
theorem xzz.warm {s U : State} (hW : s.WarmedH U.vm) (h : xzz s) : xzz U := ⟨va_Nc.moved hW.alike h.1, va_Nc.moved hW.alike h.2⟩
def xPreJ (D : va_G) (cl : List vw_C) (tys : List (ClassId × FieldType)) (av : List Value) (w : va_W) (sz : Nat) : Array Value → State → Prop := va_Pc av (fun U => U.heap.size = sz ∧ va_P D cl w U.heap ∧ va_K D cl tys U ∧ va_D (fun _ => True) w ∧ xs_N U ∧ xz (va_A w sz) U ∧ xzz U)
theorem xs_blindJ {av : List Value} {sz : Nat} {D : va_G} {cl : List vw_C} {tys : List (ClassId × FieldType)} {w : va_W} : FrameBlind (xPreJ D cl tys av w sz) :=
  fun a U g mk q => by obtain ⟨q0, q1, qP, qK, qD, qN, qZ, qY⟩ := q; exact ⟨q0, q1, qP, va_K.moved (u := U) (U := U.calling g mk a) (Vm.Alike.refl U.vm) qK, qD, xs_N.warm (s := U) (U := U.calling g mk a) (State.WarmedH.refl U) qN, xz.down (s := U) (U := U.calling g mk a) (H := U.heap) (locs := []) qZ va_S.rf (fun _ h => h) rfl (State.WarmedH.refl U), xzz.warm (s := U) (U := U.calling g mk a) (State.WarmedH.refl U) qY⟩
theorem xs_preJ {D : va_G} {cl : List vw_C} {tys : List (ClassId × FieldType)} {s : State} {ws w : va_W} {A : Nat → Prop} {H : Heap} {locs : List Loc} (av : List Value) (hN : xs_N s) (hZ : xz A s) (hY : xzz s) (hS : va_S A s.heap H locs) (hA : ∀ q, s.heap.size ≤ q → A q) (hK : va_K D cl tys s) (hP : va_P D cl ws H) (hD : va_D A ws) (is : List Nat) (hn : va_nd is = true) (hs : is.map (fun i => ws[i]?) = w.map some) :
    ∀ U : State, U.heap = H → s.WarmedH U.vm → xPreJ D cl tys av w H.size av.toArray U := fun U hU hW =>
  ⟨rfl, by rw [hU], by rw [hU]; exact xs_P_sub hP is hs, va_K.moved hW.alike hK, (hD.sub is hn hs).weaken (fun _ _ _ _ => trivial), xs_N.warm hW hN, xz.down hZ hS (va_free (wc := w) hD hS hA is hs) hU hW, xzz.warm hW hY⟩
def xJ {σ : Type} (l : Launch) (y : MethodName) (wd : List Cond) (rm : Room) (D : va_G) (cl : List vw_C) (tys : List (ClassId × FieldType)) (av : List Value) (w : va_W) (f : σ → Prop) (r : σ → Option Value) (w2 : σ → va_W) : Prop :=
  ∀ sz : Nat, Met l y wd rm (xPreJ D cl tys av w sz) (fun _ => xPost D cl w sz f r w2) rm.cells rm.slots (va_A w sz)
theorem xJ.of {σ : Type} {l : Launch} {y : MethodName} {wd wd' : List Cond} {rm : Room} {D : va_G} {cl : List vw_C} {tys : List (ClassId × FieldType)} {av : List Value} {w : va_W} {f : σ → Prop} {r : σ → Option Value} {w2 : σ → va_W} (cc : ByteArray) (nL : Nat) (ret : Option FieldType) (hh : List (Nat × Nat × Nat × Nat))
    (hy : plainFor y = true) (hw : wd = Cond.codeWith y cc nL ret hh :: wd') (hlen : (lg_sl av).length ≤ nL)
    (body : ∀ (p : Program) (e : Env) (s : State) (m : MethodId) (below : List Frame) (meth : Method) (c : Code) (A : Nat → Prop) (ls : Array Slot), A = va_A w s.heap.size → xC p s m av.toArray meth c cc nL ret y.cls y.name wd D cl tys A → c.exceptionTable.toList = tableOf hh → xz A s → xzz s → va_P D cl w s.heap → va_D A w → va_S A s.heap s.heap [] → lv_has ls nL (lv_args 0 av) →
      W p l e (headSpec wd rm).room s m av.toArray below meth c s.heap [] 0 0 (xZ below av.toArray s D cl w s.heap.size rm.cells rm.slots f r w2) (F0 m 0 ls [])) : xJ l y wd rm D cl tys av w f r w2 := by
  intro sz
  refine MetFree.of_bodySF (code := cc) (maxLocals := nL) (ret := ret) hy (fun args s m h hn => ?_) (fun p e s m args below meth c s₁ B hml hv _ => ?_)
  · obtain ⟨m9, meth, c, hn9, h1, h2, h3, h4, -, h5, h6, -⟩ := Cond.codeWith_spec (atoms_spec (ws := wd) h _ (by rw [hw]; exact List.mem_cons_self))
    cases hn.symm.trans hn9
    exact ⟨meth, c, h1, h2, h3, h4, h5, h6⟩
  · obtain ⟨rfl, hsz, hP, hK, hD0, hN, hZ, hY⟩ := hv
    subst hsz
    have ht : c.exceptionTable.toList = tableOf hh := by
      obtain ⟨m9, meth9, c9, hn9, h1, h2, -, -, h6, -⟩ := Cond.codeWith_spec (atoms_spec (ws := wd) B.pre _ (by rw [hw]; exact List.mem_cons_self))
      cases Option.some.inj (hn9.symm.trans B.named)
      cases Option.some.inj (h1.symm.trans B.method)
      cases Option.some.inj (h2.symm.trans (Stand.of_body B).code)
      rw [← h6, table_eq]
    have K := body p e s m below meth c (va_A w s.heap.size) _ rfl ⟨B.exec, B.bytes, B.returns, hml, findClass_of_methodNamed B.named, B.notSynchronized, atoms_spec (ws := wd) B.pre, (name_of_methodNamed B.named B.method).1, hN, hK, fun q h => Or.inr h⟩ ht hZ hY hP (hD0.self (sz := s.heap.size)) va_S.rf (lv_entry av hlen)
    rw [← lg_entry_eq] at K
    obtain ⟨t, a1, o, b1, b2, b3, b4⟩ := K s₁ (by rw [B.state]; rfl) (Stand.of_body B)
    exact ⟨t, o, a1, b1, b2, b3, b4⟩
section XHS
variable {p : Program} {l : Launch} {e : Env} {R : Room} {s : State} {m : MethodId} {args : Array Value} {below : List Frame} {meth : Method} {c : Code} {H : Heap} {locs : List Loc} {cells slots : Nat} {Q : State → Prop}
variable {pc : Nat} {ls : Array Slot} {rest st0 : List Value} {A : Nat → Prop} {D : va_G} {cl : List vw_C} {tys : List (ClassId × FieldType)} {cc : ByteArray}
variable {y : MethodName} {bytes : ByteArray} {maxL nL n index : Nat} {ret : Option FieldType} {wd : List Cond} {rm : Room} {own : String} {hh : List (Nat × Nat × Nat × Nat)}
theorem xw_callJ {σ : Type} {f : σ → Prop} {r : σ → Option Value} {w2 : σ → va_W} {ws w wr : va_W} (As : List Value) (hM : xJ l y wd rm D cl tys As w f r w2) (hwd : wd = Cond.codeWith y bytes maxL ret hh :: xU) (S : CallFix p m c cc nL s args xU own)
    (hcd : Cond.codeWith y bytes maxL ret hh ∈ xU) (hli : Cond.methodLink own index y ∈ xU) (hst : Cond.static y ∈ xU) (hin : Cond.initialized y.cls ∈ xU) (hd : y.cls ≠ "java/lang/invoke/MethodHandle" ∧ y.cls ≠ "java/lang/invoke/VarHandle" ∧ (parseMethodDescriptor y.desc).map (fun d => d.parameters.length) = some n) (hRm : rm.frames + 1 ≤ R.frames ∧ 8 + (maxL + 11) + rm.locals ≤ R.locals)
    (hn9 : As.length = n) (hsize : ls.size = nL) (hstack : st0 = As.reverse ++ rest) (hW : (rest.map fun v => v.category).sum ≤ 8) (hdg : decode cc pc = .ok (.invokestatic index, 3)) (hf : cells + rm.cells ≤ R.cells ∧ slots + rm.slots ≤ R.slots)
    (isC isR : List Nat) (hC : isC.map (fun i => ws[i]?) = w.map some) (hR : isR.map (fun i => ws[i]?) = wr.map some) (hnC : va_nd isC = true) (hn : va_nd isR = true) (hdis : ∀ i ∈ isR, i ∉ isC) (hN : xs_N s) (hZ : xz A s) (hY : xzz s) (hK : va_K D cl tys s) (hP : va_P D cl ws H) (hD : va_D A ws) (hS : va_S A s.heap H locs) (hA : ∀ q, s.heap.size ≤ q → A q)
    (kk : ∀ (u : σ) (H1 : Heap) (locs1 : List Loc), f u → va_P D cl (wr ++ w2 u) H1 → va_D A (wr ++ w2 u) → va_S A s.heap H1 locs1 → W p l e R s m args below meth c H1 locs1 (cells + rm.cells) (slots + rm.slots) Q (F0 m (pc + 3) ls ((r u).toList ++ rest))) : W p l e R s m args below meth c H locs cells slots Q (F0 m pc ls st0) := by
  refine xw_back (mc := rm.cells) (ms := rm.slots) (w := w) (f := f) (r := r) (w2 := w2) ?_ isC isR hC hR hn hdis hP hD hS hA kk
  obtain ⟨hx9, hb, hml, ho, hU⟩ := S
  have hws : ∀ w ∈ wd, ∀ (a' : Array Value) (U : State), s.WarmedH U.vm → w.before a' U = true := pay_in hU (by
    rw [hwd]
    intro w hw
    rcases List.mem_cons.mp hw with e9 | h
    · rw [e9]; exact ⟨hcd, xU_good hcd⟩
    · exact ⟨h, xU_good h⟩)
  have hK9 : Back l R p e below s args y 3 8 (PreOf R rm.cells rm.slots (xPreJ D cl tys As w H.size)) (PostOf (fun _ => xPost D cl w H.size f r w2) rm.cells rm.slots (va_A w H.size)) :=
    va_backW (hh := hh) (bytes := bytes) (maxL := maxL) (ret := ret) (hM H.size) xs_blindJ rfl rfl hRm.1 hRm.2 hws (by rw [hwd]; exact List.mem_cons_self) (fun a' U hW => word_at hW (Or.inl (by first | rfl | simp [Cond.onTables, Cond.keeps, Cond.steady])) (hU _ hin))
  intro T hT X
  have hdg' : decode c.code pc = .ok (.invokestatic index, 3) := by rw [hb]; exact hdg
  obtain ⟨mk, methM, cM, hnamed, hmethM, -, -, -, -, -, -, hsigM⟩ := Cond.codeWith_spec (hU _ hcd)
  have hstatic : methM.isStatic = true := Cond.static_spec hnamed hmethM (hU _ hst)
  obtain ⟨kP, hkP, -⟩ := className_of_methodNamed hnamed
  have hinitP : kP.init = .initialized := Cond.initialized_spec (findClass_of_methodNamed hnamed) hkP (hU _ hin)
  have hlen : As.length = methM.sig.parameters.length := by
    have h9 := hd.2.2
    rw [hsigM] at h9
    exact hn9.trans (Option.some.inj h9).symm
  obtain ⟨vm₁, X₁, hstep₁⟩ := X.invokestatic hx9 ho (hU _ hli) hnamed hmethM hstatic hkP hinitP ⟨hd.1, hd.2.1⟩ (g := F0 m pc ls st0) rfl (argsL := As) (rest := rest) hlen hstack hdg'
  obtain ⟨v, ⟨U', l2, c2, s2⟩, X', ⟨g', mk', t, L, e1, e2, hq, h1, hL, h2, h3⟩, hsteps⟩ := hK9 m meth c ⟨T.setVm vm₁, locs, cells, slots⟩ (F0 m pc ls rest) (.invokestatic index) mk As.toArray X₁ rfl (hsize.trans hml.symm) hdg' (lv_room hW) (X₁.named hnamed) ⟨hf.1, hf.2, xs_preJ As hN hZ hY hS hA hK hP hD isC hnC hC (T.setVm vm₁) hT X₁.warmed⟩
  dsimp only [Pt.U, Pt.locs, Pt.cells, Pt.slots] at X' e1 e2 h1 h2 h3 hsteps
  subst h1; subst h2; subst h3
  exact ⟨v, (T.setVm vm₁).calling g' mk' As.toArray, t, U', L, hT, X', hL, e1, e2, hq, fun target h => hstep₁ _ fun acts => by rw [doInvoke_state]; exact hsteps.trans h⟩
end XHS
theorem xs_way {lo b : Int32} {lv : Nat} (hlv : lv ≤ 200) (h : lo = (-1) ∨ ∃ k, k < lv ∧ lo = nI k) (hn : ¬ (b < 0 ∨ lo < b)) : ∃ kg k, lo = nI kg ∧ b = nI k ∧ kg ≤ 200 ∧ k ≤ kg := by
  have h1 : ¬ b < 0 := fun z => hn (Or.inl z)
  have h2 : b ≤ lo := Int32.not_lt.mp (fun z => hn (Or.inr z))
  rcases h with e | ⟨kg, h3, e⟩
  · rw [e] at h2
    exact absurd (Int32.lt_of_le_of_lt h2 (by decide)) h1
  · rw [e] at h2
    obtain ⟨k, h4, h5⟩ := mo_bk h1 h2 (by omega)
    exact ⟨kg, k, e, h5, by omega, h4⟩
end XH2
