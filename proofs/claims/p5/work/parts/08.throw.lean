section XTH
/-- a static field of Throwable: where its cell lies, and that the two words on it hold wherever that cell is unchanged -/
def xst (n d : String) (A : Nat → Prop) (U : State) (H : Heap) : Prop := ∃ (a : Nat) (cell : Cell), H[a]? = some cell ∧ ¬ A a ∧ ∀ (U' : State) (args : Array Value), U.vm.Alike U'.vm → U'.heap[a]? = some cell → (Cond.isRef (.static Bundle.tN n d)).before args U' = true ∧ (Cond.laysStatic Bundle.tN n d).before args U' = true
/-- what a throw needs of the start beside the tables' words -/
def xz (A : Nat → Prop) (U : State) : Prop := xst "UNASSIGNED_STACK" Bundle.steD A U U.heap ∧ xst "SUPPRESSED_SENTINEL" Bundle.listD A U U.heap ∧ (∀ q ∈ xs_strs, ∃ sa : Nat, vk_R "ExploreShares" q.1 q.2 sa U) ∧ va_Nc "java/lang/IllegalArgumentException" "java/lang/IndexOutOfBoundsException" U
theorem xst.down {n d : String} {A A' : Nat → Prop} {s U : State} {H : Heap} {locs : List Loc} (h : xst n d A s s.heap) (hS : va_S A s.heap H locs) (hAA : ∀ q, A' q → A q) (hU : U.heap = H) (hW : s.WarmedH U.vm) : xst n d A' U U.heap := by
  obtain ⟨a, cell, h1, h2, h3⟩ := h
  refine ⟨a, cell, ?_, fun z => h2 (hAA a z), fun U' args hal hc => h3 U' args (hW.alike.trans hal) hc⟩
  rw [hU, hS.2.1 a (Array.getElem?_eq_some_iff.mp h1).1 h2]
  exact h1
theorem xz.down {A A' : Nat → Prop} {s U : State} {H : Heap} {locs : List Loc} (h : xz A s) (hS : va_S A s.heap H locs) (hAA : ∀ q, A' q → A q) (hU : U.heap = H) (hW : s.WarmedH U.vm) : xz A' U :=
  ⟨h.1.down hS hAA hU hW, h.2.1.down hS hAA hU hW, fun q hq => by obtain ⟨sa, h9⟩ := h.2.2.1 q hq; exact ⟨sa, h9.warm hW⟩, va_Nc.moved hW.alike h.2.2.2⟩
theorem xst.words {n d : String} {A : Nat → Prop} {s : State} (h : xst n d A s s.heap) (args : Array Value) : (Cond.isRef (.static Bundle.tN n d)).before args s = true ∧ (Cond.laysStatic Bundle.tN n d).before args s = true := by
  obtain ⟨a, cell, h1, -, h3⟩ := h
  exact h3 s args (Vm.Alike.refl s.vm) h1
def xPreZ (D : va_G) (cl : List vw_C) (tys : List (ClassId × FieldType)) (av : List Value) (w : va_W) (sz : Nat) : Array Value → State → Prop := va_Pc av (fun U => U.heap.size = sz ∧ va_P D cl w U.heap ∧ va_K D cl tys U ∧ va_D (fun _ => True) w ∧ xs_N U ∧ xz (va_A w sz) U)
/-- a method that throws an E: where it ends -/
def xTh (E : String) (w : va_W) (sz mc ms : Nat) : Array Value → State → Outcome → State → Prop := fun _ st o t => ∃ (q : Addr) (ce : Cell) (L : List Loc), o = .threw q ∧ t.heap[q]? = some ce ∧ ce.vm = .none ∧ st.vm.findClass E = some ce.cls ∧ va_F (va_A w sz) st t ∧ st.WarmedH t.vm ∧ st.sameButNew ({ t with vm := st.vm } : State) L mc ms ∧ ∀ z ∈ L, va_A w sz z.base
/-- from the cells w it throws an E; nothing that was there changes but of these cells -/
def xT (l : Launch) (y : MethodName) (wd : List Cond) (rm : Room) (D : va_G) (cl : List vw_C) (tys : List (ClassId × FieldType)) (av : List Value) (w : va_W) (E : String) : Prop :=
  ∀ sz : Nat, MetFree l y (headSpec wd rm) (xPreZ D cl tys av w sz) (fun _ _ _ _ _ => True) (xTh E w sz rm.cells rm.slots)
theorem xs_blindZ {av : List Value} {sz : Nat} {D : va_G} {cl : List vw_C} {tys : List (ClassId × FieldType)} {w : va_W} : FrameBlind (xPreZ D cl tys av w sz) :=
  fun a U g mk q => by obtain ⟨q0, q1, qP, qK, qD, qN, qZ⟩ := q; exact ⟨q0, q1, qP, va_K.moved (u := U) (U := U.calling g mk a) (Vm.Alike.refl U.vm) qK, qD, xs_N.warm (s := U) (U := U.calling g mk a) (State.WarmedH.refl U) qN, xz.down (s := U) (U := U.calling g mk a) (H := U.heap) (locs := []) qZ va_S.rf (fun _ h => h) rfl (State.WarmedH.refl U)⟩
theorem xs_preZ {D : va_G} {cl : List vw_C} {tys : List (ClassId × FieldType)} {s : State} {ws w : va_W} {A : Nat → Prop} {H : Heap} {locs : List Loc} (av : List Value) (hN : xs_N s) (hZ : xz A s) (hS : va_S A s.heap H locs) (hA : ∀ q, s.heap.size ≤ q → A q) (hK : va_K D cl tys s) (hP : va_P D cl ws H) (hD : va_D A ws) (is : List Nat) (hn : va_nd is = true) (hs : is.map (fun i => ws[i]?) = w.map some) :
    ∀ U : State, U.heap = H → s.WarmedH U.vm → xPreZ D cl tys av w H.size av.toArray U := fun U hU hW =>
  ⟨rfl, by rw [hU], by rw [hU]; exact xs_P_sub hP is hs, va_K.moved hW.alike hK, (hD.sub is hn hs).weaken (fun _ _ _ _ => trivial), xs_N.warm hW hN, xz.down hZ hS (va_free (wc := w) hD hS hA is hs) hU hW⟩
/-- what a walk in a throwing method owes -/
def xZT (below : List Frame) (args : Array Value) (s : State) (E : String) (w : va_W) (sz mc ms : Nat) : State → Prop := fun t => ∃ o, t.status = .running ∧ Ended t below o ∧ xTh E w sz mc ms args s o t
theorem xT.of {l : Launch} {y : MethodName} {wd wd' : List Cond} {rm : Room} {D : va_G} {cl : List vw_C} {tys : List (ClassId × FieldType)} {av : List Value} {w : va_W} {E : String} (cc : ByteArray) (nL : Nat) (ret : Option FieldType)
    (hy : plainFor y = true) (hw : wd = Cond.code y cc nL ret :: wd') (hlen : (lg_sl av).length ≤ nL)
    (body : ∀ (p : Program) (e : Env) (s : State) (m : MethodId) (below : List Frame) (meth : Method) (c : Code) (A : Nat → Prop) (ls : Array Slot), A = va_A w s.heap.size → xC p s m av.toArray meth c cc nL ret y.cls y.name wd D cl tys A → (∀ x ∈ c.exceptionTable.toList, False) → xz A s → va_P D cl w s.heap → va_D A w → va_S A s.heap s.heap [] → lv_has ls nL (lv_args 0 av) →
      W p l e (headSpec wd rm).room s m av.toArray below meth c s.heap [] 0 0 (xZT below av.toArray s E w s.heap.size rm.cells rm.slots) (F0 m 0 ls [])) : xT l y wd rm D cl tys av w E := by
  intro sz
  refine MetFree.of_bodySF (code := cc) (maxLocals := nL) (ret := ret) hy (fun args s m h hn => ?_) (fun p e s m args below meth c s₁ B hml hv _ => ?_)
  · obtain ⟨meth, c, h1, h2, h3, h4, h5, h6, -, -⟩ := Cond.code_spec hn (atoms_spec (ws := wd) h _ (by rw [hw]; exact List.mem_cons_self))
    exact ⟨meth, c, h1, h2, h3, h4, h5, h6⟩
  · obtain ⟨rfl, hsz, hP, hK, hD0, hN, hZ⟩ := hv
    subst hsz
    have ht : ∀ x ∈ c.exceptionTable.toList, False := by
      obtain ⟨meth9, c9, h1, h2, -, -, -, -, h7, -⟩ := Cond.code_spec B.named (atoms_spec (ws := wd) B.pre _ (by rw [hw]; exact List.mem_cons_self))
      cases Option.some.inj (h1.symm.trans B.method)
      cases Option.some.inj (h2.symm.trans (Stand.of_body B).code)
      intro x hx
      rw [Array.isEmpty_iff.mp h7] at hx
      cases hx
    have K := body p e s m below meth c (va_A w s.heap.size) _ rfl ⟨B.exec, B.bytes, B.returns, hml, findClass_of_methodNamed B.named, B.notSynchronized, atoms_spec (ws := wd) B.pre, (name_of_methodNamed B.named B.method).1, hN, hK, fun q h => Or.inr h⟩ ht hZ hP (hD0.self (sz := s.heap.size)) va_S.rf (lv_entry av hlen)
    rw [← lg_entry_eq] at K
    obtain ⟨t, a1, o, b1, b2, b3⟩ := K s₁ (by rw [B.state]; rfl) (Stand.of_body B)
    exact ⟨t, o, a1, b1, b2, b3⟩
section XTR
variable {p : Program} {l : Launch} {e : Env} {R : Room} {s : State} {m : MethodId} {args : Array Value} {below : List Frame} {meth : Method} {c : Code} {H : Heap} {locs : List Loc} {cells slots : Nat} {Q : State → Prop}
variable {pc : Nat} {ls : Array Slot} {rest st0 : List Value} {A : Nat → Prop} {D : va_G} {cl : List vw_C} {tys : List (ClassId × FieldType)} {cc : ByteArray}
theorem xs_same {U : State} {L : List Loc} {k n : Nat} (h : s.sameButNew ({ U with vm := s.vm } : State) L k n) (hL : ∀ z ∈ L, A z.base) : va_F A s U := by
  obtain ⟨-, h2, -, -, -, h6⟩ := h
  refine ⟨h2, fun q hq hz => ?_⟩
  obtain ⟨c9, e1, e2, -, e4⟩ := h6 q _ (Array.getElem?_eq_getElem hq)
  have hs : c9.slots = (s.heap[q]).slots := Array.ext_getElem? fun i => e4 i fun hm => hz (hL _ hm)
  rw [hs] at e2
  have e5 : U.heap[q]? = some c9 := e1
  rw [e5, e2, Array.getElem?_eq_getElem hq]
/-- throw new E("text") -/
theorem xw_throwS {w : va_W} {mc ms : Nat} (hexec : p.tables.exec = Jvm.exec) (hb : c.code = cc) (htr : l.stackTraces = false) {own cls text : String} {names : List String} {ik is ic : Nat} (hown : s.vm.findClass own = some m.cls) (hcls : Bundle.fit cls = true) (hnames : ∀ n ∈ names, Bundle.fit n = true)
    (hk : (Cond.classLink own ik cls).before args s = true) (hini : (Cond.initialized cls).before args s = true) (hstr : ∃ sa : Nat, vk_R own is text sa s) (hat : ∀ a ∈ Bundle.ownAtoms own ic cls names, a.before args s = true)
    (hAe : A = va_A w s.heap.size) (hP0 : va_P D cl w s.heap) (hS : va_S A s.heap H locs) (hsize : ls.size = c.maxLocals)
    (d0 : decode cc pc = .ok (.new ik, 3)) (d3 : decode cc (pc + 3) = .ok (.dup, 1)) (d4 : decode cc (pc + 4) = .ok (.ldc is, 2)) (d6 : decode cc (pc + 6) = .ok (.invokespecial ic, 3)) (d9 : decode cc (pc + 9) = .ok (.athrow, 1))
    (hout : ∀ x ∈ c.exceptionTable.toList, False) (hRframes : names.length + 3 < R.frames) (hRlocals : (rest.map fun v => v.category).sum + (13 * (names.length + 1) + 43) ≤ R.locals) (hRcells : cells + 1 ≤ R.cells) (hRslots : slots + 6 ≤ R.slots) (hlocks : meth.locks = false) (hc : cells + 1 ≤ mc) (hs : slots + 6 ≤ ms) :
    W p l e R s m args below meth c H locs cells slots (xZT below args s cls w s.heap.size mc ms) (F0 m pc ls rest) := by
  subst hAe
  obtain ⟨sa, hsa⟩ := hstr
  intro T hT X
  have htr' : e.platform.stackTraces = false := (show e.platform.stackTraces = l.stackTraces by rw [X.admits.platform]).trans htr
  have hlocs : ∀ x ∈ locs, ∀ cell, s.heap[x.base]? = some cell → cell.vm.isStatics = false := fun x hx cell hcell => by
    rcases hS.2.2 x hx with ⟨k, ev, hk9⟩ | h9
    · have h8 := hP0 k _ hk9
      cases ev with
      | inl a9 =>
        have h7 : s.heap[x.base]? = some (vp_cell a9.1 a9.2) := h8
        rw [h7] at hcell
        cases hcell
        obtain ⟨c9, n9, f9⟩ := a9
        rcases f9 with f | f | f | f | f <;> rfl
      | inr o9 =>
        obtain ⟨r, -, cell9, g1, -, g3, -⟩ := h8
        have g1' : s.heap[x.base]? = some cell9 := g1
        rw [g1'] at hcell
        cases hcell
        rw [g3]; rfl
    · have := (Array.getElem?_eq_some_iff.mp hcell).1
      omega
  obtain ⟨vm₁, cX, kX, hfX, hkX, -, -, X₁, st1⟩ := X.newCold hexec (own := own) (C := cls) (index := ik) (n := 6) hown hk (hat _ (by simp [Bundle.ownAtoms])) hini (g := F0 m pc ls rest) rfl (by rw [hb]; exact d0) hRcells hRslots
  have hcellA := State.heap_pushCell_size (T.setVm vm₁) { cls := cX, slots := kX.instanceTypes.map defaultValue, vm := .none }
  have hcat : ∀ x : Nat, (Value.ref x).category = 1 := fun _ => rfl
  have d3' : decode c.code (pc + 3) = .ok (.dup, 1) := by rw [hb]; exact d3
  have d4' : decode c.code (pc + 4) = .ok (.ldc is, 2) := by rw [hb]; exact d4
  have hge : s.heap.size ≤ T.heap.size := by rw [hT]; exact hS.1
  generalize (T.setVm vm₁).pushCell { cls := cX, slots := kX.instanceTypes.map defaultValue, vm := .none } = T1 at X₁ st1 hcellA
  obtain ⟨U, hsteps, hrun, hend, hW, hsame, ce, hce, hO⟩ := X₁.ctorThrowS hexec htr' (own := own) (cls := cls) (names := names) (ic := ic) hown hcls hnames hat hlocs hfX hkX hcellA hge (msg := .ref sa) rfl
    (g := { method := m, pc := pc + 6, locals := ls, stack := .ref sa :: .ref T.heap.size :: .ref T.heap.size :: rest, locked := none }) rfl hsize rfl rfl (rest := rest) rfl
    (by rw [hb]; exact d6) (by rw [hb]; exact d9) (fun x hx => (hout x hx).elim) hRframes (by simp only [List.map_cons, List.sum_cons, hcat]; omega) hlocks
  refine ⟨U, st1 _ ?_, .threw T.heap.size, hrun, hend, T.heap.size, ce, locs, rfl, hce, hO.vm, hO.cls, xs_same hsame hS.2.2, hW, hsame.mono hc hs, hS.2.2⟩
  show Steps p.tables e below (T1.setTop { method := m, pc := pc + 3, locals := ls, stack := .ref T.heap.size :: rest, locked := none }) _
  jvm_step X₁.here [X₁.here.top, hexec, d3', Value.category]
  exact X₁.ldcString hexec (own := own) (text := text) (index := is) (a := sa) hown hsa.1 hsa.2
    (g := { method := m, pc := pc + 4, locals := ls, stack := .ref T.heap.size :: .ref T.heap.size :: rest, locked := none }) rfl d4' _ hsteps
end XTR
end XTH
