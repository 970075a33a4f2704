section XSB
/-! a method over cells: where it starts, where it ends, what it makes -/
def xPre (D : va_G) (cl : List vw_C) (tys : List (ClassId × FieldType)) (av : List Value) (w : va_W) (sz : Nat) : Array Value → State → Prop := va_Pc av (fun U => U.heap.size = sz ∧ va_P D cl w U.heap ∧ va_K D cl tys U ∧ va_D (fun _ => True) w ∧ xs_N U)
def xPost {σ : Type} (D : va_G) (cl : List vw_C) (w : va_W) (sz : Nat) (f : σ → Prop) (r : σ → Option Value) (w2 : σ → va_W) : State → Outcome → State → Prop := fun st oc t => ∃ u : σ, oc = .returned (r u) ∧ f u ∧ va_P D cl (w2 u) t.heap ∧ va_D (va_A w sz) (w2 u) ∧ va_F (va_A w sz) st t
/-- from the cells w: it answers r u and leaves the cells w2 u, for some u with f u; nothing else that was there changes; it makes at most rm.cells cells of rm.slots slots -/
def xG {σ : Type} (l : Launch) (y : MethodName) (wd : List Cond) (rm : Room) (D : va_G) (cl : List vw_C) (tys : List (ClassId × FieldType)) (av : List Value) (w : va_W) (f : σ → Prop) (r : σ → Option Value) (w2 : σ → va_W) : Prop :=
  ∀ sz : Nat, Met l y wd rm (xPre D cl tys av w sz) (fun _ => xPost D cl w sz f r w2) rm.cells rm.slots (va_A w sz)
theorem xs_blind {av : List Value} {sz : Nat} {D : va_G} {cl : List vw_C} {tys : List (ClassId × FieldType)} {w : va_W} : FrameBlind (xPre D cl tys av w sz) :=
  fun a U g mk q => by obtain ⟨q0, q1, qP, qK, qD, qN⟩ := q; exact ⟨q0, q1, qP, va_K.moved (u := U) (U := U.calling g mk a) (Vm.Alike.refl U.vm) qK, qD, xs_N.warm (s := U) (U := U.calling g mk a) (State.WarmedH.refl U) qN⟩
theorem xs_P_sub {D : va_G} {cl : List vw_C} {ws w : va_W} {H : Heap} (h : va_P D cl ws H) (is : List Nat) (hs : is.map (fun i => ws[i]?) = w.map some) : va_P D cl w H := by
  intro k q hq
  have h1 : (is.map (fun i => ws[i]?))[k]? = some (some q) := by rw [hs, List.getElem?_map, hq]; rfl
  rw [List.getElem?_map] at h1
  cases hi : is[k]? with
  | none => rw [hi] at h1; cases h1
  | some i => rw [hi] at h1; exact h i q (Option.some.inj h1)
theorem xs_pre {D : va_G} {cl : List vw_C} {tys : List (ClassId × FieldType)} {s : State} {ws w : va_W} {A : Nat → Prop} {H : Heap} (av : List Value) (hN : xs_N s) (hK : va_K D cl tys s) (hP : va_P D cl ws H) (hD : va_D A ws) (is : List Nat) (hn : va_nd is = true) (hs : is.map (fun i => ws[i]?) = w.map some) :
    ∀ U : State, U.heap = H → s.WarmedH U.vm → xPre D cl tys av w H.size av.toArray U := fun U hU hW =>
  ⟨rfl, by rw [hU], by rw [hU]; exact xs_P_sub hP is hs, va_K.moved hW.alike hK, (hD.sub is hn hs).weaken (fun _ _ _ _ => trivial), xs_N.warm hW hN⟩
section XSR
variable {p : Program} {l : Launch} {e : Env} {R : Room} {s : State} {m : MethodId} {args : Array Value} {below : List Frame} {meth : Method} {c : Code} {H : Heap} {locs : List Loc} {cells slots : Nat} {Q : State → Prop}
variable {pc : Nat} {ls : Array Slot} {rest st0 : List Value} {A : Nat → Prop} {H0 : Heap} {D : va_G} {cl : List vw_C} {tys : List (ClassId × FieldType)}
theorem xs_keep {w : va_W} {st₀ t T' : State} {L : List Loc} (h0 : st₀.heap = H) (e1 : T'.heap = t.heap) (hS : va_S A H0 H locs) (hF : ∀ q, va_A w H.size q → A q) (hL : ∀ q ∈ L, va_A w H.size q.base) (hf : va_F (va_A w H.size) st₀ t) :
    (∀ q : Nat, q < H.size → ¬ va_A w H.size q → T'.heap[q]? = H[q]?) ∧ va_S A H0 T'.heap (locs ++ L) := by
  obtain ⟨hz, hk⟩ := hf
  rw [h0] at hz hk
  rw [← e1] at hz hk
  exact ⟨hk, Nat.le_trans hS.1 hz, fun q h1 h2 => by
    rw [hk q (Nat.lt_of_lt_of_le h1 hS.1) (fun z => h2 (hF q z))]; exact hS.2.1 q h1 h2, fun q hq => by
    rcases List.mem_append.mp hq with h | h
    · exact hS.2.2 q h
    · exact hF _ (hL q h)⟩
/-- behind a call -/
theorem xw_back {σ : Type} {f : σ → Prop} {r : σ → Option Value} {w2 : σ → va_W} {ws w wr : va_W} {mc ms : Nat} (hr : va_Run p l e R s m args below meth c H locs cells slots mc ms (F0 m pc ls st0) rest (xPost D cl w H.size f r w2) (va_A w H.size))
    (isC isR : List Nat) (hC : isC.map (fun i => ws[i]?) = w.map some) (hR : isR.map (fun i => ws[i]?) = wr.map some) (hn : va_nd isR = true) (hdis : ∀ i ∈ isR, i ∉ isC) (hP : va_P D cl ws H) (hD : va_D A ws) (hS : va_S A H0 H locs) (hA : ∀ q, H0.size ≤ q → A q)
    (kk : ∀ (u : σ) (H1 : Heap) (locs1 : List Loc), f u → va_P D cl (wr ++ w2 u) H1 → va_D A (wr ++ w2 u) → va_S A H0 H1 locs1 → W p l e R s m args below meth c H1 locs1 (cells + mc) (slots + ms) Q (F0 m (pc + 3) ls ((r u).toList ++ rest))) : W p l e R s m args below meth c H locs cells slots Q (F0 m pc ls st0) := by
  have hF := va_free (wc := w) hD hS hA isC hC
  intro T hT X
  obtain ⟨v, st₀, t, T', L, h0, X', hL, e1, e2, ⟨u, hv, hq, hp, hd, hf⟩, st⟩ := hr T hT X
  cases hv
  obtain ⟨hk, hS'⟩ := xs_keep h0 e1 hS hF hL hf
  rw [← e1] at hp
  obtain ⟨j1, j2⟩ := va_join hP hD isC isR hC hR hn hdis hk hF hp hd
  obtain ⟨t2, a1, b1⟩ := kk u T'.heap (locs ++ L) hq j1 j2 hS' T' rfl X'
  exact ⟨t2, st t2 a1, b1⟩
variable {y : MethodName} {bytes cc : ByteArray} {maxL nL n index : Nat} {ret : Option FieldType} {wd : List Cond} {rm : Room} {Ts : List Cond} {own C host : String} {b : Nat}
/-- calls of such a method: by its receiver, of a nest mate, static, a constructor -/
theorem xw_callV {σ : Type} {f : σ → Prop} {r : σ → Option Value} {w2 : σ → va_W} {ws w wr : va_W} (As : List Value) (hM : xG l y wd rm D cl tys (.ref b :: As) w f r w2) (S : CallFix p m c cc nL s args Ts own) (cw : CallW R s args own C index y bytes maxL ret wd rm rm.cells rm.slots n)
    (q0 : Nat) {ci : Nat} {q : vw_C} {fs : List Value} (hc : cl[ci]? = some q) (he : ws[q0]? = some (b, .inr (ci, fs))) (hq : q.1 = C) (hn9 : As.length = n) (hsize : ls.size = nL) (hstack : st0 = As.reverse ++ .ref b :: rest) (hW : (rest.map fun v => v.category).sum ≤ 8) (hdg : decode cc pc = .ok (.invokevirtual index, 3)) (hf : cells + rm.cells ≤ R.cells ∧ slots + rm.slots ≤ R.slots)
    (isC isR : List Nat) (hC : isC.map (fun i => ws[i]?) = w.map some) (hR : isR.map (fun i => ws[i]?) = wr.map some) (hnC : va_nd isC = true) (hn : va_nd isR = true) (hdis : ∀ i ∈ isR, i ∉ isC) (hN : xs_N s) (hK : va_K D cl tys s) (hP : va_P D cl ws H) (hD : va_D A ws) (hS : va_S A H0 H locs) (hA : ∀ q, H0.size ≤ q → A q)
    (kk : ∀ (u : σ) (H1 : Heap) (locs1 : List Loc), f u → va_P D cl (wr ++ w2 u) H1 → va_D A (wr ++ w2 u) → va_S A H0 H1 locs1 → W p l e R s m args below meth c H1 locs1 (cells + rm.cells) (slots + rm.slots) Q (F0 m (pc + 3) ls ((r u).toList ++ rest))) : W p l e R s m args below meth c H locs cells slots Q (F0 m pc ls st0) :=
  xw_back (va_runV S (hM H.size) cw ⟨xs_blind, by have h9 := va_recv hK hP hc he; rw [hq] at h9; exact h9, xs_pre (.ref b :: As) hN hK hP hD isC hnC hC⟩ rfl hn9 hsize hstack (lv_room hW) hdg hf) isC isR hC hR hn hdis hP hD hS hA kk
theorem xw_callN {σ : Type} {f : σ → Prop} {r : σ → Option Value} {w2 : σ → va_W} {ws w wr : va_W} (As : List Value) (hM : xG l y wd rm D cl tys (.ref b :: As) w f r w2) (S : CallFix p m c cc nL s args Ts own) (cw : va_CN R s args own index y host bytes maxL ret wd rm rm.cells rm.slots n ∧ (Cond.instanceMethod y).before args s = true ∧ (Cond.selects C y y).before args s = true)
    (q0 : Nat) {ci : Nat} {q : vw_C} {fs : List Value} (hc : cl[ci]? = some q) (he : ws[q0]? = some (b, .inr (ci, fs))) (hq : q.1 = C) (hn9 : As.length = n) (hsize : ls.size = nL) (hstack : st0 = As.reverse ++ .ref b :: rest) (hW : (rest.map fun v => v.category).sum ≤ 8) (hdg : decode cc pc = .ok (.invokevirtual index, 3)) (hf : cells + rm.cells ≤ R.cells ∧ slots + rm.slots ≤ R.slots)
    (isC isR : List Nat) (hC : isC.map (fun i => ws[i]?) = w.map some) (hR : isR.map (fun i => ws[i]?) = wr.map some) (hnC : va_nd isC = true) (hn : va_nd isR = true) (hdis : ∀ i ∈ isR, i ∉ isC) (hN : xs_N s) (hK : va_K D cl tys s) (hP : va_P D cl ws H) (hD : va_D A ws) (hS : va_S A H0 H locs) (hA : ∀ q, H0.size ≤ q → A q)
    (kk : ∀ (u : σ) (H1 : Heap) (locs1 : List Loc), f u → va_P D cl (wr ++ w2 u) H1 → va_D A (wr ++ w2 u) → va_S A H0 H1 locs1 → W p l e R s m args below meth c H1 locs1 (cells + rm.cells) (slots + rm.slots) Q (F0 m (pc + 3) ls ((r u).toList ++ rest))) : W p l e R s m args below meth c H locs cells slots Q (F0 m pc ls st0) :=
  xw_back (va_runVN S (hM H.size) cw ⟨xs_blind, by have h9 := va_recv hK hP hc he; rw [hq] at h9; exact h9, xs_pre (.ref b :: As) hN hK hP hD isC hnC hC⟩ rfl hn9 hsize hstack (lv_room hW) hdg hf) isC isR hC hR hn hdis hP hD hS hA kk
theorem xw_callS {σ : Type} {f : σ → Prop} {r : σ → Option Value} {w2 : σ → va_W} {ws w wr : va_W} (As : List Value) (hM : xG l y wd rm D cl tys As w f r w2) (S : CallFix p m c cc nL s args Ts own) (cw : CallB R s args own index y bytes maxL ret wd rm rm.cells rm.slots n ∧ (Cond.static y).before args s = true)
    (hn9 : As.length = n) (hsize : ls.size = nL) (hstack : st0 = As.reverse ++ rest) (hW : (rest.map fun v => v.category).sum ≤ 8) (hdg : decode cc pc = .ok (.invokestatic index, 3)) (hf : cells + rm.cells ≤ R.cells ∧ slots + rm.slots ≤ R.slots)
    (isC isR : List Nat) (hC : isC.map (fun i => ws[i]?) = w.map some) (hR : isR.map (fun i => ws[i]?) = wr.map some) (hnC : va_nd isC = true) (hn : va_nd isR = true) (hdis : ∀ i ∈ isR, i ∉ isC) (hN : xs_N s) (hK : va_K D cl tys s) (hP : va_P D cl ws H) (hD : va_D A ws) (hS : va_S A H0 H locs) (hA : ∀ q, H0.size ≤ q → A q)
    (kk : ∀ (u : σ) (H1 : Heap) (locs1 : List Loc), f u → va_P D cl (wr ++ w2 u) H1 → va_D A (wr ++ w2 u) → va_S A H0 H1 locs1 → W p l e R s m args below meth c H1 locs1 (cells + rm.cells) (slots + rm.slots) Q (F0 m (pc + 3) ls ((r u).toList ++ rest))) : W p l e R s m args below meth c H locs cells slots Q (F0 m pc ls st0) :=
  xw_back (va_runS S (hM H.size) cw ⟨xs_blind, xs_pre As hN hK hP hD isC hnC hC⟩ rfl hn9 hsize hstack (lv_room hW) hdg hf) isC isR hC hR hn hdis hP hD hS hA kk
theorem xw_callSN {σ : Type} {f : σ → Prop} {r : σ → Option Value} {w2 : σ → va_W} {ws w wr : va_W} (As : List Value) (hM : xG l y wd rm D cl tys As w f r w2) (S : CallFix p m c cc nL s args Ts own) (cw : va_CN R s args own index y host bytes maxL ret wd rm rm.cells rm.slots n ∧ (Cond.static y).before args s = true ∧ True)
    (hn9 : As.length = n) (hsize : ls.size = nL) (hstack : st0 = As.reverse ++ rest) (hW : (rest.map fun v => v.category).sum ≤ 8) (hdg : decode cc pc = .ok (.invokestatic index, 3)) (hf : cells + rm.cells ≤ R.cells ∧ slots + rm.slots ≤ R.slots)
    (isC isR : List Nat) (hC : isC.map (fun i => ws[i]?) = w.map some) (hR : isR.map (fun i => ws[i]?) = wr.map some) (hnC : va_nd isC = true) (hn : va_nd isR = true) (hdis : ∀ i ∈ isR, i ∉ isC) (hN : xs_N s) (hK : va_K D cl tys s) (hP : va_P D cl ws H) (hD : va_D A ws) (hS : va_S A H0 H locs) (hA : ∀ q, H0.size ≤ q → A q)
    (kk : ∀ (u : σ) (H1 : Heap) (locs1 : List Loc), f u → va_P D cl (wr ++ w2 u) H1 → va_D A (wr ++ w2 u) → va_S A H0 H1 locs1 → W p l e R s m args below meth c H1 locs1 (cells + rm.cells) (slots + rm.slots) Q (F0 m (pc + 3) ls ((r u).toList ++ rest))) : W p l e R s m args below meth c H locs cells slots Q (F0 m pc ls st0) :=
  xw_back (va_runSN S (hM H.size) cw ⟨xs_blind, xs_pre As hN hK hP hD isC hnC hC⟩ rfl hn9 hsize hstack (lv_room hW) hdg hf) isC isR hC hR hn hdis hP hD hS hA kk
theorem xw_callI {σ : Type} {f : σ → Prop} {r : σ → Option Value} {w2 : σ → va_W} {ws w wr : va_W} (As : List Value) (hM : xG l y wd rm D cl tys (.ref b :: As) w f r w2) (S : CallFix p m c cc nL s args Ts own) (cw : CallB R s args own index y bytes maxL none wd rm rm.cells rm.slots n ∧ y.name = "<init>" ∧ (Cond.instanceMethod y).before args s = true)
    (hn9 : As.length = n) (hsize : ls.size = nL) (hstack : st0 = As.reverse ++ .ref b :: rest) (hW : (rest.map fun v => v.category).sum ≤ 8) (hdg : decode cc pc = .ok (.invokespecial index, 3)) (hf : cells + rm.cells ≤ R.cells ∧ slots + rm.slots ≤ R.slots)
    (isC isR : List Nat) (hC : isC.map (fun i => ws[i]?) = w.map some) (hR : isR.map (fun i => ws[i]?) = wr.map some) (hnC : va_nd isC = true) (hn : va_nd isR = true) (hdis : ∀ i ∈ isR, i ∉ isC) (hN : xs_N s) (hK : va_K D cl tys s) (hP : va_P D cl ws H) (hD : va_D A ws) (hS : va_S A H0 H locs) (hA : ∀ q, H0.size ≤ q → A q)
    (kk : ∀ (u : σ) (H1 : Heap) (locs1 : List Loc), f u → va_P D cl (wr ++ w2 u) H1 → va_D A (wr ++ w2 u) → va_S A H0 H1 locs1 → W p l e R s m args below meth c H1 locs1 (cells + rm.cells) (slots + rm.slots) Q (F0 m (pc + 3) ls ((r u).toList ++ rest))) : W p l e R s m args below meth c H locs cells slots Q (F0 m pc ls st0) :=
  xw_back (va_runI S (hM H.size) cw ⟨xs_blind, xs_pre (.ref b :: As) hN hK hP hD isC hnC hC⟩ rfl hn9 hsize hstack (lv_room hW) hdg hf) isC isR hC hR hn hdis hP hD hS hA kk
theorem xw_callIN {σ : Type} {f : σ → Prop} {r : σ → Option Value} {w2 : σ → va_W} {ws w wr : va_W} (As : List Value) (hM : xG l y wd rm D cl tys (.ref b :: As) w f r w2) (S : CallFix p m c cc nL s args Ts own) (cw : va_CN R s args own index y host bytes maxL none wd rm rm.cells rm.slots n ∧ y.name = "<init>" ∧ (Cond.instanceMethod y).before args s = true)
    (hn9 : As.length = n) (hsize : ls.size = nL) (hstack : st0 = As.reverse ++ .ref b :: rest) (hW : (rest.map fun v => v.category).sum ≤ 8) (hdg : decode cc pc = .ok (.invokespecial index, 3)) (hf : cells + rm.cells ≤ R.cells ∧ slots + rm.slots ≤ R.slots)
    (isC isR : List Nat) (hC : isC.map (fun i => ws[i]?) = w.map some) (hR : isR.map (fun i => ws[i]?) = wr.map some) (hnC : va_nd isC = true) (hn : va_nd isR = true) (hdis : ∀ i ∈ isR, i ∉ isC) (hN : xs_N s) (hK : va_K D cl tys s) (hP : va_P D cl ws H) (hD : va_D A ws) (hS : va_S A H0 H locs) (hA : ∀ q, H0.size ≤ q → A q)
    (kk : ∀ (u : σ) (H1 : Heap) (locs1 : List Loc), f u → va_P D cl (wr ++ w2 u) H1 → va_D A (wr ++ w2 u) → va_S A H0 H1 locs1 → W p l e R s m args below meth c H1 locs1 (cells + rm.cells) (slots + rm.slots) Q (F0 m (pc + 3) ls ((r u).toList ++ rest))) : W p l e R s m args below meth c H locs cells slots Q (F0 m pc ls st0) :=
  xw_back (va_runIN S (hM H.size) cw ⟨xs_blind, xs_pre (.ref b :: As) hN hK hP hD isC hnC hC⟩ rfl hn9 hsize hstack (lv_room hW) hdg hf) isC isR hC hR hn hdis hP hD hS hA kk
end XSR
section XSE
/-- what a walk in a method over cells owes at its end -/
def xZ {σ : Type} (below : List Frame) (args : Array Value) (s : State) (D : va_G) (cl : List vw_C) (w : va_W) (sz mc ms : Nat) (f : σ → Prop) (r : σ → Option Value) (w2 : σ → va_W) : State → Prop :=
  MQ below (fun _ => xPost D cl w sz f r w2) args s mc ms (va_A w sz)
/-- what holds all through a walk -/
def xC (p : Program) (s : State) (m : MethodId) (args : Array Value) (meth : Method) (c : Code) (cc : ByteArray) (nL : Nat) (ret : Option FieldType) (own nm : String) (wd : List Cond) (D : va_G) (cl : List vw_C) (tys : List (ClassId × FieldType)) (A : Nat → Prop) : Prop :=
  p.tables.exec = Jvm.exec ∧ c.code = cc ∧ meth.sig.returnType = ret ∧ c.maxLocals = nL ∧ s.vm.findClass own = some m.cls ∧ meth.locks = false ∧ (∀ w ∈ wd, w.before args s = true) ∧ meth.name = nm ∧ xs_N s ∧ va_K D cl tys s ∧ ∀ q : Nat, s.heap.size ≤ q → A q
theorem xs_ofW {l : Launch} {y : MethodName} {ws ws' : List Cond} {rm : Room} {Pc : Array Value → State → Prop} {Qc : Array Value → State → Outcome → State → Prop} {mc ms : Nat} {free : Addr → Prop} {cc : ByteArray} {maxL : Nat} {ret : Option FieldType}
    (hy : plainFor y = true) (hw : ws = Cond.code y cc maxL ret :: ws')
    (body : ∀ p e s m args below meth c s₁, BodyLoose p l y (headSpec ws rm) cc maxL ret e s m args below meth c s₁ → c.maxLocals = maxL → Pc args s →
      W p l e (headSpec ws rm).room s m args below meth c s.heap [] 0 0 (MQ below Qc args s mc ms free) (entryFrame m args maxL)) : Met l y ws rm Pc Qc mc ms free := by
  refine MetFree.of_bodySF (code := cc) (maxLocals := maxL) (ret := ret) hy (fun args s m h hn => ?_) (fun p e s m args below meth c s₁ B hml hP _ => ?_)
  · obtain ⟨meth, c, h1, h2, h3, h4, h5, h6, -, -⟩ := Cond.code_spec hn (atoms_spec (ws := ws) h _ (by rw [hw]; exact List.mem_cons_self))
    exact ⟨meth, c, h1, h2, h3, h4, h5, h6⟩
  · obtain ⟨t, a1, o, b1, b2, b3, b4⟩ := body p e s m args below meth c s₁ B hml hP s₁ (by rw [B.state]; rfl) (Stand.of_body B)
    exact ⟨t, o, a1, b1, b2, b3, b4⟩
theorem xG.of {σ : Type} {l : Launch} {y : MethodName} {wd wd' : List Cond} {rm : Room} {D : va_G} {cl : List vw_C} {tys : List (ClassId × FieldType)} {av : List Value} {w : va_W} {f : σ → Prop} {r : σ → Option Value} {w2 : σ → va_W} (cc : ByteArray) (nL : Nat) (ret : Option FieldType)
    (hy : plainFor y = true) (hw : wd = Cond.code y cc nL ret :: wd') (hlen : (lg_sl av).length ≤ nL)
    (body : ∀ (p : Program) (e : Env) (s : State) (m : MethodId) (below : List Frame) (meth : Method) (c : Code) (A : Nat → Prop) (ls : Array Slot), A = va_A w s.heap.size → xC p s m av.toArray meth c cc nL ret y.cls y.name wd D cl tys A → va_P D cl w s.heap → va_D A w → va_S A s.heap s.heap [] → lv_has ls nL (lv_args 0 av) →
      W p l e (headSpec wd rm).room s m av.toArray below meth c s.heap [] 0 0 (xZ below av.toArray s D cl w s.heap.size rm.cells rm.slots f r w2) (F0 m 0 ls [])) : xG l y wd rm D cl tys av w f r w2 := by
  intro sz
  refine xs_ofW (cc := cc) (maxL := nL) (ret := ret) hy hw ?_
  intro p e s m args below meth c s₁ B hml hv
  obtain ⟨rfl, hsz, hP, hK, hD0, hN⟩ := hv
  subst hsz
  rw [lg_entry_eq]
  exact body p e s m below meth c (va_A w s.heap.size) _ rfl ⟨B.exec, B.bytes, B.returns, hml, findClass_of_methodNamed B.named, B.notSynchronized, atoms_spec (ws := wd) B.pre, (name_of_methodNamed B.named B.method).1, hN, hK, fun q h => Or.inr h⟩ hP (hD0.self (sz := s.heap.size)) va_S.rf (lv_entry av hlen)
variable {p : Program} {l : Launch} {e : Env} {R : Room} {s : State} {m : MethodId} {args : Array Value} {below : List Frame} {meth : Method} {c : Code} {H : Heap} {locs : List Loc}
variable {cc : ByteArray} {pc : Nat} {ls : Array Slot} {rest : List Value} {D : va_G} {cl : List vw_C} {A : Nat → Prop} {cells slots : Nat} {Q : State → Prop}
theorem xw_iret {σ : Type} {f : σ → Prop} {r : σ → Option Value} {w2 : σ → va_W} {w : va_W} {mc ms : Nat} (u : σ) {v : Int32} (hexec : p.tables.exec = Jvm.exec) (hb : c.code = cc) (hr : meth.sig.returnType = some .int) (hlocks : meth.locks = false) (hdg : decode cc pc = .ok (.ireturn, 1)) (hv : r u = some (.int v)) (hf : f u) (hAe : A = va_A w s.heap.size) (hP : va_P D cl (w2 u) H) (hD : va_D A (w2 u)) (hS : va_S A s.heap H locs) (hc : cells ≤ mc) (hs : slots ≤ ms) : W p l e R s m args below meth c H locs cells slots (xZ below args s D cl w s.heap.size mc ms f r w2) (F0 m pc ls [.int v]) := by
  subst hAe
  exact W.widen (k := mc) (n := ms) hc hs (W.iret hexec hb hr (fun t ht _ => ⟨u, by rw [hv], hf, by rw [ht]; exact hP, hD, hS.F ht⟩) hS.2.2 hdg hlocks)
theorem xw_zret {σ : Type} {f : σ → Prop} {r : σ → Option Value} {w2 : σ → va_W} {w : va_W} {mc ms : Nat} (u : σ) {v : Int32} (h01 : v = 0 ∨ v = 1) (hexec : p.tables.exec = Jvm.exec) (hb : c.code = cc) (hr : meth.sig.returnType = some .boolean) (hlocks : meth.locks = false) (hdg : decode cc pc = .ok (.ireturn, 1)) (hv : r u = some (.int v)) (hf : f u) (hAe : A = va_A w s.heap.size) (hP : va_P D cl (w2 u) H) (hD : va_D A (w2 u)) (hS : va_S A s.heap H locs) (hc : cells ≤ mc) (hs : slots ≤ ms) : W p l e R s m args below meth c H locs cells slots (xZ below args s D cl w s.heap.size mc ms f r w2) (F0 m pc ls [.int v]) := by
  subst hAe
  exact W.widen (k := mc) (n := ms) hc hs (W.zret (ty := .boolean) hexec hb hr (by rcases h01 with h | h <;> (rw [h]; rfl)) (fun t ht _ => ⟨u, by rw [hv], hf, by rw [ht]; exact hP, hD, hS.F ht⟩) hS.2.2 hdg hlocks)
theorem xw_vret {σ : Type} {f : σ → Prop} {r : σ → Option Value} {w2 : σ → va_W} {w : va_W} {mc ms : Nat} (u : σ) (hexec : p.tables.exec = Jvm.exec) (hb : c.code = cc) (hr : meth.sig.returnType = none) (hlocks : meth.locks = false) (hdg : decode cc pc = .ok (.return_, 1)) (hv : r u = none) (hf : f u) (hAe : A = va_A w s.heap.size) (hP : va_P D cl (w2 u) H) (hD : va_D A (w2 u)) (hS : va_S A s.heap H locs) (hc : cells ≤ mc) (hs : slots ≤ ms) : W p l e R s m args below meth c H locs cells slots (xZ below args s D cl w s.heap.size mc ms f r w2) (F0 m pc ls []) := by
  subst hAe
  exact W.widen (k := mc) (n := ms) hc hs (W.vret hexec hb hr (fun t ht _ => ⟨u, by rw [hv], hf, by rw [ht]; exact hP, hD, hS.F ht⟩) hS.2.2 hdg hlocks)
/-- the number on top, written otherwise -/
theorem xw_top {x : Int32} (z : Int32) (h : x = z) (k : W p l e R s m args below meth c H locs cells slots Q (F0 m pc ls (.int z :: rest))) : W p l e R s m args below meth c H locs cells slots Q (F0 m pc ls (.int x :: rest)) := by rw [h]; exact k
end XSE
end XSB
