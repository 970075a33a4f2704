section XMG
theorem xs_outerC (c : ClassId) (N h0 : Nat) : Jvm.Free.Multi.outerC c N h0 N = vp_cell c (N, .inr (.inr (.inr (.inr (xs_out (fun i => h0 + 1 + i) N))))) := by
  obtain ⟨a, b, d⟩ := Jvm.Free.Multi.outerC_facts c N h0 N
  have hs : (Jvm.Free.Multi.outerC c N h0 N).slots = Array.ofFn (n := N) fun j => va_rf (xs_out (fun i => h0 + 1 + i) N j.val) := by
    apply Array.ext_getElem?
    intro j
    by_cases hj : j < N
    · rw [Jvm.Free.Multi.outerC_slot c N h0 N j hj, if_pos hj]
      simp [hj, xs_out, va_rf]
    · rw [Array.getElem?_eq_none (by omega), Array.getElem?_eq_none (by simp; omega)]
  have hp : ∀ i, (Jvm.Free.Multi.outerC c N h0 i).monitor = {} ∧ (Jvm.Free.Multi.outerC c N h0 i).hash = none := fun i => by
    induction i with
    | zero => exact ⟨rfl, rfl⟩
    | succ i ih => exact ⟨by simp [Jvm.Free.Multi.outerC, Cell.setSlot, ih.1], by simp [Jvm.Free.Multi.outerC, Cell.setSlot, ih.2]⟩
  obtain ⟨p1, p2⟩ := hp N
  rw [show vp_cell c (N, .inr (.inr (.inr (.inr (xs_out (fun i => h0 + 1 + i) N))))) = arrV c N (fun j => va_rf (xs_out (fun i => h0 + 1 + i) N j)) from rfl]
  unfold arrV
  generalize Jvm.Free.Multi.outerC c N h0 N = x at a b hs p1 p2
  cases x
  simp only at a b hs p1 p2
  subst a
  subst b
  subst hs
  subst p1
  subst p2
  rfl
theorem xs_innerC (c : ClassId) (M : Nat) : Jvm.Free.Multi.innerC c M (defaultValue .int) = vp_cell c (M, .inl (xs_G (fun _ => 0))) := by
  have hs : Array.replicate M (defaultValue .int) = Array.ofFn (n := M) fun j => Value.int (xs_G (fun _ => 0) j.val) := by
    apply Array.ext_getElem?
    intro j
    by_cases hj : j < M
    · simp [hj, xs_G, defaultValue]
      exact nI_0.symm
    · rw [Array.getElem?_eq_none (by simp; omega), Array.getElem?_eq_none (by simp; omega)]
  rw [show vp_cell c (M, .inl (xs_G (fun _ => 0))) = arrV c M (fun j => .int (xs_G (fun _ => 0) j)) from rfl]
  unfold Jvm.Free.Multi.innerC arrV
  rw [hs]
theorem xs_grid_at {cR cI : ClassId} {N K h0 k : Nat} {q : Nat × va_E} (h : ((h0, .inl (cR, N, .inr (.inr (.inr (.inr (xs_out (fun i => h0 + 1 + i) N)))))) :: xs_rows cI (fun i => h0 + 1 + i) N K (fun _ _ => 0) : va_W)[k]? = some q) :
    q.1 = h0 + k ∧ ((k = 0 ∧ q = (h0, .inl (cR, N, .inr (.inr (.inr (.inr (xs_out (fun i => h0 + 1 + i) N))))))) ∨ ∃ i, i < N ∧ k = i + 1 ∧ q = (h0 + 1 + i, .inl (cI, K, .inl (xs_G (fun _ => 0))))) := by
  cases k with
  | zero =>
    simp only [List.getElem?_cons_zero, Option.some.injEq] at h
    subst h
    exact ⟨rfl, Or.inl ⟨rfl, rfl⟩⟩
  | succ i =>
    rw [List.getElem?_cons_succ] at h
    by_cases hi : i < N
    · have h9 : (xs_rows cI (fun i => h0 + 1 + i) N K (fun _ _ => 0))[i]? = some (h0 + 1 + i, .inl (cI, K, .inl (xs_G (fun _ => 0)))) := by simp [xs_rows, hi]
      rw [h9] at h
      cases h
      exact ⟨by show h0 + 1 + i = _; omega, Or.inr ⟨i, hi, rfl, rfl⟩⟩
    · have h9 : (xs_rows cI (fun i => h0 + 1 + i) N K (fun _ _ => 0))[i]? = none := by simp [xs_rows]; omega
      rw [h9] at h
      cases h
variable {p : Program} {l : Launch} {e : Env} {R : Room} {s : State} {m : MethodId} {args : Array Value} {below : List Frame} {meth : Method} {c : Code} {H : Heap} {locs : List Loc} {cells slots : Nat} {Q : State → Prop}
variable {cc : ByteArray} {pc : Nat} {ls : Array Slot} {rest : List Value} {D : va_G} {cl : List vw_C} {A : Nat → Prop} {ws : va_W} {H0 : Heap} {tys : List (ClassId × FieldType)}
/-- new int[n][k] with its rows -/
theorem xw_mnaG (hexec : p.tables.exec = Jvm.exec) (hb : c.code = cc) {own : String} {index : Nat} (hown : s.vm.findClass own = some m.cls) (hclink : (Cond.classLink own index ("[" ++ (FieldType.array FieldType.int).toString)).before args s = true) (hover : (Cond.arrayOver (.array .int)).before args s = true) (harr : (Cond.arrayClass .int).before args s = true)
    (hK : va_K D cl tys s) (t0 t1 : Nat) {cI cR : ClassId} (ht : tys[t0]? = some (cI, .int)) (htR : tys[t1]? = some (cR, .array .int)) (hP : va_P D cl ws H) (hD : va_D A ws) (hS : va_S A H0 H locs) (hA : ∀ q, H0.size ≤ q → A q) {n k : Int32} (hn : ¬ n < 0) (hk : ¬ k < 0) {N K : Nat} (hN : n.toNatClampNeg = N) (hM : k.toNatClampNeg = K)
    (hb1 : N ≤ 1000) (hb2 : K ≤ 1000) (hcells : cells + (1 + N) ≤ R.cells) (hslots : slots + (N + N * K) ≤ R.slots) (hdg : decode cc pc = .ok (.multianewarray index 2, 4))
    (kk : ∀ (q : Nat) (r : Nat → Nat) (H1 : Heap), va_P D cl (ws ++ ((q, .inl (cR, N, .inr (.inr (.inr (.inr (xs_out r N)))))) :: xs_rows cI r N K (fun _ _ => 0))) H1 → va_D A (ws ++ ((q, .inl (cR, N, .inr (.inr (.inr (.inr (xs_out r N)))))) :: xs_rows cI r N K (fun _ _ => 0))) → va_S A H0 H1 locs → W p l e R s m args below meth c H1 locs (cells + 1 + N) (slots + N + N * K) Q (F0 m (pc + 4) ls (.ref q :: rest))) : W p l e R s m args below meth c H locs cells slots Q (F0 m pc ls (.int k :: .int n :: rest)) := by
  subst hN
  subst hM
  intro T hT Xs
  obtain ⟨vm₁, cA, comp, -, hfA, hfC, -, -, X', step⟩ := Xs.multianewarray2F hexec (ty := .int) hown hclink hover harr (g := F0 m pc ls (.int k :: .int n :: rest)) rfl (by rw [hb]; exact hdg) rfl hn hk (by omega) (by show k.toNatClampNeg * 4 ≤ _; omega) (by omega) (by decide) (by decide) hcells hslots
  have eA : cA = cR := Option.some.inj (hfA.symm.trans (hK.2 t1 _ htR).2)
  have eC : comp = cI := Option.some.inj (hfC.symm.trans (hK.2 t0 _ ht).2)
  subst eA
  subst eC
  have hsz0 : (T.setVm vm₁).heap.size = H.size := by show T.heap.size = H.size; rw [hT]
  obtain ⟨f1, f2, -, -⟩ := Jvm.Free.Multi.fill_facts (T.setVm vm₁) cA comp n.toNatClampNeg k.toNatClampNeg (defaultValue .int) n.toNatClampNeg
  have f3 := Jvm.Free.Multi.fill_inner (T.setVm vm₁) cA comp n.toNatClampNeg k.toNatClampNeg (defaultValue .int) n.toNatClampNeg
  have hold : ∀ x : Nat, x < H.size → (Jvm.Free.Multi.fill (T.setVm vm₁) cA comp n.toNatClampNeg k.toNatClampNeg (defaultValue .int) n.toNatClampNeg).heap[x]? = H[x]? := fun x hx => by
    have h9 := Jvm.Free.Multi.fill_old (T.setVm vm₁) cA comp n.toNatClampNeg k.toNatClampNeg (defaultValue .int) (a := x) (by show x < T.heap.size; rw [hT]; exact hx) n.toNatClampNeg
    rw [h9]
    show T.heap[x]? = H[x]?
    rw [hT]
  rw [hsz0] at f1 f2 f3
  rw [xs_outerC] at f2
  rw [xs_innerC] at f3
  generalize Jvm.Free.Multi.fill (T.setVm vm₁) cA comp n.toNatClampNeg k.toNatClampNeg (defaultValue .int) n.toNatClampNeg = F at X' step hold f1 f2 f3
  have hnew : va_P D cl ((H.size, .inl (cA, n.toNatClampNeg, .inr (.inr (.inr (.inr (xs_out (fun i => H.size + 1 + i) n.toNatClampNeg)))))) :: xs_rows comp (fun i => H.size + 1 + i) n.toNatClampNeg k.toNatClampNeg (fun _ _ => 0)) F.heap := fun j q hq => by
    obtain ⟨-, ⟨-, e1⟩ | ⟨i, hi, -, e1⟩⟩ := xs_grid_at hq
    · rw [e1]; exact f2
    · rw [e1]; exact f3 i hi
  have hnD : va_D A ((H.size, .inl (cA, n.toNatClampNeg, .inr (.inr (.inr (.inr (xs_out (fun i => H.size + 1 + i) n.toNatClampNeg)))))) :: xs_rows comp (fun i => H.size + 1 + i) n.toNatClampNeg k.toNatClampNeg (fun _ _ => 0)) :=
    ⟨fun i j x y hx hy hxy => by have a1 := (xs_grid_at hx).1; have a2 := (xs_grid_at hy).1; omega, fun i q hq => hA _ (by have a1 := (xs_grid_at hq).1; have a2 := hS.1; omega)⟩
  have hTe : T.heap.size = H.size := by rw [hT]
  rw [hTe] at step
  obtain ⟨t, a1, b1⟩ := kk H.size (fun i => H.size + 1 + i) F.heap (va_P.app (hP.kept (fun i q hq => hold q.1 ((hP i q hq).lt))) hnew) (va_D.app hD hnD (fun i j x y hx hy hxy => by have g1 := (hP i x hx).lt; have g2 := (xs_grid_at hy).1; omega)) ⟨by have := hS.1; omega, fun q h1 h2 => (hold q (Nat.lt_of_lt_of_le h1 hS.1)).trans (hS.2.1 q h1 h2), hS.2.2⟩ F rfl X'
  exact ⟨t, step t a1, b1⟩
end XMG
