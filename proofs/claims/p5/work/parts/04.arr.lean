section XSA
variable {p : Program} {l : Launch} {e : Env} {R : Room} {s : State} {m : MethodId} {args : Array Value} {below : List Frame} {meth : Method} {c : Code} {H : Heap} {locs : List Loc} {cells slots : Nat} {Q : State → Prop}
variable {cc : ByteArray} {pc : Nat} {ls : Array Slot} {rest : List Value} {D : va_G} {cl : List vw_C} {A : Nat → Prop} {a : Nat} {tys : List (ClassId × FieldType)} {ws : va_W} {H0 : Heap}
theorem xs_cI {cI cA : ClassId} {t0 : Nat} (hK : va_K D cl (tys ++ [(cA, .int)]) s) (ht : tys[t0]? = some (cI, .int)) : cA = cI := by
  have h1 := (hK.2 tys.length (cA, .int) (by simp)).2
  have h2 := (hK.2 t0 (cI, .int) (by rw [List.getElem?_append_left (List.getElem?_eq_some_iff.mp ht).1]; exact ht)).2
  exact Option.some.inj (Eq.trans (Eq.symm h1) h2)
theorem xs_cB {cI cA : ClassId} {t0 : Nat} (hK : va_K D cl (tys ++ [(cA, .boolean)]) s) (ht : tys[t0]? = some (cI, .boolean)) : cA = cI := by
  have h1 := (hK.2 tys.length (cA, .boolean) (by simp)).2
  have h2 := (hK.2 t0 (cI, .boolean) (by rw [List.getElem?_append_left (List.getElem?_eq_some_iff.mp ht).1]; exact ht)).2
  exact Option.some.inj (Eq.trans (Eq.symm h1) h2)
theorem xs_cL {cI cA : ClassId} {t0 : Nat} (hK : va_K D cl (tys ++ [(cA, .long)]) s) (ht : tys[t0]? = some (cI, .long)) : cA = cI := by
  have h1 := (hK.2 tys.length (cA, .long) (by simp)).2
  have h2 := (hK.2 t0 (cI, .long) (by rw [List.getElem?_append_left (List.getElem?_eq_some_iff.mp ht).1]; exact ht)).2
  exact Option.some.inj (Eq.trans (Eq.symm h1) h2)
/-- new rows: of ints, of truth values, of longs -/
theorem xw_newI (hexec : p.tables.exec = Jvm.exec) (hb : c.code = cc) (harr : (Cond.arrayClass .int).before args s = true) (hK : va_K D cl tys s) (t0 : Nat) {cI : ClassId} (ht : tys[t0]? = some (cI, .int)) (hP : va_P D cl ws H) (hD : va_D A ws) (hS : va_S A H0 H locs) (hA : ∀ q, H0.size ≤ q → A q)
    {n : Int32} {N : Nat} (hn : ¬ n < 0) (hN : n.toNatClampNeg = N) (hbytes : N ≤ 100000) (hcells : cells + 1 ≤ R.cells) (hslots : slots + N ≤ R.slots) (hdg : decode cc pc = .ok (.newarray .int, 2))
    (kk : ∀ (q : Nat) (H1 : Heap), va_P D cl (ws ++ [(q, .inl (cI, N, .inl (fun _ => 0)))]) H1 → va_D A (ws ++ [(q, .inl (cI, N, .inl (fun _ => 0)))]) → va_S A H0 H1 locs →
      W p l e R s m args below meth c H1 locs (cells + 1) (slots + N) Q (F0 m (pc + 2) ls (.ref q :: rest))) : W p l e R s m args below meth c H locs cells slots Q (F0 m pc ls (.int n :: rest)) :=
  va_newa (N' := N) (atype := .int) (a0 := (N, .inl (fun _ => 0))) (ty := .int) hexec hb harr rfl hK hP hD hS hA (fun _ => rfl) hn hN (show N * 4 ≤ 536870912 by omega) hcells hslots hdg (fun q cA H1 hK1 hP1 hD1 hS1 => by
    cases xs_cI hK1 ht
    exact kk q H1 hP1 hD1 hS1)
theorem xw_newB (hexec : p.tables.exec = Jvm.exec) (hb : c.code = cc) (harr : (Cond.arrayClass .boolean).before args s = true) (hK : va_K D cl tys s) (t0 : Nat) {cI : ClassId} (ht : tys[t0]? = some (cI, .boolean)) (hP : va_P D cl ws H) (hD : va_D A ws) (hS : va_S A H0 H locs) (hA : ∀ q, H0.size ≤ q → A q)
    {n : Int32} {N : Nat} (hn : ¬ n < 0) (hN : n.toNatClampNeg = N) (hbytes : N ≤ 100000) (hcells : cells + 1 ≤ R.cells) (hslots : slots + N ≤ R.slots) (hdg : decode cc pc = .ok (.newarray .boolean, 2))
    (kk : ∀ (q : Nat) (H1 : Heap), va_P D cl (ws ++ [(q, .inl (cI, N, .inl (fun _ => 0)))]) H1 → va_D A (ws ++ [(q, .inl (cI, N, .inl (fun _ => 0)))]) → va_S A H0 H1 locs →
      W p l e R s m args below meth c H1 locs (cells + 1) (slots + N) Q (F0 m (pc + 2) ls (.ref q :: rest))) : W p l e R s m args below meth c H locs cells slots Q (F0 m pc ls (.int n :: rest)) :=
  va_newa (N' := N) (atype := .boolean) (a0 := (N, .inl (fun _ => 0))) (ty := .boolean) hexec hb harr rfl hK hP hD hS hA (fun _ => rfl) hn hN (show N * 1 ≤ 536870912 by omega) hcells hslots hdg (fun q cA H1 hK1 hP1 hD1 hS1 => by
    cases xs_cB hK1 ht
    exact kk q H1 hP1 hD1 hS1)
theorem xw_newL (hexec : p.tables.exec = Jvm.exec) (hb : c.code = cc) (harr : (Cond.arrayClass .long).before args s = true) (hK : va_K D cl tys s) (t0 : Nat) {cI : ClassId} (ht : tys[t0]? = some (cI, .long)) (hP : va_P D cl ws H) (hD : va_D A ws) (hS : va_S A H0 H locs) (hA : ∀ q, H0.size ≤ q → A q)
    {n : Int32} {N : Nat} (hn : ¬ n < 0) (hN : n.toNatClampNeg = N) (hbytes : N ≤ 100000) (hcells : cells + 1 ≤ R.cells) (hslots : slots + N ≤ R.slots) (hdg : decode cc pc = .ok (.newarray .long, 2))
    (kk : ∀ (q : Nat) (H1 : Heap), va_P D cl (ws ++ [(q, .inl (cI, N, .inr (.inl (fun _ => 0))))]) H1 → va_D A (ws ++ [(q, .inl (cI, N, .inr (.inl (fun _ => 0))))]) → va_S A H0 H1 locs →
      W p l e R s m args below meth c H1 locs (cells + 1) (slots + N) Q (F0 m (pc + 2) ls (.ref q :: rest))) : W p l e R s m args below meth c H locs cells slots Q (F0 m pc ls (.int n :: rest)) :=
  va_newa (N' := N) (atype := .long) (a0 := (N, .inr (.inl (fun _ => 0)))) (ty := .long) hexec hb harr rfl hK hP hD hS hA (fun _ => rfl) hn hN (show N * 8 ≤ 536870912 by omega) hcells hslots hdg (fun q cA H1 hK1 hP1 hD1 hS1 => by
    cases xs_cL hK1 ht
    exact kk q H1 hP1 hD1 hS1)
/-- two contents of an array that agree where it has places -/
theorem xs_arr_eq {cA : ClassId} {n : Nat} {f g : Nat → Int32} (h : ∀ j, j < n → f j = g j) : vp_cell cA (n, .inl f) = vp_cell cA (n, .inl g) := by
  show arrV cA n (fun j => .int (f j)) = arrV cA n (fun j => .int (g j))
  unfold arrV
  have e : (fun j : Fin n => Value.int (f j.val)) = fun j : Fin n => Value.int (g j.val) := funext fun j => by rw [h j.val j.isLt]
  rw [e]
theorem xs_refill {cA : ClassId} {n q0 : Nat} {f g : Nat → Int32} (hP : va_P D cl ws H) (hD : va_D A ws) (ha : ws[q0]? = some (a, .inl (cA, n, .inl f))) (h : ∀ j, j < n → f j = g j) : va_P D cl (ws.set q0 (a, .inl (cA, n, .inl g))) H ∧ va_D A (ws.set q0 (a, .inl (cA, n, .inl g))) := by
  refine ⟨fun k q hq => ?_, hD.set ha⟩
  by_cases hk : k = q0
  · subst hk
    have hl := (List.getElem?_eq_some_iff.mp ha).1
    rw [List.getElem?_set_self hl] at hq
    cases hq
    have h9 : H[a]? = some (vp_cell cA (n, .inl f)) := hP k _ ha
    show H[a]? = some (vp_cell cA (n, .inl g))
    rw [h9, xs_arr_eq h]
  · rw [List.getElem?_set_ne (Ne.symm hk)] at hq
    exact hP k q hq
/-- a row's content up to i is v, from there as before -/
def xs_fl (i : Nat) (v : Int32) (f : Nat → Int32) : Nat → Int32 := fun j => if j < i then v else f j
theorem xs_fl_s (i : Nat) (v : Int32) (f : Nat → Int32) : upd (xs_fl i v f) i v = xs_fl (i + 1) v f := by
  funext j
  by_cases h : j = i
  · subst h; rw [pk_us]; simp [xs_fl]
  · rw [pk_un h]
    by_cases h2 : j < i
    · simp [xs_fl, h2, Nat.lt_succ_of_lt h2]
    · simp [xs_fl, h2, show ¬ j < i + 1 by omega]
theorem xs_fl_0 (v : Int32) (f : Nat → Int32) : xs_fl 0 v f = f := by funext j; simp [xs_fl]
theorem xs_fl_n {n : Nat} (v : Int32) (f : Nat → Int32) : ∀ j, j < n → xs_fl n v f j = (fun _ => v) j := fun j h => by simp [xs_fl, h]
/-- the same with a rule for each place -/
def xs_fg (i : Nat) (g f : Nat → Int32) : Nat → Int32 := fun j => if j < i then g j else f j
theorem xs_fg_s (i : Nat) (g f : Nat → Int32) : upd (xs_fg i g f) i (g i) = xs_fg (i + 1) g f := by
  funext j
  by_cases h : j = i
  · subst h; rw [pk_us]; simp [xs_fg]
  · rw [pk_un h]
    by_cases h2 : j < i
    · simp [xs_fg, h2, Nat.lt_succ_of_lt h2]
    · simp [xs_fg, h2, show ¬ j < i + 1 by omega]
theorem xs_fg_0 (g f : Nat → Int32) : xs_fg 0 g f = f := by funext j; simp [xs_fg]
theorem xs_fg_n {n : Nat} (g f : Nat → Int32) : ∀ j, j < n → xs_fg n g f j = g j := fun j h => by simp [xs_fg, h]
/-- stores of a truth value -/
theorem xw_zst (hexec : p.tables.exec = Jvm.exec) (hb : c.code = cc) (hK : va_K D cl tys s) (hP : va_P D cl ws H) (hD : va_D A ws) (hS : va_S A H0 H locs) (q0 t0 : Nat) {cA : ClassId} {n : Nat} {f : Nat → Int32} (ha : ws[q0]? = some (a, .inl (cA, n, .inl f))) (ht : tys[t0]? = some (cA, .boolean)) {j : Nat} {x : Int32} (h01 : x = 0 ∨ x = 1) (hj : j < n) (hn : n < 2 ^ 31) (hdg : decode cc pc = .ok (.bastore, 1))
    (kk : ∀ (H1 : Heap) (locs1 : List Loc), va_P D cl (ws.set q0 (a, .inl (cA, n, .inl (upd f j x)))) H1 → va_D A (ws.set q0 (a, .inl (cA, n, .inl (upd f j x)))) → va_S A H0 H1 locs1 → W p l e R s m args below meth c H1 locs1 cells slots Q (F0 m (pc + 1) ls rest)) : W p l e R s m args below meth c H locs cells slots Q (F0 m pc ls (.int x :: .int (nI j) :: .ref a :: rest)) :=
  va_zast hexec hb hK hP hD hS q0 t0 ha ht (vp_in_nI hj hn) hdg (fun H1 locs1 h1 h2 h3 => kk H1 locs1
    (by rw [nI_clamp (Nat.lt_trans hj hn), show vp_nar .boolean x = x by rcases h01 with h | h <;> (rw [h]; decide +kernel)] at h1; exact h1)
    (by rw [nI_clamp (Nat.lt_trans hj hn), show vp_nar .boolean x = x by rcases h01 with h | h <;> (rw [h]; decide +kernel)] at h2; exact h2) h3)
theorem xw_ist (hexec : p.tables.exec = Jvm.exec) (hb : c.code = cc) (hK : va_K D cl tys s) (hP : va_P D cl ws H) (hD : va_D A ws) (hS : va_S A H0 H locs) (q0 t0 : Nat) {cA : ClassId} {n : Nat} {f : Nat → Int32} (ha : ws[q0]? = some (a, .inl (cA, n, .inl f))) (ht : tys[t0]? = some (cA, .int)) {j : Nat} {x : Int32} (hj : j < n) (hn : n < 2 ^ 31) (hdg : decode cc pc = .ok (.iastore, 1))
    (kk : ∀ (H1 : Heap) (locs1 : List Loc), va_P D cl (ws.set q0 (a, .inl (cA, n, .inl (upd f j x)))) H1 → va_D A (ws.set q0 (a, .inl (cA, n, .inl (upd f j x)))) → va_S A H0 H1 locs1 → W p l e R s m args below meth c H1 locs1 cells slots Q (F0 m (pc + 1) ls rest)) : W p l e R s m args below meth c H locs cells slots Q (F0 m pc ls (.int x :: .int (nI j) :: .ref a :: rest)) := va_iast hexec hb hK hP hD hS q0 t0 ha ht (vp_in_nI hj hn) hdg (fun H1 locs1 h1 h2 h3 => kk H1 locs1 (by rw [nI_clamp (Nat.lt_trans hj hn)] at h1; exact h1) (by rw [nI_clamp (Nat.lt_trans hj hn)] at h2; exact h2) h3)
theorem xw_ild (hexec : p.tables.exec = Jvm.exec) (hb : c.code = cc) (hK : va_K D cl tys s) (hP : va_P D cl ws H) (q0 t0 : Nat) {cA : ClassId} {n : Nat} {f : Nat → Int32} (ha : ws[q0]? = some (a, .inl (cA, n, .inl f))) (ht : tys[t0]? = some (cA, .int)) {j : Nat} (hj : j < n) (hn : n < 2 ^ 31) (hdg : decode cc pc = .ok (.iaload, 1))
    (kk : W p l e R s m args below meth c H locs cells slots Q (F0 m (pc + 1) ls (.int (f j) :: rest))) : W p l e R s m args below meth c H locs cells slots Q (F0 m pc ls (.int (nI j) :: .ref a :: rest)) := va_iald hexec hb hK hP q0 t0 ha ht (vp_in_nI hj hn) hdg (by rw [nI_clamp (Nat.lt_trans hj hn)]; exact kk)
theorem xw_zld (hexec : p.tables.exec = Jvm.exec) (hb : c.code = cc) (hK : va_K D cl tys s) (hP : va_P D cl ws H) (q0 t0 : Nat) {cA : ClassId} {n : Nat} {f : Nat → Int32} (ha : ws[q0]? = some (a, .inl (cA, n, .inl f))) (ht : tys[t0]? = some (cA, .boolean)) {j : Nat} (hj : j < n) (hn : n < 2 ^ 31) (hdg : decode cc pc = .ok (.baload, 1))
    (kk : W p l e R s m args below meth c H locs cells slots Q (F0 m (pc + 1) ls (.int (f j) :: rest))) : W p l e R s m args below meth c H locs cells slots Q (F0 m pc ls (.int (nI j) :: .ref a :: rest)) := va_zald hexec hb hK hP q0 t0 ha ht (vp_in_nI hj hn) hdg (by rw [nI_clamp (Nat.lt_trans hj hn)]; exact kk)
theorem xs_inc (x n : Nat) : nI x + Int32.ofInt (n : Int) = nI (x + n) := by
  rw [← nI_add]; rfl
end XSA
