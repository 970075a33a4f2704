section XSG
/-! arrays of arrays: the outer one a cell, the rows a group of their own -/
def xs_out (r : Nat → Nat) (n : Nat) : Nat → Option Nat := fun i => if i < n then some (r i) else none
def xs_rows (cI : ClassId) (r : Nat → Nat) (n k : Nat) (g : Nat → Nat → Nat) : va_W := (List.range n).map (fun i => (r i, .inl (cI, k, .inl (xs_G (g i)))))
def xs_up2 (g : Nat → Nat → Nat) (i j v : Nat) : Nat → Nat → Nat := va_up g i (va_up (g i) j v)
theorem xs_rows_at {cI : ClassId} {r : Nat → Nat} {n k : Nat} {g : Nat → Nat → Nat} {pre post : va_W} {i : Nat} (hi : i < n) : (pre ++ (xs_rows cI r n k g ++ post))[pre.length + i]? = some (r i, .inl (cI, k, .inl (xs_G (g i)))) := by
  rw [List.getElem?_append_right (Nat.le_add_right _ _), Nat.add_sub_cancel_left]
  have hl : i < (xs_rows cI r n k g).length := by simp [xs_rows, hi]
  rw [List.getElem?_append_left hl]
  simp [xs_rows, hi]
theorem xs_rows_set {A : Nat → Prop} {cI : ClassId} {r : Nat → Nat} {n k : Nat} {g : Nat → Nat → Nat} {pre post : va_W} {i j v : Nat} (hi : i < n) : (pre ++ (xs_rows cI r n k g ++ post)).set (pre.length + i) (r i, .inl (cI, k, .inl (xs_G (va_up (g i) j v)))) = pre ++ (xs_rows cI r n k (xs_up2 g i j v) ++ post) := by
  have hl : i < (xs_rows cI r n k g).length := by simp [xs_rows, hi]
  rw [List.set_append_right _ _ (Nat.le_add_right _ _), Nat.add_sub_cancel_left, List.set_append_left _ _ hl]
  congr 2
  apply List.ext_getElem?
  intro t
  by_cases ht : t = i
  · subst ht
    rw [List.getElem?_set_self hl]
    simp [xs_rows, hi, xs_up2, va_up]
  · rw [List.getElem?_set_ne (Ne.symm ht)]
    by_cases h2 : t < n
    · simp [xs_rows, h2, xs_up2, va_up, ht]
    · simp [xs_rows, h2]
variable {p : Program} {l : Launch} {e : Env} {R : Room} {s : State} {m : MethodId} {args : Array Value} {below : List Frame} {meth : Method} {c : Code} {H : Heap} {locs : List Loc} {cells slots : Nat} {Q : State → Prop}
variable {cc : ByteArray} {pc : Nat} {ls : Array Slot} {rest : List Value} {D : va_G} {cl : List vw_C} {A : Nat → Prop} {a : Nat} {tys : List (ClassId × FieldType)} {ws : va_W} {H0 : Heap}
theorem xw_ald (hexec : p.tables.exec = Jvm.exec) (hb : c.code = cc) (hK : va_K D cl tys s) (hP : va_P D cl ws H) (q0 t0 : Nat) {cA : ClassId} {n : Nat} {r : Nat → Nat} (ha : ws[q0]? = some (a, .inl (cA, n, .inr (.inr (.inr (.inr (xs_out r n))))))) (ht : tys[t0]? = some (cA, .array .int)) {i : Nat} (hi : i < n) (hn : n < 2 ^ 31) (hdg : decode cc pc = .ok (.aaload, 1))
    (kk : W p l e R s m args below meth c H locs cells slots Q (F0 m (pc + 1) ls (.ref (r i) :: rest))) : W p l e R s m args below meth c H locs cells slots Q (F0 m pc ls (.int (nI i) :: .ref a :: rest)) := by
  have e9 : (nI i).toNatClampNeg = i := nI_clamp (Nat.lt_trans hi hn)
  exact W.aald (v := .ref (r i)) (ty := .array .int) hexec hb (hP q0 _ ha) ((hK.2 t0 _ ht).1 n (fun j => va_rf (xs_out r n j))) rfl (fun q => by cases q) (by show ¬ (nI i < 0 ∨ (arrV _ _ _).slots.size ≤ _); rw [arrV_size]; exact vp_in_nI hi hn) (by show (arrV _ _ _).slots[_]? = _; rw [e9, arrV_read _ _ hi]; simp [xs_out, hi, va_rf]) rfl rfl hdg kk
theorem xw_rld (hexec : p.tables.exec = Jvm.exec) (hb : c.code = cc) (hK : va_K D cl tys s) (pre post : va_W) {cI : ClassId} {n k : Nat} {r : Nat → Nat} {g : Nat → Nat → Nat} (hP : va_P D cl (pre ++ (xs_rows cI r n k g ++ post)) H) (t0 : Nat) (ht : tys[t0]? = some (cI, .int)) {i j : Nat} (hi : i < n) (hj : j < k) (hn : k < 2 ^ 31) (hdg : decode cc pc = .ok (.iaload, 1))
    (kk : W p l e R s m args below meth c H locs cells slots Q (F0 m (pc + 1) ls (.int (nI (g i j)) :: rest))) : W p l e R s m args below meth c H locs cells slots Q (F0 m pc ls (.int (nI j) :: .ref (r i) :: rest)) :=
  xw_ildN hexec hb hK hP (pre.length + i) t0 (xs_rows_at hi) ht hj hn hdg kk
theorem xw_rst (hexec : p.tables.exec = Jvm.exec) (hb : c.code = cc) (hK : va_K D cl tys s) (pre post : va_W) {cI : ClassId} {n k : Nat} {r : Nat → Nat} {g : Nat → Nat → Nat} (hP : va_P D cl (pre ++ (xs_rows cI r n k g ++ post)) H) (hD : va_D A (pre ++ (xs_rows cI r n k g ++ post))) (hS : va_S A H0 H locs) (t0 : Nat) (ht : tys[t0]? = some (cI, .int)) {i j x : Nat} (hi : i < n) (hj : j < k) (hn : k < 2 ^ 31) (hdg : decode cc pc = .ok (.iastore, 1))
    (kk : ∀ (H1 : Heap) (locs1 : List Loc), va_P D cl (pre ++ (xs_rows cI r n k (xs_up2 g i j x) ++ post)) H1 → va_D A (pre ++ (xs_rows cI r n k (xs_up2 g i j x) ++ post)) → va_S A H0 H1 locs1 → W p l e R s m args below meth c H1 locs1 cells slots Q (F0 m (pc + 1) ls rest)) : W p l e R s m args below meth c H locs cells slots Q (F0 m pc ls (.int (nI x) :: .int (nI j) :: .ref (r i) :: rest)) :=
  xw_istN hexec hb hK hP hD hS (pre.length + i) t0 (xs_rows_at hi) ht hj hn hdg (fun H1 locs1 h1 h2 h3 => kk H1 locs1 (by rw [← xs_rows_set (A := A) hi]; exact h1) (by rw [← xs_rows_set (A := A) hi]; exact h2) h3)
theorem xs_up2_lt {g : Nat → Nat → Nat} {i j v B : Nat} (h : ∀ a b, g a b < B) (hv : v < B) : ∀ a b, xs_up2 g i j v a b < B := fun a b => by
  unfold xs_up2
  by_cases e9 : a = i
  · subst e9
    by_cases e8 : b = j
    · simp [va_up, e8, hv]
    · simp [va_up, e8, h a b]
  · simp [va_up, e9, h a b]
/-- the same where the rows stand last -/
theorem xw_rld1 (hexec : p.tables.exec = Jvm.exec) (hb : c.code = cc) (hK : va_K D cl tys s) (pre : va_W) {cI : ClassId} {n k : Nat} {r : Nat → Nat} {g : Nat → Nat → Nat} (hP : va_P D cl (pre ++ xs_rows cI r n k g) H) (t0 : Nat) (ht : tys[t0]? = some (cI, .int)) {i j : Nat} (hi : i < n) (hj : j < k) (hn : k < 2 ^ 31) (hdg : decode cc pc = .ok (.iaload, 1))
    (kk : W p l e R s m args below meth c H locs cells slots Q (F0 m (pc + 1) ls (.int (nI (g i j)) :: rest))) : W p l e R s m args below meth c H locs cells slots Q (F0 m pc ls (.int (nI j) :: .ref (r i) :: rest)) :=
  xw_rld hexec hb hK pre [] (by rw [List.append_nil]; exact hP) t0 ht hi hj hn hdg kk
theorem xw_rst1 (hexec : p.tables.exec = Jvm.exec) (hb : c.code = cc) (hK : va_K D cl tys s) (pre : va_W) {cI : ClassId} {n k : Nat} {r : Nat → Nat} {g : Nat → Nat → Nat} (hP : va_P D cl (pre ++ xs_rows cI r n k g) H) (hD : va_D A (pre ++ xs_rows cI r n k g)) (hS : va_S A H0 H locs) (t0 : Nat) (ht : tys[t0]? = some (cI, .int)) {i j x : Nat} (hi : i < n) (hj : j < k) (hn : k < 2 ^ 31) (hdg : decode cc pc = .ok (.iastore, 1))
    (kk : ∀ (H1 : Heap) (locs1 : List Loc), va_P D cl (pre ++ xs_rows cI r n k (xs_up2 g i j x)) H1 → va_D A (pre ++ xs_rows cI r n k (xs_up2 g i j x)) → va_S A H0 H1 locs1 → W p l e R s m args below meth c H1 locs1 cells slots Q (F0 m (pc + 1) ls rest)) : W p l e R s m args below meth c H locs cells slots Q (F0 m pc ls (.int (nI x) :: .int (nI j) :: .ref (r i) :: rest)) :=
  xw_rst hexec hb hK pre [] (by rw [List.append_nil]; exact hP) (by rw [List.append_nil]; exact hD) hS t0 ht hi hj hn hdg (fun H1 locs1 h1 h2 h3 => kk H1 locs1 (by rw [List.append_nil] at h1; exact h1) (by rw [List.append_nil] at h2; exact h2) h3)
end XSG
