theorem xst_of {args : Array Value} {s : State} {n d : String} {A : Nat → Prop} (h1 : (Cond.isRef (.static Bundle.tN n d)).before args s = true) (h2 : (Cond.laysStatic Bundle.tN n d).before args s = true) (hA : ∀ a : Nat, a < s.heap.size → ¬ A a) : xst n d A s s.heap := by
  obtain ⟨c, k, i, f, a, cell, g1, g2, g3, g4, g5, g6, g7, g8, g9⟩ := Cond.laysStatic_spec h2
  obtain ⟨v, hv⟩ : ∃ v, cell.slots[f.slot]? = some v := ⟨_, Array.getElem?_eq_getElem g8⟩
  have e0 : (Term.static Bundle.tN n d).eval args s none [] s = some v := by
    simp [Term.eval, State.fieldNamed?, g2, g3, g4, g5, g6, hv]
  refine ⟨a, cell, g5, hA a (Array.getElem?_eq_some_iff.mp g5).1, fun U' args' hal hc => ?_⟩
  obtain ⟨k', hi', he⟩ := State.fieldFound?_setVm hal g2
  have hi'' : U'.fieldFound? Bundle.tN n d = some (c, k', i, f) := hi'
  have g4' : k'.statics = some a := by rw [he]; exact g4
  have e1 : (Term.static Bundle.tN n d).eval args' U' none [] U' = some v := by
    simp [Term.eval, State.fieldNamed?, hi'', g3, g4', hc, g6, hv]
  refine ⟨?_, Cond.laysStatic_of (by rw [hal.findClass]; exact g1) hi'' g3 g4' hc g6 g7 g8 (by rw [he]; exact g9)⟩
  simp only [Cond.before, Cond.holds, Cond.value, e0] at h1
  simp only [Cond.before, Cond.holds, Cond.value, e1]
  exact h1
theorem xs_arr {args : Array Value} {s : State} {t : FieldType} (h : (Cond.arrayClass t).before args s = true) : ∃ c : ClassId, ArrOfT s c t ∧ s.vm.findClass ("[" ++ t.toString) = some c := by
  obtain ⟨c, k, comp, h1, h2, h3⟩ := Cond.arrayClass_spec h
  exact ⟨c, fun N z => ⟨(fun q hq => by cases hq), k, h2, comp, h3⟩, h1⟩
theorem xs_strs_in : ∀ q ∈ xs_strs, Cond.stringRef "ExploreShares" q.1 q.2 ∈ lw_tbl := by decide +kernel
theorem xs_arrR {s : State} (h : va_Nw (Cond.arrayOver (.array .int)) s) : ∃ c : ClassId, ArrOfT s c (.array .int) ∧ s.vm.findClass ("[" ++ (FieldType.array .int).toString) = some c := by
  obtain ⟨comp, c, k, h1, -, h3, h4, h5⟩ := Jvm.Stand.arrayOver_specB h
  exact ⟨c, fun N z => ⟨(fun q hq => by cases hq), k, h3, comp, h4⟩, h5⟩
