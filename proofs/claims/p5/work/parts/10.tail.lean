section XTL
/-! worlds with a tail that a call does not touch: places without looking at the tail -/
theorem xs_C_app {ws t w : va_W} {is : List Nat} (h : is.map (fun i => ws[i]?) = w.map some) : is.map (fun i => (ws ++ t)[i]?) = w.map some := by
  induction is generalizing w with
  | nil => exact h
  | cons i is ih =>
    cases w with
    | nil => simp at h
    | cons q w =>
      simp only [List.map_cons, List.cons.injEq] at h ⊢
      exact ⟨by rw [List.getElem?_append_left (List.getElem?_eq_some_iff.mp h.1).1]; exact h.1, ih h.2⟩
theorem xs_rng (p l s : va_W) {n k : Nat} (hn : p.length = n) (hk : l.length = k) : (List.range' n k).map (fun i => (p ++ (l ++ s))[i]?) = l.map some := by
  subst hn
  subst hk
  apply List.ext_getElem?
  intro j
  rw [List.getElem?_map, List.getElem?_map]
  by_cases hj : j < l.length
  · rw [List.getElem?_range' hj]
    simp only [Option.map_some, Nat.one_mul]
    rw [List.getElem?_append_right (Nat.le_add_right _ _), Nat.add_sub_cancel_left, List.getElem?_append_left hj, List.getElem?_eq_getElem hj]
    rfl
  · rw [List.getElem?_eq_none (by simp; omega), List.getElem?_eq_none (by omega)]
    rfl
theorem xs_R_app {ws t w : va_W} {is : List Nat} {n k : Nat} (hn : ws.length = n) (hk : t.length = k) (h : is.map (fun i => ws[i]?) = w.map some) : (is ++ List.range' n k).map (fun i => (ws ++ t)[i]?) = (w ++ t).map some := by
  rw [List.map_append, List.map_append, xs_C_app h]
  congr 1
  have := xs_rng ws t [] hn hk
  rw [List.append_nil] at this
  exact this
/-- behind a call: the rest and its tail, then the callee's: the tail behind all -/
theorem xs_mid_idx (a t b : va_W) {na nt nb : Nat} (ha : a.length = na) (ht : t.length = nt) (hb : b.length = nb) : (List.range' 0 na ++ (List.range' (na + nt) nb ++ List.range' na nt)).map (fun i => ((a ++ t) ++ b)[i]?) = ((a ++ b) ++ t).map some := by
  rw [List.map_append, List.map_append, List.map_append, List.map_append, List.append_assoc a t b]
  have h1 := xs_rng (n := 0) [] a (t ++ b) rfl ha
  have h2 := xs_rng a t b ha ht
  have h3 := xs_rng (a ++ t) b [] (by rw [List.length_append, ha, ht]) hb
  rw [List.append_nil, List.append_assoc] at h3
  rw [List.nil_append] at h1
  rw [h1, h2, h3, List.append_assoc]
theorem xs_P_mid {D : va_G} {cl : List vw_C} {H : Heap} {a t b : va_W} (h : va_P D cl ((a ++ t) ++ b) H) : va_P D cl ((a ++ b) ++ t) H := xs_P_sub h _ (xs_mid_idx a t b rfl rfl rfl)
theorem xs_D_mid {A : Nat → Prop} {a t b : va_W} {na nt nb : Nat} (ha : a.length = na) (ht : t.length = nt) (hb : b.length = nb) (hn : va_nd (List.range' 0 na ++ (List.range' (na + nt) nb ++ List.range' na nt)) = true) (h : va_D A ((a ++ t) ++ b)) : va_D A ((a ++ b) ++ t) := h.sub _ hn (xs_mid_idx a t b ha ht hb)
/-- the same where the call takes the rows that stand behind the flat cells -/
theorem xs_C3 {a r t w : va_W} {is : List Nat} {n k : Nat} (hn : a.length = n) (hk : r.length = k) (h : is.map (fun i => a[i]?) = w.map some) : (is ++ List.range' n k).map (fun i => (a ++ (r ++ t))[i]?) = (w ++ r).map some := by
  rw [List.map_append, List.map_append, xs_C_app h, xs_rng a r t hn hk]
theorem xs_R3 {a r t w : va_W} {is : List Nat} {n k j : Nat} (hn : a.length = n) (hk : r.length = k) (hj : t.length = j) (h : is.map (fun i => a[i]?) = w.map some) : (is ++ List.range' (n + k) j).map (fun i => (a ++ (r ++ t))[i]?) = (w ++ t).map some := by
  have h3 := xs_rng (a ++ r) t [] (by rw [List.length_append, hn, hk]) hj
  rw [List.append_nil, List.append_assoc] at h3
  rw [List.map_append, List.map_append, xs_C_app h, h3]
theorem xs_as3 (a b r t : va_W) : (a ++ (b ++ r)) ++ t = (a ++ b) ++ (r ++ t) := by simp only [List.append_assoc]
theorem xs_P_asc {D : va_G} {cl : List vw_C} {H : Heap} {a b r : va_W} (h : va_P D cl (a ++ (b ++ r)) H) : va_P D cl ((a ++ b) ++ r) H := by rw [List.append_assoc]; exact h
theorem xs_D_asc {A : Nat → Prop} {a b r : va_W} (h : va_D A (a ++ (b ++ r))) : va_D A ((a ++ b) ++ r) := by rw [List.append_assoc]; exact h
theorem xs_P_mid3 {D : va_G} {cl : List vw_C} {H : Heap} {a t b r : va_W} (h : va_P D cl ((a ++ t) ++ (b ++ r)) H) : va_P D cl ((a ++ b) ++ (r ++ t)) H := by rw [← xs_as3]; exact xs_P_mid h
theorem xs_D_mid3 {A : Nat → Prop} {a t b r : va_W} {na nt nb : Nat} (ha : a.length = na) (ht : t.length = nt) (hb : (b ++ r).length = nb) (hn : va_nd (List.range' 0 na ++ (List.range' (na + nt) nb ++ List.range' na nt)) = true) (h : va_D A ((a ++ t) ++ (b ++ r))) : va_D A ((a ++ b) ++ (r ++ t)) := by rw [← xs_as3]; exact xs_D_mid ha ht hb hn h
/-- two groups of rows in the other order -/
theorem xs_tsw_idx (a r t : va_W) {na nr nt : Nat} (ha : a.length = na) (hr : r.length = nr) (ht : t.length = nt) : (List.range' 0 na ++ (List.range' (na + nr) nt ++ List.range' na nr)).map (fun i => (a ++ (r ++ t))[i]?) = (a ++ (t ++ r)).map some := by
  have h := xs_mid_idx a r t ha hr ht
  rw [List.append_assoc a r t, List.append_assoc a t r] at h
  exact h
theorem xs_P_tsw {D : va_G} {cl : List vw_C} {H : Heap} {a r t : va_W} (h : va_P D cl (a ++ (r ++ t)) H) : va_P D cl (a ++ (t ++ r)) H := xs_P_sub h _ (xs_tsw_idx a r t rfl rfl rfl)
theorem xs_D_tsw {A : Nat → Prop} {a r t : va_W} {na nr nt : Nat} (ha : a.length = na) (hr : r.length = nr) (ht : t.length = nt) (hn : va_nd (List.range' 0 na ++ (List.range' (na + nr) nt ++ List.range' na nr)) = true) (h : va_D A (a ++ (r ++ t))) : va_D A (a ++ (t ++ r)) := h.sub _ hn (xs_tsw_idx a r t ha hr ht)
/-- another part of the world to the front -/
theorem xs_swap_idx (a b t : va_W) {na nb nt : Nat} (ha : a.length = na) (hb : b.length = nb) (ht : t.length = nt) : (List.range' na nb ++ (List.range' 0 na ++ List.range' (na + nb) nt)).map (fun i => (a ++ (b ++ t))[i]?) = (b ++ (a ++ t)).map some := by
  rw [List.map_append, List.map_append, List.map_append, List.map_append]
  have h1 := xs_rng a b t ha hb
  have h2 := xs_rng (n := 0) [] a (b ++ t) rfl ha
  have h3 := xs_rng (a ++ b) t [] (by rw [List.length_append, ha, hb]) ht
  rw [List.append_nil, List.append_assoc] at h3
  rw [List.nil_append] at h2
  rw [h1, h2, h3]
theorem xs_P_swap {D : va_G} {cl : List vw_C} {H : Heap} {a b t : va_W} (h : va_P D cl (a ++ (b ++ t)) H) : va_P D cl (b ++ (a ++ t)) H := xs_P_sub h _ (xs_swap_idx a b t rfl rfl rfl)
theorem xs_D_swap {A : Nat → Prop} {a b t : va_W} {na nb nt : Nat} (ha : a.length = na) (hb : b.length = nb) (ht : t.length = nt) (hn : va_nd (List.range' na nb ++ (List.range' 0 na ++ List.range' (na + nb) nt)) = true) (h : va_D A (a ++ (b ++ t))) : va_D A (b ++ (a ++ t)) := h.sub _ hn (xs_swap_idx a b t ha hb ht)
/-- the first part in another order -/
theorem xs_P_re {D : va_G} {cl : List vw_C} {H : Heap} {a b t : va_W} (is : List Nat) (hs : is.map (fun i => a[i]?) = b.map some) (h : va_P D cl (a ++ t) H) : va_P D cl (b ++ t) H := xs_P_sub h _ (xs_R_app rfl rfl hs)
theorem xs_D_re {A : Nat → Prop} {a b t : va_W} (is : List Nat) {na nt : Nat} (ha : a.length = na) (ht : t.length = nt) (hn : va_nd (is ++ List.range' na nt) = true) (hs : is.map (fun i => a[i]?) = b.map some) (h : va_D A (a ++ t)) : va_D A (b ++ t) := h.sub _ hn (xs_R_app ha ht hs)
end XTL
