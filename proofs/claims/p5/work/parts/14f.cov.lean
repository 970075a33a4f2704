section XCV
/-! what the reference has still to go through: every move of the level is met, waits in a queue, or comes yet -/
/-- o owns s: the first live one from its number on, round -/
def mo_O (li : Nat → Int32) (wk s o : Nat) : Prop := ∃ d, o = (lc_f s / 65536 % wk + d) % wk ∧ ¬ li o = 0 ∧ ∀ d', d' < d → li ((lc_f s / 65536 % wk + d') % wk) = 0
theorem mo_O_one {li : Nat → Int32} {wk s a b : Nat} (h1 : mo_O li wk s a) (h2 : mo_O li wk s b) : a = b := by
  obtain ⟨d, e, hl, hm⟩ := h1
  obtain ⟨d2, e2, hl2, hm2⟩ := h2
  rcases Nat.lt_trichotomy d d2 with h | h | h
  · exact absurd (by rw [e]; exact hm2 d h) hl
  · rw [e, e2, h]
  · exact absurd (by rw [e2]; exact hm d2 h) hl2
theorem mo_O_lv {li : Nat → Int32} {wk s a : Nat} (h : mo_O li wk s a) : ¬ li a = 0 := by
  obtain ⟨d, e, hl, hm⟩ := h; exact hl
theorem mo_O_lt {li : Nat → Int32} {wk s a : Nat} (hw : 0 < wk) (h : mo_O li wk s a) : a < wk := by
  obtain ⟨d, e, hl, hm⟩ := h; rw [e]; exact Nat.mod_lt _ hw
theorem mo_first {P : Nat → Prop} : ∀ n, P n → ∃ d, d ≤ n ∧ P d ∧ ∀ d', d' < d → ¬ P d' := by
  intro n
  induction n using Nat.strongRecOn with
  | _ n ih =>
    intro h
    by_cases h2 : ∃ d, d < n ∧ P d
    · obtain ⟨d, hd, hp⟩ := h2
      obtain ⟨q, q1, q2, q3⟩ := ih d hd hp
      exact ⟨q, by omega, q2, q3⟩
    · exact ⟨n, Nat.le_refl n, h, fun d hd hp => h2 ⟨d, hd, hp⟩⟩
theorem mo_O_ex {li : Nat → Int32} {wk : Nat} (hw : 0 < wk) (h : ∃ o, o < wk ∧ ¬ li o = 0) (s : Nat) : ∃ o, mo_O li wk s o := by
  obtain ⟨o, ho, hl⟩ := h
  have hq : lc_f s / 65536 % wk < wk := Nat.mod_lt _ hw
  generalize hz : lc_f s / 65536 % wk = q at hq
  have h9 : ¬ li ((q + (wk + o - q)) % wk) = 0 := by
    rw [show q + (wk + o - q) = o + wk by omega, Nat.add_mod_right, Nat.mod_eq_of_lt ho]; exact hl
  obtain ⟨d, d1, d2, d3⟩ := mo_first (P := fun d => ¬ li ((q + d) % wk) = 0) _ h9
  exact ⟨(q + d) % wk, d, by rw [hz], d2, fun d' hd => by rw [hz]; exact Classical.byContradiction (d3 d' hd)⟩
/-- how many moves of s are ahead of m -/
def mo_rk (fr : Nat → Nat) (s : Nat) : Nat → Nat
  | 0 => 0
  | m + 1 => mo_rk fr s m + (if fr m = s then 1 else 0)
theorem mo_rk_y {fr : Nat → Nat} {s m : Nat} (h : fr m = s) : mo_rk fr s (m + 1) = mo_rk fr s m + 1 := by show _ + _ = _; rw [if_pos h]
theorem mo_rk_n {fr : Nat → Nat} {s m : Nat} (h : ¬ fr m = s) : mo_rk fr s (m + 1) = mo_rk fr s m := by show _ + _ = _; rw [if_neg h]; rfl
theorem mo_rk_mono {fr : Nat → Nat} {s a b : Nat} (h : a ≤ b) : mo_rk fr s a ≤ mo_rk fr s b := by
  induction b with
  | zero => rw [show a = 0 by omega]; exact Nat.le_refl _
  | succ b ih =>
    by_cases e : a = b + 1
    · rw [e]; exact Nat.le_refl _
    · have := ih (by omega)
      show _ ≤ mo_rk fr s b + _
      omega
theorem mo_rk_lt {fr : Nat → Nat} {s a b : Nat} (h : a < b) (ha : fr a = s) : mo_rk fr s a < mo_rk fr s b := by
  have := mo_rk_mono (fr := fr) (s := s) (show a + 1 ≤ b from h)
  rw [mo_rk_y ha] at this
  omega
theorem mo_rk_one {fr : Nat → Nat} {s a b : Nat} (ha : fr a = s) (hb : fr b = s) (h : mo_rk fr s a = mo_rk fr s b) : a = b := by
  rcases Nat.lt_trichotomy a b with h9 | h9 | h9
  · have := mo_rk_lt h9 ha; omega
  · exact h9
  · have := mo_rk_lt h9 hb; omega
/-- z (0: none, else a state and one) is w's next one from s on -/
def mo_X (li : Nat → Int32) (wk mst lvl : Nat) (lo : Nat → Int32) (w s z : Nat) : Prop := (z = 0 ∧ ∀ k, s ≤ k → k < mst → lo k = nI lvl → ¬ mo_O li wk k w) ∨ (0 < z ∧ ∀ k, s ≤ k → k < z - 1 → lo k = nI lvl → ¬ mo_O li wk k w)
theorem mo_X_le {li : Nat → Int32} {wk mst lvl : Nat} {lo : Nat → Int32} {w s z k : Nat} (h : mo_X li wk mst lvl lo w s z) (h1 : s ≤ k) (h2 : k < mst) (h3 : lo k = nI lvl) (h4 : mo_O li wk k w) : 0 < z ∧ z - 1 ≤ k := by
  rcases h with ⟨h, h5⟩ | ⟨h, h5⟩
  · exact absurd h4 (h5 k h1 h2 h3)
  · refine ⟨h, ?_⟩
    rcases Nat.lt_or_ge k (z - 1) with h9 | h9
    · exact absurd h4 (h5 k h1 h9 h3)
    · exact h9
/-- what target and nextState answer -/
def mo_tg (fr to : Nat → Nat) (mmv sx kx : Nat) (v : Int32) : Prop := (v = (-1) ∧ mo_rk fr sx mmv ≤ kx) ∨ ∃ m, v = nI (to m) ∧ m < mmv ∧ fr m = sx ∧ kx ≤ m ∧ to m < 200 ∧ mo_rk fr sx m = kx
def mo_ns (li : Nat → Int32) (wk mst lvl : Nat) (lo : Nat → Int32) (w9 sx : Nat) (v : Int32) : Prop := (v = (-1) ∧ mo_X li wk mst lvl lo w9 sx 0) ∨ ∃ j, v = nI j ∧ sx ≤ j ∧ j < mst ∧ lo j = nI lvl ∧ mo_X li wk mst lvl lo w9 sx (j + 1)
/-- every move of the level -/
def mo_V (wk mmv lvl : Nat) (lo nx : Nat → Int32) (fr to q gq gs nm : Nat → Nat) (li : Nat → Int32) : Prop := ∀ m, m < mmv → lo (fr m) = nI lvl →
  (¬ lo (to m) < 0 ∨ ¬ nx (to m) = 0) ∨ (∃ w k, w < wk ∧ k < q w ∧ gq (8 * w + k) = to m) ∨ (∃ w, mo_O li wk (fr m) w ∧ 0 < gs w ∧ (gs w - 1 < fr m ∨ (gs w - 1 = fr m ∧ nm w ≤ mo_rk fr (fr m) m)))
/-- who has a queue lives -/
def mo_L (wk : Nat) (q : Nat → Nat) (li : Nat → Int32) : Prop := ∀ w, w < wk → 0 < q w → ¬ li w = 0
theorem mo_L_0 {wk : Nat} {q : Nat → Nat} {li : Nat → Int32} (h : ∀ w, w < wk → q w = 0) : mo_L wk q li := fun w hw hq => by rw [h w hw] at hq; omega
theorem mo_L_put {wk o : Nat} {q : Nat → Nat} {li : Nat → Int32} (h : mo_L wk q li) (ho : ¬ li o = 0) : mo_L wk (va_up q o (q o + 1)) li := fun w hw hq => by
  by_cases e : w = o
  · rw [e]; exact ho
  · rw [xs_up_ne e] at hq; exact h w hw hq
theorem mo_L_take {wk o : Nat} {q : Nat → Nat} {li : Nat → Int32} (h : mo_L wk q li) : mo_L wk (va_up q o (q o - 1)) li := fun w hw hq => by
  by_cases e : w = o
  · subst e; simp only [va_up, if_true] at hq; exact h w hw (by omega)
  · rw [xs_up_ne e] at hq; exact h w hw hq
theorem mo_V_0 {wk mst mmv lvl : Nat} {lo nx : Nat → Int32} {fr to q gq gs nm : Nat → Nat} {li : Nat → Int32} (hw : 0 < wk) (hlive : ∃ o, o < wk ∧ ¬ li o = 0) (hst : ∀ j, lo j = nI lvl → j < mst) (h1 : ∀ w, w < wk → ¬ li w = 0 → mo_X li wk mst lvl lo w 0 (gs w)) (h2 : ∀ w, w < wk → nm w = 0) : mo_V wk mmv lvl lo nx fr to q gq gs nm li := fun m hm hl => by
  obtain ⟨o, ho⟩ := mo_O_ex hw hlive (fr m)
  have hx := mo_X_le (h1 o (mo_O_lt hw ho) (mo_O_lv ho)) (Nat.zero_le _) (hst _ hl) hl ho
  refine Or.inr (Or.inr ⟨o, ho, hx.1, ?_⟩)
  rcases Nat.lt_or_ge (gs o - 1) (fr m) with h9 | h9
  · exact Or.inl h9
  · exact Or.inr ⟨by omega, by rw [h2 o (mo_O_lt hw ho)]; exact Nat.zero_le _⟩
theorem mo_V_take {wk mmv lvl : Nat} {lo nx nx1 : Nat → Int32} {fr to q gq gq1 gs nm : Nat → Nat} {li : Nat → Int32} {w9 : Nat} (h : mo_V wk mmv lvl lo nx fr to q gq gs nm li) (hq8 : ∀ j, q j < 9) (h1 : ∀ j, j + 1 < q w9 → gq1 (8 * w9 + j) = gq (8 * w9 + j + 1)) (h2 : ∀ j, (j < 8 * w9 ∨ 8 * w9 + q w9 ≤ j + 1) → gq1 j = gq j) (hm : ∀ j, ¬ nx j = 0 → ¬ nx1 j = 0) (hn : ¬ lo (gq (8 * w9)) < 0 ∨ ¬ nx1 (gq (8 * w9)) = 0) : mo_V wk mmv lvl lo nx1 fr to (va_up q w9 (q w9 - 1)) gq1 gs nm li := fun m hm9 hl => by
  rcases h m hm9 hl with h9 | ⟨w, k, a, b, c⟩ | h9
  · exact Or.inl (h9.imp id (hm _))
  · by_cases e : w = w9
    · subst e
      rcases Nat.eq_zero_or_pos k with e0 | e0
      · subst e0; rw [Nat.add_zero] at c; rw [c] at hn; exact Or.inl hn
      · refine Or.inr (Or.inl ⟨w, k - 1, a, ?_, ?_⟩)
        · simp only [va_up, if_true]; omega
        · rw [h1 (k - 1) (by omega), show 8 * w + (k - 1) + 1 = 8 * w + k by omega]; exact c
    · refine Or.inr (Or.inl ⟨w, k, a, by rw [xs_up_ne e]; exact b, ?_⟩)
      have hk8 := hq8 w
      have hw8 := hq8 w9
      rw [h2 (8 * w + k) (by omega)]; exact c
  · exact Or.inr (Or.inr h9)
/-- a state is met, or put behind a queue; the moves stand as they were -/
theorem mo_V_meet {wk mmv lvl : Nat} {lo nx nx1 : Nat → Int32} {fr to q gq gs nm : Nat → Nat} {li : Nat → Int32} (h : mo_V wk mmv lvl lo nx fr to q gq gs nm li) (hm : ∀ j, ¬ nx j = 0 → ¬ nx1 j = 0) : mo_V wk mmv lvl lo nx1 fr to q gq gs nm li := fun m hm9 hl => (h m hm9 hl).imp (fun h9 => h9.imp id (hm _)) id
theorem mo_V_put {wk mmv lvl : Nat} {lo nx : Nat → Int32} {fr to q gq gs nm : Nat → Nat} {li : Nat → Int32} {o t : Nat} (h : mo_V wk mmv lvl lo nx fr to q gq gs nm li) (hq8 : ∀ j, q j < 9) (ho : q o < 8) : mo_V wk mmv lvl lo nx fr to (va_up q o (q o + 1)) (va_up gq (8 * o + q o) t) gs nm li := fun m hm9 hl => by
  rcases h m hm9 hl with h9 | ⟨w, k, a, b, c⟩ | h9
  · exact Or.inl h9
  · have hk8 := hq8 w
    refine Or.inr (Or.inl ⟨w, k, a, ?_, ?_⟩)
    · by_cases e : w = o
      · subst e; simp only [va_up, if_true]; omega
      · rw [xs_up_ne e]; exact b
    · rw [xs_up_ne (by by_cases e : w = o; subst e; omega; omega)]; exact c
  · exact Or.inr (Or.inr h9)
/-- the target of w9's next move is met or queued: it goes on -/
theorem mo_V_mv {wk mmv lvl : Nat} {lo nx : Nat → Int32} {fr to q gq gs nm : Nat → Nat} {li : Nat → Int32} {w9 m7 : Nat} (h : mo_V wk mmv lvl lo nx fr to q gq gs nm li) (hf : fr m7 = gs w9 - 1) (hr : mo_rk fr (gs w9 - 1) m7 = nm w9) (ht : (¬ lo (to m7) < 0 ∨ ¬ nx (to m7) = 0) ∨ ∃ w k, w < wk ∧ k < q w ∧ gq (8 * w + k) = to m7) : mo_V wk mmv lvl lo nx fr to q gq gs (va_up nm w9 (nm w9 + 1)) li := fun m hm9 hl => by
  rcases h m hm9 hl with h9 | h9 | ⟨w, a, b, c⟩
  · exact Or.inl h9
  · exact Or.inr (Or.inl h9)
  · by_cases e : w = w9
    · subst e
      rcases c with c | ⟨c, d⟩
      · exact Or.inr (Or.inr ⟨w, a, b, Or.inl c⟩)
      · by_cases e2 : m = m7
        · subst e2; exact ht.imp id Or.inl
        · refine Or.inr (Or.inr ⟨w, a, b, Or.inr ⟨c, ?_⟩⟩)
          simp only [va_up, if_true]
          rcases Nat.lt_or_ge (nm w) (mo_rk fr (fr m) m) with h9 | h9
          · exact h9
          · exact absurd (mo_rk_one (s := fr m) rfl (by rw [hf, c]) (by rw [← c, hr, c]; omega)) e2
    · exact Or.inr (Or.inr ⟨w, a, b, by rw [xs_up_ne e]; exact c⟩)
/-- no move is left there: the next state -/
theorem mo_V_nx {wk mst mmv lvl : Nat} {lo nx : Nat → Int32} {fr to q gq gs nm : Nat → Nat} {li : Nat → Int32} {w9 z : Nat} (h : mo_V wk mmv lvl lo nx fr to q gq gs nm li) (hst : ∀ j, lo j = nI lvl → j < mst) (hr : mo_rk fr (gs w9 - 1) mmv ≤ nm w9) (hz : mo_X li wk mst lvl lo w9 (gs w9 - 1 + 1) z) : mo_V wk mmv lvl lo nx fr to q gq (va_up gs w9 z) (va_up nm w9 0) li := fun m hm9 hl => by
  rcases h m hm9 hl with h9 | h9 | ⟨w, a, b, c⟩
  · exact Or.inl h9
  · exact Or.inr (Or.inl h9)
  · by_cases e : w = w9
    · subst e
      rcases c with c | ⟨c, d⟩
      · have hx := mo_X_le hz c (hst _ hl) hl a
        refine Or.inr (Or.inr ⟨w, a, by simp only [va_up, if_true]; exact hx.1, ?_⟩)
        simp only [va_up, if_true]
        rcases Nat.lt_or_ge (z - 1) (fr m) with h9 | h9
        · exact Or.inl h9
        · exact Or.inr ⟨by omega, Nat.zero_le _⟩
      · have h9 := mo_rk_lt hm9 (s := gs w - 1) c.symm
        rw [← c] at d
        omega
    · exact Or.inr (Or.inr ⟨w, a, by rw [xs_up_ne e]; exact b, by rw [xs_up_ne e, xs_up_ne e]; exact c⟩)
/-- all are done: every move of the level leads to a state that has a level or is met -/
theorem mo_V_end {wk mmv lvl : Nat} {lo nx : Nat → Int32} {fr to q gq gs nm : Nat → Nat} {li : Nat → Int32} (hw : 0 < wk) (h : mo_V wk mmv lvl lo nx fr to q gq gs nm li) (hL : mo_L wk q li) (hd : ∀ w, w < wk → ¬ ms_nd li q gs w) : ∀ m, m < mmv → lo (fr m) = nI lvl → ¬ lo (to m) < 0 ∨ ¬ nx (to m) = 0 := fun m hm hl => by
  rcases h m hm hl with h9 | ⟨w, k, a, b, c⟩ | ⟨w, a, b, c⟩
  · exact h9
  · exact absurd ⟨hL w a (by omega), Or.inl (by omega)⟩ (hd w a)
  · exact absurd ⟨mo_O_lv a, Or.inr b⟩ (hd w (mo_O_lt hw a))
end XCV
section XCD
/-- from q0 on to q all are lost -/
def mo_D (li : Nat → Int32) (wk q0 q : Nat) : Prop := ∃ d, q = (q0 + d) % wk ∧ ∀ d', d' < d → li ((q0 + d') % wk) = 0
theorem mo_D_0 {li : Nat → Int32} {wk q0 : Nat} (h : q0 < wk) : mo_D li wk q0 q0 := ⟨0, by rw [Nat.add_zero, Nat.mod_eq_of_lt h], fun d' h => absurd h (by omega)⟩
theorem mo_D_s {li : Nat → Int32} {wk q0 q : Nat} (h : mo_D li wk q0 q) (hz : li q = 0) : mo_D li wk q0 ((q + 1) % wk) := by
  obtain ⟨d, e, hd⟩ := h
  refine ⟨d + 1, ?_, fun d' h => ?_⟩
  · rw [e, Nat.mod_add_mod, Nat.add_assoc]
  · by_cases h9 : d' = d
    · rw [h9, ← e]; exact hz
    · exact hd d' (by omega)
theorem mo_D_O {li : Nat → Int32} {wk s o : Nat} (h : mo_D li wk (lc_f s / 65536 % wk) o) (hz : ¬ li o = 0) : mo_O li wk s o := by
  obtain ⟨d, e, hd⟩ := h
  exact ⟨d, e, hz, hd⟩
end XCD
section XCL
theorem mo_P_lt {mst mmv lvl k j : Nat} {lo : Nat → Int32} {fr to : Nat → Nat} (h : mo_P mst mmv lvl lo fr to) (hk : k < 2 ^ 31) (hj : lo j = nI k) : j < mst := by
  rcases h.1 j with a | ⟨q, a, b, c⟩
  · exact absurd (hj.symm.trans a) (xs_nm1 hk)
  · exact b
theorem mo_xl_0 {E : Nat → Nat → Prop} : upd (fun _ => (-1)) 0 (nI 0) = xl E 0 := by
  funext s
  by_cases h : s = 0
  · subst h; rw [pk_us]; show nI 0 = if (0 : Nat) = 0 then nI 0 else (-1); rw [if_pos rfl]
  · rw [pk_un h]; show (-1) = if s = 0 then nI 0 else (-1); rw [if_neg h]
theorem xl_neg {E : Nat → Nat → Prop} {k s : Nat} (hk : k < 1000) (h : xl E k s < 0) : xl E k s = (-1) := by
  rcases xl_val E k s with a | ⟨j, a, b⟩
  · exact a
  · rw [b] at h; exact absurd h (mo_nn (by omega))
theorem xl_neg' {E : Nat → Nat → Prop} {k s : Nat} (h : xl E k s = (-1)) : xl E k s < 0 := by rw [h]; decide
theorem mo_xl {mst mmv lvl : Nat} {lo nx : Nat → Int32} {fr to : Nat → Nat} (hl : lvl < 1000) (h : lo = xl (xe_M mmv fr to) lvl) (hN : mo_N mst mmv lvl lo nx fr to) (hC : ∀ m, m < mmv → lo (fr m) = nI lvl → ¬ lo (to m) < 0 ∨ ¬ nx (to m) = 0) (hto : ∀ m, m < mmv → to m < mst) : xs_fg mst (mo_cl nx lo (nI (lvl + 1))) lo = xl (xe_M mmv fr to) (lvl + 1) := by
  refine xl_step (P := fun s => s < mst ∧ ¬ nx s = 0) h (fun s => ⟨fun ⟨a, b⟩ => ?_, fun ⟨a, t, b, m, c, d, f⟩ => ?_⟩) (fun s ⟨a, b⟩ => ?_) (fun s hs => ?_)
  · obtain ⟨⟨m, c, d, f⟩, g⟩ := hN s a b
    exact ⟨by rw [h] at g ⊢; exact xl_neg hl g, fr m, f, m, c, rfl, d⟩
  · refine ⟨by rw [← f]; exact hto m c, ?_⟩
    rcases hC m c (by rw [d]; exact b) with g | g
    · rw [f] at g; exact absurd (by rw [a]; decide) g
    · rw [f] at g; exact g
  · unfold xs_fg mo_cl; rw [if_pos a, if_neg b]
  · unfold xs_fg mo_cl
    by_cases a : s < mst
    · by_cases b : nx s = 0
      · rw [if_pos a, if_pos b]
      · exact absurd ⟨a, b⟩ hs
    · rw [if_neg a]
theorem mo_xl_pos {mst : Nat} {lo nx : Nat → Int32} {v : Int32} (h : 0 < xs_lv nx mst) : ∃ s, (xs_fg mst (mo_cl nx lo v) lo) s = v := by
  obtain ⟨o, a, b⟩ := xs_lv_pos h
  exact ⟨o, by unfold xs_fg mo_cl; rw [if_pos a, if_neg b]⟩
theorem xs_lv_zero {f : Nat → Int32} {n : Nat} : xs_lv f n = 0 → ∀ o, o < n → f o = 0 := by
  induction n with
  | zero => intro _ o ho; exact absurd ho (by omega)
  | succ n ih =>
    intro h o ho
    have h : xs_lv f n + (if f n = 0 then 0 else 1) = 0 := h
    by_cases e : f n = 0
    · by_cases e2 : o = n
      · rw [e2]; exact e
      · exact ih (by omega) o (by omega)
    · rw [if_neg e] at h; omega
theorem mo_xl_no {mst lvl : Nat} {lo nx : Nat → Int32} {E : Nat → Nat → Prop} (hl : lvl < 1000) (h : lo = xl E lvl) (h0 : xs_lv nx mst = 0) (s : Nat) : ¬ (xs_fg mst (mo_cl nx lo (nI (lvl + 1))) lo) s = nI (lvl + 1) := by
  have e : (xs_fg mst (mo_cl nx lo (nI (lvl + 1))) lo) s = lo s := by
    unfold xs_fg mo_cl
    by_cases a : s < mst
    · rw [if_pos a, if_pos (xs_lv_zero h0 s a)]
    · rw [if_neg a]
  rw [e, h]
  rcases xl_val E lvl s with a | ⟨j, a, b⟩
  · rw [a]; exact fun z => xs_nm1 (by omega) z.symm
  · rw [b]; exact fun z => by have := mo_inj (by omega) (by omega) z; omega
/-- what run answers -/
def mo_rn (E : Nat → Nat → Prop) (mst : Nat) (th v : Int32) : Prop := (mst = 0 ∧ th = 1) ∨ (0 < mst ∧ th = 0 ∧ ∃ n, v = nI n ∧ n ≤ 200 ∧ xl_R E n)
end XCL
