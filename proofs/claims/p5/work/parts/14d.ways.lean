section XWY
/-! the reference's ways -/
def mo_mv (mmv : Nat) (fr to : Nat → Nat) (a b : Nat) : Prop := ∃ m, m < mmv ∧ fr m = a ∧ to m = b
/-- whoever leads to the goal is the goal, or has one a level on that leads there -/
def mo_C (mst mmv kg sx : Nat) (lo can : Nat → Int32) (fr to : Nat → Nat) : Prop := ∀ x, x < mst → ¬ can x = 0 → x = sx ∨ ∃ b k, b < mst ∧ ¬ can b = 0 ∧ k < kg ∧ lo x = nI k ∧ lo b = nI (k + 1) ∧ mo_mv mmv fr to x b
def fw_D (mmv fu n : Nat) (lo c8 : Nat → Int32) (fr to : Nat → Nat) (a : Nat) : Prop := ∃ b, b < n ∧ ¬ c8 b = 0 ∧ lo b = nI (fu + 1) ∧ mo_mv mmv fr to a b
theorem fw_0 {f : Nat → Int32} {i sx : Nat} {v : Int32} (h : ∀ j, j < i → ¬ f j = 0 → j = sx) (hv : v = 0 ∨ i = sx) : ∀ j, j < i + 1 → ¬ upd f i v j = 0 → j = sx := fun j hj hn => by
  by_cases e : j = i
  · subst e
    rcases hv with hv | hv
    · rw [pk_us] at hn; exact absurd hv hn
    · exact hv
  · rw [pk_un e] at hn; exact h j (by omega) hn
theorem fw_1 {f : Nat → Int32} {i sx : Nat} {v : Int32} (h : sx < i → ¬ f sx = 0) (hv : ¬ v = 0 ∨ ¬ i = sx) : sx < i + 1 → ¬ upd f i v sx = 0 := fun hj => by
  by_cases e : sx = i
  · subst e
    rcases hv with hv | hv
    · rw [pk_us]; exact hv
    · exact absurd rfl hv
  · rw [pk_un e]; exact h (by omega)
theorem fw_same {f : Nat → Int32} {i : Nat} (h : f i = 0) : upd f i (nI 0) = f := by
  funext j
  by_cases e : j = i
  · subst e; rw [pk_us, h]; exact nI_0
  · rw [pk_un e]
theorem fw_C0 {mst mmv kg sx : Nat} {lo can : Nat → Int32} {fr to : Nat → Nat} (h : ∀ j, j < mst → ¬ can j = 0 → j = sx) : mo_C mst mmv kg sx lo can fr to := fun x hx hn => Or.inl (h x hx hn)
theorem fw_1ne : ¬ nI 1 = (0 : Int32) := by decide
theorem fw_C1 {mst mmv kg sx fu i ib : Nat} {lo c : Nat → Int32} {fr to : Nat → Nat} (h : mo_C mst mmv kg sx lo c fr to) (hi : lo i = nI fu) (hfu : fu < kg) (hb : ib < mst) (hcb : ¬ c ib = 0) (hlb : lo ib = nI (fu + 1)) (hm : mo_mv mmv fr to i ib) : mo_C mst mmv kg sx lo (upd c i (nI 1)) fr to := fun x hx hn => by
  have up : ∀ j, ¬ c j = 0 → ¬ upd c i (nI 1) j = 0 := fun j hj => by
    by_cases e : j = i
    · subst e; rw [pk_us]; exact fw_1ne
    · rw [pk_un e]; exact hj
  by_cases e : x = i
  · subst e
    exact Or.inr ⟨ib, fu, hb, up _ hcb, hfu, hi, hlb, hm⟩
  · rw [pk_un e] at hn
    rcases h x hx hn with q | ⟨b, k, h1, h2, h3, h4, h5, h6⟩
    · exact Or.inl q
    · exact Or.inr ⟨b, k, h1, up _ h2, h3, h4, h5, h6⟩
theorem fw_M1 {f6 f7 : Nat → Int32} {i : Nat} (h : ∀ j, ¬ f7 j = 0 → ¬ f6 j = 0) : ∀ j, ¬ f7 j = 0 → ¬ upd f6 i (nI 1) j = 0 := fun j hj => by
  by_cases e : j = i
  · subst e; rw [pk_us]; exact fw_1ne
  · rw [pk_un e]; exact h j hj
theorem fw_U1 {f6 f7 : Nat → Int32} {i : Nat} {v : Int32} (h : ∀ j, j ≠ i → f6 j = f7 j) : ∀ j, j ≠ i → upd f6 i v j = f7 j := fun j hj => by rw [pk_un hj]; exact h j hj
theorem fw_Dn {mmv fu n a : Nat} {lo c8 : Nat → Int32} {fr to : Nat → Nat} (h : fw_D mmv fu (n + 1) lo c8 fr to a) (hn : ¬ (¬ c8 n = 0 ∧ lo n = nI (fu + 1) ∧ mo_mv mmv fr to a n)) : fw_D mmv fu n lo c8 fr to a := by
  obtain ⟨b, h1, h2, h3, h4⟩ := h
  by_cases e : b = n
  · subst e; exact absurd ⟨h2, h3, h4⟩ hn
  · exact ⟨b, by omega, h2, h3, h4⟩
theorem fw_lne {x : Int32} {fu : Nat} (h : x = nI fu) (h2 : x = nI (fu + 1)) (hfu : fu ≤ 200 := by omega) : False := by
  rw [h] at h2
  have := mo_inj (by omega) (by omega) h2
  omega
/-- one at level fu + 1 leads on: then one at level fu does -/
theorem fw_E {mst mmv lvl fu : Nat} {lo c8 c7 : Nat → Int32} {fr to : Nat → Nat} (hl : lvl ≤ 200) (hP : mo_P mst mmv lvl lo fr to) (hfu : fu < 1000) (hE : ∃ a, a < mst ∧ lo a = nI (fu + 1) ∧ ¬ c8 a = 0) (hD : ∀ a, a < mst → lo a = nI fu → fw_D mmv fu mst lo c8 fr to a → ¬ c7 a = 0) : ∃ a, a < mst ∧ lo a = nI fu ∧ ¬ c7 a = 0 := by
  obtain ⟨a, h1, h2, h3⟩ := hE
  obtain ⟨m, m1, m2, m3⟩ := hP.2.2 a fu h2 hfu
  have hm : fr m < mst := by
    rcases hP.1 (fr m) with q | ⟨k, q1, q2, q3⟩
    · rw [q] at m3; exact absurd m3.symm (xs_nm1 (by omega))
    · exact q2
  exact ⟨fr m, hm, m3, hD _ hm m3 ⟨a, h1, h3, h2, m, m1, rfl, m2⟩⟩
/-- the next one on a way -/
theorem fw_next {mst mmv kg sx l at9 : Nat} {lo can : Nat → Int32} {fr to : Nat → Nat} (hC : mo_C mst mmv kg sx lo can fr to) (hk : lo sx = nI kg) (hkg : kg ≤ 200) (ha : at9 < mst) (hc : ¬ can at9 = 0) (hl : lo at9 = nI l) (hlk : l < kg) : ∃ b, b < mst ∧ ¬ can b = 0 ∧ lo b = nI (l + 1) ∧ mo_mv mmv fr to at9 b := by
  rcases hC at9 ha hc with q | ⟨b, k, h1, h2, h3, h4, h5, h6⟩
  · rw [q, hk] at hl; have := mo_inj (by omega) (by omega) hl; omega
  · rw [hl] at h4
    have e := mo_inj (by omega) (by omega) h4
    subst e
    exact ⟨b, h1, h2, h5, h6⟩
theorem mo_bk {b : Int32} {kg : Nat} (h0 : ¬ b < 0) (h1 : b ≤ nI kg) (hk : kg ≤ 200) : ∃ k9, k9 ≤ kg ∧ b = nI k9 := by
  rcases pk_ix b (n := kg + 1) (by omega) with h | h | ⟨j, h, e⟩
  · exact absurd h h0
  · exact absurd (Int32.le_trans h h1) (nI_ge (by omega) (by omega))
  · exact ⟨j, by omega, e⟩
end XWY
