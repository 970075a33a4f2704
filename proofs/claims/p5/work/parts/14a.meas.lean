section XME
/-! sums, counts, and what a level still has to do -/
def xs_sum (f : Nat → Nat) : Nat → Nat
  | 0 => 0
  | n + 1 => xs_sum f n + f n
theorem xs_sum_eq {f g : Nat → Nat} {n : Nat} (h : ∀ j, j < n → f j = g j) : xs_sum f n = xs_sum g n := by
  induction n with
  | zero => rfl
  | succ n ih =>
    show xs_sum f n + f n = xs_sum g n + g n
    rw [ih (fun j hj => h j (by omega)), h n (by omega)]
theorem xs_sum_up {f : Nat → Nat} {k v n : Nat} (hk : k < n) : xs_sum (va_up f k v) n + f k = xs_sum f n + v := by
  induction n with
  | zero => omega
  | succ n ih =>
    show xs_sum (va_up f k v) n + va_up f k v n + f k = xs_sum f n + f n + v
    by_cases e : k = n
    · subst e
      rw [xs_sum_eq (f := va_up f k v) (g := f) (fun j hj => xs_up_ne (by omega))]
      simp [va_up]
      omega
    · have := ih (by omega)
      rw [xs_up_ne (Ne.symm e)]
      omega
theorem xs_sum_le {f : Nat → Nat} {n B : Nat} (h : ∀ j, f j ≤ B) : xs_sum f n ≤ n * B := by
  induction n with
  | zero => exact Nat.zero_le _
  | succ n ih =>
    show xs_sum f n + f n ≤ (n + 1) * B
    have := h n
    rw [Nat.succ_mul]
    omega
theorem xs_sum_ge {f : Nat → Nat} {k n : Nat} (hk : k < n) : f k ≤ xs_sum f n := by
  induction n with
  | zero => omega
  | succ n ih =>
    show f k ≤ xs_sum f n + f n
    by_cases e : k = n
    · subst e; omega
    · have := ih (by omega); omega
/-- where a worker stands: 0 nowhere, j + 1 at the state j -/
def xs_st (g : Nat → Nat) : Nat → Int32 := fun w => if g w = 0 then (-1) else nI (g w - 1)
theorem xs_st_0 {g : Nat → Nat} {k : Nat} : upd (xs_st g) k (-1) = xs_st (va_up g k 0) := by
  funext j
  by_cases h : j = k
  · subst h; rw [pk_us]; simp [xs_st, va_up]
  · rw [pk_un h]; simp [xs_st, va_up, h]
theorem xs_st_s {g : Nat → Nat} {k j0 : Nat} : upd (xs_st g) k (nI j0) = xs_st (va_up g k (j0 + 1)) := by
  funext j
  by_cases h : j = k
  · subst h; rw [pk_us]; simp [xs_st, va_up]
  · rw [pk_un h]; simp [xs_st, va_up, h]
theorem xs_st_at {g : Nat → Nat} {k : Nat} (h : ¬ g k = 0) : xs_st g k = nI (g k - 1) := by simp [xs_st, h]
theorem xs_st_no {g : Nat → Nat} {k : Nat} (h : g k = 0) : xs_st g k = (-1) := by simp [xs_st, h]
def ms_rem (g n : Nat) : Nat := if g = 0 then 0 else (201 - g) * 1300 - 2 * n
def ms_R (gs nm : Nat → Nat) (n : Nat) : Nat := xs_sum (fun i => ms_rem (gs i) (nm i)) n
theorem ms_rem_le (g n : Nat) : ms_rem g n ≤ 260000 := by
  unfold ms_rem
  split <;> omega
theorem ms_R_le (gs nm : Nat → Nat) {n : Nat} (hn : n ≤ 16) : ms_R gs nm n ≤ 4160000 := by
  have := xs_sum_le (f := fun i => ms_rem (gs i) (nm i)) (n := n) (B := 260000) (fun j => ms_rem_le _ _)
  unfold ms_R
  omega
theorem ms_R_nm {gs nm : Nat → Nat} {k v n : Nat} (hk : k < n) : ms_R gs (va_up nm k v) n + ms_rem (gs k) (nm k) = ms_R gs nm n + ms_rem (gs k) v := by
  have h := xs_sum_up (f := fun i => ms_rem (gs i) (nm i)) (v := ms_rem (gs k) v) hk
  have e : (fun i => ms_rem (gs i) (va_up nm k v i)) = va_up (fun i => ms_rem (gs i) (nm i)) k (ms_rem (gs k) v) := by
    funext i
    by_cases h : i = k
    · subst h; simp [va_up]
    · simp [va_up, h]
  unfold ms_R
  rw [e]
  exact h
theorem ms_R_gs {gs nm : Nat → Nat} {k v n : Nat} (hk : k < n) : ms_R (va_up gs k v) nm n + ms_rem (gs k) (nm k) = ms_R gs nm n + ms_rem v (nm k) := by
  have h := xs_sum_up (f := fun i => ms_rem (gs i) (nm i)) (v := ms_rem v (nm k)) hk
  have e : (fun i => ms_rem (va_up gs k v i) (nm i)) = va_up (fun i => ms_rem (gs i) (nm i)) k (ms_rem v (nm k)) := by
    funext i
    by_cases h : i = k
    · subst h; simp [va_up]
    · simp [va_up, h]
  unfold ms_R
  rw [e]
  exact h
/-- one move less: at least two less -/
theorem ms_rem_nm {g n : Nat} (hg : ¬ g = 0) (hg2 : g ≤ 200) (hn : n < 600) : ms_rem g (n + 1) + 2 ≤ ms_rem g n := by
  unfold ms_rem
  rw [if_neg hg, if_neg hg]
  omega
/-- a later state, or none: at least two less -/
theorem ms_rem_gs {g g2 n : Nat} (hg : ¬ g = 0) (hg2 : g ≤ 200) (h2 : g2 = 0 ∨ g < g2) (hn : n ≤ 600) : ms_rem g2 0 + 2 ≤ ms_rem g n := by
  unfold ms_rem
  rw [if_neg hg]
  split <;> omega
/-- how many are live -/
def xs_lv (f : Nat → Int32) : Nat → Nat
  | 0 => 0
  | n + 1 => xs_lv f n + (if f n = 0 then 0 else 1)
theorem xs_lv_le (f : Nat → Int32) (n : Nat) : xs_lv f n ≤ n := by
  induction n with
  | zero => exact Nat.le_refl 0
  | succ n ih =>
    show xs_lv f n + _ ≤ n + 1
    split <;> omega
theorem xs_lv_eq {f g : Nat → Int32} {n : Nat} (h : ∀ j, j < n → f j = g j) : xs_lv f n = xs_lv g n := by
  induction n with
  | zero => rfl
  | succ n ih =>
    show xs_lv f n + _ = xs_lv g n + _
    rw [ih (fun j hj => h j (by omega)), h n (by omega)]
theorem xs_lv_lose {f : Nat → Int32} {k n : Nat} (hk : k < n) (h : ¬ f k = 0) : xs_lv (upd f k 0) n + 1 = xs_lv f n := by
  induction n with
  | zero => omega
  | succ n ih =>
    show xs_lv (upd f k 0) n + _ + 1 = xs_lv f n + _
    by_cases e : k = n
    · subst e
      rw [xs_lv_eq (f := upd f k 0) (g := f) (fun j hj => pk_un (by omega)), pk_us, if_pos rfl, if_neg h]
    · have := ih (by omega)
      rw [pk_un (Ne.symm e)]
      omega
theorem xs_lv_pos {f : Nat → Int32} {n : Nat} (h : 0 < xs_lv f n) : ∃ o, o < n ∧ ¬ f o = 0 := by
  induction n with
  | zero => exact absurd h (by simp [xs_lv])
  | succ n ih =>
    by_cases e : f n = 0
    · have h1 : xs_lv f (n + 1) = xs_lv f n := by show xs_lv f n + _ = _; rw [if_pos e]; rfl
      rw [h1] at h
      obtain ⟨o, h2, h3⟩ := ih h
      exact ⟨o, by omega, h3⟩
    · exact ⟨n, by omega, e⟩
/-- who has still something to do -/
def ms_nd (li : Nat → Int32) (q gs : Nat → Nat) (w : Nat) : Prop := ¬ li w = 0 ∧ (0 < q w ∨ 0 < gs w)
def ms_cn (li : Nat → Int32) (q gs : Nat → Nat) : Nat → Nat
  | 0 => 0
  | n + 1 => ms_cn li q gs n + (if li n = 0 then 0 else if q n = 0 then (if gs n = 0 then 0 else 1) else 1)
theorem ms_cn_y {li : Nat → Int32} {q gs : Nat → Nat} {n : Nat} (h : ms_nd li q gs n) : ms_cn li q gs (n + 1) = ms_cn li q gs n + 1 := by
  show _ + _ = _ + 1
  obtain ⟨h1, h2⟩ := h
  rw [if_neg h1]
  split
  · rw [if_neg (by omega)]
  · rfl
theorem ms_cn_n {li : Nat → Int32} {q gs : Nat → Nat} {n : Nat} (h : ¬ ms_nd li q gs n) : ms_cn li q gs (n + 1) = ms_cn li q gs n := by
  show _ + _ = _
  by_cases h1 : li n = 0
  · rw [if_pos h1]; rfl
  · have h2 : ¬ (0 < q n ∨ 0 < gs n) := fun z => h ⟨h1, z⟩
    rw [if_neg h1, if_pos (by omega), if_pos (by omega)]; rfl
theorem ms_cn_le (li : Nat → Int32) (q gs : Nat → Nat) (n : Nat) : ms_cn li q gs n ≤ n := by
  induction n with
  | zero => exact Nat.le_refl 0
  | succ n ih =>
    show ms_cn li q gs n + _ ≤ n + 1
    split
    · omega
    · split
      · split <;> omega
      · omega
theorem ms_cn_mono {li : Nat → Int32} {q gs : Nat → Nat} {a b : Nat} (h : a ≤ b) : ms_cn li q gs a ≤ ms_cn li q gs b := by
  induction b with
  | zero => rw [show a = 0 by omega]; exact Nat.le_refl _
  | succ b ih =>
    by_cases e : a = b + 1
    · rw [e]; exact Nat.le_refl _
    · have := ih (by omega)
      show _ ≤ ms_cn li q gs b + _
      omega
theorem ms_cn_lt {li : Nat → Int32} {q gs : Nat → Nat} {a b : Nat} (h : a < b) (ha : ms_nd li q gs a) : ms_cn li q gs a < ms_cn li q gs b := by
  have h1 := ms_cn_mono (li := li) (q := q) (gs := gs) (show a + 1 ≤ b from h)
  rw [ms_cn_y ha] at h1
  omega
theorem ms_cn_one {li : Nat → Int32} {q gs : Nat → Nat} {a b : Nat} (ha : ms_nd li q gs a) (hb : ms_nd li q gs b) (h : ms_cn li q gs a = ms_cn li q gs b) : a = b := by
  rcases Nat.lt_trichotomy a b with h1 | h1 | h1
  · have := ms_cn_lt h1 ha; omega
  · exact h1
  · have := ms_cn_lt h1 hb; omega
/-- within K draws one with something in its queue comes, if there is one -/
def ms_K (li : Nat → Int32) (q gs : Nat → Nat) (wk x K : Nat) : Prop := (∃ o, o < wk ∧ ¬ li o = 0 ∧ 0 < q o) → ∃ j, j ≤ K ∧ ∃ o, o < wk ∧ ¬ li o = 0 ∧ 0 < q o ∧ ms_cn li q gs o = lc_n j x / 65536 % ms_cn li q gs wk
theorem ms_K_new {li : Nat → Int32} {q gs : Nat → Nat} {wk x : Nat} (hw : wk ≤ 16) (hx : x < 2147483648) : ms_K li q gs wk x 2147483648 := by
  intro ⟨o, h1, h2, h3⟩
  have h4 := ms_cn_lt (li := li) (q := q) (gs := gs) h1 ⟨h2, Or.inl h3⟩
  have h5 := ms_cn_le li q gs wk
  obtain ⟨k, hk, e⟩ := lc_draw (x := x) hx h4 (by omega)
  exact ⟨k, by omega, o, h1, h2, h3, e.symm⟩
/-- a stall of the one that was drawn: one draw less -/
theorem ms_K_stall {li : Nat → Int32} {q gs : Nat → Nat} {wk x K w : Nat} (h : ms_K li q gs wk x K) (hnd : ms_nd li q gs w) (hw : ms_cn li q gs w = x / 65536 % ms_cn li q gs wk) (h0 : q w = 0) (hs : ∃ o, o < wk ∧ ¬ li o = 0 ∧ 0 < q o) : 0 < K ∧ ms_K li q gs wk (lc_f x) (K - 1) := by
  obtain ⟨j, hj, o, h1, h2, h3, h4⟩ := h hs
  cases j with
  | zero =>
    have e : o = w := ms_cn_one ⟨h2, Or.inl h3⟩ hnd (h4.trans hw.symm)
    rw [e] at h3
    omega
  | succ j => exact ⟨by omega, fun _ => ⟨j, by omega, o, h1, h2, h3, h4⟩⟩
theorem xs_ring {q wk fu o0 : Nat} (hq : q < wk) (ho : o0 < wk) (h : q + (fu + 1) = o0 ∨ q + (fu + 1) = o0 + wk) : (q + 1) % wk + fu = o0 ∨ (q + 1) % wk + fu = o0 + wk := by
  by_cases h1 : q + 1 < wk
  · rw [Nat.mod_eq_of_lt h1]; omega
  · rw [show q + 1 = wk by omega, Nat.mod_self]; omega
/-- a queue moved up by one place -/
theorem ms_sh1 {g g0 : Nat → Nat} {b i : Nat} (h1 : ∀ j, j + 1 < i → g (b + j) = g0 (b + j + 1)) (h2 : ∀ j, (j < b ∨ b + i ≤ j + 1) → g j = g0 j) (hi : 1 ≤ i) : ∀ j, j + 1 < i + 1 → va_up g (b + i - 1) (g (b + i)) (b + j) = g0 (b + j + 1) := fun j hj => by
  by_cases e : j + 1 = i
  · subst e
    rw [h2 (b + (j + 1)) (by omega)]
    simp [va_up, ← Nat.add_assoc]
  · rw [xs_up_ne (by omega)]
    exact h1 j (by omega)
theorem ms_sh2 {g g0 : Nat → Nat} {b i v : Nat} (h2 : ∀ j, (j < b ∨ b + i ≤ j + 1) → g j = g0 j) (hi : 1 ≤ i) : ∀ j, (j < b ∨ b + (i + 1) ≤ j + 1) → va_up g (b + i - 1) v j = g0 j := fun j hj => by
  rw [xs_up_ne (by omega)]
  exact h2 j (by omega)
end XME
