section XGC
theorem lc_gap9 {x n r : Nat} (hx : x < lc_M) (h9 : 9 ≤ n) (hn : n ≤ 16) (hr : r < n) : ∃ j, 1 ≤ j ∧ j ≤ 704 ∧ lc_n j x / 65536 % n = r := by
  obtain ⟨k, hk, rfl⟩ := lc_all (x := 0) (by decide) hx
  have h := gc_1025 ((k / 32 + 1) / 65536) (by omega)
  obtain ⟨v, hv, e⟩ := gp_go_ok (by rw [gp_b_ok]; exact lc_n_lt _ (by decide)) h (i := (k / 32 + 1) % 65536) (by have := Nat.mod_lt (k / 32 + 1) (show 0 < 65536 by decide); exact this) h9 hn hr
  rw [gp_b_ok, ← lc_n_add] at e
  refine ⟨32 * (k / 32 + 1) + v - k, by omega, by omega, ?_⟩
  rw [← lc_n_add, show k + (32 * (k / 32 + 1) + v - k) = 2097152 * ((k / 32 + 1) / 65536) + (32 * ((k / 32 + 1) % 65536) + v) by omega]
  exact e
/-- every one of n <= 16 is drawn within 704 turns -/
theorem lc_gap {x n r : Nat} (hx : x < lc_M) (hn : n ≤ 16) (hr : r < n) : ∃ j, 1 ≤ j ∧ j ≤ 704 ∧ lc_n j x / 65536 % n = r := by
  have key : ∀ N, n ∣ N → 9 ≤ N → N ≤ 16 → ∃ j, 1 ≤ j ∧ j ≤ 704 ∧ lc_n j x / 65536 % n = r := by
    intro N hd h9 h16
    have hle : n ≤ N := Nat.le_of_dvd (by omega) hd
    obtain ⟨j, h1, h2, e⟩ := lc_gap9 hx h9 h16 (r := r) (by omega)
    exact ⟨j, h1, h2, by rw [← Nat.mod_mod_of_dvd _ hd, e, Nat.mod_eq_of_lt hr]⟩
  rcases (show n = 1 ∨ n = 2 ∨ n = 3 ∨ n = 4 ∨ n = 5 ∨ n = 6 ∨ n = 7 ∨ n = 8 ∨ 9 ≤ n by omega) with rfl | rfl | rfl | rfl | rfl | rfl | rfl | rfl | h
  · exact key 16 (by decide) (by decide) (by decide)
  · exact key 16 (by decide) (by decide) (by decide)
  · exact key 15 (by decide) (by decide) (by decide)
  · exact key 16 (by decide) (by decide) (by decide)
  · exact key 15 (by decide) (by decide) (by decide)
  · exact key 12 (by decide) (by decide) (by decide)
  · exact key 14 (by decide) (by decide) (by decide)
  · exact key 16 (by decide) (by decide) (by decide)
  · exact lc_gap9 hx h hn hr
end XGC
