section XLG
/-- the machine's own step -/
theorem lc_step {x : Nat} : (nI 1103515245 * nI x + nI 12345) &&& nI 2147483647 = nI (lc_f x) := by
  have h31 : (2 : Nat) ^ 31 = 2147483648 := by decide
  have e : (nI (1103515245 * x + 12345)).toBitVec.toNat = (1103515245 * x + 12345) % 2 ^ 32 := by
    show (BitVec.ofNat 32 (1103515245 * x + 12345)).toNat = _
    rw [BitVec.toNat_ofNat]
  have e2 : (nI (1103515245 * x + 12345)).toBitVec.toNat % 2 ^ 31 = lc_f x := by
    rw [e, Nat.mod_mod_of_dvd _ (by decide : 2 ^ 31 ∣ 2 ^ 32), h31]
    rfl
  rw [pk_mul, nI_add, pk_and _ 31 (by decide +kernel), e2]
end XLG
