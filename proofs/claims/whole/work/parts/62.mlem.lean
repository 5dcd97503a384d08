/-! small rows for the model -/
theorem pm_m8 (k : Nat) : nI (8 * (k + 1)) + (-8) = nI (8 * k) := by
  rw [show 8 * (k + 1) = 8 * k + 8 from rfl, ← nI_add, Int32.add_assoc, show nI 8 + (-8) = 0 by decide, Int32.add_zero]
theorem pm_rd {f : Nat → Int32} {e k a V : Nat} (hk : k < 10) (ha : a < e) : pb_rdn f e (k + 1) (10 - (k + 1)) a V = if k = 0 ∧ 1 < pb_ub f a then none else if pb_ub f a < 128 then some (V + pb_ub f a % 128 * 2 ^ (7 * (10 - (k + 1))), a + 1) else pb_rdn f e k (10 - k) (a + 1) (V + pb_ub f a % 128 * 2 ^ (7 * (10 - (k + 1)))) := by
  conv => lhs; unfold pb_rdn
  rw [if_pos ha, show 10 - (k + 1) + 1 = 10 - k by omega]
  by_cases h : k = 0 ∧ 1 < pb_ub f a
  · rw [if_pos h, if_pos (show 10 - (k + 1) = 9 ∧ 1 < pb_ub f a from ⟨by omega, h.2⟩)]
  · rw [if_neg h, if_neg (show ¬ (10 - (k + 1) = 9 ∧ 1 < pb_ub f a) from fun z => h ⟨by omega, z.2⟩)]
theorem pm_rd_end {f : Nat → Int32} {e k i a V : Nat} (ha : ¬ a < e) : pb_rdn f e k i a V = none := by
  cases k with
  | zero => exact Eq.refl _
  | succ k => unfold pb_rdn; rw [if_neg ha]
theorem pm_v {V b k : Nat} (hk : k < 10) (hV : V < 2 ^ (7 * (10 - (k + 1)))) (hb : b < 128) (h9 : k = 0 → b ≤ 1) : V + b * 2 ^ (7 * (10 - (k + 1))) < 2 ^ 64 ∧ V + b * 2 ^ (7 * (10 - (k + 1))) < 2 ^ (7 * (10 - k)) := by
  have e1 : 2 ^ (7 * (10 - k)) = 128 * 2 ^ (7 * (10 - (k + 1))) := by
    rw [show 10 - k = 10 - (k + 1) + 1 by omega, Nat.mul_succ, Nat.pow_add, Nat.mul_comm]
  have h1 : V + b * 2 ^ (7 * (10 - (k + 1))) < 2 ^ (7 * (10 - k)) := by
    rw [e1]
    have : b * 2 ^ (7 * (10 - (k + 1))) ≤ 127 * 2 ^ (7 * (10 - (k + 1))) := Nat.mul_le_mul_right _ (by omega)
    omega
  refine ⟨?_, h1⟩
  by_cases hk0 : k = 0
  · subst hk0
    have h2 := h9 rfl
    have h3 : b * 2 ^ (7 * (10 - (0 + 1))) ≤ 1 * 2 ^ (7 * (10 - (0 + 1))) := Nat.mul_le_mul_right _ h2
    have h4 : (2 : Nat) ^ (7 * (10 - (0 + 1))) = 9223372036854775808 := by decide
    have h5 : (2 : Nat) ^ 64 = 18446744073709551616 := by decide
    rw [h4] at hV h3
    rw [h4, h5]
    omega
  · have h6 : 2 ^ (7 * (10 - k)) ≤ 2 ^ 64 := Nat.pow_le_pow_right (by decide) (by omega)
    exact Nat.lt_of_lt_of_le h1 h6
