/-! the bits of a byte as the model asks for them -/
theorem pm_or {a : Nat} (h : a < 128) : lN a ||| lN 128 = lN (a + 128) := g_or' (k := 7) (p := 128) (b := 1) rfl h (by omega)
theorem pm_t (x : Int32) (i : Nat) : bt x i = decide (x.toBitVec.toNat / 2 ^ i % 2 = 1) := by
  show x.toBitVec.getLsbD i = _
  rw [BitVec.getLsbD, Nat.testBit_eq_decide_div_mod_eq]
theorem pm_bit (x : Int32) (C : Nat) {k : Nat} (hk : k < 8) (hC : C < 2 ^ 32) : ((x >>> (nI k &&& 31)) ^^^ nI C) &&& 1 = nI ((x.toBitVec.toNat % 256 / 2 ^ k + C) % 2) := by
  rw [pk_and _ 1 (by decide)]
  refine congrArg nI ?_
  have e1 : (x >>> (nI k &&& 31) ^^^ nI C).toBitVec.toNat = (x >>> (nI k &&& 31)).toBitVec.toNat ^^^ C := by
    rw [Int32.toBitVec_xor, BitVec.toNat_xor, pk_tn hC]
  rw [e1]
  show (_ ^^^ _) % 2 = _
  rw [pb_xor_mod2]
  have h1 := b_sshr k (by omega) x (i := 0) (by decide)
  rw [Nat.add_zero, if_pos (by omega), pm_t, pm_t, Nat.pow_zero, Nat.div_one] at h1
  have h2 : x.toBitVec.toNat % 256 / 2 ^ k % 2 = x.toBitVec.toNat / 2 ^ k % 2 := by
    have h3 : x.toBitVec.toNat % 256 / 2 ^ k % 2 = 1 ↔ x.toBitVec.toNat / 2 ^ k % 2 = 1 := by
      have a1 := Nat.testBit_eq_decide_div_mod_eq (x := x.toBitVec.toNat % 256) (i := k)
      have a2 := Nat.testBit_eq_decide_div_mod_eq (x := x.toBitVec.toNat) (i := k)
      have a3 : (x.toBitVec.toNat % 2 ^ 8).testBit k = (decide (k < 8) && x.toBitVec.toNat.testBit k) := Nat.testBit_mod_two_pow _ _ _
      rw [decide_eq_true hk, Bool.true_and] at a3
      rw [show (256 : Nat) = 2 ^ 8 from rfl] at a1 ⊢
      rw [a1, a2] at a3
      exact decide_eq_decide.mp a3
    omega
  have h4 : (x >>> (nI k &&& 31)).toBitVec.toNat % 2 = x.toBitVec.toNat / 2 ^ k % 2 := by
    have := decide_eq_decide.mp h1
    omega
  omega
theorem pm_8 {x y : Int32} (h : x.toBitVec.toNat % 256 = y.toBitVec.toNat % 256) : x.toInt8 = y.toInt8 := by
  apply Int8.toBitVec_inj.mp
  rw [Int32.toBitVec_toInt8, Int32.toBitVec_toInt8, BitVec.signExtend_eq_setWidth_of_le _ (by decide), BitVec.signExtend_eq_setWidth_of_le _ (by decide)]
  apply BitVec.eq_of_toNat_eq
  rw [BitVec.toNat_setWidth, BitVec.toNat_setWidth]
  exact h
theorem pm_sb {w k : Nat} (hw : w < 2 ^ 32) (hk : k < 4) : (nI w >>> (nI (8 * k) &&& 31)).toInt8.toInt32 = sb_b (w / 2 ^ (8 * k)) := by
  unfold sb_b
  refine congrArg Int8.toInt32 (pm_8 ?_)
  have hq : w / 2 ^ (8 * k) < 2 ^ 32 := Nat.lt_of_le_of_lt (Nat.div_le_self _ _) hw
  rw [pk_tn hq]
  apply Nat.eq_of_testBit_eq
  intro i
  rw [show (256 : Nat) = 2 ^ 8 from rfl, Nat.testBit_mod_two_pow, Nat.testBit_mod_two_pow]
  by_cases hi : i < 8
  · rw [decide_eq_true hi, Bool.true_and, Bool.true_and, Nat.testBit_div_two_pow]
    have h1 := b_sshr (8 * k) (by omega) (nI w) (i := i) (by omega)
    rw [if_pos (by omega)] at h1
    have h2 : bt (nI w) (8 * k + i) = w.testBit (8 * k + i) := by
      show (nI w).toBitVec.getLsbD _ = _
      rw [BitVec.getLsbD, pk_tn hw]
    rw [h2] at h1
    rw [Nat.add_comm] 
    exact h1
  · rw [decide_eq_false hi, Bool.false_and, Bool.false_and]
theorem pm_in (x : Int32) : -128 ≤ x.toInt8.toInt32.toInt ∧ x.toInt8.toInt32.toInt < 128 := by
  rw [Int8.toInt_toInt32]
  have h1 := x.toInt8.le_toInt
  have h2 := x.toInt8.toInt_lt
  omega
theorem pm_sgn {f : Nat → Int32} {j : Nat} (h : pb_fit f) : f j < 0 ↔ 128 ≤ pb_ub f j := by
  obtain ⟨h1, h2⟩ := pm_in (f j)
  rw [h j] at h1 h2
  rw [Int32.lt_iff_toInt_lt]
  have c := BitVec.toInt_eq_toNat_cond (f j).toBitVec
  have e : (f j).toBitVec.toInt = (f j).toInt := rfl
  have hl := (f j).toBitVec.isLt
  have t0 : (0 : Int32).toInt = 0 := by decide
  unfold pb_ub
  rw [e] at c
  rw [t0]
  split at c <;> omega
theorem pm_ub_sb (n : Nat) : (sb_b n).toBitVec.toNat % 256 = n % 256 := by
  have h1 := bp_b (nI n)
  rw [pk_and _ 8 (by decide), pk_and _ 8 (by decide)] at h1
  have h2 := (nI_eq (Nat.lt_trans (Nat.mod_lt _ (by decide)) (by decide)) (Nat.lt_trans (Nat.mod_lt _ (by decide)) (by decide))).mp h1
  have h3 : (nI n).toBitVec.toNat = n % 2 ^ 32 := rfl
  rw [h3] at h2
  show (nI n).toInt8.toInt32.toBitVec.toNat % 2 ^ 8 = _
  rw [h2]
  omega
theorem pm_eqsb {f : Nat → Int32} {j n : Nat} (h : pb_fit f) : f j = sb_b n ↔ pb_ub f j = n % 256 := by
  constructor
  · intro e
    unfold pb_ub
    rw [e]
    exact pm_ub_sb n
  · intro e
    rw [← h j]
    unfold sb_b
    refine congrArg Int8.toInt32 (pm_8 ?_)
    show pb_ub f j = n % 2 ^ 32 % 256
    rw [e]
    omega
theorem pm_127 (f : Nat → Int32) (i : Nat) : f i &&& 127 = nI (pb_ub f i % 128) := by
  rw [pk_and (f i) 7 (by decide)]
  refine congrArg nI ?_
  unfold pb_ub
  omega
theorem pm_big {n : Nat} (h : n < 2 ^ 64) : (lN n < 0 ∨ lN 127 < lN n) ↔ 128 ≤ n := by
  have e1 := lN_ti h
  have e2 : (lN 127).toInt = 127 := by decide
  have e0 : (0 : Int64).toInt = 0 := by decide
  rw [Int64.lt_iff_toInt_lt, Int64.lt_iff_toInt_lt, e1, e2, e0]
  split <;> omega
