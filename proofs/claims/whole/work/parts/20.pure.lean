/-! numbers as they lie in bytes; the sum -/
def pb_ub (f : Nat → Int32) (i : Nat) : Nat := (f i).toBitVec.toNat % 256
theorem pb_ub_lt (f : Nat → Int32) (i : Nat) : pb_ub f i < 256 := Nat.mod_lt _ (by decide)
theorem pb_and (f : Nat → Int32) (i : Nat) : f i &&& 255 = nI (pb_ub f i) := pk_and (f i) 8 (by decide)
def pb_g (c : Nat) : Nat := (c / 2) ^^^ (if c % 2 = 1 then 3988292384 else 0)
theorem pb_xor_div2 (a b : Nat) : (a ^^^ b) / 2 = (a / 2) ^^^ (b / 2) := by
  apply Nat.eq_of_testBit_eq
  intro i
  simp [Nat.testBit_xor, Nat.testBit_div_two]
theorem pb_xor_mod2 (a b : Nat) : (a ^^^ b) % 2 = (a % 2 + b % 2) % 2 := by
  have h : ((a ^^^ b) % 2 = 1) ↔ ¬ ((a % 2 = 1) ↔ (b % 2 = 1)) := Nat.xor_mod_two_eq_one
  rcases Nat.mod_two_eq_zero_or_one a with ha | ha <;> rcases Nat.mod_two_eq_zero_or_one b with hb | hb <;> rcases Nat.mod_two_eq_zero_or_one (a ^^^ b) with hc | hc <;> simp [ha, hb, hc] at h ⊢
theorem pb_g_xor (a b : Nat) : pb_g (a ^^^ b) = pb_g a ^^^ pb_g b := by
  unfold pb_g
  rw [pb_xor_div2, pb_xor_mod2]
  rcases Nat.mod_two_eq_zero_or_one a with ha | ha <;> rcases Nat.mod_two_eq_zero_or_one b with hb | hb <;> simp [ha, hb]
  · rw [Nat.xor_assoc]
  · rw [Nat.xor_assoc, Nat.xor_assoc, Nat.xor_comm (b / 2)]
  · rw [Nat.xor_assoc (a / 2), ← Nat.xor_assoc 3988292384, Nat.xor_comm 3988292384 (b / 2), Nat.xor_assoc (b / 2), Nat.xor_self, Nat.xor_zero]
theorem pb_g_two (h : Nat) : pb_g (2 * h) = h := by
  unfold pb_g
  have h1 : 2 * h / 2 = h := by omega
  have h2 : ¬ (2 * h % 2 = 1) := by omega
  rw [h1, if_neg h2, Nat.xor_zero]
def pb_g4 (c : Nat) : Nat := pb_g (pb_g (pb_g (pb_g c)))
theorem pb_split (c : Nat) : c = (16 * (c / 16)) ^^^ (c % 16) := by
  apply Nat.eq_of_testBit_eq
  intro i
  rw [Nat.testBit_xor]
  have e1 : (16 * (c / 16)).testBit i = (decide (4 ≤ i) && c.testBit i) := by
    rw [show 16 * (c / 16) = 2 ^ 4 * (c / 2 ^ 4) from rfl, Nat.testBit_two_pow_mul, Nat.testBit_div_two_pow]
    by_cases h : 4 ≤ i
    · simp [h]
    · simp [h]
  have e2 : (c % 16).testBit i = (decide (i < 4) && c.testBit i) := by
    rw [show c % 16 = c % 2 ^ 4 from rfl, Nat.testBit_mod_two_pow]
  rw [e1, e2]
  by_cases h : 4 ≤ i
  · have : ¬ i < 4 := by omega
    simp [h, this]
  · have : i < 4 := by omega
    simp [h, this]
def pb_T (r : Nat) : Nat := pb_g4 r
theorem pb_nib (c : Nat) : pb_g4 c = (c / 16) ^^^ pb_T (c % 16) := by
  have h : pb_g4 ((16 * (c / 16)) ^^^ (c % 16)) = (c / 16) ^^^ pb_T (c % 16) := by
    unfold pb_g4 pb_T
    simp only [pb_g_xor]
    have h16 : 16 * (c / 16) = 2 * (2 * (2 * (2 * (c / 16)))) := by omega
    rw [h16, pb_g_two, pb_g_two, pb_g_two, pb_g_two]
    rfl
  rw [← pb_split] at h
  exact h
/-- what a byte does to the sum -/
def pb_B (c b : Nat) : Nat := pb_g4 (pb_g4 (c ^^^ b))
/-- the model's bits, one after the other: k of them done -/
def pb_M (b : Nat) : Nat → Nat → Nat
  | 0, c => c
  | k + 1, c => (pb_M b k c / 2) ^^^ (if (b / 2 ^ k + pb_M b k c) % 2 = 1 then 3988292384 else 0)
def pb_gn : Nat → Nat → Nat
  | 0, c => c
  | k + 1, c => pb_g (pb_gn k c)
theorem pb_gM (b c : Nat) : ∀ k, pb_gn k (c ^^^ b) = pb_M b k c ^^^ (b / 2 ^ k)
  | 0 => by simp [pb_gn, pb_M]
  | k + 1 => by
    have ih := pb_gM b c k
    show pb_g (pb_gn k (c ^^^ b)) = _
    rw [ih]
    show pb_g (pb_M b k c ^^^ b / 2 ^ k) = ((pb_M b k c / 2) ^^^ (if (b / 2 ^ k + pb_M b k c) % 2 = 1 then 3988292384 else 0)) ^^^ (b / 2 ^ (k + 1))
    unfold pb_g
    have hm : (pb_M b k c ^^^ b / 2 ^ k) % 2 = (b / 2 ^ k + pb_M b k c) % 2 := by rw [pb_xor_mod2]; omega
    rw [pb_xor_div2, Nat.div_div_eq_div_mul, ← Nat.pow_succ, hm]
    rw [Nat.xor_assoc, Nat.xor_assoc, Nat.xor_comm (b / 2 ^ (k + 1))]
theorem pb_MB {b : Nat} (hb : b < 256) (c : Nat) : pb_M b 8 c = pb_B c b := by
  have h := pb_gM b c 8
  have h0 : b / 2 ^ 8 = 0 := Nat.div_eq_of_lt hb
  rw [h0, Nat.xor_zero] at h
  exact h.symm
theorem pb_g_lt {c : Nat} (h : c < 2 ^ 32) : pb_g c < 2 ^ 32 := by
  unfold pb_g
  apply Nat.xor_lt_two_pow
  · omega
  · split <;> decide
theorem pb_g4_lt {c : Nat} (h : c < 2 ^ 32) : pb_g4 c < 2 ^ 32 := pb_g_lt (pb_g_lt (pb_g_lt (pb_g_lt h)))
theorem pb_B_lt {c b : Nat} (h : c < 2 ^ 32) (hb : b < 256) : pb_B c b < 2 ^ 32 := pb_g4_lt (pb_g4_lt (Nat.xor_lt_two_pow h (by omega)))
def pb_crc (f : Nat → Int32) (a : Nat) : Nat → Nat
  | 0 => 4294967295
  | n + 1 => pb_B (pb_crc f a n) (pb_ub f (a + n))
theorem pb_crc_lt (f : Nat → Int32) (a : Nat) : ∀ n, pb_crc f a n < 2 ^ 32
  | 0 => (by decide : (4294967295 : Nat) < 2 ^ 32)
  | n + 1 => pb_B_lt (pb_crc_lt f a n) (pb_ub_lt f _)
/-- two rows of bytes that are alike below L -/
def pb_eq (f g : Nat → Int32) (L : Nat) : Prop := ∀ i, i < L → f i = g i
theorem pb_eq.ub {f g : Nat → Int32} {L i : Nat} (h : pb_eq f g L) (hi : i < L) : pb_ub f i = pb_ub g i := by unfold pb_ub; rw [h i hi]
theorem pb_eq.crc {f g : Nat → Int32} {L a : Nat} (h : pb_eq f g L) : ∀ n, a + n ≤ L → pb_crc f a n = pb_crc g a n
  | 0, _ => rfl
  | n + 1, hn => by
    show pb_B (pb_crc f a n) (pb_ub f (a + n)) = pb_B (pb_crc g a n) (pb_ub g (a + n))
    rw [h.crc n (by omega), h.ub (by omega)]
/-! a NUMBER read: its value and the place behind it -/
def pb_rdn (f : Nat → Int32) (e : Nat) : Nat → Nat → Nat → Nat → Option (Nat × Nat)
  | 0, _, _, _ => none
  | k + 1, i, a, v => if a < e then (if i = 9 ∧ 1 < pb_ub f a then none else if pb_ub f a < 128 then some (v + pb_ub f a % 128 * 2 ^ (7 * i), a + 1) else pb_rdn f e k (i + 1) (a + 1) (v + pb_ub f a % 128 * 2 ^ (7 * i))) else none
def pb_rd (f : Nat → Int32) (e a : Nat) : Option (Nat × Nat) := pb_rdn f e 10 0 a 0
theorem pb_eq.rdn {f g : Nat → Int32} {L e : Nat} (h : pb_eq f g L) (he : e ≤ L) : ∀ k i a v, pb_rdn f e k i a v = pb_rdn g e k i a v
  | 0, _, _, _ => rfl
  | k + 1, i, a, v => by
    unfold pb_rdn
    by_cases ha : a < e
    · rw [if_pos ha, if_pos ha, h.ub (by omega : a < L), h.rdn he k]
    · rw [if_neg ha, if_neg ha]
theorem pb_eq.rd {f g : Nat → Int32} {L e : Nat} (h : pb_eq f g L) (he : e ≤ L) (a : Nat) : pb_rd f e a = pb_rd g e a := h.rdn he 10 0 a 0
theorem pb_rdn_in {f : Nat → Int32} {e : Nat} : ∀ k i a v n a', pb_rdn f e k i a v = some (n, a') → a < a' ∧ a' ≤ e
  | 0, _, _, _, _, _, h => by cases h
  | k + 1, i, a, v, n, a', h => by
    unfold pb_rdn at h
    by_cases ha : a < e
    · rw [if_pos ha] at h
      by_cases h9 : i = 9 ∧ 1 < pb_ub f a
      · rw [if_pos h9] at h; cases h
      · rw [if_neg h9] at h
        by_cases hb : pb_ub f a < 128
        · rw [if_pos hb] at h
          cases h
          omega
        · rw [if_neg hb] at h
          have := pb_rdn_in k (i + 1) (a + 1) _ n a' h
          omega
    · rw [if_neg ha] at h; cases h
theorem pb_rdn_lt {f : Nat → Int32} {e : Nat} : ∀ k i a v n a', i + k = 10 → v < 2 ^ (7 * i) → pb_rdn f e k i a v = some (n, a') → n < 2 ^ 64
  | 0, _, _, _, _, _, _, _, h => by cases h
  | k + 1, i, a, v, n, a', hi, hv, h => by
    unfold pb_rdn at h
    by_cases ha : a < e
    · rw [if_pos ha] at h
      have hm : pb_ub f a % 128 < 128 := Nat.mod_lt _ (by decide)
      have hpw : 2 ^ (7 * (i + 1)) = 128 * 2 ^ (7 * i) := by rw [Nat.mul_succ, Nat.pow_add, Nat.mul_comm]
      have hpos : 0 < 2 ^ (7 * i) := Nat.pow_pos (by decide)
      have hv2 : v + pb_ub f a % 128 * 2 ^ (7 * i) < 2 ^ (7 * (i + 1)) := by
        rw [hpw]
        have : pb_ub f a % 128 * 2 ^ (7 * i) ≤ 127 * 2 ^ (7 * i) := Nat.mul_le_mul_right _ (by omega)
        omega
      by_cases h9 : i = 9 ∧ 1 < pb_ub f a
      · rw [if_pos h9] at h; cases h
      · rw [if_neg h9] at h
        by_cases hb : pb_ub f a < 128
        · rw [if_pos hb] at h
          cases h
          by_cases hi9 : i = 9
          · subst hi9
            have h1 : pb_ub f a ≤ 1 := by omega
            have h2 : pb_ub f a % 128 = pb_ub f a := Nat.mod_eq_of_lt hb
            rw [h2]
            have h3 : pb_ub f a * 2 ^ (7 * 9) ≤ 1 * 2 ^ (7 * 9) := Nat.mul_le_mul_right _ h1
            have h4 : (2 : Nat) ^ (7 * 9) = 9223372036854775808 := by decide
            have h5 : (2 : Nat) ^ 64 = 18446744073709551616 := by decide
            rw [h4] at hv h3
            rw [h4, h5]
            exact Nat.lt_of_lt_of_le (Nat.add_lt_add_of_lt_of_le hv h3) (by decide)
          · have h6 : 2 ^ (7 * (i + 1)) ≤ 2 ^ 64 := Nat.pow_le_pow_right (by decide) (by omega)
            exact Nat.lt_of_lt_of_le hv2 h6
        · rw [if_neg hb] at h
          exact pb_rdn_lt k (i + 1) (a + 1) _ n a' (by omega) hv2 h
    · rw [if_neg ha] at h; cases h
theorem pb_rd_lt {f : Nat → Int32} {e a n a' : Nat} (h : pb_rd f e a = some (n, a')) : n < 2 ^ 64 := pb_rdn_lt 10 0 a 0 n a' rfl (by decide) h
theorem pb_rd_in {f : Nat → Int32} {e a n a' : Nat} (h : pb_rd f e a = some (n, a')) : a < a' ∧ a' ≤ e := pb_rdn_in 10 0 a 0 n a' h
