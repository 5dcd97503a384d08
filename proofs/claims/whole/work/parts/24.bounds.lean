/-! how long what is laid can be -/
theorem pz_sub {a b : Int64} (h1 : -9223372036854775808 ≤ a.toInt - b.toInt) (h2 : a.toInt - b.toInt < 9223372036854775808) : (a - b).toInt = a.toInt - b.toInt := by
  rw [Int64.toInt_sub]
  exact Int.bmod_eq_of_le (by omega) (by omega)
theorem pz_mul {a b : Int64} (h1 : -9223372036854775808 ≤ a.toInt * b.toInt) (h2 : a.toInt * b.toInt < 9223372036854775808) : (a * b).toInt = a.toInt * b.toInt := by
  rw [Int64.toInt_mul]
  exact Int.bmod_eq_of_le (by omega) (by omega)
theorem pz_i (k : Int32) : -2147483648 ≤ k.toInt64.toInt ∧ k.toInt64.toInt < 2147483648 := by
  rw [Int32.toInt_toInt64]
  have h1 := k.le_toInt
  have h2 := k.toInt_lt
  omega
theorem pz_nat {x : Int64} {B : Nat} (h1 : 0 ≤ x.toInt) (h2 : x.toInt < B) : x.toBitVec.toNat < B := by
  have c := BitVec.toInt_eq_toNat_cond x.toBitVec
  have e : x.toBitVec.toInt = x.toInt := rfl
  have hl := x.toBitVec.isLt
  rw [e] at c
  split at c <;> omega
theorem pu_f_in {v : Int64} (h1 : -2147483648 ≤ v.toInt) (h2 : v.toInt < 2147483648) : 0 ≤ (pu_f v).toInt ∧ (pu_f v).toInt < 4294967296 := by
  unfold pu_f
  have t0 : (0 : Int64).toInt = 0 := by decide
  have t1 : (1 : Int64).toInt = 1 := by decide
  have t2 : (2 : Int64).toInt = 2 := by decide
  have t3 : (-2 : Int64).toInt = -2 := by decide
  split
  · rename_i h
    rw [Int64.lt_iff_toInt_lt, t0] at h
    have e1 : (-2 * v).toInt = -2 * v.toInt := by rw [pz_mul (by rw [t3]; omega) (by rw [t3]; omega), t3]
    rw [pz_sub (by rw [e1, t1]; omega) (by rw [e1, t1]; omega), e1, t1]
    omega
  · rename_i h
    rw [Int64.lt_iff_toInt_lt, t0] at h
    rw [pz_mul (by rw [t2]; omega) (by rw [t2]; omega), t2]
    omega
theorem pu_f_lt (k : Int32) : (pu_f k.toInt64).toBitVec.toNat < 4294967296 := by
  obtain ⟨h1, h2⟩ := pz_i k
  obtain ⟨h3, h4⟩ := pu_f_in h1 h2
  exact pz_nat h3 h4
/-- the waiting KEYS go up -/
def pw_up (kf : Nat → Int32) (w : Nat) : Prop := ∀ i, i + 1 < w → kf i < kf (i + 1)
theorem pw_x_lt {kf : Nat → Int32} {w i j : Nat} (h : pw_up kf w) (hij : i ≤ j) (hj : j < w) : (pw_x kf i j).toBitVec.toNat < 4294967296 := by
  unfold pw_x
  split
  · exact pu_f_lt _
  · rename_i hne
    have h1 := h (j - 1) (by omega)
    rw [show j - 1 + 1 = j by omega, Int32.lt_iff_toInt_lt] at h1
    have a1 := pz_i (kf j)
    have a2 := pz_i (kf (j - 1))
    have e1 : (kf j).toInt64.toInt = (kf j).toInt := Int32.toInt_toInt64 _
    have e2 : (kf (j - 1)).toInt64.toInt = (kf (j - 1)).toInt := Int32.toInt_toInt64 _
    have t1 : (1 : Int64).toInt = 1 := by decide
    have s1 : ((kf j).toInt64 - (kf (j - 1)).toInt64).toInt = (kf j).toInt64.toInt - (kf (j - 1)).toInt64.toInt := pz_sub (by omega) (by omega)
    have s2 : ((kf j).toInt64 - (kf (j - 1)).toInt64 - 1).toInt = (kf j).toInt64.toInt - (kf (j - 1)).toInt64.toInt - 1 := by rw [pz_sub (by rw [s1, t1]; omega) (by rw [s1, t1]; omega), s1, t1]
    exact pz_nat (by rw [s2]; omega) (by rw [s2]; omega)
theorem pl_n5 {n : Nat} (h : n < 4294967296) : pl_n 9 n ≤ 5 := pl_n_small (j := 4) (Nat.lt_of_lt_of_le h (by decide))
theorem pl_n1 {n : Nat} (h : n < 128) : pl_n 9 n = 1 := Nat.le_antisymm (pl_n_small (j := 0) h) (pl_n_pos 9 n)
theorem pw_e_up {kf : Nat → Int32} {vf : Nat → Int64} {w i j : Nat} {s : pw_P} (h : pw_up kf w) (hij : i ≤ j) (hj : j < w) : (pw_e kf vf i j s).2 ≤ s.2 + 15 := by
  have h1 := pl_n5 (pw_x_lt h hij hj)
  have h2 := pl_n_le 9 (pu_f (vf j)).toBitVec.toNat
  show s.2 + pl_n 9 (pw_x kf i j).toBitVec.toNat + pl_n 9 (pu_f (vf j)).toBitVec.toNat ≤ s.2 + 15
  omega
theorem pw_b_up {kf : Nat → Int32} {vf : Nat → Int64} {w i : Nat} (h : pw_up kf w) : ∀ m (s : pw_P), i + m ≤ w → (pw_b kf vf i m s).2 ≤ s.2 + 15 * m
  | 0, s, _ => Nat.le_refl _
  | m + 1, s, hm => by
    have h1 := pw_b_up (vf := vf) (i := i) h m s (by omega)
    have h2 := pw_e_up (vf := vf) (s := pw_b kf vf i m s) h (Nat.le_add_right i m) (by omega)
    show (pw_e kf vf i (i + m) (pw_b kf vf i m s)).2 ≤ _
    omega
theorem pw_bl_up {kf : Nat → Int32} {vf : Nat → Int64} {w i : Nat} (h : pw_up kf w) (hi : i ≤ w) (s : pw_P) : (pw_bl kf vf w i s).2 ≤ s.2 + 15 * min 8 (w - i) + 4 := by
  have h1 := pw_b_up (vf := vf) h (min 8 (w - i)) s (by omega : i + min 8 (w - i) ≤ w)
  show (pw_b kf vf i (min 8 (w - i)) s).2 + 4 ≤ _
  omega
theorem pw_bs_up {kf : Nat → Int32} {vf : Nat → Int64} {w : Nat} (h : pw_up kf w) (s : pw_P) : ∀ b, 8 * (b - 1) ≤ w → (pw_bs kf vf w b s).2 ≤ s.2 + 15 * min (8 * b) w + 4 * b
  | 0, _ => Nat.le_add_right _ _
  | b + 1, hb => by
    have h1 := pw_bs_up (vf := vf) h s b (by omega)
    have h2 := pw_bl_up (vf := vf) h (by omega : 8 * b ≤ w) (pw_bs kf vf w b s)
    show (pw_bl kf vf w (8 * b) (pw_bs kf vf w b s)).2 ≤ _
    omega
theorem pw_bl_ge (kf : Nat → Int32) (vf : Nat → Int64) (w i : Nat) (s : pw_P) : s.2 ≤ (pw_bl kf vf w i s).2 := Nat.le_trans (pw_b_le kf vf i _ s) (Nat.le_add_right _ _)
theorem pw_len_up {kf : Nat → Int32} {vf : Nat → Int64} {w b : Nat} (h : pw_up kf w) (s : pw_P) (hb : 8 * b ≤ w) : pw_len kf vf w s b ≤ 124 := by
  have h2 := pw_bl_up (vf := vf) h hb (pw_bs kf vf w b s)
  show (pw_bl kf vf w (8 * b) (pw_bs kf vf w b s)).2 - (pw_bs kf vf w b s).2 ≤ 124
  omega
theorem pz_lN {n : Nat} (h : n < 2 ^ 64) : (lN n).toBitVec.toNat = n := wb_tn h
theorem pw_i_up {kf : Nat → Int32} {ln : Nat → Nat} (hl : ∀ b, ln b < 128) : ∀ n (s : pw_P), (pw_i kf ln n s).2 ≤ s.2 + 6 * n
  | 0, s => Nat.le_refl _
  | n + 1, s => by
    have h1 := pw_i_up (kf := kf) hl n s
    have h2 : pl_n 9 (lN (ln n)).toBitVec.toNat = 1 := by
      rw [pz_lN (Nat.lt_trans (hl n) (by decide))]
      exact pl_n1 (hl n)
    have h3 := pl_n5 (pu_f_lt (kf (8 * n)))
    show (pw_i kf ln n s).2 + pl_n 9 (lN (ln n)).toBitVec.toNat + pl_n 9 (pu_f (kf (8 * n)).toInt64).toBitVec.toNat ≤ _
    omega
