/-! a NUMBER laid: how many bytes, and the row behind it -/
def pl_n : Nat → Nat → Nat
  | 0, _ => 1
  | k + 1, n => if 128 ≤ n then pl_n k (n / 128) + 1 else 1
def pl_f (f : Nat → Int32) : Nat → Nat → Nat → (Nat → Int32)
  | 0, L, n => upd f L (sb_b n)
  | k + 1, L, n => if 128 ≤ n then pl_f (upd f L (sb_b (n % 128 + 128))) k (L + 1) (n / 128) else upd f L (sb_b n)
theorem pl_n_pos : ∀ k n, 1 ≤ pl_n k n
  | 0, _ => Nat.le_refl _
  | k + 1, n => by
    unfold pl_n
    split <;> omega
theorem pl_n_le : ∀ k n, pl_n k n ≤ k + 1
  | 0, _ => Nat.le_refl _
  | k + 1, n => by
    unfold pl_n
    split
    · have := pl_n_le k (n / 128)
      omega
    · omega
theorem pl_n_small {k n j : Nat} (h : n < 2 ^ (7 * (j + 1))) : pl_n k n ≤ j + 1 := by
  induction k generalizing n j with
  | zero => exact Nat.le_add_left 1 j
  | succ k ih =>
    unfold pl_n
    split
    · rename_i h1
      cases j with
      | zero => exact absurd h (by simp; omega)
      | succ j =>
        have h2 : n / 128 < 2 ^ (7 * (j + 1)) := by
          have e : 2 ^ (7 * (j + 1 + 1)) = 128 * 2 ^ (7 * (j + 1)) := by rw [Nat.mul_succ 7 (j + 1), Nat.pow_add, Nat.mul_comm]
          rw [e] at h
          exact Nat.div_lt_of_lt_mul h
        have := ih h2
        omega
    · omega
theorem pl_lo (f : Nat → Int32) : ∀ k L n i, i < L → pl_f f k L n i = f i
  | 0, L, n, i, h => by
    show upd f L (sb_b n) i = f i
    exact pk_un (by omega)
  | k + 1, L, n, i, h => by
    unfold pl_f
    split
    · rw [pl_lo _ k (L + 1) (n / 128) i (by omega)]
      exact pk_un (by omega)
    · exact pk_un (by omega)
theorem pl_eq : ∀ k L n (f g : Nat → Int32), pb_eq f g L → pb_eq (pl_f f k L n) (pl_f g k L n) (L + pl_n k n)
  | 0, L, n, f, g, h => by
    intro i hi
    have hi : i < L + 1 := hi
    show upd f L (sb_b n) i = upd g L (sb_b n) i
    by_cases e : i = L
    · subst e
      rw [pk_us, pk_us]
    · rw [pk_un e, pk_un e]
      exact h i (by omega)
  | k + 1, L, n, f, g, h => by
    unfold pl_f pl_n
    have h1 : ∀ x, pb_eq (upd f L x) (upd g L x) (L + 1) := fun x i hi => by
      by_cases e : i = L
      · subst e
        rw [pk_us, pk_us]
      · rw [pk_un e, pk_un e]
        exact h i (by omega)
    split
    · have := pl_eq k (L + 1) (n / 128) _ _ (h1 (sb_b (n % 128 + 128)))
      rw [show L + 1 + pl_n k (n / 128) = L + (pl_n k (n / 128) + 1) by omega] at this
      exact this
    · exact h1 _
/-- every place holds a byte -/
def pb_fit (f : Nat → Int32) : Prop := ∀ j, (f j).toInt8.toInt32 = f j
theorem pb_fit_sb (c : Nat) : (sb_b c).toInt8.toInt32 = sb_b c := by
  unfold sb_b
  simp
theorem pb_fit.upd {f : Nat → Int32} {k : Nat} {x : Int32} (h : pb_fit f) (hx : x.toInt8.toInt32 = x) : pb_fit (upd f k x) := by
  intro j
  by_cases e : j = k
  · subst e
    rw [pk_us]; exact hx
  · rw [pk_un e]; exact h j
theorem pl_fit : ∀ k L n (f : Nat → Int32), pb_fit f → pb_fit (pl_f f k L n)
  | 0, L, n, f, h => h.upd (pb_fit_sb n)
  | k + 1, L, n, f, h => by
    unfold pl_f
    split
    · exact pl_fit k (L + 1) (n / 128) _ (h.upd (pb_fit_sb _))
    · exact h.upd (pb_fit_sb n)
