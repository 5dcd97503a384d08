/-! the BLOCK that get asks -/
def px_kf (lr : List (Nat × Nat)) : Nat → Int32 := fun j => (pu_u (lN (lr.getD j (0, 0)).2)).toInt32
theorem px_last_rows {lr : List (Nat × Nat)} {ef ff : Nat → Int32} (h : px_rows 0 0 lr ef ff) (key : Int32) : ∀ n, n ≤ lr.length → px_last ff key n = px_last (px_kf lr) key n
  | 0, _ => rfl
  | n + 1, hn => by
    have h1 := (h n hn).2
    rw [Nat.zero_add] at h1
    unfold px_last
    rw [px_last_rows h key n (Nat.le_of_succ_le hn), h1]
    exact Eq.refl _
theorem px_last_lt {f : Nat → Int32} {key : Int32} : ∀ {n j}, px_last f key n = some j → j < n
  | 0, j, h => by cases h
  | n + 1, j, h => by
    unfold px_last at h
    split at h
    · cases h; exact Nat.lt_succ_self n
    · exact Nat.lt_succ_of_lt (px_last_lt h)
