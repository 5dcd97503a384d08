/-! the model's rows and the BLOCKS they tell of -/
theorem pm_last_rows {lr : List (Nat × Nat)} {fr sf fi : Nat → Int32} (h : pm_rows 0 0 lr fr sf fi) (key : Int32) : ∀ n, n ≤ lr.length → px_last fi key n = px_last (px_kf lr) key n
  | 0, _ => rfl
  | n + 1, hn => by
    have h1 := (h n hn).2.2
    rw [Nat.zero_add] at h1
    unfold px_last
    rw [pm_last_rows h key n (Nat.le_of_succ_le hn), h1]
    exact Eq.refl _
theorem pm_take : ∀ (lr : List (Nat × Nat)) (j : Nat), j < lr.length → px_sum (lr.take (j + 1)) = px_sum (lr.take j) + (lr.getD j (0, 0)).1
  | [], j, h => absurd h (Nat.not_lt_zero j)
  | q :: l, 0, h => by
    show q.1 + px_sum (l.take 0) = 0 + q.1
    simp [px_sum]
  | q :: l, j + 1, h => by
    have := pm_take l j (Nat.lt_of_succ_lt_succ h)
    show q.1 + px_sum (l.take (j + 1)) = q.1 + px_sum (l.take j) + (l.getD j (0, 0)).1
    omega
theorem pm_at {lr : List (Nat × Nat)} {fr sf fi : Nat → Int32} (h : pm_rows 0 0 lr fr sf fi) (hs : px_sum lr ≤ 4889) {j : Nat} (hj : j < lr.length) : fr j = nI (px_sum (lr.take j)) ∧ sf j = nI (lr.getD j (0, 0)).1 ∧ px_sum (lr.take j) + (lr.getD j (0, 0)).1 ≤ 4889 := by
  obtain ⟨h1, h2, -⟩ := h j hj
  rw [Nat.zero_add] at h1 h2
  have h3 := pm_take lr j hj
  have h4 := px_sum_take lr (j + 1)
  rw [Nat.zero_add, Nat.min_eq_left (by omega)] at h1
  rw [Nat.min_eq_left (by omega)] at h2
  exact ⟨h1, h2, by omega⟩
theorem pm_of {f : Nat → Int32} {lr : List (Nat × Nat)} {j : Nat} (hj : j < lr.length) : pe_of f lr j = pe_blk f (px_sum (lr.take j)) (px_sum (lr.take j) + (lr.getD j (0, 0)).1) := by
  unfold pe_of
  rw [pm_take lr j hj]
theorem pm_drop {lb : List (Int32 × Int64)} {i : Nat} (h : i < lb.length) : lb.drop i = lb.getD i (0, 0) :: lb.drop (i + 1) := by
  rw [List.drop_eq_getElem_cons h]
  simp [List.getD_eq_getElem?_getD, h]
