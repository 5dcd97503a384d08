/-! the INDEX as the rows of two arrays; one row read -/
theorem px_step {f : Nat → Int32} {e k a n1 a1 n2 a2 : Nat} {okv o1 o2 : Int32} (hr1 : (pb_rd f e a = some (n1, a1) ∧ o1 = okv) ∨ (pb_rd f e a = none ∧ o1 = 0)) (hr2 : (pb_rd f e a1 = some (n2, a2) ∧ o2 = o1) ∨ (pb_rd f e a1 = none ∧ o2 = 0)) :
    (¬ (n1 ≤ 4294967295 ∧ n2 ≤ 4294967295) → okv = 0 ∨ px_rd f e (k + 1) a = none) ∧ (n1 ≤ 4294967295 → n2 ≤ 4294967295 → (o2 = 0 ∨ px_rd f e k a2 = none) → (okv = 0 ∨ px_rd f e (k + 1) a = none)) ∧
    (n1 ≤ 4294967295 → n2 ≤ 4294967295 → o2 = 1 → okv = 1 ∧ ∀ l a3, px_rd f e k a2 = some (l, a3) → px_rd f e (k + 1) a = some ((n1, n2) :: l, a3)) := by
  rcases hr1 with ⟨h1, rfl⟩ | ⟨h1, rfl⟩
  · rcases hr2 with ⟨h2, rfl⟩ | ⟨h2, rfl⟩
    · refine ⟨fun hn => Or.inr ?_, fun q1 q2 h => ?_, fun q1 q2 h => ⟨h, fun l a3 h3 => ?_⟩⟩
      · unfold px_rd
        simp only [h1, h2]
        rw [if_neg hn]
      · rcases h with h | h
        · exact Or.inl h
        · refine Or.inr ?_
          unfold px_rd
          simp only [h1, h2]
          rw [if_pos ⟨q1, q2⟩, h]
          rfl
      · unfold px_rd
        simp only [h1, h2]
        rw [if_pos ⟨q1, q2⟩, h3]
        rfl
    · have hn : px_rd f e (k + 1) a = none := by
        unfold px_rd
        simp only [h1, h2]
      exact ⟨fun _ => Or.inr hn, fun _ _ _ => Or.inr hn, fun _ _ h => absurd h (by decide)⟩
  · have hn : px_rd f e (k + 1) a = none := by
      unfold px_rd
      simp only [h1]
    refine ⟨fun _ => Or.inr hn, fun _ _ _ => Or.inr hn, fun _ _ h => ?_⟩
    rcases hr2 with ⟨-, h2⟩ | ⟨-, h2⟩ <;> (rw [h2] at h; exact absurd h (by decide))
/-- the rows l stand from the place b on, acc the lengths' sum ahead of them -/
def px_rows (b acc : Nat) (l : List (Nat × Nat)) (ef ff : Nat → Int32) : Prop := ∀ j, j < l.length → ef (b + j) = nI (acc + px_sum (l.take (j + 1))) ∧ ff (b + j) = (pu_u (lN (l.getD j (0, 0)).2)).toInt32
theorem px_rows_nil {b acc : Nat} {ef ff : Nat → Int32} : px_rows b acc [] ef ff := fun j hj => absurd hj (Nat.not_lt_zero j)
theorem px_rows_cons {b acc n m : Nat} {l : List (Nat × Nat)} {ef ff ef' ff' : Nat → Int32} (he : ef' b = nI (acc + n)) (hf : ff' b = (pu_u (lN m)).toInt32) (h : px_rows (b + 1) (acc + n) l ef' ff') : px_rows b acc ((n, m) :: l) ef' ff' := by
  intro j hj
  cases j with
  | zero =>
    refine ⟨?_, by simpa using hf⟩
    simpa [px_sum] using he
  | succ j =>
    have h1 := h j (by simpa using hj)
    rw [show b + (j + 1) = b + 1 + j by omega]
    refine ⟨?_, ?_⟩
    · rw [h1.1]
      simp [px_sum, Nat.add_assoc]
    · rw [h1.2]
      simp
def px_st (ef : Nat → Int32) (j : Nat) : Int32 := if j = 0 then 0 else ef (j - 1)
/-- the last of n rows whose KEY isn't above key -/
def px_last (ff : Nat → Int32) (key : Int32) : Nat → Option Nat
  | 0 => none
  | n + 1 => if ff n ≤ key then some n else px_last ff key n
theorem pz_48 (x : Int32) : x - nI 4 - nI 4 = x - nI 8 := by
  rw [Int32.sub_eq_add_neg, Int32.sub_eq_add_neg, Int32.sub_eq_add_neg, Int32.add_assoc]
  rfl
theorem pz_fit {n : Nat} (h : n < 2 ^ 64) : (¬ lN n < 0 ∧ lN n ≤ lN 4294967295) ↔ n ≤ 4294967295 := by
  have e1 := lN_ti h
  have e2 : (lN 4294967295).toInt = 4294967295 := by decide
  have e0 : (0 : Int64).toInt = 0 := by decide
  rw [Int64.lt_iff_toInt_lt, Int64.le_iff_toInt_le, e1, e2, e0]
  split <;> omega
