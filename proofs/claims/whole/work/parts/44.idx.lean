/-! an INDEX that isn't right; sums of lengths -/
def px_bad (f : Nat → Int32) (e a : Nat) : Prop := pb_rd f e a = none ∨ ∃ n a1, pb_rd f e a = some (n, a1) ∧ (2444 < n ∨ px_rd f e n a1 = none)
theorem px_rd_sum {f : Nat → Int32} {e : Nat} : ∀ k a l a', px_rd f e k a = some (l, a') → px_sum l ≤ k * 4294967295
  | 0, a, l, a', h => by
    unfold px_rd at h
    cases h
    exact Nat.zero_le _
  | k + 1, a, l, a', h => by
    unfold px_rd at h
    cases hq : pb_rd f e a with
    | none => rw [hq] at h; cases h
    | some q =>
      obtain ⟨n, a1⟩ := q
      rw [hq] at h
      cases hr : pb_rd f e a1 with
      | none => simp only [hr] at h; cases h
      | some r =>
        obtain ⟨m, a2⟩ := r
        simp only [hr] at h
        split at h
        · rename_i hnm
          cases ht : px_rd f e k a2 with
          | none => simp [ht] at h
          | some t =>
            obtain ⟨l1, a3⟩ := t
            simp [ht] at h
            have h3 := px_rd_sum k a2 l1 a3 ht
            rw [← h.1]
            show n + px_sum l1 ≤ _
            rw [Nat.succ_mul]
            omega
        · cases h
theorem pz_fit2 {n B : Nat} (h : n < 2 ^ 64) (hB : B < 2 ^ 63) : (¬ lN n < lN 0 ∧ lN n ≤ lN B) ↔ n ≤ B := by
  have e1 := lN_ti h
  have e2 := lN_ti (Nat.lt_trans hB (by decide : 2 ^ 63 < 2 ^ 64))
  rw [if_pos hB] at e2
  have e0 : (lN 0).toInt = 0 := by decide
  rw [Int64.lt_iff_toInt_lt, Int64.le_iff_toInt_le, e1, e2, e0]
  split <;> omega
theorem px_open_bad {f : Nat → Int32} {L : Nat} (hL : L ≤ 4889) (h : px_bad f (L - 8) (L - 8 - pf_n f (L - 4) 4)) : px_open f L = none := by
  unfold px_open
  split
  · rcases h with h | ⟨n, a1, h, h2⟩
    · simp only [h]
    · simp only [h]
      rcases h2 with h2 | h2
      · cases hq : px_rd f (L - 8) n a1 with
        | none => rfl
        | some q =>
          obtain ⟨l, a2⟩ := q
          obtain ⟨q1, q2, q3⟩ := px_rd_in n a1 l a2 hq
          have q4 := q3 (pb_rd_in h).2
          omega
      · simp only [h2]
  · rfl
