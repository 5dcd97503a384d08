/-! a BLOCK's list, taken apart -/
theorem pe_bl_inv {f : Nat → Int32} {e : Nat} {fst : Bool} {key : Int32} {a : Nat} {l : List (Int32 × Int64)} (h : pe_bl f e e fst key a = some l) (hl : 0 < l.length) : a < e ∧ ∃ k1 v1 a1 l2, pe_rd f e fst key a = some (k1, v1, a1) ∧ l = (k1, v1) :: l2 ∧ pe_bl f e e false k1 a1 = some l2 := by
  by_cases ha : a < e
  · refine ⟨ha, ?_⟩
    cases hr : pe_rd f e fst key a with
    | none => rw [pe_bl_none ha hr] at h; cases h
    | some q =>
      obtain ⟨k1, v1, a1⟩ := q
      rw [pe_bl_some ha hr] at h
      cases hb : pe_bl f e e false k1 a1 with
      | none => rw [hb] at h; cases h
      | some l2 =>
        rw [hb] at h
        have e1 : (k1, v1) :: l2 = l := Option.some.inj h
        exact ⟨k1, v1, a1, l2, rfl, e1.symm, hb⟩
  · rw [pe_bl_end ha] at h
    cases h
    exact absurd hl (Nat.lt_irrefl 0)
/-- the first of the entries with this KEY -/
def sp_find (l : List (Int32 × Int64)) (key : Int32) : Option Int64 := match l with
  | [] => none
  | q :: l2 => if q.1 = key then some q.2 else sp_find l2 key
theorem pe_of_some {f : Nat → Int32} {p q : Nat} {lb : List (Int32 × Int64)} (h : pe_blk f p q = some lb) : p + 4 ≤ q ∧ pe_bl f (q - 4) (q - 4) true 0 p = some lb := by
  unfold pe_blk at h
  split at h
  · rename_i h1
    exact ⟨h1.1, h⟩
  · cases h
theorem px_take_le (lr : List (Nat × Nat)) (j : Nat) : px_sum (lr.take j) ≤ px_sum (lr.take (j + 1)) := by
  have h := px_sum_take (lr.take (j + 1)) j
  rw [List.take_take, Nat.min_eq_left (Nat.le_succ j)] at h
  exact h
