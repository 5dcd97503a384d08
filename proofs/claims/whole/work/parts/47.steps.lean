/-! a BLOCK's entries, one by one -/
theorem pe_bl_end {f : Nat → Int32} {e n : Nat} {fst : Bool} {key : Int32} {a : Nat} (ha : ¬ a < e) : pe_bl f e n fst key a = some [] := by
  cases n with
  | zero => unfold pe_bl; rw [if_neg ha]
  | succ n => unfold pe_bl; rw [if_neg ha]
theorem pe_bl_none {f : Nat → Int32} {e : Nat} {fst : Bool} {key : Int32} {a : Nat} (ha : a < e) (h : pe_rd f e fst key a = none) : pe_bl f e e fst key a = none := by
  cases e with
  | zero => exact absurd ha (Nat.not_lt_zero a)
  | succ n =>
    conv => lhs; unfold pe_bl
    rw [if_pos ha, h]
theorem pe_bl_some {f : Nat → Int32} {e : Nat} {fst : Bool} {key k1 : Int32} {v1 : Int64} {a a1 : Nat} (ha : a < e) (h : pe_rd f e fst key a = some (k1, v1, a1)) : pe_bl f e e fst key a = (pe_bl f e e false k1 a1).map (fun l => (k1, v1) :: l) := by
  have hin := pe_rd_in h
  cases e with
  | zero => exact absurd ha (Nat.not_lt_zero a)
  | succ n =>
    conv => lhs; unfold pe_bl
    rw [if_pos ha, h]
    simp only
    rw [pe_bl_fuel f (n + 1) n (n + 1) false k1 a1 (by omega) (by omega)]
/-- one entry read, the flag's two ways -/
theorem pe_step {f : Nat → Int32} {e a a1 : Nat} {fst : Bool} {ek k1 : Int32} {v1 : Int64} {ok o1 : Int32} (ha : a < e) (hq : (pe_rd f e fst ek a = some (k1, v1, a1) ∧ o1 = ok) ∨ (pe_rd f e fst ek a = none ∧ o1 = 0)) :
    ((o1 = 0 ∨ pe_bl f e e false k1 a1 = none) → (ok = 0 ∨ pe_bl f e e fst ek a = none)) ∧ (o1 = 1 → ok = 1 ∧ a + 2 ≤ a1 ∧ ∀ lb, pe_bl f e e false k1 a1 = some lb → pe_bl f e e fst ek a = some ((k1, v1) :: lb)) := by
  rcases hq with ⟨h, rfl⟩ | ⟨h, rfl⟩
  · refine ⟨fun hz => hz.imp id (fun hz => by rw [pe_bl_some ha h, hz]; rfl), fun ho => ⟨ho, (pe_rd_in h).1, fun lb hlb => by rw [pe_bl_some ha h, hlb]; rfl⟩⟩
  · exact ⟨fun _ => Or.inr (pe_bl_none ha h), fun ho => absurd ho (by decide)⟩
