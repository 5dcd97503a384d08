/-! the words of the five throws; the heap's size where nothing is made -/
theorem x_size {p : Program} {l : Launch} {e : Env} {R : Room} {s : State} {m : MethodId} {args : Array Value} {below : List Frame} {meth : Method} {c : Code} {H : Heap} {locs : List Loc} {Q : State → Prop} {A : Nat → Prop} {g : JFrame} {slots : Nat} (hS : va_S A s.heap H locs) (kk : H.size = s.heap.size → W p l e R s m args below meth c H locs 0 slots Q g) : W p l e R s m args below meth c H locs 0 slots Q g := by
  intro T hT X
  have h1 := X.heapSize
  have h2 := hS.1
  rw [hT] at h1
  exact kk (by omega) T hT X
theorem xh_ISE_at : ∀ w ∈ vx_atS RX3 52 "java/lang/IllegalStateException" ["java/lang/RuntimeException", "java/lang/Exception"], w ∈ lw_tbl.filter xn_ok := by decide +kernel
theorem xh_ISE_good : ∀ w ∈ Cond.classLink RX3 48 "java/lang/IllegalStateException" :: Cond.initialized "java/lang/IllegalStateException" :: vx_atS RX3 52 "java/lang/IllegalStateException" ["java/lang/RuntimeException", "java/lang/Exception"], vx_ot w = true := by decide +kernel
theorem xh_ISE_on : ∀ w ∈ vx_atS RX3 52 "java/lang/IllegalStateException" ["java/lang/RuntimeException", "java/lang/Exception"], w.onTables = true := by decide +kernel
theorem xh_IAE_at : ∀ w ∈ vx_atS RX3 59 "java/lang/IllegalArgumentException" ["java/lang/RuntimeException", "java/lang/Exception"], w ∈ lw_tbl.filter xn_ok := by decide +kernel
theorem xh_IAE_good : ∀ w ∈ Cond.classLink RX3 55 "java/lang/IllegalArgumentException" :: Cond.initialized "java/lang/IllegalArgumentException" :: vx_atS RX3 59 "java/lang/IllegalArgumentException" ["java/lang/RuntimeException", "java/lang/Exception"], vx_ot w = true := by decide +kernel
theorem xh_IAE_on : ∀ w ∈ vx_atS RX3 59 "java/lang/IllegalArgumentException" ["java/lang/RuntimeException", "java/lang/Exception"], w.onTables = true := by decide +kernel
theorem xh_AE_at : ∀ w ∈ vx_atS RX3 89 "java/lang/ArithmeticException" ["java/lang/RuntimeException", "java/lang/Exception"], w ∈ lw_tbl.filter xn_ok := by decide +kernel
theorem xh_AE_good : ∀ w ∈ Cond.classLink RX3 85 "java/lang/ArithmeticException" :: Cond.initialized "java/lang/ArithmeticException" :: vx_atS RX3 89 "java/lang/ArithmeticException" ["java/lang/RuntimeException", "java/lang/Exception"], vx_ot w = true := by decide +kernel
theorem xh_AE_on : ∀ w ∈ vx_atS RX3 89 "java/lang/ArithmeticException" ["java/lang/RuntimeException", "java/lang/Exception"], w.onTables = true := by decide +kernel
theorem xh_IOB_at : ∀ w ∈ vx_atS RX3 130 "java/lang/IndexOutOfBoundsException" ["java/lang/RuntimeException", "java/lang/Exception"], w ∈ lw_tbl.filter xn_ok := by decide +kernel
theorem xh_IOB_good : ∀ w ∈ Cond.classLink RX3 126 "java/lang/IndexOutOfBoundsException" :: Cond.initialized "java/lang/IndexOutOfBoundsException" :: vx_atS RX3 130 "java/lang/IndexOutOfBoundsException" ["java/lang/RuntimeException", "java/lang/Exception"], vx_ot w = true := by decide +kernel
theorem xh_IOB_on : ∀ w ∈ vx_atS RX3 130 "java/lang/IndexOutOfBoundsException" ["java/lang/RuntimeException", "java/lang/Exception"], w.onTables = true := by decide +kernel
/-! the entries of a BLOCK from p to q, its SUM behind them -/
def pe_blk (f : Nat → Int32) (p q : Nat) : Option (List (Int32 × Int64)) := if p + 4 ≤ q ∧ ps_hasB f p (q - 4) = true then pe_bl f (q - 4) (q - 4) true 0 p else none
theorem pe_rd_first (f : Nat → Int32) (e : Nat) (k1 k2 : Int32) (a : Nat) : pe_rd f e true k1 a = pe_rd f e true k2 a := by
  unfold pe_rd pe_key
  simp
theorem pe_bl_first (f : Nat → Int32) (e : Nat) (k1 k2 : Int32) (a : Nat) : ∀ n, pe_bl f e n true k1 a = pe_bl f e n true k2 a
  | 0 => by unfold pe_bl; exact Eq.refl _
  | n + 1 => by unfold pe_bl; rw [pe_rd_first f e k1 k2]
/-- more fuel than bytes changes nothing -/
theorem pe_bl_fuel (f : Nat → Int32) (e : Nat) : ∀ n m fst key a, e - a ≤ n → e - a ≤ m → pe_bl f e n fst key a = pe_bl f e m fst key a
  | 0, 0, _, _, _, _, _ => rfl
  | 0, m + 1, fst, key, a, h1, h2 => by
    unfold pe_bl
    rw [if_neg (by omega), if_neg (by omega)]
  | n + 1, 0, fst, key, a, h1, h2 => by
    unfold pe_bl
    rw [if_neg (by omega), if_neg (by omega)]
  | n + 1, m + 1, fst, key, a, h1, h2 => by
    unfold pe_bl
    by_cases ha : a < e
    · rw [if_pos ha, if_pos ha]
      cases hq : pe_rd f e fst key a with
      | none => rfl
      | some q =>
        obtain ⟨k1, v1, a1⟩ := q
        have hin := pe_rd_in hq
        simp only
        rw [pe_bl_fuel f e n m false k1 a1 (by omega) (by omega)]
    · rw [if_neg ha, if_neg ha]
/-! the calls' answers, as numbers: 0 and the answer, or which exception of the document's order -/
def pe_of (f : Nat → Int32) (lr : List (Nat × Nat)) (j : Nat) : Option (List (Int32 × Int64)) := pe_blk f (px_sum (lr.take j)) (px_sum (lr.take (j + 1)))
def sp_in (x : Int32) (n : Nat) : Bool := decide (0 ≤ x) && decide (x < nI n)
theorem sp_in_iff {x : Int32} {n : Nat} (hn : n < 2 ^ 31) : sp_in x n = true ↔ ∃ j, j < n ∧ x = nI j := by
  unfold sp_in
  rw [Bool.and_eq_true, decide_eq_true_eq, decide_eq_true_eq]
  constructor
  · rintro ⟨h1, h2⟩
    obtain ⟨j, hj, rfl⟩ := nI_of (Int32.not_lt.mpr h1)
    exact ⟨j, (nI_ltI hj hn).mp h2, rfl⟩
  · rintro ⟨j, hj, rfl⟩
    exact ⟨nI_pos' (by omega), nI_lt hj hn⟩
theorem px_sum_take (l : List (Nat × Nat)) : ∀ j, px_sum (l.take j) ≤ px_sum l := by
  induction l with
  | nil => intro j; simp
  | cons q l ih =>
    intro j
    cases j with
    | zero => exact Nat.zero_le _
    | succ j =>
      have := ih j
      show q.1 + px_sum (l.take j) ≤ q.1 + px_sum l
      omega
theorem px_rows_at {lr : List (Nat × Nat)} {ef ff : Nat → Int32} (h : px_rows 0 0 lr ef ff) {j : Nat} (hj : j < lr.length) : px_st ef j = nI (px_sum (lr.take j)) ∧ ef j = nI (px_sum (lr.take (j + 1))) := by
  have h1 := (h j hj).1
  rw [Nat.zero_add, Nat.zero_add] at h1
  refine ⟨?_, h1⟩
  unfold px_st
  by_cases hz : j = 0
  · subst hz
    rw [if_pos rfl]
    rfl
  · rw [if_neg hz]
    have h2 := (h (j - 1) (by omega)).1
    rw [Nat.zero_add, Nat.zero_add, show j - 1 + 1 = j by omega] at h2
    exact h2
