/-! the model's rows of an INDEX -/
def pm_rows (b acc : Nat) (l : List (Nat × Nat)) (fr sf fi : Nat → Int32) : Prop := ∀ j, j < l.length → fr (b + j) = nI (min (acc + px_sum (l.take j)) 6000) ∧ sf (b + j) = nI (min (l.getD j (0, 0)).1 6000) ∧ fi (b + j) = (pu_u (lN (l.getD j (0, 0)).2)).toInt32
theorem pm_rows_nil {b acc : Nat} {fr sf fi : Nat → Int32} : pm_rows b acc [] fr sf fi := fun j hj => absurd hj (Nat.not_lt_zero j)
theorem pm_rows_cons {b acc n m : Nat} {l : List (Nat × Nat)} {fr sf fi : Nat → Int32} (h1 : fr b = nI (min acc 6000)) (h2 : sf b = nI (min n 6000)) (h3 : fi b = (pu_u (lN m)).toInt32) (h : pm_rows (b + 1) (acc + n) l fr sf fi) : pm_rows b acc ((n, m) :: l) fr sf fi := by
  intro j hj
  cases j with
  | zero => exact ⟨h1, h2, h3⟩
  | succ j =>
    have h4 := h j (Nat.lt_of_succ_lt_succ hj)
    rw [show b + 1 + j = b + (j + 1) by omega] at h4
    refine ⟨?_, h4.2.1, h4.2.2⟩
    rw [h4.1]
    exact congrArg (fun z => nI (min z 6000)) (Nat.add_assoc acc n _)
theorem pm_x1 {f : Nat → Int32} {e k a : Nat} (h : ∀ n a1, pb_rd f e a = some (n, a1) → ¬ n ≤ 4294967295) : px_rd f e (k + 1) a = none := by
  unfold px_rd
  cases hq : pb_rd f e a with
  | none => exact Eq.refl _
  | some q =>
    obtain ⟨n, a1⟩ := q
    simp only
    cases hr : pb_rd f e a1 with
    | none => exact Eq.refl _
    | some r =>
      obtain ⟨m, a2⟩ := r
      simp only
      rw [if_neg (fun z => h n a1 hq z.1)]
theorem pm_x2 {f : Nat → Int32} {e k a n1 a1 : Nat} (h1 : pb_rd f e a = some (n1, a1)) (h : ∀ n a2, pb_rd f e a1 = some (n, a2) → ¬ n ≤ 4294967295) : px_rd f e (k + 1) a = none := by
  unfold px_rd
  rw [h1]
  simp only
  cases hr : pb_rd f e a1 with
  | none => exact Eq.refl _
  | some r =>
    obtain ⟨m, a2⟩ := r
    simp only
    rw [if_neg (fun z => h m a2 hr z.2)]
theorem pm_x3 {f : Nat → Int32} {e k a n1 a1 n2 a2 : Nat} (h1 : pb_rd f e a = some (n1, a1)) (h2 : pb_rd f e a1 = some (n2, a2)) (g1 : n1 ≤ 4294967295) (g2 : n2 ≤ 4294967295) : px_rd f e (k + 1) a = (px_rd f e k a2).map (fun r => ((n1, n2) :: r.1, r.2)) := by
  conv => lhs; unfold px_rd
  simp only [h1, h2]
  rw [if_pos ⟨g1, g2⟩]
/-- what px_open says once the foot and the sum are right -/
theorem pm_open {f : Nat → Int32} {L P : Nat} (hP : P = pf_n f (L - 4) 4) (h8 : 8 ≤ L) (h9 : P ≤ L - 8) (hs : ps_has f (L - 8 - P) (L - 8)) : px_open f L = match pb_rd f (L - 8) (L - 8 - P) with
    | none => none
    | some (n, a1) => match px_rd f (L - 8) n a1 with
      | none => none
      | some (l, a2) => if a2 = L - 8 ∧ px_sum l = L - 8 - P then some l else none := by
  subst hP
  unfold px_open
  rw [if_pos ⟨h8, h9, ps_hasB_iff.mpr hs⟩]
  exact Eq.refl _
theorem pm_open_no {f : Nat → Int32} {L P : Nat} (hP : P = pf_n f (L - 4) 4) (h : ¬ (8 ≤ L ∧ P ≤ L - 8 ∧ ps_has f (L - 8 - P) (L - 8))) : px_open f L = none := by
  subst hP
  unfold px_open
  rw [if_neg (fun z => h ⟨z.1, z.2.1, ps_hasB_iff.mp z.2.2⟩)]
theorem pm_xbig {f : Nat → Int32} {e n a : Nat} (ha : a ≤ e) (h : e < n) : px_rd f e n a = none := by
  cases hq : px_rd f e n a with
  | none => rfl
  | some q =>
    obtain ⟨l, a2⟩ := q
    have h1 := px_rd_in n a l a2 hq
    have h2 := h1.2.2 ha
    omega
theorem pm_e0 {f : Nat → Int32} {e : Nat} {fst : Bool} {key : Int32} {a : Nat} (h : pb_rd f e a = none) : pe_rd f e fst key a = none := by
  unfold pe_rd
  rw [h]
theorem pm_e1 {f : Nat → Int32} {e : Nat} {fst : Bool} {key : Int32} {a n a1 : Nat} (h : pb_rd f e a = some (n, a1)) (h1 : pb_rd f e a1 = none) : pe_rd f e fst key a = none := by
  unfold pe_rd
  rw [h]
  simp only [h1]
theorem pm_e2 {f : Nat → Int32} {e : Nat} {fst : Bool} {key : Int32} {a n a1 m a2 : Nat} (h : pb_rd f e a = some (n, a1)) (h1 : pb_rd f e a1 = some (m, a2)) : pe_rd f e fst key a = some (pe_key fst key n, pu_u (lN m), a2) := by
  unfold pe_rd
  rw [h]
  simp only [h1]
theorem pm_sum_lt {f : Nat → Int32} {e : Nat} : ∀ {k a l a'}, px_rd f e k a = some (l, a') → px_sum l ≤ k * 4294967295
  | 0, a, l, a', h => by
    unfold px_rd at h
    cases h
    exact Nat.zero_le _
  | k + 1, a, l, a', h => by
    unfold px_rd at h
    cases hq : pb_rd f e a with
    | none => rw [hq] at h; cases h
    | some q =>
      obtain ⟨n, a1⟩ := q
      rw [hq] at h
      cases hr : pb_rd f e a1 with
      | none => simp only [hr] at h; cases h
      | some r =>
        obtain ⟨m, a2⟩ := r
        simp only [hr] at h
        split at h
        · rename_i hnm
          cases ht : px_rd f e k a2 with
          | none => simp [ht] at h
          | some t =>
            obtain ⟨l1, a3⟩ := t
            simp [ht] at h
            have h3 := pm_sum_lt ht
            rw [← h.1]
            show n + px_sum l1 ≤ _
            have := hnm.1
            omega
        · cases h
