/-! the table's words: sums, foot, entries, an INDEX, a whole table, in numbers and rows of bytes -/
def ps_w (f : Nat → Int32) (a b : Nat) : Nat := pb_crc f a (b - a) ^^^ 4294967295
theorem ps_w_lt (f : Nat → Int32) (a b : Nat) : ps_w f a b < 2 ^ 32 := Nat.xor_lt_two_pow (pb_crc_lt f a _) (by decide)
theorem pb_eq.w {f g : Nat → Int32} {L a b : Nat} (h : pb_eq f g L) (hb : b ≤ L) (hab : a ≤ b) : ps_w f a b = ps_w g a b := by
  unfold ps_w
  rw [h.crc _ (by omega)]
/-- k bytes of the number w laid at L, the lowest first -/
def ps_k (f : Nat → Int32) (L w : Nat) : Nat → (Nat → Int32)
  | 0 => f
  | k + 1 => upd (ps_k f L w k) (L + k) (sb_b (w / 2 ^ (8 * k)))
/-- k of the four bytes of n laid at L, the highest first -/
def pf_k (f : Nat → Int32) (L n : Nat) : Nat → (Nat → Int32)
  | 0 => f
  | k + 1 => upd (pf_k f L n k) (L + k) (sb_b (n / 2 ^ (8 * (3 - k))))
theorem pb_eq.upd {f g : Nat → Int32} {L : Nat} {x : Int32} (h : pb_eq f g L) : pb_eq (upd f L x) (upd g L x) (L + 1) := fun i hi => by
  by_cases e : i = L
  · subst e
    rw [pk_us, pk_us]
  · rw [pk_un e, pk_un e]
    exact h i (by omega)
theorem ps_eq {f g : Nat → Int32} {L w : Nat} (h : pb_eq f g L) : ∀ k, pb_eq (ps_k f L w k) (ps_k g L w k) (L + k)
  | 0 => h
  | k + 1 => (ps_eq h k).upd
theorem pf_eq {f g : Nat → Int32} {L n : Nat} (h : pb_eq f g L) : ∀ k, pb_eq (pf_k f L n k) (pf_k g L n k) (L + k)
  | 0 => h
  | k + 1 => (pf_eq h k).upd
theorem ps_fit {f : Nat → Int32} {L w : Nat} (h : pb_fit f) : ∀ k, pb_fit (ps_k f L w k)
  | 0 => h
  | k + 1 => (ps_fit h k).upd (pb_fit_sb _)
theorem pf_fit {f : Nat → Int32} {L n : Nat} (h : pb_fit f) : ∀ k, pb_fit (pf_k f L n k)
  | 0 => h
  | k + 1 => (pf_fit h k).upd (pb_fit_sb _)
/-- the SUM of the bytes from a to b stands at b -/
def ps_has (f : Nat → Int32) (a b : Nat) : Prop := ∀ i, i < 4 → pb_ub f (b + i) = ps_w f a b / 2 ^ (8 * i) % 256
theorem pb_eq.has {f g : Nat → Int32} {L a b : Nat} (h : pb_eq f g L) (hb : b + 4 ≤ L) (hab : a ≤ b) : ps_has f a b ↔ ps_has g a b := by
  unfold ps_has
  rw [h.w (by omega) hab]
  constructor
  · intro q i hi
    rw [← h.ub (by omega : b + i < L)]; exact q i hi
  · intro q i hi
    rw [h.ub (by omega : b + i < L)]; exact q i hi
def ps_hasB (f : Nat → Int32) (a b : Nat) : Bool := (List.range 4).all (fun i => pb_ub f (b + i) == ps_w f a b / 2 ^ (8 * i) % 256)
theorem ps_hasB_iff {f : Nat → Int32} {a b : Nat} : ps_hasB f a b = true ↔ ps_has f a b := by
  unfold ps_hasB ps_has
  simp [List.all_eq_true]
/-- the number that n bytes from a say, the highest first -/
def pf_n (f : Nat → Int32) (a : Nat) : Nat → Nat
  | 0 => 0
  | k + 1 => pf_n f a k * 256 + pb_ub f (a + k)
theorem pb_eq.foot {f g : Nat → Int32} {L a : Nat} (h : pb_eq f g L) : ∀ k, a + k ≤ L → pf_n f a k = pf_n g a k
  | 0, _ => rfl
  | k + 1, hk => by
    show pf_n f a k * 256 + pb_ub f (a + k) = pf_n g a k * 256 + pb_ub g (a + k)
    rw [h.foot k (by omega), h.ub (by omega)]
theorem pf_n_lt (f : Nat → Int32) (a : Nat) : ∀ k, pf_n f a k < 256 ^ k
  | 0 => (by decide : (0 : Nat) < 256 ^ 0)
  | k + 1 => by
    have h1 := pf_n_lt f a k
    have h2 := pb_ub_lt f (a + k)
    show pf_n f a k * 256 + pb_ub f (a + k) < 256 ^ (k + 1)
    rw [Nat.pow_succ]
    omega
/-! FOLD and back, as both sides compute them -/
def pu_f (v : Int64) : Int64 := if v < 0 then -2 * v - 1 else 2 * v
def pu_h (x : Int64) : Int64 := (x.toUInt64 >>> ((1 : Int32).toInt64.toUInt64 &&& Int64.toUInt64 63)).toInt64
def pu_u (x : Int64) : Int64 := if x &&& 1 = 0 then pu_h x else -(pu_h x) - 1
/-! ENTRIES -/
def pe_key (fst : Bool) (key : Int32) (n : Nat) : Int32 := if fst = true then (pu_u (lN n)).toInt32 else (key.toInt64 + lN n + 1).toInt32
def pe_rd (f : Nat → Int32) (e : Nat) (fst : Bool) (key : Int32) (a : Nat) : Option (Int32 × Int64 × Nat) := match pb_rd f e a with
  | none => none
  | some (n, a1) => match pb_rd f e a1 with
    | none => none
    | some (m, a2) => some (pe_key fst key n, pu_u (lN m), a2)
def pe_bl (f : Nat → Int32) (e : Nat) : Nat → Bool → Int32 → Nat → Option (List (Int32 × Int64))
  | 0, _, _, a => if a < e then none else some []
  | k + 1, fst, key, a => if a < e then (match pe_rd f e fst key a with
    | none => none
    | some (k1, v1, a1) => (pe_bl f e k false k1 a1).map (fun l => (k1, v1) :: l)) else some []
theorem pb_eq.erd {f g : Nat → Int32} {L e : Nat} (h : pb_eq f g L) (he : e ≤ L) (fst : Bool) (key : Int32) (a : Nat) : pe_rd f e fst key a = pe_rd g e fst key a := by
  unfold pe_rd
  rw [h.rd he a]
  cases hq : pb_rd g e a with
  | none => rfl
  | some q =>
    obtain ⟨n, a1⟩ := q
    simp only [h.rd he a1]
theorem pb_eq.bl {f g : Nat → Int32} {L e : Nat} (h : pb_eq f g L) (he : e ≤ L) : ∀ k fst key a, pe_bl f e k fst key a = pe_bl g e k fst key a
  | 0, _, _, _ => rfl
  | k + 1, fst, key, a => by
    unfold pe_bl
    rw [h.erd he]
    by_cases ha : a < e
    · rw [if_pos ha, if_pos ha]
      cases hq : pe_rd g e fst key a with
      | none => rfl
      | some q =>
        obtain ⟨k1, v1, a1⟩ := q
        simp only [h.bl he k]
    · rw [if_neg ha, if_neg ha]
theorem pe_rd_in {f : Nat → Int32} {e : Nat} {fst : Bool} {key k1 : Int32} {v1 : Int64} {a a1 : Nat} (h : pe_rd f e fst key a = some (k1, v1, a1)) : a + 2 ≤ a1 ∧ a1 ≤ e := by
  unfold pe_rd at h
  cases hq : pb_rd f e a with
  | none => rw [hq] at h; cases h
  | some q =>
    obtain ⟨n, b1⟩ := q
    rw [hq] at h
    have h1 := pb_rd_in hq
    cases hr : pb_rd f e b1 with
    | none => simp only [hr] at h; cases h
    | some r =>
      obtain ⟨m, b2⟩ := r
      simp only [hr] at h
      have h2 := pb_rd_in hr
      cases h
      omega
theorem pe_bl_len {f : Nat → Int32} {e : Nat} : ∀ k fst key a l, pe_bl f e k fst key a = some l → 2 * l.length ≤ e - a
  | 0, _, _, a, l, h => by
    unfold pe_bl at h
    split at h
    · cases h
    · cases h; simp
  | k + 1, fst, key, a, l, h => by
    unfold pe_bl at h
    split at h
    · rename_i ha
      cases hq : pe_rd f e fst key a with
      | none => rw [hq] at h; cases h
      | some q =>
        obtain ⟨k1, v1, a1⟩ := q
        rw [hq] at h
        have h1 := pe_rd_in hq
        cases hr : pe_bl f e k false k1 a1 with
        | none => simp [hr] at h
        | some l1 =>
          simp [hr] at h
          have h2 := pe_bl_len k false k1 a1 l1 hr
          rw [← h]
          simp
          omega
    · cases h; simp
/-! an INDEX: so many rows of a length and a folded KEY -/
def px_ok (n : Nat) : Bool := decide (n ≤ 4294967295)
def px_rd (f : Nat → Int32) (e : Nat) : Nat → Nat → Option (List (Nat × Nat) × Nat)
  | 0, a => some ([], a)
  | k + 1, a => match pb_rd f e a with
    | none => none
    | some (n, a1) => match pb_rd f e a1 with
      | none => none
      | some (m, a2) => if n ≤ 4294967295 ∧ m ≤ 4294967295 then (px_rd f e k a2).map (fun r => ((n, m) :: r.1, r.2)) else none
theorem pb_eq.xrd {f g : Nat → Int32} {L e : Nat} (h : pb_eq f g L) (he : e ≤ L) : ∀ k a, px_rd f e k a = px_rd g e k a
  | 0, _ => rfl
  | k + 1, a => by
    unfold px_rd
    rw [h.rd he a]
    cases hq : pb_rd g e a with
    | none => rfl
    | some q =>
      obtain ⟨n, a1⟩ := q
      simp only [h.rd he a1]
      cases hr : pb_rd g e a1 with
      | none => rfl
      | some r =>
        obtain ⟨m, a2⟩ := r
        simp only [h.xrd he k a2]
theorem px_rd_in {f : Nat → Int32} {e : Nat} : ∀ k a l a', px_rd f e k a = some (l, a') → a + 2 * k ≤ a' ∧ l.length = k ∧ (a ≤ e → a' ≤ e)
  | 0, a, l, a', h => by
    unfold px_rd at h
    cases h
    simp
  | k + 1, a, l, a', h => by
    unfold px_rd at h
    cases hq : pb_rd f e a with
    | none => rw [hq] at h; cases h
    | some q =>
      obtain ⟨n, a1⟩ := q
      rw [hq] at h
      have h1 := pb_rd_in hq
      cases hr : pb_rd f e a1 with
      | none => simp only [hr] at h; cases h
      | some r =>
        obtain ⟨m, a2⟩ := r
        simp only [hr] at h
        have h2 := pb_rd_in hr
        split at h
        · cases ht : px_rd f e k a2 with
          | none => simp [ht] at h
          | some t =>
            obtain ⟨l1, a3⟩ := t
            simp [ht] at h
            have h3 := px_rd_in k a2 l1 a3 ht
            obtain ⟨e1, e2⟩ := h
            subst e2
            rw [← e1]
            simp
            omega
        · cases h
/-- the lengths' sum -/
def px_sum : List (Nat × Nat) → Nat
  | [] => 0
  | q :: l => q.1 + px_sum l
/-- what open reads: the rows of the INDEX, if all is right -/
def px_open (f : Nat → Int32) (L : Nat) : Option (List (Nat × Nat)) :=
  if 8 ≤ L ∧ pf_n f (L - 4) 4 ≤ L - 8 ∧ ps_hasB f (L - 8 - pf_n f (L - 4) 4) (L - 8) = true then
    match pb_rd f (L - 8) (L - 8 - pf_n f (L - 4) 4) with
    | none => none
    | some (n, a1) => match px_rd f (L - 8) n a1 with
      | none => none
      | some (l, a2) => if a2 = L - 8 ∧ px_sum l = L - 8 - pf_n f (L - 4) 4 then some l else none
  else none
