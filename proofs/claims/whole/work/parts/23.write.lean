/-! what write lays down, as both sides lay it: a row of bytes and how many are laid -/
abbrev pw_P : Type := (Nat → Int32) × Nat
def pw_n (s : pw_P) (x : Int64) : pw_P := (pl_f s.1 9 s.2 x.toBitVec.toNat, s.2 + pl_n 9 x.toBitVec.toNat)
def pw_x (kf : Nat → Int32) (i j : Nat) : Int64 := if j = i then pu_f (kf j).toInt64 else (kf j).toInt64 - (kf (j - 1)).toInt64 - 1
def pw_e (kf : Nat → Int32) (vf : Nat → Int64) (i j : Nat) (s : pw_P) : pw_P := pw_n (pw_n s (pw_x kf i j)) (pu_f (vf j))
def pw_b (kf : Nat → Int32) (vf : Nat → Int64) (i : Nat) : Nat → pw_P → pw_P
  | 0, s => s
  | m + 1, s => pw_e kf vf i (i + m) (pw_b kf vf i m s)
def pw_s (s : pw_P) (a : Nat) : pw_P := (ps_k s.1 s.2 (ps_w s.1 a s.2) 4, s.2 + 4)
def pw_f (s : pw_P) (n : Nat) : pw_P := (pf_k s.1 s.2 n 4, s.2 + 4)
/-- one BLOCK: from the entry i, w entries in all -/
def pw_bl (kf : Nat → Int32) (vf : Nat → Int64) (w i : Nat) (s : pw_P) : pw_P := pw_s (pw_b kf vf i (min 8 (w - i)) s) s.2
def pw_bs (kf : Nat → Int32) (vf : Nat → Int64) (w : Nat) : Nat → pw_P → pw_P
  | 0, s => s
  | b + 1, s => pw_bl kf vf w (8 * b) (pw_bs kf vf w b s)
def pw_len (kf : Nat → Int32) (vf : Nat → Int64) (w : Nat) (s : pw_P) (b : Nat) : Nat := (pw_bs kf vf w (b + 1) s).2 - (pw_bs kf vf w b s).2
/-- the INDEX's rows: ln the BLOCKS' lengths -/
def pw_i (kf : Nat → Int32) (ln : Nat → Nat) : Nat → pw_P → pw_P
  | 0, s => s
  | b + 1, s => pw_n (pw_n (pw_i kf ln b s) (lN (ln b))) (pu_f (kf (8 * b)).toInt64)
def pw_ix (kf : Nat → Int32) (ln : Nat → Nat) (n : Nat) (s : pw_P) : pw_P :=
  pw_f (pw_s (pw_i kf ln n (pw_n s (lN n))) s.2) ((pw_i kf ln n (pw_n s (lN n))).2 - s.2)
def pw_all (kf : Nat → Int32) (vf : Nat → Int64) (w : Nat) (f : Nat → Int32) : pw_P :=
  pw_ix kf (pw_len kf vf w (f, 0)) ((w + 7) / 8) (pw_bs kf vf w ((w + 7) / 8) (f, 0))
/-- two rows with the same bytes laid -/
def pw_eq (s t : pw_P) : Prop := s.2 = t.2 ∧ pb_eq s.1 t.1 s.2
theorem pw_eq.n {s t : pw_P} (h : pw_eq s t) (x : Int64) : pw_eq (pw_n s x) (pw_n t x) := by
  obtain ⟨h1, h2⟩ := h
  refine ⟨by show s.2 + _ = t.2 + _; rw [h1], ?_⟩
  show pb_eq (pl_f s.1 9 s.2 _) (pl_f t.1 9 t.2 _) (s.2 + _)
  rw [← h1]
  exact pl_eq 9 s.2 _ _ _ h2
theorem pw_eq.e {s t : pw_P} (h : pw_eq s t) {kf kg : Nat → Int32} {vf vg : Nat → Int64} {i j : Nat} (hx : pw_x kf i j = pw_x kg i j) (hv : vf j = vg j) : pw_eq (pw_e kf vf i j s) (pw_e kg vg i j t) := by
  unfold pw_e
  rw [hx, hv]
  exact (h.n _).n _
theorem pw_x_eq {kf kg : Nat → Int32} {i j w : Nat} (hk : ∀ a, a < w → kf a = kg a) (hj : j < w) : pw_x kf i j = pw_x kg i j := by
  unfold pw_x
  split
  · rw [hk j hj]
  · rw [hk j hj, hk (j - 1) (by omega)]
theorem pw_eq.b {kf kg : Nat → Int32} {vf vg : Nat → Int64} {i w : Nat} (hk : ∀ a, a < w → kf a = kg a) (hv : ∀ a, a < w → vf a = vg a) : ∀ m {s t : pw_P}, i + m ≤ w → pw_eq s t → pw_eq (pw_b kf vf i m s) (pw_b kg vg i m t)
  | 0, _, _, _, h => h
  | m + 1, _, _, hm, h => (pw_eq.b hk hv m (by omega) h).e (pw_x_eq hk (by omega)) (hv _ (by omega))
theorem pw_n_le (s : pw_P) (x : Int64) : s.2 ≤ (pw_n s x).2 := Nat.le_add_right _ _
theorem pw_b_le (kf : Nat → Int32) (vf : Nat → Int64) (i : Nat) : ∀ m (s : pw_P), s.2 ≤ (pw_b kf vf i m s).2
  | 0, s => Nat.le_refl _
  | m + 1, s => Nat.le_trans (pw_b_le kf vf i m s) (Nat.le_trans (pw_n_le _ _) (pw_n_le _ _))
theorem pw_eq.s {s t : pw_P} (h : pw_eq s t) {a : Nat} (ha : a ≤ s.2) : pw_eq (pw_s s a) (pw_s t a) := by
  obtain ⟨h1, h2⟩ := h
  refine ⟨by show s.2 + 4 = t.2 + 4; rw [h1], ?_⟩
  show pb_eq (ps_k s.1 s.2 (ps_w s.1 a s.2) 4) (ps_k t.1 t.2 (ps_w t.1 a t.2) 4) (s.2 + 4)
  rw [← h1, h2.w (Nat.le_refl _) ha]
  exact ps_eq h2 4
theorem pw_eq.f {s t : pw_P} (h : pw_eq s t) (n : Nat) : pw_eq (pw_f s n) (pw_f t n) := by
  obtain ⟨h1, h2⟩ := h
  refine ⟨by show s.2 + 4 = t.2 + 4; rw [h1], ?_⟩
  show pb_eq (pf_k s.1 s.2 n 4) (pf_k t.1 t.2 n 4) (s.2 + 4)
  rw [← h1]
  exact pf_eq h2 4
theorem pw_eq.bl {kf kg : Nat → Int32} {vf vg : Nat → Int64} {i w : Nat} {s t : pw_P} (hk : ∀ a, a < w → kf a = kg a) (hv : ∀ a, a < w → vf a = vg a) (hi : i ≤ w) (h : pw_eq s t) : pw_eq (pw_bl kf vf w i s) (pw_bl kg vg w i t) := by
  unfold pw_bl
  rw [← h.1]
  exact (pw_eq.b hk hv (min 8 (w - i)) (by omega) h).s (pw_b_le kf vf i _ s)
theorem pw_eq.bs {kf kg : Nat → Int32} {vf vg : Nat → Int64} {w : Nat} {s t : pw_P} (hk : ∀ a, a < w → kf a = kg a) (hv : ∀ a, a < w → vf a = vg a) (h : pw_eq s t) : ∀ b, 8 * (b - 1) ≤ w → pw_eq (pw_bs kf vf w b s) (pw_bs kg vg w b t)
  | 0, _ => h
  | b + 1, hb => pw_eq.bl hk hv (by omega) (pw_eq.bs hk hv h b (by omega))
theorem pw_i_le (kf : Nat → Int32) (ln : Nat → Nat) : ∀ n (s : pw_P), s.2 ≤ (pw_i kf ln n s).2
  | 0, s => Nat.le_refl _
  | n + 1, s => Nat.le_trans (pw_i_le kf ln n s) (Nat.le_trans (pw_n_le _ _) (pw_n_le _ _))
theorem pw_eq.i {kf kg : Nat → Int32} {ln lm : Nat → Nat} {s t : pw_P} (h : pw_eq s t) : ∀ n, (∀ b, b < n → kf (8 * b) = kg (8 * b) ∧ ln b = lm b) → pw_eq (pw_i kf ln n s) (pw_i kg lm n t)
  | 0, _ => h
  | n + 1, hq => by
    have h1 := h.i n (fun b hb => hq b (by omega))
    obtain ⟨e1, e2⟩ := hq n (by omega)
    show pw_eq (pw_n (pw_n (pw_i kf ln n s) (lN (ln n))) (pu_f (kf (8 * n)).toInt64)) (pw_n (pw_n (pw_i kg lm n t) (lN (lm n))) (pu_f (kg (8 * n)).toInt64))
    rw [e1, e2]
    exact (h1.n _).n _
theorem pw_eq.ix {kf kg : Nat → Int32} {ln lm : Nat → Nat} {n : Nat} {s t : pw_P} (h : pw_eq s t) (hq : ∀ b, b < n → kf (8 * b) = kg (8 * b) ∧ ln b = lm b) : pw_eq (pw_ix kf ln n s) (pw_ix kg lm n t) := by
  unfold pw_ix
  have h1 := (h.n (lN n)).i n hq
  rw [← h.1, ← h1.1]
  exact (h1.s (Nat.le_trans (pw_n_le s (lN n)) (pw_i_le kf ln n _))).f _
theorem pw_eq.all {kf kg : Nat → Int32} {vf vg : Nat → Int64} {w : Nat} {f g : Nat → Int32} (hk : ∀ a, a < w → kf a = kg a) (hv : ∀ a, a < w → vf a = vg a) : pw_eq (pw_all kf vf w f) (pw_all kg vg w g) := by
  have h0 : pw_eq (f, 0) (g, 0) := ⟨rfl, fun i hi => absurd hi (Nat.not_lt_zero i)⟩
  have hb : ∀ b, b ≤ (w + 7) / 8 → pw_eq (pw_bs kf vf w b (f, 0)) (pw_bs kg vg w b (g, 0)) := fun b hb => pw_eq.bs hk hv h0 b (by omega)
  refine pw_eq.ix (hb _ (Nat.le_refl _)) (fun b h => ⟨hk _ (by omega), ?_⟩)
  unfold pw_len
  rw [(hb (b + 1) (by omega)).1, (hb b (by omega)).1]
