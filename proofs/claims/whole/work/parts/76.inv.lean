/-! what holds between the class's cells and the model's; each call keeps it and answers alike -/
theorem pb_eq.opn {f g : Nat → Int32} {L : Nat} (h : pb_eq f g L) : px_open f L = px_open g L := by
  unfold px_open
  by_cases h8 : 8 ≤ L
  · have e1 : pf_n f (L - 4) 4 = pf_n g (L - 4) 4 := h.foot 4 (by omega)
    rw [e1]
    by_cases h9 : pf_n g (L - 4) 4 ≤ L - 8
    · have e2 : ps_hasB f (L - 8 - pf_n g (L - 4) 4) (L - 8) = ps_hasB g (L - 8 - pf_n g (L - 4) 4) (L - 8) := Bool.eq_iff_iff.mpr (by rw [ps_hasB_iff, ps_hasB_iff]; exact h.has (by omega) (by omega))
      rw [e2, h.rd (by omega : L - 8 ≤ L)]
      split
      · cases hq : pb_rd g (L - 8) (L - 8 - pf_n g (L - 4) 4) with
        | none => rfl
        | some q =>
          obtain ⟨n, a1⟩ := q
          simp only [h.xrd (by omega : L - 8 ≤ L) n a1]
      · rfl
    · rw [if_neg (fun z => h9 z.2.1), if_neg (fun z => h9 z.2.1)]
  · rw [if_neg (fun z => h8 z.1), if_neg (fun z => h8 z.1)]
theorem pb_eq.blk {f g : Nat → Int32} {L p q : Nat} (h : pb_eq f g L) (hq : q ≤ L) : pe_blk f p q = pe_blk g p q := by
  unfold pe_blk
  by_cases h4 : p + 4 ≤ q
  · have e2 : ps_hasB f p (q - 4) = ps_hasB g p (q - 4) := Bool.eq_iff_iff.mpr (by rw [ps_hasB_iff, ps_hasB_iff]; exact h.has (by omega) (by omega))
    rw [e2, h.bl (by omega : q - 4 ≤ L)]
  · rw [if_neg (fun z => h4 z.1), if_neg (fun z => h4 z.1)]
theorem pb_eq.of {f g : Nat → Int32} {L j : Nat} {lr : List (Nat × Nat)} (h : pb_eq f g L) (hs : px_sum lr ≤ L) : pe_of f lr j = pe_of g lr j := h.blk (Nat.le_trans (px_sum_take lr (j + 1)) hs)
theorem px_open_sum {f : Nat → Int32} {L : Nat} {lr : List (Nat × Nat)} (h : px_open f L = some lr) : px_sum lr ≤ L := by
  unfold px_open at h
  split at h
  · cases hq : pb_rd f (L - 8) (L - 8 - pf_n f (L - 4) 4) with
    | none => rw [hq] at h; cases h
    | some q =>
      obtain ⟨n, a1⟩ := q
      rw [hq] at h
      simp only at h
      cases hr : px_rd f (L - 8) n a1 with
      | none => rw [hr] at h; cases h
      | some r =>
        obtain ⟨l, a2⟩ := r
        rw [hr] at h
        simp only at h
        split at h
        · rename_i h2
          cases h
          omega
        · cases h
  · cases h
theorem pw_n_fit {s : pw_P} {x : Int64} (h : pb_fit s.1) : pb_fit (pw_n s x).1 := pl_fit 9 _ _ _ h
theorem pw_b_fit {kf : Nat → Int32} {vf : Nat → Int64} {i : Nat} : ∀ m {s : pw_P}, pb_fit s.1 → pb_fit (pw_b kf vf i m s).1
  | 0, _, h => h
  | m + 1, _, h => pw_n_fit (pw_n_fit (pw_b_fit m h))
theorem pw_bs_fit {kf : Nat → Int32} {vf : Nat → Int64} {w : Nat} : ∀ b {s : pw_P}, pb_fit s.1 → pb_fit (pw_bs kf vf w b s).1
  | 0, _, h => h
  | b + 1, _, h => ps_fit (pw_b_fit _ (pw_bs_fit b h)) 4
theorem pw_i_fit {kf : Nat → Int32} {ln : Nat → Nat} : ∀ n {s : pw_P}, pb_fit s.1 → pb_fit (pw_i kf ln n s).1
  | 0, _, h => h
  | n + 1, _, h => pw_n_fit (pw_n_fit (pw_i_fit n h))
theorem pw_all_fit {kf : Nat → Int32} {vf : Nat → Int64} {w : Nat} {f : Nat → Int32} (h : pb_fit f) : pb_fit (pw_all kf vf w f).1 := pf_fit (ps_fit (pw_i_fit _ (pw_n_fit (pw_bs_fit (s := (f, 0)) _ h))) 4) 4
def xI (kf : Nat → Int32) (vf : Nat → Int64) (w op ln : Int32) (tf : Nat → Int32) (nb : Int32) (ef ff : Nat → Int32) (mk : Nat → Int32) (mv : Nat → Int64) (mt fr sf fi : Nat → Int32) (mq ny mb mo : Int32) (n L : Nat) (lr : List (Nat × Nat)) : Prop :=
  (n ≤ 300 ∧ w = nI n ∧ mq = nI n ∧ pw_up kf n ∧ (∀ a, a < n → kf a = mk a) ∧ (∀ a, a < n → vf a = mv a)) ∧ (L ≤ 4889 ∧ ln = nI L ∧ ny = nI L ∧ pb_eq tf mt L ∧ pb_fit mt) ∧
    ((op = 0 ∧ mo = 0) ∨ (op = 1 ∧ mo = 1 ∧ px_sum lr ≤ L ∧ nb = nI lr.length ∧ mb = nI lr.length ∧ lr.length ≤ 2444 ∧ px_rows 0 0 lr ef ff ∧ pm_rows 0 0 lr fr sf fi))
theorem pw_up_add {kf : Nat → Int32} {n : Nat} {key : Int32} (h : pw_up kf n) (hk : n = 0 ∨ kf (n - 1) < key) : pw_up (upd kf n key) (n + 1) := by
  intro i hi
  by_cases e : i + 1 = n
  · rw [e, pk_us, pk_un (by omega), show i = n - 1 by omega]
    exact hk.resolve_left (by omega)
  · rw [pk_un (by omega), pk_un (by omega)]
    exact h i (by omega)
theorem pz_dmg {f g : Nat → Int32} {L j : Nat} {x : Int32} (h : pb_eq f g L) : pb_eq (upd f j x) (upd g j x) L := fun i hi => by
  by_cases e : i = j
  · subst e; rw [pk_us, pk_us]
  · rw [pk_un e, pk_un e]; exact h i hi
theorem pb_eq.cut {f g : Nat → Int32} {L M : Nat} (h : pb_eq f g L) (hM : M ≤ L) : pb_eq f g M := fun i hi => h i (by omega)
section XI
variable {kf : Nat → Int32} {vf : Nat → Int64} {w op ln : Int32} {tf : Nat → Int32} {nb : Int32} {ef ff : Nat → Int32} {mk : Nat → Int32} {mv : Nat → Int64} {mt fr sf fi : Nat → Int32} {mq ny mb mo : Int32} {n L : Nat} {lr : List (Nat × Nat)}
theorem xI_open (h : xI kf vf w op ln tf nb ef ff mk mv mt fr sf fi mq ny mb mo n L lr) : (¬ op = 0 → nb = nI lr.length ∧ lr.length ≤ 2444 ∧ px_rows 0 0 lr ef ff ∧ px_sum lr ≤ 4889) ∧ (¬ mo = 0 → mb = nI lr.length ∧ lr.length ≤ 2444 ∧ pm_rows 0 0 lr fr sf fi ∧ px_sum lr ≤ 4889) ∧ (op = 0 ↔ mo = 0) ∧ (¬ op = 0 → px_sum lr ≤ L) := by
  obtain ⟨-, h2, h3⟩ := h
  rcases h3 with ⟨rfl, rfl⟩ | ⟨rfl, rfl, q1, q2, q3, q4, q5, q6⟩
  · exact ⟨fun z => absurd rfl z, fun z => absurd rfl z, Iff.rfl, fun z => absurd rfl z⟩
  · exact ⟨fun _ => ⟨q2, q4, q5, Nat.le_trans q1 h2.1⟩, fun _ => ⟨q3, q4, q6, Nat.le_trans q1 h2.1⟩, Iff.rfl, fun _ => q1⟩
/-- add, both sides -/
theorem xI_add (h : xI kf vf w op ln tf nb ef ff mk mv mt fr sf fi mq ny mb mo n L lr) {key : Int32} {v : Int64} {of : Nat → Int64} {r r2 : Int32} {u : (Nat → Int32) × (Nat → Int64) × Int32 × (Nat → Int64)} {u2 : Int32 × Int32 × (Nat → Int32) × (Nat → Int64)}
    (h1 : (r = 0 ∧ n < 300 ∧ (n = 0 ∨ kf (n - 1) < key) ∧ u = (upd kf n key, vp_updL vf n v, nI (n + 1), vp_updL of 0 (nI (n + 1)).toInt64)) ∨ (r = 2 ∧ n = 300 ∧ u = (kf, vf, nI n, of)) ∨ (r = 1 ∧ n < 300 ∧ 0 < n ∧ key ≤ kf (n - 1) ∧ u = (kf, vf, nI n, of)))
    (h2 : (u2.1 = 0 ∧ n < 300 ∧ (n = 0 ∨ mk (n - 1) < key) ∧ r2 = nI (n + 1) ∧ u2.2 = (nI (n + 1), upd mk n key, vp_updL mv n v)) ∨ (u2.1 = 2 ∧ n = 300 ∧ u2.2 = (nI n, mk, mv)) ∨ (u2.1 = 1 ∧ n < 300 ∧ 0 < n ∧ key ≤ mk (n - 1) ∧ u2.2 = (nI n, mk, mv))) :
    u2.1 = r ∧ (r = 0 → u.2.2.2 0 = r2.toInt64) ∧ ∃ n', xI u.1 u.2.1 u.2.2.1 op ln tf nb ef ff u2.2.2.1 u2.2.2.2 mt fr sf fi u2.2.1 ny mb mo n' L lr := by
  obtain ⟨⟨q1, q2, q3, q4, q5, q6⟩, hb, ho⟩ := h
  obtain ⟨a1, a2, a3, a4⟩ := u
  obtain ⟨b1, b2, b3, b4⟩ := u2
  have hkk : 0 < n → kf (n - 1) = mk (n - 1) := fun z => q5 _ (by omega)
  rcases h1 with ⟨rfl, c1, c2, c3⟩ | ⟨rfl, c1, c2⟩ | ⟨rfl, c1, c2, c3, c4⟩
  · cases c3
    rcases h2 with ⟨d1, d2, d3, d4, d5⟩ | ⟨d1, d2, d3⟩ | ⟨d1, d2, d3, d4, d5⟩
    · cases d5
      refine ⟨d1, fun _ => ?_, n + 1, ⟨by omega, rfl, rfl, pw_up_add q4 c2, fun a ha => ?_, fun a ha => ?_⟩, hb, ho⟩
      · rw [d4]; show vp_updL of 0 _ 0 = _; exact pk_uLs
      · by_cases e : a = n
        · subst e; exact pk_us.trans pk_us.symm
        · exact (pk_un e).trans ((q5 a (by omega)).trans (pk_un e).symm)
      · by_cases e : a = n
        · subst e; exact pk_uLs.trans pk_uLs.symm
        · exact (pk_uLn e).trans ((q6 a (by omega)).trans (pk_uLn e).symm)
    · omega
    · rw [← hkk d3] at d4
      exact absurd d4 (Int32.not_le.mpr (c2.resolve_left (by omega)))
  · cases c2
    rcases h2 with ⟨d1, d2, d3, d4, d5⟩ | ⟨d1, d2, d3⟩ | ⟨d1, d2, d3, d4, d5⟩
    · omega
    · cases d3
      exact ⟨d1, fun z => absurd z (by decide), n, ⟨q1, rfl, rfl, q4, q5, q6⟩, hb, ho⟩
    · omega
  · cases c4
    rcases h2 with ⟨d1, d2, d3, d4, d5⟩ | ⟨d1, d2, d3⟩ | ⟨d1, d2, d3, d4, d5⟩
    · rw [← hkk c2] at d3
      exact absurd c3 (Int32.not_le.mpr (d3.resolve_left (by omega)))
    · omega
    · cases d5
      exact ⟨d1, fun z => absurd z (by decide), n, ⟨q1, rfl, rfl, q4, q5, q6⟩, hb, ho⟩
theorem xI_write (h : xI kf vf w op ln tf nb ef ff mk mv mt fr sf fi mq ny mb mo n L lr) {bfx : Nat → Int32} {u2 : (Nat → Int32) × (Nat → Int32)} : (pw_all kf vf n tf).2 = (pw_all mk mv n mt).2 ∧ xI kf vf 0 0 (nI (pw_all kf vf n tf).2) (pw_all kf vf n tf).1 nb ef ff mk mv (pw_all mk mv n mt).1 fr u2.1 u2.2 0 (nI (pw_all mk mv n mt).2) mb 0 0 (pw_all kf vf n tf).2 lr := by
  obtain ⟨⟨q1, q2, q3, q4, q5, q6⟩, hb, ho⟩ := h
  have he : pw_eq (pw_all kf vf n tf) (pw_all mk mv n mt) := pw_eq.all q5 q6
  refine ⟨he.1, ⟨by decide, rfl, rfl, fun i hi => absurd hi (Nat.not_lt_zero _), fun a ha => absurd ha (Nat.not_lt_zero _), fun a ha => absurd ha (Nat.not_lt_zero _)⟩, ⟨pw_all_up q4 q1 tf, rfl, congrArg nI he.1.symm, he.2, pw_all_fit hb.2.2.2.2⟩, Or.inl ⟨rfl, rfl⟩⟩
theorem sp_nI {x : Int32} {j i : Nat} (hj : j < 2 ^ 31) (hi : i < 2 ^ 31) (h1 : x = nI j) (h2 : x = nI i) : j = i := (nI_eq hj hi).mp (h1.symm.trans h2)
theorem xI_at (h : xI kf vf w op ln tf nb ef ff mk mv mt fr sf fi mq ny mb mo n L lr) {x : Int32} {of uo : Nat → Int64} {r r2 u2 : Int32} (h1 : (r = 0 ∧ ∃ j, j < L ∧ x = nI j ∧ uo = vp_updL of 0 (nI (pb_ub tf j)).toInt64) ∨ (r = 1 ∧ sp_in x L = false ∧ uo = of)) (h2 : (u2 = 0 ∧ ∃ j, j < L ∧ x = nI j ∧ r2 = nI (pb_ub mt j)) ∨ (u2 = 1 ∧ sp_in x L = false)) : u2 = r ∧ (r = 0 → uo 0 = r2.toInt64) := by
  have hL := h.2.1.1
  rcases h1 with ⟨rfl, j, c1, c2, rfl⟩ | ⟨rfl, c1, rfl⟩
  · rcases h2 with ⟨rfl, i, d1, d2, rfl⟩ | ⟨rfl, d1⟩
    · have e := sp_nI (by omega) (by omega) c2 d2
      subst e
      refine ⟨rfl, fun _ => ?_⟩
      rw [← h.2.1.2.2.2.1.ub c1]
      exact pk_uLs
    · rw [(sp_in_iff (by omega)).mpr ⟨j, c1, c2⟩] at d1; cases d1
  · rcases h2 with ⟨rfl, i, d1, d2, rfl⟩ | ⟨rfl, d1⟩
    · rw [(sp_in_iff (by omega)).mpr ⟨i, d1, d2⟩] at c1; cases c1
    · exact ⟨rfl, fun z => absurd z (by decide)⟩
theorem xI_damage (h : xI kf vf w op ln tf nb ef ff mk mv mt fr sf fi mq ny mb mo n L lr) {x v : Int32} {of : Nat → Int64} {r r2 : Int32} {u : Int32 × (Nat → Int32) × (Nat → Int64)} {u2 : Int32 × Int32 × (Nat → Int32)}
    (h1 : (r = 0 ∧ ∃ j, j < L ∧ x = nI j ∧ u = (0, upd tf j v.toInt8.toInt32, vp_updL of 0 (nI (pb_ub tf j)).toInt64)) ∨ (r = 1 ∧ sp_in x L = false ∧ u = (op, tf, of))) (h2 : (u2.1 = 0 ∧ ∃ j, j < L ∧ x = nI j ∧ r2 = nI (pb_ub mt j) ∧ u2.2 = (0, upd mt j v.toInt8.toInt32)) ∨ (u2.1 = 1 ∧ sp_in x L = false ∧ u2.2 = (mo, mt))) :
    u2.1 = r ∧ (r = 0 → u.2.2 0 = r2.toInt64) ∧ xI kf vf w u.1 ln u.2.1 nb ef ff mk mv u2.2.2 fr sf fi mq ny mb u2.2.1 n L lr := by
  have hL := h.2.1.1
  obtain ⟨a1, a2, a3⟩ := u
  obtain ⟨b1, b2, b3⟩ := u2
  rcases h1 with ⟨rfl, j, c1, c2, c3⟩ | ⟨rfl, c1, c3⟩
  · cases c3
    rcases h2 with ⟨d0, i, d1, d2, d3, d4⟩ | ⟨d0, d1, d4⟩
    · cases d4
      have e := sp_nI (by omega) (by omega) c2 d2
      subst e
      obtain ⟨hq, ⟨p1, p2, p3, p4, p5⟩, ho⟩ := h
      refine ⟨d0, fun _ => ?_, hq, ⟨p1, p2, p3, pz_dmg p4, p5.upd (by simp)⟩, Or.inl ⟨rfl, rfl⟩⟩
      rw [d3, ← p4.ub c1]
      show vp_updL of 0 _ 0 = _
      exact pk_uLs
    · rw [(sp_in_iff (by omega)).mpr ⟨j, c1, c2⟩] at d1; cases d1
  · cases c3
    rcases h2 with ⟨d0, i, d1, d2, d3, d4⟩ | ⟨d0, d1, d4⟩
    · rw [(sp_in_iff (by omega)).mpr ⟨i, d1, d2⟩] at c1; cases c1
    · cases d4
      exact ⟨d0, fun z => absurd z (by decide), h⟩
theorem xI_cut (h : xI kf vf w op ln tf nb ef ff mk mv mt fr sf fi mq ny mb mo n L lr) {x r : Int32} {u : Int32 × Int32} {u2 : Int32 × Int32 × Int32} (h1 : (r = 0 ∧ sp_in x (L + 1) = true ∧ u = (x, 0)) ∨ (r = 1 ∧ sp_in x (L + 1) = false ∧ u = (nI L, op))) (h2 : (u2.1 = 0 ∧ sp_in x (L + 1) = true ∧ u2.2 = (x, 0)) ∨ (u2.1 = 1 ∧ sp_in x (L + 1) = false ∧ u2.2 = (nI L, mo))) :
    u2.1 = r ∧ ∃ L', xI kf vf w u.2 u.1 tf nb ef ff mk mv mt fr sf fi mq u2.2.1 mb u2.2.2 n L' lr := by
  have hL := h.2.1.1
  obtain ⟨a1, a2⟩ := u
  obtain ⟨b1, b2, b3⟩ := u2
  rcases h1 with ⟨rfl, c1, c3⟩ | ⟨rfl, c1, c3⟩
  · cases c3
    rcases h2 with ⟨d0, d1, d4⟩ | ⟨d0, d1, d4⟩
    · cases d4
      obtain ⟨j, hj, hxj⟩ := (sp_in_iff (by omega)).mp c1
      obtain ⟨hq, ⟨p1, p2, p3, p4, p5⟩, ho⟩ := h
      exact ⟨d0, j, hq, ⟨by omega, hxj, hxj, p4.cut (by omega), p5⟩, Or.inl ⟨rfl, rfl⟩⟩
    · rw [c1] at d1; cases d1
  · cases c3
    rcases h2 with ⟨d0, d1, d4⟩ | ⟨d0, d1, d4⟩
    · rw [c1] at d1; cases d1
    · cases d4
      obtain ⟨hq, ⟨p1, p2, p3, p4, p5⟩, ho⟩ := h
      exact ⟨d0, L, hq, ⟨p1, rfl, rfl, p4, p5⟩, ho⟩
theorem xI_opn (h : xI kf vf w op ln tf nb ef ff mk mv mt fr sf fi mq ny mb mo n L lr) {of : Nat → Int64} {r r2 : Int32} {u : (Int32 × Int32 × Int32 × Int32 × (Nat → Int32) × (Nat → Int32)) × Int32 × (Nat → Int64)} {u2 : (Int32 × Int32) × (Nat → Int32) × (Nat → Int32) × (Nat → Int32) × Int32 × Int32 × Int32 × Int32}
    (h1 : (r = 0 ∧ ∃ l9, px_open tf L = some l9 ∧ u.1.1 = nI l9.length ∧ l9.length ≤ 2444 ∧ px_rows 0 0 l9 u.1.2.2.2.2.1 u.1.2.2.2.2.2 ∧ u.2 = (1, vp_updL of 0 (nI l9.length).toInt64)) ∨ (r = 1 ∧ px_open tf L = none ∧ u.2 = (0, of)))
    (h2 : (∃ l9, px_open mt L = some l9 ∧ u2.1 = (0, 1) ∧ r2 = nI l9.length ∧ u2.2.2.2.2.1 = nI l9.length ∧ pm_rows 0 0 l9 u2.2.1 u2.2.2.1 u2.2.2.2.1) ∨ (px_open mt L = none ∧ u2.1 = (1, 0))) :
    u2.1.1 = r ∧ (r = 0 → u.2.2 0 = r2.toInt64) ∧ ∃ lr', xI kf vf w u.2.1 ln tf u.1.1 u.1.2.2.2.2.1 u.1.2.2.2.2.2 mk mv mt u2.2.1 u2.2.2.1 u2.2.2.2.1 mq ny u2.2.2.2.2.1 u2.1.2 n L lr' := by
  obtain ⟨hq, ⟨p1, p2, p3, p4, p5⟩, ho⟩ := h
  rw [← p4.opn] at h2
  rcases h1 with ⟨rfl, l1, c1, c2, c3, c4, c5⟩ | ⟨rfl, c1, c5⟩
  · rcases h2 with ⟨l2, d1, d2, d3, d4, d5⟩ | ⟨d1, d2⟩
    · rw [c1] at d1
      cases d1
      rw [c5, d2]
      refine ⟨rfl, fun _ => ?_, l1, hq, ⟨p1, p2, p3, p4, p5⟩, Or.inr ⟨rfl, rfl, px_open_sum c1, c2, d4, c3, c4, d5⟩⟩
      rw [d3]; show vp_updL of 0 _ 0 = _; exact pk_uLs
    · rw [c1] at d1; cases d1
  · rcases h2 with ⟨l2, d1, d2, d3, d4, d5⟩ | ⟨d1, d2⟩
    · rw [c1] at d1; cases d1
    · rw [c5, d2]
      exact ⟨rfl, fun z => absurd z (by decide), lr, hq, ⟨p1, p2, p3, p4, p5⟩, Or.inl ⟨rfl, rfl⟩⟩
/-- the three reading calls -/
theorem xI_get (h : xI kf vf w op ln tf nb ef ff mk mv mt fr sf fi mq ny mb mo n L lr) {key : Int32} {of uo : Nat → Int64} {r u2 : Int32} {r2 : Int64}
    (h1 : (r = 0 ∧ ¬ op = 0 ∧ ∃ j lb v, px_last (px_kf lr) key lr.length = some j ∧ pe_of tf lr j = some lb ∧ sp_find lb key = some v ∧ uo = vp_updL of 0 v) ∨ (r = 1 ∧ op = 0 ∧ uo = of) ∨ (r = 3 ∧ ¬ op = 0 ∧ px_last (px_kf lr) key lr.length = none ∧ uo = of) ∨ (r = 2 ∧ ¬ op = 0 ∧ (∃ j, px_last (px_kf lr) key lr.length = some j ∧ pe_of tf lr j = none) ∧ uo = of) ∨ (r = 3 ∧ ¬ op = 0 ∧ (∃ j lb, px_last (px_kf lr) key lr.length = some j ∧ pe_of tf lr j = some lb ∧ sp_find lb key = none) ∧ uo = of))
    (h2 : (u2 = 1 ∧ mo = 0) ∨ (u2 = 3 ∧ ¬ mo = 0 ∧ px_last (px_kf lr) key lr.length = none) ∨ (u2 = 2 ∧ ¬ mo = 0 ∧ ∃ j, px_last (px_kf lr) key lr.length = some j ∧ pe_of mt lr j = none) ∨ (u2 = 3 ∧ ¬ mo = 0 ∧ ∃ j lb, px_last (px_kf lr) key lr.length = some j ∧ pe_of mt lr j = some lb ∧ sp_find lb key = none) ∨ (u2 = 0 ∧ ¬ mo = 0 ∧ ∃ j lb, px_last (px_kf lr) key lr.length = some j ∧ pe_of mt lr j = some lb ∧ sp_find lb key = some r2)) :
    u2 = r ∧ (r = 0 → uo 0 = r2) := by
  obtain ⟨-, -, k3, k4⟩ := xI_open h
  have he := h.2.1.2.2.2.1
  rw [← k3] at h2
  by_cases hop : op = 0
  · rcases h1 with ⟨rfl, c1, c2⟩ | ⟨rfl, c1, rfl⟩ | ⟨rfl, c1, c2⟩ | ⟨rfl, c1, c2⟩ | ⟨rfl, c1, c2⟩
    · exact absurd hop c1
    · rcases h2 with ⟨rfl, d1⟩ | ⟨rfl, d1, d2⟩ | ⟨rfl, d1, d2⟩ | ⟨rfl, d1, d2⟩ | ⟨rfl, d1, d2⟩
      · exact ⟨rfl, fun z => absurd z (by decide)⟩
      all_goals exact absurd hop d1
    all_goals exact absurd hop c1
  · have hof : ∀ j, pe_of mt lr j = pe_of tf lr j := fun j => (he.of (k4 hop)).symm
    simp only [hof] at h2
    rcases h1 with ⟨rfl, -, j, lb, v, c2, c3, c4, rfl⟩ | ⟨rfl, c1, c2⟩ | ⟨rfl, -, c2, rfl⟩ | ⟨rfl, -, ⟨j, c2, c3⟩, rfl⟩ | ⟨rfl, -, ⟨j, lb, c2, c3, c4⟩, rfl⟩
    · rcases h2 with ⟨rfl, d1⟩ | ⟨rfl, -, d2⟩ | ⟨rfl, -, i, d2, d3⟩ | ⟨rfl, -, i, lc, d2, d3, d4⟩ | ⟨rfl, -, i, lc, d2, d3, d4⟩
      · exact absurd d1 hop
      · rw [c2] at d2; cases d2
      · rw [c2] at d2; cases d2; rw [c3] at d3; cases d3
      · rw [c2] at d2; cases d2; rw [c3] at d3; cases d3; rw [c4] at d4; cases d4
      · rw [c2] at d2; cases d2; rw [c3] at d3; cases d3; rw [c4] at d4; cases d4
        exact ⟨rfl, fun _ => pk_uLs⟩
    · exact absurd c1 hop
    · rcases h2 with ⟨rfl, d1⟩ | ⟨rfl, -, d2⟩ | ⟨rfl, -, i, d2, d3⟩ | ⟨rfl, -, i, lc, d2, d3, d4⟩ | ⟨rfl, -, i, lc, d2, d3, d4⟩
      · exact absurd d1 hop
      · exact ⟨rfl, fun z => absurd z (by decide)⟩
      all_goals (rw [c2] at d2; cases d2)
    · rcases h2 with ⟨rfl, d1⟩ | ⟨rfl, -, d2⟩ | ⟨rfl, -, i, d2, d3⟩ | ⟨rfl, -, i, lc, d2, d3, d4⟩ | ⟨rfl, -, i, lc, d2, d3, d4⟩
      · exact absurd d1 hop
      · rw [c2] at d2; cases d2
      · exact ⟨rfl, fun z => absurd z (by decide)⟩
      all_goals (rw [c2] at d2; cases d2; rw [c3] at d3; cases d3)
    · rcases h2 with ⟨rfl, d1⟩ | ⟨rfl, -, d2⟩ | ⟨rfl, -, i, d2, d3⟩ | ⟨rfl, -, i, lc, d2, d3, d4⟩ | ⟨rfl, -, i, lc, d2, d3, d4⟩
      · exact absurd d1 hop
      · rw [c2] at d2; cases d2
      · rw [c2] at d2; cases d2; rw [c3] at d3; cases d3
      · exact ⟨rfl, fun z => absurd z (by decide)⟩
      · rw [c2] at d2; cases d2; rw [c3] at d3; cases d3; rw [c4] at d4; cases d4
theorem xI_entries (h : xI kf vf w op ln tf nb ef ff mk mv mt fr sf fi mq ny mb mo n L lr) {x : Int32} {of uo : Nat → Int64} {r u2 r2 : Int32}
    (h1 : (r = 0 ∧ ¬ op = 0 ∧ ∃ j lb, (j < lr.length ∧ x = nI j) ∧ pe_of tf lr j = some lb ∧ uo = vp_updL of 0 (nI lb.length).toInt64) ∨ (r = 1 ∧ op = 0 ∧ uo = of) ∨ (r = 2 ∧ ¬ op = 0 ∧ sp_in x lr.length = false ∧ uo = of) ∨ (r = 3 ∧ ¬ op = 0 ∧ (∃ j, (j < lr.length ∧ x = nI j) ∧ pe_of tf lr j = none) ∧ uo = of))
    (h2 : (u2 = 1 ∧ mo = 0) ∨ (u2 = 2 ∧ ¬ mo = 0 ∧ sp_in x lr.length = false) ∨ (u2 = 3 ∧ ¬ mo = 0 ∧ ∃ j, (j < lr.length ∧ x = nI j) ∧ pe_of mt lr j = none) ∨ (u2 = 0 ∧ ¬ mo = 0 ∧ ∃ j lb, (j < lr.length ∧ x = nI j) ∧ pe_of mt lr j = some lb ∧ r2 = nI lb.length)) :
    u2 = r ∧ (r = 0 → uo 0 = r2.toInt64) := by
  obtain ⟨k1, -, k3, k4⟩ := xI_open h
  have he := h.2.1.2.2.2.1
  rw [← k3] at h2
  by_cases hop : op = 0
  · rcases h1 with ⟨rfl, c1, c2⟩ | ⟨rfl, c1, rfl⟩ | ⟨rfl, c1, c2⟩ | ⟨rfl, c1, c2⟩
    · exact absurd hop c1
    · rcases h2 with ⟨rfl, d1⟩ | ⟨rfl, d1, d2⟩ | ⟨rfl, d1, d2⟩ | ⟨rfl, d1, d2⟩
      · exact ⟨rfl, fun z => absurd z (by decide)⟩
      all_goals exact absurd hop d1
    all_goals exact absurd hop c1
  · have hof : ∀ j, pe_of mt lr j = pe_of tf lr j := fun j => (he.of (k4 hop)).symm
    have hlen := (k1 hop).2.1
    simp only [hof] at h2
    rcases h1 with ⟨rfl, -, j, lb, ⟨c1, c2⟩, c3, rfl⟩ | ⟨rfl, c1, c2⟩ | ⟨rfl, -, c2, rfl⟩ | ⟨rfl, -, ⟨j, ⟨c1, c2⟩, c3⟩, rfl⟩
    · rcases h2 with ⟨rfl, d1⟩ | ⟨rfl, -, d2⟩ | ⟨rfl, -, i, ⟨d1, d2⟩, d3⟩ | ⟨rfl, -, i, lc, ⟨d1, d2⟩, d3, rfl⟩
      · exact absurd d1 hop
      · rw [(sp_in_iff (by omega)).mpr ⟨j, c1, c2⟩] at d2; cases d2
      · have e := sp_nI (by omega) (by omega) c2 d2; subst e; rw [c3] at d3; cases d3
      · have e := sp_nI (by omega) (by omega) c2 d2; subst e; rw [c3] at d3; cases d3
        exact ⟨rfl, fun _ => pk_uLs⟩
    · exact absurd c1 hop
    · rcases h2 with ⟨rfl, d1⟩ | ⟨rfl, -, d2⟩ | ⟨rfl, -, i, ⟨d1, d2⟩, d3⟩ | ⟨rfl, -, i, lc, ⟨d1, d2⟩, d3, rfl⟩
      · exact absurd d1 hop
      · exact ⟨rfl, fun z => absurd z (by decide)⟩
      all_goals (rw [(sp_in_iff (by omega)).mpr ⟨i, d1, d2⟩] at c2; cases c2)
    · rcases h2 with ⟨rfl, d1⟩ | ⟨rfl, -, d2⟩ | ⟨rfl, -, i, ⟨d1, d2⟩, d3⟩ | ⟨rfl, -, i, lc, ⟨d1, d2⟩, d3, rfl⟩
      · exact absurd d1 hop
      · rw [(sp_in_iff (by omega)).mpr ⟨j, c1, c2⟩] at d2; cases d2
      · exact ⟨rfl, fun z => absurd z (by decide)⟩
      · have e := sp_nI (by omega) (by omega) c2 d2; subst e; rw [c3] at d3; cases d3
theorem xI_key (h : xI kf vf w op ln tf nb ef ff mk mv mt fr sf fi mq ny mb mo n L lr) {x y : Int32} {of uo : Nat → Int64} {r u2 r2 : Int32}
    (h1 : (r = 0 ∧ ¬ op = 0 ∧ ∃ j lb i, (j < lr.length ∧ x = nI j) ∧ pe_of tf lr j = some lb ∧ i < lb.length ∧ y = nI i ∧ uo = vp_updL of 0 ((lb.getD i (0, 0)).1).toInt64) ∨ (r = 1 ∧ op = 0 ∧ uo = of) ∨ (r = 2 ∧ ¬ op = 0 ∧ sp_in x lr.length = false ∧ uo = of) ∨ (r = 3 ∧ ¬ op = 0 ∧ (∃ j, (j < lr.length ∧ x = nI j) ∧ pe_of tf lr j = none) ∧ uo = of) ∨ (r = 2 ∧ ¬ op = 0 ∧ (∃ j lb, (j < lr.length ∧ x = nI j) ∧ pe_of tf lr j = some lb ∧ sp_in y lb.length = false) ∧ uo = of))
    (h2 : (u2 = 1 ∧ mo = 0) ∨ (u2 = 2 ∧ ¬ mo = 0 ∧ sp_in x lr.length = false) ∨ (u2 = 3 ∧ ¬ mo = 0 ∧ ∃ j, (j < lr.length ∧ x = nI j) ∧ pe_of mt lr j = none) ∨ (u2 = 2 ∧ ¬ mo = 0 ∧ ∃ j lb, (j < lr.length ∧ x = nI j) ∧ pe_of mt lr j = some lb ∧ sp_in y lb.length = false) ∨ (u2 = 0 ∧ ¬ mo = 0 ∧ ∃ j lb i, (j < lr.length ∧ x = nI j) ∧ pe_of mt lr j = some lb ∧ i < lb.length ∧ y = nI i ∧ r2 = (lb.getD i (0, 0)).1)) (hb9 : ¬ op = 0 → ∀ j lb, j < lr.length → pe_of tf lr j = some lb → lb.length < 2 ^ 31) :
    u2 = r ∧ (r = 0 → uo 0 = r2.toInt64) := by
  obtain ⟨k1, -, k3, k4⟩ := xI_open h
  have he := h.2.1.2.2.2.1
  rw [← k3] at h2
  by_cases hop : op = 0
  · rcases h1 with ⟨rfl, c1, c2⟩ | ⟨rfl, c1, rfl⟩ | ⟨rfl, c1, c2⟩ | ⟨rfl, c1, c2⟩ | ⟨rfl, c1, c2⟩
    · exact absurd hop c1
    · rcases h2 with ⟨rfl, d1⟩ | ⟨rfl, d1, d2⟩ | ⟨rfl, d1, d2⟩ | ⟨rfl, d1, d2⟩ | ⟨rfl, d1, d2⟩
      · exact ⟨rfl, fun z => absurd z (by decide)⟩
      all_goals exact absurd hop d1
    all_goals exact absurd hop c1
  · have hof : ∀ j, pe_of mt lr j = pe_of tf lr j := fun j => (he.of (k4 hop)).symm
    have hlen := (k1 hop).2.1
    simp only [hof] at h2
    rcases h1 with ⟨rfl, -, j, lb, i, ⟨c1, c2⟩, c3, c4, c5, rfl⟩ | ⟨rfl, c1, c2⟩ | ⟨rfl, -, c2, rfl⟩ | ⟨rfl, -, ⟨j, ⟨c1, c2⟩, c3⟩, rfl⟩ | ⟨rfl, -, ⟨j, lb, ⟨c1, c2⟩, c3, c4⟩, rfl⟩
    · have hbl := hb9 hop j lb c1 c3
      rcases h2 with ⟨rfl, d1⟩ | ⟨rfl, -, d2⟩ | ⟨rfl, -, i2, ⟨d1, d2⟩, d3⟩ | ⟨rfl, -, i2, lc, ⟨d1, d2⟩, d3, d4⟩ | ⟨rfl, -, i2, lc, a2, ⟨d1, d2⟩, d3, d4, d5, rfl⟩
      · exact absurd d1 hop
      · rw [(sp_in_iff (by omega)).mpr ⟨j, c1, c2⟩] at d2; cases d2
      · have e := sp_nI (by omega) (by omega) c2 d2; subst e; rw [c3] at d3; cases d3
      · have e := sp_nI (by omega) (by omega) c2 d2; subst e; rw [c3] at d3; cases d3
        rw [(sp_in_iff hbl).mpr ⟨i, c4, c5⟩] at d4; cases d4
      · have e := sp_nI (by omega) (by omega) c2 d2; subst e; rw [c3] at d3; cases d3
        have e2 := sp_nI (by omega) (by omega) c5 d5; subst e2
        exact ⟨rfl, fun _ => pk_uLs⟩
    · exact absurd c1 hop
    · rcases h2 with ⟨rfl, d1⟩ | ⟨rfl, -, d2⟩ | ⟨rfl, -, i2, ⟨d1, d2⟩, d3⟩ | ⟨rfl, -, i2, lc, ⟨d1, d2⟩, d3, d4⟩ | ⟨rfl, -, i2, lc, a2, ⟨d1, d2⟩, d3, d4, d5, rfl⟩
      · exact absurd d1 hop
      · exact ⟨rfl, fun z => absurd z (by decide)⟩
      · rw [(sp_in_iff (by omega)).mpr ⟨i2, d1, d2⟩] at c2; cases c2
      · exact ⟨rfl, fun z => absurd z (by decide)⟩
      · rw [(sp_in_iff (by omega)).mpr ⟨i2, d1, d2⟩] at c2; cases c2
    · rcases h2 with ⟨rfl, d1⟩ | ⟨rfl, -, d2⟩ | ⟨rfl, -, i2, ⟨d1, d2⟩, d3⟩ | ⟨rfl, -, i2, lc, ⟨d1, d2⟩, d3, d4⟩ | ⟨rfl, -, i2, lc, a2, ⟨d1, d2⟩, d3, d4, d5, rfl⟩
      · exact absurd d1 hop
      · rw [(sp_in_iff (by omega)).mpr ⟨j, c1, c2⟩] at d2; cases d2
      · exact ⟨rfl, fun z => absurd z (by decide)⟩
      all_goals (have e := sp_nI (by omega) (by omega) c2 d2; subst e; rw [c3] at d3; cases d3)
    · have hbl := hb9 hop j lb c1 c3
      rcases h2 with ⟨rfl, d1⟩ | ⟨rfl, -, d2⟩ | ⟨rfl, -, i2, ⟨d1, d2⟩, d3⟩ | ⟨rfl, -, i2, lc, ⟨d1, d2⟩, d3, d4⟩ | ⟨rfl, -, i2, lc, a2, ⟨d1, d2⟩, d3, d4, d5, rfl⟩
      · exact absurd d1 hop
      · exact ⟨rfl, fun z => absurd z (by decide)⟩
      · have e := sp_nI (by omega) (by omega) c2 d2; subst e; rw [c3] at d3; cases d3
      · exact ⟨rfl, fun z => absurd z (by decide)⟩
      · have e := sp_nI (by omega) (by omega) c2 d2; subst e; rw [c3] at d3; cases d3
        rw [(sp_in_iff hbl).mpr ⟨a2, d4, d5⟩] at c4; cases c4
end XI
