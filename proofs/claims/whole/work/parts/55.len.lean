/-! the lengths that write keeps to -/
theorem pw_len_128 {kf : Nat → Int32} {vf : Nat → Int64} {w : Nat} (h : pw_up kf w) (s : pw_P) (b : Nat) : pw_len kf vf w s b < 128 := by
  by_cases hb : 8 * b ≤ w
  · exact Nat.lt_of_le_of_lt (pw_len_up h s hb) (by decide)
  · have e : min 8 (w - 8 * b) = 0 := by omega
    show (pw_bl kf vf w (8 * b) (pw_bs kf vf w b s)).2 - (pw_bs kf vf w b s).2 < 128
    have e2 : (pw_bl kf vf w (8 * b) (pw_bs kf vf w b s)).2 = (pw_bs kf vf w b s).2 + 4 := by
      unfold pw_bl
      rw [e]
      exact Eq.refl _
    omega
theorem pw_all_up {kf : Nat → Int32} {vf : Nat → Int64} {w : Nat} (h : pw_up kf w) (hw : w ≤ 300) (f : Nat → Int32) : (pw_all kf vf w f).2 ≤ 4889 := by
  have h1 := pw_bs_up (vf := vf) h (f, 0) ((w + 7) / 8) (by omega)
  have h2 := pw_i_up (kf := kf) (ln := pw_len kf vf w (f, 0)) (pw_len_128 h (f, 0)) ((w + 7) / 8) (pw_n (pw_bs kf vf w ((w + 7) / 8) (f, 0)) (lN ((w + 7) / 8)))
  have h3 : pl_n 9 (lN ((w + 7) / 8)).toBitVec.toNat = 1 := by
    rw [pz_lN (by omega)]
    exact pl_n1 (by omega)
  have h4 : (pw_n (pw_bs kf vf w ((w + 7) / 8) (f, 0)) (lN ((w + 7) / 8))).2 = (pw_bs kf vf w ((w + 7) / 8) (f, 0)).2 + pl_n 9 (lN ((w + 7) / 8)).toBitVec.toNat := rfl
  show (pw_i kf (pw_len kf vf w (f, 0)) ((w + 7) / 8) (pw_n (pw_bs kf vf w ((w + 7) / 8) (f, 0)) (lN ((w + 7) / 8)))).2 + 4 + 4 ≤ 4889
  simp only at h1
  omega
