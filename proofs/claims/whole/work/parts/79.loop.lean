/-! the law's loop (rows by wip/whole/wlaw3.py) -/
set_option maxHeartbeats 4000000 in
set_option maxRecDepth 100000 in
theorem lw_loop {p : Program} {l : Launch} {e : Env} {s : State} {m : MethodId} {below : List Frame} {meth : Method} {c : Code} {dC : Nat → ClassId} {dI : Nat → Nat → Nat} {ca cm : Nat → ClassId} {ad am : Nat → Nat} {oa : Nat} {oc : ClassId} {b Ls : Nat} {xs : Nat → Int32} (hx : p.tables.exec = Jvm.exec) (hb : c.code = code) (hml : c.maxLocals = 8) (hown : s.vm.findClass RL = some m.cls) (hts : ∀ w ∈ wsL0, w.before #[.ref b] s = true) (hX : va_X b Ls xs s s.heap) (hbl : b < s.heap.size) (hE : xn_E (fun q => s.heap.size ≤ q) s) (hnt : l.stackTraces = false) (hKx : va_K (dC, dI) vwCl (xt ca) s) (hKm : va_K (dC, dI) vwCl (xt cm) s) (hKo : va_K (dC, dI) vwCl [(oc, .long)] s) (hr : meth.sig.returnType = ret) (hlocks : meth.locks = false) (hLs : Ls ≤ 2048) : ∀ (k i9 cells slots : Nat) (H : Heap) (locs : List Loc) (ls : Array Slot), Ls < 4 * (i9 + k) + 4 → 4 * i9 ≤ Ls → cells + k ≤ 1055 → slots + 6 * k ≤ 55310 → xST (dC, dI) (fun q => s.heap.size ≤ q) ad ca am cm oa oc H → va_S (fun q => s.heap.size ≤ q) s.heap H locs → lv_has ls 8 [(4, .int (nI (4 * i9))), (0, .ref b), (1, .ref (ad 0)), (2, .ref (am 0)), (3, .ref oa)] → W p l e room_1 s m #[Value.ref b] below meth c H locs cells slots (lw_Z below #[Value.ref b] s) (F0 m 23 ls []) := by
  intro k
  induction k with
  | zero =>
    intro i9 cells slots H locs ls hk hi0 hcc hss hst hS hl
    have h4 : ¬ 4 * i9 + 4 ≤ Ls := by omega
    have hi9 : 4 * i9 < 2 ^ 31 ∨ True := Or.inr trivial
    have hib : 4 * i9 ≤ Ls ∨ Ls < 4 * i9 := by omega
    have hbA : ¬ (fun q => s.heap.size ≤ q) b := Nat.not_le.mpr hbl
    refine lv_iload hx hb dL_law_23 (lv_at hl 0 rfl) ?_
    refine lv_aload_n hx hb dL_law_25 rfl (lv_at hl 1 rfl) ?_
    refine va_slen hx hb hX hbl hbA hS dL_law_26 ?_
    refine lv_iconst (v := nI 4) hx hb dL_law_27 (by decide) ?_
    refine lv_isub hx hb dL_law_28 ?_
    have hlt : nI Ls - nI 4 < nI (4 * i9) := by
      by_cases h9 : 4 ≤ Ls
      · rw [pk_sub h9]; exact nI_lt (by omega) (by omega)
      · have h1 := pk_sneg (a := Ls) (b := 4) (by decide) (by omega)
        have h2 := nI_pos (n := 4 * i9) (by omega)
        rw [Int32.lt_iff_toInt_lt] at h1 h2 ⊢; omega
    refine lv_icmp_gt (tgt := 607) hx hb dL_law_29 rfl (fun hc => ?_) (fun hc => absurd hc (not_not_intro hlt))
    refine lv_iconst (v := 1) hx hb dL_law_607 (by decide) ?_
    refine va_forget (fun q hq => hS.2.2 q hq) ?_
    refine W.widen (k := 1055) (n := 55310) (by omega) (by omega) ?_
    exact lw_ret hx hb hr hlocks dL_law_608
  | succ k ih =>
    intro i9 cells slots H locs ls hk hi0 hcc hss hst hS hl
    have hbA : ¬ (fun q => s.heap.size ≤ q) b := Nat.not_le.mpr hbl
    refine lv_iload hx hb dL_law_23 (lv_at hl 0 rfl) ?_
    refine lv_aload_n hx hb dL_law_25 rfl (lv_at hl 1 rfl) ?_
    refine va_slen hx hb hX hbl hbA hS dL_law_26 ?_
    refine lv_iconst (v := nI 4) hx hb dL_law_27 (by decide) ?_
    refine lv_isub hx hb dL_law_28 ?_
    by_cases h4 : 4 * i9 + 4 ≤ Ls
    · refine lv_icmp_gt (tgt := 607) hx hb dL_law_29 rfl (fun hc => absurd hc (by show ¬ nI Ls - nI 4 < nI (4 * i9); rw [pk_sub (by omega), nI_ltI (by omega) (by omega)]; omega)) (fun hc => ?_)
      refine lv_aload_n hx hb dL_law_32 rfl (lv_at hl 1 rfl) ?_
      refine lv_iload hx hb dL_law_33 (lv_at hl 0 rfl) ?_
      refine va_sld hx hb hX hbl hbA hS (vp_in_nI (by omega) (by omega)) dL_law_35 ?_
      refine lv_topi (fun z1 ez1 => ?_)
      have ez1 : z1 = xs (4 * i9) := ez1.trans (congrArg xs (nI_clamp (by omega)))
      subst ez1
      refine lv_bipush (v := nI 15) hx hb dL_law_36 (by decide) ?_
      refine lv_iand hx hb dL_law_38 ?_
      refine lv_topi (fun z2 ez2 => ?_)
      have ez2 : z2 = nI ((xs (4 * i9)).toBitVec.toNat % 16) := ez2.trans (pk_and (xs (4 * i9)) 4 (by decide))
      subst ez2
      obtain ⟨j, hj⟩ : ∃ j, j = (xs (4 * i9)).toBitVec.toNat % 16 := ⟨_, rfl⟩
      have hj16 : j < 16 := by omega
      rw [← hj]
      have kk : (∀ (H : Heap) (locs : List Loc) (ls : Array Slot), xST (dC, dI) (fun q => s.heap.size ≤ q) ad ca am cm oa oc H → va_S (fun q => s.heap.size ≤ q) s.heap H locs → lv_has ls 8 [(4, .int (nI (4 * i9))), (0, .ref b), (1, .ref (ad 0)), (2, .ref (am 0)), (3, .ref oa)] → W p l e room_1 s m #[.ref b] below meth c H locs (cells + 1) (slots + 6) (lw_Z below #[Value.ref b] s) (F0 m 601 ls [])) := by
        intro H locs ls hst hS hl
        refine lv_iinc (k := 0) (v := nI (4 * (i9 + 1))) hx hb dL_law_601 hl rfl (nI_add (4 * i9) 4) (by decide) rfl (fun ls hl => ?_)
        have hl : lv_has ls 8 [(4, .int (nI (4 * (i9 + 1)))), (0, .ref b), (1, .ref (ad 0)), (2, .ref (am 0)), (3, .ref oa)] := hl
        refine lv_goto (tgt := 23) hx hb dL_law_604 rfl ?_
        exact ih (i9 + 1) (cells + 1) (slots + 6) H locs ls (by omega) (by omega) (by omega) (by omega) hst hS (lv_sub hl [0, 1, 2, 3, 4] rfl)
      have hst0 := hst
      obtain ⟨kf, vf, bf, w, op, ln, nx, en, ok, tf, nb, ef, ff, fi, ek, ev, mk, mv, mt, fr, sf, gi, bk, bv, mq, ny, mb, mn, ai, me, th, mo, wr, of, n, Lb, lr, hI, hP, hD⟩ := hst
      rcases (show j = 0 ∨ j = 1 ∨ j = 2 ∨ j = 3 ∨ j = 4 ∨ j = 5 ∨ j = 6 ∨ j = 7 ∨ j = 8 ∨ j = 9 ∨ 10 ≤ j by omega) with rfl | rfl | rfl | rfl | rfl | rfl | rfl | rfl | rfl | rfl | hj10
      · refine lv_tableIn (tgt := 92) (off := 53) hx hb dL_law_39 (by decide) (by decide) (by decide) rfl ?_
        exact cs_add hx hb hml hown hts hX hbl hE hnt hKx hKm hKo hI (by omega) hLs (show cells + 1 ≤ 1055 by omega) (show slots + 6 ≤ 55310 by omega) hP hD hS (lv_sub hl [0, 1, 2, 3, 4] rfl) kk
      · refine lv_tableIn (tgt := 192) (off := 153) hx hb dL_law_39 (by decide) (by decide) (by decide) rfl ?_
        exact cs_write hx hb hml hown hts hX hbl hE hnt hKx hKm hKo hI (by omega) hLs (show cells + 1 ≤ 1055 by omega) (show slots + 6 ≤ 55310 by omega) hP hD hS (lv_sub hl [0, 1, 2, 3, 4] rfl) kk
      · refine lv_tableIn (tgt := 205) (off := 166) hx hb dL_law_39 (by decide) (by decide) (by decide) rfl ?_
        exact cs_at hx hb hml hown hts hX hbl hE hnt hKx hKm hKo hI (by omega) hLs (show cells + 1 ≤ 1055 by omega) (show slots + 6 ≤ 55310 by omega) hP hD hS (lv_sub hl [0, 1, 2, 3, 4] rfl) kk
      · refine lv_tableIn (tgt := 261) (off := 222) hx hb dL_law_39 (by decide) (by decide) (by decide) rfl ?_
        exact cs_damage hx hb hml hown hts hX hbl hE hnt hKx hKm hKo hI (by omega) hLs (show cells + 1 ≤ 1055 by omega) (show slots + 6 ≤ 55310 by omega) hP hD hS (lv_sub hl [0, 1, 2, 3, 4] rfl) kk
      · refine lv_tableIn (tgt := 329) (off := 290) hx hb dL_law_39 (by decide) (by decide) (by decide) rfl ?_
        exact cs_cut hx hb hml hown hts hX hbl hE hnt hKx hKm hKo hI (by omega) hLs (show cells + 1 ≤ 1055 by omega) (show slots + 6 ≤ 55310 by omega) hP hD hS (lv_sub hl [0, 1, 2, 3, 4] rfl) kk
      · refine lv_tableIn (tgt := 365) (off := 326) hx hb dL_law_39 (by decide) (by decide) (by decide) rfl ?_
        exact cs_open hx hb hml hown hts hX hbl hE hnt hKx hKm hKo hI (by omega) hLs (show cells + 1 ≤ 1055 by omega) (show slots + 6 ≤ 55310 by omega) hP hD hS (lv_sub hl [0, 1, 2, 3, 4] rfl) kk
      · refine lv_tableIn (tgt := 409) (off := 370) hx hb dL_law_39 (by decide) (by decide) (by decide) rfl ?_
        exact cs_get hx hb hml hown hts hX hbl hE hnt hKx hKm hKo hI (by omega) hLs (show cells + 1 ≤ 1055 by omega) (show slots + 6 ≤ 55310 by omega) hP hD hS (lv_sub hl [0, 1, 2, 3, 4] rfl) kk
      · refine lv_tableIn (tgt := 464) (off := 425) hx hb dL_law_39 (by decide) (by decide) (by decide) rfl ?_
        exact cs_entries hx hb hml hown hts hX hbl hE hnt hKx hKm hKo hI (by omega) hLs (show cells + 1 ≤ 1055 by omega) (show slots + 6 ≤ 55310 by omega) hP hD hS (lv_sub hl [0, 1, 2, 3, 4] rfl) kk
      · refine lv_tableIn (tgt := 520) (off := 481) hx hb dL_law_39 (by decide) (by decide) (by decide) rfl ?_
        exact cs_key hx hb hml hown hts hX hbl hE hnt hKx hKm hKo hI (by omega) hLs (show cells + 1 ≤ 1055 by omega) (show slots + 6 ≤ 55310 by omega) hP hD hS (lv_sub hl [0, 1, 2, 3, 4] rfl) kk
      · refine lv_tableIn (tgt := 588) (off := 549) hx hb dL_law_39 (by decide) (by decide) (by decide) rfl ?_
        exact cs_size hx hb hml hown hts hX hbl hE hnt hKx hKm hKo hI (by omega) hLs (show cells + 1 ≤ 1055 by omega) (show slots + 6 ≤ 55310 by omega) hP hD hS (lv_sub hl [0, 1, 2, 3, 4] rfl) kk
      · have hji : (nI j).toInt = (j : Int) := nI_toInt (by omega)
        refine lv_tableOut (tgt := 601) hx hb dL_law_39 (Or.inr (by rw [hji]; omega)) rfl ?_
        refine W.widen (k := cells + 1) (n := slots + 6) (Nat.le_add_right _ _) (Nat.le_add_right _ _) ?_
        exact kk H locs ls hst0 hS (lv_sub hl [0, 1, 2, 3, 4] rfl)
    · have hlt : nI Ls - nI 4 < nI (4 * i9) := by
        by_cases h9 : 4 ≤ Ls
        · rw [pk_sub h9]; exact nI_lt (by omega) (by omega)
        · have h1 := pk_sneg (a := Ls) (b := 4) (by decide) (by omega)
          have h2 := nI_pos (n := 4 * i9) (by omega)
          rw [Int32.lt_iff_toInt_lt] at h1 h2 ⊢; omega
      refine lv_icmp_gt (tgt := 607) hx hb dL_law_29 rfl (fun hc => ?_) (fun hc => absurd hc (not_not_intro hlt))
      refine lv_iconst (v := 1) hx hb dL_law_607 (by decide) ?_
      refine va_forget (fun q hq => hS.2.2 q hq) ?_
      refine W.widen (k := 1055) (n := 55310) (by omega) (by omega) ?_
      exact lw_ret hx hb hr hlocks dL_law_608
