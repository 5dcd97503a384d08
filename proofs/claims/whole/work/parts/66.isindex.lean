/-! SortedRunModel: isIndex (rows by wip/whole/wmod3.py) -/
set_option maxHeartbeats 4000000 in
set_option maxRecDepth 100000 in
theorem lpX4_isIndex_ft {p : Program} {l : Launch} {e : Env} {s : State} {m : MethodId} {args : Array Value} {below : List Frame} {meth : Method} {c : Code} {Q : State → Prop} {A : Nat → Prop} {dC : Nat → ClassId} {dI : Nat → Nat → Nat} {ca : Nat → ClassId} {ad : Nat → Nat} (hx : p.tables.exec = Jvm.exec) (hb : c.code = cX4_isIndex) (hml : c.maxLocals = 14) (hown : s.vm.findClass RX4 = some m.cls) (hts : ∀ w ∈ wsX4_isIndex, w.before args s = true) (hK : va_K (dC, dI) vwCl (xt ca) s) (hA : ∀ q : Nat, s.heap.size ≤ q → A q) (hE : xn_E A s) {kf : Nat → Int32} {vf : Nat → Int64} {tf : Nat → Int32} {fr : Nat → Int32} {sf : Nat → Int32} {fi : Nat → Int32} {bk : Nat → Int32} {bv : Nat → Int64} {w : Int32} {nb : Int32} {mn : Int32} {ai : Int32} {en : Int32} {th : Int32} {op : Int32} {wr : Int32} {L : Nat} (hL : L ≤ 4889) (h8 : 8 ≤ L) : ∀ (k : Nat)  (H : Heap) (locs : List Loc) (ls : Array Slot), k ≤ 4 → lv_has ls 14 [(3, .int (nI k)), (1, .long (lN (pf_n tf (L - 4) (4 - k)))), (0, .ref (ad 0))] → va_P (dC, dI) vwCl (xm ad ca kf vf tf fr sf fi bk bv w (nI L) nb mn ai en th op wr) H → va_D A (xm ad ca kf vf tf fr sf fi bk bv w (nI L) nb mn ai en th op wr) → va_S A s.heap H locs → (∀ (H : Heap) (locs : List Loc) (ls : Array Slot), lv_has ls 14 [(1, .long (lN (pf_n tf (L - 4) 4))), (0, .ref (ad 0))] → va_P (dC, dI) vwCl (xm ad ca kf vf tf fr sf fi bk bv w (nI L) nb mn ai en th op wr) H → va_D A (xm ad ca kf vf tf fr sf fi bk bv w (nI L) nb mn ai en th op wr) → va_S A s.heap H locs → W p l e ({ frames := 2, cells := 0, slots := 0, locals := 50 } : Room) s m args below meth c H locs 0 0 Q (F0 m 47 ls [])) → W p l e ({ frames := 2, cells := 0, slots := 0, locals := 50 } : Room) s m args below meth c H locs 0 0 Q (F0 m 15 ls []) := by
  intro k
  induction k with
  | zero =>
    intro  H locs ls hk hl hP hD hS kk
    have hl : lv_has ls 14 [(3, .int (nI 0)), (1, .long (lN (pf_n tf (L - 4) (4 - 0)))), (0, .ref (ad 0))] := hl
    refine lv_iload_n hx hb dX4_isIndex_15 rfl (lv_at hl 0 rfl) ?_
    refine lv_if_le (tgt := 47) hx hb dX4_isIndex_16 rfl (fun hc => ?_) (fun hc => absurd hc (not_not_intro (by decide)))
    exact kk H locs ls (lv_sub hl [1, 2] rfl) hP hD hS
  | succ k ih =>
    intro  H locs ls hk hl hP hD hS kk
    have hl : lv_has ls 14 [(3, .int (nI (k + 1))), (1, .long (lN (pf_n tf (L - 4) (4 - (k + 1))))), (0, .ref (ad 0))] := hl
    refine lv_iload_n hx hb dX4_isIndex_15 rfl (lv_at hl 0 rfl) ?_
    refine lv_if_le (tgt := 47) hx hb dX4_isIndex_16 rfl (fun hc => absurd hc (by rw [show (0 : Int32) = nI 0 from rfl, nI_leI (by omega) (by decide)]; omega)) (fun hc => ?_)
    have hpl : pf_n tf (L - 4) (4 - (k + 1)) < 256 ^ 4 := Nat.lt_of_lt_of_le (pf_n_lt tf (L - 4) _) (Nat.pow_le_pow_right (by decide) (by omega))
    refine lv_lload_n hx hb dX4_isIndex_19 rfl (lv_at hl 1 rfl) ?_
    refine lv_bipush (v := nI 8) hx hb dX4_isIndex_20 (by decide) ?_
    refine lv_lshl (v := lN (pf_n tf (L - 4) (4 - (k + 1)) * 256)) hx hb dX4_isIndex_22 (wb_shl _ (k := 8) (by decide)) ?_
    refine lv_aload_n hx hb dX4_isIndex_23 rfl (lv_at hl 2 rfl) ?_
    refine va_get (D := (dC, dI)) (ci := 4) (v := .ref (ad 3)) (C := RX4) (T := TX4) (N := 17) (ref := "SortedRunModel") hx hb hts (xg_u mb_uws_X4) hown hK hP 0 rfl rfl 2 (by decide) (xg_w hts mb_fieldLink_RX4_17) (fun _ h9 => h9) rfl dX4_isIndex_24 ?_
    refine lv_aload_n hx hb dX4_isIndex_27 rfl (lv_at hl 2 rfl) ?_
    refine va_get (D := (dC, dI)) (ci := 4) (v := .int (nI L)) (C := RX4) (T := TX4) (N := 17) (ref := "SortedRunModel") hx hb hts (xg_u mb_uws_X4) hown hK hP 0 rfl rfl 9 (by decide) (xg_w hts mb_fieldLink_RX4_45) (fun _ h9 => h9) rfl dX4_isIndex_28 ?_
    refine lv_iload_n hx hb dX4_isIndex_31 rfl (lv_at hl 0 rfl) ?_
    refine lv_isub hx hb dX4_isIndex_32 ?_
    refine lv_topi (fun z1 ez1 => ?_)
    have ez1 : z1 = nI (L - (k + 1)) := ez1.trans (pk_sub (by omega))
    subst ez1
    refine va_bald hx hb hK hP 3 2 rfl rfl (vp_in_nI (by omega) (by decide)) dX4_isIndex_33 ?_
    refine lv_topi (fun z2 ez2 => ?_)
    have ez2 : z2 = tf (L - (k + 1)) := ez2.trans (congrArg tf (nI_clamp (by omega)))
    subst ez2
    refine lv_sipush (v := 255) hx hb dX4_isIndex_34 (by decide) ?_
    refine lv_iand hx hb dX4_isIndex_37 ?_
    refine lv_topi (fun z3 ez3 => ?_)
    have ez3 : z3 = nI (pb_ub tf (L - (k + 1))) := ez3.trans (pb_and tf _)
    subst ez3
    refine lv_i2l (v := lN (pb_ub tf (L - (k + 1)))) hx hb dX4_isIndex_38 (nI_l (Nat.lt_trans (pb_ub_lt tf _) (by decide))) ?_
    have e9 : pf_n tf (L - 4) (4 - (k + 1)) * 256 + pb_ub tf (L - (k + 1)) = pf_n tf (L - 4) (4 - k) := by
      rw [show 4 - k = 4 - (k + 1) + 1 by omega]
      show _ = pf_n tf (L - 4) (4 - (k + 1)) * 256 + pb_ub tf (L - 4 + (4 - (k + 1)))
      rw [show L - 4 + (4 - (k + 1)) = L - (k + 1) by omega]
    have hub := pb_ub_lt tf (L - (k + 1))
    refine lv_lor hx hb dX4_isIndex_39 ?_
    refine lv_topl (fun z4 ez4 => ?_)
    have ez4 : z4 = lN (pf_n tf (L - 4) (4 - k)) := ez4.trans ((g_or (k := 8) (p := 256) rfl hub (by omega)).trans (congrArg lN e9))
    subst ez4
    refine lv_lstore_n hx hb dX4_isIndex_40 rfl hl (by decide) rfl (fun ls hl => ?_)
    have hl : lv_has ls 14 [(1, .long (lN (pf_n tf (L - 4) (4 - k)))), (3, .int (nI (k + 1))), (0, .ref (ad 0))] := hl
    refine lv_iinc (k := 1) (v := nI k) hx hb dX4_isIndex_41 hl rfl (pk_m1 k) (by decide) rfl (fun ls hl => ?_)
    have hl : lv_has ls 14 [(3, .int (nI k)), (1, .long (lN (pf_n tf (L - 4) (4 - k)))), (0, .ref (ad 0))] := hl
    refine lv_goto (tgt := 15) hx hb dX4_isIndex_44 rfl ?_
    exact ih _ _ _ (by omega) hl hP hD hS kk

set_option maxHeartbeats 4000000 in
set_option maxRecDepth 100000 in
theorem lpX4_isIndex_ix {p : Program} {l : Launch} {e : Env} {s : State} {m : MethodId} {args : Array Value} {below : List Frame} {meth : Method} {c : Code} {Q : State → Prop} {A : Nat → Prop} {dC : Nat → ClassId} {dI : Nat → Nat → Nat} {ca : Nat → ClassId} {ad : Nat → Nat} (hx : p.tables.exec = Jvm.exec) (hb : c.code = cX4_isIndex) (hml : c.maxLocals = 14) (hown : s.vm.findClass RX4 = some m.cls) (hts : ∀ w ∈ wsX4_isIndex, w.before args s = true) (hK : va_K (dC, dI) vwCl (xt ca) s) (hA : ∀ q : Nat, s.heap.size ≤ q → A q) (hE : xn_E A s) {kf : Nat → Int32} {vf : Nat → Int64} {tf : Nat → Int32} {bk : Nat → Int32} {bv : Nat → Int64} {w : Int32} {ny : Int32} {mn : Int32} {th : Int32} {op : Int32} {e9 n a0 : Nat} (he9 : e9 ≤ 4889) (hn : n ≤ 4294967295) (hf : pb_fit tf) : ∀ (k : Nat) (b a S : Nat) (fr sf fi : Nat → Int32) (H : Heap) (locs : List Loc) (ls : Array Slot), b + k = n → 2 * b ≤ a → a ≤ e9 → S ≤ b * 4294967295 → lv_has ls 14 [(8, .long (lN b)), (4, .long (lN n)), (6, .long (lN S)), (0, .ref (ad 0)), (3, .int (nI a0))] → va_P (dC, dI) vwCl (xm ad ca kf vf tf fr sf fi bk bv w ny (nI b) mn (nI a) (nI e9) th op 0) H → va_D A (xm ad ca kf vf tf fr sf fi bk bv w ny (nI b) mn (nI a) (nI e9) th op 0) → va_S A s.heap H locs → (∀ l9 a2, px_rd tf e9 k a = some (l9, a2) → ∀ (gr sg gi : Nat → Int32), (∀ j, j < b → gr j = fr j ∧ sg j = sf j ∧ gi j = fi j) → pm_rows b S l9 gr sg gi → ∀ (H : Heap) (locs : List Loc) (ls : Array Slot), lv_has ls 14 [(6, .long (lN (S + px_sum l9))), (0, .ref (ad 0)), (3, .int (nI a0))] → va_P (dC, dI) vwCl (xm ad ca kf vf tf gr sg gi bk bv w ny (nI (b + l9.length)) mn (nI a2) (nI e9) th op 0) H → va_D A (xm ad ca kf vf tf gr sg gi bk bv w ny (nI (b + l9.length)) mn (nI a2) (nI e9) th op 0) → va_S A s.heap H locs → W p l e ({ frames := 2, cells := 0, slots := 0, locals := 50 } : Room) s m args below meth c H locs 0 0 Q (F0 m 261 ls [])) → (px_rd tf e9 k a = none → ∀ (gr sg gi : Nat → Int32) (x1 x2 : Int32) (x3 : Int64), ∀ (H : Heap) (locs : List Loc) (ls : Array Slot), lv_has ls 14 [(6, .long x3), (0, .ref (ad 0)), (3, .int (nI a0))] → va_P (dC, dI) vwCl (xm ad ca kf vf tf gr sg gi bk bv w ny x1 mn x2 (nI e9) th op 1) H → va_D A (xm ad ca kf vf tf gr sg gi bk bv w ny x1 mn x2 (nI e9) th op 1) → va_S A s.heap H locs → W p l e ({ frames := 2, cells := 0, slots := 0, locals := 50 } : Room) s m args below meth c H locs 0 0 Q (F0 m 261 ls [])) → W p l e ({ frames := 2, cells := 0, slots := 0, locals := 50 } : Room) s m args below meth c H locs 0 0 Q (F0 m 129 ls []) := by
  intro k
  induction k with
  | zero =>
    intro b a S fr sf fi H locs ls hbk h2b ha hS9 hl hP hD hS kg kb
    have hl : lv_has ls 14 [(8, .long (lN b)), (4, .long (lN n)), (6, .long (lN S)), (0, .ref (ad 0)), (3, .int (nI a0))] := hl
    obtain rfl : b = n := by omega
    refine lv_lload hx hb dX4_isIndex_129 (lv_at hl 0 rfl) ?_
    refine lv_lload hx hb dX4_isIndex_131 (lv_at hl 1 rfl) ?_
    refine W.lcmp hx hb dX4_isIndex_133 ?_
    refine lv_if_ge (tgt := 261) hx hb dX4_isIndex_134 rfl (fun hc => ?_) (fun hc => absurd hc (not_not_intro (lc_ge.mpr (Int64.le_refl _))))
    exact kg [] a rfl fr sf fi (fun j _ => ⟨rfl, rfl, rfl⟩) pm_rows_nil H locs ls (lv_sub hl [2, 3, 4] rfl) hP hD hS
  | succ k ih =>
    intro b a S fr sf fi H locs ls hbk h2b ha hS9 hl hP hD hS kg kb
    have hl : lv_has ls 14 [(8, .long (lN b)), (4, .long (lN n)), (6, .long (lN S)), (0, .ref (ad 0)), (3, .int (nI a0))] := hl
    refine lv_lload hx hb dX4_isIndex_129 (lv_at hl 0 rfl) ?_
    refine lv_lload hx hb dX4_isIndex_131 (lv_at hl 1 rfl) ?_
    refine W.lcmp hx hb dX4_isIndex_133 ?_
    refine lv_if_ge (tgt := 261) hx hb dX4_isIndex_134 rfl (fun hc => absurd hc (fun z => absurd ((pk_lLE (by omega) (by omega)).mp (lc_ge.mp z)) (by omega))) (fun hc => ?_)
    refine lv_aload_n hx hb dX4_isIndex_137 rfl (lv_at hl 3 rfl) ?_
    refine va_get (D := (dC, dI)) (ci := 4) (v := .int 0) (C := RX4) (T := TX4) (N := 17) (ref := "SortedRunModel") hx hb hts (xg_u mb_uws_X4) hown hK hP 0 rfl rfl 16 (by decide) (xg_w hts mb_fieldLink_RX4_84) (fun _ h9 => h9) rfl dX4_isIndex_138 ?_
    refine lv_if_ne (tgt := 261) hx hb dX4_isIndex_141 rfl (fun hc => absurd hc (not_not_intro rfl)) (fun hc => ?_)
    refine lv_aload_n hx hb dX4_isIndex_144 rfl (lv_at hl 3 rfl) ?_
    refine xk_l (va_runV (As := []) (rest := []) ⟨hx, hb, hml, hown, hts⟩ (cX4_small_m l dC dI ca ad kf vf tf fr sf fi bk bv w ny (nI b) mn th op 0 a e9 ha (by omega) hf _) (cwV 0 hts (xg_V mb_methodLink_RX4_99 mb_instanceMethod_yX4_small mb_selects_yX4_small mb_initialized_RX4 mb_code_yX4_small) rfl rfl rfl ⟨rfl, by decide, by decide, by decide +kernel⟩ ⟨Nat.le_of_ble_eq_true rfl, Nat.le_of_ble_eq_true rfl⟩) (xpreV (va_recv (q0 := 0) hK hP rfl rfl) hK hP hD hS hA hE) rfl rfl hl.1 rfl (lv_room (Nat.le_of_ble_eq_true rfl)) dX4_isIndex_145 ⟨Nat.le_of_ble_eq_true rfl, Nat.le_of_ble_eq_true rfl⟩) hD hS hA (fun r1 u H locs hu1 hP hD hS => ?_)
    have hP : va_P (dC, dI) vwCl (xm ad ca kf vf tf fr sf fi bk bv w ny (nI b) mn (nI u.1) (nI e9) th op u.2) H := hP
    have hD : va_D A (xm ad ca kf vf tf fr sf fi bk bv w ny (nI b) mn (nI u.1) (nI e9) th op u.2) := hD
    obtain ⟨a1, w1⟩ := u
    obtain ⟨g1, g2, hu1⟩ := hu1
    dsimp only at g1 g2 hu1 hP hD
    refine lv_lstore hx hb dX4_isIndex_148 hl (by decide) rfl (fun ls hl => ?_)
    have hl : lv_has ls 14 [(10, .long r1), (8, .long (lN b)), (4, .long (lN n)), (6, .long (lN S)), (0, .ref (ad 0)), (3, .int (nI a0))] := hl
    refine lv_aload_n hx hb dX4_isIndex_150 rfl (lv_at hl 4 rfl) ?_
    refine xk_l (va_runV (As := []) (rest := []) ⟨hx, hb, hml, hown, hts⟩ (cX4_small_m l dC dI ca ad kf vf tf fr sf fi bk bv w ny (nI b) mn th op w1 a1 e9 g2 (by omega) hf _) (cwV 0 hts (xg_V mb_methodLink_RX4_99 mb_instanceMethod_yX4_small mb_selects_yX4_small mb_initialized_RX4 mb_code_yX4_small) rfl rfl rfl ⟨rfl, by decide, by decide, by decide +kernel⟩ ⟨Nat.le_of_ble_eq_true rfl, Nat.le_of_ble_eq_true rfl⟩) (xpreV (va_recv (q0 := 0) hK hP rfl rfl) hK hP hD hS hA hE) rfl rfl hl.1 rfl (lv_room (Nat.le_of_ble_eq_true rfl)) dX4_isIndex_151 ⟨Nat.le_of_ble_eq_true rfl, Nat.le_of_ble_eq_true rfl⟩) hD hS hA (fun r2 u H locs hu2 hP hD hS => ?_)
    have hP : va_P (dC, dI) vwCl (xm ad ca kf vf tf fr sf fi bk bv w ny (nI b) mn (nI u.1) (nI e9) th op u.2) H := hP
    have hD : va_D A (xm ad ca kf vf tf fr sf fi bk bv w ny (nI b) mn (nI u.1) (nI e9) th op u.2) := hD
    obtain ⟨a2, w2⟩ := u
    obtain ⟨g3, g4, hu2⟩ := hu2
    dsimp only at g3 g4 hu2 hP hD
    rcases hu1 with hu1 | hu1
    · obtain ⟨n1, p1, p2, p3, p4⟩ := hu1
      rcases hu2 with hu2 | hu2
      · obtain ⟨n2, q1, q2, q3, q4⟩ := hu2
        subst p3
        subst q3
        have hw2 : w2 = 0 := q4.trans p4
        subst hw2
        have hx3 := pm_x3 (k := k) p1 q1 p2 q2
        have hin1 := pb_rd_in p1
        have hin2 := pb_rd_in q1
        refine lv_lstore hx hb dX4_isIndex_154 hl (by decide) rfl (fun ls hl => ?_)
        have hl : lv_has ls 14 [(12, .long (lN n2)), (10, .long (lN n1)), (8, .long (lN b)), (4, .long (lN n)), (6, .long (lN S)), (0, .ref (ad 0)), (3, .int (nI a0))] := hl
        refine lv_aload_n hx hb dX4_isIndex_156 rfl (lv_at hl 5 rfl) ?_
        refine va_get (D := (dC, dI)) (ci := 4) (v := .int 0) (C := RX4) (T := TX4) (N := 17) (ref := "SortedRunModel") hx hb hts (xg_u mb_uws_X4) hown hK hP 0 rfl rfl 16 (by decide) (xg_w hts mb_fieldLink_RX4_84) (fun _ h9 => h9) rfl dX4_isIndex_157 ?_
        refine lv_if_eq (tgt := 166) hx hb dX4_isIndex_160 rfl (fun hc => ?_) (fun hc => absurd hc (not_not_intro rfl))
        refine lv_aload_n hx hb dX4_isIndex_166 rfl (lv_at hl 5 rfl) ?_
        refine va_get (D := (dC, dI)) (ci := 4) (v := .ref (ad 4)) (C := RX4) (T := TX4) (N := 17) (ref := "SortedRunModel") hx hb hts (xg_u mb_uws_X4) hown hK hP 0 rfl rfl 3 (by decide) (xg_w hts mb_fieldLink_RX4_21) (fun _ h9 => h9) rfl dX4_isIndex_167 ?_
        refine lv_aload_n hx hb dX4_isIndex_170 rfl (lv_at hl 5 rfl) ?_
        refine va_get (D := (dC, dI)) (ci := 4) (v := .int (nI b)) (C := RX4) (T := TX4) (N := 17) (ref := "SortedRunModel") hx hb hts (xg_u mb_uws_X4) hown hK hP 0 rfl rfl 10 (by decide) (xg_w hts mb_fieldLink_RX4_102) (fun _ h9 => h9) rfl dX4_isIndex_171 ?_
        refine lv_lload hx hb dX4_isIndex_174 (lv_at hl 4 rfl) ?_
        refine lv_ldc2 (v := lN 6000) hx hb hown (xg_w hts mb_constantLong_RX4_105) dX4_isIndex_176 ?_
        refine W.lcmp hx hb dX4_isIndex_179 ?_
        refine lv_if_le (tgt := 189) hx hb dX4_isIndex_180 rfl (fun hc5 => ?_) (fun hc5 => ?_)
        · have hs1 : S ≤ 6000 := (pk_lLE (by omega) (by decide)).mp (lc_le.mp hc5)
          refine lv_lload hx hb dX4_isIndex_189 (lv_at hl 4 rfl) ?_
          refine lv_l2i (v := nI (min S 6000)) hx hb dX4_isIndex_191 ((lN_i S).trans (congrArg nI (Nat.min_eq_left hs1).symm)) ?_
          refine va_iast hx hb hK hP hD hS 4 3 rfl rfl (vp_in_nI (by omega) (by decide)) dX4_isIndex_192 (fun H locs hP hD hS => ?_)
          have e9 : upd fr (nI b).toNatClampNeg (nI (min S 6000)) = upd fr b (nI (min S 6000)) := by rw [nI_clamp (by omega)]
          rw [e9] at hP hD
          clear e9
          have hP : va_P (dC, dI) vwCl (xm ad ca kf vf tf (upd fr b (nI (min S 6000))) sf fi bk bv w ny (nI b) mn (nI a2) (nI e9) th op 0) H := hP
          have hD : va_D A (xm ad ca kf vf tf (upd fr b (nI (min S 6000))) sf fi bk bv w ny (nI b) mn (nI a2) (nI e9) th op 0) := hD
          refine lv_aload_n hx hb dX4_isIndex_193 rfl (lv_at hl 5 rfl) ?_
          refine va_get (D := (dC, dI)) (ci := 4) (v := .ref (ad 5)) (C := RX4) (T := TX4) (N := 17) (ref := "SortedRunModel") hx hb hts (xg_u mb_uws_X4) hown hK hP 0 rfl rfl 4 (by decide) (xg_w hts mb_fieldLink_RX4_24) (fun _ h9 => h9) rfl dX4_isIndex_194 ?_
          refine lv_aload_n hx hb dX4_isIndex_197 rfl (lv_at hl 5 rfl) ?_
          refine va_get (D := (dC, dI)) (ci := 4) (v := .int (nI b)) (C := RX4) (T := TX4) (N := 17) (ref := "SortedRunModel") hx hb hts (xg_u mb_uws_X4) hown hK hP 0 rfl rfl 10 (by decide) (xg_w hts mb_fieldLink_RX4_102) (fun _ h9 => h9) rfl dX4_isIndex_198 ?_
          refine lv_lload hx hb dX4_isIndex_201 (lv_at hl 1 rfl) ?_
          refine lv_ldc2 (v := lN 6000) hx hb hown (xg_w hts mb_constantLong_RX4_105) dX4_isIndex_203 ?_
          refine W.lcmp hx hb dX4_isIndex_206 ?_
          refine lv_if_le (tgt := 216) hx hb dX4_isIndex_207 rfl (fun hc6 => ?_) (fun hc6 => ?_)
          · have hs1 : n1 ≤ 6000 := (pk_lLE (by omega) (by decide)).mp (lc_le.mp hc6)
            refine lv_lload hx hb dX4_isIndex_216 (lv_at hl 1 rfl) ?_
            refine lv_l2i (v := nI (min n1 6000)) hx hb dX4_isIndex_218 ((lN_i n1).trans (congrArg nI (Nat.min_eq_left hs1).symm)) ?_
            refine va_iast hx hb hK hP hD hS 5 4 rfl rfl (vp_in_nI (by omega) (by decide)) dX4_isIndex_219 (fun H locs hP hD hS => ?_)
            have e9 : upd sf (nI b).toNatClampNeg (nI (min n1 6000)) = upd sf b (nI (min n1 6000)) := by rw [nI_clamp (by omega)]
            rw [e9] at hP hD
            clear e9
            have hP : va_P (dC, dI) vwCl (xm ad ca kf vf tf (upd fr b (nI (min S 6000))) (upd sf b (nI (min n1 6000))) fi bk bv w ny (nI b) mn (nI a2) (nI e9) th op 0) H := hP
            have hD : va_D A (xm ad ca kf vf tf (upd fr b (nI (min S 6000))) (upd sf b (nI (min n1 6000))) fi bk bv w ny (nI b) mn (nI a2) (nI e9) th op 0) := hD
            refine lv_aload_n hx hb dX4_isIndex_220 rfl (lv_at hl 5 rfl) ?_
            refine va_get (D := (dC, dI)) (ci := 4) (v := .ref (ad 6)) (C := RX4) (T := TX4) (N := 17) (ref := "SortedRunModel") hx hb hts (xg_u mb_uws_X4) hown hK hP 0 rfl rfl 5 (by decide) (xg_w hts mb_fieldLink_RX4_27) (fun _ h9 => h9) rfl dX4_isIndex_221 ?_
            refine lv_aload_n hx hb dX4_isIndex_224 rfl (lv_at hl 5 rfl) ?_
            refine va_get (D := (dC, dI)) (ci := 4) (v := .int (nI b)) (C := RX4) (T := TX4) (N := 17) (ref := "SortedRunModel") hx hb hts (xg_u mb_uws_X4) hown hK hP 0 rfl rfl 10 (by decide) (xg_w hts mb_fieldLink_RX4_102) (fun _ h9 => h9) rfl dX4_isIndex_225 ?_
            refine lv_lload hx hb dX4_isIndex_228 (lv_at hl 0 rfl) ?_
            refine xk_l (va_runS (As := [.long (lN n2)]) (rest := [.int (nI b), .ref (ad 6)]) ⟨hx, hb, hml, hown, hts⟩ (cX4_unfold_m l dC dI ca ad kf vf tf (upd fr b (nI (min S 6000))) (upd sf b (nI (min n1 6000))) fi bk bv w ny (nI b) mn (nI a2) (nI e9) th op 0 (lN n2) _) (cwS 1 hts (xg_S mb_methodLink_RX4_107 mb_static_yX4_unfold mb_initialized_RX4 mb_code_yX4_unfold) rfl rfl rfl ⟨rfl, by decide, by decide, by decide +kernel⟩ ⟨Nat.le_of_ble_eq_true rfl, Nat.le_of_ble_eq_true rfl⟩) (xpreS hK hP hD hS hA hE) rfl rfl hl.1 rfl (lv_room (Nat.le_of_ble_eq_true rfl)) dX4_isIndex_230 ⟨Nat.le_of_ble_eq_true rfl, Nat.le_of_ble_eq_true rfl⟩) hD hS hA (fun r u H locs hu hP hD hS => ?_)
            subst hu
            have hP : va_P (dC, dI) vwCl (xm ad ca kf vf tf (upd fr b (nI (min S 6000))) (upd sf b (nI (min n1 6000))) fi bk bv w ny (nI b) mn (nI a2) (nI e9) th op 0) H := hP
            have hD : va_D A (xm ad ca kf vf tf (upd fr b (nI (min S 6000))) (upd sf b (nI (min n1 6000))) fi bk bv w ny (nI b) mn (nI a2) (nI e9) th op 0) := hD
            refine lv_l2i (v := (pu_u (lN n2)).toInt32) hx hb dX4_isIndex_233 (rfl) ?_
            refine va_iast hx hb hK hP hD hS 6 5 rfl rfl (vp_in_nI (by omega) (by decide)) dX4_isIndex_234 (fun H locs hP hD hS => ?_)
            have e9 : upd fi (nI b).toNatClampNeg ((pu_u (lN n2)).toInt32) = upd fi b (pu_u (lN n2)).toInt32 := by rw [nI_clamp (by omega)]
            rw [e9] at hP hD
            clear e9
            have hP : va_P (dC, dI) vwCl (xm ad ca kf vf tf (upd fr b (nI (min S 6000))) (upd sf b (nI (min n1 6000))) (upd fi b (pu_u (lN n2)).toInt32) bk bv w ny (nI b) mn (nI a2) (nI e9) th op 0) H := hP
            have hD : va_D A (xm ad ca kf vf tf (upd fr b (nI (min S 6000))) (upd sf b (nI (min n1 6000))) (upd fi b (pu_u (lN n2)).toInt32) bk bv w ny (nI b) mn (nI a2) (nI e9) th op 0) := hD
            refine lv_lload hx hb dX4_isIndex_235 (lv_at hl 4 rfl) ?_
            refine lv_lload hx hb dX4_isIndex_237 (lv_at hl 1 rfl) ?_
            refine lv_ladd hx hb dX4_isIndex_239 ?_
            refine lv_topl (fun z1 ez1 => ?_)
            have ez1 : z1 = lN (S + n1) := ez1.trans (lN_add _ _)
            subst ez1
            refine lv_lstore hx hb dX4_isIndex_240 hl (by decide) rfl (fun ls hl => ?_)
            have hl : lv_has ls 14 [(6, .long (lN (S + n1))), (12, .long (lN n2)), (10, .long (lN n1)), (8, .long (lN b)), (4, .long (lN n)), (0, .ref (ad 0)), (3, .int (nI a0))] := hl
            refine lv_aload_n hx hb dX4_isIndex_242 rfl (lv_at hl 5 rfl) ?_
            refine lv_dup hx hb dX4_isIndex_243 rfl ?_
            refine va_get (D := (dC, dI)) (ci := 4) (v := .int (nI b)) (C := RX4) (T := TX4) (N := 17) (ref := "SortedRunModel") hx hb hts (xg_u mb_uws_X4) hown hK hP 0 rfl rfl 10 (by decide) (xg_w hts mb_fieldLink_RX4_102) (fun _ h9 => h9) rfl dX4_isIndex_244 ?_
            refine lv_iconst (v := 1) hx hb dX4_isIndex_247 (by decide) ?_
            refine lv_iadd hx hb dX4_isIndex_248 ?_
            refine lv_topi (fun z2 ez2 => ?_)
            have ez2 : z2 = nI (b + 1) := ez2.trans (nI_1 b)
            subst ez2
            refine va_put (D := (dC, dI)) (ci := 4) (v := .int (nI (b + 1))) (ty := .int) (C := RX4) (T := TX4) (N := 17) (ref := "SortedRunModel") hx hb hts (xg_u mb_uws_X4) tyX4 tyX4_ok nmX4 hown hK hP hD hS 0 rfl rfl 10 (by decide) (xg_w hts mb_fieldLink_RX4_102) (fun _ h9 => h9) rfl (by decide +kernel) rfl rfl (Nat.le_of_ble_eq_true rfl) dX4_isIndex_249 (fun H locs hP hD hS => ?_)
            have hP : va_P (dC, dI) vwCl (xm ad ca kf vf tf (upd fr b (nI (min S 6000))) (upd sf b (nI (min n1 6000))) (upd fi b (pu_u (lN n2)).toInt32) bk bv w ny (nI (b + 1)) mn (nI a2) (nI e9) th op 0) H := hP
            have hD : va_D A (xm ad ca kf vf tf (upd fr b (nI (min S 6000))) (upd sf b (nI (min n1 6000))) (upd fi b (pu_u (lN n2)).toInt32) bk bv w ny (nI (b + 1)) mn (nI a2) (nI e9) th op 0) := hD
            refine lv_lload hx hb dX4_isIndex_252 (lv_at hl 3 rfl) ?_
            refine lv_lconst (v := lN 1) hx hb dX4_isIndex_254 (by decide) ?_
            refine lv_ladd hx hb dX4_isIndex_255 ?_
            refine lv_topl (fun z3 ez3 => ?_)
            have ez3 : z3 = lN (b + 1) := ez3.trans (lN_add b 1)
            subst ez3
            refine lv_lstore hx hb dX4_isIndex_256 hl (by decide) rfl (fun ls hl => ?_)
            have hl : lv_has ls 14 [(8, .long (lN (b + 1))), (6, .long (lN (S + n1))), (12, .long (lN n2)), (10, .long (lN n1)), (4, .long (lN n)), (0, .ref (ad 0)), (3, .int (nI a0))] := hl
            refine lv_goto (tgt := 129) hx hb dX4_isIndex_258 rfl ?_
            refine ih (b + 1) a2 (S + n1) _ _ _ _ _ _ (by omega) (by omega) g4 (by omega) (lv_sub hl [0, 4, 1, 5, 6] rfl) hP hD hS (fun l9 a3 hl9 gr sg gi hkeep hrw H locs ls hl hP hD hS => ?_) (fun hno => kb (by rw [hx3, hno]; rfl))
            have hk9 := hkeep b (Nat.lt_succ_self b)
            rw [pk_us, pk_us, pk_us] at hk9
            have hl2 : lv_has ls 14 [(6, .long (lN (S + px_sum ((n1, n2) :: l9)))), (0, .ref (ad 0)), (3, .int (nI a0))] := by rw [show S + px_sum ((n1, n2) :: l9) = S + n1 + px_sum l9 from (Nat.add_assoc S n1 _).symm]; exact hl
            rw [show b + 1 + l9.length = b + ((n1, n2) :: l9).length by simp; omega] at hP hD
            exact kg ((n1, n2) :: l9) a3 (by rw [hx3, hl9]; rfl) gr sg gi (fun j hj => by have := hkeep j (by omega); rw [pk_un (by omega), pk_un (by omega), pk_un (by omega)] at this; exact this) (pm_rows_cons hk9.1 hk9.2.1 hk9.2.2 hrw) H locs ls hl2 hP hD hS
          · have hs1 : 6000 ≤ n1 := Nat.le_of_lt (Nat.lt_of_not_le (fun z => hc6 (lc_le.mpr ((pk_lLE (by omega) (by decide)).mpr z))))
            refine lv_sipush (v := nI 6000) hx hb dX4_isIndex_210 (by decide) ?_
            refine lv_goto (tgt := 219) hx hb dX4_isIndex_213 rfl ?_
            refine lv_topi (fun z1 ez1 => ?_)
            have ez1 : z1 = nI (min n1 6000) := ez1.trans (congrArg nI (Nat.min_eq_right hs1).symm)
            subst ez1
            refine va_iast hx hb hK hP hD hS 5 4 rfl rfl (vp_in_nI (by omega) (by decide)) dX4_isIndex_219 (fun H locs hP hD hS => ?_)
            have e9 : upd sf (nI b).toNatClampNeg (nI (min n1 6000)) = upd sf b (nI (min n1 6000)) := by rw [nI_clamp (by omega)]
            rw [e9] at hP hD
            clear e9
            have hP : va_P (dC, dI) vwCl (xm ad ca kf vf tf (upd fr b (nI (min S 6000))) (upd sf b (nI (min n1 6000))) fi bk bv w ny (nI b) mn (nI a2) (nI e9) th op 0) H := hP
            have hD : va_D A (xm ad ca kf vf tf (upd fr b (nI (min S 6000))) (upd sf b (nI (min n1 6000))) fi bk bv w ny (nI b) mn (nI a2) (nI e9) th op 0) := hD
            refine lv_aload_n hx hb dX4_isIndex_220 rfl (lv_at hl 5 rfl) ?_
            refine va_get (D := (dC, dI)) (ci := 4) (v := .ref (ad 6)) (C := RX4) (T := TX4) (N := 17) (ref := "SortedRunModel") hx hb hts (xg_u mb_uws_X4) hown hK hP 0 rfl rfl 5 (by decide) (xg_w hts mb_fieldLink_RX4_27) (fun _ h9 => h9) rfl dX4_isIndex_221 ?_
            refine lv_aload_n hx hb dX4_isIndex_224 rfl (lv_at hl 5 rfl) ?_
            refine va_get (D := (dC, dI)) (ci := 4) (v := .int (nI b)) (C := RX4) (T := TX4) (N := 17) (ref := "SortedRunModel") hx hb hts (xg_u mb_uws_X4) hown hK hP 0 rfl rfl 10 (by decide) (xg_w hts mb_fieldLink_RX4_102) (fun _ h9 => h9) rfl dX4_isIndex_225 ?_
            refine lv_lload hx hb dX4_isIndex_228 (lv_at hl 0 rfl) ?_
            refine xk_l (va_runS (As := [.long (lN n2)]) (rest := [.int (nI b), .ref (ad 6)]) ⟨hx, hb, hml, hown, hts⟩ (cX4_unfold_m l dC dI ca ad kf vf tf (upd fr b (nI (min S 6000))) (upd sf b (nI (min n1 6000))) fi bk bv w ny (nI b) mn (nI a2) (nI e9) th op 0 (lN n2) _) (cwS 1 hts (xg_S mb_methodLink_RX4_107 mb_static_yX4_unfold mb_initialized_RX4 mb_code_yX4_unfold) rfl rfl rfl ⟨rfl, by decide, by decide, by decide +kernel⟩ ⟨Nat.le_of_ble_eq_true rfl, Nat.le_of_ble_eq_true rfl⟩) (xpreS hK hP hD hS hA hE) rfl rfl hl.1 rfl (lv_room (Nat.le_of_ble_eq_true rfl)) dX4_isIndex_230 ⟨Nat.le_of_ble_eq_true rfl, Nat.le_of_ble_eq_true rfl⟩) hD hS hA (fun r u H locs hu hP hD hS => ?_)
            subst hu
            have hP : va_P (dC, dI) vwCl (xm ad ca kf vf tf (upd fr b (nI (min S 6000))) (upd sf b (nI (min n1 6000))) fi bk bv w ny (nI b) mn (nI a2) (nI e9) th op 0) H := hP
            have hD : va_D A (xm ad ca kf vf tf (upd fr b (nI (min S 6000))) (upd sf b (nI (min n1 6000))) fi bk bv w ny (nI b) mn (nI a2) (nI e9) th op 0) := hD
            refine lv_l2i (v := (pu_u (lN n2)).toInt32) hx hb dX4_isIndex_233 (rfl) ?_
            refine va_iast hx hb hK hP hD hS 6 5 rfl rfl (vp_in_nI (by omega) (by decide)) dX4_isIndex_234 (fun H locs hP hD hS => ?_)
            have e9 : upd fi (nI b).toNatClampNeg ((pu_u (lN n2)).toInt32) = upd fi b (pu_u (lN n2)).toInt32 := by rw [nI_clamp (by omega)]
            rw [e9] at hP hD
            clear e9
            have hP : va_P (dC, dI) vwCl (xm ad ca kf vf tf (upd fr b (nI (min S 6000))) (upd sf b (nI (min n1 6000))) (upd fi b (pu_u (lN n2)).toInt32) bk bv w ny (nI b) mn (nI a2) (nI e9) th op 0) H := hP
            have hD : va_D A (xm ad ca kf vf tf (upd fr b (nI (min S 6000))) (upd sf b (nI (min n1 6000))) (upd fi b (pu_u (lN n2)).toInt32) bk bv w ny (nI b) mn (nI a2) (nI e9) th op 0) := hD
            refine lv_lload hx hb dX4_isIndex_235 (lv_at hl 4 rfl) ?_
            refine lv_lload hx hb dX4_isIndex_237 (lv_at hl 1 rfl) ?_
            refine lv_ladd hx hb dX4_isIndex_239 ?_
            refine lv_topl (fun z2 ez2 => ?_)
            have ez2 : z2 = lN (S + n1) := ez2.trans (lN_add _ _)
            subst ez2
            refine lv_lstore hx hb dX4_isIndex_240 hl (by decide) rfl (fun ls hl => ?_)
            have hl : lv_has ls 14 [(6, .long (lN (S + n1))), (12, .long (lN n2)), (10, .long (lN n1)), (8, .long (lN b)), (4, .long (lN n)), (0, .ref (ad 0)), (3, .int (nI a0))] := hl
            refine lv_aload_n hx hb dX4_isIndex_242 rfl (lv_at hl 5 rfl) ?_
            refine lv_dup hx hb dX4_isIndex_243 rfl ?_
            refine va_get (D := (dC, dI)) (ci := 4) (v := .int (nI b)) (C := RX4) (T := TX4) (N := 17) (ref := "SortedRunModel") hx hb hts (xg_u mb_uws_X4) hown hK hP 0 rfl rfl 10 (by decide) (xg_w hts mb_fieldLink_RX4_102) (fun _ h9 => h9) rfl dX4_isIndex_244 ?_
            refine lv_iconst (v := 1) hx hb dX4_isIndex_247 (by decide) ?_
            refine lv_iadd hx hb dX4_isIndex_248 ?_
            refine lv_topi (fun z3 ez3 => ?_)
            have ez3 : z3 = nI (b + 1) := ez3.trans (nI_1 b)
            subst ez3
            refine va_put (D := (dC, dI)) (ci := 4) (v := .int (nI (b + 1))) (ty := .int) (C := RX4) (T := TX4) (N := 17) (ref := "SortedRunModel") hx hb hts (xg_u mb_uws_X4) tyX4 tyX4_ok nmX4 hown hK hP hD hS 0 rfl rfl 10 (by decide) (xg_w hts mb_fieldLink_RX4_102) (fun _ h9 => h9) rfl (by decide +kernel) rfl rfl (Nat.le_of_ble_eq_true rfl) dX4_isIndex_249 (fun H locs hP hD hS => ?_)
            have hP : va_P (dC, dI) vwCl (xm ad ca kf vf tf (upd fr b (nI (min S 6000))) (upd sf b (nI (min n1 6000))) (upd fi b (pu_u (lN n2)).toInt32) bk bv w ny (nI (b + 1)) mn (nI a2) (nI e9) th op 0) H := hP
            have hD : va_D A (xm ad ca kf vf tf (upd fr b (nI (min S 6000))) (upd sf b (nI (min n1 6000))) (upd fi b (pu_u (lN n2)).toInt32) bk bv w ny (nI (b + 1)) mn (nI a2) (nI e9) th op 0) := hD
            refine lv_lload hx hb dX4_isIndex_252 (lv_at hl 3 rfl) ?_
            refine lv_lconst (v := lN 1) hx hb dX4_isIndex_254 (by decide) ?_
            refine lv_ladd hx hb dX4_isIndex_255 ?_
            refine lv_topl (fun z4 ez4 => ?_)
            have ez4 : z4 = lN (b + 1) := ez4.trans (lN_add b 1)
            subst ez4
            refine lv_lstore hx hb dX4_isIndex_256 hl (by decide) rfl (fun ls hl => ?_)
            have hl : lv_has ls 14 [(8, .long (lN (b + 1))), (6, .long (lN (S + n1))), (12, .long (lN n2)), (10, .long (lN n1)), (4, .long (lN n)), (0, .ref (ad 0)), (3, .int (nI a0))] := hl
            refine lv_goto (tgt := 129) hx hb dX4_isIndex_258 rfl ?_
            refine ih (b + 1) a2 (S + n1) _ _ _ _ _ _ (by omega) (by omega) g4 (by omega) (lv_sub hl [0, 4, 1, 5, 6] rfl) hP hD hS (fun l9 a3 hl9 gr sg gi hkeep hrw H locs ls hl hP hD hS => ?_) (fun hno => kb (by rw [hx3, hno]; rfl))
            have hk9 := hkeep b (Nat.lt_succ_self b)
            rw [pk_us, pk_us, pk_us] at hk9
            have hl2 : lv_has ls 14 [(6, .long (lN (S + px_sum ((n1, n2) :: l9)))), (0, .ref (ad 0)), (3, .int (nI a0))] := by rw [show S + px_sum ((n1, n2) :: l9) = S + n1 + px_sum l9 from (Nat.add_assoc S n1 _).symm]; exact hl
            rw [show b + 1 + l9.length = b + ((n1, n2) :: l9).length by simp; omega] at hP hD
            exact kg ((n1, n2) :: l9) a3 (by rw [hx3, hl9]; rfl) gr sg gi (fun j hj => by have := hkeep j (by omega); rw [pk_un (by omega), pk_un (by omega), pk_un (by omega)] at this; exact this) (pm_rows_cons hk9.1 hk9.2.1 hk9.2.2 hrw) H locs ls hl2 hP hD hS
        · have hs1 : 6000 ≤ S := Nat.le_of_lt (Nat.lt_of_not_le (fun z => hc5 (lc_le.mpr ((pk_lLE (by omega) (by decide)).mpr z))))
          refine lv_sipush (v := nI 6000) hx hb dX4_isIndex_183 (by decide) ?_
          refine lv_goto (tgt := 192) hx hb dX4_isIndex_186 rfl ?_
          refine lv_topi (fun z1 ez1 => ?_)
          have ez1 : z1 = nI (min S 6000) := ez1.trans (congrArg nI (Nat.min_eq_right hs1).symm)
          subst ez1
          refine va_iast hx hb hK hP hD hS 4 3 rfl rfl (vp_in_nI (by omega) (by decide)) dX4_isIndex_192 (fun H locs hP hD hS => ?_)
          have e9 : upd fr (nI b).toNatClampNeg (nI (min S 6000)) = upd fr b (nI (min S 6000)) := by rw [nI_clamp (by omega)]
          rw [e9] at hP hD
          clear e9
          have hP : va_P (dC, dI) vwCl (xm ad ca kf vf tf (upd fr b (nI (min S 6000))) sf fi bk bv w ny (nI b) mn (nI a2) (nI e9) th op 0) H := hP
          have hD : va_D A (xm ad ca kf vf tf (upd fr b (nI (min S 6000))) sf fi bk bv w ny (nI b) mn (nI a2) (nI e9) th op 0) := hD
          refine lv_aload_n hx hb dX4_isIndex_193 rfl (lv_at hl 5 rfl) ?_
          refine va_get (D := (dC, dI)) (ci := 4) (v := .ref (ad 5)) (C := RX4) (T := TX4) (N := 17) (ref := "SortedRunModel") hx hb hts (xg_u mb_uws_X4) hown hK hP 0 rfl rfl 4 (by decide) (xg_w hts mb_fieldLink_RX4_24) (fun _ h9 => h9) rfl dX4_isIndex_194 ?_
          refine lv_aload_n hx hb dX4_isIndex_197 rfl (lv_at hl 5 rfl) ?_
          refine va_get (D := (dC, dI)) (ci := 4) (v := .int (nI b)) (C := RX4) (T := TX4) (N := 17) (ref := "SortedRunModel") hx hb hts (xg_u mb_uws_X4) hown hK hP 0 rfl rfl 10 (by decide) (xg_w hts mb_fieldLink_RX4_102) (fun _ h9 => h9) rfl dX4_isIndex_198 ?_
          refine lv_lload hx hb dX4_isIndex_201 (lv_at hl 1 rfl) ?_
          refine lv_ldc2 (v := lN 6000) hx hb hown (xg_w hts mb_constantLong_RX4_105) dX4_isIndex_203 ?_
          refine W.lcmp hx hb dX4_isIndex_206 ?_
          refine lv_if_le (tgt := 216) hx hb dX4_isIndex_207 rfl (fun hc6 => ?_) (fun hc6 => ?_)
          · have hs1 : n1 ≤ 6000 := (pk_lLE (by omega) (by decide)).mp (lc_le.mp hc6)
            refine lv_lload hx hb dX4_isIndex_216 (lv_at hl 1 rfl) ?_
            refine lv_l2i (v := nI (min n1 6000)) hx hb dX4_isIndex_218 ((lN_i n1).trans (congrArg nI (Nat.min_eq_left hs1).symm)) ?_
            refine va_iast hx hb hK hP hD hS 5 4 rfl rfl (vp_in_nI (by omega) (by decide)) dX4_isIndex_219 (fun H locs hP hD hS => ?_)
            have e9 : upd sf (nI b).toNatClampNeg (nI (min n1 6000)) = upd sf b (nI (min n1 6000)) := by rw [nI_clamp (by omega)]
            rw [e9] at hP hD
            clear e9
            have hP : va_P (dC, dI) vwCl (xm ad ca kf vf tf (upd fr b (nI (min S 6000))) (upd sf b (nI (min n1 6000))) fi bk bv w ny (nI b) mn (nI a2) (nI e9) th op 0) H := hP
            have hD : va_D A (xm ad ca kf vf tf (upd fr b (nI (min S 6000))) (upd sf b (nI (min n1 6000))) fi bk bv w ny (nI b) mn (nI a2) (nI e9) th op 0) := hD
            refine lv_aload_n hx hb dX4_isIndex_220 rfl (lv_at hl 5 rfl) ?_
            refine va_get (D := (dC, dI)) (ci := 4) (v := .ref (ad 6)) (C := RX4) (T := TX4) (N := 17) (ref := "SortedRunModel") hx hb hts (xg_u mb_uws_X4) hown hK hP 0 rfl rfl 5 (by decide) (xg_w hts mb_fieldLink_RX4_27) (fun _ h9 => h9) rfl dX4_isIndex_221 ?_
            refine lv_aload_n hx hb dX4_isIndex_224 rfl (lv_at hl 5 rfl) ?_
            refine va_get (D := (dC, dI)) (ci := 4) (v := .int (nI b)) (C := RX4) (T := TX4) (N := 17) (ref := "SortedRunModel") hx hb hts (xg_u mb_uws_X4) hown hK hP 0 rfl rfl 10 (by decide) (xg_w hts mb_fieldLink_RX4_102) (fun _ h9 => h9) rfl dX4_isIndex_225 ?_
            refine lv_lload hx hb dX4_isIndex_228 (lv_at hl 0 rfl) ?_
            refine xk_l (va_runS (As := [.long (lN n2)]) (rest := [.int (nI b), .ref (ad 6)]) ⟨hx, hb, hml, hown, hts⟩ (cX4_unfold_m l dC dI ca ad kf vf tf (upd fr b (nI (min S 6000))) (upd sf b (nI (min n1 6000))) fi bk bv w ny (nI b) mn (nI a2) (nI e9) th op 0 (lN n2) _) (cwS 1 hts (xg_S mb_methodLink_RX4_107 mb_static_yX4_unfold mb_initialized_RX4 mb_code_yX4_unfold) rfl rfl rfl ⟨rfl, by decide, by decide, by decide +kernel⟩ ⟨Nat.le_of_ble_eq_true rfl, Nat.le_of_ble_eq_true rfl⟩) (xpreS hK hP hD hS hA hE) rfl rfl hl.1 rfl (lv_room (Nat.le_of_ble_eq_true rfl)) dX4_isIndex_230 ⟨Nat.le_of_ble_eq_true rfl, Nat.le_of_ble_eq_true rfl⟩) hD hS hA (fun r u H locs hu hP hD hS => ?_)
            subst hu
            have hP : va_P (dC, dI) vwCl (xm ad ca kf vf tf (upd fr b (nI (min S 6000))) (upd sf b (nI (min n1 6000))) fi bk bv w ny (nI b) mn (nI a2) (nI e9) th op 0) H := hP
            have hD : va_D A (xm ad ca kf vf tf (upd fr b (nI (min S 6000))) (upd sf b (nI (min n1 6000))) fi bk bv w ny (nI b) mn (nI a2) (nI e9) th op 0) := hD
            refine lv_l2i (v := (pu_u (lN n2)).toInt32) hx hb dX4_isIndex_233 (rfl) ?_
            refine va_iast hx hb hK hP hD hS 6 5 rfl rfl (vp_in_nI (by omega) (by decide)) dX4_isIndex_234 (fun H locs hP hD hS => ?_)
            have e9 : upd fi (nI b).toNatClampNeg ((pu_u (lN n2)).toInt32) = upd fi b (pu_u (lN n2)).toInt32 := by rw [nI_clamp (by omega)]
            rw [e9] at hP hD
            clear e9
            have hP : va_P (dC, dI) vwCl (xm ad ca kf vf tf (upd fr b (nI (min S 6000))) (upd sf b (nI (min n1 6000))) (upd fi b (pu_u (lN n2)).toInt32) bk bv w ny (nI b) mn (nI a2) (nI e9) th op 0) H := hP
            have hD : va_D A (xm ad ca kf vf tf (upd fr b (nI (min S 6000))) (upd sf b (nI (min n1 6000))) (upd fi b (pu_u (lN n2)).toInt32) bk bv w ny (nI b) mn (nI a2) (nI e9) th op 0) := hD
            refine lv_lload hx hb dX4_isIndex_235 (lv_at hl 4 rfl) ?_
            refine lv_lload hx hb dX4_isIndex_237 (lv_at hl 1 rfl) ?_
            refine lv_ladd hx hb dX4_isIndex_239 ?_
            refine lv_topl (fun z2 ez2 => ?_)
            have ez2 : z2 = lN (S + n1) := ez2.trans (lN_add _ _)
            subst ez2
            refine lv_lstore hx hb dX4_isIndex_240 hl (by decide) rfl (fun ls hl => ?_)
            have hl : lv_has ls 14 [(6, .long (lN (S + n1))), (12, .long (lN n2)), (10, .long (lN n1)), (8, .long (lN b)), (4, .long (lN n)), (0, .ref (ad 0)), (3, .int (nI a0))] := hl
            refine lv_aload_n hx hb dX4_isIndex_242 rfl (lv_at hl 5 rfl) ?_
            refine lv_dup hx hb dX4_isIndex_243 rfl ?_
            refine va_get (D := (dC, dI)) (ci := 4) (v := .int (nI b)) (C := RX4) (T := TX4) (N := 17) (ref := "SortedRunModel") hx hb hts (xg_u mb_uws_X4) hown hK hP 0 rfl rfl 10 (by decide) (xg_w hts mb_fieldLink_RX4_102) (fun _ h9 => h9) rfl dX4_isIndex_244 ?_
            refine lv_iconst (v := 1) hx hb dX4_isIndex_247 (by decide) ?_
            refine lv_iadd hx hb dX4_isIndex_248 ?_
            refine lv_topi (fun z3 ez3 => ?_)
            have ez3 : z3 = nI (b + 1) := ez3.trans (nI_1 b)
            subst ez3
            refine va_put (D := (dC, dI)) (ci := 4) (v := .int (nI (b + 1))) (ty := .int) (C := RX4) (T := TX4) (N := 17) (ref := "SortedRunModel") hx hb hts (xg_u mb_uws_X4) tyX4 tyX4_ok nmX4 hown hK hP hD hS 0 rfl rfl 10 (by decide) (xg_w hts mb_fieldLink_RX4_102) (fun _ h9 => h9) rfl (by decide +kernel) rfl rfl (Nat.le_of_ble_eq_true rfl) dX4_isIndex_249 (fun H locs hP hD hS => ?_)
            have hP : va_P (dC, dI) vwCl (xm ad ca kf vf tf (upd fr b (nI (min S 6000))) (upd sf b (nI (min n1 6000))) (upd fi b (pu_u (lN n2)).toInt32) bk bv w ny (nI (b + 1)) mn (nI a2) (nI e9) th op 0) H := hP
            have hD : va_D A (xm ad ca kf vf tf (upd fr b (nI (min S 6000))) (upd sf b (nI (min n1 6000))) (upd fi b (pu_u (lN n2)).toInt32) bk bv w ny (nI (b + 1)) mn (nI a2) (nI e9) th op 0) := hD
            refine lv_lload hx hb dX4_isIndex_252 (lv_at hl 3 rfl) ?_
            refine lv_lconst (v := lN 1) hx hb dX4_isIndex_254 (by decide) ?_
            refine lv_ladd hx hb dX4_isIndex_255 ?_
            refine lv_topl (fun z4 ez4 => ?_)
            have ez4 : z4 = lN (b + 1) := ez4.trans (lN_add b 1)
            subst ez4
            refine lv_lstore hx hb dX4_isIndex_256 hl (by decide) rfl (fun ls hl => ?_)
            have hl : lv_has ls 14 [(8, .long (lN (b + 1))), (6, .long (lN (S + n1))), (12, .long (lN n2)), (10, .long (lN n1)), (4, .long (lN n)), (0, .ref (ad 0)), (3, .int (nI a0))] := hl
            refine lv_goto (tgt := 129) hx hb dX4_isIndex_258 rfl ?_
            refine ih (b + 1) a2 (S + n1) _ _ _ _ _ _ (by omega) (by omega) g4 (by omega) (lv_sub hl [0, 4, 1, 5, 6] rfl) hP hD hS (fun l9 a3 hl9 gr sg gi hkeep hrw H locs ls hl hP hD hS => ?_) (fun hno => kb (by rw [hx3, hno]; rfl))
            have hk9 := hkeep b (Nat.lt_succ_self b)
            rw [pk_us, pk_us, pk_us] at hk9
            have hl2 : lv_has ls 14 [(6, .long (lN (S + px_sum ((n1, n2) :: l9)))), (0, .ref (ad 0)), (3, .int (nI a0))] := by rw [show S + px_sum ((n1, n2) :: l9) = S + n1 + px_sum l9 from (Nat.add_assoc S n1 _).symm]; exact hl
            rw [show b + 1 + l9.length = b + ((n1, n2) :: l9).length by simp; omega] at hP hD
            exact kg ((n1, n2) :: l9) a3 (by rw [hx3, hl9]; rfl) gr sg gi (fun j hj => by have := hkeep j (by omega); rw [pk_un (by omega), pk_un (by omega), pk_un (by omega)] at this; exact this) (pm_rows_cons hk9.1 hk9.2.1 hk9.2.2 hrw) H locs ls hl2 hP hD hS
          · have hs1 : 6000 ≤ n1 := Nat.le_of_lt (Nat.lt_of_not_le (fun z => hc6 (lc_le.mpr ((pk_lLE (by omega) (by decide)).mpr z))))
            refine lv_sipush (v := nI 6000) hx hb dX4_isIndex_210 (by decide) ?_
            refine lv_goto (tgt := 219) hx hb dX4_isIndex_213 rfl ?_
            refine lv_topi (fun z2 ez2 => ?_)
            have ez2 : z2 = nI (min n1 6000) := ez2.trans (congrArg nI (Nat.min_eq_right hs1).symm)
            subst ez2
            refine va_iast hx hb hK hP hD hS 5 4 rfl rfl (vp_in_nI (by omega) (by decide)) dX4_isIndex_219 (fun H locs hP hD hS => ?_)
            have e9 : upd sf (nI b).toNatClampNeg (nI (min n1 6000)) = upd sf b (nI (min n1 6000)) := by rw [nI_clamp (by omega)]
            rw [e9] at hP hD
            clear e9
            have hP : va_P (dC, dI) vwCl (xm ad ca kf vf tf (upd fr b (nI (min S 6000))) (upd sf b (nI (min n1 6000))) fi bk bv w ny (nI b) mn (nI a2) (nI e9) th op 0) H := hP
            have hD : va_D A (xm ad ca kf vf tf (upd fr b (nI (min S 6000))) (upd sf b (nI (min n1 6000))) fi bk bv w ny (nI b) mn (nI a2) (nI e9) th op 0) := hD
            refine lv_aload_n hx hb dX4_isIndex_220 rfl (lv_at hl 5 rfl) ?_
            refine va_get (D := (dC, dI)) (ci := 4) (v := .ref (ad 6)) (C := RX4) (T := TX4) (N := 17) (ref := "SortedRunModel") hx hb hts (xg_u mb_uws_X4) hown hK hP 0 rfl rfl 5 (by decide) (xg_w hts mb_fieldLink_RX4_27) (fun _ h9 => h9) rfl dX4_isIndex_221 ?_
            refine lv_aload_n hx hb dX4_isIndex_224 rfl (lv_at hl 5 rfl) ?_
            refine va_get (D := (dC, dI)) (ci := 4) (v := .int (nI b)) (C := RX4) (T := TX4) (N := 17) (ref := "SortedRunModel") hx hb hts (xg_u mb_uws_X4) hown hK hP 0 rfl rfl 10 (by decide) (xg_w hts mb_fieldLink_RX4_102) (fun _ h9 => h9) rfl dX4_isIndex_225 ?_
            refine lv_lload hx hb dX4_isIndex_228 (lv_at hl 0 rfl) ?_
            refine xk_l (va_runS (As := [.long (lN n2)]) (rest := [.int (nI b), .ref (ad 6)]) ⟨hx, hb, hml, hown, hts⟩ (cX4_unfold_m l dC dI ca ad kf vf tf (upd fr b (nI (min S 6000))) (upd sf b (nI (min n1 6000))) fi bk bv w ny (nI b) mn (nI a2) (nI e9) th op 0 (lN n2) _) (cwS 1 hts (xg_S mb_methodLink_RX4_107 mb_static_yX4_unfold mb_initialized_RX4 mb_code_yX4_unfold) rfl rfl rfl ⟨rfl, by decide, by decide, by decide +kernel⟩ ⟨Nat.le_of_ble_eq_true rfl, Nat.le_of_ble_eq_true rfl⟩) (xpreS hK hP hD hS hA hE) rfl rfl hl.1 rfl (lv_room (Nat.le_of_ble_eq_true rfl)) dX4_isIndex_230 ⟨Nat.le_of_ble_eq_true rfl, Nat.le_of_ble_eq_true rfl⟩) hD hS hA (fun r u H locs hu hP hD hS => ?_)
            subst hu
            have hP : va_P (dC, dI) vwCl (xm ad ca kf vf tf (upd fr b (nI (min S 6000))) (upd sf b (nI (min n1 6000))) fi bk bv w ny (nI b) mn (nI a2) (nI e9) th op 0) H := hP
            have hD : va_D A (xm ad ca kf vf tf (upd fr b (nI (min S 6000))) (upd sf b (nI (min n1 6000))) fi bk bv w ny (nI b) mn (nI a2) (nI e9) th op 0) := hD
            refine lv_l2i (v := (pu_u (lN n2)).toInt32) hx hb dX4_isIndex_233 (rfl) ?_
            refine va_iast hx hb hK hP hD hS 6 5 rfl rfl (vp_in_nI (by omega) (by decide)) dX4_isIndex_234 (fun H locs hP hD hS => ?_)
            have e9 : upd fi (nI b).toNatClampNeg ((pu_u (lN n2)).toInt32) = upd fi b (pu_u (lN n2)).toInt32 := by rw [nI_clamp (by omega)]
            rw [e9] at hP hD
            clear e9
            have hP : va_P (dC, dI) vwCl (xm ad ca kf vf tf (upd fr b (nI (min S 6000))) (upd sf b (nI (min n1 6000))) (upd fi b (pu_u (lN n2)).toInt32) bk bv w ny (nI b) mn (nI a2) (nI e9) th op 0) H := hP
            have hD : va_D A (xm ad ca kf vf tf (upd fr b (nI (min S 6000))) (upd sf b (nI (min n1 6000))) (upd fi b (pu_u (lN n2)).toInt32) bk bv w ny (nI b) mn (nI a2) (nI e9) th op 0) := hD
            refine lv_lload hx hb dX4_isIndex_235 (lv_at hl 4 rfl) ?_
            refine lv_lload hx hb dX4_isIndex_237 (lv_at hl 1 rfl) ?_
            refine lv_ladd hx hb dX4_isIndex_239 ?_
            refine lv_topl (fun z3 ez3 => ?_)
            have ez3 : z3 = lN (S + n1) := ez3.trans (lN_add _ _)
            subst ez3
            refine lv_lstore hx hb dX4_isIndex_240 hl (by decide) rfl (fun ls hl => ?_)
            have hl : lv_has ls 14 [(6, .long (lN (S + n1))), (12, .long (lN n2)), (10, .long (lN n1)), (8, .long (lN b)), (4, .long (lN n)), (0, .ref (ad 0)), (3, .int (nI a0))] := hl
            refine lv_aload_n hx hb dX4_isIndex_242 rfl (lv_at hl 5 rfl) ?_
            refine lv_dup hx hb dX4_isIndex_243 rfl ?_
            refine va_get (D := (dC, dI)) (ci := 4) (v := .int (nI b)) (C := RX4) (T := TX4) (N := 17) (ref := "SortedRunModel") hx hb hts (xg_u mb_uws_X4) hown hK hP 0 rfl rfl 10 (by decide) (xg_w hts mb_fieldLink_RX4_102) (fun _ h9 => h9) rfl dX4_isIndex_244 ?_
            refine lv_iconst (v := 1) hx hb dX4_isIndex_247 (by decide) ?_
            refine lv_iadd hx hb dX4_isIndex_248 ?_
            refine lv_topi (fun z4 ez4 => ?_)
            have ez4 : z4 = nI (b + 1) := ez4.trans (nI_1 b)
            subst ez4
            refine va_put (D := (dC, dI)) (ci := 4) (v := .int (nI (b + 1))) (ty := .int) (C := RX4) (T := TX4) (N := 17) (ref := "SortedRunModel") hx hb hts (xg_u mb_uws_X4) tyX4 tyX4_ok nmX4 hown hK hP hD hS 0 rfl rfl 10 (by decide) (xg_w hts mb_fieldLink_RX4_102) (fun _ h9 => h9) rfl (by decide +kernel) rfl rfl (Nat.le_of_ble_eq_true rfl) dX4_isIndex_249 (fun H locs hP hD hS => ?_)
            have hP : va_P (dC, dI) vwCl (xm ad ca kf vf tf (upd fr b (nI (min S 6000))) (upd sf b (nI (min n1 6000))) (upd fi b (pu_u (lN n2)).toInt32) bk bv w ny (nI (b + 1)) mn (nI a2) (nI e9) th op 0) H := hP
            have hD : va_D A (xm ad ca kf vf tf (upd fr b (nI (min S 6000))) (upd sf b (nI (min n1 6000))) (upd fi b (pu_u (lN n2)).toInt32) bk bv w ny (nI (b + 1)) mn (nI a2) (nI e9) th op 0) := hD
            refine lv_lload hx hb dX4_isIndex_252 (lv_at hl 3 rfl) ?_
            refine lv_lconst (v := lN 1) hx hb dX4_isIndex_254 (by decide) ?_
            refine lv_ladd hx hb dX4_isIndex_255 ?_
            refine lv_topl (fun z5 ez5 => ?_)
            have ez5 : z5 = lN (b + 1) := ez5.trans (lN_add b 1)
            subst ez5
            refine lv_lstore hx hb dX4_isIndex_256 hl (by decide) rfl (fun ls hl => ?_)
            have hl : lv_has ls 14 [(8, .long (lN (b + 1))), (6, .long (lN (S + n1))), (12, .long (lN n2)), (10, .long (lN n1)), (4, .long (lN n)), (0, .ref (ad 0)), (3, .int (nI a0))] := hl
            refine lv_goto (tgt := 129) hx hb dX4_isIndex_258 rfl ?_
            refine ih (b + 1) a2 (S + n1) _ _ _ _ _ _ (by omega) (by omega) g4 (by omega) (lv_sub hl [0, 4, 1, 5, 6] rfl) hP hD hS (fun l9 a3 hl9 gr sg gi hkeep hrw H locs ls hl hP hD hS => ?_) (fun hno => kb (by rw [hx3, hno]; rfl))
            have hk9 := hkeep b (Nat.lt_succ_self b)
            rw [pk_us, pk_us, pk_us] at hk9
            have hl2 : lv_has ls 14 [(6, .long (lN (S + px_sum ((n1, n2) :: l9)))), (0, .ref (ad 0)), (3, .int (nI a0))] := by rw [show S + px_sum ((n1, n2) :: l9) = S + n1 + px_sum l9 from (Nat.add_assoc S n1 _).symm]; exact hl
            rw [show b + 1 + l9.length = b + ((n1, n2) :: l9).length by simp; omega] at hP hD
            exact kg ((n1, n2) :: l9) a3 (by rw [hx3, hl9]; rfl) gr sg gi (fun j hj => by have := hkeep j (by omega); rw [pk_un (by omega), pk_un (by omega), pk_un (by omega)] at this; exact this) (pm_rows_cons hk9.1 hk9.2.1 hk9.2.2 hrw) H locs ls hl2 hP hD hS
      · obtain ⟨q1, q2⟩ := hu2
        subst q2
        have hxn : px_rd tf e9 (k + 1) a = none := pm_x2 p1 q1
        refine lv_lstore hx hb dX4_isIndex_154 hl (by decide) rfl (fun ls hl => ?_)
        have hl : lv_has ls 14 [(12, .long r2), (10, .long r1), (8, .long (lN b)), (4, .long (lN n)), (6, .long (lN S)), (0, .ref (ad 0)), (3, .int (nI a0))] := hl
        refine lv_aload_n hx hb dX4_isIndex_156 rfl (lv_at hl 5 rfl) ?_
        refine va_get (D := (dC, dI)) (ci := 4) (v := .int 1) (C := RX4) (T := TX4) (N := 17) (ref := "SortedRunModel") hx hb hts (xg_u mb_uws_X4) hown hK hP 0 rfl rfl 16 (by decide) (xg_w hts mb_fieldLink_RX4_84) (fun _ h9 => h9) rfl dX4_isIndex_157 ?_
        refine lv_if_eq (tgt := 166) hx hb dX4_isIndex_160 rfl (fun hc => absurd hc (by decide)) (fun hc => ?_)
        refine lv_goto (tgt := 261) hx hb dX4_isIndex_163 rfl ?_
        exact kb hxn _ _ _ _ _ _ H locs ls (lv_sub hl [4, 5, 6] rfl) hP hD hS
    · obtain ⟨q1, q2⟩ := hu1
      have hw2 : w2 = 1 := hu2.elim (fun z => by obtain ⟨n9, -, -, -, z4⟩ := z; rw [z4, q2]) (fun z => z.2)
      subst hw2
      have hxn : px_rd tf e9 (k + 1) a = none := pm_x1 q1
      refine lv_lstore hx hb dX4_isIndex_154 hl (by decide) rfl (fun ls hl => ?_)
      have hl : lv_has ls 14 [(12, .long r2), (10, .long r1), (8, .long (lN b)), (4, .long (lN n)), (6, .long (lN S)), (0, .ref (ad 0)), (3, .int (nI a0))] := hl
      refine lv_aload_n hx hb dX4_isIndex_156 rfl (lv_at hl 5 rfl) ?_
      refine va_get (D := (dC, dI)) (ci := 4) (v := .int 1) (C := RX4) (T := TX4) (N := 17) (ref := "SortedRunModel") hx hb hts (xg_u mb_uws_X4) hown hK hP 0 rfl rfl 16 (by decide) (xg_w hts mb_fieldLink_RX4_84) (fun _ h9 => h9) rfl dX4_isIndex_157 ?_
      refine lv_if_eq (tgt := 166) hx hb dX4_isIndex_160 rfl (fun hc => absurd hc (by decide)) (fun hc => ?_)
      refine lv_goto (tgt := 261) hx hb dX4_isIndex_163 rfl ?_
      exact kb hxn _ _ _ _ _ _ H locs ls (lv_sub hl [4, 5, 6] rfl) hP hD hS

set_option maxHeartbeats 4000000 in
set_option maxRecDepth 100000 in
theorem cX4_isIndex_m (l : Launch) (dC : Nat → ClassId) (dI : Nat → Nat → Nat) (ca : Nat → ClassId) (ad : Nat → Nat) (kf : Nat → Int32) (vf : Nat → Int64) (tf : Nat → Int32) (fr : Nat → Int32) (sf : Nat → Int32) (fi : Nat → Int32) (bk : Nat → Int32) (bv : Nat → Int64) (w : Int32) (nb : Int32) (mn : Int32) (ai : Int32) (en : Int32) (th : Int32) (op : Int32) (wr : Int32) (L : Nat) (hL : L ≤ 4889) (hf : pb_fit tf) : ∀ sz : Nat, Met l yX4_isIndex wsX4_isIndex ({ frames := 2, cells := 0, slots := 0, locals := 50 } : Room) (va_Pc [.ref (ad 0)] (xP (dC, dI) (xt ca) (xm ad ca kf vf tf fr sf fi bk bv w (nI L) nb mn ai en th op wr) sz)) (va_Qi (S := (Nat → Int32) × (Nat → Int32) × (Nat → Int32) × Int32 × Int32 × Int32 × Int32) (fun r u => (∃ l9, px_open tf L = some l9 ∧ r = 1 ∧ u.2.2.2.1 = nI l9.length ∧ pm_rows 0 0 l9 u.1 u.2.1 u.2.2.1) ∨ (px_open tf L = none ∧ r = 0)) (fun u t => xB (dC, dI) (xt ca) (va_A (xm ad ca kf vf tf fr sf fi bk bv w (nI L) nb mn ai en th op wr) sz) (xm ad ca kf vf tf u.1 u.2.1 u.2.2.1 bk bv w (nI L) u.2.2.2.1 mn u.2.2.2.2.1 u.2.2.2.2.2.1 th op u.2.2.2.2.2.2) t) (va_A (xm ad ca kf vf tf fr sf fi bk bv w (nI L) nb mn ai en th op wr) sz)) 0 0 (va_A (xm ad ca kf vf tf fr sf fi bk bv w (nI L) nb mn ai en th op wr) sz) := by
  intro sz
  refine Met.ofW (cc := cX4_isIndex) (maxL := 14) (ret := (some .boolean)) (by decide) rfl ?_
  intro p e s m args below meth c s₁ B hml hv
  obtain ⟨rfl, hsz, hP, hK, hD0, hE⟩ := hv
  have hx := B.exec
  have hb := B.bytes
  have hr := B.returns
  have hts := atoms_spec (ws := wsX4_isIndex) B.pre
  have hown : s.vm.findClass RX4 = some m.cls := findClass_of_methodNamed B.named
  have hlocks := B.notSynchronized
  subst hsz
  have hD := hD0.self (sz := s.heap.size)
  generalize hAe : va_A (xm ad ca kf vf tf fr sf fi bk bv w (nI L) nb mn ai en th op wr) s.heap.size = A at hD hE ⊢
  have hA : ∀ q : Nat, s.heap.size ≤ q → A q := fun q h => by rw [← hAe]; exact Or.inr h
  have hS : va_S A s.heap s.heap [] := va_S.rf
  have hl := lv_entry ([.ref (ad 0)]) (n := 14) (Nat.le_of_ble_eq_true rfl)
  rw [lg_entry_eq]
  generalize (lg_sl ([.ref (ad 0)]) ++ List.replicate (14 - (lg_sl ([.ref (ad 0)])).length) Slot.unset).toArray = ls at hl ⊢
  have hl : lv_has ls 14 [(0, .ref (ad 0))] := hl
  refine lv_aload_n hx hb dX4_isIndex_0 rfl (lv_at hl 0 rfl) ?_
  refine va_get (D := (dC, dI)) (ci := 4) (v := .int (nI L)) (C := RX4) (T := TX4) (N := 17) (ref := "SortedRunModel") hx hb hts (xg_u mb_uws_X4) hown hK hP 0 rfl rfl 9 (by decide) (xg_w hts mb_fieldLink_RX4_45) (fun _ h9 => h9) rfl dX4_isIndex_1 ?_
  refine lv_bipush (v := nI 8) hx hb dX4_isIndex_4 (by decide) ?_
  refine lv_icmp_ge (tgt := 11) hx hb dX4_isIndex_6 rfl (fun hc => ?_) (fun hc => ?_)
  · have h8 : 8 ≤ L := (nI_leI (by decide) (by omega)).mp hc
    refine lv_lconst (v := lN (pf_n tf (L - 4) (4 - 4))) hx hb dX4_isIndex_11 (rfl) ?_
    refine lv_lstore_n hx hb dX4_isIndex_12 rfl hl (by decide) rfl (fun ls hl => ?_)
    have hl : lv_has ls 14 [(1, .long (lN (pf_n tf (L - 4) (4 - 4)))), (0, .ref (ad 0))] := hl
    refine lv_iconst (v := nI 4) hx hb dX4_isIndex_13 (by decide) ?_
    refine lv_istore_n hx hb dX4_isIndex_14 rfl hl (by decide) rfl (fun ls hl => ?_)
    have hl : lv_has ls 14 [(3, .int (nI 4)), (1, .long (lN (pf_n tf (L - 4) (4 - 4)))), (0, .ref (ad 0))] := hl
    refine lpX4_isIndex_ft hx hb hml hown hts hK hA hE hL h8 4 _ _ _ (Nat.le_refl _) (lv_sub hl [0, 1, 2] rfl) hP hD hS (fun H locs ls hl hP hD hS => ?_)
    have hpl : (pf_n tf (L - 4) 4) < 256 ^ 4 := pf_n_lt tf (L - 4) 4
    obtain ⟨P9, hP9⟩ : ∃ P9, P9 = (pf_n tf (L - 4) 4) := ⟨_, rfl⟩
    rw [← hP9] at hl hpl
    refine lv_lload_n hx hb dX4_isIndex_47 rfl (lv_at hl 0 rfl) ?_
    refine lv_ldc2 (v := lN 8) hx hb hown (xg_w hts mb_constantLong_RX4_93) dX4_isIndex_48 ?_
    refine lv_ladd hx hb dX4_isIndex_51 ?_
    refine lv_topl (fun z1 ez1 => ?_)
    have ez1 : z1 = lN (P9 + 8) := ez1.trans (lN_add _ _)
    subst ez1
    refine lv_aload_n hx hb dX4_isIndex_52 rfl (lv_at hl 1 rfl) ?_
    refine va_get (D := (dC, dI)) (ci := 4) (v := .int (nI L)) (C := RX4) (T := TX4) (N := 17) (ref := "SortedRunModel") hx hb hts (xg_u mb_uws_X4) hown hK hP 0 rfl rfl 9 (by decide) (xg_w hts mb_fieldLink_RX4_45) (fun _ h9 => h9) rfl dX4_isIndex_53 ?_
    refine lv_i2l (v := lN L) hx hb dX4_isIndex_56 (nI_l (by omega)) ?_
    refine W.lcmp hx hb dX4_isIndex_57 ?_
    refine lv_if_le (tgt := 63) hx hb dX4_isIndex_58 rfl (fun hc2 => ?_) (fun hc2 => ?_)
    · have h9 : P9 + 8 ≤ L := (pk_lLE (by omega) (by omega)).mp (lc_le.mp hc2)
      refine lv_aload_n hx hb dX4_isIndex_63 rfl (lv_at hl 1 rfl) ?_
      refine va_get (D := (dC, dI)) (ci := 4) (v := .int (nI L)) (C := RX4) (T := TX4) (N := 17) (ref := "SortedRunModel") hx hb hts (xg_u mb_uws_X4) hown hK hP 0 rfl rfl 9 (by decide) (xg_w hts mb_fieldLink_RX4_45) (fun _ h9 => h9) rfl dX4_isIndex_64 ?_
      refine lv_bipush (v := nI 8) hx hb dX4_isIndex_67 (by decide) ?_
      refine lv_isub hx hb dX4_isIndex_69 ?_
      refine lv_topi (fun z2 ez2 => ?_)
      have ez2 : z2 = nI (L - 8) := ez2.trans (pk_sub (by omega))
      subst ez2
      refine lv_lload_n hx hb dX4_isIndex_70 rfl (lv_at hl 0 rfl) ?_
      refine lv_l2i (v := nI P9) hx hb dX4_isIndex_71 (lN_i _) ?_
      refine lv_isub hx hb dX4_isIndex_72 ?_
      refine lv_topi (fun z3 ez3 => ?_)
      have ez3 : z3 = nI (L - 8 - P9) := ez3.trans (pk_sub (by omega))
      subst ez3
      refine lv_istore_n hx hb dX4_isIndex_73 rfl hl (by decide) rfl (fun ls hl => ?_)
      have hl : lv_has ls 14 [(3, .int (nI (L - 8 - P9))), (1, .long (lN P9)), (0, .ref (ad 0))] := hl
      refine lv_aload_n hx hb dX4_isIndex_74 rfl (lv_at hl 2 rfl) ?_
      refine lv_iload_n hx hb dX4_isIndex_75 rfl (lv_at hl 0 rfl) ?_
      refine lv_aload_n hx hb dX4_isIndex_76 rfl (lv_at hl 2 rfl) ?_
      refine va_get (D := (dC, dI)) (ci := 4) (v := .int (nI L)) (C := RX4) (T := TX4) (N := 17) (ref := "SortedRunModel") hx hb hts (xg_u mb_uws_X4) hown hK hP 0 rfl rfl 9 (by decide) (xg_w hts mb_fieldLink_RX4_45) (fun _ h9 => h9) rfl dX4_isIndex_77 ?_
      refine lv_bipush (v := nI 8) hx hb dX4_isIndex_80 (by decide) ?_
      refine lv_isub hx hb dX4_isIndex_82 ?_
      refine lv_topi (fun z4 ez4 => ?_)
      have ez4 : z4 = nI (L - 8) := ez4.trans (pk_sub (by omega))
      subst ez4
      refine xk_i (va_runV (As := [.int (nI (L - 8 - P9)), .int (nI (L - 8))]) (rest := []) ⟨hx, hb, hml, hown, hts⟩ (cX4_isSealed_m l dC dI ca ad kf vf tf fr sf fi bk bv w (nI L) nb mn ai en th op wr (L - 8 - P9) (L - 8) (by omega) (by omega) hf _) (cwV 2 hts (xg_V mb_methodLink_RX4_95 mb_instanceMethod_yX4_isSealed mb_selects_yX4_isSealed mb_initialized_RX4 mb_code_yX4_isSealed) rfl rfl rfl ⟨rfl, by decide, by decide, by decide +kernel⟩ ⟨Nat.le_of_ble_eq_true rfl, Nat.le_of_ble_eq_true rfl⟩) (xpreV (va_recv (q0 := 0) hK hP rfl rfl) hK hP hD hS hA hE) rfl rfl hl.1 rfl (lv_room (Nat.le_of_ble_eq_true rfl)) dX4_isIndex_83 ⟨Nat.le_of_ble_eq_true rfl, Nat.le_of_ble_eq_true rfl⟩) hD hS hA (fun r u H locs hu hP hD hS => ?_)
      have hP : va_P (dC, dI) vwCl (xm ad ca kf vf tf fr sf fi bk bv w (nI L) nb mn ai en th op wr) H := hP
      have hD : va_D A (xm ad ca kf vf tf fr sf fi bk bv w (nI L) nb mn ai en th op wr) := hD
      rcases hu with hu | hu
      · obtain ⟨rfl, hh⟩ := hu
        have hop := pm_open hP9 h8 (by omega) hh
        refine lv_if_ne (tgt := 91) hx hb dX4_isIndex_86 rfl (fun hc => ?_) (fun hc => absurd hc (by decide))
        refine lv_aload_n hx hb dX4_isIndex_91 rfl (lv_at hl 2 rfl) ?_
        refine lv_iload_n hx hb dX4_isIndex_92 rfl (lv_at hl 0 rfl) ?_
        refine va_put (D := (dC, dI)) (ci := 4) (v := .int (nI (L - 8 - P9))) (ty := .int) (C := RX4) (T := TX4) (N := 17) (ref := "SortedRunModel") hx hb hts (xg_u mb_uws_X4) tyX4 tyX4_ok nmX4 hown hK hP hD hS 0 rfl rfl 12 (by decide) (xg_w hts mb_fieldLink_RX4_78) (fun _ h9 => h9) rfl (by decide +kernel) rfl rfl (Nat.le_of_ble_eq_true rfl) dX4_isIndex_93 (fun H locs hP hD hS => ?_)
        have hP : va_P (dC, dI) vwCl (xm ad ca kf vf tf fr sf fi bk bv w (nI L) nb mn (nI (L - 8 - P9)) en th op wr) H := hP
        have hD : va_D A (xm ad ca kf vf tf fr sf fi bk bv w (nI L) nb mn (nI (L - 8 - P9)) en th op wr) := hD
        refine lv_aload_n hx hb dX4_isIndex_96 rfl (lv_at hl 2 rfl) ?_
        refine lv_aload_n hx hb dX4_isIndex_97 rfl (lv_at hl 2 rfl) ?_
        refine va_get (D := (dC, dI)) (ci := 4) (v := .int (nI L)) (C := RX4) (T := TX4) (N := 17) (ref := "SortedRunModel") hx hb hts (xg_u mb_uws_X4) hown hK hP 0 rfl rfl 9 (by decide) (xg_w hts mb_fieldLink_RX4_45) (fun _ h9 => h9) rfl dX4_isIndex_98 ?_
        refine lv_bipush (v := nI 8) hx hb dX4_isIndex_101 (by decide) ?_
        refine lv_isub hx hb dX4_isIndex_103 ?_
        refine lv_topi (fun z5 ez5 => ?_)
        have ez5 : z5 = nI (L - 8) := ez5.trans (pk_sub (by omega))
        subst ez5
        refine va_put (D := (dC, dI)) (ci := 4) (v := .int (nI (L - 8))) (ty := .int) (C := RX4) (T := TX4) (N := 17) (ref := "SortedRunModel") hx hb hts (xg_u mb_uws_X4) tyX4 tyX4_ok nmX4 hown hK hP hD hS 0 rfl rfl 13 (by decide) (xg_w hts mb_fieldLink_RX4_81) (fun _ h9 => h9) rfl (by decide +kernel) rfl rfl (Nat.le_of_ble_eq_true rfl) dX4_isIndex_104 (fun H locs hP hD hS => ?_)
        have hP : va_P (dC, dI) vwCl (xm ad ca kf vf tf fr sf fi bk bv w (nI L) nb mn (nI (L - 8 - P9)) (nI (L - 8)) th op wr) H := hP
        have hD : va_D A (xm ad ca kf vf tf fr sf fi bk bv w (nI L) nb mn (nI (L - 8 - P9)) (nI (L - 8)) th op wr) := hD
        refine lv_aload_n hx hb dX4_isIndex_107 rfl (lv_at hl 2 rfl) ?_
        refine lv_iconst (v := 0) hx hb dX4_isIndex_108 (by decide) ?_
        refine va_put (D := (dC, dI)) (ci := 4) (v := .int 0) (ty := .boolean) (C := RX4) (T := TX4) (N := 17) (ref := "SortedRunModel") hx hb hts (xg_u mb_uws_X4) tyX4 tyX4_ok nmX4 hown hK hP hD hS 0 rfl rfl 16 (by decide) (xg_w hts mb_fieldLink_RX4_84) (fun _ h9 => h9) rfl (by decide +kernel) rfl rfl (Nat.le_of_ble_eq_true rfl) dX4_isIndex_109 (fun H locs hP hD hS => ?_)
        have hP : va_P (dC, dI) vwCl (xm ad ca kf vf tf fr sf fi bk bv w (nI L) nb mn (nI (L - 8 - P9)) (nI (L - 8)) th op 0) H := hP
        have hD : va_D A (xm ad ca kf vf tf fr sf fi bk bv w (nI L) nb mn (nI (L - 8 - P9)) (nI (L - 8)) th op 0) := hD
        refine lv_aload_n hx hb dX4_isIndex_112 rfl (lv_at hl 2 rfl) ?_
        refine xk_l (va_runV (As := []) (rest := []) ⟨hx, hb, hml, hown, hts⟩ (cX4_small_m l dC dI ca ad kf vf tf fr sf fi bk bv w (nI L) nb mn th op 0 (L - 8 - P9) (L - 8) (by omega) (by omega) hf _) (cwV 0 hts (xg_V mb_methodLink_RX4_99 mb_instanceMethod_yX4_small mb_selects_yX4_small mb_initialized_RX4 mb_code_yX4_small) rfl rfl rfl ⟨rfl, by decide, by decide, by decide +kernel⟩ ⟨Nat.le_of_ble_eq_true rfl, Nat.le_of_ble_eq_true rfl⟩) (xpreV (va_recv (q0 := 0) hK hP rfl rfl) hK hP hD hS hA hE) rfl rfl hl.1 rfl (lv_room (Nat.le_of_ble_eq_true rfl)) dX4_isIndex_113 ⟨Nat.le_of_ble_eq_true rfl, Nat.le_of_ble_eq_true rfl⟩) hD hS hA (fun r1 u H locs hu1 hP hD hS => ?_)
        have hP : va_P (dC, dI) vwCl (xm ad ca kf vf tf fr sf fi bk bv w (nI L) nb mn (nI u.1) (nI (L - 8)) th op u.2) H := hP
        have hD : va_D A (xm ad ca kf vf tf fr sf fi bk bv w (nI L) nb mn (nI u.1) (nI (L - 8)) th op u.2) := hD
        obtain ⟨a1, w1⟩ := u
        obtain ⟨g1, g2, hu1⟩ := hu1
        dsimp only at g1 g2 hu1 hP hD
        rcases hu1 with hu1 | hu1
        · obtain ⟨n, p1, p2, rfl, rfl⟩ := hu1
          have hin1 := pb_rd_in p1
          rw [p1] at hop
          simp only at hop
          refine lv_lstore hx hb dX4_isIndex_116 hl (by decide) rfl (fun ls hl => ?_)
          have hl : lv_has ls 14 [(4, .long (lN n)), (3, .int (nI (L - 8 - P9))), (1, .long (lN P9)), (0, .ref (ad 0))] := hl
          refine lv_lconst (v := lN 0) hx hb dX4_isIndex_118 (by decide) ?_
          refine lv_lstore hx hb dX4_isIndex_119 hl (by decide) rfl (fun ls hl => ?_)
          have hl : lv_has ls 14 [(6, .long (lN 0)), (4, .long (lN n)), (3, .int (nI (L - 8 - P9))), (1, .long (lN P9)), (0, .ref (ad 0))] := hl
          refine lv_aload_n hx hb dX4_isIndex_121 rfl (lv_at hl 4 rfl) ?_
          refine lv_iconst (v := nI 0) hx hb dX4_isIndex_122 (by decide) ?_
          refine va_put (D := (dC, dI)) (ci := 4) (v := .int (nI 0)) (ty := .int) (C := RX4) (T := TX4) (N := 17) (ref := "SortedRunModel") hx hb hts (xg_u mb_uws_X4) tyX4 tyX4_ok nmX4 hown hK hP hD hS 0 rfl rfl 10 (by decide) (xg_w hts mb_fieldLink_RX4_102) (fun _ h9 => h9) rfl (by decide +kernel) rfl rfl (Nat.le_of_ble_eq_true rfl) dX4_isIndex_123 (fun H locs hP hD hS => ?_)
          have hP : va_P (dC, dI) vwCl (xm ad ca kf vf tf fr sf fi bk bv w (nI L) (nI 0) mn (nI a1) (nI (L - 8)) th op 0) H := hP
          have hD : va_D A (xm ad ca kf vf tf fr sf fi bk bv w (nI L) (nI 0) mn (nI a1) (nI (L - 8)) th op 0) := hD
          refine lv_lconst (v := lN 0) hx hb dX4_isIndex_126 (by decide) ?_
          refine lv_lstore hx hb dX4_isIndex_127 hl (by decide) rfl (fun ls hl => ?_)
          have hl : lv_has ls 14 [(8, .long (lN 0)), (6, .long (lN 0)), (4, .long (lN n)), (3, .int (nI (L - 8 - P9))), (1, .long (lN P9)), (0, .ref (ad 0))] := hl
          refine lpX4_isIndex_ix hx hb hml hown hts hK hA hE (e9 := L - 8) (n := n) (a0 := L - 8 - P9) (by omega) p2 hf n 0 a1 0 fr sf fi _ _ _ (by omega) (by omega) g2 (by omega) (lv_sub hl [0, 2, 1, 5, 3] rfl) hP hD hS ?_ ?_
          · intro l9 a2 hl9 gr sg gi _ hrw H locs ls hl hP hD hS
            have hin3 := px_rd_in _ _ _ _ hl9
            have ha2 := hin3.2.2 g2
            rw [hl9] at hop
            simp only at hop
            rw [Nat.zero_add] at hl hP hD
            refine lv_aload_n hx hb dX4_isIndex_261 rfl (lv_at hl 1 rfl) ?_
            refine va_get (D := (dC, dI)) (ci := 4) (v := .int 0) (C := RX4) (T := TX4) (N := 17) (ref := "SortedRunModel") hx hb hts (xg_u mb_uws_X4) hown hK hP 0 rfl rfl 16 (by decide) (xg_w hts mb_fieldLink_RX4_84) (fun _ h9 => h9) rfl dX4_isIndex_262 ?_
            refine lv_if_ne (tgt := 291) hx hb dX4_isIndex_265 rfl (fun hc => absurd hc (not_not_intro rfl)) (fun hc => ?_)
            refine lv_aload_n hx hb dX4_isIndex_268 rfl (lv_at hl 1 rfl) ?_
            refine va_get (D := (dC, dI)) (ci := 4) (v := .int (nI a2)) (C := RX4) (T := TX4) (N := 17) (ref := "SortedRunModel") hx hb hts (xg_u mb_uws_X4) hown hK hP 0 rfl rfl 12 (by decide) (xg_w hts mb_fieldLink_RX4_78) (fun _ h9 => h9) rfl dX4_isIndex_269 ?_
            refine lv_aload_n hx hb dX4_isIndex_272 rfl (lv_at hl 1 rfl) ?_
            refine va_get (D := (dC, dI)) (ci := 4) (v := .int (nI (L - 8))) (C := RX4) (T := TX4) (N := 17) (ref := "SortedRunModel") hx hb hts (xg_u mb_uws_X4) hown hK hP 0 rfl rfl 13 (by decide) (xg_w hts mb_fieldLink_RX4_81) (fun _ h9 => h9) rfl dX4_isIndex_273 ?_
            refine lv_icmp_ne (tgt := 291) hx hb dX4_isIndex_276 rfl (fun hc9 => ?_) (fun hc9 => ?_)
            · refine lv_iconst (v := 0) hx hb dX4_isIndex_291 (by decide) ?_
              rw [if_neg (fun y => hc9 (congrArg nI y.1))] at hop
              have hP9 := hP
              have hD9 := hD
              exact W.zret (v := 0) hx hb hr (by rfl) (fun t ht hW => ⟨⟨0, (gr, sg, gi, nI l9.length, nI a2, nI (L - 8), 0), rfl, Or.inr ⟨hop, rfl⟩, by rw [ht]; exact hP9, va_K.moved hW.alike hK, hD9⟩, hS.F ht⟩) hS.2.2 dX4_isIndex_292
            · have ea2 : a2 = L - 8 := (nI_eq (by omega) (by omega)).mp hc9
              refine lv_lload hx hb dX4_isIndex_279 (lv_at hl 0 rfl) ?_
              refine lv_iload_n hx hb dX4_isIndex_281 rfl (lv_at hl 2 rfl) ?_
              refine lv_i2l (v := lN (L - 8 - P9)) hx hb dX4_isIndex_282 (nI_l (by omega)) ?_
              refine W.lcmp hx hb dX4_isIndex_283 ?_
              refine lv_if_ne (tgt := 291) hx hb dX4_isIndex_284 rfl (fun hc3 => ?_) (fun hc3 => ?_)
              · refine lv_iconst (v := 0) hx hb dX4_isIndex_291 (by decide) ?_
                rw [if_neg (fun y => hc3 (lc_eq.mpr (congrArg lN y.2)))] at hop
                have hP9 := hP
                have hD9 := hD
                exact W.zret (v := 0) hx hb hr (by rfl) (fun t ht hW => ⟨⟨0, (gr, sg, gi, nI l9.length, nI a2, nI (L - 8), 0), rfl, Or.inr ⟨hop, rfl⟩, by rw [ht]; exact hP9, va_K.moved hW.alike hK, hD9⟩, hS.F ht⟩) hS.2.2 dX4_isIndex_292
              · have hsm := pm_sum_lt hl9
                have es : px_sum l9 = L - 8 - P9 := (pk_lEQ (by omega) (by omega)).mp (lc_eq.mp hc3)
                refine lv_iconst (v := 1) hx hb dX4_isIndex_287 (by decide) ?_
                refine lv_goto (tgt := 292) hx hb dX4_isIndex_288 rfl ?_
                rw [if_pos ⟨ea2, es⟩] at hop
                have hP9 := hP
                have hD9 := hD
                exact W.zret (v := 1) hx hb hr (by rfl) (fun t ht hW => ⟨⟨1, (gr, sg, gi, nI l9.length, nI a2, nI (L - 8), 0), rfl, Or.inl ⟨l9, hop, rfl, rfl, hrw⟩, by rw [ht]; exact hP9, va_K.moved hW.alike hK, hD9⟩, hS.F ht⟩) hS.2.2 dX4_isIndex_292
          · intro hl9 gr sg gi x1 x2 x3 H locs ls hl hP hD hS
            rw [hl9] at hop
            refine lv_aload_n hx hb dX4_isIndex_261 rfl (lv_at hl 1 rfl) ?_
            refine va_get (D := (dC, dI)) (ci := 4) (v := .int 1) (C := RX4) (T := TX4) (N := 17) (ref := "SortedRunModel") hx hb hts (xg_u mb_uws_X4) hown hK hP 0 rfl rfl 16 (by decide) (xg_w hts mb_fieldLink_RX4_84) (fun _ h9 => h9) rfl dX4_isIndex_262 ?_
            refine lv_if_ne (tgt := 291) hx hb dX4_isIndex_265 rfl (fun hc => ?_) (fun hc => absurd hc (by decide))
            refine lv_iconst (v := 0) hx hb dX4_isIndex_291 (by decide) ?_
            have hP9 := hP
            have hD9 := hD
            exact W.zret (v := 0) hx hb hr (by rfl) (fun t ht hW => ⟨⟨0, (gr, sg, gi, x1, x2, nI (L - 8), 1), rfl, Or.inr ⟨hop, rfl⟩, by rw [ht]; exact hP9, va_K.moved hW.alike hK, hD9⟩, hS.F ht⟩) hS.2.2 dX4_isIndex_292
        · obtain ⟨q1, rfl⟩ := hu1
          have hno : px_open tf L = none := by
            rw [hop]
            cases hq : pb_rd tf (L - 8) (L - 8 - P9) with
            | none => rfl
            | some q =>
              obtain ⟨n9, a9⟩ := q
              have := pb_rd_in hq
              have := q1 n9 a9 hq
              simp only [pm_xbig (f := tf) (e := L - 8) (n := n9) (a := a9) (by omega) (by omega)]
          refine lv_lstore hx hb dX4_isIndex_116 hl (by decide) rfl (fun ls hl => ?_)
          have hl : lv_has ls 14 [(4, .long r1), (3, .int (nI (L - 8 - P9))), (1, .long (lN P9)), (0, .ref (ad 0))] := hl
          refine lv_lconst (v := 0) hx hb dX4_isIndex_118 (by decide) ?_
          refine lv_lstore hx hb dX4_isIndex_119 hl (by decide) rfl (fun ls hl => ?_)
          have hl : lv_has ls 14 [(6, .long 0), (4, .long r1), (3, .int (nI (L - 8 - P9))), (1, .long (lN P9)), (0, .ref (ad 0))] := hl
          refine lv_aload_n hx hb dX4_isIndex_121 rfl (lv_at hl 4 rfl) ?_
          refine lv_iconst (v := 0) hx hb dX4_isIndex_122 (by decide) ?_
          refine va_put (D := (dC, dI)) (ci := 4) (v := .int 0) (ty := .int) (C := RX4) (T := TX4) (N := 17) (ref := "SortedRunModel") hx hb hts (xg_u mb_uws_X4) tyX4 tyX4_ok nmX4 hown hK hP hD hS 0 rfl rfl 10 (by decide) (xg_w hts mb_fieldLink_RX4_102) (fun _ h9 => h9) rfl (by decide +kernel) rfl rfl (Nat.le_of_ble_eq_true rfl) dX4_isIndex_123 (fun H locs hP hD hS => ?_)
          have hP : va_P (dC, dI) vwCl (xm ad ca kf vf tf fr sf fi bk bv w (nI L) 0 mn (nI a1) (nI (L - 8)) th op 1) H := hP
          have hD : va_D A (xm ad ca kf vf tf fr sf fi bk bv w (nI L) 0 mn (nI a1) (nI (L - 8)) th op 1) := hD
          refine lv_lconst (v := 0) hx hb dX4_isIndex_126 (by decide) ?_
          refine lv_lstore hx hb dX4_isIndex_127 hl (by decide) rfl (fun ls hl => ?_)
          have hl : lv_has ls 14 [(8, .long 0), (6, .long 0), (4, .long r1), (3, .int (nI (L - 8 - P9))), (1, .long (lN P9)), (0, .ref (ad 0))] := hl
          refine lv_lload hx hb dX4_isIndex_129 (lv_at hl 0 rfl) ?_
          refine lv_lload hx hb dX4_isIndex_131 (lv_at hl 2 rfl) ?_
          refine W.lcmp hx hb dX4_isIndex_133 ?_
          refine lv_if_ge (tgt := 261) hx hb dX4_isIndex_134 rfl (fun hc7 => ?_) (fun hc7 => ?_)
          · refine lv_aload_n hx hb dX4_isIndex_261 rfl (lv_at hl 5 rfl) ?_
            refine va_get (D := (dC, dI)) (ci := 4) (v := .int 1) (C := RX4) (T := TX4) (N := 17) (ref := "SortedRunModel") hx hb hts (xg_u mb_uws_X4) hown hK hP 0 rfl rfl 16 (by decide) (xg_w hts mb_fieldLink_RX4_84) (fun _ h9 => h9) rfl dX4_isIndex_262 ?_
            refine lv_if_ne (tgt := 291) hx hb dX4_isIndex_265 rfl (fun hc => ?_) (fun hc => absurd hc (by decide))
            refine lv_iconst (v := 0) hx hb dX4_isIndex_291 (by decide) ?_
            have hP9 := hP
            have hD9 := hD
            exact W.zret (v := 0) hx hb hr (by rfl) (fun t ht hW => ⟨⟨0, (fr, sf, fi, 0, nI a1, nI (L - 8), 1), rfl, Or.inr ⟨hno, rfl⟩, by rw [ht]; exact hP9, va_K.moved hW.alike hK, hD9⟩, hS.F ht⟩) hS.2.2 dX4_isIndex_292
          · refine lv_aload_n hx hb dX4_isIndex_137 rfl (lv_at hl 5 rfl) ?_
            refine va_get (D := (dC, dI)) (ci := 4) (v := .int 1) (C := RX4) (T := TX4) (N := 17) (ref := "SortedRunModel") hx hb hts (xg_u mb_uws_X4) hown hK hP 0 rfl rfl 16 (by decide) (xg_w hts mb_fieldLink_RX4_84) (fun _ h9 => h9) rfl dX4_isIndex_138 ?_
            refine lv_if_ne (tgt := 261) hx hb dX4_isIndex_141 rfl (fun hc8 => ?_) (fun hc8 => absurd hc8 (by decide))
            refine lv_aload_n hx hb dX4_isIndex_261 rfl (lv_at hl 5 rfl) ?_
            refine va_get (D := (dC, dI)) (ci := 4) (v := .int 1) (C := RX4) (T := TX4) (N := 17) (ref := "SortedRunModel") hx hb hts (xg_u mb_uws_X4) hown hK hP 0 rfl rfl 16 (by decide) (xg_w hts mb_fieldLink_RX4_84) (fun _ h9 => h9) rfl dX4_isIndex_262 ?_
            refine lv_if_ne (tgt := 291) hx hb dX4_isIndex_265 rfl (fun hc => ?_) (fun hc => absurd hc (by decide))
            refine lv_iconst (v := 0) hx hb dX4_isIndex_291 (by decide) ?_
            have hP9 := hP
            have hD9 := hD
            exact W.zret (v := 0) hx hb hr (by rfl) (fun t ht hW => ⟨⟨0, (fr, sf, fi, 0, nI a1, nI (L - 8), 1), rfl, Or.inr ⟨hno, rfl⟩, by rw [ht]; exact hP9, va_K.moved hW.alike hK, hD9⟩, hS.F ht⟩) hS.2.2 dX4_isIndex_292
      · obtain ⟨rfl, hh⟩ := hu
        refine lv_if_ne (tgt := 91) hx hb dX4_isIndex_86 rfl (fun hc => absurd hc (not_not_intro rfl)) (fun hc => ?_)
        have hno : px_open tf L = none := pm_open_no hP9 (fun y => hh y.2.2)
        refine lv_iconst (v := 0) hx hb dX4_isIndex_89 (by decide) ?_
        have hP9 := hP
        have hD9 := hD
        exact W.zret (v := 0) hx hb hr (by rfl) (fun t ht hW => ⟨⟨0, (fr, sf, fi, nb, ai, en, wr), rfl, Or.inr ⟨hno, rfl⟩, by rw [ht]; exact hP9, va_K.moved hW.alike hK, hD9⟩, hS.F ht⟩) hS.2.2 dX4_isIndex_90
    · have hno : px_open tf L = none := pm_open_no hP9 (fun y => hc2 (lc_le.mpr ((pk_lLE (by omega) (by omega)).mpr (by omega))))
      refine lv_iconst (v := 0) hx hb dX4_isIndex_61 (by decide) ?_
      have hP9 := hP
      have hD9 := hD
      exact W.zret (v := 0) hx hb hr (by rfl) (fun t ht hW => ⟨⟨0, (fr, sf, fi, nb, ai, en, wr), rfl, Or.inr ⟨hno, rfl⟩, by rw [ht]; exact hP9, va_K.moved hW.alike hK, hD9⟩, hS.F ht⟩) hS.2.2 dX4_isIndex_62
  · have hno : px_open tf L = none := pm_open_no (P := (pf_n tf (L - 4) 4)) rfl (fun z => hc (nI_le z.1 (by omega)))
    refine lv_iconst (v := 0) hx hb dX4_isIndex_9 (by decide) ?_
    have hP9 := hP
    have hD9 := hD
    exact W.zret (v := 0) hx hb hr (by rfl) (fun t ht hW => ⟨⟨0, (fr, sf, fi, nb, ai, en, wr), rfl, Or.inr ⟨hno, rfl⟩, by rw [ht]; exact hP9, va_K.moved hW.alike hK, hD9⟩, hS.F ht⟩) hS.2.2 dX4_isIndex_10
