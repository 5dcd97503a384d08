/-! the model's world: the cells ad 0 .. ad 8 -/
abbrev xm (ad : Nat → Nat) (ca : Nat → ClassId) (kf : Nat → Int32) (vf : Nat → Int64) (tf fr sf fi bk : Nat → Int32) (bv : Nat → Int64) (w ny nb mn ai en th op wr : Int32) : va_W :=
  [(ad 0, .inr (4, [.ref (ad 1), .ref (ad 2), .ref (ad 3), .ref (ad 4), .ref (ad 5), .ref (ad 6), .ref (ad 7), .ref (ad 8), .int w, .int ny, .int nb, .int mn, .int ai, .int en, .int th, .int op, .int wr])),
   (ad 1, .inl (ca 0, 300, .inl kf)), (ad 2, .inl (ca 1, 300, .inr (.inl vf))), (ad 3, .inl (ca 2, 6000, .inl tf)), (ad 4, .inl (ca 3, 6000, .inl fr)), (ad 5, .inl (ca 4, 6000, .inl sf)), (ad 6, .inl (ca 5, 6000, .inl fi)), (ad 7, .inl (ca 6, 6000, .inl bk)), (ad 8, .inl (ca 7, 6000, .inr (.inl bv)))]
theorem pm_vb (n : Nat) : vp_nar .byte (sb_b n) = sb_b n := by unfold sb_b; rw [pk_vb]
theorem pm_M_lt (b : Nat) {c : Nat} (h : c < 2 ^ 32) : ∀ k, pb_M b k c < 2 ^ 32
  | 0 => h
  | k + 1 => by
    show (pb_M b k c / 2) ^^^ (if (b / 2 ^ k + pb_M b k c) % 2 = 1 then 3988292384 else 0) < 2 ^ 32
    apply Nat.xor_lt_two_pow
    · have := pm_M_lt b h k
      omega
    · split <;> decide
/-! SortedRunModel: numbers and sums (rows by wip/whole/wmod1.py) -/
set_option maxHeartbeats 4000000 in
set_option maxRecDepth 100000 in
theorem lpX4_number_lay {p : Program} {l : Launch} {e : Env} {s : State} {m : MethodId} {args : Array Value} {below : List Frame} {meth : Method} {c : Code} {Q : State → Prop} {A : Nat → Prop} {dC : Nat → ClassId} {dI : Nat → Nat → Nat} {ca : Nat → ClassId} {ad : Nat → Nat} (hx : p.tables.exec = Jvm.exec) (hb : c.code = cX4_number) (hml : c.maxLocals = 5) (hown : s.vm.findClass RX4 = some m.cls) (hts : ∀ w ∈ wsX4_number, w.before args s = true) (hK : va_K (dC, dI) vwCl (xt ca) s) (hA : ∀ q : Nat, s.heap.size ≤ q → A q) (hE : xn_E A s) {kf : Nat → Int32} {vf : Nat → Int64} {fr : Nat → Int32} {sf : Nat → Int32} {fi : Nat → Int32} {bk : Nat → Int32} {bv : Nat → Int64} {w : Int32} {nb : Int32} {mn : Int32} {ai : Int32} {en : Int32} {th : Int32} {op : Int32} {wr : Int32} : ∀ (k : Nat) (L n : Nat) (tf : Nat → Int32) (H : Heap) (locs : List Loc) (ls : Array Slot), n < 2 ^ (7 * (k + 1)) → n < 2 ^ 64 → L + pl_n k n ≤ 6000 → lv_has ls 5 [(3, .long (lN n)), (0, .ref (ad 0))] → va_P (dC, dI) vwCl (xm ad ca kf vf tf fr sf fi bk bv w (nI L) nb mn ai en th op wr) H → va_D A (xm ad ca kf vf tf fr sf fi bk bv w (nI L) nb mn ai en th op wr) → va_S A s.heap H locs → (∀ (H : Heap) (locs : List Loc) (ls : Array Slot), va_P (dC, dI) vwCl (xm ad ca kf vf (pl_f tf k L n) fr sf fi bk bv w (nI (L + pl_n k n)) nb mn ai en th op wr) H → va_D A (xm ad ca kf vf (pl_f tf k L n) fr sf fi bk bv w (nI (L + pl_n k n)) nb mn ai en th op wr) → va_S A s.heap H locs → W p l e ({ frames := 0, cells := 0, slots := 0, locals := 0 } : Room) s m args below meth c H locs 0 0 Q (F0 m 70 ls [])) → W p l e ({ frames := 0, cells := 0, slots := 0, locals := 0 } : Room) s m args below meth c H locs 0 0 Q (F0 m 2 ls []) := by
  intro k
  induction k with
  | zero =>
    intro L n tf H locs ls hk hn hL hl hP hD hS kk
    have hl : lv_has ls 5 [(3, .long (lN n)), (0, .ref (ad 0))] := hl
    have hL1 : L + 1 ≤ 6000 := hL
    have hn0 : n < 128 := hk
    have hsm : ¬ (lN n < 0 ∨ lN 127 < lN n) := fun z => absurd ((pm_big hn).mp z) (by omega)
    refine lv_lload_n hx hb dX4_number_2 rfl (lv_at hl 0 rfl) ?_
    refine lv_lconst (v := 0) hx hb dX4_number_3 (by decide) ?_
    refine W.lcmp hx hb dX4_number_4 ?_
    refine lv_if_lt (tgt := 16) hx hb dX4_number_5 rfl (fun hc => absurd hc (fun z => hsm (Or.inl (lc_lt.mp z)))) (fun hc => ?_)
    refine lv_lload_n hx hb dX4_number_8 rfl (lv_at hl 0 rfl) ?_
    refine lv_ldc2 (v := lN 127) hx hb hown (xg_w hts mb_constantLong_RX4_43) dX4_number_9 ?_
    refine W.lcmp hx hb dX4_number_12 ?_
    refine lv_if_le (tgt := 51) hx hb dX4_number_13 rfl (fun hc => ?_) (fun hc => absurd hc (not_not_intro (lc_le.mpr (Int64.not_lt.mp (fun z => hsm (Or.inr z))))))
    refine lv_aload_n hx hb dX4_number_51 rfl (lv_at hl 1 rfl) ?_
    refine va_get (D := (dC, dI)) (ci := 4) (v := .ref (ad 3)) (C := RX4) (T := TX4) (N := 17) (ref := "SortedRunModel") hx hb hts (xg_u mb_uws_X4) hown hK hP 0 rfl rfl 2 (by decide) (xg_w hts mb_fieldLink_RX4_17) (fun _ h9 => h9) rfl dX4_number_52 ?_
    refine lv_aload_n hx hb dX4_number_55 rfl (lv_at hl 1 rfl) ?_
    refine lv_dup hx hb dX4_number_56 rfl ?_
    refine va_get (D := (dC, dI)) (ci := 4) (v := .int (nI L)) (C := RX4) (T := TX4) (N := 17) (ref := "SortedRunModel") hx hb hts (xg_u mb_uws_X4) hown hK hP 0 rfl rfl 9 (by decide) (xg_w hts mb_fieldLink_RX4_45) (fun _ h9 => h9) rfl dX4_number_57 ?_
    refine lv_dup_x1 hx hb dX4_number_60 rfl rfl ?_
    refine lv_iconst (v := 1) hx hb dX4_number_61 (by decide) ?_
    refine lv_iadd hx hb dX4_number_62 ?_
    refine lv_topi (fun z1 ez1 => ?_)
    have ez1 : z1 = nI (L + 1) := ez1.trans (nI_1 (L))
    subst ez1
    refine va_put (D := (dC, dI)) (ci := 4) (v := .int (nI (L + 1))) (ty := .int) (C := RX4) (T := TX4) (N := 17) (ref := "SortedRunModel") hx hb hts (xg_u mb_uws_X4) tyX4 tyX4_ok nmX4 hown hK hP hD hS 0 rfl rfl 9 (by decide) (xg_w hts mb_fieldLink_RX4_45) (fun _ h9 => h9) rfl (by decide +kernel) rfl rfl (Nat.le_of_ble_eq_true rfl) dX4_number_63 (fun H locs hP hD hS => ?_)
    have hP : va_P (dC, dI) vwCl (xm ad ca kf vf tf fr sf fi bk bv w (nI (L + 1)) nb mn ai en th op wr) H := hP
    have hD : va_D A (xm ad ca kf vf tf fr sf fi bk bv w (nI (L + 1)) nb mn ai en th op wr) := hD
    refine lv_lload_n hx hb dX4_number_66 rfl (lv_at hl 0 rfl) ?_
    refine lv_l2i (v := nI n) hx hb dX4_number_67 (lN_i n) ?_
    refine lv_i2b (v := (nI n).toInt8.toInt32) hx hb dX4_number_68 (rfl) ?_
    refine va_bast hx hb hK hP hD hS 3 2 rfl rfl (vp_in_nI (by omega) (by decide)) dX4_number_69 (fun H locs hP hD hS => ?_)
    have e9 : upd tf (nI L).toNatClampNeg (vp_nar .byte ((nI n).toInt8.toInt32)) = upd tf L (sb_b n) := by rw [nI_clamp (by omega), pk_vb]; rfl
    rw [e9] at hP hD
    clear e9
    have hP : va_P (dC, dI) vwCl (xm ad ca kf vf (upd tf L (sb_b n)) fr sf fi bk bv w (nI (L + 1)) nb mn ai en th op wr) H := hP
    have hD : va_D A (xm ad ca kf vf (upd tf L (sb_b n)) fr sf fi bk bv w (nI (L + 1)) nb mn ai en th op wr) := hD
    have e1 : pl_n 0 n = 1 := rfl
    have e2 : pl_f tf 0 L n = upd tf L (sb_b n) := rfl
    rw [e1, e2] at kk
    exact kk H locs ls hP hD hS
  | succ k ih =>
    intro L n tf H locs ls hk hn hL hl hP hD hS kk
    have hl : lv_has ls 5 [(3, .long (lN n)), (0, .ref (ad 0))] := hl
    have hL1 : L + 1 ≤ 6000 := Nat.le_trans (Nat.add_le_add_left (pl_n_pos _ _) L) hL
    by_cases hq : 128 ≤ n
    · have hbg := (pm_big hn).mpr hq
      refine lv_lload_n hx hb dX4_number_2 rfl (lv_at hl 0 rfl) ?_
      refine lv_lconst (v := 0) hx hb dX4_number_3 (by decide) ?_
      refine W.lcmp hx hb dX4_number_4 ?_
      refine lv_if_lt (tgt := 16) hx hb dX4_number_5 rfl (fun hc => ?_) (fun hc => ?_)
      · have e1 : pl_n (k + 1) n = pl_n k (n / 128) + 1 := by conv => lhs; unfold pl_n; rw [if_pos (by omega : 128 ≤ n)]
        have e2 : pl_f tf (k + 1) L n = pl_f (upd tf L (sb_b (n % 128 + 128))) k (L + 1) (n / 128) := by conv => lhs; unfold pl_f; rw [if_pos (by omega : 128 ≤ n)]
        rw [e1] at hL
        rw [e1, e2] at kk
        have hk2 : n / 128 < 2 ^ (7 * (k + 1)) := by
          rw [show 2 ^ (7 * (k + 1 + 1)) = 128 * 2 ^ (7 * (k + 1)) by rw [Nat.mul_succ 7 (k + 1), Nat.pow_add, Nat.mul_comm]] at hk
          exact Nat.div_lt_of_lt_mul hk
        refine lv_aload_n hx hb dX4_number_16 rfl (lv_at hl 1 rfl) ?_
        refine va_get (D := (dC, dI)) (ci := 4) (v := .ref (ad 3)) (C := RX4) (T := TX4) (N := 17) (ref := "SortedRunModel") hx hb hts (xg_u mb_uws_X4) hown hK hP 0 rfl rfl 2 (by decide) (xg_w hts mb_fieldLink_RX4_17) (fun _ h9 => h9) rfl dX4_number_17 ?_
        refine lv_aload_n hx hb dX4_number_20 rfl (lv_at hl 1 rfl) ?_
        refine lv_dup hx hb dX4_number_21 rfl ?_
        refine va_get (D := (dC, dI)) (ci := 4) (v := .int (nI L)) (C := RX4) (T := TX4) (N := 17) (ref := "SortedRunModel") hx hb hts (xg_u mb_uws_X4) hown hK hP 0 rfl rfl 9 (by decide) (xg_w hts mb_fieldLink_RX4_45) (fun _ h9 => h9) rfl dX4_number_22 ?_
        refine lv_dup_x1 hx hb dX4_number_25 rfl rfl ?_
        refine lv_iconst (v := 1) hx hb dX4_number_26 (by decide) ?_
        refine lv_iadd hx hb dX4_number_27 ?_
        refine lv_topi (fun z1 ez1 => ?_)
        have ez1 : z1 = nI (L + 1) := ez1.trans (nI_1 (L))
        subst ez1
        refine va_put (D := (dC, dI)) (ci := 4) (v := .int (nI (L + 1))) (ty := .int) (C := RX4) (T := TX4) (N := 17) (ref := "SortedRunModel") hx hb hts (xg_u mb_uws_X4) tyX4 tyX4_ok nmX4 hown hK hP hD hS 0 rfl rfl 9 (by decide) (xg_w hts mb_fieldLink_RX4_45) (fun _ h9 => h9) rfl (by decide +kernel) rfl rfl (Nat.le_of_ble_eq_true rfl) dX4_number_28 (fun H locs hP hD hS => ?_)
        have hP : va_P (dC, dI) vwCl (xm ad ca kf vf tf fr sf fi bk bv w (nI (L + 1)) nb mn ai en th op wr) H := hP
        have hD : va_D A (xm ad ca kf vf tf fr sf fi bk bv w (nI (L + 1)) nb mn ai en th op wr) := hD
        refine lv_lload_n hx hb dX4_number_31 rfl (lv_at hl 0 rfl) ?_
        refine lv_ldc2 (v := lN 127) hx hb hown (xg_w hts mb_constantLong_RX4_43) dX4_number_32 ?_
        refine lv_land hx hb dX4_number_35 ?_
        refine lv_topl (fun z2 ez2 => ?_)
        have ez2 : z2 = lN (n % 128) := ez2.trans (wb_mask (k := 7) hn (by decide))
        subst ez2
        refine lv_ldc2 (v := lN 128) hx hb hown (xg_w hts mb_constantLong_RX4_48) dX4_number_36 ?_
        refine lv_lor hx hb dX4_number_39 ?_
        refine lv_topl (fun z3 ez3 => ?_)
        have ez3 : z3 = lN (n % 128 + 128) := ez3.trans (pm_or (Nat.mod_lt _ (by decide)))
        subst ez3
        refine lv_l2i (v := nI (n % 128 + 128)) hx hb dX4_number_40 (lN_i _) ?_
        refine lv_i2b (v := (nI (n % 128 + 128)).toInt8.toInt32) hx hb dX4_number_41 (rfl) ?_
        refine va_bast hx hb hK hP hD hS 3 2 rfl rfl (vp_in_nI (by omega) (by decide)) dX4_number_42 (fun H locs hP hD hS => ?_)
        have e9 : upd tf (nI L).toNatClampNeg (vp_nar .byte ((nI (n % 128 + 128)).toInt8.toInt32)) = upd tf L (sb_b (n % 128 + 128)) := by rw [nI_clamp (by omega), pk_vb]; rfl
        rw [e9] at hP hD
        clear e9
        have hP : va_P (dC, dI) vwCl (xm ad ca kf vf (upd tf L (sb_b (n % 128 + 128))) fr sf fi bk bv w (nI (L + 1)) nb mn ai en th op wr) H := hP
        have hD : va_D A (xm ad ca kf vf (upd tf L (sb_b (n % 128 + 128))) fr sf fi bk bv w (nI (L + 1)) nb mn ai en th op wr) := hD
        refine lv_lload_n hx hb dX4_number_43 rfl (lv_at hl 0 rfl) ?_
        refine lv_bipush (v := nI 7) hx hb dX4_number_44 (by decide) ?_
        refine lv_lushr (v := lN (n / 128)) hx hb dX4_number_46 (wb_shr (k := 7) hn (by decide)) ?_
        refine lv_lstore_n hx hb dX4_number_47 rfl hl (by decide) rfl (fun ls hl => ?_)
        have hl : lv_has ls 5 [(3, .long (lN (n / 128))), (0, .ref (ad 0))] := hl
        refine lv_goto (tgt := 2) hx hb dX4_number_48 rfl ?_
        refine ih (L + 1) (n / 128) _ _ _ _ hk2 (by omega) (by omega) hl hP hD hS (fun H locs ls hP hD hS => ?_)
        rw [Nat.add_assoc, Nat.add_comm 1] at hP hD
        exact kk H locs ls hP hD hS
      · refine lv_lload_n hx hb dX4_number_8 rfl (lv_at hl 0 rfl) ?_
        refine lv_ldc2 (v := lN 127) hx hb hown (xg_w hts mb_constantLong_RX4_43) dX4_number_9 ?_
        refine W.lcmp hx hb dX4_number_12 ?_
        refine lv_if_le (tgt := 51) hx hb dX4_number_13 rfl (fun hc2 => absurd hc2 (fun z => (hbg.elim (fun y => hc (lc_lt.mpr y)) (fun y => absurd (lc_le.mp z) (Int64.not_le.mpr y))))) (fun hc2 => ?_)
        have e1 : pl_n (k + 1) n = pl_n k (n / 128) + 1 := by conv => lhs; unfold pl_n; rw [if_pos (by omega : 128 ≤ n)]
        have e2 : pl_f tf (k + 1) L n = pl_f (upd tf L (sb_b (n % 128 + 128))) k (L + 1) (n / 128) := by conv => lhs; unfold pl_f; rw [if_pos (by omega : 128 ≤ n)]
        rw [e1] at hL
        rw [e1, e2] at kk
        have hk2 : n / 128 < 2 ^ (7 * (k + 1)) := by
          rw [show 2 ^ (7 * (k + 1 + 1)) = 128 * 2 ^ (7 * (k + 1)) by rw [Nat.mul_succ 7 (k + 1), Nat.pow_add, Nat.mul_comm]] at hk
          exact Nat.div_lt_of_lt_mul hk
        refine lv_aload_n hx hb dX4_number_16 rfl (lv_at hl 1 rfl) ?_
        refine va_get (D := (dC, dI)) (ci := 4) (v := .ref (ad 3)) (C := RX4) (T := TX4) (N := 17) (ref := "SortedRunModel") hx hb hts (xg_u mb_uws_X4) hown hK hP 0 rfl rfl 2 (by decide) (xg_w hts mb_fieldLink_RX4_17) (fun _ h9 => h9) rfl dX4_number_17 ?_
        refine lv_aload_n hx hb dX4_number_20 rfl (lv_at hl 1 rfl) ?_
        refine lv_dup hx hb dX4_number_21 rfl ?_
        refine va_get (D := (dC, dI)) (ci := 4) (v := .int (nI L)) (C := RX4) (T := TX4) (N := 17) (ref := "SortedRunModel") hx hb hts (xg_u mb_uws_X4) hown hK hP 0 rfl rfl 9 (by decide) (xg_w hts mb_fieldLink_RX4_45) (fun _ h9 => h9) rfl dX4_number_22 ?_
        refine lv_dup_x1 hx hb dX4_number_25 rfl rfl ?_
        refine lv_iconst (v := 1) hx hb dX4_number_26 (by decide) ?_
        refine lv_iadd hx hb dX4_number_27 ?_
        refine lv_topi (fun z1 ez1 => ?_)
        have ez1 : z1 = nI (L + 1) := ez1.trans (nI_1 (L))
        subst ez1
        refine va_put (D := (dC, dI)) (ci := 4) (v := .int (nI (L + 1))) (ty := .int) (C := RX4) (T := TX4) (N := 17) (ref := "SortedRunModel") hx hb hts (xg_u mb_uws_X4) tyX4 tyX4_ok nmX4 hown hK hP hD hS 0 rfl rfl 9 (by decide) (xg_w hts mb_fieldLink_RX4_45) (fun _ h9 => h9) rfl (by decide +kernel) rfl rfl (Nat.le_of_ble_eq_true rfl) dX4_number_28 (fun H locs hP hD hS => ?_)
        have hP : va_P (dC, dI) vwCl (xm ad ca kf vf tf fr sf fi bk bv w (nI (L + 1)) nb mn ai en th op wr) H := hP
        have hD : va_D A (xm ad ca kf vf tf fr sf fi bk bv w (nI (L + 1)) nb mn ai en th op wr) := hD
        refine lv_lload_n hx hb dX4_number_31 rfl (lv_at hl 0 rfl) ?_
        refine lv_ldc2 (v := lN 127) hx hb hown (xg_w hts mb_constantLong_RX4_43) dX4_number_32 ?_
        refine lv_land hx hb dX4_number_35 ?_
        refine lv_topl (fun z2 ez2 => ?_)
        have ez2 : z2 = lN (n % 128) := ez2.trans (wb_mask (k := 7) hn (by decide))
        subst ez2
        refine lv_ldc2 (v := lN 128) hx hb hown (xg_w hts mb_constantLong_RX4_48) dX4_number_36 ?_
        refine lv_lor hx hb dX4_number_39 ?_
        refine lv_topl (fun z3 ez3 => ?_)
        have ez3 : z3 = lN (n % 128 + 128) := ez3.trans (pm_or (Nat.mod_lt _ (by decide)))
        subst ez3
        refine lv_l2i (v := nI (n % 128 + 128)) hx hb dX4_number_40 (lN_i _) ?_
        refine lv_i2b (v := (nI (n % 128 + 128)).toInt8.toInt32) hx hb dX4_number_41 (rfl) ?_
        refine va_bast hx hb hK hP hD hS 3 2 rfl rfl (vp_in_nI (by omega) (by decide)) dX4_number_42 (fun H locs hP hD hS => ?_)
        have e9 : upd tf (nI L).toNatClampNeg (vp_nar .byte ((nI (n % 128 + 128)).toInt8.toInt32)) = upd tf L (sb_b (n % 128 + 128)) := by rw [nI_clamp (by omega), pk_vb]; rfl
        rw [e9] at hP hD
        clear e9
        have hP : va_P (dC, dI) vwCl (xm ad ca kf vf (upd tf L (sb_b (n % 128 + 128))) fr sf fi bk bv w (nI (L + 1)) nb mn ai en th op wr) H := hP
        have hD : va_D A (xm ad ca kf vf (upd tf L (sb_b (n % 128 + 128))) fr sf fi bk bv w (nI (L + 1)) nb mn ai en th op wr) := hD
        refine lv_lload_n hx hb dX4_number_43 rfl (lv_at hl 0 rfl) ?_
        refine lv_bipush (v := nI 7) hx hb dX4_number_44 (by decide) ?_
        refine lv_lushr (v := lN (n / 128)) hx hb dX4_number_46 (wb_shr (k := 7) hn (by decide)) ?_
        refine lv_lstore_n hx hb dX4_number_47 rfl hl (by decide) rfl (fun ls hl => ?_)
        have hl : lv_has ls 5 [(3, .long (lN (n / 128))), (0, .ref (ad 0))] := hl
        refine lv_goto (tgt := 2) hx hb dX4_number_48 rfl ?_
        refine ih (L + 1) (n / 128) _ _ _ _ hk2 (by omega) (by omega) hl hP hD hS (fun H locs ls hP hD hS => ?_)
        rw [Nat.add_assoc, Nat.add_comm 1] at hP hD
        exact kk H locs ls hP hD hS
    · have hsm : ¬ (lN n < 0 ∨ lN 127 < lN n) := fun z => absurd ((pm_big hn).mp z) (by omega)
      refine lv_lload_n hx hb dX4_number_2 rfl (lv_at hl 0 rfl) ?_
      refine lv_lconst (v := 0) hx hb dX4_number_3 (by decide) ?_
      refine W.lcmp hx hb dX4_number_4 ?_
      refine lv_if_lt (tgt := 16) hx hb dX4_number_5 rfl (fun hc => absurd hc (fun z => hsm (Or.inl (lc_lt.mp z)))) (fun hc => ?_)
      refine lv_lload_n hx hb dX4_number_8 rfl (lv_at hl 0 rfl) ?_
      refine lv_ldc2 (v := lN 127) hx hb hown (xg_w hts mb_constantLong_RX4_43) dX4_number_9 ?_
      refine W.lcmp hx hb dX4_number_12 ?_
      refine lv_if_le (tgt := 51) hx hb dX4_number_13 rfl (fun hc => ?_) (fun hc => absurd hc (not_not_intro (lc_le.mpr (Int64.not_lt.mp (fun z => hsm (Or.inr z))))))
      refine lv_aload_n hx hb dX4_number_51 rfl (lv_at hl 1 rfl) ?_
      refine va_get (D := (dC, dI)) (ci := 4) (v := .ref (ad 3)) (C := RX4) (T := TX4) (N := 17) (ref := "SortedRunModel") hx hb hts (xg_u mb_uws_X4) hown hK hP 0 rfl rfl 2 (by decide) (xg_w hts mb_fieldLink_RX4_17) (fun _ h9 => h9) rfl dX4_number_52 ?_
      refine lv_aload_n hx hb dX4_number_55 rfl (lv_at hl 1 rfl) ?_
      refine lv_dup hx hb dX4_number_56 rfl ?_
      refine va_get (D := (dC, dI)) (ci := 4) (v := .int (nI L)) (C := RX4) (T := TX4) (N := 17) (ref := "SortedRunModel") hx hb hts (xg_u mb_uws_X4) hown hK hP 0 rfl rfl 9 (by decide) (xg_w hts mb_fieldLink_RX4_45) (fun _ h9 => h9) rfl dX4_number_57 ?_
      refine lv_dup_x1 hx hb dX4_number_60 rfl rfl ?_
      refine lv_iconst (v := 1) hx hb dX4_number_61 (by decide) ?_
      refine lv_iadd hx hb dX4_number_62 ?_
      refine lv_topi (fun z1 ez1 => ?_)
      have ez1 : z1 = nI (L + 1) := ez1.trans (nI_1 (L))
      subst ez1
      refine va_put (D := (dC, dI)) (ci := 4) (v := .int (nI (L + 1))) (ty := .int) (C := RX4) (T := TX4) (N := 17) (ref := "SortedRunModel") hx hb hts (xg_u mb_uws_X4) tyX4 tyX4_ok nmX4 hown hK hP hD hS 0 rfl rfl 9 (by decide) (xg_w hts mb_fieldLink_RX4_45) (fun _ h9 => h9) rfl (by decide +kernel) rfl rfl (Nat.le_of_ble_eq_true rfl) dX4_number_63 (fun H locs hP hD hS => ?_)
      have hP : va_P (dC, dI) vwCl (xm ad ca kf vf tf fr sf fi bk bv w (nI (L + 1)) nb mn ai en th op wr) H := hP
      have hD : va_D A (xm ad ca kf vf tf fr sf fi bk bv w (nI (L + 1)) nb mn ai en th op wr) := hD
      refine lv_lload_n hx hb dX4_number_66 rfl (lv_at hl 0 rfl) ?_
      refine lv_l2i (v := nI n) hx hb dX4_number_67 (lN_i n) ?_
      refine lv_i2b (v := (nI n).toInt8.toInt32) hx hb dX4_number_68 (rfl) ?_
      refine va_bast hx hb hK hP hD hS 3 2 rfl rfl (vp_in_nI (by omega) (by decide)) dX4_number_69 (fun H locs hP hD hS => ?_)
      have e9 : upd tf (nI L).toNatClampNeg (vp_nar .byte ((nI n).toInt8.toInt32)) = upd tf L (sb_b n) := by rw [nI_clamp (by omega), pk_vb]; rfl
      rw [e9] at hP hD
      clear e9
      have hP : va_P (dC, dI) vwCl (xm ad ca kf vf (upd tf L (sb_b n)) fr sf fi bk bv w (nI (L + 1)) nb mn ai en th op wr) H := hP
      have hD : va_D A (xm ad ca kf vf (upd tf L (sb_b n)) fr sf fi bk bv w (nI (L + 1)) nb mn ai en th op wr) := hD
      have e1 : pl_n (k + 1) n = 1 := by unfold pl_n; rw [if_neg (by omega)]
      have e2 : pl_f tf (k + 1) L n = upd tf L (sb_b n) := by unfold pl_f; rw [if_neg (by omega)]
      rw [e1, e2] at kk
      exact kk H locs ls hP hD hS

set_option maxHeartbeats 4000000 in
set_option maxRecDepth 100000 in
theorem cX4_number_m (l : Launch) (dC : Nat → ClassId) (dI : Nat → Nat → Nat) (ca : Nat → ClassId) (ad : Nat → Nat) (kf : Nat → Int32) (vf : Nat → Int64) (tf : Nat → Int32) (fr : Nat → Int32) (sf : Nat → Int32) (fi : Nat → Int32) (bk : Nat → Int32) (bv : Nat → Int64) (w : Int32) (nb : Int32) (mn : Int32) (ai : Int32) (en : Int32) (th : Int32) (op : Int32) (wr : Int32) (L : Nat) (x : Int64) (hL : L + pl_n 9 x.toBitVec.toNat ≤ 6000) : ∀ sz : Nat, Met l yX4_number wsX4_number ({ frames := 0, cells := 0, slots := 0, locals := 0 } : Room) (va_Pc [.ref (ad 0), .long x] (xP (dC, dI) (xt ca) (xm ad ca kf vf tf fr sf fi bk bv w (nI L) nb mn ai en th op wr) sz)) (va_Qv (S := Unit) (fun _ => True) (fun u t => xB (dC, dI) (xt ca) (va_A (xm ad ca kf vf tf fr sf fi bk bv w (nI L) nb mn ai en th op wr) sz) (xm ad ca kf vf (pl_f tf 9 L x.toBitVec.toNat) fr sf fi bk bv w (nI (L + pl_n 9 x.toBitVec.toNat)) nb mn ai en th op wr) t) (va_A (xm ad ca kf vf tf fr sf fi bk bv w (nI L) nb mn ai en th op wr) sz)) 0 0 (va_A (xm ad ca kf vf tf fr sf fi bk bv w (nI L) nb mn ai en th op wr) sz) := by
  intro sz
  refine Met.ofW (cc := cX4_number) (maxL := 5) (ret := none) (by decide) rfl ?_
  intro p e s m args below meth c s₁ B hml hv
  obtain ⟨rfl, hsz, hP, hK, hD0, hE⟩ := hv
  have hx := B.exec
  have hb := B.bytes
  have hr := B.returns
  have hts := atoms_spec (ws := wsX4_number) B.pre
  have hown : s.vm.findClass RX4 = some m.cls := findClass_of_methodNamed B.named
  have hlocks := B.notSynchronized
  subst hsz
  have hD := hD0.self (sz := s.heap.size)
  generalize hAe : va_A (xm ad ca kf vf tf fr sf fi bk bv w (nI L) nb mn ai en th op wr) s.heap.size = A at hD hE ⊢
  have hA : ∀ q : Nat, s.heap.size ≤ q → A q := fun q h => by rw [← hAe]; exact Or.inr h
  have hS : va_S A s.heap s.heap [] := va_S.rf
  have hl := lv_entry ([.ref (ad 0), .long x]) (n := 5) (Nat.le_of_ble_eq_true rfl)
  rw [lg_entry_eq]
  generalize (lg_sl ([.ref (ad 0), .long x]) ++ List.replicate (5 - (lg_sl ([.ref (ad 0), .long x])).length) Slot.unset).toArray = ls at hl ⊢
  have hl : lv_has ls 5 [(0, .ref (ad 0)), (1, .long x)] := hl
  have ex : x = lN x.toBitVec.toNat := wb_inj (by rw [wb_tb]; simp)
  refine lv_lload_n hx hb dX4_number_0 rfl (lv_at hl 1 rfl) ?_
  refine lv_topl (fun z1 ez1 => ?_)
  have ez1 : z1 = lN x.toBitVec.toNat := ez1.trans (ex)
  subst ez1
  refine lv_lstore_n hx hb dX4_number_1 rfl hl (by decide) rfl (fun ls hl => ?_)
  have hl : lv_has ls 5 [(3, .long (lN x.toBitVec.toNat)), (0, .ref (ad 0)), (1, .long x)] := hl
  refine lpX4_number_lay hx hb hml hown hts hK hA hE 9 L x.toBitVec.toNat tf _ _ _ (Nat.lt_trans x.toBitVec.isLt (by decide)) x.toBitVec.isLt hL (lv_sub hl [0, 1] rfl) hP hD hS (fun H locs ls hP hD hS => ?_)
  have hP9 := hP
  have hD9 := hD
  exact W.vret hx hb hr (fun t ht hW => ⟨⟨(), rfl, trivial, by rw [ht]; exact hP9, va_K.moved hW.alike hK, hD9⟩, hS.F ht⟩) hS.2.2 dX4_number_70

set_option maxHeartbeats 4000000 in
set_option maxRecDepth 100000 in
theorem cX4_fold_m (l : Launch) (dC : Nat → ClassId) (dI : Nat → Nat → Nat) (ca : Nat → ClassId) (ad : Nat → Nat) (kf : Nat → Int32) (vf : Nat → Int64) (tf : Nat → Int32) (fr : Nat → Int32) (sf : Nat → Int32) (fi : Nat → Int32) (bk : Nat → Int32) (bv : Nat → Int64) (w : Int32) (ny : Int32) (nb : Int32) (mn : Int32) (ai : Int32) (en : Int32) (th : Int32) (op : Int32) (wr : Int32) (v : Int64) : ∀ sz : Nat, Met l yX4_fold wsX4_fold ({ frames := 0, cells := 0, slots := 0, locals := 0 } : Room) (va_Pc [.long v] (xP (dC, dI) (xt ca) (xm ad ca kf vf tf fr sf fi bk bv w ny nb mn ai en th op wr) sz)) (va_Ql (S := Unit) (fun r _ => r = pu_f v) (fun u t => xB (dC, dI) (xt ca) (va_A (xm ad ca kf vf tf fr sf fi bk bv w ny nb mn ai en th op wr) sz) (xm ad ca kf vf tf fr sf fi bk bv w ny nb mn ai en th op wr) t) (va_A (xm ad ca kf vf tf fr sf fi bk bv w ny nb mn ai en th op wr) sz)) 0 0 (va_A (xm ad ca kf vf tf fr sf fi bk bv w ny nb mn ai en th op wr) sz) := by
  intro sz
  refine Met.ofW (cc := cX4_fold) (maxL := 2) (ret := (some .long)) (by decide) rfl ?_
  intro p e s m args below meth c s₁ B hml hv
  obtain ⟨rfl, hsz, hP, hK, hD0, hE⟩ := hv
  have hx := B.exec
  have hb := B.bytes
  have hr := B.returns
  have hts := atoms_spec (ws := wsX4_fold) B.pre
  have hown : s.vm.findClass RX4 = some m.cls := findClass_of_methodNamed B.named
  have hlocks := B.notSynchronized
  subst hsz
  have hD := hD0.self (sz := s.heap.size)
  generalize hAe : va_A (xm ad ca kf vf tf fr sf fi bk bv w ny nb mn ai en th op wr) s.heap.size = A at hD hE ⊢
  have hA : ∀ q : Nat, s.heap.size ≤ q → A q := fun q h => by rw [← hAe]; exact Or.inr h
  have hS : va_S A s.heap s.heap [] := va_S.rf
  have hl := lv_entry ([.long v]) (n := 2) (Nat.le_of_ble_eq_true rfl)
  rw [lg_entry_eq]
  generalize (lg_sl ([.long v]) ++ List.replicate (2 - (lg_sl ([.long v])).length) Slot.unset).toArray = ls at hl ⊢
  have hl : lv_has ls 2 [(0, .long v)] := hl
  refine lv_lload_n hx hb dX4_fold_0 rfl (lv_at hl 0 rfl) ?_
  refine lv_lconst (v := 0) hx hb dX4_fold_1 (by decide) ?_
  refine W.lcmp hx hb dX4_fold_2 ?_
  refine lv_if_lt (tgt := 14) hx hb dX4_fold_3 rfl (fun hc => ?_) (fun hc => ?_)
  · have hc1 : v < 0 := lc_lt.mp hc
    refine lv_ldc2 (v := -2) hx hb hown (xg_w hts mb_constantLong_RX4_52) dX4_fold_14 ?_
    refine lv_lload_n hx hb dX4_fold_17 rfl (lv_at hl 0 rfl) ?_
    refine lv_lmul hx hb dX4_fold_18 ?_
    refine lv_lconst (v := 1) hx hb dX4_fold_19 (by decide) ?_
    refine lv_lsub hx hb dX4_fold_20 ?_
    have hP9 := hP
    have hD9 := hD
    exact W.lret (v := ((-2) * v) - 1) hx hb hr (fun t ht hW => ⟨⟨((-2) * v) - 1, (), rfl, by unfold pu_f; rw [if_pos hc1], by rw [ht]; exact hP9, va_K.moved hW.alike hK, hD9⟩, hS.F ht⟩) hS.2.2 dX4_fold_21
  · have hc1 : ¬ v < 0 := fun z => hc (lc_lt.mpr z)
    refine lv_ldc2 (v := 2) hx hb hown (xg_w hts mb_constantLong_RX4_50) dX4_fold_6 ?_
    refine lv_lload_n hx hb dX4_fold_9 rfl (lv_at hl 0 rfl) ?_
    refine lv_lmul hx hb dX4_fold_10 ?_
    refine lv_goto (tgt := 21) hx hb dX4_fold_11 rfl ?_
    have hP9 := hP
    have hD9 := hD
    exact W.lret (v := 2 * v) hx hb hr (fun t ht hW => ⟨⟨2 * v, (), rfl, by unfold pu_f; rw [if_neg hc1], by rw [ht]; exact hP9, va_K.moved hW.alike hK, hD9⟩, hS.F ht⟩) hS.2.2 dX4_fold_21

set_option maxHeartbeats 4000000 in
set_option maxRecDepth 100000 in
theorem cX4_unfold_m (l : Launch) (dC : Nat → ClassId) (dI : Nat → Nat → Nat) (ca : Nat → ClassId) (ad : Nat → Nat) (kf : Nat → Int32) (vf : Nat → Int64) (tf : Nat → Int32) (fr : Nat → Int32) (sf : Nat → Int32) (fi : Nat → Int32) (bk : Nat → Int32) (bv : Nat → Int64) (w : Int32) (ny : Int32) (nb : Int32) (mn : Int32) (ai : Int32) (en : Int32) (th : Int32) (op : Int32) (wr : Int32) (v : Int64) : ∀ sz : Nat, Met l yX4_unfold wsX4_unfold ({ frames := 0, cells := 0, slots := 0, locals := 0 } : Room) (va_Pc [.long v] (xP (dC, dI) (xt ca) (xm ad ca kf vf tf fr sf fi bk bv w ny nb mn ai en th op wr) sz)) (va_Ql (S := Unit) (fun r _ => r = pu_u v) (fun u t => xB (dC, dI) (xt ca) (va_A (xm ad ca kf vf tf fr sf fi bk bv w ny nb mn ai en th op wr) sz) (xm ad ca kf vf tf fr sf fi bk bv w ny nb mn ai en th op wr) t) (va_A (xm ad ca kf vf tf fr sf fi bk bv w ny nb mn ai en th op wr) sz)) 0 0 (va_A (xm ad ca kf vf tf fr sf fi bk bv w ny nb mn ai en th op wr) sz) := by
  intro sz
  refine Met.ofW (cc := cX4_unfold) (maxL := 2) (ret := (some .long)) (by decide) rfl ?_
  intro p e s m args below meth c s₁ B hml hv
  obtain ⟨rfl, hsz, hP, hK, hD0, hE⟩ := hv
  have hx := B.exec
  have hb := B.bytes
  have hr := B.returns
  have hts := atoms_spec (ws := wsX4_unfold) B.pre
  have hown : s.vm.findClass RX4 = some m.cls := findClass_of_methodNamed B.named
  have hlocks := B.notSynchronized
  subst hsz
  have hD := hD0.self (sz := s.heap.size)
  generalize hAe : va_A (xm ad ca kf vf tf fr sf fi bk bv w ny nb mn ai en th op wr) s.heap.size = A at hD hE ⊢
  have hA : ∀ q : Nat, s.heap.size ≤ q → A q := fun q h => by rw [← hAe]; exact Or.inr h
  have hS : va_S A s.heap s.heap [] := va_S.rf
  have hl := lv_entry ([.long v]) (n := 2) (Nat.le_of_ble_eq_true rfl)
  rw [lg_entry_eq]
  generalize (lg_sl ([.long v]) ++ List.replicate (2 - (lg_sl ([.long v])).length) Slot.unset).toArray = ls at hl ⊢
  have hl : lv_has ls 2 [(0, .long v)] := hl
  refine lv_lload_n hx hb dX4_unfold_0 rfl (lv_at hl 0 rfl) ?_
  refine lv_lconst (v := 1) hx hb dX4_unfold_1 (by decide) ?_
  refine lv_land hx hb dX4_unfold_2 ?_
  refine lv_lconst (v := 0) hx hb dX4_unfold_3 (by decide) ?_
  refine W.lcmp hx hb dX4_unfold_4 ?_
  refine lv_if_ne (tgt := 14) hx hb dX4_unfold_5 rfl (fun hc => ?_) (fun hc => ?_)
  · have hc1 : ¬ (v &&& 1) = 0 := fun z => hc (lc_eq.mpr z)
    refine lv_lload_n hx hb dX4_unfold_14 rfl (lv_at hl 0 rfl) ?_
    refine lv_iconst (v := 1) hx hb dX4_unfold_15 (by decide) ?_
    refine lv_lushr (v := pu_h v) hx hb dX4_unfold_16 (rfl) ?_
    refine lv_lneg hx hb dX4_unfold_17 ?_
    refine lv_lconst (v := 1) hx hb dX4_unfold_18 (by decide) ?_
    refine lv_lsub hx hb dX4_unfold_19 ?_
    have hP9 := hP
    have hD9 := hD
    exact W.lret (v := (-(pu_h v)) - 1) hx hb hr (fun t ht hW => ⟨⟨(-(pu_h v)) - 1, (), rfl, by unfold pu_u; rw [if_neg hc1], by rw [ht]; exact hP9, va_K.moved hW.alike hK, hD9⟩, hS.F ht⟩) hS.2.2 dX4_unfold_20
  · have hc1 : (v &&& 1) = 0 := lc_eq.mp hc
    refine lv_lload_n hx hb dX4_unfold_8 rfl (lv_at hl 0 rfl) ?_
    refine lv_iconst (v := 1) hx hb dX4_unfold_9 (by decide) ?_
    refine lv_lushr (v := pu_h v) hx hb dX4_unfold_10 (rfl) ?_
    refine lv_goto (tgt := 20) hx hb dX4_unfold_11 rfl ?_
    have hP9 := hP
    have hD9 := hD
    exact W.lret (v := pu_h v) hx hb hr (fun t ht hW => ⟨⟨pu_h v, (), rfl, by unfold pu_u; rw [if_pos hc1], by rw [ht]; exact hP9, va_K.moved hW.alike hK, hD9⟩, hS.F ht⟩) hS.2.2 dX4_unfold_20

set_option maxHeartbeats 4000000 in
set_option maxRecDepth 100000 in
theorem lpX4_sum_bits {p : Program} {l : Launch} {e : Env} {s : State} {m : MethodId} {args : Array Value} {below : List Frame} {meth : Method} {c : Code} {Q : State → Prop} {A : Nat → Prop} {dC : Nat → ClassId} {dI : Nat → Nat → Nat} {ca : Nat → ClassId} {ad : Nat → Nat} (hx : p.tables.exec = Jvm.exec) (hb : c.code = cX4_sum) (hml : c.maxLocals = 7) (hown : s.vm.findClass RX4 = some m.cls) (hts : ∀ w ∈ wsX4_sum, w.before args s = true) (hK : va_K (dC, dI) vwCl (xt ca) s) (hA : ∀ q : Nat, s.heap.size ≤ q → A q) (hE : xn_E A s) {kf : Nat → Int32} {vf : Nat → Int64} {tf : Nat → Int32} {fr : Nat → Int32} {sf : Nat → Int32} {fi : Nat → Int32} {bk : Nat → Int32} {bv : Nat → Int64} {w : Int32} {ny : Int32} {nb : Int32} {mn : Int32} {ai : Int32} {en : Int32} {th : Int32} {op : Int32} {wr : Int32} {j b C : Nat} (hj : j < 6000) (hC : C < 2 ^ 32) : ∀ (k : Nat)  (H : Heap) (locs : List Loc) (ls : Array Slot), k ≤ 8 → lv_has ls 7 [(5, .int (nI (8 - k))), (3, .int (nI (pb_M (pb_ub tf j) (8 - k) C))), (0, .ref (ad 0)), (4, .int (nI j)), (2, .int (nI b))] → va_P (dC, dI) vwCl (xm ad ca kf vf tf fr sf fi bk bv w ny nb mn ai en th op wr) H → va_D A (xm ad ca kf vf tf fr sf fi bk bv w ny nb mn ai en th op wr) → va_S A s.heap H locs → (∀ (H : Heap) (locs : List Loc) (ls : Array Slot), lv_has ls 7 [(3, .int (nI (pb_M (pb_ub tf j) 8 C))), (0, .ref (ad 0)), (4, .int (nI j)), (2, .int (nI b))] → va_P (dC, dI) vwCl (xm ad ca kf vf tf fr sf fi bk bv w ny nb mn ai en th op wr) H → va_D A (xm ad ca kf vf tf fr sf fi bk bv w ny nb mn ai en th op wr) → va_S A s.heap H locs → W p l e ({ frames := 0, cells := 0, slots := 0, locals := 0 } : Room) s m args below meth c H locs 0 0 Q (F0 m 60 ls [])) → W p l e ({ frames := 0, cells := 0, slots := 0, locals := 0 } : Room) s m args below meth c H locs 0 0 Q (F0 m 14 ls []) := by
  intro k
  induction k with
  | zero =>
    intro  H locs ls hk hl hP hD hS kk
    have hl : lv_has ls 7 [(5, .int (nI (8 - 0))), (3, .int (nI (pb_M (pb_ub tf j) (8 - 0) C))), (0, .ref (ad 0)), (4, .int (nI j)), (2, .int (nI b))] := hl
    refine lv_iload hx hb dX4_sum_14 (lv_at hl 0 rfl) ?_
    refine lv_bipush (v := nI 8) hx hb dX4_sum_16 (by decide) ?_
    refine lv_icmp_ge (tgt := 60) hx hb dX4_sum_18 rfl (fun hc => ?_) (fun hc => absurd hc (not_not_intro (by decide)))
    exact kk H locs ls (lv_sub hl [1, 2, 3, 4] rfl) hP hD hS
  | succ k ih =>
    intro  H locs ls hk hl hP hD hS kk
    have hl : lv_has ls 7 [(5, .int (nI (8 - (k + 1)))), (3, .int (nI (pb_M (pb_ub tf j) (8 - (k + 1)) C))), (0, .ref (ad 0)), (4, .int (nI j)), (2, .int (nI b))] := hl
    have hM : (pb_M (pb_ub tf j) (8 - (k + 1)) C) < 2 ^ 32 := pm_M_lt _ hC _
    refine lv_iload hx hb dX4_sum_14 (lv_at hl 0 rfl) ?_
    refine lv_bipush (v := nI 8) hx hb dX4_sum_16 (by decide) ?_
    refine lv_icmp_ge (tgt := 60) hx hb dX4_sum_18 rfl (fun hc => absurd hc (by rw [nI_leI (by decide) (by omega)]; omega)) (fun hc => ?_)
    refine lv_aload_n hx hb dX4_sum_21 rfl (lv_at hl 2 rfl) ?_
    refine va_get (D := (dC, dI)) (ci := 4) (v := .ref (ad 3)) (C := RX4) (T := TX4) (N := 17) (ref := "SortedRunModel") hx hb hts (xg_u mb_uws_X4) hown hK hP 0 rfl rfl 2 (by decide) (xg_w hts mb_fieldLink_RX4_17) (fun _ h9 => h9) rfl dX4_sum_22 ?_
    refine lv_iload hx hb dX4_sum_25 (lv_at hl 3 rfl) ?_
    refine va_bald hx hb hK hP 3 2 rfl rfl (vp_in_nI hj (by decide)) dX4_sum_27 ?_
    refine lv_topi (fun z1 ez1 => ?_)
    have ez1 : z1 = tf j := ez1.trans (congrArg tf (nI_clamp (by omega)))
    subst ez1
    refine lv_iload hx hb dX4_sum_28 (lv_at hl 0 rfl) ?_
    refine lv_ishr hx hb dX4_sum_30 ?_
    refine lv_iload_n hx hb dX4_sum_31 rfl (lv_at hl 1 rfl) ?_
    refine lv_ixor hx hb dX4_sum_32 ?_
    refine lv_iconst (v := 1) hx hb dX4_sum_33 (by decide) ?_
    refine lv_iand hx hb dX4_sum_34 ?_
    refine lv_topi (fun z2 ez2 => ?_)
    have ez2 : z2 = nI (((pb_ub tf j) / 2 ^ (8 - (k + 1)) + (pb_M (pb_ub tf j) (8 - (k + 1)) C)) % 2) := ez2.trans (pm_bit (tf j) (pb_M (pb_ub tf j) (8 - (k + 1)) C) (by omega) hM)
    subst ez2
    refine lv_istore hx hb dX4_sum_35 hl (by decide) rfl (fun ls hl => ?_)
    have hl : lv_has ls 7 [(6, .int (nI (((pb_ub tf j) / 2 ^ (8 - (k + 1)) + (pb_M (pb_ub tf j) (8 - (k + 1)) C)) % 2))), (5, .int (nI (8 - (k + 1)))), (3, .int (nI (pb_M (pb_ub tf j) (8 - (k + 1)) C))), (0, .ref (ad 0)), (4, .int (nI j)), (2, .int (nI b))] := hl
    refine lv_iload_n hx hb dX4_sum_37 rfl (lv_at hl 2 rfl) ?_
    refine lv_iconst (v := nI 1) hx hb dX4_sum_38 (by decide) ?_
    refine lv_iushr (v := nI ((pb_M (pb_ub tf j) (8 - (k + 1)) C) / 2)) hx hb dX4_sum_39 (pk_ushrN (n := (pb_M (pb_ub tf j) (8 - (k + 1)) C)) hM (nI 1) 1 (by decide)) ?_
    refine lv_iload hx hb dX4_sum_40 (lv_at hl 0 rfl) ?_
    refine lv_iconst (v := nI 1) hx hb dX4_sum_42 (by decide) ?_
    have e9 : pb_M (pb_ub tf j) (8 - k) C = ((pb_M (pb_ub tf j) (8 - (k + 1)) C) / 2) ^^^ (if ((pb_ub tf j) / 2 ^ (8 - (k + 1)) + (pb_M (pb_ub tf j) (8 - (k + 1)) C)) % 2 = 1 then 3988292384 else 0) := by
      rw [show 8 - k = 8 - (k + 1) + 1 by omega]; exact Eq.refl _
    refine lv_icmp_ne (tgt := 51) hx hb dX4_sum_43 rfl (fun hc => ?_) (fun hc => ?_)
    · refine lv_iconst (v := nI 0) hx hb dX4_sum_51 (by decide) ?_
      refine lv_ixor hx hb dX4_sum_52 ?_
      refine lv_topi (fun z3 ez3 => ?_)
      have ez3 : z3 = nI (pb_M (pb_ub tf j) (8 - k) C) := ez3.trans ((nx_xor _ _).trans (congrArg nI (by rw [e9, if_neg (fun z => hc (congrArg nI z))])))
      subst ez3
      refine lv_istore_n hx hb dX4_sum_53 rfl hl (by decide) rfl (fun ls hl => ?_)
      have hl : lv_has ls 7 [(3, .int (nI (pb_M (pb_ub tf j) (8 - k) C))), (6, .int (nI (((pb_ub tf j) / 2 ^ (8 - (k + 1)) + (pb_M (pb_ub tf j) (8 - (k + 1)) C)) % 2))), (5, .int (nI (8 - (k + 1)))), (0, .ref (ad 0)), (4, .int (nI j)), (2, .int (nI b))] := hl
      refine lv_iinc (k := 2) (v := nI (8 - k)) hx hb dX4_sum_54 hl rfl ((nI_1 _).trans (congrArg nI (by omega))) (by decide) rfl (fun ls hl => ?_)
      have hl : lv_has ls 7 [(5, .int (nI (8 - k))), (3, .int (nI (pb_M (pb_ub tf j) (8 - k) C))), (6, .int (nI (((pb_ub tf j) / 2 ^ (8 - (k + 1)) + (pb_M (pb_ub tf j) (8 - (k + 1)) C)) % 2))), (0, .ref (ad 0)), (4, .int (nI j)), (2, .int (nI b))] := hl
      refine lv_goto (tgt := 14) hx hb dX4_sum_57 rfl ?_
      exact ih _ _ _ (by omega) (lv_sub hl [0, 1, 3, 4, 5] rfl) hP hD hS kk
    · have hc1 := (nI_eq (b := 1) (Nat.lt_trans (Nat.mod_lt _ (by decide)) (by decide)) (by decide)).mp hc
      refine lv_ldc (v := nI 3988292384) hx hb hown (xg_w hts mb_constant_RX4_54) dX4_sum_46 ?_
      refine lv_goto (tgt := 52) hx hb dX4_sum_48 rfl ?_
      refine lv_ixor hx hb dX4_sum_52 ?_
      refine lv_topi (fun z3 ez3 => ?_)
      have ez3 : z3 = nI (pb_M (pb_ub tf j) (8 - k) C) := ez3.trans ((nx_xor _ _).trans (congrArg nI (by rw [e9, if_pos hc1])))
      subst ez3
      refine lv_istore_n hx hb dX4_sum_53 rfl hl (by decide) rfl (fun ls hl => ?_)
      have hl : lv_has ls 7 [(3, .int (nI (pb_M (pb_ub tf j) (8 - k) C))), (6, .int (nI (((pb_ub tf j) / 2 ^ (8 - (k + 1)) + (pb_M (pb_ub tf j) (8 - (k + 1)) C)) % 2))), (5, .int (nI (8 - (k + 1)))), (0, .ref (ad 0)), (4, .int (nI j)), (2, .int (nI b))] := hl
      refine lv_iinc (k := 2) (v := nI (8 - k)) hx hb dX4_sum_54 hl rfl ((nI_1 _).trans (congrArg nI (by omega))) (by decide) rfl (fun ls hl => ?_)
      have hl : lv_has ls 7 [(5, .int (nI (8 - k))), (3, .int (nI (pb_M (pb_ub tf j) (8 - k) C))), (6, .int (nI (((pb_ub tf j) / 2 ^ (8 - (k + 1)) + (pb_M (pb_ub tf j) (8 - (k + 1)) C)) % 2))), (0, .ref (ad 0)), (4, .int (nI j)), (2, .int (nI b))] := hl
      refine lv_goto (tgt := 14) hx hb dX4_sum_57 rfl ?_
      exact ih _ _ _ (by omega) (lv_sub hl [0, 1, 3, 4, 5] rfl) hP hD hS kk

set_option maxHeartbeats 4000000 in
set_option maxRecDepth 100000 in
theorem lpX4_sum_go {p : Program} {l : Launch} {e : Env} {s : State} {m : MethodId} {args : Array Value} {below : List Frame} {meth : Method} {c : Code} {Q : State → Prop} {A : Nat → Prop} {dC : Nat → ClassId} {dI : Nat → Nat → Nat} {ca : Nat → ClassId} {ad : Nat → Nat} (hx : p.tables.exec = Jvm.exec) (hb : c.code = cX4_sum) (hml : c.maxLocals = 7) (hown : s.vm.findClass RX4 = some m.cls) (hts : ∀ w ∈ wsX4_sum, w.before args s = true) (hK : va_K (dC, dI) vwCl (xt ca) s) (hA : ∀ q : Nat, s.heap.size ≤ q → A q) (hE : xn_E A s) {kf : Nat → Int32} {vf : Nat → Int64} {tf : Nat → Int32} {fr : Nat → Int32} {sf : Nat → Int32} {fi : Nat → Int32} {bk : Nat → Int32} {bv : Nat → Int64} {w : Int32} {ny : Int32} {nb : Int32} {mn : Int32} {ai : Int32} {en : Int32} {th : Int32} {op : Int32} {wr : Int32} {a b : Nat} (hab : a ≤ b) (hb9 : b ≤ 6000) : ∀ (k : Nat)  (H : Heap) (locs : List Loc) (ls : Array Slot), k ≤ b - a → lv_has ls 7 [(4, .int (nI (b - k))), (3, .int (nI (pb_crc tf a (b - k - a)))), (0, .ref (ad 0)), (2, .int (nI b))] → va_P (dC, dI) vwCl (xm ad ca kf vf tf fr sf fi bk bv w ny nb mn ai en th op wr) H → va_D A (xm ad ca kf vf tf fr sf fi bk bv w ny nb mn ai en th op wr) → va_S A s.heap H locs → (∀ (H : Heap) (locs : List Loc) (ls : Array Slot), lv_has ls 7 [(3, .int (nI (pb_crc tf a (b - a))))] → va_P (dC, dI) vwCl (xm ad ca kf vf tf fr sf fi bk bv w ny nb mn ai en th op wr) H → va_D A (xm ad ca kf vf tf fr sf fi bk bv w ny nb mn ai en th op wr) → va_S A s.heap H locs → W p l e ({ frames := 0, cells := 0, slots := 0, locals := 0 } : Room) s m args below meth c H locs 0 0 Q (F0 m 66 ls [])) → W p l e ({ frames := 0, cells := 0, slots := 0, locals := 0 } : Room) s m args below meth c H locs 0 0 Q (F0 m 5 ls []) := by
  intro k
  induction k with
  | zero =>
    intro  H locs ls hk hl hP hD hS kk
    have hl : lv_has ls 7 [(4, .int (nI (b - 0))), (3, .int (nI (pb_crc tf a (b - 0 - a)))), (0, .ref (ad 0)), (2, .int (nI b))] := hl
    refine lv_iload hx hb dX4_sum_5 (lv_at hl 0 rfl) ?_
    refine lv_iload_n hx hb dX4_sum_7 rfl (lv_at hl 3 rfl) ?_
    refine lv_icmp_ge (tgt := 66) hx hb dX4_sum_8 rfl (fun hc => ?_) (fun hc => absurd hc (not_not_intro (nI_le (by omega) (by omega))))
    exact kk H locs ls (lv_sub hl [1] rfl) hP hD hS
  | succ k ih =>
    intro  H locs ls hk hl hP hD hS kk
    have hl : lv_has ls 7 [(4, .int (nI (b - (k + 1)))), (3, .int (nI (pb_crc tf a (b - (k + 1) - a)))), (0, .ref (ad 0)), (2, .int (nI b))] := hl
    refine lv_iload hx hb dX4_sum_5 (lv_at hl 0 rfl) ?_
    refine lv_iload_n hx hb dX4_sum_7 rfl (lv_at hl 3 rfl) ?_
    refine lv_icmp_ge (tgt := 66) hx hb dX4_sum_8 rfl (fun hc => absurd hc (by rw [nI_leI (by omega) (by omega)]; omega)) (fun hc => ?_)
    refine lv_iconst (v := nI (8 - 8)) hx hb dX4_sum_11 (by decide) ?_
    refine lv_istore hx hb dX4_sum_12 hl (by decide) rfl (fun ls hl => ?_)
    have hl : lv_has ls 7 [(5, .int (nI (8 - 8))), (4, .int (nI (b - (k + 1)))), (3, .int (nI (pb_crc tf a (b - (k + 1) - a)))), (0, .ref (ad 0)), (2, .int (nI b))] := hl
    refine lpX4_sum_bits hx hb hml hown hts hK hA hE (j := b - (k + 1)) (b := b) (C := pb_crc tf a (b - (k + 1) - a)) (by omega) (pb_crc_lt tf a _) 8 _ _ _ (Nat.le_refl _) (lv_sub hl [0, 2, 3, 1, 4] rfl) hP hD hS (fun H locs ls hl hP hD hS => ?_)
    refine lv_iinc (k := 2) (v := nI (b - k)) hx hb dX4_sum_60 hl rfl ((nI_1 _).trans (congrArg nI (by omega))) (by decide) rfl (fun ls hl => ?_)
    have hl : lv_has ls 7 [(4, .int (nI (b - k))), (3, .int (nI (pb_M (pb_ub tf (b - (k + 1))) 8 (pb_crc tf a (b - (k + 1) - a))))), (0, .ref (ad 0)), (2, .int (nI b))] := hl
    refine lv_goto (tgt := 5) hx hb dX4_sum_63 rfl ?_
    have e9 : pb_M (pb_ub tf (b - (k + 1))) 8 (pb_crc tf a (b - (k + 1) - a)) = pb_crc tf a (b - k - a) := by
      rw [show b - k - a = b - (k + 1) - a + 1 by omega, pb_MB (pb_ub_lt tf _)]
      show _ = pb_B (pb_crc tf a (b - (k + 1) - a)) (pb_ub tf (a + (b - (k + 1) - a)))
      rw [show a + (b - (k + 1) - a) = b - (k + 1) by omega]
    rw [e9] at hl
    exact ih _ _ _ (by omega) hl hP hD hS kk

set_option maxHeartbeats 4000000 in
set_option maxRecDepth 100000 in
theorem cX4_sum_m (l : Launch) (dC : Nat → ClassId) (dI : Nat → Nat → Nat) (ca : Nat → ClassId) (ad : Nat → Nat) (kf : Nat → Int32) (vf : Nat → Int64) (tf : Nat → Int32) (fr : Nat → Int32) (sf : Nat → Int32) (fi : Nat → Int32) (bk : Nat → Int32) (bv : Nat → Int64) (w : Int32) (ny : Int32) (nb : Int32) (mn : Int32) (ai : Int32) (en : Int32) (th : Int32) (op : Int32) (wr : Int32) (a b : Nat) (hab : a ≤ b) (hb9 : b ≤ 6000) : ∀ sz : Nat, Met l yX4_sum wsX4_sum ({ frames := 0, cells := 0, slots := 0, locals := 0 } : Room) (va_Pc [.ref (ad 0), .int (nI a), .int (nI b)] (xP (dC, dI) (xt ca) (xm ad ca kf vf tf fr sf fi bk bv w ny nb mn ai en th op wr) sz)) (va_Qi (S := Unit) (fun r _ => r = nI (ps_w tf a b)) (fun u t => xB (dC, dI) (xt ca) (va_A (xm ad ca kf vf tf fr sf fi bk bv w ny nb mn ai en th op wr) sz) (xm ad ca kf vf tf fr sf fi bk bv w ny nb mn ai en th op wr) t) (va_A (xm ad ca kf vf tf fr sf fi bk bv w ny nb mn ai en th op wr) sz)) 0 0 (va_A (xm ad ca kf vf tf fr sf fi bk bv w ny nb mn ai en th op wr) sz) := by
  intro sz
  refine Met.ofW (cc := cX4_sum) (maxL := 7) (ret := (some .int)) (by decide) rfl ?_
  intro p e s m args below meth c s₁ B hml hv
  obtain ⟨rfl, hsz, hP, hK, hD0, hE⟩ := hv
  have hx := B.exec
  have hb := B.bytes
  have hr := B.returns
  have hts := atoms_spec (ws := wsX4_sum) B.pre
  have hown : s.vm.findClass RX4 = some m.cls := findClass_of_methodNamed B.named
  have hlocks := B.notSynchronized
  subst hsz
  have hD := hD0.self (sz := s.heap.size)
  generalize hAe : va_A (xm ad ca kf vf tf fr sf fi bk bv w ny nb mn ai en th op wr) s.heap.size = A at hD hE ⊢
  have hA : ∀ q : Nat, s.heap.size ≤ q → A q := fun q h => by rw [← hAe]; exact Or.inr h
  have hS : va_S A s.heap s.heap [] := va_S.rf
  have hl := lv_entry ([.ref (ad 0), .int (nI a), .int (nI b)]) (n := 7) (Nat.le_of_ble_eq_true rfl)
  rw [lg_entry_eq]
  generalize (lg_sl ([.ref (ad 0), .int (nI a), .int (nI b)]) ++ List.replicate (7 - (lg_sl ([.ref (ad 0), .int (nI a), .int (nI b)])).length) Slot.unset).toArray = ls at hl ⊢
  have hl : lv_has ls 7 [(0, .ref (ad 0)), (1, .int (nI a)), (2, .int (nI b))] := hl
  have e0 : pb_crc tf a (b - (b - a) - a) = 4294967295 := by rw [show b - (b - a) - a = 0 by omega]; rfl
  refine lv_iconst (v := nI (pb_crc tf a (b - (b - a) - a))) hx hb dX4_sum_0 (by rw [e0]; decide) ?_
  refine lv_istore_n hx hb dX4_sum_1 rfl hl (by decide) rfl (fun ls hl => ?_)
  have hl : lv_has ls 7 [(3, .int (nI (pb_crc tf a (b - (b - a) - a)))), (0, .ref (ad 0)), (1, .int (nI a)), (2, .int (nI b))] := hl
  refine lv_iload_n hx hb dX4_sum_2 rfl (lv_at hl 2 rfl) ?_
  refine lv_topi (fun z1 ez1 => ?_)
  have ez1 : z1 = nI (b - (b - a)) := ez1.trans (congrArg nI (by omega))
  subst ez1
  refine lv_istore hx hb dX4_sum_3 hl (by decide) rfl (fun ls hl => ?_)
  have hl : lv_has ls 7 [(4, .int (nI (b - (b - a)))), (3, .int (nI (pb_crc tf a (b - (b - a) - a)))), (0, .ref (ad 0)), (1, .int (nI a)), (2, .int (nI b))] := hl
  refine lpX4_sum_go hx hb hml hown hts hK hA hE hab hb9 (b - a) _ _ _ (Nat.le_refl _) (lv_sub hl [0, 1, 2, 4] rfl) hP hD hS (fun H locs ls hl hP hD hS => ?_)
  refine lv_iload_n hx hb dX4_sum_66 rfl (lv_at hl 0 rfl) ?_
  refine lv_iconst (v := nI 4294967295) hx hb dX4_sum_67 (by decide) ?_
  refine lv_ixor hx hb dX4_sum_68 ?_
  refine lv_topi (fun z2 ez2 => ?_)
  have ez2 : z2 = nI (ps_w tf a b) := ez2.trans (nx_xor _ _)
  subst ez2
  have hP9 := hP
  have hD9 := hD
  exact W.iret (v := nI (ps_w tf a b)) hx hb hr (fun t ht hW => ⟨⟨nI (ps_w tf a b), (), rfl, rfl, by rw [ht]; exact hP9, va_K.moved hW.alike hK, hD9⟩, hS.F ht⟩) hS.2.2 dX4_sum_69

set_option maxHeartbeats 4000000 in
set_option maxRecDepth 100000 in
theorem lpX4_seal_go {p : Program} {l : Launch} {e : Env} {s : State} {m : MethodId} {args : Array Value} {below : List Frame} {meth : Method} {c : Code} {Q : State → Prop} {A : Nat → Prop} {dC : Nat → ClassId} {dI : Nat → Nat → Nat} {ca : Nat → ClassId} {ad : Nat → Nat} (hx : p.tables.exec = Jvm.exec) (hb : c.code = cX4_seal) (hml : c.maxLocals = 4) (hown : s.vm.findClass RX4 = some m.cls) (hts : ∀ w ∈ wsX4_seal, w.before args s = true) (hK : va_K (dC, dI) vwCl (xt ca) s) (hA : ∀ q : Nat, s.heap.size ≤ q → A q) (hE : xn_E A s) {kf : Nat → Int32} {vf : Nat → Int64} {tf : Nat → Int32} {fr : Nat → Int32} {sf : Nat → Int32} {fi : Nat → Int32} {bk : Nat → Int32} {bv : Nat → Int64} {w : Int32} {nb : Int32} {mn : Int32} {ai : Int32} {en : Int32} {th : Int32} {op : Int32} {wr : Int32} {L v : Nat} (hL : L + 4 ≤ 6000) (hv : v < 2 ^ 32) : ∀ (k : Nat)  (H : Heap) (locs : List Loc) (ls : Array Slot), k ≤ 4 → lv_has ls 4 [(3, .int (nI (4 - k))), (2, .int (nI v)), (0, .ref (ad 0))] → va_P (dC, dI) vwCl (xm ad ca kf vf (ps_k tf L v (4 - k)) fr sf fi bk bv w (nI (L + (4 - k))) nb mn ai en th op wr) H → va_D A (xm ad ca kf vf (ps_k tf L v (4 - k)) fr sf fi bk bv w (nI (L + (4 - k))) nb mn ai en th op wr) → va_S A s.heap H locs → (∀ (H : Heap) (locs : List Loc) (ls : Array Slot), va_P (dC, dI) vwCl (xm ad ca kf vf (ps_k tf L v 4) fr sf fi bk bv w (nI (L + 4)) nb mn ai en th op wr) H → va_D A (xm ad ca kf vf (ps_k tf L v 4) fr sf fi bk bv w (nI (L + 4)) nb mn ai en th op wr) → va_S A s.heap H locs → W p l e ({ frames := 1, cells := 0, slots := 0, locals := 26 } : Room) s m args below meth c H locs 0 0 Q (F0 m 46 ls [])) → W p l e ({ frames := 1, cells := 0, slots := 0, locals := 26 } : Room) s m args below meth c H locs 0 0 Q (F0 m 12 ls []) := by
  intro k
  induction k with
  | zero =>
    intro  H locs ls hk hl hP hD hS kk
    have hl : lv_has ls 4 [(3, .int (nI (4 - 0))), (2, .int (nI v)), (0, .ref (ad 0))] := hl
    refine lv_iload_n hx hb dX4_seal_12 rfl (lv_at hl 0 rfl) ?_
    refine lv_iconst (v := nI 4) hx hb dX4_seal_13 (by decide) ?_
    refine lv_icmp_ge (tgt := 46) hx hb dX4_seal_14 rfl (fun hc => ?_) (fun hc => absurd hc (not_not_intro (by decide)))
    exact kk H locs ls hP hD hS
  | succ k ih =>
    intro  H locs ls hk hl hP hD hS kk
    have hl : lv_has ls 4 [(3, .int (nI (4 - (k + 1)))), (2, .int (nI v)), (0, .ref (ad 0))] := hl
    refine lv_iload_n hx hb dX4_seal_12 rfl (lv_at hl 0 rfl) ?_
    refine lv_iconst (v := nI 4) hx hb dX4_seal_13 (by decide) ?_
    refine lv_icmp_ge (tgt := 46) hx hb dX4_seal_14 rfl (fun hc => absurd hc (by rw [nI_leI (by decide) (by omega)]; omega)) (fun hc => ?_)
    refine lv_aload_n hx hb dX4_seal_17 rfl (lv_at hl 2 rfl) ?_
    refine va_get (D := (dC, dI)) (ci := 4) (v := .ref (ad 3)) (C := RX4) (T := TX4) (N := 17) (ref := "SortedRunModel") hx hb hts (xg_u mb_uws_X4) hown hK hP 0 rfl rfl 2 (by decide) (xg_w hts mb_fieldLink_RX4_17) (fun _ h9 => h9) rfl dX4_seal_18 ?_
    refine lv_aload_n hx hb dX4_seal_21 rfl (lv_at hl 2 rfl) ?_
    refine lv_dup hx hb dX4_seal_22 rfl ?_
    refine va_get (D := (dC, dI)) (ci := 4) (v := .int (nI (L + (4 - (k + 1))))) (C := RX4) (T := TX4) (N := 17) (ref := "SortedRunModel") hx hb hts (xg_u mb_uws_X4) hown hK hP 0 rfl rfl 9 (by decide) (xg_w hts mb_fieldLink_RX4_45) (fun _ h9 => h9) rfl dX4_seal_23 ?_
    refine lv_dup_x1 hx hb dX4_seal_26 rfl rfl ?_
    refine lv_iconst (v := 1) hx hb dX4_seal_27 (by decide) ?_
    refine lv_iadd hx hb dX4_seal_28 ?_
    refine lv_topi (fun z1 ez1 => ?_)
    have ez1 : z1 = nI (L + (4 - (k + 1)) + 1) := ez1.trans (nI_1 (L + (4 - (k + 1))))
    subst ez1
    refine va_put (D := (dC, dI)) (ci := 4) (v := .int (nI (L + (4 - (k + 1)) + 1))) (ty := .int) (C := RX4) (T := TX4) (N := 17) (ref := "SortedRunModel") hx hb hts (xg_u mb_uws_X4) tyX4 tyX4_ok nmX4 hown hK hP hD hS 0 rfl rfl 9 (by decide) (xg_w hts mb_fieldLink_RX4_45) (fun _ h9 => h9) rfl (by decide +kernel) rfl rfl (Nat.le_of_ble_eq_true rfl) dX4_seal_29 (fun H locs hP hD hS => ?_)
    have hP : va_P (dC, dI) vwCl (xm ad ca kf vf (ps_k tf L v (4 - (k + 1))) fr sf fi bk bv w (nI (L + (4 - (k + 1)) + 1)) nb mn ai en th op wr) H := hP
    have hD : va_D A (xm ad ca kf vf (ps_k tf L v (4 - (k + 1))) fr sf fi bk bv w (nI (L + (4 - (k + 1)) + 1)) nb mn ai en th op wr) := hD
    refine lv_iload_n hx hb dX4_seal_32 rfl (lv_at hl 1 rfl) ?_
    refine lv_bipush (v := nI 8) hx hb dX4_seal_33 (by decide) ?_
    refine lv_iload_n hx hb dX4_seal_35 rfl (lv_at hl 0 rfl) ?_
    refine lv_imul hx hb dX4_seal_36 ?_
    refine lv_topi (fun z2 ez2 => ?_)
    have ez2 : z2 = nI (8 * (4 - (k + 1))) := ez2.trans (pk_mul _ _)
    subst ez2
    refine lv_ishr hx hb dX4_seal_37 ?_
    refine lv_i2b (v := sb_b (v / 2 ^ (8 * (4 - (k + 1))))) hx hb dX4_seal_38 (pm_sb hv (by omega)) ?_
    refine va_bast hx hb hK hP hD hS 3 2 rfl rfl (vp_in_nI (by omega) (by decide)) dX4_seal_39 (fun H locs hP hD hS => ?_)
    have e9 : upd (ps_k tf L v (4 - (k + 1))) (nI (L + (4 - (k + 1)))).toNatClampNeg (vp_nar .byte (sb_b (v / 2 ^ (8 * (4 - (k + 1)))))) = upd (ps_k tf L v (4 - (k + 1))) (L + (4 - (k + 1))) (sb_b (v / 2 ^ (8 * (4 - (k + 1))))) := by rw [nI_clamp (by omega), pm_vb]
    rw [e9] at hP hD
    clear e9
    have hP : va_P (dC, dI) vwCl (xm ad ca kf vf (upd (ps_k tf L v (4 - (k + 1))) (L + (4 - (k + 1))) (sb_b (v / 2 ^ (8 * (4 - (k + 1)))))) fr sf fi bk bv w (nI (L + (4 - (k + 1)) + 1)) nb mn ai en th op wr) H := hP
    have hD : va_D A (xm ad ca kf vf (upd (ps_k tf L v (4 - (k + 1))) (L + (4 - (k + 1))) (sb_b (v / 2 ^ (8 * (4 - (k + 1)))))) fr sf fi bk bv w (nI (L + (4 - (k + 1)) + 1)) nb mn ai en th op wr) := hD
    have e1 : L + (4 - (k + 1)) + 1 = L + (4 - k) := by omega
    have e2 : upd (ps_k tf L v (4 - (k + 1))) (L + (4 - (k + 1))) (sb_b (v / 2 ^ (8 * (4 - (k + 1))))) = ps_k tf L v (4 - k) := by rw [show 4 - k = (4 - (k + 1)) + 1 by omega]; rfl
    rw [e1, e2] at hP hD
    refine lv_iinc (k := 0) (v := nI (4 - k)) hx hb dX4_seal_40 hl rfl ((nI_1 _).trans (congrArg nI (by omega))) (by decide) rfl (fun ls hl => ?_)
    have hl : lv_has ls 4 [(3, .int (nI (4 - k))), (2, .int (nI v)), (0, .ref (ad 0))] := hl
    refine lv_goto (tgt := 12) hx hb dX4_seal_43 rfl ?_
    exact ih _ _ _ (by omega) hl hP hD hS kk

set_option maxHeartbeats 4000000 in
set_option maxRecDepth 100000 in
theorem cX4_seal_m (l : Launch) (dC : Nat → ClassId) (dI : Nat → Nat → Nat) (ca : Nat → ClassId) (ad : Nat → Nat) (kf : Nat → Int32) (vf : Nat → Int64) (tf : Nat → Int32) (fr : Nat → Int32) (sf : Nat → Int32) (fi : Nat → Int32) (bk : Nat → Int32) (bv : Nat → Int64) (w : Int32) (nb : Int32) (mn : Int32) (ai : Int32) (en : Int32) (th : Int32) (op : Int32) (wr : Int32) (L a : Nat) (hL : L + 4 ≤ 6000) (ha : a ≤ L) : ∀ sz : Nat, Met l yX4_seal wsX4_seal ({ frames := 1, cells := 0, slots := 0, locals := 26 } : Room) (va_Pc [.ref (ad 0), .int (nI a)] (xP (dC, dI) (xt ca) (xm ad ca kf vf tf fr sf fi bk bv w (nI L) nb mn ai en th op wr) sz)) (va_Qv (S := Unit) (fun _ => True) (fun u t => xB (dC, dI) (xt ca) (va_A (xm ad ca kf vf tf fr sf fi bk bv w (nI L) nb mn ai en th op wr) sz) (xm ad ca kf vf (ps_k tf L (ps_w tf a L) 4) fr sf fi bk bv w (nI (L + 4)) nb mn ai en th op wr) t) (va_A (xm ad ca kf vf tf fr sf fi bk bv w (nI L) nb mn ai en th op wr) sz)) 0 0 (va_A (xm ad ca kf vf tf fr sf fi bk bv w (nI L) nb mn ai en th op wr) sz) := by
  intro sz
  refine Met.ofW (cc := cX4_seal) (maxL := 4) (ret := none) (by decide) rfl ?_
  intro p e s m args below meth c s₁ B hml hv
  obtain ⟨rfl, hsz, hP, hK, hD0, hE⟩ := hv
  have hx := B.exec
  have hb := B.bytes
  have hr := B.returns
  have hts := atoms_spec (ws := wsX4_seal) B.pre
  have hown : s.vm.findClass RX4 = some m.cls := findClass_of_methodNamed B.named
  have hlocks := B.notSynchronized
  subst hsz
  have hD := hD0.self (sz := s.heap.size)
  generalize hAe : va_A (xm ad ca kf vf tf fr sf fi bk bv w (nI L) nb mn ai en th op wr) s.heap.size = A at hD hE ⊢
  have hA : ∀ q : Nat, s.heap.size ≤ q → A q := fun q h => by rw [← hAe]; exact Or.inr h
  have hS : va_S A s.heap s.heap [] := va_S.rf
  have hl := lv_entry ([.ref (ad 0), .int (nI a)]) (n := 4) (Nat.le_of_ble_eq_true rfl)
  rw [lg_entry_eq]
  generalize (lg_sl ([.ref (ad 0), .int (nI a)]) ++ List.replicate (4 - (lg_sl ([.ref (ad 0), .int (nI a)])).length) Slot.unset).toArray = ls at hl ⊢
  have hl : lv_has ls 4 [(0, .ref (ad 0)), (1, .int (nI a))] := hl
  refine lv_aload_n hx hb dX4_seal_0 rfl (lv_at hl 0 rfl) ?_
  refine lv_iload_n hx hb dX4_seal_1 rfl (lv_at hl 1 rfl) ?_
  refine lv_aload_n hx hb dX4_seal_2 rfl (lv_at hl 0 rfl) ?_
  refine va_get (D := (dC, dI)) (ci := 4) (v := .int (nI L)) (C := RX4) (T := TX4) (N := 17) (ref := "SortedRunModel") hx hb hts (xg_u mb_uws_X4) hown hK hP 0 rfl rfl 9 (by decide) (xg_w hts mb_fieldLink_RX4_45) (fun _ h9 => h9) rfl dX4_seal_3 ?_
  refine xk_i (va_runV (As := [.int (nI a), .int (nI L)]) (rest := []) ⟨hx, hb, hml, hown, hts⟩ (cX4_sum_m l dC dI ca ad kf vf tf fr sf fi bk bv w (nI L) nb mn ai en th op wr a L ha (by omega) _) (cwV 2 hts (xg_V mb_methodLink_RX4_55 mb_instanceMethod_yX4_sum mb_selects_yX4_sum mb_initialized_RX4 mb_code_yX4_sum) rfl rfl rfl ⟨rfl, by decide, by decide, by decide +kernel⟩ ⟨Nat.le_of_ble_eq_true rfl, Nat.le_of_ble_eq_true rfl⟩) (xpreV (va_recv (q0 := 0) hK hP rfl rfl) hK hP hD hS hA hE) rfl rfl hl.1 rfl (lv_room (Nat.le_of_ble_eq_true rfl)) dX4_seal_6 ⟨Nat.le_of_ble_eq_true rfl, Nat.le_of_ble_eq_true rfl⟩) hD hS hA (fun r u H locs hu hP hD hS => ?_)
  subst hu
  have hP : va_P (dC, dI) vwCl (xm ad ca kf vf tf fr sf fi bk bv w (nI L) nb mn ai en th op wr) H := hP
  have hD : va_D A (xm ad ca kf vf tf fr sf fi bk bv w (nI L) nb mn ai en th op wr) := hD
  refine lv_istore_n hx hb dX4_seal_9 rfl hl (by decide) rfl (fun ls hl => ?_)
  have hl : lv_has ls 4 [(2, .int (nI (ps_w tf a L))), (0, .ref (ad 0)), (1, .int (nI a))] := hl
  refine lv_iconst (v := nI (4 - 4)) hx hb dX4_seal_10 (by decide) ?_
  refine lv_istore_n hx hb dX4_seal_11 rfl hl (by decide) rfl (fun ls hl => ?_)
  have hl : lv_has ls 4 [(3, .int (nI (4 - 4))), (2, .int (nI (ps_w tf a L))), (0, .ref (ad 0)), (1, .int (nI a))] := hl
  refine lpX4_seal_go hx hb hml hown hts hK hA hE (L := L) (v := ps_w tf a L) hL (ps_w_lt tf a L) 4 _ _ _ (Nat.le_refl _) (lv_sub hl [0, 1, 2] rfl) hP hD hS (fun H locs ls hP hD hS => ?_)
  have hP9 := hP
  have hD9 := hD
  exact W.vret hx hb hr (fun t ht hW => ⟨⟨(), rfl, trivial, by rw [ht]; exact hP9, va_K.moved hW.alike hK, hD9⟩, hS.F ht⟩) hS.2.2 dX4_seal_46

set_option maxHeartbeats 4000000 in
set_option maxRecDepth 100000 in
theorem lpX4_isSealed_go {p : Program} {l : Launch} {e : Env} {s : State} {m : MethodId} {args : Array Value} {below : List Frame} {meth : Method} {c : Code} {Q : State → Prop} {A : Nat → Prop} {dC : Nat → ClassId} {dI : Nat → Nat → Nat} {ca : Nat → ClassId} {ad : Nat → Nat} (hx : p.tables.exec = Jvm.exec) (hb : c.code = cX4_isSealed) (hml : c.maxLocals = 5) (hown : s.vm.findClass RX4 = some m.cls) (hts : ∀ w ∈ wsX4_isSealed, w.before args s = true) (hK : va_K (dC, dI) vwCl (xt ca) s) (hA : ∀ q : Nat, s.heap.size ≤ q → A q) (hE : xn_E A s) {kf : Nat → Int32} {vf : Nat → Int64} {tf : Nat → Int32} {fr : Nat → Int32} {sf : Nat → Int32} {fi : Nat → Int32} {bk : Nat → Int32} {bv : Nat → Int64} {w : Int32} {ny : Int32} {nb : Int32} {mn : Int32} {ai : Int32} {en : Int32} {th : Int32} {op : Int32} {wr : Int32} {a b : Nat} (hb9 : b + 4 ≤ 6000) (hf : pb_fit tf) : ∀ (k : Nat)  (H : Heap) (locs : List Loc) (ls : Array Slot), k ≤ 4 → (∀ j, j < 4 - k → pb_ub tf (b + j) = ps_w tf a b / 2 ^ (8 * j) % 256) → lv_has ls 5 [(4, .int (nI (4 - k))), (3, .int (nI (ps_w tf a b))), (0, .ref (ad 0)), (2, .int (nI b))] → va_P (dC, dI) vwCl (xm ad ca kf vf tf fr sf fi bk bv w ny nb mn ai en th op wr) H → va_D A (xm ad ca kf vf tf fr sf fi bk bv w ny nb mn ai en th op wr) → va_S A s.heap H locs → (ps_has tf a b → ∀ (H : Heap) (locs : List Loc) (ls : Array Slot), va_P (dC, dI) vwCl (xm ad ca kf vf tf fr sf fi bk bv w ny nb mn ai en th op wr) H → va_D A (xm ad ca kf vf tf fr sf fi bk bv w ny nb mn ai en th op wr) → va_S A s.heap H locs → W p l e ({ frames := 1, cells := 0, slots := 0, locals := 26 } : Room) s m args below meth c H locs 0 0 Q (F0 m 44 ls [])) → (¬ ps_has tf a b → ∀ (H : Heap) (locs : List Loc) (ls : Array Slot), va_P (dC, dI) vwCl (xm ad ca kf vf tf fr sf fi bk bv w ny nb mn ai en th op wr) H → va_D A (xm ad ca kf vf tf fr sf fi bk bv w ny nb mn ai en th op wr) → va_S A s.heap H locs → W p l e ({ frames := 1, cells := 0, slots := 0, locals := 26 } : Room) s m args below meth c H locs 0 0 Q (F0 m 36 ls [])) → W p l e ({ frames := 1, cells := 0, slots := 0, locals := 26 } : Room) s m args below meth c H locs 0 0 Q (F0 m 10 ls []) := by
  intro k
  induction k with
  | zero =>
    intro  H locs ls hk hq hl hP hD hS kk kn
    have hl : lv_has ls 5 [(4, .int (nI (4 - 0))), (3, .int (nI (ps_w tf a b))), (0, .ref (ad 0)), (2, .int (nI b))] := hl
    refine lv_iload hx hb dX4_isSealed_10 (lv_at hl 0 rfl) ?_
    refine lv_iconst (v := nI 4) hx hb dX4_isSealed_12 (by decide) ?_
    refine lv_icmp_ge (tgt := 44) hx hb dX4_isSealed_13 rfl (fun hc => ?_) (fun hc => absurd hc (not_not_intro (by decide)))
    exact kk hq H locs ls hP hD hS
  | succ k ih =>
    intro  H locs ls hk hq hl hP hD hS kk kn
    have hl : lv_has ls 5 [(4, .int (nI (4 - (k + 1)))), (3, .int (nI (ps_w tf a b))), (0, .ref (ad 0)), (2, .int (nI b))] := hl
    refine lv_iload hx hb dX4_isSealed_10 (lv_at hl 0 rfl) ?_
    refine lv_iconst (v := nI 4) hx hb dX4_isSealed_12 (by decide) ?_
    refine lv_icmp_ge (tgt := 44) hx hb dX4_isSealed_13 rfl (fun hc => absurd hc (by rw [nI_leI (by decide) (by omega)]; omega)) (fun hc => ?_)
    refine lv_aload_n hx hb dX4_isSealed_16 rfl (lv_at hl 2 rfl) ?_
    refine va_get (D := (dC, dI)) (ci := 4) (v := .ref (ad 3)) (C := RX4) (T := TX4) (N := 17) (ref := "SortedRunModel") hx hb hts (xg_u mb_uws_X4) hown hK hP 0 rfl rfl 2 (by decide) (xg_w hts mb_fieldLink_RX4_17) (fun _ h9 => h9) rfl dX4_isSealed_17 ?_
    refine lv_iload_n hx hb dX4_isSealed_20 rfl (lv_at hl 3 rfl) ?_
    refine lv_iload hx hb dX4_isSealed_21 (lv_at hl 0 rfl) ?_
    refine lv_iadd hx hb dX4_isSealed_23 ?_
    refine lv_topi (fun z1 ez1 => ?_)
    have ez1 : z1 = nI (b + (4 - (k + 1))) := ez1.trans (nI_add _ _)
    subst ez1
    refine va_bald hx hb hK hP 3 2 rfl rfl (vp_in_nI (by omega) (by decide)) dX4_isSealed_24 ?_
    refine lv_topi (fun z2 ez2 => ?_)
    have ez2 : z2 = tf (b + (4 - (k + 1))) := ez2.trans (congrArg tf (nI_clamp (by omega)))
    subst ez2
    refine lv_iload_n hx hb dX4_isSealed_25 rfl (lv_at hl 1 rfl) ?_
    refine lv_bipush (v := nI 8) hx hb dX4_isSealed_26 (by decide) ?_
    refine lv_iload hx hb dX4_isSealed_28 (lv_at hl 0 rfl) ?_
    refine lv_imul hx hb dX4_isSealed_30 ?_
    refine lv_topi (fun z3 ez3 => ?_)
    have ez3 : z3 = nI (8 * (4 - (k + 1))) := ez3.trans (pk_mul _ _)
    subst ez3
    refine lv_ishr hx hb dX4_isSealed_31 ?_
    refine lv_i2b (v := sb_b (ps_w tf a b / 2 ^ (8 * (4 - (k + 1))))) hx hb dX4_isSealed_32 (pm_sb (ps_w_lt tf a b) (by omega)) ?_
    refine lv_icmp_eq (tgt := 38) hx hb dX4_isSealed_33 rfl (fun hc => ?_) (fun hc => ?_)
    · have hc1 := (pm_eqsb hf).mp hc
      refine lv_iinc (k := 0) (v := nI (4 - k)) hx hb dX4_isSealed_38 hl rfl ((nI_1 _).trans (congrArg nI (by omega))) (by decide) rfl (fun ls hl => ?_)
      have hl : lv_has ls 5 [(4, .int (nI (4 - k))), (3, .int (nI (ps_w tf a b))), (0, .ref (ad 0)), (2, .int (nI b))] := hl
      refine lv_goto (tgt := 10) hx hb dX4_isSealed_41 rfl ?_
      refine ih _ _ _ (by omega) (fun j hj => ?_) hl hP hD hS kk kn
      by_cases e : j = (4 - (k + 1))
      · subst e; exact hc1
      · exact hq j (by omega)
    · exact kn (fun hh => hc ((pm_eqsb hf).mpr (hh (4 - (k + 1)) (by omega)))) H locs ls hP hD hS

set_option maxHeartbeats 4000000 in
set_option maxRecDepth 100000 in
theorem cX4_isSealed_m (l : Launch) (dC : Nat → ClassId) (dI : Nat → Nat → Nat) (ca : Nat → ClassId) (ad : Nat → Nat) (kf : Nat → Int32) (vf : Nat → Int64) (tf : Nat → Int32) (fr : Nat → Int32) (sf : Nat → Int32) (fi : Nat → Int32) (bk : Nat → Int32) (bv : Nat → Int64) (w : Int32) (ny : Int32) (nb : Int32) (mn : Int32) (ai : Int32) (en : Int32) (th : Int32) (op : Int32) (wr : Int32) (a b : Nat) (hab : a ≤ b) (hb9 : b + 4 ≤ 6000) (hf : pb_fit tf) : ∀ sz : Nat, Met l yX4_isSealed wsX4_isSealed ({ frames := 1, cells := 0, slots := 0, locals := 26 } : Room) (va_Pc [.ref (ad 0), .int (nI a), .int (nI b)] (xP (dC, dI) (xt ca) (xm ad ca kf vf tf fr sf fi bk bv w ny nb mn ai en th op wr) sz)) (va_Qi (S := Unit) (fun r _ => (r = 1 ∧ ps_has tf a b) ∨ (r = 0 ∧ ¬ ps_has tf a b)) (fun u t => xB (dC, dI) (xt ca) (va_A (xm ad ca kf vf tf fr sf fi bk bv w ny nb mn ai en th op wr) sz) (xm ad ca kf vf tf fr sf fi bk bv w ny nb mn ai en th op wr) t) (va_A (xm ad ca kf vf tf fr sf fi bk bv w ny nb mn ai en th op wr) sz)) 0 0 (va_A (xm ad ca kf vf tf fr sf fi bk bv w ny nb mn ai en th op wr) sz) := by
  intro sz
  refine Met.ofW (cc := cX4_isSealed) (maxL := 5) (ret := (some .boolean)) (by decide) rfl ?_
  intro p e s m args below meth c s₁ B hml hv
  obtain ⟨rfl, hsz, hP, hK, hD0, hE⟩ := hv
  have hx := B.exec
  have hb := B.bytes
  have hr := B.returns
  have hts := atoms_spec (ws := wsX4_isSealed) B.pre
  have hown : s.vm.findClass RX4 = some m.cls := findClass_of_methodNamed B.named
  have hlocks := B.notSynchronized
  subst hsz
  have hD := hD0.self (sz := s.heap.size)
  generalize hAe : va_A (xm ad ca kf vf tf fr sf fi bk bv w ny nb mn ai en th op wr) s.heap.size = A at hD hE ⊢
  have hA : ∀ q : Nat, s.heap.size ≤ q → A q := fun q h => by rw [← hAe]; exact Or.inr h
  have hS : va_S A s.heap s.heap [] := va_S.rf
  have hl := lv_entry ([.ref (ad 0), .int (nI a), .int (nI b)]) (n := 5) (Nat.le_of_ble_eq_true rfl)
  rw [lg_entry_eq]
  generalize (lg_sl ([.ref (ad 0), .int (nI a), .int (nI b)]) ++ List.replicate (5 - (lg_sl ([.ref (ad 0), .int (nI a), .int (nI b)])).length) Slot.unset).toArray = ls at hl ⊢
  have hl : lv_has ls 5 [(0, .ref (ad 0)), (1, .int (nI a)), (2, .int (nI b))] := hl
  refine lv_aload_n hx hb dX4_isSealed_0 rfl (lv_at hl 0 rfl) ?_
  refine lv_iload_n hx hb dX4_isSealed_1 rfl (lv_at hl 1 rfl) ?_
  refine lv_iload_n hx hb dX4_isSealed_2 rfl (lv_at hl 2 rfl) ?_
  refine xk_i (va_runV (As := [.int (nI a), .int (nI b)]) (rest := []) ⟨hx, hb, hml, hown, hts⟩ (cX4_sum_m l dC dI ca ad kf vf tf fr sf fi bk bv w ny nb mn ai en th op wr a b hab (by omega) _) (cwV 2 hts (xg_V mb_methodLink_RX4_55 mb_instanceMethod_yX4_sum mb_selects_yX4_sum mb_initialized_RX4 mb_code_yX4_sum) rfl rfl rfl ⟨rfl, by decide, by decide, by decide +kernel⟩ ⟨Nat.le_of_ble_eq_true rfl, Nat.le_of_ble_eq_true rfl⟩) (xpreV (va_recv (q0 := 0) hK hP rfl rfl) hK hP hD hS hA hE) rfl rfl hl.1 rfl (lv_room (Nat.le_of_ble_eq_true rfl)) dX4_isSealed_3 ⟨Nat.le_of_ble_eq_true rfl, Nat.le_of_ble_eq_true rfl⟩) hD hS hA (fun r u H locs hu hP hD hS => ?_)
  subst hu
  have hP : va_P (dC, dI) vwCl (xm ad ca kf vf tf fr sf fi bk bv w ny nb mn ai en th op wr) H := hP
  have hD : va_D A (xm ad ca kf vf tf fr sf fi bk bv w ny nb mn ai en th op wr) := hD
  refine lv_istore_n hx hb dX4_isSealed_6 rfl hl (by decide) rfl (fun ls hl => ?_)
  have hl : lv_has ls 5 [(3, .int (nI (ps_w tf a b))), (0, .ref (ad 0)), (1, .int (nI a)), (2, .int (nI b))] := hl
  refine lv_iconst (v := nI (4 - 4)) hx hb dX4_isSealed_7 (by decide) ?_
  refine lv_istore hx hb dX4_isSealed_8 hl (by decide) rfl (fun ls hl => ?_)
  have hl : lv_has ls 5 [(4, .int (nI (4 - 4))), (3, .int (nI (ps_w tf a b))), (0, .ref (ad 0)), (1, .int (nI a)), (2, .int (nI b))] := hl
  refine lpX4_isSealed_go hx hb hml hown hts hK hA hE (a := a) (b := b) hb9 hf 4 _ _ _ (Nat.le_refl _) (fun j hj => absurd hj (by omega)) (lv_sub hl [0, 1, 2, 4] rfl) hP hD hS (fun hh H locs ls hP hD hS => ?_) (fun hh H locs ls hP hD hS => ?_)
  · refine lv_iconst (v := 1) hx hb dX4_isSealed_44 (by decide) ?_
    have hP9 := hP
    have hD9 := hD
    exact W.zret (v := 1) hx hb hr (by rfl) (fun t ht hW => ⟨⟨1, (), rfl, Or.inl ⟨rfl, hh⟩, by rw [ht]; exact hP9, va_K.moved hW.alike hK, hD9⟩, hS.F ht⟩) hS.2.2 dX4_isSealed_45
  · refine lv_iconst (v := 0) hx hb dX4_isSealed_36 (by decide) ?_
    have hP9 := hP
    have hD9 := hD
    exact W.zret (v := 0) hx hb hr (by rfl) (fun t ht hW => ⟨⟨0, (), rfl, Or.inr ⟨rfl, hh⟩, by rw [ht]; exact hP9, va_K.moved hW.alike hK, hD9⟩, hS.F ht⟩) hS.2.2 dX4_isSealed_37
