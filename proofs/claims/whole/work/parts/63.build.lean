/-! SortedRunModel: build (rows by wip/whole/wmod2.py) -/
set_option maxHeartbeats 4000000 in
set_option maxRecDepth 100000 in
theorem lpX4_build_bl {p : Program} {l : Launch} {e : Env} {s : State} {m : MethodId} {args : Array Value} {below : List Frame} {meth : Method} {c : Code} {Q : State → Prop} {A : Nat → Prop} {dC : Nat → ClassId} {dI : Nat → Nat → Nat} {ca : Nat → ClassId} {ad : Nat → Nat} (hx : p.tables.exec = Jvm.exec) (hb : c.code = cX4_build) (hml : c.maxLocals = 5) (hown : s.vm.findClass RX4 = some m.cls) (hts : ∀ w ∈ wsX4_build, w.before args s = true) (hK : va_K (dC, dI) vwCl (xt ca) s) (hA : ∀ q : Nat, s.heap.size ≤ q → A q) (hE : xn_E A s) {kf : Nat → Int32} {vf : Nat → Int64} {fr : Nat → Int32} {sf : Nat → Int32} {fi : Nat → Int32} {bk : Nat → Int32} {bv : Nat → Int64} {nb : Int32} {mn : Int32} {ai : Int32} {en : Int32} {th : Int32} {op : Int32} {wr : Int32} {i0 w9 : Nat} {z1 : Int32} {sw : pw_P} (hw : w9 ≤ 300) (hi : i0 < w9) (hup : pw_up kf w9) (hL : sw.2 + 15 * min 8 (w9 - i0) + 4 ≤ 4889) : ∀ (k : Nat) (m9 : Nat) (H : Heap) (locs : List Loc) (ls : Array Slot), m9 + k = min 8 (w9 - i0) → lv_has ls 5 [(4, .int (nI (i0 + m9))), (0, .ref (ad 0)), (1, .int z1), (2, .int (nI i0)), (3, .int (nI sw.2))] → va_P (dC, dI) vwCl (xm ad ca kf vf ((pw_b kf vf i0 m9 sw).1) fr sf fi bk bv (nI w9) (nI (pw_b kf vf i0 m9 sw).2) nb mn ai en th op wr) H → va_D A (xm ad ca kf vf ((pw_b kf vf i0 m9 sw).1) fr sf fi bk bv (nI w9) (nI (pw_b kf vf i0 m9 sw).2) nb mn ai en th op wr) → va_S A s.heap H locs → (∀ (H : Heap) (locs : List Loc) (ls : Array Slot), lv_has ls 5 [(0, .ref (ad 0)), (1, .int z1), (2, .int (nI i0)), (3, .int (nI sw.2))] → va_P (dC, dI) vwCl (xm ad ca kf vf ((pw_b kf vf i0 (min 8 (w9 - i0)) sw).1) fr sf fi bk bv (nI w9) (nI (pw_b kf vf i0 (min 8 (w9 - i0)) sw).2) nb mn ai en th op wr) H → va_D A (xm ad ca kf vf ((pw_b kf vf i0 (min 8 (w9 - i0)) sw).1) fr sf fi bk bv (nI w9) (nI (pw_b kf vf i0 (min 8 (w9 - i0)) sw).2) nb mn ai en th op wr) → va_S A s.heap H locs → W p l e ({ frames := 2, cells := 0, slots := 0, locals := 49 } : Room) s m args below meth c H locs 0 0 Q (F0 m 108 ls [])) → W p l e ({ frames := 2, cells := 0, slots := 0, locals := 49 } : Room) s m args below meth c H locs 0 0 Q (F0 m 25 ls []) := by
  intro k
  induction k with
  | zero =>
    intro m9 H locs ls hm hl hP hD hS kg
    have hl : lv_has ls 5 [(4, .int (nI (i0 + m9))), (0, .ref (ad 0)), (1, .int z1), (2, .int (nI i0)), (3, .int (nI sw.2))] := hl
    obtain rfl : m9 = min 8 (w9 - i0) := by omega
    refine lv_iload hx hb dX4_build_25 (lv_at hl 0 rfl) ?_
    refine lv_aload_n hx hb dX4_build_27 rfl (lv_at hl 1 rfl) ?_
    refine va_get (D := (dC, dI)) (ci := 4) (v := .int (nI w9)) (C := RX4) (T := TX4) (N := 17) (ref := "SortedRunModel") hx hb hts (xg_u mb_uws_X4) hown hK hP 0 rfl rfl 8 (by decide) (xg_w hts mb_fieldLink_RX4_59) (fun _ h9 => h9) rfl dX4_build_28 ?_
    refine lv_icmp_ge (tgt := 108) hx hb dX4_build_31 rfl (fun hc => ?_) (fun hc => ?_)
    · exact kg H locs ls (lv_sub hl [1, 2, 3, 4] rfl) hP hD hS
    · have hc1 : ¬ w9 ≤ i0 + min 8 (w9 - i0) := fun z => hc (nI_le z (by omega))
      refine lv_iload hx hb dX4_build_34 (lv_at hl 0 rfl) ?_
      refine lv_iload_n hx hb dX4_build_36 rfl (lv_at hl 3 rfl) ?_
      refine lv_bipush (v := nI 8) hx hb dX4_build_37 (by decide) ?_
      refine lv_iadd hx hb dX4_build_39 ?_
      refine lv_topi (fun z1 ez1 => ?_)
      have ez1 : z1 = nI (i0 + 8) := ez1.trans (nI_add i0 8)
      subst ez1
      refine lv_icmp_ge (tgt := 108) hx hb dX4_build_40 rfl (fun hc => ?_) (fun hc => absurd hc (not_not_intro (nI_le (by omega) (by omega))))
      exact kg H locs ls (lv_sub hl [1, 2, 3, 4] rfl) hP hD hS
  | succ k ih =>
    intro m9 H locs ls hm hl hP hD hS kg
    have hl : lv_has ls 5 [(4, .int (nI (i0 + m9))), (0, .ref (ad 0)), (1, .int z1), (2, .int (nI i0)), (3, .int (nI sw.2))] := hl
    refine lv_iload hx hb dX4_build_25 (lv_at hl 0 rfl) ?_
    refine lv_aload_n hx hb dX4_build_27 rfl (lv_at hl 1 rfl) ?_
    refine va_get (D := (dC, dI)) (ci := 4) (v := .int (nI w9)) (C := RX4) (T := TX4) (N := 17) (ref := "SortedRunModel") hx hb hts (xg_u mb_uws_X4) hown hK hP 0 rfl rfl 8 (by decide) (xg_w hts mb_fieldLink_RX4_59) (fun _ h9 => h9) rfl dX4_build_28 ?_
    refine lv_icmp_ge (tgt := 108) hx hb dX4_build_31 rfl (fun hc => absurd hc (by rw [nI_leI (by omega) (by omega)]; omega)) (fun hc => ?_)
    refine lv_iload hx hb dX4_build_34 (lv_at hl 0 rfl) ?_
    refine lv_iload_n hx hb dX4_build_36 rfl (lv_at hl 3 rfl) ?_
    refine lv_bipush (v := nI 8) hx hb dX4_build_37 (by decide) ?_
    refine lv_iadd hx hb dX4_build_39 ?_
    refine lv_topi (fun z1 ez1 => ?_)
    have ez1 : z1 = nI (i0 + 8) := ez1.trans (nI_add i0 8)
    subst ez1
    refine lv_icmp_ge (tgt := 108) hx hb dX4_build_40 rfl (fun hc => absurd hc (by rw [nI_leI (by omega) (by omega)]; omega)) (fun hc => ?_)
    have u1 := pw_b_up (vf := vf) (i := i0) hup m9 sw (by omega)
    have u2 := pl_n5 (pw_x_lt (i := i0) (j := i0 + m9) hup (by omega) (by omega))
    have u3 := pl_n_le 9 (pu_f (vf (i0 + m9))).toBitVec.toNat
    refine lv_aload_n hx hb dX4_build_43 rfl (lv_at hl 1 rfl) ?_
    refine lv_iload hx hb dX4_build_44 (lv_at hl 0 rfl) ?_
    refine lv_iload_n hx hb dX4_build_46 rfl (lv_at hl 3 rfl) ?_
    refine lv_icmp_ne (tgt := 64) hx hb dX4_build_47 rfl (fun hc => ?_) (fun hc => ?_)
    · have hm0 : ¬ m9 = 0 := fun z => hc (congrArg nI (by omega))
      refine lv_aload_n hx hb dX4_build_64 rfl (lv_at hl 1 rfl) ?_
      refine va_get (D := (dC, dI)) (ci := 4) (v := .ref (ad 1)) (C := RX4) (T := TX4) (N := 17) (ref := "SortedRunModel") hx hb hts (xg_u mb_uws_X4) hown hK hP 0 rfl rfl 0 (by decide) (xg_w hts mb_fieldLink_RX4_9) (fun _ h9 => h9) rfl dX4_build_65 ?_
      refine lv_iload hx hb dX4_build_68 (lv_at hl 0 rfl) ?_
      refine va_iald hx hb hK hP 1 0 rfl rfl (vp_in_nI (by omega) (by decide)) dX4_build_70 ?_
      refine lv_topi (fun z2 ez2 => ?_)
      have ez2 : z2 = kf (i0 + m9) := ez2.trans (congrArg kf (nI_clamp (by omega)))
      subst ez2
      refine lv_i2l (v := (kf (i0 + m9)).toInt64) hx hb dX4_build_71 (rfl) ?_
      refine lv_aload_n hx hb dX4_build_72 rfl (lv_at hl 1 rfl) ?_
      refine va_get (D := (dC, dI)) (ci := 4) (v := .ref (ad 1)) (C := RX4) (T := TX4) (N := 17) (ref := "SortedRunModel") hx hb hts (xg_u mb_uws_X4) hown hK hP 0 rfl rfl 0 (by decide) (xg_w hts mb_fieldLink_RX4_9) (fun _ h9 => h9) rfl dX4_build_73 ?_
      refine lv_iload hx hb dX4_build_76 (lv_at hl 0 rfl) ?_
      refine lv_iconst (v := nI 1) hx hb dX4_build_78 (by decide) ?_
      refine lv_isub hx hb dX4_build_79 ?_
      refine lv_topi (fun z3 ez3 => ?_)
      have ez3 : z3 = nI (i0 + m9 - 1) := ez3.trans (pk_sub (by omega))
      subst ez3
      refine va_iald hx hb hK hP 1 0 rfl rfl (vp_in_nI (by omega) (by decide)) dX4_build_80 ?_
      refine lv_topi (fun z4 ez4 => ?_)
      have ez4 : z4 = kf (i0 + m9 - 1) := ez4.trans (congrArg kf (nI_clamp (by omega)))
      subst ez4
      refine lv_i2l (v := (kf (i0 + m9 - 1)).toInt64) hx hb dX4_build_81 (rfl) ?_
      refine lv_lsub hx hb dX4_build_82 ?_
      refine lv_lconst (v := 1) hx hb dX4_build_83 (by decide) ?_
      refine lv_lsub hx hb dX4_build_84 ?_
      refine lv_topl (fun z5 ez5 => ?_)
      have ez5 : z5 = pw_x kf i0 (i0 + m9) := ez5.trans (by unfold pw_x; rw [if_neg (by omega)])
      subst ez5
      refine xk_v (va_runV (As := [.long (pw_x kf i0 (i0 + m9))]) (rest := []) ⟨hx, hb, hml, hown, hts⟩ (cX4_number_m l dC dI ca ad kf vf ((pw_b kf vf i0 m9 sw).1) fr sf fi bk bv (nI w9) nb mn ai en th op wr (pw_b kf vf i0 m9 sw).2 (pw_x kf i0 (i0 + m9)) (by omega) _) (cwV 1 hts (xg_V mb_methodLink_RX4_66 mb_instanceMethod_yX4_number mb_selects_yX4_number mb_initialized_RX4 mb_code_yX4_number) rfl rfl rfl ⟨rfl, by decide, by decide, by decide +kernel⟩ ⟨Nat.le_of_ble_eq_true rfl, Nat.le_of_ble_eq_true rfl⟩) (xpreV (va_recv (q0 := 0) hK hP rfl rfl) hK hP hD hS hA hE) rfl rfl hl.1 rfl (lv_room (Nat.le_of_ble_eq_true rfl)) dX4_build_85 ⟨Nat.le_of_ble_eq_true rfl, Nat.le_of_ble_eq_true rfl⟩) hD hS hA (fun u H locs hu hP hD hS => ?_)
      have hP : va_P (dC, dI) vwCl (xm ad ca kf vf ((pw_n (pw_b kf vf i0 m9 sw) (pw_x kf i0 (i0 + m9))).1) fr sf fi bk bv (nI w9) (nI (pw_n (pw_b kf vf i0 m9 sw) (pw_x kf i0 (i0 + m9))).2) nb mn ai en th op wr) H := hP
      have hD : va_D A (xm ad ca kf vf ((pw_n (pw_b kf vf i0 m9 sw) (pw_x kf i0 (i0 + m9))).1) fr sf fi bk bv (nI w9) (nI (pw_n (pw_b kf vf i0 m9 sw) (pw_x kf i0 (i0 + m9))).2) nb mn ai en th op wr) := hD
      have u4 : (pw_n (pw_b kf vf i0 m9 sw) (pw_x kf i0 (i0 + m9))).2 = (pw_b kf vf i0 m9 sw).2 + pl_n 9 (pw_x kf i0 (i0 + m9)).toBitVec.toNat := rfl
      refine lv_aload_n hx hb dX4_build_88 rfl (lv_at hl 1 rfl) ?_
      refine lv_aload_n hx hb dX4_build_89 rfl (lv_at hl 1 rfl) ?_
      refine va_get (D := (dC, dI)) (ci := 4) (v := .ref (ad 2)) (C := RX4) (T := TX4) (N := 17) (ref := "SortedRunModel") hx hb hts (xg_u mb_uws_X4) hown hK hP 0 rfl rfl 1 (by decide) (xg_w hts mb_fieldLink_RX4_13) (fun _ h9 => h9) rfl dX4_build_90 ?_
      refine lv_iload hx hb dX4_build_93 (lv_at hl 0 rfl) ?_
      refine va_lald hx hb hK hP 2 1 rfl rfl (vp_in_nI (by omega) (by decide)) dX4_build_95 ?_
      refine lv_topl (fun z6 ez6 => ?_)
      have ez6 : z6 = vf (i0 + m9) := ez6.trans (congrArg vf (nI_clamp (by omega)))
      subst ez6
      refine xk_l (va_runS (As := [.long (vf (i0 + m9))]) (rest := [.ref (ad 0)]) ⟨hx, hb, hml, hown, hts⟩ (cX4_fold_m l dC dI ca ad kf vf ((pw_n (pw_b kf vf i0 m9 sw) (pw_x kf i0 (i0 + m9))).1) fr sf fi bk bv (nI w9) (nI (pw_n (pw_b kf vf i0 m9 sw) (pw_x kf i0 (i0 + m9))).2) nb mn ai en th op wr (vf (i0 + m9)) _) (cwS 1 hts (xg_S mb_methodLink_RX4_62 mb_static_yX4_fold mb_initialized_RX4 mb_code_yX4_fold) rfl rfl rfl ⟨rfl, by decide, by decide, by decide +kernel⟩ ⟨Nat.le_of_ble_eq_true rfl, Nat.le_of_ble_eq_true rfl⟩) (xpreS hK hP hD hS hA hE) rfl rfl hl.1 rfl (lv_room (Nat.le_of_ble_eq_true rfl)) dX4_build_96 ⟨Nat.le_of_ble_eq_true rfl, Nat.le_of_ble_eq_true rfl⟩) hD hS hA (fun r u H locs hu hP hD hS => ?_)
      subst hu
      have hP : va_P (dC, dI) vwCl (xm ad ca kf vf ((pw_n (pw_b kf vf i0 m9 sw) (pw_x kf i0 (i0 + m9))).1) fr sf fi bk bv (nI w9) (nI (pw_n (pw_b kf vf i0 m9 sw) (pw_x kf i0 (i0 + m9))).2) nb mn ai en th op wr) H := hP
      have hD : va_D A (xm ad ca kf vf ((pw_n (pw_b kf vf i0 m9 sw) (pw_x kf i0 (i0 + m9))).1) fr sf fi bk bv (nI w9) (nI (pw_n (pw_b kf vf i0 m9 sw) (pw_x kf i0 (i0 + m9))).2) nb mn ai en th op wr) := hD
      refine xk_v (va_runV (As := [.long (pu_f (vf (i0 + m9)))]) (rest := []) ⟨hx, hb, hml, hown, hts⟩ (cX4_number_m l dC dI ca ad kf vf ((pw_n (pw_b kf vf i0 m9 sw) (pw_x kf i0 (i0 + m9))).1) fr sf fi bk bv (nI w9) nb mn ai en th op wr (pw_n (pw_b kf vf i0 m9 sw) (pw_x kf i0 (i0 + m9))).2 (pu_f (vf (i0 + m9))) (by omega) _) (cwV 1 hts (xg_V mb_methodLink_RX4_66 mb_instanceMethod_yX4_number mb_selects_yX4_number mb_initialized_RX4 mb_code_yX4_number) rfl rfl rfl ⟨rfl, by decide, by decide, by decide +kernel⟩ ⟨Nat.le_of_ble_eq_true rfl, Nat.le_of_ble_eq_true rfl⟩) (xpreV (va_recv (q0 := 0) hK hP rfl rfl) hK hP hD hS hA hE) rfl rfl hl.1 rfl (lv_room (Nat.le_of_ble_eq_true rfl)) dX4_build_99 ⟨Nat.le_of_ble_eq_true rfl, Nat.le_of_ble_eq_true rfl⟩) hD hS hA (fun u H locs hu hP hD hS => ?_)
      have hP : va_P (dC, dI) vwCl (xm ad ca kf vf ((pw_b kf vf i0 (m9 + 1) sw).1) fr sf fi bk bv (nI w9) (nI (pw_b kf vf i0 (m9 + 1) sw).2) nb mn ai en th op wr) H := hP
      have hD : va_D A (xm ad ca kf vf ((pw_b kf vf i0 (m9 + 1) sw).1) fr sf fi bk bv (nI w9) (nI (pw_b kf vf i0 (m9 + 1) sw).2) nb mn ai en th op wr) := hD
      refine lv_iinc (k := 0) (v := nI (i0 + (m9 + 1))) hx hb dX4_build_102 hl rfl (nI_1 (i0 + m9)) (by decide) rfl (fun ls hl => ?_)
      have hl : lv_has ls 5 [(4, .int (nI (i0 + (m9 + 1)))), (0, .ref (ad 0)), (1, .int z1), (2, .int (nI i0)), (3, .int (nI sw.2))] := hl
      refine lv_goto (tgt := 25) hx hb dX4_build_105 rfl ?_
      exact ih (m9 + 1) _ _ _ (by omega) hl hP hD hS kg
    · have hm0 : i0 + m9 = i0 := (nI_eq (by omega) (by omega)).mp hc
      refine lv_aload_n hx hb dX4_build_50 rfl (lv_at hl 1 rfl) ?_
      refine va_get (D := (dC, dI)) (ci := 4) (v := .ref (ad 1)) (C := RX4) (T := TX4) (N := 17) (ref := "SortedRunModel") hx hb hts (xg_u mb_uws_X4) hown hK hP 0 rfl rfl 0 (by decide) (xg_w hts mb_fieldLink_RX4_9) (fun _ h9 => h9) rfl dX4_build_51 ?_
      refine lv_iload hx hb dX4_build_54 (lv_at hl 0 rfl) ?_
      refine va_iald hx hb hK hP 1 0 rfl rfl (vp_in_nI (by omega) (by decide)) dX4_build_56 ?_
      refine lv_topi (fun z2 ez2 => ?_)
      have ez2 : z2 = kf (i0 + m9) := ez2.trans (congrArg kf (nI_clamp (by omega)))
      subst ez2
      refine lv_i2l (v := (kf (i0 + m9)).toInt64) hx hb dX4_build_57 (rfl) ?_
      refine xk_l (va_runS (As := [.long ((kf (i0 + m9)).toInt64)]) (rest := [.ref (ad 0)]) ⟨hx, hb, hml, hown, hts⟩ (cX4_fold_m l dC dI ca ad kf vf ((pw_b kf vf i0 m9 sw).1) fr sf fi bk bv (nI w9) (nI (pw_b kf vf i0 m9 sw).2) nb mn ai en th op wr ((kf (i0 + m9)).toInt64) _) (cwS 1 hts (xg_S mb_methodLink_RX4_62 mb_static_yX4_fold mb_initialized_RX4 mb_code_yX4_fold) rfl rfl rfl ⟨rfl, by decide, by decide, by decide +kernel⟩ ⟨Nat.le_of_ble_eq_true rfl, Nat.le_of_ble_eq_true rfl⟩) (xpreS hK hP hD hS hA hE) rfl rfl hl.1 rfl (lv_room (Nat.le_of_ble_eq_true rfl)) dX4_build_58 ⟨Nat.le_of_ble_eq_true rfl, Nat.le_of_ble_eq_true rfl⟩) hD hS hA (fun r u H locs hu hP hD hS => ?_)
      subst hu
      have hP : va_P (dC, dI) vwCl (xm ad ca kf vf ((pw_b kf vf i0 m9 sw).1) fr sf fi bk bv (nI w9) (nI (pw_b kf vf i0 m9 sw).2) nb mn ai en th op wr) H := hP
      have hD : va_D A (xm ad ca kf vf ((pw_b kf vf i0 m9 sw).1) fr sf fi bk bv (nI w9) (nI (pw_b kf vf i0 m9 sw).2) nb mn ai en th op wr) := hD
      refine lv_goto (tgt := 85) hx hb dX4_build_61 rfl ?_
      refine lv_topl (fun z3 ez3 => ?_)
      have ez3 : z3 = pw_x kf i0 (i0 + m9) := ez3.trans (by unfold pw_x; rw [if_pos hm0])
      subst ez3
      refine xk_v (va_runV (As := [.long (pw_x kf i0 (i0 + m9))]) (rest := []) ⟨hx, hb, hml, hown, hts⟩ (cX4_number_m l dC dI ca ad kf vf ((pw_b kf vf i0 m9 sw).1) fr sf fi bk bv (nI w9) nb mn ai en th op wr (pw_b kf vf i0 m9 sw).2 (pw_x kf i0 (i0 + m9)) (by omega) _) (cwV 1 hts (xg_V mb_methodLink_RX4_66 mb_instanceMethod_yX4_number mb_selects_yX4_number mb_initialized_RX4 mb_code_yX4_number) rfl rfl rfl ⟨rfl, by decide, by decide, by decide +kernel⟩ ⟨Nat.le_of_ble_eq_true rfl, Nat.le_of_ble_eq_true rfl⟩) (xpreV (va_recv (q0 := 0) hK hP rfl rfl) hK hP hD hS hA hE) rfl rfl hl.1 rfl (lv_room (Nat.le_of_ble_eq_true rfl)) dX4_build_85 ⟨Nat.le_of_ble_eq_true rfl, Nat.le_of_ble_eq_true rfl⟩) hD hS hA (fun u H locs hu hP hD hS => ?_)
      have hP : va_P (dC, dI) vwCl (xm ad ca kf vf ((pw_n (pw_b kf vf i0 m9 sw) (pw_x kf i0 (i0 + m9))).1) fr sf fi bk bv (nI w9) (nI (pw_n (pw_b kf vf i0 m9 sw) (pw_x kf i0 (i0 + m9))).2) nb mn ai en th op wr) H := hP
      have hD : va_D A (xm ad ca kf vf ((pw_n (pw_b kf vf i0 m9 sw) (pw_x kf i0 (i0 + m9))).1) fr sf fi bk bv (nI w9) (nI (pw_n (pw_b kf vf i0 m9 sw) (pw_x kf i0 (i0 + m9))).2) nb mn ai en th op wr) := hD
      have u4 : (pw_n (pw_b kf vf i0 m9 sw) (pw_x kf i0 (i0 + m9))).2 = (pw_b kf vf i0 m9 sw).2 + pl_n 9 (pw_x kf i0 (i0 + m9)).toBitVec.toNat := rfl
      refine lv_aload_n hx hb dX4_build_88 rfl (lv_at hl 1 rfl) ?_
      refine lv_aload_n hx hb dX4_build_89 rfl (lv_at hl 1 rfl) ?_
      refine va_get (D := (dC, dI)) (ci := 4) (v := .ref (ad 2)) (C := RX4) (T := TX4) (N := 17) (ref := "SortedRunModel") hx hb hts (xg_u mb_uws_X4) hown hK hP 0 rfl rfl 1 (by decide) (xg_w hts mb_fieldLink_RX4_13) (fun _ h9 => h9) rfl dX4_build_90 ?_
      refine lv_iload hx hb dX4_build_93 (lv_at hl 0 rfl) ?_
      refine va_lald hx hb hK hP 2 1 rfl rfl (vp_in_nI (by omega) (by decide)) dX4_build_95 ?_
      refine lv_topl (fun z4 ez4 => ?_)
      have ez4 : z4 = vf (i0 + m9) := ez4.trans (congrArg vf (nI_clamp (by omega)))
      subst ez4
      refine xk_l (va_runS (As := [.long (vf (i0 + m9))]) (rest := [.ref (ad 0)]) ⟨hx, hb, hml, hown, hts⟩ (cX4_fold_m l dC dI ca ad kf vf ((pw_n (pw_b kf vf i0 m9 sw) (pw_x kf i0 (i0 + m9))).1) fr sf fi bk bv (nI w9) (nI (pw_n (pw_b kf vf i0 m9 sw) (pw_x kf i0 (i0 + m9))).2) nb mn ai en th op wr (vf (i0 + m9)) _) (cwS 1 hts (xg_S mb_methodLink_RX4_62 mb_static_yX4_fold mb_initialized_RX4 mb_code_yX4_fold) rfl rfl rfl ⟨rfl, by decide, by decide, by decide +kernel⟩ ⟨Nat.le_of_ble_eq_true rfl, Nat.le_of_ble_eq_true rfl⟩) (xpreS hK hP hD hS hA hE) rfl rfl hl.1 rfl (lv_room (Nat.le_of_ble_eq_true rfl)) dX4_build_96 ⟨Nat.le_of_ble_eq_true rfl, Nat.le_of_ble_eq_true rfl⟩) hD hS hA (fun r u H locs hu hP hD hS => ?_)
      subst hu
      have hP : va_P (dC, dI) vwCl (xm ad ca kf vf ((pw_n (pw_b kf vf i0 m9 sw) (pw_x kf i0 (i0 + m9))).1) fr sf fi bk bv (nI w9) (nI (pw_n (pw_b kf vf i0 m9 sw) (pw_x kf i0 (i0 + m9))).2) nb mn ai en th op wr) H := hP
      have hD : va_D A (xm ad ca kf vf ((pw_n (pw_b kf vf i0 m9 sw) (pw_x kf i0 (i0 + m9))).1) fr sf fi bk bv (nI w9) (nI (pw_n (pw_b kf vf i0 m9 sw) (pw_x kf i0 (i0 + m9))).2) nb mn ai en th op wr) := hD
      refine xk_v (va_runV (As := [.long (pu_f (vf (i0 + m9)))]) (rest := []) ⟨hx, hb, hml, hown, hts⟩ (cX4_number_m l dC dI ca ad kf vf ((pw_n (pw_b kf vf i0 m9 sw) (pw_x kf i0 (i0 + m9))).1) fr sf fi bk bv (nI w9) nb mn ai en th op wr (pw_n (pw_b kf vf i0 m9 sw) (pw_x kf i0 (i0 + m9))).2 (pu_f (vf (i0 + m9))) (by omega) _) (cwV 1 hts (xg_V mb_methodLink_RX4_66 mb_instanceMethod_yX4_number mb_selects_yX4_number mb_initialized_RX4 mb_code_yX4_number) rfl rfl rfl ⟨rfl, by decide, by decide, by decide +kernel⟩ ⟨Nat.le_of_ble_eq_true rfl, Nat.le_of_ble_eq_true rfl⟩) (xpreV (va_recv (q0 := 0) hK hP rfl rfl) hK hP hD hS hA hE) rfl rfl hl.1 rfl (lv_room (Nat.le_of_ble_eq_true rfl)) dX4_build_99 ⟨Nat.le_of_ble_eq_true rfl, Nat.le_of_ble_eq_true rfl⟩) hD hS hA (fun u H locs hu hP hD hS => ?_)
      have hP : va_P (dC, dI) vwCl (xm ad ca kf vf ((pw_b kf vf i0 (m9 + 1) sw).1) fr sf fi bk bv (nI w9) (nI (pw_b kf vf i0 (m9 + 1) sw).2) nb mn ai en th op wr) H := hP
      have hD : va_D A (xm ad ca kf vf ((pw_b kf vf i0 (m9 + 1) sw).1) fr sf fi bk bv (nI w9) (nI (pw_b kf vf i0 (m9 + 1) sw).2) nb mn ai en th op wr) := hD
      refine lv_iinc (k := 0) (v := nI (i0 + (m9 + 1))) hx hb dX4_build_102 hl rfl (nI_1 (i0 + m9)) (by decide) rfl (fun ls hl => ?_)
      have hl : lv_has ls 5 [(4, .int (nI (i0 + (m9 + 1)))), (0, .ref (ad 0)), (1, .int z1), (2, .int (nI i0)), (3, .int (nI sw.2))] := hl
      refine lv_goto (tgt := 25) hx hb dX4_build_105 rfl ?_
      exact ih (m9 + 1) _ _ _ (by omega) hl hP hD hS kg

set_option maxHeartbeats 4000000 in
set_option maxRecDepth 100000 in
theorem lpX4_build_bs {p : Program} {l : Launch} {e : Env} {s : State} {m : MethodId} {args : Array Value} {below : List Frame} {meth : Method} {c : Code} {Q : State → Prop} {A : Nat → Prop} {dC : Nat → ClassId} {dI : Nat → Nat → Nat} {ca : Nat → ClassId} {ad : Nat → Nat} (hx : p.tables.exec = Jvm.exec) (hb : c.code = cX4_build) (hml : c.maxLocals = 5) (hown : s.vm.findClass RX4 = some m.cls) (hts : ∀ w ∈ wsX4_build, w.before args s = true) (hK : va_K (dC, dI) vwCl (xt ca) s) (hA : ∀ q : Nat, s.heap.size ≤ q → A q) (hE : xn_E A s) {kf : Nat → Int32} {vf : Nat → Int64} {fr : Nat → Int32} {bk : Nat → Int32} {bv : Nat → Int64} {nb : Int32} {mn : Int32} {ai : Int32} {en : Int32} {th : Int32} {op : Int32} {wr : Int32} {w9 : Nat} {t0 : Nat → Int32} (hw : w9 ≤ 300) (hup : pw_up kf w9) : ∀ (k : Nat) (b9 : Nat) (sf fi : Nat → Int32) (H : Heap) (locs : List Loc) (ls : Array Slot), b9 + k = (w9 + 7) / 8 → (∀ j, j < b9 → sf j = nI (pw_len kf vf w9 (t0, 0) j) ∧ fi j = kf (8 * j)) → lv_has ls 5 [(1, .int (nI b9)), (0, .ref (ad 0)), (2, .int (nI (8 * b9)))] → va_P (dC, dI) vwCl (xm ad ca kf vf ((pw_bs kf vf w9 b9 (t0, 0)).1) fr sf fi bk bv (nI w9) (nI (pw_bs kf vf w9 b9 (t0, 0)).2) nb mn ai en th op wr) H → va_D A (xm ad ca kf vf ((pw_bs kf vf w9 b9 (t0, 0)).1) fr sf fi bk bv (nI w9) (nI (pw_bs kf vf w9 b9 (t0, 0)).2) nb mn ai en th op wr) → va_S A s.heap H locs → (∀ sf fi : Nat → Int32, (∀ j, j < (w9 + 7) / 8 → sf j = nI (pw_len kf vf w9 (t0, 0) j) ∧ fi j = kf (8 * j)) → ∀ (H : Heap) (locs : List Loc) (ls : Array Slot), lv_has ls 5 [(0, .ref (ad 0)), (1, .int (nI ((w9 + 7) / 8)))] → va_P (dC, dI) vwCl (xm ad ca kf vf ((pw_bs kf vf w9 ((w9 + 7) / 8) (t0, 0)).1) fr sf fi bk bv (nI w9) (nI (pw_bs kf vf w9 ((w9 + 7) / 8) (t0, 0)).2) nb mn ai en th op wr) H → va_D A (xm ad ca kf vf ((pw_bs kf vf w9 ((w9 + 7) / 8) (t0, 0)).1) fr sf fi bk bv (nI w9) (nI (pw_bs kf vf w9 ((w9 + 7) / 8) (t0, 0)).2) nb mn ai en th op wr) → va_S A s.heap H locs → W p l e ({ frames := 2, cells := 0, slots := 0, locals := 49 } : Room) s m args below meth c H locs 0 0 Q (F0 m 146 ls [])) → W p l e ({ frames := 2, cells := 0, slots := 0, locals := 49 } : Room) s m args below meth c H locs 0 0 Q (F0 m 9 ls []) := by
  intro k
  induction k with
  | zero =>
    intro b9 sf fi H locs ls hm hbf hl hP hD hS kg
    have hl : lv_has ls 5 [(1, .int (nI b9)), (0, .ref (ad 0)), (2, .int (nI (8 * b9)))] := hl
    obtain rfl : b9 = (w9 + 7) / 8 := by omega
    refine lv_iload_n hx hb dX4_build_9 rfl (lv_at hl 2 rfl) ?_
    refine lv_aload_n hx hb dX4_build_10 rfl (lv_at hl 1 rfl) ?_
    refine va_get (D := (dC, dI)) (ci := 4) (v := .int (nI w9)) (C := RX4) (T := TX4) (N := 17) (ref := "SortedRunModel") hx hb hts (xg_u mb_uws_X4) hown hK hP 0 rfl rfl 8 (by decide) (xg_w hts mb_fieldLink_RX4_59) (fun _ h9 => h9) rfl dX4_build_11 ?_
    refine lv_icmp_ge (tgt := 146) hx hb dX4_build_14 rfl (fun hc => ?_) (fun hc => absurd hc (not_not_intro (nI_le (by omega) (by omega))))
    exact kg sf fi hbf H locs ls (lv_sub hl [1, 0] rfl) hP hD hS
  | succ k ih =>
    intro b9 sf fi H locs ls hm hbf hl hP hD hS kg
    have hl : lv_has ls 5 [(1, .int (nI b9)), (0, .ref (ad 0)), (2, .int (nI (8 * b9)))] := hl
    refine lv_iload_n hx hb dX4_build_9 rfl (lv_at hl 2 rfl) ?_
    refine lv_aload_n hx hb dX4_build_10 rfl (lv_at hl 1 rfl) ?_
    refine va_get (D := (dC, dI)) (ci := 4) (v := .int (nI w9)) (C := RX4) (T := TX4) (N := 17) (ref := "SortedRunModel") hx hb hts (xg_u mb_uws_X4) hown hK hP 0 rfl rfl 8 (by decide) (xg_w hts mb_fieldLink_RX4_59) (fun _ h9 => h9) rfl dX4_build_11 ?_
    refine lv_icmp_ge (tgt := 146) hx hb dX4_build_14 rfl (fun hc => absurd hc (by rw [nI_leI (by omega) (by omega)]; omega)) (fun hc => ?_)
    have u1 := pw_bs_up (vf := vf) hup (t0, 0) b9 (by omega)
    simp only [Nat.zero_add] at u1
    refine lv_aload_n hx hb dX4_build_17 rfl (lv_at hl 1 rfl) ?_
    refine va_get (D := (dC, dI)) (ci := 4) (v := .int (nI (pw_bs kf vf w9 b9 (t0, 0)).2)) (C := RX4) (T := TX4) (N := 17) (ref := "SortedRunModel") hx hb hts (xg_u mb_uws_X4) hown hK hP 0 rfl rfl 9 (by decide) (xg_w hts mb_fieldLink_RX4_45) (fun _ h9 => h9) rfl dX4_build_18 ?_
    refine lv_istore_n hx hb dX4_build_21 rfl hl (by decide) rfl (fun ls hl => ?_)
    have hl : lv_has ls 5 [(3, .int (nI (pw_bs kf vf w9 b9 (t0, 0)).2)), (1, .int (nI b9)), (0, .ref (ad 0)), (2, .int (nI (8 * b9)))] := hl
    refine lv_iload_n hx hb dX4_build_22 rfl (lv_at hl 3 rfl) ?_
    refine lv_istore hx hb dX4_build_23 hl (by decide) rfl (fun ls hl => ?_)
    have hl : lv_has ls 5 [(4, .int (nI (8 * b9))), (3, .int (nI (pw_bs kf vf w9 b9 (t0, 0)).2)), (1, .int (nI b9)), (0, .ref (ad 0)), (2, .int (nI (8 * b9)))] := hl
    refine lpX4_build_bl hx hb hml hown hts hK hA hE (i0 := 8 * b9) (w9 := w9) (sw := pw_bs kf vf w9 b9 (t0, 0)) hw (by omega) hup (by omega) (min 8 (w9 - 8 * b9)) 0 _ _ _ (by omega) (lv_sub hl [0, 3, 2, 4, 1] rfl) hP hD hS (fun H locs ls hl hP hD hS => ?_)
    have u5 := pw_b_up (vf := vf) (i := 8 * b9) hup (min 8 (w9 - 8 * b9)) (pw_bs kf vf w9 b9 (t0, 0)) (by omega)
    have u6 := pw_b_le kf vf (8 * b9) (min 8 (w9 - 8 * b9)) (pw_bs kf vf w9 b9 (t0, 0))
    refine lv_aload_n hx hb dX4_build_108 rfl (lv_at hl 0 rfl) ?_
    refine lv_iload_n hx hb dX4_build_109 rfl (lv_at hl 3 rfl) ?_
    refine xk_v (va_runV (As := [.int (nI (pw_bs kf vf w9 b9 (t0, 0)).2)]) (rest := []) ⟨hx, hb, hml, hown, hts⟩ (cX4_seal_m l dC dI ca ad kf vf ((pw_b kf vf (8 * b9) (min 8 (w9 - 8 * b9)) (pw_bs kf vf w9 b9 (t0, 0))).1) fr sf fi bk bv (nI w9) nb mn ai en th op wr (pw_b kf vf (8 * b9) (min 8 (w9 - 8 * b9)) (pw_bs kf vf w9 b9 (t0, 0))).2 (pw_bs kf vf w9 b9 (t0, 0)).2 (by omega) u6 _) (cwV 1 hts (xg_V mb_methodLink_RX4_70 mb_instanceMethod_yX4_seal mb_selects_yX4_seal mb_initialized_RX4 mb_code_yX4_seal) rfl rfl rfl ⟨rfl, by decide, by decide, by decide +kernel⟩ ⟨Nat.le_of_ble_eq_true rfl, Nat.le_of_ble_eq_true rfl⟩) (xpreV (va_recv (q0 := 0) hK hP rfl rfl) hK hP hD hS hA hE) rfl rfl hl.1 rfl (lv_room (Nat.le_of_ble_eq_true rfl)) dX4_build_110 ⟨Nat.le_of_ble_eq_true rfl, Nat.le_of_ble_eq_true rfl⟩) hD hS hA (fun u H locs hu hP hD hS => ?_)
    have hP : va_P (dC, dI) vwCl (xm ad ca kf vf ((pw_bs kf vf w9 (b9 + 1) (t0, 0)).1) fr sf fi bk bv (nI w9) (nI (pw_bs kf vf w9 (b9 + 1) (t0, 0)).2) nb mn ai en th op wr) H := hP
    have hD : va_D A (xm ad ca kf vf ((pw_bs kf vf w9 (b9 + 1) (t0, 0)).1) fr sf fi bk bv (nI w9) (nI (pw_bs kf vf w9 (b9 + 1) (t0, 0)).2) nb mn ai en th op wr) := hD
    have u7 := pw_bl_ge kf vf w9 (8 * b9) (pw_bs kf vf w9 b9 (t0, 0))
    refine lv_aload_n hx hb dX4_build_113 rfl (lv_at hl 0 rfl) ?_
    refine va_get (D := (dC, dI)) (ci := 4) (v := .ref (ad 5)) (C := RX4) (T := TX4) (N := 17) (ref := "SortedRunModel") hx hb hts (xg_u mb_uws_X4) hown hK hP 0 rfl rfl 4 (by decide) (xg_w hts mb_fieldLink_RX4_24) (fun _ h9 => h9) rfl dX4_build_114 ?_
    refine lv_iload_n hx hb dX4_build_117 rfl (lv_at hl 1 rfl) ?_
    refine lv_aload_n hx hb dX4_build_118 rfl (lv_at hl 0 rfl) ?_
    refine va_get (D := (dC, dI)) (ci := 4) (v := .int (nI (pw_bs kf vf w9 (b9 + 1) (t0, 0)).2)) (C := RX4) (T := TX4) (N := 17) (ref := "SortedRunModel") hx hb hts (xg_u mb_uws_X4) hown hK hP 0 rfl rfl 9 (by decide) (xg_w hts mb_fieldLink_RX4_45) (fun _ h9 => h9) rfl dX4_build_119 ?_
    refine lv_iload_n hx hb dX4_build_122 rfl (lv_at hl 3 rfl) ?_
    refine lv_isub hx hb dX4_build_123 ?_
    refine lv_topi (fun z1 ez1 => ?_)
    have ez1 : z1 = nI (pw_len kf vf w9 (t0, 0) b9) := ez1.trans (pk_sub u7)
    subst ez1
    refine va_iast hx hb hK hP hD hS 5 4 rfl rfl (vp_in_nI (by omega) (by decide)) dX4_build_124 (fun H locs hP hD hS => ?_)
    have e9 : upd sf (nI b9).toNatClampNeg (nI (pw_len kf vf w9 (t0, 0) b9)) = upd sf b9 (nI (pw_len kf vf w9 (t0, 0) b9)) := by rw [nI_clamp (by omega)]
    rw [e9] at hP hD
    clear e9
    have hP : va_P (dC, dI) vwCl (xm ad ca kf vf ((pw_bs kf vf w9 (b9 + 1) (t0, 0)).1) fr (upd sf b9 (nI (pw_len kf vf w9 (t0, 0) b9))) fi bk bv (nI w9) (nI (pw_bs kf vf w9 (b9 + 1) (t0, 0)).2) nb mn ai en th op wr) H := hP
    have hD : va_D A (xm ad ca kf vf ((pw_bs kf vf w9 (b9 + 1) (t0, 0)).1) fr (upd sf b9 (nI (pw_len kf vf w9 (t0, 0) b9))) fi bk bv (nI w9) (nI (pw_bs kf vf w9 (b9 + 1) (t0, 0)).2) nb mn ai en th op wr) := hD
    refine lv_aload_n hx hb dX4_build_125 rfl (lv_at hl 0 rfl) ?_
    refine va_get (D := (dC, dI)) (ci := 4) (v := .ref (ad 6)) (C := RX4) (T := TX4) (N := 17) (ref := "SortedRunModel") hx hb hts (xg_u mb_uws_X4) hown hK hP 0 rfl rfl 5 (by decide) (xg_w hts mb_fieldLink_RX4_27) (fun _ h9 => h9) rfl dX4_build_126 ?_
    refine lv_iload_n hx hb dX4_build_129 rfl (lv_at hl 1 rfl) ?_
    refine lv_aload_n hx hb dX4_build_130 rfl (lv_at hl 0 rfl) ?_
    refine va_get (D := (dC, dI)) (ci := 4) (v := .ref (ad 1)) (C := RX4) (T := TX4) (N := 17) (ref := "SortedRunModel") hx hb hts (xg_u mb_uws_X4) hown hK hP 0 rfl rfl 0 (by decide) (xg_w hts mb_fieldLink_RX4_9) (fun _ h9 => h9) rfl dX4_build_131 ?_
    refine lv_iload_n hx hb dX4_build_134 rfl (lv_at hl 2 rfl) ?_
    refine va_iald hx hb hK hP 1 0 rfl rfl (vp_in_nI (by omega) (by decide)) dX4_build_135 ?_
    refine lv_topi (fun z2 ez2 => ?_)
    have ez2 : z2 = kf (8 * b9) := ez2.trans (congrArg kf (nI_clamp (by omega)))
    subst ez2
    refine va_iast hx hb hK hP hD hS 6 5 rfl rfl (vp_in_nI (by omega) (by decide)) dX4_build_136 (fun H locs hP hD hS => ?_)
    have e9 : upd fi (nI b9).toNatClampNeg (kf (8 * b9)) = upd fi b9 (kf (8 * b9)) := by rw [nI_clamp (by omega)]
    rw [e9] at hP hD
    clear e9
    have hP : va_P (dC, dI) vwCl (xm ad ca kf vf ((pw_bs kf vf w9 (b9 + 1) (t0, 0)).1) fr (upd sf b9 (nI (pw_len kf vf w9 (t0, 0) b9))) (upd fi b9 (kf (8 * b9))) bk bv (nI w9) (nI (pw_bs kf vf w9 (b9 + 1) (t0, 0)).2) nb mn ai en th op wr) H := hP
    have hD : va_D A (xm ad ca kf vf ((pw_bs kf vf w9 (b9 + 1) (t0, 0)).1) fr (upd sf b9 (nI (pw_len kf vf w9 (t0, 0) b9))) (upd fi b9 (kf (8 * b9))) bk bv (nI w9) (nI (pw_bs kf vf w9 (b9 + 1) (t0, 0)).2) nb mn ai en th op wr) := hD
    refine lv_iinc (k := 1) (v := nI (b9 + 1)) hx hb dX4_build_137 hl rfl (nI_1 b9) (by decide) rfl (fun ls hl => ?_)
    have hl : lv_has ls 5 [(1, .int (nI (b9 + 1))), (0, .ref (ad 0)), (2, .int (nI (8 * b9))), (3, .int (nI (pw_bs kf vf w9 b9 (t0, 0)).2))] := hl
    refine lv_iinc (k := 2) (v := nI (8 * (b9 + 1))) hx hb dX4_build_140 hl rfl (nI_add (8 * b9) 8) (by decide) rfl (fun ls hl => ?_)
    have hl : lv_has ls 5 [(2, .int (nI (8 * (b9 + 1)))), (1, .int (nI (b9 + 1))), (0, .ref (ad 0)), (3, .int (nI (pw_bs kf vf w9 b9 (t0, 0)).2))] := hl
    refine lv_goto (tgt := 9) hx hb dX4_build_143 rfl ?_
    refine ih (b9 + 1) _ _ _ _ _ (by omega) (fun j hj => ?_) (lv_sub hl [1, 2, 0] rfl) hP hD hS kg
    by_cases hjb : j = b9
    · subst hjb; exact ⟨pk_us, pk_us⟩
    · rw [pk_un hjb, pk_un hjb]; exact hbf j (by omega)

set_option maxHeartbeats 4000000 in
set_option maxRecDepth 100000 in
theorem lpX4_build_ix {p : Program} {l : Launch} {e : Env} {s : State} {m : MethodId} {args : Array Value} {below : List Frame} {meth : Method} {c : Code} {Q : State → Prop} {A : Nat → Prop} {dC : Nat → ClassId} {dI : Nat → Nat → Nat} {ca : Nat → ClassId} {ad : Nat → Nat} (hx : p.tables.exec = Jvm.exec) (hb : c.code = cX4_build) (hml : c.maxLocals = 5) (hown : s.vm.findClass RX4 = some m.cls) (hts : ∀ w ∈ wsX4_build, w.before args s = true) (hK : va_K (dC, dI) vwCl (xt ca) s) (hA : ∀ q : Nat, s.heap.size ≤ q → A q) (hE : xn_E A s) {kf : Nat → Int32} {vf : Nat → Int64} {fr : Nat → Int32} {sf : Nat → Int32} {fi : Nat → Int32} {bk : Nat → Int32} {bv : Nat → Int64} {w : Int32} {nb : Int32} {mn : Int32} {ai : Int32} {en : Int32} {th : Int32} {op : Int32} {wr : Int32} {n9 : Nat} {ln9 : Nat → Nat} {sw : pw_P} (hn : n9 ≤ 38) (hbf : ∀ j, j < n9 → sf j = nI (ln9 j) ∧ fi j = kf (8 * j)) (hln : ∀ j, ln9 j < 128) (hL : sw.2 + 1 + 6 * n9 + 8 ≤ 4889) : ∀ (k : Nat) (b9 : Nat) (H : Heap) (locs : List Loc) (ls : Array Slot), b9 + k = n9 → lv_has ls 5 [(3, .int (nI b9)), (0, .ref (ad 0)), (1, .int (nI n9)), (2, .int (nI sw.2))] → va_P (dC, dI) vwCl (xm ad ca kf vf ((pw_i kf ln9 b9 (pw_n sw (lN n9))).1) fr sf fi bk bv w (nI (pw_i kf ln9 b9 (pw_n sw (lN n9))).2) nb mn ai en th op wr) H → va_D A (xm ad ca kf vf ((pw_i kf ln9 b9 (pw_n sw (lN n9))).1) fr sf fi bk bv w (nI (pw_i kf ln9 b9 (pw_n sw (lN n9))).2) nb mn ai en th op wr) → va_S A s.heap H locs → (∀ (H : Heap) (locs : List Loc) (ls : Array Slot), lv_has ls 5 [(0, .ref (ad 0)), (2, .int (nI sw.2))] → va_P (dC, dI) vwCl (xm ad ca kf vf ((pw_i kf ln9 n9 (pw_n sw (lN n9))).1) fr sf fi bk bv w (nI (pw_i kf ln9 n9 (pw_n sw (lN n9))).2) nb mn ai en th op wr) H → va_D A (xm ad ca kf vf ((pw_i kf ln9 n9 (pw_n sw (lN n9))).1) fr sf fi bk bv w (nI (pw_i kf ln9 n9 (pw_n sw (lN n9))).2) nb mn ai en th op wr) → va_S A s.heap H locs → W p l e ({ frames := 2, cells := 0, slots := 0, locals := 49 } : Room) s m args below meth c H locs 0 0 Q (F0 m 195 ls [])) → W p l e ({ frames := 2, cells := 0, slots := 0, locals := 49 } : Room) s m args below meth c H locs 0 0 Q (F0 m 159 ls []) := by
  intro k
  induction k with
  | zero =>
    intro b9 H locs ls hm hl hP hD hS kg
    have hl : lv_has ls 5 [(3, .int (nI b9)), (0, .ref (ad 0)), (1, .int (nI n9)), (2, .int (nI sw.2))] := hl
    obtain rfl : b9 = n9 := by omega
    refine lv_iload_n hx hb dX4_build_159 rfl (lv_at hl 0 rfl) ?_
    refine lv_iload_n hx hb dX4_build_160 rfl (lv_at hl 2 rfl) ?_
    refine lv_icmp_ge (tgt := 195) hx hb dX4_build_161 rfl (fun hc => ?_) (fun hc => absurd hc (not_not_intro (Int32.le_refl _)))
    exact kg H locs ls (lv_sub hl [1, 3] rfl) hP hD hS
  | succ k ih =>
    intro b9 H locs ls hm hl hP hD hS kg
    have hl : lv_has ls 5 [(3, .int (nI b9)), (0, .ref (ad 0)), (1, .int (nI n9)), (2, .int (nI sw.2))] := hl
    refine lv_iload_n hx hb dX4_build_159 rfl (lv_at hl 0 rfl) ?_
    refine lv_iload_n hx hb dX4_build_160 rfl (lv_at hl 2 rfl) ?_
    refine lv_icmp_ge (tgt := 195) hx hb dX4_build_161 rfl (fun hc => absurd hc (by rw [nI_leI (by omega) (by omega)]; omega)) (fun hc => ?_)
    have u1 : pl_n 9 (lN n9).toBitVec.toNat = 1 := by rw [pz_lN (by omega)]; exact pl_n1 (by omega)
    have u2 : (pw_n sw (lN n9)).2 = sw.2 + pl_n 9 (lN n9).toBitVec.toNat := rfl
    have u3 := pw_i_up (kf := kf) hln b9 (pw_n sw (lN n9))
    have u4 : pl_n 9 (lN (ln9 b9)).toBitVec.toNat = 1 := by rw [pz_lN (Nat.lt_trans (hln b9) (by decide))]; exact pl_n1 (hln b9)
    have u5 := pl_n5 (pu_f_lt (kf (8 * b9)))
    refine lv_aload_n hx hb dX4_build_164 rfl (lv_at hl 1 rfl) ?_
    refine lv_aload_n hx hb dX4_build_165 rfl (lv_at hl 1 rfl) ?_
    refine va_get (D := (dC, dI)) (ci := 4) (v := .ref (ad 5)) (C := RX4) (T := TX4) (N := 17) (ref := "SortedRunModel") hx hb hts (xg_u mb_uws_X4) hown hK hP 0 rfl rfl 4 (by decide) (xg_w hts mb_fieldLink_RX4_24) (fun _ h9 => h9) rfl dX4_build_166 ?_
    refine lv_iload_n hx hb dX4_build_169 rfl (lv_at hl 0 rfl) ?_
    refine va_iald hx hb hK hP 5 4 rfl rfl (vp_in_nI (by omega) (by decide)) dX4_build_170 ?_
    refine lv_topi (fun z1 ez1 => ?_)
    have ez1 : z1 = nI (ln9 b9) := ez1.trans ((congrArg sf (nI_clamp (by omega))).trans (hbf b9 (by omega)).1)
    subst ez1
    refine lv_i2l (v := lN (ln9 b9)) hx hb dX4_build_171 (nI_l (Nat.lt_trans (hln b9) (by decide))) ?_
    refine xk_v (va_runV (As := [.long (lN (ln9 b9))]) (rest := []) ⟨hx, hb, hml, hown, hts⟩ (cX4_number_m l dC dI ca ad kf vf ((pw_i kf ln9 b9 (pw_n sw (lN n9))).1) fr sf fi bk bv w nb mn ai en th op wr (pw_i kf ln9 b9 (pw_n sw (lN n9))).2 (lN (ln9 b9)) (by omega) _) (cwV 1 hts (xg_V mb_methodLink_RX4_66 mb_instanceMethod_yX4_number mb_selects_yX4_number mb_initialized_RX4 mb_code_yX4_number) rfl rfl rfl ⟨rfl, by decide, by decide, by decide +kernel⟩ ⟨Nat.le_of_ble_eq_true rfl, Nat.le_of_ble_eq_true rfl⟩) (xpreV (va_recv (q0 := 0) hK hP rfl rfl) hK hP hD hS hA hE) rfl rfl hl.1 rfl (lv_room (Nat.le_of_ble_eq_true rfl)) dX4_build_172 ⟨Nat.le_of_ble_eq_true rfl, Nat.le_of_ble_eq_true rfl⟩) hD hS hA (fun u H locs hu hP hD hS => ?_)
    have hP : va_P (dC, dI) vwCl (xm ad ca kf vf ((pw_n (pw_i kf ln9 b9 (pw_n sw (lN n9))) (lN (ln9 b9))).1) fr sf fi bk bv w (nI (pw_n (pw_i kf ln9 b9 (pw_n sw (lN n9))) (lN (ln9 b9))).2) nb mn ai en th op wr) H := hP
    have hD : va_D A (xm ad ca kf vf ((pw_n (pw_i kf ln9 b9 (pw_n sw (lN n9))) (lN (ln9 b9))).1) fr sf fi bk bv w (nI (pw_n (pw_i kf ln9 b9 (pw_n sw (lN n9))) (lN (ln9 b9))).2) nb mn ai en th op wr) := hD
    have u6 : (pw_n (pw_i kf ln9 b9 (pw_n sw (lN n9))) (lN (ln9 b9))).2 = (pw_i kf ln9 b9 (pw_n sw (lN n9))).2 + pl_n 9 (lN (ln9 b9)).toBitVec.toNat := rfl
    refine lv_aload_n hx hb dX4_build_175 rfl (lv_at hl 1 rfl) ?_
    refine lv_aload_n hx hb dX4_build_176 rfl (lv_at hl 1 rfl) ?_
    refine va_get (D := (dC, dI)) (ci := 4) (v := .ref (ad 6)) (C := RX4) (T := TX4) (N := 17) (ref := "SortedRunModel") hx hb hts (xg_u mb_uws_X4) hown hK hP 0 rfl rfl 5 (by decide) (xg_w hts mb_fieldLink_RX4_27) (fun _ h9 => h9) rfl dX4_build_177 ?_
    refine lv_iload_n hx hb dX4_build_180 rfl (lv_at hl 0 rfl) ?_
    refine va_iald hx hb hK hP 6 5 rfl rfl (vp_in_nI (by omega) (by decide)) dX4_build_181 ?_
    refine lv_topi (fun z2 ez2 => ?_)
    have ez2 : z2 = kf (8 * b9) := ez2.trans ((congrArg fi (nI_clamp (by omega))).trans (hbf b9 (by omega)).2)
    subst ez2
    refine lv_i2l (v := (kf (8 * b9)).toInt64) hx hb dX4_build_182 (rfl) ?_
    refine xk_l (va_runS (As := [.long ((kf (8 * b9)).toInt64)]) (rest := [.ref (ad 0)]) ⟨hx, hb, hml, hown, hts⟩ (cX4_fold_m l dC dI ca ad kf vf ((pw_n (pw_i kf ln9 b9 (pw_n sw (lN n9))) (lN (ln9 b9))).1) fr sf fi bk bv w (nI (pw_n (pw_i kf ln9 b9 (pw_n sw (lN n9))) (lN (ln9 b9))).2) nb mn ai en th op wr ((kf (8 * b9)).toInt64) _) (cwS 1 hts (xg_S mb_methodLink_RX4_62 mb_static_yX4_fold mb_initialized_RX4 mb_code_yX4_fold) rfl rfl rfl ⟨rfl, by decide, by decide, by decide +kernel⟩ ⟨Nat.le_of_ble_eq_true rfl, Nat.le_of_ble_eq_true rfl⟩) (xpreS hK hP hD hS hA hE) rfl rfl hl.1 rfl (lv_room (Nat.le_of_ble_eq_true rfl)) dX4_build_183 ⟨Nat.le_of_ble_eq_true rfl, Nat.le_of_ble_eq_true rfl⟩) hD hS hA (fun r u H locs hu hP hD hS => ?_)
    subst hu
    have hP : va_P (dC, dI) vwCl (xm ad ca kf vf ((pw_n (pw_i kf ln9 b9 (pw_n sw (lN n9))) (lN (ln9 b9))).1) fr sf fi bk bv w (nI (pw_n (pw_i kf ln9 b9 (pw_n sw (lN n9))) (lN (ln9 b9))).2) nb mn ai en th op wr) H := hP
    have hD : va_D A (xm ad ca kf vf ((pw_n (pw_i kf ln9 b9 (pw_n sw (lN n9))) (lN (ln9 b9))).1) fr sf fi bk bv w (nI (pw_n (pw_i kf ln9 b9 (pw_n sw (lN n9))) (lN (ln9 b9))).2) nb mn ai en th op wr) := hD
    refine xk_v (va_runV (As := [.long (pu_f ((kf (8 * b9)).toInt64))]) (rest := []) ⟨hx, hb, hml, hown, hts⟩ (cX4_number_m l dC dI ca ad kf vf ((pw_n (pw_i kf ln9 b9 (pw_n sw (lN n9))) (lN (ln9 b9))).1) fr sf fi bk bv w nb mn ai en th op wr (pw_n (pw_i kf ln9 b9 (pw_n sw (lN n9))) (lN (ln9 b9))).2 (pu_f (kf (8 * b9)).toInt64) (by omega) _) (cwV 1 hts (xg_V mb_methodLink_RX4_66 mb_instanceMethod_yX4_number mb_selects_yX4_number mb_initialized_RX4 mb_code_yX4_number) rfl rfl rfl ⟨rfl, by decide, by decide, by decide +kernel⟩ ⟨Nat.le_of_ble_eq_true rfl, Nat.le_of_ble_eq_true rfl⟩) (xpreV (va_recv (q0 := 0) hK hP rfl rfl) hK hP hD hS hA hE) rfl rfl hl.1 rfl (lv_room (Nat.le_of_ble_eq_true rfl)) dX4_build_186 ⟨Nat.le_of_ble_eq_true rfl, Nat.le_of_ble_eq_true rfl⟩) hD hS hA (fun u H locs hu hP hD hS => ?_)
    have hP : va_P (dC, dI) vwCl (xm ad ca kf vf ((pw_i kf ln9 (b9 + 1) (pw_n sw (lN n9))).1) fr sf fi bk bv w (nI (pw_i kf ln9 (b9 + 1) (pw_n sw (lN n9))).2) nb mn ai en th op wr) H := hP
    have hD : va_D A (xm ad ca kf vf ((pw_i kf ln9 (b9 + 1) (pw_n sw (lN n9))).1) fr sf fi bk bv w (nI (pw_i kf ln9 (b9 + 1) (pw_n sw (lN n9))).2) nb mn ai en th op wr) := hD
    refine lv_iinc (k := 0) (v := nI (b9 + 1)) hx hb dX4_build_189 hl rfl (nI_1 b9) (by decide) rfl (fun ls hl => ?_)
    have hl : lv_has ls 5 [(3, .int (nI (b9 + 1))), (0, .ref (ad 0)), (1, .int (nI n9)), (2, .int (nI sw.2))] := hl
    refine lv_goto (tgt := 159) hx hb dX4_build_192 rfl ?_
    exact ih (b9 + 1) _ _ _ (by omega) hl hP hD hS kg

set_option maxHeartbeats 4000000 in
set_option maxRecDepth 100000 in
theorem lpX4_build_ft {p : Program} {l : Launch} {e : Env} {s : State} {m : MethodId} {args : Array Value} {below : List Frame} {meth : Method} {c : Code} {Q : State → Prop} {A : Nat → Prop} {dC : Nat → ClassId} {dI : Nat → Nat → Nat} {ca : Nat → ClassId} {ad : Nat → Nat} (hx : p.tables.exec = Jvm.exec) (hb : c.code = cX4_build) (hml : c.maxLocals = 5) (hown : s.vm.findClass RX4 = some m.cls) (hts : ∀ w ∈ wsX4_build, w.before args s = true) (hK : va_K (dC, dI) vwCl (xt ca) s) (hA : ∀ q : Nat, s.heap.size ≤ q → A q) (hE : xn_E A s) {kf : Nat → Int32} {vf : Nat → Int64} {tf : Nat → Int32} {fr : Nat → Int32} {sf : Nat → Int32} {fi : Nat → Int32} {bk : Nat → Int32} {bv : Nat → Int64} {w : Int32} {nb : Int32} {mn : Int32} {ai : Int32} {en : Int32} {th : Int32} {op : Int32} {wr : Int32} {L n : Nat} (hL : L + 4 ≤ 6000) (hv : n < 2 ^ 32) : ∀ (k : Nat)  (H : Heap) (locs : List Loc) (ls : Array Slot), k ≤ 4 → lv_has ls 5 [(4, .int (nI (8 * k) + (-8))), (0, .ref (ad 0)), (3, .int (nI n))] → va_P (dC, dI) vwCl (xm ad ca kf vf (pf_k tf L n (4 - k)) fr sf fi bk bv w (nI (L + (4 - k))) nb mn ai en th op wr) H → va_D A (xm ad ca kf vf (pf_k tf L n (4 - k)) fr sf fi bk bv w (nI (L + (4 - k))) nb mn ai en th op wr) → va_S A s.heap H locs → (∀ (H : Heap) (locs : List Loc) (ls : Array Slot), lv_has ls 5 [(0, .ref (ad 0))] → va_P (dC, dI) vwCl (xm ad ca kf vf (pf_k tf L n 4) fr sf fi bk bv w (nI (L + 4)) nb mn ai en th op wr) H → va_D A (xm ad ca kf vf (pf_k tf L n 4) fr sf fi bk bv w (nI (L + 4)) nb mn ai en th op wr) → va_S A s.heap H locs → W p l e ({ frames := 2, cells := 0, slots := 0, locals := 49 } : Room) s m args below meth c H locs 0 0 Q (F0 m 243 ls [])) → W p l e ({ frames := 2, cells := 0, slots := 0, locals := 49 } : Room) s m args below meth c H locs 0 0 Q (F0 m 211 ls []) := by
  intro k
  induction k with
  | zero =>
    intro  H locs ls hk hl hP hD hS kk
    have hl : lv_has ls 5 [(4, .int (nI (8 * 0) + (-8))), (0, .ref (ad 0)), (3, .int (nI n))] := hl
    refine lv_iload hx hb dX4_build_211 (lv_at hl 0 rfl) ?_
    refine lv_if_lt (tgt := 243) hx hb dX4_build_213 rfl (fun hc => ?_) (fun hc => absurd hc (not_not_intro (by decide)))
    exact kk H locs ls (lv_sub hl [1] rfl) hP hD hS
  | succ k ih =>
    intro  H locs ls hk hl hP hD hS kk
    have hl : lv_has ls 5 [(4, .int (nI (8 * (k + 1)) + (-8))), (0, .ref (ad 0)), (3, .int (nI n))] := hl
    rw [pm_m8] at hl
    refine lv_iload hx hb dX4_build_211 (lv_at hl 0 rfl) ?_
    refine lv_if_lt (tgt := 243) hx hb dX4_build_213 rfl (fun hc => absurd hc (nI_pos (by omega))) (fun hc => ?_)
    refine lv_aload_n hx hb dX4_build_216 rfl (lv_at hl 1 rfl) ?_
    refine va_get (D := (dC, dI)) (ci := 4) (v := .ref (ad 3)) (C := RX4) (T := TX4) (N := 17) (ref := "SortedRunModel") hx hb hts (xg_u mb_uws_X4) hown hK hP 0 rfl rfl 2 (by decide) (xg_w hts mb_fieldLink_RX4_17) (fun _ h9 => h9) rfl dX4_build_217 ?_
    refine lv_aload_n hx hb dX4_build_220 rfl (lv_at hl 1 rfl) ?_
    refine lv_dup hx hb dX4_build_221 rfl ?_
    refine va_get (D := (dC, dI)) (ci := 4) (v := .int (nI (L + (4 - (k + 1))))) (C := RX4) (T := TX4) (N := 17) (ref := "SortedRunModel") hx hb hts (xg_u mb_uws_X4) hown hK hP 0 rfl rfl 9 (by decide) (xg_w hts mb_fieldLink_RX4_45) (fun _ h9 => h9) rfl dX4_build_222 ?_
    refine lv_dup_x1 hx hb dX4_build_225 rfl rfl ?_
    refine lv_iconst (v := 1) hx hb dX4_build_226 (by decide) ?_
    refine lv_iadd hx hb dX4_build_227 ?_
    refine lv_topi (fun z1 ez1 => ?_)
    have ez1 : z1 = nI (L + (4 - (k + 1)) + 1) := ez1.trans (nI_1 (L + (4 - (k + 1))))
    subst ez1
    refine va_put (D := (dC, dI)) (ci := 4) (v := .int (nI (L + (4 - (k + 1)) + 1))) (ty := .int) (C := RX4) (T := TX4) (N := 17) (ref := "SortedRunModel") hx hb hts (xg_u mb_uws_X4) tyX4 tyX4_ok nmX4 hown hK hP hD hS 0 rfl rfl 9 (by decide) (xg_w hts mb_fieldLink_RX4_45) (fun _ h9 => h9) rfl (by decide +kernel) rfl rfl (Nat.le_of_ble_eq_true rfl) dX4_build_228 (fun H locs hP hD hS => ?_)
    have hP : va_P (dC, dI) vwCl (xm ad ca kf vf (pf_k tf L n (4 - (k + 1))) fr sf fi bk bv w (nI (L + (4 - (k + 1)) + 1)) nb mn ai en th op wr) H := hP
    have hD : va_D A (xm ad ca kf vf (pf_k tf L n (4 - (k + 1))) fr sf fi bk bv w (nI (L + (4 - (k + 1)) + 1)) nb mn ai en th op wr) := hD
    refine lv_iload_n hx hb dX4_build_231 rfl (lv_at hl 2 rfl) ?_
    refine lv_iload hx hb dX4_build_232 (lv_at hl 0 rfl) ?_
    refine lv_ishr hx hb dX4_build_234 ?_
    refine lv_i2b (v := sb_b (n / 2 ^ (8 * k))) hx hb dX4_build_235 (pm_sb hv (by omega)) ?_
    refine va_bast hx hb hK hP hD hS 3 2 rfl rfl (vp_in_nI (by omega) (by decide)) dX4_build_236 (fun H locs hP hD hS => ?_)
    have e9 : upd (pf_k tf L n (4 - (k + 1))) (nI (L + (4 - (k + 1)))).toNatClampNeg (vp_nar .byte (sb_b (n / 2 ^ (8 * k)))) = upd (pf_k tf L n (4 - (k + 1))) (L + (4 - (k + 1))) (sb_b (n / 2 ^ (8 * k))) := by rw [nI_clamp (by omega), pm_vb]
    rw [e9] at hP hD
    clear e9
    have hP : va_P (dC, dI) vwCl (xm ad ca kf vf (upd (pf_k tf L n (4 - (k + 1))) (L + (4 - (k + 1))) (sb_b (n / 2 ^ (8 * k)))) fr sf fi bk bv w (nI (L + (4 - (k + 1)) + 1)) nb mn ai en th op wr) H := hP
    have hD : va_D A (xm ad ca kf vf (upd (pf_k tf L n (4 - (k + 1))) (L + (4 - (k + 1))) (sb_b (n / 2 ^ (8 * k)))) fr sf fi bk bv w (nI (L + (4 - (k + 1)) + 1)) nb mn ai en th op wr) := hD
    have e1 : L + (4 - (k + 1)) + 1 = L + (4 - k) := by omega
    have e2 : upd (pf_k tf L n (4 - (k + 1))) (L + (4 - (k + 1))) (sb_b (n / 2 ^ (8 * k))) = pf_k tf L n (4 - k) := by
      rw [show 4 - k = (4 - (k + 1)) + 1 by omega]
      show _ = upd (pf_k tf L n (4 - (k + 1))) (L + (4 - (k + 1))) (sb_b (n / 2 ^ (8 * (3 - (4 - (k + 1))))))
      rw [show 3 - (4 - (k + 1)) = k by omega]
    rw [e1, e2] at hP hD
    refine lv_iinc (k := 0) (v := nI (8 * k) + (-8)) hx hb dX4_build_237 hl rfl (rfl) (by decide) rfl (fun ls hl => ?_)
    have hl : lv_has ls 5 [(4, .int (nI (8 * k) + (-8))), (0, .ref (ad 0)), (3, .int (nI n))] := hl
    refine lv_goto (tgt := 211) hx hb dX4_build_240 rfl ?_
    exact ih _ _ _ (by omega) hl hP hD hS kk

set_option maxHeartbeats 4000000 in
set_option maxRecDepth 100000 in
theorem cX4_build_m (l : Launch) (dC : Nat → ClassId) (dI : Nat → Nat → Nat) (ca : Nat → ClassId) (ad : Nat → Nat) (kf : Nat → Int32) (vf : Nat → Int64) (tf : Nat → Int32) (fr : Nat → Int32) (sf : Nat → Int32) (fi : Nat → Int32) (bk : Nat → Int32) (bv : Nat → Int64) (ny : Int32) (nb : Int32) (mn : Int32) (ai : Int32) (en : Int32) (th : Int32) (op : Int32) (wr : Int32) (w9 : Nat) (hw : w9 ≤ 300) (hup : pw_up kf w9) : ∀ sz : Nat, Met l yX4_build wsX4_build ({ frames := 2, cells := 0, slots := 0, locals := 49 } : Room) (va_Pc [.ref (ad 0)] (xP (dC, dI) (xt ca) (xm ad ca kf vf tf fr sf fi bk bv (nI w9) ny nb mn ai en th op wr) sz)) (va_Qv (S := (Nat → Int32) × (Nat → Int32)) (fun _ => True) (fun u t => xB (dC, dI) (xt ca) (va_A (xm ad ca kf vf tf fr sf fi bk bv (nI w9) ny nb mn ai en th op wr) sz) (xm ad ca kf vf ((pw_all kf vf w9 tf).1) fr u.1 u.2 bk bv 0 (nI (pw_all kf vf w9 tf).2) nb mn ai en th 0 wr) t) (va_A (xm ad ca kf vf tf fr sf fi bk bv (nI w9) ny nb mn ai en th op wr) sz)) 0 0 (va_A (xm ad ca kf vf tf fr sf fi bk bv (nI w9) ny nb mn ai en th op wr) sz) := by
  intro sz
  refine Met.ofW (cc := cX4_build) (maxL := 5) (ret := none) (by decide) rfl ?_
  intro p e s m args below meth c s₁ B hml hv
  obtain ⟨rfl, hsz, hP, hK, hD0, hE⟩ := hv
  have hx := B.exec
  have hb := B.bytes
  have hr := B.returns
  have hts := atoms_spec (ws := wsX4_build) B.pre
  have hown : s.vm.findClass RX4 = some m.cls := findClass_of_methodNamed B.named
  have hlocks := B.notSynchronized
  subst hsz
  have hD := hD0.self (sz := s.heap.size)
  generalize hAe : va_A (xm ad ca kf vf tf fr sf fi bk bv (nI w9) ny nb mn ai en th op wr) s.heap.size = A at hD hE ⊢
  have hA : ∀ q : Nat, s.heap.size ≤ q → A q := fun q h => by rw [← hAe]; exact Or.inr h
  have hS : va_S A s.heap s.heap [] := va_S.rf
  have hl := lv_entry ([.ref (ad 0)]) (n := 5) (Nat.le_of_ble_eq_true rfl)
  rw [lg_entry_eq]
  generalize (lg_sl ([.ref (ad 0)]) ++ List.replicate (5 - (lg_sl ([.ref (ad 0)])).length) Slot.unset).toArray = ls at hl ⊢
  have hl : lv_has ls 5 [(0, .ref (ad 0))] := hl
  refine lv_iconst (v := nI 0) hx hb dX4_build_0 (by decide) ?_
  refine lv_istore_n hx hb dX4_build_1 rfl hl (by decide) rfl (fun ls hl => ?_)
  have hl : lv_has ls 5 [(1, .int (nI 0)), (0, .ref (ad 0))] := hl
  refine lv_aload_n hx hb dX4_build_2 rfl (lv_at hl 1 rfl) ?_
  refine lv_iconst (v := nI 0) hx hb dX4_build_3 (by decide) ?_
  refine va_put (D := (dC, dI)) (ci := 4) (v := .int (nI 0)) (ty := .int) (C := RX4) (T := TX4) (N := 17) (ref := "SortedRunModel") hx hb hts (xg_u mb_uws_X4) tyX4 tyX4_ok nmX4 hown hK hP hD hS 0 rfl rfl 9 (by decide) (xg_w hts mb_fieldLink_RX4_45) (fun _ h9 => h9) rfl (by decide +kernel) rfl rfl (Nat.le_of_ble_eq_true rfl) dX4_build_4 (fun H locs hP hD hS => ?_)
  have hP : va_P (dC, dI) vwCl (xm ad ca kf vf tf fr sf fi bk bv (nI w9) (nI 0) nb mn ai en th op wr) H := hP
  have hD : va_D A (xm ad ca kf vf tf fr sf fi bk bv (nI w9) (nI 0) nb mn ai en th op wr) := hD
  refine lv_iconst (v := nI 0) hx hb dX4_build_7 (by decide) ?_
  refine lv_istore_n hx hb dX4_build_8 rfl hl (by decide) rfl (fun ls hl => ?_)
  have hl : lv_has ls 5 [(2, .int (nI 0)), (1, .int (nI 0)), (0, .ref (ad 0))] := hl
  refine lpX4_build_bs hx hb hml hown hts hK hA hE (w9 := w9) (t0 := tf) hw hup ((w9 + 7) / 8) 0 sf fi _ _ _ (by omega) (fun j hj => absurd hj (Nat.not_lt_zero j)) (lv_sub hl [1, 2, 0] rfl) hP hD hS ?_
  intro sg fj hbg H locs ls hl hP hD hS
  have u0 := pw_bs_up (vf := vf) hup (tf, 0) ((w9 + 7) / 8) (by omega)
  simp only [Nat.zero_add] at u0
  obtain ⟨n9, hn9⟩ : ∃ n9, n9 = (w9 + 7) / 8 := ⟨_, rfl⟩
  rw [← hn9] at hbg hl hP hD u0
  have hal : pw_ix kf (pw_len kf vf w9 (tf, 0)) n9 (pw_bs kf vf w9 n9 (tf, 0)) = pw_all kf vf w9 tf := by rw [hn9]; exact Eq.refl _
  generalize pw_bs kf vf w9 n9 (tf, 0) = sw at hP hD u0 hal
  have u1 : pl_n 9 (lN n9).toBitVec.toNat = 1 := by rw [pz_lN (by omega)]; exact pl_n1 (by omega)
  have u2 : (pw_n sw (lN n9)).2 = sw.2 + pl_n 9 (lN n9).toBitVec.toNat := rfl
  refine lv_aload_n hx hb dX4_build_146 rfl (lv_at hl 0 rfl) ?_
  refine va_get (D := (dC, dI)) (ci := 4) (v := .int (nI sw.2)) (C := RX4) (T := TX4) (N := 17) (ref := "SortedRunModel") hx hb hts (xg_u mb_uws_X4) hown hK hP 0 rfl rfl 9 (by decide) (xg_w hts mb_fieldLink_RX4_45) (fun _ h9 => h9) rfl dX4_build_147 ?_
  refine lv_istore_n hx hb dX4_build_150 rfl hl (by decide) rfl (fun ls hl => ?_)
  have hl : lv_has ls 5 [(2, .int (nI sw.2)), (0, .ref (ad 0)), (1, .int (nI n9))] := hl
  refine lv_aload_n hx hb dX4_build_151 rfl (lv_at hl 1 rfl) ?_
  refine lv_iload_n hx hb dX4_build_152 rfl (lv_at hl 2 rfl) ?_
  refine lv_i2l (v := lN n9) hx hb dX4_build_153 (nI_l (by omega)) ?_
  refine xk_v (va_runV (As := [.long (lN n9)]) (rest := []) ⟨hx, hb, hml, hown, hts⟩ (cX4_number_m l dC dI ca ad kf vf sw.1 fr sg fj bk bv (nI w9) nb mn ai en th op wr sw.2 (lN n9) (by omega) _) (cwV 1 hts (xg_V mb_methodLink_RX4_66 mb_instanceMethod_yX4_number mb_selects_yX4_number mb_initialized_RX4 mb_code_yX4_number) rfl rfl rfl ⟨rfl, by decide, by decide, by decide +kernel⟩ ⟨Nat.le_of_ble_eq_true rfl, Nat.le_of_ble_eq_true rfl⟩) (xpreV (va_recv (q0 := 0) hK hP rfl rfl) hK hP hD hS hA hE) rfl rfl hl.1 rfl (lv_room (Nat.le_of_ble_eq_true rfl)) dX4_build_154 ⟨Nat.le_of_ble_eq_true rfl, Nat.le_of_ble_eq_true rfl⟩) hD hS hA (fun u H locs hu hP hD hS => ?_)
  have hP : va_P (dC, dI) vwCl (xm ad ca kf vf ((pw_n sw (lN n9)).1) fr sg fj bk bv (nI w9) (nI (pw_n sw (lN n9)).2) nb mn ai en th op wr) H := hP
  have hD : va_D A (xm ad ca kf vf ((pw_n sw (lN n9)).1) fr sg fj bk bv (nI w9) (nI (pw_n sw (lN n9)).2) nb mn ai en th op wr) := hD
  refine lv_iconst (v := nI 0) hx hb dX4_build_157 (by decide) ?_
  refine lv_istore_n hx hb dX4_build_158 rfl hl (by decide) rfl (fun ls hl => ?_)
  have hl : lv_has ls 5 [(3, .int (nI 0)), (2, .int (nI sw.2)), (0, .ref (ad 0)), (1, .int (nI n9))] := hl
  refine lpX4_build_ix hx hb hml hown hts hK hA hE (n9 := n9) (ln9 := (pw_len kf vf w9 (tf, 0))) (sw := sw) (by omega) hbg (pw_len_128 hup (tf, 0)) (by omega) n9 0 _ _ _ (by omega) (lv_sub hl [0, 2, 3, 1] rfl) hP hD hS ?_
  intro H locs ls hl hP hD hS
  have u3 := pw_i_up (kf := kf) (pw_len_128 hup (tf, 0) : ∀ b, pw_len kf vf w9 (tf, 0) b < 128) n9 (pw_n sw (lN n9))
  have u4 := pw_i_le kf (pw_len kf vf w9 (tf, 0)) n9 (pw_n sw (lN n9))
  refine lv_aload_n hx hb dX4_build_195 rfl (lv_at hl 0 rfl) ?_
  refine va_get (D := (dC, dI)) (ci := 4) (v := .int (nI (pw_i kf (pw_len kf vf w9 (tf, 0)) n9 (pw_n sw (lN n9))).2)) (C := RX4) (T := TX4) (N := 17) (ref := "SortedRunModel") hx hb hts (xg_u mb_uws_X4) hown hK hP 0 rfl rfl 9 (by decide) (xg_w hts mb_fieldLink_RX4_45) (fun _ h9 => h9) rfl dX4_build_196 ?_
  refine lv_iload_n hx hb dX4_build_199 rfl (lv_at hl 1 rfl) ?_
  refine lv_isub hx hb dX4_build_200 ?_
  refine lv_topi (fun z1 ez1 => ?_)
  have ez1 : z1 = nI ((pw_i kf (pw_len kf vf w9 (tf, 0)) n9 (pw_n sw (lN n9))).2 - sw.2) := ez1.trans (pk_sub (by omega))
  subst ez1
  refine lv_istore_n hx hb dX4_build_201 rfl hl (by decide) rfl (fun ls hl => ?_)
  have hl : lv_has ls 5 [(3, .int (nI ((pw_i kf (pw_len kf vf w9 (tf, 0)) n9 (pw_n sw (lN n9))).2 - sw.2))), (0, .ref (ad 0)), (2, .int (nI sw.2))] := hl
  refine lv_aload_n hx hb dX4_build_202 rfl (lv_at hl 1 rfl) ?_
  refine lv_iload_n hx hb dX4_build_203 rfl (lv_at hl 2 rfl) ?_
  refine xk_v (va_runV (As := [.int (nI sw.2)]) (rest := []) ⟨hx, hb, hml, hown, hts⟩ (cX4_seal_m l dC dI ca ad kf vf ((pw_i kf (pw_len kf vf w9 (tf, 0)) n9 (pw_n sw (lN n9))).1) fr sg fj bk bv (nI w9) nb mn ai en th op wr (pw_i kf (pw_len kf vf w9 (tf, 0)) n9 (pw_n sw (lN n9))).2 sw.2 (by omega) (by omega) _) (cwV 1 hts (xg_V mb_methodLink_RX4_70 mb_instanceMethod_yX4_seal mb_selects_yX4_seal mb_initialized_RX4 mb_code_yX4_seal) rfl rfl rfl ⟨rfl, by decide, by decide, by decide +kernel⟩ ⟨Nat.le_of_ble_eq_true rfl, Nat.le_of_ble_eq_true rfl⟩) (xpreV (va_recv (q0 := 0) hK hP rfl rfl) hK hP hD hS hA hE) rfl rfl hl.1 rfl (lv_room (Nat.le_of_ble_eq_true rfl)) dX4_build_204 ⟨Nat.le_of_ble_eq_true rfl, Nat.le_of_ble_eq_true rfl⟩) hD hS hA (fun u H locs hu hP hD hS => ?_)
  have hP : va_P (dC, dI) vwCl (xm ad ca kf vf ((pw_s (pw_i kf (pw_len kf vf w9 (tf, 0)) n9 (pw_n sw (lN n9))) sw.2).1) fr sg fj bk bv (nI w9) (nI (pw_s (pw_i kf (pw_len kf vf w9 (tf, 0)) n9 (pw_n sw (lN n9))) sw.2).2) nb mn ai en th op wr) H := hP
  have hD : va_D A (xm ad ca kf vf ((pw_s (pw_i kf (pw_len kf vf w9 (tf, 0)) n9 (pw_n sw (lN n9))) sw.2).1) fr sg fj bk bv (nI w9) (nI (pw_s (pw_i kf (pw_len kf vf w9 (tf, 0)) n9 (pw_n sw (lN n9))) sw.2).2) nb mn ai en th op wr) := hD
  have u5 : (pw_s (pw_i kf (pw_len kf vf w9 (tf, 0)) n9 (pw_n sw (lN n9))) sw.2).2 = (pw_i kf (pw_len kf vf w9 (tf, 0)) n9 (pw_n sw (lN n9))).2 + 4 := rfl
  refine lv_bipush (v := nI (8 * 4) + (-8)) hx hb dX4_build_207 (by decide) ?_
  refine lv_istore hx hb dX4_build_209 hl (by decide) rfl (fun ls hl => ?_)
  have hl : lv_has ls 5 [(4, .int (nI (8 * 4) + (-8))), (3, .int (nI ((pw_i kf (pw_len kf vf w9 (tf, 0)) n9 (pw_n sw (lN n9))).2 - sw.2))), (0, .ref (ad 0)), (2, .int (nI sw.2))] := hl
  refine lpX4_build_ft hx hb hml hown hts hK hA hE (L := (pw_s (pw_i kf (pw_len kf vf w9 (tf, 0)) n9 (pw_n sw (lN n9))) sw.2).2) (n := (pw_i kf (pw_len kf vf w9 (tf, 0)) n9 (pw_n sw (lN n9))).2 - sw.2) (by omega) (by omega) 4 _ _ _ (Nat.le_refl _) (lv_sub hl [0, 2, 1] rfl) hP hD hS (fun H locs ls hl hP hD hS => ?_)
  have hP : va_P (dC, dI) vwCl (xm ad ca kf vf ((pw_ix kf (pw_len kf vf w9 (tf, 0)) n9 sw).1) fr sg fj bk bv (nI w9) (nI (pw_ix kf (pw_len kf vf w9 (tf, 0)) n9 sw).2) nb mn ai en th op wr) H := hP
  have hD : va_D A (xm ad ca kf vf ((pw_ix kf (pw_len kf vf w9 (tf, 0)) n9 sw).1) fr sg fj bk bv (nI w9) (nI (pw_ix kf (pw_len kf vf w9 (tf, 0)) n9 sw).2) nb mn ai en th op wr) := hD
  rw [hal] at hP hD
  refine lv_aload_n hx hb dX4_build_243 rfl (lv_at hl 0 rfl) ?_
  refine lv_iconst (v := 0) hx hb dX4_build_244 (by decide) ?_
  refine va_put (D := (dC, dI)) (ci := 4) (v := .int 0) (ty := .int) (C := RX4) (T := TX4) (N := 17) (ref := "SortedRunModel") hx hb hts (xg_u mb_uws_X4) tyX4 tyX4_ok nmX4 hown hK hP hD hS 0 rfl rfl 8 (by decide) (xg_w hts mb_fieldLink_RX4_59) (fun _ h9 => h9) rfl (by decide +kernel) rfl rfl (Nat.le_of_ble_eq_true rfl) dX4_build_245 (fun H locs hP hD hS => ?_)
  have hP : va_P (dC, dI) vwCl (xm ad ca kf vf ((pw_all kf vf w9 tf).1) fr sg fj bk bv 0 (nI (pw_all kf vf w9 tf).2) nb mn ai en th op wr) H := hP
  have hD : va_D A (xm ad ca kf vf ((pw_all kf vf w9 tf).1) fr sg fj bk bv 0 (nI (pw_all kf vf w9 tf).2) nb mn ai en th op wr) := hD
  refine lv_aload_n hx hb dX4_build_248 rfl (lv_at hl 0 rfl) ?_
  refine lv_iconst (v := 0) hx hb dX4_build_249 (by decide) ?_
  refine va_put (D := (dC, dI)) (ci := 4) (v := .int 0) (ty := .boolean) (C := RX4) (T := TX4) (N := 17) (ref := "SortedRunModel") hx hb hts (xg_u mb_uws_X4) tyX4 tyX4_ok nmX4 hown hK hP hD hS 0 rfl rfl 15 (by decide) (xg_w hts mb_fieldLink_RX4_74) (fun _ h9 => h9) rfl (by decide +kernel) rfl rfl (Nat.le_of_ble_eq_true rfl) dX4_build_250 (fun H locs hP hD hS => ?_)
  have hP : va_P (dC, dI) vwCl (xm ad ca kf vf ((pw_all kf vf w9 tf).1) fr sg fj bk bv 0 (nI (pw_all kf vf w9 tf).2) nb mn ai en th 0 wr) H := hP
  have hD : va_D A (xm ad ca kf vf ((pw_all kf vf w9 tf).1) fr sg fj bk bv 0 (nI (pw_all kf vf w9 tf).2) nb mn ai en th 0 wr) := hD
  have hP9 := hP
  have hD9 := hD
  exact W.vret hx hb hr (fun t ht hW => ⟨⟨(sg, fj), rfl, trivial, by rw [ht]; exact hP9, va_K.moved hW.alike hK, hD9⟩, hS.F ht⟩) hS.2.2 dX4_build_253
