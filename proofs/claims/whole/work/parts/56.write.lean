/-! SortedRun: the writers (rows by wip/whole/wwr.py) -/
set_option maxHeartbeats 4000000 in
set_option maxRecDepth 100000 in
theorem lpX3_writeBlock_go {p : Program} {l : Launch} {e : Env} {s : State} {m : MethodId} {args : Array Value} {below : List Frame} {meth : Method} {c : Code} {Q : State → Prop} {A : Nat → Prop} {dC : Nat → ClassId} {dI : Nat → Nat → Nat} {ca : Nat → ClassId} {ad : Nat → Nat} (hx : p.tables.exec = Jvm.exec) (hb : c.code = cX3_writeBlock) (hml : c.maxLocals = 5) (hown : s.vm.findClass RX3 = some m.cls) (hts : ∀ w ∈ wsX3_writeBlock, w.before args s = true) (hK : va_K (dC, dI) vwCl (xt ca) s) (hA : ∀ q : Nat, s.heap.size ≤ q → A q) (hE : xn_E A s) {kf : Nat → Int32} {vf : Nat → Int64} {bf : Nat → Int32} {op : Int32} {nx : Int32} {en : Int32} {ok : Int32} {nb : Int32} {ef : Nat → Int32} {ff : Nat → Int32} {fi : Int32} {ek : Int32} {ev : Int64} {i0 n9 w9 : Nat} {sw : pw_P} (hw : w9 ≤ 300) (hn : i0 + n9 ≤ w9) (hup : pw_up kf w9) (hL : sw.2 + 15 * n9 + 4 ≤ 4889) : ∀ (k : Nat) (m9 : Nat) (H : Heap) (locs : List Loc) (ls : Array Slot), m9 + k = n9 → 1 ≤ m9 → lv_has ls 5 [(4, .int (nI (i0 + m9))), (0, .ref (ad 0)), (2, .int (nI sw.2)), (3, .int (nI (i0 + n9)))] → va_P (dC, dI) vwCl (xw ad ca kf vf bf (nI w9) op (nI (pw_b kf vf i0 m9 sw).2) nx en ok ((pw_b kf vf i0 m9 sw).1) nb ef ff fi ek ev) H → va_D A (xw ad ca kf vf bf (nI w9) op (nI (pw_b kf vf i0 m9 sw).2) nx en ok ((pw_b kf vf i0 m9 sw).1) nb ef ff fi ek ev) → va_S A s.heap H locs → (∀ (H : Heap) (locs : List Loc) (ls : Array Slot), lv_has ls 5 [(0, .ref (ad 0)), (2, .int (nI sw.2))] → va_P (dC, dI) vwCl (xw ad ca kf vf bf (nI w9) op (nI (pw_b kf vf i0 n9 sw).2) nx en ok ((pw_b kf vf i0 n9 sw).1) nb ef ff fi ek ev) H → va_D A (xw ad ca kf vf bf (nI w9) op (nI (pw_b kf vf i0 n9 sw).2) nx en ok ((pw_b kf vf i0 n9 sw).1) nb ef ff fi ek ev) → va_S A s.heap H locs → W p l e ({ frames := 3, cells := 0, slots := 0, locals := 68 } : Room) s m args below meth c H locs 0 0 Q (F0 m 115 ls [])) → W p l e ({ frames := 3, cells := 0, slots := 0, locals := 68 } : Room) s m args below meth c H locs 0 0 Q (F0 m 58 ls []) := by
  intro k
  induction k with
  | zero =>
    intro m9 H locs ls hm hm1 hl hP hD hS kg
    have hl : lv_has ls 5 [(4, .int (nI (i0 + m9))), (0, .ref (ad 0)), (2, .int (nI sw.2)), (3, .int (nI (i0 + n9)))] := hl
    obtain rfl : m9 = n9 := by omega
    refine lv_iload hx hb dX3_writeBlock_58 (lv_at hl 0 rfl) ?_
    refine lv_iload_n hx hb dX3_writeBlock_60 rfl (lv_at hl 3 rfl) ?_
    refine lv_icmp_ge (tgt := 115) hx hb dX3_writeBlock_61 rfl (fun hc => ?_) (fun hc => absurd hc (not_not_intro (Int32.le_refl _)))
    exact kg H locs ls (lv_sub hl [1, 2] rfl) hP hD hS
  | succ k ih =>
    intro m9 H locs ls hm hm1 hl hP hD hS kg
    have hl : lv_has ls 5 [(4, .int (nI (i0 + m9))), (0, .ref (ad 0)), (2, .int (nI sw.2)), (3, .int (nI (i0 + n9)))] := hl
    refine lv_iload hx hb dX3_writeBlock_58 (lv_at hl 0 rfl) ?_
    refine lv_iload_n hx hb dX3_writeBlock_60 rfl (lv_at hl 3 rfl) ?_
    refine lv_icmp_ge (tgt := 115) hx hb dX3_writeBlock_61 rfl (fun hc => absurd hc (by rw [nI_leI (by omega) (by omega)]; omega)) (fun hc => ?_)
    have u1 := pw_b_up (vf := vf) (i := i0) hup m9 sw (by omega)
    have u2 := pl_n5 (pw_x_lt (i := i0) (j := i0 + m9) hup (by omega) (by omega))
    have u3 := pl_n_le 9 (pu_f (vf (i0 + m9))).toBitVec.toNat
    refine lv_aload_n hx hb dX3_writeBlock_64 rfl (lv_at hl 1 rfl) ?_
    refine va_get (D := (dC, dI)) (ci := 3) (v := .ref (ad 4)) (C := RX3) (T := TX3) (N := 8) (ref := "SortedRun") hx hb hts (xg_u mb_uws_X3) hown hK hP 0 rfl rfl 3 (by decide) (xg_w hts mb_fieldLink_RX3_23) (fun _ h9 => h9) rfl dX3_writeBlock_65 ?_
    refine lv_aload_n hx hb dX3_writeBlock_68 rfl (lv_at hl 1 rfl) ?_
    refine va_get (D := (dC, dI)) (ci := 3) (v := .ref (ad 1)) (C := RX3) (T := TX3) (N := 8) (ref := "SortedRun") hx hb hts (xg_u mb_uws_X3) hown hK hP 0 rfl rfl 0 (by decide) (xg_w hts mb_fieldLink_RX3_9) (fun _ h9 => h9) rfl dX3_writeBlock_69 ?_
    refine lv_iload hx hb dX3_writeBlock_72 (lv_at hl 0 rfl) ?_
    refine va_iald hx hb hK hP 1 0 rfl rfl (vp_in_nI (by omega) (by decide)) dX3_writeBlock_74 ?_
    refine lv_topi (fun z1 ez1 => ?_)
    have ez1 : z1 = kf (i0 + m9) := ez1.trans (congrArg kf (nI_clamp (by omega)))
    subst ez1
    refine lv_i2l (v := (kf (i0 + m9)).toInt64) hx hb dX3_writeBlock_75 (rfl) ?_
    refine lv_aload_n hx hb dX3_writeBlock_76 rfl (lv_at hl 1 rfl) ?_
    refine va_get (D := (dC, dI)) (ci := 3) (v := .ref (ad 1)) (C := RX3) (T := TX3) (N := 8) (ref := "SortedRun") hx hb hts (xg_u mb_uws_X3) hown hK hP 0 rfl rfl 0 (by decide) (xg_w hts mb_fieldLink_RX3_9) (fun _ h9 => h9) rfl dX3_writeBlock_77 ?_
    refine lv_iload hx hb dX3_writeBlock_80 (lv_at hl 0 rfl) ?_
    refine lv_iconst (v := nI 1) hx hb dX3_writeBlock_82 (by decide) ?_
    refine lv_isub hx hb dX3_writeBlock_83 ?_
    refine lv_topi (fun z2 ez2 => ?_)
    have ez2 : z2 = nI (i0 + m9 - 1) := ez2.trans (pk_sub (by omega))
    subst ez2
    refine va_iald hx hb hK hP 1 0 rfl rfl (vp_in_nI (by omega) (by decide)) dX3_writeBlock_84 ?_
    refine lv_topi (fun z3 ez3 => ?_)
    have ez3 : z3 = kf (i0 + m9 - 1) := ez3.trans (congrArg kf (nI_clamp (by omega)))
    subst ez3
    refine lv_i2l (v := (kf (i0 + m9 - 1)).toInt64) hx hb dX3_writeBlock_85 (rfl) ?_
    refine lv_lsub hx hb dX3_writeBlock_86 ?_
    refine lv_lconst (v := 1) hx hb dX3_writeBlock_87 (by decide) ?_
    refine lv_lsub hx hb dX3_writeBlock_88 ?_
    refine lv_topl (fun z4 ez4 => ?_)
    have ez4 : z4 = pw_x kf i0 (i0 + m9) := ez4.trans (by unfold pw_x; rw [if_neg (by omega)])
    subst ez4
    refine xk_v (va_runV (As := [.long (pw_x kf i0 (i0 + m9))]) (rest := []) ⟨hx, hb, hml, hown, hts⟩ (cX2_appendNumber_m l dC dI ca ad kf vf bf (nI w9) op nx en ok ((pw_b kf vf i0 m9 sw).1) nb ef ff fi ek ev (pw_b kf vf i0 m9 sw).2 (pw_x kf i0 (i0 + m9)) (by omega) _) (cwV 1 hts (xg_V mb_methodLink_RX3_185 mb_instanceMethod_yX2_appendNumber mb_selects_yX2_appendNumber mb_initialized_RX2 mb_code_yX2_appendNumber) rfl rfl rfl ⟨rfl, by decide, by decide, by decide +kernel⟩ ⟨Nat.le_of_ble_eq_true rfl, Nat.le_of_ble_eq_true rfl⟩) (xpreV (va_recv (q0 := 4) hK hP rfl rfl) hK hP hD hS hA hE) rfl rfl hl.1 rfl (lv_room (Nat.le_of_ble_eq_true rfl)) dX3_writeBlock_89 ⟨Nat.le_of_ble_eq_true rfl, Nat.le_of_ble_eq_true rfl⟩) hD hS hA (fun u H locs hu hP hD hS => ?_)
    have hP : va_P (dC, dI) vwCl (xw ad ca kf vf bf (nI w9) op (nI (pw_n (pw_b kf vf i0 m9 sw) (pw_x kf i0 (i0 + m9))).2) nx en ok ((pw_n (pw_b kf vf i0 m9 sw) (pw_x kf i0 (i0 + m9))).1) nb ef ff fi ek ev) H := hP
    have hD : va_D A (xw ad ca kf vf bf (nI w9) op (nI (pw_n (pw_b kf vf i0 m9 sw) (pw_x kf i0 (i0 + m9))).2) nx en ok ((pw_n (pw_b kf vf i0 m9 sw) (pw_x kf i0 (i0 + m9))).1) nb ef ff fi ek ev) := hD
    have u4 : (pw_n (pw_b kf vf i0 m9 sw) (pw_x kf i0 (i0 + m9))).2 = (pw_b kf vf i0 m9 sw).2 + pl_n 9 (pw_x kf i0 (i0 + m9)).toBitVec.toNat := rfl
    refine lv_aload_n hx hb dX3_writeBlock_92 rfl (lv_at hl 1 rfl) ?_
    refine va_get (D := (dC, dI)) (ci := 3) (v := .ref (ad 4)) (C := RX3) (T := TX3) (N := 8) (ref := "SortedRun") hx hb hts (xg_u mb_uws_X3) hown hK hP 0 rfl rfl 3 (by decide) (xg_w hts mb_fieldLink_RX3_23) (fun _ h9 => h9) rfl dX3_writeBlock_93 ?_
    refine lv_aload_n hx hb dX3_writeBlock_96 rfl (lv_at hl 1 rfl) ?_
    refine va_get (D := (dC, dI)) (ci := 3) (v := .ref (ad 2)) (C := RX3) (T := TX3) (N := 8) (ref := "SortedRun") hx hb hts (xg_u mb_uws_X3) hown hK hP 0 rfl rfl 1 (by decide) (xg_w hts mb_fieldLink_RX3_13) (fun _ h9 => h9) rfl dX3_writeBlock_97 ?_
    refine lv_iload hx hb dX3_writeBlock_100 (lv_at hl 0 rfl) ?_
    refine va_lald hx hb hK hP 2 1 rfl rfl (vp_in_nI (by omega) (by decide)) dX3_writeBlock_102 ?_
    refine lv_topl (fun z5 ez5 => ?_)
    have ez5 : z5 = vf (i0 + m9) := ez5.trans (congrArg vf (nI_clamp (by omega)))
    subst ez5
    refine xk_l (va_runS (As := [.long (vf (i0 + m9))]) (rest := [.ref (ad 4)]) ⟨hx, hb, hml, hown, hts⟩ (cX3_fold_m l dC dI ca ad kf vf bf (nI w9) op (nI (pw_n (pw_b kf vf i0 m9 sw) (pw_x kf i0 (i0 + m9))).2) nx en ok ((pw_n (pw_b kf vf i0 m9 sw) (pw_x kf i0 (i0 + m9))).1) nb ef ff fi ek ev (vf (i0 + m9)) _) (cwS 1 hts (xg_S mb_methodLink_RX3_181 mb_static_yX3_fold mb_initialized_RX3 mb_code_yX3_fold) rfl rfl rfl ⟨rfl, by decide, by decide, by decide +kernel⟩ ⟨Nat.le_of_ble_eq_true rfl, Nat.le_of_ble_eq_true rfl⟩) (xpreS hK hP hD hS hA hE) rfl rfl hl.1 rfl (lv_room (Nat.le_of_ble_eq_true rfl)) dX3_writeBlock_103 ⟨Nat.le_of_ble_eq_true rfl, Nat.le_of_ble_eq_true rfl⟩) hD hS hA (fun r u H locs hu hP hD hS => ?_)
    subst hu
    have hP : va_P (dC, dI) vwCl (xw ad ca kf vf bf (nI w9) op (nI (pw_n (pw_b kf vf i0 m9 sw) (pw_x kf i0 (i0 + m9))).2) nx en ok ((pw_n (pw_b kf vf i0 m9 sw) (pw_x kf i0 (i0 + m9))).1) nb ef ff fi ek ev) H := hP
    have hD : va_D A (xw ad ca kf vf bf (nI w9) op (nI (pw_n (pw_b kf vf i0 m9 sw) (pw_x kf i0 (i0 + m9))).2) nx en ok ((pw_n (pw_b kf vf i0 m9 sw) (pw_x kf i0 (i0 + m9))).1) nb ef ff fi ek ev) := hD
    refine xk_v (va_runV (As := [.long (pu_f (vf (i0 + m9)))]) (rest := []) ⟨hx, hb, hml, hown, hts⟩ (cX2_appendNumber_m l dC dI ca ad kf vf bf (nI w9) op nx en ok ((pw_n (pw_b kf vf i0 m9 sw) (pw_x kf i0 (i0 + m9))).1) nb ef ff fi ek ev (pw_n (pw_b kf vf i0 m9 sw) (pw_x kf i0 (i0 + m9))).2 (pu_f (vf (i0 + m9))) (by omega) _) (cwV 1 hts (xg_V mb_methodLink_RX3_185 mb_instanceMethod_yX2_appendNumber mb_selects_yX2_appendNumber mb_initialized_RX2 mb_code_yX2_appendNumber) rfl rfl rfl ⟨rfl, by decide, by decide, by decide +kernel⟩ ⟨Nat.le_of_ble_eq_true rfl, Nat.le_of_ble_eq_true rfl⟩) (xpreV (va_recv (q0 := 4) hK hP rfl rfl) hK hP hD hS hA hE) rfl rfl hl.1 rfl (lv_room (Nat.le_of_ble_eq_true rfl)) dX3_writeBlock_106 ⟨Nat.le_of_ble_eq_true rfl, Nat.le_of_ble_eq_true rfl⟩) hD hS hA (fun u H locs hu hP hD hS => ?_)
    have hP : va_P (dC, dI) vwCl (xw ad ca kf vf bf (nI w9) op (nI (pw_b kf vf i0 (m9 + 1) sw).2) nx en ok ((pw_b kf vf i0 (m9 + 1) sw).1) nb ef ff fi ek ev) H := hP
    have hD : va_D A (xw ad ca kf vf bf (nI w9) op (nI (pw_b kf vf i0 (m9 + 1) sw).2) nx en ok ((pw_b kf vf i0 (m9 + 1) sw).1) nb ef ff fi ek ev) := hD
    refine lv_iinc (k := 0) (v := nI (i0 + (m9 + 1))) hx hb dX3_writeBlock_109 hl rfl (nI_1 (i0 + m9)) (by decide) rfl (fun ls hl => ?_)
    have hl : lv_has ls 5 [(4, .int (nI (i0 + (m9 + 1)))), (0, .ref (ad 0)), (2, .int (nI sw.2)), (3, .int (nI (i0 + n9)))] := hl
    refine lv_goto (tgt := 58) hx hb dX3_writeBlock_112 rfl ?_
    exact ih (m9 + 1) _ _ _ (by omega) (by omega) hl hP hD hS kg

set_option maxHeartbeats 4000000 in
set_option maxRecDepth 100000 in
theorem cX3_writeBlock_m (l : Launch) (dC : Nat → ClassId) (dI : Nat → Nat → Nat) (ca : Nat → ClassId) (ad : Nat → Nat) (kf : Nat → Int32) (vf : Nat → Int64) (bf : Nat → Int32) (op : Int32) (nx : Int32) (en : Int32) (ok : Int32) (nb : Int32) (ef : Nat → Int32) (ff : Nat → Int32) (fi : Int32) (ek : Int32) (ev : Int64) (i0 w9 : Nat) (sw : pw_P) (hw : w9 ≤ 300) (hup : pw_up kf w9) (hi : i0 < w9) (hL : sw.2 + 15 * min 8 (w9 - i0) + 4 ≤ 4889) : ∀ sz : Nat, Met l yX3_writeBlock wsX3_writeBlock ({ frames := 3, cells := 0, slots := 0, locals := 68 } : Room) (va_Pc [.ref (ad 0), .int (nI i0)] (xP (dC, dI) (xt ca) (xw ad ca kf vf bf (nI w9) op (nI sw.2) nx en ok sw.1 nb ef ff fi ek ev) sz)) (va_Qi (S := Unit) (fun r _ => r = nI ((pw_bl kf vf w9 i0 sw).2 - sw.2)) (fun u t => xB (dC, dI) (xt ca) (va_A (xw ad ca kf vf bf (nI w9) op (nI sw.2) nx en ok sw.1 nb ef ff fi ek ev) sz) (xw ad ca kf vf bf (nI w9) op (nI (pw_bl kf vf w9 i0 sw).2) nx en ok ((pw_bl kf vf w9 i0 sw).1) nb ef ff fi ek ev) t) (va_A (xw ad ca kf vf bf (nI w9) op (nI sw.2) nx en ok sw.1 nb ef ff fi ek ev) sz)) 0 0 (va_A (xw ad ca kf vf bf (nI w9) op (nI sw.2) nx en ok sw.1 nb ef ff fi ek ev) sz) := by
  intro sz
  refine Met.ofW (cc := cX3_writeBlock) (maxL := 5) (ret := (some .int)) (by decide) rfl ?_
  intro p e s m args below meth c s₁ B hml hv
  obtain ⟨rfl, hsz, hP, hK, hD0, hE⟩ := hv
  have hx := B.exec
  have hb := B.bytes
  have hr := B.returns
  have hts := atoms_spec (ws := wsX3_writeBlock) B.pre
  have hown : s.vm.findClass RX3 = some m.cls := findClass_of_methodNamed B.named
  have hlocks := B.notSynchronized
  subst hsz
  have hD := hD0.self (sz := s.heap.size)
  generalize hAe : va_A (xw ad ca kf vf bf (nI w9) op (nI sw.2) nx en ok sw.1 nb ef ff fi ek ev) s.heap.size = A at hD hE ⊢
  have hA : ∀ q : Nat, s.heap.size ≤ q → A q := fun q h => by rw [← hAe]; exact Or.inr h
  have hS : va_S A s.heap s.heap [] := va_S.rf
  have hl := lv_entry ([.ref (ad 0), .int (nI i0)]) (n := 5) (Nat.le_of_ble_eq_true rfl)
  rw [lg_entry_eq]
  generalize (lg_sl ([.ref (ad 0), .int (nI i0)]) ++ List.replicate (5 - (lg_sl ([.ref (ad 0), .int (nI i0)])).length) Slot.unset).toArray = ls at hl ⊢
  have hl : lv_has ls 5 [(0, .ref (ad 0)), (1, .int (nI i0))] := hl
  obtain ⟨n9, hn9⟩ : ∃ n9, n9 = min 8 (w9 - i0) := ⟨_, rfl⟩
  rw [← hn9] at hL
  have hn1 : 1 ≤ n9 ∧ i0 + n9 ≤ w9 := by omega
  have u2 := pl_n5 (pu_f_lt (kf i0))
  have u3 := pl_n_le 9 (pu_f (vf i0)).toBitVec.toNat
  refine lv_aload_n hx hb dX3_writeBlock_0 rfl (lv_at hl 0 rfl) ?_
  refine va_get (D := (dC, dI)) (ci := 3) (v := .ref (ad 4)) (C := RX3) (T := TX3) (N := 8) (ref := "SortedRun") hx hb hts (xg_u mb_uws_X3) hown hK hP 0 rfl rfl 3 (by decide) (xg_w hts mb_fieldLink_RX3_23) (fun _ h9 => h9) rfl dX3_writeBlock_1 ?_
  refine va_getN (host := "SortedRun") (D := (dC, dI)) (ci := 2) (v := .int (nI sw.2)) (C := RX2) (T := TX2) (N := 5) (ref := "SortedRun$Table") hx hb hts (xg_u mb_uws_X2) hown hK hP 4 rfl rfl 1 (by decide) (xn_w (w := .fieldLinkNest RX3 60 "SortedRun$Table" "length" "I" "SortedRun") (i := 32) hE rfl rfl rfl) (fun _ h9 => h9) rfl dX3_writeBlock_4 ?_
  refine lv_istore_n hx hb dX3_writeBlock_7 rfl hl (by decide) rfl (fun ls hl => ?_)
  have hl : lv_has ls 5 [(2, .int (nI sw.2)), (0, .ref (ad 0)), (1, .int (nI i0))] := hl
  refine lv_iload_n hx hb dX3_writeBlock_8 rfl (lv_at hl 2 rfl) ?_
  refine lv_bipush (v := nI 8) hx hb dX3_writeBlock_9 (by decide) ?_
  refine lv_iadd hx hb dX3_writeBlock_11 ?_
  refine lv_topi (fun z1 ez1 => ?_)
  have ez1 : z1 = nI (i0 + 8) := ez1.trans (nI_add i0 8)
  subst ez1
  refine lv_aload_n hx hb dX3_writeBlock_12 rfl (lv_at hl 1 rfl) ?_
  refine va_get (D := (dC, dI)) (ci := 3) (v := .int (nI w9)) (C := RX3) (T := TX3) (N := 8) (ref := "SortedRun") hx hb hts (xg_u mb_uws_X3) hown hK hP 0 rfl rfl 6 (by decide) (xg_w hts mb_fieldLink_RX3_44) (fun _ h9 => h9) rfl dX3_writeBlock_13 ?_
  refine va_mmin hx hb (hml.trans hl.1.symm) hown (xg_w hts mb_methodLink_RX3_175) (xg_w hts mb_min_static) (xg_w hts mb_min_ini) (xg_w hts mb_min_code) (Nat.le_of_ble_eq_true rfl) (Nat.le_of_ble_eq_true rfl) (Nat.zero_le _) (Nat.zero_le _) dX3_writeBlock_16 ?_
  refine lv_topi (fun z2 ez2 => ?_)
  have ez2 : z2 = nI (i0 + n9) := ez2.trans (by simp only [nI_ltI (show w9 < 2 ^ 31 by omega) (show i0 + 8 < 2 ^ 31 by omega)]; split <;> exact congrArg nI (by omega))
  subst ez2
  refine lv_istore_n hx hb dX3_writeBlock_19 rfl hl (by decide) rfl (fun ls hl => ?_)
  have hl : lv_has ls 5 [(3, .int (nI (i0 + n9))), (2, .int (nI sw.2)), (0, .ref (ad 0)), (1, .int (nI i0))] := hl
  refine lv_aload_n hx hb dX3_writeBlock_20 rfl (lv_at hl 2 rfl) ?_
  refine va_get (D := (dC, dI)) (ci := 3) (v := .ref (ad 4)) (C := RX3) (T := TX3) (N := 8) (ref := "SortedRun") hx hb hts (xg_u mb_uws_X3) hown hK hP 0 rfl rfl 3 (by decide) (xg_w hts mb_fieldLink_RX3_23) (fun _ h9 => h9) rfl dX3_writeBlock_21 ?_
  refine lv_aload_n hx hb dX3_writeBlock_24 rfl (lv_at hl 2 rfl) ?_
  refine va_get (D := (dC, dI)) (ci := 3) (v := .ref (ad 1)) (C := RX3) (T := TX3) (N := 8) (ref := "SortedRun") hx hb hts (xg_u mb_uws_X3) hown hK hP 0 rfl rfl 0 (by decide) (xg_w hts mb_fieldLink_RX3_9) (fun _ h9 => h9) rfl dX3_writeBlock_25 ?_
  refine lv_iload_n hx hb dX3_writeBlock_28 rfl (lv_at hl 3 rfl) ?_
  refine va_iald hx hb hK hP 1 0 rfl rfl (vp_in_nI (by omega) (by decide)) dX3_writeBlock_29 ?_
  refine lv_topi (fun z3 ez3 => ?_)
  have ez3 : z3 = kf i0 := ez3.trans (congrArg kf (nI_clamp (by omega)))
  subst ez3
  refine lv_i2l (v := (kf i0).toInt64) hx hb dX3_writeBlock_30 (rfl) ?_
  refine xk_l (va_runS (As := [.long ((kf i0).toInt64)]) (rest := [.ref (ad 4)]) ⟨hx, hb, hml, hown, hts⟩ (cX3_fold_m l dC dI ca ad kf vf bf (nI w9) op (nI sw.2) nx en ok sw.1 nb ef ff fi ek ev ((kf i0).toInt64) _) (cwS 1 hts (xg_S mb_methodLink_RX3_181 mb_static_yX3_fold mb_initialized_RX3 mb_code_yX3_fold) rfl rfl rfl ⟨rfl, by decide, by decide, by decide +kernel⟩ ⟨Nat.le_of_ble_eq_true rfl, Nat.le_of_ble_eq_true rfl⟩) (xpreS hK hP hD hS hA hE) rfl rfl hl.1 rfl (lv_room (Nat.le_of_ble_eq_true rfl)) dX3_writeBlock_31 ⟨Nat.le_of_ble_eq_true rfl, Nat.le_of_ble_eq_true rfl⟩) hD hS hA (fun r u H locs hu hP hD hS => ?_)
  subst hu
  have hP : va_P (dC, dI) vwCl (xw ad ca kf vf bf (nI w9) op (nI sw.2) nx en ok sw.1 nb ef ff fi ek ev) H := hP
  have hD : va_D A (xw ad ca kf vf bf (nI w9) op (nI sw.2) nx en ok sw.1 nb ef ff fi ek ev) := hD
  refine xk_v (va_runV (As := [.long (pu_f ((kf i0).toInt64))]) (rest := []) ⟨hx, hb, hml, hown, hts⟩ (cX2_appendNumber_m l dC dI ca ad kf vf bf (nI w9) op nx en ok sw.1 nb ef ff fi ek ev sw.2 (pu_f (kf i0).toInt64) (by omega) _) (cwV 1 hts (xg_V mb_methodLink_RX3_185 mb_instanceMethod_yX2_appendNumber mb_selects_yX2_appendNumber mb_initialized_RX2 mb_code_yX2_appendNumber) rfl rfl rfl ⟨rfl, by decide, by decide, by decide +kernel⟩ ⟨Nat.le_of_ble_eq_true rfl, Nat.le_of_ble_eq_true rfl⟩) (xpreV (va_recv (q0 := 4) hK hP rfl rfl) hK hP hD hS hA hE) rfl rfl hl.1 rfl (lv_room (Nat.le_of_ble_eq_true rfl)) dX3_writeBlock_34 ⟨Nat.le_of_ble_eq_true rfl, Nat.le_of_ble_eq_true rfl⟩) hD hS hA (fun u H locs hu hP hD hS => ?_)
  have hP : va_P (dC, dI) vwCl (xw ad ca kf vf bf (nI w9) op (nI (pw_n sw (pu_f (kf i0).toInt64)).2) nx en ok ((pw_n sw (pu_f (kf i0).toInt64)).1) nb ef ff fi ek ev) H := hP
  have hD : va_D A (xw ad ca kf vf bf (nI w9) op (nI (pw_n sw (pu_f (kf i0).toInt64)).2) nx en ok ((pw_n sw (pu_f (kf i0).toInt64)).1) nb ef ff fi ek ev) := hD
  have u4 : (pw_n sw (pu_f (kf i0).toInt64)).2 = sw.2 + pl_n 9 (pu_f (kf i0).toInt64).toBitVec.toNat := rfl
  refine lv_aload_n hx hb dX3_writeBlock_37 rfl (lv_at hl 2 rfl) ?_
  refine va_get (D := (dC, dI)) (ci := 3) (v := .ref (ad 4)) (C := RX3) (T := TX3) (N := 8) (ref := "SortedRun") hx hb hts (xg_u mb_uws_X3) hown hK hP 0 rfl rfl 3 (by decide) (xg_w hts mb_fieldLink_RX3_23) (fun _ h9 => h9) rfl dX3_writeBlock_38 ?_
  refine lv_aload_n hx hb dX3_writeBlock_41 rfl (lv_at hl 2 rfl) ?_
  refine va_get (D := (dC, dI)) (ci := 3) (v := .ref (ad 2)) (C := RX3) (T := TX3) (N := 8) (ref := "SortedRun") hx hb hts (xg_u mb_uws_X3) hown hK hP 0 rfl rfl 1 (by decide) (xg_w hts mb_fieldLink_RX3_13) (fun _ h9 => h9) rfl dX3_writeBlock_42 ?_
  refine lv_iload_n hx hb dX3_writeBlock_45 rfl (lv_at hl 3 rfl) ?_
  refine va_lald hx hb hK hP 2 1 rfl rfl (vp_in_nI (by omega) (by decide)) dX3_writeBlock_46 ?_
  refine lv_topl (fun z4 ez4 => ?_)
  have ez4 : z4 = vf i0 := ez4.trans (congrArg vf (nI_clamp (by omega)))
  subst ez4
  refine xk_l (va_runS (As := [.long (vf i0)]) (rest := [.ref (ad 4)]) ⟨hx, hb, hml, hown, hts⟩ (cX3_fold_m l dC dI ca ad kf vf bf (nI w9) op (nI (pw_n sw (pu_f (kf i0).toInt64)).2) nx en ok ((pw_n sw (pu_f (kf i0).toInt64)).1) nb ef ff fi ek ev (vf i0) _) (cwS 1 hts (xg_S mb_methodLink_RX3_181 mb_static_yX3_fold mb_initialized_RX3 mb_code_yX3_fold) rfl rfl rfl ⟨rfl, by decide, by decide, by decide +kernel⟩ ⟨Nat.le_of_ble_eq_true rfl, Nat.le_of_ble_eq_true rfl⟩) (xpreS hK hP hD hS hA hE) rfl rfl hl.1 rfl (lv_room (Nat.le_of_ble_eq_true rfl)) dX3_writeBlock_47 ⟨Nat.le_of_ble_eq_true rfl, Nat.le_of_ble_eq_true rfl⟩) hD hS hA (fun r u H locs hu hP hD hS => ?_)
  subst hu
  have hP : va_P (dC, dI) vwCl (xw ad ca kf vf bf (nI w9) op (nI (pw_n sw (pu_f (kf i0).toInt64)).2) nx en ok ((pw_n sw (pu_f (kf i0).toInt64)).1) nb ef ff fi ek ev) H := hP
  have hD : va_D A (xw ad ca kf vf bf (nI w9) op (nI (pw_n sw (pu_f (kf i0).toInt64)).2) nx en ok ((pw_n sw (pu_f (kf i0).toInt64)).1) nb ef ff fi ek ev) := hD
  refine xk_v (va_runV (As := [.long (pu_f (vf i0))]) (rest := []) ⟨hx, hb, hml, hown, hts⟩ (cX2_appendNumber_m l dC dI ca ad kf vf bf (nI w9) op nx en ok ((pw_n sw (pu_f (kf i0).toInt64)).1) nb ef ff fi ek ev (pw_n sw (pu_f (kf i0).toInt64)).2 (pu_f (vf i0)) (by omega) _) (cwV 1 hts (xg_V mb_methodLink_RX3_185 mb_instanceMethod_yX2_appendNumber mb_selects_yX2_appendNumber mb_initialized_RX2 mb_code_yX2_appendNumber) rfl rfl rfl ⟨rfl, by decide, by decide, by decide +kernel⟩ ⟨Nat.le_of_ble_eq_true rfl, Nat.le_of_ble_eq_true rfl⟩) (xpreV (va_recv (q0 := 4) hK hP rfl rfl) hK hP hD hS hA hE) rfl rfl hl.1 rfl (lv_room (Nat.le_of_ble_eq_true rfl)) dX3_writeBlock_50 ⟨Nat.le_of_ble_eq_true rfl, Nat.le_of_ble_eq_true rfl⟩) hD hS hA (fun u H locs hu hP hD hS => ?_)
  have hP : va_P (dC, dI) vwCl (xw ad ca kf vf bf (nI w9) op (nI (pw_n (pw_n sw (pu_f (kf i0).toInt64)) (pu_f (vf i0))).2) nx en ok ((pw_n (pw_n sw (pu_f (kf i0).toInt64)) (pu_f (vf i0))).1) nb ef ff fi ek ev) H := hP
  have hD : va_D A (xw ad ca kf vf bf (nI w9) op (nI (pw_n (pw_n sw (pu_f (kf i0).toInt64)) (pu_f (vf i0))).2) nx en ok ((pw_n (pw_n sw (pu_f (kf i0).toInt64)) (pu_f (vf i0))).1) nb ef ff fi ek ev) := hD
  have hb1 : pw_n (pw_n sw (pu_f (kf i0).toInt64)) (pu_f (vf i0)) = pw_b kf vf i0 1 sw := by
    show pw_n (pw_n sw (pu_f (kf i0).toInt64)) (pu_f (vf i0)) = pw_n (pw_n sw (pw_x kf i0 (i0 + 0))) (pu_f (vf (i0 + 0)))
    unfold pw_x; rw [Nat.add_zero, if_pos rfl]
  rw [hb1] at hP hD
  refine lv_iload_n hx hb dX3_writeBlock_53 rfl (lv_at hl 3 rfl) ?_
  refine lv_iconst (v := nI 1) hx hb dX3_writeBlock_54 (by decide) ?_
  refine lv_iadd hx hb dX3_writeBlock_55 ?_
  refine lv_topi (fun z5 ez5 => ?_)
  have ez5 : z5 = nI (i0 + 1) := ez5.trans (nI_add i0 1)
  subst ez5
  refine lv_istore hx hb dX3_writeBlock_56 hl (by decide) rfl (fun ls hl => ?_)
  have hl : lv_has ls 5 [(4, .int (nI (i0 + 1))), (3, .int (nI (i0 + n9))), (2, .int (nI sw.2)), (0, .ref (ad 0)), (1, .int (nI i0))] := hl
  refine lpX3_writeBlock_go hx hb hml hown hts hK hA hE (i0 := i0) (n9 := n9) (w9 := w9) (sw := sw) hw hn1.2 hup hL (n9 - 1) 1 _ _ _ (by omega) (by omega) (lv_sub hl [0, 3, 2, 1] rfl) hP hD hS ?_
  intro H locs ls hl hP hD hS
  have u5 := pw_b_up (vf := vf) (i := i0) hup n9 sw hn1.2
  have u6 := pw_b_le kf vf i0 n9 sw
  refine lv_aload_n hx hb dX3_writeBlock_115 rfl (lv_at hl 0 rfl) ?_
  refine va_get (D := (dC, dI)) (ci := 3) (v := .ref (ad 4)) (C := RX3) (T := TX3) (N := 8) (ref := "SortedRun") hx hb hts (xg_u mb_uws_X3) hown hK hP 0 rfl rfl 3 (by decide) (xg_w hts mb_fieldLink_RX3_23) (fun _ h9 => h9) rfl dX3_writeBlock_116 ?_
  refine lv_iload_n hx hb dX3_writeBlock_119 rfl (lv_at hl 1 rfl) ?_
  refine xk_v (va_runV (As := [.int (nI sw.2)]) (rest := []) ⟨hx, hb, hml, hown, hts⟩ (cX2_appendSum_m l dC dI ca ad kf vf bf (nI w9) op nx en ok ((pw_b kf vf i0 n9 sw).1) nb ef ff fi ek ev (pw_b kf vf i0 n9 sw).2 sw.2 (by omega) u6 _) (cwV 1 hts (xg_V mb_methodLink_RX3_189 mb_instanceMethod_yX2_appendSum mb_selects_yX2_appendSum mb_initialized_RX2 mb_code_yX2_appendSum) rfl rfl rfl ⟨rfl, by decide, by decide, by decide +kernel⟩ ⟨Nat.le_of_ble_eq_true rfl, Nat.le_of_ble_eq_true rfl⟩) (xpreV (va_recv (q0 := 4) hK hP rfl rfl) hK hP hD hS hA hE) rfl rfl hl.1 rfl (lv_room (Nat.le_of_ble_eq_true rfl)) dX3_writeBlock_120 ⟨Nat.le_of_ble_eq_true rfl, Nat.le_of_ble_eq_true rfl⟩) hD hS hA (fun u H locs hu hP hD hS => ?_)
  have hP : va_P (dC, dI) vwCl (xw ad ca kf vf bf (nI w9) op (nI (pw_s (pw_b kf vf i0 n9 sw) sw.2).2) nx en ok ((pw_s (pw_b kf vf i0 n9 sw) sw.2).1) nb ef ff fi ek ev) H := hP
  have hD : va_D A (xw ad ca kf vf bf (nI w9) op (nI (pw_s (pw_b kf vf i0 n9 sw) sw.2).2) nx en ok ((pw_s (pw_b kf vf i0 n9 sw) sw.2).1) nb ef ff fi ek ev) := hD
  have hbl : pw_s (pw_b kf vf i0 n9 sw) sw.2 = pw_bl kf vf w9 i0 sw := by unfold pw_bl; rw [hn9]
  rw [hbl] at hP hD
  have u7 := pw_bl_ge kf vf w9 i0 sw
  refine lv_aload_n hx hb dX3_writeBlock_123 rfl (lv_at hl 0 rfl) ?_
  refine va_get (D := (dC, dI)) (ci := 3) (v := .ref (ad 4)) (C := RX3) (T := TX3) (N := 8) (ref := "SortedRun") hx hb hts (xg_u mb_uws_X3) hown hK hP 0 rfl rfl 3 (by decide) (xg_w hts mb_fieldLink_RX3_23) (fun _ h9 => h9) rfl dX3_writeBlock_124 ?_
  refine va_getN (host := "SortedRun") (D := (dC, dI)) (ci := 2) (v := .int (nI (pw_bl kf vf w9 i0 sw).2)) (C := RX2) (T := TX2) (N := 5) (ref := "SortedRun$Table") hx hb hts (xg_u mb_uws_X2) hown hK hP 4 rfl rfl 1 (by decide) (xn_w (w := .fieldLinkNest RX3 60 "SortedRun$Table" "length" "I" "SortedRun") (i := 32) hE rfl rfl rfl) (fun _ h9 => h9) rfl dX3_writeBlock_127 ?_
  refine lv_iload_n hx hb dX3_writeBlock_130 rfl (lv_at hl 1 rfl) ?_
  refine lv_isub hx hb dX3_writeBlock_131 ?_
  refine lv_topi (fun z6 ez6 => ?_)
  have ez6 : z6 = nI ((pw_bl kf vf w9 i0 sw).2 - sw.2) := ez6.trans (pk_sub u7)
  subst ez6
  have hP9 := hP
  have hD9 := hD
  exact W.iret (v := nI ((pw_bl kf vf w9 i0 sw).2 - sw.2)) hx hb hr (fun t ht hW => ⟨⟨nI ((pw_bl kf vf w9 i0 sw).2 - sw.2), (), rfl, rfl, by rw [ht]; exact hP9, va_K.moved hW.alike hK, hD9⟩, hS.F ht⟩) hS.2.2 dX3_writeBlock_132

set_option maxHeartbeats 4000000 in
set_option maxRecDepth 100000 in
theorem lpX3_writeIndex_go {p : Program} {l : Launch} {e : Env} {s : State} {m : MethodId} {args : Array Value} {below : List Frame} {meth : Method} {c : Code} {Q : State → Prop} {A : Nat → Prop} {dC : Nat → ClassId} {dI : Nat → Nat → Nat} {ca : Nat → ClassId} {ad : Nat → Nat} (hx : p.tables.exec = Jvm.exec) (hb : c.code = cX3_writeIndex) (hml : c.maxLocals = 4) (hown : s.vm.findClass RX3 = some m.cls) (hts : ∀ w ∈ wsX3_writeIndex, w.before args s = true) (hK : va_K (dC, dI) vwCl (xt ca) s) (hA : ∀ q : Nat, s.heap.size ≤ q → A q) (hE : xn_E A s) {kf : Nat → Int32} {vf : Nat → Int64} {bf : Nat → Int32} {w : Int32} {op : Int32} {nx : Int32} {en : Int32} {ok : Int32} {nb : Int32} {ef : Nat → Int32} {ff : Nat → Int32} {fi : Int32} {ek : Int32} {ev : Int64} {n9 : Nat} {ln9 : Nat → Nat} {sw : pw_P} (hn : n9 ≤ 38) (hbf : ∀ j, j < n9 → bf j = nI (ln9 j)) (hln : ∀ j, ln9 j < 128) (hL : sw.2 + 1 + 6 * n9 + 8 ≤ 4889) : ∀ (k : Nat) (b9 : Nat) (H : Heap) (locs : List Loc) (ls : Array Slot), b9 + k = n9 → lv_has ls 4 [(3, .int (nI b9)), (0, .ref (ad 0)), (1, .int (nI n9)), (2, .int (nI sw.2))] → va_P (dC, dI) vwCl (xw ad ca kf vf bf w op (nI (pw_i kf ln9 b9 (pw_n sw (lN n9))).2) nx en ok ((pw_i kf ln9 b9 (pw_n sw (lN n9))).1) nb ef ff fi ek ev) H → va_D A (xw ad ca kf vf bf w op (nI (pw_i kf ln9 b9 (pw_n sw (lN n9))).2) nx en ok ((pw_i kf ln9 b9 (pw_n sw (lN n9))).1) nb ef ff fi ek ev) → va_S A s.heap H locs → (∀ (H : Heap) (locs : List Loc) (ls : Array Slot), lv_has ls 4 [(0, .ref (ad 0)), (2, .int (nI sw.2))] → va_P (dC, dI) vwCl (xw ad ca kf vf bf w op (nI (pw_i kf ln9 n9 (pw_n sw (lN n9))).2) nx en ok ((pw_i kf ln9 n9 (pw_n sw (lN n9))).1) nb ef ff fi ek ev) H → va_D A (xw ad ca kf vf bf w op (nI (pw_i kf ln9 n9 (pw_n sw (lN n9))).2) nx en ok ((pw_i kf ln9 n9 (pw_n sw (lN n9))).1) nb ef ff fi ek ev) → va_S A s.heap H locs → W p l e ({ frames := 3, cells := 0, slots := 0, locals := 68 } : Room) s m args below meth c H locs 0 0 Q (F0 m 64 ls [])) → W p l e ({ frames := 3, cells := 0, slots := 0, locals := 68 } : Room) s m args below meth c H locs 0 0 Q (F0 m 19 ls []) := by
  intro k
  induction k with
  | zero =>
    intro b9 H locs ls hm hl hP hD hS kg
    have hl : lv_has ls 4 [(3, .int (nI b9)), (0, .ref (ad 0)), (1, .int (nI n9)), (2, .int (nI sw.2))] := hl
    obtain rfl : b9 = n9 := by omega
    refine lv_iload_n hx hb dX3_writeIndex_19 rfl (lv_at hl 0 rfl) ?_
    refine lv_iload_n hx hb dX3_writeIndex_20 rfl (lv_at hl 2 rfl) ?_
    refine lv_icmp_ge (tgt := 64) hx hb dX3_writeIndex_21 rfl (fun hc => ?_) (fun hc => absurd hc (not_not_intro (Int32.le_refl _)))
    exact kg H locs ls (lv_sub hl [1, 3] rfl) hP hD hS
  | succ k ih =>
    intro b9 H locs ls hm hl hP hD hS kg
    have hl : lv_has ls 4 [(3, .int (nI b9)), (0, .ref (ad 0)), (1, .int (nI n9)), (2, .int (nI sw.2))] := hl
    refine lv_iload_n hx hb dX3_writeIndex_19 rfl (lv_at hl 0 rfl) ?_
    refine lv_iload_n hx hb dX3_writeIndex_20 rfl (lv_at hl 2 rfl) ?_
    refine lv_icmp_ge (tgt := 64) hx hb dX3_writeIndex_21 rfl (fun hc => absurd hc (by rw [nI_leI (by omega) (by omega)]; omega)) (fun hc => ?_)
    have u1 : pl_n 9 (lN n9).toBitVec.toNat = 1 := by rw [pz_lN (by omega)]; exact pl_n1 (by omega)
    have u2 : (pw_n sw (lN n9)).2 = sw.2 + pl_n 9 (lN n9).toBitVec.toNat := rfl
    have u3 := pw_i_up (kf := kf) hln b9 (pw_n sw (lN n9))
    have u4 : pl_n 9 (lN (ln9 b9)).toBitVec.toNat = 1 := by rw [pz_lN (Nat.lt_trans (hln b9) (by decide))]; exact pl_n1 (hln b9)
    have u5 := pl_n5 (pu_f_lt (kf (8 * b9)))
    refine lv_aload_n hx hb dX3_writeIndex_24 rfl (lv_at hl 1 rfl) ?_
    refine va_get (D := (dC, dI)) (ci := 3) (v := .ref (ad 4)) (C := RX3) (T := TX3) (N := 8) (ref := "SortedRun") hx hb hts (xg_u mb_uws_X3) hown hK hP 0 rfl rfl 3 (by decide) (xg_w hts mb_fieldLink_RX3_23) (fun _ h9 => h9) rfl dX3_writeIndex_25 ?_
    refine lv_aload_n hx hb dX3_writeIndex_28 rfl (lv_at hl 1 rfl) ?_
    refine va_get (D := (dC, dI)) (ci := 3) (v := .ref (ad 3)) (C := RX3) (T := TX3) (N := 8) (ref := "SortedRun") hx hb hts (xg_u mb_uws_X3) hown hK hP 0 rfl rfl 2 (by decide) (xg_w hts mb_fieldLink_RX3_17) (fun _ h9 => h9) rfl dX3_writeIndex_29 ?_
    refine lv_iload_n hx hb dX3_writeIndex_32 rfl (lv_at hl 0 rfl) ?_
    refine va_iald hx hb hK hP 3 3 rfl rfl (vp_in_nI (by omega) (by decide)) dX3_writeIndex_33 ?_
    refine lv_topi (fun z1 ez1 => ?_)
    have ez1 : z1 = nI (ln9 b9) := ez1.trans ((congrArg bf (nI_clamp (by omega))).trans (hbf b9 (by omega)))
    subst ez1
    refine lv_i2l (v := lN (ln9 b9)) hx hb dX3_writeIndex_34 (nI_l (Nat.lt_trans (hln b9) (by decide))) ?_
    refine xk_v (va_runV (As := [.long (lN (ln9 b9))]) (rest := []) ⟨hx, hb, hml, hown, hts⟩ (cX2_appendNumber_m l dC dI ca ad kf vf bf w op nx en ok ((pw_i kf ln9 b9 (pw_n sw (lN n9))).1) nb ef ff fi ek ev (pw_i kf ln9 b9 (pw_n sw (lN n9))).2 (lN (ln9 b9)) (by omega) _) (cwV 1 hts (xg_V mb_methodLink_RX3_185 mb_instanceMethod_yX2_appendNumber mb_selects_yX2_appendNumber mb_initialized_RX2 mb_code_yX2_appendNumber) rfl rfl rfl ⟨rfl, by decide, by decide, by decide +kernel⟩ ⟨Nat.le_of_ble_eq_true rfl, Nat.le_of_ble_eq_true rfl⟩) (xpreV (va_recv (q0 := 4) hK hP rfl rfl) hK hP hD hS hA hE) rfl rfl hl.1 rfl (lv_room (Nat.le_of_ble_eq_true rfl)) dX3_writeIndex_35 ⟨Nat.le_of_ble_eq_true rfl, Nat.le_of_ble_eq_true rfl⟩) hD hS hA (fun u H locs hu hP hD hS => ?_)
    have hP : va_P (dC, dI) vwCl (xw ad ca kf vf bf w op (nI (pw_n (pw_i kf ln9 b9 (pw_n sw (lN n9))) (lN (ln9 b9))).2) nx en ok ((pw_n (pw_i kf ln9 b9 (pw_n sw (lN n9))) (lN (ln9 b9))).1) nb ef ff fi ek ev) H := hP
    have hD : va_D A (xw ad ca kf vf bf w op (nI (pw_n (pw_i kf ln9 b9 (pw_n sw (lN n9))) (lN (ln9 b9))).2) nx en ok ((pw_n (pw_i kf ln9 b9 (pw_n sw (lN n9))) (lN (ln9 b9))).1) nb ef ff fi ek ev) := hD
    have u6 : (pw_n (pw_i kf ln9 b9 (pw_n sw (lN n9))) (lN (ln9 b9))).2 = (pw_i kf ln9 b9 (pw_n sw (lN n9))).2 + pl_n 9 (lN (ln9 b9)).toBitVec.toNat := rfl
    refine lv_aload_n hx hb dX3_writeIndex_38 rfl (lv_at hl 1 rfl) ?_
    refine va_get (D := (dC, dI)) (ci := 3) (v := .ref (ad 4)) (C := RX3) (T := TX3) (N := 8) (ref := "SortedRun") hx hb hts (xg_u mb_uws_X3) hown hK hP 0 rfl rfl 3 (by decide) (xg_w hts mb_fieldLink_RX3_23) (fun _ h9 => h9) rfl dX3_writeIndex_39 ?_
    refine lv_aload_n hx hb dX3_writeIndex_42 rfl (lv_at hl 1 rfl) ?_
    refine va_get (D := (dC, dI)) (ci := 3) (v := .ref (ad 1)) (C := RX3) (T := TX3) (N := 8) (ref := "SortedRun") hx hb hts (xg_u mb_uws_X3) hown hK hP 0 rfl rfl 0 (by decide) (xg_w hts mb_fieldLink_RX3_9) (fun _ h9 => h9) rfl dX3_writeIndex_43 ?_
    refine lv_iload_n hx hb dX3_writeIndex_46 rfl (lv_at hl 0 rfl) ?_
    refine lv_bipush (v := nI 8) hx hb dX3_writeIndex_47 (by decide) ?_
    refine lv_imul hx hb dX3_writeIndex_49 ?_
    refine lv_topi (fun z2 ez2 => ?_)
    have ez2 : z2 = nI (8 * b9) := ez2.trans (by rw [pk_mul, Nat.mul_comm])
    subst ez2
    refine va_iald hx hb hK hP 1 0 rfl rfl (vp_in_nI (by omega) (by decide)) dX3_writeIndex_50 ?_
    refine lv_topi (fun z3 ez3 => ?_)
    have ez3 : z3 = kf (8 * b9) := ez3.trans (congrArg kf (nI_clamp (by omega)))
    subst ez3
    refine lv_i2l (v := (kf (8 * b9)).toInt64) hx hb dX3_writeIndex_51 (rfl) ?_
    refine xk_l (va_runS (As := [.long ((kf (8 * b9)).toInt64)]) (rest := [.ref (ad 4)]) ⟨hx, hb, hml, hown, hts⟩ (cX3_fold_m l dC dI ca ad kf vf bf w op (nI (pw_n (pw_i kf ln9 b9 (pw_n sw (lN n9))) (lN (ln9 b9))).2) nx en ok ((pw_n (pw_i kf ln9 b9 (pw_n sw (lN n9))) (lN (ln9 b9))).1) nb ef ff fi ek ev ((kf (8 * b9)).toInt64) _) (cwS 1 hts (xg_S mb_methodLink_RX3_181 mb_static_yX3_fold mb_initialized_RX3 mb_code_yX3_fold) rfl rfl rfl ⟨rfl, by decide, by decide, by decide +kernel⟩ ⟨Nat.le_of_ble_eq_true rfl, Nat.le_of_ble_eq_true rfl⟩) (xpreS hK hP hD hS hA hE) rfl rfl hl.1 rfl (lv_room (Nat.le_of_ble_eq_true rfl)) dX3_writeIndex_52 ⟨Nat.le_of_ble_eq_true rfl, Nat.le_of_ble_eq_true rfl⟩) hD hS hA (fun r u H locs hu hP hD hS => ?_)
    subst hu
    have hP : va_P (dC, dI) vwCl (xw ad ca kf vf bf w op (nI (pw_n (pw_i kf ln9 b9 (pw_n sw (lN n9))) (lN (ln9 b9))).2) nx en ok ((pw_n (pw_i kf ln9 b9 (pw_n sw (lN n9))) (lN (ln9 b9))).1) nb ef ff fi ek ev) H := hP
    have hD : va_D A (xw ad ca kf vf bf w op (nI (pw_n (pw_i kf ln9 b9 (pw_n sw (lN n9))) (lN (ln9 b9))).2) nx en ok ((pw_n (pw_i kf ln9 b9 (pw_n sw (lN n9))) (lN (ln9 b9))).1) nb ef ff fi ek ev) := hD
    refine xk_v (va_runV (As := [.long (pu_f ((kf (8 * b9)).toInt64))]) (rest := []) ⟨hx, hb, hml, hown, hts⟩ (cX2_appendNumber_m l dC dI ca ad kf vf bf w op nx en ok ((pw_n (pw_i kf ln9 b9 (pw_n sw (lN n9))) (lN (ln9 b9))).1) nb ef ff fi ek ev (pw_n (pw_i kf ln9 b9 (pw_n sw (lN n9))) (lN (ln9 b9))).2 (pu_f (kf (8 * b9)).toInt64) (by omega) _) (cwV 1 hts (xg_V mb_methodLink_RX3_185 mb_instanceMethod_yX2_appendNumber mb_selects_yX2_appendNumber mb_initialized_RX2 mb_code_yX2_appendNumber) rfl rfl rfl ⟨rfl, by decide, by decide, by decide +kernel⟩ ⟨Nat.le_of_ble_eq_true rfl, Nat.le_of_ble_eq_true rfl⟩) (xpreV (va_recv (q0 := 4) hK hP rfl rfl) hK hP hD hS hA hE) rfl rfl hl.1 rfl (lv_room (Nat.le_of_ble_eq_true rfl)) dX3_writeIndex_55 ⟨Nat.le_of_ble_eq_true rfl, Nat.le_of_ble_eq_true rfl⟩) hD hS hA (fun u H locs hu hP hD hS => ?_)
    have hP : va_P (dC, dI) vwCl (xw ad ca kf vf bf w op (nI (pw_i kf ln9 (b9 + 1) (pw_n sw (lN n9))).2) nx en ok ((pw_i kf ln9 (b9 + 1) (pw_n sw (lN n9))).1) nb ef ff fi ek ev) H := hP
    have hD : va_D A (xw ad ca kf vf bf w op (nI (pw_i kf ln9 (b9 + 1) (pw_n sw (lN n9))).2) nx en ok ((pw_i kf ln9 (b9 + 1) (pw_n sw (lN n9))).1) nb ef ff fi ek ev) := hD
    refine lv_iinc (k := 0) (v := nI (b9 + 1)) hx hb dX3_writeIndex_58 hl rfl (nI_1 b9) (by decide) rfl (fun ls hl => ?_)
    have hl : lv_has ls 4 [(3, .int (nI (b9 + 1))), (0, .ref (ad 0)), (1, .int (nI n9)), (2, .int (nI sw.2))] := hl
    refine lv_goto (tgt := 19) hx hb dX3_writeIndex_61 rfl ?_
    exact ih (b9 + 1) _ _ _ (by omega) hl hP hD hS kg

set_option maxHeartbeats 4000000 in
set_option maxRecDepth 100000 in
theorem cX3_writeIndex_m (l : Launch) (dC : Nat → ClassId) (dI : Nat → Nat → Nat) (ca : Nat → ClassId) (ad : Nat → Nat) (kf : Nat → Int32) (vf : Nat → Int64) (bf : Nat → Int32) (w : Int32) (op : Int32) (nx : Int32) (en : Int32) (ok : Int32) (nb : Int32) (ef : Nat → Int32) (ff : Nat → Int32) (fi : Int32) (ek : Int32) (ev : Int64) (n9 : Nat) (ln9 : Nat → Nat) (sw : pw_P) (hn : n9 ≤ 38) (hbf : ∀ j, j < n9 → bf j = nI (ln9 j)) (hln : ∀ j, ln9 j < 128) (hL : sw.2 + 1 + 6 * n9 + 8 ≤ 4889) : ∀ sz : Nat, Met l yX3_writeIndex wsX3_writeIndex ({ frames := 3, cells := 0, slots := 0, locals := 68 } : Room) (va_Pc [.ref (ad 0), .int (nI n9)] (xP (dC, dI) (xt ca) (xw ad ca kf vf bf w op (nI sw.2) nx en ok sw.1 nb ef ff fi ek ev) sz)) (va_Qv (S := Unit) (fun _ => True) (fun u t => xB (dC, dI) (xt ca) (va_A (xw ad ca kf vf bf w op (nI sw.2) nx en ok sw.1 nb ef ff fi ek ev) sz) (xw ad ca kf vf bf w op (nI (pw_ix kf ln9 n9 sw).2) nx en ok ((pw_ix kf ln9 n9 sw).1) nb ef ff fi ek ev) t) (va_A (xw ad ca kf vf bf w op (nI sw.2) nx en ok sw.1 nb ef ff fi ek ev) sz)) 0 0 (va_A (xw ad ca kf vf bf w op (nI sw.2) nx en ok sw.1 nb ef ff fi ek ev) sz) := by
  intro sz
  refine Met.ofW (cc := cX3_writeIndex) (maxL := 4) (ret := none) (by decide) rfl ?_
  intro p e s m args below meth c s₁ B hml hv
  obtain ⟨rfl, hsz, hP, hK, hD0, hE⟩ := hv
  have hx := B.exec
  have hb := B.bytes
  have hr := B.returns
  have hts := atoms_spec (ws := wsX3_writeIndex) B.pre
  have hown : s.vm.findClass RX3 = some m.cls := findClass_of_methodNamed B.named
  have hlocks := B.notSynchronized
  subst hsz
  have hD := hD0.self (sz := s.heap.size)
  generalize hAe : va_A (xw ad ca kf vf bf w op (nI sw.2) nx en ok sw.1 nb ef ff fi ek ev) s.heap.size = A at hD hE ⊢
  have hA : ∀ q : Nat, s.heap.size ≤ q → A q := fun q h => by rw [← hAe]; exact Or.inr h
  have hS : va_S A s.heap s.heap [] := va_S.rf
  have hl := lv_entry ([.ref (ad 0), .int (nI n9)]) (n := 4) (Nat.le_of_ble_eq_true rfl)
  rw [lg_entry_eq]
  generalize (lg_sl ([.ref (ad 0), .int (nI n9)]) ++ List.replicate (4 - (lg_sl ([.ref (ad 0), .int (nI n9)])).length) Slot.unset).toArray = ls at hl ⊢
  have hl : lv_has ls 4 [(0, .ref (ad 0)), (1, .int (nI n9))] := hl
  have u1 : pl_n 9 (lN n9).toBitVec.toNat = 1 := by rw [pz_lN (by omega)]; exact pl_n1 (by omega)
  have u2 : (pw_n sw (lN n9)).2 = sw.2 + pl_n 9 (lN n9).toBitVec.toNat := rfl
  refine lv_aload_n hx hb dX3_writeIndex_0 rfl (lv_at hl 0 rfl) ?_
  refine va_get (D := (dC, dI)) (ci := 3) (v := .ref (ad 4)) (C := RX3) (T := TX3) (N := 8) (ref := "SortedRun") hx hb hts (xg_u mb_uws_X3) hown hK hP 0 rfl rfl 3 (by decide) (xg_w hts mb_fieldLink_RX3_23) (fun _ h9 => h9) rfl dX3_writeIndex_1 ?_
  refine va_getN (host := "SortedRun") (D := (dC, dI)) (ci := 2) (v := .int (nI sw.2)) (C := RX2) (T := TX2) (N := 5) (ref := "SortedRun$Table") hx hb hts (xg_u mb_uws_X2) hown hK hP 4 rfl rfl 1 (by decide) (xn_w (w := .fieldLinkNest RX3 60 "SortedRun$Table" "length" "I" "SortedRun") (i := 32) hE rfl rfl rfl) (fun _ h9 => h9) rfl dX3_writeIndex_4 ?_
  refine lv_istore_n hx hb dX3_writeIndex_7 rfl hl (by decide) rfl (fun ls hl => ?_)
  have hl : lv_has ls 4 [(2, .int (nI sw.2)), (0, .ref (ad 0)), (1, .int (nI n9))] := hl
  refine lv_aload_n hx hb dX3_writeIndex_8 rfl (lv_at hl 1 rfl) ?_
  refine va_get (D := (dC, dI)) (ci := 3) (v := .ref (ad 4)) (C := RX3) (T := TX3) (N := 8) (ref := "SortedRun") hx hb hts (xg_u mb_uws_X3) hown hK hP 0 rfl rfl 3 (by decide) (xg_w hts mb_fieldLink_RX3_23) (fun _ h9 => h9) rfl dX3_writeIndex_9 ?_
  refine lv_iload_n hx hb dX3_writeIndex_12 rfl (lv_at hl 2 rfl) ?_
  refine lv_i2l (v := lN n9) hx hb dX3_writeIndex_13 (nI_l (by omega)) ?_
  refine xk_v (va_runV (As := [.long (lN n9)]) (rest := []) ⟨hx, hb, hml, hown, hts⟩ (cX2_appendNumber_m l dC dI ca ad kf vf bf w op nx en ok sw.1 nb ef ff fi ek ev sw.2 (lN n9) (by omega) _) (cwV 1 hts (xg_V mb_methodLink_RX3_185 mb_instanceMethod_yX2_appendNumber mb_selects_yX2_appendNumber mb_initialized_RX2 mb_code_yX2_appendNumber) rfl rfl rfl ⟨rfl, by decide, by decide, by decide +kernel⟩ ⟨Nat.le_of_ble_eq_true rfl, Nat.le_of_ble_eq_true rfl⟩) (xpreV (va_recv (q0 := 4) hK hP rfl rfl) hK hP hD hS hA hE) rfl rfl hl.1 rfl (lv_room (Nat.le_of_ble_eq_true rfl)) dX3_writeIndex_14 ⟨Nat.le_of_ble_eq_true rfl, Nat.le_of_ble_eq_true rfl⟩) hD hS hA (fun u H locs hu hP hD hS => ?_)
  have hP : va_P (dC, dI) vwCl (xw ad ca kf vf bf w op (nI (pw_n sw (lN n9)).2) nx en ok ((pw_n sw (lN n9)).1) nb ef ff fi ek ev) H := hP
  have hD : va_D A (xw ad ca kf vf bf w op (nI (pw_n sw (lN n9)).2) nx en ok ((pw_n sw (lN n9)).1) nb ef ff fi ek ev) := hD
  refine lv_iconst (v := nI 0) hx hb dX3_writeIndex_17 (by decide) ?_
  refine lv_istore_n hx hb dX3_writeIndex_18 rfl hl (by decide) rfl (fun ls hl => ?_)
  have hl : lv_has ls 4 [(3, .int (nI 0)), (2, .int (nI sw.2)), (0, .ref (ad 0)), (1, .int (nI n9))] := hl
  refine lpX3_writeIndex_go hx hb hml hown hts hK hA hE (n9 := n9) (ln9 := ln9) (sw := sw) hn hbf hln hL n9 0 _ _ _ (by omega) (lv_sub hl [0, 2, 3, 1] rfl) hP hD hS ?_
  intro H locs ls hl hP hD hS
  have u3 := pw_i_up (kf := kf) hln n9 (pw_n sw (lN n9))
  have u4 := pw_i_le kf ln9 n9 (pw_n sw (lN n9))
  refine lv_aload_n hx hb dX3_writeIndex_64 rfl (lv_at hl 0 rfl) ?_
  refine va_get (D := (dC, dI)) (ci := 3) (v := .ref (ad 4)) (C := RX3) (T := TX3) (N := 8) (ref := "SortedRun") hx hb hts (xg_u mb_uws_X3) hown hK hP 0 rfl rfl 3 (by decide) (xg_w hts mb_fieldLink_RX3_23) (fun _ h9 => h9) rfl dX3_writeIndex_65 ?_
  refine va_getN (host := "SortedRun") (D := (dC, dI)) (ci := 2) (v := .int (nI (pw_i kf ln9 n9 (pw_n sw (lN n9))).2)) (C := RX2) (T := TX2) (N := 5) (ref := "SortedRun$Table") hx hb hts (xg_u mb_uws_X2) hown hK hP 4 rfl rfl 1 (by decide) (xn_w (w := .fieldLinkNest RX3 60 "SortedRun$Table" "length" "I" "SortedRun") (i := 32) hE rfl rfl rfl) (fun _ h9 => h9) rfl dX3_writeIndex_68 ?_
  refine lv_iload_n hx hb dX3_writeIndex_71 rfl (lv_at hl 1 rfl) ?_
  refine lv_isub hx hb dX3_writeIndex_72 ?_
  refine lv_topi (fun z1 ez1 => ?_)
  have ez1 : z1 = nI ((pw_i kf ln9 n9 (pw_n sw (lN n9))).2 - sw.2) := ez1.trans (pk_sub (by omega))
  subst ez1
  refine lv_istore_n hx hb dX3_writeIndex_73 rfl hl (by decide) rfl (fun ls hl => ?_)
  have hl : lv_has ls 4 [(3, .int (nI ((pw_i kf ln9 n9 (pw_n sw (lN n9))).2 - sw.2))), (0, .ref (ad 0)), (2, .int (nI sw.2))] := hl
  refine lv_aload_n hx hb dX3_writeIndex_74 rfl (lv_at hl 1 rfl) ?_
  refine va_get (D := (dC, dI)) (ci := 3) (v := .ref (ad 4)) (C := RX3) (T := TX3) (N := 8) (ref := "SortedRun") hx hb hts (xg_u mb_uws_X3) hown hK hP 0 rfl rfl 3 (by decide) (xg_w hts mb_fieldLink_RX3_23) (fun _ h9 => h9) rfl dX3_writeIndex_75 ?_
  refine lv_iload_n hx hb dX3_writeIndex_78 rfl (lv_at hl 2 rfl) ?_
  refine xk_v (va_runV (As := [.int (nI sw.2)]) (rest := []) ⟨hx, hb, hml, hown, hts⟩ (cX2_appendSum_m l dC dI ca ad kf vf bf w op nx en ok ((pw_i kf ln9 n9 (pw_n sw (lN n9))).1) nb ef ff fi ek ev (pw_i kf ln9 n9 (pw_n sw (lN n9))).2 sw.2 (by omega) (by omega) _) (cwV 1 hts (xg_V mb_methodLink_RX3_189 mb_instanceMethod_yX2_appendSum mb_selects_yX2_appendSum mb_initialized_RX2 mb_code_yX2_appendSum) rfl rfl rfl ⟨rfl, by decide, by decide, by decide +kernel⟩ ⟨Nat.le_of_ble_eq_true rfl, Nat.le_of_ble_eq_true rfl⟩) (xpreV (va_recv (q0 := 4) hK hP rfl rfl) hK hP hD hS hA hE) rfl rfl hl.1 rfl (lv_room (Nat.le_of_ble_eq_true rfl)) dX3_writeIndex_79 ⟨Nat.le_of_ble_eq_true rfl, Nat.le_of_ble_eq_true rfl⟩) hD hS hA (fun u H locs hu hP hD hS => ?_)
  have hP : va_P (dC, dI) vwCl (xw ad ca kf vf bf w op (nI (pw_s (pw_i kf ln9 n9 (pw_n sw (lN n9))) sw.2).2) nx en ok ((pw_s (pw_i kf ln9 n9 (pw_n sw (lN n9))) sw.2).1) nb ef ff fi ek ev) H := hP
  have hD : va_D A (xw ad ca kf vf bf w op (nI (pw_s (pw_i kf ln9 n9 (pw_n sw (lN n9))) sw.2).2) nx en ok ((pw_s (pw_i kf ln9 n9 (pw_n sw (lN n9))) sw.2).1) nb ef ff fi ek ev) := hD
  have u5 : (pw_s (pw_i kf ln9 n9 (pw_n sw (lN n9))) sw.2).2 = (pw_i kf ln9 n9 (pw_n sw (lN n9))).2 + 4 := rfl
  refine lv_aload_n hx hb dX3_writeIndex_82 rfl (lv_at hl 1 rfl) ?_
  refine va_get (D := (dC, dI)) (ci := 3) (v := .ref (ad 4)) (C := RX3) (T := TX3) (N := 8) (ref := "SortedRun") hx hb hts (xg_u mb_uws_X3) hown hK hP 0 rfl rfl 3 (by decide) (xg_w hts mb_fieldLink_RX3_23) (fun _ h9 => h9) rfl dX3_writeIndex_83 ?_
  refine lv_iload_n hx hb dX3_writeIndex_86 rfl (lv_at hl 0 rfl) ?_
  refine xk_v (va_runV (As := [.int (nI ((pw_i kf ln9 n9 (pw_n sw (lN n9))).2 - sw.2))]) (rest := []) ⟨hx, hb, hml, hown, hts⟩ (cX2_appendFoot_m l dC dI ca ad kf vf bf w op nx en ok ((pw_s (pw_i kf ln9 n9 (pw_n sw (lN n9))) sw.2).1) nb ef ff fi ek ev (pw_s (pw_i kf ln9 n9 (pw_n sw (lN n9))) sw.2).2 ((pw_i kf ln9 n9 (pw_n sw (lN n9))).2 - sw.2) (by omega) (by omega) _) (cwV 1 hts (xg_V mb_methodLink_RX3_192 mb_instanceMethod_yX2_appendFoot mb_selects_yX2_appendFoot mb_initialized_RX2 mb_code_yX2_appendFoot) rfl rfl rfl ⟨rfl, by decide, by decide, by decide +kernel⟩ ⟨Nat.le_of_ble_eq_true rfl, Nat.le_of_ble_eq_true rfl⟩) (xpreV (va_recv (q0 := 4) hK hP rfl rfl) hK hP hD hS hA hE) rfl rfl hl.1 rfl (lv_room (Nat.le_of_ble_eq_true rfl)) dX3_writeIndex_87 ⟨Nat.le_of_ble_eq_true rfl, Nat.le_of_ble_eq_true rfl⟩) hD hS hA (fun u H locs hu hP hD hS => ?_)
  have hP : va_P (dC, dI) vwCl (xw ad ca kf vf bf w op (nI (pw_ix kf ln9 n9 sw).2) nx en ok ((pw_ix kf ln9 n9 sw).1) nb ef ff fi ek ev) H := hP
  have hD : va_D A (xw ad ca kf vf bf w op (nI (pw_ix kf ln9 n9 sw).2) nx en ok ((pw_ix kf ln9 n9 sw).1) nb ef ff fi ek ev) := hD
  have hP9 := hP
  have hD9 := hD
  exact W.vret hx hb hr (fun t ht hW => ⟨⟨(), rfl, trivial, by rw [ht]; exact hP9, va_K.moved hW.alike hK, hD9⟩, hS.F ht⟩) hS.2.2 dX3_writeIndex_90

set_option maxHeartbeats 4000000 in
set_option maxRecDepth 100000 in
theorem lpX3_writeTable_go {p : Program} {l : Launch} {e : Env} {s : State} {m : MethodId} {args : Array Value} {below : List Frame} {meth : Method} {c : Code} {Q : State → Prop} {A : Nat → Prop} {dC : Nat → ClassId} {dI : Nat → Nat → Nat} {ca : Nat → ClassId} {ad : Nat → Nat} (hx : p.tables.exec = Jvm.exec) (hb : c.code = cX3_writeTable) (hml : c.maxLocals = 3) (hown : s.vm.findClass RX3 = some m.cls) (hts : ∀ w ∈ wsX3_writeTable, w.before args s = true) (hK : va_K (dC, dI) vwCl (xt ca) s) (hA : ∀ q : Nat, s.heap.size ≤ q → A q) (hE : xn_E A s) {kf : Nat → Int32} {vf : Nat → Int64} {op : Int32} {nx : Int32} {en : Int32} {ok : Int32} {nb : Int32} {ef : Nat → Int32} {ff : Nat → Int32} {fi : Int32} {ek : Int32} {ev : Int64} {w9 : Nat} {t0 : Nat → Int32} (hw : w9 ≤ 300) (hup : pw_up kf w9) : ∀ (k : Nat) (b9 : Nat) (bf : Nat → Int32) (H : Heap) (locs : List Loc) (ls : Array Slot), b9 + k = (w9 + 7) / 8 → (∀ j, j < b9 → bf j = nI (pw_len kf vf w9 (t0, 0) j)) → lv_has ls 3 [(1, .int (nI b9)), (0, .ref (ad 0)), (2, .int (nI (8 * b9)))] → va_P (dC, dI) vwCl (xw ad ca kf vf bf (nI w9) op (nI (pw_bs kf vf w9 b9 (t0, 0)).2) nx en ok ((pw_bs kf vf w9 b9 (t0, 0)).1) nb ef ff fi ek ev) H → va_D A (xw ad ca kf vf bf (nI w9) op (nI (pw_bs kf vf w9 b9 (t0, 0)).2) nx en ok ((pw_bs kf vf w9 b9 (t0, 0)).1) nb ef ff fi ek ev) → va_S A s.heap H locs → (∀ bf : Nat → Int32, (∀ j, j < (w9 + 7) / 8 → bf j = nI (pw_len kf vf w9 (t0, 0) j)) → ∀ (H : Heap) (locs : List Loc) (ls : Array Slot), lv_has ls 3 [(0, .ref (ad 0)), (1, .int (nI ((w9 + 7) / 8)))] → va_P (dC, dI) vwCl (xw ad ca kf vf bf (nI w9) op (nI (pw_bs kf vf w9 ((w9 + 7) / 8) (t0, 0)).2) nx en ok ((pw_bs kf vf w9 ((w9 + 7) / 8) (t0, 0)).1) nb ef ff fi ek ev) H → va_D A (xw ad ca kf vf bf (nI w9) op (nI (pw_bs kf vf w9 ((w9 + 7) / 8) (t0, 0)).2) nx en ok ((pw_bs kf vf w9 ((w9 + 7) / 8) (t0, 0)).1) nb ef ff fi ek ev) → va_S A s.heap H locs → W p l e ({ frames := 4, cells := 0, slots := 0, locals := 92 } : Room) s m args below meth c H locs 0 0 Q (F0 m 45 ls [])) → W p l e ({ frames := 4, cells := 0, slots := 0, locals := 92 } : Room) s m args below meth c H locs 0 0 Q (F0 m 17 ls []) := by
  intro k
  induction k with
  | zero =>
    intro b9 bf H locs ls hm hbf hl hP hD hS kg
    have hl : lv_has ls 3 [(1, .int (nI b9)), (0, .ref (ad 0)), (2, .int (nI (8 * b9)))] := hl
    obtain rfl : b9 = (w9 + 7) / 8 := by omega
    refine lv_iload_n hx hb dX3_writeTable_17 rfl (lv_at hl 2 rfl) ?_
    refine lv_aload_n hx hb dX3_writeTable_18 rfl (lv_at hl 1 rfl) ?_
    refine va_get (D := (dC, dI)) (ci := 3) (v := .int (nI w9)) (C := RX3) (T := TX3) (N := 8) (ref := "SortedRun") hx hb hts (xg_u mb_uws_X3) hown hK hP 0 rfl rfl 6 (by decide) (xg_w hts mb_fieldLink_RX3_44) (fun _ h9 => h9) rfl dX3_writeTable_19 ?_
    refine lv_icmp_ge (tgt := 45) hx hb dX3_writeTable_22 rfl (fun hc => ?_) (fun hc => absurd hc (not_not_intro (nI_le (by omega) (by omega))))
    exact kg bf hbf H locs ls (lv_sub hl [1, 0] rfl) hP hD hS
  | succ k ih =>
    intro b9 bf H locs ls hm hbf hl hP hD hS kg
    have hl : lv_has ls 3 [(1, .int (nI b9)), (0, .ref (ad 0)), (2, .int (nI (8 * b9)))] := hl
    refine lv_iload_n hx hb dX3_writeTable_17 rfl (lv_at hl 2 rfl) ?_
    refine lv_aload_n hx hb dX3_writeTable_18 rfl (lv_at hl 1 rfl) ?_
    refine va_get (D := (dC, dI)) (ci := 3) (v := .int (nI w9)) (C := RX3) (T := TX3) (N := 8) (ref := "SortedRun") hx hb hts (xg_u mb_uws_X3) hown hK hP 0 rfl rfl 6 (by decide) (xg_w hts mb_fieldLink_RX3_44) (fun _ h9 => h9) rfl dX3_writeTable_19 ?_
    refine lv_icmp_ge (tgt := 45) hx hb dX3_writeTable_22 rfl (fun hc => absurd hc (by rw [nI_leI (by omega) (by omega)]; omega)) (fun hc => ?_)
    have u1 := pw_bs_up (vf := vf) hup (t0, 0) b9 (by omega)
    simp only [Nat.zero_add] at u1
    refine lv_aload_n hx hb dX3_writeTable_25 rfl (lv_at hl 1 rfl) ?_
    refine va_get (D := (dC, dI)) (ci := 3) (v := .ref (ad 3)) (C := RX3) (T := TX3) (N := 8) (ref := "SortedRun") hx hb hts (xg_u mb_uws_X3) hown hK hP 0 rfl rfl 2 (by decide) (xg_w hts mb_fieldLink_RX3_17) (fun _ h9 => h9) rfl dX3_writeTable_26 ?_
    refine lv_iload_n hx hb dX3_writeTable_29 rfl (lv_at hl 0 rfl) ?_
    refine lv_aload_n hx hb dX3_writeTable_30 rfl (lv_at hl 1 rfl) ?_
    refine lv_iload_n hx hb dX3_writeTable_31 rfl (lv_at hl 2 rfl) ?_
    refine xk_i (va_runV (As := [.int (nI (8 * b9))]) (rest := [.int (nI b9), .ref (ad 3)]) ⟨hx, hb, hml, hown, hts⟩ (cX3_writeBlock_m l dC dI ca ad kf vf bf op nx en ok nb ef ff fi ek ev (8 * b9) w9 (pw_bs kf vf w9 b9 (t0, 0)) hw hup (by omega) (by omega) _) (cwV 1 hts (xg_V mb_methodLink_RX3_169 mb_instanceMethod_yX3_writeBlock mb_selects_yX3_writeBlock mb_initialized_RX3 mb_code_yX3_writeBlock) rfl rfl rfl ⟨rfl, by decide, by decide, by decide +kernel⟩ ⟨Nat.le_of_ble_eq_true rfl, Nat.le_of_ble_eq_true rfl⟩) (xpreV (va_recv (q0 := 0) hK hP rfl rfl) hK hP hD hS hA hE) rfl rfl hl.1 rfl (lv_room (Nat.le_of_ble_eq_true rfl)) dX3_writeTable_32 ⟨Nat.le_of_ble_eq_true rfl, Nat.le_of_ble_eq_true rfl⟩) hD hS hA (fun r u H locs hu hP hD hS => ?_)
    subst hu
    have hP : va_P (dC, dI) vwCl (xw ad ca kf vf bf (nI w9) op (nI (pw_bs kf vf w9 (b9 + 1) (t0, 0)).2) nx en ok ((pw_bs kf vf w9 (b9 + 1) (t0, 0)).1) nb ef ff fi ek ev) H := hP
    have hD : va_D A (xw ad ca kf vf bf (nI w9) op (nI (pw_bs kf vf w9 (b9 + 1) (t0, 0)).2) nx en ok ((pw_bs kf vf w9 (b9 + 1) (t0, 0)).1) nb ef ff fi ek ev) := hD
    refine lv_topi (fun z1 ez1 => ?_)
    have ez1 : z1 = nI (pw_len kf vf w9 (t0, 0) b9) := ez1.trans (rfl)
    subst ez1
    refine va_iast hx hb hK hP hD hS 3 3 rfl rfl (vp_in_nI (by omega) (by decide)) dX3_writeTable_35 (fun H locs hP hD hS => ?_)
    have e9 : upd bf (nI b9).toNatClampNeg (nI (pw_len kf vf w9 (t0, 0) b9)) = upd bf b9 (nI (pw_len kf vf w9 (t0, 0) b9)) := by rw [nI_clamp (by omega)]
    rw [e9] at hP hD
    clear e9
    have hP : va_P (dC, dI) vwCl (xw ad ca kf vf (upd bf b9 (nI (pw_len kf vf w9 (t0, 0) b9))) (nI w9) op (nI (pw_bs kf vf w9 (b9 + 1) (t0, 0)).2) nx en ok ((pw_bs kf vf w9 (b9 + 1) (t0, 0)).1) nb ef ff fi ek ev) H := hP
    have hD : va_D A (xw ad ca kf vf (upd bf b9 (nI (pw_len kf vf w9 (t0, 0) b9))) (nI w9) op (nI (pw_bs kf vf w9 (b9 + 1) (t0, 0)).2) nx en ok ((pw_bs kf vf w9 (b9 + 1) (t0, 0)).1) nb ef ff fi ek ev) := hD
    refine lv_iinc (k := 0) (v := nI (b9 + 1)) hx hb dX3_writeTable_36 hl rfl (nI_1 b9) (by decide) rfl (fun ls hl => ?_)
    have hl : lv_has ls 3 [(1, .int (nI (b9 + 1))), (0, .ref (ad 0)), (2, .int (nI (8 * b9)))] := hl
    refine lv_iinc (k := 2) (v := nI (8 * (b9 + 1))) hx hb dX3_writeTable_39 hl rfl (nI_add (8 * b9) 8) (by decide) rfl (fun ls hl => ?_)
    have hl : lv_has ls 3 [(2, .int (nI (8 * (b9 + 1)))), (1, .int (nI (b9 + 1))), (0, .ref (ad 0))] := hl
    refine lv_goto (tgt := 17) hx hb dX3_writeTable_42 rfl ?_
    refine ih (b9 + 1) _ _ _ _ (by omega) (fun j hj => ?_) (lv_sub hl [1, 2, 0] rfl) hP hD hS kg
    by_cases hjb : j = b9
    · subst hjb; exact pk_us
    · rw [pk_un hjb]; exact hbf j (by omega)

set_option maxHeartbeats 4000000 in
set_option maxRecDepth 100000 in
theorem cX3_writeTable_m (l : Launch) (dC : Nat → ClassId) (dI : Nat → Nat → Nat) (ca : Nat → ClassId) (ad : Nat → Nat) (kf : Nat → Int32) (vf : Nat → Int64) (bf : Nat → Int32) (op : Int32) (ln : Int32) (nx : Int32) (en : Int32) (ok : Int32) (tf : Nat → Int32) (nb : Int32) (ef : Nat → Int32) (ff : Nat → Int32) (fi : Int32) (ek : Int32) (ev : Int64) (w9 : Nat) (hw : w9 ≤ 300) (hup : pw_up kf w9) : ∀ sz : Nat, Met l yX3_writeTable wsX3_writeTable ({ frames := 4, cells := 0, slots := 0, locals := 92 } : Room) (va_Pc [.ref (ad 0)] (xP (dC, dI) (xt ca) (xw ad ca kf vf bf (nI w9) op ln nx en ok tf nb ef ff fi ek ev) sz)) (va_Qv (S := Nat → Int32) (fun _ => True) (fun u t => xB (dC, dI) (xt ca) (va_A (xw ad ca kf vf bf (nI w9) op ln nx en ok tf nb ef ff fi ek ev) sz) (xw ad ca kf vf u 0 0 (nI (pw_all kf vf w9 tf).2) nx en ok ((pw_all kf vf w9 tf).1) nb ef ff fi ek ev) t) (va_A (xw ad ca kf vf bf (nI w9) op ln nx en ok tf nb ef ff fi ek ev) sz)) 0 0 (va_A (xw ad ca kf vf bf (nI w9) op ln nx en ok tf nb ef ff fi ek ev) sz) := by
  intro sz
  refine Met.ofW (cc := cX3_writeTable) (maxL := 3) (ret := none) (by decide) rfl ?_
  intro p e s m args below meth c s₁ B hml hv
  obtain ⟨rfl, hsz, hP, hK, hD0, hE⟩ := hv
  have hx := B.exec
  have hb := B.bytes
  have hr := B.returns
  have hts := atoms_spec (ws := wsX3_writeTable) B.pre
  have hown : s.vm.findClass RX3 = some m.cls := findClass_of_methodNamed B.named
  have hlocks := B.notSynchronized
  subst hsz
  have hD := hD0.self (sz := s.heap.size)
  generalize hAe : va_A (xw ad ca kf vf bf (nI w9) op ln nx en ok tf nb ef ff fi ek ev) s.heap.size = A at hD hE ⊢
  have hA : ∀ q : Nat, s.heap.size ≤ q → A q := fun q h => by rw [← hAe]; exact Or.inr h
  have hS : va_S A s.heap s.heap [] := va_S.rf
  have hl := lv_entry ([.ref (ad 0)]) (n := 3) (Nat.le_of_ble_eq_true rfl)
  rw [lg_entry_eq]
  generalize (lg_sl ([.ref (ad 0)]) ++ List.replicate (3 - (lg_sl ([.ref (ad 0)])).length) Slot.unset).toArray = ls at hl ⊢
  have hl : lv_has ls 3 [(0, .ref (ad 0))] := hl
  refine lv_aload_n hx hb dX3_writeTable_0 rfl (lv_at hl 0 rfl) ?_
  refine lv_iconst (v := 0) hx hb dX3_writeTable_1 (by decide) ?_
  refine va_put (D := (dC, dI)) (ci := 3) (v := .int 0) (ty := .boolean) (C := RX3) (T := TX3) (N := 8) (ref := "SortedRun") hx hb hts (xg_u mb_uws_X3) tyX3 tyX3_ok nmX3 hown hK hP hD hS 0 rfl rfl 7 (by decide) (xg_w hts mb_fieldLink_RX3_75) (fun _ h9 => h9) rfl (by decide +kernel) rfl rfl (Nat.le_of_ble_eq_true rfl) dX3_writeTable_2 (fun H locs hP hD hS => ?_)
  have hP : va_P (dC, dI) vwCl (xw ad ca kf vf bf (nI w9) 0 ln nx en ok tf nb ef ff fi ek ev) H := hP
  have hD : va_D A (xw ad ca kf vf bf (nI w9) 0 ln nx en ok tf nb ef ff fi ek ev) := hD
  refine lv_aload_n hx hb dX3_writeTable_5 rfl (lv_at hl 0 rfl) ?_
  refine va_get (D := (dC, dI)) (ci := 3) (v := .ref (ad 4)) (C := RX3) (T := TX3) (N := 8) (ref := "SortedRun") hx hb hts (xg_u mb_uws_X3) hown hK hP 0 rfl rfl 3 (by decide) (xg_w hts mb_fieldLink_RX3_23) (fun _ h9 => h9) rfl dX3_writeTable_6 ?_
  refine lv_iconst (v := nI 0) hx hb dX3_writeTable_9 (by decide) ?_
  refine va_putN (host := "SortedRun") (D := (dC, dI)) (ci := 2) (v := .int (nI 0)) (ty := .int) (C := RX2) (T := TX2) (N := 5) (ref := "SortedRun$Table") hx hb hts (xg_u mb_uws_X2) tyX2 tyX2_ok nmX2 hown hK hP hD hS 4 rfl rfl 1 (by decide) (xn_w (w := .fieldLinkNest RX3 60 "SortedRun$Table" "length" "I" "SortedRun") (i := 32) hE rfl rfl rfl) (fun _ h9 => h9) rfl (by decide +kernel) rfl rfl (Nat.le_of_ble_eq_true rfl) dX3_writeTable_10 (fun H locs hP hD hS => ?_)
  have hP : va_P (dC, dI) vwCl (xw ad ca kf vf bf (nI w9) 0 (nI 0) nx en ok tf nb ef ff fi ek ev) H := hP
  have hD : va_D A (xw ad ca kf vf bf (nI w9) 0 (nI 0) nx en ok tf nb ef ff fi ek ev) := hD
  refine lv_iconst (v := nI 0) hx hb dX3_writeTable_13 (by decide) ?_
  refine lv_istore_n hx hb dX3_writeTable_14 rfl hl (by decide) rfl (fun ls hl => ?_)
  have hl : lv_has ls 3 [(1, .int (nI 0)), (0, .ref (ad 0))] := hl
  refine lv_iconst (v := nI 0) hx hb dX3_writeTable_15 (by decide) ?_
  refine lv_istore_n hx hb dX3_writeTable_16 rfl hl (by decide) rfl (fun ls hl => ?_)
  have hl : lv_has ls 3 [(2, .int (nI 0)), (1, .int (nI 0)), (0, .ref (ad 0))] := hl
  refine lpX3_writeTable_go hx hb hml hown hts hK hA hE (w9 := w9) (t0 := tf) hw hup ((w9 + 7) / 8) 0 bf _ _ _ (by omega) (fun j hj => absurd hj (Nat.not_lt_zero j)) (lv_sub hl [1, 2, 0] rfl) hP hD hS ?_
  intro bg hbg H locs ls hl hP hD hS
  have u1 := pw_bs_up (vf := vf) hup (tf, 0) ((w9 + 7) / 8) (by omega)
  simp only [Nat.zero_add] at u1
  refine lv_aload_n hx hb dX3_writeTable_45 rfl (lv_at hl 0 rfl) ?_
  refine lv_iload_n hx hb dX3_writeTable_46 rfl (lv_at hl 1 rfl) ?_
  refine xk_v (va_runV (As := [.int (nI ((w9 + 7) / 8))]) (rest := []) ⟨hx, hb, hml, hown, hts⟩ (cX3_writeIndex_m l dC dI ca ad kf vf bg (nI w9) 0 nx en ok nb ef ff fi ek ev ((w9 + 7) / 8) (pw_len kf vf w9 (tf, 0)) (pw_bs kf vf w9 ((w9 + 7) / 8) (tf, 0)) (by omega) hbg (pw_len_128 hup (tf, 0)) (by omega) _) (cwV 1 hts (xg_V mb_methodLink_RX3_172 mb_instanceMethod_yX3_writeIndex mb_selects_yX3_writeIndex mb_initialized_RX3 mb_code_yX3_writeIndex) rfl rfl rfl ⟨rfl, by decide, by decide, by decide +kernel⟩ ⟨Nat.le_of_ble_eq_true rfl, Nat.le_of_ble_eq_true rfl⟩) (xpreV (va_recv (q0 := 0) hK hP rfl rfl) hK hP hD hS hA hE) rfl rfl hl.1 rfl (lv_room (Nat.le_of_ble_eq_true rfl)) dX3_writeTable_47 ⟨Nat.le_of_ble_eq_true rfl, Nat.le_of_ble_eq_true rfl⟩) hD hS hA (fun u H locs hu hP hD hS => ?_)
  have hP : va_P (dC, dI) vwCl (xw ad ca kf vf bg (nI w9) 0 (nI (pw_all kf vf w9 tf).2) nx en ok ((pw_all kf vf w9 tf).1) nb ef ff fi ek ev) H := hP
  have hD : va_D A (xw ad ca kf vf bg (nI w9) 0 (nI (pw_all kf vf w9 tf).2) nx en ok ((pw_all kf vf w9 tf).1) nb ef ff fi ek ev) := hD
  refine lv_aload_n hx hb dX3_writeTable_50 rfl (lv_at hl 0 rfl) ?_
  refine lv_iconst (v := 0) hx hb dX3_writeTable_51 (by decide) ?_
  refine va_put (D := (dC, dI)) (ci := 3) (v := .int 0) (ty := .int) (C := RX3) (T := TX3) (N := 8) (ref := "SortedRun") hx hb hts (xg_u mb_uws_X3) tyX3 tyX3_ok nmX3 hown hK hP hD hS 0 rfl rfl 6 (by decide) (xg_w hts mb_fieldLink_RX3_44) (fun _ h9 => h9) rfl (by decide +kernel) rfl rfl (Nat.le_of_ble_eq_true rfl) dX3_writeTable_52 (fun H locs hP hD hS => ?_)
  have hP : va_P (dC, dI) vwCl (xw ad ca kf vf bg 0 0 (nI (pw_all kf vf w9 tf).2) nx en ok ((pw_all kf vf w9 tf).1) nb ef ff fi ek ev) H := hP
  have hD : va_D A (xw ad ca kf vf bg 0 0 (nI (pw_all kf vf w9 tf).2) nx en ok ((pw_all kf vf w9 tf).1) nb ef ff fi ek ev) := hD
  have hP9 := hP
  have hD9 := hD
  exact W.vret hx hb hr (fun t ht hW => ⟨⟨bg, rfl, trivial, by rw [ht]; exact hP9, va_K.moved hW.alike hK, hD9⟩, hS.F ht⟩) hS.2.2 dX3_writeTable_55

set_option maxHeartbeats 4000000 in
set_option maxRecDepth 100000 in
theorem cX3_write_m (l : Launch) (dC : Nat → ClassId) (dI : Nat → Nat → Nat) (ca : Nat → ClassId) (ad : Nat → Nat) (kf : Nat → Int32) (vf : Nat → Int64) (bf : Nat → Int32) (op : Int32) (ln : Int32) (nx : Int32) (en : Int32) (ok : Int32) (tf : Nat → Int32) (nb : Int32) (ef : Nat → Int32) (ff : Nat → Int32) (fi : Int32) (ek : Int32) (ev : Int64) (w9 : Nat) (hw : w9 ≤ 300) (hup : pw_up kf w9) : ∀ sz : Nat, Met l yX3_write wsX3_write ({ frames := 5, cells := 0, slots := 0, locals := 114 } : Room) (va_Pc [.ref (ad 0)] (xP (dC, dI) (xt ca) (xw ad ca kf vf bf (nI w9) op ln nx en ok tf nb ef ff fi ek ev) sz)) (va_Qi (S := Nat → Int32) (fun r _ => r = nI (pw_all kf vf w9 tf).2) (fun u t => xB (dC, dI) (xt ca) (va_A (xw ad ca kf vf bf (nI w9) op ln nx en ok tf nb ef ff fi ek ev) sz) (xw ad ca kf vf u 0 0 (nI (pw_all kf vf w9 tf).2) nx en ok ((pw_all kf vf w9 tf).1) nb ef ff fi ek ev) t) (va_A (xw ad ca kf vf bf (nI w9) op ln nx en ok tf nb ef ff fi ek ev) sz)) 0 0 (va_A (xw ad ca kf vf bf (nI w9) op ln nx en ok tf nb ef ff fi ek ev) sz) := by
  intro sz
  refine Met.ofW (cc := cX3_write) (maxL := 1) (ret := (some .int)) (by decide) rfl ?_
  intro p e s m args below meth c s₁ B hml hv
  obtain ⟨rfl, hsz, hP, hK, hD0, hE⟩ := hv
  have hx := B.exec
  have hb := B.bytes
  have hr := B.returns
  have hts := atoms_spec (ws := wsX3_write) B.pre
  have hown : s.vm.findClass RX3 = some m.cls := findClass_of_methodNamed B.named
  have hlocks := B.notSynchronized
  subst hsz
  have hD := hD0.self (sz := s.heap.size)
  generalize hAe : va_A (xw ad ca kf vf bf (nI w9) op ln nx en ok tf nb ef ff fi ek ev) s.heap.size = A at hD hE ⊢
  have hA : ∀ q : Nat, s.heap.size ≤ q → A q := fun q h => by rw [← hAe]; exact Or.inr h
  have hS : va_S A s.heap s.heap [] := va_S.rf
  have hl := lv_entry ([.ref (ad 0)]) (n := 1) (Nat.le_of_ble_eq_true rfl)
  rw [lg_entry_eq]
  generalize (lg_sl ([.ref (ad 0)]) ++ List.replicate (1 - (lg_sl ([.ref (ad 0)])).length) Slot.unset).toArray = ls at hl ⊢
  have hl : lv_has ls 1 [(0, .ref (ad 0))] := hl
  refine lv_aload_n hx hb dX3_write_0 rfl (lv_at hl 0 rfl) ?_
  refine xk_v (va_runV (As := []) (rest := []) ⟨hx, hb, hml, hown, hts⟩ (cX3_writeTable_m l dC dI ca ad kf vf bf op ln nx en ok tf nb ef ff fi ek ev w9 hw hup _) (cwV 0 hts (xg_V mb_methodLink_RX3_41 mb_instanceMethod_yX3_writeTable mb_selects_yX3_writeTable mb_initialized_RX3 mb_code_yX3_writeTable) rfl rfl rfl ⟨rfl, by decide, by decide, by decide +kernel⟩ ⟨Nat.le_of_ble_eq_true rfl, Nat.le_of_ble_eq_true rfl⟩) (xpreV (va_recv (q0 := 0) hK hP rfl rfl) hK hP hD hS hA hE) rfl rfl hl.1 rfl (lv_room (Nat.le_of_ble_eq_true rfl)) dX3_write_1 ⟨Nat.le_of_ble_eq_true rfl, Nat.le_of_ble_eq_true rfl⟩) hD hS hA (fun u H locs hu hP hD hS => ?_)
  have hP : va_P (dC, dI) vwCl (xw ad ca kf vf u 0 0 (nI (pw_all kf vf w9 tf).2) nx en ok ((pw_all kf vf w9 tf).1) nb ef ff fi ek ev) H := hP
  have hD : va_D A (xw ad ca kf vf u 0 0 (nI (pw_all kf vf w9 tf).2) nx en ok ((pw_all kf vf w9 tf).1) nb ef ff fi ek ev) := hD
  refine lv_aload_n hx hb dX3_write_4 rfl (lv_at hl 0 rfl) ?_
  refine va_get (D := (dC, dI)) (ci := 3) (v := .ref (ad 4)) (C := RX3) (T := TX3) (N := 8) (ref := "SortedRun") hx hb hts (xg_u mb_uws_X3) hown hK hP 0 rfl rfl 3 (by decide) (xg_w hts mb_fieldLink_RX3_23) (fun _ h9 => h9) rfl dX3_write_5 ?_
  refine va_getN (host := "SortedRun") (D := (dC, dI)) (ci := 2) (v := .int (nI (pw_all kf vf w9 tf).2)) (C := RX2) (T := TX2) (N := 5) (ref := "SortedRun$Table") hx hb hts (xg_u mb_uws_X2) hown hK hP 4 rfl rfl 1 (by decide) (xn_w (w := .fieldLinkNest RX3 60 "SortedRun$Table" "length" "I" "SortedRun") (i := 32) hE rfl rfl rfl) (fun _ h9 => h9) rfl dX3_write_8 ?_
  have hP9 := hP
  have hD9 := hD
  exact W.iret (v := nI (pw_all kf vf w9 tf).2) hx hb hr (fun t ht hW => ⟨⟨nI (pw_all kf vf w9 tf).2, u, rfl, rfl, by rw [ht]; exact hP9, va_K.moved hW.alike hK, hD9⟩, hS.F ht⟩) hS.2.2 dX3_write_11
