/-! SortedRunModel: read (rows by wip/whole/wmod2.py) -/
set_option maxHeartbeats 4000000 in
set_option maxRecDepth 100000 in
theorem lpX4_read_bad {p : Program} {l : Launch} {e : Env} {s : State} {m : MethodId} {args : Array Value} {below : List Frame} {meth : Method} {c : Code} {Q : State → Prop} {A : Nat → Prop} {dC : Nat → ClassId} {dI : Nat → Nat → Nat} {ca : Nat → ClassId} {ad : Nat → Nat} (hx : p.tables.exec = Jvm.exec) (hb : c.code = cX4_read) (hml : c.maxLocals = 6) (hown : s.vm.findClass RX4 = some m.cls) (hts : ∀ w ∈ wsX4_read, w.before args s = true) (hK : va_K (dC, dI) vwCl (xt ca) s) (hA : ∀ q : Nat, s.heap.size ≤ q → A q) (hE : xn_E A s) {kf : Nat → Int32} {vf : Nat → Int64} {tf : Nat → Int32} {fr : Nat → Int32} {sf : Nat → Int32} {fi : Nat → Int32} {bk : Nat → Int32} {bv : Nat → Int64} {w : Int32} {ny : Int32} {nb : Int32} {mn : Int32} {th : Int32} {op : Int32} {e9 : Nat} (he9 : e9 ≤ 6000) (hf : pb_fit tf) : ∀ (k : Nat) (a sh : Nat) (v : Int64) (wr : Int32) (H : Heap) (locs : List Loc) (ls : Array Slot), a + k = e9 → (wr = 1 ∨ 63 < sh) → sh + 7 * k < 2 ^ 30 → lv_has ls 6 [(3, .int (nI sh)), (1, .long v), (0, .ref (ad 0))] → va_P (dC, dI) vwCl (xm ad ca kf vf tf fr sf fi bk bv w ny nb mn (nI a) (nI e9) th op wr) H → va_D A (xm ad ca kf vf tf fr sf fi bk bv w ny nb mn (nI a) (nI e9) th op wr) → va_S A s.heap H locs → (∀ (r : Int64) (a1 : Nat), a ≤ a1 → a1 ≤ e9 → ∀ (H : Heap) (locs : List Loc) (ls : Array Slot), lv_has ls 6 [] → va_P (dC, dI) vwCl (xm ad ca kf vf tf fr sf fi bk bv w ny nb mn (nI a1) (nI e9) th op 1) H → va_D A (xm ad ca kf vf tf fr sf fi bk bv w ny nb mn (nI a1) (nI e9) th op 1) → va_S A s.heap H locs → W p l e ({ frames := 0, cells := 0, slots := 0, locals := 0 } : Room) s m args below meth c H locs 0 0 Q (F0 m 21 ls [.long r])) → (∀ (r : Int64) (a1 : Nat), a ≤ a1 → a1 ≤ e9 → ∀ (H : Heap) (locs : List Loc) (ls : Array Slot), lv_has ls 6 [] → va_P (dC, dI) vwCl (xm ad ca kf vf tf fr sf fi bk bv w ny nb mn (nI a1) (nI e9) th op 1) H → va_D A (xm ad ca kf vf tf fr sf fi bk bv w ny nb mn (nI a1) (nI e9) th op 1) → va_S A s.heap H locs → W p l e ({ frames := 0, cells := 0, slots := 0, locals := 0 } : Room) s m args below meth c H locs 0 0 Q (F0 m 99 ls [.long r])) → W p l e ({ frames := 0, cells := 0, slots := 0, locals := 0 } : Room) s m args below meth c H locs 0 0 Q (F0 m 4 ls []) := by
  intro k
  induction k with
  | zero =>
    intro a sh v wr H locs ls hk hw hs hl hP hD hS kq kr
    have hl : lv_has ls 6 [(3, .int (nI sh)), (1, .long v), (0, .ref (ad 0))] := hl
    have hae : a = e9 := by omega
    refine lv_aload_n hx hb dX4_read_4 rfl (lv_at hl 2 rfl) ?_
    refine va_get (D := (dC, dI)) (ci := 4) (v := .int (nI a)) (C := RX4) (T := TX4) (N := 17) (ref := "SortedRunModel") hx hb hts (xg_u mb_uws_X4) hown hK hP 0 rfl rfl 12 (by decide) (xg_w hts mb_fieldLink_RX4_78) (fun _ h9 => h9) rfl dX4_read_5 ?_
    refine lv_aload_n hx hb dX4_read_8 rfl (lv_at hl 2 rfl) ?_
    refine va_get (D := (dC, dI)) (ci := 4) (v := .int (nI e9)) (C := RX4) (T := TX4) (N := 17) (ref := "SortedRunModel") hx hb hts (xg_u mb_uws_X4) hown hK hP 0 rfl rfl 13 (by decide) (xg_w hts mb_fieldLink_RX4_81) (fun _ h9 => h9) rfl dX4_read_9 ?_
    refine lv_icmp_ne (tgt := 22) hx hb dX4_read_12 rfl (fun hc => absurd hc (not_not_intro (congrArg nI hae))) (fun hc => ?_)
    refine lv_aload_n hx hb dX4_read_15 rfl (lv_at hl 2 rfl) ?_
    refine lv_iconst (v := 1) hx hb dX4_read_16 (by decide) ?_
    refine va_put (D := (dC, dI)) (ci := 4) (v := .int 1) (ty := .boolean) (C := RX4) (T := TX4) (N := 17) (ref := "SortedRunModel") hx hb hts (xg_u mb_uws_X4) tyX4 tyX4_ok nmX4 hown hK hP hD hS 0 rfl rfl 16 (by decide) (xg_w hts mb_fieldLink_RX4_84) (fun _ h9 => h9) rfl (by decide +kernel) rfl rfl (Nat.le_of_ble_eq_true rfl) dX4_read_17 (fun H locs hP hD hS => ?_)
    have hP : va_P (dC, dI) vwCl (xm ad ca kf vf tf fr sf fi bk bv w ny nb mn (nI a) (nI e9) th op 1) H := hP
    have hD : va_D A (xm ad ca kf vf tf fr sf fi bk bv w ny nb mn (nI a) (nI e9) th op 1) := hD
    refine lv_lconst (v := 0) hx hb dX4_read_20 (by decide) ?_
    exact kq 0 a (Nat.le_refl _) (by omega) H locs ls (lv_sub hl [] rfl) hP hD hS
  | succ k ih =>
    intro a sh v wr H locs ls hk hw hs hl hP hD hS kq kr
    have hl : lv_has ls 6 [(3, .int (nI sh)), (1, .long v), (0, .ref (ad 0))] := hl
    refine lv_aload_n hx hb dX4_read_4 rfl (lv_at hl 2 rfl) ?_
    refine va_get (D := (dC, dI)) (ci := 4) (v := .int (nI a)) (C := RX4) (T := TX4) (N := 17) (ref := "SortedRunModel") hx hb hts (xg_u mb_uws_X4) hown hK hP 0 rfl rfl 12 (by decide) (xg_w hts mb_fieldLink_RX4_78) (fun _ h9 => h9) rfl dX4_read_5 ?_
    refine lv_aload_n hx hb dX4_read_8 rfl (lv_at hl 2 rfl) ?_
    refine va_get (D := (dC, dI)) (ci := 4) (v := .int (nI e9)) (C := RX4) (T := TX4) (N := 17) (ref := "SortedRunModel") hx hb hts (xg_u mb_uws_X4) hown hK hP 0 rfl rfl 13 (by decide) (xg_w hts mb_fieldLink_RX4_81) (fun _ h9 => h9) rfl dX4_read_9 ?_
    refine lv_icmp_ne (tgt := 22) hx hb dX4_read_12 rfl (fun hc => ?_) (fun hc => absurd hc (fun z => absurd ((nI_eq (by omega) (by omega)).mp z) (by omega)))
    refine lv_aload_n hx hb dX4_read_22 rfl (lv_at hl 2 rfl) ?_
    refine va_get (D := (dC, dI)) (ci := 4) (v := .ref (ad 3)) (C := RX4) (T := TX4) (N := 17) (ref := "SortedRunModel") hx hb hts (xg_u mb_uws_X4) hown hK hP 0 rfl rfl 2 (by decide) (xg_w hts mb_fieldLink_RX4_17) (fun _ h9 => h9) rfl dX4_read_23 ?_
    refine lv_aload_n hx hb dX4_read_26 rfl (lv_at hl 2 rfl) ?_
    refine va_get (D := (dC, dI)) (ci := 4) (v := .int (nI a)) (C := RX4) (T := TX4) (N := 17) (ref := "SortedRunModel") hx hb hts (xg_u mb_uws_X4) hown hK hP 0 rfl rfl 12 (by decide) (xg_w hts mb_fieldLink_RX4_78) (fun _ h9 => h9) rfl dX4_read_27 ?_
    refine va_bald hx hb hK hP 3 2 rfl rfl (vp_in_nI (by omega) (by decide)) dX4_read_30 ?_
    refine lv_topi (fun z1 ez1 => ?_)
    have ez1 : z1 = tf a := ez1.trans (congrArg tf (nI_clamp (by omega)))
    subst ez1
    refine lv_bipush (v := 127) hx hb dX4_read_31 (by decide) ?_
    refine lv_iand hx hb dX4_read_33 ?_
    refine lv_topi (fun z2 ez2 => ?_)
    have ez2 : z2 = nI (pb_ub tf a % 128) := ez2.trans (pm_127 tf a)
    subst ez2
    refine lv_i2l (v := lN (pb_ub tf a % 128)) hx hb dX4_read_34 (nI_l (by omega)) ?_
    refine lv_lstore hx hb dX4_read_35 hl (by decide) rfl (fun ls hl => ?_)
    have hl : lv_has ls 6 [(4, .long (lN (pb_ub tf a % 128))), (3, .int (nI sh)), (1, .long v), (0, .ref (ad 0))] := hl
    refine lv_iload_n hx hb dX4_read_37 rfl (lv_at hl 1 rfl) ?_
    refine lv_bipush (v := nI 63) hx hb dX4_read_38 (by decide) ?_
    refine lv_icmp_gt (tgt := 56) hx hb dX4_read_40 rfl (fun hc2 => ?_) (fun hc2 => ?_)
    · refine lv_aload_n hx hb dX4_read_56 rfl (lv_at hl 3 rfl) ?_
      refine lv_iconst (v := 1) hx hb dX4_read_57 (by decide) ?_
      refine va_put (D := (dC, dI)) (ci := 4) (v := .int 1) (ty := .boolean) (C := RX4) (T := TX4) (N := 17) (ref := "SortedRunModel") hx hb hts (xg_u mb_uws_X4) tyX4 tyX4_ok nmX4 hown hK hP hD hS 0 rfl rfl 16 (by decide) (xg_w hts mb_fieldLink_RX4_84) (fun _ h9 => h9) rfl (by decide +kernel) rfl rfl (Nat.le_of_ble_eq_true rfl) dX4_read_58 (fun H locs hP hD hS => ?_)
      have hP : va_P (dC, dI) vwCl (xm ad ca kf vf tf fr sf fi bk bv w ny nb mn (nI a) (nI e9) th op 1) H := hP
      have hD : va_D A (xm ad ca kf vf tf fr sf fi bk bv w ny nb mn (nI a) (nI e9) th op 1) := hD
      refine lv_iload_n hx hb dX4_read_61 rfl (lv_at hl 1 rfl) ?_
      refine lv_bipush (v := nI 63) hx hb dX4_read_62 (by decide) ?_
      refine lv_icmp_gt (tgt := 74) hx hb dX4_read_64 rfl (fun hc => ?_) (fun hc => absurd hc (not_not_intro hc2))
      have hs9 : sh + 7 < 2 ^ 31 := by omega
      refine lv_aload_n hx hb dX4_read_74 rfl (lv_at hl 3 rfl) ?_
      refine lv_dup hx hb dX4_read_75 rfl ?_
      refine va_get (D := (dC, dI)) (ci := 4) (v := .int (nI a)) (C := RX4) (T := TX4) (N := 17) (ref := "SortedRunModel") hx hb hts (xg_u mb_uws_X4) hown hK hP 0 rfl rfl 12 (by decide) (xg_w hts mb_fieldLink_RX4_78) (fun _ h9 => h9) rfl dX4_read_76 ?_
      refine lv_iconst (v := 1) hx hb dX4_read_79 (by decide) ?_
      refine lv_iadd hx hb dX4_read_80 ?_
      refine lv_topi (fun z3 ez3 => ?_)
      have ez3 : z3 = nI (a + 1) := ez3.trans (nI_1 a)
      subst ez3
      refine va_put (D := (dC, dI)) (ci := 4) (v := .int (nI (a + 1))) (ty := .int) (C := RX4) (T := TX4) (N := 17) (ref := "SortedRunModel") hx hb hts (xg_u mb_uws_X4) tyX4 tyX4_ok nmX4 hown hK hP hD hS 0 rfl rfl 12 (by decide) (xg_w hts mb_fieldLink_RX4_78) (fun _ h9 => h9) rfl (by decide +kernel) rfl rfl (Nat.le_of_ble_eq_true rfl) dX4_read_81 (fun H locs hP hD hS => ?_)
      have hP : va_P (dC, dI) vwCl (xm ad ca kf vf tf fr sf fi bk bv w ny nb mn (nI (a + 1)) (nI e9) th op 1) H := hP
      have hD : va_D A (xm ad ca kf vf tf fr sf fi bk bv w ny nb mn (nI (a + 1)) (nI e9) th op 1) := hD
      refine lv_aload_n hx hb dX4_read_84 rfl (lv_at hl 3 rfl) ?_
      refine va_get (D := (dC, dI)) (ci := 4) (v := .ref (ad 3)) (C := RX4) (T := TX4) (N := 17) (ref := "SortedRunModel") hx hb hts (xg_u mb_uws_X4) hown hK hP 0 rfl rfl 2 (by decide) (xg_w hts mb_fieldLink_RX4_17) (fun _ h9 => h9) rfl dX4_read_85 ?_
      refine lv_aload_n hx hb dX4_read_88 rfl (lv_at hl 3 rfl) ?_
      refine va_get (D := (dC, dI)) (ci := 4) (v := .int (nI (a + 1))) (C := RX4) (T := TX4) (N := 17) (ref := "SortedRunModel") hx hb hts (xg_u mb_uws_X4) hown hK hP 0 rfl rfl 12 (by decide) (xg_w hts mb_fieldLink_RX4_78) (fun _ h9 => h9) rfl dX4_read_89 ?_
      refine lv_iconst (v := nI 1) hx hb dX4_read_92 (by decide) ?_
      refine lv_isub hx hb dX4_read_93 ?_
      refine lv_topi (fun z4 ez4 => ?_)
      have ez4 : z4 = nI a := ez4.trans ((pk_sub (by omega)).trans rfl)
      subst ez4
      refine va_bald hx hb hK hP 3 2 rfl rfl (vp_in_nI (by omega) (by decide)) dX4_read_94 ?_
      refine lv_topi (fun z5 ez5 => ?_)
      have ez5 : z5 = tf a := ez5.trans (congrArg tf (nI_clamp (by omega)))
      subst ez5
      refine lv_if_lt (tgt := 100) hx hb dX4_read_95 rfl (fun hsg => ?_) (fun hsg => ?_)
      · refine lv_iinc (k := 1) (v := nI (sh + 7)) hx hb dX4_read_100 hl rfl (nI_add sh 7) (by decide) rfl (fun ls hl => ?_)
        have hl : lv_has ls 6 [(3, .int (nI (sh + 7))), (4, .long (lN (pb_ub tf a % 128))), (1, .long v), (0, .ref (ad 0))] := hl
        refine lv_goto (tgt := 4) hx hb dX4_read_103 rfl ?_
        exact ih (a + 1) (sh + 7) _ 1 _ _ _ (by omega) (Or.inl rfl) (by omega) (lv_sub hl [0, 2, 3] rfl) hP hD hS (fun r a1 z1 => kq r a1 (by omega)) (fun r a1 z1 => kr r a1 (by omega))
      · refine lv_lload_n hx hb dX4_read_98 rfl (lv_at hl 2 rfl) ?_
        exact kr _ (a + 1) (by omega) (by omega) H locs ls (lv_sub hl [] rfl) hP hD hS
    · have hw1 : wr = 1 := hw.elim id (fun z => absurd (nI_lt z (by omega)) hc2)
      subst hw1
      refine lv_iload_n hx hb dX4_read_43 rfl (lv_at hl 1 rfl) ?_
      refine lv_bipush (v := nI 63) hx hb dX4_read_44 (by decide) ?_
      refine lv_icmp_ne (tgt := 61) hx hb dX4_read_46 rfl (fun hc3 => ?_) (fun hc3 => ?_)
      · refine lv_iload_n hx hb dX4_read_61 rfl (lv_at hl 1 rfl) ?_
        refine lv_bipush (v := nI 63) hx hb dX4_read_62 (by decide) ?_
        refine lv_icmp_gt (tgt := 74) hx hb dX4_read_64 rfl (fun hc9 => absurd hc9 (hc2)) (fun hc9 => ?_)
        refine lv_lload_n hx hb dX4_read_67 rfl (lv_at hl 2 rfl) ?_
        refine lv_lload hx hb dX4_read_68 (lv_at hl 0 rfl) ?_
        refine lv_iload_n hx hb dX4_read_70 rfl (lv_at hl 1 rfl) ?_
        refine lv_lshl (v := (lN (pb_ub tf a % 128)) <<< ((nI sh).toInt64 &&& 63)) hx hb dX4_read_71 (rfl) ?_
        refine lv_lor hx hb dX4_read_72 ?_
        refine lv_lstore_n hx hb dX4_read_73 rfl hl (by decide) rfl (fun ls hl => ?_)
        have hl : lv_has ls 6 [(1, .long (v ||| ((lN (pb_ub tf a % 128)) <<< ((nI sh).toInt64 &&& 63)))), (4, .long (lN (pb_ub tf a % 128))), (3, .int (nI sh)), (0, .ref (ad 0))] := hl
        have hs9 : sh + 7 < 2 ^ 31 := by omega
        refine lv_aload_n hx hb dX4_read_74 rfl (lv_at hl 3 rfl) ?_
        refine lv_dup hx hb dX4_read_75 rfl ?_
        refine va_get (D := (dC, dI)) (ci := 4) (v := .int (nI a)) (C := RX4) (T := TX4) (N := 17) (ref := "SortedRunModel") hx hb hts (xg_u mb_uws_X4) hown hK hP 0 rfl rfl 12 (by decide) (xg_w hts mb_fieldLink_RX4_78) (fun _ h9 => h9) rfl dX4_read_76 ?_
        refine lv_iconst (v := 1) hx hb dX4_read_79 (by decide) ?_
        refine lv_iadd hx hb dX4_read_80 ?_
        refine lv_topi (fun z3 ez3 => ?_)
        have ez3 : z3 = nI (a + 1) := ez3.trans (nI_1 a)
        subst ez3
        refine va_put (D := (dC, dI)) (ci := 4) (v := .int (nI (a + 1))) (ty := .int) (C := RX4) (T := TX4) (N := 17) (ref := "SortedRunModel") hx hb hts (xg_u mb_uws_X4) tyX4 tyX4_ok nmX4 hown hK hP hD hS 0 rfl rfl 12 (by decide) (xg_w hts mb_fieldLink_RX4_78) (fun _ h9 => h9) rfl (by decide +kernel) rfl rfl (Nat.le_of_ble_eq_true rfl) dX4_read_81 (fun H locs hP hD hS => ?_)
        have hP : va_P (dC, dI) vwCl (xm ad ca kf vf tf fr sf fi bk bv w ny nb mn (nI (a + 1)) (nI e9) th op 1) H := hP
        have hD : va_D A (xm ad ca kf vf tf fr sf fi bk bv w ny nb mn (nI (a + 1)) (nI e9) th op 1) := hD
        refine lv_aload_n hx hb dX4_read_84 rfl (lv_at hl 3 rfl) ?_
        refine va_get (D := (dC, dI)) (ci := 4) (v := .ref (ad 3)) (C := RX4) (T := TX4) (N := 17) (ref := "SortedRunModel") hx hb hts (xg_u mb_uws_X4) hown hK hP 0 rfl rfl 2 (by decide) (xg_w hts mb_fieldLink_RX4_17) (fun _ h9 => h9) rfl dX4_read_85 ?_
        refine lv_aload_n hx hb dX4_read_88 rfl (lv_at hl 3 rfl) ?_
        refine va_get (D := (dC, dI)) (ci := 4) (v := .int (nI (a + 1))) (C := RX4) (T := TX4) (N := 17) (ref := "SortedRunModel") hx hb hts (xg_u mb_uws_X4) hown hK hP 0 rfl rfl 12 (by decide) (xg_w hts mb_fieldLink_RX4_78) (fun _ h9 => h9) rfl dX4_read_89 ?_
        refine lv_iconst (v := nI 1) hx hb dX4_read_92 (by decide) ?_
        refine lv_isub hx hb dX4_read_93 ?_
        refine lv_topi (fun z4 ez4 => ?_)
        have ez4 : z4 = nI a := ez4.trans ((pk_sub (by omega)).trans rfl)
        subst ez4
        refine va_bald hx hb hK hP 3 2 rfl rfl (vp_in_nI (by omega) (by decide)) dX4_read_94 ?_
        refine lv_topi (fun z5 ez5 => ?_)
        have ez5 : z5 = tf a := ez5.trans (congrArg tf (nI_clamp (by omega)))
        subst ez5
        refine lv_if_lt (tgt := 100) hx hb dX4_read_95 rfl (fun hsg => ?_) (fun hsg => ?_)
        · refine lv_iinc (k := 2) (v := nI (sh + 7)) hx hb dX4_read_100 hl rfl (nI_add sh 7) (by decide) rfl (fun ls hl => ?_)
          have hl : lv_has ls 6 [(3, .int (nI (sh + 7))), (1, .long (v ||| ((lN (pb_ub tf a % 128)) <<< ((nI sh).toInt64 &&& 63)))), (4, .long (lN (pb_ub tf a % 128))), (0, .ref (ad 0))] := hl
          refine lv_goto (tgt := 4) hx hb dX4_read_103 rfl ?_
          exact ih (a + 1) (sh + 7) _ 1 _ _ _ (by omega) (Or.inl rfl) (by omega) (lv_sub hl [0, 1, 3] rfl) hP hD hS (fun r a1 z1 => kq r a1 (by omega)) (fun r a1 z1 => kr r a1 (by omega))
        · refine lv_lload_n hx hb dX4_read_98 rfl (lv_at hl 0 rfl) ?_
          exact kr _ (a + 1) (by omega) (by omega) H locs ls (lv_sub hl [] rfl) hP hD hS
      · refine lv_lload hx hb dX4_read_49 (lv_at hl 0 rfl) ?_
        refine lv_lconst (v := lN 1) hx hb dX4_read_51 (by decide) ?_
        refine W.lcmp hx hb dX4_read_52 ?_
        refine lv_if_le (tgt := 61) hx hb dX4_read_53 rfl (fun hc4 => ?_) (fun hc4 => ?_)
        · refine lv_iload_n hx hb dX4_read_61 rfl (lv_at hl 1 rfl) ?_
          refine lv_bipush (v := nI 63) hx hb dX4_read_62 (by decide) ?_
          refine lv_icmp_gt (tgt := 74) hx hb dX4_read_64 rfl (fun hc9 => absurd hc9 (hc2)) (fun hc9 => ?_)
          refine lv_lload_n hx hb dX4_read_67 rfl (lv_at hl 2 rfl) ?_
          refine lv_lload hx hb dX4_read_68 (lv_at hl 0 rfl) ?_
          refine lv_iload_n hx hb dX4_read_70 rfl (lv_at hl 1 rfl) ?_
          refine lv_lshl (v := (lN (pb_ub tf a % 128)) <<< ((nI sh).toInt64 &&& 63)) hx hb dX4_read_71 (rfl) ?_
          refine lv_lor hx hb dX4_read_72 ?_
          refine lv_lstore_n hx hb dX4_read_73 rfl hl (by decide) rfl (fun ls hl => ?_)
          have hl : lv_has ls 6 [(1, .long (v ||| ((lN (pb_ub tf a % 128)) <<< ((nI sh).toInt64 &&& 63)))), (4, .long (lN (pb_ub tf a % 128))), (3, .int (nI sh)), (0, .ref (ad 0))] := hl
          have hs9 : sh + 7 < 2 ^ 31 := by omega
          refine lv_aload_n hx hb dX4_read_74 rfl (lv_at hl 3 rfl) ?_
          refine lv_dup hx hb dX4_read_75 rfl ?_
          refine va_get (D := (dC, dI)) (ci := 4) (v := .int (nI a)) (C := RX4) (T := TX4) (N := 17) (ref := "SortedRunModel") hx hb hts (xg_u mb_uws_X4) hown hK hP 0 rfl rfl 12 (by decide) (xg_w hts mb_fieldLink_RX4_78) (fun _ h9 => h9) rfl dX4_read_76 ?_
          refine lv_iconst (v := 1) hx hb dX4_read_79 (by decide) ?_
          refine lv_iadd hx hb dX4_read_80 ?_
          refine lv_topi (fun z3 ez3 => ?_)
          have ez3 : z3 = nI (a + 1) := ez3.trans (nI_1 a)
          subst ez3
          refine va_put (D := (dC, dI)) (ci := 4) (v := .int (nI (a + 1))) (ty := .int) (C := RX4) (T := TX4) (N := 17) (ref := "SortedRunModel") hx hb hts (xg_u mb_uws_X4) tyX4 tyX4_ok nmX4 hown hK hP hD hS 0 rfl rfl 12 (by decide) (xg_w hts mb_fieldLink_RX4_78) (fun _ h9 => h9) rfl (by decide +kernel) rfl rfl (Nat.le_of_ble_eq_true rfl) dX4_read_81 (fun H locs hP hD hS => ?_)
          have hP : va_P (dC, dI) vwCl (xm ad ca kf vf tf fr sf fi bk bv w ny nb mn (nI (a + 1)) (nI e9) th op 1) H := hP
          have hD : va_D A (xm ad ca kf vf tf fr sf fi bk bv w ny nb mn (nI (a + 1)) (nI e9) th op 1) := hD
          refine lv_aload_n hx hb dX4_read_84 rfl (lv_at hl 3 rfl) ?_
          refine va_get (D := (dC, dI)) (ci := 4) (v := .ref (ad 3)) (C := RX4) (T := TX4) (N := 17) (ref := "SortedRunModel") hx hb hts (xg_u mb_uws_X4) hown hK hP 0 rfl rfl 2 (by decide) (xg_w hts mb_fieldLink_RX4_17) (fun _ h9 => h9) rfl dX4_read_85 ?_
          refine lv_aload_n hx hb dX4_read_88 rfl (lv_at hl 3 rfl) ?_
          refine va_get (D := (dC, dI)) (ci := 4) (v := .int (nI (a + 1))) (C := RX4) (T := TX4) (N := 17) (ref := "SortedRunModel") hx hb hts (xg_u mb_uws_X4) hown hK hP 0 rfl rfl 12 (by decide) (xg_w hts mb_fieldLink_RX4_78) (fun _ h9 => h9) rfl dX4_read_89 ?_
          refine lv_iconst (v := nI 1) hx hb dX4_read_92 (by decide) ?_
          refine lv_isub hx hb dX4_read_93 ?_
          refine lv_topi (fun z4 ez4 => ?_)
          have ez4 : z4 = nI a := ez4.trans ((pk_sub (by omega)).trans rfl)
          subst ez4
          refine va_bald hx hb hK hP 3 2 rfl rfl (vp_in_nI (by omega) (by decide)) dX4_read_94 ?_
          refine lv_topi (fun z5 ez5 => ?_)
          have ez5 : z5 = tf a := ez5.trans (congrArg tf (nI_clamp (by omega)))
          subst ez5
          refine lv_if_lt (tgt := 100) hx hb dX4_read_95 rfl (fun hsg => ?_) (fun hsg => ?_)
          · refine lv_iinc (k := 2) (v := nI (sh + 7)) hx hb dX4_read_100 hl rfl (nI_add sh 7) (by decide) rfl (fun ls hl => ?_)
            have hl : lv_has ls 6 [(3, .int (nI (sh + 7))), (1, .long (v ||| ((lN (pb_ub tf a % 128)) <<< ((nI sh).toInt64 &&& 63)))), (4, .long (lN (pb_ub tf a % 128))), (0, .ref (ad 0))] := hl
            refine lv_goto (tgt := 4) hx hb dX4_read_103 rfl ?_
            exact ih (a + 1) (sh + 7) _ 1 _ _ _ (by omega) (Or.inl rfl) (by omega) (lv_sub hl [0, 1, 3] rfl) hP hD hS (fun r a1 z1 => kq r a1 (by omega)) (fun r a1 z1 => kr r a1 (by omega))
          · refine lv_lload_n hx hb dX4_read_98 rfl (lv_at hl 0 rfl) ?_
            exact kr _ (a + 1) (by omega) (by omega) H locs ls (lv_sub hl [] rfl) hP hD hS
        · refine lv_aload_n hx hb dX4_read_56 rfl (lv_at hl 3 rfl) ?_
          refine lv_iconst (v := 1) hx hb dX4_read_57 (by decide) ?_
          refine va_put (D := (dC, dI)) (ci := 4) (v := .int 1) (ty := .boolean) (C := RX4) (T := TX4) (N := 17) (ref := "SortedRunModel") hx hb hts (xg_u mb_uws_X4) tyX4 tyX4_ok nmX4 hown hK hP hD hS 0 rfl rfl 16 (by decide) (xg_w hts mb_fieldLink_RX4_84) (fun _ h9 => h9) rfl (by decide +kernel) rfl rfl (Nat.le_of_ble_eq_true rfl) dX4_read_58 (fun H locs hP hD hS => ?_)
          have hP : va_P (dC, dI) vwCl (xm ad ca kf vf tf fr sf fi bk bv w ny nb mn (nI a) (nI e9) th op 1) H := hP
          have hD : va_D A (xm ad ca kf vf tf fr sf fi bk bv w ny nb mn (nI a) (nI e9) th op 1) := hD
          refine lv_iload_n hx hb dX4_read_61 rfl (lv_at hl 1 rfl) ?_
          refine lv_bipush (v := nI 63) hx hb dX4_read_62 (by decide) ?_
          refine lv_icmp_gt (tgt := 74) hx hb dX4_read_64 rfl (fun hc9 => absurd hc9 (hc2)) (fun hc9 => ?_)
          refine lv_lload_n hx hb dX4_read_67 rfl (lv_at hl 2 rfl) ?_
          refine lv_lload hx hb dX4_read_68 (lv_at hl 0 rfl) ?_
          refine lv_iload_n hx hb dX4_read_70 rfl (lv_at hl 1 rfl) ?_
          refine lv_lshl (v := (lN (pb_ub tf a % 128)) <<< ((nI sh).toInt64 &&& 63)) hx hb dX4_read_71 (rfl) ?_
          refine lv_lor hx hb dX4_read_72 ?_
          refine lv_lstore_n hx hb dX4_read_73 rfl hl (by decide) rfl (fun ls hl => ?_)
          have hl : lv_has ls 6 [(1, .long (v ||| ((lN (pb_ub tf a % 128)) <<< ((nI sh).toInt64 &&& 63)))), (4, .long (lN (pb_ub tf a % 128))), (3, .int (nI sh)), (0, .ref (ad 0))] := hl
          have hs9 : sh + 7 < 2 ^ 31 := by omega
          refine lv_aload_n hx hb dX4_read_74 rfl (lv_at hl 3 rfl) ?_
          refine lv_dup hx hb dX4_read_75 rfl ?_
          refine va_get (D := (dC, dI)) (ci := 4) (v := .int (nI a)) (C := RX4) (T := TX4) (N := 17) (ref := "SortedRunModel") hx hb hts (xg_u mb_uws_X4) hown hK hP 0 rfl rfl 12 (by decide) (xg_w hts mb_fieldLink_RX4_78) (fun _ h9 => h9) rfl dX4_read_76 ?_
          refine lv_iconst (v := 1) hx hb dX4_read_79 (by decide) ?_
          refine lv_iadd hx hb dX4_read_80 ?_
          refine lv_topi (fun z3 ez3 => ?_)
          have ez3 : z3 = nI (a + 1) := ez3.trans (nI_1 a)
          subst ez3
          refine va_put (D := (dC, dI)) (ci := 4) (v := .int (nI (a + 1))) (ty := .int) (C := RX4) (T := TX4) (N := 17) (ref := "SortedRunModel") hx hb hts (xg_u mb_uws_X4) tyX4 tyX4_ok nmX4 hown hK hP hD hS 0 rfl rfl 12 (by decide) (xg_w hts mb_fieldLink_RX4_78) (fun _ h9 => h9) rfl (by decide +kernel) rfl rfl (Nat.le_of_ble_eq_true rfl) dX4_read_81 (fun H locs hP hD hS => ?_)
          have hP : va_P (dC, dI) vwCl (xm ad ca kf vf tf fr sf fi bk bv w ny nb mn (nI (a + 1)) (nI e9) th op 1) H := hP
          have hD : va_D A (xm ad ca kf vf tf fr sf fi bk bv w ny nb mn (nI (a + 1)) (nI e9) th op 1) := hD
          refine lv_aload_n hx hb dX4_read_84 rfl (lv_at hl 3 rfl) ?_
          refine va_get (D := (dC, dI)) (ci := 4) (v := .ref (ad 3)) (C := RX4) (T := TX4) (N := 17) (ref := "SortedRunModel") hx hb hts (xg_u mb_uws_X4) hown hK hP 0 rfl rfl 2 (by decide) (xg_w hts mb_fieldLink_RX4_17) (fun _ h9 => h9) rfl dX4_read_85 ?_
          refine lv_aload_n hx hb dX4_read_88 rfl (lv_at hl 3 rfl) ?_
          refine va_get (D := (dC, dI)) (ci := 4) (v := .int (nI (a + 1))) (C := RX4) (T := TX4) (N := 17) (ref := "SortedRunModel") hx hb hts (xg_u mb_uws_X4) hown hK hP 0 rfl rfl 12 (by decide) (xg_w hts mb_fieldLink_RX4_78) (fun _ h9 => h9) rfl dX4_read_89 ?_
          refine lv_iconst (v := nI 1) hx hb dX4_read_92 (by decide) ?_
          refine lv_isub hx hb dX4_read_93 ?_
          refine lv_topi (fun z4 ez4 => ?_)
          have ez4 : z4 = nI a := ez4.trans ((pk_sub (by omega)).trans rfl)
          subst ez4
          refine va_bald hx hb hK hP 3 2 rfl rfl (vp_in_nI (by omega) (by decide)) dX4_read_94 ?_
          refine lv_topi (fun z5 ez5 => ?_)
          have ez5 : z5 = tf a := ez5.trans (congrArg tf (nI_clamp (by omega)))
          subst ez5
          refine lv_if_lt (tgt := 100) hx hb dX4_read_95 rfl (fun hsg => ?_) (fun hsg => ?_)
          · refine lv_iinc (k := 2) (v := nI (sh + 7)) hx hb dX4_read_100 hl rfl (nI_add sh 7) (by decide) rfl (fun ls hl => ?_)
            have hl : lv_has ls 6 [(3, .int (nI (sh + 7))), (1, .long (v ||| ((lN (pb_ub tf a % 128)) <<< ((nI sh).toInt64 &&& 63)))), (4, .long (lN (pb_ub tf a % 128))), (0, .ref (ad 0))] := hl
            refine lv_goto (tgt := 4) hx hb dX4_read_103 rfl ?_
            exact ih (a + 1) (sh + 7) _ 1 _ _ _ (by omega) (Or.inl rfl) (by omega) (lv_sub hl [0, 1, 3] rfl) hP hD hS (fun r a1 z1 => kq r a1 (by omega)) (fun r a1 z1 => kr r a1 (by omega))
          · refine lv_lload_n hx hb dX4_read_98 rfl (lv_at hl 0 rfl) ?_
            exact kr _ (a + 1) (by omega) (by omega) H locs ls (lv_sub hl [] rfl) hP hD hS

set_option maxHeartbeats 4000000 in
set_option maxRecDepth 100000 in
theorem lpX4_read_go {p : Program} {l : Launch} {e : Env} {s : State} {m : MethodId} {args : Array Value} {below : List Frame} {meth : Method} {c : Code} {Q : State → Prop} {A : Nat → Prop} {dC : Nat → ClassId} {dI : Nat → Nat → Nat} {ca : Nat → ClassId} {ad : Nat → Nat} (hx : p.tables.exec = Jvm.exec) (hb : c.code = cX4_read) (hml : c.maxLocals = 6) (hown : s.vm.findClass RX4 = some m.cls) (hts : ∀ w ∈ wsX4_read, w.before args s = true) (hK : va_K (dC, dI) vwCl (xt ca) s) (hA : ∀ q : Nat, s.heap.size ≤ q → A q) (hE : xn_E A s) {kf : Nat → Int32} {vf : Nat → Int64} {tf : Nat → Int32} {fr : Nat → Int32} {sf : Nat → Int32} {fi : Nat → Int32} {bk : Nat → Int32} {bv : Nat → Int64} {w : Int32} {ny : Int32} {nb : Int32} {mn : Int32} {th : Int32} {op : Int32} {wr : Int32} {e9 : Nat} (he9 : e9 ≤ 6000) (hf : pb_fit tf) : ∀ (k : Nat) (a V : Nat) (H : Heap) (locs : List Loc) (ls : Array Slot), k ≤ 10 → V < 2 ^ (7 * (10 - k)) → a ≤ e9 → lv_has ls 6 [(3, .int (nI (7 * (10 - k)))), (1, .long (lN V)), (0, .ref (ad 0))] → va_P (dC, dI) vwCl (xm ad ca kf vf tf fr sf fi bk bv w ny nb mn (nI a) (nI e9) th op wr) H → va_D A (xm ad ca kf vf tf fr sf fi bk bv w ny nb mn (nI a) (nI e9) th op wr) → va_S A s.heap H locs → (∀ n a1, pb_rdn tf e9 k (10 - k) a V = some (n, a1) → ∀ (H : Heap) (locs : List Loc) (ls : Array Slot), lv_has ls 6 [] → va_P (dC, dI) vwCl (xm ad ca kf vf tf fr sf fi bk bv w ny nb mn (nI a1) (nI e9) th op wr) H → va_D A (xm ad ca kf vf tf fr sf fi bk bv w ny nb mn (nI a1) (nI e9) th op wr) → va_S A s.heap H locs → W p l e ({ frames := 0, cells := 0, slots := 0, locals := 0 } : Room) s m args below meth c H locs 0 0 Q (F0 m 99 ls [.long (lN n)])) → (pb_rdn tf e9 k (10 - k) a V = none → ∀ (r : Int64) (a1 : Nat), a ≤ a1 → a1 ≤ e9 → ∀ (H : Heap) (locs : List Loc) (ls : Array Slot), lv_has ls 6 [] → va_P (dC, dI) vwCl (xm ad ca kf vf tf fr sf fi bk bv w ny nb mn (nI a1) (nI e9) th op 1) H → va_D A (xm ad ca kf vf tf fr sf fi bk bv w ny nb mn (nI a1) (nI e9) th op 1) → va_S A s.heap H locs → W p l e ({ frames := 0, cells := 0, slots := 0, locals := 0 } : Room) s m args below meth c H locs 0 0 Q (F0 m 21 ls [.long r])) → (pb_rdn tf e9 k (10 - k) a V = none → ∀ (r : Int64) (a1 : Nat), a ≤ a1 → a1 ≤ e9 → ∀ (H : Heap) (locs : List Loc) (ls : Array Slot), lv_has ls 6 [] → va_P (dC, dI) vwCl (xm ad ca kf vf tf fr sf fi bk bv w ny nb mn (nI a1) (nI e9) th op 1) H → va_D A (xm ad ca kf vf tf fr sf fi bk bv w ny nb mn (nI a1) (nI e9) th op 1) → va_S A s.heap H locs → W p l e ({ frames := 0, cells := 0, slots := 0, locals := 0 } : Room) s m args below meth c H locs 0 0 Q (F0 m 99 ls [.long r])) → W p l e ({ frames := 0, cells := 0, slots := 0, locals := 0 } : Room) s m args below meth c H locs 0 0 Q (F0 m 4 ls []) := by
  intro k
  induction k with
  | zero =>
    intro a V H locs ls hk hV ha hl hP hD hS kg kq kr
    have hl : lv_has ls 6 [(3, .int (nI (7 * (10 - 0)))), (1, .long (lN V)), (0, .ref (ad 0))] := hl
    exact lpX4_read_bad hx hb hml hown hts hK hA hE he9 hf (e9 - a) a 70 (lN V) wr H locs ls (by omega) (Or.inr (by decide)) (by omega) hl hP hD hS (kq rfl) (kr rfl)
  | succ k ih =>
    intro a V H locs ls hk hV ha hl hP hD hS kg kq kr
    have hl : lv_has ls 6 [(3, .int (nI (7 * (10 - (k + 1))))), (1, .long (lN V)), (0, .ref (ad 0))] := hl
    refine lv_aload_n hx hb dX4_read_4 rfl (lv_at hl 2 rfl) ?_
    refine va_get (D := (dC, dI)) (ci := 4) (v := .int (nI a)) (C := RX4) (T := TX4) (N := 17) (ref := "SortedRunModel") hx hb hts (xg_u mb_uws_X4) hown hK hP 0 rfl rfl 12 (by decide) (xg_w hts mb_fieldLink_RX4_78) (fun _ h9 => h9) rfl dX4_read_5 ?_
    refine lv_aload_n hx hb dX4_read_8 rfl (lv_at hl 2 rfl) ?_
    refine va_get (D := (dC, dI)) (ci := 4) (v := .int (nI e9)) (C := RX4) (T := TX4) (N := 17) (ref := "SortedRunModel") hx hb hts (xg_u mb_uws_X4) hown hK hP 0 rfl rfl 13 (by decide) (xg_w hts mb_fieldLink_RX4_81) (fun _ h9 => h9) rfl dX4_read_9 ?_
    refine lv_icmp_ne (tgt := 22) hx hb dX4_read_12 rfl (fun hc => ?_) (fun hc => ?_)
    · have hae : a < e9 := Nat.lt_of_le_of_ne ha (fun z => hc (congrArg nI z))
      have hrd := pm_rd (f := tf) (V := V) (by omega : k < 10) hae
      have hub := pb_ub_lt tf a
      have hsg9 := pm_sgn (f := tf) (j := a) hf
      refine lv_aload_n hx hb dX4_read_22 rfl (lv_at hl 2 rfl) ?_
      refine va_get (D := (dC, dI)) (ci := 4) (v := .ref (ad 3)) (C := RX4) (T := TX4) (N := 17) (ref := "SortedRunModel") hx hb hts (xg_u mb_uws_X4) hown hK hP 0 rfl rfl 2 (by decide) (xg_w hts mb_fieldLink_RX4_17) (fun _ h9 => h9) rfl dX4_read_23 ?_
      refine lv_aload_n hx hb dX4_read_26 rfl (lv_at hl 2 rfl) ?_
      refine va_get (D := (dC, dI)) (ci := 4) (v := .int (nI a)) (C := RX4) (T := TX4) (N := 17) (ref := "SortedRunModel") hx hb hts (xg_u mb_uws_X4) hown hK hP 0 rfl rfl 12 (by decide) (xg_w hts mb_fieldLink_RX4_78) (fun _ h9 => h9) rfl dX4_read_27 ?_
      refine va_bald hx hb hK hP 3 2 rfl rfl (vp_in_nI (by omega) (by decide)) dX4_read_30 ?_
      refine lv_topi (fun z1 ez1 => ?_)
      have ez1 : z1 = tf a := ez1.trans (congrArg tf (nI_clamp (by omega)))
      subst ez1
      refine lv_bipush (v := 127) hx hb dX4_read_31 (by decide) ?_
      refine lv_iand hx hb dX4_read_33 ?_
      refine lv_topi (fun z2 ez2 => ?_)
      have ez2 : z2 = nI (pb_ub tf a % 128) := ez2.trans (pm_127 tf a)
      subst ez2
      refine lv_i2l (v := lN (pb_ub tf a % 128)) hx hb dX4_read_34 (nI_l (by omega)) ?_
      refine lv_lstore hx hb dX4_read_35 hl (by decide) rfl (fun ls hl => ?_)
      have hl : lv_has ls 6 [(4, .long (lN (pb_ub tf a % 128))), (3, .int (nI (7 * (10 - (k + 1))))), (1, .long (lN V)), (0, .ref (ad 0))] := hl
      refine lv_iload_n hx hb dX4_read_37 rfl (lv_at hl 1 rfl) ?_
      refine lv_bipush (v := nI 63) hx hb dX4_read_38 (by decide) ?_
      refine lv_icmp_gt (tgt := 56) hx hb dX4_read_40 rfl (fun hc2 => absurd hc2 (Int32.not_lt.mpr (nI_le (by omega) (by decide)))) (fun hc2 => ?_)
      refine lv_iload_n hx hb dX4_read_43 rfl (lv_at hl 1 rfl) ?_
      refine lv_bipush (v := nI 63) hx hb dX4_read_44 (by decide) ?_
      refine lv_icmp_ne (tgt := 61) hx hb dX4_read_46 rfl (fun hc3 => ?_) (fun hc3 => ?_)
      · have hk0 : ¬ k = 0 := fun y => hc3 (congrArg nI (by omega))
        obtain ⟨hv1, hv2⟩ := pm_v (by omega : k < 10) hV (Nat.mod_lt (pb_ub tf a) (by decide)) (fun y => absurd y hk0)
        refine lv_iload_n hx hb dX4_read_61 rfl (lv_at hl 1 rfl) ?_
        refine lv_bipush (v := nI 63) hx hb dX4_read_62 (by decide) ?_
        refine lv_icmp_gt (tgt := 74) hx hb dX4_read_64 rfl (fun hc9 => absurd hc9 (Int32.not_lt.mpr (nI_le (by omega) (by decide)))) (fun hc9 => ?_)
        refine lv_lload_n hx hb dX4_read_67 rfl (lv_at hl 2 rfl) ?_
        refine lv_lload hx hb dX4_read_68 (lv_at hl 0 rfl) ?_
        refine lv_iload_n hx hb dX4_read_70 rfl (lv_at hl 1 rfl) ?_
        refine lv_lshl (v := lN (pb_ub tf a % 128 * 2 ^ (7 * (10 - (k + 1))))) hx hb dX4_read_71 (wb_shl _ (k := 7 * (10 - (k + 1))) (by omega)) ?_
        refine lv_lor hx hb dX4_read_72 ?_
        refine lv_topl (fun z3 ez3 => ?_)
        have ez3 : z3 = lN (V + pb_ub tf a % 128 * 2 ^ (7 * (10 - (k + 1)))) := ez3.trans (g_or' (k := 7 * (10 - (k + 1))) rfl hV hv1)
        subst ez3
        refine lv_lstore_n hx hb dX4_read_73 rfl hl (by decide) rfl (fun ls hl => ?_)
        have hl : lv_has ls 6 [(1, .long (lN (V + pb_ub tf a % 128 * 2 ^ (7 * (10 - (k + 1)))))), (4, .long (lN (pb_ub tf a % 128))), (3, .int (nI (7 * (10 - (k + 1))))), (0, .ref (ad 0))] := hl
        refine lv_aload_n hx hb dX4_read_74 rfl (lv_at hl 3 rfl) ?_
        refine lv_dup hx hb dX4_read_75 rfl ?_
        refine va_get (D := (dC, dI)) (ci := 4) (v := .int (nI a)) (C := RX4) (T := TX4) (N := 17) (ref := "SortedRunModel") hx hb hts (xg_u mb_uws_X4) hown hK hP 0 rfl rfl 12 (by decide) (xg_w hts mb_fieldLink_RX4_78) (fun _ h9 => h9) rfl dX4_read_76 ?_
        refine lv_iconst (v := 1) hx hb dX4_read_79 (by decide) ?_
        refine lv_iadd hx hb dX4_read_80 ?_
        refine lv_topi (fun z4 ez4 => ?_)
        have ez4 : z4 = nI (a + 1) := ez4.trans (nI_1 a)
        subst ez4
        refine va_put (D := (dC, dI)) (ci := 4) (v := .int (nI (a + 1))) (ty := .int) (C := RX4) (T := TX4) (N := 17) (ref := "SortedRunModel") hx hb hts (xg_u mb_uws_X4) tyX4 tyX4_ok nmX4 hown hK hP hD hS 0 rfl rfl 12 (by decide) (xg_w hts mb_fieldLink_RX4_78) (fun _ h9 => h9) rfl (by decide +kernel) rfl rfl (Nat.le_of_ble_eq_true rfl) dX4_read_81 (fun H locs hP hD hS => ?_)
        have hP : va_P (dC, dI) vwCl (xm ad ca kf vf tf fr sf fi bk bv w ny nb mn (nI (a + 1)) (nI e9) th op wr) H := hP
        have hD : va_D A (xm ad ca kf vf tf fr sf fi bk bv w ny nb mn (nI (a + 1)) (nI e9) th op wr) := hD
        refine lv_aload_n hx hb dX4_read_84 rfl (lv_at hl 3 rfl) ?_
        refine va_get (D := (dC, dI)) (ci := 4) (v := .ref (ad 3)) (C := RX4) (T := TX4) (N := 17) (ref := "SortedRunModel") hx hb hts (xg_u mb_uws_X4) hown hK hP 0 rfl rfl 2 (by decide) (xg_w hts mb_fieldLink_RX4_17) (fun _ h9 => h9) rfl dX4_read_85 ?_
        refine lv_aload_n hx hb dX4_read_88 rfl (lv_at hl 3 rfl) ?_
        refine va_get (D := (dC, dI)) (ci := 4) (v := .int (nI (a + 1))) (C := RX4) (T := TX4) (N := 17) (ref := "SortedRunModel") hx hb hts (xg_u mb_uws_X4) hown hK hP 0 rfl rfl 12 (by decide) (xg_w hts mb_fieldLink_RX4_78) (fun _ h9 => h9) rfl dX4_read_89 ?_
        refine lv_iconst (v := nI 1) hx hb dX4_read_92 (by decide) ?_
        refine lv_isub hx hb dX4_read_93 ?_
        refine lv_topi (fun z5 ez5 => ?_)
        have ez5 : z5 = nI a := ez5.trans ((pk_sub (by omega)).trans rfl)
        subst ez5
        refine va_bald hx hb hK hP 3 2 rfl rfl (vp_in_nI (by omega) (by decide)) dX4_read_94 ?_
        refine lv_topi (fun z6 ez6 => ?_)
        have ez6 : z6 = tf a := ez6.trans (congrArg tf (nI_clamp (by omega)))
        subst ez6
        refine lv_if_lt (tgt := 100) hx hb dX4_read_95 rfl (fun hsg => ?_) (fun hsg => ?_)
        · have hg : 128 ≤ pb_ub tf a := hsg9.mp hsg
          refine lv_iinc (k := 2) (v := nI (7 * (10 - k))) hx hb dX4_read_100 hl rfl ((nI_add _ 7).trans (congrArg nI (by omega))) (by decide) rfl (fun ls hl => ?_)
          have hl : lv_has ls 6 [(3, .int (nI (7 * (10 - k)))), (1, .long (lN (V + pb_ub tf a % 128 * 2 ^ (7 * (10 - (k + 1)))))), (4, .long (lN (pb_ub tf a % 128))), (0, .ref (ad 0))] := hl
          refine lv_goto (tgt := 4) hx hb dX4_read_103 rfl ?_
          by_cases hk0 : k = 0
          · subst hk0
            rw [if_pos ⟨rfl, by omega⟩] at hrd
            exact lpX4_read_bad hx hb hml hown hts hK hA hE he9 hf (e9 - (a + 1)) (a + 1) 70 _ wr H locs ls (by omega) (Or.inr (by decide)) (by omega) (lv_sub hl [0, 1, 3] rfl) hP hD hS (fun r a1 z1 => kq hrd r a1 (by omega)) (fun r a1 z1 => kr hrd r a1 (by omega))
          · rw [if_neg (fun z => hk0 z.1), if_neg (by omega)] at hrd
            rw [hrd] at kg kq kr
            exact ih (a + 1) (V + pb_ub tf a % 128 * 2 ^ (7 * (10 - (k + 1)))) _ _ _ (by omega) hv2 (by omega) (lv_sub hl [0, 1, 3] rfl) hP hD hS kg (fun z0 r a1 z1 => kq z0 r a1 (by omega)) (fun z0 r a1 z1 => kr z0 r a1 (by omega))
        · have hg : pb_ub tf a < 128 := Nat.lt_of_not_le (fun z => hsg (hsg9.mpr z))
          have h91 : k = 0 → pb_ub tf a % 128 ≤ 1 := fun y => absurd y hk0
          rw [if_neg (fun z => by have := h91 z.1; omega), if_pos hg] at hrd
          refine lv_lload_n hx hb dX4_read_98 rfl (lv_at hl 0 rfl) ?_
          exact kg _ _ hrd H locs ls (lv_sub hl [] rfl) hP hD hS
      · have hk0 : k = 0 := by have := (nI_eq (by omega) (by decide)).mp hc3; omega
        refine lv_lload hx hb dX4_read_49 (lv_at hl 0 rfl) ?_
        refine lv_lconst (v := lN 1) hx hb dX4_read_51 (by decide) ?_
        refine W.lcmp hx hb dX4_read_52 ?_
        refine lv_if_le (tgt := 61) hx hb dX4_read_53 rfl (fun hc4 => ?_) (fun hc4 => ?_)
        · have hb1 : pb_ub tf a % 128 ≤ 1 := (pk_lLE (by omega) (by decide)).mp (lc_le.mp hc4)
          obtain ⟨hv1, hv2⟩ := pm_v (by omega : k < 10) hV (Nat.mod_lt (pb_ub tf a) (by decide)) (fun _ => hb1)
          refine lv_iload_n hx hb dX4_read_61 rfl (lv_at hl 1 rfl) ?_
          refine lv_bipush (v := nI 63) hx hb dX4_read_62 (by decide) ?_
          refine lv_icmp_gt (tgt := 74) hx hb dX4_read_64 rfl (fun hc9 => absurd hc9 (Int32.not_lt.mpr (nI_le (by omega) (by decide)))) (fun hc9 => ?_)
          refine lv_lload_n hx hb dX4_read_67 rfl (lv_at hl 2 rfl) ?_
          refine lv_lload hx hb dX4_read_68 (lv_at hl 0 rfl) ?_
          refine lv_iload_n hx hb dX4_read_70 rfl (lv_at hl 1 rfl) ?_
          refine lv_lshl (v := lN (pb_ub tf a % 128 * 2 ^ (7 * (10 - (k + 1))))) hx hb dX4_read_71 (wb_shl _ (k := 7 * (10 - (k + 1))) (by omega)) ?_
          refine lv_lor hx hb dX4_read_72 ?_
          refine lv_topl (fun z3 ez3 => ?_)
          have ez3 : z3 = lN (V + pb_ub tf a % 128 * 2 ^ (7 * (10 - (k + 1)))) := ez3.trans (g_or' (k := 7 * (10 - (k + 1))) rfl hV hv1)
          subst ez3
          refine lv_lstore_n hx hb dX4_read_73 rfl hl (by decide) rfl (fun ls hl => ?_)
          have hl : lv_has ls 6 [(1, .long (lN (V + pb_ub tf a % 128 * 2 ^ (7 * (10 - (k + 1)))))), (4, .long (lN (pb_ub tf a % 128))), (3, .int (nI (7 * (10 - (k + 1))))), (0, .ref (ad 0))] := hl
          refine lv_aload_n hx hb dX4_read_74 rfl (lv_at hl 3 rfl) ?_
          refine lv_dup hx hb dX4_read_75 rfl ?_
          refine va_get (D := (dC, dI)) (ci := 4) (v := .int (nI a)) (C := RX4) (T := TX4) (N := 17) (ref := "SortedRunModel") hx hb hts (xg_u mb_uws_X4) hown hK hP 0 rfl rfl 12 (by decide) (xg_w hts mb_fieldLink_RX4_78) (fun _ h9 => h9) rfl dX4_read_76 ?_
          refine lv_iconst (v := 1) hx hb dX4_read_79 (by decide) ?_
          refine lv_iadd hx hb dX4_read_80 ?_
          refine lv_topi (fun z4 ez4 => ?_)
          have ez4 : z4 = nI (a + 1) := ez4.trans (nI_1 a)
          subst ez4
          refine va_put (D := (dC, dI)) (ci := 4) (v := .int (nI (a + 1))) (ty := .int) (C := RX4) (T := TX4) (N := 17) (ref := "SortedRunModel") hx hb hts (xg_u mb_uws_X4) tyX4 tyX4_ok nmX4 hown hK hP hD hS 0 rfl rfl 12 (by decide) (xg_w hts mb_fieldLink_RX4_78) (fun _ h9 => h9) rfl (by decide +kernel) rfl rfl (Nat.le_of_ble_eq_true rfl) dX4_read_81 (fun H locs hP hD hS => ?_)
          have hP : va_P (dC, dI) vwCl (xm ad ca kf vf tf fr sf fi bk bv w ny nb mn (nI (a + 1)) (nI e9) th op wr) H := hP
          have hD : va_D A (xm ad ca kf vf tf fr sf fi bk bv w ny nb mn (nI (a + 1)) (nI e9) th op wr) := hD
          refine lv_aload_n hx hb dX4_read_84 rfl (lv_at hl 3 rfl) ?_
          refine va_get (D := (dC, dI)) (ci := 4) (v := .ref (ad 3)) (C := RX4) (T := TX4) (N := 17) (ref := "SortedRunModel") hx hb hts (xg_u mb_uws_X4) hown hK hP 0 rfl rfl 2 (by decide) (xg_w hts mb_fieldLink_RX4_17) (fun _ h9 => h9) rfl dX4_read_85 ?_
          refine lv_aload_n hx hb dX4_read_88 rfl (lv_at hl 3 rfl) ?_
          refine va_get (D := (dC, dI)) (ci := 4) (v := .int (nI (a + 1))) (C := RX4) (T := TX4) (N := 17) (ref := "SortedRunModel") hx hb hts (xg_u mb_uws_X4) hown hK hP 0 rfl rfl 12 (by decide) (xg_w hts mb_fieldLink_RX4_78) (fun _ h9 => h9) rfl dX4_read_89 ?_
          refine lv_iconst (v := nI 1) hx hb dX4_read_92 (by decide) ?_
          refine lv_isub hx hb dX4_read_93 ?_
          refine lv_topi (fun z5 ez5 => ?_)
          have ez5 : z5 = nI a := ez5.trans ((pk_sub (by omega)).trans rfl)
          subst ez5
          refine va_bald hx hb hK hP 3 2 rfl rfl (vp_in_nI (by omega) (by decide)) dX4_read_94 ?_
          refine lv_topi (fun z6 ez6 => ?_)
          have ez6 : z6 = tf a := ez6.trans (congrArg tf (nI_clamp (by omega)))
          subst ez6
          refine lv_if_lt (tgt := 100) hx hb dX4_read_95 rfl (fun hsg => ?_) (fun hsg => ?_)
          · have hg : 128 ≤ pb_ub tf a := hsg9.mp hsg
            refine lv_iinc (k := 2) (v := nI (7 * (10 - k))) hx hb dX4_read_100 hl rfl ((nI_add _ 7).trans (congrArg nI (by omega))) (by decide) rfl (fun ls hl => ?_)
            have hl : lv_has ls 6 [(3, .int (nI (7 * (10 - k)))), (1, .long (lN (V + pb_ub tf a % 128 * 2 ^ (7 * (10 - (k + 1)))))), (4, .long (lN (pb_ub tf a % 128))), (0, .ref (ad 0))] := hl
            refine lv_goto (tgt := 4) hx hb dX4_read_103 rfl ?_
            by_cases hk0 : k = 0
            · subst hk0
              rw [if_pos ⟨rfl, by omega⟩] at hrd
              exact lpX4_read_bad hx hb hml hown hts hK hA hE he9 hf (e9 - (a + 1)) (a + 1) 70 _ wr H locs ls (by omega) (Or.inr (by decide)) (by omega) (lv_sub hl [0, 1, 3] rfl) hP hD hS (fun r a1 z1 => kq hrd r a1 (by omega)) (fun r a1 z1 => kr hrd r a1 (by omega))
            · rw [if_neg (fun z => hk0 z.1), if_neg (by omega)] at hrd
              rw [hrd] at kg kq kr
              exact ih (a + 1) (V + pb_ub tf a % 128 * 2 ^ (7 * (10 - (k + 1)))) _ _ _ (by omega) hv2 (by omega) (lv_sub hl [0, 1, 3] rfl) hP hD hS kg (fun z0 r a1 z1 => kq z0 r a1 (by omega)) (fun z0 r a1 z1 => kr z0 r a1 (by omega))
          · have hg : pb_ub tf a < 128 := Nat.lt_of_not_le (fun z => hsg (hsg9.mpr z))
            have h91 : k = 0 → pb_ub tf a % 128 ≤ 1 := fun _ => hb1
            rw [if_neg (fun z => by have := h91 z.1; omega), if_pos hg] at hrd
            refine lv_lload_n hx hb dX4_read_98 rfl (lv_at hl 0 rfl) ?_
            exact kg _ _ hrd H locs ls (lv_sub hl [] rfl) hP hD hS
        · have hb1 : 1 < pb_ub tf a % 128 := Nat.lt_of_not_le (fun q => hc4 (lc_le.mpr ((pk_lLE (by omega) (by decide)).mpr q)))
          rw [if_pos ⟨hk0, by omega⟩] at hrd
          refine lv_aload_n hx hb dX4_read_56 rfl (lv_at hl 3 rfl) ?_
          refine lv_iconst (v := 1) hx hb dX4_read_57 (by decide) ?_
          refine va_put (D := (dC, dI)) (ci := 4) (v := .int 1) (ty := .boolean) (C := RX4) (T := TX4) (N := 17) (ref := "SortedRunModel") hx hb hts (xg_u mb_uws_X4) tyX4 tyX4_ok nmX4 hown hK hP hD hS 0 rfl rfl 16 (by decide) (xg_w hts mb_fieldLink_RX4_84) (fun _ h9 => h9) rfl (by decide +kernel) rfl rfl (Nat.le_of_ble_eq_true rfl) dX4_read_58 (fun H locs hP hD hS => ?_)
          have hP : va_P (dC, dI) vwCl (xm ad ca kf vf tf fr sf fi bk bv w ny nb mn (nI a) (nI e9) th op 1) H := hP
          have hD : va_D A (xm ad ca kf vf tf fr sf fi bk bv w ny nb mn (nI a) (nI e9) th op 1) := hD
          refine lv_iload_n hx hb dX4_read_61 rfl (lv_at hl 1 rfl) ?_
          refine lv_bipush (v := nI 63) hx hb dX4_read_62 (by decide) ?_
          refine lv_icmp_gt (tgt := 74) hx hb dX4_read_64 rfl (fun hc9 => absurd hc9 (Int32.not_lt.mpr (nI_le (by omega) (by decide)))) (fun hc9 => ?_)
          refine lv_lload_n hx hb dX4_read_67 rfl (lv_at hl 2 rfl) ?_
          refine lv_lload hx hb dX4_read_68 (lv_at hl 0 rfl) ?_
          refine lv_iload_n hx hb dX4_read_70 rfl (lv_at hl 1 rfl) ?_
          refine lv_lshl (v := (lN (pb_ub tf a % 128)) <<< ((nI (7 * (10 - (k + 1)))).toInt64 &&& 63)) hx hb dX4_read_71 (rfl) ?_
          refine lv_lor hx hb dX4_read_72 ?_
          refine lv_lstore_n hx hb dX4_read_73 rfl hl (by decide) rfl (fun ls hl => ?_)
          have hl : lv_has ls 6 [(1, .long ((lN V) ||| ((lN (pb_ub tf a % 128)) <<< ((nI (7 * (10 - (k + 1)))).toInt64 &&& 63)))), (4, .long (lN (pb_ub tf a % 128))), (3, .int (nI (7 * (10 - (k + 1))))), (0, .ref (ad 0))] := hl
          refine lv_aload_n hx hb dX4_read_74 rfl (lv_at hl 3 rfl) ?_
          refine lv_dup hx hb dX4_read_75 rfl ?_
          refine va_get (D := (dC, dI)) (ci := 4) (v := .int (nI a)) (C := RX4) (T := TX4) (N := 17) (ref := "SortedRunModel") hx hb hts (xg_u mb_uws_X4) hown hK hP 0 rfl rfl 12 (by decide) (xg_w hts mb_fieldLink_RX4_78) (fun _ h9 => h9) rfl dX4_read_76 ?_
          refine lv_iconst (v := 1) hx hb dX4_read_79 (by decide) ?_
          refine lv_iadd hx hb dX4_read_80 ?_
          refine lv_topi (fun z3 ez3 => ?_)
          have ez3 : z3 = nI (a + 1) := ez3.trans (nI_1 a)
          subst ez3
          refine va_put (D := (dC, dI)) (ci := 4) (v := .int (nI (a + 1))) (ty := .int) (C := RX4) (T := TX4) (N := 17) (ref := "SortedRunModel") hx hb hts (xg_u mb_uws_X4) tyX4 tyX4_ok nmX4 hown hK hP hD hS 0 rfl rfl 12 (by decide) (xg_w hts mb_fieldLink_RX4_78) (fun _ h9 => h9) rfl (by decide +kernel) rfl rfl (Nat.le_of_ble_eq_true rfl) dX4_read_81 (fun H locs hP hD hS => ?_)
          have hP : va_P (dC, dI) vwCl (xm ad ca kf vf tf fr sf fi bk bv w ny nb mn (nI (a + 1)) (nI e9) th op 1) H := hP
          have hD : va_D A (xm ad ca kf vf tf fr sf fi bk bv w ny nb mn (nI (a + 1)) (nI e9) th op 1) := hD
          refine lv_aload_n hx hb dX4_read_84 rfl (lv_at hl 3 rfl) ?_
          refine va_get (D := (dC, dI)) (ci := 4) (v := .ref (ad 3)) (C := RX4) (T := TX4) (N := 17) (ref := "SortedRunModel") hx hb hts (xg_u mb_uws_X4) hown hK hP 0 rfl rfl 2 (by decide) (xg_w hts mb_fieldLink_RX4_17) (fun _ h9 => h9) rfl dX4_read_85 ?_
          refine lv_aload_n hx hb dX4_read_88 rfl (lv_at hl 3 rfl) ?_
          refine va_get (D := (dC, dI)) (ci := 4) (v := .int (nI (a + 1))) (C := RX4) (T := TX4) (N := 17) (ref := "SortedRunModel") hx hb hts (xg_u mb_uws_X4) hown hK hP 0 rfl rfl 12 (by decide) (xg_w hts mb_fieldLink_RX4_78) (fun _ h9 => h9) rfl dX4_read_89 ?_
          refine lv_iconst (v := nI 1) hx hb dX4_read_92 (by decide) ?_
          refine lv_isub hx hb dX4_read_93 ?_
          refine lv_topi (fun z4 ez4 => ?_)
          have ez4 : z4 = nI a := ez4.trans ((pk_sub (by omega)).trans rfl)
          subst ez4
          refine va_bald hx hb hK hP 3 2 rfl rfl (vp_in_nI (by omega) (by decide)) dX4_read_94 ?_
          refine lv_topi (fun z5 ez5 => ?_)
          have ez5 : z5 = tf a := ez5.trans (congrArg tf (nI_clamp (by omega)))
          subst ez5
          refine lv_if_lt (tgt := 100) hx hb dX4_read_95 rfl (fun hsg => ?_) (fun hsg => ?_)
          · refine lv_iinc (k := 2) (v := nI 70) hx hb dX4_read_100 hl rfl ((nI_add _ 7).trans (congrArg nI (by omega))) (by decide) rfl (fun ls hl => ?_)
            have hl : lv_has ls 6 [(3, .int (nI 70)), (1, .long ((lN V) ||| ((lN (pb_ub tf a % 128)) <<< ((nI (7 * (10 - (k + 1)))).toInt64 &&& 63)))), (4, .long (lN (pb_ub tf a % 128))), (0, .ref (ad 0))] := hl
            refine lv_goto (tgt := 4) hx hb dX4_read_103 rfl ?_
            exact lpX4_read_bad hx hb hml hown hts hK hA hE he9 hf (e9 - (a + 1)) (a + 1) 70 _ 1 H locs ls (by omega) (Or.inl rfl) (by omega) (lv_sub hl [0, 1, 3] rfl) hP hD hS (fun r a1 z1 => kq hrd r a1 (by omega)) (fun r a1 z1 => kr hrd r a1 (by omega))
          · refine lv_lload_n hx hb dX4_read_98 rfl (lv_at hl 0 rfl) ?_
            exact kr hrd _ (a + 1) (by omega) (by omega) H locs ls (lv_sub hl [] rfl) hP hD hS
    · have hae : a = e9 := (nI_eq (by omega) (by omega)).mp hc
      refine lv_aload_n hx hb dX4_read_15 rfl (lv_at hl 2 rfl) ?_
      refine lv_iconst (v := 1) hx hb dX4_read_16 (by decide) ?_
      refine va_put (D := (dC, dI)) (ci := 4) (v := .int 1) (ty := .boolean) (C := RX4) (T := TX4) (N := 17) (ref := "SortedRunModel") hx hb hts (xg_u mb_uws_X4) tyX4 tyX4_ok nmX4 hown hK hP hD hS 0 rfl rfl 16 (by decide) (xg_w hts mb_fieldLink_RX4_84) (fun _ h9 => h9) rfl (by decide +kernel) rfl rfl (Nat.le_of_ble_eq_true rfl) dX4_read_17 (fun H locs hP hD hS => ?_)
      have hP : va_P (dC, dI) vwCl (xm ad ca kf vf tf fr sf fi bk bv w ny nb mn (nI a) (nI e9) th op 1) H := hP
      have hD : va_D A (xm ad ca kf vf tf fr sf fi bk bv w ny nb mn (nI a) (nI e9) th op 1) := hD
      refine lv_lconst (v := 0) hx hb dX4_read_20 (by decide) ?_
      exact kq (pm_rd_end (by omega)) 0 a (Nat.le_refl _) (by omega) H locs ls (lv_sub hl [] rfl) hP hD hS

set_option maxHeartbeats 4000000 in
set_option maxRecDepth 100000 in
theorem cX4_read_m (l : Launch) (dC : Nat → ClassId) (dI : Nat → Nat → Nat) (ca : Nat → ClassId) (ad : Nat → Nat) (kf : Nat → Int32) (vf : Nat → Int64) (tf : Nat → Int32) (fr : Nat → Int32) (sf : Nat → Int32) (fi : Nat → Int32) (bk : Nat → Int32) (bv : Nat → Int64) (w : Int32) (ny : Int32) (nb : Int32) (mn : Int32) (th : Int32) (op : Int32) (wr : Int32) (a e9 : Nat) (ha : a ≤ e9) (he9 : e9 ≤ 6000) (hf : pb_fit tf) : ∀ sz : Nat, Met l yX4_read wsX4_read ({ frames := 0, cells := 0, slots := 0, locals := 0 } : Room) (va_Pc [.ref (ad 0)] (xP (dC, dI) (xt ca) (xm ad ca kf vf tf fr sf fi bk bv w ny nb mn (nI a) (nI e9) th op wr) sz)) (va_Ql (S := Nat × Int32) (fun r u => a ≤ u.1 ∧ u.1 ≤ e9 ∧ ((∃ n, pb_rd tf e9 a = some (n, u.1) ∧ r = lN n ∧ u.2 = wr) ∨ (pb_rd tf e9 a = none ∧ u.2 = 1))) (fun u t => xB (dC, dI) (xt ca) (va_A (xm ad ca kf vf tf fr sf fi bk bv w ny nb mn (nI a) (nI e9) th op wr) sz) (xm ad ca kf vf tf fr sf fi bk bv w ny nb mn (nI u.1) (nI e9) th op u.2) t) (va_A (xm ad ca kf vf tf fr sf fi bk bv w ny nb mn (nI a) (nI e9) th op wr) sz)) 0 0 (va_A (xm ad ca kf vf tf fr sf fi bk bv w ny nb mn (nI a) (nI e9) th op wr) sz) := by
  intro sz
  refine Met.ofW (cc := cX4_read) (maxL := 6) (ret := (some .long)) (by decide) rfl ?_
  intro p e s m args below meth c s₁ B hml hv
  obtain ⟨rfl, hsz, hP, hK, hD0, hE⟩ := hv
  have hx := B.exec
  have hb := B.bytes
  have hr := B.returns
  have hts := atoms_spec (ws := wsX4_read) B.pre
  have hown : s.vm.findClass RX4 = some m.cls := findClass_of_methodNamed B.named
  have hlocks := B.notSynchronized
  subst hsz
  have hD := hD0.self (sz := s.heap.size)
  generalize hAe : va_A (xm ad ca kf vf tf fr sf fi bk bv w ny nb mn (nI a) (nI e9) th op wr) s.heap.size = A at hD hE ⊢
  have hA : ∀ q : Nat, s.heap.size ≤ q → A q := fun q h => by rw [← hAe]; exact Or.inr h
  have hS : va_S A s.heap s.heap [] := va_S.rf
  have hl := lv_entry ([.ref (ad 0)]) (n := 6) (Nat.le_of_ble_eq_true rfl)
  rw [lg_entry_eq]
  generalize (lg_sl ([.ref (ad 0)]) ++ List.replicate (6 - (lg_sl ([.ref (ad 0)])).length) Slot.unset).toArray = ls at hl ⊢
  have hl : lv_has ls 6 [(0, .ref (ad 0))] := hl
  refine lv_lconst (v := lN 0) hx hb dX4_read_0 (by decide) ?_
  refine lv_lstore_n hx hb dX4_read_1 rfl hl (by decide) rfl (fun ls hl => ?_)
  have hl : lv_has ls 6 [(1, .long (lN 0)), (0, .ref (ad 0))] := hl
  refine lv_iconst (v := nI (7 * (10 - 10))) hx hb dX4_read_2 (by decide) ?_
  refine lv_istore_n hx hb dX4_read_3 rfl hl (by decide) rfl (fun ls hl => ?_)
  have hl : lv_has ls 6 [(3, .int (nI (7 * (10 - 10)))), (1, .long (lN 0)), (0, .ref (ad 0))] := hl
  refine lpX4_read_go hx hb hml hown hts hK hA hE he9 hf 10 a 0 _ _ _ (Nat.le_refl _) (by decide) ha (lv_sub hl [0, 1, 2] rfl) hP hD hS ?_ ?_ ?_
  · intro n a1 hq H locs ls hl hP hD hS
    have hin := pb_rd_in hq
    have hP9 := hP
    have hD9 := hD
    exact W.lret (v := lN n) hx hb hr (fun t ht hW => ⟨⟨lN n, (a1, wr), rfl, ⟨by show a ≤ a1; omega, hin.2, Or.inl ⟨n, hq, rfl, rfl⟩⟩, by rw [ht]; exact hP9, va_K.moved hW.alike hK, hD9⟩, hS.F ht⟩) hS.2.2 dX4_read_99
  · intro hq r a1 h1 h2 H locs ls hl hP hD hS
    have hP9 := hP
    have hD9 := hD
    exact W.lret (v := r) hx hb hr (fun t ht hW => ⟨⟨r, (a1, 1), rfl, ⟨h1, h2, Or.inr ⟨hq, rfl⟩⟩, by rw [ht]; exact hP9, va_K.moved hW.alike hK, hD9⟩, hS.F ht⟩) hS.2.2 dX4_read_21
  · intro hq r a1 h1 h2 H locs ls hl hP hD hS
    have hP9 := hP
    have hD9 := hD
    exact W.lret (v := r) hx hb hr (fun t ht hW => ⟨⟨r, (a1, 1), rfl, ⟨h1, h2, Or.inr ⟨hq, rfl⟩⟩, by rw [ht]; exact hP9, va_K.moved hW.alike hK, hD9⟩, hS.F ht⟩) hS.2.2 dX4_read_99

set_option maxHeartbeats 4000000 in
set_option maxRecDepth 100000 in
theorem cX4_small_m (l : Launch) (dC : Nat → ClassId) (dI : Nat → Nat → Nat) (ca : Nat → ClassId) (ad : Nat → Nat) (kf : Nat → Int32) (vf : Nat → Int64) (tf : Nat → Int32) (fr : Nat → Int32) (sf : Nat → Int32) (fi : Nat → Int32) (bk : Nat → Int32) (bv : Nat → Int64) (w : Int32) (ny : Int32) (nb : Int32) (mn : Int32) (th : Int32) (op : Int32) (wr : Int32) (a e9 : Nat) (ha : a ≤ e9) (he9 : e9 ≤ 6000) (hf : pb_fit tf) : ∀ sz : Nat, Met l yX4_small wsX4_small ({ frames := 1, cells := 0, slots := 0, locals := 25 } : Room) (va_Pc [.ref (ad 0)] (xP (dC, dI) (xt ca) (xm ad ca kf vf tf fr sf fi bk bv w ny nb mn (nI a) (nI e9) th op wr) sz)) (va_Ql (S := Nat × Int32) (fun r u => a ≤ u.1 ∧ u.1 ≤ e9 ∧ ((∃ n, pb_rd tf e9 a = some (n, u.1) ∧ n ≤ 4294967295 ∧ r = lN n ∧ u.2 = wr) ∨ ((∀ n a1, pb_rd tf e9 a = some (n, a1) → ¬ n ≤ 4294967295) ∧ u.2 = 1))) (fun u t => xB (dC, dI) (xt ca) (va_A (xm ad ca kf vf tf fr sf fi bk bv w ny nb mn (nI a) (nI e9) th op wr) sz) (xm ad ca kf vf tf fr sf fi bk bv w ny nb mn (nI u.1) (nI e9) th op u.2) t) (va_A (xm ad ca kf vf tf fr sf fi bk bv w ny nb mn (nI a) (nI e9) th op wr) sz)) 0 0 (va_A (xm ad ca kf vf tf fr sf fi bk bv w ny nb mn (nI a) (nI e9) th op wr) sz) := by
  intro sz
  refine Met.ofW (cc := cX4_small) (maxL := 3) (ret := (some .long)) (by decide) rfl ?_
  intro p e s m args below meth c s₁ B hml hv
  obtain ⟨rfl, hsz, hP, hK, hD0, hE⟩ := hv
  have hx := B.exec
  have hb := B.bytes
  have hr := B.returns
  have hts := atoms_spec (ws := wsX4_small) B.pre
  have hown : s.vm.findClass RX4 = some m.cls := findClass_of_methodNamed B.named
  have hlocks := B.notSynchronized
  subst hsz
  have hD := hD0.self (sz := s.heap.size)
  generalize hAe : va_A (xm ad ca kf vf tf fr sf fi bk bv w ny nb mn (nI a) (nI e9) th op wr) s.heap.size = A at hD hE ⊢
  have hA : ∀ q : Nat, s.heap.size ≤ q → A q := fun q h => by rw [← hAe]; exact Or.inr h
  have hS : va_S A s.heap s.heap [] := va_S.rf
  have hl := lv_entry ([.ref (ad 0)]) (n := 3) (Nat.le_of_ble_eq_true rfl)
  rw [lg_entry_eq]
  generalize (lg_sl ([.ref (ad 0)]) ++ List.replicate (3 - (lg_sl ([.ref (ad 0)])).length) Slot.unset).toArray = ls at hl ⊢
  have hl : lv_has ls 3 [(0, .ref (ad 0))] := hl
  refine lv_aload_n hx hb dX4_small_0 rfl (lv_at hl 0 rfl) ?_
  refine xk_l (va_runV (As := []) (rest := []) ⟨hx, hb, hml, hown, hts⟩ (cX4_read_m l dC dI ca ad kf vf tf fr sf fi bk bv w ny nb mn th op wr a e9 ha he9 hf _) (cwV 0 hts (xg_V mb_methodLink_RX4_87 mb_instanceMethod_yX4_read mb_selects_yX4_read mb_initialized_RX4 mb_code_yX4_read) rfl rfl rfl ⟨rfl, by decide, by decide, by decide +kernel⟩ ⟨Nat.le_of_ble_eq_true rfl, Nat.le_of_ble_eq_true rfl⟩) (xpreV (va_recv (q0 := 0) hK hP rfl rfl) hK hP hD hS hA hE) rfl rfl hl.1 rfl (lv_room (Nat.le_of_ble_eq_true rfl)) dX4_small_1 ⟨Nat.le_of_ble_eq_true rfl, Nat.le_of_ble_eq_true rfl⟩) hD hS hA (fun r u H locs hu hP hD hS => ?_)
  have hP : va_P (dC, dI) vwCl (xm ad ca kf vf tf fr sf fi bk bv w ny nb mn (nI u.1) (nI e9) th op u.2) H := hP
  have hD : va_D A (xm ad ca kf vf tf fr sf fi bk bv w ny nb mn (nI u.1) (nI e9) th op u.2) := hD
  obtain ⟨a1, w1⟩ := u
  obtain ⟨h1, h2, hu⟩ := hu
  dsimp only at h1 h2 hu hP hD
  rcases hu with hu | hu
  · obtain ⟨n, hq, rfl, hwr⟩ := hu
    rw [hwr] at hP hD
    have hf9 := pz_fit (pb_rd_lt hq)
    refine lv_lstore_n hx hb dX4_small_4 rfl hl (by decide) rfl (fun ls hl => ?_)
    have hl : lv_has ls 3 [(1, .long (lN n)), (0, .ref (ad 0))] := hl
    refine lv_lload_n hx hb dX4_small_5 rfl (lv_at hl 0 rfl) ?_
    refine lv_lconst (v := 0) hx hb dX4_small_6 (by decide) ?_
    refine W.lcmp hx hb dX4_small_7 ?_
    refine lv_if_lt (tgt := 19) hx hb dX4_small_8 rfl (fun hc => ?_) (fun hc => ?_)
    · have hq2 : ∀ n a2, pb_rd tf e9 a = some (n, a2) → ¬ n ≤ 4294967295 := fun n a2 z => by rw [hq] at z; cases z; exact fun y => (hf9.mpr y).1 (lc_lt.mp hc)
      refine lv_aload_n hx hb dX4_small_19 rfl (lv_at hl 1 rfl) ?_
      refine lv_iconst (v := 1) hx hb dX4_small_20 (by decide) ?_
      refine va_put (D := (dC, dI)) (ci := 4) (v := .int 1) (ty := .boolean) (C := RX4) (T := TX4) (N := 17) (ref := "SortedRunModel") hx hb hts (xg_u mb_uws_X4) tyX4 tyX4_ok nmX4 hown hK hP hD hS 0 rfl rfl 16 (by decide) (xg_w hts mb_fieldLink_RX4_84) (fun _ h9 => h9) rfl (by decide +kernel) rfl rfl (Nat.le_of_ble_eq_true rfl) dX4_small_21 (fun H locs hP hD hS => ?_)
      have hP : va_P (dC, dI) vwCl (xm ad ca kf vf tf fr sf fi bk bv w ny nb mn (nI a1) (nI e9) th op 1) H := hP
      have hD : va_D A (xm ad ca kf vf tf fr sf fi bk bv w ny nb mn (nI a1) (nI e9) th op 1) := hD
      refine lv_lload_n hx hb dX4_small_24 rfl (lv_at hl 0 rfl) ?_
      have hP9 := hP
      have hD9 := hD
      exact W.lret (v := lN n) hx hb hr (fun t ht hW => ⟨⟨lN n, (a1, 1), rfl, ⟨h1, h2, Or.inr ⟨hq2, rfl⟩⟩, by rw [ht]; exact hP9, va_K.moved hW.alike hK, hD9⟩, hS.F ht⟩) hS.2.2 dX4_small_25
    · have hc1 : ¬ lN n < 0 := fun y => hc (lc_lt.mpr y)
      refine lv_lload_n hx hb dX4_small_11 rfl (lv_at hl 0 rfl) ?_
      refine lv_ldc2 (v := lN 4294967295) hx hb hown (xg_w hts mb_constantLong_RX4_91) dX4_small_12 ?_
      refine W.lcmp hx hb dX4_small_15 ?_
      refine lv_if_le (tgt := 24) hx hb dX4_small_16 rfl (fun hc2 => ?_) (fun hc2 => ?_)
      · refine lv_lload_n hx hb dX4_small_24 rfl (lv_at hl 0 rfl) ?_
        have hP9 := hP
        have hD9 := hD
        exact W.lret (v := lN n) hx hb hr (fun t ht hW => ⟨⟨lN n, (a1, wr), rfl, ⟨h1, h2, Or.inl ⟨n, hq, hf9.mp ⟨hc1, lc_le.mp hc2⟩, rfl, rfl⟩⟩, by rw [ht]; exact hP9, va_K.moved hW.alike hK, hD9⟩, hS.F ht⟩) hS.2.2 dX4_small_25
      · have hq2 : ∀ n a2, pb_rd tf e9 a = some (n, a2) → ¬ n ≤ 4294967295 := fun n a2 z => by rw [hq] at z; cases z; exact fun y => hc2 (lc_le.mpr (hf9.mpr y).2)
        refine lv_aload_n hx hb dX4_small_19 rfl (lv_at hl 1 rfl) ?_
        refine lv_iconst (v := 1) hx hb dX4_small_20 (by decide) ?_
        refine va_put (D := (dC, dI)) (ci := 4) (v := .int 1) (ty := .boolean) (C := RX4) (T := TX4) (N := 17) (ref := "SortedRunModel") hx hb hts (xg_u mb_uws_X4) tyX4 tyX4_ok nmX4 hown hK hP hD hS 0 rfl rfl 16 (by decide) (xg_w hts mb_fieldLink_RX4_84) (fun _ h9 => h9) rfl (by decide +kernel) rfl rfl (Nat.le_of_ble_eq_true rfl) dX4_small_21 (fun H locs hP hD hS => ?_)
        have hP : va_P (dC, dI) vwCl (xm ad ca kf vf tf fr sf fi bk bv w ny nb mn (nI a1) (nI e9) th op 1) H := hP
        have hD : va_D A (xm ad ca kf vf tf fr sf fi bk bv w ny nb mn (nI a1) (nI e9) th op 1) := hD
        refine lv_lload_n hx hb dX4_small_24 rfl (lv_at hl 0 rfl) ?_
        have hP9 := hP
        have hD9 := hD
        exact W.lret (v := lN n) hx hb hr (fun t ht hW => ⟨⟨lN n, (a1, 1), rfl, ⟨h1, h2, Or.inr ⟨hq2, rfl⟩⟩, by rw [ht]; exact hP9, va_K.moved hW.alike hK, hD9⟩, hS.F ht⟩) hS.2.2 dX4_small_25
  · obtain ⟨hq, rfl⟩ := hu
    have hq2 : ∀ n a2, pb_rd tf e9 a = some (n, a2) → ¬ n ≤ 4294967295 := fun n a2 z => by rw [hq] at z; cases z
    refine lv_lstore_n hx hb dX4_small_4 rfl hl (by decide) rfl (fun ls hl => ?_)
    have hl : lv_has ls 3 [(1, .long r), (0, .ref (ad 0))] := hl
    refine lv_lload_n hx hb dX4_small_5 rfl (lv_at hl 0 rfl) ?_
    refine lv_lconst (v := 0) hx hb dX4_small_6 (by decide) ?_
    refine W.lcmp hx hb dX4_small_7 ?_
    refine lv_if_lt (tgt := 19) hx hb dX4_small_8 rfl (fun hc => ?_) (fun hc => ?_)
    · refine lv_aload_n hx hb dX4_small_19 rfl (lv_at hl 1 rfl) ?_
      refine lv_iconst (v := 1) hx hb dX4_small_20 (by decide) ?_
      refine va_put (D := (dC, dI)) (ci := 4) (v := .int 1) (ty := .boolean) (C := RX4) (T := TX4) (N := 17) (ref := "SortedRunModel") hx hb hts (xg_u mb_uws_X4) tyX4 tyX4_ok nmX4 hown hK hP hD hS 0 rfl rfl 16 (by decide) (xg_w hts mb_fieldLink_RX4_84) (fun _ h9 => h9) rfl (by decide +kernel) rfl rfl (Nat.le_of_ble_eq_true rfl) dX4_small_21 (fun H locs hP hD hS => ?_)
      have hP : va_P (dC, dI) vwCl (xm ad ca kf vf tf fr sf fi bk bv w ny nb mn (nI a1) (nI e9) th op 1) H := hP
      have hD : va_D A (xm ad ca kf vf tf fr sf fi bk bv w ny nb mn (nI a1) (nI e9) th op 1) := hD
      refine lv_lload_n hx hb dX4_small_24 rfl (lv_at hl 0 rfl) ?_
      have hP9 := hP
      have hD9 := hD
      exact W.lret (v := r) hx hb hr (fun t ht hW => ⟨⟨r, (a1, 1), rfl, ⟨h1, h2, Or.inr ⟨hq2, rfl⟩⟩, by rw [ht]; exact hP9, va_K.moved hW.alike hK, hD9⟩, hS.F ht⟩) hS.2.2 dX4_small_25
    · refine lv_lload_n hx hb dX4_small_11 rfl (lv_at hl 0 rfl) ?_
      refine lv_ldc2 (v := lN 4294967295) hx hb hown (xg_w hts mb_constantLong_RX4_91) dX4_small_12 ?_
      refine W.lcmp hx hb dX4_small_15 ?_
      refine lv_if_le (tgt := 24) hx hb dX4_small_16 rfl (fun hc2 => ?_) (fun hc2 => ?_)
      · refine lv_lload_n hx hb dX4_small_24 rfl (lv_at hl 0 rfl) ?_
        have hP9 := hP
        have hD9 := hD
        exact W.lret (v := r) hx hb hr (fun t ht hW => ⟨⟨r, (a1, 1), rfl, ⟨h1, h2, Or.inr ⟨hq2, rfl⟩⟩, by rw [ht]; exact hP9, va_K.moved hW.alike hK, hD9⟩, hS.F ht⟩) hS.2.2 dX4_small_25
      · refine lv_aload_n hx hb dX4_small_19 rfl (lv_at hl 1 rfl) ?_
        refine lv_iconst (v := 1) hx hb dX4_small_20 (by decide) ?_
        refine va_put (D := (dC, dI)) (ci := 4) (v := .int 1) (ty := .boolean) (C := RX4) (T := TX4) (N := 17) (ref := "SortedRunModel") hx hb hts (xg_u mb_uws_X4) tyX4 tyX4_ok nmX4 hown hK hP hD hS 0 rfl rfl 16 (by decide) (xg_w hts mb_fieldLink_RX4_84) (fun _ h9 => h9) rfl (by decide +kernel) rfl rfl (Nat.le_of_ble_eq_true rfl) dX4_small_21 (fun H locs hP hD hS => ?_)
        have hP : va_P (dC, dI) vwCl (xm ad ca kf vf tf fr sf fi bk bv w ny nb mn (nI a1) (nI e9) th op 1) H := hP
        have hD : va_D A (xm ad ca kf vf tf fr sf fi bk bv w ny nb mn (nI a1) (nI e9) th op 1) := hD
        refine lv_lload_n hx hb dX4_small_24 rfl (lv_at hl 0 rfl) ?_
        have hP9 := hP
        have hD9 := hD
        exact W.lret (v := r) hx hb hr (fun t ht hW => ⟨⟨r, (a1, 1), rfl, ⟨h1, h2, Or.inr ⟨hq2, rfl⟩⟩, by rw [ht]; exact hP9, va_K.moved hW.alike hK, hD9⟩, hS.F ht⟩) hS.2.2 dX4_small_25
