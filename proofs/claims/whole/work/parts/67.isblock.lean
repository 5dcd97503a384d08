/-! SortedRunModel: isBlock (rows by wip/whole/wmod4.py) -/
set_option maxHeartbeats 4000000 in
set_option maxRecDepth 100000 in
theorem lpX4_isBlock_bl {p : Program} {l : Launch} {e : Env} {s : State} {m : MethodId} {args : Array Value} {below : List Frame} {meth : Method} {c : Code} {Q : State → Prop} {A : Nat → Prop} {dC : Nat → ClassId} {dI : Nat → Nat → Nat} {ca : Nat → ClassId} {ad : Nat → Nat} (hx : p.tables.exec = Jvm.exec) (hb : c.code = cX4_isBlock) (hml : c.maxLocals = 6) (hown : s.vm.findClass RX4 = some m.cls) (hts : ∀ w ∈ wsX4_isBlock, w.before args s = true) (hK : va_K (dC, dI) vwCl (xt ca) s) (hA : ∀ q : Nat, s.heap.size ≤ q → A q) (hE : xn_E A s) {kf : Nat → Int32} {vf : Nat → Int64} {tf : Nat → Int32} {fr : Nat → Int32} {sf : Nat → Int32} {fi : Nat → Int32} {w : Int32} {ny : Int32} {nb : Int32} {th : Int32} {op : Int32} {e9 : Nat} (he9 : e9 ≤ 4889) (hf : pb_fit tf) : ∀ (k : Nat) (a c9 : Nat) (ek : Int32) (bk : Nat → Int32) (bv : Nat → Int64) (H : Heap) (locs : List Loc) (ls : Array Slot), e9 ≤ a + k → a ≤ e9 → 2 * c9 ≤ a → (0 < c9 → bk (c9 - 1) = ek) → lv_has ls 6 [(0, .ref (ad 0))] → va_P (dC, dI) vwCl (xm ad ca kf vf tf fr sf fi bk bv w ny nb (nI c9) (nI a) (nI e9) th op 0) H → va_D A (xm ad ca kf vf tf fr sf fi bk bv w ny nb (nI c9) (nI a) (nI e9) th op 0) → va_S A s.heap H locs → (∀ lb, pe_bl tf e9 e9 (decide (c9 = 0)) ek a = some lb → ∀ (ck : Nat → Int32) (cv : Nat → Int64) (x2 : Int32), (∀ j, j < c9 → ck j = bk j ∧ cv j = bv j) → (∀ i, i < lb.length → ck (c9 + i) = (lb.getD i (0, 0)).1 ∧ cv (c9 + i) = (lb.getD i (0, 0)).2) → ∀ (H : Heap) (locs : List Loc) (ls : Array Slot), lv_has ls 6 [(0, .ref (ad 0))] → va_P (dC, dI) vwCl (xm ad ca kf vf tf fr sf fi ck cv w ny nb (nI (c9 + lb.length)) x2 (nI e9) th op 0) H → va_D A (xm ad ca kf vf tf fr sf fi ck cv w ny nb (nI (c9 + lb.length)) x2 (nI e9) th op 0) → va_S A s.heap H locs → W p l e ({ frames := 2, cells := 0, slots := 0, locals := 50 } : Room) s m args below meth c H locs 0 0 Q (F0 m 165 ls [])) → (pe_bl tf e9 e9 (decide (c9 = 0)) ek a = none → ∀ (ck : Nat → Int32) (cv : Nat → Int64) (x1 x2 : Int32), ∀ (H : Heap) (locs : List Loc) (ls : Array Slot), lv_has ls 6 [(0, .ref (ad 0))] → va_P (dC, dI) vwCl (xm ad ca kf vf tf fr sf fi ck cv w ny nb x1 x2 (nI e9) th op 1) H → va_D A (xm ad ca kf vf tf fr sf fi ck cv w ny nb x1 x2 (nI e9) th op 1) → va_S A s.heap H locs → W p l e ({ frames := 2, cells := 0, slots := 0, locals := 50 } : Room) s m args below meth c H locs 0 0 Q (F0 m 165 ls [])) → W p l e ({ frames := 2, cells := 0, slots := 0, locals := 50 } : Room) s m args below meth c H locs 0 0 Q (F0 m 68 ls []) := by
  intro k
  induction k with
  | zero =>
    intro a c9 ek bk bv H locs ls hk ha h2c hek hl hP hD hS kg kb
    have hl : lv_has ls 6 [(0, .ref (ad 0))] := hl
    refine lv_aload_n hx hb dX4_isBlock_68 rfl (lv_at hl 0 rfl) ?_
    refine va_get (D := (dC, dI)) (ci := 4) (v := .int (nI a)) (C := RX4) (T := TX4) (N := 17) (ref := "SortedRunModel") hx hb hts (xg_u mb_uws_X4) hown hK hP 0 rfl rfl 12 (by decide) (xg_w hts mb_fieldLink_RX4_78) (fun _ h9 => h9) rfl dX4_isBlock_69 ?_
    refine lv_aload_n hx hb dX4_isBlock_72 rfl (lv_at hl 0 rfl) ?_
    refine va_get (D := (dC, dI)) (ci := 4) (v := .int (nI e9)) (C := RX4) (T := TX4) (N := 17) (ref := "SortedRunModel") hx hb hts (xg_u mb_uws_X4) hown hK hP 0 rfl rfl 13 (by decide) (xg_w hts mb_fieldLink_RX4_81) (fun _ h9 => h9) rfl dX4_isBlock_73 ?_
    refine lv_icmp_ge (tgt := 165) hx hb dX4_isBlock_76 rfl (fun hc => ?_) (fun hc => absurd hc (not_not_intro (nI_le (by omega) (by omega))))
    exact kg [] (pe_bl_end (by omega)) bk bv _ (fun j _ => ⟨rfl, rfl⟩) (fun i hi => absurd hi (Nat.not_lt_zero i)) H locs ls (lv_sub hl [0] rfl) hP hD hS
  | succ k ih =>
    intro a c9 ek bk bv H locs ls hk ha h2c hek hl hP hD hS kg kb
    have hl : lv_has ls 6 [(0, .ref (ad 0))] := hl
    refine lv_aload_n hx hb dX4_isBlock_68 rfl (lv_at hl 0 rfl) ?_
    refine va_get (D := (dC, dI)) (ci := 4) (v := .int (nI a)) (C := RX4) (T := TX4) (N := 17) (ref := "SortedRunModel") hx hb hts (xg_u mb_uws_X4) hown hK hP 0 rfl rfl 12 (by decide) (xg_w hts mb_fieldLink_RX4_78) (fun _ h9 => h9) rfl dX4_isBlock_69 ?_
    refine lv_aload_n hx hb dX4_isBlock_72 rfl (lv_at hl 0 rfl) ?_
    refine va_get (D := (dC, dI)) (ci := 4) (v := .int (nI e9)) (C := RX4) (T := TX4) (N := 17) (ref := "SortedRunModel") hx hb hts (xg_u mb_uws_X4) hown hK hP 0 rfl rfl 13 (by decide) (xg_w hts mb_fieldLink_RX4_81) (fun _ h9 => h9) rfl dX4_isBlock_73 ?_
    refine lv_icmp_ge (tgt := 165) hx hb dX4_isBlock_76 rfl (fun hc => ?_) (fun hc => ?_)
    · have hge : e9 ≤ a := (nI_leI (by omega) (by omega)).mp hc
      exact kg [] (pe_bl_end (by omega)) bk bv _ (fun j _ => ⟨rfl, rfl⟩) (fun i hi => absurd hi (Nat.not_lt_zero i)) H locs ls (lv_sub hl [0] rfl) hP hD hS
    · have hlt : a < e9 := Nat.lt_of_not_le (fun z => hc (nI_le z (by omega)))
      refine lv_aload_n hx hb dX4_isBlock_79 rfl (lv_at hl 0 rfl) ?_
      refine va_get (D := (dC, dI)) (ci := 4) (v := .int 0) (C := RX4) (T := TX4) (N := 17) (ref := "SortedRunModel") hx hb hts (xg_u mb_uws_X4) hown hK hP 0 rfl rfl 16 (by decide) (xg_w hts mb_fieldLink_RX4_84) (fun _ h9 => h9) rfl dX4_isBlock_80 ?_
      refine lv_if_ne (tgt := 165) hx hb dX4_isBlock_83 rfl (fun hc => absurd hc (not_not_intro rfl)) (fun hc => ?_)
      refine lv_aload_n hx hb dX4_isBlock_86 rfl (lv_at hl 0 rfl) ?_
      refine xk_l (va_runV (As := []) (rest := []) ⟨hx, hb, hml, hown, hts⟩ (cX4_read_m l dC dI ca ad kf vf tf fr sf fi bk bv w ny nb (nI c9) th op 0 a e9 ha (by omega) hf _) (cwV 0 hts (xg_V mb_methodLink_RX4_87 mb_instanceMethod_yX4_read mb_selects_yX4_read mb_initialized_RX4 mb_code_yX4_read) rfl rfl rfl ⟨rfl, by decide, by decide, by decide +kernel⟩ ⟨Nat.le_of_ble_eq_true rfl, Nat.le_of_ble_eq_true rfl⟩) (xpreV (va_recv (q0 := 0) hK hP rfl rfl) hK hP hD hS hA hE) rfl rfl hl.1 rfl (lv_room (Nat.le_of_ble_eq_true rfl)) dX4_isBlock_87 ⟨Nat.le_of_ble_eq_true rfl, Nat.le_of_ble_eq_true rfl⟩) hD hS hA (fun r1 u H locs hu1 hP hD hS => ?_)
      have hP : va_P (dC, dI) vwCl (xm ad ca kf vf tf fr sf fi bk bv w ny nb (nI c9) (nI u.1) (nI e9) th op u.2) H := hP
      have hD : va_D A (xm ad ca kf vf tf fr sf fi bk bv w ny nb (nI c9) (nI u.1) (nI e9) th op u.2) := hD
      obtain ⟨a1, w1⟩ := u
      obtain ⟨g1, g2, hu1⟩ := hu1
      dsimp only at g1 g2 hu1 hP hD
      refine lv_lstore_n hx hb dX4_isBlock_90 rfl hl (by decide) rfl (fun ls hl => ?_)
      have hl : lv_has ls 6 [(2, .long r1), (0, .ref (ad 0))] := hl
      refine lv_aload_n hx hb dX4_isBlock_91 rfl (lv_at hl 1 rfl) ?_
      refine xk_l (va_runV (As := []) (rest := []) ⟨hx, hb, hml, hown, hts⟩ (cX4_read_m l dC dI ca ad kf vf tf fr sf fi bk bv w ny nb (nI c9) th op w1 a1 e9 g2 (by omega) hf _) (cwV 0 hts (xg_V mb_methodLink_RX4_87 mb_instanceMethod_yX4_read mb_selects_yX4_read mb_initialized_RX4 mb_code_yX4_read) rfl rfl rfl ⟨rfl, by decide, by decide, by decide +kernel⟩ ⟨Nat.le_of_ble_eq_true rfl, Nat.le_of_ble_eq_true rfl⟩) (xpreV (va_recv (q0 := 0) hK hP rfl rfl) hK hP hD hS hA hE) rfl rfl hl.1 rfl (lv_room (Nat.le_of_ble_eq_true rfl)) dX4_isBlock_92 ⟨Nat.le_of_ble_eq_true rfl, Nat.le_of_ble_eq_true rfl⟩) hD hS hA (fun r2 u H locs hu2 hP hD hS => ?_)
      have hP : va_P (dC, dI) vwCl (xm ad ca kf vf tf fr sf fi bk bv w ny nb (nI c9) (nI u.1) (nI e9) th op u.2) H := hP
      have hD : va_D A (xm ad ca kf vf tf fr sf fi bk bv w ny nb (nI c9) (nI u.1) (nI e9) th op u.2) := hD
      obtain ⟨a2, w2⟩ := u
      obtain ⟨g3, g4, hu2⟩ := hu2
      dsimp only at g3 g4 hu2 hP hD
      rcases hu1 with hu1 | hu1
      · obtain ⟨n1, p1, p3, p4⟩ := hu1
        rcases hu2 with hu2 | hu2
        · obtain ⟨n2, q1, q3, q4⟩ := hu2
          subst p3
          subst q3
          have hw2 : w2 = 0 := q4.trans p4
          subst hw2
          have hrd := pm_e2 (fst := decide (c9 = 0)) (key := ek) p1 q1
          have hin := pe_rd_in hrd
          refine lv_lstore hx hb dX4_isBlock_95 hl (by decide) rfl (fun ls hl => ?_)
          have hl : lv_has ls 6 [(4, .long (lN n2)), (2, .long (lN n1)), (0, .ref (ad 0))] := hl
          refine lv_aload_n hx hb dX4_isBlock_97 rfl (lv_at hl 2 rfl) ?_
          refine va_get (D := (dC, dI)) (ci := 4) (v := .ref (ad 7)) (C := RX4) (T := TX4) (N := 17) (ref := "SortedRunModel") hx hb hts (xg_u mb_uws_X4) hown hK hP 0 rfl rfl 6 (by decide) (xg_w hts mb_fieldLink_RX4_30) (fun _ h9 => h9) rfl dX4_isBlock_98 ?_
          refine lv_aload_n hx hb dX4_isBlock_101 rfl (lv_at hl 2 rfl) ?_
          refine va_get (D := (dC, dI)) (ci := 4) (v := .int (nI c9)) (C := RX4) (T := TX4) (N := 17) (ref := "SortedRunModel") hx hb hts (xg_u mb_uws_X4) hown hK hP 0 rfl rfl 11 (by decide) (xg_w hts mb_fieldLink_RX4_110) (fun _ h9 => h9) rfl dX4_isBlock_102 ?_
          refine lv_aload_n hx hb dX4_isBlock_105 rfl (lv_at hl 2 rfl) ?_
          refine va_get (D := (dC, dI)) (ci := 4) (v := .int (nI c9)) (C := RX4) (T := TX4) (N := 17) (ref := "SortedRunModel") hx hb hts (xg_u mb_uws_X4) hown hK hP 0 rfl rfl 11 (by decide) (xg_w hts mb_fieldLink_RX4_110) (fun _ h9 => h9) rfl dX4_isBlock_106 ?_
          refine lv_if_ne (tgt := 120) hx hb dX4_isBlock_109 rfl (fun hc3 => ?_) (fun hc3 => ?_)
          · have hc0 : ¬ c9 = 0 := fun z => hc3 (congrArg nI z)
            refine lv_aload_n hx hb dX4_isBlock_120 rfl (lv_at hl 2 rfl) ?_
            refine va_get (D := (dC, dI)) (ci := 4) (v := .ref (ad 7)) (C := RX4) (T := TX4) (N := 17) (ref := "SortedRunModel") hx hb hts (xg_u mb_uws_X4) hown hK hP 0 rfl rfl 6 (by decide) (xg_w hts mb_fieldLink_RX4_30) (fun _ h9 => h9) rfl dX4_isBlock_121 ?_
            refine lv_aload_n hx hb dX4_isBlock_124 rfl (lv_at hl 2 rfl) ?_
            refine va_get (D := (dC, dI)) (ci := 4) (v := .int (nI c9)) (C := RX4) (T := TX4) (N := 17) (ref := "SortedRunModel") hx hb hts (xg_u mb_uws_X4) hown hK hP 0 rfl rfl 11 (by decide) (xg_w hts mb_fieldLink_RX4_110) (fun _ h9 => h9) rfl dX4_isBlock_125 ?_
            refine lv_iconst (v := nI 1) hx hb dX4_isBlock_128 (by decide) ?_
            refine lv_isub hx hb dX4_isBlock_129 ?_
            refine lv_topi (fun z1 ez1 => ?_)
            have ez1 : z1 = nI (c9 - 1) := ez1.trans (pk_sub (by omega))
            subst ez1
            refine va_iald hx hb hK hP 7 6 rfl rfl (vp_in_nI (by omega) (by decide)) dX4_isBlock_130 ?_
            refine lv_topi (fun z2 ez2 => ?_)
            have ez2 : z2 = bk (c9 - 1) := ez2.trans (congrArg bk (nI_clamp (by omega)))
            subst ez2
            refine lv_i2l (v := (bk (c9 - 1)).toInt64) hx hb dX4_isBlock_131 (rfl) ?_
            refine lv_lload_n hx hb dX4_isBlock_132 rfl (lv_at hl 1 rfl) ?_
            refine lv_ladd hx hb dX4_isBlock_133 ?_
            refine lv_lconst (v := 1) hx hb dX4_isBlock_134 (by decide) ?_
            refine lv_ladd hx hb dX4_isBlock_135 ?_
            refine lv_l2i (v := pe_key (decide (c9 = 0)) ek n1) hx hb dX4_isBlock_136 (by unfold pe_key; rw [if_neg (fun z => hc0 (of_decide_eq_true z)), hek (by omega)]) ?_
            refine va_iast hx hb hK hP hD hS 7 6 rfl rfl (vp_in_nI (by omega) (by decide)) dX4_isBlock_137 (fun H locs hP hD hS => ?_)
            have e9 : upd bk (nI c9).toNatClampNeg (pe_key (decide (c9 = 0)) ek n1) = upd bk c9 (pe_key (decide (c9 = 0)) ek n1) := by rw [nI_clamp (by omega)]
            rw [e9] at hP hD
            clear e9
            have hP : va_P (dC, dI) vwCl (xm ad ca kf vf tf fr sf fi (upd bk c9 (pe_key (decide (c9 = 0)) ek n1)) bv w ny nb (nI c9) (nI a2) (nI e9) th op 0) H := hP
            have hD : va_D A (xm ad ca kf vf tf fr sf fi (upd bk c9 (pe_key (decide (c9 = 0)) ek n1)) bv w ny nb (nI c9) (nI a2) (nI e9) th op 0) := hD
            refine lv_aload_n hx hb dX4_isBlock_138 rfl (lv_at hl 2 rfl) ?_
            refine va_get (D := (dC, dI)) (ci := 4) (v := .ref (ad 8)) (C := RX4) (T := TX4) (N := 17) (ref := "SortedRunModel") hx hb hts (xg_u mb_uws_X4) hown hK hP 0 rfl rfl 7 (by decide) (xg_w hts mb_fieldLink_RX4_33) (fun _ h9 => h9) rfl dX4_isBlock_139 ?_
            refine lv_aload_n hx hb dX4_isBlock_142 rfl (lv_at hl 2 rfl) ?_
            refine va_get (D := (dC, dI)) (ci := 4) (v := .int (nI c9)) (C := RX4) (T := TX4) (N := 17) (ref := "SortedRunModel") hx hb hts (xg_u mb_uws_X4) hown hK hP 0 rfl rfl 11 (by decide) (xg_w hts mb_fieldLink_RX4_110) (fun _ h9 => h9) rfl dX4_isBlock_143 ?_
            refine lv_lload hx hb dX4_isBlock_146 (lv_at hl 0 rfl) ?_
            refine xk_l (va_runS (As := [.long (lN n2)]) (rest := [.int (nI c9), .ref (ad 8)]) ⟨hx, hb, hml, hown, hts⟩ (cX4_unfold_m l dC dI ca ad kf vf tf fr sf fi (upd bk c9 (pe_key (decide (c9 = 0)) ek n1)) bv w ny nb (nI c9) (nI a2) (nI e9) th op 0 (lN n2) _) (cwS 1 hts (xg_S mb_methodLink_RX4_107 mb_static_yX4_unfold mb_initialized_RX4 mb_code_yX4_unfold) rfl rfl rfl ⟨rfl, by decide, by decide, by decide +kernel⟩ ⟨Nat.le_of_ble_eq_true rfl, Nat.le_of_ble_eq_true rfl⟩) (xpreS hK hP hD hS hA hE) rfl rfl hl.1 rfl (lv_room (Nat.le_of_ble_eq_true rfl)) dX4_isBlock_148 ⟨Nat.le_of_ble_eq_true rfl, Nat.le_of_ble_eq_true rfl⟩) hD hS hA (fun r u H locs hu hP hD hS => ?_)
            subst hu
            have hP : va_P (dC, dI) vwCl (xm ad ca kf vf tf fr sf fi (upd bk c9 (pe_key (decide (c9 = 0)) ek n1)) bv w ny nb (nI c9) (nI a2) (nI e9) th op 0) H := hP
            have hD : va_D A (xm ad ca kf vf tf fr sf fi (upd bk c9 (pe_key (decide (c9 = 0)) ek n1)) bv w ny nb (nI c9) (nI a2) (nI e9) th op 0) := hD
            refine va_last hx hb hK hP hD hS 8 7 rfl rfl (vp_in_nI (by omega) (by decide)) dX4_isBlock_151 (fun H locs hP hD hS => ?_)
            have e9 : vp_updL bv (nI c9).toNatClampNeg (pu_u (lN n2)) = vp_updL bv c9 (pu_u (lN n2)) := by rw [nI_clamp (by omega)]
            rw [e9] at hP hD
            clear e9
            have hP : va_P (dC, dI) vwCl (xm ad ca kf vf tf fr sf fi (upd bk c9 (pe_key (decide (c9 = 0)) ek n1)) (vp_updL bv c9 (pu_u (lN n2))) w ny nb (nI c9) (nI a2) (nI e9) th op 0) H := hP
            have hD : va_D A (xm ad ca kf vf tf fr sf fi (upd bk c9 (pe_key (decide (c9 = 0)) ek n1)) (vp_updL bv c9 (pu_u (lN n2))) w ny nb (nI c9) (nI a2) (nI e9) th op 0) := hD
            refine lv_aload_n hx hb dX4_isBlock_152 rfl (lv_at hl 2 rfl) ?_
            refine lv_dup hx hb dX4_isBlock_153 rfl ?_
            refine va_get (D := (dC, dI)) (ci := 4) (v := .int (nI c9)) (C := RX4) (T := TX4) (N := 17) (ref := "SortedRunModel") hx hb hts (xg_u mb_uws_X4) hown hK hP 0 rfl rfl 11 (by decide) (xg_w hts mb_fieldLink_RX4_110) (fun _ h9 => h9) rfl dX4_isBlock_154 ?_
            refine lv_iconst (v := 1) hx hb dX4_isBlock_157 (by decide) ?_
            refine lv_iadd hx hb dX4_isBlock_158 ?_
            refine lv_topi (fun z3 ez3 => ?_)
            have ez3 : z3 = nI (c9 + 1) := ez3.trans (nI_1 c9)
            subst ez3
            refine va_put (D := (dC, dI)) (ci := 4) (v := .int (nI (c9 + 1))) (ty := .int) (C := RX4) (T := TX4) (N := 17) (ref := "SortedRunModel") hx hb hts (xg_u mb_uws_X4) tyX4 tyX4_ok nmX4 hown hK hP hD hS 0 rfl rfl 11 (by decide) (xg_w hts mb_fieldLink_RX4_110) (fun _ h9 => h9) rfl (by decide +kernel) rfl rfl (Nat.le_of_ble_eq_true rfl) dX4_isBlock_159 (fun H locs hP hD hS => ?_)
            have hP : va_P (dC, dI) vwCl (xm ad ca kf vf tf fr sf fi (upd bk c9 (pe_key (decide (c9 = 0)) ek n1)) (vp_updL bv c9 (pu_u (lN n2))) w ny nb (nI (c9 + 1)) (nI a2) (nI e9) th op 0) H := hP
            have hD : va_D A (xm ad ca kf vf tf fr sf fi (upd bk c9 (pe_key (decide (c9 = 0)) ek n1)) (vp_updL bv c9 (pu_u (lN n2))) w ny nb (nI (c9 + 1)) (nI a2) (nI e9) th op 0) := hD
            refine lv_goto (tgt := 68) hx hb dX4_isBlock_162 rfl ?_
            have hbs := pe_bl_some hlt hrd
            refine ih a2 (c9 + 1) (pe_key (decide (c9 = 0)) ek n1) (upd bk c9 (pe_key (decide (c9 = 0)) ek n1)) (vp_updL bv c9 (pu_u (lN n2))) _ _ _ (by omega) g4 (by omega) (fun _ => pk_us) (lv_sub hl [2] rfl) hP hD hS (fun lb hlb ck cv x2 hkeep hrw H locs ls hl hP hD hS => ?_) (fun hno => kb (by rw [hbs]; rw [show (decide (c9 + 1 = 0)) = false from rfl] at hno; rw [hno]; rfl))
            rw [show (decide (c9 + 1 = 0)) = false from rfl] at hlb
            have hk9 := hkeep c9 (Nat.lt_succ_self c9)
            rw [pk_us, pk_uLs] at hk9
            rw [show c9 + 1 + lb.length = c9 + ((pe_key (decide (c9 = 0)) ek n1, pu_u (lN n2)) :: lb).length by simp; omega] at hP hD
            refine kg ((pe_key (decide (c9 = 0)) ek n1, pu_u (lN n2)) :: lb) (by rw [hbs, hlb]; rfl) ck cv x2 (fun j hj => by have := hkeep j (by omega); rw [pk_un (by omega), pk_uLn (by omega)] at this; exact this) (fun i hi => ?_) H locs ls hl hP hD hS
            cases i with
            | zero => exact hk9
            | succ i =>
              have h5 := hrw i (Nat.lt_of_succ_lt_succ hi)
              rw [show c9 + 1 + i = c9 + (i + 1) by omega] at h5
              exact h5
          · have hc0 : c9 = 0 := (nI_eq (b := 0) (by omega) (by decide)).mp hc3
            refine lv_lload_n hx hb dX4_isBlock_112 rfl (lv_at hl 1 rfl) ?_
            refine xk_l (va_runS (As := [.long (lN n1)]) (rest := [.int (nI c9), .ref (ad 7)]) ⟨hx, hb, hml, hown, hts⟩ (cX4_unfold_m l dC dI ca ad kf vf tf fr sf fi bk bv w ny nb (nI c9) (nI a2) (nI e9) th op 0 (lN n1) _) (cwS 1 hts (xg_S mb_methodLink_RX4_107 mb_static_yX4_unfold mb_initialized_RX4 mb_code_yX4_unfold) rfl rfl rfl ⟨rfl, by decide, by decide, by decide +kernel⟩ ⟨Nat.le_of_ble_eq_true rfl, Nat.le_of_ble_eq_true rfl⟩) (xpreS hK hP hD hS hA hE) rfl rfl hl.1 rfl (lv_room (Nat.le_of_ble_eq_true rfl)) dX4_isBlock_113 ⟨Nat.le_of_ble_eq_true rfl, Nat.le_of_ble_eq_true rfl⟩) hD hS hA (fun r u H locs hu hP hD hS => ?_)
            subst hu
            have hP : va_P (dC, dI) vwCl (xm ad ca kf vf tf fr sf fi bk bv w ny nb (nI c9) (nI a2) (nI e9) th op 0) H := hP
            have hD : va_D A (xm ad ca kf vf tf fr sf fi bk bv w ny nb (nI c9) (nI a2) (nI e9) th op 0) := hD
            refine lv_l2i (v := (pu_u (lN n1)).toInt32) hx hb dX4_isBlock_116 (rfl) ?_
            refine lv_goto (tgt := 137) hx hb dX4_isBlock_117 rfl ?_
            refine lv_topi (fun z1 ez1 => ?_)
            have ez1 : z1 = pe_key (decide (c9 = 0)) ek n1 := ez1.trans (by unfold pe_key; rw [if_pos (decide_eq_true hc0)])
            subst ez1
            refine va_iast hx hb hK hP hD hS 7 6 rfl rfl (vp_in_nI (by omega) (by decide)) dX4_isBlock_137 (fun H locs hP hD hS => ?_)
            have e9 : upd bk (nI c9).toNatClampNeg (pe_key (decide (c9 = 0)) ek n1) = upd bk c9 (pe_key (decide (c9 = 0)) ek n1) := by rw [nI_clamp (by omega)]
            rw [e9] at hP hD
            clear e9
            have hP : va_P (dC, dI) vwCl (xm ad ca kf vf tf fr sf fi (upd bk c9 (pe_key (decide (c9 = 0)) ek n1)) bv w ny nb (nI c9) (nI a2) (nI e9) th op 0) H := hP
            have hD : va_D A (xm ad ca kf vf tf fr sf fi (upd bk c9 (pe_key (decide (c9 = 0)) ek n1)) bv w ny nb (nI c9) (nI a2) (nI e9) th op 0) := hD
            refine lv_aload_n hx hb dX4_isBlock_138 rfl (lv_at hl 2 rfl) ?_
            refine va_get (D := (dC, dI)) (ci := 4) (v := .ref (ad 8)) (C := RX4) (T := TX4) (N := 17) (ref := "SortedRunModel") hx hb hts (xg_u mb_uws_X4) hown hK hP 0 rfl rfl 7 (by decide) (xg_w hts mb_fieldLink_RX4_33) (fun _ h9 => h9) rfl dX4_isBlock_139 ?_
            refine lv_aload_n hx hb dX4_isBlock_142 rfl (lv_at hl 2 rfl) ?_
            refine va_get (D := (dC, dI)) (ci := 4) (v := .int (nI c9)) (C := RX4) (T := TX4) (N := 17) (ref := "SortedRunModel") hx hb hts (xg_u mb_uws_X4) hown hK hP 0 rfl rfl 11 (by decide) (xg_w hts mb_fieldLink_RX4_110) (fun _ h9 => h9) rfl dX4_isBlock_143 ?_
            refine lv_lload hx hb dX4_isBlock_146 (lv_at hl 0 rfl) ?_
            refine xk_l (va_runS (As := [.long (lN n2)]) (rest := [.int (nI c9), .ref (ad 8)]) ⟨hx, hb, hml, hown, hts⟩ (cX4_unfold_m l dC dI ca ad kf vf tf fr sf fi (upd bk c9 (pe_key (decide (c9 = 0)) ek n1)) bv w ny nb (nI c9) (nI a2) (nI e9) th op 0 (lN n2) _) (cwS 1 hts (xg_S mb_methodLink_RX4_107 mb_static_yX4_unfold mb_initialized_RX4 mb_code_yX4_unfold) rfl rfl rfl ⟨rfl, by decide, by decide, by decide +kernel⟩ ⟨Nat.le_of_ble_eq_true rfl, Nat.le_of_ble_eq_true rfl⟩) (xpreS hK hP hD hS hA hE) rfl rfl hl.1 rfl (lv_room (Nat.le_of_ble_eq_true rfl)) dX4_isBlock_148 ⟨Nat.le_of_ble_eq_true rfl, Nat.le_of_ble_eq_true rfl⟩) hD hS hA (fun r u H locs hu hP hD hS => ?_)
            subst hu
            have hP : va_P (dC, dI) vwCl (xm ad ca kf vf tf fr sf fi (upd bk c9 (pe_key (decide (c9 = 0)) ek n1)) bv w ny nb (nI c9) (nI a2) (nI e9) th op 0) H := hP
            have hD : va_D A (xm ad ca kf vf tf fr sf fi (upd bk c9 (pe_key (decide (c9 = 0)) ek n1)) bv w ny nb (nI c9) (nI a2) (nI e9) th op 0) := hD
            refine va_last hx hb hK hP hD hS 8 7 rfl rfl (vp_in_nI (by omega) (by decide)) dX4_isBlock_151 (fun H locs hP hD hS => ?_)
            have e9 : vp_updL bv (nI c9).toNatClampNeg (pu_u (lN n2)) = vp_updL bv c9 (pu_u (lN n2)) := by rw [nI_clamp (by omega)]
            rw [e9] at hP hD
            clear e9
            have hP : va_P (dC, dI) vwCl (xm ad ca kf vf tf fr sf fi (upd bk c9 (pe_key (decide (c9 = 0)) ek n1)) (vp_updL bv c9 (pu_u (lN n2))) w ny nb (nI c9) (nI a2) (nI e9) th op 0) H := hP
            have hD : va_D A (xm ad ca kf vf tf fr sf fi (upd bk c9 (pe_key (decide (c9 = 0)) ek n1)) (vp_updL bv c9 (pu_u (lN n2))) w ny nb (nI c9) (nI a2) (nI e9) th op 0) := hD
            refine lv_aload_n hx hb dX4_isBlock_152 rfl (lv_at hl 2 rfl) ?_
            refine lv_dup hx hb dX4_isBlock_153 rfl ?_
            refine va_get (D := (dC, dI)) (ci := 4) (v := .int (nI c9)) (C := RX4) (T := TX4) (N := 17) (ref := "SortedRunModel") hx hb hts (xg_u mb_uws_X4) hown hK hP 0 rfl rfl 11 (by decide) (xg_w hts mb_fieldLink_RX4_110) (fun _ h9 => h9) rfl dX4_isBlock_154 ?_
            refine lv_iconst (v := 1) hx hb dX4_isBlock_157 (by decide) ?_
            refine lv_iadd hx hb dX4_isBlock_158 ?_
            refine lv_topi (fun z2 ez2 => ?_)
            have ez2 : z2 = nI (c9 + 1) := ez2.trans (nI_1 c9)
            subst ez2
            refine va_put (D := (dC, dI)) (ci := 4) (v := .int (nI (c9 + 1))) (ty := .int) (C := RX4) (T := TX4) (N := 17) (ref := "SortedRunModel") hx hb hts (xg_u mb_uws_X4) tyX4 tyX4_ok nmX4 hown hK hP hD hS 0 rfl rfl 11 (by decide) (xg_w hts mb_fieldLink_RX4_110) (fun _ h9 => h9) rfl (by decide +kernel) rfl rfl (Nat.le_of_ble_eq_true rfl) dX4_isBlock_159 (fun H locs hP hD hS => ?_)
            have hP : va_P (dC, dI) vwCl (xm ad ca kf vf tf fr sf fi (upd bk c9 (pe_key (decide (c9 = 0)) ek n1)) (vp_updL bv c9 (pu_u (lN n2))) w ny nb (nI (c9 + 1)) (nI a2) (nI e9) th op 0) H := hP
            have hD : va_D A (xm ad ca kf vf tf fr sf fi (upd bk c9 (pe_key (decide (c9 = 0)) ek n1)) (vp_updL bv c9 (pu_u (lN n2))) w ny nb (nI (c9 + 1)) (nI a2) (nI e9) th op 0) := hD
            refine lv_goto (tgt := 68) hx hb dX4_isBlock_162 rfl ?_
            have hbs := pe_bl_some hlt hrd
            refine ih a2 (c9 + 1) (pe_key (decide (c9 = 0)) ek n1) (upd bk c9 (pe_key (decide (c9 = 0)) ek n1)) (vp_updL bv c9 (pu_u (lN n2))) _ _ _ (by omega) g4 (by omega) (fun _ => pk_us) (lv_sub hl [2] rfl) hP hD hS (fun lb hlb ck cv x2 hkeep hrw H locs ls hl hP hD hS => ?_) (fun hno => kb (by rw [hbs]; rw [show (decide (c9 + 1 = 0)) = false from rfl] at hno; rw [hno]; rfl))
            rw [show (decide (c9 + 1 = 0)) = false from rfl] at hlb
            have hk9 := hkeep c9 (Nat.lt_succ_self c9)
            rw [pk_us, pk_uLs] at hk9
            rw [show c9 + 1 + lb.length = c9 + ((pe_key (decide (c9 = 0)) ek n1, pu_u (lN n2)) :: lb).length by simp; omega] at hP hD
            refine kg ((pe_key (decide (c9 = 0)) ek n1, pu_u (lN n2)) :: lb) (by rw [hbs, hlb]; rfl) ck cv x2 (fun j hj => by have := hkeep j (by omega); rw [pk_un (by omega), pk_uLn (by omega)] at this; exact this) (fun i hi => ?_) H locs ls hl hP hD hS
            cases i with
            | zero => exact hk9
            | succ i =>
              have h5 := hrw i (Nat.lt_of_succ_lt_succ hi)
              rw [show c9 + 1 + i = c9 + (i + 1) by omega] at h5
              exact h5
        · obtain ⟨q1, q2⟩ := hu2
          subst q2
          have hno : pe_bl tf e9 e9 (decide (c9 = 0)) ek a = none := pe_bl_none hlt (pm_e1 p1 q1)
          refine lv_lstore hx hb dX4_isBlock_95 hl (by decide) rfl (fun ls hl => ?_)
          have hl : lv_has ls 6 [(4, .long r2), (2, .long r1), (0, .ref (ad 0))] := hl
          refine lv_aload_n hx hb dX4_isBlock_97 rfl (lv_at hl 2 rfl) ?_
          refine va_get (D := (dC, dI)) (ci := 4) (v := .ref (ad 7)) (C := RX4) (T := TX4) (N := 17) (ref := "SortedRunModel") hx hb hts (xg_u mb_uws_X4) hown hK hP 0 rfl rfl 6 (by decide) (xg_w hts mb_fieldLink_RX4_30) (fun _ h9 => h9) rfl dX4_isBlock_98 ?_
          refine lv_aload_n hx hb dX4_isBlock_101 rfl (lv_at hl 2 rfl) ?_
          refine va_get (D := (dC, dI)) (ci := 4) (v := .int (nI c9)) (C := RX4) (T := TX4) (N := 17) (ref := "SortedRunModel") hx hb hts (xg_u mb_uws_X4) hown hK hP 0 rfl rfl 11 (by decide) (xg_w hts mb_fieldLink_RX4_110) (fun _ h9 => h9) rfl dX4_isBlock_102 ?_
          refine lv_aload_n hx hb dX4_isBlock_105 rfl (lv_at hl 2 rfl) ?_
          refine va_get (D := (dC, dI)) (ci := 4) (v := .int (nI c9)) (C := RX4) (T := TX4) (N := 17) (ref := "SortedRunModel") hx hb hts (xg_u mb_uws_X4) hown hK hP 0 rfl rfl 11 (by decide) (xg_w hts mb_fieldLink_RX4_110) (fun _ h9 => h9) rfl dX4_isBlock_106 ?_
          refine lv_if_ne (tgt := 120) hx hb dX4_isBlock_109 rfl (fun hc3 => ?_) (fun hc3 => ?_)
          · have hc0 : ¬ c9 = 0 := fun z => hc3 (congrArg nI z)
            refine lv_aload_n hx hb dX4_isBlock_120 rfl (lv_at hl 2 rfl) ?_
            refine va_get (D := (dC, dI)) (ci := 4) (v := .ref (ad 7)) (C := RX4) (T := TX4) (N := 17) (ref := "SortedRunModel") hx hb hts (xg_u mb_uws_X4) hown hK hP 0 rfl rfl 6 (by decide) (xg_w hts mb_fieldLink_RX4_30) (fun _ h9 => h9) rfl dX4_isBlock_121 ?_
            refine lv_aload_n hx hb dX4_isBlock_124 rfl (lv_at hl 2 rfl) ?_
            refine va_get (D := (dC, dI)) (ci := 4) (v := .int (nI c9)) (C := RX4) (T := TX4) (N := 17) (ref := "SortedRunModel") hx hb hts (xg_u mb_uws_X4) hown hK hP 0 rfl rfl 11 (by decide) (xg_w hts mb_fieldLink_RX4_110) (fun _ h9 => h9) rfl dX4_isBlock_125 ?_
            refine lv_iconst (v := nI 1) hx hb dX4_isBlock_128 (by decide) ?_
            refine lv_isub hx hb dX4_isBlock_129 ?_
            refine lv_topi (fun z1 ez1 => ?_)
            have ez1 : z1 = nI (c9 - 1) := ez1.trans (pk_sub (by omega))
            subst ez1
            refine va_iald hx hb hK hP 7 6 rfl rfl (vp_in_nI (by omega) (by decide)) dX4_isBlock_130 ?_
            refine lv_topi (fun z2 ez2 => ?_)
            have ez2 : z2 = bk (c9 - 1) := ez2.trans (congrArg bk (nI_clamp (by omega)))
            subst ez2
            refine lv_i2l (v := (bk (c9 - 1)).toInt64) hx hb dX4_isBlock_131 (rfl) ?_
            refine lv_lload_n hx hb dX4_isBlock_132 rfl (lv_at hl 1 rfl) ?_
            refine lv_ladd hx hb dX4_isBlock_133 ?_
            refine lv_lconst (v := 1) hx hb dX4_isBlock_134 (by decide) ?_
            refine lv_ladd hx hb dX4_isBlock_135 ?_
            refine lv_l2i (v := if c9 = 0 then (pu_u r1).toInt32 else (ek.toInt64 + r1 + 1).toInt32) hx hb dX4_isBlock_136 (by rw [if_neg hc0, hek (by omega)]) ?_
            refine va_iast hx hb hK hP hD hS 7 6 rfl rfl (vp_in_nI (by omega) (by decide)) dX4_isBlock_137 (fun H locs hP hD hS => ?_)
            have e9 : upd bk (nI c9).toNatClampNeg (if c9 = 0 then (pu_u r1).toInt32 else (ek.toInt64 + r1 + 1).toInt32) = upd bk c9 (if c9 = 0 then (pu_u r1).toInt32 else (ek.toInt64 + r1 + 1).toInt32) := by rw [nI_clamp (by omega)]
            rw [e9] at hP hD
            clear e9
            have hP : va_P (dC, dI) vwCl (xm ad ca kf vf tf fr sf fi (upd bk c9 (if c9 = 0 then (pu_u r1).toInt32 else (ek.toInt64 + r1 + 1).toInt32)) bv w ny nb (nI c9) (nI a2) (nI e9) th op 1) H := hP
            have hD : va_D A (xm ad ca kf vf tf fr sf fi (upd bk c9 (if c9 = 0 then (pu_u r1).toInt32 else (ek.toInt64 + r1 + 1).toInt32)) bv w ny nb (nI c9) (nI a2) (nI e9) th op 1) := hD
            refine lv_aload_n hx hb dX4_isBlock_138 rfl (lv_at hl 2 rfl) ?_
            refine va_get (D := (dC, dI)) (ci := 4) (v := .ref (ad 8)) (C := RX4) (T := TX4) (N := 17) (ref := "SortedRunModel") hx hb hts (xg_u mb_uws_X4) hown hK hP 0 rfl rfl 7 (by decide) (xg_w hts mb_fieldLink_RX4_33) (fun _ h9 => h9) rfl dX4_isBlock_139 ?_
            refine lv_aload_n hx hb dX4_isBlock_142 rfl (lv_at hl 2 rfl) ?_
            refine va_get (D := (dC, dI)) (ci := 4) (v := .int (nI c9)) (C := RX4) (T := TX4) (N := 17) (ref := "SortedRunModel") hx hb hts (xg_u mb_uws_X4) hown hK hP 0 rfl rfl 11 (by decide) (xg_w hts mb_fieldLink_RX4_110) (fun _ h9 => h9) rfl dX4_isBlock_143 ?_
            refine lv_lload hx hb dX4_isBlock_146 (lv_at hl 0 rfl) ?_
            refine xk_l (va_runS (As := [.long r2]) (rest := [.int (nI c9), .ref (ad 8)]) ⟨hx, hb, hml, hown, hts⟩ (cX4_unfold_m l dC dI ca ad kf vf tf fr sf fi (upd bk c9 (if c9 = 0 then (pu_u r1).toInt32 else (ek.toInt64 + r1 + 1).toInt32)) bv w ny nb (nI c9) (nI a2) (nI e9) th op 1 r2 _) (cwS 1 hts (xg_S mb_methodLink_RX4_107 mb_static_yX4_unfold mb_initialized_RX4 mb_code_yX4_unfold) rfl rfl rfl ⟨rfl, by decide, by decide, by decide +kernel⟩ ⟨Nat.le_of_ble_eq_true rfl, Nat.le_of_ble_eq_true rfl⟩) (xpreS hK hP hD hS hA hE) rfl rfl hl.1 rfl (lv_room (Nat.le_of_ble_eq_true rfl)) dX4_isBlock_148 ⟨Nat.le_of_ble_eq_true rfl, Nat.le_of_ble_eq_true rfl⟩) hD hS hA (fun r u H locs hu hP hD hS => ?_)
            subst hu
            have hP : va_P (dC, dI) vwCl (xm ad ca kf vf tf fr sf fi (upd bk c9 (if c9 = 0 then (pu_u r1).toInt32 else (ek.toInt64 + r1 + 1).toInt32)) bv w ny nb (nI c9) (nI a2) (nI e9) th op 1) H := hP
            have hD : va_D A (xm ad ca kf vf tf fr sf fi (upd bk c9 (if c9 = 0 then (pu_u r1).toInt32 else (ek.toInt64 + r1 + 1).toInt32)) bv w ny nb (nI c9) (nI a2) (nI e9) th op 1) := hD
            refine va_last hx hb hK hP hD hS 8 7 rfl rfl (vp_in_nI (by omega) (by decide)) dX4_isBlock_151 (fun H locs hP hD hS => ?_)
            have e9 : vp_updL bv (nI c9).toNatClampNeg (pu_u r2) = vp_updL bv c9 (pu_u r2) := by rw [nI_clamp (by omega)]
            rw [e9] at hP hD
            clear e9
            have hP : va_P (dC, dI) vwCl (xm ad ca kf vf tf fr sf fi (upd bk c9 (if c9 = 0 then (pu_u r1).toInt32 else (ek.toInt64 + r1 + 1).toInt32)) (vp_updL bv c9 (pu_u r2)) w ny nb (nI c9) (nI a2) (nI e9) th op 1) H := hP
            have hD : va_D A (xm ad ca kf vf tf fr sf fi (upd bk c9 (if c9 = 0 then (pu_u r1).toInt32 else (ek.toInt64 + r1 + 1).toInt32)) (vp_updL bv c9 (pu_u r2)) w ny nb (nI c9) (nI a2) (nI e9) th op 1) := hD
            refine lv_aload_n hx hb dX4_isBlock_152 rfl (lv_at hl 2 rfl) ?_
            refine lv_dup hx hb dX4_isBlock_153 rfl ?_
            refine va_get (D := (dC, dI)) (ci := 4) (v := .int (nI c9)) (C := RX4) (T := TX4) (N := 17) (ref := "SortedRunModel") hx hb hts (xg_u mb_uws_X4) hown hK hP 0 rfl rfl 11 (by decide) (xg_w hts mb_fieldLink_RX4_110) (fun _ h9 => h9) rfl dX4_isBlock_154 ?_
            refine lv_iconst (v := 1) hx hb dX4_isBlock_157 (by decide) ?_
            refine lv_iadd hx hb dX4_isBlock_158 ?_
            refine lv_topi (fun z3 ez3 => ?_)
            have ez3 : z3 = nI (c9 + 1) := ez3.trans (nI_1 c9)
            subst ez3
            refine va_put (D := (dC, dI)) (ci := 4) (v := .int (nI (c9 + 1))) (ty := .int) (C := RX4) (T := TX4) (N := 17) (ref := "SortedRunModel") hx hb hts (xg_u mb_uws_X4) tyX4 tyX4_ok nmX4 hown hK hP hD hS 0 rfl rfl 11 (by decide) (xg_w hts mb_fieldLink_RX4_110) (fun _ h9 => h9) rfl (by decide +kernel) rfl rfl (Nat.le_of_ble_eq_true rfl) dX4_isBlock_159 (fun H locs hP hD hS => ?_)
            have hP : va_P (dC, dI) vwCl (xm ad ca kf vf tf fr sf fi (upd bk c9 (if c9 = 0 then (pu_u r1).toInt32 else (ek.toInt64 + r1 + 1).toInt32)) (vp_updL bv c9 (pu_u r2)) w ny nb (nI (c9 + 1)) (nI a2) (nI e9) th op 1) H := hP
            have hD : va_D A (xm ad ca kf vf tf fr sf fi (upd bk c9 (if c9 = 0 then (pu_u r1).toInt32 else (ek.toInt64 + r1 + 1).toInt32)) (vp_updL bv c9 (pu_u r2)) w ny nb (nI (c9 + 1)) (nI a2) (nI e9) th op 1) := hD
            refine lv_goto (tgt := 68) hx hb dX4_isBlock_162 rfl ?_
            refine lv_aload_n hx hb dX4_isBlock_68 rfl (lv_at hl 2 rfl) ?_
            refine va_get (D := (dC, dI)) (ci := 4) (v := .int (nI a2)) (C := RX4) (T := TX4) (N := 17) (ref := "SortedRunModel") hx hb hts (xg_u mb_uws_X4) hown hK hP 0 rfl rfl 12 (by decide) (xg_w hts mb_fieldLink_RX4_78) (fun _ h9 => h9) rfl dX4_isBlock_69 ?_
            refine lv_aload_n hx hb dX4_isBlock_72 rfl (lv_at hl 2 rfl) ?_
            refine va_get (D := (dC, dI)) (ci := 4) (v := .int (nI e9)) (C := RX4) (T := TX4) (N := 17) (ref := "SortedRunModel") hx hb hts (xg_u mb_uws_X4) hown hK hP 0 rfl rfl 13 (by decide) (xg_w hts mb_fieldLink_RX4_81) (fun _ h9 => h9) rfl dX4_isBlock_73 ?_
            refine lv_icmp_ge (tgt := 165) hx hb dX4_isBlock_76 rfl (fun hc7 => ?_) (fun hc7 => ?_)
            · exact kb hno _ _ _ _ H locs ls (lv_sub hl [2] rfl) hP hD hS
            · refine lv_aload_n hx hb dX4_isBlock_79 rfl (lv_at hl 2 rfl) ?_
              refine va_get (D := (dC, dI)) (ci := 4) (v := .int 1) (C := RX4) (T := TX4) (N := 17) (ref := "SortedRunModel") hx hb hts (xg_u mb_uws_X4) hown hK hP 0 rfl rfl 16 (by decide) (xg_w hts mb_fieldLink_RX4_84) (fun _ h9 => h9) rfl dX4_isBlock_80 ?_
              refine lv_if_ne (tgt := 165) hx hb dX4_isBlock_83 rfl (fun hc8 => ?_) (fun hc8 => absurd hc8 (by decide))
              exact kb hno _ _ _ _ H locs ls (lv_sub hl [2] rfl) hP hD hS
          · have hc0 : c9 = 0 := (nI_eq (b := 0) (by omega) (by decide)).mp hc3
            refine lv_lload_n hx hb dX4_isBlock_112 rfl (lv_at hl 1 rfl) ?_
            refine xk_l (va_runS (As := [.long r1]) (rest := [.int (nI c9), .ref (ad 7)]) ⟨hx, hb, hml, hown, hts⟩ (cX4_unfold_m l dC dI ca ad kf vf tf fr sf fi bk bv w ny nb (nI c9) (nI a2) (nI e9) th op 1 r1 _) (cwS 1 hts (xg_S mb_methodLink_RX4_107 mb_static_yX4_unfold mb_initialized_RX4 mb_code_yX4_unfold) rfl rfl rfl ⟨rfl, by decide, by decide, by decide +kernel⟩ ⟨Nat.le_of_ble_eq_true rfl, Nat.le_of_ble_eq_true rfl⟩) (xpreS hK hP hD hS hA hE) rfl rfl hl.1 rfl (lv_room (Nat.le_of_ble_eq_true rfl)) dX4_isBlock_113 ⟨Nat.le_of_ble_eq_true rfl, Nat.le_of_ble_eq_true rfl⟩) hD hS hA (fun r u H locs hu hP hD hS => ?_)
            subst hu
            have hP : va_P (dC, dI) vwCl (xm ad ca kf vf tf fr sf fi bk bv w ny nb (nI c9) (nI a2) (nI e9) th op 1) H := hP
            have hD : va_D A (xm ad ca kf vf tf fr sf fi bk bv w ny nb (nI c9) (nI a2) (nI e9) th op 1) := hD
            refine lv_l2i (v := (pu_u r1).toInt32) hx hb dX4_isBlock_116 (rfl) ?_
            refine lv_goto (tgt := 137) hx hb dX4_isBlock_117 rfl ?_
            refine lv_topi (fun z1 ez1 => ?_)
            have ez1 : z1 = if c9 = 0 then (pu_u r1).toInt32 else (ek.toInt64 + r1 + 1).toInt32 := ez1.trans (by rw [if_pos hc0])
            subst ez1
            refine va_iast hx hb hK hP hD hS 7 6 rfl rfl (vp_in_nI (by omega) (by decide)) dX4_isBlock_137 (fun H locs hP hD hS => ?_)
            have e9 : upd bk (nI c9).toNatClampNeg (if c9 = 0 then (pu_u r1).toInt32 else (ek.toInt64 + r1 + 1).toInt32) = upd bk c9 (if c9 = 0 then (pu_u r1).toInt32 else (ek.toInt64 + r1 + 1).toInt32) := by rw [nI_clamp (by omega)]
            rw [e9] at hP hD
            clear e9
            have hP : va_P (dC, dI) vwCl (xm ad ca kf vf tf fr sf fi (upd bk c9 (if c9 = 0 then (pu_u r1).toInt32 else (ek.toInt64 + r1 + 1).toInt32)) bv w ny nb (nI c9) (nI a2) (nI e9) th op 1) H := hP
            have hD : va_D A (xm ad ca kf vf tf fr sf fi (upd bk c9 (if c9 = 0 then (pu_u r1).toInt32 else (ek.toInt64 + r1 + 1).toInt32)) bv w ny nb (nI c9) (nI a2) (nI e9) th op 1) := hD
            refine lv_aload_n hx hb dX4_isBlock_138 rfl (lv_at hl 2 rfl) ?_
            refine va_get (D := (dC, dI)) (ci := 4) (v := .ref (ad 8)) (C := RX4) (T := TX4) (N := 17) (ref := "SortedRunModel") hx hb hts (xg_u mb_uws_X4) hown hK hP 0 rfl rfl 7 (by decide) (xg_w hts mb_fieldLink_RX4_33) (fun _ h9 => h9) rfl dX4_isBlock_139 ?_
            refine lv_aload_n hx hb dX4_isBlock_142 rfl (lv_at hl 2 rfl) ?_
            refine va_get (D := (dC, dI)) (ci := 4) (v := .int (nI c9)) (C := RX4) (T := TX4) (N := 17) (ref := "SortedRunModel") hx hb hts (xg_u mb_uws_X4) hown hK hP 0 rfl rfl 11 (by decide) (xg_w hts mb_fieldLink_RX4_110) (fun _ h9 => h9) rfl dX4_isBlock_143 ?_
            refine lv_lload hx hb dX4_isBlock_146 (lv_at hl 0 rfl) ?_
            refine xk_l (va_runS (As := [.long r2]) (rest := [.int (nI c9), .ref (ad 8)]) ⟨hx, hb, hml, hown, hts⟩ (cX4_unfold_m l dC dI ca ad kf vf tf fr sf fi (upd bk c9 (if c9 = 0 then (pu_u r1).toInt32 else (ek.toInt64 + r1 + 1).toInt32)) bv w ny nb (nI c9) (nI a2) (nI e9) th op 1 r2 _) (cwS 1 hts (xg_S mb_methodLink_RX4_107 mb_static_yX4_unfold mb_initialized_RX4 mb_code_yX4_unfold) rfl rfl rfl ⟨rfl, by decide, by decide, by decide +kernel⟩ ⟨Nat.le_of_ble_eq_true rfl, Nat.le_of_ble_eq_true rfl⟩) (xpreS hK hP hD hS hA hE) rfl rfl hl.1 rfl (lv_room (Nat.le_of_ble_eq_true rfl)) dX4_isBlock_148 ⟨Nat.le_of_ble_eq_true rfl, Nat.le_of_ble_eq_true rfl⟩) hD hS hA (fun r u H locs hu hP hD hS => ?_)
            subst hu
            have hP : va_P (dC, dI) vwCl (xm ad ca kf vf tf fr sf fi (upd bk c9 (if c9 = 0 then (pu_u r1).toInt32 else (ek.toInt64 + r1 + 1).toInt32)) bv w ny nb (nI c9) (nI a2) (nI e9) th op 1) H := hP
            have hD : va_D A (xm ad ca kf vf tf fr sf fi (upd bk c9 (if c9 = 0 then (pu_u r1).toInt32 else (ek.toInt64 + r1 + 1).toInt32)) bv w ny nb (nI c9) (nI a2) (nI e9) th op 1) := hD
            refine va_last hx hb hK hP hD hS 8 7 rfl rfl (vp_in_nI (by omega) (by decide)) dX4_isBlock_151 (fun H locs hP hD hS => ?_)
            have e9 : vp_updL bv (nI c9).toNatClampNeg (pu_u r2) = vp_updL bv c9 (pu_u r2) := by rw [nI_clamp (by omega)]
            rw [e9] at hP hD
            clear e9
            have hP : va_P (dC, dI) vwCl (xm ad ca kf vf tf fr sf fi (upd bk c9 (if c9 = 0 then (pu_u r1).toInt32 else (ek.toInt64 + r1 + 1).toInt32)) (vp_updL bv c9 (pu_u r2)) w ny nb (nI c9) (nI a2) (nI e9) th op 1) H := hP
            have hD : va_D A (xm ad ca kf vf tf fr sf fi (upd bk c9 (if c9 = 0 then (pu_u r1).toInt32 else (ek.toInt64 + r1 + 1).toInt32)) (vp_updL bv c9 (pu_u r2)) w ny nb (nI c9) (nI a2) (nI e9) th op 1) := hD
            refine lv_aload_n hx hb dX4_isBlock_152 rfl (lv_at hl 2 rfl) ?_
            refine lv_dup hx hb dX4_isBlock_153 rfl ?_
            refine va_get (D := (dC, dI)) (ci := 4) (v := .int (nI c9)) (C := RX4) (T := TX4) (N := 17) (ref := "SortedRunModel") hx hb hts (xg_u mb_uws_X4) hown hK hP 0 rfl rfl 11 (by decide) (xg_w hts mb_fieldLink_RX4_110) (fun _ h9 => h9) rfl dX4_isBlock_154 ?_
            refine lv_iconst (v := 1) hx hb dX4_isBlock_157 (by decide) ?_
            refine lv_iadd hx hb dX4_isBlock_158 ?_
            refine lv_topi (fun z2 ez2 => ?_)
            have ez2 : z2 = nI (c9 + 1) := ez2.trans (nI_1 c9)
            subst ez2
            refine va_put (D := (dC, dI)) (ci := 4) (v := .int (nI (c9 + 1))) (ty := .int) (C := RX4) (T := TX4) (N := 17) (ref := "SortedRunModel") hx hb hts (xg_u mb_uws_X4) tyX4 tyX4_ok nmX4 hown hK hP hD hS 0 rfl rfl 11 (by decide) (xg_w hts mb_fieldLink_RX4_110) (fun _ h9 => h9) rfl (by decide +kernel) rfl rfl (Nat.le_of_ble_eq_true rfl) dX4_isBlock_159 (fun H locs hP hD hS => ?_)
            have hP : va_P (dC, dI) vwCl (xm ad ca kf vf tf fr sf fi (upd bk c9 (if c9 = 0 then (pu_u r1).toInt32 else (ek.toInt64 + r1 + 1).toInt32)) (vp_updL bv c9 (pu_u r2)) w ny nb (nI (c9 + 1)) (nI a2) (nI e9) th op 1) H := hP
            have hD : va_D A (xm ad ca kf vf tf fr sf fi (upd bk c9 (if c9 = 0 then (pu_u r1).toInt32 else (ek.toInt64 + r1 + 1).toInt32)) (vp_updL bv c9 (pu_u r2)) w ny nb (nI (c9 + 1)) (nI a2) (nI e9) th op 1) := hD
            refine lv_goto (tgt := 68) hx hb dX4_isBlock_162 rfl ?_
            refine lv_aload_n hx hb dX4_isBlock_68 rfl (lv_at hl 2 rfl) ?_
            refine va_get (D := (dC, dI)) (ci := 4) (v := .int (nI a2)) (C := RX4) (T := TX4) (N := 17) (ref := "SortedRunModel") hx hb hts (xg_u mb_uws_X4) hown hK hP 0 rfl rfl 12 (by decide) (xg_w hts mb_fieldLink_RX4_78) (fun _ h9 => h9) rfl dX4_isBlock_69 ?_
            refine lv_aload_n hx hb dX4_isBlock_72 rfl (lv_at hl 2 rfl) ?_
            refine va_get (D := (dC, dI)) (ci := 4) (v := .int (nI e9)) (C := RX4) (T := TX4) (N := 17) (ref := "SortedRunModel") hx hb hts (xg_u mb_uws_X4) hown hK hP 0 rfl rfl 13 (by decide) (xg_w hts mb_fieldLink_RX4_81) (fun _ h9 => h9) rfl dX4_isBlock_73 ?_
            refine lv_icmp_ge (tgt := 165) hx hb dX4_isBlock_76 rfl (fun hc7 => ?_) (fun hc7 => ?_)
            · exact kb hno _ _ _ _ H locs ls (lv_sub hl [2] rfl) hP hD hS
            · refine lv_aload_n hx hb dX4_isBlock_79 rfl (lv_at hl 2 rfl) ?_
              refine va_get (D := (dC, dI)) (ci := 4) (v := .int 1) (C := RX4) (T := TX4) (N := 17) (ref := "SortedRunModel") hx hb hts (xg_u mb_uws_X4) hown hK hP 0 rfl rfl 16 (by decide) (xg_w hts mb_fieldLink_RX4_84) (fun _ h9 => h9) rfl dX4_isBlock_80 ?_
              refine lv_if_ne (tgt := 165) hx hb dX4_isBlock_83 rfl (fun hc8 => ?_) (fun hc8 => absurd hc8 (by decide))
              exact kb hno _ _ _ _ H locs ls (lv_sub hl [2] rfl) hP hD hS
      · obtain ⟨q1, q2⟩ := hu1
        have hw2 : w2 = 1 := hu2.elim (fun z => by obtain ⟨n9, -, -, z4⟩ := z; rw [z4, q2]) (fun z => z.2)
        subst hw2
        have hno : pe_bl tf e9 e9 (decide (c9 = 0)) ek a = none := pe_bl_none hlt (pm_e0 q1)
        refine lv_lstore hx hb dX4_isBlock_95 hl (by decide) rfl (fun ls hl => ?_)
        have hl : lv_has ls 6 [(4, .long r2), (2, .long r1), (0, .ref (ad 0))] := hl
        refine lv_aload_n hx hb dX4_isBlock_97 rfl (lv_at hl 2 rfl) ?_
        refine va_get (D := (dC, dI)) (ci := 4) (v := .ref (ad 7)) (C := RX4) (T := TX4) (N := 17) (ref := "SortedRunModel") hx hb hts (xg_u mb_uws_X4) hown hK hP 0 rfl rfl 6 (by decide) (xg_w hts mb_fieldLink_RX4_30) (fun _ h9 => h9) rfl dX4_isBlock_98 ?_
        refine lv_aload_n hx hb dX4_isBlock_101 rfl (lv_at hl 2 rfl) ?_
        refine va_get (D := (dC, dI)) (ci := 4) (v := .int (nI c9)) (C := RX4) (T := TX4) (N := 17) (ref := "SortedRunModel") hx hb hts (xg_u mb_uws_X4) hown hK hP 0 rfl rfl 11 (by decide) (xg_w hts mb_fieldLink_RX4_110) (fun _ h9 => h9) rfl dX4_isBlock_102 ?_
        refine lv_aload_n hx hb dX4_isBlock_105 rfl (lv_at hl 2 rfl) ?_
        refine va_get (D := (dC, dI)) (ci := 4) (v := .int (nI c9)) (C := RX4) (T := TX4) (N := 17) (ref := "SortedRunModel") hx hb hts (xg_u mb_uws_X4) hown hK hP 0 rfl rfl 11 (by decide) (xg_w hts mb_fieldLink_RX4_110) (fun _ h9 => h9) rfl dX4_isBlock_106 ?_
        refine lv_if_ne (tgt := 120) hx hb dX4_isBlock_109 rfl (fun hc3 => ?_) (fun hc3 => ?_)
        · have hc0 : ¬ c9 = 0 := fun z => hc3 (congrArg nI z)
          refine lv_aload_n hx hb dX4_isBlock_120 rfl (lv_at hl 2 rfl) ?_
          refine va_get (D := (dC, dI)) (ci := 4) (v := .ref (ad 7)) (C := RX4) (T := TX4) (N := 17) (ref := "SortedRunModel") hx hb hts (xg_u mb_uws_X4) hown hK hP 0 rfl rfl 6 (by decide) (xg_w hts mb_fieldLink_RX4_30) (fun _ h9 => h9) rfl dX4_isBlock_121 ?_
          refine lv_aload_n hx hb dX4_isBlock_124 rfl (lv_at hl 2 rfl) ?_
          refine va_get (D := (dC, dI)) (ci := 4) (v := .int (nI c9)) (C := RX4) (T := TX4) (N := 17) (ref := "SortedRunModel") hx hb hts (xg_u mb_uws_X4) hown hK hP 0 rfl rfl 11 (by decide) (xg_w hts mb_fieldLink_RX4_110) (fun _ h9 => h9) rfl dX4_isBlock_125 ?_
          refine lv_iconst (v := nI 1) hx hb dX4_isBlock_128 (by decide) ?_
          refine lv_isub hx hb dX4_isBlock_129 ?_
          refine lv_topi (fun z1 ez1 => ?_)
          have ez1 : z1 = nI (c9 - 1) := ez1.trans (pk_sub (by omega))
          subst ez1
          refine va_iald hx hb hK hP 7 6 rfl rfl (vp_in_nI (by omega) (by decide)) dX4_isBlock_130 ?_
          refine lv_topi (fun z2 ez2 => ?_)
          have ez2 : z2 = bk (c9 - 1) := ez2.trans (congrArg bk (nI_clamp (by omega)))
          subst ez2
          refine lv_i2l (v := (bk (c9 - 1)).toInt64) hx hb dX4_isBlock_131 (rfl) ?_
          refine lv_lload_n hx hb dX4_isBlock_132 rfl (lv_at hl 1 rfl) ?_
          refine lv_ladd hx hb dX4_isBlock_133 ?_
          refine lv_lconst (v := 1) hx hb dX4_isBlock_134 (by decide) ?_
          refine lv_ladd hx hb dX4_isBlock_135 ?_
          refine lv_l2i (v := if c9 = 0 then (pu_u r1).toInt32 else (ek.toInt64 + r1 + 1).toInt32) hx hb dX4_isBlock_136 (by rw [if_neg hc0, hek (by omega)]) ?_
          refine va_iast hx hb hK hP hD hS 7 6 rfl rfl (vp_in_nI (by omega) (by decide)) dX4_isBlock_137 (fun H locs hP hD hS => ?_)
          have e9 : upd bk (nI c9).toNatClampNeg (if c9 = 0 then (pu_u r1).toInt32 else (ek.toInt64 + r1 + 1).toInt32) = upd bk c9 (if c9 = 0 then (pu_u r1).toInt32 else (ek.toInt64 + r1 + 1).toInt32) := by rw [nI_clamp (by omega)]
          rw [e9] at hP hD
          clear e9
          have hP : va_P (dC, dI) vwCl (xm ad ca kf vf tf fr sf fi (upd bk c9 (if c9 = 0 then (pu_u r1).toInt32 else (ek.toInt64 + r1 + 1).toInt32)) bv w ny nb (nI c9) (nI a2) (nI e9) th op 1) H := hP
          have hD : va_D A (xm ad ca kf vf tf fr sf fi (upd bk c9 (if c9 = 0 then (pu_u r1).toInt32 else (ek.toInt64 + r1 + 1).toInt32)) bv w ny nb (nI c9) (nI a2) (nI e9) th op 1) := hD
          refine lv_aload_n hx hb dX4_isBlock_138 rfl (lv_at hl 2 rfl) ?_
          refine va_get (D := (dC, dI)) (ci := 4) (v := .ref (ad 8)) (C := RX4) (T := TX4) (N := 17) (ref := "SortedRunModel") hx hb hts (xg_u mb_uws_X4) hown hK hP 0 rfl rfl 7 (by decide) (xg_w hts mb_fieldLink_RX4_33) (fun _ h9 => h9) rfl dX4_isBlock_139 ?_
          refine lv_aload_n hx hb dX4_isBlock_142 rfl (lv_at hl 2 rfl) ?_
          refine va_get (D := (dC, dI)) (ci := 4) (v := .int (nI c9)) (C := RX4) (T := TX4) (N := 17) (ref := "SortedRunModel") hx hb hts (xg_u mb_uws_X4) hown hK hP 0 rfl rfl 11 (by decide) (xg_w hts mb_fieldLink_RX4_110) (fun _ h9 => h9) rfl dX4_isBlock_143 ?_
          refine lv_lload hx hb dX4_isBlock_146 (lv_at hl 0 rfl) ?_
          refine xk_l (va_runS (As := [.long r2]) (rest := [.int (nI c9), .ref (ad 8)]) ⟨hx, hb, hml, hown, hts⟩ (cX4_unfold_m l dC dI ca ad kf vf tf fr sf fi (upd bk c9 (if c9 = 0 then (pu_u r1).toInt32 else (ek.toInt64 + r1 + 1).toInt32)) bv w ny nb (nI c9) (nI a2) (nI e9) th op 1 r2 _) (cwS 1 hts (xg_S mb_methodLink_RX4_107 mb_static_yX4_unfold mb_initialized_RX4 mb_code_yX4_unfold) rfl rfl rfl ⟨rfl, by decide, by decide, by decide +kernel⟩ ⟨Nat.le_of_ble_eq_true rfl, Nat.le_of_ble_eq_true rfl⟩) (xpreS hK hP hD hS hA hE) rfl rfl hl.1 rfl (lv_room (Nat.le_of_ble_eq_true rfl)) dX4_isBlock_148 ⟨Nat.le_of_ble_eq_true rfl, Nat.le_of_ble_eq_true rfl⟩) hD hS hA (fun r u H locs hu hP hD hS => ?_)
          subst hu
          have hP : va_P (dC, dI) vwCl (xm ad ca kf vf tf fr sf fi (upd bk c9 (if c9 = 0 then (pu_u r1).toInt32 else (ek.toInt64 + r1 + 1).toInt32)) bv w ny nb (nI c9) (nI a2) (nI e9) th op 1) H := hP
          have hD : va_D A (xm ad ca kf vf tf fr sf fi (upd bk c9 (if c9 = 0 then (pu_u r1).toInt32 else (ek.toInt64 + r1 + 1).toInt32)) bv w ny nb (nI c9) (nI a2) (nI e9) th op 1) := hD
          refine va_last hx hb hK hP hD hS 8 7 rfl rfl (vp_in_nI (by omega) (by decide)) dX4_isBlock_151 (fun H locs hP hD hS => ?_)
          have e9 : vp_updL bv (nI c9).toNatClampNeg (pu_u r2) = vp_updL bv c9 (pu_u r2) := by rw [nI_clamp (by omega)]
          rw [e9] at hP hD
          clear e9
          have hP : va_P (dC, dI) vwCl (xm ad ca kf vf tf fr sf fi (upd bk c9 (if c9 = 0 then (pu_u r1).toInt32 else (ek.toInt64 + r1 + 1).toInt32)) (vp_updL bv c9 (pu_u r2)) w ny nb (nI c9) (nI a2) (nI e9) th op 1) H := hP
          have hD : va_D A (xm ad ca kf vf tf fr sf fi (upd bk c9 (if c9 = 0 then (pu_u r1).toInt32 else (ek.toInt64 + r1 + 1).toInt32)) (vp_updL bv c9 (pu_u r2)) w ny nb (nI c9) (nI a2) (nI e9) th op 1) := hD
          refine lv_aload_n hx hb dX4_isBlock_152 rfl (lv_at hl 2 rfl) ?_
          refine lv_dup hx hb dX4_isBlock_153 rfl ?_
          refine va_get (D := (dC, dI)) (ci := 4) (v := .int (nI c9)) (C := RX4) (T := TX4) (N := 17) (ref := "SortedRunModel") hx hb hts (xg_u mb_uws_X4) hown hK hP 0 rfl rfl 11 (by decide) (xg_w hts mb_fieldLink_RX4_110) (fun _ h9 => h9) rfl dX4_isBlock_154 ?_
          refine lv_iconst (v := 1) hx hb dX4_isBlock_157 (by decide) ?_
          refine lv_iadd hx hb dX4_isBlock_158 ?_
          refine lv_topi (fun z3 ez3 => ?_)
          have ez3 : z3 = nI (c9 + 1) := ez3.trans (nI_1 c9)
          subst ez3
          refine va_put (D := (dC, dI)) (ci := 4) (v := .int (nI (c9 + 1))) (ty := .int) (C := RX4) (T := TX4) (N := 17) (ref := "SortedRunModel") hx hb hts (xg_u mb_uws_X4) tyX4 tyX4_ok nmX4 hown hK hP hD hS 0 rfl rfl 11 (by decide) (xg_w hts mb_fieldLink_RX4_110) (fun _ h9 => h9) rfl (by decide +kernel) rfl rfl (Nat.le_of_ble_eq_true rfl) dX4_isBlock_159 (fun H locs hP hD hS => ?_)
          have hP : va_P (dC, dI) vwCl (xm ad ca kf vf tf fr sf fi (upd bk c9 (if c9 = 0 then (pu_u r1).toInt32 else (ek.toInt64 + r1 + 1).toInt32)) (vp_updL bv c9 (pu_u r2)) w ny nb (nI (c9 + 1)) (nI a2) (nI e9) th op 1) H := hP
          have hD : va_D A (xm ad ca kf vf tf fr sf fi (upd bk c9 (if c9 = 0 then (pu_u r1).toInt32 else (ek.toInt64 + r1 + 1).toInt32)) (vp_updL bv c9 (pu_u r2)) w ny nb (nI (c9 + 1)) (nI a2) (nI e9) th op 1) := hD
          refine lv_goto (tgt := 68) hx hb dX4_isBlock_162 rfl ?_
          refine lv_aload_n hx hb dX4_isBlock_68 rfl (lv_at hl 2 rfl) ?_
          refine va_get (D := (dC, dI)) (ci := 4) (v := .int (nI a2)) (C := RX4) (T := TX4) (N := 17) (ref := "SortedRunModel") hx hb hts (xg_u mb_uws_X4) hown hK hP 0 rfl rfl 12 (by decide) (xg_w hts mb_fieldLink_RX4_78) (fun _ h9 => h9) rfl dX4_isBlock_69 ?_
          refine lv_aload_n hx hb dX4_isBlock_72 rfl (lv_at hl 2 rfl) ?_
          refine va_get (D := (dC, dI)) (ci := 4) (v := .int (nI e9)) (C := RX4) (T := TX4) (N := 17) (ref := "SortedRunModel") hx hb hts (xg_u mb_uws_X4) hown hK hP 0 rfl rfl 13 (by decide) (xg_w hts mb_fieldLink_RX4_81) (fun _ h9 => h9) rfl dX4_isBlock_73 ?_
          refine lv_icmp_ge (tgt := 165) hx hb dX4_isBlock_76 rfl (fun hc7 => ?_) (fun hc7 => ?_)
          · exact kb hno _ _ _ _ H locs ls (lv_sub hl [2] rfl) hP hD hS
          · refine lv_aload_n hx hb dX4_isBlock_79 rfl (lv_at hl 2 rfl) ?_
            refine va_get (D := (dC, dI)) (ci := 4) (v := .int 1) (C := RX4) (T := TX4) (N := 17) (ref := "SortedRunModel") hx hb hts (xg_u mb_uws_X4) hown hK hP 0 rfl rfl 16 (by decide) (xg_w hts mb_fieldLink_RX4_84) (fun _ h9 => h9) rfl dX4_isBlock_80 ?_
            refine lv_if_ne (tgt := 165) hx hb dX4_isBlock_83 rfl (fun hc8 => ?_) (fun hc8 => absurd hc8 (by decide))
            exact kb hno _ _ _ _ H locs ls (lv_sub hl [2] rfl) hP hD hS
        · have hc0 : c9 = 0 := (nI_eq (b := 0) (by omega) (by decide)).mp hc3
          refine lv_lload_n hx hb dX4_isBlock_112 rfl (lv_at hl 1 rfl) ?_
          refine xk_l (va_runS (As := [.long r1]) (rest := [.int (nI c9), .ref (ad 7)]) ⟨hx, hb, hml, hown, hts⟩ (cX4_unfold_m l dC dI ca ad kf vf tf fr sf fi bk bv w ny nb (nI c9) (nI a2) (nI e9) th op 1 r1 _) (cwS 1 hts (xg_S mb_methodLink_RX4_107 mb_static_yX4_unfold mb_initialized_RX4 mb_code_yX4_unfold) rfl rfl rfl ⟨rfl, by decide, by decide, by decide +kernel⟩ ⟨Nat.le_of_ble_eq_true rfl, Nat.le_of_ble_eq_true rfl⟩) (xpreS hK hP hD hS hA hE) rfl rfl hl.1 rfl (lv_room (Nat.le_of_ble_eq_true rfl)) dX4_isBlock_113 ⟨Nat.le_of_ble_eq_true rfl, Nat.le_of_ble_eq_true rfl⟩) hD hS hA (fun r u H locs hu hP hD hS => ?_)
          subst hu
          have hP : va_P (dC, dI) vwCl (xm ad ca kf vf tf fr sf fi bk bv w ny nb (nI c9) (nI a2) (nI e9) th op 1) H := hP
          have hD : va_D A (xm ad ca kf vf tf fr sf fi bk bv w ny nb (nI c9) (nI a2) (nI e9) th op 1) := hD
          refine lv_l2i (v := (pu_u r1).toInt32) hx hb dX4_isBlock_116 (rfl) ?_
          refine lv_goto (tgt := 137) hx hb dX4_isBlock_117 rfl ?_
          refine lv_topi (fun z1 ez1 => ?_)
          have ez1 : z1 = if c9 = 0 then (pu_u r1).toInt32 else (ek.toInt64 + r1 + 1).toInt32 := ez1.trans (by rw [if_pos hc0])
          subst ez1
          refine va_iast hx hb hK hP hD hS 7 6 rfl rfl (vp_in_nI (by omega) (by decide)) dX4_isBlock_137 (fun H locs hP hD hS => ?_)
          have e9 : upd bk (nI c9).toNatClampNeg (if c9 = 0 then (pu_u r1).toInt32 else (ek.toInt64 + r1 + 1).toInt32) = upd bk c9 (if c9 = 0 then (pu_u r1).toInt32 else (ek.toInt64 + r1 + 1).toInt32) := by rw [nI_clamp (by omega)]
          rw [e9] at hP hD
          clear e9
          have hP : va_P (dC, dI) vwCl (xm ad ca kf vf tf fr sf fi (upd bk c9 (if c9 = 0 then (pu_u r1).toInt32 else (ek.toInt64 + r1 + 1).toInt32)) bv w ny nb (nI c9) (nI a2) (nI e9) th op 1) H := hP
          have hD : va_D A (xm ad ca kf vf tf fr sf fi (upd bk c9 (if c9 = 0 then (pu_u r1).toInt32 else (ek.toInt64 + r1 + 1).toInt32)) bv w ny nb (nI c9) (nI a2) (nI e9) th op 1) := hD
          refine lv_aload_n hx hb dX4_isBlock_138 rfl (lv_at hl 2 rfl) ?_
          refine va_get (D := (dC, dI)) (ci := 4) (v := .ref (ad 8)) (C := RX4) (T := TX4) (N := 17) (ref := "SortedRunModel") hx hb hts (xg_u mb_uws_X4) hown hK hP 0 rfl rfl 7 (by decide) (xg_w hts mb_fieldLink_RX4_33) (fun _ h9 => h9) rfl dX4_isBlock_139 ?_
          refine lv_aload_n hx hb dX4_isBlock_142 rfl (lv_at hl 2 rfl) ?_
          refine va_get (D := (dC, dI)) (ci := 4) (v := .int (nI c9)) (C := RX4) (T := TX4) (N := 17) (ref := "SortedRunModel") hx hb hts (xg_u mb_uws_X4) hown hK hP 0 rfl rfl 11 (by decide) (xg_w hts mb_fieldLink_RX4_110) (fun _ h9 => h9) rfl dX4_isBlock_143 ?_
          refine lv_lload hx hb dX4_isBlock_146 (lv_at hl 0 rfl) ?_
          refine xk_l (va_runS (As := [.long r2]) (rest := [.int (nI c9), .ref (ad 8)]) ⟨hx, hb, hml, hown, hts⟩ (cX4_unfold_m l dC dI ca ad kf vf tf fr sf fi (upd bk c9 (if c9 = 0 then (pu_u r1).toInt32 else (ek.toInt64 + r1 + 1).toInt32)) bv w ny nb (nI c9) (nI a2) (nI e9) th op 1 r2 _) (cwS 1 hts (xg_S mb_methodLink_RX4_107 mb_static_yX4_unfold mb_initialized_RX4 mb_code_yX4_unfold) rfl rfl rfl ⟨rfl, by decide, by decide, by decide +kernel⟩ ⟨Nat.le_of_ble_eq_true rfl, Nat.le_of_ble_eq_true rfl⟩) (xpreS hK hP hD hS hA hE) rfl rfl hl.1 rfl (lv_room (Nat.le_of_ble_eq_true rfl)) dX4_isBlock_148 ⟨Nat.le_of_ble_eq_true rfl, Nat.le_of_ble_eq_true rfl⟩) hD hS hA (fun r u H locs hu hP hD hS => ?_)
          subst hu
          have hP : va_P (dC, dI) vwCl (xm ad ca kf vf tf fr sf fi (upd bk c9 (if c9 = 0 then (pu_u r1).toInt32 else (ek.toInt64 + r1 + 1).toInt32)) bv w ny nb (nI c9) (nI a2) (nI e9) th op 1) H := hP
          have hD : va_D A (xm ad ca kf vf tf fr sf fi (upd bk c9 (if c9 = 0 then (pu_u r1).toInt32 else (ek.toInt64 + r1 + 1).toInt32)) bv w ny nb (nI c9) (nI a2) (nI e9) th op 1) := hD
          refine va_last hx hb hK hP hD hS 8 7 rfl rfl (vp_in_nI (by omega) (by decide)) dX4_isBlock_151 (fun H locs hP hD hS => ?_)
          have e9 : vp_updL bv (nI c9).toNatClampNeg (pu_u r2) = vp_updL bv c9 (pu_u r2) := by rw [nI_clamp (by omega)]
          rw [e9] at hP hD
          clear e9
          have hP : va_P (dC, dI) vwCl (xm ad ca kf vf tf fr sf fi (upd bk c9 (if c9 = 0 then (pu_u r1).toInt32 else (ek.toInt64 + r1 + 1).toInt32)) (vp_updL bv c9 (pu_u r2)) w ny nb (nI c9) (nI a2) (nI e9) th op 1) H := hP
          have hD : va_D A (xm ad ca kf vf tf fr sf fi (upd bk c9 (if c9 = 0 then (pu_u r1).toInt32 else (ek.toInt64 + r1 + 1).toInt32)) (vp_updL bv c9 (pu_u r2)) w ny nb (nI c9) (nI a2) (nI e9) th op 1) := hD
          refine lv_aload_n hx hb dX4_isBlock_152 rfl (lv_at hl 2 rfl) ?_
          refine lv_dup hx hb dX4_isBlock_153 rfl ?_
          refine va_get (D := (dC, dI)) (ci := 4) (v := .int (nI c9)) (C := RX4) (T := TX4) (N := 17) (ref := "SortedRunModel") hx hb hts (xg_u mb_uws_X4) hown hK hP 0 rfl rfl 11 (by decide) (xg_w hts mb_fieldLink_RX4_110) (fun _ h9 => h9) rfl dX4_isBlock_154 ?_
          refine lv_iconst (v := 1) hx hb dX4_isBlock_157 (by decide) ?_
          refine lv_iadd hx hb dX4_isBlock_158 ?_
          refine lv_topi (fun z2 ez2 => ?_)
          have ez2 : z2 = nI (c9 + 1) := ez2.trans (nI_1 c9)
          subst ez2
          refine va_put (D := (dC, dI)) (ci := 4) (v := .int (nI (c9 + 1))) (ty := .int) (C := RX4) (T := TX4) (N := 17) (ref := "SortedRunModel") hx hb hts (xg_u mb_uws_X4) tyX4 tyX4_ok nmX4 hown hK hP hD hS 0 rfl rfl 11 (by decide) (xg_w hts mb_fieldLink_RX4_110) (fun _ h9 => h9) rfl (by decide +kernel) rfl rfl (Nat.le_of_ble_eq_true rfl) dX4_isBlock_159 (fun H locs hP hD hS => ?_)
          have hP : va_P (dC, dI) vwCl (xm ad ca kf vf tf fr sf fi (upd bk c9 (if c9 = 0 then (pu_u r1).toInt32 else (ek.toInt64 + r1 + 1).toInt32)) (vp_updL bv c9 (pu_u r2)) w ny nb (nI (c9 + 1)) (nI a2) (nI e9) th op 1) H := hP
          have hD : va_D A (xm ad ca kf vf tf fr sf fi (upd bk c9 (if c9 = 0 then (pu_u r1).toInt32 else (ek.toInt64 + r1 + 1).toInt32)) (vp_updL bv c9 (pu_u r2)) w ny nb (nI (c9 + 1)) (nI a2) (nI e9) th op 1) := hD
          refine lv_goto (tgt := 68) hx hb dX4_isBlock_162 rfl ?_
          refine lv_aload_n hx hb dX4_isBlock_68 rfl (lv_at hl 2 rfl) ?_
          refine va_get (D := (dC, dI)) (ci := 4) (v := .int (nI a2)) (C := RX4) (T := TX4) (N := 17) (ref := "SortedRunModel") hx hb hts (xg_u mb_uws_X4) hown hK hP 0 rfl rfl 12 (by decide) (xg_w hts mb_fieldLink_RX4_78) (fun _ h9 => h9) rfl dX4_isBlock_69 ?_
          refine lv_aload_n hx hb dX4_isBlock_72 rfl (lv_at hl 2 rfl) ?_
          refine va_get (D := (dC, dI)) (ci := 4) (v := .int (nI e9)) (C := RX4) (T := TX4) (N := 17) (ref := "SortedRunModel") hx hb hts (xg_u mb_uws_X4) hown hK hP 0 rfl rfl 13 (by decide) (xg_w hts mb_fieldLink_RX4_81) (fun _ h9 => h9) rfl dX4_isBlock_73 ?_
          refine lv_icmp_ge (tgt := 165) hx hb dX4_isBlock_76 rfl (fun hc7 => ?_) (fun hc7 => ?_)
          · exact kb hno _ _ _ _ H locs ls (lv_sub hl [2] rfl) hP hD hS
          · refine lv_aload_n hx hb dX4_isBlock_79 rfl (lv_at hl 2 rfl) ?_
            refine va_get (D := (dC, dI)) (ci := 4) (v := .int 1) (C := RX4) (T := TX4) (N := 17) (ref := "SortedRunModel") hx hb hts (xg_u mb_uws_X4) hown hK hP 0 rfl rfl 16 (by decide) (xg_w hts mb_fieldLink_RX4_84) (fun _ h9 => h9) rfl dX4_isBlock_80 ?_
            refine lv_if_ne (tgt := 165) hx hb dX4_isBlock_83 rfl (fun hc8 => ?_) (fun hc8 => absurd hc8 (by decide))
            exact kb hno _ _ _ _ H locs ls (lv_sub hl [2] rfl) hP hD hS

set_option maxHeartbeats 4000000 in
set_option maxRecDepth 100000 in
theorem cX4_isBlock_m (l : Launch) (dC : Nat → ClassId) (dI : Nat → Nat → Nat) (ca : Nat → ClassId) (ad : Nat → Nat) (kf : Nat → Int32) (vf : Nat → Int64) (tf : Nat → Int32) (fr : Nat → Int32) (sf : Nat → Int32) (fi : Nat → Int32) (bk : Nat → Int32) (bv : Nat → Int64) (w : Int32) (ny : Int32) (nb : Int32) (mn : Int32) (ai : Int32) (en : Int32) (th : Int32) (op : Int32) (wr : Int32) (j bp s9 : Nat) (hj : j < 6000) (hp : fr j = nI bp) (hs : sf j = nI s9) (hps : bp + s9 ≤ 4889) (hf : pb_fit tf) : ∀ sz : Nat, Met l yX4_isBlock wsX4_isBlock ({ frames := 2, cells := 0, slots := 0, locals := 50 } : Room) (va_Pc [.ref (ad 0), .int (nI j)] (xP (dC, dI) (xt ca) (xm ad ca kf vf tf fr sf fi bk bv w ny nb mn ai en th op wr) sz)) (va_Qi (S := (Nat → Int32) × (Nat → Int64) × Int32 × Int32 × Int32 × Int32) (fun r u => (∃ lb, pe_blk tf bp (bp + s9) = some lb ∧ r = 1 ∧ u.2.2.1 = nI lb.length ∧ lb.length ≤ 2444 ∧ (∀ i, i < lb.length → u.1 (i) = (lb.getD i (0, 0)).1 ∧ u.2.1 (i) = (lb.getD i (0, 0)).2)) ∨ (pe_blk tf bp (bp + s9) = none ∧ r = 0)) (fun u t => xB (dC, dI) (xt ca) (va_A (xm ad ca kf vf tf fr sf fi bk bv w ny nb mn ai en th op wr) sz) (xm ad ca kf vf tf fr sf fi u.1 u.2.1 w ny nb u.2.2.1 u.2.2.2.1 u.2.2.2.2.1 th op u.2.2.2.2.2) t) (va_A (xm ad ca kf vf tf fr sf fi bk bv w ny nb mn ai en th op wr) sz)) 0 0 (va_A (xm ad ca kf vf tf fr sf fi bk bv w ny nb mn ai en th op wr) sz) := by
  intro sz
  refine Met.ofW (cc := cX4_isBlock) (maxL := 6) (ret := (some .boolean)) (by decide) rfl ?_
  intro p e s m args below meth c s₁ B hml hv
  obtain ⟨rfl, hsz, hP, hK, hD0, hE⟩ := hv
  have hx := B.exec
  have hb := B.bytes
  have hr := B.returns
  have hts := atoms_spec (ws := wsX4_isBlock) B.pre
  have hown : s.vm.findClass RX4 = some m.cls := findClass_of_methodNamed B.named
  have hlocks := B.notSynchronized
  subst hsz
  have hD := hD0.self (sz := s.heap.size)
  generalize hAe : va_A (xm ad ca kf vf tf fr sf fi bk bv w ny nb mn ai en th op wr) s.heap.size = A at hD hE ⊢
  have hA : ∀ q : Nat, s.heap.size ≤ q → A q := fun q h => by rw [← hAe]; exact Or.inr h
  have hS : va_S A s.heap s.heap [] := va_S.rf
  have hl := lv_entry ([.ref (ad 0), .int (nI j)]) (n := 6) (Nat.le_of_ble_eq_true rfl)
  rw [lg_entry_eq]
  generalize (lg_sl ([.ref (ad 0), .int (nI j)]) ++ List.replicate (6 - (lg_sl ([.ref (ad 0), .int (nI j)])).length) Slot.unset).toArray = ls at hl ⊢
  have hl : lv_has ls 6 [(0, .ref (ad 0)), (1, .int (nI j))] := hl
  refine lv_aload_n hx hb dX4_isBlock_0 rfl (lv_at hl 0 rfl) ?_
  refine lv_iconst (v := nI 0) hx hb dX4_isBlock_1 (by decide) ?_
  refine va_put (D := (dC, dI)) (ci := 4) (v := .int (nI 0)) (ty := .int) (C := RX4) (T := TX4) (N := 17) (ref := "SortedRunModel") hx hb hts (xg_u mb_uws_X4) tyX4 tyX4_ok nmX4 hown hK hP hD hS 0 rfl rfl 11 (by decide) (xg_w hts mb_fieldLink_RX4_110) (fun _ h9 => h9) rfl (by decide +kernel) rfl rfl (Nat.le_of_ble_eq_true rfl) dX4_isBlock_2 (fun H locs hP hD hS => ?_)
  have hP : va_P (dC, dI) vwCl (xm ad ca kf vf tf fr sf fi bk bv w ny nb (nI 0) ai en th op wr) H := hP
  have hD : va_D A (xm ad ca kf vf tf fr sf fi bk bv w ny nb (nI 0) ai en th op wr) := hD
  refine lv_aload_n hx hb dX4_isBlock_5 rfl (lv_at hl 0 rfl) ?_
  refine va_get (D := (dC, dI)) (ci := 4) (v := .ref (ad 5)) (C := RX4) (T := TX4) (N := 17) (ref := "SortedRunModel") hx hb hts (xg_u mb_uws_X4) hown hK hP 0 rfl rfl 4 (by decide) (xg_w hts mb_fieldLink_RX4_24) (fun _ h9 => h9) rfl dX4_isBlock_6 ?_
  refine lv_iload_n hx hb dX4_isBlock_9 rfl (lv_at hl 1 rfl) ?_
  refine va_iald hx hb hK hP 5 4 rfl rfl (vp_in_nI hj (by decide)) dX4_isBlock_10 ?_
  refine lv_topi (fun z1 ez1 => ?_)
  have ez1 : z1 = nI s9 := ez1.trans ((congrArg sf (nI_clamp (by omega))).trans hs)
  subst ez1
  refine lv_iconst (v := nI 4) hx hb dX4_isBlock_11 (by decide) ?_
  refine lv_icmp_ge (tgt := 17) hx hb dX4_isBlock_12 rfl (fun hc => ?_) (fun hc => ?_)
  · have h4 : 4 ≤ s9 := (nI_leI (by decide) (by omega)).mp hc
    refine lv_aload_n hx hb dX4_isBlock_17 rfl (lv_at hl 0 rfl) ?_
    refine lv_aload_n hx hb dX4_isBlock_18 rfl (lv_at hl 0 rfl) ?_
    refine va_get (D := (dC, dI)) (ci := 4) (v := .ref (ad 4)) (C := RX4) (T := TX4) (N := 17) (ref := "SortedRunModel") hx hb hts (xg_u mb_uws_X4) hown hK hP 0 rfl rfl 3 (by decide) (xg_w hts mb_fieldLink_RX4_21) (fun _ h9 => h9) rfl dX4_isBlock_19 ?_
    refine lv_iload_n hx hb dX4_isBlock_22 rfl (lv_at hl 1 rfl) ?_
    refine va_iald hx hb hK hP 4 3 rfl rfl (vp_in_nI hj (by decide)) dX4_isBlock_23 ?_
    refine lv_topi (fun z2 ez2 => ?_)
    have ez2 : z2 = nI bp := ez2.trans ((congrArg fr (nI_clamp (by omega))).trans hp)
    subst ez2
    refine va_put (D := (dC, dI)) (ci := 4) (v := .int (nI bp)) (ty := .int) (C := RX4) (T := TX4) (N := 17) (ref := "SortedRunModel") hx hb hts (xg_u mb_uws_X4) tyX4 tyX4_ok nmX4 hown hK hP hD hS 0 rfl rfl 12 (by decide) (xg_w hts mb_fieldLink_RX4_78) (fun _ h9 => h9) rfl (by decide +kernel) rfl rfl (Nat.le_of_ble_eq_true rfl) dX4_isBlock_24 (fun H locs hP hD hS => ?_)
    have hP : va_P (dC, dI) vwCl (xm ad ca kf vf tf fr sf fi bk bv w ny nb (nI 0) (nI bp) en th op wr) H := hP
    have hD : va_D A (xm ad ca kf vf tf fr sf fi bk bv w ny nb (nI 0) (nI bp) en th op wr) := hD
    refine lv_aload_n hx hb dX4_isBlock_27 rfl (lv_at hl 0 rfl) ?_
    refine lv_aload_n hx hb dX4_isBlock_28 rfl (lv_at hl 0 rfl) ?_
    refine va_get (D := (dC, dI)) (ci := 4) (v := .ref (ad 4)) (C := RX4) (T := TX4) (N := 17) (ref := "SortedRunModel") hx hb hts (xg_u mb_uws_X4) hown hK hP 0 rfl rfl 3 (by decide) (xg_w hts mb_fieldLink_RX4_21) (fun _ h9 => h9) rfl dX4_isBlock_29 ?_
    refine lv_iload_n hx hb dX4_isBlock_32 rfl (lv_at hl 1 rfl) ?_
    refine va_iald hx hb hK hP 4 3 rfl rfl (vp_in_nI hj (by decide)) dX4_isBlock_33 ?_
    refine lv_topi (fun z3 ez3 => ?_)
    have ez3 : z3 = nI bp := ez3.trans ((congrArg fr (nI_clamp (by omega))).trans hp)
    subst ez3
    refine lv_aload_n hx hb dX4_isBlock_34 rfl (lv_at hl 0 rfl) ?_
    refine va_get (D := (dC, dI)) (ci := 4) (v := .ref (ad 5)) (C := RX4) (T := TX4) (N := 17) (ref := "SortedRunModel") hx hb hts (xg_u mb_uws_X4) hown hK hP 0 rfl rfl 4 (by decide) (xg_w hts mb_fieldLink_RX4_24) (fun _ h9 => h9) rfl dX4_isBlock_35 ?_
    refine lv_iload_n hx hb dX4_isBlock_38 rfl (lv_at hl 1 rfl) ?_
    refine va_iald hx hb hK hP 5 4 rfl rfl (vp_in_nI hj (by decide)) dX4_isBlock_39 ?_
    refine lv_topi (fun z4 ez4 => ?_)
    have ez4 : z4 = nI s9 := ez4.trans ((congrArg sf (nI_clamp (by omega))).trans hs)
    subst ez4
    refine lv_iadd hx hb dX4_isBlock_40 ?_
    refine lv_topi (fun z5 ez5 => ?_)
    have ez5 : z5 = nI (bp + s9) := ez5.trans (nI_add _ _)
    subst ez5
    refine lv_iconst (v := nI 4) hx hb dX4_isBlock_41 (by decide) ?_
    refine lv_isub hx hb dX4_isBlock_42 ?_
    refine lv_topi (fun z6 ez6 => ?_)
    have ez6 : z6 = nI (bp + s9 - 4) := ez6.trans (pk_sub (by omega))
    subst ez6
    refine va_put (D := (dC, dI)) (ci := 4) (v := .int (nI (bp + s9 - 4))) (ty := .int) (C := RX4) (T := TX4) (N := 17) (ref := "SortedRunModel") hx hb hts (xg_u mb_uws_X4) tyX4 tyX4_ok nmX4 hown hK hP hD hS 0 rfl rfl 13 (by decide) (xg_w hts mb_fieldLink_RX4_81) (fun _ h9 => h9) rfl (by decide +kernel) rfl rfl (Nat.le_of_ble_eq_true rfl) dX4_isBlock_43 (fun H locs hP hD hS => ?_)
    have hP : va_P (dC, dI) vwCl (xm ad ca kf vf tf fr sf fi bk bv w ny nb (nI 0) (nI bp) (nI (bp + s9 - 4)) th op wr) H := hP
    have hD : va_D A (xm ad ca kf vf tf fr sf fi bk bv w ny nb (nI 0) (nI bp) (nI (bp + s9 - 4)) th op wr) := hD
    refine lv_aload_n hx hb dX4_isBlock_46 rfl (lv_at hl 0 rfl) ?_
    refine lv_aload_n hx hb dX4_isBlock_47 rfl (lv_at hl 0 rfl) ?_
    refine va_get (D := (dC, dI)) (ci := 4) (v := .int (nI bp)) (C := RX4) (T := TX4) (N := 17) (ref := "SortedRunModel") hx hb hts (xg_u mb_uws_X4) hown hK hP 0 rfl rfl 12 (by decide) (xg_w hts mb_fieldLink_RX4_78) (fun _ h9 => h9) rfl dX4_isBlock_48 ?_
    refine lv_aload_n hx hb dX4_isBlock_51 rfl (lv_at hl 0 rfl) ?_
    refine va_get (D := (dC, dI)) (ci := 4) (v := .int (nI (bp + s9 - 4))) (C := RX4) (T := TX4) (N := 17) (ref := "SortedRunModel") hx hb hts (xg_u mb_uws_X4) hown hK hP 0 rfl rfl 13 (by decide) (xg_w hts mb_fieldLink_RX4_81) (fun _ h9 => h9) rfl dX4_isBlock_52 ?_
    refine xk_i (va_runV (As := [.int (nI bp), .int (nI (bp + s9 - 4))]) (rest := []) ⟨hx, hb, hml, hown, hts⟩ (cX4_isSealed_m l dC dI ca ad kf vf tf fr sf fi bk bv w ny nb (nI 0) (nI bp) (nI (bp + s9 - 4)) th op wr bp (bp + s9 - 4) (by omega) (by omega) hf _) (cwV 2 hts (xg_V mb_methodLink_RX4_95 mb_instanceMethod_yX4_isSealed mb_selects_yX4_isSealed mb_initialized_RX4 mb_code_yX4_isSealed) rfl rfl rfl ⟨rfl, by decide, by decide, by decide +kernel⟩ ⟨Nat.le_of_ble_eq_true rfl, Nat.le_of_ble_eq_true rfl⟩) (xpreV (va_recv (q0 := 0) hK hP rfl rfl) hK hP hD hS hA hE) rfl rfl hl.1 rfl (lv_room (Nat.le_of_ble_eq_true rfl)) dX4_isBlock_55 ⟨Nat.le_of_ble_eq_true rfl, Nat.le_of_ble_eq_true rfl⟩) hD hS hA (fun r u H locs hu hP hD hS => ?_)
    have hP : va_P (dC, dI) vwCl (xm ad ca kf vf tf fr sf fi bk bv w ny nb (nI 0) (nI bp) (nI (bp + s9 - 4)) th op wr) H := hP
    have hD : va_D A (xm ad ca kf vf tf fr sf fi bk bv w ny nb (nI 0) (nI bp) (nI (bp + s9 - 4)) th op wr) := hD
    rcases hu with hu | hu
    · obtain ⟨rfl, hh⟩ := hu
      have hb0 : pe_blk tf bp (bp + s9) = pe_bl tf (bp + s9 - 4) (bp + s9 - 4) true 0 bp := by unfold pe_blk; rw [if_pos ⟨by omega, ps_hasB_iff.mpr hh⟩]
      refine lv_if_ne (tgt := 63) hx hb dX4_isBlock_58 rfl (fun hc => ?_) (fun hc => absurd hc (by decide))
      refine lv_aload_n hx hb dX4_isBlock_63 rfl (lv_at hl 0 rfl) ?_
      refine lv_iconst (v := 0) hx hb dX4_isBlock_64 (by decide) ?_
      refine va_put (D := (dC, dI)) (ci := 4) (v := .int 0) (ty := .boolean) (C := RX4) (T := TX4) (N := 17) (ref := "SortedRunModel") hx hb hts (xg_u mb_uws_X4) tyX4 tyX4_ok nmX4 hown hK hP hD hS 0 rfl rfl 16 (by decide) (xg_w hts mb_fieldLink_RX4_84) (fun _ h9 => h9) rfl (by decide +kernel) rfl rfl (Nat.le_of_ble_eq_true rfl) dX4_isBlock_65 (fun H locs hP hD hS => ?_)
      have hP : va_P (dC, dI) vwCl (xm ad ca kf vf tf fr sf fi bk bv w ny nb (nI 0) (nI bp) (nI (bp + s9 - 4)) th op 0) H := hP
      have hD : va_D A (xm ad ca kf vf tf fr sf fi bk bv w ny nb (nI 0) (nI bp) (nI (bp + s9 - 4)) th op 0) := hD
      refine lpX4_isBlock_bl hx hb hml hown hts hK hA hE (e9 := bp + s9 - 4) (by omega) hf (bp + s9) bp 0 0 bk bv _ _ _ (by omega) (by omega) (by omega) (fun z => absurd z (Nat.lt_irrefl 0)) (lv_sub hl [0] rfl) hP hD hS ?_ ?_
      · intro lb hlb ck cv x2 _ hrw H locs ls hl hP hD hS
        have hlen := pe_bl_len _ _ _ _ _ hlb
        simp only [Nat.zero_add] at hrw hP hD
        refine lv_aload_n hx hb dX4_isBlock_165 rfl (lv_at hl 0 rfl) ?_
        refine va_get (D := (dC, dI)) (ci := 4) (v := .int 0) (C := RX4) (T := TX4) (N := 17) (ref := "SortedRunModel") hx hb hts (xg_u mb_uws_X4) hown hK hP 0 rfl rfl 16 (by decide) (xg_w hts mb_fieldLink_RX4_84) (fun _ h9 => h9) rfl dX4_isBlock_166 ?_
        refine lv_if_ne (tgt := 176) hx hb dX4_isBlock_169 rfl (fun hc => absurd hc (not_not_intro rfl)) (fun hc => ?_)
        refine lv_iconst (v := 1) hx hb dX4_isBlock_172 (by decide) ?_
        refine lv_goto (tgt := 177) hx hb dX4_isBlock_173 rfl ?_
        have hP9 := hP
        have hD9 := hD
        exact W.zret (v := 1) hx hb hr (by rfl) (fun t ht hW => ⟨⟨1, (ck, cv, nI lb.length, x2, nI (bp + s9 - 4), 0), rfl, Or.inl ⟨lb, hb0.trans hlb, rfl, rfl, by omega, hrw⟩, by rw [ht]; exact hP9, va_K.moved hW.alike hK, hD9⟩, hS.F ht⟩) hS.2.2 dX4_isBlock_177
      · intro hlb ck cv x1 x2 H locs ls hl hP hD hS
        refine lv_aload_n hx hb dX4_isBlock_165 rfl (lv_at hl 0 rfl) ?_
        refine va_get (D := (dC, dI)) (ci := 4) (v := .int 1) (C := RX4) (T := TX4) (N := 17) (ref := "SortedRunModel") hx hb hts (xg_u mb_uws_X4) hown hK hP 0 rfl rfl 16 (by decide) (xg_w hts mb_fieldLink_RX4_84) (fun _ h9 => h9) rfl dX4_isBlock_166 ?_
        refine lv_if_ne (tgt := 176) hx hb dX4_isBlock_169 rfl (fun hc => ?_) (fun hc => absurd hc (by decide))
        refine lv_iconst (v := 0) hx hb dX4_isBlock_176 (by decide) ?_
        have hP9 := hP
        have hD9 := hD
        exact W.zret (v := 0) hx hb hr (by rfl) (fun t ht hW => ⟨⟨0, (ck, cv, x1, x2, nI (bp + s9 - 4), 1), rfl, Or.inr ⟨hb0.trans hlb, rfl⟩, by rw [ht]; exact hP9, va_K.moved hW.alike hK, hD9⟩, hS.F ht⟩) hS.2.2 dX4_isBlock_177
    · obtain ⟨rfl, hh⟩ := hu
      refine lv_if_ne (tgt := 63) hx hb dX4_isBlock_58 rfl (fun hc => absurd hc (not_not_intro rfl)) (fun hc => ?_)
      have hno : pe_blk tf bp (bp + s9) = none := by unfold pe_blk; rw [if_neg (fun y => hh (ps_hasB_iff.mp y.2))]
      refine lv_iconst (v := 0) hx hb dX4_isBlock_61 (by decide) ?_
      have hP9 := hP
      have hD9 := hD
      exact W.zret (v := 0) hx hb hr (by rfl) (fun t ht hW => ⟨⟨0, (bk, bv, nI 0, nI bp, nI (bp + s9 - 4), wr), rfl, Or.inr ⟨hno, rfl⟩, by rw [ht]; exact hP9, va_K.moved hW.alike hK, hD9⟩, hS.F ht⟩) hS.2.2 dX4_isBlock_62
  · have hno : pe_blk tf bp (bp + s9) = none := by unfold pe_blk; rw [if_neg (fun y => hc (nI_le (by omega) (by omega)))]
    refine lv_iconst (v := 0) hx hb dX4_isBlock_15 (by decide) ?_
    have hP9 := hP
    have hD9 := hD
    exact W.zret (v := 0) hx hb hr (by rfl) (fun t ht hW => ⟨⟨0, (bk, bv, nI 0, ai, en, wr), rfl, Or.inr ⟨hno, rfl⟩, by rw [ht]; exact hP9, va_K.moved hW.alike hK, hD9⟩, hS.F ht⟩) hS.2.2 dX4_isBlock_16
