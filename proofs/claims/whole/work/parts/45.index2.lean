/-! Index: readBlocks, readFrom (rows by wip/whole/wix.py) -/
set_option maxHeartbeats 4000000 in
set_option maxRecDepth 100000 in
theorem cX1_readBlocks_m (l : Launch) (dC : Nat → ClassId) (dI : Nat → Nat → Nat) (ca : Nat → ClassId) (ad : Nat → Nat) (kf : Nat → Int32) (vf : Nat → Int64) (bf : Nat → Int32) (w : Int32) (op : Int32) (ln : Int32) (tf : Nat → Int32) (nb : Int32) (ef : Nat → Int32) (ff : Nat → Int32) (fi : Int32) (ek : Int32) (ev : Int64) (a e9 st : Nat) (ha : a ≤ e9) (he9 : e9 ≤ 4889) (hst : st < 2 ^ 31) : ∀ sz : Nat, Met l yX1_readBlocks wsX1_readBlocks ({ frames := 2, cells := 0, slots := 0, locals := 45 } : Room) (va_Pc [.ref (ad 6), .ref (ad 4), .int (nI st)] (xP (dC, dI) (xt ca) (xw ad ca kf vf bf w op ln (nI a) (nI e9) 1 tf nb ef ff fi ek ev) sz)) (va_Qi (S := Int32 × Nat × Int32 × (Nat → Int32) × (Nat → Int32)) (fun r u => (∃ n a1 lr, pb_rd tf e9 a = some (n, a1) ∧ n ≤ 2444 ∧ px_rd tf e9 n a1 = some (lr, u.2.1) ∧ u.2.2.1 = 1 ∧ u.1 = nI n ∧ px_rows 0 0 lr u.2.2.2.1 u.2.2.2.2 ∧ ((r = 1 ∧ px_sum lr = st) ∨ (r = 0 ∧ ¬ px_sum lr = st))) ∨ ((r = 0 ∨ u.2.2.1 = 0) ∧ (r = 0 ∨ r = 1) ∧ u.2.1 ≤ e9 ∧ px_bad tf e9 a)) (fun u t => xB (dC, dI) (xt ca) (va_A (xw ad ca kf vf bf w op ln (nI a) (nI e9) 1 tf nb ef ff fi ek ev) sz) (xw ad ca kf vf bf w op ln (nI u.2.1) (nI e9) u.2.2.1 tf u.1 u.2.2.2.1 u.2.2.2.2 fi ek ev) t) (va_A (xw ad ca kf vf bf w op ln (nI a) (nI e9) 1 tf nb ef ff fi ek ev) sz)) 0 0 (va_A (xw ad ca kf vf bf w op ln (nI a) (nI e9) 1 tf nb ef ff fi ek ev) sz) := by
  intro sz
  refine Met.ofW (cc := cX1_readBlocks) (maxL := 12) (ret := (some .boolean)) (by decide) rfl ?_
  intro p e s m args below meth c s₁ B hml hv
  obtain ⟨rfl, hsz, hP, hK, hD0, hE⟩ := hv
  have hx := B.exec
  have hb := B.bytes
  have hr := B.returns
  have hts := atoms_spec (ws := wsX1_readBlocks) B.pre
  have hown : s.vm.findClass RX1 = some m.cls := findClass_of_methodNamed B.named
  have hlocks := B.notSynchronized
  subst hsz
  have hD := hD0.self (sz := s.heap.size)
  generalize hAe : va_A (xw ad ca kf vf bf w op ln (nI a) (nI e9) 1 tf nb ef ff fi ek ev) s.heap.size = A at hD hE ⊢
  have hA : ∀ q : Nat, s.heap.size ≤ q → A q := fun q h => by rw [← hAe]; exact Or.inr h
  have hS : va_S A s.heap s.heap [] := va_S.rf
  have hl := lv_entry ([.ref (ad 6), .ref (ad 4), .int (nI st)]) (n := 12) (Nat.le_of_ble_eq_true rfl)
  rw [lg_entry_eq]
  generalize (lg_sl ([.ref (ad 6), .ref (ad 4), .int (nI st)]) ++ List.replicate (12 - (lg_sl ([.ref (ad 6), .ref (ad 4), .int (nI st)])).length) Slot.unset).toArray = ls at hl ⊢
  have hl : lv_has ls 12 [(0, .ref (ad 6)), (1, .ref (ad 4)), (2, .int (nI st))] := hl
  refine lv_aload_n hx hb dX1_readBlocks_0 rfl (lv_at hl 1 rfl) ?_
  refine xk_l (va_runV (As := []) (rest := []) ⟨hx, hb, hml, hown, hts⟩ (cX2_takeNumber_m l dC dI ca ad kf vf bf w op ln 1 tf nb ef ff fi ek ev a e9 ha he9 _) (cwV 0 hts (xg_V mb_methodLink_RX1_51 mb_instanceMethod_yX2_takeNumber mb_selects_yX2_takeNumber mb_initialized_RX2 mb_code_yX2_takeNumber) rfl rfl rfl ⟨rfl, by decide, by decide, by decide +kernel⟩ ⟨Nat.le_of_ble_eq_true rfl, Nat.le_of_ble_eq_true rfl⟩) (xpreV (va_recv (q0 := 4) hK hP rfl rfl) hK hP hD hS hA hE) rfl rfl hl.1 rfl (lv_room (Nat.le_of_ble_eq_true rfl)) dX1_readBlocks_1 ⟨Nat.le_of_ble_eq_true rfl, Nat.le_of_ble_eq_true rfl⟩) hD hS hA (fun r u H locs hu hP hD hS => ?_)
  have hP : va_P (dC, dI) vwCl (xw ad ca kf vf bf w op ln (nI u.2.1) (nI e9) u.2.2 tf nb ef ff fi ek ev) H := hP
  have hD : va_D A (xw ad ca kf vf bf w op ln (nI u.2.1) (nI e9) u.2.2 tf nb ef ff fi ek ev) := hD
  obtain ⟨n, a1, o1⟩ := u
  obtain ⟨hr1, hn1, h1, h2, hq1⟩ := hu
  dsimp only at hr1 hn1 h1 h2 hq1 hP hD
  subst hr1
  have hf := pz_fit2 (B := 2444) hn1 (by decide)
  have hbad : ¬ n ≤ 2444 → px_bad tf e9 a := fun hn => hq1.elim (fun z => Or.inr ⟨n, a1, z.1, Or.inl (by omega)⟩) (fun z => Or.inl z.1)
  refine lv_lstore_n hx hb dX1_readBlocks_4 rfl hl (by decide) rfl (fun ls hl => ?_)
  have hl : lv_has ls 12 [(3, .long (lN n)), (0, .ref (ad 6)), (1, .ref (ad 4)), (2, .int (nI st))] := hl
  refine lv_lload_n hx hb dX1_readBlocks_5 rfl (lv_at hl 0 rfl) ?_
  refine lv_lconst (v := lN 0) hx hb dX1_readBlocks_6 (by decide) ?_
  refine W.lcmp hx hb dX1_readBlocks_7 ?_
  refine lv_if_lt (tgt := 19) hx hb dX1_readBlocks_8 rfl (fun hc => ?_) (fun hc => ?_)
  · refine lv_iconst (v := 0) hx hb dX1_readBlocks_19 (by decide) ?_
    have hP9 := hP
    have hD9 := hD
    exact W.zret (v := 0) hx hb hr (by rfl) (fun t ht hW => ⟨⟨0, (nb, a1, o1, ef, ff), rfl, Or.inr ⟨Or.inl rfl, Or.inl rfl, h2, hbad (fun z => (hf.mpr z).1 (lc_lt.mp hc))⟩, by rw [ht]; exact hP9, va_K.moved hW.alike hK, hD9⟩, hS.F ht⟩) hS.2.2 dX1_readBlocks_20
  · have hc1 : ¬ lN n < lN 0 := fun z => hc (lc_lt.mpr z)
    refine lv_lload_n hx hb dX1_readBlocks_11 rfl (lv_at hl 0 rfl) ?_
    refine lv_ldc2 (v := lN 2444) hx hb hown (xg_w hts mb_constantLong_RX1_54) dX1_readBlocks_12 ?_
    refine W.lcmp hx hb dX1_readBlocks_15 ?_
    refine lv_if_le (tgt := 21) hx hb dX1_readBlocks_16 rfl (fun hc2 => ?_) (fun hc2 => ?_)
    · have hn9 : n ≤ 2444 := hf.mp ⟨hc1, lc_le.mp hc2⟩
      refine lv_aload_n hx hb dX1_readBlocks_21 rfl (lv_at hl 1 rfl) ?_
      refine lv_lload_n hx hb dX1_readBlocks_22 rfl (lv_at hl 0 rfl) ?_
      refine lv_l2i (v := nI n) hx hb dX1_readBlocks_23 (lN_i n) ?_
      refine va_put (D := (dC, dI)) (ci := 1) (v := .int (nI n)) (ty := .int) (C := RX1) (T := TX1) (N := 3) (ref := "SortedRun$Index") hx hb hts (xg_u mb_uws_X1) tyX1 tyX1_ok nmX1 hown hK hP hD hS 6 rfl rfl 2 (by decide) (xg_w hts mb_fieldLink_RX1_18) (fun _ h9 => h9) rfl (by decide +kernel) rfl rfl (Nat.le_of_ble_eq_true rfl) dX1_readBlocks_24 (fun H locs hP hD hS => ?_)
      have hP : va_P (dC, dI) vwCl (xw ad ca kf vf bf w op ln (nI a1) (nI e9) o1 tf (nI n) ef ff fi ek ev) H := hP
      have hD : va_D A (xw ad ca kf vf bf w op ln (nI a1) (nI e9) o1 tf (nI n) ef ff fi ek ev) := hD
      refine lv_lconst (v := lN 0) hx hb dX1_readBlocks_27 (by decide) ?_
      refine lv_lstore hx hb dX1_readBlocks_28 hl (by decide) rfl (fun ls hl => ?_)
      have hl : lv_has ls 12 [(5, .long (lN 0)), (3, .long (lN n)), (0, .ref (ad 6)), (1, .ref (ad 4)), (2, .int (nI st))] := hl
      refine lv_iconst (v := nI 0) hx hb dX1_readBlocks_30 (by decide) ?_
      refine lv_istore hx hb dX1_readBlocks_31 hl (by decide) rfl (fun ls hl => ?_)
      have hl : lv_has ls 12 [(7, .int (nI 0)), (5, .long (lN 0)), (3, .long (lN n)), (0, .ref (ad 6)), (1, .ref (ad 4)), (2, .int (nI st))] := hl
      have hok : o1 = 0 ∨ o1 = 1 := hq1.elim (fun z => Or.inr z.2) (fun z => Or.inl z.2)
      refine lpX1_readBlocks_go hx hb hml hown hts hK hA hE (e9 := e9) (n := n) he9 hn9 n 0 a1 0 o1 ef ff _ _ _ hok (by omega) h2 (lv_sub hl [0, 1, 3, 4, 5] rfl) hP hD hS ?_ ?_ ?_
      · intro ho lr a' hlr ef' ff' _ hrows H locs ls hl hP hD hS
        have hs : pb_rd tf e9 a = some (n, a1) := hq1.elim (fun z => z.1) (fun z => absurd (z.2.symm.trans ho) (by decide))
        have hsum := px_rd_sum n a1 lr a' hlr
        have hsum2 : 0 + px_sum lr < 2 ^ 63 := by have : n * 4294967295 ≤ 2444 * 4294967295 := Nat.mul_le_mul_right _ hn9; omega
        refine lv_lload hx hb dX1_readBlocks_110 (lv_at hl 0 rfl) ?_
        refine lv_iload_n hx hb dX1_readBlocks_112 rfl (lv_at hl 1 rfl) ?_
        refine lv_i2l (v := lN st) hx hb dX1_readBlocks_113 (nI_l hst) ?_
        refine W.lcmp hx hb dX1_readBlocks_114 ?_
        refine lv_if_ne (tgt := 122) hx hb dX1_readBlocks_115 rfl (fun hc => ?_) (fun hc => ?_)
        · refine lv_iconst (v := 0) hx hb dX1_readBlocks_122 (by decide) ?_
          have hP9 := hP
          have hD9 := hD
          exact W.zret (v := 0) hx hb hr (by rfl) (fun t ht hW => ⟨⟨0, (nI n, a', 1, ef', ff'), rfl, Or.inl ⟨n, a1, lr, hs, hn9, hlr, rfl, rfl, hrows, Or.inr ⟨rfl, fun y => hc (lc_eq.mpr (by rw [Nat.zero_add, y]))⟩⟩, by rw [ht]; exact hP9, va_K.moved hW.alike hK, hD9⟩, hS.F ht⟩) hS.2.2 dX1_readBlocks_123
        · refine lv_iconst (v := 1) hx hb dX1_readBlocks_118 (by decide) ?_
          refine lv_goto (tgt := 123) hx hb dX1_readBlocks_119 rfl ?_
          have hP9 := hP
          have hD9 := hD
          exact W.zret (v := 1) hx hb hr (by rfl) (fun t ht hW => ⟨⟨1, (nI n, a', 1, ef', ff'), rfl, Or.inl ⟨n, a1, lr, hs, hn9, hlr, rfl, rfl, hrows, Or.inl ⟨rfl, (Nat.zero_add _).symm.trans ((pk_lEQ hsum2 (by omega)).mp (lc_eq.mp hc))⟩⟩, by rw [ht]; exact hP9, va_K.moved hW.alike hK, hD9⟩, hS.F ht⟩) hS.2.2 dX1_readBlocks_123
      · intro hbb a' s9 ef' ff' ha' H locs ls hl hP hD hS
        have hbd : px_bad tf e9 a := hq1.elim (fun z => Or.inr ⟨n, a1, z.1, Or.inr (hbb.elim (fun y => absurd (z.2.symm.trans y) (by decide)) (fun y => y))⟩) (fun z => Or.inl z.1)
        refine lv_lload hx hb dX1_readBlocks_110 (lv_at hl 0 rfl) ?_
        refine lv_iload_n hx hb dX1_readBlocks_112 rfl (lv_at hl 1 rfl) ?_
        refine lv_i2l (v := (nI st).toInt64) hx hb dX1_readBlocks_113 (rfl) ?_
        refine W.lcmp hx hb dX1_readBlocks_114 ?_
        refine lv_if_ne (tgt := 122) hx hb dX1_readBlocks_115 rfl (fun hc => ?_) (fun hc => ?_)
        · refine lv_iconst (v := 0) hx hb dX1_readBlocks_122 (by decide) ?_
          have hP9 := hP
          have hD9 := hD
          exact W.zret (v := 0) hx hb hr (by rfl) (fun t ht hW => ⟨⟨0, (nI n, a', 0, ef', ff'), rfl, Or.inr ⟨Or.inr rfl, Or.inl rfl, ha', hbd⟩, by rw [ht]; exact hP9, va_K.moved hW.alike hK, hD9⟩, hS.F ht⟩) hS.2.2 dX1_readBlocks_123
        · refine lv_iconst (v := 1) hx hb dX1_readBlocks_118 (by decide) ?_
          refine lv_goto (tgt := 123) hx hb dX1_readBlocks_119 rfl ?_
          have hP9 := hP
          have hD9 := hD
          exact W.zret (v := 1) hx hb hr (by rfl) (fun t ht hW => ⟨⟨1, (nI n, a', 0, ef', ff'), rfl, Or.inr ⟨Or.inr rfl, Or.inr rfl, ha', hbd⟩, by rw [ht]; exact hP9, va_K.moved hW.alike hK, hD9⟩, hS.F ht⟩) hS.2.2 dX1_readBlocks_123
      · intro hbb a' ok' ef' ff' ha' H locs ls hP hD hS
        have hbd : px_bad tf e9 a := hq1.elim (fun z => Or.inr ⟨n, a1, z.1, Or.inr (hbb.elim (fun y => absurd (z.2.symm.trans y) (by decide)) (fun y => y))⟩) (fun z => Or.inl z.1)
        refine lv_iconst (v := 0) hx hb dX1_readBlocks_72 (by decide) ?_
        have hP9 := hP
        have hD9 := hD
        exact W.zret (v := 0) hx hb hr (by rfl) (fun t ht hW => ⟨⟨0, (nI n, a', ok', ef', ff'), rfl, Or.inr ⟨Or.inl rfl, Or.inl rfl, ha', hbd⟩, by rw [ht]; exact hP9, va_K.moved hW.alike hK, hD9⟩, hS.F ht⟩) hS.2.2 dX1_readBlocks_73
    · refine lv_iconst (v := 0) hx hb dX1_readBlocks_19 (by decide) ?_
      have hP9 := hP
      have hD9 := hD
      exact W.zret (v := 0) hx hb hr (by rfl) (fun t ht hW => ⟨⟨0, (nb, a1, o1, ef, ff), rfl, Or.inr ⟨Or.inl rfl, Or.inl rfl, h2, hbad (fun z => hc2 (lc_le.mpr (hf.mpr z).2))⟩, by rw [ht]; exact hP9, va_K.moved hW.alike hK, hD9⟩, hS.F ht⟩) hS.2.2 dX1_readBlocks_20

set_option maxHeartbeats 4000000 in
set_option maxRecDepth 100000 in
theorem cX1_readFrom_m (l : Launch) (dC : Nat → ClassId) (dI : Nat → Nat → Nat) (ca : Nat → ClassId) (ad : Nat → Nat) (kf : Nat → Int32) (vf : Nat → Int64) (bf : Nat → Int32) (w : Int32) (op : Int32) (nx : Int32) (en : Int32) (ok : Int32) (tf : Nat → Int32) (nb : Int32) (ef : Nat → Int32) (ff : Nat → Int32) (fi : Int32) (ek : Int32) (ev : Int64) (L : Nat) (hL : L ≤ 4889) : ∀ sz : Nat, Met l yX1_readFrom wsX1_readFrom ({ frames := 3, cells := 0, slots := 0, locals := 76 } : Room) (va_Pc [.ref (ad 6), .ref (ad 4)] (xP (dC, dI) (xt ca) (xw ad ca kf vf bf w op (nI L) nx en ok tf nb ef ff fi ek ev) sz)) (va_Qi (S := Int32 × Int32 × Int32 × Int32 × (Nat → Int32) × (Nat → Int32)) (fun r u => (∃ lr, px_open tf L = some lr ∧ r = 1 ∧ u.1 = nI lr.length ∧ lr.length ≤ 2444 ∧ px_rows 0 0 lr u.2.2.2.2.1 u.2.2.2.2.2) ∨ (px_open tf L = none ∧ r = 0)) (fun u t => xB (dC, dI) (xt ca) (va_A (xw ad ca kf vf bf w op (nI L) nx en ok tf nb ef ff fi ek ev) sz) (xw ad ca kf vf bf w op (nI L) u.2.1 u.2.2.1 u.2.2.2.1 tf u.1 u.2.2.2.2.1 u.2.2.2.2.2 fi ek ev) t) (va_A (xw ad ca kf vf bf w op (nI L) nx en ok tf nb ef ff fi ek ev) sz)) 0 0 (va_A (xw ad ca kf vf bf w op (nI L) nx en ok tf nb ef ff fi ek ev) sz) := by
  intro sz
  refine Met.ofW (cc := cX1_readFrom) (maxL := 4) (ret := (some .boolean)) (by decide) rfl ?_
  intro p e s m args below meth c s₁ B hml hv
  obtain ⟨rfl, hsz, hP, hK, hD0, hE⟩ := hv
  have hx := B.exec
  have hb := B.bytes
  have hr := B.returns
  have hts := atoms_spec (ws := wsX1_readFrom) B.pre
  have hown : s.vm.findClass RX1 = some m.cls := findClass_of_methodNamed B.named
  have hlocks := B.notSynchronized
  subst hsz
  have hD := hD0.self (sz := s.heap.size)
  generalize hAe : va_A (xw ad ca kf vf bf w op (nI L) nx en ok tf nb ef ff fi ek ev) s.heap.size = A at hD hE ⊢
  have hA : ∀ q : Nat, s.heap.size ≤ q → A q := fun q h => by rw [← hAe]; exact Or.inr h
  have hS : va_S A s.heap s.heap [] := va_S.rf
  have hl := lv_entry ([.ref (ad 6), .ref (ad 4)]) (n := 4) (Nat.le_of_ble_eq_true rfl)
  rw [lg_entry_eq]
  generalize (lg_sl ([.ref (ad 6), .ref (ad 4)]) ++ List.replicate (4 - (lg_sl ([.ref (ad 6), .ref (ad 4)])).length) Slot.unset).toArray = ls at hl ⊢
  have hl : lv_has ls 4 [(0, .ref (ad 6)), (1, .ref (ad 4))] := hl
  refine lv_aload_n hx hb dX1_readFrom_0 rfl (lv_at hl 1 rfl) ?_
  refine va_getN (host := "SortedRun") (D := (dC, dI)) (ci := 2) (v := .int (nI L)) (C := RX2) (T := TX2) (N := 5) (ref := "SortedRun$Table") hx hb hts (xg_u mb_uws_X2) hown hK hP 4 rfl rfl 1 (by decide) (xn_w (w := .fieldLinkNest RX1 22 "SortedRun$Table" "length" "I" "SortedRun") (i := 33) hE rfl rfl rfl) (fun _ h9 => h9) rfl dX1_readFrom_1 ?_
  refine lv_iconst (v := nI 4) hx hb dX1_readFrom_4 (by decide) ?_
  refine lv_isub hx hb dX1_readFrom_5 ?_
  refine lv_iconst (v := nI 4) hx hb dX1_readFrom_6 (by decide) ?_
  refine lv_isub hx hb dX1_readFrom_7 ?_
  by_cases h8 : 8 ≤ L
  · refine lv_topi (fun z1 ez1 => ?_)
    have ez1 : z1 = nI (L - 8) := ez1.trans (by rw [pk_sub (by omega), pk_sub (by omega)]; exact congrArg nI (by omega))
    subst ez1
    refine lv_istore_n hx hb dX1_readFrom_8 rfl hl (by decide) rfl (fun ls hl => ?_)
    have hl : lv_has ls 4 [(2, .int (nI (L - 8))), (0, .ref (ad 6)), (1, .ref (ad 4))] := hl
    refine lv_iload_n hx hb dX1_readFrom_9 rfl (lv_at hl 0 rfl) ?_
    have hF : pf_n tf (L - 4) 4 < 2 ^ 32 := pf_n_lt tf (L - 4) 4
    refine lv_if_lt (tgt := 23) hx hb dX1_readFrom_10 rfl (fun hc => absurd hc (nI_pos (by omega))) (fun hc => ?_)
    refine lv_aload_n hx hb dX1_readFrom_13 rfl (lv_at hl 2 rfl) ?_
    refine xk_l (va_runV (As := []) (rest := []) ⟨hx, hb, hml, hown, hts⟩ (cX2_foot_m l dC dI ca ad kf vf bf w op nx en ok tf nb ef ff fi ek ev L hL (by omega) _) (cwV 0 hts (xg_V mb_methodLink_RX1_27 mb_instanceMethod_yX2_foot mb_selects_yX2_foot mb_initialized_RX2 mb_code_yX2_foot) rfl rfl rfl ⟨rfl, by decide, by decide, by decide +kernel⟩ ⟨Nat.le_of_ble_eq_true rfl, Nat.le_of_ble_eq_true rfl⟩) (xpreV (va_recv (q0 := 4) hK hP rfl rfl) hK hP hD hS hA hE) rfl rfl hl.1 rfl (lv_room (Nat.le_of_ble_eq_true rfl)) dX1_readFrom_14 ⟨Nat.le_of_ble_eq_true rfl, Nat.le_of_ble_eq_true rfl⟩) hD hS hA (fun r u H locs hu hP hD hS => ?_)
    subst hu
    have hP : va_P (dC, dI) vwCl (xw ad ca kf vf bf w op (nI L) nx en ok tf nb ef ff fi ek ev) H := hP
    have hD : va_D A (xw ad ca kf vf bf w op (nI L) nx en ok tf nb ef ff fi ek ev) := hD
    refine lv_iload_n hx hb dX1_readFrom_17 rfl (lv_at hl 0 rfl) ?_
    refine lv_i2l (v := lN (L - 8)) hx hb dX1_readFrom_18 (nI_l (by omega)) ?_
    refine W.lcmp hx hb dX1_readFrom_19 ?_
    refine lv_if_le (tgt := 25) hx hb dX1_readFrom_20 rfl (fun hc2 => ?_) (fun hc2 => ?_)
    · have hF8 : pf_n tf (L - 4) 4 ≤ L - 8 := (pk_lLE (Nat.lt_trans hF (by decide)) (by omega)).mp (lc_le.mp hc2)
      refine lv_iload_n hx hb dX1_readFrom_25 rfl (lv_at hl 0 rfl) ?_
      refine lv_aload_n hx hb dX1_readFrom_26 rfl (lv_at hl 2 rfl) ?_
      refine xk_l (va_runV (As := []) (rest := [.int (nI (L - 8))]) ⟨hx, hb, hml, hown, hts⟩ (cX2_foot_m l dC dI ca ad kf vf bf w op nx en ok tf nb ef ff fi ek ev L hL (by omega) _) (cwV 0 hts (xg_V mb_methodLink_RX1_27 mb_instanceMethod_yX2_foot mb_selects_yX2_foot mb_initialized_RX2 mb_code_yX2_foot) rfl rfl rfl ⟨rfl, by decide, by decide, by decide +kernel⟩ ⟨Nat.le_of_ble_eq_true rfl, Nat.le_of_ble_eq_true rfl⟩) (xpreV (va_recv (q0 := 4) hK hP rfl rfl) hK hP hD hS hA hE) rfl rfl hl.1 rfl (lv_room (Nat.le_of_ble_eq_true rfl)) dX1_readFrom_27 ⟨Nat.le_of_ble_eq_true rfl, Nat.le_of_ble_eq_true rfl⟩) hD hS hA (fun r u H locs hu hP hD hS => ?_)
      subst hu
      have hP : va_P (dC, dI) vwCl (xw ad ca kf vf bf w op (nI L) nx en ok tf nb ef ff fi ek ev) H := hP
      have hD : va_D A (xw ad ca kf vf bf w op (nI L) nx en ok tf nb ef ff fi ek ev) := hD
      refine lv_l2i (v := nI (pf_n tf (L - 4) 4)) hx hb dX1_readFrom_30 (lN_i _) ?_
      refine lv_isub hx hb dX1_readFrom_31 ?_
      refine lv_topi (fun z2 ez2 => ?_)
      have ez2 : z2 = nI (L - 8 - pf_n tf (L - 4) 4) := ez2.trans (pk_sub hF8)
      subst ez2
      refine lv_istore_n hx hb dX1_readFrom_32 rfl hl (by decide) rfl (fun ls hl => ?_)
      have hl : lv_has ls 4 [(3, .int (nI (L - 8 - pf_n tf (L - 4) 4))), (2, .int (nI (L - 8))), (0, .ref (ad 6)), (1, .ref (ad 4))] := hl
      refine lv_aload_n hx hb dX1_readFrom_33 rfl (lv_at hl 3 rfl) ?_
      refine lv_iload_n hx hb dX1_readFrom_34 rfl (lv_at hl 0 rfl) ?_
      refine lv_iload_n hx hb dX1_readFrom_35 rfl (lv_at hl 1 rfl) ?_
      refine xk_i (va_runV (As := [.int (nI (L - 8 - pf_n tf (L - 4) 4)), .int (nI (L - 8))]) (rest := []) ⟨hx, hb, hml, hown, hts⟩ (cX2_hasSum_m l dC dI ca ad kf vf bf w op (nI L) nx en ok tf nb ef ff fi ek ev (L - 8 - pf_n tf (L - 4) 4) (L - 8) (by omega) (by omega) _) (cwV 2 hts (xg_V mb_methodLink_RX1_31 mb_instanceMethod_yX2_hasSum mb_selects_yX2_hasSum mb_initialized_RX2 mb_code_yX2_hasSum) rfl rfl rfl ⟨rfl, by decide, by decide, by decide +kernel⟩ ⟨Nat.le_of_ble_eq_true rfl, Nat.le_of_ble_eq_true rfl⟩) (xpreV (va_recv (q0 := 4) hK hP rfl rfl) hK hP hD hS hA hE) rfl rfl hl.1 rfl (lv_room (Nat.le_of_ble_eq_true rfl)) dX1_readFrom_36 ⟨Nat.le_of_ble_eq_true rfl, Nat.le_of_ble_eq_true rfl⟩) hD hS hA (fun r u H locs hu hP hD hS => ?_)
      have hP : va_P (dC, dI) vwCl (xw ad ca kf vf bf w op (nI L) nx en ok tf nb ef ff fi ek ev) H := hP
      have hD : va_D A (xw ad ca kf vf bf w op (nI L) nx en ok tf nb ef ff fi ek ev) := hD
      rcases hu with hh | hh
      · obtain ⟨rfl, hh⟩ := hh
        refine lv_if_ne (tgt := 44) hx hb dX1_readFrom_39 rfl (fun hc => ?_) (fun hc => absurd hc (by decide))
        refine lv_aload_n hx hb dX1_readFrom_44 rfl (lv_at hl 3 rfl) ?_
        refine lv_iload_n hx hb dX1_readFrom_45 rfl (lv_at hl 0 rfl) ?_
        refine lv_iload_n hx hb dX1_readFrom_46 rfl (lv_at hl 1 rfl) ?_
        refine xk_v (va_runV (As := [.int (nI (L - 8 - pf_n tf (L - 4) 4)), .int (nI (L - 8))]) (rest := []) ⟨hx, hb, hml, hown, hts⟩ (cX2_startReading_m l dC dI ca ad kf vf bf w op (nI L) nx en ok tf nb ef ff fi ek ev (nI (L - 8 - pf_n tf (L - 4) 4)) (nI (L - 8)) _) (cwV 2 hts (xg_V mb_methodLink_RX1_35 mb_instanceMethod_yX2_startReading mb_selects_yX2_startReading mb_initialized_RX2 mb_code_yX2_startReading) rfl rfl rfl ⟨rfl, by decide, by decide, by decide +kernel⟩ ⟨Nat.le_of_ble_eq_true rfl, Nat.le_of_ble_eq_true rfl⟩) (xpreV (va_recv (q0 := 4) hK hP rfl rfl) hK hP hD hS hA hE) rfl rfl hl.1 rfl (lv_room (Nat.le_of_ble_eq_true rfl)) dX1_readFrom_47 ⟨Nat.le_of_ble_eq_true rfl, Nat.le_of_ble_eq_true rfl⟩) hD hS hA (fun u H locs hu hP hD hS => ?_)
        have hP : va_P (dC, dI) vwCl (xw ad ca kf vf bf w op (nI L) (nI (L - 8 - pf_n tf (L - 4) 4)) (nI (L - 8)) 1 tf nb ef ff fi ek ev) H := hP
        have hD : va_D A (xw ad ca kf vf bf w op (nI L) (nI (L - 8 - pf_n tf (L - 4) 4)) (nI (L - 8)) 1 tf nb ef ff fi ek ev) := hD
        refine lv_aload_n hx hb dX1_readFrom_50 rfl (lv_at hl 2 rfl) ?_
        refine lv_aload_n hx hb dX1_readFrom_51 rfl (lv_at hl 3 rfl) ?_
        refine lv_iload_n hx hb dX1_readFrom_52 rfl (lv_at hl 0 rfl) ?_
        refine xk_i (va_runV (As := [.ref (ad 4), .int (nI (L - 8 - pf_n tf (L - 4) 4))]) (rest := []) ⟨hx, hb, hml, hown, hts⟩ (cX1_readBlocks_m l dC dI ca ad kf vf bf w op (nI L) tf nb ef ff fi ek ev (L - 8 - pf_n tf (L - 4) 4) (L - 8) (L - 8 - pf_n tf (L - 4) 4) (by omega) (by omega) (by omega) _) (cwV 2 hts (xg_V mb_methodLink_RX1_39 mb_instanceMethod_yX1_readBlocks mb_selects_yX1_readBlocks mb_initialized_RX1 mb_code_yX1_readBlocks) rfl rfl rfl ⟨rfl, by decide, by decide, by decide +kernel⟩ ⟨Nat.le_of_ble_eq_true rfl, Nat.le_of_ble_eq_true rfl⟩) (xpreV (va_recv (q0 := 6) hK hP rfl rfl) hK hP hD hS hA hE) rfl rfl hl.1 rfl (lv_room (Nat.le_of_ble_eq_true rfl)) dX1_readFrom_53 ⟨Nat.le_of_ble_eq_true rfl, Nat.le_of_ble_eq_true rfl⟩) hD hS hA (fun r u H locs hu hP hD hS => ?_)
        have hP : va_P (dC, dI) vwCl (xw ad ca kf vf bf w op (nI L) (nI u.2.1) (nI (L - 8)) u.2.2.1 tf u.1 u.2.2.2.1 u.2.2.2.2 fi ek ev) H := hP
        have hD : va_D A (xw ad ca kf vf bf w op (nI L) (nI u.2.1) (nI (L - 8)) u.2.2.1 tf u.1 u.2.2.2.1 u.2.2.2.2 fi ek ev) := hD
        obtain ⟨nb', a', ok', ef', ff'⟩ := u
        dsimp only at hu hP hD
        have hgood : ∀ n a1 lr, pb_rd tf (L - 8) (L - 8 - pf_n tf (L - 4) 4) = some (n, a1) → px_rd tf (L - 8) n a1 = some (lr, a') → px_open tf L = if a' = L - 8 ∧ px_sum lr = (L - 8 - pf_n tf (L - 4) 4) then some lr else none := fun n a1 lr q1 q2 => by
          unfold px_open
          rw [if_pos ⟨h8, hF8, ps_hasB_iff.mpr hh⟩]
          simp only [q1, q2]
        refine lv_if_eq (tgt := 77) hx hb dX1_readFrom_56 rfl (fun hc3 => ?_) (fun hc3 => ?_)
        · have hn : px_open tf L = none := by
            rcases hu with ⟨n, a1, lr, q1, q2, q3, q4, q5, q6, q7⟩ | ⟨-, -, -, q⟩
            · rw [hgood n a1 lr q1 q3, if_neg (fun y => ?_)]
              rcases q7 with ⟨y1, -⟩ | ⟨-, y1⟩
              · exact absurd (hc3.symm.trans y1) (by decide)
              · exact y1 y.2
            · exact px_open_bad hL q
          refine lv_iconst (v := 0) hx hb dX1_readFrom_77 (by decide) ?_
          have hP9 := hP
          have hD9 := hD
          exact W.zret (v := 0) hx hb hr (by rfl) (fun t ht hW => ⟨⟨0, (nb', nI a', nI (L - 8), ok', ef', ff'), rfl, Or.inr ⟨hn, rfl⟩, by rw [ht]; exact hP9, va_K.moved hW.alike hK, hD9⟩, hS.F ht⟩) hS.2.2 dX1_readFrom_78
        · refine lv_aload_n hx hb dX1_readFrom_59 rfl (lv_at hl 3 rfl) ?_
          refine va_getN (host := "SortedRun") (D := (dC, dI)) (ci := 2) (v := .int ok') (C := RX2) (T := TX2) (N := 5) (ref := "SortedRun$Table") hx hb hts (xg_u mb_uws_X2) hown hK hP 4 rfl rfl 4 (by decide) (xn_w (w := .fieldLinkNest RX1 43 "SortedRun$Table" "areNumbersRight" "Z" "SortedRun") (i := 36) hE rfl rfl rfl) (fun _ h9 => h9) rfl dX1_readFrom_60 ?_
          refine lv_if_eq (tgt := 77) hx hb dX1_readFrom_63 rfl (fun hc4 => ?_) (fun hc4 => ?_)
          · have hn : px_open tf L = none := by
              rcases hu with ⟨n, a1, lr, q1, q2, q3, q4, q5, q6, q7⟩ | ⟨-, -, -, q⟩
              · exact absurd (hc4.symm.trans q4) (by decide)
              · exact px_open_bad hL q
            refine lv_iconst (v := 0) hx hb dX1_readFrom_77 (by decide) ?_
            have hP9 := hP
            have hD9 := hD
            exact W.zret (v := 0) hx hb hr (by rfl) (fun t ht hW => ⟨⟨0, (nb', nI a', nI (L - 8), ok', ef', ff'), rfl, Or.inr ⟨hn, rfl⟩, by rw [ht]; exact hP9, va_K.moved hW.alike hK, hD9⟩, hS.F ht⟩) hS.2.2 dX1_readFrom_78
          · obtain ⟨n, a1, lr, q1, q2, q3, q4, q5, q6, q7⟩ | ⟨q0, -, -, q⟩ := hu
            · have hin := px_rd_in n a1 lr a' q3
              have ha8 : a' ≤ L - 8 := hin.2.2 (pb_rd_in q1).2
              have hsum : px_sum lr = (L - 8 - pf_n tf (L - 4) 4) := q7.elim (fun y => y.2) (fun y => absurd y.1 hc3)
              refine lv_aload_n hx hb dX1_readFrom_66 rfl (lv_at hl 3 rfl) ?_
              refine xk_i (va_runV (As := []) (rest := []) ⟨hx, hb, hml, hown, hts⟩ (cX2_isReadToEnd_m l dC dI ca ad kf vf bf w op (nI L) (nI a') (nI (L - 8)) ok' tf nb' ef' ff' fi ek ev  _) (cwV 0 hts (xg_V mb_methodLink_RX1_47 mb_instanceMethod_yX2_isReadToEnd mb_selects_yX2_isReadToEnd mb_initialized_RX2 mb_code_yX2_isReadToEnd) rfl rfl rfl ⟨rfl, by decide, by decide, by decide +kernel⟩ ⟨Nat.le_of_ble_eq_true rfl, Nat.le_of_ble_eq_true rfl⟩) (xpreV (va_recv (q0 := 4) hK hP rfl rfl) hK hP hD hS hA hE) rfl rfl hl.1 rfl (lv_room (Nat.le_of_ble_eq_true rfl)) dX1_readFrom_67 ⟨Nat.le_of_ble_eq_true rfl, Nat.le_of_ble_eq_true rfl⟩) hD hS hA (fun r u H locs hu hP hD hS => ?_)
              have hP : va_P (dC, dI) vwCl (xw ad ca kf vf bf w op (nI L) (nI a') (nI (L - 8)) ok' tf nb' ef' ff' fi ek ev) H := hP
              have hD : va_D A (xw ad ca kf vf bf w op (nI L) (nI a') (nI (L - 8)) ok' tf nb' ef' ff' fi ek ev) := hD
              rcases hu with h9 | h9
              · obtain ⟨rfl, h9⟩ := h9
                refine lv_if_eq (tgt := 77) hx hb dX1_readFrom_70 rfl (fun hc => absurd hc (by decide)) (fun hc => ?_)
                refine lv_iconst (v := 1) hx hb dX1_readFrom_73 (by decide) ?_
                refine lv_goto (tgt := 78) hx hb dX1_readFrom_74 rfl ?_
                have h10 : a' = L - 8 := by have := (nI_leI (by omega) (by omega)).mp h9; omega
                have hopen : px_open tf L = some lr := by rw [hgood n a1 lr q1 q3, if_pos ⟨h10, hsum⟩]
                have hP9 := hP
                have hD9 := hD
                exact W.zret (v := 1) hx hb hr (by rfl) (fun t ht hW => ⟨⟨1, (nb', nI a', nI (L - 8), ok', ef', ff'), rfl, Or.inl ⟨lr, hopen, rfl, by rw [hin.2.1]; exact q5, by rw [hin.2.1]; exact q2, q6⟩, by rw [ht]; exact hP9, va_K.moved hW.alike hK, hD9⟩, hS.F ht⟩) hS.2.2 dX1_readFrom_78
              · obtain ⟨rfl, h9⟩ := h9
                refine lv_if_eq (tgt := 77) hx hb dX1_readFrom_70 rfl (fun hc => ?_) (fun hc => absurd hc (not_not_intro rfl))
                have hn : px_open tf L = none := by rw [hgood n a1 lr q1 q3, if_neg (fun y => h9 (by rw [y.1]; exact Int32.le_refl _))]
                refine lv_iconst (v := 0) hx hb dX1_readFrom_77 (by decide) ?_
                have hP9 := hP
                have hD9 := hD
                exact W.zret (v := 0) hx hb hr (by rfl) (fun t ht hW => ⟨⟨0, (nb', nI a', nI (L - 8), ok', ef', ff'), rfl, Or.inr ⟨hn, rfl⟩, by rw [ht]; exact hP9, va_K.moved hW.alike hK, hD9⟩, hS.F ht⟩) hS.2.2 dX1_readFrom_78
            · rcases q0 with q0 | q0
              · exact absurd q0 hc3
              · exact absurd q0 hc4
      · obtain ⟨rfl, hh⟩ := hh
        refine lv_if_ne (tgt := 44) hx hb dX1_readFrom_39 rfl (fun hc => absurd hc (not_not_intro rfl)) (fun hc => ?_)
        refine lv_iconst (v := 0) hx hb dX1_readFrom_42 (by decide) ?_
        have hP9 := hP
        have hD9 := hD
        exact W.zret (v := 0) hx hb hr (by rfl) (fun t ht hW => ⟨⟨0, (nb, nx, en, ok, ef, ff), rfl, Or.inr ⟨by unfold px_open; rw [if_neg (fun y => hh (ps_hasB_iff.mp y.2.2))], rfl⟩, by rw [ht]; exact hP9, va_K.moved hW.alike hK, hD9⟩, hS.F ht⟩) hS.2.2 dX1_readFrom_43
    · refine lv_iconst (v := 0) hx hb dX1_readFrom_23 (by decide) ?_
      have hP9 := hP
      have hD9 := hD
      exact W.zret (v := 0) hx hb hr (by rfl) (fun t ht hW => ⟨⟨0, (nb, nx, en, ok, ef, ff), rfl, Or.inr ⟨by unfold px_open; rw [if_neg (fun y => hc2 (lc_le.mpr ((pk_lLE (Nat.lt_trans hF (by decide)) (by omega)).mpr y.2.1)))], rfl⟩, by rw [ht]; exact hP9, va_K.moved hW.alike hK, hD9⟩, hS.F ht⟩) hS.2.2 dX1_readFrom_24
  · refine lv_topi (fun z1 ez1 => ?_)
    have ez1 : z1 = nI L - nI 8 := ez1.trans (pz_48 _)
    subst ez1
    refine lv_istore_n hx hb dX1_readFrom_8 rfl hl (by decide) rfl (fun ls hl => ?_)
    have hl : lv_has ls 4 [(2, .int (nI L - nI 8)), (0, .ref (ad 6)), (1, .ref (ad 4))] := hl
    refine lv_iload_n hx hb dX1_readFrom_9 rfl (lv_at hl 0 rfl) ?_
    refine lv_if_lt (tgt := 23) hx hb dX1_readFrom_10 rfl (fun hc => ?_) (fun hc => absurd hc (not_not_intro (pk_sneg (by decide) (by omega))))
    refine lv_iconst (v := 0) hx hb dX1_readFrom_23 (by decide) ?_
    have hP9 := hP
    have hD9 := hD
    exact W.zret (v := 0) hx hb hr (by rfl) (fun t ht hW => ⟨⟨0, (nb, nx, en, ok, ef, ff), rfl, Or.inr ⟨by unfold px_open; rw [if_neg (fun y => h8 y.1)], rfl⟩, by rw [ht]; exact hP9, va_K.moved hW.alike hK, hD9⟩, hS.F ht⟩) hS.2.2 dX1_readFrom_24
