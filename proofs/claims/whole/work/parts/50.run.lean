/-! SortedRun: reading a BLOCK (rows by wip/whole/wsr.py) -/
set_option maxHeartbeats 4000000 in
set_option maxRecDepth 100000 in
theorem cX3_startReading_m (l : Launch) (dC : Nat → ClassId) (dI : Nat → Nat → Nat) (ca : Nat → ClassId) (ad : Nat → Nat) (kf : Nat → Int32) (vf : Nat → Int64) (bf : Nat → Int32) (w : Int32) (op : Int32) (ln : Int32) (nx : Int32) (en : Int32) (ok : Int32) (tf : Nat → Int32) (nb : Int32) (ef : Nat → Int32) (ff : Nat → Int32) (fi : Int32) (ek : Int32) (ev : Int64) (j : Nat) (hj : j < 2444) : ∀ sz : Nat, Met l yX3_startReading wsX3_startReading ({ frames := 1, cells := 0, slots := 0, locals := 22 } : Room) (va_Pc [.ref (ad 0), .int (nI j)] (xP (dC, dI) (xt ca) (xw ad ca kf vf bf w op ln nx en ok tf nb ef ff fi ek ev) sz)) (va_Qv (S := Unit) (fun _ => True) (fun u t => xB (dC, dI) (xt ca) (va_A (xw ad ca kf vf bf w op ln nx en ok tf nb ef ff fi ek ev) sz) (xw ad ca kf vf bf w op ln (px_st ef j) (ef j - nI 4) 1 tf nb ef ff 1 ek ev) t) (va_A (xw ad ca kf vf bf w op ln nx en ok tf nb ef ff fi ek ev) sz)) 0 0 (va_A (xw ad ca kf vf bf w op ln nx en ok tf nb ef ff fi ek ev) sz) := by
  intro sz
  refine Met.ofW (cc := cX3_startReading) (maxL := 2) (ret := none) (by decide) rfl ?_
  intro p e s m args below meth c s₁ B hml hv
  obtain ⟨rfl, hsz, hP, hK, hD0, hE⟩ := hv
  have hx := B.exec
  have hb := B.bytes
  have hr := B.returns
  have hts := atoms_spec (ws := wsX3_startReading) B.pre
  have hown : s.vm.findClass RX3 = some m.cls := findClass_of_methodNamed B.named
  have hlocks := B.notSynchronized
  subst hsz
  have hD := hD0.self (sz := s.heap.size)
  generalize hAe : va_A (xw ad ca kf vf bf w op ln nx en ok tf nb ef ff fi ek ev) s.heap.size = A at hD hE ⊢
  have hA : ∀ q : Nat, s.heap.size ≤ q → A q := fun q h => by rw [← hAe]; exact Or.inr h
  have hS : va_S A s.heap s.heap [] := va_S.rf
  have hl := lv_entry ([.ref (ad 0), .int (nI j)]) (n := 2) (Nat.le_of_ble_eq_true rfl)
  rw [lg_entry_eq]
  generalize (lg_sl ([.ref (ad 0), .int (nI j)]) ++ List.replicate (2 - (lg_sl ([.ref (ad 0), .int (nI j)])).length) Slot.unset).toArray = ls at hl ⊢
  have hl : lv_has ls 2 [(0, .ref (ad 0)), (1, .int (nI j))] := hl
  refine lv_aload_n hx hb dX3_startReading_0 rfl (lv_at hl 0 rfl) ?_
  refine va_get (D := (dC, dI)) (ci := 3) (v := .ref (ad 4)) (C := RX3) (T := TX3) (N := 8) (ref := "SortedRun") hx hb hts (xg_u mb_uws_X3) hown hK hP 0 rfl rfl 3 (by decide) (xg_w hts mb_fieldLink_RX3_23) (fun _ h9 => h9) rfl dX3_startReading_1 ?_
  refine lv_aload_n hx hb dX3_startReading_4 rfl (lv_at hl 0 rfl) ?_
  refine va_get (D := (dC, dI)) (ci := 3) (v := .ref (ad 6)) (C := RX3) (T := TX3) (N := 8) (ref := "SortedRun") hx hb hts (xg_u mb_uws_X3) hown hK hP 0 rfl rfl 4 (by decide) (xg_w hts mb_fieldLink_RX3_30) (fun _ h9 => h9) rfl dX3_startReading_5 ?_
  refine lv_iload_n hx hb dX3_startReading_8 rfl (lv_at hl 1 rfl) ?_
  refine xk_i (va_runV (As := [.int (nI j)]) (rest := [.ref (ad 4)]) ⟨hx, hb, hml, hown, hts⟩ (cX1_startOf_m l dC dI ca ad kf vf bf w op ln nx en ok tf nb ef ff fi ek ev j (by omega) _) (cwV 1 hts (xg_V mb_methodLink_RX3_146 mb_instanceMethod_yX1_startOf mb_selects_yX1_startOf mb_initialized_RX1 mb_code_yX1_startOf) rfl rfl rfl ⟨rfl, by decide, by decide, by decide +kernel⟩ ⟨Nat.le_of_ble_eq_true rfl, Nat.le_of_ble_eq_true rfl⟩) (xpreV (va_recv (q0 := 6) hK hP rfl rfl) hK hP hD hS hA hE) rfl rfl hl.1 rfl (lv_room (Nat.le_of_ble_eq_true rfl)) dX3_startReading_9 ⟨Nat.le_of_ble_eq_true rfl, Nat.le_of_ble_eq_true rfl⟩) hD hS hA (fun r u H locs hu hP hD hS => ?_)
  subst hu
  have hP : va_P (dC, dI) vwCl (xw ad ca kf vf bf w op ln nx en ok tf nb ef ff fi ek ev) H := hP
  have hD : va_D A (xw ad ca kf vf bf w op ln nx en ok tf nb ef ff fi ek ev) := hD
  refine lv_aload_n hx hb dX3_startReading_12 rfl (lv_at hl 0 rfl) ?_
  refine va_get (D := (dC, dI)) (ci := 3) (v := .ref (ad 6)) (C := RX3) (T := TX3) (N := 8) (ref := "SortedRun") hx hb hts (xg_u mb_uws_X3) hown hK hP 0 rfl rfl 4 (by decide) (xg_w hts mb_fieldLink_RX3_30) (fun _ h9 => h9) rfl dX3_startReading_13 ?_
  refine lv_iload_n hx hb dX3_startReading_16 rfl (lv_at hl 1 rfl) ?_
  refine xk_i (va_runV (As := [.int (nI j)]) (rest := [.int (px_st ef j), .ref (ad 4)]) ⟨hx, hb, hml, hown, hts⟩ (cX1_bodyEndOf_m l dC dI ca ad kf vf bf w op ln nx en ok tf nb ef ff fi ek ev j hj _) (cwV 1 hts (xg_V mb_methodLink_RX3_149 mb_instanceMethod_yX1_bodyEndOf mb_selects_yX1_bodyEndOf mb_initialized_RX1 mb_code_yX1_bodyEndOf) rfl rfl rfl ⟨rfl, by decide, by decide, by decide +kernel⟩ ⟨Nat.le_of_ble_eq_true rfl, Nat.le_of_ble_eq_true rfl⟩) (xpreV (va_recv (q0 := 6) hK hP rfl rfl) hK hP hD hS hA hE) rfl rfl hl.1 rfl (lv_room (Nat.le_of_ble_eq_true rfl)) dX3_startReading_17 ⟨Nat.le_of_ble_eq_true rfl, Nat.le_of_ble_eq_true rfl⟩) hD hS hA (fun r u H locs hu hP hD hS => ?_)
  subst hu
  have hP : va_P (dC, dI) vwCl (xw ad ca kf vf bf w op ln nx en ok tf nb ef ff fi ek ev) H := hP
  have hD : va_D A (xw ad ca kf vf bf w op ln nx en ok tf nb ef ff fi ek ev) := hD
  refine xk_v (va_runV (As := [.int (px_st ef j), .int (ef j - nI 4)]) (rest := []) ⟨hx, hb, hml, hown, hts⟩ (cX2_startReading_m l dC dI ca ad kf vf bf w op ln nx en ok tf nb ef ff fi ek ev (px_st ef j) (ef j - nI 4) _) (cwV 2 hts (xg_V mb_methodLink_RX3_163 mb_instanceMethod_yX2_startReading mb_selects_yX2_startReading mb_initialized_RX2 mb_code_yX2_startReading) rfl rfl rfl ⟨rfl, by decide, by decide, by decide +kernel⟩ ⟨Nat.le_of_ble_eq_true rfl, Nat.le_of_ble_eq_true rfl⟩) (xpreV (va_recv (q0 := 4) hK hP rfl rfl) hK hP hD hS hA hE) rfl rfl hl.1 rfl (lv_room (Nat.le_of_ble_eq_true rfl)) dX3_startReading_20 ⟨Nat.le_of_ble_eq_true rfl, Nat.le_of_ble_eq_true rfl⟩) hD hS hA (fun u H locs hu hP hD hS => ?_)
  have hP : va_P (dC, dI) vwCl (xw ad ca kf vf bf w op ln (px_st ef j) (ef j - nI 4) 1 tf nb ef ff fi ek ev) H := hP
  have hD : va_D A (xw ad ca kf vf bf w op ln (px_st ef j) (ef j - nI 4) 1 tf nb ef ff fi ek ev) := hD
  refine lv_aload_n hx hb dX3_startReading_23 rfl (lv_at hl 0 rfl) ?_
  refine va_get (D := (dC, dI)) (ci := 3) (v := .ref (ad 9)) (C := RX3) (T := TX3) (N := 8) (ref := "SortedRun") hx hb hts (xg_u mb_uws_X3) hown hK hP 0 rfl rfl 5 (by decide) (xg_w hts mb_fieldLink_RX3_37) (fun _ h9 => h9) rfl dX3_startReading_24 ?_
  refine lv_iconst (v := 1) hx hb dX3_startReading_27 (by decide) ?_
  refine va_putN (host := "SortedRun") (D := (dC, dI)) (ci := 0) (v := .int 1) (ty := .boolean) (C := RX0) (T := TX0) (N := 3) (ref := "SortedRun$Entry") hx hb hts (xg_u mb_uws_X0) tyX0 tyX0_ok nmX0 hown hK hP hD hS 9 rfl rfl 0 (by decide) (xn_w (w := .fieldLinkNest RX3 166 "SortedRun$Entry" "isFirst" "Z" "SortedRun") (i := 77) hE rfl rfl rfl) (fun _ h9 => h9) rfl (by decide +kernel) rfl rfl (Nat.le_of_ble_eq_true rfl) dX3_startReading_28 (fun H locs hP hD hS => ?_)
  have hP : va_P (dC, dI) vwCl (xw ad ca kf vf bf w op ln (px_st ef j) (ef j - nI 4) 1 tf nb ef ff 1 ek ev) H := hP
  have hD : va_D A (xw ad ca kf vf bf w op ln (px_st ef j) (ef j - nI 4) 1 tf nb ef ff 1 ek ev) := hD
  have hP9 := hP
  have hD9 := hD
  exact W.vret hx hb hr (fun t ht hW => ⟨⟨(), rfl, trivial, by rw [ht]; exact hP9, va_K.moved hW.alike hK, hD9⟩, hS.F ht⟩) hS.2.2 dX3_startReading_31

set_option maxHeartbeats 4000000 in
set_option maxRecDepth 100000 in
theorem cX3_hasRightSum_m (l : Launch) (dC : Nat → ClassId) (dI : Nat → Nat → Nat) (ca : Nat → ClassId) (ad : Nat → Nat) (kf : Nat → Int32) (vf : Nat → Int64) (bf : Nat → Int32) (w : Int32) (op : Int32) (ln : Int32) (nx : Int32) (en : Int32) (ok : Int32) (tf : Nat → Int32) (nb : Int32) (ef : Nat → Int32) (ff : Nat → Int32) (fi : Int32) (ek : Int32) (ev : Int64) (bp bq j : Nat) (hj : j < 2444) (hp : px_st ef j = nI bp) (hq : ef j = nI bq) (hpq : bp ≤ bq) (hq9 : bq ≤ 4889) : ∀ sz : Nat, Met l yX3_hasRightSum wsX3_hasRightSum ({ frames := 3, cells := 0, slots := 0, locals := 69 } : Room) (va_Pc [.ref (ad 0), .int (nI j)] (xP (dC, dI) (xt ca) (xw ad ca kf vf bf w op ln nx en ok tf nb ef ff fi ek ev) sz)) (va_Qi (S := Unit) (fun r _ => (r = 1 ∧ bp + 4 ≤ bq ∧ ps_has tf bp (bq - 4)) ∨ (r = 0 ∧ ¬ (bp + 4 ≤ bq ∧ ps_has tf bp (bq - 4)))) (fun u t => xB (dC, dI) (xt ca) (va_A (xw ad ca kf vf bf w op ln nx en ok tf nb ef ff fi ek ev) sz) (xw ad ca kf vf bf w op ln nx en ok tf nb ef ff fi ek ev) t) (va_A (xw ad ca kf vf bf w op ln nx en ok tf nb ef ff fi ek ev) sz)) 0 0 (va_A (xw ad ca kf vf bf w op ln nx en ok tf nb ef ff fi ek ev) sz) := by
  intro sz
  refine Met.ofW (cc := cX3_hasRightSum) (maxL := 4) (ret := (some .boolean)) (by decide) rfl ?_
  intro p e s m args below meth c s₁ B hml hv
  obtain ⟨rfl, hsz, hP, hK, hD0, hE⟩ := hv
  have hx := B.exec
  have hb := B.bytes
  have hr := B.returns
  have hts := atoms_spec (ws := wsX3_hasRightSum) B.pre
  have hown : s.vm.findClass RX3 = some m.cls := findClass_of_methodNamed B.named
  have hlocks := B.notSynchronized
  subst hsz
  have hD := hD0.self (sz := s.heap.size)
  generalize hAe : va_A (xw ad ca kf vf bf w op ln nx en ok tf nb ef ff fi ek ev) s.heap.size = A at hD hE ⊢
  have hA : ∀ q : Nat, s.heap.size ≤ q → A q := fun q h => by rw [← hAe]; exact Or.inr h
  have hS : va_S A s.heap s.heap [] := va_S.rf
  have hl := lv_entry ([.ref (ad 0), .int (nI j)]) (n := 4) (Nat.le_of_ble_eq_true rfl)
  rw [lg_entry_eq]
  generalize (lg_sl ([.ref (ad 0), .int (nI j)]) ++ List.replicate (4 - (lg_sl ([.ref (ad 0), .int (nI j)])).length) Slot.unset).toArray = ls at hl ⊢
  have hl : lv_has ls 4 [(0, .ref (ad 0)), (1, .int (nI j))] := hl
  refine lv_aload_n hx hb dX3_hasRightSum_0 rfl (lv_at hl 0 rfl) ?_
  refine va_get (D := (dC, dI)) (ci := 3) (v := .ref (ad 6)) (C := RX3) (T := TX3) (N := 8) (ref := "SortedRun") hx hb hts (xg_u mb_uws_X3) hown hK hP 0 rfl rfl 4 (by decide) (xg_w hts mb_fieldLink_RX3_30) (fun _ h9 => h9) rfl dX3_hasRightSum_1 ?_
  refine lv_iload_n hx hb dX3_hasRightSum_4 rfl (lv_at hl 1 rfl) ?_
  refine xk_i (va_runV (As := [.int (nI j)]) (rest := []) ⟨hx, hb, hml, hown, hts⟩ (cX1_startOf_m l dC dI ca ad kf vf bf w op ln nx en ok tf nb ef ff fi ek ev j (by omega) _) (cwV 1 hts (xg_V mb_methodLink_RX3_146 mb_instanceMethod_yX1_startOf mb_selects_yX1_startOf mb_initialized_RX1 mb_code_yX1_startOf) rfl rfl rfl ⟨rfl, by decide, by decide, by decide +kernel⟩ ⟨Nat.le_of_ble_eq_true rfl, Nat.le_of_ble_eq_true rfl⟩) (xpreV (va_recv (q0 := 6) hK hP rfl rfl) hK hP hD hS hA hE) rfl rfl hl.1 rfl (lv_room (Nat.le_of_ble_eq_true rfl)) dX3_hasRightSum_5 ⟨Nat.le_of_ble_eq_true rfl, Nat.le_of_ble_eq_true rfl⟩) hD hS hA (fun r u H locs hu hP hD hS => ?_)
  subst hu
  have hP : va_P (dC, dI) vwCl (xw ad ca kf vf bf w op ln nx en ok tf nb ef ff fi ek ev) H := hP
  have hD : va_D A (xw ad ca kf vf bf w op ln nx en ok tf nb ef ff fi ek ev) := hD
  refine lv_topi (fun z1 ez1 => ?_)
  have ez1 : z1 = nI bp := ez1.trans (hp)
  subst ez1
  refine lv_istore_n hx hb dX3_hasRightSum_8 rfl hl (by decide) rfl (fun ls hl => ?_)
  have hl : lv_has ls 4 [(2, .int (nI bp)), (0, .ref (ad 0)), (1, .int (nI j))] := hl
  refine lv_aload_n hx hb dX3_hasRightSum_9 rfl (lv_at hl 1 rfl) ?_
  refine va_get (D := (dC, dI)) (ci := 3) (v := .ref (ad 6)) (C := RX3) (T := TX3) (N := 8) (ref := "SortedRun") hx hb hts (xg_u mb_uws_X3) hown hK hP 0 rfl rfl 4 (by decide) (xg_w hts mb_fieldLink_RX3_30) (fun _ h9 => h9) rfl dX3_hasRightSum_10 ?_
  refine lv_iload_n hx hb dX3_hasRightSum_13 rfl (lv_at hl 2 rfl) ?_
  refine xk_i (va_runV (As := [.int (nI j)]) (rest := []) ⟨hx, hb, hml, hown, hts⟩ (cX1_bodyEndOf_m l dC dI ca ad kf vf bf w op ln nx en ok tf nb ef ff fi ek ev j hj _) (cwV 1 hts (xg_V mb_methodLink_RX3_149 mb_instanceMethod_yX1_bodyEndOf mb_selects_yX1_bodyEndOf mb_initialized_RX1 mb_code_yX1_bodyEndOf) rfl rfl rfl ⟨rfl, by decide, by decide, by decide +kernel⟩ ⟨Nat.le_of_ble_eq_true rfl, Nat.le_of_ble_eq_true rfl⟩) (xpreV (va_recv (q0 := 6) hK hP rfl rfl) hK hP hD hS hA hE) rfl rfl hl.1 rfl (lv_room (Nat.le_of_ble_eq_true rfl)) dX3_hasRightSum_14 ⟨Nat.le_of_ble_eq_true rfl, Nat.le_of_ble_eq_true rfl⟩) hD hS hA (fun r u H locs hu hP hD hS => ?_)
  subst hu
  have hP : va_P (dC, dI) vwCl (xw ad ca kf vf bf w op ln nx en ok tf nb ef ff fi ek ev) H := hP
  have hD : va_D A (xw ad ca kf vf bf w op ln nx en ok tf nb ef ff fi ek ev) := hD
  refine lv_topi (fun z2 ez2 => ?_)
  have ez2 : z2 = nI bq - nI 4 := ez2.trans (by rw [hq])
  subst ez2
  by_cases h4 : bp + 4 ≤ bq
  · refine lv_topi (fun z3 ez3 => ?_)
    have ez3 : z3 = nI (bq - 4) := ez3.trans (pk_sub (by omega))
    subst ez3
    refine lv_istore_n hx hb dX3_hasRightSum_17 rfl hl (by decide) rfl (fun ls hl => ?_)
    have hl : lv_has ls 4 [(3, .int (nI (bq - 4))), (2, .int (nI bp)), (0, .ref (ad 0)), (1, .int (nI j))] := hl
    refine lv_iload_n hx hb dX3_hasRightSum_18 rfl (lv_at hl 1 rfl) ?_
    refine lv_iload_n hx hb dX3_hasRightSum_19 rfl (lv_at hl 0 rfl) ?_
    refine lv_icmp_gt (tgt := 39) hx hb dX3_hasRightSum_20 rfl (fun hc => absurd hc (by rw [nI_ltI (by omega) (by omega)]; omega)) (fun hc => ?_)
    refine lv_aload_n hx hb dX3_hasRightSum_23 rfl (lv_at hl 2 rfl) ?_
    refine va_get (D := (dC, dI)) (ci := 3) (v := .ref (ad 4)) (C := RX3) (T := TX3) (N := 8) (ref := "SortedRun") hx hb hts (xg_u mb_uws_X3) hown hK hP 0 rfl rfl 3 (by decide) (xg_w hts mb_fieldLink_RX3_23) (fun _ h9 => h9) rfl dX3_hasRightSum_24 ?_
    refine lv_iload_n hx hb dX3_hasRightSum_27 rfl (lv_at hl 1 rfl) ?_
    refine lv_iload_n hx hb dX3_hasRightSum_28 rfl (lv_at hl 0 rfl) ?_
    refine xk_i (va_runV (As := [.int (nI bp), .int (nI (bq - 4))]) (rest := []) ⟨hx, hb, hml, hown, hts⟩ (cX2_hasSum_m l dC dI ca ad kf vf bf w op ln nx en ok tf nb ef ff fi ek ev bp (bq - 4) (by omega) (by omega) _) (cwV 2 hts (xg_V mb_methodLink_RX3_152 mb_instanceMethod_yX2_hasSum mb_selects_yX2_hasSum mb_initialized_RX2 mb_code_yX2_hasSum) rfl rfl rfl ⟨rfl, by decide, by decide, by decide +kernel⟩ ⟨Nat.le_of_ble_eq_true rfl, Nat.le_of_ble_eq_true rfl⟩) (xpreV (va_recv (q0 := 4) hK hP rfl rfl) hK hP hD hS hA hE) rfl rfl hl.1 rfl (lv_room (Nat.le_of_ble_eq_true rfl)) dX3_hasRightSum_29 ⟨Nat.le_of_ble_eq_true rfl, Nat.le_of_ble_eq_true rfl⟩) hD hS hA (fun r u H locs hu hP hD hS => ?_)
    have hP : va_P (dC, dI) vwCl (xw ad ca kf vf bf w op ln nx en ok tf nb ef ff fi ek ev) H := hP
    have hD : va_D A (xw ad ca kf vf bf w op ln nx en ok tf nb ef ff fi ek ev) := hD
    rcases hu with hh | hh
    · obtain ⟨rfl, hh⟩ := hh
      refine lv_if_eq (tgt := 39) hx hb dX3_hasRightSum_32 rfl (fun hc => absurd hc (by decide)) (fun hc => ?_)
      refine lv_iconst (v := 1) hx hb dX3_hasRightSum_35 (by decide) ?_
      refine lv_goto (tgt := 40) hx hb dX3_hasRightSum_36 rfl ?_
      have hP9 := hP
      have hD9 := hD
      exact W.zret (v := 1) hx hb hr (by rfl) (fun t ht hW => ⟨⟨1, (), rfl, Or.inl ⟨rfl, h4, hh⟩, by rw [ht]; exact hP9, va_K.moved hW.alike hK, hD9⟩, hS.F ht⟩) hS.2.2 dX3_hasRightSum_40
    · obtain ⟨rfl, hh⟩ := hh
      refine lv_if_eq (tgt := 39) hx hb dX3_hasRightSum_32 rfl (fun hc => ?_) (fun hc => absurd hc (not_not_intro rfl))
      refine lv_iconst (v := 0) hx hb dX3_hasRightSum_39 (by decide) ?_
      have hP9 := hP
      have hD9 := hD
      exact W.zret (v := 0) hx hb hr (by rfl) (fun t ht hW => ⟨⟨0, (), rfl, Or.inr ⟨rfl, fun z => hh z.2⟩, by rw [ht]; exact hP9, va_K.moved hW.alike hK, hD9⟩, hS.F ht⟩) hS.2.2 dX3_hasRightSum_40
  · refine lv_istore_n hx hb dX3_hasRightSum_17 rfl hl (by decide) rfl (fun ls hl => ?_)
    have hl : lv_has ls 4 [(3, .int (nI bq - nI 4)), (2, .int (nI bp)), (0, .ref (ad 0)), (1, .int (nI j))] := hl
    refine lv_iload_n hx hb dX3_hasRightSum_18 rfl (lv_at hl 1 rfl) ?_
    refine lv_iload_n hx hb dX3_hasRightSum_19 rfl (lv_at hl 0 rfl) ?_
    have hlt : nI bq - nI 4 < nI bp := by
      by_cases h9 : 4 ≤ bq
      · rw [pk_sub h9]; exact nI_lt (by omega) (by omega)
      · have h1 := pk_sneg (a := bq) (b := 4) (by decide) (by omega)
        have h2 := nI_pos (n := bp) (by omega)
        rw [Int32.lt_iff_toInt_lt] at h1 h2 ⊢; omega
    refine lv_icmp_gt (tgt := 39) hx hb dX3_hasRightSum_20 rfl (fun hc => ?_) (fun hc => absurd hc (not_not_intro hlt))
    refine lv_iconst (v := 0) hx hb dX3_hasRightSum_39 (by decide) ?_
    have hP9 := hP
    have hD9 := hD
    exact W.zret (v := 0) hx hb hr (by rfl) (fun t ht hW => ⟨⟨0, (), rfl, Or.inr ⟨rfl, fun z => h4 z.1⟩, by rw [ht]; exact hP9, va_K.moved hW.alike hK, hD9⟩, hS.F ht⟩) hS.2.2 dX3_hasRightSum_40

set_option maxHeartbeats 4000000 in
set_option maxRecDepth 100000 in
theorem lpX3_countEntries_go {p : Program} {l : Launch} {e : Env} {s : State} {m : MethodId} {args : Array Value} {below : List Frame} {meth : Method} {c : Code} {Q : State → Prop} {A : Nat → Prop} {dC : Nat → ClassId} {dI : Nat → Nat → Nat} {ca : Nat → ClassId} {ad : Nat → Nat} (hx : p.tables.exec = Jvm.exec) (hb : c.code = cX3_countEntries) (hml : c.maxLocals = 3) (hown : s.vm.findClass RX3 = some m.cls) (hts : ∀ w ∈ wsX3_countEntries, w.before args s = true) (hK : va_K (dC, dI) vwCl (xt ca) s) (hA : ∀ q : Nat, s.heap.size ≤ q → A q) (hE : xn_E A s) {kf : Nat → Int32} {vf : Nat → Int64} {bf : Nat → Int32} {w : Int32} {op : Int32} {ln : Int32} {tf : Nat → Int32} {nb : Int32} {ef : Nat → Int32} {ff : Nat → Int32} {e9 : Nat} {z1 : Int32} (he9 : e9 ≤ 4885) : ∀ (k : Nat) (cnt a : Nat) (ok fi ek : Int32) (ev : Int64) (fst : Bool) (H : Heap) (locs : List Loc) (ls : Array Slot), (ok = 0 ∨ ok = 1) → (ok = 1 → 2 * cnt ≤ a) → cnt + k = 2444 → a ≤ e9 → fi = (if fst = true then 1 else 0) → lv_has ls 3 [(2, .int (nI cnt)), (0, .ref (ad 0)), (1, .int z1)] → va_P (dC, dI) vwCl (xw ad ca kf vf bf w op ln (nI a) (nI e9) ok tf nb ef ff fi ek ev) H → va_D A (xw ad ca kf vf bf w op ln (nI a) (nI e9) ok tf nb ef ff fi ek ev) → va_S A s.heap H locs → (ok = 1 → ∀ lb, pe_bl tf e9 e9 fst ek a = some lb → ∀ (x1 x2 x4 x5 : Int32) (x6 : Int64), ∀ (H : Heap) (locs : List Loc) (ls : Array Slot), lv_has ls 3 [(2, .int (nI (cnt + lb.length))), (0, .ref (ad 0))] → va_P (dC, dI) vwCl (xw ad ca kf vf bf w op ln x1 x2 1 tf nb ef ff x4 x5 x6) H → va_D A (xw ad ca kf vf bf w op ln x1 x2 1 tf nb ef ff x4 x5 x6) → va_S A s.heap H locs → W p l e ({ frames := 3, cells := 0, slots := 0, locals := 68 } : Room) s m args below meth c H locs 0 0 Q (F0 m 41 ls [])) → (ok = 0 ∨ pe_bl tf e9 e9 fst ek a = none → ∀ (x1 x2 x4 x5 : Int32) (x6 : Int64) (x7 : Int32), ∀ (H : Heap) (locs : List Loc) (ls : Array Slot), lv_has ls 3 [(2, .int x7), (0, .ref (ad 0))] → va_P (dC, dI) vwCl (xw ad ca kf vf bf w op ln x1 x2 0 tf nb ef ff x4 x5 x6) H → va_D A (xw ad ca kf vf bf w op ln x1 x2 0 tf nb ef ff x4 x5 x6) → va_S A s.heap H locs → W p l e ({ frames := 3, cells := 0, slots := 0, locals := 68 } : Room) s m args below meth c H locs 0 0 Q (F0 m 41 ls [])) → W p l e ({ frames := 3, cells := 0, slots := 0, locals := 68 } : Room) s m args below meth c H locs 0 0 Q (F0 m 7 ls []) := by
  intro k
  induction k with
  | zero =>
    intro cnt a ok fi ek ev fst H locs ls hok hcnt hck ha hfi hl hP hD hS kg kb
    have hl : lv_has ls 3 [(2, .int (nI cnt)), (0, .ref (ad 0)), (1, .int z1)] := hl
    refine lv_iload_n hx hb dX3_countEntries_7 rfl (lv_at hl 0 rfl) ?_
    refine lv_sipush (v := nI 2444) hx hb dX3_countEntries_8 (by decide) ?_
    refine lv_icmp_ge (tgt := 41) hx hb dX3_countEntries_11 rfl (fun hc => ?_) (fun hc => absurd hc (not_not_intro (nI_le (by omega) (by omega))))
    rcases hok with rfl | rfl
    · exact kb (Or.inl rfl) _ _ _ _ _ _ H locs ls (lv_sub hl [0, 1] rfl) hP hD hS
    · exact kg rfl [] (absurd (hcnt rfl) (by omega)) _ _ _ _ _ H locs ls (lv_sub hl [0, 1] rfl) hP hD hS
  | succ k ih =>
    intro cnt a ok fi ek ev fst H locs ls hok hcnt hck ha hfi hl hP hD hS kg kb
    have hl : lv_has ls 3 [(2, .int (nI cnt)), (0, .ref (ad 0)), (1, .int z1)] := hl
    refine lv_iload_n hx hb dX3_countEntries_7 rfl (lv_at hl 0 rfl) ?_
    refine lv_sipush (v := nI 2444) hx hb dX3_countEntries_8 (by decide) ?_
    refine lv_icmp_ge (tgt := 41) hx hb dX3_countEntries_11 rfl (fun hc => absurd hc (by rw [nI_leI (by decide) (by omega)]; omega)) (fun hc => ?_)
    refine lv_aload_n hx hb dX3_countEntries_14 rfl (lv_at hl 1 rfl) ?_
    refine va_get (D := (dC, dI)) (ci := 3) (v := .ref (ad 4)) (C := RX3) (T := TX3) (N := 8) (ref := "SortedRun") hx hb hts (xg_u mb_uws_X3) hown hK hP 0 rfl rfl 3 (by decide) (xg_w hts mb_fieldLink_RX3_23) (fun _ h9 => h9) rfl dX3_countEntries_15 ?_
    refine xk_i (va_runV (As := []) (rest := []) ⟨hx, hb, hml, hown, hts⟩ (cX2_isReadToEnd_m l dC dI ca ad kf vf bf w op ln (nI a) (nI e9) ok tf nb ef ff fi ek ev  _) (cwV 0 hts (xg_V mb_methodLink_RX3_156 mb_instanceMethod_yX2_isReadToEnd mb_selects_yX2_isReadToEnd mb_initialized_RX2 mb_code_yX2_isReadToEnd) rfl rfl rfl ⟨rfl, by decide, by decide, by decide +kernel⟩ ⟨Nat.le_of_ble_eq_true rfl, Nat.le_of_ble_eq_true rfl⟩) (xpreV (va_recv (q0 := 4) hK hP rfl rfl) hK hP hD hS hA hE) rfl rfl hl.1 rfl (lv_room (Nat.le_of_ble_eq_true rfl)) dX3_countEntries_18 ⟨Nat.le_of_ble_eq_true rfl, Nat.le_of_ble_eq_true rfl⟩) hD hS hA (fun r u H locs hu hP hD hS => ?_)
    have hP : va_P (dC, dI) vwCl (xw ad ca kf vf bf w op ln (nI a) (nI e9) ok tf nb ef ff fi ek ev) H := hP
    have hD : va_D A (xw ad ca kf vf bf w op ln (nI a) (nI e9) ok tf nb ef ff fi ek ev) := hD
    rcases hu with h9 | h9
    · obtain ⟨rfl, h9⟩ := h9
      have h8 : ¬ a < e9 := fun z => absurd ((nI_leI (by omega) (by omega)).mp h9) (by omega)
      refine lv_if_ne (tgt := 41) hx hb dX3_countEntries_21 rfl (fun hc => ?_) (fun hc => absurd hc (by decide))
      rcases hok with rfl | rfl
      · exact kb (Or.inl rfl) _ _ _ _ _ _ H locs ls (lv_sub hl [0, 1] rfl) hP hD hS
      · exact kg rfl [] (pe_bl_end h8) _ _ _ _ _ H locs ls (lv_sub hl [0, 1] rfl) hP hD hS
    · obtain ⟨rfl, h9⟩ := h9
      have h8 : a < e9 := Nat.lt_of_not_le (fun z => h9 ((nI_leI (by omega) (by omega)).mpr z))
      refine lv_if_ne (tgt := 41) hx hb dX3_countEntries_21 rfl (fun hc => absurd hc (not_not_intro rfl)) (fun hc => ?_)
      refine lv_aload_n hx hb dX3_countEntries_24 rfl (lv_at hl 1 rfl) ?_
      refine va_get (D := (dC, dI)) (ci := 3) (v := .ref (ad 9)) (C := RX3) (T := TX3) (N := 8) (ref := "SortedRun") hx hb hts (xg_u mb_uws_X3) hown hK hP 0 rfl rfl 5 (by decide) (xg_w hts mb_fieldLink_RX3_37) (fun _ h9 => h9) rfl dX3_countEntries_25 ?_
      refine lv_aload_n hx hb dX3_countEntries_28 rfl (lv_at hl 1 rfl) ?_
      refine va_get (D := (dC, dI)) (ci := 3) (v := .ref (ad 4)) (C := RX3) (T := TX3) (N := 8) (ref := "SortedRun") hx hb hts (xg_u mb_uws_X3) hown hK hP 0 rfl rfl 3 (by decide) (xg_w hts mb_fieldLink_RX3_23) (fun _ h9 => h9) rfl dX3_countEntries_29 ?_
      refine xk_v (va_runV (As := [.ref (ad 4)]) (rest := []) ⟨hx, hb, hml, hown, hts⟩ (cX0_readNext_m l dC dI ca ad kf vf bf w op ln ok tf nb ef ff fi ek ev a e9 fst ha (by omega) hfi _) (cwV 1 hts (xg_V mb_methodLink_RX3_110 mb_instanceMethod_yX0_readNext mb_selects_yX0_readNext mb_initialized_RX0 mb_code_yX0_readNext) rfl rfl rfl ⟨rfl, by decide, by decide, by decide +kernel⟩ ⟨Nat.le_of_ble_eq_true rfl, Nat.le_of_ble_eq_true rfl⟩) (xpreV (va_recv (q0 := 9) hK hP rfl rfl) hK hP hD hS hA hE) rfl rfl hl.1 rfl (lv_room (Nat.le_of_ble_eq_true rfl)) dX3_countEntries_32 ⟨Nat.le_of_ble_eq_true rfl, Nat.le_of_ble_eq_true rfl⟩) hD hS hA (fun u H locs hu hP hD hS => ?_)
      have hP : va_P (dC, dI) vwCl (xw ad ca kf vf bf w op ln (nI u.1) (nI e9) u.2.1 tf nb ef ff 0 u.2.2.1 u.2.2.2) H := hP
      have hD : va_D A (xw ad ca kf vf bf w op ln (nI u.1) (nI e9) u.2.1 tf nb ef ff 0 u.2.2.1 u.2.2.2) := hD
      obtain ⟨a1, o1, k1, v1⟩ := u
      obtain ⟨h1, h2, hq1⟩ := hu
      dsimp only at h1 h2 hq1 hP hD
      obtain ⟨s1, s2⟩ := pe_step h8 hq1
      have ho1 : o1 = 0 ∨ o1 = 1 := hq1.elim (fun z => by rw [z.2]; exact hok) (fun z => Or.inl z.2)
      refine lv_iinc (k := 0) (v := nI (cnt + 1)) hx hb dX3_countEntries_35 hl rfl (nI_1 cnt) (by decide) rfl (fun ls hl => ?_)
      have hl : lv_has ls 3 [(2, .int (nI (cnt + 1))), (0, .ref (ad 0)), (1, .int z1)] := hl
      refine lv_goto (tgt := 7) hx hb dX3_countEntries_38 rfl ?_
      refine ih (cnt + 1) a1 o1 0 k1 v1 false _ _ _ ho1 (fun z => ?_) (by omega) h2 rfl hl hP hD hS ?_ ?_
      · obtain ⟨q1, q2, -⟩ := s2 z
        have := hcnt q1; omega
      · intro z lb hlb x1 x2 x4 x5 x6 H locs ls hl hP hD hS
        obtain ⟨q1, -, q3⟩ := s2 z
        rw [show cnt + 1 + lb.length = cnt + ((k1, v1) :: lb).length by simp; omega] at hl
        exact kg q1 _ (q3 lb hlb) x1 x2 x4 x5 x6 H locs ls hl hP hD hS
      · intro z
        exact kb (s1 z)

set_option maxHeartbeats 4000000 in
set_option maxRecDepth 100000 in
theorem cX3_countEntries_m (l : Launch) (dC : Nat → ClassId) (dI : Nat → Nat → Nat) (ca : Nat → ClassId) (ad : Nat → Nat) (kf : Nat → Int32) (vf : Nat → Int64) (bf : Nat → Int32) (w : Int32) (op : Int32) (ln : Int32) (nx : Int32) (en : Int32) (ok : Int32) (tf : Nat → Int32) (nb : Int32) (ef : Nat → Int32) (ff : Nat → Int32) (fi : Int32) (ek : Int32) (ev : Int64) (bp bq j : Nat) (hj : j < 2444) (hp : px_st ef j = nI bp) (hq : ef j = nI bq) (hpq : bp ≤ bq) (hq9 : bq ≤ 4889) (h4 : bp + 4 ≤ bq) : ∀ sz : Nat, Met l yX3_countEntries wsX3_countEntries ({ frames := 3, cells := 0, slots := 0, locals := 68 } : Room) (va_Pc [.ref (ad 0), .int (nI j)] (xP (dC, dI) (xt ca) (xw ad ca kf vf bf w op ln nx en ok tf nb ef ff fi ek ev) sz)) (va_Qi (S := Int32 × Int32 × Int32 × Int32 × Int32 × Int64) (fun r u => (∃ lb, pe_bl tf (bq - 4) (bq - 4) true 0 bp = some lb ∧ r = nI lb.length ∧ lb.length ≤ 2444) ∨ (pe_bl tf (bq - 4) (bq - 4) true 0 bp = none ∧ r = -1)) (fun u t => xB (dC, dI) (xt ca) (va_A (xw ad ca kf vf bf w op ln nx en ok tf nb ef ff fi ek ev) sz) (xw ad ca kf vf bf w op ln u.1 u.2.1 u.2.2.1 tf nb ef ff u.2.2.2.1 u.2.2.2.2.1 u.2.2.2.2.2) t) (va_A (xw ad ca kf vf bf w op ln nx en ok tf nb ef ff fi ek ev) sz)) 0 0 (va_A (xw ad ca kf vf bf w op ln nx en ok tf nb ef ff fi ek ev) sz) := by
  intro sz
  refine Met.ofW (cc := cX3_countEntries) (maxL := 3) (ret := (some .int)) (by decide) rfl ?_
  intro p e s m args below meth c s₁ B hml hv
  obtain ⟨rfl, hsz, hP, hK, hD0, hE⟩ := hv
  have hx := B.exec
  have hb := B.bytes
  have hr := B.returns
  have hts := atoms_spec (ws := wsX3_countEntries) B.pre
  have hown : s.vm.findClass RX3 = some m.cls := findClass_of_methodNamed B.named
  have hlocks := B.notSynchronized
  subst hsz
  have hD := hD0.self (sz := s.heap.size)
  generalize hAe : va_A (xw ad ca kf vf bf w op ln nx en ok tf nb ef ff fi ek ev) s.heap.size = A at hD hE ⊢
  have hA : ∀ q : Nat, s.heap.size ≤ q → A q := fun q h => by rw [← hAe]; exact Or.inr h
  have hS : va_S A s.heap s.heap [] := va_S.rf
  have hl := lv_entry ([.ref (ad 0), .int (nI j)]) (n := 3) (Nat.le_of_ble_eq_true rfl)
  rw [lg_entry_eq]
  generalize (lg_sl ([.ref (ad 0), .int (nI j)]) ++ List.replicate (3 - (lg_sl ([.ref (ad 0), .int (nI j)])).length) Slot.unset).toArray = ls at hl ⊢
  have hl : lv_has ls 3 [(0, .ref (ad 0)), (1, .int (nI j))] := hl
  refine lv_aload_n hx hb dX3_countEntries_0 rfl (lv_at hl 0 rfl) ?_
  refine lv_iload_n hx hb dX3_countEntries_1 rfl (lv_at hl 1 rfl) ?_
  refine xk_v (va_runV (As := [.int (nI j)]) (rest := []) ⟨hx, hb, hml, hown, hts⟩ (cX3_startReading_m l dC dI ca ad kf vf bf w op ln nx en ok tf nb ef ff fi ek ev j hj _) (cwV 1 hts (xg_V mb_methodLink_RX3_107 mb_instanceMethod_yX3_startReading mb_selects_yX3_startReading mb_initialized_RX3 mb_code_yX3_startReading) rfl rfl rfl ⟨rfl, by decide, by decide, by decide +kernel⟩ ⟨Nat.le_of_ble_eq_true rfl, Nat.le_of_ble_eq_true rfl⟩) (xpreV (va_recv (q0 := 0) hK hP rfl rfl) hK hP hD hS hA hE) rfl rfl hl.1 rfl (lv_room (Nat.le_of_ble_eq_true rfl)) dX3_countEntries_2 ⟨Nat.le_of_ble_eq_true rfl, Nat.le_of_ble_eq_true rfl⟩) hD hS hA (fun u H locs hu hP hD hS => ?_)
  have hP : va_P (dC, dI) vwCl (xw ad ca kf vf bf w op ln (px_st ef j) (ef j - nI 4) 1 tf nb ef ff 1 ek ev) H := hP
  have hD : va_D A (xw ad ca kf vf bf w op ln (px_st ef j) (ef j - nI 4) 1 tf nb ef ff 1 ek ev) := hD
  rw [hp, hq, pk_sub (by omega)] at hP hD
  refine lv_iconst (v := nI 0) hx hb dX3_countEntries_5 (by decide) ?_
  refine lv_istore_n hx hb dX3_countEntries_6 rfl hl (by decide) rfl (fun ls hl => ?_)
  have hl : lv_has ls 3 [(2, .int (nI 0)), (0, .ref (ad 0)), (1, .int (nI j))] := hl
  refine lpX3_countEntries_go hx hb hml hown hts hK hA hE (e9 := bq - 4) (by omega) 2444 0 bp 1 1 ek ev true _ _ _ (Or.inr rfl) (fun _ => by omega) (by omega) (by omega) rfl hl hP hD hS ?_ ?_
  · intro _ lb hlb x1 x2 x4 x5 x6 H locs ls hl hP hD hS
    rw [pe_bl_first tf (bq - 4) ek 0] at hlb
    have hlen := pe_bl_len _ _ _ _ _ hlb
    refine lv_aload_n hx hb dX3_countEntries_41 rfl (lv_at hl 1 rfl) ?_
    refine va_get (D := (dC, dI)) (ci := 3) (v := .ref (ad 4)) (C := RX3) (T := TX3) (N := 8) (ref := "SortedRun") hx hb hts (xg_u mb_uws_X3) hown hK hP 0 rfl rfl 3 (by decide) (xg_w hts mb_fieldLink_RX3_23) (fun _ h9 => h9) rfl dX3_countEntries_42 ?_
    refine va_getN (host := "SortedRun") (D := (dC, dI)) (ci := 2) (v := .int 1) (C := RX2) (T := TX2) (N := 5) (ref := "SortedRun$Table") hx hb hts (xg_u mb_uws_X2) hown hK hP 4 rfl rfl 4 (by decide) (xn_w (w := .fieldLinkNest RX3 160 "SortedRun$Table" "areNumbersRight" "Z" "SortedRun") (i := 38) hE rfl rfl rfl) (fun _ h9 => h9) rfl dX3_countEntries_45 ?_
    refine lv_if_eq (tgt := 55) hx hb dX3_countEntries_48 rfl (fun hc => absurd hc (by decide)) (fun hc => ?_)
    refine lv_iload_n hx hb dX3_countEntries_51 rfl (lv_at hl 0 rfl) ?_
    refine lv_goto (tgt := 56) hx hb dX3_countEntries_52 rfl ?_
    refine lv_topi (fun z1 ez1 => ?_)
    have ez1 : z1 = nI lb.length := ez1.trans (by rw [Nat.zero_add])
    subst ez1
    have hP9 := hP
    have hD9 := hD
    exact W.iret (v := nI lb.length) hx hb hr (fun t ht hW => ⟨⟨nI lb.length, (x1, x2, 1, x4, x5, x6), rfl, Or.inl ⟨lb, hlb, rfl, by omega⟩, by rw [ht]; exact hP9, va_K.moved hW.alike hK, hD9⟩, hS.F ht⟩) hS.2.2 dX3_countEntries_56
  · intro hbb x1 x2 x4 x5 x6 x7 H locs ls hl hP hD hS
    have hbn : pe_bl tf (bq - 4) (bq - 4) true 0 bp = none := by rw [pe_bl_first tf (bq - 4) 0 ek]; exact hbb.elim (fun z => absurd z (by decide)) id
    refine lv_aload_n hx hb dX3_countEntries_41 rfl (lv_at hl 1 rfl) ?_
    refine va_get (D := (dC, dI)) (ci := 3) (v := .ref (ad 4)) (C := RX3) (T := TX3) (N := 8) (ref := "SortedRun") hx hb hts (xg_u mb_uws_X3) hown hK hP 0 rfl rfl 3 (by decide) (xg_w hts mb_fieldLink_RX3_23) (fun _ h9 => h9) rfl dX3_countEntries_42 ?_
    refine va_getN (host := "SortedRun") (D := (dC, dI)) (ci := 2) (v := .int 0) (C := RX2) (T := TX2) (N := 5) (ref := "SortedRun$Table") hx hb hts (xg_u mb_uws_X2) hown hK hP 4 rfl rfl 4 (by decide) (xn_w (w := .fieldLinkNest RX3 160 "SortedRun$Table" "areNumbersRight" "Z" "SortedRun") (i := 38) hE rfl rfl rfl) (fun _ h9 => h9) rfl dX3_countEntries_45 ?_
    refine lv_if_eq (tgt := 55) hx hb dX3_countEntries_48 rfl (fun hc => ?_) (fun hc => absurd hc (not_not_intro rfl))
    refine lv_iconst (v := -1) hx hb dX3_countEntries_55 (by decide) ?_
    have hP9 := hP
    have hD9 := hD
    exact W.iret (v := -1) hx hb hr (fun t ht hW => ⟨⟨-1, (x1, x2, 0, x4, x5, x6), rfl, Or.inr ⟨hbn, rfl⟩, by rw [ht]; exact hP9, va_K.moved hW.alike hK, hD9⟩, hS.F ht⟩) hS.2.2 dX3_countEntries_56

set_option maxHeartbeats 4000000 in
set_option maxRecDepth 100000 in
theorem cX3_requireByte_m (l : Launch) (hnt : l.stackTraces = false) (dC : Nat → ClassId) (dI : Nat → Nat → Nat) (ca : Nat → ClassId) (ad : Nat → Nat) (kf : Nat → Int32) (vf : Nat → Int64) (bf : Nat → Int32) (w : Int32) (op : Int32) (nx : Int32) (en : Int32) (ok : Int32) (tf : Nat → Int32) (nb : Int32) (ef : Nat → Int32) (ff : Nat → Int32) (fi : Int32) (ek : Int32) (ev : Int64) (n : Nat) (x : Int32) (hn : n < 2 ^ 31) : ∀ sz : Nat, vx_Met l yX3_requireByte wsX3_requireByte ({ frames := 6, cells := 1, slots := 6, locals := 90 } : Room) (va_Pc [.ref (ad 0), .int x] (xP (dC, dI) (xt ca) (xw ad ca kf vf bf w op (nI n) nx en ok tf nb ef ff fi ek ev) sz)) (va_Qv (S := Unit) (fun _ => sp_in x n = true) (fun u t => xB (dC, dI) (xt ca) (va_A (xw ad ca kf vf bf w op (nI n) nx en ok tf nb ef ff fi ek ev) sz) (xw ad ca kf vf bf w op (nI n) nx en ok tf nb ef ff fi ek ev) t ∧ t.heap.size = sz) (va_A (xw ad ca kf vf bf w op (nI n) nx en ok tf nb ef ff fi ek ev) sz)) (xX (S := Unit) (dC, dI) (xt ca) (va_A (xw ad ca kf vf bf w op (nI n) nx en ok tf nb ef ff fi ek ev) sz) (fun E _ => E = "java/lang/IndexOutOfBoundsException" ∧ sp_in x n = false) (fun u => xw ad ca kf vf bf w op (nI n) nx en ok tf nb ef ff fi ek ev)) 1 6 (va_A (xw ad ca kf vf bf w op (nI n) nx en ok tf nb ef ff fi ek ev) sz) := by
  intro sz
  refine vx_ofW (cc := cX3_requireByte) (maxL := 2) (ret := none) (by decide) rfl ?_
  intro p e s m args below meth c s₁ B hml hno hv
  obtain ⟨rfl, hsz, hP, hK, hD0, hE⟩ := hv
  have hx := B.exec
  have hb := B.bytes
  have hr := B.returns
  have hts := atoms_spec (ws := wsX3_requireByte) B.pre
  have hown : s.vm.findClass RX3 = some m.cls := findClass_of_methodNamed B.named
  have hlocks := B.notSynchronized
  subst hsz
  have hD := hD0.self (sz := s.heap.size)
  generalize hAe : va_A (xw ad ca kf vf bf w op (nI n) nx en ok tf nb ef ff fi ek ev) s.heap.size = A at hD hE ⊢
  have hA : ∀ q : Nat, s.heap.size ≤ q → A q := fun q h => by rw [← hAe]; exact Or.inr h
  have hS : va_S A s.heap s.heap [] := va_S.rf
  have hl := lv_entry ([.ref (ad 0), .int x]) (n := 2) (Nat.le_of_ble_eq_true rfl)
  rw [lg_entry_eq]
  generalize (lg_sl ([.ref (ad 0), .int x]) ++ List.replicate (2 - (lg_sl ([.ref (ad 0), .int x])).length) Slot.unset).toArray = ls at hl ⊢
  have hl : lv_has ls 2 [(0, .ref (ad 0)), (1, .int x)] := hl
  refine lv_iload_n hx hb dX3_requireByte_0 rfl (lv_at hl 1 rfl) ?_
  refine lv_if_lt (tgt := 15) hx hb dX3_requireByte_1 rfl (fun hc => ?_) (fun hc => ?_)
  · obtain ⟨sa, hstr⟩ := hE.2.2.2.1 _ (List.mem_of_getElem? (i := 2) rfl)
    exact xx_throw () hx hb hnt hown (by decide +kernel) (xg_w hts mb_classLink_RX3_126) (xg_w hts mb_initialized_IndexOutOfBoundsException) hstr xh_IOB_at xh_IOB_good xh_IOB_on hE (hl.1.trans hml.symm) dX3_requireByte_15 dX3_requireByte_18 dX3_requireByte_19 dX3_requireByte_21 dX3_requireByte_24 hno ⟨Nat.le_of_ble_eq_true rfl, Nat.le_of_ble_eq_true rfl, Nat.le_of_ble_eq_true rfl, Nat.le_of_ble_eq_true rfl⟩ hlocks (⟨rfl, by unfold sp_in; rw [decide_eq_false (Int32.not_le.mpr hc)]; rfl⟩) hK hP hD hS (Nat.le_refl _) (Nat.le_refl _)
  · refine lv_iload_n hx hb dX3_requireByte_4 rfl (lv_at hl 1 rfl) ?_
    refine lv_aload_n hx hb dX3_requireByte_5 rfl (lv_at hl 0 rfl) ?_
    refine va_get (D := (dC, dI)) (ci := 3) (v := .ref (ad 4)) (C := RX3) (T := TX3) (N := 8) (ref := "SortedRun") hx hb hts (xg_u mb_uws_X3) hown hK hP 0 rfl rfl 3 (by decide) (xg_w hts mb_fieldLink_RX3_23) (fun _ h9 => h9) rfl dX3_requireByte_6 ?_
    refine va_getN (host := "SortedRun") (D := (dC, dI)) (ci := 2) (v := .int (nI n)) (C := RX2) (T := TX2) (N := 5) (ref := "SortedRun$Table") hx hb hts (xg_u mb_uws_X2) hown hK hP 4 rfl rfl 1 (by decide) (xn_w (w := .fieldLinkNest RX3 60 "SortedRun$Table" "length" "I" "SortedRun") (i := 32) hE rfl rfl rfl) (fun _ h9 => h9) rfl dX3_requireByte_9 ?_
    refine lv_icmp_lt (tgt := 25) hx hb dX3_requireByte_12 rfl (fun hc2 => ?_) (fun hc2 => ?_)
    · refine x_size hS (fun hz => ?_)
      refine vx_ret (W.widen (k := 1) (n := 6) (Nat.zero_le _) (Nat.zero_le _) ?_)
      exact W.vret hx hb hr (fun t ht hW => ⟨⟨(), rfl, by unfold sp_in; rw [decide_eq_true (Int32.not_lt.mp hc), decide_eq_true hc2]; rfl, ⟨by rw [ht]; exact hP, va_K.moved hW.alike hK, hD⟩, (congrArg Array.size ht).trans hz⟩, hS.F ht⟩) hS.2.2 dX3_requireByte_25
    · obtain ⟨sa, hstr⟩ := hE.2.2.2.1 _ (List.mem_of_getElem? (i := 2) rfl)
      exact xx_throw () hx hb hnt hown (by decide +kernel) (xg_w hts mb_classLink_RX3_126) (xg_w hts mb_initialized_IndexOutOfBoundsException) hstr xh_IOB_at xh_IOB_good xh_IOB_on hE (hl.1.trans hml.symm) dX3_requireByte_15 dX3_requireByte_18 dX3_requireByte_19 dX3_requireByte_21 dX3_requireByte_24 hno ⟨Nat.le_of_ble_eq_true rfl, Nat.le_of_ble_eq_true rfl, Nat.le_of_ble_eq_true rfl, Nat.le_of_ble_eq_true rfl⟩ hlocks (⟨rfl, by unfold sp_in; rw [decide_eq_false hc2, Bool.and_false]⟩) hK hP hD hS (Nat.le_refl _) (Nat.le_refl _)

set_option maxHeartbeats 4000000 in
set_option maxRecDepth 100000 in
theorem cX3_requireBlock_m (l : Launch) (hnt : l.stackTraces = false) (dC : Nat → ClassId) (dI : Nat → Nat → Nat) (ca : Nat → ClassId) (ad : Nat → Nat) (kf : Nat → Int32) (vf : Nat → Int64) (bf : Nat → Int32) (w : Int32) (op : Int32) (ln : Int32) (nx : Int32) (en : Int32) (ok : Int32) (tf : Nat → Int32) (ef : Nat → Int32) (ff : Nat → Int32) (fi : Int32) (ek : Int32) (ev : Int64) (n : Nat) (x : Int32) (hn : n < 2 ^ 31) : ∀ sz : Nat, vx_Met l yX3_requireBlock wsX3_requireBlock ({ frames := 6, cells := 1, slots := 6, locals := 90 } : Room) (va_Pc [.ref (ad 0), .int x] (xP (dC, dI) (xt ca) (xw ad ca kf vf bf w op ln nx en ok tf (nI n) ef ff fi ek ev) sz)) (va_Qv (S := Unit) (fun _ => sp_in x n = true) (fun u t => xB (dC, dI) (xt ca) (va_A (xw ad ca kf vf bf w op ln nx en ok tf (nI n) ef ff fi ek ev) sz) (xw ad ca kf vf bf w op ln nx en ok tf (nI n) ef ff fi ek ev) t ∧ t.heap.size = sz) (va_A (xw ad ca kf vf bf w op ln nx en ok tf (nI n) ef ff fi ek ev) sz)) (xX (S := Unit) (dC, dI) (xt ca) (va_A (xw ad ca kf vf bf w op ln nx en ok tf (nI n) ef ff fi ek ev) sz) (fun E _ => E = "java/lang/IndexOutOfBoundsException" ∧ sp_in x n = false) (fun u => xw ad ca kf vf bf w op ln nx en ok tf (nI n) ef ff fi ek ev)) 1 6 (va_A (xw ad ca kf vf bf w op ln nx en ok tf (nI n) ef ff fi ek ev) sz) := by
  intro sz
  refine vx_ofW (cc := cX3_requireBlock) (maxL := 2) (ret := none) (by decide) rfl ?_
  intro p e s m args below meth c s₁ B hml hno hv
  obtain ⟨rfl, hsz, hP, hK, hD0, hE⟩ := hv
  have hx := B.exec
  have hb := B.bytes
  have hr := B.returns
  have hts := atoms_spec (ws := wsX3_requireBlock) B.pre
  have hown : s.vm.findClass RX3 = some m.cls := findClass_of_methodNamed B.named
  have hlocks := B.notSynchronized
  subst hsz
  have hD := hD0.self (sz := s.heap.size)
  generalize hAe : va_A (xw ad ca kf vf bf w op ln nx en ok tf (nI n) ef ff fi ek ev) s.heap.size = A at hD hE ⊢
  have hA : ∀ q : Nat, s.heap.size ≤ q → A q := fun q h => by rw [← hAe]; exact Or.inr h
  have hS : va_S A s.heap s.heap [] := va_S.rf
  have hl := lv_entry ([.ref (ad 0), .int x]) (n := 2) (Nat.le_of_ble_eq_true rfl)
  rw [lg_entry_eq]
  generalize (lg_sl ([.ref (ad 0), .int x]) ++ List.replicate (2 - (lg_sl ([.ref (ad 0), .int x])).length) Slot.unset).toArray = ls at hl ⊢
  have hl : lv_has ls 2 [(0, .ref (ad 0)), (1, .int x)] := hl
  refine lv_iload_n hx hb dX3_requireBlock_0 rfl (lv_at hl 1 rfl) ?_
  refine lv_if_lt (tgt := 15) hx hb dX3_requireBlock_1 rfl (fun hc => ?_) (fun hc => ?_)
  · obtain ⟨sa, hstr⟩ := hE.2.2.2.1 _ (List.mem_of_getElem? (i := 9) rfl)
    exact xx_throw () hx hb hnt hown (by decide +kernel) (xg_w hts mb_classLink_RX3_126) (xg_w hts mb_initialized_IndexOutOfBoundsException) hstr xh_IOB_at xh_IOB_good xh_IOB_on hE (hl.1.trans hml.symm) dX3_requireBlock_15 dX3_requireBlock_18 dX3_requireBlock_19 dX3_requireBlock_21 dX3_requireBlock_24 hno ⟨Nat.le_of_ble_eq_true rfl, Nat.le_of_ble_eq_true rfl, Nat.le_of_ble_eq_true rfl, Nat.le_of_ble_eq_true rfl⟩ hlocks (⟨rfl, by unfold sp_in; rw [decide_eq_false (Int32.not_le.mpr hc)]; rfl⟩) hK hP hD hS (Nat.le_refl _) (Nat.le_refl _)
  · refine lv_iload_n hx hb dX3_requireBlock_4 rfl (lv_at hl 1 rfl) ?_
    refine lv_aload_n hx hb dX3_requireBlock_5 rfl (lv_at hl 0 rfl) ?_
    refine va_get (D := (dC, dI)) (ci := 3) (v := .ref (ad 6)) (C := RX3) (T := TX3) (N := 8) (ref := "SortedRun") hx hb hts (xg_u mb_uws_X3) hown hK hP 0 rfl rfl 4 (by decide) (xg_w hts mb_fieldLink_RX3_30) (fun _ h9 => h9) rfl dX3_requireBlock_6 ?_
    refine va_getN (host := "SortedRun") (D := (dC, dI)) (ci := 1) (v := .int (nI n)) (C := RX1) (T := TX1) (N := 3) (ref := "SortedRun$Index") hx hb hts (xg_u mb_uws_X1) hown hK hP 6 rfl rfl 2 (by decide) (xn_w (w := .fieldLinkNest RX3 90 "SortedRun$Index" "blocks" "I" "SortedRun") (i := 62) hE rfl rfl rfl) (fun _ h9 => h9) rfl dX3_requireBlock_9 ?_
    refine lv_icmp_lt (tgt := 25) hx hb dX3_requireBlock_12 rfl (fun hc2 => ?_) (fun hc2 => ?_)
    · refine x_size hS (fun hz => ?_)
      refine vx_ret (W.widen (k := 1) (n := 6) (Nat.zero_le _) (Nat.zero_le _) ?_)
      exact W.vret hx hb hr (fun t ht hW => ⟨⟨(), rfl, by unfold sp_in; rw [decide_eq_true (Int32.not_lt.mp hc), decide_eq_true hc2]; rfl, ⟨by rw [ht]; exact hP, va_K.moved hW.alike hK, hD⟩, (congrArg Array.size ht).trans hz⟩, hS.F ht⟩) hS.2.2 dX3_requireBlock_25
    · obtain ⟨sa, hstr⟩ := hE.2.2.2.1 _ (List.mem_of_getElem? (i := 9) rfl)
      exact xx_throw () hx hb hnt hown (by decide +kernel) (xg_w hts mb_classLink_RX3_126) (xg_w hts mb_initialized_IndexOutOfBoundsException) hstr xh_IOB_at xh_IOB_good xh_IOB_on hE (hl.1.trans hml.symm) dX3_requireBlock_15 dX3_requireBlock_18 dX3_requireBlock_19 dX3_requireBlock_21 dX3_requireBlock_24 hno ⟨Nat.le_of_ble_eq_true rfl, Nat.le_of_ble_eq_true rfl, Nat.le_of_ble_eq_true rfl, Nat.le_of_ble_eq_true rfl⟩ hlocks (⟨rfl, by unfold sp_in; rw [decide_eq_false hc2, Bool.and_false]⟩) hK hP hD hS (Nat.le_refl _) (Nat.le_refl _)

set_option maxHeartbeats 4000000 in
set_option maxRecDepth 100000 in
theorem cX3_requireOpen_m (l : Launch) (hnt : l.stackTraces = false) (dC : Nat → ClassId) (dI : Nat → Nat → Nat) (ca : Nat → ClassId) (ad : Nat → Nat) (kf : Nat → Int32) (vf : Nat → Int64) (bf : Nat → Int32) (w : Int32) (op : Int32) (ln : Int32) (nx : Int32) (en : Int32) (ok : Int32) (tf : Nat → Int32) (nb : Int32) (ef : Nat → Int32) (ff : Nat → Int32) (fi : Int32) (ek : Int32) (ev : Int64) : ∀ sz : Nat, vx_Met l yX3_requireOpen wsX3_requireOpen ({ frames := 6, cells := 1, slots := 6, locals := 90 } : Room) (va_Pc [.ref (ad 0)] (xP (dC, dI) (xt ca) (xw ad ca kf vf bf w op ln nx en ok tf nb ef ff fi ek ev) sz)) (va_Qv (S := Unit) (fun _ => ¬ op = 0) (fun u t => xB (dC, dI) (xt ca) (va_A (xw ad ca kf vf bf w op ln nx en ok tf nb ef ff fi ek ev) sz) (xw ad ca kf vf bf w op ln nx en ok tf nb ef ff fi ek ev) t ∧ t.heap.size = sz) (va_A (xw ad ca kf vf bf w op ln nx en ok tf nb ef ff fi ek ev) sz)) (xX (S := Unit) (dC, dI) (xt ca) (va_A (xw ad ca kf vf bf w op ln nx en ok tf nb ef ff fi ek ev) sz) (fun E _ => E = "java/lang/IllegalStateException" ∧ op = 0) (fun u => xw ad ca kf vf bf w op ln nx en ok tf nb ef ff fi ek ev)) 1 6 (va_A (xw ad ca kf vf bf w op ln nx en ok tf nb ef ff fi ek ev) sz) := by
  intro sz
  refine vx_ofW (cc := cX3_requireOpen) (maxL := 1) (ret := none) (by decide) rfl ?_
  intro p e s m args below meth c s₁ B hml hno hv
  obtain ⟨rfl, hsz, hP, hK, hD0, hE⟩ := hv
  have hx := B.exec
  have hb := B.bytes
  have hr := B.returns
  have hts := atoms_spec (ws := wsX3_requireOpen) B.pre
  have hown : s.vm.findClass RX3 = some m.cls := findClass_of_methodNamed B.named
  have hlocks := B.notSynchronized
  subst hsz
  have hD := hD0.self (sz := s.heap.size)
  generalize hAe : va_A (xw ad ca kf vf bf w op ln nx en ok tf nb ef ff fi ek ev) s.heap.size = A at hD hE ⊢
  have hA : ∀ q : Nat, s.heap.size ≤ q → A q := fun q h => by rw [← hAe]; exact Or.inr h
  have hS : va_S A s.heap s.heap [] := va_S.rf
  have hl := lv_entry ([.ref (ad 0)]) (n := 1) (Nat.le_of_ble_eq_true rfl)
  rw [lg_entry_eq]
  generalize (lg_sl ([.ref (ad 0)]) ++ List.replicate (1 - (lg_sl ([.ref (ad 0)])).length) Slot.unset).toArray = ls at hl ⊢
  have hl : lv_has ls 1 [(0, .ref (ad 0))] := hl
  refine lv_aload_n hx hb dX3_requireOpen_0 rfl (lv_at hl 0 rfl) ?_
  refine va_get (D := (dC, dI)) (ci := 3) (v := .int op) (C := RX3) (T := TX3) (N := 8) (ref := "SortedRun") hx hb hts (xg_u mb_uws_X3) hown hK hP 0 rfl rfl 7 (by decide) (xg_w hts mb_fieldLink_RX3_75) (fun _ h9 => h9) rfl dX3_requireOpen_1 ?_
  refine lv_if_ne (tgt := 17) hx hb dX3_requireOpen_4 rfl (fun hc => ?_) (fun hc => ?_)
  · refine x_size hS (fun hz => ?_)
    refine vx_ret (W.widen (k := 1) (n := 6) (Nat.zero_le _) (Nat.zero_le _) ?_)
    exact W.vret hx hb hr (fun t ht hW => ⟨⟨(), rfl, hc, ⟨by rw [ht]; exact hP, va_K.moved hW.alike hK, hD⟩, (congrArg Array.size ht).trans hz⟩, hS.F ht⟩) hS.2.2 dX3_requireOpen_17
  · obtain ⟨sa, hstr⟩ := hE.2.2.2.1 _ (List.mem_of_getElem? (i := 5) rfl)
    exact xx_throw () hx hb hnt hown (by decide +kernel) (xg_w hts mb_classLink_RX3_48) (xg_w hts mb_initialized_IllegalStateException) hstr xh_ISE_at xh_ISE_good xh_ISE_on hE (hl.1.trans hml.symm) dX3_requireOpen_7 dX3_requireOpen_10 dX3_requireOpen_11 dX3_requireOpen_13 dX3_requireOpen_16 hno ⟨Nat.le_of_ble_eq_true rfl, Nat.le_of_ble_eq_true rfl, Nat.le_of_ble_eq_true rfl, Nat.le_of_ble_eq_true rfl⟩ hlocks (⟨rfl, hc⟩) hK hP hD hS (Nat.le_refl _) (Nat.le_refl _)

set_option maxHeartbeats 4000000 in
set_option maxRecDepth 100000 in
theorem cX3_countRightEntries_m (l : Launch) (hnt : l.stackTraces = false) (dC : Nat → ClassId) (dI : Nat → Nat → Nat) (ca : Nat → ClassId) (ad : Nat → Nat) (kf : Nat → Int32) (vf : Nat → Int64) (bf : Nat → Int32) (w : Int32) (op : Int32) (ln : Int32) (nx : Int32) (en : Int32) (ok : Int32) (tf : Nat → Int32) (nb : Int32) (ef : Nat → Int32) (ff : Nat → Int32) (fi : Int32) (ek : Int32) (ev : Int64) (bp bq j : Nat) (hj : j < 2444) (hp : px_st ef j = nI bp) (hq : ef j = nI bq) (hpq : bp ≤ bq) (hq9 : bq ≤ 4889) : ∀ sz : Nat, vx_Met l yX3_countRightEntries wsX3_countRightEntries ({ frames := 6, cells := 1, slots := 6, locals := 92 } : Room) (va_Pc [.ref (ad 0), .int (nI j)] (xP (dC, dI) (xt ca) (xw ad ca kf vf bf w op ln nx en ok tf nb ef ff fi ek ev) sz)) (va_Qi (S := Int32 × Int32 × Int32 × Int32 × Int32 × Int64) (fun r u => ∃ lb, pe_blk tf bp bq = some lb ∧ r = nI lb.length ∧ lb.length ≤ 2444) (fun u t => xB (dC, dI) (xt ca) (va_A (xw ad ca kf vf bf w op ln nx en ok tf nb ef ff fi ek ev) sz) (xw ad ca kf vf bf w op ln u.1 u.2.1 u.2.2.1 tf nb ef ff u.2.2.2.1 u.2.2.2.2.1 u.2.2.2.2.2) t ∧ t.heap.size = sz) (va_A (xw ad ca kf vf bf w op ln nx en ok tf nb ef ff fi ek ev) sz)) (xX (S := Int32 × Int32 × Int32 × Int32 × Int32 × Int64) (dC, dI) (xt ca) (va_A (xw ad ca kf vf bf w op ln nx en ok tf nb ef ff fi ek ev) sz) (fun E u => E = "java/lang/ArithmeticException" ∧ pe_blk tf bp bq = none) (fun u => xw ad ca kf vf bf w op ln u.1 u.2.1 u.2.2.1 tf nb ef ff u.2.2.2.1 u.2.2.2.2.1 u.2.2.2.2.2)) 1 6 (va_A (xw ad ca kf vf bf w op ln nx en ok tf nb ef ff fi ek ev) sz) := by
  intro sz
  refine vx_ofW (cc := cX3_countRightEntries) (maxL := 3) (ret := (some .int)) (by decide) rfl ?_
  intro p e s m args below meth c s₁ B hml hno hv
  obtain ⟨rfl, hsz, hP, hK, hD0, hE⟩ := hv
  have hx := B.exec
  have hb := B.bytes
  have hr := B.returns
  have hts := atoms_spec (ws := wsX3_countRightEntries) B.pre
  have hown : s.vm.findClass RX3 = some m.cls := findClass_of_methodNamed B.named
  have hlocks := B.notSynchronized
  subst hsz
  have hD := hD0.self (sz := s.heap.size)
  generalize hAe : va_A (xw ad ca kf vf bf w op ln nx en ok tf nb ef ff fi ek ev) s.heap.size = A at hD hE ⊢
  have hA : ∀ q : Nat, s.heap.size ≤ q → A q := fun q h => by rw [← hAe]; exact Or.inr h
  have hS : va_S A s.heap s.heap [] := va_S.rf
  have hl := lv_entry ([.ref (ad 0), .int (nI j)]) (n := 3) (Nat.le_of_ble_eq_true rfl)
  rw [lg_entry_eq]
  generalize (lg_sl ([.ref (ad 0), .int (nI j)]) ++ List.replicate (3 - (lg_sl ([.ref (ad 0), .int (nI j)])).length) Slot.unset).toArray = ls at hl ⊢
  have hl : lv_has ls 3 [(0, .ref (ad 0)), (1, .int (nI j))] := hl
  refine lv_aload_n hx hb dX3_countRightEntries_0 rfl (lv_at hl 0 rfl) ?_
  refine lv_iload_n hx hb dX3_countRightEntries_1 rfl (lv_at hl 1 rfl) ?_
  refine xk_i (va_runV (As := [.int (nI j)]) (rest := []) ⟨hx, hb, hml, hown, hts⟩ (cX3_hasRightSum_m l dC dI ca ad kf vf bf w op ln nx en ok tf nb ef ff fi ek ev bp bq j hj hp hq hpq hq9 _) (cwV 1 hts (xg_V mb_methodLink_RX3_137 mb_instanceMethod_yX3_hasRightSum mb_selects_yX3_hasRightSum mb_initialized_RX3 mb_code_yX3_hasRightSum) rfl rfl rfl ⟨rfl, by decide, by decide, by decide +kernel⟩ ⟨Nat.le_of_ble_eq_true rfl, Nat.le_of_ble_eq_true rfl⟩) (xpreV (va_recv (q0 := 0) hK hP rfl rfl) hK hP hD hS hA hE) rfl rfl hl.1 rfl (lv_room (Nat.le_of_ble_eq_true rfl)) dX3_countRightEntries_2 ⟨Nat.le_of_ble_eq_true rfl, Nat.le_of_ble_eq_true rfl⟩) hD hS hA (fun r u H locs hu hP hD hS => ?_)
  have hP : va_P (dC, dI) vwCl (xw ad ca kf vf bf w op ln nx en ok tf nb ef ff fi ek ev) H := hP
  have hD : va_D A (xw ad ca kf vf bf w op ln nx en ok tf nb ef ff fi ek ev) := hD
  rcases hu with hh | hh
  · obtain ⟨rfl, h4, hh⟩ := hh
    have hb0 : pe_blk tf bp bq = pe_bl tf (bq - 4) (bq - 4) true 0 bp := by unfold pe_blk; rw [if_pos ⟨h4, ps_hasB_iff.mpr hh⟩]
    refine lv_if_eq (tgt := 16) hx hb dX3_countRightEntries_5 rfl (fun hc => absurd hc (by decide)) (fun hc => ?_)
    refine lv_aload_n hx hb dX3_countRightEntries_8 rfl (lv_at hl 0 rfl) ?_
    refine lv_iload_n hx hb dX3_countRightEntries_9 rfl (lv_at hl 1 rfl) ?_
    refine xk_i (va_runV (As := [.int (nI j)]) (rest := []) ⟨hx, hb, hml, hown, hts⟩ (cX3_countEntries_m l dC dI ca ad kf vf bf w op ln nx en ok tf nb ef ff fi ek ev bp bq j hj hp hq hpq hq9 h4 _) (cwV 1 hts (xg_V mb_methodLink_RX3_141 mb_instanceMethod_yX3_countEntries mb_selects_yX3_countEntries mb_initialized_RX3 mb_code_yX3_countEntries) rfl rfl rfl ⟨rfl, by decide, by decide, by decide +kernel⟩ ⟨Nat.le_of_ble_eq_true rfl, Nat.le_of_ble_eq_true rfl⟩) (xpreV (va_recv (q0 := 0) hK hP rfl rfl) hK hP hD hS hA hE) rfl rfl hl.1 rfl (lv_room (Nat.le_of_ble_eq_true rfl)) dX3_countRightEntries_10 ⟨Nat.le_of_ble_eq_true rfl, Nat.le_of_ble_eq_true rfl⟩) hD hS hA (fun r u H locs hu hP hD hS => ?_)
    have hP : va_P (dC, dI) vwCl (xw ad ca kf vf bf w op ln u.1 u.2.1 u.2.2.1 tf nb ef ff u.2.2.2.1 u.2.2.2.2.1 u.2.2.2.2.2) H := hP
    have hD : va_D A (xw ad ca kf vf bf w op ln u.1 u.2.1 u.2.2.1 tf nb ef ff u.2.2.2.1 u.2.2.2.2.1 u.2.2.2.2.2) := hD
    obtain ⟨x1, x2, x3, x4, x5, x6⟩ := u
    dsimp only at hP hD
    rcases hu with hu | hu
    · obtain ⟨lb, hlb, rfl, hlen⟩ := hu
      refine lv_goto (tgt := 17) hx hb dX3_countRightEntries_13 rfl ?_
      refine lv_istore_n hx hb dX3_countRightEntries_17 rfl hl (by decide) rfl (fun ls hl => ?_)
      have hl : lv_has ls 3 [(2, .int (nI lb.length)), (0, .ref (ad 0)), (1, .int (nI j))] := hl
      refine lv_iload_n hx hb dX3_countRightEntries_18 rfl (lv_at hl 0 rfl) ?_
      refine lv_iconst (v := -1) hx hb dX3_countRightEntries_19 (by decide) ?_
      refine lv_icmp_ne (tgt := 33) hx hb dX3_countRightEntries_20 rfl (fun hc => ?_) (fun hc => absurd hc (fun z => absurd (z ▸ nI_pos (n := lb.length) (by omega)) (by decide)))
      refine lv_iload_n hx hb dX3_countRightEntries_33 rfl (lv_at hl 0 rfl) ?_
      refine x_size hS (fun hz => ?_)
      refine vx_ret (W.widen (k := 1) (n := 6) (Nat.zero_le _) (Nat.zero_le _) ?_)
      exact W.iret (v := nI lb.length) hx hb hr (fun t ht hW => ⟨⟨nI lb.length, (x1, x2, x3, x4, x5, x6), rfl, ⟨lb, by rw [hb0]; exact hlb, rfl, hlen⟩, ⟨by rw [ht]; exact hP, va_K.moved hW.alike hK, hD⟩, (congrArg Array.size ht).trans hz⟩, hS.F ht⟩) hS.2.2 dX3_countRightEntries_34
    · obtain ⟨hbn, rfl⟩ := hu
      have hbn : pe_blk tf bp bq = none := by rw [hb0]; exact hbn
      refine lv_goto (tgt := 17) hx hb dX3_countRightEntries_13 rfl ?_
      refine lv_istore_n hx hb dX3_countRightEntries_17 rfl hl (by decide) rfl (fun ls hl => ?_)
      have hl : lv_has ls 3 [(2, .int (-1)), (0, .ref (ad 0)), (1, .int (nI j))] := hl
      refine lv_iload_n hx hb dX3_countRightEntries_18 rfl (lv_at hl 0 rfl) ?_
      refine lv_iconst (v := -1) hx hb dX3_countRightEntries_19 (by decide) ?_
      refine lv_icmp_ne (tgt := 33) hx hb dX3_countRightEntries_20 rfl (fun hc => absurd hc (not_not_intro rfl)) (fun hc => ?_)
      obtain ⟨sa, hstr⟩ := hE.2.2.2.1 _ (List.mem_of_getElem? (i := 7) rfl)
      exact xx_throw (x1, x2, x3, x4, x5, x6) hx hb hnt hown (by decide +kernel) (xg_w hts mb_classLink_RX3_85) (xg_w hts mb_initialized_ArithmeticException) hstr xh_AE_at xh_AE_good xh_AE_on hE (hl.1.trans hml.symm) dX3_countRightEntries_23 dX3_countRightEntries_26 dX3_countRightEntries_27 dX3_countRightEntries_29 dX3_countRightEntries_32 hno ⟨Nat.le_of_ble_eq_true rfl, Nat.le_of_ble_eq_true rfl, Nat.le_of_ble_eq_true rfl, Nat.le_of_ble_eq_true rfl⟩ hlocks (⟨rfl, hbn⟩) hK hP hD hS (Nat.le_refl _) (Nat.le_refl _)
  · obtain ⟨rfl, hh⟩ := hh
    refine lv_if_eq (tgt := 16) hx hb dX3_countRightEntries_5 rfl (fun hc => ?_) (fun hc => absurd hc (not_not_intro rfl))
    have hbn : pe_blk tf bp bq = none := by unfold pe_blk; rw [if_neg (fun y => hh ⟨y.1, ps_hasB_iff.mp y.2⟩)]
    refine lv_iconst (v := -1) hx hb dX3_countRightEntries_16 (by decide) ?_
    refine lv_istore_n hx hb dX3_countRightEntries_17 rfl hl (by decide) rfl (fun ls hl => ?_)
    have hl : lv_has ls 3 [(2, .int (-1)), (0, .ref (ad 0)), (1, .int (nI j))] := hl
    refine lv_iload_n hx hb dX3_countRightEntries_18 rfl (lv_at hl 0 rfl) ?_
    refine lv_iconst (v := -1) hx hb dX3_countRightEntries_19 (by decide) ?_
    refine lv_icmp_ne (tgt := 33) hx hb dX3_countRightEntries_20 rfl (fun hc => absurd hc (not_not_intro rfl)) (fun hc => ?_)
    obtain ⟨sa, hstr⟩ := hE.2.2.2.1 _ (List.mem_of_getElem? (i := 7) rfl)
    exact xx_throw (nx, en, ok, fi, ek, ev) hx hb hnt hown (by decide +kernel) (xg_w hts mb_classLink_RX3_85) (xg_w hts mb_initialized_ArithmeticException) hstr xh_AE_at xh_AE_good xh_AE_on hE (hl.1.trans hml.symm) dX3_countRightEntries_23 dX3_countRightEntries_26 dX3_countRightEntries_27 dX3_countRightEntries_29 dX3_countRightEntries_32 hno ⟨Nat.le_of_ble_eq_true rfl, Nat.le_of_ble_eq_true rfl, Nat.le_of_ble_eq_true rfl, Nat.le_of_ble_eq_true rfl⟩ hlocks (⟨rfl, hbn⟩) hK hP hD hS (Nat.le_refl _) (Nat.le_refl _)
