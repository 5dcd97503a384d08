/-! Table (rows by wip/whole/wtab.py) -/
set_option maxHeartbeats 4000000 in
set_option maxRecDepth 100000 in
theorem cX2_byteAt_m (l : Launch) (dC : Nat → ClassId) (dI : Nat → Nat → Nat) (ca : Nat → ClassId) (ad : Nat → Nat) (kf : Nat → Int32) (vf : Nat → Int64) (bf : Nat → Int32) (w : Int32) (op : Int32) (ln : Int32) (nx : Int32) (en : Int32) (ok : Int32) (tf : Nat → Int32) (nb : Int32) (ef : Nat → Int32) (ff : Nat → Int32) (fi : Int32) (ek : Int32) (ev : Int64) (j : Nat) (hj : j < 4889) : ∀ sz : Nat, Met l yX2_byteAt wsX2_byteAt ({ frames := 0, cells := 0, slots := 0, locals := 0 } : Room) (va_Pc [.ref (ad 4), .int (nI j)] (xP (dC, dI) (xt ca) (xw ad ca kf vf bf w op ln nx en ok tf nb ef ff fi ek ev) sz)) (va_Qi (S := Unit) (fun r _ => r = nI (pb_ub tf j)) (fun u t => xB (dC, dI) (xt ca) (va_A (xw ad ca kf vf bf w op ln nx en ok tf nb ef ff fi ek ev) sz) (xw ad ca kf vf bf w op ln nx en ok tf nb ef ff fi ek ev) t) (va_A (xw ad ca kf vf bf w op ln nx en ok tf nb ef ff fi ek ev) sz)) 0 0 (va_A (xw ad ca kf vf bf w op ln nx en ok tf nb ef ff fi ek ev) sz) := by
  intro sz
  refine Met.ofW (cc := cX2_byteAt) (maxL := 2) (ret := (some .int)) (by decide) rfl ?_
  intro p e s m args below meth c s₁ B hml hv
  obtain ⟨rfl, hsz, hP, hK, hD0, hE⟩ := hv
  have hx := B.exec
  have hb := B.bytes
  have hr := B.returns
  have hts := atoms_spec (ws := wsX2_byteAt) B.pre
  have hown : s.vm.findClass RX2 = some m.cls := findClass_of_methodNamed B.named
  have hlocks := B.notSynchronized
  subst hsz
  have hD := hD0.self (sz := s.heap.size)
  generalize hAe : va_A (xw ad ca kf vf bf w op ln nx en ok tf nb ef ff fi ek ev) s.heap.size = A at hD hE ⊢
  have hA : ∀ q : Nat, s.heap.size ≤ q → A q := fun q h => by rw [← hAe]; exact Or.inr h
  have hS : va_S A s.heap s.heap [] := va_S.rf
  have hl := lv_entry ([.ref (ad 4), .int (nI j)]) (n := 2) (Nat.le_of_ble_eq_true rfl)
  rw [lg_entry_eq]
  generalize (lg_sl ([.ref (ad 4), .int (nI j)]) ++ List.replicate (2 - (lg_sl ([.ref (ad 4), .int (nI j)])).length) Slot.unset).toArray = ls at hl ⊢
  have hl : lv_has ls 2 [(0, .ref (ad 4)), (1, .int (nI j))] := hl
  refine lv_aload_n hx hb dX2_byteAt_0 rfl (lv_at hl 0 rfl) ?_
  refine va_get (D := (dC, dI)) (ci := 2) (v := .ref (ad 5)) (C := RX2) (T := TX2) (N := 5) (ref := "SortedRun$Table") hx hb hts (xg_u mb_uws_X2) hown hK hP 4 rfl rfl 0 (by decide) (xg_w hts mb_fieldLink_RX2_9) (fun _ h9 => h9) rfl dX2_byteAt_1 ?_
  refine lv_iload_n hx hb dX2_byteAt_4 rfl (lv_at hl 1 rfl) ?_
  refine va_bald hx hb hK hP 5 2 rfl rfl (vp_in_nI hj (by decide)) dX2_byteAt_5 ?_
  refine lv_topi (fun z1 ez1 => ?_)
  have ez1 : z1 = tf j := ez1.trans (congrArg tf (nI_clamp (by omega)))
  subst ez1
  refine lv_sipush (v := 255) hx hb dX2_byteAt_6 (by decide) ?_
  refine lv_iand hx hb dX2_byteAt_9 ?_
  refine lv_topi (fun z2 ez2 => ?_)
  have ez2 : z2 = nI (pb_ub tf j) := ez2.trans (pb_and tf j)
  subst ez2
  have hP9 := hP
  have hD9 := hD
  exact W.iret (v := nI (pb_ub tf j)) hx hb hr (fun t ht hW => ⟨⟨nI (pb_ub tf j), (), rfl, rfl, by rw [ht]; exact hP9, va_K.moved hW.alike hK, hD9⟩, hS.F ht⟩) hS.2.2 dX2_byteAt_10

set_option maxHeartbeats 4000000 in
set_option maxRecDepth 100000 in
theorem cX2_append_m (l : Launch) (dC : Nat → ClassId) (dI : Nat → Nat → Nat) (ca : Nat → ClassId) (ad : Nat → Nat) (kf : Nat → Int32) (vf : Nat → Int64) (bf : Nat → Int32) (w : Int32) (op : Int32) (nx : Int32) (en : Int32) (ok : Int32) (tf : Nat → Int32) (nb : Int32) (ef : Nat → Int32) (ff : Nat → Int32) (fi : Int32) (ek : Int32) (ev : Int64) (L : Nat) (v : Int32) (hL : L < 4889) : ∀ sz : Nat, Met l yX2_append wsX2_append ({ frames := 0, cells := 0, slots := 0, locals := 0 } : Room) (va_Pc [.ref (ad 4), .int v] (xP (dC, dI) (xt ca) (xw ad ca kf vf bf w op (nI L) nx en ok tf nb ef ff fi ek ev) sz)) (va_Qv (S := Unit) (fun _ => True) (fun u t => xB (dC, dI) (xt ca) (va_A (xw ad ca kf vf bf w op (nI L) nx en ok tf nb ef ff fi ek ev) sz) (xw ad ca kf vf bf w op (nI (L + 1)) nx en ok (upd tf L v.toInt8.toInt32) nb ef ff fi ek ev) t) (va_A (xw ad ca kf vf bf w op (nI L) nx en ok tf nb ef ff fi ek ev) sz)) 0 0 (va_A (xw ad ca kf vf bf w op (nI L) nx en ok tf nb ef ff fi ek ev) sz) := by
  intro sz
  refine Met.ofW (cc := cX2_append) (maxL := 2) (ret := none) (by decide) rfl ?_
  intro p e s m args below meth c s₁ B hml hv
  obtain ⟨rfl, hsz, hP, hK, hD0, hE⟩ := hv
  have hx := B.exec
  have hb := B.bytes
  have hr := B.returns
  have hts := atoms_spec (ws := wsX2_append) B.pre
  have hown : s.vm.findClass RX2 = some m.cls := findClass_of_methodNamed B.named
  have hlocks := B.notSynchronized
  subst hsz
  have hD := hD0.self (sz := s.heap.size)
  generalize hAe : va_A (xw ad ca kf vf bf w op (nI L) nx en ok tf nb ef ff fi ek ev) s.heap.size = A at hD hE ⊢
  have hA : ∀ q : Nat, s.heap.size ≤ q → A q := fun q h => by rw [← hAe]; exact Or.inr h
  have hS : va_S A s.heap s.heap [] := va_S.rf
  have hl := lv_entry ([.ref (ad 4), .int v]) (n := 2) (Nat.le_of_ble_eq_true rfl)
  rw [lg_entry_eq]
  generalize (lg_sl ([.ref (ad 4), .int v]) ++ List.replicate (2 - (lg_sl ([.ref (ad 4), .int v])).length) Slot.unset).toArray = ls at hl ⊢
  have hl : lv_has ls 2 [(0, .ref (ad 4)), (1, .int v)] := hl
  refine lv_aload_n hx hb dX2_append_0 rfl (lv_at hl 0 rfl) ?_
  refine va_get (D := (dC, dI)) (ci := 2) (v := .ref (ad 5)) (C := RX2) (T := TX2) (N := 5) (ref := "SortedRun$Table") hx hb hts (xg_u mb_uws_X2) hown hK hP 4 rfl rfl 0 (by decide) (xg_w hts mb_fieldLink_RX2_9) (fun _ h9 => h9) rfl dX2_append_1 ?_
  refine lv_aload_n hx hb dX2_append_4 rfl (lv_at hl 0 rfl) ?_
  refine va_get (D := (dC, dI)) (ci := 2) (v := .int (nI L)) (C := RX2) (T := TX2) (N := 5) (ref := "SortedRun$Table") hx hb hts (xg_u mb_uws_X2) hown hK hP 4 rfl rfl 1 (by decide) (xg_w hts mb_fieldLink_RX2_15) (fun _ h9 => h9) rfl dX2_append_5 ?_
  refine lv_iload_n hx hb dX2_append_8 rfl (lv_at hl 1 rfl) ?_
  refine lv_i2b (v := v.toInt8.toInt32) hx hb dX2_append_9 (rfl) ?_
  refine va_bast hx hb hK hP hD hS 5 2 rfl rfl (vp_in_nI hL (by decide)) dX2_append_10 (fun H locs hP hD hS => ?_)
  have e9 : upd tf (nI L).toNatClampNeg (vp_nar .byte v.toInt8.toInt32) = upd tf L v.toInt8.toInt32 := by rw [nI_clamp (by omega), pk_vb]
  rw [e9] at hP hD
  clear e9
  have hP : va_P (dC, dI) vwCl (xw ad ca kf vf bf w op (nI L) nx en ok (upd tf L v.toInt8.toInt32) nb ef ff fi ek ev) H := hP
  have hD : va_D A (xw ad ca kf vf bf w op (nI L) nx en ok (upd tf L v.toInt8.toInt32) nb ef ff fi ek ev) := hD
  refine lv_aload_n hx hb dX2_append_11 rfl (lv_at hl 0 rfl) ?_
  refine lv_dup hx hb dX2_append_12 rfl ?_
  refine va_get (D := (dC, dI)) (ci := 2) (v := .int (nI L)) (C := RX2) (T := TX2) (N := 5) (ref := "SortedRun$Table") hx hb hts (xg_u mb_uws_X2) hown hK hP 4 rfl rfl 1 (by decide) (xg_w hts mb_fieldLink_RX2_15) (fun _ h9 => h9) rfl dX2_append_13 ?_
  refine lv_iconst (v := 1) hx hb dX2_append_16 (by decide) ?_
  refine lv_iadd hx hb dX2_append_17 ?_
  refine lv_topi (fun z1 ez1 => ?_)
  have ez1 : z1 = nI (L + 1) := ez1.trans (nI_1 L)
  subst ez1
  refine va_put (D := (dC, dI)) (ci := 2) (v := .int (nI (L + 1))) (ty := .int) (C := RX2) (T := TX2) (N := 5) (ref := "SortedRun$Table") hx hb hts (xg_u mb_uws_X2) tyX2 tyX2_ok nmX2 hown hK hP hD hS 4 rfl rfl 1 (by decide) (xg_w hts mb_fieldLink_RX2_15) (fun _ h9 => h9) rfl (by decide +kernel) rfl rfl (Nat.le_of_ble_eq_true rfl) dX2_append_18 (fun H locs hP hD hS => ?_)
  have hP : va_P (dC, dI) vwCl (xw ad ca kf vf bf w op (nI (L + 1)) nx en ok (upd tf L v.toInt8.toInt32) nb ef ff fi ek ev) H := hP
  have hD : va_D A (xw ad ca kf vf bf w op (nI (L + 1)) nx en ok (upd tf L v.toInt8.toInt32) nb ef ff fi ek ev) := hD
  have hP9 := hP
  have hD9 := hD
  exact W.vret hx hb hr (fun t ht hW => ⟨⟨(), rfl, trivial, by rw [ht]; exact hP9, va_K.moved hW.alike hK, hD9⟩, hS.F ht⟩) hS.2.2 dX2_append_21

set_option maxHeartbeats 4000000 in
set_option maxRecDepth 100000 in
theorem cX2_startReading_m (l : Launch) (dC : Nat → ClassId) (dI : Nat → Nat → Nat) (ca : Nat → ClassId) (ad : Nat → Nat) (kf : Nat → Int32) (vf : Nat → Int64) (bf : Nat → Int32) (w : Int32) (op : Int32) (ln : Int32) (nx : Int32) (en : Int32) (ok : Int32) (tf : Nat → Int32) (nb : Int32) (ef : Nat → Int32) (ff : Nat → Int32) (fi : Int32) (ek : Int32) (ev : Int64) (x y : Int32) : ∀ sz : Nat, Met l yX2_startReading wsX2_startReading ({ frames := 0, cells := 0, slots := 0, locals := 0 } : Room) (va_Pc [.ref (ad 4), .int x, .int y] (xP (dC, dI) (xt ca) (xw ad ca kf vf bf w op ln nx en ok tf nb ef ff fi ek ev) sz)) (va_Qv (S := Unit) (fun _ => True) (fun u t => xB (dC, dI) (xt ca) (va_A (xw ad ca kf vf bf w op ln nx en ok tf nb ef ff fi ek ev) sz) (xw ad ca kf vf bf w op ln x y 1 tf nb ef ff fi ek ev) t) (va_A (xw ad ca kf vf bf w op ln nx en ok tf nb ef ff fi ek ev) sz)) 0 0 (va_A (xw ad ca kf vf bf w op ln nx en ok tf nb ef ff fi ek ev) sz) := by
  intro sz
  refine Met.ofW (cc := cX2_startReading) (maxL := 3) (ret := none) (by decide) rfl ?_
  intro p e s m args below meth c s₁ B hml hv
  obtain ⟨rfl, hsz, hP, hK, hD0, hE⟩ := hv
  have hx := B.exec
  have hb := B.bytes
  have hr := B.returns
  have hts := atoms_spec (ws := wsX2_startReading) B.pre
  have hown : s.vm.findClass RX2 = some m.cls := findClass_of_methodNamed B.named
  have hlocks := B.notSynchronized
  subst hsz
  have hD := hD0.self (sz := s.heap.size)
  generalize hAe : va_A (xw ad ca kf vf bf w op ln nx en ok tf nb ef ff fi ek ev) s.heap.size = A at hD hE ⊢
  have hA : ∀ q : Nat, s.heap.size ≤ q → A q := fun q h => by rw [← hAe]; exact Or.inr h
  have hS : va_S A s.heap s.heap [] := va_S.rf
  have hl := lv_entry ([.ref (ad 4), .int x, .int y]) (n := 3) (Nat.le_of_ble_eq_true rfl)
  rw [lg_entry_eq]
  generalize (lg_sl ([.ref (ad 4), .int x, .int y]) ++ List.replicate (3 - (lg_sl ([.ref (ad 4), .int x, .int y])).length) Slot.unset).toArray = ls at hl ⊢
  have hl : lv_has ls 3 [(0, .ref (ad 4)), (1, .int x), (2, .int y)] := hl
  refine lv_aload_n hx hb dX2_startReading_0 rfl (lv_at hl 0 rfl) ?_
  refine lv_iload_n hx hb dX2_startReading_1 rfl (lv_at hl 1 rfl) ?_
  refine va_put (D := (dC, dI)) (ci := 2) (v := .int x) (ty := .int) (C := RX2) (T := TX2) (N := 5) (ref := "SortedRun$Table") hx hb hts (xg_u mb_uws_X2) tyX2 tyX2_ok nmX2 hown hK hP hD hS 4 rfl rfl 2 (by decide) (xg_w hts mb_fieldLink_RX2_37) (fun _ h9 => h9) rfl (by decide +kernel) rfl rfl (Nat.le_of_ble_eq_true rfl) dX2_startReading_2 (fun H locs hP hD hS => ?_)
  have hP : va_P (dC, dI) vwCl (xw ad ca kf vf bf w op ln x en ok tf nb ef ff fi ek ev) H := hP
  have hD : va_D A (xw ad ca kf vf bf w op ln x en ok tf nb ef ff fi ek ev) := hD
  refine lv_aload_n hx hb dX2_startReading_5 rfl (lv_at hl 0 rfl) ?_
  refine lv_iload_n hx hb dX2_startReading_6 rfl (lv_at hl 2 rfl) ?_
  refine va_put (D := (dC, dI)) (ci := 2) (v := .int y) (ty := .int) (C := RX2) (T := TX2) (N := 5) (ref := "SortedRun$Table") hx hb hts (xg_u mb_uws_X2) tyX2 tyX2_ok nmX2 hown hK hP hD hS 4 rfl rfl 3 (by decide) (xg_w hts mb_fieldLink_RX2_40) (fun _ h9 => h9) rfl (by decide +kernel) rfl rfl (Nat.le_of_ble_eq_true rfl) dX2_startReading_7 (fun H locs hP hD hS => ?_)
  have hP : va_P (dC, dI) vwCl (xw ad ca kf vf bf w op ln x y ok tf nb ef ff fi ek ev) H := hP
  have hD : va_D A (xw ad ca kf vf bf w op ln x y ok tf nb ef ff fi ek ev) := hD
  refine lv_aload_n hx hb dX2_startReading_10 rfl (lv_at hl 0 rfl) ?_
  refine lv_iconst (v := 1) hx hb dX2_startReading_11 (by decide) ?_
  refine va_put (D := (dC, dI)) (ci := 2) (v := .int 1) (ty := .boolean) (C := RX2) (T := TX2) (N := 5) (ref := "SortedRun$Table") hx hb hts (xg_u mb_uws_X2) tyX2 tyX2_ok nmX2 hown hK hP hD hS 4 rfl rfl 4 (by decide) (xg_w hts mb_fieldLink_RX2_43) (fun _ h9 => h9) rfl (by decide +kernel) rfl rfl (Nat.le_of_ble_eq_true rfl) dX2_startReading_12 (fun H locs hP hD hS => ?_)
  have hP : va_P (dC, dI) vwCl (xw ad ca kf vf bf w op ln x y 1 tf nb ef ff fi ek ev) H := hP
  have hD : va_D A (xw ad ca kf vf bf w op ln x y 1 tf nb ef ff fi ek ev) := hD
  have hP9 := hP
  have hD9 := hD
  exact W.vret hx hb hr (fun t ht hW => ⟨⟨(), rfl, trivial, by rw [ht]; exact hP9, va_K.moved hW.alike hK, hD9⟩, hS.F ht⟩) hS.2.2 dX2_startReading_15

set_option maxHeartbeats 4000000 in
set_option maxRecDepth 100000 in
theorem cX2_isReadToEnd_m (l : Launch) (dC : Nat → ClassId) (dI : Nat → Nat → Nat) (ca : Nat → ClassId) (ad : Nat → Nat) (kf : Nat → Int32) (vf : Nat → Int64) (bf : Nat → Int32) (w : Int32) (op : Int32) (ln : Int32) (nx : Int32) (en : Int32) (ok : Int32) (tf : Nat → Int32) (nb : Int32) (ef : Nat → Int32) (ff : Nat → Int32) (fi : Int32) (ek : Int32) (ev : Int64) : ∀ sz : Nat, Met l yX2_isReadToEnd wsX2_isReadToEnd ({ frames := 0, cells := 0, slots := 0, locals := 0 } : Room) (va_Pc [.ref (ad 4)] (xP (dC, dI) (xt ca) (xw ad ca kf vf bf w op ln nx en ok tf nb ef ff fi ek ev) sz)) (va_Qi (S := Unit) (fun r _ => (r = 1 ∧ en ≤ nx) ∨ (r = 0 ∧ ¬ en ≤ nx)) (fun u t => xB (dC, dI) (xt ca) (va_A (xw ad ca kf vf bf w op ln nx en ok tf nb ef ff fi ek ev) sz) (xw ad ca kf vf bf w op ln nx en ok tf nb ef ff fi ek ev) t) (va_A (xw ad ca kf vf bf w op ln nx en ok tf nb ef ff fi ek ev) sz)) 0 0 (va_A (xw ad ca kf vf bf w op ln nx en ok tf nb ef ff fi ek ev) sz) := by
  intro sz
  refine Met.ofW (cc := cX2_isReadToEnd) (maxL := 1) (ret := (some .boolean)) (by decide) rfl ?_
  intro p e s m args below meth c s₁ B hml hv
  obtain ⟨rfl, hsz, hP, hK, hD0, hE⟩ := hv
  have hx := B.exec
  have hb := B.bytes
  have hr := B.returns
  have hts := atoms_spec (ws := wsX2_isReadToEnd) B.pre
  have hown : s.vm.findClass RX2 = some m.cls := findClass_of_methodNamed B.named
  have hlocks := B.notSynchronized
  subst hsz
  have hD := hD0.self (sz := s.heap.size)
  generalize hAe : va_A (xw ad ca kf vf bf w op ln nx en ok tf nb ef ff fi ek ev) s.heap.size = A at hD hE ⊢
  have hA : ∀ q : Nat, s.heap.size ≤ q → A q := fun q h => by rw [← hAe]; exact Or.inr h
  have hS : va_S A s.heap s.heap [] := va_S.rf
  have hl := lv_entry ([.ref (ad 4)]) (n := 1) (Nat.le_of_ble_eq_true rfl)
  rw [lg_entry_eq]
  generalize (lg_sl ([.ref (ad 4)]) ++ List.replicate (1 - (lg_sl ([.ref (ad 4)])).length) Slot.unset).toArray = ls at hl ⊢
  have hl : lv_has ls 1 [(0, .ref (ad 4))] := hl
  refine lv_aload_n hx hb dX2_isReadToEnd_0 rfl (lv_at hl 0 rfl) ?_
  refine va_get (D := (dC, dI)) (ci := 2) (v := .int nx) (C := RX2) (T := TX2) (N := 5) (ref := "SortedRun$Table") hx hb hts (xg_u mb_uws_X2) hown hK hP 4 rfl rfl 2 (by decide) (xg_w hts mb_fieldLink_RX2_37) (fun _ h9 => h9) rfl dX2_isReadToEnd_1 ?_
  refine lv_aload_n hx hb dX2_isReadToEnd_4 rfl (lv_at hl 0 rfl) ?_
  refine va_get (D := (dC, dI)) (ci := 2) (v := .int en) (C := RX2) (T := TX2) (N := 5) (ref := "SortedRun$Table") hx hb hts (xg_u mb_uws_X2) hown hK hP 4 rfl rfl 3 (by decide) (xg_w hts mb_fieldLink_RX2_40) (fun _ h9 => h9) rfl dX2_isReadToEnd_5 ?_
  refine lv_icmp_lt (tgt := 15) hx hb dX2_isReadToEnd_8 rfl (fun hc => ?_) (fun hc => ?_)
  · refine lv_iconst (v := 0) hx hb dX2_isReadToEnd_15 (by decide) ?_
    have hP9 := hP
    have hD9 := hD
    exact W.zret (v := 0) hx hb hr (by rfl) (fun t ht hW => ⟨⟨0, (), rfl, Or.inr ⟨rfl, Int32.not_le.mpr hc⟩, by rw [ht]; exact hP9, va_K.moved hW.alike hK, hD9⟩, hS.F ht⟩) hS.2.2 dX2_isReadToEnd_16
  · refine lv_iconst (v := 1) hx hb dX2_isReadToEnd_11 (by decide) ?_
    refine lv_goto (tgt := 16) hx hb dX2_isReadToEnd_12 rfl ?_
    have hP9 := hP
    have hD9 := hD
    exact W.zret (v := 1) hx hb hr (by rfl) (fun t ht hW => ⟨⟨1, (), rfl, Or.inl ⟨rfl, Int32.not_lt.mp hc⟩, by rw [ht]; exact hP9, va_K.moved hW.alike hK, hD9⟩, hS.F ht⟩) hS.2.2 dX2_isReadToEnd_16
