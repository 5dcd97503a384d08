/-! Table (rows by wip/whole/wtab.py) -/
set_option maxHeartbeats 4000000 in
set_option maxRecDepth 100000 in
theorem cX2_byteAt_m (l : Launch) (dC : Nat → ClassId) (dI : Nat → Nat → Nat) (ca : Nat → ClassId) (ad : Nat → Nat) (kf : Nat → Int32) (vf : Nat → Int64) (bf : Nat → Int32) (w : Int32) (op : Int32) (ln : Int32) (nx : Int32) (en : Int32) (ok : Int32) (tf : Nat → Int32) (nb : Int32) (ef : Nat → Int32) (ff : Nat → Int32) (fi : Int32) (ek : Int32) (ev : Int64) (j : Nat) (hj : j < 4889) : ∀ sz : Nat, Met l yX2_byteAt wsX2_byteAt ({ frames := 0, cells := 0, slots := 0, locals := 0 } : Room) (va_Pc [.ref (ad 4), .int (nI j)] (xP (dC, dI) (xt ca) (xw ad ca kf vf bf w op ln nx en ok tf nb ef ff fi ek ev) sz)) (va_Qi (S := Unit) (fun r _ => r = nI (pb_ub tf j)) (fun u t => xB (dC, dI) (xt ca) (va_A (xw ad ca kf vf bf w op ln nx en ok tf nb ef ff fi ek ev) sz) (xw ad ca kf vf bf w op ln nx en ok tf nb ef ff fi ek ev) t) (va_A (xw ad ca kf vf bf w op ln nx en ok tf nb ef ff fi ek ev) sz)) 0 0 (va_A (xw ad ca kf vf bf w op ln nx en ok tf nb ef ff fi ek ev) sz) := by
  intro sz
  refine Met.ofW (cc := cX2_byteAt) (maxL := 2) (ret := (some .int)) (by decide) rfl ?_
  intro p e s m args below meth c s₁ B hml hv
  obtain ⟨rfl, hsz, hP, hK, hD0, hE⟩ := hv
  have hx := B.exec
  have hb := B.bytes
  have hr := B.returns
  have hts := atoms_spec (ws := wsX2_byteAt) B.pre
  have hown : s.vm.findClass RX2 = some m.cls := findClass_of_methodNamed B.named
  have hlocks := B.notSynchronized
  subst hsz
  have hD := hD0.self (sz := s.heap.size)
  generalize hAe : va_A (xw ad ca kf vf bf w op ln nx en ok tf nb ef ff fi ek ev) s.heap.size = A at hD hE ⊢
  have hA : ∀ q : Nat, s.heap.size ≤ q → A q := fun q h => by rw [← hAe]; exact Or.inr h
  have hS : va_S A s.heap s.heap [] := va_S.rf
  have hl := lv_entry ([.ref (ad 4), .int (nI j)]) (n := 2) (Nat.le_of_ble_eq_true rfl)
  rw [lg_entry_eq]
  generalize (lg_sl ([.ref (ad 4), .int (nI j)]) ++ List.replicate (2 - (lg_sl ([.ref (ad 4), .int (nI j)])).length) Slot.unset).toArray = ls at hl ⊢
  have hl : lv_has ls 2 [(0, .ref (ad 4)), (1, .int (nI j))] := hl
  refine lv_aload_n hx hb dX2_byteAt_0 rfl (lv_at hl 0 rfl) ?_
  refine va_get (D := (dC, dI)) (ci := 2) (v := .ref (ad 5)) (C := RX2) (T := TX2) (N := 5) (ref := "SortedRun$Table") hx hb hts (xg_u mb_uws_X2) hown hK hP 4 rfl rfl 0 (by decide) (xg_w hts mb_fieldLink_RX2_9) (fun _ h9 => h9) rfl dX2_byteAt_1 ?_
  refine lv_iload_n hx hb dX2_byteAt_4 rfl (lv_at hl 1 rfl) ?_
  refine va_bald hx hb hK hP 5 2 rfl rfl (vp_in_nI hj (by decide)) dX2_byteAt_5 ?_
  refine lv_topi (fun z1 ez1 => ?_)
  have ez1 : z1 = tf j := ez1.trans (congrArg tf (nI_clamp (by omega)))
  subst ez1
  refine lv_sipush (v := 255) hx hb dX2_byteAt_6 (by decide) ?_
  refine lv_iand hx hb dX2_byteAt_9 ?_
  refine lv_topi (fun z2 ez2 => ?_)
  have ez2 : z2 = nI (pb_ub tf j) := ez2.trans (pb_and tf j)
  subst ez2
  have hP9 := hP
  have hD9 := hD
  exact W.iret (v := nI (pb_ub tf j)) hx hb hr (fun t ht hW => ⟨⟨nI (pb_ub tf j), (), rfl, rfl, by rw [ht]; exact hP9, va_K.moved hW.alike hK, hD9⟩, hS.F ht⟩) hS.2.2 dX2_byteAt_10

set_option maxHeartbeats 4000000 in
set_option maxRecDepth 100000 in
theorem cX2_append_m (l : Launch) (dC : Nat → ClassId) (dI : Nat → Nat → Nat) (ca : Nat → ClassId) (ad : Nat → Nat) (kf : Nat → Int32) (vf : Nat → Int64) (bf : Nat → Int32) (w : Int32) (op : Int32) (nx : Int32) (en : Int32) (ok : Int32) (tf : Nat → Int32) (nb : Int32) (ef : Nat → Int32) (ff : Nat → Int32) (fi : Int32) (ek : Int32) (ev : Int64) (L : Nat) (v : Int32) (hL : L < 4889) : ∀ sz : Nat, Met l yX2_append wsX2_append ({ frames := 0, cells := 0, slots := 0, locals := 0 } : Room) (va_Pc [.ref (ad 4), .int v] (xP (dC, dI) (xt ca) (xw ad ca kf vf bf w op (nI L) nx en ok tf nb ef ff fi ek ev) sz)) (va_Qv (S := Unit) (fun _ => True) (fun u t => xB (dC, dI) (xt ca) (va_A (xw ad ca kf vf bf w op (nI L) nx en ok tf nb ef ff fi ek ev) sz) (xw ad ca kf vf bf w op (nI (L + 1)) nx en ok (upd tf L v.toInt8.toInt32) nb ef ff fi ek ev) t) (va_A (xw ad ca kf vf bf w op (nI L) nx en ok tf nb ef ff fi ek ev) sz)) 0 0 (va_A (xw ad ca kf vf bf w op (nI L) nx en ok tf nb ef ff fi ek ev) sz) := by
  intro sz
  refine Met.ofW (cc := cX2_append) (maxL := 2) (ret := none) (by decide) rfl ?_
  intro p e s m args below meth c s₁ B hml hv
  obtain ⟨rfl, hsz, hP, hK, hD0, hE⟩ := hv
  have hx := B.exec
  have hb := B.bytes
  have hr := B.returns
  have hts := atoms_spec (ws := wsX2_append) B.pre
  have hown : s.vm.findClass RX2 = some m.cls := findClass_of_methodNamed B.named
  have hlocks := B.notSynchronized
  subst hsz
  have hD := hD0.self (sz := s.heap.size)
  generalize hAe : va_A (xw ad ca kf vf bf w op (nI L) nx en ok tf nb ef ff fi ek ev) s.heap.size = A at hD hE ⊢
  have hA : ∀ q : Nat, s.heap.size ≤ q → A q := fun q h => by rw [← hAe]; exact Or.inr h
  have hS : va_S A s.heap s.heap [] := va_S.rf
  have hl := lv_entry ([.ref (ad 4), .int v]) (n := 2) (Nat.le_of_ble_eq_true rfl)
  rw [lg_entry_eq]
  generalize (lg_sl ([.ref (ad 4), .int v]) ++ List.replicate (2 - (lg_sl ([.ref (ad 4), .int v])).length) Slot.unset).toArray = ls at hl ⊢
  have hl : lv_has ls 2 [(0, .ref (ad 4)), (1, .int v)] := hl
  refine lv_aload_n hx hb dX2_append_0 rfl (lv_at hl 0 rfl) ?_
  refine va_get (D := (dC, dI)) (ci := 2) (v := .ref (ad 5)) (C := RX2) (T := TX2) (N := 5) (ref := "SortedRun$Table") hx hb hts (xg_u mb_uws_X2) hown hK hP 4 rfl rfl 0 (by decide) (xg_w hts mb_fieldLink_RX2_9) (fun _ h9 => h9) rfl dX2_append_1 ?_
  refine lv_aload_n hx hb dX2_append_4 rfl (lv_at hl 0 rfl) ?_
  refine va_get (D := (dC, dI)) (ci := 2) (v := .int (nI L)) (C := RX2) (T := TX2) (N := 5) (ref := "SortedRun$Table") hx hb hts (xg_u mb_uws_X2) hown hK hP 4 rfl rfl 1 (by decide) (xg_w hts mb_fieldLink_RX2_15) (fun _ h9 => h9) rfl dX2_append_5 ?_
  refine lv_iload_n hx hb dX2_append_8 rfl (lv_at hl 1 rfl) ?_
  refine lv_i2b (v := v.toInt8.toInt32) hx hb dX2_append_9 (rfl) ?_
  refine va_bast hx hb hK hP hD hS 5 2 rfl rfl (vp_in_nI hL (by decide)) dX2_append_10 (fun H locs hP hD hS => ?_)
  have e9 : upd tf (nI L).toNatClampNeg (vp_nar .byte v.toInt8.toInt32) = upd tf L v.toInt8.toInt32 := by rw [nI_clamp (by omega), pk_vb]
  rw [e9] at hP hD
  clear e9
  have hP : va_P (dC, dI) vwCl (xw ad ca kf vf bf w op (nI L) nx en ok (upd tf L v.toInt8.toInt32) nb ef ff fi ek ev) H := hP
  have hD : va_D A (xw ad ca kf vf bf w op (nI L) nx en ok (upd tf L v.toInt8.toInt32) nb ef ff fi ek ev) := hD
  refine lv_aload_n hx hb dX2_append_11 rfl (lv_at hl 0 rfl) ?_
  refine lv_dup hx hb dX2_append_12 rfl ?_
  refine va_get (D := (dC, dI)) (ci := 2) (v := .int (nI L)) (C := RX2) (T := TX2) (N := 5) (ref := "SortedRun$Table") hx hb hts (xg_u mb_uws_X2) hown hK hP 4 rfl rfl 1 (by decide) (xg_w hts mb_fieldLink_RX2_15) (fun _ h9 => h9) rfl dX2_append_13 ?_
  refine lv_iconst (v := 1) hx hb dX2_append_16 (by decide) ?_
  refine lv_iadd hx hb dX2_append_17 ?_
  refine lv_topi (fun z1 ez1 => ?_)
  have ez1 : z1 = nI (L + 1) := ez1.trans (nI_1 L)
  subst ez1
  refine va_put (D := (dC, dI)) (ci := 2) (v := .int (nI (L + 1))) (ty := .int) (C := RX2) (T := TX2) (N := 5) (ref := "SortedRun$Table") hx hb hts (xg_u mb_uws_X2) tyX2 tyX2_ok nmX2 hown hK hP hD hS 4 rfl rfl 1 (by decide) (xg_w hts mb_fieldLink_RX2_15) (fun _ h9 => h9) rfl (by decide +kernel) rfl rfl (Nat.le_of_ble_eq_true rfl) dX2_append_18 (fun H locs hP hD hS => ?_)
  have hP : va_P (dC, dI) vwCl (xw ad ca kf vf bf w op (nI (L + 1)) nx en ok (upd tf L v.toInt8.toInt32) nb ef ff fi ek ev) H := hP
  have hD : va_D A (xw ad ca kf vf bf w op (nI (L + 1)) nx en ok (upd tf L v.toInt8.toInt32) nb ef ff fi ek ev) := hD
  have hP9 := hP
  have hD9 := hD
  exact W.vret hx hb hr (fun t ht hW => ⟨⟨(), rfl, trivial, by rw [ht]; exact hP9, va_K.moved hW.alike hK, hD9⟩, hS.F ht⟩) hS.2.2 dX2_append_21

set_option maxHeartbeats 4000000 in
set_option maxRecDepth 100000 in
theorem cX2_startReading_m (l : Launch) (dC : Nat → ClassId) (dI : Nat → Nat → Nat) (ca : Nat → ClassId) (ad : Nat → Nat) (kf : Nat → Int32) (vf : Nat → Int64) (bf : Nat → Int32) (w : Int32) (op : Int32) (ln : Int32) (nx : Int32) (en : Int32) (ok : Int32) (tf : Nat → Int32) (nb : Int32) (ef : Nat → Int32) (ff : Nat → Int32) (fi : Int32) (ek : Int32) (ev : Int64) (x y : Int32) : ∀ sz : Nat, Met l yX2_startReading wsX2_startReading ({ frames := 0, cells := 0, slots := 0, locals := 0 } : Room) (va_Pc [.ref (ad 4), .int x, .int y] (xP (dC, dI) (xt ca) (xw ad ca kf vf bf w op ln nx en ok tf nb ef ff fi ek ev) sz)) (va_Qv (S := Unit) (fun _ => True) (fun u t => xB (dC, dI) (xt ca) (va_A (xw ad ca kf vf bf w op ln nx en ok tf nb ef ff fi ek ev) sz) (xw ad ca kf vf bf w op ln x y 1 tf nb ef ff fi ek ev) t) (va_A (xw ad ca kf vf bf w op ln nx en ok tf nb ef ff fi ek ev) sz)) 0 0 (va_A (xw ad ca kf vf bf w op ln nx en ok tf nb ef ff fi ek ev) sz) := by
  intro sz
  refine Met.ofW (cc := cX2_startReading) (maxL := 3) (ret := none) (by decide) rfl ?_
  intro p e s m args below meth c s₁ B hml hv
  obtain ⟨rfl, hsz, hP, hK, hD0, hE⟩ := hv
  have hx := B.exec
  have hb := B.bytes
  have hr := B.returns
  have hts := atoms_spec (ws := wsX2_startReading) B.pre
  have hown : s.vm.findClass RX2 = some m.cls := findClass_of_methodNamed B.named
  have hlocks := B.notSynchronized
  subst hsz
  have hD := hD0.self (sz := s.heap.size)
  generalize hAe : va_A (xw ad ca kf vf bf w op ln nx en ok tf nb ef ff fi ek ev) s.heap.size = A at hD hE ⊢
  have hA : ∀ q : Nat, s.heap.size ≤ q → A q := fun q h => by rw [← hAe]; exact Or.inr h
  have hS : va_S A s.heap s.heap [] := va_S.rf
  have hl := lv_entry ([.ref (ad 4), .int x, .int y]) (n := 3) (Nat.le_of_ble_eq_true rfl)
  rw [lg_entry_eq]
  generalize (lg_sl ([.ref (ad 4), .int x, .int y]) ++ List.replicate (3 - (lg_sl ([.ref (ad 4), .int x, .int y])).length) Slot.unset).toArray = ls at hl ⊢
  have hl : lv_has ls 3 [(0, .ref (ad 4)), (1, .int x), (2, .int y)] := hl
  refine lv_aload_n hx hb dX2_startReading_0 rfl (lv_at hl 0 rfl) ?_
  refine lv_iload_n hx hb dX2_startReading_1 rfl (lv_at hl 1 rfl) ?_
  refine va_put (D := (dC, dI)) (ci := 2) (v := .int x) (ty := .int) (C := RX2) (T := TX2) (N := 5) (ref := "SortedRun$Table") hx hb hts (xg_u mb_uws_X2) tyX2 tyX2_ok nmX2 hown hK hP hD hS 4 rfl rfl 2 (by decide) (xg_w hts mb_fieldLink_RX2_37) (fun _ h9 => h9) rfl (by decide +kernel) rfl rfl (Nat.le_of_ble_eq_true rfl) dX2_startReading_2 (fun H locs hP hD hS => ?_)
  have hP : va_P (dC, dI) vwCl (xw ad ca kf vf bf w op ln x en ok tf nb ef ff fi ek ev) H := hP
  have hD : va_D A (xw ad ca kf vf bf w op ln x en ok tf nb ef ff fi ek ev) := hD
  refine lv_aload_n hx hb dX2_startReading_5 rfl (lv_at hl 0 rfl) ?_
  refine lv_iload_n hx hb dX2_startReading_6 rfl (lv_at hl 2 rfl) ?_
  refine va_put (D := (dC, dI)) (ci := 2) (v := .int y) (ty := .int) (C := RX2) (T := TX2) (N := 5) (ref := "SortedRun$Table") hx hb hts (xg_u mb_uws_X2) tyX2 tyX2_ok nmX2 hown hK hP hD hS 4 rfl rfl 3 (by decide) (xg_w hts mb_fieldLink_RX2_40) (fun _ h9 => h9) rfl (by decide +kernel) rfl rfl (Nat.le_of_ble_eq_true rfl) dX2_startReading_7 (fun H locs hP hD hS => ?_)
  have hP : va_P (dC, dI) vwCl (xw ad ca kf vf bf w op ln x y ok tf nb ef ff fi ek ev) H := hP
  have hD : va_D A (xw ad ca kf vf bf w op ln x y ok tf nb ef ff fi ek ev) := hD
  refine lv_aload_n hx hb dX2_startReading_10 rfl (lv_at hl 0 rfl) ?_
  refine lv_iconst (v := 1) hx hb dX2_startReading_11 (by decide) ?_
  refine va_put (D := (dC, dI)) (ci := 2) (v := .int 1) (ty := .boolean) (C := RX2) (T := TX2) (N := 5) (ref := "SortedRun$Table") hx hb hts (xg_u mb_uws_X2) tyX2 tyX2_ok nmX2 hown hK hP hD hS 4 rfl rfl 4 (by decide) (xg_w hts mb_fieldLink_RX2_43) (fun _ h9 => h9) rfl (by decide +kernel) rfl rfl (Nat.le_of_ble_eq_true rfl) dX2_startReading_12 (fun H locs hP hD hS => ?_)
  have hP : va_P (dC, dI) vwCl (xw ad ca kf vf bf w op ln x y 1 tf nb ef ff fi ek ev) H := hP
  have hD : va_D A (xw ad ca kf vf bf w op ln x y 1 tf nb ef ff fi ek ev) := hD
  have hP9 := hP
  have hD9 := hD
  exact W.vret hx hb hr (fun t ht hW => ⟨⟨(), rfl, trivial, by rw [ht]; exact hP9, va_K.moved hW.alike hK, hD9⟩, hS.F ht⟩) hS.2.2 dX2_startReading_15

set_option maxHeartbeats 4000000 in
set_option maxRecDepth 100000 in
theorem cX2_isReadToEnd_m (l : Launch) (dC : Nat → ClassId) (dI : Nat → Nat → Nat) (ca : Nat → ClassId) (ad : Nat → Nat) (kf : Nat → Int32) (vf : Nat → Int64) (bf : Nat → Int32) (w : Int32) (op : Int32) (ln : Int32) (nx : Int32) (en : Int32) (ok : Int32) (tf : Nat → Int32) (nb : Int32) (ef : Nat → Int32) (ff : Nat → Int32) (fi : Int32) (ek : Int32) (ev : Int64) : ∀ sz : Nat, Met l yX2_isReadToEnd wsX2_isReadToEnd ({ frames := 0, cells := 0, slots := 0, locals := 0 } : Room) (va_Pc [.ref (ad 4)] (xP (dC, dI) (xt ca) (xw ad ca kf vf bf w op ln nx en ok tf nb ef ff fi ek ev) sz)) (va_Qi (S := Unit) (fun r _ => (r = 1 ∧ en ≤ nx) ∨ (r = 0 ∧ ¬ en ≤ nx)) (fun u t => xB (dC, dI) (xt ca) (va_A (xw ad ca kf vf bf w op ln nx en ok tf nb ef ff fi ek ev) sz) (xw ad ca kf vf bf w op ln nx en ok tf nb ef ff fi ek ev) t) (va_A (xw ad ca kf vf bf w op ln nx en ok tf nb ef ff fi ek ev) sz)) 0 0 (va_A (xw ad ca kf vf bf w op ln nx en ok tf nb ef ff fi ek ev) sz) := by
  intro sz
  refine Met.ofW (cc := cX2_isReadToEnd) (maxL := 1) (ret := (some .boolean)) (by decide) rfl ?_
  intro p e s m args below meth c s₁ B hml hv
  obtain ⟨rfl, hsz, hP, hK, hD0, hE⟩ := hv
  have hx := B.exec
  have hb := B.bytes
  have hr := B.returns
  have hts := atoms_spec (ws := wsX2_isReadToEnd) B.pre
  have hown : s.vm.findClass RX2 = some m.cls := findClass_of_methodNamed B.named
  have hlocks := B.notSynchronized
  subst hsz
  have hD := hD0.self (sz := s.heap.size)
  generalize hAe : va_A (xw ad ca kf vf bf w op ln nx en ok tf nb ef ff fi ek ev) s.heap.size = A at hD hE ⊢
  have hA : ∀ q : Nat, s.heap.size ≤ q → A q := fun q h => by rw [← hAe]; exact Or.inr h
  have hS : va_S A s.heap s.heap [] := va_S.rf
  have hl := lv_entry ([.ref (ad 4)]) (n := 1) (Nat.le_of_ble_eq_true rfl)
  rw [lg_entry_eq]
  generalize (lg_sl ([.ref (ad 4)]) ++ List.replicate (1 - (lg_sl ([.ref (ad 4)])).length) Slot.unset).toArray = ls at hl ⊢
  have hl : lv_has ls 1 [(0, .ref (ad 4))] := hl
  refine lv_aload_n hx hb dX2_isReadToEnd_0 rfl (lv_at hl 0 rfl) ?_
  refine va_get (D := (dC, dI)) (ci := 2) (v := .int nx) (C := RX2) (T := TX2) (N := 5) (ref := "SortedRun$Table") hx hb hts (xg_u mb_uws_X2) hown hK hP 4 rfl rfl 2 (by decide) (xg_w hts mb_fieldLink_RX2_37) (fun _ h9 => h9) rfl dX2_isReadToEnd_1 ?_
  refine lv_aload_n hx hb dX2_isReadToEnd_4 rfl (lv_at hl 0 rfl) ?_
  refine va_get (D := (dC, dI)) (ci := 2) (v := .int en) (C := RX2) (T := TX2) (N := 5) (ref := "SortedRun$Table") hx hb hts (xg_u mb_uws_X2) hown hK hP 4 rfl rfl 3 (by decide) (xg_w hts mb_fieldLink_RX2_40) (fun _ h9 => h9) rfl dX2_isReadToEnd_5 ?_
  refine lv_icmp_lt (tgt := 15) hx hb dX2_isReadToEnd_8 rfl (fun hc => ?_) (fun hc => ?_)
  · refine lv_iconst (v := 0) hx hb dX2_isReadToEnd_15 (by decide) ?_
    have hP9 := hP
    have hD9 := hD
    exact W.zret (v := 0) hx hb hr (by rfl) (fun t ht hW => ⟨⟨0, (), rfl, Or.inr ⟨rfl, Int32.not_le.mpr hc⟩, by rw [ht]; exact hP9, va_K.moved hW.alike hK, hD9⟩, hS.F ht⟩) hS.2.2 dX2_isReadToEnd_16
  · refine lv_iconst (v := 1) hx hb dX2_isReadToEnd_11 (by decide) ?_
    refine lv_goto (tgt := 16) hx hb dX2_isReadToEnd_12 rfl ?_
    have hP9 := hP
    have hD9 := hD
    exact W.zret (v := 1) hx hb hr (by rfl) (fun t ht hW => ⟨⟨1, (), rfl, Or.inl ⟨rfl, Int32.not_lt.mp hc⟩, by rw [ht]; exact hP9, va_K.moved hW.alike hK, hD9⟩, hS.F ht⟩) hS.2.2 dX2_isReadToEnd_16

set_option maxHeartbeats 4000000 in
set_option maxRecDepth 100000 in
theorem lpX2_appendNumber_lay {p : Program} {l : Launch} {e : Env} {s : State} {m : MethodId} {args : Array Value} {below : List Frame} {meth : Method} {c : Code} {Q : State → Prop} {A : Nat → Prop} {dC : Nat → ClassId} {dI : Nat → Nat → Nat} {ca : Nat → ClassId} {ad : Nat → Nat} (hx : p.tables.exec = Jvm.exec) (hb : c.code = cX2_appendNumber) (hml : c.maxLocals = 6) (hown : s.vm.findClass RX2 = some m.cls) (hts : ∀ w ∈ wsX2_appendNumber, w.before args s = true) (hK : va_K (dC, dI) vwCl (xt ca) s) (hA : ∀ q : Nat, s.heap.size ≤ q → A q) (hE : xn_E A s) {kf : Nat → Int32} {vf : Nat → Int64} {bf : Nat → Int32} {w : Int32} {op : Int32} {nx : Int32} {en : Int32} {ok : Int32} {nb : Int32} {ef : Nat → Int32} {ff : Nat → Int32} {fi : Int32} {ek : Int32} {ev : Int64} {x : Int64} : ∀ (k : Nat) (L n : Nat) (tf : Nat → Int32) (H : Heap) (locs : List Loc) (ls : Array Slot), k ≤ 9 → n < 2 ^ 64 → L + pl_n k n ≤ 4889 → lv_has ls 6 [(5, .int (nI (10 - k))), (3, .long (lN n)), (0, .ref (ad 4)), (1, .long x)] → va_P (dC, dI) vwCl (xw ad ca kf vf bf w op (nI L) nx en ok tf nb ef ff fi ek ev) H → va_D A (xw ad ca kf vf bf w op (nI L) nx en ok tf nb ef ff fi ek ev) → va_S A s.heap H locs → (∀ (H : Heap) (locs : List Loc) (ls : Array Slot), va_P (dC, dI) vwCl (xw ad ca kf vf bf w op (nI (L + pl_n k n)) nx en ok (pl_f tf k L n) nb ef ff fi ek ev) H → va_D A (xw ad ca kf vf bf w op (nI (L + pl_n k n)) nx en ok (pl_f tf k L n) nb ef ff fi ek ev) → va_S A s.heap H locs → W p l e ({ frames := 1, cells := 0, slots := 0, locals := 21 } : Room) s m args below meth c H locs 0 0 Q (F0 m 52 ls [])) → W p l e ({ frames := 1, cells := 0, slots := 0, locals := 21 } : Room) s m args below meth c H locs 0 0 Q (F0 m 5 ls []) := by
  intro k
  induction k with
  | zero =>
    intro L n tf H locs ls hk hn hL hl hP hD hS kk
    have hl : lv_has ls 6 [(5, .int (nI (10 - 0))), (3, .long (lN n)), (0, .ref (ad 4)), (1, .long x)] := hl
    have hL1 : L + 1 ≤ 4889 := hL
    refine lv_iload hx hb dX2_appendNumber_5 (lv_at hl 0 rfl) ?_
    refine lv_bipush (v := nI 10) hx hb dX2_appendNumber_7 (by decide) ?_
    refine lv_icmp_ge (tgt := 46) hx hb dX2_appendNumber_9 rfl (fun hc => ?_) (fun hc => absurd hc (not_not_intro (by decide)))
    refine lv_aload_n hx hb dX2_appendNumber_46 rfl (lv_at hl 2 rfl) ?_
    refine lv_lload_n hx hb dX2_appendNumber_47 rfl (lv_at hl 1 rfl) ?_
    refine lv_l2i (v := nI n) hx hb dX2_appendNumber_48 (lN_i n) ?_
    refine xk_v (va_runV (As := [.int (nI n)]) (rest := []) ⟨hx, hb, hml, hown, hts⟩ (cX2_append_m l dC dI ca ad kf vf bf w op nx en ok tf nb ef ff fi ek ev L (nI n) (by omega) _) (cwV 1 hts (xg_V mb_methodLink_RX2_21 mb_instanceMethod_yX2_append mb_selects_yX2_append mb_initialized_RX2 mb_code_yX2_append) rfl rfl rfl ⟨rfl, by decide, by decide, by decide +kernel⟩ ⟨Nat.le_of_ble_eq_true rfl, Nat.le_of_ble_eq_true rfl⟩) (xpreV (va_recv (q0 := 4) hK hP rfl rfl) hK hP hD hS hA hE) rfl rfl hl.1 rfl (lv_room (Nat.le_of_ble_eq_true rfl)) dX2_appendNumber_49 ⟨Nat.le_of_ble_eq_true rfl, Nat.le_of_ble_eq_true rfl⟩) hD hS hA (fun u H locs hu hP hD hS => ?_)
    have hP : va_P (dC, dI) vwCl (xw ad ca kf vf bf w op (nI (L + 1)) nx en ok (upd tf L (sb_b n)) nb ef ff fi ek ev) H := hP
    have hD : va_D A (xw ad ca kf vf bf w op (nI (L + 1)) nx en ok (upd tf L (sb_b n)) nb ef ff fi ek ev) := hD
    have e1 : pl_n 0 n = 1 := rfl
    have e2 : pl_f tf 0 L n = upd tf L (sb_b n) := rfl
    rw [e1, e2] at kk
    exact kk H locs ls hP hD hS
  | succ k ih =>
    intro L n tf H locs ls hk hn hL hl hP hD hS kk
    have hl : lv_has ls 6 [(5, .int (nI (10 - (k + 1)))), (3, .long (lN n)), (0, .ref (ad 4)), (1, .long x)] := hl
    have hL1 : L + 1 ≤ 4889 := Nat.le_trans (Nat.add_le_add_left (pl_n_pos _ _) L) hL
    refine lv_iload hx hb dX2_appendNumber_5 (lv_at hl 0 rfl) ?_
    refine lv_bipush (v := nI 10) hx hb dX2_appendNumber_7 (by decide) ?_
    refine lv_icmp_ge (tgt := 46) hx hb dX2_appendNumber_9 rfl (fun hc => absurd hc (by rw [nI_leI (by decide) (by omega)]; omega)) (fun hc => ?_)
    refine lv_lload_n hx hb dX2_appendNumber_12 rfl (lv_at hl 1 rfl) ?_
    refine lv_bipush (v := nI 7) hx hb dX2_appendNumber_13 (by decide) ?_
    refine lv_lushr (v := lN (n / 128)) hx hb dX2_appendNumber_15 (wb_shr (k := 7) hn (by decide)) ?_
    refine lv_lconst (v := lN 0) hx hb dX2_appendNumber_16 (by decide) ?_
    refine W.lcmp hx hb dX2_appendNumber_17 ?_
    refine lv_if_eq (tgt := 46) hx hb dX2_appendNumber_18 rfl (fun hc => ?_) (fun hc => ?_)
    · have hn1 : n / 128 = 0 := (pk_lEQ (by omega) (by decide)).mp (lc_eq.mp hc)
      refine lv_aload_n hx hb dX2_appendNumber_46 rfl (lv_at hl 2 rfl) ?_
      refine lv_lload_n hx hb dX2_appendNumber_47 rfl (lv_at hl 1 rfl) ?_
      refine lv_l2i (v := nI n) hx hb dX2_appendNumber_48 (lN_i n) ?_
      refine xk_v (va_runV (As := [.int (nI n)]) (rest := []) ⟨hx, hb, hml, hown, hts⟩ (cX2_append_m l dC dI ca ad kf vf bf w op nx en ok tf nb ef ff fi ek ev L (nI n) (by omega) _) (cwV 1 hts (xg_V mb_methodLink_RX2_21 mb_instanceMethod_yX2_append mb_selects_yX2_append mb_initialized_RX2 mb_code_yX2_append) rfl rfl rfl ⟨rfl, by decide, by decide, by decide +kernel⟩ ⟨Nat.le_of_ble_eq_true rfl, Nat.le_of_ble_eq_true rfl⟩) (xpreV (va_recv (q0 := 4) hK hP rfl rfl) hK hP hD hS hA hE) rfl rfl hl.1 rfl (lv_room (Nat.le_of_ble_eq_true rfl)) dX2_appendNumber_49 ⟨Nat.le_of_ble_eq_true rfl, Nat.le_of_ble_eq_true rfl⟩) hD hS hA (fun u H locs hu hP hD hS => ?_)
      have hP : va_P (dC, dI) vwCl (xw ad ca kf vf bf w op (nI (L + 1)) nx en ok (upd tf L (sb_b n)) nb ef ff fi ek ev) H := hP
      have hD : va_D A (xw ad ca kf vf bf w op (nI (L + 1)) nx en ok (upd tf L (sb_b n)) nb ef ff fi ek ev) := hD
      have e1 : pl_n (k + 1) n = 1 := by unfold pl_n; rw [if_neg (by omega)]
      have e2 : pl_f tf (k + 1) L n = upd tf L (sb_b n) := by unfold pl_f; rw [if_neg (by omega)]
      rw [e1, e2] at kk
      exact kk H locs ls hP hD hS
    · have hn1 : ¬ n / 128 = 0 := fun z => hc (lc_eq.mpr (congrArg lN z))
      have e1 : pl_n (k + 1) n = pl_n k (n / 128) + 1 := by conv => lhs; unfold pl_n; rw [if_pos (by omega : 128 ≤ n)]
      have e2 : pl_f tf (k + 1) L n = pl_f (upd tf L (sb_b (n % 128 + 128))) k (L + 1) (n / 128) := by conv => lhs; unfold pl_f; rw [if_pos (by omega : 128 ≤ n)]
      rw [e1] at hL
      rw [e1, e2] at kk
      refine lv_aload_n hx hb dX2_appendNumber_21 rfl (lv_at hl 2 rfl) ?_
      refine lv_lload_n hx hb dX2_appendNumber_22 rfl (lv_at hl 1 rfl) ?_
      refine lv_ldc2 (v := lN 127) hx hb hown (xg_w hts mb_constantLong_RX2_19) dX2_appendNumber_23 ?_
      refine lv_land hx hb dX2_appendNumber_26 ?_
      refine lv_topl (fun z1 ez1 => ?_)
      have ez1 : z1 = lN (n % 128) := ez1.trans (wb_mask (k := 7) hn (by decide))
      subst ez1
      refine lv_l2i (v := nI (n % 128)) hx hb dX2_appendNumber_27 (lN_i _) ?_
      refine lv_sipush (v := nI 128) hx hb dX2_appendNumber_28 (by decide) ?_
      refine lv_iadd hx hb dX2_appendNumber_31 ?_
      refine lv_topi (fun z2 ez2 => ?_)
      have ez2 : z2 = nI (n % 128 + 128) := ez2.trans (nI_add _ _)
      subst ez2
      refine xk_v (va_runV (As := [.int (nI (n % 128 + 128))]) (rest := []) ⟨hx, hb, hml, hown, hts⟩ (cX2_append_m l dC dI ca ad kf vf bf w op nx en ok tf nb ef ff fi ek ev L (nI (n % 128 + 128)) (by omega) _) (cwV 1 hts (xg_V mb_methodLink_RX2_21 mb_instanceMethod_yX2_append mb_selects_yX2_append mb_initialized_RX2 mb_code_yX2_append) rfl rfl rfl ⟨rfl, by decide, by decide, by decide +kernel⟩ ⟨Nat.le_of_ble_eq_true rfl, Nat.le_of_ble_eq_true rfl⟩) (xpreV (va_recv (q0 := 4) hK hP rfl rfl) hK hP hD hS hA hE) rfl rfl hl.1 rfl (lv_room (Nat.le_of_ble_eq_true rfl)) dX2_appendNumber_32 ⟨Nat.le_of_ble_eq_true rfl, Nat.le_of_ble_eq_true rfl⟩) hD hS hA (fun u H locs hu hP hD hS => ?_)
      have hP : va_P (dC, dI) vwCl (xw ad ca kf vf bf w op (nI (L + 1)) nx en ok (upd tf L (sb_b (n % 128 + 128))) nb ef ff fi ek ev) H := hP
      have hD : va_D A (xw ad ca kf vf bf w op (nI (L + 1)) nx en ok (upd tf L (sb_b (n % 128 + 128))) nb ef ff fi ek ev) := hD
      refine lv_lload_n hx hb dX2_appendNumber_35 rfl (lv_at hl 1 rfl) ?_
      refine lv_bipush (v := nI 7) hx hb dX2_appendNumber_36 (by decide) ?_
      refine lv_lushr (v := lN (n / 128)) hx hb dX2_appendNumber_38 (wb_shr (k := 7) hn (by decide)) ?_
      refine lv_lstore_n hx hb dX2_appendNumber_39 rfl hl (by decide) rfl (fun ls hl => ?_)
      have hl : lv_has ls 6 [(3, .long (lN (n / 128))), (5, .int (nI (10 - (k + 1)))), (0, .ref (ad 4)), (1, .long x)] := hl
      refine lv_iinc (k := 1) (v := nI (10 - k)) hx hb dX2_appendNumber_40 hl rfl ((nI_1 _).trans (congrArg nI (by omega))) (by decide) rfl (fun ls hl => ?_)
      have hl : lv_has ls 6 [(5, .int (nI (10 - k))), (3, .long (lN (n / 128))), (0, .ref (ad 4)), (1, .long x)] := hl
      refine lv_goto (tgt := 5) hx hb dX2_appendNumber_43 rfl ?_
      refine ih (L + 1) (n / 128) _ _ _ _ (by omega) (by omega) (by omega) hl hP hD hS (fun H locs ls hP hD hS => ?_)
      rw [Nat.add_assoc, Nat.add_comm 1] at hP hD
      exact kk H locs ls hP hD hS

set_option maxHeartbeats 4000000 in
set_option maxRecDepth 100000 in
theorem cX2_appendNumber_m (l : Launch) (dC : Nat → ClassId) (dI : Nat → Nat → Nat) (ca : Nat → ClassId) (ad : Nat → Nat) (kf : Nat → Int32) (vf : Nat → Int64) (bf : Nat → Int32) (w : Int32) (op : Int32) (nx : Int32) (en : Int32) (ok : Int32) (tf : Nat → Int32) (nb : Int32) (ef : Nat → Int32) (ff : Nat → Int32) (fi : Int32) (ek : Int32) (ev : Int64) (L : Nat) (x : Int64) (hL : L + pl_n 9 x.toBitVec.toNat ≤ 4889) : ∀ sz : Nat, Met l yX2_appendNumber wsX2_appendNumber ({ frames := 1, cells := 0, slots := 0, locals := 21 } : Room) (va_Pc [.ref (ad 4), .long x] (xP (dC, dI) (xt ca) (xw ad ca kf vf bf w op (nI L) nx en ok tf nb ef ff fi ek ev) sz)) (va_Qv (S := Unit) (fun _ => True) (fun u t => xB (dC, dI) (xt ca) (va_A (xw ad ca kf vf bf w op (nI L) nx en ok tf nb ef ff fi ek ev) sz) (xw ad ca kf vf bf w op (nI (L + pl_n 9 x.toBitVec.toNat)) nx en ok (pl_f tf 9 L x.toBitVec.toNat) nb ef ff fi ek ev) t) (va_A (xw ad ca kf vf bf w op (nI L) nx en ok tf nb ef ff fi ek ev) sz)) 0 0 (va_A (xw ad ca kf vf bf w op (nI L) nx en ok tf nb ef ff fi ek ev) sz) := by
  intro sz
  refine Met.ofW (cc := cX2_appendNumber) (maxL := 6) (ret := none) (by decide) rfl ?_
  intro p e s m args below meth c s₁ B hml hv
  obtain ⟨rfl, hsz, hP, hK, hD0, hE⟩ := hv
  have hx := B.exec
  have hb := B.bytes
  have hr := B.returns
  have hts := atoms_spec (ws := wsX2_appendNumber) B.pre
  have hown : s.vm.findClass RX2 = some m.cls := findClass_of_methodNamed B.named
  have hlocks := B.notSynchronized
  subst hsz
  have hD := hD0.self (sz := s.heap.size)
  generalize hAe : va_A (xw ad ca kf vf bf w op (nI L) nx en ok tf nb ef ff fi ek ev) s.heap.size = A at hD hE ⊢
  have hA : ∀ q : Nat, s.heap.size ≤ q → A q := fun q h => by rw [← hAe]; exact Or.inr h
  have hS : va_S A s.heap s.heap [] := va_S.rf
  have hl := lv_entry ([.ref (ad 4), .long x]) (n := 6) (Nat.le_of_ble_eq_true rfl)
  rw [lg_entry_eq]
  generalize (lg_sl ([.ref (ad 4), .long x]) ++ List.replicate (6 - (lg_sl ([.ref (ad 4), .long x])).length) Slot.unset).toArray = ls at hl ⊢
  have hl : lv_has ls 6 [(0, .ref (ad 4)), (1, .long x)] := hl
  have ex : x = lN x.toBitVec.toNat := wb_inj (by rw [wb_tb]; simp)
  refine lv_lload_n hx hb dX2_appendNumber_0 rfl (lv_at hl 1 rfl) ?_
  refine lv_topl (fun z1 ez1 => ?_)
  have ez1 : z1 = lN x.toBitVec.toNat := ez1.trans (ex)
  subst ez1
  refine lv_lstore_n hx hb dX2_appendNumber_1 rfl hl (by decide) rfl (fun ls hl => ?_)
  have hl : lv_has ls 6 [(3, .long (lN x.toBitVec.toNat)), (0, .ref (ad 4)), (1, .long x)] := hl
  refine lv_iconst (v := nI (10 - 9)) hx hb dX2_appendNumber_2 (by decide) ?_
  refine lv_istore hx hb dX2_appendNumber_3 hl (by decide) rfl (fun ls hl => ?_)
  have hl : lv_has ls 6 [(5, .int (nI (10 - 9))), (3, .long (lN x.toBitVec.toNat)), (0, .ref (ad 4)), (1, .long x)] := hl
  refine lpX2_appendNumber_lay hx hb hml hown hts hK hA hE 9 L x.toBitVec.toNat tf _ _ _ (Nat.le_refl _) x.toBitVec.isLt hL hl hP hD hS (fun H locs ls hP hD hS => ?_)
  have hP9 := hP
  have hD9 := hD
  exact W.vret hx hb hr (fun t ht hW => ⟨⟨(), rfl, trivial, by rw [ht]; exact hP9, va_K.moved hW.alike hK, hD9⟩, hS.F ht⟩) hS.2.2 dX2_appendNumber_52

set_option maxHeartbeats 4000000 in
set_option maxRecDepth 100000 in
theorem lpX2_sumOf_go {p : Program} {l : Launch} {e : Env} {s : State} {m : MethodId} {args : Array Value} {below : List Frame} {meth : Method} {c : Code} {Q : State → Prop} {A : Nat → Prop} {dC : Nat → ClassId} {dI : Nat → Nat → Nat} {ca : Nat → ClassId} {ad : Nat → Nat} (hx : p.tables.exec = Jvm.exec) (hb : c.code = cX2_sumOf) (hml : c.maxLocals = 5) (hown : s.vm.findClass RX2 = some m.cls) (hts : ∀ w ∈ wsX2_sumOf, w.before args s = true) (hK : va_K (dC, dI) vwCl (xt ca) s) (hA : ∀ q : Nat, s.heap.size ≤ q → A q) (hE : xn_E A s) {kf : Nat → Int32} {vf : Nat → Int64} {bf : Nat → Int32} {w : Int32} {op : Int32} {ln : Int32} {nx : Int32} {en : Int32} {ok : Int32} {tf : Nat → Int32} {nb : Int32} {ef : Nat → Int32} {ff : Nat → Int32} {fi : Int32} {ek : Int32} {ev : Int64} {a b : Nat} (hab : a ≤ b) (hb9 : b ≤ 4889) : ∀ (k : Nat)  (H : Heap) (locs : List Loc) (ls : Array Slot), k ≤ b - a → lv_has ls 5 [(4, .int (nI (b - k))), (3, .int (nI (pb_crc tf a (b - k - a)))), (0, .ref (ad 4)), (1, .int (nI a)), (2, .int (nI b))] → va_P (dC, dI) vwCl (xw ad ca kf vf bf w op ln nx en ok tf nb ef ff fi ek ev) H → va_D A (xw ad ca kf vf bf w op ln nx en ok tf nb ef ff fi ek ev) → va_S A s.heap H locs → (∀ (H : Heap) (locs : List Loc) (ls : Array Slot), lv_has ls 5 [(3, .int (nI (pb_crc tf a (b - a))))] → va_P (dC, dI) vwCl (xw ad ca kf vf bf w op ln nx en ok tf nb ef ff fi ek ev) H → va_D A (xw ad ca kf vf bf w op ln nx en ok tf nb ef ff fi ek ev) → va_S A s.heap H locs → W p l e ({ frames := 1, cells := 0, slots := 0, locals := 21 } : Room) s m args below meth c H locs 0 0 Q (F0 m 52 ls [])) → W p l e ({ frames := 1, cells := 0, slots := 0, locals := 21 } : Room) s m args below meth c H locs 0 0 Q (F0 m 5 ls []) := by
  intro k
  induction k with
  | zero =>
    intro  H locs ls hk hl hP hD hS kk
    have hl : lv_has ls 5 [(4, .int (nI (b - 0))), (3, .int (nI (pb_crc tf a (b - 0 - a)))), (0, .ref (ad 4)), (1, .int (nI a)), (2, .int (nI b))] := hl
    refine lv_iload hx hb dX2_sumOf_5 (lv_at hl 0 rfl) ?_
    refine lv_iload_n hx hb dX2_sumOf_7 rfl (lv_at hl 4 rfl) ?_
    refine lv_icmp_ge (tgt := 52) hx hb dX2_sumOf_8 rfl (fun hc => ?_) (fun hc => absurd hc (not_not_intro (nI_le (by omega) (by omega))))
    exact kk H locs ls (lv_sub hl [1] rfl) hP hD hS
  | succ k ih =>
    intro  H locs ls hk hl hP hD hS kk
    have hl : lv_has ls 5 [(4, .int (nI (b - (k + 1)))), (3, .int (nI (pb_crc tf a (b - (k + 1) - a)))), (0, .ref (ad 4)), (1, .int (nI a)), (2, .int (nI b))] := hl
    obtain ⟨st, hZ, hT⟩ := hE.2.2.2.2.2
    have hX0 : (pb_crc tf a (b - (k + 1) - a) ^^^ pb_ub tf (b - (k + 1))) < 2 ^ 32 := Nat.xor_lt_two_pow (pb_crc_lt tf a _) (by have := pb_ub_lt tf (b - (k + 1)); omega)
    have hX1 : pb_g4 (pb_crc tf a (b - (k + 1) - a) ^^^ pb_ub tf (b - (k + 1))) < 2 ^ 32 := pb_g4_lt hX0
    refine lv_iload hx hb dX2_sumOf_5 (lv_at hl 0 rfl) ?_
    refine lv_iload_n hx hb dX2_sumOf_7 rfl (lv_at hl 4 rfl) ?_
    refine lv_icmp_ge (tgt := 52) hx hb dX2_sumOf_8 rfl (fun hc => absurd hc (by rw [nI_leI (by omega) (by omega)]; omega)) (fun hc => ?_)
    refine lv_iload_n hx hb dX2_sumOf_11 rfl (lv_at hl 1 rfl) ?_
    refine lv_aload_n hx hb dX2_sumOf_12 rfl (lv_at hl 2 rfl) ?_
    refine lv_iload hx hb dX2_sumOf_13 (lv_at hl 0 rfl) ?_
    refine xk_i (va_runV (As := [.int (nI (b - (k + 1)))]) (rest := [.int (nI (pb_crc tf a (b - (k + 1) - a)))]) ⟨hx, hb, hml, hown, hts⟩ (cX2_byteAt_m l dC dI ca ad kf vf bf w op ln nx en ok tf nb ef ff fi ek ev (b - (k + 1)) (by omega) _) (cwV 1 hts (xg_V mb_methodLink_RX2_29 mb_instanceMethod_yX2_byteAt mb_selects_yX2_byteAt mb_initialized_RX2 mb_code_yX2_byteAt) rfl rfl rfl ⟨rfl, by decide, by decide, by decide +kernel⟩ ⟨Nat.le_of_ble_eq_true rfl, Nat.le_of_ble_eq_true rfl⟩) (xpreV (va_recv (q0 := 4) hK hP rfl rfl) hK hP hD hS hA hE) rfl rfl hl.1 rfl (lv_room (Nat.le_of_ble_eq_true rfl)) dX2_sumOf_15 ⟨Nat.le_of_ble_eq_true rfl, Nat.le_of_ble_eq_true rfl⟩) hD hS hA (fun r u H locs hu hP hD hS => ?_)
    subst hu
    have hP : va_P (dC, dI) vwCl (xw ad ca kf vf bf w op ln nx en ok tf nb ef ff fi ek ev) H := hP
    have hD : va_D A (xw ad ca kf vf bf w op ln nx en ok tf nb ef ff fi ek ev) := hD
    refine lv_ixor hx hb dX2_sumOf_18 ?_
    refine lv_topi (fun z1 ez1 => ?_)
    have ez1 : z1 = nI (pb_crc tf a (b - (k + 1) - a) ^^^ pb_ub tf (b - (k + 1))) := ez1.trans (nx_xor _ _)
    subst ez1
    refine lv_istore_n hx hb dX2_sumOf_19 rfl hl (by decide) rfl (fun ls hl => ?_)
    have hl : lv_has ls 5 [(3, .int (nI (pb_crc tf a (b - (k + 1) - a) ^^^ pb_ub tf (b - (k + 1))))), (4, .int (nI (b - (k + 1)))), (0, .ref (ad 4)), (1, .int (nI a)), (2, .int (nI b))] := hl
    refine lv_iload_n hx hb dX2_sumOf_20 rfl (lv_at hl 0 rfl) ?_
    refine lv_iconst (v := nI 4) hx hb dX2_sumOf_21 (by decide) ?_
    refine lv_iushr (v := nI ((pb_crc tf a (b - (k + 1) - a) ^^^ pb_ub tf (b - (k + 1))) / 16)) hx hb dX2_sumOf_22 (pk_ushrN (n := (pb_crc tf a (b - (k + 1) - a) ^^^ pb_ub tf (b - (k + 1)))) hX0 (nI 4) 4 (by decide)) ?_
    refine va_gets hx hb hZ hS hown (xg_w hts mb_fieldLink_RX2_33) (fun _ h9 => h9) dX2_sumOf_23 ?_
    refine lv_iload_n hx hb dX2_sumOf_26 rfl (lv_at hl 0 rfl) ?_
    refine lv_bipush (v := nI 15) hx hb dX2_sumOf_27 (by decide) ?_
    refine lv_iand hx hb dX2_sumOf_29 ?_
    refine lv_topi (fun z2 ez2 => ?_)
    have ez2 : z2 = nI ((pb_crc tf a (b - (k + 1) - a) ^^^ pb_ub tf (b - (k + 1))) % 16) := ez2.trans (pk_andN (n := (pb_crc tf a (b - (k + 1) - a) ^^^ pb_ub tf (b - (k + 1)))) hX0 4 (by decide))
    subst ez2
    refine va_ti (v := .int (nI (pb_T ((pb_crc tf a (b - (k + 1) - a) ^^^ pb_ub tf (b - (k + 1))) % 16)))) hx hb hT hS (vp_in_nI (Nat.mod_lt _ (by decide)) (by decide)) (by show Value.int (nI (pb_T (nI ((pb_crc tf a (b - (k + 1) - a) ^^^ pb_ub tf (b - (k + 1))) % 16)).toNatClampNeg)) = _; rw [nI_clamp (Nat.lt_trans (Nat.mod_lt _ (by decide)) (by decide))]) dX2_sumOf_30 ?_
    refine lv_ixor hx hb dX2_sumOf_31 ?_
    refine lv_topi (fun z3 ez3 => ?_)
    have ez3 : z3 = nI (pb_g4 (pb_crc tf a (b - (k + 1) - a) ^^^ pb_ub tf (b - (k + 1)))) := ez3.trans ((nx_xor _ _).trans (congrArg nI (pb_nib (pb_crc tf a (b - (k + 1) - a) ^^^ pb_ub tf (b - (k + 1)))).symm))
    subst ez3
    refine lv_istore_n hx hb dX2_sumOf_32 rfl hl (by decide) rfl (fun ls hl => ?_)
    have hl : lv_has ls 5 [(3, .int (nI (pb_g4 (pb_crc tf a (b - (k + 1) - a) ^^^ pb_ub tf (b - (k + 1)))))), (4, .int (nI (b - (k + 1)))), (0, .ref (ad 4)), (1, .int (nI a)), (2, .int (nI b))] := hl
    refine lv_iload_n hx hb dX2_sumOf_33 rfl (lv_at hl 0 rfl) ?_
    refine lv_iconst (v := nI 4) hx hb dX2_sumOf_34 (by decide) ?_
    refine lv_iushr (v := nI ((pb_g4 (pb_crc tf a (b - (k + 1) - a) ^^^ pb_ub tf (b - (k + 1)))) / 16)) hx hb dX2_sumOf_35 (pk_ushrN (n := (pb_g4 (pb_crc tf a (b - (k + 1) - a) ^^^ pb_ub tf (b - (k + 1))))) hX1 (nI 4) 4 (by decide)) ?_
    refine va_gets hx hb hZ hS hown (xg_w hts mb_fieldLink_RX2_33) (fun _ h9 => h9) dX2_sumOf_36 ?_
    refine lv_iload_n hx hb dX2_sumOf_39 rfl (lv_at hl 0 rfl) ?_
    refine lv_bipush (v := nI 15) hx hb dX2_sumOf_40 (by decide) ?_
    refine lv_iand hx hb dX2_sumOf_42 ?_
    refine lv_topi (fun z4 ez4 => ?_)
    have ez4 : z4 = nI ((pb_g4 (pb_crc tf a (b - (k + 1) - a) ^^^ pb_ub tf (b - (k + 1)))) % 16) := ez4.trans (pk_andN (n := (pb_g4 (pb_crc tf a (b - (k + 1) - a) ^^^ pb_ub tf (b - (k + 1))))) hX1 4 (by decide))
    subst ez4
    refine va_ti (v := .int (nI (pb_T ((pb_g4 (pb_crc tf a (b - (k + 1) - a) ^^^ pb_ub tf (b - (k + 1)))) % 16)))) hx hb hT hS (vp_in_nI (Nat.mod_lt _ (by decide)) (by decide)) (by show Value.int (nI (pb_T (nI ((pb_g4 (pb_crc tf a (b - (k + 1) - a) ^^^ pb_ub tf (b - (k + 1)))) % 16)).toNatClampNeg)) = _; rw [nI_clamp (Nat.lt_trans (Nat.mod_lt _ (by decide)) (by decide))]) dX2_sumOf_43 ?_
    refine lv_ixor hx hb dX2_sumOf_44 ?_
    refine lv_topi (fun z5 ez5 => ?_)
    have ez5 : z5 = nI (pb_g4 (pb_g4 (pb_crc tf a (b - (k + 1) - a) ^^^ pb_ub tf (b - (k + 1))))) := ez5.trans ((nx_xor _ _).trans (congrArg nI (pb_nib (pb_g4 (pb_crc tf a (b - (k + 1) - a) ^^^ pb_ub tf (b - (k + 1))))).symm))
    subst ez5
    refine lv_istore_n hx hb dX2_sumOf_45 rfl hl (by decide) rfl (fun ls hl => ?_)
    have hl : lv_has ls 5 [(3, .int (nI (pb_g4 (pb_g4 (pb_crc tf a (b - (k + 1) - a) ^^^ pb_ub tf (b - (k + 1))))))), (4, .int (nI (b - (k + 1)))), (0, .ref (ad 4)), (1, .int (nI a)), (2, .int (nI b))] := hl
    refine lv_iinc (k := 1) (v := nI (b - k)) hx hb dX2_sumOf_46 hl rfl ((nI_1 _).trans (congrArg nI (by omega))) (by decide) rfl (fun ls hl => ?_)
    have hl : lv_has ls 5 [(4, .int (nI (b - k))), (3, .int (nI (pb_g4 (pb_g4 (pb_crc tf a (b - (k + 1) - a) ^^^ pb_ub tf (b - (k + 1))))))), (0, .ref (ad 4)), (1, .int (nI a)), (2, .int (nI b))] := hl
    refine lv_goto (tgt := 5) hx hb dX2_sumOf_49 rfl ?_
    have e9 : pb_g4 (pb_g4 (pb_crc tf a (b - (k + 1) - a) ^^^ pb_ub tf (b - (k + 1)))) = pb_crc tf a (b - k - a) := by
      rw [show b - k - a = b - (k + 1) - a + 1 by omega]
      show _ = pb_B (pb_crc tf a (b - (k + 1) - a)) (pb_ub tf (a + (b - (k + 1) - a)))
      rw [show a + (b - (k + 1) - a) = b - (k + 1) by omega]
      rfl
    rw [e9] at hl
    exact ih _ _ _ (by omega) hl hP hD hS kk

set_option maxHeartbeats 4000000 in
set_option maxRecDepth 100000 in
theorem cX2_sumOf_m (l : Launch) (dC : Nat → ClassId) (dI : Nat → Nat → Nat) (ca : Nat → ClassId) (ad : Nat → Nat) (kf : Nat → Int32) (vf : Nat → Int64) (bf : Nat → Int32) (w : Int32) (op : Int32) (ln : Int32) (nx : Int32) (en : Int32) (ok : Int32) (tf : Nat → Int32) (nb : Int32) (ef : Nat → Int32) (ff : Nat → Int32) (fi : Int32) (ek : Int32) (ev : Int64) (a b : Nat) (hab : a ≤ b) (hb9 : b ≤ 4889) : ∀ sz : Nat, Met l yX2_sumOf wsX2_sumOf ({ frames := 1, cells := 0, slots := 0, locals := 21 } : Room) (va_Pc [.ref (ad 4), .int (nI a), .int (nI b)] (xP (dC, dI) (xt ca) (xw ad ca kf vf bf w op ln nx en ok tf nb ef ff fi ek ev) sz)) (va_Qi (S := Unit) (fun r _ => r = nI (ps_w tf a b)) (fun u t => xB (dC, dI) (xt ca) (va_A (xw ad ca kf vf bf w op ln nx en ok tf nb ef ff fi ek ev) sz) (xw ad ca kf vf bf w op ln nx en ok tf nb ef ff fi ek ev) t) (va_A (xw ad ca kf vf bf w op ln nx en ok tf nb ef ff fi ek ev) sz)) 0 0 (va_A (xw ad ca kf vf bf w op ln nx en ok tf nb ef ff fi ek ev) sz) := by
  intro sz
  refine Met.ofW (cc := cX2_sumOf) (maxL := 5) (ret := (some .int)) (by decide) rfl ?_
  intro p e s m args below meth c s₁ B hml hv
  obtain ⟨rfl, hsz, hP, hK, hD0, hE⟩ := hv
  have hx := B.exec
  have hb := B.bytes
  have hr := B.returns
  have hts := atoms_spec (ws := wsX2_sumOf) B.pre
  have hown : s.vm.findClass RX2 = some m.cls := findClass_of_methodNamed B.named
  have hlocks := B.notSynchronized
  subst hsz
  have hD := hD0.self (sz := s.heap.size)
  generalize hAe : va_A (xw ad ca kf vf bf w op ln nx en ok tf nb ef ff fi ek ev) s.heap.size = A at hD hE ⊢
  have hA : ∀ q : Nat, s.heap.size ≤ q → A q := fun q h => by rw [← hAe]; exact Or.inr h
  have hS : va_S A s.heap s.heap [] := va_S.rf
  have hl := lv_entry ([.ref (ad 4), .int (nI a), .int (nI b)]) (n := 5) (Nat.le_of_ble_eq_true rfl)
  rw [lg_entry_eq]
  generalize (lg_sl ([.ref (ad 4), .int (nI a), .int (nI b)]) ++ List.replicate (5 - (lg_sl ([.ref (ad 4), .int (nI a), .int (nI b)])).length) Slot.unset).toArray = ls at hl ⊢
  have hl : lv_has ls 5 [(0, .ref (ad 4)), (1, .int (nI a)), (2, .int (nI b))] := hl
  have e0 : pb_crc tf a (b - (b - a) - a) = 4294967295 := by rw [show b - (b - a) - a = 0 by omega]; rfl
  refine lv_iconst (v := nI (pb_crc tf a (b - (b - a) - a))) hx hb dX2_sumOf_0 (by rw [e0]; decide) ?_
  refine lv_istore_n hx hb dX2_sumOf_1 rfl hl (by decide) rfl (fun ls hl => ?_)
  have hl : lv_has ls 5 [(3, .int (nI (pb_crc tf a (b - (b - a) - a)))), (0, .ref (ad 4)), (1, .int (nI a)), (2, .int (nI b))] := hl
  refine lv_iload_n hx hb dX2_sumOf_2 rfl (lv_at hl 2 rfl) ?_
  refine lv_topi (fun z1 ez1 => ?_)
  have ez1 : z1 = nI (b - (b - a)) := ez1.trans (congrArg nI (by omega))
  subst ez1
  refine lv_istore hx hb dX2_sumOf_3 hl (by decide) rfl (fun ls hl => ?_)
  have hl : lv_has ls 5 [(4, .int (nI (b - (b - a)))), (3, .int (nI (pb_crc tf a (b - (b - a) - a)))), (0, .ref (ad 4)), (1, .int (nI a)), (2, .int (nI b))] := hl
  refine lpX2_sumOf_go hx hb hml hown hts hK hA hE hab hb9 (b - a) _ _ _ (Nat.le_refl _) hl hP hD hS (fun H locs ls hl hP hD hS => ?_)
  refine lv_iload_n hx hb dX2_sumOf_52 rfl (lv_at hl 0 rfl) ?_
  refine lv_iconst (v := nI 4294967295) hx hb dX2_sumOf_53 (by decide) ?_
  refine lv_ixor hx hb dX2_sumOf_54 ?_
  refine lv_topi (fun z2 ez2 => ?_)
  have ez2 : z2 = nI (ps_w tf a b) := ez2.trans (nx_xor _ _)
  subst ez2
  have hP9 := hP
  have hD9 := hD
  exact W.iret (v := nI (ps_w tf a b)) hx hb hr (fun t ht hW => ⟨⟨nI (ps_w tf a b), (), rfl, rfl, by rw [ht]; exact hP9, va_K.moved hW.alike hK, hD9⟩, hS.F ht⟩) hS.2.2 dX2_sumOf_55

set_option maxHeartbeats 4000000 in
set_option maxRecDepth 100000 in
theorem lpX2_appendSum_go {p : Program} {l : Launch} {e : Env} {s : State} {m : MethodId} {args : Array Value} {below : List Frame} {meth : Method} {c : Code} {Q : State → Prop} {A : Nat → Prop} {dC : Nat → ClassId} {dI : Nat → Nat → Nat} {ca : Nat → ClassId} {ad : Nat → Nat} (hx : p.tables.exec = Jvm.exec) (hb : c.code = cX2_appendSum) (hml : c.maxLocals = 4) (hown : s.vm.findClass RX2 = some m.cls) (hts : ∀ w ∈ wsX2_appendSum, w.before args s = true) (hK : va_K (dC, dI) vwCl (xt ca) s) (hA : ∀ q : Nat, s.heap.size ≤ q → A q) (hE : xn_E A s) {kf : Nat → Int32} {vf : Nat → Int64} {bf : Nat → Int32} {w : Int32} {op : Int32} {nx : Int32} {en : Int32} {ok : Int32} {tf : Nat → Int32} {nb : Int32} {ef : Nat → Int32} {ff : Nat → Int32} {fi : Int32} {ek : Int32} {ev : Int64} {L v : Nat} {x : Int32} (hL : L + 4 ≤ 4889) (hv : v < 2 ^ 32) : ∀ (k : Nat)  (H : Heap) (locs : List Loc) (ls : Array Slot), k ≤ 4 → lv_has ls 4 [(3, .int (nI (4 - k))), (2, .int (nI v)), (0, .ref (ad 4)), (1, .int x)] → va_P (dC, dI) vwCl (xw ad ca kf vf bf w op (nI (L + (4 - k))) nx en ok (ps_k tf L v (4 - k)) nb ef ff fi ek ev) H → va_D A (xw ad ca kf vf bf w op (nI (L + (4 - k))) nx en ok (ps_k tf L v (4 - k)) nb ef ff fi ek ev) → va_S A s.heap H locs → (∀ (H : Heap) (locs : List Loc) (ls : Array Slot), va_P (dC, dI) vwCl (xw ad ca kf vf bf w op (nI (L + 4)) nx en ok (ps_k tf L v 4) nb ef ff fi ek ev) H → va_D A (xw ad ca kf vf bf w op (nI (L + 4)) nx en ok (ps_k tf L v 4) nb ef ff fi ek ev) → va_S A s.heap H locs → W p l e ({ frames := 2, cells := 0, slots := 0, locals := 45 } : Room) s m args below meth c H locs 0 0 Q (F0 m 33 ls [])) → W p l e ({ frames := 2, cells := 0, slots := 0, locals := 45 } : Room) s m args below meth c H locs 0 0 Q (F0 m 12 ls []) := by
  intro k
  induction k with
  | zero =>
    intro  H locs ls hk hl hP hD hS kk
    have hl : lv_has ls 4 [(3, .int (nI (4 - 0))), (2, .int (nI v)), (0, .ref (ad 4)), (1, .int x)] := hl
    refine lv_iload_n hx hb dX2_appendSum_12 rfl (lv_at hl 0 rfl) ?_
    refine lv_iconst (v := nI 4) hx hb dX2_appendSum_13 (by decide) ?_
    refine lv_icmp_ge (tgt := 33) hx hb dX2_appendSum_14 rfl (fun hc => ?_) (fun hc => absurd hc (not_not_intro (by decide)))
    exact kk H locs ls hP hD hS
  | succ k ih =>
    intro  H locs ls hk hl hP hD hS kk
    have hl : lv_has ls 4 [(3, .int (nI (4 - (k + 1)))), (2, .int (nI v)), (0, .ref (ad 4)), (1, .int x)] := hl
    refine lv_iload_n hx hb dX2_appendSum_12 rfl (lv_at hl 0 rfl) ?_
    refine lv_iconst (v := nI 4) hx hb dX2_appendSum_13 (by decide) ?_
    refine lv_icmp_ge (tgt := 33) hx hb dX2_appendSum_14 rfl (fun hc => absurd hc (by rw [nI_leI (by decide) (by omega)]; omega)) (fun hc => ?_)
    refine lv_aload_n hx hb dX2_appendSum_17 rfl (lv_at hl 2 rfl) ?_
    refine lv_iload_n hx hb dX2_appendSum_18 rfl (lv_at hl 1 rfl) ?_
    refine lv_bipush (v := nI 8) hx hb dX2_appendSum_19 (by decide) ?_
    refine lv_iload_n hx hb dX2_appendSum_21 rfl (lv_at hl 0 rfl) ?_
    refine lv_imul hx hb dX2_appendSum_22 ?_
    refine lv_topi (fun z1 ez1 => ?_)
    have ez1 : z1 = nI (8 * (4 - (k + 1))) := ez1.trans (pk_mul _ _)
    subst ez1
    refine lv_iushr (v := nI (v / 2 ^ (8 * (4 - (k + 1))))) hx hb dX2_appendSum_23 (pk_ushrN (n := v) hv _ _ (s_u _ (by omega))) ?_
    have e1 : L + (4 - (k + 1)) + 1 = L + (4 - k) := by omega
    have e2 : upd (ps_k tf L v (4 - (k + 1))) (L + (4 - (k + 1))) (sb_b (v / 2 ^ (8 * (4 - (k + 1))))) = ps_k tf L v (4 - k) := by rw [show 4 - k = 4 - (k + 1) + 1 by omega]; rfl
    refine xk_v (va_runV (As := [.int (nI (v / 2 ^ (8 * (4 - (k + 1)))))]) (rest := []) ⟨hx, hb, hml, hown, hts⟩ (cX2_append_m l dC dI ca ad kf vf bf w op nx en ok (ps_k tf L v (4 - (k + 1))) nb ef ff fi ek ev (L + (4 - (k + 1))) (nI (v / 2 ^ (8 * (4 - (k + 1))))) (by omega) _) (cwV 1 hts (xg_V mb_methodLink_RX2_21 mb_instanceMethod_yX2_append mb_selects_yX2_append mb_initialized_RX2 mb_code_yX2_append) rfl rfl rfl ⟨rfl, by decide, by decide, by decide +kernel⟩ ⟨Nat.le_of_ble_eq_true rfl, Nat.le_of_ble_eq_true rfl⟩) (xpreV (va_recv (q0 := 4) hK hP rfl rfl) hK hP hD hS hA hE) rfl rfl hl.1 rfl (lv_room (Nat.le_of_ble_eq_true rfl)) dX2_appendSum_24 ⟨Nat.le_of_ble_eq_true rfl, Nat.le_of_ble_eq_true rfl⟩) hD hS hA (fun u H locs hu hP hD hS => ?_)
    have hP : va_P (dC, dI) vwCl (xw ad ca kf vf bf w op (nI (L + (4 - (k + 1)) + 1)) nx en ok (upd (ps_k tf L v (4 - (k + 1))) (L + (4 - (k + 1))) (sb_b (v / 2 ^ (8 * (4 - (k + 1)))))) nb ef ff fi ek ev) H := hP
    have hD : va_D A (xw ad ca kf vf bf w op (nI (L + (4 - (k + 1)) + 1)) nx en ok (upd (ps_k tf L v (4 - (k + 1))) (L + (4 - (k + 1))) (sb_b (v / 2 ^ (8 * (4 - (k + 1)))))) nb ef ff fi ek ev) := hD
    rw [e1, e2] at hP hD
    refine lv_iinc (k := 0) (v := nI (4 - k)) hx hb dX2_appendSum_27 hl rfl ((nI_1 _).trans (congrArg nI (by omega))) (by decide) rfl (fun ls hl => ?_)
    have hl : lv_has ls 4 [(3, .int (nI (4 - k))), (2, .int (nI v)), (0, .ref (ad 4)), (1, .int x)] := hl
    refine lv_goto (tgt := 12) hx hb dX2_appendSum_30 rfl ?_
    exact ih _ _ _ (by omega) hl hP hD hS kk

set_option maxHeartbeats 4000000 in
set_option maxRecDepth 100000 in
theorem cX2_appendSum_m (l : Launch) (dC : Nat → ClassId) (dI : Nat → Nat → Nat) (ca : Nat → ClassId) (ad : Nat → Nat) (kf : Nat → Int32) (vf : Nat → Int64) (bf : Nat → Int32) (w : Int32) (op : Int32) (nx : Int32) (en : Int32) (ok : Int32) (tf : Nat → Int32) (nb : Int32) (ef : Nat → Int32) (ff : Nat → Int32) (fi : Int32) (ek : Int32) (ev : Int64) (L a : Nat) (hL : L + 4 ≤ 4889) (ha : a ≤ L) : ∀ sz : Nat, Met l yX2_appendSum wsX2_appendSum ({ frames := 2, cells := 0, slots := 0, locals := 45 } : Room) (va_Pc [.ref (ad 4), .int (nI a)] (xP (dC, dI) (xt ca) (xw ad ca kf vf bf w op (nI L) nx en ok tf nb ef ff fi ek ev) sz)) (va_Qv (S := Unit) (fun _ => True) (fun u t => xB (dC, dI) (xt ca) (va_A (xw ad ca kf vf bf w op (nI L) nx en ok tf nb ef ff fi ek ev) sz) (xw ad ca kf vf bf w op (nI (L + 4)) nx en ok (ps_k tf L (ps_w tf a L) 4) nb ef ff fi ek ev) t) (va_A (xw ad ca kf vf bf w op (nI L) nx en ok tf nb ef ff fi ek ev) sz)) 0 0 (va_A (xw ad ca kf vf bf w op (nI L) nx en ok tf nb ef ff fi ek ev) sz) := by
  intro sz
  refine Met.ofW (cc := cX2_appendSum) (maxL := 4) (ret := none) (by decide) rfl ?_
  intro p e s m args below meth c s₁ B hml hv
  obtain ⟨rfl, hsz, hP, hK, hD0, hE⟩ := hv
  have hx := B.exec
  have hb := B.bytes
  have hr := B.returns
  have hts := atoms_spec (ws := wsX2_appendSum) B.pre
  have hown : s.vm.findClass RX2 = some m.cls := findClass_of_methodNamed B.named
  have hlocks := B.notSynchronized
  subst hsz
  have hD := hD0.self (sz := s.heap.size)
  generalize hAe : va_A (xw ad ca kf vf bf w op (nI L) nx en ok tf nb ef ff fi ek ev) s.heap.size = A at hD hE ⊢
  have hA : ∀ q : Nat, s.heap.size ≤ q → A q := fun q h => by rw [← hAe]; exact Or.inr h
  have hS : va_S A s.heap s.heap [] := va_S.rf
  have hl := lv_entry ([.ref (ad 4), .int (nI a)]) (n := 4) (Nat.le_of_ble_eq_true rfl)
  rw [lg_entry_eq]
  generalize (lg_sl ([.ref (ad 4), .int (nI a)]) ++ List.replicate (4 - (lg_sl ([.ref (ad 4), .int (nI a)])).length) Slot.unset).toArray = ls at hl ⊢
  have hl : lv_has ls 4 [(0, .ref (ad 4)), (1, .int (nI a))] := hl
  refine lv_aload_n hx hb dX2_appendSum_0 rfl (lv_at hl 0 rfl) ?_
  refine lv_iload_n hx hb dX2_appendSum_1 rfl (lv_at hl 1 rfl) ?_
  refine lv_aload_n hx hb dX2_appendSum_2 rfl (lv_at hl 0 rfl) ?_
  refine va_get (D := (dC, dI)) (ci := 2) (v := .int (nI L)) (C := RX2) (T := TX2) (N := 5) (ref := "SortedRun$Table") hx hb hts (xg_u mb_uws_X2) hown hK hP 4 rfl rfl 1 (by decide) (xg_w hts mb_fieldLink_RX2_15) (fun _ h9 => h9) rfl dX2_appendSum_3 ?_
  refine xk_i (va_runV (As := [.int (nI a), .int (nI L)]) (rest := []) ⟨hx, hb, hml, hown, hts⟩ (cX2_sumOf_m l dC dI ca ad kf vf bf w op (nI L) nx en ok tf nb ef ff fi ek ev a L ha (by omega) _) (cwV 2 hts (xg_V mb_methodLink_RX2_25 mb_instanceMethod_yX2_sumOf mb_selects_yX2_sumOf mb_initialized_RX2 mb_code_yX2_sumOf) rfl rfl rfl ⟨rfl, by decide, by decide, by decide +kernel⟩ ⟨Nat.le_of_ble_eq_true rfl, Nat.le_of_ble_eq_true rfl⟩) (xpreV (va_recv (q0 := 4) hK hP rfl rfl) hK hP hD hS hA hE) rfl rfl hl.1 rfl (lv_room (Nat.le_of_ble_eq_true rfl)) dX2_appendSum_6 ⟨Nat.le_of_ble_eq_true rfl, Nat.le_of_ble_eq_true rfl⟩) hD hS hA (fun r u H locs hu hP hD hS => ?_)
  subst hu
  have hP : va_P (dC, dI) vwCl (xw ad ca kf vf bf w op (nI L) nx en ok tf nb ef ff fi ek ev) H := hP
  have hD : va_D A (xw ad ca kf vf bf w op (nI L) nx en ok tf nb ef ff fi ek ev) := hD
  refine lv_istore_n hx hb dX2_appendSum_9 rfl hl (by decide) rfl (fun ls hl => ?_)
  have hl : lv_has ls 4 [(2, .int (nI (ps_w tf a L))), (0, .ref (ad 4)), (1, .int (nI a))] := hl
  refine lv_iconst (v := nI (4 - 4)) hx hb dX2_appendSum_10 (by decide) ?_
  refine lv_istore_n hx hb dX2_appendSum_11 rfl hl (by decide) rfl (fun ls hl => ?_)
  have hl : lv_has ls 4 [(3, .int (nI (4 - 4))), (2, .int (nI (ps_w tf a L))), (0, .ref (ad 4)), (1, .int (nI a))] := hl
  refine lpX2_appendSum_go hx hb hml hown hts hK hA hE (L := L) (v := ps_w tf a L) hL (ps_w_lt tf a L) 4 _ _ _ (Nat.le_refl _) hl hP hD hS (fun H locs ls hP hD hS => ?_)
  have hP9 := hP
  have hD9 := hD
  exact W.vret hx hb hr (fun t ht hW => ⟨⟨(), rfl, trivial, by rw [ht]; exact hP9, va_K.moved hW.alike hK, hD9⟩, hS.F ht⟩) hS.2.2 dX2_appendSum_33

set_option maxHeartbeats 4000000 in
set_option maxRecDepth 100000 in
theorem lpX2_appendFoot_go {p : Program} {l : Launch} {e : Env} {s : State} {m : MethodId} {args : Array Value} {below : List Frame} {meth : Method} {c : Code} {Q : State → Prop} {A : Nat → Prop} {dC : Nat → ClassId} {dI : Nat → Nat → Nat} {ca : Nat → ClassId} {ad : Nat → Nat} (hx : p.tables.exec = Jvm.exec) (hb : c.code = cX2_appendFoot) (hml : c.maxLocals = 3) (hown : s.vm.findClass RX2 = some m.cls) (hts : ∀ w ∈ wsX2_appendFoot, w.before args s = true) (hK : va_K (dC, dI) vwCl (xt ca) s) (hA : ∀ q : Nat, s.heap.size ≤ q → A q) (hE : xn_E A s) {kf : Nat → Int32} {vf : Nat → Int64} {bf : Nat → Int32} {w : Int32} {op : Int32} {nx : Int32} {en : Int32} {ok : Int32} {tf : Nat → Int32} {nb : Int32} {ef : Nat → Int32} {ff : Nat → Int32} {fi : Int32} {ek : Int32} {ev : Int64} {L n : Nat} (hL : L + 4 ≤ 4889) (hv : n < 2 ^ 32) : ∀ (k : Nat)  (H : Heap) (locs : List Loc) (ls : Array Slot), k ≤ 4 → lv_has ls 3 [(2, .int (nI k + (-1))), (0, .ref (ad 4)), (1, .int (nI n))] → va_P (dC, dI) vwCl (xw ad ca kf vf bf w op (nI (L + (4 - k))) nx en ok (pf_k tf L n (4 - k)) nb ef ff fi ek ev) H → va_D A (xw ad ca kf vf bf w op (nI (L + (4 - k))) nx en ok (pf_k tf L n (4 - k)) nb ef ff fi ek ev) → va_S A s.heap H locs → (∀ (H : Heap) (locs : List Loc) (ls : Array Slot), va_P (dC, dI) vwCl (xw ad ca kf vf bf w op (nI (L + 4)) nx en ok (pf_k tf L n 4) nb ef ff fi ek ev) H → va_D A (xw ad ca kf vf bf w op (nI (L + 4)) nx en ok (pf_k tf L n 4) nb ef ff fi ek ev) → va_S A s.heap H locs → W p l e ({ frames := 1, cells := 0, slots := 0, locals := 21 } : Room) s m args below meth c H locs 0 0 Q (F0 m 22 ls [])) → W p l e ({ frames := 1, cells := 0, slots := 0, locals := 21 } : Room) s m args below meth c H locs 0 0 Q (F0 m 2 ls []) := by
  intro k
  induction k with
  | zero =>
    intro  H locs ls hk hl hP hD hS kk
    have hl : lv_has ls 3 [(2, .int (nI 0 + (-1))), (0, .ref (ad 4)), (1, .int (nI n))] := hl
    refine lv_iload_n hx hb dX2_appendFoot_2 rfl (lv_at hl 0 rfl) ?_
    refine lv_if_lt (tgt := 22) hx hb dX2_appendFoot_3 rfl (fun hc => ?_) (fun hc => absurd hc (not_not_intro (by decide)))
    exact kk H locs ls hP hD hS
  | succ k ih =>
    intro  H locs ls hk hl hP hD hS kk
    have hl : lv_has ls 3 [(2, .int (nI (k + 1) + (-1))), (0, .ref (ad 4)), (1, .int (nI n))] := hl
    refine lv_iload_n hx hb dX2_appendFoot_2 rfl (lv_at hl 0 rfl) ?_
    refine lv_if_lt (tgt := 22) hx hb dX2_appendFoot_3 rfl (fun hc => absurd hc (by rw [pk_m1]; exact nI_pos (by omega))) (fun hc => ?_)
    refine lv_aload_n hx hb dX2_appendFoot_6 rfl (lv_at hl 1 rfl) ?_
    refine lv_iload_n hx hb dX2_appendFoot_7 rfl (lv_at hl 2 rfl) ?_
    refine lv_bipush (v := nI 8) hx hb dX2_appendFoot_8 (by decide) ?_
    refine lv_iload_n hx hb dX2_appendFoot_10 rfl (lv_at hl 0 rfl) ?_
    refine lv_topi (fun z1 ez1 => ?_)
    have ez1 : z1 = nI k := ez1.trans (pk_m1 k)
    subst ez1
    refine lv_imul hx hb dX2_appendFoot_11 ?_
    refine lv_topi (fun z2 ez2 => ?_)
    have ez2 : z2 = nI (8 * k) := ez2.trans (pk_mul _ _)
    subst ez2
    refine lv_iushr (v := nI (n / 2 ^ (8 * k))) hx hb dX2_appendFoot_12 (pk_ushrN (n := n) hv _ _ (s_u _ (by omega))) ?_
    have e1 : L + (4 - (k + 1)) + 1 = L + (4 - k) := by omega
    have e2 : upd (pf_k tf L n (4 - (k + 1))) (L + (4 - (k + 1))) (sb_b (n / 2 ^ (8 * k))) = pf_k tf L n (4 - k) := by
      rw [show 4 - k = 4 - (k + 1) + 1 by omega]
      show _ = upd (pf_k tf L n (4 - (k + 1))) (L + (4 - (k + 1))) (sb_b (n / 2 ^ (8 * (3 - (4 - (k + 1))))))
      rw [show 3 - (4 - (k + 1)) = k by omega]
    refine xk_v (va_runV (As := [.int (nI (n / 2 ^ (8 * k)))]) (rest := []) ⟨hx, hb, hml, hown, hts⟩ (cX2_append_m l dC dI ca ad kf vf bf w op nx en ok (pf_k tf L n (4 - (k + 1))) nb ef ff fi ek ev (L + (4 - (k + 1))) (nI (n / 2 ^ (8 * k))) (by omega) _) (cwV 1 hts (xg_V mb_methodLink_RX2_21 mb_instanceMethod_yX2_append mb_selects_yX2_append mb_initialized_RX2 mb_code_yX2_append) rfl rfl rfl ⟨rfl, by decide, by decide, by decide +kernel⟩ ⟨Nat.le_of_ble_eq_true rfl, Nat.le_of_ble_eq_true rfl⟩) (xpreV (va_recv (q0 := 4) hK hP rfl rfl) hK hP hD hS hA hE) rfl rfl hl.1 rfl (lv_room (Nat.le_of_ble_eq_true rfl)) dX2_appendFoot_13 ⟨Nat.le_of_ble_eq_true rfl, Nat.le_of_ble_eq_true rfl⟩) hD hS hA (fun u H locs hu hP hD hS => ?_)
    have hP : va_P (dC, dI) vwCl (xw ad ca kf vf bf w op (nI (L + (4 - (k + 1)) + 1)) nx en ok (upd (pf_k tf L n (4 - (k + 1))) (L + (4 - (k + 1))) (sb_b (n / 2 ^ (8 * k)))) nb ef ff fi ek ev) H := hP
    have hD : va_D A (xw ad ca kf vf bf w op (nI (L + (4 - (k + 1)) + 1)) nx en ok (upd (pf_k tf L n (4 - (k + 1))) (L + (4 - (k + 1))) (sb_b (n / 2 ^ (8 * k)))) nb ef ff fi ek ev) := hD
    rw [e1, e2] at hP hD
    refine lv_iinc (k := 0) (v := nI k + (-1)) hx hb dX2_appendFoot_16 hl rfl (by rw [pk_m1]; rfl) (by decide) rfl (fun ls hl => ?_)
    have hl : lv_has ls 3 [(2, .int (nI k + (-1))), (0, .ref (ad 4)), (1, .int (nI n))] := hl
    refine lv_goto (tgt := 2) hx hb dX2_appendFoot_19 rfl ?_
    exact ih _ _ _ (by omega) hl hP hD hS kk

set_option maxHeartbeats 4000000 in
set_option maxRecDepth 100000 in
theorem cX2_appendFoot_m (l : Launch) (dC : Nat → ClassId) (dI : Nat → Nat → Nat) (ca : Nat → ClassId) (ad : Nat → Nat) (kf : Nat → Int32) (vf : Nat → Int64) (bf : Nat → Int32) (w : Int32) (op : Int32) (nx : Int32) (en : Int32) (ok : Int32) (tf : Nat → Int32) (nb : Int32) (ef : Nat → Int32) (ff : Nat → Int32) (fi : Int32) (ek : Int32) (ev : Int64) (L n : Nat) (hL : L + 4 ≤ 4889) (hn : n < 2 ^ 32) : ∀ sz : Nat, Met l yX2_appendFoot wsX2_appendFoot ({ frames := 1, cells := 0, slots := 0, locals := 21 } : Room) (va_Pc [.ref (ad 4), .int (nI n)] (xP (dC, dI) (xt ca) (xw ad ca kf vf bf w op (nI L) nx en ok tf nb ef ff fi ek ev) sz)) (va_Qv (S := Unit) (fun _ => True) (fun u t => xB (dC, dI) (xt ca) (va_A (xw ad ca kf vf bf w op (nI L) nx en ok tf nb ef ff fi ek ev) sz) (xw ad ca kf vf bf w op (nI (L + 4)) nx en ok (pf_k tf L n 4) nb ef ff fi ek ev) t) (va_A (xw ad ca kf vf bf w op (nI L) nx en ok tf nb ef ff fi ek ev) sz)) 0 0 (va_A (xw ad ca kf vf bf w op (nI L) nx en ok tf nb ef ff fi ek ev) sz) := by
  intro sz
  refine Met.ofW (cc := cX2_appendFoot) (maxL := 3) (ret := none) (by decide) rfl ?_
  intro p e s m args below meth c s₁ B hml hv
  obtain ⟨rfl, hsz, hP, hK, hD0, hE⟩ := hv
  have hx := B.exec
  have hb := B.bytes
  have hr := B.returns
  have hts := atoms_spec (ws := wsX2_appendFoot) B.pre
  have hown : s.vm.findClass RX2 = some m.cls := findClass_of_methodNamed B.named
  have hlocks := B.notSynchronized
  subst hsz
  have hD := hD0.self (sz := s.heap.size)
  generalize hAe : va_A (xw ad ca kf vf bf w op (nI L) nx en ok tf nb ef ff fi ek ev) s.heap.size = A at hD hE ⊢
  have hA : ∀ q : Nat, s.heap.size ≤ q → A q := fun q h => by rw [← hAe]; exact Or.inr h
  have hS : va_S A s.heap s.heap [] := va_S.rf
  have hl := lv_entry ([.ref (ad 4), .int (nI n)]) (n := 3) (Nat.le_of_ble_eq_true rfl)
  rw [lg_entry_eq]
  generalize (lg_sl ([.ref (ad 4), .int (nI n)]) ++ List.replicate (3 - (lg_sl ([.ref (ad 4), .int (nI n)])).length) Slot.unset).toArray = ls at hl ⊢
  have hl : lv_has ls 3 [(0, .ref (ad 4)), (1, .int (nI n))] := hl
  refine lv_iconst (v := nI 4 + (-1)) hx hb dX2_appendFoot_0 (by decide) ?_
  refine lv_istore_n hx hb dX2_appendFoot_1 rfl hl (by decide) rfl (fun ls hl => ?_)
  have hl : lv_has ls 3 [(2, .int (nI 4 + (-1))), (0, .ref (ad 4)), (1, .int (nI n))] := hl
  refine lpX2_appendFoot_go hx hb hml hown hts hK hA hE (L := L) (n := n) hL hn 4 _ _ _ (Nat.le_refl _) hl hP hD hS (fun H locs ls hP hD hS => ?_)
  have hP9 := hP
  have hD9 := hD
  exact W.vret hx hb hr (fun t ht hW => ⟨⟨(), rfl, trivial, by rw [ht]; exact hP9, va_K.moved hW.alike hK, hD9⟩, hS.F ht⟩) hS.2.2 dX2_appendFoot_22

set_option maxHeartbeats 4000000 in
set_option maxRecDepth 100000 in
theorem lpX2_foot_go {p : Program} {l : Launch} {e : Env} {s : State} {m : MethodId} {args : Array Value} {below : List Frame} {meth : Method} {c : Code} {Q : State → Prop} {A : Nat → Prop} {dC : Nat → ClassId} {dI : Nat → Nat → Nat} {ca : Nat → ClassId} {ad : Nat → Nat} (hx : p.tables.exec = Jvm.exec) (hb : c.code = cX2_foot) (hml : c.maxLocals = 4) (hown : s.vm.findClass RX2 = some m.cls) (hts : ∀ w ∈ wsX2_foot, w.before args s = true) (hK : va_K (dC, dI) vwCl (xt ca) s) (hA : ∀ q : Nat, s.heap.size ≤ q → A q) (hE : xn_E A s) {kf : Nat → Int32} {vf : Nat → Int64} {bf : Nat → Int32} {w : Int32} {op : Int32} {nx : Int32} {en : Int32} {ok : Int32} {tf : Nat → Int32} {nb : Int32} {ef : Nat → Int32} {ff : Nat → Int32} {fi : Int32} {ek : Int32} {ev : Int64} {L : Nat} (hL : L ≤ 4889) (h4 : 4 ≤ L) : ∀ (k : Nat)  (H : Heap) (locs : List Loc) (ls : Array Slot), k ≤ 4 → lv_has ls 4 [(3, .int (nI (L - k))), (1, .long (lN (pf_n tf (L - 4) (4 - k)))), (0, .ref (ad 4))] → va_P (dC, dI) vwCl (xw ad ca kf vf bf w op (nI L) nx en ok tf nb ef ff fi ek ev) H → va_D A (xw ad ca kf vf bf w op (nI L) nx en ok tf nb ef ff fi ek ev) → va_S A s.heap H locs → (∀ (H : Heap) (locs : List Loc) (ls : Array Slot), lv_has ls 4 [(1, .long (lN (pf_n tf (L - 4) 4)))] → va_P (dC, dI) vwCl (xw ad ca kf vf bf w op (nI L) nx en ok tf nb ef ff fi ek ev) H → va_D A (xw ad ca kf vf bf w op (nI L) nx en ok tf nb ef ff fi ek ev) → va_S A s.heap H locs → W p l e ({ frames := 1, cells := 0, slots := 0, locals := 21 } : Room) s m args below meth c H locs 0 0 Q (F0 m 35 ls [])) → W p l e ({ frames := 1, cells := 0, slots := 0, locals := 21 } : Room) s m args below meth c H locs 0 0 Q (F0 m 9 ls []) := by
  intro k
  induction k with
  | zero =>
    intro  H locs ls hk hl hP hD hS kk
    have hl : lv_has ls 4 [(3, .int (nI (L - 0))), (1, .long (lN (pf_n tf (L - 4) (4 - 0)))), (0, .ref (ad 4))] := hl
    refine lv_iload_n hx hb dX2_foot_9 rfl (lv_at hl 0 rfl) ?_
    refine lv_aload_n hx hb dX2_foot_10 rfl (lv_at hl 2 rfl) ?_
    refine va_get (D := (dC, dI)) (ci := 2) (v := .int (nI L)) (C := RX2) (T := TX2) (N := 5) (ref := "SortedRun$Table") hx hb hts (xg_u mb_uws_X2) hown hK hP 4 rfl rfl 1 (by decide) (xg_w hts mb_fieldLink_RX2_15) (fun _ h9 => h9) rfl dX2_foot_11 ?_
    refine lv_icmp_ge (tgt := 35) hx hb dX2_foot_14 rfl (fun hc => ?_) (fun hc => absurd hc (not_not_intro (nI_le (by omega) (by omega))))
    exact kk H locs ls (lv_sub hl [1] rfl) hP hD hS
  | succ k ih =>
    intro  H locs ls hk hl hP hD hS kk
    have hl : lv_has ls 4 [(3, .int (nI (L - (k + 1)))), (1, .long (lN (pf_n tf (L - 4) (4 - (k + 1))))), (0, .ref (ad 4))] := hl
    refine lv_iload_n hx hb dX2_foot_9 rfl (lv_at hl 0 rfl) ?_
    refine lv_aload_n hx hb dX2_foot_10 rfl (lv_at hl 2 rfl) ?_
    refine va_get (D := (dC, dI)) (ci := 2) (v := .int (nI L)) (C := RX2) (T := TX2) (N := 5) (ref := "SortedRun$Table") hx hb hts (xg_u mb_uws_X2) hown hK hP 4 rfl rfl 1 (by decide) (xg_w hts mb_fieldLink_RX2_15) (fun _ h9 => h9) rfl dX2_foot_11 ?_
    refine lv_icmp_ge (tgt := 35) hx hb dX2_foot_14 rfl (fun hc => absurd hc (by rw [nI_leI (by omega) (by omega)]; omega)) (fun hc => ?_)
    refine lv_lload_n hx hb dX2_foot_17 rfl (lv_at hl 1 rfl) ?_
    refine lv_bipush (v := nI 8) hx hb dX2_foot_18 (by decide) ?_
    refine lv_lshl (v := lN (pf_n tf (L - 4) (4 - (k + 1)) * 256)) hx hb dX2_foot_20 (wb_shl _ (k := 8) (by decide)) ?_
    refine lv_aload_n hx hb dX2_foot_21 rfl (lv_at hl 2 rfl) ?_
    refine lv_iload_n hx hb dX2_foot_22 rfl (lv_at hl 0 rfl) ?_
    refine xk_i (va_runV (As := [.int (nI (L - (k + 1)))]) (rest := [.long (lN (pf_n tf (L - 4) (4 - (k + 1)) * 256))]) ⟨hx, hb, hml, hown, hts⟩ (cX2_byteAt_m l dC dI ca ad kf vf bf w op (nI L) nx en ok tf nb ef ff fi ek ev (L - (k + 1)) (by omega) _) (cwV 1 hts (xg_V mb_methodLink_RX2_29 mb_instanceMethod_yX2_byteAt mb_selects_yX2_byteAt mb_initialized_RX2 mb_code_yX2_byteAt) rfl rfl rfl ⟨rfl, by decide, by decide, by decide +kernel⟩ ⟨Nat.le_of_ble_eq_true rfl, Nat.le_of_ble_eq_true rfl⟩) (xpreV (va_recv (q0 := 4) hK hP rfl rfl) hK hP hD hS hA hE) rfl rfl hl.1 rfl (lv_room (Nat.le_of_ble_eq_true rfl)) dX2_foot_23 ⟨Nat.le_of_ble_eq_true rfl, Nat.le_of_ble_eq_true rfl⟩) hD hS hA (fun r u H locs hu hP hD hS => ?_)
    subst hu
    have hP : va_P (dC, dI) vwCl (xw ad ca kf vf bf w op (nI L) nx en ok tf nb ef ff fi ek ev) H := hP
    have hD : va_D A (xw ad ca kf vf bf w op (nI L) nx en ok tf nb ef ff fi ek ev) := hD
    refine lv_i2l (v := lN (pb_ub tf (L - (k + 1)))) hx hb dX2_foot_26 (nI_l (Nat.lt_trans (pb_ub_lt tf _) (by decide))) ?_
    have e9 : pf_n tf (L - 4) (4 - (k + 1)) * 256 + pb_ub tf (L - (k + 1)) = pf_n tf (L - 4) (4 - k) := by
      rw [show 4 - k = 4 - (k + 1) + 1 by omega]
      show _ = pf_n tf (L - 4) (4 - (k + 1)) * 256 + pb_ub tf (L - 4 + (4 - (k + 1)))
      rw [show L - 4 + (4 - (k + 1)) = L - (k + 1) by omega]
    refine lv_ladd hx hb dX2_foot_27 ?_
    refine lv_topl (fun z1 ez1 => ?_)
    have ez1 : z1 = lN (pf_n tf (L - 4) (4 - k)) := ez1.trans ((lN_add _ _).trans (congrArg lN e9))
    subst ez1
    refine lv_lstore_n hx hb dX2_foot_28 rfl hl (by decide) rfl (fun ls hl => ?_)
    have hl : lv_has ls 4 [(1, .long (lN (pf_n tf (L - 4) (4 - k)))), (3, .int (nI (L - (k + 1)))), (0, .ref (ad 4))] := hl
    refine lv_iinc (k := 1) (v := nI (L - k)) hx hb dX2_foot_29 hl rfl ((nI_1 _).trans (congrArg nI (by omega))) (by decide) rfl (fun ls hl => ?_)
    have hl : lv_has ls 4 [(3, .int (nI (L - k))), (1, .long (lN (pf_n tf (L - 4) (4 - k)))), (0, .ref (ad 4))] := hl
    refine lv_goto (tgt := 9) hx hb dX2_foot_32 rfl ?_
    exact ih _ _ _ (by omega) hl hP hD hS kk

set_option maxHeartbeats 4000000 in
set_option maxRecDepth 100000 in
theorem cX2_foot_m (l : Launch) (dC : Nat → ClassId) (dI : Nat → Nat → Nat) (ca : Nat → ClassId) (ad : Nat → Nat) (kf : Nat → Int32) (vf : Nat → Int64) (bf : Nat → Int32) (w : Int32) (op : Int32) (nx : Int32) (en : Int32) (ok : Int32) (tf : Nat → Int32) (nb : Int32) (ef : Nat → Int32) (ff : Nat → Int32) (fi : Int32) (ek : Int32) (ev : Int64) (L : Nat) (hL : L ≤ 4889) (h4 : 4 ≤ L) : ∀ sz : Nat, Met l yX2_foot wsX2_foot ({ frames := 1, cells := 0, slots := 0, locals := 21 } : Room) (va_Pc [.ref (ad 4)] (xP (dC, dI) (xt ca) (xw ad ca kf vf bf w op (nI L) nx en ok tf nb ef ff fi ek ev) sz)) (va_Ql (S := Unit) (fun r _ => r = lN (pf_n tf (L - 4) 4)) (fun u t => xB (dC, dI) (xt ca) (va_A (xw ad ca kf vf bf w op (nI L) nx en ok tf nb ef ff fi ek ev) sz) (xw ad ca kf vf bf w op (nI L) nx en ok tf nb ef ff fi ek ev) t) (va_A (xw ad ca kf vf bf w op (nI L) nx en ok tf nb ef ff fi ek ev) sz)) 0 0 (va_A (xw ad ca kf vf bf w op (nI L) nx en ok tf nb ef ff fi ek ev) sz) := by
  intro sz
  refine Met.ofW (cc := cX2_foot) (maxL := 4) (ret := (some .long)) (by decide) rfl ?_
  intro p e s m args below meth c s₁ B hml hv
  obtain ⟨rfl, hsz, hP, hK, hD0, hE⟩ := hv
  have hx := B.exec
  have hb := B.bytes
  have hr := B.returns
  have hts := atoms_spec (ws := wsX2_foot) B.pre
  have hown : s.vm.findClass RX2 = some m.cls := findClass_of_methodNamed B.named
  have hlocks := B.notSynchronized
  subst hsz
  have hD := hD0.self (sz := s.heap.size)
  generalize hAe : va_A (xw ad ca kf vf bf w op (nI L) nx en ok tf nb ef ff fi ek ev) s.heap.size = A at hD hE ⊢
  have hA : ∀ q : Nat, s.heap.size ≤ q → A q := fun q h => by rw [← hAe]; exact Or.inr h
  have hS : va_S A s.heap s.heap [] := va_S.rf
  have hl := lv_entry ([.ref (ad 4)]) (n := 4) (Nat.le_of_ble_eq_true rfl)
  rw [lg_entry_eq]
  generalize (lg_sl ([.ref (ad 4)]) ++ List.replicate (4 - (lg_sl ([.ref (ad 4)])).length) Slot.unset).toArray = ls at hl ⊢
  have hl : lv_has ls 4 [(0, .ref (ad 4))] := hl
  refine lv_lconst (v := lN (pf_n tf (L - 4) (4 - 4))) hx hb dX2_foot_0 (rfl) ?_
  refine lv_lstore_n hx hb dX2_foot_1 rfl hl (by decide) rfl (fun ls hl => ?_)
  have hl : lv_has ls 4 [(1, .long (lN (pf_n tf (L - 4) (4 - 4)))), (0, .ref (ad 4))] := hl
  refine lv_aload_n hx hb dX2_foot_2 rfl (lv_at hl 1 rfl) ?_
  refine va_get (D := (dC, dI)) (ci := 2) (v := .int (nI L)) (C := RX2) (T := TX2) (N := 5) (ref := "SortedRun$Table") hx hb hts (xg_u mb_uws_X2) hown hK hP 4 rfl rfl 1 (by decide) (xg_w hts mb_fieldLink_RX2_15) (fun _ h9 => h9) rfl dX2_foot_3 ?_
  refine lv_iconst (v := nI 4) hx hb dX2_foot_6 (by decide) ?_
  refine lv_isub hx hb dX2_foot_7 ?_
  refine lv_topi (fun z1 ez1 => ?_)
  have ez1 : z1 = nI (L - 4) := ez1.trans (pk_sub h4)
  subst ez1
  refine lv_istore_n hx hb dX2_foot_8 rfl hl (by decide) rfl (fun ls hl => ?_)
  have hl : lv_has ls 4 [(3, .int (nI (L - 4))), (1, .long (lN (pf_n tf (L - 4) (4 - 4)))), (0, .ref (ad 4))] := hl
  refine lpX2_foot_go hx hb hml hown hts hK hA hE hL h4 4 _ _ _ (Nat.le_refl _) hl hP hD hS (fun H locs ls hl hP hD hS => ?_)
  refine lv_lload_n hx hb dX2_foot_35 rfl (lv_at hl 0 rfl) ?_
  have hP9 := hP
  have hD9 := hD
  exact W.lret (v := lN (pf_n tf (L - 4) 4)) hx hb hr (fun t ht hW => ⟨⟨lN (pf_n tf (L - 4) 4), (), rfl, rfl, by rw [ht]; exact hP9, va_K.moved hW.alike hK, hD9⟩, hS.F ht⟩) hS.2.2 dX2_foot_36
