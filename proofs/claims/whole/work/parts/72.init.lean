/-! the constructors (rows by wip/whole/wini.py) -/
set_option maxHeartbeats 4000000 in
set_option maxRecDepth 100000 in
theorem cX0_init_m (l : Launch) (dC : Nat → ClassId) (dI : Nat → Nat → Nat) (a : Nat) : ∀ sz : Nat, Met l yX0_init wsX0_init ({ frames := 1, cells := 0, slots := 0, locals := 24 } : Room) (va_Pc [.ref a] (xP (dC, dI) [] [(a, .inr (0, [.int 0, .int 0, .long 0]))] sz)) (va_Qv (S := Unit) (fun u => True) (fun u t => xB (dC, dI) ([]) (va_A [(a, .inr (0, [.int 0, .int 0, .long 0]))] sz) ([(a, .inr (0, [.int 0, .int 0, .long 0]))]) t) (va_A [(a, .inr (0, [.int 0, .int 0, .long 0]))] sz)) 0 0 (va_A [(a, .inr (0, [.int 0, .int 0, .long 0]))] sz) := by
  intro sz
  refine Met.ofW (cc := cX0_init) (maxL := 1) (ret := none) (by decide) rfl ?_
  intro p e s m args below meth c s₁ B hml hv
  obtain ⟨rfl, hsz, hP, hK, hD0, hE⟩ := hv
  have hx := B.exec
  have hb := B.bytes
  have hr := B.returns
  have hts := atoms_spec (ws := wsX0_init) B.pre
  have hown : s.vm.findClass RX0 = some m.cls := findClass_of_methodNamed B.named
  have hlocks := B.notSynchronized
  have hin : meth.name = "<init>" := (name_of_methodNamed B.named B.method).1
  subst hsz
  have hD := hD0.self (sz := s.heap.size)
  generalize hAe : va_A [(a, .inr (0, [.int 0, .int 0, .long 0]))] s.heap.size = A at hD hE ⊢
  have hA : ∀ q : Nat, s.heap.size ≤ q → A q := fun q h => by rw [← hAe]; exact Or.inr h
  have hS : va_S A s.heap s.heap [] := va_S.rf
  have hl := lv_entry ([.ref a]) (n := 1) (Nat.le_of_ble_eq_true rfl)
  rw [lg_entry_eq]
  generalize (lg_sl ([.ref a]) ++ List.replicate (1 - (lg_sl ([.ref a])).length) Slot.unset).toArray = ls at hl ⊢
  have hl : lv_has ls 1 [(0, .ref a)] := hl
  refine lv_aload_n hx hb dX0_init_0 rfl (lv_at hl 0 rfl) ?_
  refine W.objInit hx hb hown (xg_w hts mb_methodLink_RX0_1) (xg_w hts mb_instanceMethod_objectInit) (xg_w hts mb_code_objectInit) rfl (by rw [hml]; exact hl.1) rfl dX0_init_1 (Nat.le_of_ble_eq_true rfl) (Nat.le_of_ble_eq_true rfl) ?_
  refine W.widen (k := 0) (n := 0) (Nat.le_of_ble_eq_true rfl) (Nat.le_of_ble_eq_true rfl) ?_
  exact W.vret hx hb hr (fun t ht hW => ⟨⟨(), rfl, trivial, by rw [ht]; exact hP, va_K.moved hW.alike hK, hD⟩, hS.F ht⟩) hS.2.2 dX0_init_4

set_option maxHeartbeats 4000000 in
set_option maxRecDepth 100000 in
theorem cX2_init_m (l : Launch) (dC : Nat → ClassId) (dI : Nat → Nat → Nat) (a : Nat) : ∀ sz : Nat, Met l yX2_init wsX2_init ({ frames := 1, cells := 1, slots := 4889, locals := 24 } : Room) (va_Pc [.ref a] (xP (dC, dI) [] [(a, .inr (2, [.null, .int 0, .int 0, .int 0, .int 0]))] sz)) (va_Qv (S := Nat × ClassId) (fun u => True) (fun u t => xB (dC, dI) ([(u.2, .byte)]) (va_A [(a, .inr (2, [.null, .int 0, .int 0, .int 0, .int 0]))] sz) ([(a, .inr (2, [.ref u.1, .int 0, .int 0, .int 0, .int 0])), (u.1, .inl (u.2, 4889, .inl (fun _ => 0)))]) t) (va_A [(a, .inr (2, [.null, .int 0, .int 0, .int 0, .int 0]))] sz)) 1 4889 (va_A [(a, .inr (2, [.null, .int 0, .int 0, .int 0, .int 0]))] sz) := by
  intro sz
  refine Met.ofW (cc := cX2_init) (maxL := 1) (ret := none) (by decide) rfl ?_
  intro p e s m args below meth c s₁ B hml hv
  obtain ⟨rfl, hsz, hP, hK, hD0, hE⟩ := hv
  have hx := B.exec
  have hb := B.bytes
  have hr := B.returns
  have hts := atoms_spec (ws := wsX2_init) B.pre
  have hown : s.vm.findClass RX2 = some m.cls := findClass_of_methodNamed B.named
  have hlocks := B.notSynchronized
  have hin : meth.name = "<init>" := (name_of_methodNamed B.named B.method).1
  subst hsz
  have hD := hD0.self (sz := s.heap.size)
  generalize hAe : va_A [(a, .inr (2, [.null, .int 0, .int 0, .int 0, .int 0]))] s.heap.size = A at hD hE ⊢
  have hA : ∀ q : Nat, s.heap.size ≤ q → A q := fun q h => by rw [← hAe]; exact Or.inr h
  have hS : va_S A s.heap s.heap [] := va_S.rf
  have hl := lv_entry ([.ref a]) (n := 1) (Nat.le_of_ble_eq_true rfl)
  rw [lg_entry_eq]
  generalize (lg_sl ([.ref a]) ++ List.replicate (1 - (lg_sl ([.ref a])).length) Slot.unset).toArray = ls at hl ⊢
  have hl : lv_has ls 1 [(0, .ref a)] := hl
  refine lv_aload_n hx hb dX2_init_0 rfl (lv_at hl 0 rfl) ?_
  refine W.objInit hx hb hown (xg_w hts mb_methodLink_RX2_3) (xg_w hts mb_instanceMethod_objectInit) (xg_w hts mb_code_objectInit) rfl (by rw [hml]; exact hl.1) rfl dX2_init_1 (Nat.le_of_ble_eq_true rfl) (Nat.le_of_ble_eq_true rfl) ?_
  refine lv_aload_n hx hb dX2_init_4 rfl (lv_at hl 0 rfl) ?_
  refine lv_sipush (v := 4889) hx hb dX2_init_5 (by decide) ?_
  refine va_newa (atype := .byte) (a0 := (4889, .inl (fun _ => 0))) (N' := 4889) hx hb (xg_w hts mb_arrayClass_byte) (ty := .byte) rfl hK hP hD hS hA (fun _ => rfl) (by decide) (by decide) (by decide) (Nat.le_of_ble_eq_true rfl) (Nat.le_of_ble_eq_true rfl) dX2_init_8 (fun q1 c1 H hK hP hD hS => ?_)
  have hK : va_K (dC, dI) vwCl [(c1, .byte)] s := hK
  have hP : va_P (dC, dI) vwCl ([(a, .inr (2, [.null, .int 0, .int 0, .int 0, .int 0])), (q1, .inl (c1, 4889, .inl (fun _ => 0)))]) H := hP
  have hD : va_D A ([(a, .inr (2, [.null, .int 0, .int 0, .int 0, .int 0])), (q1, .inl (c1, 4889, .inl (fun _ => 0)))]) := hD
  refine va_putF (D := (dC, dI)) (ci := 2) (v := .ref q1) (ty := .array .byte) (C := RX2) (T := TX2) (N := 5) (ref := "SortedRun$Table") hx hb hts (xg_u mb_uws_X2) tyX2 tyX2_ok nmX2 hown hK hP hD hS 0 rfl rfl 0 (by decide) (xg_w hts mb_fieldLink_RX2_9) (fun _ h9 => h9) rfl hin rfl (by decide +kernel) rfl rfl (Nat.le_of_ble_eq_true rfl) dX2_init_10 (fun H locs hP hD hS => ?_)
  have hP : va_P (dC, dI) vwCl ([(a, .inr (2, [.ref q1, .int 0, .int 0, .int 0, .int 0])), (q1, .inl (c1, 4889, .inl (fun _ => 0)))]) H := hP
  have hD : va_D A ([(a, .inr (2, [.ref q1, .int 0, .int 0, .int 0, .int 0])), (q1, .inl (c1, 4889, .inl (fun _ => 0)))]) := hD
  refine W.widen (k := 1) (n := 4889) (Nat.le_of_ble_eq_true rfl) (Nat.le_of_ble_eq_true rfl) ?_
  exact W.vret hx hb hr (fun t ht hW => ⟨⟨(q1, c1), rfl, trivial, by rw [ht]; exact hP, va_K.moved hW.alike hK, hD⟩, hS.F ht⟩) hS.2.2 dX2_init_13

set_option maxHeartbeats 4000000 in
set_option maxRecDepth 100000 in
theorem cX1_init_m (l : Launch) (dC : Nat → ClassId) (dI : Nat → Nat → Nat) (a : Nat) : ∀ sz : Nat, Met l yX1_init wsX1_init ({ frames := 1, cells := 2, slots := 4888, locals := 24 } : Room) (va_Pc [.ref a] (xP (dC, dI) [] [(a, .inr (1, [.null, .null, .int 0]))] sz)) (va_Qv (S := (Nat × ClassId) × Nat × ClassId) (fun u => True) (fun u t => xB (dC, dI) ([(u.1.2, .int), (u.2.2, .int)]) (va_A [(a, .inr (1, [.null, .null, .int 0]))] sz) ([(a, .inr (1, [.ref u.1.1, .ref u.2.1, .int 0])), (u.1.1, .inl (u.1.2, 2444, .inl (fun _ => 0))), (u.2.1, .inl (u.2.2, 2444, .inl (fun _ => 0)))]) t) (va_A [(a, .inr (1, [.null, .null, .int 0]))] sz)) 2 4888 (va_A [(a, .inr (1, [.null, .null, .int 0]))] sz) := by
  intro sz
  refine Met.ofW (cc := cX1_init) (maxL := 1) (ret := none) (by decide) rfl ?_
  intro p e s m args below meth c s₁ B hml hv
  obtain ⟨rfl, hsz, hP, hK, hD0, hE⟩ := hv
  have hx := B.exec
  have hb := B.bytes
  have hr := B.returns
  have hts := atoms_spec (ws := wsX1_init) B.pre
  have hown : s.vm.findClass RX1 = some m.cls := findClass_of_methodNamed B.named
  have hlocks := B.notSynchronized
  have hin : meth.name = "<init>" := (name_of_methodNamed B.named B.method).1
  subst hsz
  have hD := hD0.self (sz := s.heap.size)
  generalize hAe : va_A [(a, .inr (1, [.null, .null, .int 0]))] s.heap.size = A at hD hE ⊢
  have hA : ∀ q : Nat, s.heap.size ≤ q → A q := fun q h => by rw [← hAe]; exact Or.inr h
  have hS : va_S A s.heap s.heap [] := va_S.rf
  have hl := lv_entry ([.ref a]) (n := 1) (Nat.le_of_ble_eq_true rfl)
  rw [lg_entry_eq]
  generalize (lg_sl ([.ref a]) ++ List.replicate (1 - (lg_sl ([.ref a])).length) Slot.unset).toArray = ls at hl ⊢
  have hl : lv_has ls 1 [(0, .ref a)] := hl
  refine lv_aload_n hx hb dX1_init_0 rfl (lv_at hl 0 rfl) ?_
  refine W.objInit hx hb hown (xg_w hts mb_methodLink_RX1_3) (xg_w hts mb_instanceMethod_objectInit) (xg_w hts mb_code_objectInit) rfl (by rw [hml]; exact hl.1) rfl dX1_init_1 (Nat.le_of_ble_eq_true rfl) (Nat.le_of_ble_eq_true rfl) ?_
  refine lv_aload_n hx hb dX1_init_4 rfl (lv_at hl 0 rfl) ?_
  refine lv_sipush (v := 2444) hx hb dX1_init_5 (by decide) ?_
  refine va_newa (atype := .int) (a0 := (2444, .inl (fun _ => 0))) (N' := 2444) hx hb (xg_w hts mb_arrayClass_int) (ty := .int) rfl hK hP hD hS hA (fun _ => rfl) (by decide) (by decide) (by decide) (Nat.le_of_ble_eq_true rfl) (Nat.le_of_ble_eq_true rfl) dX1_init_8 (fun q1 c1 H hK hP hD hS => ?_)
  have hK : va_K (dC, dI) vwCl [(c1, .int)] s := hK
  have hP : va_P (dC, dI) vwCl ([(a, .inr (1, [.null, .null, .int 0])), (q1, .inl (c1, 2444, .inl (fun _ => 0)))]) H := hP
  have hD : va_D A ([(a, .inr (1, [.null, .null, .int 0])), (q1, .inl (c1, 2444, .inl (fun _ => 0)))]) := hD
  refine va_putF (D := (dC, dI)) (ci := 1) (v := .ref q1) (ty := .array .int) (C := RX1) (T := TX1) (N := 3) (ref := "SortedRun$Index") hx hb hts (xg_u mb_uws_X1) tyX1 tyX1_ok nmX1 hown hK hP hD hS 0 rfl rfl 0 (by decide) (xg_w hts mb_fieldLink_RX1_9) (fun _ h9 => h9) rfl hin rfl (by decide +kernel) rfl rfl (Nat.le_of_ble_eq_true rfl) dX1_init_10 (fun H locs hP hD hS => ?_)
  have hP : va_P (dC, dI) vwCl ([(a, .inr (1, [.ref q1, .null, .int 0])), (q1, .inl (c1, 2444, .inl (fun _ => 0)))]) H := hP
  have hD : va_D A ([(a, .inr (1, [.ref q1, .null, .int 0])), (q1, .inl (c1, 2444, .inl (fun _ => 0)))]) := hD
  refine lv_aload_n hx hb dX1_init_13 rfl (lv_at hl 0 rfl) ?_
  refine lv_sipush (v := 2444) hx hb dX1_init_14 (by decide) ?_
  refine va_newa (atype := .int) (a0 := (2444, .inl (fun _ => 0))) (N' := 2444) hx hb (xg_w hts mb_arrayClass_int) (ty := .int) rfl hK hP hD hS hA (fun _ => rfl) (by decide) (by decide) (by decide) (Nat.le_of_ble_eq_true rfl) (Nat.le_of_ble_eq_true rfl) dX1_init_17 (fun q2 c2 H hK hP hD hS => ?_)
  have hK : va_K (dC, dI) vwCl [(c1, .int), (c2, .int)] s := hK
  have hP : va_P (dC, dI) vwCl ([(a, .inr (1, [.ref q1, .null, .int 0])), (q1, .inl (c1, 2444, .inl (fun _ => 0))), (q2, .inl (c2, 2444, .inl (fun _ => 0)))]) H := hP
  have hD : va_D A ([(a, .inr (1, [.ref q1, .null, .int 0])), (q1, .inl (c1, 2444, .inl (fun _ => 0))), (q2, .inl (c2, 2444, .inl (fun _ => 0)))]) := hD
  refine va_putF (D := (dC, dI)) (ci := 1) (v := .ref q2) (ty := .array .int) (C := RX1) (T := TX1) (N := 3) (ref := "SortedRun$Index") hx hb hts (xg_u mb_uws_X1) tyX1 tyX1_ok nmX1 hown hK hP hD hS 0 rfl rfl 1 (by decide) (xg_w hts mb_fieldLink_RX1_15) (fun _ h9 => h9) rfl hin rfl (by decide +kernel) rfl rfl (Nat.le_of_ble_eq_true rfl) dX1_init_19 (fun H locs hP hD hS => ?_)
  have hP : va_P (dC, dI) vwCl ([(a, .inr (1, [.ref q1, .ref q2, .int 0])), (q1, .inl (c1, 2444, .inl (fun _ => 0))), (q2, .inl (c2, 2444, .inl (fun _ => 0)))]) H := hP
  have hD : va_D A ([(a, .inr (1, [.ref q1, .ref q2, .int 0])), (q1, .inl (c1, 2444, .inl (fun _ => 0))), (q2, .inl (c2, 2444, .inl (fun _ => 0)))]) := hD
  refine W.widen (k := 2) (n := 4888) (Nat.le_of_ble_eq_true rfl) (Nat.le_of_ble_eq_true rfl) ?_
  exact W.vret hx hb hr (fun t ht hW => ⟨⟨((q1, c1), (q2, c2)), rfl, trivial, by rw [ht]; exact hP, va_K.moved hW.alike hK, hD⟩, hS.F ht⟩) hS.2.2 dX1_init_22

set_option maxHeartbeats 4000000 in
set_option maxRecDepth 100000 in
theorem cX3_init_m (l : Launch) (dC : Nat → ClassId) (dI : Nat → Nat → Nat) (a : Nat) : ∀ sz : Nat, Met l yX3_init wsX3_init ({ frames := 5, cells := 9, slots := 10426, locals := 114 } : Room) (va_Pc [.ref a] (xP (dC, dI) [] [(a, .inr (3, [.null, .null, .null, .null, .null, .null, .int 0, .int 0]))] sz)) (va_Qv (S := (Nat → Nat) × (Nat → ClassId) × (Nat → Int32)) (fun u => u.1 0 = a) (fun u t => xB (dC, dI) (xt u.2.1) (va_A [(a, .inr (3, [.null, .null, .null, .null, .null, .null, .int 0, .int 0]))] sz) (xw u.1 u.2.1 (fun _ => 0) (fun _ => 0) u.2.2 0 0 (nI (pw_all (fun _ => 0) (fun _ => 0) 0 (fun _ => 0)).2) 0 0 0 (pw_all (fun _ => 0) (fun _ => 0) 0 (fun _ => 0)).1 0 (fun _ => 0) (fun _ => 0) 0 0 0) t) (va_A [(a, .inr (3, [.null, .null, .null, .null, .null, .null, .int 0, .int 0]))] sz)) 9 10426 (va_A [(a, .inr (3, [.null, .null, .null, .null, .null, .null, .int 0, .int 0]))] sz) := by
  intro sz
  refine Met.ofW (cc := cX3_init) (maxL := 1) (ret := none) (by decide) rfl ?_
  intro p e s m args below meth c s₁ B hml hv
  obtain ⟨rfl, hsz, hP, hK, hD0, hE⟩ := hv
  have hx := B.exec
  have hb := B.bytes
  have hr := B.returns
  have hts := atoms_spec (ws := wsX3_init) B.pre
  have hown : s.vm.findClass RX3 = some m.cls := findClass_of_methodNamed B.named
  have hlocks := B.notSynchronized
  have hin : meth.name = "<init>" := (name_of_methodNamed B.named B.method).1
  subst hsz
  have hD := hD0.self (sz := s.heap.size)
  generalize hAe : va_A [(a, .inr (3, [.null, .null, .null, .null, .null, .null, .int 0, .int 0]))] s.heap.size = A at hD hE ⊢
  have hA : ∀ q : Nat, s.heap.size ≤ q → A q := fun q h => by rw [← hAe]; exact Or.inr h
  have hS : va_S A s.heap s.heap [] := va_S.rf
  have hl := lv_entry ([.ref a]) (n := 1) (Nat.le_of_ble_eq_true rfl)
  rw [lg_entry_eq]
  generalize (lg_sl ([.ref a]) ++ List.replicate (1 - (lg_sl ([.ref a])).length) Slot.unset).toArray = ls at hl ⊢
  have hl : lv_has ls 1 [(0, .ref a)] := hl
  refine lv_aload_n hx hb dX3_init_0 rfl (lv_at hl 0 rfl) ?_
  refine W.objInit hx hb hown (xg_w hts mb_methodLink_RX3_3) (xg_w hts mb_instanceMethod_objectInit) (xg_w hts mb_code_objectInit) rfl (by rw [hml]; exact hl.1) rfl dX3_init_1 (Nat.le_of_ble_eq_true rfl) (Nat.le_of_ble_eq_true rfl) ?_
  refine lv_aload_n hx hb dX3_init_4 rfl (lv_at hl 0 rfl) ?_
  refine lv_sipush (v := 300) hx hb dX3_init_5 (by decide) ?_
  refine va_newa (atype := .int) (a0 := (300, .inl (fun _ => 0))) (N' := 300) hx hb (xg_w hts mb_arrayClass_int) (ty := .int) rfl hK hP hD hS hA (fun _ => rfl) (by decide) (by decide) (by decide) (Nat.le_of_ble_eq_true rfl) (Nat.le_of_ble_eq_true rfl) dX3_init_8 (fun q1 c1 H hK hP hD hS => ?_)
  have hK : va_K (dC, dI) vwCl [(c1, .int)] s := hK
  have hP : va_P (dC, dI) vwCl ([(a, .inr (3, [.null, .null, .null, .null, .null, .null, .int 0, .int 0])), (q1, .inl (c1, 300, .inl (fun _ => 0)))]) H := hP
  have hD : va_D A ([(a, .inr (3, [.null, .null, .null, .null, .null, .null, .int 0, .int 0])), (q1, .inl (c1, 300, .inl (fun _ => 0)))]) := hD
  refine va_putF (D := (dC, dI)) (ci := 3) (v := .ref q1) (ty := .array .int) (C := RX3) (T := TX3) (N := 8) (ref := "SortedRun") hx hb hts (xg_u mb_uws_X3) tyX3 tyX3_ok nmX3 hown hK hP hD hS 0 rfl rfl 0 (by decide) (xg_w hts mb_fieldLink_RX3_9) (fun _ h9 => h9) rfl hin rfl (by decide +kernel) rfl rfl (Nat.le_of_ble_eq_true rfl) dX3_init_10 (fun H locs hP hD hS => ?_)
  have hP : va_P (dC, dI) vwCl ([(a, .inr (3, [.ref q1, .null, .null, .null, .null, .null, .int 0, .int 0])), (q1, .inl (c1, 300, .inl (fun _ => 0)))]) H := hP
  have hD : va_D A ([(a, .inr (3, [.ref q1, .null, .null, .null, .null, .null, .int 0, .int 0])), (q1, .inl (c1, 300, .inl (fun _ => 0)))]) := hD
  refine lv_aload_n hx hb dX3_init_13 rfl (lv_at hl 0 rfl) ?_
  refine lv_sipush (v := 300) hx hb dX3_init_14 (by decide) ?_
  refine va_newa (atype := .long) (a0 := (300, .inr (.inl (fun _ => 0)))) (N' := 300) hx hb (xg_w hts mb_arrayClass_long) (ty := .long) rfl hK hP hD hS hA (fun _ => rfl) (by decide) (by decide) (by decide) (Nat.le_of_ble_eq_true rfl) (Nat.le_of_ble_eq_true rfl) dX3_init_17 (fun q2 c2 H hK hP hD hS => ?_)
  have hK : va_K (dC, dI) vwCl [(c1, .int), (c2, .long)] s := hK
  have hP : va_P (dC, dI) vwCl ([(a, .inr (3, [.ref q1, .null, .null, .null, .null, .null, .int 0, .int 0])), (q1, .inl (c1, 300, .inl (fun _ => 0))), (q2, .inl (c2, 300, .inr (.inl (fun _ => 0))))]) H := hP
  have hD : va_D A ([(a, .inr (3, [.ref q1, .null, .null, .null, .null, .null, .int 0, .int 0])), (q1, .inl (c1, 300, .inl (fun _ => 0))), (q2, .inl (c2, 300, .inr (.inl (fun _ => 0))))]) := hD
  refine va_putF (D := (dC, dI)) (ci := 3) (v := .ref q2) (ty := .array .long) (C := RX3) (T := TX3) (N := 8) (ref := "SortedRun") hx hb hts (xg_u mb_uws_X3) tyX3 tyX3_ok nmX3 hown hK hP hD hS 0 rfl rfl 1 (by decide) (xg_w hts mb_fieldLink_RX3_13) (fun _ h9 => h9) rfl hin rfl (by decide +kernel) rfl rfl (Nat.le_of_ble_eq_true rfl) dX3_init_19 (fun H locs hP hD hS => ?_)
  have hP : va_P (dC, dI) vwCl ([(a, .inr (3, [.ref q1, .ref q2, .null, .null, .null, .null, .int 0, .int 0])), (q1, .inl (c1, 300, .inl (fun _ => 0))), (q2, .inl (c2, 300, .inr (.inl (fun _ => 0))))]) H := hP
  have hD : va_D A ([(a, .inr (3, [.ref q1, .ref q2, .null, .null, .null, .null, .int 0, .int 0])), (q1, .inl (c1, 300, .inl (fun _ => 0))), (q2, .inl (c2, 300, .inr (.inl (fun _ => 0))))]) := hD
  refine lv_aload_n hx hb dX3_init_22 rfl (lv_at hl 0 rfl) ?_
  refine lv_bipush (v := 38) hx hb dX3_init_23 (by decide) ?_
  refine va_newa (atype := .int) (a0 := (38, .inl (fun _ => 0))) (N' := 38) hx hb (xg_w hts mb_arrayClass_int) (ty := .int) rfl hK hP hD hS hA (fun _ => rfl) (by decide) (by decide) (by decide) (Nat.le_of_ble_eq_true rfl) (Nat.le_of_ble_eq_true rfl) dX3_init_25 (fun q3 c3 H hK hP hD hS => ?_)
  have hK : va_K (dC, dI) vwCl [(c1, .int), (c2, .long), (c3, .int)] s := hK
  have hP : va_P (dC, dI) vwCl ([(a, .inr (3, [.ref q1, .ref q2, .null, .null, .null, .null, .int 0, .int 0])), (q1, .inl (c1, 300, .inl (fun _ => 0))), (q2, .inl (c2, 300, .inr (.inl (fun _ => 0)))), (q3, .inl (c3, 38, .inl (fun _ => 0)))]) H := hP
  have hD : va_D A ([(a, .inr (3, [.ref q1, .ref q2, .null, .null, .null, .null, .int 0, .int 0])), (q1, .inl (c1, 300, .inl (fun _ => 0))), (q2, .inl (c2, 300, .inr (.inl (fun _ => 0)))), (q3, .inl (c3, 38, .inl (fun _ => 0)))]) := hD
  refine va_putF (D := (dC, dI)) (ci := 3) (v := .ref q3) (ty := .array .int) (C := RX3) (T := TX3) (N := 8) (ref := "SortedRun") hx hb hts (xg_u mb_uws_X3) tyX3 tyX3_ok nmX3 hown hK hP hD hS 0 rfl rfl 2 (by decide) (xg_w hts mb_fieldLink_RX3_17) (fun _ h9 => h9) rfl hin rfl (by decide +kernel) rfl rfl (Nat.le_of_ble_eq_true rfl) dX3_init_27 (fun H locs hP hD hS => ?_)
  have hP : va_P (dC, dI) vwCl ([(a, .inr (3, [.ref q1, .ref q2, .ref q3, .null, .null, .null, .int 0, .int 0])), (q1, .inl (c1, 300, .inl (fun _ => 0))), (q2, .inl (c2, 300, .inr (.inl (fun _ => 0)))), (q3, .inl (c3, 38, .inl (fun _ => 0)))]) H := hP
  have hD : va_D A ([(a, .inr (3, [.ref q1, .ref q2, .ref q3, .null, .null, .null, .int 0, .int 0])), (q1, .inl (c1, 300, .inl (fun _ => 0))), (q2, .inl (c2, 300, .inr (.inl (fun _ => 0)))), (q3, .inl (c3, 38, .inl (fun _ => 0)))]) := hD
  refine lv_aload_n hx hb dX3_init_30 rfl (lv_at hl 0 rfl) ?_
  refine va_new (D := (dC, dI)) (ci := 2) (fs := [.null, .int 0, .int 0, .int 0, .int 0]) (C := RX2) (T := TX2) (N := 5) hx hb hts (xg_u mb_uws_X2) tyX2 tyX2_ok hown (xg_w hts mb_classLink_RX3_20) (xg_w hts mb_instantiable_RX2_5) (xg_w hts mb_initialized_RX2) hK hP hD hS hA rfl (fun j hj => by rcases (show j = 0 ∨ j = 1 ∨ j = 2 ∨ j = 3 ∨ j = 4 by omega) with rfl | rfl | rfl | rfl | rfl <;> rfl) (Nat.le_of_ble_eq_true rfl) (Nat.le_of_ble_eq_true rfl) dX3_init_31 (fun q4 H hP hD hS => ?_)
  have hP : va_P (dC, dI) vwCl ([(a, .inr (3, [.ref q1, .ref q2, .ref q3, .null, .null, .null, .int 0, .int 0])), (q1, .inl (c1, 300, .inl (fun _ => 0))), (q2, .inl (c2, 300, .inr (.inl (fun _ => 0)))), (q3, .inl (c3, 38, .inl (fun _ => 0))), (q4, .inr (2, [.null, .int 0, .int 0, .int 0, .int 0]))]) H := hP
  have hD : va_D A ([(a, .inr (3, [.ref q1, .ref q2, .ref q3, .null, .null, .null, .int 0, .int 0])), (q1, .inl (c1, 300, .inl (fun _ => 0))), (q2, .inl (c2, 300, .inr (.inl (fun _ => 0)))), (q3, .inl (c3, 38, .inl (fun _ => 0))), (q4, .inr (2, [.null, .int 0, .int 0, .int 0, .int 0]))]) := hD
  refine lv_dup hx hb dX3_init_34 rfl ?_
  have hP1 : va_P (dC, dI) vwCl [(q4, .inr (2, [.null, .int 0, .int 0, .int 0, .int 0]))] H := hP.sub [4] rfl
  have hP2 : va_P (dC, dI) vwCl [(a, .inr (3, [.ref q1, .ref q2, .ref q3, .null, .null, .null, .int 0, .int 0])), (q1, .inl (c1, 300, .inl (fun _ => 0))), (q2, .inl (c2, 300, .inr (.inl (fun _ => 0)))), (q3, .inl (c3, 38, .inl (fun _ => 0)))] H := hP.sub [0, 1, 2, 3] rfl
  have hD2 : va_D A ([(q4, .inr (2, [.null, .int 0, .int 0, .int 0, .int 0]))] ++ [(a, .inr (3, [.ref q1, .ref q2, .ref q3, .null, .null, .null, .int 0, .int 0])), (q1, .inl (c1, 300, .inl (fun _ => 0))), (q2, .inl (c2, 300, .inr (.inl (fun _ => 0)))), (q3, .inl (c3, 38, .inl (fun _ => 0)))]) := hD.sub [4, 0, 1, 2, 3] rfl rfl
  refine xf_v (va_runIN (As := []) (rest := [.ref q4, .ref a]) ⟨hx, hb, hml, hown, hts⟩ (cX2_init_m l dC dI q4 _) ⟨va_cnB 0 hts (xg_0 mb_code_yX2_init) rfl rfl rfl (xn_nw (w := .methodLinkNest RX3 22 yX2_init "SortedRun") (i := 25) hE rfl rfl) (xg_w hts mb_initialized_RX2) ⟨by decide, by decide, by decide +kernel⟩ ⟨Nat.le_of_ble_eq_true rfl, Nat.le_of_ble_eq_true rfl⟩, rfl, xg_w hts mb_instanceMethod_yX2_init⟩ (xpreS (wd := [(q4, .inr (2, [.null, .int 0, .int 0, .int 0, .int 0]))]) (hK.sub [] rfl) hP1 (xf_l hD2) hS hA hE) rfl rfl hl.1 rfl (lv_room (Nat.le_of_ble_eq_true rfl)) dX3_init_35 ⟨Nat.le_of_ble_eq_true rfl, Nat.le_of_ble_eq_true rfl⟩) hD2 hP2 hS hA (fun u H locs hu hK1 hP hD hS => ?_)
  obtain ⟨q5, c5⟩ := u
  dsimp only at hK1 hP hD
  have hP : va_P (dC, dI) vwCl [(a, .inr (3, [.ref q1, .ref q2, .ref q3, .null, .null, .null, .int 0, .int 0])), (q1, .inl (c1, 300, .inl (fun _ => 0))), (q2, .inl (c2, 300, .inr (.inl (fun _ => 0)))), (q3, .inl (c3, 38, .inl (fun _ => 0))), (q4, .inr (2, [.ref q5, .int 0, .int 0, .int 0, .int 0])), (q5, .inl (c5, 4889, .inl (fun _ => 0)))] H := hP.sub [2, 3, 4, 5, 0, 1] rfl
  have hD : va_D A [(a, .inr (3, [.ref q1, .ref q2, .ref q3, .null, .null, .null, .int 0, .int 0])), (q1, .inl (c1, 300, .inl (fun _ => 0))), (q2, .inl (c2, 300, .inr (.inl (fun _ => 0)))), (q3, .inl (c3, 38, .inl (fun _ => 0))), (q4, .inr (2, [.ref q5, .int 0, .int 0, .int 0, .int 0])), (q5, .inl (c5, 4889, .inl (fun _ => 0)))] := hD.sub [2, 3, 4, 5, 0, 1] rfl rfl
  have hK := va_K.app hK hK1
  have hK : va_K (dC, dI) vwCl [(c1, .int), (c2, .long), (c3, .int), (c5, .byte)] s := hK
  refine va_putF (D := (dC, dI)) (ci := 3) (v := .ref q4) (ty := .object "SortedRun$Table") (C := RX3) (T := TX3) (N := 8) (ref := "SortedRun") hx hb hts (xg_u mb_uws_X3) tyX3 tyX3_ok nmX3 hown hK hP hD hS 0 rfl rfl 3 (by decide) (xg_w hts mb_fieldLink_RX3_23) (fun _ h9 => h9) rfl hin rfl (by decide +kernel) rfl rfl (Nat.le_of_ble_eq_true rfl) dX3_init_38 (fun H locs hP hD hS => ?_)
  have hP : va_P (dC, dI) vwCl ([(a, .inr (3, [.ref q1, .ref q2, .ref q3, .ref q4, .null, .null, .int 0, .int 0])), (q1, .inl (c1, 300, .inl (fun _ => 0))), (q2, .inl (c2, 300, .inr (.inl (fun _ => 0)))), (q3, .inl (c3, 38, .inl (fun _ => 0))), (q4, .inr (2, [.ref q5, .int 0, .int 0, .int 0, .int 0])), (q5, .inl (c5, 4889, .inl (fun _ => 0)))]) H := hP
  have hD : va_D A ([(a, .inr (3, [.ref q1, .ref q2, .ref q3, .ref q4, .null, .null, .int 0, .int 0])), (q1, .inl (c1, 300, .inl (fun _ => 0))), (q2, .inl (c2, 300, .inr (.inl (fun _ => 0)))), (q3, .inl (c3, 38, .inl (fun _ => 0))), (q4, .inr (2, [.ref q5, .int 0, .int 0, .int 0, .int 0])), (q5, .inl (c5, 4889, .inl (fun _ => 0)))]) := hD
  refine lv_aload_n hx hb dX3_init_41 rfl (lv_at hl 0 rfl) ?_
  refine va_new (D := (dC, dI)) (ci := 1) (fs := [.null, .null, .int 0]) (C := RX1) (T := TX1) (N := 3) hx hb hts (xg_u mb_uws_X1) tyX1 tyX1_ok hown (xg_w hts mb_classLink_RX3_27) (xg_w hts mb_instantiable_RX1_3) (xg_w hts mb_initialized_RX1) hK hP hD hS hA rfl (fun j hj => by rcases (show j = 0 ∨ j = 1 ∨ j = 2 by omega) with rfl | rfl | rfl <;> rfl) (Nat.le_of_ble_eq_true rfl) (Nat.le_of_ble_eq_true rfl) dX3_init_42 (fun q6 H hP hD hS => ?_)
  have hP : va_P (dC, dI) vwCl ([(a, .inr (3, [.ref q1, .ref q2, .ref q3, .ref q4, .null, .null, .int 0, .int 0])), (q1, .inl (c1, 300, .inl (fun _ => 0))), (q2, .inl (c2, 300, .inr (.inl (fun _ => 0)))), (q3, .inl (c3, 38, .inl (fun _ => 0))), (q4, .inr (2, [.ref q5, .int 0, .int 0, .int 0, .int 0])), (q5, .inl (c5, 4889, .inl (fun _ => 0))), (q6, .inr (1, [.null, .null, .int 0]))]) H := hP
  have hD : va_D A ([(a, .inr (3, [.ref q1, .ref q2, .ref q3, .ref q4, .null, .null, .int 0, .int 0])), (q1, .inl (c1, 300, .inl (fun _ => 0))), (q2, .inl (c2, 300, .inr (.inl (fun _ => 0)))), (q3, .inl (c3, 38, .inl (fun _ => 0))), (q4, .inr (2, [.ref q5, .int 0, .int 0, .int 0, .int 0])), (q5, .inl (c5, 4889, .inl (fun _ => 0))), (q6, .inr (1, [.null, .null, .int 0]))]) := hD
  refine lv_dup hx hb dX3_init_45 rfl ?_
  have hP1 : va_P (dC, dI) vwCl [(q6, .inr (1, [.null, .null, .int 0]))] H := hP.sub [6] rfl
  have hP2 : va_P (dC, dI) vwCl [(a, .inr (3, [.ref q1, .ref q2, .ref q3, .ref q4, .null, .null, .int 0, .int 0])), (q1, .inl (c1, 300, .inl (fun _ => 0))), (q2, .inl (c2, 300, .inr (.inl (fun _ => 0)))), (q3, .inl (c3, 38, .inl (fun _ => 0))), (q4, .inr (2, [.ref q5, .int 0, .int 0, .int 0, .int 0])), (q5, .inl (c5, 4889, .inl (fun _ => 0)))] H := hP.sub [0, 1, 2, 3, 4, 5] rfl
  have hD2 : va_D A ([(q6, .inr (1, [.null, .null, .int 0]))] ++ [(a, .inr (3, [.ref q1, .ref q2, .ref q3, .ref q4, .null, .null, .int 0, .int 0])), (q1, .inl (c1, 300, .inl (fun _ => 0))), (q2, .inl (c2, 300, .inr (.inl (fun _ => 0)))), (q3, .inl (c3, 38, .inl (fun _ => 0))), (q4, .inr (2, [.ref q5, .int 0, .int 0, .int 0, .int 0])), (q5, .inl (c5, 4889, .inl (fun _ => 0)))]) := hD.sub [6, 0, 1, 2, 3, 4, 5] rfl rfl
  refine xf_v (va_runIN (As := []) (rest := [.ref q6, .ref a]) ⟨hx, hb, hml, hown, hts⟩ (cX1_init_m l dC dI q6 _) ⟨va_cnB 0 hts (xg_0 mb_code_yX1_init) rfl rfl rfl (xn_nw (w := .methodLinkNest RX3 29 yX1_init "SortedRun") (i := 55) hE rfl rfl) (xg_w hts mb_initialized_RX1) ⟨by decide, by decide, by decide +kernel⟩ ⟨Nat.le_of_ble_eq_true rfl, Nat.le_of_ble_eq_true rfl⟩, rfl, xg_w hts mb_instanceMethod_yX1_init⟩ (xpreS (wd := [(q6, .inr (1, [.null, .null, .int 0]))]) (hK.sub [] rfl) hP1 (xf_l hD2) hS hA hE) rfl rfl hl.1 rfl (lv_room (Nat.le_of_ble_eq_true rfl)) dX3_init_46 ⟨Nat.le_of_ble_eq_true rfl, Nat.le_of_ble_eq_true rfl⟩) hD2 hP2 hS hA (fun u H locs hu hK1 hP hD hS => ?_)
  obtain ⟨⟨q7, c7⟩, q8, c8⟩ := u
  dsimp only at hK1 hP hD
  have hP : va_P (dC, dI) vwCl [(a, .inr (3, [.ref q1, .ref q2, .ref q3, .ref q4, .null, .null, .int 0, .int 0])), (q1, .inl (c1, 300, .inl (fun _ => 0))), (q2, .inl (c2, 300, .inr (.inl (fun _ => 0)))), (q3, .inl (c3, 38, .inl (fun _ => 0))), (q4, .inr (2, [.ref q5, .int 0, .int 0, .int 0, .int 0])), (q5, .inl (c5, 4889, .inl (fun _ => 0))), (q6, .inr (1, [.ref q7, .ref q8, .int 0])), (q7, .inl (c7, 2444, .inl (fun _ => 0))), (q8, .inl (c8, 2444, .inl (fun _ => 0)))] H := hP.sub [3, 4, 5, 6, 7, 8, 0, 1, 2] rfl
  have hD : va_D A [(a, .inr (3, [.ref q1, .ref q2, .ref q3, .ref q4, .null, .null, .int 0, .int 0])), (q1, .inl (c1, 300, .inl (fun _ => 0))), (q2, .inl (c2, 300, .inr (.inl (fun _ => 0)))), (q3, .inl (c3, 38, .inl (fun _ => 0))), (q4, .inr (2, [.ref q5, .int 0, .int 0, .int 0, .int 0])), (q5, .inl (c5, 4889, .inl (fun _ => 0))), (q6, .inr (1, [.ref q7, .ref q8, .int 0])), (q7, .inl (c7, 2444, .inl (fun _ => 0))), (q8, .inl (c8, 2444, .inl (fun _ => 0)))] := hD.sub [3, 4, 5, 6, 7, 8, 0, 1, 2] rfl rfl
  have hK := va_K.app hK hK1
  have hK : va_K (dC, dI) vwCl [(c1, .int), (c2, .long), (c3, .int), (c5, .byte), (c7, .int), (c8, .int)] s := hK
  refine va_putF (D := (dC, dI)) (ci := 3) (v := .ref q6) (ty := .object "SortedRun$Index") (C := RX3) (T := TX3) (N := 8) (ref := "SortedRun") hx hb hts (xg_u mb_uws_X3) tyX3 tyX3_ok nmX3 hown hK hP hD hS 0 rfl rfl 4 (by decide) (xg_w hts mb_fieldLink_RX3_30) (fun _ h9 => h9) rfl hin rfl (by decide +kernel) rfl rfl (Nat.le_of_ble_eq_true rfl) dX3_init_49 (fun H locs hP hD hS => ?_)
  have hP : va_P (dC, dI) vwCl ([(a, .inr (3, [.ref q1, .ref q2, .ref q3, .ref q4, .ref q6, .null, .int 0, .int 0])), (q1, .inl (c1, 300, .inl (fun _ => 0))), (q2, .inl (c2, 300, .inr (.inl (fun _ => 0)))), (q3, .inl (c3, 38, .inl (fun _ => 0))), (q4, .inr (2, [.ref q5, .int 0, .int 0, .int 0, .int 0])), (q5, .inl (c5, 4889, .inl (fun _ => 0))), (q6, .inr (1, [.ref q7, .ref q8, .int 0])), (q7, .inl (c7, 2444, .inl (fun _ => 0))), (q8, .inl (c8, 2444, .inl (fun _ => 0)))]) H := hP
  have hD : va_D A ([(a, .inr (3, [.ref q1, .ref q2, .ref q3, .ref q4, .ref q6, .null, .int 0, .int 0])), (q1, .inl (c1, 300, .inl (fun _ => 0))), (q2, .inl (c2, 300, .inr (.inl (fun _ => 0)))), (q3, .inl (c3, 38, .inl (fun _ => 0))), (q4, .inr (2, [.ref q5, .int 0, .int 0, .int 0, .int 0])), (q5, .inl (c5, 4889, .inl (fun _ => 0))), (q6, .inr (1, [.ref q7, .ref q8, .int 0])), (q7, .inl (c7, 2444, .inl (fun _ => 0))), (q8, .inl (c8, 2444, .inl (fun _ => 0)))]) := hD
  refine lv_aload_n hx hb dX3_init_52 rfl (lv_at hl 0 rfl) ?_
  refine va_new (D := (dC, dI)) (ci := 0) (fs := [.int 0, .int 0, .long 0]) (C := RX0) (T := TX0) (N := 3) hx hb hts (xg_u mb_uws_X0) tyX0 tyX0_ok hown (xg_w hts mb_classLink_RX3_34) (xg_w hts mb_instantiable_RX0_3) (xg_w hts mb_initialized_RX0) hK hP hD hS hA rfl (fun j hj => by rcases (show j = 0 ∨ j = 1 ∨ j = 2 by omega) with rfl | rfl | rfl <;> rfl) (Nat.le_of_ble_eq_true rfl) (Nat.le_of_ble_eq_true rfl) dX3_init_53 (fun q9 H hP hD hS => ?_)
  have hP : va_P (dC, dI) vwCl ([(a, .inr (3, [.ref q1, .ref q2, .ref q3, .ref q4, .ref q6, .null, .int 0, .int 0])), (q1, .inl (c1, 300, .inl (fun _ => 0))), (q2, .inl (c2, 300, .inr (.inl (fun _ => 0)))), (q3, .inl (c3, 38, .inl (fun _ => 0))), (q4, .inr (2, [.ref q5, .int 0, .int 0, .int 0, .int 0])), (q5, .inl (c5, 4889, .inl (fun _ => 0))), (q6, .inr (1, [.ref q7, .ref q8, .int 0])), (q7, .inl (c7, 2444, .inl (fun _ => 0))), (q8, .inl (c8, 2444, .inl (fun _ => 0))), (q9, .inr (0, [.int 0, .int 0, .long 0]))]) H := hP
  have hD : va_D A ([(a, .inr (3, [.ref q1, .ref q2, .ref q3, .ref q4, .ref q6, .null, .int 0, .int 0])), (q1, .inl (c1, 300, .inl (fun _ => 0))), (q2, .inl (c2, 300, .inr (.inl (fun _ => 0)))), (q3, .inl (c3, 38, .inl (fun _ => 0))), (q4, .inr (2, [.ref q5, .int 0, .int 0, .int 0, .int 0])), (q5, .inl (c5, 4889, .inl (fun _ => 0))), (q6, .inr (1, [.ref q7, .ref q8, .int 0])), (q7, .inl (c7, 2444, .inl (fun _ => 0))), (q8, .inl (c8, 2444, .inl (fun _ => 0))), (q9, .inr (0, [.int 0, .int 0, .long 0]))]) := hD
  refine lv_dup hx hb dX3_init_56 rfl ?_
  have hP1 : va_P (dC, dI) vwCl [(q9, .inr (0, [.int 0, .int 0, .long 0]))] H := hP.sub [9] rfl
  have hP2 : va_P (dC, dI) vwCl [(a, .inr (3, [.ref q1, .ref q2, .ref q3, .ref q4, .ref q6, .null, .int 0, .int 0])), (q1, .inl (c1, 300, .inl (fun _ => 0))), (q2, .inl (c2, 300, .inr (.inl (fun _ => 0)))), (q3, .inl (c3, 38, .inl (fun _ => 0))), (q4, .inr (2, [.ref q5, .int 0, .int 0, .int 0, .int 0])), (q5, .inl (c5, 4889, .inl (fun _ => 0))), (q6, .inr (1, [.ref q7, .ref q8, .int 0])), (q7, .inl (c7, 2444, .inl (fun _ => 0))), (q8, .inl (c8, 2444, .inl (fun _ => 0)))] H := hP.sub [0, 1, 2, 3, 4, 5, 6, 7, 8] rfl
  have hD2 : va_D A ([(q9, .inr (0, [.int 0, .int 0, .long 0]))] ++ [(a, .inr (3, [.ref q1, .ref q2, .ref q3, .ref q4, .ref q6, .null, .int 0, .int 0])), (q1, .inl (c1, 300, .inl (fun _ => 0))), (q2, .inl (c2, 300, .inr (.inl (fun _ => 0)))), (q3, .inl (c3, 38, .inl (fun _ => 0))), (q4, .inr (2, [.ref q5, .int 0, .int 0, .int 0, .int 0])), (q5, .inl (c5, 4889, .inl (fun _ => 0))), (q6, .inr (1, [.ref q7, .ref q8, .int 0])), (q7, .inl (c7, 2444, .inl (fun _ => 0))), (q8, .inl (c8, 2444, .inl (fun _ => 0)))]) := hD.sub [9, 0, 1, 2, 3, 4, 5, 6, 7, 8] rfl rfl
  refine xf_v (va_runIN (As := []) (rest := [.ref q9, .ref a]) ⟨hx, hb, hml, hown, hts⟩ (cX0_init_m l dC dI q9 _) ⟨va_cnB 0 hts (xg_0 mb_code_yX0_init) rfl rfl rfl (xn_nw (w := .methodLinkNest RX3 36 yX0_init "SortedRun") (i := 72) hE rfl rfl) (xg_w hts mb_initialized_RX0) ⟨by decide, by decide, by decide +kernel⟩ ⟨Nat.le_of_ble_eq_true rfl, Nat.le_of_ble_eq_true rfl⟩, rfl, xg_w hts mb_instanceMethod_yX0_init⟩ (xpreS (wd := [(q9, .inr (0, [.int 0, .int 0, .long 0]))]) (hK.sub [] rfl) hP1 (xf_l hD2) hS hA hE) rfl rfl hl.1 rfl (lv_room (Nat.le_of_ble_eq_true rfl)) dX3_init_57 ⟨Nat.le_of_ble_eq_true rfl, Nat.le_of_ble_eq_true rfl⟩) hD2 hP2 hS hA (fun u H locs hu hK1 hP hD hS => ?_)
  have hP : va_P (dC, dI) vwCl [(a, .inr (3, [.ref q1, .ref q2, .ref q3, .ref q4, .ref q6, .null, .int 0, .int 0])), (q1, .inl (c1, 300, .inl (fun _ => 0))), (q2, .inl (c2, 300, .inr (.inl (fun _ => 0)))), (q3, .inl (c3, 38, .inl (fun _ => 0))), (q4, .inr (2, [.ref q5, .int 0, .int 0, .int 0, .int 0])), (q5, .inl (c5, 4889, .inl (fun _ => 0))), (q6, .inr (1, [.ref q7, .ref q8, .int 0])), (q7, .inl (c7, 2444, .inl (fun _ => 0))), (q8, .inl (c8, 2444, .inl (fun _ => 0))), (q9, .inr (0, [.int 0, .int 0, .long 0]))] H := hP.sub [1, 2, 3, 4, 5, 6, 7, 8, 9, 0] rfl
  have hD : va_D A [(a, .inr (3, [.ref q1, .ref q2, .ref q3, .ref q4, .ref q6, .null, .int 0, .int 0])), (q1, .inl (c1, 300, .inl (fun _ => 0))), (q2, .inl (c2, 300, .inr (.inl (fun _ => 0)))), (q3, .inl (c3, 38, .inl (fun _ => 0))), (q4, .inr (2, [.ref q5, .int 0, .int 0, .int 0, .int 0])), (q5, .inl (c5, 4889, .inl (fun _ => 0))), (q6, .inr (1, [.ref q7, .ref q8, .int 0])), (q7, .inl (c7, 2444, .inl (fun _ => 0))), (q8, .inl (c8, 2444, .inl (fun _ => 0))), (q9, .inr (0, [.int 0, .int 0, .long 0]))] := hD.sub [1, 2, 3, 4, 5, 6, 7, 8, 9, 0] rfl rfl
  refine va_putF (D := (dC, dI)) (ci := 3) (v := .ref q9) (ty := .object "SortedRun$Entry") (C := RX3) (T := TX3) (N := 8) (ref := "SortedRun") hx hb hts (xg_u mb_uws_X3) tyX3 tyX3_ok nmX3 hown hK hP hD hS 0 rfl rfl 5 (by decide) (xg_w hts mb_fieldLink_RX3_37) (fun _ h9 => h9) rfl hin rfl (by decide +kernel) rfl rfl (Nat.le_of_ble_eq_true rfl) dX3_init_60 (fun H locs hP hD hS => ?_)
  have hP : va_P (dC, dI) vwCl ([(a, .inr (3, [.ref q1, .ref q2, .ref q3, .ref q4, .ref q6, .ref q9, .int 0, .int 0])), (q1, .inl (c1, 300, .inl (fun _ => 0))), (q2, .inl (c2, 300, .inr (.inl (fun _ => 0)))), (q3, .inl (c3, 38, .inl (fun _ => 0))), (q4, .inr (2, [.ref q5, .int 0, .int 0, .int 0, .int 0])), (q5, .inl (c5, 4889, .inl (fun _ => 0))), (q6, .inr (1, [.ref q7, .ref q8, .int 0])), (q7, .inl (c7, 2444, .inl (fun _ => 0))), (q8, .inl (c8, 2444, .inl (fun _ => 0))), (q9, .inr (0, [.int 0, .int 0, .long 0]))]) H := hP
  have hD : va_D A ([(a, .inr (3, [.ref q1, .ref q2, .ref q3, .ref q4, .ref q6, .ref q9, .int 0, .int 0])), (q1, .inl (c1, 300, .inl (fun _ => 0))), (q2, .inl (c2, 300, .inr (.inl (fun _ => 0)))), (q3, .inl (c3, 38, .inl (fun _ => 0))), (q4, .inr (2, [.ref q5, .int 0, .int 0, .int 0, .int 0])), (q5, .inl (c5, 4889, .inl (fun _ => 0))), (q6, .inr (1, [.ref q7, .ref q8, .int 0])), (q7, .inl (c7, 2444, .inl (fun _ => 0))), (q8, .inl (c8, 2444, .inl (fun _ => 0))), (q9, .inr (0, [.int 0, .int 0, .long 0]))]) := hD
  obtain ⟨ad, g0, g1, g2, g3, g4, g5, g6, g7, g8, g9⟩ : ∃ ad : Nat → Nat, ad 0 = a ∧ ad 1 = q1 ∧ ad 2 = q2 ∧ ad 3 = q3 ∧ ad 4 = q4 ∧ ad 5 = q5 ∧ ad 6 = q6 ∧ ad 7 = q7 ∧ ad 8 = q8 ∧ ad 9 = q9 := ⟨fun k => [a, q1, q2, q3, q4, q5, q6, q7, q8, q9].getD k 0, rfl, rfl, rfl, rfl, rfl, rfl, rfl, rfl, rfl, rfl⟩
  obtain ⟨ca, k0, k1, k2, k3, k4, k5, k6, k7⟩ : ∃ ca : Nat → ClassId, ca 0 = c1 ∧ ca 1 = c2 ∧ ca 2 = c5 ∧ ca 3 = c3 ∧ ca 4 = c7 ∧ ca 5 = c8 ∧ ca 6 = c1 ∧ ca 7 = c2 := ⟨fun k => [c1, c2, c5, c3, c7, c8, c1, c2].getD k c1, rfl, rfl, rfl, rfl, rfl, rfl, rfl, rfl⟩
  subst g0
  subst g1
  subst g2
  subst g3
  subst g4
  subst g5
  subst g6
  subst g7
  subst g8
  subst g9
  have hK : va_K (dC, dI) vwCl (xt ca) s := by
    have h9 := hK.sub [0, 1, 3, 2, 4, 5, 0, 1] rfl
    simp only [xt, k0, k1, k2, k3, k4, k5, k6, k7]
    exact h9
  have hP : va_P (dC, dI) vwCl (xw ad ca (fun _ => 0) (fun _ => 0) (fun _ => 0) (nI 0) 0 0 0 0 0 (fun _ => 0) 0 (fun _ => 0) (fun _ => 0) 0 0 0) H := by simp only [xw, k0, k1, k2, k3, k4, k5]; exact hP
  have hD : va_D A (xw ad ca (fun _ => 0) (fun _ => 0) (fun _ => 0) (nI 0) 0 0 0 0 0 (fun _ => 0) 0 (fun _ => 0) (fun _ => 0) 0 0 0) := by simp only [xw, k0, k1, k2, k3, k4, k5]; exact hD
  have hl : lv_has ls 1 [(0, .ref (ad 0))] := hl
  refine lv_aload_n hx hb dX3_init_63 rfl (lv_at hl 0 rfl) ?_
  refine xk_v (va_runV (As := []) (rest := []) ⟨hx, hb, hml, hown, hts⟩ (cX3_writeTable_m l dC dI ca ad (fun _ => 0) (fun _ => 0) (fun _ => 0) 0 0 0 0 0 (fun _ => 0) 0 (fun _ => 0) (fun _ => 0) 0 0 0 0 (by decide) (fun i hi => absurd hi (Nat.not_lt_zero _)) _) (cwV 0 hts (xg_V mb_methodLink_RX3_41 mb_instanceMethod_yX3_writeTable mb_selects_yX3_writeTable mb_initialized_RX3 mb_code_yX3_writeTable) rfl rfl rfl ⟨rfl, by decide, by decide, by decide +kernel⟩ ⟨Nat.le_of_ble_eq_true rfl, Nat.le_of_ble_eq_true rfl⟩) (xpreV (va_recv (q0 := 0) hK hP rfl rfl) hK hP hD hS hA hE) rfl rfl hl.1 rfl (lv_room (Nat.le_of_ble_eq_true rfl)) dX3_init_64 ⟨Nat.le_of_ble_eq_true rfl, Nat.le_of_ble_eq_true rfl⟩) hD hS hA (fun u H locs hu hP hD hS => ?_)
  have hP : va_P (dC, dI) vwCl (xw ad ca (fun _ => 0) (fun _ => 0) u 0 0 (nI (pw_all (fun _ => 0) (fun _ => 0) 0 (fun _ => 0)).2) 0 0 0 ((pw_all (fun _ => 0) (fun _ => 0) 0 (fun _ => 0)).1) 0 (fun _ => 0) (fun _ => 0) 0 0 0) H := hP
  have hD : va_D A (xw ad ca (fun _ => 0) (fun _ => 0) u 0 0 (nI (pw_all (fun _ => 0) (fun _ => 0) 0 (fun _ => 0)).2) 0 0 0 ((pw_all (fun _ => 0) (fun _ => 0) 0 (fun _ => 0)).1) 0 (fun _ => 0) (fun _ => 0) 0 0 0) := hD
  refine W.widen (k := 9) (n := 10426) (Nat.le_of_ble_eq_true rfl) (Nat.le_of_ble_eq_true rfl) ?_
  exact W.vret hx hb hr (fun t ht hW => ⟨⟨(ad, ca, u), rfl, rfl, by rw [ht]; exact hP, va_K.moved hW.alike hK, hD⟩, hS.F ht⟩) hS.2.2 dX3_init_67
