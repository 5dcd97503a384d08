/-! SortedRunModel: the calls (rows by wip/whole/wmod4.py) -/
set_option maxHeartbeats 4000000 in
set_option maxRecDepth 100000 in
theorem cX4_thrown_m (l : Launch) (dC : Nat → ClassId) (dI : Nat → Nat → Nat) (ca : Nat → ClassId) (ad : Nat → Nat) (kf : Nat → Int32) (vf : Nat → Int64) (tf : Nat → Int32) (fr : Nat → Int32) (sf : Nat → Int32) (fi : Nat → Int32) (bk : Nat → Int32) (bv : Nat → Int64) (w : Int32) (ny : Int32) (nb : Int32) (mn : Int32) (ai : Int32) (en : Int32) (th : Int32) (op : Int32) (wr : Int32) : ∀ sz : Nat, Met l yX4_thrown wsX4_thrown ({ frames := 0, cells := 0, slots := 0, locals := 0 } : Room) (va_Pc [.ref (ad 0)] (xP (dC, dI) (xt ca) (xm ad ca kf vf tf fr sf fi bk bv w ny nb mn ai en th op wr) sz)) (va_Qi (S := Unit) (fun r _ => r = th) (fun u t => xB (dC, dI) (xt ca) (va_A (xm ad ca kf vf tf fr sf fi bk bv w ny nb mn ai en th op wr) sz) (xm ad ca kf vf tf fr sf fi bk bv w ny nb mn ai en th op wr) t) (va_A (xm ad ca kf vf tf fr sf fi bk bv w ny nb mn ai en th op wr) sz)) 0 0 (va_A (xm ad ca kf vf tf fr sf fi bk bv w ny nb mn ai en th op wr) sz) := by
  intro sz
  refine Met.ofW (cc := cX4_thrown) (maxL := 1) (ret := (some .int)) (by decide) rfl ?_
  intro p e s m args below meth c s₁ B hml hv
  obtain ⟨rfl, hsz, hP, hK, hD0, hE⟩ := hv
  have hx := B.exec
  have hb := B.bytes
  have hr := B.returns
  have hts := atoms_spec (ws := wsX4_thrown) B.pre
  have hown : s.vm.findClass RX4 = some m.cls := findClass_of_methodNamed B.named
  have hlocks := B.notSynchronized
  subst hsz
  have hD := hD0.self (sz := s.heap.size)
  generalize hAe : va_A (xm ad ca kf vf tf fr sf fi bk bv w ny nb mn ai en th op wr) s.heap.size = A at hD hE ⊢
  have hA : ∀ q : Nat, s.heap.size ≤ q → A q := fun q h => by rw [← hAe]; exact Or.inr h
  have hS : va_S A s.heap s.heap [] := va_S.rf
  have hl := lv_entry ([.ref (ad 0)]) (n := 1) (Nat.le_of_ble_eq_true rfl)
  rw [lg_entry_eq]
  generalize (lg_sl ([.ref (ad 0)]) ++ List.replicate (1 - (lg_sl ([.ref (ad 0)])).length) Slot.unset).toArray = ls at hl ⊢
  have hl : lv_has ls 1 [(0, .ref (ad 0))] := hl
  refine lv_aload_n hx hb dX4_thrown_0 rfl (lv_at hl 0 rfl) ?_
  refine va_get (D := (dC, dI)) (ci := 4) (v := .int th) (C := RX4) (T := TX4) (N := 17) (ref := "SortedRunModel") hx hb hts (xg_u mb_uws_X4) hown hK hP 0 rfl rfl 14 (by decide) (xg_w hts mb_fieldLink_RX4_39) (fun _ h9 => h9) rfl dX4_thrown_1 ?_
  have hP9 := hP
  have hD9 := hD
  exact W.iret (v := th) hx hb hr (fun t ht hW => ⟨⟨th, (), rfl, rfl, by rw [ht]; exact hP9, va_K.moved hW.alike hK, hD9⟩, hS.F ht⟩) hS.2.2 dX4_thrown_4

set_option maxHeartbeats 4000000 in
set_option maxRecDepth 100000 in
theorem cX4_size_m (l : Launch) (dC : Nat → ClassId) (dI : Nat → Nat → Nat) (ca : Nat → ClassId) (ad : Nat → Nat) (kf : Nat → Int32) (vf : Nat → Int64) (tf : Nat → Int32) (fr : Nat → Int32) (sf : Nat → Int32) (fi : Nat → Int32) (bk : Nat → Int32) (bv : Nat → Int64) (w : Int32) (ny : Int32) (nb : Int32) (mn : Int32) (ai : Int32) (en : Int32) (th : Int32) (op : Int32) (wr : Int32) : ∀ sz : Nat, Met l yX4_size wsX4_size ({ frames := 0, cells := 0, slots := 0, locals := 0 } : Room) (va_Pc [.ref (ad 0)] (xP (dC, dI) (xt ca) (xm ad ca kf vf tf fr sf fi bk bv w ny nb mn ai en th op wr) sz)) (va_Qi (S := Unit) (fun r _ => r = ny) (fun u t => xB (dC, dI) (xt ca) (va_A (xm ad ca kf vf tf fr sf fi bk bv w ny nb mn ai en th op wr) sz) (xm ad ca kf vf tf fr sf fi bk bv w ny nb mn ai en 0 op wr) t) (va_A (xm ad ca kf vf tf fr sf fi bk bv w ny nb mn ai en th op wr) sz)) 0 0 (va_A (xm ad ca kf vf tf fr sf fi bk bv w ny nb mn ai en th op wr) sz) := by
  intro sz
  refine Met.ofW (cc := cX4_size) (maxL := 1) (ret := (some .int)) (by decide) rfl ?_
  intro p e s m args below meth c s₁ B hml hv
  obtain ⟨rfl, hsz, hP, hK, hD0, hE⟩ := hv
  have hx := B.exec
  have hb := B.bytes
  have hr := B.returns
  have hts := atoms_spec (ws := wsX4_size) B.pre
  have hown : s.vm.findClass RX4 = some m.cls := findClass_of_methodNamed B.named
  have hlocks := B.notSynchronized
  subst hsz
  have hD := hD0.self (sz := s.heap.size)
  generalize hAe : va_A (xm ad ca kf vf tf fr sf fi bk bv w ny nb mn ai en th op wr) s.heap.size = A at hD hE ⊢
  have hA : ∀ q : Nat, s.heap.size ≤ q → A q := fun q h => by rw [← hAe]; exact Or.inr h
  have hS : va_S A s.heap s.heap [] := va_S.rf
  have hl := lv_entry ([.ref (ad 0)]) (n := 1) (Nat.le_of_ble_eq_true rfl)
  rw [lg_entry_eq]
  generalize (lg_sl ([.ref (ad 0)]) ++ List.replicate (1 - (lg_sl ([.ref (ad 0)])).length) Slot.unset).toArray = ls at hl ⊢
  have hl : lv_has ls 1 [(0, .ref (ad 0))] := hl
  refine lv_aload_n hx hb dX4_size_0 rfl (lv_at hl 0 rfl) ?_
  refine lv_iconst (v := 0) hx hb dX4_size_1 (by decide) ?_
  refine va_put (D := (dC, dI)) (ci := 4) (v := .int 0) (ty := .int) (C := RX4) (T := TX4) (N := 17) (ref := "SortedRunModel") hx hb hts (xg_u mb_uws_X4) tyX4 tyX4_ok nmX4 hown hK hP hD hS 0 rfl rfl 14 (by decide) (xg_w hts mb_fieldLink_RX4_39) (fun _ h9 => h9) rfl (by decide +kernel) rfl rfl (Nat.le_of_ble_eq_true rfl) dX4_size_2 (fun H locs hP hD hS => ?_)
  have hP : va_P (dC, dI) vwCl (xm ad ca kf vf tf fr sf fi bk bv w ny nb mn ai en 0 op wr) H := hP
  have hD : va_D A (xm ad ca kf vf tf fr sf fi bk bv w ny nb mn ai en 0 op wr) := hD
  refine lv_aload_n hx hb dX4_size_5 rfl (lv_at hl 0 rfl) ?_
  refine va_get (D := (dC, dI)) (ci := 4) (v := .int ny) (C := RX4) (T := TX4) (N := 17) (ref := "SortedRunModel") hx hb hts (xg_u mb_uws_X4) hown hK hP 0 rfl rfl 9 (by decide) (xg_w hts mb_fieldLink_RX4_45) (fun _ h9 => h9) rfl dX4_size_6 ?_
  have hP9 := hP
  have hD9 := hD
  exact W.iret (v := ny) hx hb hr (fun t ht hW => ⟨⟨ny, (), rfl, rfl, by rw [ht]; exact hP9, va_K.moved hW.alike hK, hD9⟩, hS.F ht⟩) hS.2.2 dX4_size_9

set_option maxHeartbeats 4000000 in
set_option maxRecDepth 100000 in
theorem cX4_add_m (l : Launch) (dC : Nat → ClassId) (dI : Nat → Nat → Nat) (ca : Nat → ClassId) (ad : Nat → Nat) (kf : Nat → Int32) (vf : Nat → Int64) (tf : Nat → Int32) (fr : Nat → Int32) (sf : Nat → Int32) (fi : Nat → Int32) (bk : Nat → Int32) (bv : Nat → Int64) (ny : Int32) (nb : Int32) (mn : Int32) (ai : Int32) (en : Int32) (th : Int32) (op : Int32) (wr : Int32) (n : Nat) (key : Int32) (v : Int64) (hn : n ≤ 300) : ∀ sz : Nat, Met l yX4_add wsX4_add ({ frames := 0, cells := 0, slots := 0, locals := 0 } : Room) (va_Pc [.ref (ad 0), .int key, .long v] (xP (dC, dI) (xt ca) (xm ad ca kf vf tf fr sf fi bk bv (nI n) ny nb mn ai en th op wr) sz)) (va_Qi (S := Int32 × Int32 × (Nat → Int32) × (Nat → Int64)) (fun r u => (u.1 = 0 ∧ n < 300 ∧ (n = 0 ∨ kf (n - 1) < key) ∧ r = nI (n + 1) ∧ u.2 = (nI (n + 1), upd kf n key, vp_updL vf n v)) ∨ (u.1 = 2 ∧ n = 300 ∧ u.2 = (nI n, kf, vf)) ∨ (u.1 = 1 ∧ n < 300 ∧ 0 < n ∧ key ≤ kf (n - 1) ∧ u.2 = (nI n, kf, vf))) (fun u t => xB (dC, dI) (xt ca) (va_A (xm ad ca kf vf tf fr sf fi bk bv (nI n) ny nb mn ai en th op wr) sz) (xm ad ca u.2.2.1 u.2.2.2 tf fr sf fi bk bv u.2.1 ny nb mn ai en u.1 op wr) t) (va_A (xm ad ca kf vf tf fr sf fi bk bv (nI n) ny nb mn ai en th op wr) sz)) 0 0 (va_A (xm ad ca kf vf tf fr sf fi bk bv (nI n) ny nb mn ai en th op wr) sz) := by
  intro sz
  refine Met.ofW (cc := cX4_add) (maxL := 4) (ret := (some .int)) (by decide) rfl ?_
  intro p e s m args below meth c s₁ B hml hv
  obtain ⟨rfl, hsz, hP, hK, hD0, hE⟩ := hv
  have hx := B.exec
  have hb := B.bytes
  have hr := B.returns
  have hts := atoms_spec (ws := wsX4_add) B.pre
  have hown : s.vm.findClass RX4 = some m.cls := findClass_of_methodNamed B.named
  have hlocks := B.notSynchronized
  subst hsz
  have hD := hD0.self (sz := s.heap.size)
  generalize hAe : va_A (xm ad ca kf vf tf fr sf fi bk bv (nI n) ny nb mn ai en th op wr) s.heap.size = A at hD hE ⊢
  have hA : ∀ q : Nat, s.heap.size ≤ q → A q := fun q h => by rw [← hAe]; exact Or.inr h
  have hS : va_S A s.heap s.heap [] := va_S.rf
  have hl := lv_entry ([.ref (ad 0), .int key, .long v]) (n := 4) (Nat.le_of_ble_eq_true rfl)
  rw [lg_entry_eq]
  generalize (lg_sl ([.ref (ad 0), .int key, .long v]) ++ List.replicate (4 - (lg_sl ([.ref (ad 0), .int key, .long v])).length) Slot.unset).toArray = ls at hl ⊢
  have hl : lv_has ls 4 [(0, .ref (ad 0)), (1, .int key), (2, .long v)] := hl
  refine lv_aload_n hx hb dX4_add_0 rfl (lv_at hl 0 rfl) ?_
  refine lv_aload_n hx hb dX4_add_1 rfl (lv_at hl 0 rfl) ?_
  refine va_get (D := (dC, dI)) (ci := 4) (v := .int (nI n)) (C := RX4) (T := TX4) (N := 17) (ref := "SortedRunModel") hx hb hts (xg_u mb_uws_X4) hown hK hP 0 rfl rfl 8 (by decide) (xg_w hts mb_fieldLink_RX4_59) (fun _ h9 => h9) rfl dX4_add_2 ?_
  refine lv_sipush (v := nI 300) hx hb dX4_add_5 (by decide) ?_
  refine lv_icmp_ne (tgt := 15) hx hb dX4_add_8 rfl (fun hc => ?_) (fun hc => ?_)
  · have hn3 : n < 300 := Nat.lt_of_le_of_ne hn (fun z => hc (congrArg nI z))
    refine lv_aload_n hx hb dX4_add_15 rfl (lv_at hl 0 rfl) ?_
    refine va_get (D := (dC, dI)) (ci := 4) (v := .int (nI n)) (C := RX4) (T := TX4) (N := 17) (ref := "SortedRunModel") hx hb hts (xg_u mb_uws_X4) hown hK hP 0 rfl rfl 8 (by decide) (xg_w hts mb_fieldLink_RX4_59) (fun _ h9 => h9) rfl dX4_add_16 ?_
    refine lv_if_le (tgt := 41) hx hb dX4_add_19 rfl (fun hc2 => ?_) (fun hc2 => ?_)
    · have hk9 : n = 0 ∨ kf (n - 1) < key := Or.inl (by have := (nI_leI (b := 0) (by omega) (by decide)).mp hc2; omega)
      refine lv_iconst (v := 0) hx hb dX4_add_41 (by decide) ?_
      refine va_put (D := (dC, dI)) (ci := 4) (v := .int 0) (ty := .int) (C := RX4) (T := TX4) (N := 17) (ref := "SortedRunModel") hx hb hts (xg_u mb_uws_X4) tyX4 tyX4_ok nmX4 hown hK hP hD hS 0 rfl rfl 14 (by decide) (xg_w hts mb_fieldLink_RX4_39) (fun _ h9 => h9) rfl (by decide +kernel) rfl rfl (Nat.le_of_ble_eq_true rfl) dX4_add_42 (fun H locs hP hD hS => ?_)
      have hP : va_P (dC, dI) vwCl (xm ad ca kf vf tf fr sf fi bk bv (nI n) ny nb mn ai en 0 op wr) H := hP
      have hD : va_D A (xm ad ca kf vf tf fr sf fi bk bv (nI n) ny nb mn ai en 0 op wr) := hD
      refine lv_aload_n hx hb dX4_add_45 rfl (lv_at hl 0 rfl) ?_
      refine va_get (D := (dC, dI)) (ci := 4) (v := .int 0) (C := RX4) (T := TX4) (N := 17) (ref := "SortedRunModel") hx hb hts (xg_u mb_uws_X4) hown hK hP 0 rfl rfl 14 (by decide) (xg_w hts mb_fieldLink_RX4_39) (fun _ h9 => h9) rfl dX4_add_46 ?_
      refine lv_if_le (tgt := 54) hx hb dX4_add_49 rfl (fun hc => ?_) (fun hc => absurd hc (not_not_intro (by decide)))
      refine lv_aload_n hx hb dX4_add_54 rfl (lv_at hl 0 rfl) ?_
      refine va_get (D := (dC, dI)) (ci := 4) (v := .ref (ad 1)) (C := RX4) (T := TX4) (N := 17) (ref := "SortedRunModel") hx hb hts (xg_u mb_uws_X4) hown hK hP 0 rfl rfl 0 (by decide) (xg_w hts mb_fieldLink_RX4_9) (fun _ h9 => h9) rfl dX4_add_55 ?_
      refine lv_aload_n hx hb dX4_add_58 rfl (lv_at hl 0 rfl) ?_
      refine va_get (D := (dC, dI)) (ci := 4) (v := .int (nI n)) (C := RX4) (T := TX4) (N := 17) (ref := "SortedRunModel") hx hb hts (xg_u mb_uws_X4) hown hK hP 0 rfl rfl 8 (by decide) (xg_w hts mb_fieldLink_RX4_59) (fun _ h9 => h9) rfl dX4_add_59 ?_
      refine lv_iload_n hx hb dX4_add_62 rfl (lv_at hl 1 rfl) ?_
      refine va_iast hx hb hK hP hD hS 1 0 rfl rfl (vp_in_nI hn3 (by decide)) dX4_add_63 (fun H locs hP hD hS => ?_)
      have e9 : upd kf (nI n).toNatClampNeg key = upd kf n key := by rw [nI_clamp (by omega)]
      rw [e9] at hP hD
      clear e9
      have hP : va_P (dC, dI) vwCl (xm ad ca (upd kf n key) vf tf fr sf fi bk bv (nI n) ny nb mn ai en 0 op wr) H := hP
      have hD : va_D A (xm ad ca (upd kf n key) vf tf fr sf fi bk bv (nI n) ny nb mn ai en 0 op wr) := hD
      refine lv_aload_n hx hb dX4_add_64 rfl (lv_at hl 0 rfl) ?_
      refine va_get (D := (dC, dI)) (ci := 4) (v := .ref (ad 2)) (C := RX4) (T := TX4) (N := 17) (ref := "SortedRunModel") hx hb hts (xg_u mb_uws_X4) hown hK hP 0 rfl rfl 1 (by decide) (xg_w hts mb_fieldLink_RX4_13) (fun _ h9 => h9) rfl dX4_add_65 ?_
      refine lv_aload_n hx hb dX4_add_68 rfl (lv_at hl 0 rfl) ?_
      refine va_get (D := (dC, dI)) (ci := 4) (v := .int (nI n)) (C := RX4) (T := TX4) (N := 17) (ref := "SortedRunModel") hx hb hts (xg_u mb_uws_X4) hown hK hP 0 rfl rfl 8 (by decide) (xg_w hts mb_fieldLink_RX4_59) (fun _ h9 => h9) rfl dX4_add_69 ?_
      refine lv_lload_n hx hb dX4_add_72 rfl (lv_at hl 2 rfl) ?_
      refine va_last hx hb hK hP hD hS 2 1 rfl rfl (vp_in_nI hn3 (by decide)) dX4_add_73 (fun H locs hP hD hS => ?_)
      have e9 : vp_updL vf (nI n).toNatClampNeg v = vp_updL vf n v := by rw [nI_clamp (by omega)]
      rw [e9] at hP hD
      clear e9
      have hP : va_P (dC, dI) vwCl (xm ad ca (upd kf n key) (vp_updL vf n v) tf fr sf fi bk bv (nI n) ny nb mn ai en 0 op wr) H := hP
      have hD : va_D A (xm ad ca (upd kf n key) (vp_updL vf n v) tf fr sf fi bk bv (nI n) ny nb mn ai en 0 op wr) := hD
      refine lv_aload_n hx hb dX4_add_74 rfl (lv_at hl 0 rfl) ?_
      refine lv_dup hx hb dX4_add_75 rfl ?_
      refine va_get (D := (dC, dI)) (ci := 4) (v := .int (nI n)) (C := RX4) (T := TX4) (N := 17) (ref := "SortedRunModel") hx hb hts (xg_u mb_uws_X4) hown hK hP 0 rfl rfl 8 (by decide) (xg_w hts mb_fieldLink_RX4_59) (fun _ h9 => h9) rfl dX4_add_76 ?_
      refine lv_iconst (v := 1) hx hb dX4_add_79 (by decide) ?_
      refine lv_iadd hx hb dX4_add_80 ?_
      refine lv_topi (fun z1 ez1 => ?_)
      have ez1 : z1 = nI (n + 1) := ez1.trans (nI_1 n)
      subst ez1
      refine va_put (D := (dC, dI)) (ci := 4) (v := .int (nI (n + 1))) (ty := .int) (C := RX4) (T := TX4) (N := 17) (ref := "SortedRunModel") hx hb hts (xg_u mb_uws_X4) tyX4 tyX4_ok nmX4 hown hK hP hD hS 0 rfl rfl 8 (by decide) (xg_w hts mb_fieldLink_RX4_59) (fun _ h9 => h9) rfl (by decide +kernel) rfl rfl (Nat.le_of_ble_eq_true rfl) dX4_add_81 (fun H locs hP hD hS => ?_)
      have hP : va_P (dC, dI) vwCl (xm ad ca (upd kf n key) (vp_updL vf n v) tf fr sf fi bk bv (nI (n + 1)) ny nb mn ai en 0 op wr) H := hP
      have hD : va_D A (xm ad ca (upd kf n key) (vp_updL vf n v) tf fr sf fi bk bv (nI (n + 1)) ny nb mn ai en 0 op wr) := hD
      refine lv_aload_n hx hb dX4_add_84 rfl (lv_at hl 0 rfl) ?_
      refine va_get (D := (dC, dI)) (ci := 4) (v := .int (nI (n + 1))) (C := RX4) (T := TX4) (N := 17) (ref := "SortedRunModel") hx hb hts (xg_u mb_uws_X4) hown hK hP 0 rfl rfl 8 (by decide) (xg_w hts mb_fieldLink_RX4_59) (fun _ h9 => h9) rfl dX4_add_85 ?_
      have hP9 := hP
      have hD9 := hD
      exact W.iret (v := nI (n + 1)) hx hb hr (fun t ht hW => ⟨⟨nI (n + 1), (0, nI (n + 1), upd kf n key, vp_updL vf n v), rfl, Or.inl ⟨rfl, hn3, hk9, rfl, rfl⟩, by rw [ht]; exact hP9, va_K.moved hW.alike hK, hD9⟩, hS.F ht⟩) hS.2.2 dX4_add_88
    · have hn0 : 0 < n := Nat.pos_of_ne_zero (fun y => hc2 (by rw [y]; decide))
      refine lv_iload_n hx hb dX4_add_22 rfl (lv_at hl 1 rfl) ?_
      refine lv_aload_n hx hb dX4_add_23 rfl (lv_at hl 0 rfl) ?_
      refine va_get (D := (dC, dI)) (ci := 4) (v := .ref (ad 1)) (C := RX4) (T := TX4) (N := 17) (ref := "SortedRunModel") hx hb hts (xg_u mb_uws_X4) hown hK hP 0 rfl rfl 0 (by decide) (xg_w hts mb_fieldLink_RX4_9) (fun _ h9 => h9) rfl dX4_add_24 ?_
      refine lv_aload_n hx hb dX4_add_27 rfl (lv_at hl 0 rfl) ?_
      refine va_get (D := (dC, dI)) (ci := 4) (v := .int (nI n)) (C := RX4) (T := TX4) (N := 17) (ref := "SortedRunModel") hx hb hts (xg_u mb_uws_X4) hown hK hP 0 rfl rfl 8 (by decide) (xg_w hts mb_fieldLink_RX4_59) (fun _ h9 => h9) rfl dX4_add_28 ?_
      refine lv_iconst (v := nI 1) hx hb dX4_add_31 (by decide) ?_
      refine lv_isub hx hb dX4_add_32 ?_
      refine lv_topi (fun z1 ez1 => ?_)
      have ez1 : z1 = nI (n - 1) := ez1.trans (pk_sub (by omega))
      subst ez1
      refine va_iald hx hb hK hP 1 0 rfl rfl (vp_in_nI (by omega) (by decide)) dX4_add_33 ?_
      refine lv_topi (fun z2 ez2 => ?_)
      have ez2 : z2 = kf (n - 1) := ez2.trans (congrArg kf (nI_clamp (by omega)))
      subst ez2
      refine lv_icmp_gt (tgt := 41) hx hb dX4_add_34 rfl (fun hc3 => ?_) (fun hc3 => ?_)
      · have hk9 : n = 0 ∨ kf (n - 1) < key := Or.inr hc3
        refine lv_iconst (v := 0) hx hb dX4_add_41 (by decide) ?_
        refine va_put (D := (dC, dI)) (ci := 4) (v := .int 0) (ty := .int) (C := RX4) (T := TX4) (N := 17) (ref := "SortedRunModel") hx hb hts (xg_u mb_uws_X4) tyX4 tyX4_ok nmX4 hown hK hP hD hS 0 rfl rfl 14 (by decide) (xg_w hts mb_fieldLink_RX4_39) (fun _ h9 => h9) rfl (by decide +kernel) rfl rfl (Nat.le_of_ble_eq_true rfl) dX4_add_42 (fun H locs hP hD hS => ?_)
        have hP : va_P (dC, dI) vwCl (xm ad ca kf vf tf fr sf fi bk bv (nI n) ny nb mn ai en 0 op wr) H := hP
        have hD : va_D A (xm ad ca kf vf tf fr sf fi bk bv (nI n) ny nb mn ai en 0 op wr) := hD
        refine lv_aload_n hx hb dX4_add_45 rfl (lv_at hl 0 rfl) ?_
        refine va_get (D := (dC, dI)) (ci := 4) (v := .int 0) (C := RX4) (T := TX4) (N := 17) (ref := "SortedRunModel") hx hb hts (xg_u mb_uws_X4) hown hK hP 0 rfl rfl 14 (by decide) (xg_w hts mb_fieldLink_RX4_39) (fun _ h9 => h9) rfl dX4_add_46 ?_
        refine lv_if_le (tgt := 54) hx hb dX4_add_49 rfl (fun hc => ?_) (fun hc => absurd hc (not_not_intro (by decide)))
        refine lv_aload_n hx hb dX4_add_54 rfl (lv_at hl 0 rfl) ?_
        refine va_get (D := (dC, dI)) (ci := 4) (v := .ref (ad 1)) (C := RX4) (T := TX4) (N := 17) (ref := "SortedRunModel") hx hb hts (xg_u mb_uws_X4) hown hK hP 0 rfl rfl 0 (by decide) (xg_w hts mb_fieldLink_RX4_9) (fun _ h9 => h9) rfl dX4_add_55 ?_
        refine lv_aload_n hx hb dX4_add_58 rfl (lv_at hl 0 rfl) ?_
        refine va_get (D := (dC, dI)) (ci := 4) (v := .int (nI n)) (C := RX4) (T := TX4) (N := 17) (ref := "SortedRunModel") hx hb hts (xg_u mb_uws_X4) hown hK hP 0 rfl rfl 8 (by decide) (xg_w hts mb_fieldLink_RX4_59) (fun _ h9 => h9) rfl dX4_add_59 ?_
        refine lv_iload_n hx hb dX4_add_62 rfl (lv_at hl 1 rfl) ?_
        refine va_iast hx hb hK hP hD hS 1 0 rfl rfl (vp_in_nI hn3 (by decide)) dX4_add_63 (fun H locs hP hD hS => ?_)
        have e9 : upd kf (nI n).toNatClampNeg key = upd kf n key := by rw [nI_clamp (by omega)]
        rw [e9] at hP hD
        clear e9
        have hP : va_P (dC, dI) vwCl (xm ad ca (upd kf n key) vf tf fr sf fi bk bv (nI n) ny nb mn ai en 0 op wr) H := hP
        have hD : va_D A (xm ad ca (upd kf n key) vf tf fr sf fi bk bv (nI n) ny nb mn ai en 0 op wr) := hD
        refine lv_aload_n hx hb dX4_add_64 rfl (lv_at hl 0 rfl) ?_
        refine va_get (D := (dC, dI)) (ci := 4) (v := .ref (ad 2)) (C := RX4) (T := TX4) (N := 17) (ref := "SortedRunModel") hx hb hts (xg_u mb_uws_X4) hown hK hP 0 rfl rfl 1 (by decide) (xg_w hts mb_fieldLink_RX4_13) (fun _ h9 => h9) rfl dX4_add_65 ?_
        refine lv_aload_n hx hb dX4_add_68 rfl (lv_at hl 0 rfl) ?_
        refine va_get (D := (dC, dI)) (ci := 4) (v := .int (nI n)) (C := RX4) (T := TX4) (N := 17) (ref := "SortedRunModel") hx hb hts (xg_u mb_uws_X4) hown hK hP 0 rfl rfl 8 (by decide) (xg_w hts mb_fieldLink_RX4_59) (fun _ h9 => h9) rfl dX4_add_69 ?_
        refine lv_lload_n hx hb dX4_add_72 rfl (lv_at hl 2 rfl) ?_
        refine va_last hx hb hK hP hD hS 2 1 rfl rfl (vp_in_nI hn3 (by decide)) dX4_add_73 (fun H locs hP hD hS => ?_)
        have e9 : vp_updL vf (nI n).toNatClampNeg v = vp_updL vf n v := by rw [nI_clamp (by omega)]
        rw [e9] at hP hD
        clear e9
        have hP : va_P (dC, dI) vwCl (xm ad ca (upd kf n key) (vp_updL vf n v) tf fr sf fi bk bv (nI n) ny nb mn ai en 0 op wr) H := hP
        have hD : va_D A (xm ad ca (upd kf n key) (vp_updL vf n v) tf fr sf fi bk bv (nI n) ny nb mn ai en 0 op wr) := hD
        refine lv_aload_n hx hb dX4_add_74 rfl (lv_at hl 0 rfl) ?_
        refine lv_dup hx hb dX4_add_75 rfl ?_
        refine va_get (D := (dC, dI)) (ci := 4) (v := .int (nI n)) (C := RX4) (T := TX4) (N := 17) (ref := "SortedRunModel") hx hb hts (xg_u mb_uws_X4) hown hK hP 0 rfl rfl 8 (by decide) (xg_w hts mb_fieldLink_RX4_59) (fun _ h9 => h9) rfl dX4_add_76 ?_
        refine lv_iconst (v := 1) hx hb dX4_add_79 (by decide) ?_
        refine lv_iadd hx hb dX4_add_80 ?_
        refine lv_topi (fun z3 ez3 => ?_)
        have ez3 : z3 = nI (n + 1) := ez3.trans (nI_1 n)
        subst ez3
        refine va_put (D := (dC, dI)) (ci := 4) (v := .int (nI (n + 1))) (ty := .int) (C := RX4) (T := TX4) (N := 17) (ref := "SortedRunModel") hx hb hts (xg_u mb_uws_X4) tyX4 tyX4_ok nmX4 hown hK hP hD hS 0 rfl rfl 8 (by decide) (xg_w hts mb_fieldLink_RX4_59) (fun _ h9 => h9) rfl (by decide +kernel) rfl rfl (Nat.le_of_ble_eq_true rfl) dX4_add_81 (fun H locs hP hD hS => ?_)
        have hP : va_P (dC, dI) vwCl (xm ad ca (upd kf n key) (vp_updL vf n v) tf fr sf fi bk bv (nI (n + 1)) ny nb mn ai en 0 op wr) H := hP
        have hD : va_D A (xm ad ca (upd kf n key) (vp_updL vf n v) tf fr sf fi bk bv (nI (n + 1)) ny nb mn ai en 0 op wr) := hD
        refine lv_aload_n hx hb dX4_add_84 rfl (lv_at hl 0 rfl) ?_
        refine va_get (D := (dC, dI)) (ci := 4) (v := .int (nI (n + 1))) (C := RX4) (T := TX4) (N := 17) (ref := "SortedRunModel") hx hb hts (xg_u mb_uws_X4) hown hK hP 0 rfl rfl 8 (by decide) (xg_w hts mb_fieldLink_RX4_59) (fun _ h9 => h9) rfl dX4_add_85 ?_
        have hP9 := hP
        have hD9 := hD
        exact W.iret (v := nI (n + 1)) hx hb hr (fun t ht hW => ⟨⟨nI (n + 1), (0, nI (n + 1), upd kf n key, vp_updL vf n v), rfl, Or.inl ⟨rfl, hn3, hk9, rfl, rfl⟩, by rw [ht]; exact hP9, va_K.moved hW.alike hK, hD9⟩, hS.F ht⟩) hS.2.2 dX4_add_88
      · refine lv_iconst (v := 1) hx hb dX4_add_37 (by decide) ?_
        refine lv_goto (tgt := 42) hx hb dX4_add_38 rfl ?_
        refine va_put (D := (dC, dI)) (ci := 4) (v := .int 1) (ty := .int) (C := RX4) (T := TX4) (N := 17) (ref := "SortedRunModel") hx hb hts (xg_u mb_uws_X4) tyX4 tyX4_ok nmX4 hown hK hP hD hS 0 rfl rfl 14 (by decide) (xg_w hts mb_fieldLink_RX4_39) (fun _ h9 => h9) rfl (by decide +kernel) rfl rfl (Nat.le_of_ble_eq_true rfl) dX4_add_42 (fun H locs hP hD hS => ?_)
        have hP : va_P (dC, dI) vwCl (xm ad ca kf vf tf fr sf fi bk bv (nI n) ny nb mn ai en 1 op wr) H := hP
        have hD : va_D A (xm ad ca kf vf tf fr sf fi bk bv (nI n) ny nb mn ai en 1 op wr) := hD
        refine lv_aload_n hx hb dX4_add_45 rfl (lv_at hl 0 rfl) ?_
        refine va_get (D := (dC, dI)) (ci := 4) (v := .int 1) (C := RX4) (T := TX4) (N := 17) (ref := "SortedRunModel") hx hb hts (xg_u mb_uws_X4) hown hK hP 0 rfl rfl 14 (by decide) (xg_w hts mb_fieldLink_RX4_39) (fun _ h9 => h9) rfl dX4_add_46 ?_
        refine lv_if_le (tgt := 54) hx hb dX4_add_49 rfl (fun hc => absurd hc (by decide)) (fun hc => ?_)
        refine lv_iconst (v := 0) hx hb dX4_add_52 (by decide) ?_
        have hP9 := hP
        have hD9 := hD
        exact W.iret (v := 0) hx hb hr (fun t ht hW => ⟨⟨0, (1, nI n, kf, vf), rfl, Or.inr (Or.inr ⟨rfl, hn3, hn0, Int32.not_lt.mp hc3, rfl⟩), by rw [ht]; exact hP9, va_K.moved hW.alike hK, hD9⟩, hS.F ht⟩) hS.2.2 dX4_add_53
  · have hn3 : n = 300 := (nI_eq (by omega) (by decide)).mp hc
    refine lv_iconst (v := 2) hx hb dX4_add_11 (by decide) ?_
    refine lv_goto (tgt := 42) hx hb dX4_add_12 rfl ?_
    refine va_put (D := (dC, dI)) (ci := 4) (v := .int 2) (ty := .int) (C := RX4) (T := TX4) (N := 17) (ref := "SortedRunModel") hx hb hts (xg_u mb_uws_X4) tyX4 tyX4_ok nmX4 hown hK hP hD hS 0 rfl rfl 14 (by decide) (xg_w hts mb_fieldLink_RX4_39) (fun _ h9 => h9) rfl (by decide +kernel) rfl rfl (Nat.le_of_ble_eq_true rfl) dX4_add_42 (fun H locs hP hD hS => ?_)
    have hP : va_P (dC, dI) vwCl (xm ad ca kf vf tf fr sf fi bk bv (nI n) ny nb mn ai en 2 op wr) H := hP
    have hD : va_D A (xm ad ca kf vf tf fr sf fi bk bv (nI n) ny nb mn ai en 2 op wr) := hD
    refine lv_aload_n hx hb dX4_add_45 rfl (lv_at hl 0 rfl) ?_
    refine va_get (D := (dC, dI)) (ci := 4) (v := .int 2) (C := RX4) (T := TX4) (N := 17) (ref := "SortedRunModel") hx hb hts (xg_u mb_uws_X4) hown hK hP 0 rfl rfl 14 (by decide) (xg_w hts mb_fieldLink_RX4_39) (fun _ h9 => h9) rfl dX4_add_46 ?_
    refine lv_if_le (tgt := 54) hx hb dX4_add_49 rfl (fun hc => absurd hc (by decide)) (fun hc => ?_)
    refine lv_iconst (v := 0) hx hb dX4_add_52 (by decide) ?_
    have hP9 := hP
    have hD9 := hD
    exact W.iret (v := 0) hx hb hr (fun t ht hW => ⟨⟨0, (2, nI n, kf, vf), rfl, Or.inr (Or.inl ⟨rfl, hn3, rfl⟩), by rw [ht]; exact hP9, va_K.moved hW.alike hK, hD9⟩, hS.F ht⟩) hS.2.2 dX4_add_53

set_option maxHeartbeats 4000000 in
set_option maxRecDepth 100000 in
theorem cX4_write_m (l : Launch) (dC : Nat → ClassId) (dI : Nat → Nat → Nat) (ca : Nat → ClassId) (ad : Nat → Nat) (kf : Nat → Int32) (vf : Nat → Int64) (tf : Nat → Int32) (fr : Nat → Int32) (sf : Nat → Int32) (fi : Nat → Int32) (bk : Nat → Int32) (bv : Nat → Int64) (ny : Int32) (nb : Int32) (mn : Int32) (ai : Int32) (en : Int32) (th : Int32) (op : Int32) (wr : Int32) (w9 : Nat) (hw : w9 ≤ 300) (hup : pw_up kf w9) : ∀ sz : Nat, Met l yX4_write wsX4_write ({ frames := 3, cells := 0, slots := 0, locals := 73 } : Room) (va_Pc [.ref (ad 0)] (xP (dC, dI) (xt ca) (xm ad ca kf vf tf fr sf fi bk bv (nI w9) ny nb mn ai en th op wr) sz)) (va_Qi (S := (Nat → Int32) × (Nat → Int32)) (fun r _ => r = nI (pw_all kf vf w9 tf).2) (fun u t => xB (dC, dI) (xt ca) (va_A (xm ad ca kf vf tf fr sf fi bk bv (nI w9) ny nb mn ai en th op wr) sz) (xm ad ca kf vf ((pw_all kf vf w9 tf).1) fr u.1 u.2 bk bv 0 (nI (pw_all kf vf w9 tf).2) nb mn ai en 0 0 wr) t) (va_A (xm ad ca kf vf tf fr sf fi bk bv (nI w9) ny nb mn ai en th op wr) sz)) 0 0 (va_A (xm ad ca kf vf tf fr sf fi bk bv (nI w9) ny nb mn ai en th op wr) sz) := by
  intro sz
  refine Met.ofW (cc := cX4_write) (maxL := 1) (ret := (some .int)) (by decide) rfl ?_
  intro p e s m args below meth c s₁ B hml hv
  obtain ⟨rfl, hsz, hP, hK, hD0, hE⟩ := hv
  have hx := B.exec
  have hb := B.bytes
  have hr := B.returns
  have hts := atoms_spec (ws := wsX4_write) B.pre
  have hown : s.vm.findClass RX4 = some m.cls := findClass_of_methodNamed B.named
  have hlocks := B.notSynchronized
  subst hsz
  have hD := hD0.self (sz := s.heap.size)
  generalize hAe : va_A (xm ad ca kf vf tf fr sf fi bk bv (nI w9) ny nb mn ai en th op wr) s.heap.size = A at hD hE ⊢
  have hA : ∀ q : Nat, s.heap.size ≤ q → A q := fun q h => by rw [← hAe]; exact Or.inr h
  have hS : va_S A s.heap s.heap [] := va_S.rf
  have hl := lv_entry ([.ref (ad 0)]) (n := 1) (Nat.le_of_ble_eq_true rfl)
  rw [lg_entry_eq]
  generalize (lg_sl ([.ref (ad 0)]) ++ List.replicate (1 - (lg_sl ([.ref (ad 0)])).length) Slot.unset).toArray = ls at hl ⊢
  have hl : lv_has ls 1 [(0, .ref (ad 0))] := hl
  refine lv_aload_n hx hb dX4_write_0 rfl (lv_at hl 0 rfl) ?_
  refine lv_iconst (v := 0) hx hb dX4_write_1 (by decide) ?_
  refine va_put (D := (dC, dI)) (ci := 4) (v := .int 0) (ty := .int) (C := RX4) (T := TX4) (N := 17) (ref := "SortedRunModel") hx hb hts (xg_u mb_uws_X4) tyX4 tyX4_ok nmX4 hown hK hP hD hS 0 rfl rfl 14 (by decide) (xg_w hts mb_fieldLink_RX4_39) (fun _ h9 => h9) rfl (by decide +kernel) rfl rfl (Nat.le_of_ble_eq_true rfl) dX4_write_2 (fun H locs hP hD hS => ?_)
  have hP : va_P (dC, dI) vwCl (xm ad ca kf vf tf fr sf fi bk bv (nI w9) ny nb mn ai en 0 op wr) H := hP
  have hD : va_D A (xm ad ca kf vf tf fr sf fi bk bv (nI w9) ny nb mn ai en 0 op wr) := hD
  refine lv_aload_n hx hb dX4_write_5 rfl (lv_at hl 0 rfl) ?_
  refine xk_v (va_runV (As := []) (rest := []) ⟨hx, hb, hml, hown, hts⟩ (cX4_build_m l dC dI ca ad kf vf tf fr sf fi bk bv ny nb mn ai en 0 op wr w9 hw hup _) (cwV 0 hts (xg_V mb_methodLink_RX4_36 mb_instanceMethod_yX4_build mb_selects_yX4_build mb_initialized_RX4 mb_code_yX4_build) rfl rfl rfl ⟨rfl, by decide, by decide, by decide +kernel⟩ ⟨Nat.le_of_ble_eq_true rfl, Nat.le_of_ble_eq_true rfl⟩) (xpreV (va_recv (q0 := 0) hK hP rfl rfl) hK hP hD hS hA hE) rfl rfl hl.1 rfl (lv_room (Nat.le_of_ble_eq_true rfl)) dX4_write_6 ⟨Nat.le_of_ble_eq_true rfl, Nat.le_of_ble_eq_true rfl⟩) hD hS hA (fun u H locs hu hP hD hS => ?_)
  have hP : va_P (dC, dI) vwCl (xm ad ca kf vf ((pw_all kf vf w9 tf).1) fr u.1 u.2 bk bv 0 (nI (pw_all kf vf w9 tf).2) nb mn ai en 0 0 wr) H := hP
  have hD : va_D A (xm ad ca kf vf ((pw_all kf vf w9 tf).1) fr u.1 u.2 bk bv 0 (nI (pw_all kf vf w9 tf).2) nb mn ai en 0 0 wr) := hD
  refine lv_aload_n hx hb dX4_write_9 rfl (lv_at hl 0 rfl) ?_
  refine va_get (D := (dC, dI)) (ci := 4) (v := .int (nI (pw_all kf vf w9 tf).2)) (C := RX4) (T := TX4) (N := 17) (ref := "SortedRunModel") hx hb hts (xg_u mb_uws_X4) hown hK hP 0 rfl rfl 9 (by decide) (xg_w hts mb_fieldLink_RX4_45) (fun _ h9 => h9) rfl dX4_write_10 ?_
  have hP9 := hP
  have hD9 := hD
  exact W.iret (v := nI (pw_all kf vf w9 tf).2) hx hb hr (fun t ht hW => ⟨⟨nI (pw_all kf vf w9 tf).2, u, rfl, rfl, by rw [ht]; exact hP9, va_K.moved hW.alike hK, hD9⟩, hS.F ht⟩) hS.2.2 dX4_write_13

set_option maxHeartbeats 4000000 in
set_option maxRecDepth 100000 in
theorem cX4_isByte_m (l : Launch) (dC : Nat → ClassId) (dI : Nat → Nat → Nat) (ca : Nat → ClassId) (ad : Nat → Nat) (kf : Nat → Int32) (vf : Nat → Int64) (tf : Nat → Int32) (fr : Nat → Int32) (sf : Nat → Int32) (fi : Nat → Int32) (bk : Nat → Int32) (bv : Nat → Int64) (w : Int32) (nb : Int32) (mn : Int32) (ai : Int32) (en : Int32) (th : Int32) (op : Int32) (wr : Int32) (n : Nat) (x : Int32) (hn : n < 2 ^ 31) : ∀ sz : Nat, Met l yX4_isByte wsX4_isByte ({ frames := 0, cells := 0, slots := 0, locals := 0 } : Room) (va_Pc [.ref (ad 0), .int x] (xP (dC, dI) (xt ca) (xm ad ca kf vf tf fr sf fi bk bv w (nI n) nb mn ai en th op wr) sz)) (va_Qi (S := Int32) (fun r u => (r = 1 ∧ u = 0 ∧ sp_in x n = true) ∨ (r = 0 ∧ u = 1 ∧ sp_in x n = false)) (fun u t => xB (dC, dI) (xt ca) (va_A (xm ad ca kf vf tf fr sf fi bk bv w (nI n) nb mn ai en th op wr) sz) (xm ad ca kf vf tf fr sf fi bk bv w (nI n) nb mn ai en u op wr) t) (va_A (xm ad ca kf vf tf fr sf fi bk bv w (nI n) nb mn ai en th op wr) sz)) 0 0 (va_A (xm ad ca kf vf tf fr sf fi bk bv w (nI n) nb mn ai en th op wr) sz) := by
  intro sz
  refine Met.ofW (cc := cX4_isByte) (maxL := 2) (ret := (some .boolean)) (by decide) rfl ?_
  intro p e s m args below meth c s₁ B hml hv
  obtain ⟨rfl, hsz, hP, hK, hD0, hE⟩ := hv
  have hx := B.exec
  have hb := B.bytes
  have hr := B.returns
  have hts := atoms_spec (ws := wsX4_isByte) B.pre
  have hown : s.vm.findClass RX4 = some m.cls := findClass_of_methodNamed B.named
  have hlocks := B.notSynchronized
  subst hsz
  have hD := hD0.self (sz := s.heap.size)
  generalize hAe : va_A (xm ad ca kf vf tf fr sf fi bk bv w (nI n) nb mn ai en th op wr) s.heap.size = A at hD hE ⊢
  have hA : ∀ q : Nat, s.heap.size ≤ q → A q := fun q h => by rw [← hAe]; exact Or.inr h
  have hS : va_S A s.heap s.heap [] := va_S.rf
  have hl := lv_entry ([.ref (ad 0), .int x]) (n := 2) (Nat.le_of_ble_eq_true rfl)
  rw [lg_entry_eq]
  generalize (lg_sl ([.ref (ad 0), .int x]) ++ List.replicate (2 - (lg_sl ([.ref (ad 0), .int x])).length) Slot.unset).toArray = ls at hl ⊢
  have hl : lv_has ls 2 [(0, .ref (ad 0)), (1, .int x)] := hl
  refine lv_aload_n hx hb dX4_isByte_0 rfl (lv_at hl 0 rfl) ?_
  refine lv_iload_n hx hb dX4_isByte_1 rfl (lv_at hl 1 rfl) ?_
  refine lv_if_lt (tgt := 13) hx hb dX4_isByte_2 rfl (fun hc => ?_) (fun hc => ?_)
  · have hin : sp_in x n = false := by unfold sp_in; rw [decide_eq_false (Int32.not_le.mpr hc)]; rfl
    refine lv_iconst (v := 1) hx hb dX4_isByte_13 (by decide) ?_
    refine lv_goto (tgt := 18) hx hb dX4_isByte_14 rfl ?_
    refine va_put (D := (dC, dI)) (ci := 4) (v := .int 1) (ty := .int) (C := RX4) (T := TX4) (N := 17) (ref := "SortedRunModel") hx hb hts (xg_u mb_uws_X4) tyX4 tyX4_ok nmX4 hown hK hP hD hS 0 rfl rfl 14 (by decide) (xg_w hts mb_fieldLink_RX4_39) (fun _ h9 => h9) rfl (by decide +kernel) rfl rfl (Nat.le_of_ble_eq_true rfl) dX4_isByte_18 (fun H locs hP hD hS => ?_)
    have hP : va_P (dC, dI) vwCl (xm ad ca kf vf tf fr sf fi bk bv w (nI n) nb mn ai en 1 op wr) H := hP
    have hD : va_D A (xm ad ca kf vf tf fr sf fi bk bv w (nI n) nb mn ai en 1 op wr) := hD
    refine lv_aload_n hx hb dX4_isByte_21 rfl (lv_at hl 0 rfl) ?_
    refine va_get (D := (dC, dI)) (ci := 4) (v := .int 1) (C := RX4) (T := TX4) (N := 17) (ref := "SortedRunModel") hx hb hts (xg_u mb_uws_X4) hown hK hP 0 rfl rfl 14 (by decide) (xg_w hts mb_fieldLink_RX4_39) (fun _ h9 => h9) rfl dX4_isByte_22 ?_
    refine lv_if_ne (tgt := 32) hx hb dX4_isByte_25 rfl (fun hc => ?_) (fun hc => absurd hc (by decide))
    refine lv_iconst (v := 0) hx hb dX4_isByte_32 (by decide) ?_
    have hP9 := hP
    have hD9 := hD
    exact W.zret (v := 0) hx hb hr (by rfl) (fun t ht hW => ⟨⟨0, 1, rfl, Or.inr ⟨rfl, rfl, hin⟩, by rw [ht]; exact hP9, va_K.moved hW.alike hK, hD9⟩, hS.F ht⟩) hS.2.2 dX4_isByte_33
  · refine lv_iload_n hx hb dX4_isByte_5 rfl (lv_at hl 1 rfl) ?_
    refine lv_aload_n hx hb dX4_isByte_6 rfl (lv_at hl 0 rfl) ?_
    refine va_get (D := (dC, dI)) (ci := 4) (v := .int (nI n)) (C := RX4) (T := TX4) (N := 17) (ref := "SortedRunModel") hx hb hts (xg_u mb_uws_X4) hown hK hP 0 rfl rfl 9 (by decide) (xg_w hts mb_fieldLink_RX4_45) (fun _ h9 => h9) rfl dX4_isByte_7 ?_
    refine lv_icmp_lt (tgt := 17) hx hb dX4_isByte_10 rfl (fun hc2 => ?_) (fun hc2 => ?_)
    · have hin : sp_in x n = true := by unfold sp_in; rw [decide_eq_true (Int32.not_lt.mp hc), decide_eq_true hc2]; rfl
      refine lv_iconst (v := 0) hx hb dX4_isByte_17 (by decide) ?_
      refine va_put (D := (dC, dI)) (ci := 4) (v := .int 0) (ty := .int) (C := RX4) (T := TX4) (N := 17) (ref := "SortedRunModel") hx hb hts (xg_u mb_uws_X4) tyX4 tyX4_ok nmX4 hown hK hP hD hS 0 rfl rfl 14 (by decide) (xg_w hts mb_fieldLink_RX4_39) (fun _ h9 => h9) rfl (by decide +kernel) rfl rfl (Nat.le_of_ble_eq_true rfl) dX4_isByte_18 (fun H locs hP hD hS => ?_)
      have hP : va_P (dC, dI) vwCl (xm ad ca kf vf tf fr sf fi bk bv w (nI n) nb mn ai en 0 op wr) H := hP
      have hD : va_D A (xm ad ca kf vf tf fr sf fi bk bv w (nI n) nb mn ai en 0 op wr) := hD
      refine lv_aload_n hx hb dX4_isByte_21 rfl (lv_at hl 0 rfl) ?_
      refine va_get (D := (dC, dI)) (ci := 4) (v := .int 0) (C := RX4) (T := TX4) (N := 17) (ref := "SortedRunModel") hx hb hts (xg_u mb_uws_X4) hown hK hP 0 rfl rfl 14 (by decide) (xg_w hts mb_fieldLink_RX4_39) (fun _ h9 => h9) rfl dX4_isByte_22 ?_
      refine lv_if_ne (tgt := 32) hx hb dX4_isByte_25 rfl (fun hc => absurd hc (not_not_intro rfl)) (fun hc => ?_)
      refine lv_iconst (v := 1) hx hb dX4_isByte_28 (by decide) ?_
      refine lv_goto (tgt := 33) hx hb dX4_isByte_29 rfl ?_
      have hP9 := hP
      have hD9 := hD
      exact W.zret (v := 1) hx hb hr (by rfl) (fun t ht hW => ⟨⟨1, 0, rfl, Or.inl ⟨rfl, rfl, hin⟩, by rw [ht]; exact hP9, va_K.moved hW.alike hK, hD9⟩, hS.F ht⟩) hS.2.2 dX4_isByte_33
    · have hin : sp_in x n = false := by unfold sp_in; rw [decide_eq_false hc2, Bool.and_false]
      refine lv_iconst (v := 1) hx hb dX4_isByte_13 (by decide) ?_
      refine lv_goto (tgt := 18) hx hb dX4_isByte_14 rfl ?_
      refine va_put (D := (dC, dI)) (ci := 4) (v := .int 1) (ty := .int) (C := RX4) (T := TX4) (N := 17) (ref := "SortedRunModel") hx hb hts (xg_u mb_uws_X4) tyX4 tyX4_ok nmX4 hown hK hP hD hS 0 rfl rfl 14 (by decide) (xg_w hts mb_fieldLink_RX4_39) (fun _ h9 => h9) rfl (by decide +kernel) rfl rfl (Nat.le_of_ble_eq_true rfl) dX4_isByte_18 (fun H locs hP hD hS => ?_)
      have hP : va_P (dC, dI) vwCl (xm ad ca kf vf tf fr sf fi bk bv w (nI n) nb mn ai en 1 op wr) H := hP
      have hD : va_D A (xm ad ca kf vf tf fr sf fi bk bv w (nI n) nb mn ai en 1 op wr) := hD
      refine lv_aload_n hx hb dX4_isByte_21 rfl (lv_at hl 0 rfl) ?_
      refine va_get (D := (dC, dI)) (ci := 4) (v := .int 1) (C := RX4) (T := TX4) (N := 17) (ref := "SortedRunModel") hx hb hts (xg_u mb_uws_X4) hown hK hP 0 rfl rfl 14 (by decide) (xg_w hts mb_fieldLink_RX4_39) (fun _ h9 => h9) rfl dX4_isByte_22 ?_
      refine lv_if_ne (tgt := 32) hx hb dX4_isByte_25 rfl (fun hc => ?_) (fun hc => absurd hc (by decide))
      refine lv_iconst (v := 0) hx hb dX4_isByte_32 (by decide) ?_
      have hP9 := hP
      have hD9 := hD
      exact W.zret (v := 0) hx hb hr (by rfl) (fun t ht hW => ⟨⟨0, 1, rfl, Or.inr ⟨rfl, rfl, hin⟩, by rw [ht]; exact hP9, va_K.moved hW.alike hK, hD9⟩, hS.F ht⟩) hS.2.2 dX4_isByte_33

set_option maxHeartbeats 4000000 in
set_option maxRecDepth 100000 in
theorem cX4_at_m (l : Launch) (dC : Nat → ClassId) (dI : Nat → Nat → Nat) (ca : Nat → ClassId) (ad : Nat → Nat) (kf : Nat → Int32) (vf : Nat → Int64) (tf : Nat → Int32) (fr : Nat → Int32) (sf : Nat → Int32) (fi : Nat → Int32) (bk : Nat → Int32) (bv : Nat → Int64) (w : Int32) (nb : Int32) (mn : Int32) (ai : Int32) (en : Int32) (th : Int32) (op : Int32) (wr : Int32) (n : Nat) (x : Int32) (hn : n ≤ 4889) : ∀ sz : Nat, Met l yX4_at wsX4_at ({ frames := 1, cells := 0, slots := 0, locals := 21 } : Room) (va_Pc [.ref (ad 0), .int x] (xP (dC, dI) (xt ca) (xm ad ca kf vf tf fr sf fi bk bv w (nI n) nb mn ai en th op wr) sz)) (va_Qi (S := Int32) (fun r u => (u = 0 ∧ ∃ j, j < n ∧ x = nI j ∧ r = nI (pb_ub tf j)) ∨ (u = 1 ∧ sp_in x n = false)) (fun u t => xB (dC, dI) (xt ca) (va_A (xm ad ca kf vf tf fr sf fi bk bv w (nI n) nb mn ai en th op wr) sz) (xm ad ca kf vf tf fr sf fi bk bv w (nI n) nb mn ai en u op wr) t) (va_A (xm ad ca kf vf tf fr sf fi bk bv w (nI n) nb mn ai en th op wr) sz)) 0 0 (va_A (xm ad ca kf vf tf fr sf fi bk bv w (nI n) nb mn ai en th op wr) sz) := by
  intro sz
  refine Met.ofW (cc := cX4_at) (maxL := 2) (ret := (some .int)) (by decide) rfl ?_
  intro p e s m args below meth c s₁ B hml hv
  obtain ⟨rfl, hsz, hP, hK, hD0, hE⟩ := hv
  have hx := B.exec
  have hb := B.bytes
  have hr := B.returns
  have hts := atoms_spec (ws := wsX4_at) B.pre
  have hown : s.vm.findClass RX4 = some m.cls := findClass_of_methodNamed B.named
  have hlocks := B.notSynchronized
  subst hsz
  have hD := hD0.self (sz := s.heap.size)
  generalize hAe : va_A (xm ad ca kf vf tf fr sf fi bk bv w (nI n) nb mn ai en th op wr) s.heap.size = A at hD hE ⊢
  have hA : ∀ q : Nat, s.heap.size ≤ q → A q := fun q h => by rw [← hAe]; exact Or.inr h
  have hS : va_S A s.heap s.heap [] := va_S.rf
  have hl := lv_entry ([.ref (ad 0), .int x]) (n := 2) (Nat.le_of_ble_eq_true rfl)
  rw [lg_entry_eq]
  generalize (lg_sl ([.ref (ad 0), .int x]) ++ List.replicate (2 - (lg_sl ([.ref (ad 0), .int x])).length) Slot.unset).toArray = ls at hl ⊢
  have hl : lv_has ls 2 [(0, .ref (ad 0)), (1, .int x)] := hl
  refine lv_aload_n hx hb dX4_at_0 rfl (lv_at hl 0 rfl) ?_
  refine lv_iload_n hx hb dX4_at_1 rfl (lv_at hl 1 rfl) ?_
  refine xk_i (va_runV (As := [.int x]) (rest := []) ⟨hx, hb, hml, hown, hts⟩ (cX4_isByte_m l dC dI ca ad kf vf tf fr sf fi bk bv w nb mn ai en th op wr n x (by omega) _) (cwV 1 hts (xg_V mb_methodLink_RX4_113 mb_instanceMethod_yX4_isByte mb_selects_yX4_isByte mb_initialized_RX4 mb_code_yX4_isByte) rfl rfl rfl ⟨rfl, by decide, by decide, by decide +kernel⟩ ⟨Nat.le_of_ble_eq_true rfl, Nat.le_of_ble_eq_true rfl⟩) (xpreV (va_recv (q0 := 0) hK hP rfl rfl) hK hP hD hS hA hE) rfl rfl hl.1 rfl (lv_room (Nat.le_of_ble_eq_true rfl)) dX4_at_2 ⟨Nat.le_of_ble_eq_true rfl, Nat.le_of_ble_eq_true rfl⟩) hD hS hA (fun r u H locs hu hP hD hS => ?_)
  have hP : va_P (dC, dI) vwCl (xm ad ca kf vf tf fr sf fi bk bv w (nI n) nb mn ai en u op wr) H := hP
  have hD : va_D A (xm ad ca kf vf tf fr sf fi bk bv w (nI n) nb mn ai en u op wr) := hD
  rcases hu with hu | hu
  · obtain ⟨rfl, rfl, hin⟩ := hu
    obtain ⟨j, hj, rfl⟩ := (sp_in_iff (by omega)).mp hin
    refine lv_if_eq (tgt := 21) hx hb dX4_at_5 rfl (fun hc => absurd hc (by decide)) (fun hc => ?_)
    refine lv_aload_n hx hb dX4_at_8 rfl (lv_at hl 0 rfl) ?_
    refine va_get (D := (dC, dI)) (ci := 4) (v := .ref (ad 3)) (C := RX4) (T := TX4) (N := 17) (ref := "SortedRunModel") hx hb hts (xg_u mb_uws_X4) hown hK hP 0 rfl rfl 2 (by decide) (xg_w hts mb_fieldLink_RX4_17) (fun _ h9 => h9) rfl dX4_at_9 ?_
    refine lv_iload_n hx hb dX4_at_12 rfl (lv_at hl 1 rfl) ?_
    refine va_bald hx hb hK hP 3 2 rfl rfl (vp_in_nI (by omega) (by decide)) dX4_at_13 ?_
    refine lv_topi (fun z1 ez1 => ?_)
    have ez1 : z1 = tf j := ez1.trans (congrArg tf (nI_clamp (by omega)))
    subst ez1
    refine lv_sipush (v := 255) hx hb dX4_at_14 (by decide) ?_
    refine lv_iand hx hb dX4_at_17 ?_
    refine lv_topi (fun z2 ez2 => ?_)
    have ez2 : z2 = nI (pb_ub tf j) := ez2.trans (pb_and tf j)
    subst ez2
    refine lv_goto (tgt := 22) hx hb dX4_at_18 rfl ?_
    have hP9 := hP
    have hD9 := hD
    exact W.iret (v := nI (pb_ub tf j)) hx hb hr (fun t ht hW => ⟨⟨nI (pb_ub tf j), 0, rfl, Or.inl ⟨rfl, j, hj, rfl, rfl⟩, by rw [ht]; exact hP9, va_K.moved hW.alike hK, hD9⟩, hS.F ht⟩) hS.2.2 dX4_at_22
  · obtain ⟨rfl, rfl, hin⟩ := hu
    refine lv_if_eq (tgt := 21) hx hb dX4_at_5 rfl (fun hc => ?_) (fun hc => absurd hc (not_not_intro rfl))
    refine lv_iconst (v := 0) hx hb dX4_at_21 (by decide) ?_
    have hP9 := hP
    have hD9 := hD
    exact W.iret (v := 0) hx hb hr (fun t ht hW => ⟨⟨0, 1, rfl, Or.inr ⟨rfl, hin⟩, by rw [ht]; exact hP9, va_K.moved hW.alike hK, hD9⟩, hS.F ht⟩) hS.2.2 dX4_at_22

set_option maxHeartbeats 4000000 in
set_option maxRecDepth 100000 in
theorem cX4_damage_m (l : Launch) (dC : Nat → ClassId) (dI : Nat → Nat → Nat) (ca : Nat → ClassId) (ad : Nat → Nat) (kf : Nat → Int32) (vf : Nat → Int64) (tf : Nat → Int32) (fr : Nat → Int32) (sf : Nat → Int32) (fi : Nat → Int32) (bk : Nat → Int32) (bv : Nat → Int64) (w : Int32) (nb : Int32) (mn : Int32) (ai : Int32) (en : Int32) (th : Int32) (op : Int32) (wr : Int32) (n : Nat) (x v : Int32) (hn : n ≤ 4889) : ∀ sz : Nat, Met l yX4_damage wsX4_damage ({ frames := 1, cells := 0, slots := 0, locals := 21 } : Room) (va_Pc [.ref (ad 0), .int x, .int v] (xP (dC, dI) (xt ca) (xm ad ca kf vf tf fr sf fi bk bv w (nI n) nb mn ai en th op wr) sz)) (va_Qi (S := Int32 × Int32 × (Nat → Int32)) (fun r u => (u.1 = 0 ∧ ∃ j, j < n ∧ x = nI j ∧ r = nI (pb_ub tf j) ∧ u.2 = (0, upd tf j v.toInt8.toInt32)) ∨ (u.1 = 1 ∧ sp_in x n = false ∧ u.2 = (op, tf))) (fun u t => xB (dC, dI) (xt ca) (va_A (xm ad ca kf vf tf fr sf fi bk bv w (nI n) nb mn ai en th op wr) sz) (xm ad ca kf vf u.2.2 fr sf fi bk bv w (nI n) nb mn ai en u.1 u.2.1 wr) t) (va_A (xm ad ca kf vf tf fr sf fi bk bv w (nI n) nb mn ai en th op wr) sz)) 0 0 (va_A (xm ad ca kf vf tf fr sf fi bk bv w (nI n) nb mn ai en th op wr) sz) := by
  intro sz
  refine Met.ofW (cc := cX4_damage) (maxL := 4) (ret := (some .int)) (by decide) rfl ?_
  intro p e s m args below meth c s₁ B hml hv
  obtain ⟨rfl, hsz, hP, hK, hD0, hE⟩ := hv
  have hx := B.exec
  have hb := B.bytes
  have hr := B.returns
  have hts := atoms_spec (ws := wsX4_damage) B.pre
  have hown : s.vm.findClass RX4 = some m.cls := findClass_of_methodNamed B.named
  have hlocks := B.notSynchronized
  subst hsz
  have hD := hD0.self (sz := s.heap.size)
  generalize hAe : va_A (xm ad ca kf vf tf fr sf fi bk bv w (nI n) nb mn ai en th op wr) s.heap.size = A at hD hE ⊢
  have hA : ∀ q : Nat, s.heap.size ≤ q → A q := fun q h => by rw [← hAe]; exact Or.inr h
  have hS : va_S A s.heap s.heap [] := va_S.rf
  have hl := lv_entry ([.ref (ad 0), .int x, .int v]) (n := 4) (Nat.le_of_ble_eq_true rfl)
  rw [lg_entry_eq]
  generalize (lg_sl ([.ref (ad 0), .int x, .int v]) ++ List.replicate (4 - (lg_sl ([.ref (ad 0), .int x, .int v])).length) Slot.unset).toArray = ls at hl ⊢
  have hl : lv_has ls 4 [(0, .ref (ad 0)), (1, .int x), (2, .int v)] := hl
  refine lv_aload_n hx hb dX4_damage_0 rfl (lv_at hl 0 rfl) ?_
  refine lv_iload_n hx hb dX4_damage_1 rfl (lv_at hl 1 rfl) ?_
  refine xk_i (va_runV (As := [.int x]) (rest := []) ⟨hx, hb, hml, hown, hts⟩ (cX4_isByte_m l dC dI ca ad kf vf tf fr sf fi bk bv w nb mn ai en th op wr n x (by omega) _) (cwV 1 hts (xg_V mb_methodLink_RX4_113 mb_instanceMethod_yX4_isByte mb_selects_yX4_isByte mb_initialized_RX4 mb_code_yX4_isByte) rfl rfl rfl ⟨rfl, by decide, by decide, by decide +kernel⟩ ⟨Nat.le_of_ble_eq_true rfl, Nat.le_of_ble_eq_true rfl⟩) (xpreV (va_recv (q0 := 0) hK hP rfl rfl) hK hP hD hS hA hE) rfl rfl hl.1 rfl (lv_room (Nat.le_of_ble_eq_true rfl)) dX4_damage_2 ⟨Nat.le_of_ble_eq_true rfl, Nat.le_of_ble_eq_true rfl⟩) hD hS hA (fun r u H locs hu hP hD hS => ?_)
  have hP : va_P (dC, dI) vwCl (xm ad ca kf vf tf fr sf fi bk bv w (nI n) nb mn ai en u op wr) H := hP
  have hD : va_D A (xm ad ca kf vf tf fr sf fi bk bv w (nI n) nb mn ai en u op wr) := hD
  rcases hu with hu | hu
  · obtain ⟨rfl, rfl, hin⟩ := hu
    obtain ⟨j, hj, rfl⟩ := (sp_in_iff (by omega)).mp hin
    refine lv_if_ne (tgt := 10) hx hb dX4_damage_5 rfl (fun hc => ?_) (fun hc => absurd hc (by decide))
    refine lv_aload_n hx hb dX4_damage_10 rfl (lv_at hl 0 rfl) ?_
    refine va_get (D := (dC, dI)) (ci := 4) (v := .ref (ad 3)) (C := RX4) (T := TX4) (N := 17) (ref := "SortedRunModel") hx hb hts (xg_u mb_uws_X4) hown hK hP 0 rfl rfl 2 (by decide) (xg_w hts mb_fieldLink_RX4_17) (fun _ h9 => h9) rfl dX4_damage_11 ?_
    refine lv_iload_n hx hb dX4_damage_14 rfl (lv_at hl 1 rfl) ?_
    refine va_bald hx hb hK hP 3 2 rfl rfl (vp_in_nI (by omega) (by decide)) dX4_damage_15 ?_
    refine lv_topi (fun z1 ez1 => ?_)
    have ez1 : z1 = tf j := ez1.trans (congrArg tf (nI_clamp (by omega)))
    subst ez1
    refine lv_sipush (v := 255) hx hb dX4_damage_16 (by decide) ?_
    refine lv_iand hx hb dX4_damage_19 ?_
    refine lv_topi (fun z2 ez2 => ?_)
    have ez2 : z2 = nI (pb_ub tf j) := ez2.trans (pb_and tf j)
    subst ez2
    refine lv_istore_n hx hb dX4_damage_20 rfl hl (by decide) rfl (fun ls hl => ?_)
    have hl : lv_has ls 4 [(3, .int (nI (pb_ub tf j))), (0, .ref (ad 0)), (1, .int (nI j)), (2, .int v)] := hl
    refine lv_aload_n hx hb dX4_damage_21 rfl (lv_at hl 1 rfl) ?_
    refine va_get (D := (dC, dI)) (ci := 4) (v := .ref (ad 3)) (C := RX4) (T := TX4) (N := 17) (ref := "SortedRunModel") hx hb hts (xg_u mb_uws_X4) hown hK hP 0 rfl rfl 2 (by decide) (xg_w hts mb_fieldLink_RX4_17) (fun _ h9 => h9) rfl dX4_damage_22 ?_
    refine lv_iload_n hx hb dX4_damage_25 rfl (lv_at hl 2 rfl) ?_
    refine lv_iload_n hx hb dX4_damage_26 rfl (lv_at hl 3 rfl) ?_
    refine lv_i2b (v := v.toInt8.toInt32) hx hb dX4_damage_27 (rfl) ?_
    refine va_bast hx hb hK hP hD hS 3 2 rfl rfl (vp_in_nI (by omega) (by decide)) dX4_damage_28 (fun H locs hP hD hS => ?_)
    have e9 : upd tf (nI j).toNatClampNeg (vp_nar .byte v.toInt8.toInt32) = upd tf j v.toInt8.toInt32 := by rw [nI_clamp (by omega), pk_vb]
    rw [e9] at hP hD
    clear e9
    have hP : va_P (dC, dI) vwCl (xm ad ca kf vf (upd tf j v.toInt8.toInt32) fr sf fi bk bv w (nI n) nb mn ai en 0 op wr) H := hP
    have hD : va_D A (xm ad ca kf vf (upd tf j v.toInt8.toInt32) fr sf fi bk bv w (nI n) nb mn ai en 0 op wr) := hD
    refine lv_aload_n hx hb dX4_damage_29 rfl (lv_at hl 1 rfl) ?_
    refine lv_iconst (v := 0) hx hb dX4_damage_30 (by decide) ?_
    refine va_put (D := (dC, dI)) (ci := 4) (v := .int 0) (ty := .boolean) (C := RX4) (T := TX4) (N := 17) (ref := "SortedRunModel") hx hb hts (xg_u mb_uws_X4) tyX4 tyX4_ok nmX4 hown hK hP hD hS 0 rfl rfl 15 (by decide) (xg_w hts mb_fieldLink_RX4_74) (fun _ h9 => h9) rfl (by decide +kernel) rfl rfl (Nat.le_of_ble_eq_true rfl) dX4_damage_31 (fun H locs hP hD hS => ?_)
    have hP : va_P (dC, dI) vwCl (xm ad ca kf vf (upd tf j v.toInt8.toInt32) fr sf fi bk bv w (nI n) nb mn ai en 0 0 wr) H := hP
    have hD : va_D A (xm ad ca kf vf (upd tf j v.toInt8.toInt32) fr sf fi bk bv w (nI n) nb mn ai en 0 0 wr) := hD
    refine lv_iload_n hx hb dX4_damage_34 rfl (lv_at hl 0 rfl) ?_
    have hP9 := hP
    have hD9 := hD
    exact W.iret (v := nI (pb_ub tf j)) hx hb hr (fun t ht hW => ⟨⟨nI (pb_ub tf j), (0, 0, upd tf j v.toInt8.toInt32), rfl, Or.inl ⟨rfl, j, hj, rfl, rfl, rfl⟩, by rw [ht]; exact hP9, va_K.moved hW.alike hK, hD9⟩, hS.F ht⟩) hS.2.2 dX4_damage_35
  · obtain ⟨rfl, rfl, hin⟩ := hu
    refine lv_if_ne (tgt := 10) hx hb dX4_damage_5 rfl (fun hc => absurd hc (not_not_intro rfl)) (fun hc => ?_)
    refine lv_iconst (v := 0) hx hb dX4_damage_8 (by decide) ?_
    have hP9 := hP
    have hD9 := hD
    exact W.iret (v := 0) hx hb hr (fun t ht hW => ⟨⟨0, (1, op, tf), rfl, Or.inr ⟨rfl, hin, rfl⟩, by rw [ht]; exact hP9, va_K.moved hW.alike hK, hD9⟩, hS.F ht⟩) hS.2.2 dX4_damage_9

set_option maxHeartbeats 4000000 in
set_option maxRecDepth 100000 in
theorem cX4_cut_m (l : Launch) (dC : Nat → ClassId) (dI : Nat → Nat → Nat) (ca : Nat → ClassId) (ad : Nat → Nat) (kf : Nat → Int32) (vf : Nat → Int64) (tf : Nat → Int32) (fr : Nat → Int32) (sf : Nat → Int32) (fi : Nat → Int32) (bk : Nat → Int32) (bv : Nat → Int64) (w : Int32) (nb : Int32) (mn : Int32) (ai : Int32) (en : Int32) (th : Int32) (op : Int32) (wr : Int32) (n : Nat) (x : Int32) (hn : n ≤ 4889) : ∀ sz : Nat, Met l yX4_cut wsX4_cut ({ frames := 0, cells := 0, slots := 0, locals := 0 } : Room) (va_Pc [.ref (ad 0), .int x] (xP (dC, dI) (xt ca) (xm ad ca kf vf tf fr sf fi bk bv w (nI n) nb mn ai en th op wr) sz)) (va_Qv (S := Int32 × Int32 × Int32) (fun u => (u.1 = 0 ∧ sp_in x (n + 1) = true ∧ u.2 = (x, 0)) ∨ (u.1 = 1 ∧ sp_in x (n + 1) = false ∧ u.2 = (nI n, op))) (fun u t => xB (dC, dI) (xt ca) (va_A (xm ad ca kf vf tf fr sf fi bk bv w (nI n) nb mn ai en th op wr) sz) (xm ad ca kf vf tf fr sf fi bk bv w u.2.1 nb mn ai en u.1 u.2.2 wr) t) (va_A (xm ad ca kf vf tf fr sf fi bk bv w (nI n) nb mn ai en th op wr) sz)) 0 0 (va_A (xm ad ca kf vf tf fr sf fi bk bv w (nI n) nb mn ai en th op wr) sz) := by
  intro sz
  refine Met.ofW (cc := cX4_cut) (maxL := 2) (ret := none) (by decide) rfl ?_
  intro p e s m args below meth c s₁ B hml hv
  obtain ⟨rfl, hsz, hP, hK, hD0, hE⟩ := hv
  have hx := B.exec
  have hb := B.bytes
  have hr := B.returns
  have hts := atoms_spec (ws := wsX4_cut) B.pre
  have hown : s.vm.findClass RX4 = some m.cls := findClass_of_methodNamed B.named
  have hlocks := B.notSynchronized
  subst hsz
  have hD := hD0.self (sz := s.heap.size)
  generalize hAe : va_A (xm ad ca kf vf tf fr sf fi bk bv w (nI n) nb mn ai en th op wr) s.heap.size = A at hD hE ⊢
  have hA : ∀ q : Nat, s.heap.size ≤ q → A q := fun q h => by rw [← hAe]; exact Or.inr h
  have hS : va_S A s.heap s.heap [] := va_S.rf
  have hl := lv_entry ([.ref (ad 0), .int x]) (n := 2) (Nat.le_of_ble_eq_true rfl)
  rw [lg_entry_eq]
  generalize (lg_sl ([.ref (ad 0), .int x]) ++ List.replicate (2 - (lg_sl ([.ref (ad 0), .int x])).length) Slot.unset).toArray = ls at hl ⊢
  have hl : lv_has ls 2 [(0, .ref (ad 0)), (1, .int x)] := hl
  have hnn : x < nI (n + 1) ↔ x ≤ nI n := by
    have e1 := nI_toInt (n := n + 1) (by omega)
    have e2 := nI_toInt (n := n) (by omega)
    rw [Int32.lt_iff_toInt_lt, Int32.le_iff_toInt_le, e1, e2]; omega
  refine lv_aload_n hx hb dX4_cut_0 rfl (lv_at hl 0 rfl) ?_
  refine lv_iload_n hx hb dX4_cut_1 rfl (lv_at hl 1 rfl) ?_
  refine lv_if_lt (tgt := 13) hx hb dX4_cut_2 rfl (fun hc => ?_) (fun hc => ?_)
  · have hin : sp_in x (n + 1) = false := by unfold sp_in; rw [decide_eq_false (Int32.not_le.mpr hc)]; rfl
    refine lv_iconst (v := 1) hx hb dX4_cut_13 (by decide) ?_
    refine lv_goto (tgt := 18) hx hb dX4_cut_14 rfl ?_
    refine va_put (D := (dC, dI)) (ci := 4) (v := .int 1) (ty := .int) (C := RX4) (T := TX4) (N := 17) (ref := "SortedRunModel") hx hb hts (xg_u mb_uws_X4) tyX4 tyX4_ok nmX4 hown hK hP hD hS 0 rfl rfl 14 (by decide) (xg_w hts mb_fieldLink_RX4_39) (fun _ h9 => h9) rfl (by decide +kernel) rfl rfl (Nat.le_of_ble_eq_true rfl) dX4_cut_18 (fun H locs hP hD hS => ?_)
    have hP : va_P (dC, dI) vwCl (xm ad ca kf vf tf fr sf fi bk bv w (nI n) nb mn ai en 1 op wr) H := hP
    have hD : va_D A (xm ad ca kf vf tf fr sf fi bk bv w (nI n) nb mn ai en 1 op wr) := hD
    refine lv_aload_n hx hb dX4_cut_21 rfl (lv_at hl 0 rfl) ?_
    refine va_get (D := (dC, dI)) (ci := 4) (v := .int 1) (C := RX4) (T := TX4) (N := 17) (ref := "SortedRunModel") hx hb hts (xg_u mb_uws_X4) hown hK hP 0 rfl rfl 14 (by decide) (xg_w hts mb_fieldLink_RX4_39) (fun _ h9 => h9) rfl dX4_cut_22 ?_
    refine lv_if_le (tgt := 29) hx hb dX4_cut_25 rfl (fun hc => absurd hc (by decide)) (fun hc => ?_)
    have hP9 := hP
    have hD9 := hD
    exact W.vret hx hb hr (fun t ht hW => ⟨⟨(1, nI n, op), rfl, Or.inr ⟨rfl, hin, rfl⟩, by rw [ht]; exact hP9, va_K.moved hW.alike hK, hD9⟩, hS.F ht⟩) hS.2.2 dX4_cut_28
  · refine lv_iload_n hx hb dX4_cut_5 rfl (lv_at hl 1 rfl) ?_
    refine lv_aload_n hx hb dX4_cut_6 rfl (lv_at hl 0 rfl) ?_
    refine va_get (D := (dC, dI)) (ci := 4) (v := .int (nI n)) (C := RX4) (T := TX4) (N := 17) (ref := "SortedRunModel") hx hb hts (xg_u mb_uws_X4) hown hK hP 0 rfl rfl 9 (by decide) (xg_w hts mb_fieldLink_RX4_45) (fun _ h9 => h9) rfl dX4_cut_7 ?_
    refine lv_icmp_le (tgt := 17) hx hb dX4_cut_10 rfl (fun hc2 => ?_) (fun hc2 => ?_)
    · have hin : sp_in x (n + 1) = true := by unfold sp_in; rw [decide_eq_true (Int32.not_lt.mp hc), decide_eq_true (hnn.mpr hc2)]; rfl
      refine lv_iconst (v := 0) hx hb dX4_cut_17 (by decide) ?_
      refine va_put (D := (dC, dI)) (ci := 4) (v := .int 0) (ty := .int) (C := RX4) (T := TX4) (N := 17) (ref := "SortedRunModel") hx hb hts (xg_u mb_uws_X4) tyX4 tyX4_ok nmX4 hown hK hP hD hS 0 rfl rfl 14 (by decide) (xg_w hts mb_fieldLink_RX4_39) (fun _ h9 => h9) rfl (by decide +kernel) rfl rfl (Nat.le_of_ble_eq_true rfl) dX4_cut_18 (fun H locs hP hD hS => ?_)
      have hP : va_P (dC, dI) vwCl (xm ad ca kf vf tf fr sf fi bk bv w (nI n) nb mn ai en 0 op wr) H := hP
      have hD : va_D A (xm ad ca kf vf tf fr sf fi bk bv w (nI n) nb mn ai en 0 op wr) := hD
      refine lv_aload_n hx hb dX4_cut_21 rfl (lv_at hl 0 rfl) ?_
      refine va_get (D := (dC, dI)) (ci := 4) (v := .int 0) (C := RX4) (T := TX4) (N := 17) (ref := "SortedRunModel") hx hb hts (xg_u mb_uws_X4) hown hK hP 0 rfl rfl 14 (by decide) (xg_w hts mb_fieldLink_RX4_39) (fun _ h9 => h9) rfl dX4_cut_22 ?_
      refine lv_if_le (tgt := 29) hx hb dX4_cut_25 rfl (fun hc => ?_) (fun hc => absurd hc (not_not_intro (by decide)))
      refine lv_aload_n hx hb dX4_cut_29 rfl (lv_at hl 0 rfl) ?_
      refine lv_iload_n hx hb dX4_cut_30 rfl (lv_at hl 1 rfl) ?_
      refine va_put (D := (dC, dI)) (ci := 4) (v := .int x) (ty := .int) (C := RX4) (T := TX4) (N := 17) (ref := "SortedRunModel") hx hb hts (xg_u mb_uws_X4) tyX4 tyX4_ok nmX4 hown hK hP hD hS 0 rfl rfl 9 (by decide) (xg_w hts mb_fieldLink_RX4_45) (fun _ h9 => h9) rfl (by decide +kernel) rfl rfl (Nat.le_of_ble_eq_true rfl) dX4_cut_31 (fun H locs hP hD hS => ?_)
      have hP : va_P (dC, dI) vwCl (xm ad ca kf vf tf fr sf fi bk bv w x nb mn ai en 0 op wr) H := hP
      have hD : va_D A (xm ad ca kf vf tf fr sf fi bk bv w x nb mn ai en 0 op wr) := hD
      refine lv_aload_n hx hb dX4_cut_34 rfl (lv_at hl 0 rfl) ?_
      refine lv_iconst (v := 0) hx hb dX4_cut_35 (by decide) ?_
      refine va_put (D := (dC, dI)) (ci := 4) (v := .int 0) (ty := .boolean) (C := RX4) (T := TX4) (N := 17) (ref := "SortedRunModel") hx hb hts (xg_u mb_uws_X4) tyX4 tyX4_ok nmX4 hown hK hP hD hS 0 rfl rfl 15 (by decide) (xg_w hts mb_fieldLink_RX4_74) (fun _ h9 => h9) rfl (by decide +kernel) rfl rfl (Nat.le_of_ble_eq_true rfl) dX4_cut_36 (fun H locs hP hD hS => ?_)
      have hP : va_P (dC, dI) vwCl (xm ad ca kf vf tf fr sf fi bk bv w x nb mn ai en 0 0 wr) H := hP
      have hD : va_D A (xm ad ca kf vf tf fr sf fi bk bv w x nb mn ai en 0 0 wr) := hD
      have hP9 := hP
      have hD9 := hD
      exact W.vret hx hb hr (fun t ht hW => ⟨⟨(0, x, 0), rfl, Or.inl ⟨rfl, hin, rfl⟩, by rw [ht]; exact hP9, va_K.moved hW.alike hK, hD9⟩, hS.F ht⟩) hS.2.2 dX4_cut_39
    · have hin : sp_in x (n + 1) = false := by unfold sp_in; rw [decide_eq_false (fun y => hc2 (hnn.mp y)), Bool.and_false]
      refine lv_iconst (v := 1) hx hb dX4_cut_13 (by decide) ?_
      refine lv_goto (tgt := 18) hx hb dX4_cut_14 rfl ?_
      refine va_put (D := (dC, dI)) (ci := 4) (v := .int 1) (ty := .int) (C := RX4) (T := TX4) (N := 17) (ref := "SortedRunModel") hx hb hts (xg_u mb_uws_X4) tyX4 tyX4_ok nmX4 hown hK hP hD hS 0 rfl rfl 14 (by decide) (xg_w hts mb_fieldLink_RX4_39) (fun _ h9 => h9) rfl (by decide +kernel) rfl rfl (Nat.le_of_ble_eq_true rfl) dX4_cut_18 (fun H locs hP hD hS => ?_)
      have hP : va_P (dC, dI) vwCl (xm ad ca kf vf tf fr sf fi bk bv w (nI n) nb mn ai en 1 op wr) H := hP
      have hD : va_D A (xm ad ca kf vf tf fr sf fi bk bv w (nI n) nb mn ai en 1 op wr) := hD
      refine lv_aload_n hx hb dX4_cut_21 rfl (lv_at hl 0 rfl) ?_
      refine va_get (D := (dC, dI)) (ci := 4) (v := .int 1) (C := RX4) (T := TX4) (N := 17) (ref := "SortedRunModel") hx hb hts (xg_u mb_uws_X4) hown hK hP 0 rfl rfl 14 (by decide) (xg_w hts mb_fieldLink_RX4_39) (fun _ h9 => h9) rfl dX4_cut_22 ?_
      refine lv_if_le (tgt := 29) hx hb dX4_cut_25 rfl (fun hc => absurd hc (by decide)) (fun hc => ?_)
      have hP9 := hP
      have hD9 := hD
      exact W.vret hx hb hr (fun t ht hW => ⟨⟨(1, nI n, op), rfl, Or.inr ⟨rfl, hin, rfl⟩, by rw [ht]; exact hP9, va_K.moved hW.alike hK, hD9⟩, hS.F ht⟩) hS.2.2 dX4_cut_28

set_option maxHeartbeats 4000000 in
set_option maxRecDepth 100000 in
theorem cX4_open_m (l : Launch) (dC : Nat → ClassId) (dI : Nat → Nat → Nat) (ca : Nat → ClassId) (ad : Nat → Nat) (kf : Nat → Int32) (vf : Nat → Int64) (tf : Nat → Int32) (fr : Nat → Int32) (sf : Nat → Int32) (fi : Nat → Int32) (bk : Nat → Int32) (bv : Nat → Int64) (w : Int32) (nb : Int32) (mn : Int32) (ai : Int32) (en : Int32) (th : Int32) (op : Int32) (wr : Int32) (L : Nat) (hL : L ≤ 4889) (hf : pb_fit tf) : ∀ sz : Nat, Met l yX4_open wsX4_open ({ frames := 3, cells := 0, slots := 0, locals := 83 } : Room) (va_Pc [.ref (ad 0)] (xP (dC, dI) (xt ca) (xm ad ca kf vf tf fr sf fi bk bv w (nI L) nb mn ai en th op wr) sz)) (va_Qi (S := (Int32 × Int32) × (Nat → Int32) × (Nat → Int32) × (Nat → Int32) × Int32 × Int32 × Int32 × Int32) (fun r u => (∃ l9, px_open tf L = some l9 ∧ u.1 = (0, 1) ∧ r = nI l9.length ∧ u.2.2.2.2.1 = nI l9.length ∧ pm_rows 0 0 l9 u.2.1 u.2.2.1 u.2.2.2.1) ∨ (px_open tf L = none ∧ u.1 = (1, 0))) (fun u t => xB (dC, dI) (xt ca) (va_A (xm ad ca kf vf tf fr sf fi bk bv w (nI L) nb mn ai en th op wr) sz) (xm ad ca kf vf tf u.2.1 u.2.2.1 u.2.2.2.1 bk bv w (nI L) u.2.2.2.2.1 mn u.2.2.2.2.2.1 u.2.2.2.2.2.2.1 u.1.1 u.1.2 u.2.2.2.2.2.2.2) t) (va_A (xm ad ca kf vf tf fr sf fi bk bv w (nI L) nb mn ai en th op wr) sz)) 0 0 (va_A (xm ad ca kf vf tf fr sf fi bk bv w (nI L) nb mn ai en th op wr) sz) := by
  intro sz
  refine Met.ofW (cc := cX4_open) (maxL := 1) (ret := (some .int)) (by decide) rfl ?_
  intro p e s m args below meth c s₁ B hml hv
  obtain ⟨rfl, hsz, hP, hK, hD0, hE⟩ := hv
  have hx := B.exec
  have hb := B.bytes
  have hr := B.returns
  have hts := atoms_spec (ws := wsX4_open) B.pre
  have hown : s.vm.findClass RX4 = some m.cls := findClass_of_methodNamed B.named
  have hlocks := B.notSynchronized
  subst hsz
  have hD := hD0.self (sz := s.heap.size)
  generalize hAe : va_A (xm ad ca kf vf tf fr sf fi bk bv w (nI L) nb mn ai en th op wr) s.heap.size = A at hD hE ⊢
  have hA : ∀ q : Nat, s.heap.size ≤ q → A q := fun q h => by rw [← hAe]; exact Or.inr h
  have hS : va_S A s.heap s.heap [] := va_S.rf
  have hl := lv_entry ([.ref (ad 0)]) (n := 1) (Nat.le_of_ble_eq_true rfl)
  rw [lg_entry_eq]
  generalize (lg_sl ([.ref (ad 0)]) ++ List.replicate (1 - (lg_sl ([.ref (ad 0)])).length) Slot.unset).toArray = ls at hl ⊢
  have hl : lv_has ls 1 [(0, .ref (ad 0))] := hl
  refine lv_aload_n hx hb dX4_open_0 rfl (lv_at hl 0 rfl) ?_
  refine lv_aload_n hx hb dX4_open_1 rfl (lv_at hl 0 rfl) ?_
  refine xk_i (va_runV (As := []) (rest := [.ref (ad 0)]) ⟨hx, hb, hml, hown, hts⟩ (cX4_isIndex_m l dC dI ca ad kf vf tf fr sf fi bk bv w nb mn ai en th op wr L hL hf _) (cwV 0 hts (xg_V mb_methodLink_RX4_117 mb_instanceMethod_yX4_isIndex mb_selects_yX4_isIndex mb_initialized_RX4 mb_code_yX4_isIndex) rfl rfl rfl ⟨rfl, by decide, by decide, by decide +kernel⟩ ⟨Nat.le_of_ble_eq_true rfl, Nat.le_of_ble_eq_true rfl⟩) (xpreV (va_recv (q0 := 0) hK hP rfl rfl) hK hP hD hS hA hE) rfl rfl hl.1 rfl (lv_room (Nat.le_of_ble_eq_true rfl)) dX4_open_2 ⟨Nat.le_of_ble_eq_true rfl, Nat.le_of_ble_eq_true rfl⟩) hD hS hA (fun r u H locs hu hP hD hS => ?_)
  have hP : va_P (dC, dI) vwCl (xm ad ca kf vf tf u.1 u.2.1 u.2.2.1 bk bv w (nI L) u.2.2.2.1 mn u.2.2.2.2.1 u.2.2.2.2.2.1 th op u.2.2.2.2.2.2) H := hP
  have hD : va_D A (xm ad ca kf vf tf u.1 u.2.1 u.2.2.1 bk bv w (nI L) u.2.2.2.1 mn u.2.2.2.2.1 u.2.2.2.2.2.1 th op u.2.2.2.2.2.2) := hD
  obtain ⟨x1, x2, x3, x4, x5, x6, x7⟩ := u
  dsimp only at hu hP hD
  rcases hu with hu | hu
  · obtain ⟨l9, ho, rfl, hx4, hrw⟩ := hu
    refine va_put (D := (dC, dI)) (ci := 4) (v := .int 1) (ty := .boolean) (C := RX4) (T := TX4) (N := 17) (ref := "SortedRunModel") hx hb hts (xg_u mb_uws_X4) tyX4 tyX4_ok nmX4 hown hK hP hD hS 0 rfl rfl 15 (by decide) (xg_w hts mb_fieldLink_RX4_74) (fun _ h9 => h9) rfl (by decide +kernel) rfl rfl (Nat.le_of_ble_eq_true rfl) dX4_open_5 (fun H locs hP hD hS => ?_)
    have hP : va_P (dC, dI) vwCl (xm ad ca kf vf tf x1 x2 x3 bk bv w (nI L) x4 mn x5 x6 th 1 x7) H := hP
    have hD : va_D A (xm ad ca kf vf tf x1 x2 x3 bk bv w (nI L) x4 mn x5 x6 th 1 x7) := hD
    refine lv_aload_n hx hb dX4_open_8 rfl (lv_at hl 0 rfl) ?_
    refine lv_aload_n hx hb dX4_open_9 rfl (lv_at hl 0 rfl) ?_
    refine va_get (D := (dC, dI)) (ci := 4) (v := .int 1) (C := RX4) (T := TX4) (N := 17) (ref := "SortedRunModel") hx hb hts (xg_u mb_uws_X4) hown hK hP 0 rfl rfl 15 (by decide) (xg_w hts mb_fieldLink_RX4_74) (fun _ h9 => h9) rfl dX4_open_10 ?_
    refine lv_if_eq (tgt := 20) hx hb dX4_open_13 rfl (fun hc => absurd hc (by decide)) (fun hc => ?_)
    refine lv_iconst (v := 0) hx hb dX4_open_16 (by decide) ?_
    refine lv_goto (tgt := 21) hx hb dX4_open_17 rfl ?_
    refine va_put (D := (dC, dI)) (ci := 4) (v := .int 0) (ty := .int) (C := RX4) (T := TX4) (N := 17) (ref := "SortedRunModel") hx hb hts (xg_u mb_uws_X4) tyX4 tyX4_ok nmX4 hown hK hP hD hS 0 rfl rfl 14 (by decide) (xg_w hts mb_fieldLink_RX4_39) (fun _ h9 => h9) rfl (by decide +kernel) rfl rfl (Nat.le_of_ble_eq_true rfl) dX4_open_21 (fun H locs hP hD hS => ?_)
    have hP : va_P (dC, dI) vwCl (xm ad ca kf vf tf x1 x2 x3 bk bv w (nI L) x4 mn x5 x6 0 1 x7) H := hP
    have hD : va_D A (xm ad ca kf vf tf x1 x2 x3 bk bv w (nI L) x4 mn x5 x6 0 1 x7) := hD
    refine lv_aload_n hx hb dX4_open_24 rfl (lv_at hl 0 rfl) ?_
    refine va_get (D := (dC, dI)) (ci := 4) (v := .int 1) (C := RX4) (T := TX4) (N := 17) (ref := "SortedRunModel") hx hb hts (xg_u mb_uws_X4) hown hK hP 0 rfl rfl 15 (by decide) (xg_w hts mb_fieldLink_RX4_74) (fun _ h9 => h9) rfl dX4_open_25 ?_
    refine lv_if_eq (tgt := 38) hx hb dX4_open_28 rfl (fun hc2 => absurd hc2 (by decide)) (fun hc2 => ?_)
    refine lv_aload_n hx hb dX4_open_31 rfl (lv_at hl 0 rfl) ?_
    refine va_get (D := (dC, dI)) (ci := 4) (v := .int x4) (C := RX4) (T := TX4) (N := 17) (ref := "SortedRunModel") hx hb hts (xg_u mb_uws_X4) hown hK hP 0 rfl rfl 10 (by decide) (xg_w hts mb_fieldLink_RX4_102) (fun _ h9 => h9) rfl dX4_open_32 ?_
    refine lv_goto (tgt := 39) hx hb dX4_open_35 rfl ?_
    refine lv_topi (fun z1 ez1 => ?_)
    have ez1 : z1 = nI l9.length := ez1.trans (hx4)
    subst ez1
    have hP9 := hP
    have hD9 := hD
    exact W.iret (v := nI l9.length) hx hb hr (fun t ht hW => ⟨⟨nI l9.length, ((0, 1), (x1, x2, x3, x4, x5, x6, x7)), rfl, Or.inl ⟨l9, ho, rfl, rfl, hx4, hrw⟩, by rw [ht]; exact hP9, va_K.moved hW.alike hK, hD9⟩, hS.F ht⟩) hS.2.2 dX4_open_39
  · obtain ⟨ho, rfl⟩ := hu
    refine va_put (D := (dC, dI)) (ci := 4) (v := .int 0) (ty := .boolean) (C := RX4) (T := TX4) (N := 17) (ref := "SortedRunModel") hx hb hts (xg_u mb_uws_X4) tyX4 tyX4_ok nmX4 hown hK hP hD hS 0 rfl rfl 15 (by decide) (xg_w hts mb_fieldLink_RX4_74) (fun _ h9 => h9) rfl (by decide +kernel) rfl rfl (Nat.le_of_ble_eq_true rfl) dX4_open_5 (fun H locs hP hD hS => ?_)
    have hP : va_P (dC, dI) vwCl (xm ad ca kf vf tf x1 x2 x3 bk bv w (nI L) x4 mn x5 x6 th 0 x7) H := hP
    have hD : va_D A (xm ad ca kf vf tf x1 x2 x3 bk bv w (nI L) x4 mn x5 x6 th 0 x7) := hD
    refine lv_aload_n hx hb dX4_open_8 rfl (lv_at hl 0 rfl) ?_
    refine lv_aload_n hx hb dX4_open_9 rfl (lv_at hl 0 rfl) ?_
    refine va_get (D := (dC, dI)) (ci := 4) (v := .int 0) (C := RX4) (T := TX4) (N := 17) (ref := "SortedRunModel") hx hb hts (xg_u mb_uws_X4) hown hK hP 0 rfl rfl 15 (by decide) (xg_w hts mb_fieldLink_RX4_74) (fun _ h9 => h9) rfl dX4_open_10 ?_
    refine lv_if_eq (tgt := 20) hx hb dX4_open_13 rfl (fun hc => ?_) (fun hc => absurd hc (not_not_intro rfl))
    refine lv_iconst (v := 1) hx hb dX4_open_20 (by decide) ?_
    refine va_put (D := (dC, dI)) (ci := 4) (v := .int 1) (ty := .int) (C := RX4) (T := TX4) (N := 17) (ref := "SortedRunModel") hx hb hts (xg_u mb_uws_X4) tyX4 tyX4_ok nmX4 hown hK hP hD hS 0 rfl rfl 14 (by decide) (xg_w hts mb_fieldLink_RX4_39) (fun _ h9 => h9) rfl (by decide +kernel) rfl rfl (Nat.le_of_ble_eq_true rfl) dX4_open_21 (fun H locs hP hD hS => ?_)
    have hP : va_P (dC, dI) vwCl (xm ad ca kf vf tf x1 x2 x3 bk bv w (nI L) x4 mn x5 x6 1 0 x7) H := hP
    have hD : va_D A (xm ad ca kf vf tf x1 x2 x3 bk bv w (nI L) x4 mn x5 x6 1 0 x7) := hD
    refine lv_aload_n hx hb dX4_open_24 rfl (lv_at hl 0 rfl) ?_
    refine va_get (D := (dC, dI)) (ci := 4) (v := .int 0) (C := RX4) (T := TX4) (N := 17) (ref := "SortedRunModel") hx hb hts (xg_u mb_uws_X4) hown hK hP 0 rfl rfl 15 (by decide) (xg_w hts mb_fieldLink_RX4_74) (fun _ h9 => h9) rfl dX4_open_25 ?_
    refine lv_if_eq (tgt := 38) hx hb dX4_open_28 rfl (fun hc2 => ?_) (fun hc2 => absurd hc2 (not_not_intro rfl))
    refine lv_iconst (v := 0) hx hb dX4_open_38 (by decide) ?_
    have hP9 := hP
    have hD9 := hD
    exact W.iret (v := 0) hx hb hr (fun t ht hW => ⟨⟨0, ((1, 0), (x1, x2, x3, x4, x5, x6, x7)), rfl, Or.inr ⟨ho, rfl⟩, by rw [ht]; exact hP9, va_K.moved hW.alike hK, hD9⟩, hS.F ht⟩) hS.2.2 dX4_open_39
