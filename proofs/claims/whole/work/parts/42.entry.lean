/-! fold, unfold, Entry, Index: leaves (rows by wip/whole/wix.py) -/
set_option maxHeartbeats 4000000 in
set_option maxRecDepth 100000 in
theorem cX3_fold_m (l : Launch) (dC : Nat → ClassId) (dI : Nat → Nat → Nat) (ca : Nat → ClassId) (ad : Nat → Nat) (kf : Nat → Int32) (vf : Nat → Int64) (bf : Nat → Int32) (w : Int32) (op : Int32) (ln : Int32) (nx : Int32) (en : Int32) (ok : Int32) (tf : Nat → Int32) (nb : Int32) (ef : Nat → Int32) (ff : Nat → Int32) (fi : Int32) (ek : Int32) (ev : Int64) (v : Int64) : ∀ sz : Nat, Met l yX3_fold wsX3_fold ({ frames := 0, cells := 0, slots := 0, locals := 0 } : Room) (va_Pc [.long v] (xP (dC, dI) (xt ca) (xw ad ca kf vf bf w op ln nx en ok tf nb ef ff fi ek ev) sz)) (va_Ql (S := Unit) (fun r _ => r = pu_f v) (fun u t => xB (dC, dI) (xt ca) (va_A (xw ad ca kf vf bf w op ln nx en ok tf nb ef ff fi ek ev) sz) (xw ad ca kf vf bf w op ln nx en ok tf nb ef ff fi ek ev) t) (va_A (xw ad ca kf vf bf w op ln nx en ok tf nb ef ff fi ek ev) sz)) 0 0 (va_A (xw ad ca kf vf bf w op ln nx en ok tf nb ef ff fi ek ev) sz) := by
  intro sz
  refine Met.ofW (cc := cX3_fold) (maxL := 2) (ret := (some .long)) (by decide) rfl ?_
  intro p e s m args below meth c s₁ B hml hv
  obtain ⟨rfl, hsz, hP, hK, hD0, hE⟩ := hv
  have hx := B.exec
  have hb := B.bytes
  have hr := B.returns
  have hts := atoms_spec (ws := wsX3_fold) B.pre
  have hown : s.vm.findClass RX3 = some m.cls := findClass_of_methodNamed B.named
  have hlocks := B.notSynchronized
  subst hsz
  have hD := hD0.self (sz := s.heap.size)
  generalize hAe : va_A (xw ad ca kf vf bf w op ln nx en ok tf nb ef ff fi ek ev) s.heap.size = A at hD hE ⊢
  have hA : ∀ q : Nat, s.heap.size ≤ q → A q := fun q h => by rw [← hAe]; exact Or.inr h
  have hS : va_S A s.heap s.heap [] := va_S.rf
  have hl := lv_entry ([.long v]) (n := 2) (Nat.le_of_ble_eq_true rfl)
  rw [lg_entry_eq]
  generalize (lg_sl ([.long v]) ++ List.replicate (2 - (lg_sl ([.long v])).length) Slot.unset).toArray = ls at hl ⊢
  have hl : lv_has ls 2 [(0, .long v)] := hl
  refine lv_lload_n hx hb dX3_fold_0 rfl (lv_at hl 0 rfl) ?_
  refine lv_lconst (v := 0) hx hb dX3_fold_1 (by decide) ?_
  refine W.lcmp hx hb dX3_fold_2 ?_
  refine lv_if_ge (tgt := 16) hx hb dX3_fold_3 rfl (fun hc => ?_) (fun hc => ?_)
  · have hc1 : ¬ v < 0 := Int64.not_lt.mpr (lc_ge.mp hc)
    refine lv_ldc2 (v := 2) hx hb hown (xg_w hts mb_constantLong_RX3_197) dX3_fold_16 ?_
    refine lv_lload_n hx hb dX3_fold_19 rfl (lv_at hl 0 rfl) ?_
    refine lv_lmul hx hb dX3_fold_20 ?_
    have hP9 := hP
    have hD9 := hD
    exact W.lret (v := 2 * v) hx hb hr (fun t ht hW => ⟨⟨2 * v, (), rfl, by unfold pu_f; rw [if_neg hc1], by rw [ht]; exact hP9, va_K.moved hW.alike hK, hD9⟩, hS.F ht⟩) hS.2.2 dX3_fold_21
  · have hc1 : v < 0 := Int64.not_le.mp (fun z => hc (lc_ge.mpr z))
    refine lv_ldc2 (v := -2) hx hb hown (xg_w hts mb_constantLong_RX3_195) dX3_fold_6 ?_
    refine lv_lload_n hx hb dX3_fold_9 rfl (lv_at hl 0 rfl) ?_
    refine lv_lmul hx hb dX3_fold_10 ?_
    refine lv_lconst (v := 1) hx hb dX3_fold_11 (by decide) ?_
    refine lv_lsub hx hb dX3_fold_12 ?_
    refine lv_goto (tgt := 21) hx hb dX3_fold_13 rfl ?_
    have hP9 := hP
    have hD9 := hD
    exact W.lret (v := ((-2) * v) - 1) hx hb hr (fun t ht hW => ⟨⟨((-2) * v) - 1, (), rfl, by unfold pu_f; rw [if_pos hc1], by rw [ht]; exact hP9, va_K.moved hW.alike hK, hD9⟩, hS.F ht⟩) hS.2.2 dX3_fold_21

set_option maxHeartbeats 4000000 in
set_option maxRecDepth 100000 in
theorem cX3_unfold_m (l : Launch) (dC : Nat → ClassId) (dI : Nat → Nat → Nat) (ca : Nat → ClassId) (ad : Nat → Nat) (kf : Nat → Int32) (vf : Nat → Int64) (bf : Nat → Int32) (w : Int32) (op : Int32) (ln : Int32) (nx : Int32) (en : Int32) (ok : Int32) (tf : Nat → Int32) (nb : Int32) (ef : Nat → Int32) (ff : Nat → Int32) (fi : Int32) (ek : Int32) (ev : Int64) (v : Int64) : ∀ sz : Nat, Met l yX3_unfold wsX3_unfold ({ frames := 0, cells := 0, slots := 0, locals := 0 } : Room) (va_Pc [.long v] (xP (dC, dI) (xt ca) (xw ad ca kf vf bf w op ln nx en ok tf nb ef ff fi ek ev) sz)) (va_Ql (S := Unit) (fun r _ => r = pu_u v) (fun u t => xB (dC, dI) (xt ca) (va_A (xw ad ca kf vf bf w op ln nx en ok tf nb ef ff fi ek ev) sz) (xw ad ca kf vf bf w op ln nx en ok tf nb ef ff fi ek ev) t) (va_A (xw ad ca kf vf bf w op ln nx en ok tf nb ef ff fi ek ev) sz)) 0 0 (va_A (xw ad ca kf vf bf w op ln nx en ok tf nb ef ff fi ek ev) sz) := by
  intro sz
  refine Met.ofW (cc := cX3_unfold) (maxL := 4) (ret := (some .long)) (by decide) rfl ?_
  intro p e s m args below meth c s₁ B hml hv
  obtain ⟨rfl, hsz, hP, hK, hD0, hE⟩ := hv
  have hx := B.exec
  have hb := B.bytes
  have hr := B.returns
  have hts := atoms_spec (ws := wsX3_unfold) B.pre
  have hown : s.vm.findClass RX3 = some m.cls := findClass_of_methodNamed B.named
  have hlocks := B.notSynchronized
  subst hsz
  have hD := hD0.self (sz := s.heap.size)
  generalize hAe : va_A (xw ad ca kf vf bf w op ln nx en ok tf nb ef ff fi ek ev) s.heap.size = A at hD hE ⊢
  have hA : ∀ q : Nat, s.heap.size ≤ q → A q := fun q h => by rw [← hAe]; exact Or.inr h
  have hS : va_S A s.heap s.heap [] := va_S.rf
  have hl := lv_entry ([.long v]) (n := 4) (Nat.le_of_ble_eq_true rfl)
  rw [lg_entry_eq]
  generalize (lg_sl ([.long v]) ++ List.replicate (4 - (lg_sl ([.long v])).length) Slot.unset).toArray = ls at hl ⊢
  have hl : lv_has ls 4 [(0, .long v)] := hl
  refine lv_lload_n hx hb dX3_unfold_0 rfl (lv_at hl 0 rfl) ?_
  refine lv_iconst (v := 1) hx hb dX3_unfold_1 (by decide) ?_
  refine lv_lushr (v := pu_h v) hx hb dX3_unfold_2 (rfl) ?_
  refine lv_lstore_n hx hb dX3_unfold_3 rfl hl (by decide) rfl (fun ls hl => ?_)
  have hl : lv_has ls 4 [(2, .long (pu_h v)), (0, .long v)] := hl
  refine lv_lload_n hx hb dX3_unfold_4 rfl (lv_at hl 1 rfl) ?_
  refine lv_lconst (v := 1) hx hb dX3_unfold_5 (by decide) ?_
  refine lv_land hx hb dX3_unfold_6 ?_
  refine lv_lconst (v := 0) hx hb dX3_unfold_7 (by decide) ?_
  refine W.lcmp hx hb dX3_unfold_8 ?_
  refine lv_if_ne (tgt := 16) hx hb dX3_unfold_9 rfl (fun hc => ?_) (fun hc => ?_)
  · have hc1 : ¬ (v &&& 1) = 0 := fun z => hc (lc_eq.mpr z)
    refine lv_lload_n hx hb dX3_unfold_16 rfl (lv_at hl 0 rfl) ?_
    refine lv_lneg hx hb dX3_unfold_17 ?_
    refine lv_lconst (v := 1) hx hb dX3_unfold_18 (by decide) ?_
    refine lv_lsub hx hb dX3_unfold_19 ?_
    have hP9 := hP
    have hD9 := hD
    exact W.lret (v := (-(pu_h v)) - 1) hx hb hr (fun t ht hW => ⟨⟨(-(pu_h v)) - 1, (), rfl, by unfold pu_u; rw [if_neg hc1], by rw [ht]; exact hP9, va_K.moved hW.alike hK, hD9⟩, hS.F ht⟩) hS.2.2 dX3_unfold_20
  · have hc1 : (v &&& 1) = 0 := lc_eq.mp hc
    refine lv_lload_n hx hb dX3_unfold_12 rfl (lv_at hl 0 rfl) ?_
    refine lv_goto (tgt := 20) hx hb dX3_unfold_13 rfl ?_
    have hP9 := hP
    have hD9 := hD
    exact W.lret (v := pu_h v) hx hb hr (fun t ht hW => ⟨⟨pu_h v, (), rfl, by unfold pu_u; rw [if_pos hc1], by rw [ht]; exact hP9, va_K.moved hW.alike hK, hD9⟩, hS.F ht⟩) hS.2.2 dX3_unfold_20

set_option maxHeartbeats 4000000 in
set_option maxRecDepth 100000 in
theorem cX0_readNext_m (l : Launch) (dC : Nat → ClassId) (dI : Nat → Nat → Nat) (ca : Nat → ClassId) (ad : Nat → Nat) (kf : Nat → Int32) (vf : Nat → Int64) (bf : Nat → Int32) (w : Int32) (op : Int32) (ln : Int32) (ok : Int32) (tf : Nat → Int32) (nb : Int32) (ef : Nat → Int32) (ff : Nat → Int32) (fi : Int32) (ek : Int32) (ev : Int64) (a b : Nat) (fst : Bool) (ha : a ≤ b) (hb9 : b ≤ 4889) (hfi : fi = if fst = true then 1 else 0) : ∀ sz : Nat, Met l yX0_readNext wsX0_readNext ({ frames := 2, cells := 0, slots := 0, locals := 45 } : Room) (va_Pc [.ref (ad 9), .ref (ad 4)] (xP (dC, dI) (xt ca) (xw ad ca kf vf bf w op ln (nI a) (nI b) ok tf nb ef ff fi ek ev) sz)) (va_Qv (S := Nat × Int32 × Int32 × Int64) (fun u => a ≤ u.1 ∧ u.1 ≤ b ∧ ((pe_rd tf b fst ek a = some (u.2.2.1, u.2.2.2, u.1) ∧ u.2.1 = ok) ∨ (pe_rd tf b fst ek a = none ∧ u.2.1 = 0))) (fun u t => xB (dC, dI) (xt ca) (va_A (xw ad ca kf vf bf w op ln (nI a) (nI b) ok tf nb ef ff fi ek ev) sz) (xw ad ca kf vf bf w op ln (nI u.1) (nI b) u.2.1 tf nb ef ff 0 u.2.2.1 u.2.2.2) t) (va_A (xw ad ca kf vf bf w op ln (nI a) (nI b) ok tf nb ef ff fi ek ev) sz)) 0 0 (va_A (xw ad ca kf vf bf w op ln (nI a) (nI b) ok tf nb ef ff fi ek ev) sz) := by
  intro sz
  refine Met.ofW (cc := cX0_readNext) (maxL := 4) (ret := none) (by decide) rfl ?_
  intro p e s m args below meth c s₁ B hml hv
  obtain ⟨rfl, hsz, hP, hK, hD0, hE⟩ := hv
  have hx := B.exec
  have hb := B.bytes
  have hr := B.returns
  have hts := atoms_spec (ws := wsX0_readNext) B.pre
  have hown : s.vm.findClass RX0 = some m.cls := findClass_of_methodNamed B.named
  have hlocks := B.notSynchronized
  subst hsz
  have hD := hD0.self (sz := s.heap.size)
  generalize hAe : va_A (xw ad ca kf vf bf w op ln (nI a) (nI b) ok tf nb ef ff fi ek ev) s.heap.size = A at hD hE ⊢
  have hA : ∀ q : Nat, s.heap.size ≤ q → A q := fun q h => by rw [← hAe]; exact Or.inr h
  have hS : va_S A s.heap s.heap [] := va_S.rf
  have hl := lv_entry ([.ref (ad 9), .ref (ad 4)]) (n := 4) (Nat.le_of_ble_eq_true rfl)
  rw [lg_entry_eq]
  generalize (lg_sl ([.ref (ad 9), .ref (ad 4)]) ++ List.replicate (4 - (lg_sl ([.ref (ad 9), .ref (ad 4)])).length) Slot.unset).toArray = ls at hl ⊢
  have hl : lv_has ls 4 [(0, .ref (ad 9)), (1, .ref (ad 4))] := hl
  refine lv_aload_n hx hb dX0_readNext_0 rfl (lv_at hl 1 rfl) ?_
  refine xk_l (va_runV (As := []) (rest := []) ⟨hx, hb, hml, hown, hts⟩ (cX2_takeNumber_m l dC dI ca ad kf vf bf w op ln ok tf nb ef ff fi ek ev a b ha hb9 _) (cwV 0 hts (xg_V mb_methodLink_RX0_7 mb_instanceMethod_yX2_takeNumber mb_selects_yX2_takeNumber mb_initialized_RX2 mb_code_yX2_takeNumber) rfl rfl rfl ⟨rfl, by decide, by decide, by decide +kernel⟩ ⟨Nat.le_of_ble_eq_true rfl, Nat.le_of_ble_eq_true rfl⟩) (xpreV (va_recv (q0 := 4) hK hP rfl rfl) hK hP hD hS hA hE) rfl rfl hl.1 rfl (lv_room (Nat.le_of_ble_eq_true rfl)) dX0_readNext_1 ⟨Nat.le_of_ble_eq_true rfl, Nat.le_of_ble_eq_true rfl⟩) hD hS hA (fun r u H locs hu hP hD hS => ?_)
  have hP : va_P (dC, dI) vwCl (xw ad ca kf vf bf w op ln (nI u.2.1) (nI b) u.2.2 tf nb ef ff fi ek ev) H := hP
  have hD : va_D A (xw ad ca kf vf bf w op ln (nI u.2.1) (nI b) u.2.2 tf nb ef ff fi ek ev) := hD
  obtain ⟨n1, a1, o1⟩ := u
  obtain ⟨hr1, hn1, h1, h2, hq1⟩ := hu
  dsimp only at hr1 hn1 h1 h2 hq1 hP hD
  subst hr1
  refine lv_lstore_n hx hb dX0_readNext_4 rfl hl (by decide) rfl (fun ls hl => ?_)
  have hl : lv_has ls 4 [(2, .long (lN n1)), (0, .ref (ad 9)), (1, .ref (ad 4))] := hl
  refine lv_aload_n hx hb dX0_readNext_5 rfl (lv_at hl 1 rfl) ?_
  refine lv_aload_n hx hb dX0_readNext_6 rfl (lv_at hl 1 rfl) ?_
  refine va_get (D := (dC, dI)) (ci := 0) (v := .int fi) (C := RX0) (T := TX0) (N := 3) (ref := "SortedRun$Entry") hx hb hts (xg_u mb_uws_X0) hown hK hP 9 rfl rfl 0 (by decide) (xg_w hts mb_fieldLink_RX0_13) (fun _ h9 => h9) rfl dX0_readNext_7 ?_
  refine lv_if_eq (tgt := 20) hx hb dX0_readNext_10 rfl (fun hc => ?_) (fun hc => ?_)
  · have hf : fst = false := by cases fst with | false => rfl | true => (rw [hfi] at hc; exact absurd hc (by decide))
    subst hf
    refine lv_aload_n hx hb dX0_readNext_20 rfl (lv_at hl 1 rfl) ?_
    refine va_get (D := (dC, dI)) (ci := 0) (v := .int ek) (C := RX0) (T := TX0) (N := 3) (ref := "SortedRun$Entry") hx hb hts (xg_u mb_uws_X0) hown hK hP 9 rfl rfl 1 (by decide) (xg_w hts mb_fieldLink_RX0_25) (fun _ h9 => h9) rfl dX0_readNext_21 ?_
    refine lv_i2l (v := ek.toInt64) hx hb dX0_readNext_24 (rfl) ?_
    refine lv_lload_n hx hb dX0_readNext_25 rfl (lv_at hl 0 rfl) ?_
    refine lv_ladd hx hb dX0_readNext_26 ?_
    refine lv_lconst (v := 1) hx hb dX0_readNext_27 (by decide) ?_
    refine lv_ladd hx hb dX0_readNext_28 ?_
    refine lv_l2i (v := pe_key false ek n1) hx hb dX0_readNext_29 (by unfold pe_key; simp) ?_
    refine va_put (D := (dC, dI)) (ci := 0) (v := .int (pe_key false ek n1)) (ty := .int) (C := RX0) (T := TX0) (N := 3) (ref := "SortedRun$Entry") hx hb hts (xg_u mb_uws_X0) tyX0 tyX0_ok nmX0 hown hK hP hD hS 9 rfl rfl 1 (by decide) (xg_w hts mb_fieldLink_RX0_25) (fun _ h9 => h9) rfl (by decide +kernel) rfl rfl (Nat.le_of_ble_eq_true rfl) dX0_readNext_30 (fun H locs hP hD hS => ?_)
    have hP : va_P (dC, dI) vwCl (xw ad ca kf vf bf w op ln (nI a1) (nI b) o1 tf nb ef ff fi (pe_key false ek n1) ev) H := hP
    have hD : va_D A (xw ad ca kf vf bf w op ln (nI a1) (nI b) o1 tf nb ef ff fi (pe_key false ek n1) ev) := hD
    refine lv_aload_n hx hb dX0_readNext_33 rfl (lv_at hl 1 rfl) ?_
    refine lv_aload_n hx hb dX0_readNext_34 rfl (lv_at hl 2 rfl) ?_
    refine xk_l (va_runV (As := []) (rest := [.ref (ad 9)]) ⟨hx, hb, hml, hown, hts⟩ (cX2_takeNumber_m l dC dI ca ad kf vf bf w op ln o1 tf nb ef ff fi (pe_key false ek n1) ev a1 b h2 hb9 _) (cwV 0 hts (xg_V mb_methodLink_RX0_7 mb_instanceMethod_yX2_takeNumber mb_selects_yX2_takeNumber mb_initialized_RX2 mb_code_yX2_takeNumber) rfl rfl rfl ⟨rfl, by decide, by decide, by decide +kernel⟩ ⟨Nat.le_of_ble_eq_true rfl, Nat.le_of_ble_eq_true rfl⟩) (xpreV (va_recv (q0 := 4) hK hP rfl rfl) hK hP hD hS hA hE) rfl rfl hl.1 rfl (lv_room (Nat.le_of_ble_eq_true rfl)) dX0_readNext_35 ⟨Nat.le_of_ble_eq_true rfl, Nat.le_of_ble_eq_true rfl⟩) hD hS hA (fun r u H locs hu hP hD hS => ?_)
    have hP : va_P (dC, dI) vwCl (xw ad ca kf vf bf w op ln (nI u.2.1) (nI b) u.2.2 tf nb ef ff fi (pe_key false ek n1) ev) H := hP
    have hD : va_D A (xw ad ca kf vf bf w op ln (nI u.2.1) (nI b) u.2.2 tf nb ef ff fi (pe_key false ek n1) ev) := hD
    obtain ⟨n2, a2, o2⟩ := u
    obtain ⟨hr2, hn2, h3, h4, hq2⟩ := hu
    dsimp only at hr2 hn2 h3 h4 hq2 hP hD
    subst hr2
    refine xk_l (va_runSN (As := [.long (lN n2)]) (rest := [.ref (ad 9)]) ⟨hx, hb, hml, hown, hts⟩ (cX3_unfold_m l dC dI ca ad kf vf bf w op ln (nI a2) (nI b) o2 tf nb ef ff fi (pe_key false ek n1) ev (lN n2) _) ⟨va_cnB 1 hts (xg_0 mb_code_yX3_unfold) rfl rfl rfl (xn_nw (w := .methodLinkNest RX0 19 yX3_unfold "SortedRun") (i := 433) hE rfl rfl) (xg_w hts mb_initialized_RX3) ⟨by decide, by decide, by decide +kernel⟩ ⟨Nat.le_of_ble_eq_true rfl, Nat.le_of_ble_eq_true rfl⟩, xg_w hts mb_static_yX3_unfold, trivial⟩ (xpreS hK hP hD hS hA hE) rfl rfl hl.1 rfl (lv_room (Nat.le_of_ble_eq_true rfl)) dX0_readNext_38 ⟨Nat.le_of_ble_eq_true rfl, Nat.le_of_ble_eq_true rfl⟩) hD hS hA (fun r u H locs hu hP hD hS => ?_)
    subst hu
    have hP : va_P (dC, dI) vwCl (xw ad ca kf vf bf w op ln (nI a2) (nI b) o2 tf nb ef ff fi (pe_key false ek n1) ev) H := hP
    have hD : va_D A (xw ad ca kf vf bf w op ln (nI a2) (nI b) o2 tf nb ef ff fi (pe_key false ek n1) ev) := hD
    refine va_put (D := (dC, dI)) (ci := 0) (v := .long (pu_u (lN n2))) (ty := .long) (C := RX0) (T := TX0) (N := 3) (ref := "SortedRun$Entry") hx hb hts (xg_u mb_uws_X0) tyX0 tyX0_ok nmX0 hown hK hP hD hS 9 rfl rfl 2 (by decide) (xg_w hts mb_fieldLink_RX0_29) (fun _ h9 => h9) rfl (by decide +kernel) rfl rfl (Nat.le_of_ble_eq_true rfl) dX0_readNext_41 (fun H locs hP hD hS => ?_)
    have hP : va_P (dC, dI) vwCl (xw ad ca kf vf bf w op ln (nI a2) (nI b) o2 tf nb ef ff fi (pe_key false ek n1) (pu_u (lN n2))) H := hP
    have hD : va_D A (xw ad ca kf vf bf w op ln (nI a2) (nI b) o2 tf nb ef ff fi (pe_key false ek n1) (pu_u (lN n2))) := hD
    refine lv_aload_n hx hb dX0_readNext_44 rfl (lv_at hl 1 rfl) ?_
    refine lv_iconst (v := 0) hx hb dX0_readNext_45 (by decide) ?_
    refine va_put (D := (dC, dI)) (ci := 0) (v := .int 0) (ty := .boolean) (C := RX0) (T := TX0) (N := 3) (ref := "SortedRun$Entry") hx hb hts (xg_u mb_uws_X0) tyX0 tyX0_ok nmX0 hown hK hP hD hS 9 rfl rfl 0 (by decide) (xg_w hts mb_fieldLink_RX0_13) (fun _ h9 => h9) rfl (by decide +kernel) rfl rfl (Nat.le_of_ble_eq_true rfl) dX0_readNext_46 (fun H locs hP hD hS => ?_)
    have hP : va_P (dC, dI) vwCl (xw ad ca kf vf bf w op ln (nI a2) (nI b) o2 tf nb ef ff 0 (pe_key false ek n1) (pu_u (lN n2))) H := hP
    have hD : va_D A (xw ad ca kf vf bf w op ln (nI a2) (nI b) o2 tf nb ef ff 0 (pe_key false ek n1) (pu_u (lN n2))) := hD
    have hz : (pe_rd tf b false ek a = some (pe_key false ek n1, pu_u (lN n2), a2) ∧ o2 = ok) ∨ (pe_rd tf b false ek a = none ∧ o2 = 0) := by
      unfold pe_rd
      rcases hq1 with ⟨q1, rfl⟩ | ⟨q1, rfl⟩
      · rcases hq2 with ⟨q2, rfl⟩ | ⟨q2, rfl⟩
        · exact Or.inl ⟨by simp only [q1, q2], rfl⟩
        · exact Or.inr ⟨by simp only [q1, q2], rfl⟩
      · refine Or.inr ⟨by simp only [q1], ?_⟩
        rcases hq2 with ⟨-, q2⟩ | ⟨-, q2⟩ <;> exact q2
    have hP9 := hP
    have hD9 := hD
    exact W.vret hx hb hr (fun t ht hW => ⟨⟨(a2, o2, pe_key false ek n1, pu_u (lN n2)), rfl, ⟨by omega, h4, hz⟩, by rw [ht]; exact hP9, va_K.moved hW.alike hK, hD9⟩, hS.F ht⟩) hS.2.2 dX0_readNext_49
  · have hf : fst = true := by cases fst with | true => rfl | false => (rw [hfi] at hc; exact absurd rfl hc)
    subst hf
    refine lv_lload_n hx hb dX0_readNext_13 rfl (lv_at hl 0 rfl) ?_
    refine xk_l (va_runSN (As := [.long (lN n1)]) (rest := [.ref (ad 9)]) ⟨hx, hb, hml, hown, hts⟩ (cX3_unfold_m l dC dI ca ad kf vf bf w op ln (nI a1) (nI b) o1 tf nb ef ff fi ek ev (lN n1) _) ⟨va_cnB 1 hts (xg_0 mb_code_yX3_unfold) rfl rfl rfl (xn_nw (w := .methodLinkNest RX0 19 yX3_unfold "SortedRun") (i := 433) hE rfl rfl) (xg_w hts mb_initialized_RX3) ⟨by decide, by decide, by decide +kernel⟩ ⟨Nat.le_of_ble_eq_true rfl, Nat.le_of_ble_eq_true rfl⟩, xg_w hts mb_static_yX3_unfold, trivial⟩ (xpreS hK hP hD hS hA hE) rfl rfl hl.1 rfl (lv_room (Nat.le_of_ble_eq_true rfl)) dX0_readNext_14 ⟨Nat.le_of_ble_eq_true rfl, Nat.le_of_ble_eq_true rfl⟩) hD hS hA (fun r u H locs hu hP hD hS => ?_)
    subst hu
    have hP : va_P (dC, dI) vwCl (xw ad ca kf vf bf w op ln (nI a1) (nI b) o1 tf nb ef ff fi ek ev) H := hP
    have hD : va_D A (xw ad ca kf vf bf w op ln (nI a1) (nI b) o1 tf nb ef ff fi ek ev) := hD
    refine lv_goto (tgt := 29) hx hb dX0_readNext_17 rfl ?_
    refine lv_l2i (v := pe_key true ek n1) hx hb dX0_readNext_29 (by unfold pe_key; simp) ?_
    refine va_put (D := (dC, dI)) (ci := 0) (v := .int (pe_key true ek n1)) (ty := .int) (C := RX0) (T := TX0) (N := 3) (ref := "SortedRun$Entry") hx hb hts (xg_u mb_uws_X0) tyX0 tyX0_ok nmX0 hown hK hP hD hS 9 rfl rfl 1 (by decide) (xg_w hts mb_fieldLink_RX0_25) (fun _ h9 => h9) rfl (by decide +kernel) rfl rfl (Nat.le_of_ble_eq_true rfl) dX0_readNext_30 (fun H locs hP hD hS => ?_)
    have hP : va_P (dC, dI) vwCl (xw ad ca kf vf bf w op ln (nI a1) (nI b) o1 tf nb ef ff fi (pe_key true ek n1) ev) H := hP
    have hD : va_D A (xw ad ca kf vf bf w op ln (nI a1) (nI b) o1 tf nb ef ff fi (pe_key true ek n1) ev) := hD
    refine lv_aload_n hx hb dX0_readNext_33 rfl (lv_at hl 1 rfl) ?_
    refine lv_aload_n hx hb dX0_readNext_34 rfl (lv_at hl 2 rfl) ?_
    refine xk_l (va_runV (As := []) (rest := [.ref (ad 9)]) ⟨hx, hb, hml, hown, hts⟩ (cX2_takeNumber_m l dC dI ca ad kf vf bf w op ln o1 tf nb ef ff fi (pe_key true ek n1) ev a1 b h2 hb9 _) (cwV 0 hts (xg_V mb_methodLink_RX0_7 mb_instanceMethod_yX2_takeNumber mb_selects_yX2_takeNumber mb_initialized_RX2 mb_code_yX2_takeNumber) rfl rfl rfl ⟨rfl, by decide, by decide, by decide +kernel⟩ ⟨Nat.le_of_ble_eq_true rfl, Nat.le_of_ble_eq_true rfl⟩) (xpreV (va_recv (q0 := 4) hK hP rfl rfl) hK hP hD hS hA hE) rfl rfl hl.1 rfl (lv_room (Nat.le_of_ble_eq_true rfl)) dX0_readNext_35 ⟨Nat.le_of_ble_eq_true rfl, Nat.le_of_ble_eq_true rfl⟩) hD hS hA (fun r u H locs hu hP hD hS => ?_)
    have hP : va_P (dC, dI) vwCl (xw ad ca kf vf bf w op ln (nI u.2.1) (nI b) u.2.2 tf nb ef ff fi (pe_key true ek n1) ev) H := hP
    have hD : va_D A (xw ad ca kf vf bf w op ln (nI u.2.1) (nI b) u.2.2 tf nb ef ff fi (pe_key true ek n1) ev) := hD
    obtain ⟨n2, a2, o2⟩ := u
    obtain ⟨hr2, hn2, h3, h4, hq2⟩ := hu
    dsimp only at hr2 hn2 h3 h4 hq2 hP hD
    subst hr2
    refine xk_l (va_runSN (As := [.long (lN n2)]) (rest := [.ref (ad 9)]) ⟨hx, hb, hml, hown, hts⟩ (cX3_unfold_m l dC dI ca ad kf vf bf w op ln (nI a2) (nI b) o2 tf nb ef ff fi (pe_key true ek n1) ev (lN n2) _) ⟨va_cnB 1 hts (xg_0 mb_code_yX3_unfold) rfl rfl rfl (xn_nw (w := .methodLinkNest RX0 19 yX3_unfold "SortedRun") (i := 433) hE rfl rfl) (xg_w hts mb_initialized_RX3) ⟨by decide, by decide, by decide +kernel⟩ ⟨Nat.le_of_ble_eq_true rfl, Nat.le_of_ble_eq_true rfl⟩, xg_w hts mb_static_yX3_unfold, trivial⟩ (xpreS hK hP hD hS hA hE) rfl rfl hl.1 rfl (lv_room (Nat.le_of_ble_eq_true rfl)) dX0_readNext_38 ⟨Nat.le_of_ble_eq_true rfl, Nat.le_of_ble_eq_true rfl⟩) hD hS hA (fun r u H locs hu hP hD hS => ?_)
    subst hu
    have hP : va_P (dC, dI) vwCl (xw ad ca kf vf bf w op ln (nI a2) (nI b) o2 tf nb ef ff fi (pe_key true ek n1) ev) H := hP
    have hD : va_D A (xw ad ca kf vf bf w op ln (nI a2) (nI b) o2 tf nb ef ff fi (pe_key true ek n1) ev) := hD
    refine va_put (D := (dC, dI)) (ci := 0) (v := .long (pu_u (lN n2))) (ty := .long) (C := RX0) (T := TX0) (N := 3) (ref := "SortedRun$Entry") hx hb hts (xg_u mb_uws_X0) tyX0 tyX0_ok nmX0 hown hK hP hD hS 9 rfl rfl 2 (by decide) (xg_w hts mb_fieldLink_RX0_29) (fun _ h9 => h9) rfl (by decide +kernel) rfl rfl (Nat.le_of_ble_eq_true rfl) dX0_readNext_41 (fun H locs hP hD hS => ?_)
    have hP : va_P (dC, dI) vwCl (xw ad ca kf vf bf w op ln (nI a2) (nI b) o2 tf nb ef ff fi (pe_key true ek n1) (pu_u (lN n2))) H := hP
    have hD : va_D A (xw ad ca kf vf bf w op ln (nI a2) (nI b) o2 tf nb ef ff fi (pe_key true ek n1) (pu_u (lN n2))) := hD
    refine lv_aload_n hx hb dX0_readNext_44 rfl (lv_at hl 1 rfl) ?_
    refine lv_iconst (v := 0) hx hb dX0_readNext_45 (by decide) ?_
    refine va_put (D := (dC, dI)) (ci := 0) (v := .int 0) (ty := .boolean) (C := RX0) (T := TX0) (N := 3) (ref := "SortedRun$Entry") hx hb hts (xg_u mb_uws_X0) tyX0 tyX0_ok nmX0 hown hK hP hD hS 9 rfl rfl 0 (by decide) (xg_w hts mb_fieldLink_RX0_13) (fun _ h9 => h9) rfl (by decide +kernel) rfl rfl (Nat.le_of_ble_eq_true rfl) dX0_readNext_46 (fun H locs hP hD hS => ?_)
    have hP : va_P (dC, dI) vwCl (xw ad ca kf vf bf w op ln (nI a2) (nI b) o2 tf nb ef ff 0 (pe_key true ek n1) (pu_u (lN n2))) H := hP
    have hD : va_D A (xw ad ca kf vf bf w op ln (nI a2) (nI b) o2 tf nb ef ff 0 (pe_key true ek n1) (pu_u (lN n2))) := hD
    have hz : (pe_rd tf b true ek a = some (pe_key true ek n1, pu_u (lN n2), a2) ∧ o2 = ok) ∨ (pe_rd tf b true ek a = none ∧ o2 = 0) := by
      unfold pe_rd
      rcases hq1 with ⟨q1, rfl⟩ | ⟨q1, rfl⟩
      · rcases hq2 with ⟨q2, rfl⟩ | ⟨q2, rfl⟩
        · exact Or.inl ⟨by simp only [q1, q2], rfl⟩
        · exact Or.inr ⟨by simp only [q1, q2], rfl⟩
      · refine Or.inr ⟨by simp only [q1], ?_⟩
        rcases hq2 with ⟨-, q2⟩ | ⟨-, q2⟩ <;> exact q2
    have hP9 := hP
    have hD9 := hD
    exact W.vret hx hb hr (fun t ht hW => ⟨⟨(a2, o2, pe_key true ek n1, pu_u (lN n2)), rfl, ⟨by omega, h4, hz⟩, by rw [ht]; exact hP9, va_K.moved hW.alike hK, hD9⟩, hS.F ht⟩) hS.2.2 dX0_readNext_49

set_option maxHeartbeats 4000000 in
set_option maxRecDepth 100000 in
theorem cX1_startOf_m (l : Launch) (dC : Nat → ClassId) (dI : Nat → Nat → Nat) (ca : Nat → ClassId) (ad : Nat → Nat) (kf : Nat → Int32) (vf : Nat → Int64) (bf : Nat → Int32) (w : Int32) (op : Int32) (ln : Int32) (nx : Int32) (en : Int32) (ok : Int32) (tf : Nat → Int32) (nb : Int32) (ef : Nat → Int32) (ff : Nat → Int32) (fi : Int32) (ek : Int32) (ev : Int64) (j : Nat) (hj : j ≤ 2444) : ∀ sz : Nat, Met l yX1_startOf wsX1_startOf ({ frames := 0, cells := 0, slots := 0, locals := 0 } : Room) (va_Pc [.ref (ad 6), .int (nI j)] (xP (dC, dI) (xt ca) (xw ad ca kf vf bf w op ln nx en ok tf nb ef ff fi ek ev) sz)) (va_Qi (S := Unit) (fun r _ => r = px_st ef j) (fun u t => xB (dC, dI) (xt ca) (va_A (xw ad ca kf vf bf w op ln nx en ok tf nb ef ff fi ek ev) sz) (xw ad ca kf vf bf w op ln nx en ok tf nb ef ff fi ek ev) t) (va_A (xw ad ca kf vf bf w op ln nx en ok tf nb ef ff fi ek ev) sz)) 0 0 (va_A (xw ad ca kf vf bf w op ln nx en ok tf nb ef ff fi ek ev) sz) := by
  intro sz
  refine Met.ofW (cc := cX1_startOf) (maxL := 2) (ret := (some .int)) (by decide) rfl ?_
  intro p e s m args below meth c s₁ B hml hv
  obtain ⟨rfl, hsz, hP, hK, hD0, hE⟩ := hv
  have hx := B.exec
  have hb := B.bytes
  have hr := B.returns
  have hts := atoms_spec (ws := wsX1_startOf) B.pre
  have hown : s.vm.findClass RX1 = some m.cls := findClass_of_methodNamed B.named
  have hlocks := B.notSynchronized
  subst hsz
  have hD := hD0.self (sz := s.heap.size)
  generalize hAe : va_A (xw ad ca kf vf bf w op ln nx en ok tf nb ef ff fi ek ev) s.heap.size = A at hD hE ⊢
  have hA : ∀ q : Nat, s.heap.size ≤ q → A q := fun q h => by rw [← hAe]; exact Or.inr h
  have hS : va_S A s.heap s.heap [] := va_S.rf
  have hl := lv_entry ([.ref (ad 6), .int (nI j)]) (n := 2) (Nat.le_of_ble_eq_true rfl)
  rw [lg_entry_eq]
  generalize (lg_sl ([.ref (ad 6), .int (nI j)]) ++ List.replicate (2 - (lg_sl ([.ref (ad 6), .int (nI j)])).length) Slot.unset).toArray = ls at hl ⊢
  have hl : lv_has ls 2 [(0, .ref (ad 6)), (1, .int (nI j))] := hl
  refine lv_iload_n hx hb dX1_startOf_0 rfl (lv_at hl 1 rfl) ?_
  refine lv_if_ne (tgt := 8) hx hb dX1_startOf_1 rfl (fun hc => ?_) (fun hc => ?_)
  · have hc1 : ¬ j = 0 := fun z => hc (congrArg nI z)
    refine lv_aload_n hx hb dX1_startOf_8 rfl (lv_at hl 0 rfl) ?_
    refine va_get (D := (dC, dI)) (ci := 1) (v := .ref (ad 7)) (C := RX1) (T := TX1) (N := 3) (ref := "SortedRun$Index") hx hb hts (xg_u mb_uws_X1) hown hK hP 6 rfl rfl 0 (by decide) (xg_w hts mb_fieldLink_RX1_9) (fun _ h9 => h9) rfl dX1_startOf_9 ?_
    refine lv_iload_n hx hb dX1_startOf_12 rfl (lv_at hl 1 rfl) ?_
    refine lv_iconst (v := nI 1) hx hb dX1_startOf_13 (by decide) ?_
    refine lv_isub hx hb dX1_startOf_14 ?_
    refine lv_topi (fun z1 ez1 => ?_)
    have ez1 : z1 = nI (j - 1) := ez1.trans (pk_sub (by omega))
    subst ez1
    refine va_iald hx hb hK hP 7 4 rfl rfl (vp_in_nI (by omega) (by decide)) dX1_startOf_15 ?_
    refine lv_topi (fun z2 ez2 => ?_)
    have ez2 : z2 = ef (j - 1) := ez2.trans (congrArg ef (nI_clamp (by omega)))
    subst ez2
    have hP9 := hP
    have hD9 := hD
    exact W.iret (v := ef (j - 1)) hx hb hr (fun t ht hW => ⟨⟨ef (j - 1), (), rfl, by unfold px_st; rw [if_neg hc1], by rw [ht]; exact hP9, va_K.moved hW.alike hK, hD9⟩, hS.F ht⟩) hS.2.2 dX1_startOf_16
  · have hc1 : j = 0 := (nI_eq (by omega) (by decide)).mp hc
    refine lv_iconst (v := 0) hx hb dX1_startOf_4 (by decide) ?_
    refine lv_goto (tgt := 16) hx hb dX1_startOf_5 rfl ?_
    have hP9 := hP
    have hD9 := hD
    exact W.iret (v := 0) hx hb hr (fun t ht hW => ⟨⟨0, (), rfl, by unfold px_st; rw [if_pos hc1], by rw [ht]; exact hP9, va_K.moved hW.alike hK, hD9⟩, hS.F ht⟩) hS.2.2 dX1_startOf_16

set_option maxHeartbeats 4000000 in
set_option maxRecDepth 100000 in
theorem cX1_bodyEndOf_m (l : Launch) (dC : Nat → ClassId) (dI : Nat → Nat → Nat) (ca : Nat → ClassId) (ad : Nat → Nat) (kf : Nat → Int32) (vf : Nat → Int64) (bf : Nat → Int32) (w : Int32) (op : Int32) (ln : Int32) (nx : Int32) (en : Int32) (ok : Int32) (tf : Nat → Int32) (nb : Int32) (ef : Nat → Int32) (ff : Nat → Int32) (fi : Int32) (ek : Int32) (ev : Int64) (j : Nat) (hj : j < 2444) : ∀ sz : Nat, Met l yX1_bodyEndOf wsX1_bodyEndOf ({ frames := 0, cells := 0, slots := 0, locals := 0 } : Room) (va_Pc [.ref (ad 6), .int (nI j)] (xP (dC, dI) (xt ca) (xw ad ca kf vf bf w op ln nx en ok tf nb ef ff fi ek ev) sz)) (va_Qi (S := Unit) (fun r _ => r = ef j - nI 4) (fun u t => xB (dC, dI) (xt ca) (va_A (xw ad ca kf vf bf w op ln nx en ok tf nb ef ff fi ek ev) sz) (xw ad ca kf vf bf w op ln nx en ok tf nb ef ff fi ek ev) t) (va_A (xw ad ca kf vf bf w op ln nx en ok tf nb ef ff fi ek ev) sz)) 0 0 (va_A (xw ad ca kf vf bf w op ln nx en ok tf nb ef ff fi ek ev) sz) := by
  intro sz
  refine Met.ofW (cc := cX1_bodyEndOf) (maxL := 2) (ret := (some .int)) (by decide) rfl ?_
  intro p e s m args below meth c s₁ B hml hv
  obtain ⟨rfl, hsz, hP, hK, hD0, hE⟩ := hv
  have hx := B.exec
  have hb := B.bytes
  have hr := B.returns
  have hts := atoms_spec (ws := wsX1_bodyEndOf) B.pre
  have hown : s.vm.findClass RX1 = some m.cls := findClass_of_methodNamed B.named
  have hlocks := B.notSynchronized
  subst hsz
  have hD := hD0.self (sz := s.heap.size)
  generalize hAe : va_A (xw ad ca kf vf bf w op ln nx en ok tf nb ef ff fi ek ev) s.heap.size = A at hD hE ⊢
  have hA : ∀ q : Nat, s.heap.size ≤ q → A q := fun q h => by rw [← hAe]; exact Or.inr h
  have hS : va_S A s.heap s.heap [] := va_S.rf
  have hl := lv_entry ([.ref (ad 6), .int (nI j)]) (n := 2) (Nat.le_of_ble_eq_true rfl)
  rw [lg_entry_eq]
  generalize (lg_sl ([.ref (ad 6), .int (nI j)]) ++ List.replicate (2 - (lg_sl ([.ref (ad 6), .int (nI j)])).length) Slot.unset).toArray = ls at hl ⊢
  have hl : lv_has ls 2 [(0, .ref (ad 6)), (1, .int (nI j))] := hl
  refine lv_aload_n hx hb dX1_bodyEndOf_0 rfl (lv_at hl 0 rfl) ?_
  refine va_get (D := (dC, dI)) (ci := 1) (v := .ref (ad 7)) (C := RX1) (T := TX1) (N := 3) (ref := "SortedRun$Index") hx hb hts (xg_u mb_uws_X1) hown hK hP 6 rfl rfl 0 (by decide) (xg_w hts mb_fieldLink_RX1_9) (fun _ h9 => h9) rfl dX1_bodyEndOf_1 ?_
  refine lv_iload_n hx hb dX1_bodyEndOf_4 rfl (lv_at hl 1 rfl) ?_
  refine va_iald hx hb hK hP 7 4 rfl rfl (vp_in_nI hj (by decide)) dX1_bodyEndOf_5 ?_
  refine lv_topi (fun z1 ez1 => ?_)
  have ez1 : z1 = ef j := ez1.trans (congrArg ef (nI_clamp (by omega)))
  subst ez1
  refine lv_iconst (v := nI 4) hx hb dX1_bodyEndOf_6 (by decide) ?_
  refine lv_isub hx hb dX1_bodyEndOf_7 ?_
  have hP9 := hP
  have hD9 := hD
  exact W.iret (v := (ef j) - (nI 4)) hx hb hr (fun t ht hW => ⟨⟨(ef j) - (nI 4), (), rfl, rfl, by rw [ht]; exact hP9, va_K.moved hW.alike hK, hD9⟩, hS.F ht⟩) hS.2.2 dX1_bodyEndOf_8

set_option maxHeartbeats 4000000 in
set_option maxRecDepth 100000 in
theorem lpX1_lastBlockNotAbove_go {p : Program} {l : Launch} {e : Env} {s : State} {m : MethodId} {args : Array Value} {below : List Frame} {meth : Method} {c : Code} {Q : State → Prop} {A : Nat → Prop} {dC : Nat → ClassId} {dI : Nat → Nat → Nat} {ca : Nat → ClassId} {ad : Nat → Nat} (hx : p.tables.exec = Jvm.exec) (hb : c.code = cX1_lastBlockNotAbove) (hml : c.maxLocals = 3) (hown : s.vm.findClass RX1 = some m.cls) (hts : ∀ w ∈ wsX1_lastBlockNotAbove, w.before args s = true) (hK : va_K (dC, dI) vwCl (xt ca) s) (hA : ∀ q : Nat, s.heap.size ≤ q → A q) (hE : xn_E A s) {kf : Nat → Int32} {vf : Nat → Int64} {bf : Nat → Int32} {w : Int32} {op : Int32} {ln : Int32} {nx : Int32} {en : Int32} {ok : Int32} {tf : Nat → Int32} {nb : Int32} {ef : Nat → Int32} {ff : Nat → Int32} {fi : Int32} {ek : Int32} {ev : Int64} {key : Int32} : ∀ (k : Nat)  (H : Heap) (locs : List Loc) (ls : Array Slot), k ≤ 2444 → lv_has ls 3 [(2, .int (nI k + (-1))), (0, .ref (ad 6)), (1, .int key)] → va_P (dC, dI) vwCl (xw ad ca kf vf bf w op ln nx en ok tf nb ef ff fi ek ev) H → va_D A (xw ad ca kf vf bf w op ln nx en ok tf nb ef ff fi ek ev) → va_S A s.heap H locs → (∀ j, px_last ff key k = some j → ∀ (H : Heap) (locs : List Loc) (ls : Array Slot), lv_has ls 3 [(2, .int (nI j))] → va_P (dC, dI) vwCl (xw ad ca kf vf bf w op ln nx en ok tf nb ef ff fi ek ev) H → va_D A (xw ad ca kf vf bf w op ln nx en ok tf nb ef ff fi ek ev) → va_S A s.heap H locs → W p l e ({ frames := 0, cells := 0, slots := 0, locals := 0 } : Room) s m args below meth c H locs 0 0 Q (F0 m 21 ls [])) → (px_last ff key k = none → ∀ (H : Heap) (locs : List Loc) (ls : Array Slot), va_P (dC, dI) vwCl (xw ad ca kf vf bf w op ln nx en ok tf nb ef ff fi ek ev) H → va_D A (xw ad ca kf vf bf w op ln nx en ok tf nb ef ff fi ek ev) → va_S A s.heap H locs → W p l e ({ frames := 0, cells := 0, slots := 0, locals := 0 } : Room) s m args below meth c H locs 0 0 Q (F0 m 29 ls [])) → W p l e ({ frames := 0, cells := 0, slots := 0, locals := 0 } : Room) s m args below meth c H locs 0 0 Q (F0 m 7 ls []) := by
  intro k
  induction k with
  | zero =>
    intro  H locs ls hk hl hP hD hS kk kn
    have hl : lv_has ls 3 [(2, .int (nI 0 + (-1))), (0, .ref (ad 6)), (1, .int key)] := hl
    refine lv_iload_n hx hb dX1_lastBlockNotAbove_7 rfl (lv_at hl 0 rfl) ?_
    refine lv_if_lt (tgt := 29) hx hb dX1_lastBlockNotAbove_8 rfl (fun hc => ?_) (fun hc => absurd hc (not_not_intro (by decide)))
    exact kn rfl H locs ls hP hD hS
  | succ k ih =>
    intro  H locs ls hk hl hP hD hS kk kn
    have hl : lv_has ls 3 [(2, .int (nI (k + 1) + (-1))), (0, .ref (ad 6)), (1, .int key)] := hl
    rw [pk_m1] at hl
    refine lv_iload_n hx hb dX1_lastBlockNotAbove_7 rfl (lv_at hl 0 rfl) ?_
    refine lv_if_lt (tgt := 29) hx hb dX1_lastBlockNotAbove_8 rfl (fun hc => absurd hc (nI_pos (by omega))) (fun hc => ?_)
    refine lv_aload_n hx hb dX1_lastBlockNotAbove_11 rfl (lv_at hl 1 rfl) ?_
    refine va_get (D := (dC, dI)) (ci := 1) (v := .ref (ad 8)) (C := RX1) (T := TX1) (N := 3) (ref := "SortedRun$Index") hx hb hts (xg_u mb_uws_X1) hown hK hP 6 rfl rfl 1 (by decide) (xg_w hts mb_fieldLink_RX1_15) (fun _ h9 => h9) rfl dX1_lastBlockNotAbove_12 ?_
    refine lv_iload_n hx hb dX1_lastBlockNotAbove_15 rfl (lv_at hl 0 rfl) ?_
    refine va_iald hx hb hK hP 8 5 rfl rfl (vp_in_nI (by omega) (by decide)) dX1_lastBlockNotAbove_16 ?_
    refine lv_topi (fun z1 ez1 => ?_)
    have ez1 : z1 = ff k := ez1.trans (congrArg ff (nI_clamp (by omega)))
    subst ez1
    refine lv_iload_n hx hb dX1_lastBlockNotAbove_17 rfl (lv_at hl 2 rfl) ?_
    refine lv_icmp_gt (tgt := 23) hx hb dX1_lastBlockNotAbove_18 rfl (fun hc => ?_) (fun hc => ?_)
    · have e1 : px_last ff key (k + 1) = px_last ff key k := by conv => lhs; unfold px_last; rw [if_neg (Int32.not_le.mpr hc)]
      rw [e1] at kk kn
      refine lv_iinc (k := 0) (v := nI k + (-1)) hx hb dX1_lastBlockNotAbove_23 hl rfl (rfl) (by decide) rfl (fun ls hl => ?_)
      have hl : lv_has ls 3 [(2, .int (nI k + (-1))), (0, .ref (ad 6)), (1, .int key)] := hl
      refine lv_goto (tgt := 7) hx hb dX1_lastBlockNotAbove_26 rfl ?_
      exact ih _ _ _ (by omega) hl hP hD hS kk kn
    · exact kk k (by unfold px_last; rw [if_pos (Int32.not_lt.mp hc)]) H locs ls (lv_sub hl [0] rfl) hP hD hS

set_option maxHeartbeats 4000000 in
set_option maxRecDepth 100000 in
theorem cX1_lastBlockNotAbove_m (l : Launch) (dC : Nat → ClassId) (dI : Nat → Nat → Nat) (ca : Nat → ClassId) (ad : Nat → Nat) (kf : Nat → Int32) (vf : Nat → Int64) (bf : Nat → Int32) (w : Int32) (op : Int32) (ln : Int32) (nx : Int32) (en : Int32) (ok : Int32) (tf : Nat → Int32) (ef : Nat → Int32) (ff : Nat → Int32) (fi : Int32) (ek : Int32) (ev : Int64) (n : Nat) (key : Int32) (hn : n ≤ 2444) : ∀ sz : Nat, Met l yX1_lastBlockNotAbove wsX1_lastBlockNotAbove ({ frames := 0, cells := 0, slots := 0, locals := 0 } : Room) (va_Pc [.ref (ad 6), .int key] (xP (dC, dI) (xt ca) (xw ad ca kf vf bf w op ln nx en ok tf (nI n) ef ff fi ek ev) sz)) (va_Qi (S := Unit) (fun r _ => (∃ j, px_last ff key n = some j ∧ r = nI j) ∨ (px_last ff key n = none ∧ r = -1)) (fun u t => xB (dC, dI) (xt ca) (va_A (xw ad ca kf vf bf w op ln nx en ok tf (nI n) ef ff fi ek ev) sz) (xw ad ca kf vf bf w op ln nx en ok tf (nI n) ef ff fi ek ev) t) (va_A (xw ad ca kf vf bf w op ln nx en ok tf (nI n) ef ff fi ek ev) sz)) 0 0 (va_A (xw ad ca kf vf bf w op ln nx en ok tf (nI n) ef ff fi ek ev) sz) := by
  intro sz
  refine Met.ofW (cc := cX1_lastBlockNotAbove) (maxL := 3) (ret := (some .int)) (by decide) rfl ?_
  intro p e s m args below meth c s₁ B hml hv
  obtain ⟨rfl, hsz, hP, hK, hD0, hE⟩ := hv
  have hx := B.exec
  have hb := B.bytes
  have hr := B.returns
  have hts := atoms_spec (ws := wsX1_lastBlockNotAbove) B.pre
  have hown : s.vm.findClass RX1 = some m.cls := findClass_of_methodNamed B.named
  have hlocks := B.notSynchronized
  subst hsz
  have hD := hD0.self (sz := s.heap.size)
  generalize hAe : va_A (xw ad ca kf vf bf w op ln nx en ok tf (nI n) ef ff fi ek ev) s.heap.size = A at hD hE ⊢
  have hA : ∀ q : Nat, s.heap.size ≤ q → A q := fun q h => by rw [← hAe]; exact Or.inr h
  have hS : va_S A s.heap s.heap [] := va_S.rf
  have hl := lv_entry ([.ref (ad 6), .int key]) (n := 3) (Nat.le_of_ble_eq_true rfl)
  rw [lg_entry_eq]
  generalize (lg_sl ([.ref (ad 6), .int key]) ++ List.replicate (3 - (lg_sl ([.ref (ad 6), .int key])).length) Slot.unset).toArray = ls at hl ⊢
  have hl : lv_has ls 3 [(0, .ref (ad 6)), (1, .int key)] := hl
  refine lv_aload_n hx hb dX1_lastBlockNotAbove_0 rfl (lv_at hl 0 rfl) ?_
  refine va_get (D := (dC, dI)) (ci := 1) (v := .int (nI n)) (C := RX1) (T := TX1) (N := 3) (ref := "SortedRun$Index") hx hb hts (xg_u mb_uws_X1) hown hK hP 6 rfl rfl 2 (by decide) (xg_w hts mb_fieldLink_RX1_18) (fun _ h9 => h9) rfl dX1_lastBlockNotAbove_1 ?_
  refine lv_iconst (v := 1) hx hb dX1_lastBlockNotAbove_4 (by decide) ?_
  refine lv_isub hx hb dX1_lastBlockNotAbove_5 ?_
  refine lv_topi (fun z1 ez1 => ?_)
  have ez1 : z1 = nI n + (-1) := ez1.trans (by rw [Int32.sub_eq_add_neg])
  subst ez1
  refine lv_istore_n hx hb dX1_lastBlockNotAbove_6 rfl hl (by decide) rfl (fun ls hl => ?_)
  have hl : lv_has ls 3 [(2, .int (nI n + (-1))), (0, .ref (ad 6)), (1, .int key)] := hl
  refine lpX1_lastBlockNotAbove_go hx hb hml hown hts hK hA hE n _ _ _ hn hl hP hD hS (fun j hj H locs ls hl hP hD hS => ?_) (fun hj H locs ls hP hD hS => ?_)
  · refine lv_iload_n hx hb dX1_lastBlockNotAbove_21 rfl (lv_at hl 0 rfl) ?_
    have hP9 := hP
    have hD9 := hD
    exact W.iret (v := nI j) hx hb hr (fun t ht hW => ⟨⟨nI j, (), rfl, Or.inl ⟨j, hj, rfl⟩, by rw [ht]; exact hP9, va_K.moved hW.alike hK, hD9⟩, hS.F ht⟩) hS.2.2 dX1_lastBlockNotAbove_22
  · refine lv_iconst (v := -1) hx hb dX1_lastBlockNotAbove_29 (by decide) ?_
    have hP9 := hP
    have hD9 := hD
    exact W.iret (v := -1) hx hb hr (fun t ht hW => ⟨⟨-1, (), rfl, Or.inr ⟨hj, rfl⟩, by rw [ht]; exact hP9, va_K.moved hW.alike hK, hD9⟩, hS.F ht⟩) hS.2.2 dX1_lastBlockNotAbove_30

set_option maxHeartbeats 4000000 in
set_option maxRecDepth 100000 in
theorem cX1_fitsIndex_m (l : Launch) (dC : Nat → ClassId) (dI : Nat → Nat → Nat) (ca : Nat → ClassId) (ad : Nat → Nat) (kf : Nat → Int32) (vf : Nat → Int64) (bf : Nat → Int32) (w : Int32) (op : Int32) (ln : Int32) (nx : Int32) (en : Int32) (ok : Int32) (tf : Nat → Int32) (nb : Int32) (ef : Nat → Int32) (ff : Nat → Int32) (fi : Int32) (ek : Int32) (ev : Int64) (n : Nat) (hn : n < 2 ^ 64) : ∀ sz : Nat, Met l yX1_fitsIndex wsX1_fitsIndex ({ frames := 0, cells := 0, slots := 0, locals := 0 } : Room) (va_Pc [.ref (ad 6), .long (lN n)] (xP (dC, dI) (xt ca) (xw ad ca kf vf bf w op ln nx en ok tf nb ef ff fi ek ev) sz)) (va_Qi (S := Unit) (fun r _ => (r = 1 ∧ n ≤ 4294967295) ∨ (r = 0 ∧ ¬ n ≤ 4294967295)) (fun u t => xB (dC, dI) (xt ca) (va_A (xw ad ca kf vf bf w op ln nx en ok tf nb ef ff fi ek ev) sz) (xw ad ca kf vf bf w op ln nx en ok tf nb ef ff fi ek ev) t) (va_A (xw ad ca kf vf bf w op ln nx en ok tf nb ef ff fi ek ev) sz)) 0 0 (va_A (xw ad ca kf vf bf w op ln nx en ok tf nb ef ff fi ek ev) sz) := by
  intro sz
  refine Met.ofW (cc := cX1_fitsIndex) (maxL := 3) (ret := (some .boolean)) (by decide) rfl ?_
  intro p e s m args below meth c s₁ B hml hv
  obtain ⟨rfl, hsz, hP, hK, hD0, hE⟩ := hv
  have hx := B.exec
  have hb := B.bytes
  have hr := B.returns
  have hts := atoms_spec (ws := wsX1_fitsIndex) B.pre
  have hown : s.vm.findClass RX1 = some m.cls := findClass_of_methodNamed B.named
  have hlocks := B.notSynchronized
  subst hsz
  have hD := hD0.self (sz := s.heap.size)
  generalize hAe : va_A (xw ad ca kf vf bf w op ln nx en ok tf nb ef ff fi ek ev) s.heap.size = A at hD hE ⊢
  have hA : ∀ q : Nat, s.heap.size ≤ q → A q := fun q h => by rw [← hAe]; exact Or.inr h
  have hS : va_S A s.heap s.heap [] := va_S.rf
  have hl := lv_entry ([.ref (ad 6), .long (lN n)]) (n := 3) (Nat.le_of_ble_eq_true rfl)
  rw [lg_entry_eq]
  generalize (lg_sl ([.ref (ad 6), .long (lN n)]) ++ List.replicate (3 - (lg_sl ([.ref (ad 6), .long (lN n)])).length) Slot.unset).toArray = ls at hl ⊢
  have hl : lv_has ls 3 [(0, .ref (ad 6)), (1, .long (lN n))] := hl
  have hf := pz_fit hn
  refine lv_lload_n hx hb dX1_fitsIndex_0 rfl (lv_at hl 1 rfl) ?_
  refine lv_lconst (v := 0) hx hb dX1_fitsIndex_1 (by decide) ?_
  refine W.lcmp hx hb dX1_fitsIndex_2 ?_
  refine lv_if_lt (tgt := 18) hx hb dX1_fitsIndex_3 rfl (fun hc => ?_) (fun hc => ?_)
  · refine lv_iconst (v := 0) hx hb dX1_fitsIndex_18 (by decide) ?_
    have hP9 := hP
    have hD9 := hD
    exact W.zret (v := 0) hx hb hr (by rfl) (fun t ht hW => ⟨⟨0, (), rfl, Or.inr ⟨rfl, fun z => (hf.mpr z).1 (lc_lt.mp hc)⟩, by rw [ht]; exact hP9, va_K.moved hW.alike hK, hD9⟩, hS.F ht⟩) hS.2.2 dX1_fitsIndex_19
  · have hc1 : ¬ lN n < 0 := fun z => hc (lc_lt.mpr z)
    refine lv_lload_n hx hb dX1_fitsIndex_6 rfl (lv_at hl 1 rfl) ?_
    refine lv_ldc2 (v := lN 4294967295) hx hb hown (xg_w hts mb_constantLong_RX1_64) dX1_fitsIndex_7 ?_
    refine W.lcmp hx hb dX1_fitsIndex_10 ?_
    refine lv_if_gt (tgt := 18) hx hb dX1_fitsIndex_11 rfl (fun hc2 => ?_) (fun hc2 => ?_)
    · refine lv_iconst (v := 0) hx hb dX1_fitsIndex_18 (by decide) ?_
      have hP9 := hP
      have hD9 := hD
      exact W.zret (v := 0) hx hb hr (by rfl) (fun t ht hW => ⟨⟨0, (), rfl, Or.inr ⟨rfl, fun z => (Int64.not_le.mpr (lc_gt.mp hc2)) (hf.mpr z).2⟩, by rw [ht]; exact hP9, va_K.moved hW.alike hK, hD9⟩, hS.F ht⟩) hS.2.2 dX1_fitsIndex_19
    · refine lv_iconst (v := 1) hx hb dX1_fitsIndex_14 (by decide) ?_
      refine lv_goto (tgt := 19) hx hb dX1_fitsIndex_15 rfl ?_
      have hP9 := hP
      have hD9 := hD
      exact W.zret (v := 1) hx hb hr (by rfl) (fun t ht hW => ⟨⟨1, (), rfl, Or.inl ⟨rfl, hf.mp ⟨hc1, Int64.not_lt.mp (fun z => hc2 (lc_gt.mpr z))⟩⟩, by rw [ht]; exact hP9, va_K.moved hW.alike hK, hD9⟩, hS.F ht⟩) hS.2.2 dX1_fitsIndex_19
