/-! SortedRun: the calls (rows by wip/whole/wsr2.py) -/
set_option maxHeartbeats 4000000 in
set_option maxRecDepth 100000 in
theorem cX3_add_m (l : Launch) (hnt : l.stackTraces = false) (dC : Nat → ClassId) (dI : Nat → Nat → Nat) (ca : Nat → ClassId) (ad : Nat → Nat) (kf : Nat → Int32) (vf : Nat → Int64) (bf : Nat → Int32) (op : Int32) (ln : Int32) (nx : Int32) (en : Int32) (ok : Int32) (tf : Nat → Int32) (nb : Int32) (ef : Nat → Int32) (ff : Nat → Int32) (fi : Int32) (ek : Int32) (ev : Int64) (n : Nat) (key : Int32) (v : Int64) (hn : n ≤ 300) : ∀ sz : Nat, vx_Met l yX3_add wsX3_add ({ frames := 6, cells := 1, slots := 6, locals := 90 } : Room) (va_Pc [.ref (ad 0), .int key, .long v] (xP (dC, dI) (xt ca) (xw ad ca kf vf bf (nI n) op ln nx en ok tf nb ef ff fi ek ev) sz)) (va_Qi (S := Unit) (fun r _ => n < 300 ∧ (n = 0 ∨ kf (n - 1) < key) ∧ r = nI (n + 1)) (fun u t => xB (dC, dI) (xt ca) (va_A (xw ad ca kf vf bf (nI n) op ln nx en ok tf nb ef ff fi ek ev) sz) (xw ad ca (upd kf n key) (vp_updL vf n v) bf (nI (n + 1)) op ln nx en ok tf nb ef ff fi ek ev) t ∧ t.heap.size = sz) (va_A (xw ad ca kf vf bf (nI n) op ln nx en ok tf nb ef ff fi ek ev) sz)) (xX (S := Unit) (dC, dI) (xt ca) (va_A (xw ad ca kf vf bf (nI n) op ln nx en ok tf nb ef ff fi ek ev) sz) (fun E _ => (E = "java/lang/IllegalStateException" ∧ n = 300) ∨ (E = "java/lang/IllegalArgumentException" ∧ n < 300 ∧ 0 < n ∧ key ≤ kf (n - 1))) (fun u => xw ad ca kf vf bf (nI n) op ln nx en ok tf nb ef ff fi ek ev)) 1 6 (va_A (xw ad ca kf vf bf (nI n) op ln nx en ok tf nb ef ff fi ek ev) sz) := by
  intro sz
  refine vx_ofW (cc := cX3_add) (maxL := 4) (ret := (some .int)) (by decide) rfl ?_
  intro p e s m args below meth c s₁ B hml hno hv
  obtain ⟨rfl, hsz, hP, hK, hD0, hE⟩ := hv
  have hx := B.exec
  have hb := B.bytes
  have hr := B.returns
  have hts := atoms_spec (ws := wsX3_add) B.pre
  have hown : s.vm.findClass RX3 = some m.cls := findClass_of_methodNamed B.named
  have hlocks := B.notSynchronized
  subst hsz
  have hD := hD0.self (sz := s.heap.size)
  generalize hAe : va_A (xw ad ca kf vf bf (nI n) op ln nx en ok tf nb ef ff fi ek ev) s.heap.size = A at hD hE ⊢
  have hA : ∀ q : Nat, s.heap.size ≤ q → A q := fun q h => by rw [← hAe]; exact Or.inr h
  have hS : va_S A s.heap s.heap [] := va_S.rf
  have hl := lv_entry ([.ref (ad 0), .int key, .long v]) (n := 4) (Nat.le_of_ble_eq_true rfl)
  rw [lg_entry_eq]
  generalize (lg_sl ([.ref (ad 0), .int key, .long v]) ++ List.replicate (4 - (lg_sl ([.ref (ad 0), .int key, .long v])).length) Slot.unset).toArray = ls at hl ⊢
  have hl : lv_has ls 4 [(0, .ref (ad 0)), (1, .int key), (2, .long v)] := hl
  refine lv_aload_n hx hb dX3_add_0 rfl (lv_at hl 0 rfl) ?_
  refine va_get (D := (dC, dI)) (ci := 3) (v := .int (nI n)) (C := RX3) (T := TX3) (N := 8) (ref := "SortedRun") hx hb hts (xg_u mb_uws_X3) hown hK hP 0 rfl rfl 6 (by decide) (xg_w hts mb_fieldLink_RX3_44) (fun _ h9 => h9) rfl dX3_add_1 ?_
  refine lv_sipush (v := nI 300) hx hb dX3_add_4 (by decide) ?_
  refine lv_icmp_lt (tgt := 20) hx hb dX3_add_7 rfl (fun hc => ?_) (fun hc => ?_)
  · have hn3 : n < 300 := (nI_ltI (by omega) (by decide)).mp hc
    refine lv_aload_n hx hb dX3_add_20 rfl (lv_at hl 0 rfl) ?_
    refine va_get (D := (dC, dI)) (ci := 3) (v := .int (nI n)) (C := RX3) (T := TX3) (N := 8) (ref := "SortedRun") hx hb hts (xg_u mb_uws_X3) hown hK hP 0 rfl rfl 6 (by decide) (xg_w hts mb_fieldLink_RX3_44) (fun _ h9 => h9) rfl dX3_add_21 ?_
    refine lv_if_le (tgt := 52) hx hb dX3_add_24 rfl (fun hc2 => ?_) (fun hc2 => ?_)
    · have hk9 : n = 0 ∨ kf (n - 1) < key := Or.inl (by have := (nI_leI (b := 0) (by omega) (by decide)).mp hc2; omega)
      refine lv_aload_n hx hb dX3_add_52 rfl (lv_at hl 0 rfl) ?_
      refine va_get (D := (dC, dI)) (ci := 3) (v := .ref (ad 1)) (C := RX3) (T := TX3) (N := 8) (ref := "SortedRun") hx hb hts (xg_u mb_uws_X3) hown hK hP 0 rfl rfl 0 (by decide) (xg_w hts mb_fieldLink_RX3_9) (fun _ h9 => h9) rfl dX3_add_53 ?_
      refine lv_aload_n hx hb dX3_add_56 rfl (lv_at hl 0 rfl) ?_
      refine va_get (D := (dC, dI)) (ci := 3) (v := .int (nI n)) (C := RX3) (T := TX3) (N := 8) (ref := "SortedRun") hx hb hts (xg_u mb_uws_X3) hown hK hP 0 rfl rfl 6 (by decide) (xg_w hts mb_fieldLink_RX3_44) (fun _ h9 => h9) rfl dX3_add_57 ?_
      refine lv_iload_n hx hb dX3_add_60 rfl (lv_at hl 1 rfl) ?_
      refine va_iast hx hb hK hP hD hS 1 0 rfl rfl (vp_in_nI hn3 (by decide)) dX3_add_61 (fun H locs hP hD hS => ?_)
      have e9 : upd kf (nI n).toNatClampNeg key = upd kf n key := by rw [nI_clamp (by omega)]
      rw [e9] at hP hD
      clear e9
      have hP : va_P (dC, dI) vwCl (xw ad ca (upd kf n key) vf bf (nI n) op ln nx en ok tf nb ef ff fi ek ev) H := hP
      have hD : va_D A (xw ad ca (upd kf n key) vf bf (nI n) op ln nx en ok tf nb ef ff fi ek ev) := hD
      refine lv_aload_n hx hb dX3_add_62 rfl (lv_at hl 0 rfl) ?_
      refine va_get (D := (dC, dI)) (ci := 3) (v := .ref (ad 2)) (C := RX3) (T := TX3) (N := 8) (ref := "SortedRun") hx hb hts (xg_u mb_uws_X3) hown hK hP 0 rfl rfl 1 (by decide) (xg_w hts mb_fieldLink_RX3_13) (fun _ h9 => h9) rfl dX3_add_63 ?_
      refine lv_aload_n hx hb dX3_add_66 rfl (lv_at hl 0 rfl) ?_
      refine va_get (D := (dC, dI)) (ci := 3) (v := .int (nI n)) (C := RX3) (T := TX3) (N := 8) (ref := "SortedRun") hx hb hts (xg_u mb_uws_X3) hown hK hP 0 rfl rfl 6 (by decide) (xg_w hts mb_fieldLink_RX3_44) (fun _ h9 => h9) rfl dX3_add_67 ?_
      refine lv_lload_n hx hb dX3_add_70 rfl (lv_at hl 2 rfl) ?_
      refine va_last hx hb hK hP hD hS 2 1 rfl rfl (vp_in_nI hn3 (by decide)) dX3_add_71 (fun H locs hP hD hS => ?_)
      have e9 : vp_updL vf (nI n).toNatClampNeg v = vp_updL vf n v := by rw [nI_clamp (by omega)]
      rw [e9] at hP hD
      clear e9
      have hP : va_P (dC, dI) vwCl (xw ad ca (upd kf n key) (vp_updL vf n v) bf (nI n) op ln nx en ok tf nb ef ff fi ek ev) H := hP
      have hD : va_D A (xw ad ca (upd kf n key) (vp_updL vf n v) bf (nI n) op ln nx en ok tf nb ef ff fi ek ev) := hD
      refine lv_aload_n hx hb dX3_add_72 rfl (lv_at hl 0 rfl) ?_
      refine lv_dup hx hb dX3_add_73 rfl ?_
      refine va_get (D := (dC, dI)) (ci := 3) (v := .int (nI n)) (C := RX3) (T := TX3) (N := 8) (ref := "SortedRun") hx hb hts (xg_u mb_uws_X3) hown hK hP 0 rfl rfl 6 (by decide) (xg_w hts mb_fieldLink_RX3_44) (fun _ h9 => h9) rfl dX3_add_74 ?_
      refine lv_iconst (v := 1) hx hb dX3_add_77 (by decide) ?_
      refine lv_iadd hx hb dX3_add_78 ?_
      refine lv_topi (fun z1 ez1 => ?_)
      have ez1 : z1 = nI (n + 1) := ez1.trans (nI_1 n)
      subst ez1
      refine va_put (D := (dC, dI)) (ci := 3) (v := .int (nI (n + 1))) (ty := .int) (C := RX3) (T := TX3) (N := 8) (ref := "SortedRun") hx hb hts (xg_u mb_uws_X3) tyX3 tyX3_ok nmX3 hown hK hP hD hS 0 rfl rfl 6 (by decide) (xg_w hts mb_fieldLink_RX3_44) (fun _ h9 => h9) rfl (by decide +kernel) rfl rfl (Nat.le_of_ble_eq_true rfl) dX3_add_79 (fun H locs hP hD hS => ?_)
      have hP : va_P (dC, dI) vwCl (xw ad ca (upd kf n key) (vp_updL vf n v) bf (nI (n + 1)) op ln nx en ok tf nb ef ff fi ek ev) H := hP
      have hD : va_D A (xw ad ca (upd kf n key) (vp_updL vf n v) bf (nI (n + 1)) op ln nx en ok tf nb ef ff fi ek ev) := hD
      refine lv_aload_n hx hb dX3_add_82 rfl (lv_at hl 0 rfl) ?_
      refine va_get (D := (dC, dI)) (ci := 3) (v := .int (nI (n + 1))) (C := RX3) (T := TX3) (N := 8) (ref := "SortedRun") hx hb hts (xg_u mb_uws_X3) hown hK hP 0 rfl rfl 6 (by decide) (xg_w hts mb_fieldLink_RX3_44) (fun _ h9 => h9) rfl dX3_add_83 ?_
      refine x_size hS (fun hz => ?_)
      refine vx_ret (W.widen (k := 1) (n := 6) (Nat.zero_le _) (Nat.zero_le _) ?_)
      exact W.iret (v := nI (n + 1)) hx hb hr (fun t ht hW => ⟨⟨nI (n + 1), (), rfl, ⟨hn3, hk9, rfl⟩, ⟨by rw [ht]; exact hP, va_K.moved hW.alike hK, hD⟩, (congrArg Array.size ht).trans hz⟩, hS.F ht⟩) hS.2.2 dX3_add_86
    · have hn0 : 0 < n := Nat.pos_of_ne_zero (fun z => hc2 (by rw [z]; decide))
      refine lv_iload_n hx hb dX3_add_27 rfl (lv_at hl 1 rfl) ?_
      refine lv_aload_n hx hb dX3_add_28 rfl (lv_at hl 0 rfl) ?_
      refine va_get (D := (dC, dI)) (ci := 3) (v := .ref (ad 1)) (C := RX3) (T := TX3) (N := 8) (ref := "SortedRun") hx hb hts (xg_u mb_uws_X3) hown hK hP 0 rfl rfl 0 (by decide) (xg_w hts mb_fieldLink_RX3_9) (fun _ h9 => h9) rfl dX3_add_29 ?_
      refine lv_aload_n hx hb dX3_add_32 rfl (lv_at hl 0 rfl) ?_
      refine va_get (D := (dC, dI)) (ci := 3) (v := .int (nI n)) (C := RX3) (T := TX3) (N := 8) (ref := "SortedRun") hx hb hts (xg_u mb_uws_X3) hown hK hP 0 rfl rfl 6 (by decide) (xg_w hts mb_fieldLink_RX3_44) (fun _ h9 => h9) rfl dX3_add_33 ?_
      refine lv_iconst (v := 1) hx hb dX3_add_36 (by decide) ?_
      refine lv_isub hx hb dX3_add_37 ?_
      refine lv_topi (fun z1 ez1 => ?_)
      have ez1 : z1 = nI (n - 1) := ez1.trans (pk_sub (b := 1) (by omega))
      subst ez1
      refine va_iald hx hb hK hP 1 0 rfl rfl (vp_in_nI (by omega) (by decide)) dX3_add_38 ?_
      refine lv_topi (fun z2 ez2 => ?_)
      have ez2 : z2 = kf (n - 1) := ez2.trans (congrArg kf (nI_clamp (by omega)))
      subst ez2
      refine lv_icmp_gt (tgt := 52) hx hb dX3_add_39 rfl (fun hc3 => ?_) (fun hc3 => ?_)
      · have hk9 : n = 0 ∨ kf (n - 1) < key := Or.inr hc3
        refine lv_aload_n hx hb dX3_add_52 rfl (lv_at hl 0 rfl) ?_
        refine va_get (D := (dC, dI)) (ci := 3) (v := .ref (ad 1)) (C := RX3) (T := TX3) (N := 8) (ref := "SortedRun") hx hb hts (xg_u mb_uws_X3) hown hK hP 0 rfl rfl 0 (by decide) (xg_w hts mb_fieldLink_RX3_9) (fun _ h9 => h9) rfl dX3_add_53 ?_
        refine lv_aload_n hx hb dX3_add_56 rfl (lv_at hl 0 rfl) ?_
        refine va_get (D := (dC, dI)) (ci := 3) (v := .int (nI n)) (C := RX3) (T := TX3) (N := 8) (ref := "SortedRun") hx hb hts (xg_u mb_uws_X3) hown hK hP 0 rfl rfl 6 (by decide) (xg_w hts mb_fieldLink_RX3_44) (fun _ h9 => h9) rfl dX3_add_57 ?_
        refine lv_iload_n hx hb dX3_add_60 rfl (lv_at hl 1 rfl) ?_
        refine va_iast hx hb hK hP hD hS 1 0 rfl rfl (vp_in_nI hn3 (by decide)) dX3_add_61 (fun H locs hP hD hS => ?_)
        have e9 : upd kf (nI n).toNatClampNeg key = upd kf n key := by rw [nI_clamp (by omega)]
        rw [e9] at hP hD
        clear e9
        have hP : va_P (dC, dI) vwCl (xw ad ca (upd kf n key) vf bf (nI n) op ln nx en ok tf nb ef ff fi ek ev) H := hP
        have hD : va_D A (xw ad ca (upd kf n key) vf bf (nI n) op ln nx en ok tf nb ef ff fi ek ev) := hD
        refine lv_aload_n hx hb dX3_add_62 rfl (lv_at hl 0 rfl) ?_
        refine va_get (D := (dC, dI)) (ci := 3) (v := .ref (ad 2)) (C := RX3) (T := TX3) (N := 8) (ref := "SortedRun") hx hb hts (xg_u mb_uws_X3) hown hK hP 0 rfl rfl 1 (by decide) (xg_w hts mb_fieldLink_RX3_13) (fun _ h9 => h9) rfl dX3_add_63 ?_
        refine lv_aload_n hx hb dX3_add_66 rfl (lv_at hl 0 rfl) ?_
        refine va_get (D := (dC, dI)) (ci := 3) (v := .int (nI n)) (C := RX3) (T := TX3) (N := 8) (ref := "SortedRun") hx hb hts (xg_u mb_uws_X3) hown hK hP 0 rfl rfl 6 (by decide) (xg_w hts mb_fieldLink_RX3_44) (fun _ h9 => h9) rfl dX3_add_67 ?_
        refine lv_lload_n hx hb dX3_add_70 rfl (lv_at hl 2 rfl) ?_
        refine va_last hx hb hK hP hD hS 2 1 rfl rfl (vp_in_nI hn3 (by decide)) dX3_add_71 (fun H locs hP hD hS => ?_)
        have e9 : vp_updL vf (nI n).toNatClampNeg v = vp_updL vf n v := by rw [nI_clamp (by omega)]
        rw [e9] at hP hD
        clear e9
        have hP : va_P (dC, dI) vwCl (xw ad ca (upd kf n key) (vp_updL vf n v) bf (nI n) op ln nx en ok tf nb ef ff fi ek ev) H := hP
        have hD : va_D A (xw ad ca (upd kf n key) (vp_updL vf n v) bf (nI n) op ln nx en ok tf nb ef ff fi ek ev) := hD
        refine lv_aload_n hx hb dX3_add_72 rfl (lv_at hl 0 rfl) ?_
        refine lv_dup hx hb dX3_add_73 rfl ?_
        refine va_get (D := (dC, dI)) (ci := 3) (v := .int (nI n)) (C := RX3) (T := TX3) (N := 8) (ref := "SortedRun") hx hb hts (xg_u mb_uws_X3) hown hK hP 0 rfl rfl 6 (by decide) (xg_w hts mb_fieldLink_RX3_44) (fun _ h9 => h9) rfl dX3_add_74 ?_
        refine lv_iconst (v := 1) hx hb dX3_add_77 (by decide) ?_
        refine lv_iadd hx hb dX3_add_78 ?_
        refine lv_topi (fun z3 ez3 => ?_)
        have ez3 : z3 = nI (n + 1) := ez3.trans (nI_1 n)
        subst ez3
        refine va_put (D := (dC, dI)) (ci := 3) (v := .int (nI (n + 1))) (ty := .int) (C := RX3) (T := TX3) (N := 8) (ref := "SortedRun") hx hb hts (xg_u mb_uws_X3) tyX3 tyX3_ok nmX3 hown hK hP hD hS 0 rfl rfl 6 (by decide) (xg_w hts mb_fieldLink_RX3_44) (fun _ h9 => h9) rfl (by decide +kernel) rfl rfl (Nat.le_of_ble_eq_true rfl) dX3_add_79 (fun H locs hP hD hS => ?_)
        have hP : va_P (dC, dI) vwCl (xw ad ca (upd kf n key) (vp_updL vf n v) bf (nI (n + 1)) op ln nx en ok tf nb ef ff fi ek ev) H := hP
        have hD : va_D A (xw ad ca (upd kf n key) (vp_updL vf n v) bf (nI (n + 1)) op ln nx en ok tf nb ef ff fi ek ev) := hD
        refine lv_aload_n hx hb dX3_add_82 rfl (lv_at hl 0 rfl) ?_
        refine va_get (D := (dC, dI)) (ci := 3) (v := .int (nI (n + 1))) (C := RX3) (T := TX3) (N := 8) (ref := "SortedRun") hx hb hts (xg_u mb_uws_X3) hown hK hP 0 rfl rfl 6 (by decide) (xg_w hts mb_fieldLink_RX3_44) (fun _ h9 => h9) rfl dX3_add_83 ?_
        refine x_size hS (fun hz => ?_)
        refine vx_ret (W.widen (k := 1) (n := 6) (Nat.zero_le _) (Nat.zero_le _) ?_)
        exact W.iret (v := nI (n + 1)) hx hb hr (fun t ht hW => ⟨⟨nI (n + 1), (), rfl, ⟨hn3, hk9, rfl⟩, ⟨by rw [ht]; exact hP, va_K.moved hW.alike hK, hD⟩, (congrArg Array.size ht).trans hz⟩, hS.F ht⟩) hS.2.2 dX3_add_86
      · obtain ⟨sa, hstr⟩ := hE.2.2.2.1 _ (List.mem_of_getElem? (i := 1) rfl)
        exact xx_throw () hx hb hnt hown (by decide +kernel) (xg_w hts mb_classLink_RX3_55) (xg_w hts mb_initialized_IllegalArgumentException) hstr xh_IAE_at xh_IAE_good xh_IAE_on hE (hl.1.trans hml.symm) dX3_add_42 dX3_add_45 dX3_add_46 dX3_add_48 dX3_add_51 hno ⟨Nat.le_of_ble_eq_true rfl, Nat.le_of_ble_eq_true rfl, Nat.le_of_ble_eq_true rfl, Nat.le_of_ble_eq_true rfl⟩ hlocks (Or.inr ⟨rfl, hn3, hn0, Int32.not_lt.mp hc3⟩) hK hP hD hS (Nat.le_refl _) (Nat.le_refl _)
  · obtain ⟨sa, hstr⟩ := hE.2.2.2.1 _ (List.mem_of_getElem? (i := 0) rfl)
    exact xx_throw () hx hb hnt hown (by decide +kernel) (xg_w hts mb_classLink_RX3_48) (xg_w hts mb_initialized_IllegalStateException) hstr xh_ISE_at xh_ISE_good xh_ISE_on hE (hl.1.trans hml.symm) dX3_add_10 dX3_add_13 dX3_add_14 dX3_add_16 dX3_add_19 hno ⟨Nat.le_of_ble_eq_true rfl, Nat.le_of_ble_eq_true rfl, Nat.le_of_ble_eq_true rfl, Nat.le_of_ble_eq_true rfl⟩ hlocks (Or.inl ⟨rfl, by have := Nat.le_of_not_lt (fun z => hc ((nI_ltI (by omega) (by decide)).mpr z)); omega⟩) hK hP hD hS (Nat.le_refl _) (Nat.le_refl _)

set_option maxHeartbeats 4000000 in
set_option maxRecDepth 100000 in
theorem cX3_at_m (l : Launch) (hnt : l.stackTraces = false) (dC : Nat → ClassId) (dI : Nat → Nat → Nat) (ca : Nat → ClassId) (ad : Nat → Nat) (kf : Nat → Int32) (vf : Nat → Int64) (bf : Nat → Int32) (w : Int32) (op : Int32) (nx : Int32) (en : Int32) (ok : Int32) (tf : Nat → Int32) (nb : Int32) (ef : Nat → Int32) (ff : Nat → Int32) (fi : Int32) (ek : Int32) (ev : Int64) (n : Nat) (x : Int32) (hn : n ≤ 4889) : ∀ sz : Nat, vx_Met l yX3_at wsX3_at ({ frames := 7, cells := 1, slots := 6, locals := 111 } : Room) (va_Pc [.ref (ad 0), .int x] (xP (dC, dI) (xt ca) (xw ad ca kf vf bf w op (nI n) nx en ok tf nb ef ff fi ek ev) sz)) (va_Qi (S := Unit) (fun r _ => ∃ j, j < n ∧ x = nI j ∧ r = nI (pb_ub tf j)) (fun u t => xB (dC, dI) (xt ca) (va_A (xw ad ca kf vf bf w op (nI n) nx en ok tf nb ef ff fi ek ev) sz) (xw ad ca kf vf bf w op (nI n) nx en ok tf nb ef ff fi ek ev) t ∧ t.heap.size = sz) (va_A (xw ad ca kf vf bf w op (nI n) nx en ok tf nb ef ff fi ek ev) sz)) (xX (S := Unit) (dC, dI) (xt ca) (va_A (xw ad ca kf vf bf w op (nI n) nx en ok tf nb ef ff fi ek ev) sz) (fun E _ => E = "java/lang/IndexOutOfBoundsException" ∧ sp_in x n = false) (fun u => xw ad ca kf vf bf w op (nI n) nx en ok tf nb ef ff fi ek ev)) 1 6 (va_A (xw ad ca kf vf bf w op (nI n) nx en ok tf nb ef ff fi ek ev) sz) := by
  intro sz
  refine vx_ofW (cc := cX3_at) (maxL := 2) (ret := (some .int)) (by decide) rfl ?_
  intro p e s m args below meth c s₁ B hml hno hv
  obtain ⟨rfl, hsz, hP, hK, hD0, hE⟩ := hv
  have hx := B.exec
  have hb := B.bytes
  have hr := B.returns
  have hts := atoms_spec (ws := wsX3_at) B.pre
  have hown : s.vm.findClass RX3 = some m.cls := findClass_of_methodNamed B.named
  have hlocks := B.notSynchronized
  subst hsz
  have hD := hD0.self (sz := s.heap.size)
  generalize hAe : va_A (xw ad ca kf vf bf w op (nI n) nx en ok tf nb ef ff fi ek ev) s.heap.size = A at hD hE ⊢
  have hA : ∀ q : Nat, s.heap.size ≤ q → A q := fun q h => by rw [← hAe]; exact Or.inr h
  have hS : va_S A s.heap s.heap [] := va_S.rf
  have hl := lv_entry ([.ref (ad 0), .int x]) (n := 2) (Nat.le_of_ble_eq_true rfl)
  rw [lg_entry_eq]
  generalize (lg_sl ([.ref (ad 0), .int x]) ++ List.replicate (2 - (lg_sl ([.ref (ad 0), .int x])).length) Slot.unset).toArray = ls at hl ⊢
  have hl : lv_has ls 2 [(0, .ref (ad 0)), (1, .int x)] := hl
  refine lv_aload_n hx hb dX3_at_0 rfl (lv_at hl 0 rfl) ?_
  refine lv_iload_n hx hb dX3_at_1 rfl (lv_at hl 1 rfl) ?_
  refine x_size hS (fun hz => ?_)
  refine xx_v (vx_runV (As := [.int x]) (rest := []) ⟨hx, hb, hml, hown, hts⟩ (cX3_requireByte_m l hnt dC dI ca ad kf vf bf w op nx en ok tf nb ef ff fi ek ev n x (by omega) _) (cwV 1 hts (xg_V mb_methodLink_RX3_63 mb_instanceMethod_yX3_requireByte mb_selects_yX3_requireByte mb_initialized_RX3 mb_code_yX3_requireByte) rfl rfl rfl ⟨rfl, by decide, by decide, by decide +kernel⟩ ⟨Nat.le_of_ble_eq_true rfl, Nat.le_of_ble_eq_true rfl⟩) (xpreV (va_recv (q0 := 0) hK hP rfl rfl) hK hP hD hS hA hE) rfl rfl hl.1 rfl (lv_room (Nat.le_of_ble_eq_true rfl)) dX3_at_2 ⟨Nat.le_of_ble_eq_true rfl, Nat.le_of_ble_eq_true rfl⟩) hD hS hA hz (fun E ce q9 u H locs hX hP hD hS hce hcv hcl => ?_) (fun u H locs hu hP hD hS hz => ?_)
  · exact xx_out () hno hlocks (hX) hce hcv hcl hK hP hD hS (Nat.le_refl _) (Nat.le_refl _)
  have hP : va_P (dC, dI) vwCl (xw ad ca kf vf bf w op (nI n) nx en ok tf nb ef ff fi ek ev) H := hP
  have hD : va_D A (xw ad ca kf vf bf w op (nI n) nx en ok tf nb ef ff fi ek ev) := hD
  obtain ⟨j, hj, rfl⟩ := (sp_in_iff (by omega)).mp hu
  refine lv_aload_n hx hb dX3_at_5 rfl (lv_at hl 0 rfl) ?_
  refine va_get (D := (dC, dI)) (ci := 3) (v := .ref (ad 4)) (C := RX3) (T := TX3) (N := 8) (ref := "SortedRun") hx hb hts (xg_u mb_uws_X3) hown hK hP 0 rfl rfl 3 (by decide) (xg_w hts mb_fieldLink_RX3_23) (fun _ h9 => h9) rfl dX3_at_6 ?_
  refine lv_iload_n hx hb dX3_at_9 rfl (lv_at hl 1 rfl) ?_
  refine xk_i (va_runV (As := [.int (nI j)]) (rest := []) ⟨hx, hb, hml, hown, hts⟩ (cX2_byteAt_m l dC dI ca ad kf vf bf w op (nI n) nx en ok tf nb ef ff fi ek ev j (by omega) _) (cwV 1 hts (xg_V mb_methodLink_RX3_67 mb_instanceMethod_yX2_byteAt mb_selects_yX2_byteAt mb_initialized_RX2 mb_code_yX2_byteAt) rfl rfl rfl ⟨rfl, by decide, by decide, by decide +kernel⟩ ⟨Nat.le_of_ble_eq_true rfl, Nat.le_of_ble_eq_true rfl⟩) (xpreV (va_recv (q0 := 4) hK hP rfl rfl) hK hP hD hS hA hE) rfl rfl hl.1 rfl (lv_room (Nat.le_of_ble_eq_true rfl)) dX3_at_10 ⟨Nat.le_of_ble_eq_true rfl, Nat.le_of_ble_eq_true rfl⟩) hD hS hA (fun r u H locs hu hP hD hS => ?_)
  subst hu
  have hP : va_P (dC, dI) vwCl (xw ad ca kf vf bf w op (nI n) nx en ok tf nb ef ff fi ek ev) H := hP
  have hD : va_D A (xw ad ca kf vf bf w op (nI n) nx en ok tf nb ef ff fi ek ev) := hD
  refine x_size hS (fun hz => ?_)
  refine vx_ret (W.widen (k := 1) (n := 6) (Nat.zero_le _) (Nat.zero_le _) ?_)
  exact W.iret (v := nI (pb_ub tf j)) hx hb hr (fun t ht hW => ⟨⟨nI (pb_ub tf j), (), rfl, ⟨j, hj, rfl, rfl⟩, ⟨by rw [ht]; exact hP, va_K.moved hW.alike hK, hD⟩, (congrArg Array.size ht).trans hz⟩, hS.F ht⟩) hS.2.2 dX3_at_13

set_option maxHeartbeats 4000000 in
set_option maxRecDepth 100000 in
theorem cX3_damage_m (l : Launch) (hnt : l.stackTraces = false) (dC : Nat → ClassId) (dI : Nat → Nat → Nat) (ca : Nat → ClassId) (ad : Nat → Nat) (kf : Nat → Int32) (vf : Nat → Int64) (bf : Nat → Int32) (w : Int32) (op : Int32) (nx : Int32) (en : Int32) (ok : Int32) (tf : Nat → Int32) (nb : Int32) (ef : Nat → Int32) (ff : Nat → Int32) (fi : Int32) (ek : Int32) (ev : Int64) (n : Nat) (x v : Int32) (hn : n ≤ 4889) : ∀ sz : Nat, vx_Met l yX3_damage wsX3_damage ({ frames := 7, cells := 1, slots := 6, locals := 111 } : Room) (va_Pc [.ref (ad 0), .int x, .int v] (xP (dC, dI) (xt ca) (xw ad ca kf vf bf w op (nI n) nx en ok tf nb ef ff fi ek ev) sz)) (va_Qi (S := Nat) (fun r j => j < n ∧ x = nI j ∧ r = nI (pb_ub tf j)) (fun u t => xB (dC, dI) (xt ca) (va_A (xw ad ca kf vf bf w op (nI n) nx en ok tf nb ef ff fi ek ev) sz) (xw ad ca kf vf bf w 0 (nI n) nx en ok (upd tf u v.toInt8.toInt32) nb ef ff fi ek ev) t ∧ t.heap.size = sz) (va_A (xw ad ca kf vf bf w op (nI n) nx en ok tf nb ef ff fi ek ev) sz)) (xX (S := Unit) (dC, dI) (xt ca) (va_A (xw ad ca kf vf bf w op (nI n) nx en ok tf nb ef ff fi ek ev) sz) (fun E _ => E = "java/lang/IndexOutOfBoundsException" ∧ sp_in x n = false) (fun u => xw ad ca kf vf bf w op (nI n) nx en ok tf nb ef ff fi ek ev)) 1 6 (va_A (xw ad ca kf vf bf w op (nI n) nx en ok tf nb ef ff fi ek ev) sz) := by
  intro sz
  refine vx_ofW (cc := cX3_damage) (maxL := 4) (ret := (some .int)) (by decide) rfl ?_
  intro p e s m args below meth c s₁ B hml hno hv
  obtain ⟨rfl, hsz, hP, hK, hD0, hE⟩ := hv
  have hx := B.exec
  have hb := B.bytes
  have hr := B.returns
  have hts := atoms_spec (ws := wsX3_damage) B.pre
  have hown : s.vm.findClass RX3 = some m.cls := findClass_of_methodNamed B.named
  have hlocks := B.notSynchronized
  subst hsz
  have hD := hD0.self (sz := s.heap.size)
  generalize hAe : va_A (xw ad ca kf vf bf w op (nI n) nx en ok tf nb ef ff fi ek ev) s.heap.size = A at hD hE ⊢
  have hA : ∀ q : Nat, s.heap.size ≤ q → A q := fun q h => by rw [← hAe]; exact Or.inr h
  have hS : va_S A s.heap s.heap [] := va_S.rf
  have hl := lv_entry ([.ref (ad 0), .int x, .int v]) (n := 4) (Nat.le_of_ble_eq_true rfl)
  rw [lg_entry_eq]
  generalize (lg_sl ([.ref (ad 0), .int x, .int v]) ++ List.replicate (4 - (lg_sl ([.ref (ad 0), .int x, .int v])).length) Slot.unset).toArray = ls at hl ⊢
  have hl : lv_has ls 4 [(0, .ref (ad 0)), (1, .int x), (2, .int v)] := hl
  refine lv_aload_n hx hb dX3_damage_0 rfl (lv_at hl 0 rfl) ?_
  refine lv_iload_n hx hb dX3_damage_1 rfl (lv_at hl 1 rfl) ?_
  refine x_size hS (fun hz => ?_)
  refine xx_v (vx_runV (As := [.int x]) (rest := []) ⟨hx, hb, hml, hown, hts⟩ (cX3_requireByte_m l hnt dC dI ca ad kf vf bf w op nx en ok tf nb ef ff fi ek ev n x (by omega) _) (cwV 1 hts (xg_V mb_methodLink_RX3_63 mb_instanceMethod_yX3_requireByte mb_selects_yX3_requireByte mb_initialized_RX3 mb_code_yX3_requireByte) rfl rfl rfl ⟨rfl, by decide, by decide, by decide +kernel⟩ ⟨Nat.le_of_ble_eq_true rfl, Nat.le_of_ble_eq_true rfl⟩) (xpreV (va_recv (q0 := 0) hK hP rfl rfl) hK hP hD hS hA hE) rfl rfl hl.1 rfl (lv_room (Nat.le_of_ble_eq_true rfl)) dX3_damage_2 ⟨Nat.le_of_ble_eq_true rfl, Nat.le_of_ble_eq_true rfl⟩) hD hS hA hz (fun E ce q9 u H locs hX hP hD hS hce hcv hcl => ?_) (fun u H locs hu hP hD hS hz => ?_)
  · exact xx_out () hno hlocks (hX) hce hcv hcl hK hP hD hS (Nat.le_refl _) (Nat.le_refl _)
  have hP : va_P (dC, dI) vwCl (xw ad ca kf vf bf w op (nI n) nx en ok tf nb ef ff fi ek ev) H := hP
  have hD : va_D A (xw ad ca kf vf bf w op (nI n) nx en ok tf nb ef ff fi ek ev) := hD
  obtain ⟨j, hj, rfl⟩ := (sp_in_iff (by omega)).mp hu
  refine lv_aload_n hx hb dX3_damage_5 rfl (lv_at hl 0 rfl) ?_
  refine va_get (D := (dC, dI)) (ci := 3) (v := .ref (ad 4)) (C := RX3) (T := TX3) (N := 8) (ref := "SortedRun") hx hb hts (xg_u mb_uws_X3) hown hK hP 0 rfl rfl 3 (by decide) (xg_w hts mb_fieldLink_RX3_23) (fun _ h9 => h9) rfl dX3_damage_6 ?_
  refine lv_iload_n hx hb dX3_damage_9 rfl (lv_at hl 1 rfl) ?_
  refine xk_i (va_runV (As := [.int (nI j)]) (rest := []) ⟨hx, hb, hml, hown, hts⟩ (cX2_byteAt_m l dC dI ca ad kf vf bf w op (nI n) nx en ok tf nb ef ff fi ek ev j (by omega) _) (cwV 1 hts (xg_V mb_methodLink_RX3_67 mb_instanceMethod_yX2_byteAt mb_selects_yX2_byteAt mb_initialized_RX2 mb_code_yX2_byteAt) rfl rfl rfl ⟨rfl, by decide, by decide, by decide +kernel⟩ ⟨Nat.le_of_ble_eq_true rfl, Nat.le_of_ble_eq_true rfl⟩) (xpreV (va_recv (q0 := 4) hK hP rfl rfl) hK hP hD hS hA hE) rfl rfl hl.1 rfl (lv_room (Nat.le_of_ble_eq_true rfl)) dX3_damage_10 ⟨Nat.le_of_ble_eq_true rfl, Nat.le_of_ble_eq_true rfl⟩) hD hS hA (fun r u H locs hu hP hD hS => ?_)
  subst hu
  have hP : va_P (dC, dI) vwCl (xw ad ca kf vf bf w op (nI n) nx en ok tf nb ef ff fi ek ev) H := hP
  have hD : va_D A (xw ad ca kf vf bf w op (nI n) nx en ok tf nb ef ff fi ek ev) := hD
  refine lv_istore_n hx hb dX3_damage_13 rfl hl (by decide) rfl (fun ls hl => ?_)
  have hl : lv_has ls 4 [(3, .int (nI (pb_ub tf j))), (0, .ref (ad 0)), (1, .int (nI j)), (2, .int v)] := hl
  refine lv_aload_n hx hb dX3_damage_14 rfl (lv_at hl 1 rfl) ?_
  refine va_get (D := (dC, dI)) (ci := 3) (v := .ref (ad 4)) (C := RX3) (T := TX3) (N := 8) (ref := "SortedRun") hx hb hts (xg_u mb_uws_X3) hown hK hP 0 rfl rfl 3 (by decide) (xg_w hts mb_fieldLink_RX3_23) (fun _ h9 => h9) rfl dX3_damage_15 ?_
  refine va_getN (host := "SortedRun") (D := (dC, dI)) (ci := 2) (v := .ref (ad 5)) (C := RX2) (T := TX2) (N := 5) (ref := "SortedRun$Table") hx hb hts (xg_u mb_uws_X2) hown hK hP 4 rfl rfl 0 (by decide) (xn_w (w := .fieldLinkNest RX3 71 "SortedRun$Table" "bytes" "[B" "SortedRun") (i := 30) hE rfl rfl rfl) (fun _ h9 => h9) rfl dX3_damage_18 ?_
  refine lv_iload_n hx hb dX3_damage_21 rfl (lv_at hl 2 rfl) ?_
  refine lv_iload_n hx hb dX3_damage_22 rfl (lv_at hl 3 rfl) ?_
  refine lv_i2b (v := v.toInt8.toInt32) hx hb dX3_damage_23 (rfl) ?_
  refine va_bast hx hb hK hP hD hS 5 2 rfl rfl (vp_in_nI (by omega) (by decide)) dX3_damage_24 (fun H locs hP hD hS => ?_)
  have e9 : upd tf (nI j).toNatClampNeg (vp_nar .byte v.toInt8.toInt32) = upd tf j v.toInt8.toInt32 := by rw [nI_clamp (by omega), pk_vb]
  rw [e9] at hP hD
  clear e9
  have hP : va_P (dC, dI) vwCl (xw ad ca kf vf bf w op (nI n) nx en ok (upd tf j v.toInt8.toInt32) nb ef ff fi ek ev) H := hP
  have hD : va_D A (xw ad ca kf vf bf w op (nI n) nx en ok (upd tf j v.toInt8.toInt32) nb ef ff fi ek ev) := hD
  refine lv_aload_n hx hb dX3_damage_25 rfl (lv_at hl 1 rfl) ?_
  refine lv_iconst (v := 0) hx hb dX3_damage_26 (by decide) ?_
  refine va_put (D := (dC, dI)) (ci := 3) (v := .int 0) (ty := .boolean) (C := RX3) (T := TX3) (N := 8) (ref := "SortedRun") hx hb hts (xg_u mb_uws_X3) tyX3 tyX3_ok nmX3 hown hK hP hD hS 0 rfl rfl 7 (by decide) (xg_w hts mb_fieldLink_RX3_75) (fun _ h9 => h9) rfl (by decide +kernel) rfl rfl (Nat.le_of_ble_eq_true rfl) dX3_damage_27 (fun H locs hP hD hS => ?_)
  have hP : va_P (dC, dI) vwCl (xw ad ca kf vf bf w 0 (nI n) nx en ok (upd tf j v.toInt8.toInt32) nb ef ff fi ek ev) H := hP
  have hD : va_D A (xw ad ca kf vf bf w 0 (nI n) nx en ok (upd tf j v.toInt8.toInt32) nb ef ff fi ek ev) := hD
  refine lv_iload_n hx hb dX3_damage_30 rfl (lv_at hl 0 rfl) ?_
  refine x_size hS (fun hz => ?_)
  refine vx_ret (W.widen (k := 1) (n := 6) (Nat.zero_le _) (Nat.zero_le _) ?_)
  exact W.iret (v := nI (pb_ub tf j)) hx hb hr (fun t ht hW => ⟨⟨nI (pb_ub tf j), j, rfl, ⟨hj, rfl, rfl⟩, ⟨by rw [ht]; exact hP, va_K.moved hW.alike hK, hD⟩, (congrArg Array.size ht).trans hz⟩, hS.F ht⟩) hS.2.2 dX3_damage_31

set_option maxHeartbeats 4000000 in
set_option maxRecDepth 100000 in
theorem cX3_cut_m (l : Launch) (hnt : l.stackTraces = false) (dC : Nat → ClassId) (dI : Nat → Nat → Nat) (ca : Nat → ClassId) (ad : Nat → Nat) (kf : Nat → Int32) (vf : Nat → Int64) (bf : Nat → Int32) (w : Int32) (op : Int32) (nx : Int32) (en : Int32) (ok : Int32) (tf : Nat → Int32) (nb : Int32) (ef : Nat → Int32) (ff : Nat → Int32) (fi : Int32) (ek : Int32) (ev : Int64) (n : Nat) (x : Int32) (hn : n ≤ 4889) : ∀ sz : Nat, vx_Met l yX3_cut wsX3_cut ({ frames := 6, cells := 1, slots := 6, locals := 90 } : Room) (va_Pc [.ref (ad 0), .int x] (xP (dC, dI) (xt ca) (xw ad ca kf vf bf w op (nI n) nx en ok tf nb ef ff fi ek ev) sz)) (va_Qv (S := Unit) (fun _ => sp_in x (n + 1) = true) (fun u t => xB (dC, dI) (xt ca) (va_A (xw ad ca kf vf bf w op (nI n) nx en ok tf nb ef ff fi ek ev) sz) (xw ad ca kf vf bf w 0 x nx en ok tf nb ef ff fi ek ev) t ∧ t.heap.size = sz) (va_A (xw ad ca kf vf bf w op (nI n) nx en ok tf nb ef ff fi ek ev) sz)) (xX (S := Unit) (dC, dI) (xt ca) (va_A (xw ad ca kf vf bf w op (nI n) nx en ok tf nb ef ff fi ek ev) sz) (fun E _ => E = "java/lang/IllegalArgumentException" ∧ sp_in x (n + 1) = false) (fun u => xw ad ca kf vf bf w op (nI n) nx en ok tf nb ef ff fi ek ev)) 1 6 (va_A (xw ad ca kf vf bf w op (nI n) nx en ok tf nb ef ff fi ek ev) sz) := by
  intro sz
  refine vx_ofW (cc := cX3_cut) (maxL := 2) (ret := none) (by decide) rfl ?_
  intro p e s m args below meth c s₁ B hml hno hv
  obtain ⟨rfl, hsz, hP, hK, hD0, hE⟩ := hv
  have hx := B.exec
  have hb := B.bytes
  have hr := B.returns
  have hts := atoms_spec (ws := wsX3_cut) B.pre
  have hown : s.vm.findClass RX3 = some m.cls := findClass_of_methodNamed B.named
  have hlocks := B.notSynchronized
  subst hsz
  have hD := hD0.self (sz := s.heap.size)
  generalize hAe : va_A (xw ad ca kf vf bf w op (nI n) nx en ok tf nb ef ff fi ek ev) s.heap.size = A at hD hE ⊢
  have hA : ∀ q : Nat, s.heap.size ≤ q → A q := fun q h => by rw [← hAe]; exact Or.inr h
  have hS : va_S A s.heap s.heap [] := va_S.rf
  have hl := lv_entry ([.ref (ad 0), .int x]) (n := 2) (Nat.le_of_ble_eq_true rfl)
  rw [lg_entry_eq]
  generalize (lg_sl ([.ref (ad 0), .int x]) ++ List.replicate (2 - (lg_sl ([.ref (ad 0), .int x])).length) Slot.unset).toArray = ls at hl ⊢
  have hl : lv_has ls 2 [(0, .ref (ad 0)), (1, .int x)] := hl
  have hnn : x < nI (n + 1) ↔ x ≤ nI n := by
    have e1 := nI_toInt (n := n + 1) (by omega)
    have e2 := nI_toInt (n := n) (by omega)
    rw [Int32.lt_iff_toInt_lt, Int32.le_iff_toInt_le, e1, e2]; omega
  refine lv_iload_n hx hb dX3_cut_0 rfl (lv_at hl 1 rfl) ?_
  refine lv_if_lt (tgt := 15) hx hb dX3_cut_1 rfl (fun hc => ?_) (fun hc => ?_)
  · obtain ⟨sa, hstr⟩ := hE.2.2.2.1 _ (List.mem_of_getElem? (i := 3) rfl)
    exact xx_throw () hx hb hnt hown (by decide +kernel) (xg_w hts mb_classLink_RX3_55) (xg_w hts mb_initialized_IllegalArgumentException) hstr xh_IAE_at xh_IAE_good xh_IAE_on hE (hl.1.trans hml.symm) dX3_cut_15 dX3_cut_18 dX3_cut_19 dX3_cut_21 dX3_cut_24 hno ⟨Nat.le_of_ble_eq_true rfl, Nat.le_of_ble_eq_true rfl, Nat.le_of_ble_eq_true rfl, Nat.le_of_ble_eq_true rfl⟩ hlocks (⟨rfl, by unfold sp_in; rw [decide_eq_false (Int32.not_le.mpr hc)]; rfl⟩) hK hP hD hS (Nat.le_refl _) (Nat.le_refl _)
  · refine lv_iload_n hx hb dX3_cut_4 rfl (lv_at hl 1 rfl) ?_
    refine lv_aload_n hx hb dX3_cut_5 rfl (lv_at hl 0 rfl) ?_
    refine va_get (D := (dC, dI)) (ci := 3) (v := .ref (ad 4)) (C := RX3) (T := TX3) (N := 8) (ref := "SortedRun") hx hb hts (xg_u mb_uws_X3) hown hK hP 0 rfl rfl 3 (by decide) (xg_w hts mb_fieldLink_RX3_23) (fun _ h9 => h9) rfl dX3_cut_6 ?_
    refine va_getN (host := "SortedRun") (D := (dC, dI)) (ci := 2) (v := .int (nI n)) (C := RX2) (T := TX2) (N := 5) (ref := "SortedRun$Table") hx hb hts (xg_u mb_uws_X2) hown hK hP 4 rfl rfl 1 (by decide) (xn_w (w := .fieldLinkNest RX3 60 "SortedRun$Table" "length" "I" "SortedRun") (i := 32) hE rfl rfl rfl) (fun _ h9 => h9) rfl dX3_cut_9 ?_
    refine lv_icmp_le (tgt := 25) hx hb dX3_cut_12 rfl (fun hc2 => ?_) (fun hc2 => ?_)
    · refine lv_aload_n hx hb dX3_cut_25 rfl (lv_at hl 0 rfl) ?_
      refine va_get (D := (dC, dI)) (ci := 3) (v := .ref (ad 4)) (C := RX3) (T := TX3) (N := 8) (ref := "SortedRun") hx hb hts (xg_u mb_uws_X3) hown hK hP 0 rfl rfl 3 (by decide) (xg_w hts mb_fieldLink_RX3_23) (fun _ h9 => h9) rfl dX3_cut_26 ?_
      refine lv_iload_n hx hb dX3_cut_29 rfl (lv_at hl 1 rfl) ?_
      refine va_putN (host := "SortedRun") (D := (dC, dI)) (ci := 2) (v := .int x) (ty := .int) (C := RX2) (T := TX2) (N := 5) (ref := "SortedRun$Table") hx hb hts (xg_u mb_uws_X2) tyX2 tyX2_ok nmX2 hown hK hP hD hS 4 rfl rfl 1 (by decide) (xn_w (w := .fieldLinkNest RX3 60 "SortedRun$Table" "length" "I" "SortedRun") (i := 32) hE rfl rfl rfl) (fun _ h9 => h9) rfl (by decide +kernel) rfl rfl (Nat.le_of_ble_eq_true rfl) dX3_cut_30 (fun H locs hP hD hS => ?_)
      have hP : va_P (dC, dI) vwCl (xw ad ca kf vf bf w op x nx en ok tf nb ef ff fi ek ev) H := hP
      have hD : va_D A (xw ad ca kf vf bf w op x nx en ok tf nb ef ff fi ek ev) := hD
      refine lv_aload_n hx hb dX3_cut_33 rfl (lv_at hl 0 rfl) ?_
      refine lv_iconst (v := 0) hx hb dX3_cut_34 (by decide) ?_
      refine va_put (D := (dC, dI)) (ci := 3) (v := .int 0) (ty := .boolean) (C := RX3) (T := TX3) (N := 8) (ref := "SortedRun") hx hb hts (xg_u mb_uws_X3) tyX3 tyX3_ok nmX3 hown hK hP hD hS 0 rfl rfl 7 (by decide) (xg_w hts mb_fieldLink_RX3_75) (fun _ h9 => h9) rfl (by decide +kernel) rfl rfl (Nat.le_of_ble_eq_true rfl) dX3_cut_35 (fun H locs hP hD hS => ?_)
      have hP : va_P (dC, dI) vwCl (xw ad ca kf vf bf w 0 x nx en ok tf nb ef ff fi ek ev) H := hP
      have hD : va_D A (xw ad ca kf vf bf w 0 x nx en ok tf nb ef ff fi ek ev) := hD
      refine x_size hS (fun hz => ?_)
      refine vx_ret (W.widen (k := 1) (n := 6) (Nat.zero_le _) (Nat.zero_le _) ?_)
      exact W.vret hx hb hr (fun t ht hW => ⟨⟨(), rfl, by unfold sp_in; rw [decide_eq_true (Int32.not_lt.mp hc), decide_eq_true (hnn.mpr hc2)]; rfl, ⟨by rw [ht]; exact hP, va_K.moved hW.alike hK, hD⟩, (congrArg Array.size ht).trans hz⟩, hS.F ht⟩) hS.2.2 dX3_cut_38
    · obtain ⟨sa, hstr⟩ := hE.2.2.2.1 _ (List.mem_of_getElem? (i := 3) rfl)
      exact xx_throw () hx hb hnt hown (by decide +kernel) (xg_w hts mb_classLink_RX3_55) (xg_w hts mb_initialized_IllegalArgumentException) hstr xh_IAE_at xh_IAE_good xh_IAE_on hE (hl.1.trans hml.symm) dX3_cut_15 dX3_cut_18 dX3_cut_19 dX3_cut_21 dX3_cut_24 hno ⟨Nat.le_of_ble_eq_true rfl, Nat.le_of_ble_eq_true rfl, Nat.le_of_ble_eq_true rfl, Nat.le_of_ble_eq_true rfl⟩ hlocks (⟨rfl, by unfold sp_in; rw [decide_eq_false (fun y => hc2 (hnn.mp y)), Bool.and_false]⟩) hK hP hD hS (Nat.le_refl _) (Nat.le_refl _)

set_option maxHeartbeats 4000000 in
set_option maxRecDepth 100000 in
theorem cX3_open_m (l : Launch) (hnt : l.stackTraces = false) (dC : Nat → ClassId) (dI : Nat → Nat → Nat) (ca : Nat → ClassId) (ad : Nat → Nat) (kf : Nat → Int32) (vf : Nat → Int64) (bf : Nat → Int32) (w : Int32) (op : Int32) (nx : Int32) (en : Int32) (ok : Int32) (tf : Nat → Int32) (nb : Int32) (ef : Nat → Int32) (ff : Nat → Int32) (fi : Int32) (ek : Int32) (ev : Int64) (L : Nat) (hL : L ≤ 4889) : ∀ sz : Nat, vx_Met l yX3_open wsX3_open ({ frames := 6, cells := 1, slots := 6, locals := 99 } : Room) (va_Pc [.ref (ad 0)] (xP (dC, dI) (xt ca) (xw ad ca kf vf bf w op (nI L) nx en ok tf nb ef ff fi ek ev) sz)) (va_Qi (S := Int32 × Int32 × Int32 × Int32 × (Nat → Int32) × (Nat → Int32)) (fun r u => ∃ lr, px_open tf L = some lr ∧ r = nI lr.length ∧ u.1 = nI lr.length ∧ lr.length ≤ 2444 ∧ px_rows 0 0 lr u.2.2.2.2.1 u.2.2.2.2.2) (fun u t => xB (dC, dI) (xt ca) (va_A (xw ad ca kf vf bf w op (nI L) nx en ok tf nb ef ff fi ek ev) sz) (xw ad ca kf vf bf w 1 (nI L) u.2.1 u.2.2.1 u.2.2.2.1 tf u.1 u.2.2.2.2.1 u.2.2.2.2.2 fi ek ev) t ∧ t.heap.size = sz) (va_A (xw ad ca kf vf bf w op (nI L) nx en ok tf nb ef ff fi ek ev) sz)) (xX (S := Int32 × Int32 × Int32 × Int32 × (Nat → Int32) × (Nat → Int32)) (dC, dI) (xt ca) (va_A (xw ad ca kf vf bf w op (nI L) nx en ok tf nb ef ff fi ek ev) sz) (fun E u => E = "java/lang/ArithmeticException" ∧ px_open tf L = none) (fun u => xw ad ca kf vf bf w 0 (nI L) u.2.1 u.2.2.1 u.2.2.2.1 tf u.1 u.2.2.2.2.1 u.2.2.2.2.2 fi ek ev)) 1 6 (va_A (xw ad ca kf vf bf w op (nI L) nx en ok tf nb ef ff fi ek ev) sz) := by
  intro sz
  refine vx_ofW (cc := cX3_open) (maxL := 1) (ret := (some .int)) (by decide) rfl ?_
  intro p e s m args below meth c s₁ B hml hno hv
  obtain ⟨rfl, hsz, hP, hK, hD0, hE⟩ := hv
  have hx := B.exec
  have hb := B.bytes
  have hr := B.returns
  have hts := atoms_spec (ws := wsX3_open) B.pre
  have hown : s.vm.findClass RX3 = some m.cls := findClass_of_methodNamed B.named
  have hlocks := B.notSynchronized
  subst hsz
  have hD := hD0.self (sz := s.heap.size)
  generalize hAe : va_A (xw ad ca kf vf bf w op (nI L) nx en ok tf nb ef ff fi ek ev) s.heap.size = A at hD hE ⊢
  have hA : ∀ q : Nat, s.heap.size ≤ q → A q := fun q h => by rw [← hAe]; exact Or.inr h
  have hS : va_S A s.heap s.heap [] := va_S.rf
  have hl := lv_entry ([.ref (ad 0)]) (n := 1) (Nat.le_of_ble_eq_true rfl)
  rw [lg_entry_eq]
  generalize (lg_sl ([.ref (ad 0)]) ++ List.replicate (1 - (lg_sl ([.ref (ad 0)])).length) Slot.unset).toArray = ls at hl ⊢
  have hl : lv_has ls 1 [(0, .ref (ad 0))] := hl
  refine lv_aload_n hx hb dX3_open_0 rfl (lv_at hl 0 rfl) ?_
  refine lv_aload_n hx hb dX3_open_1 rfl (lv_at hl 0 rfl) ?_
  refine va_get (D := (dC, dI)) (ci := 3) (v := .ref (ad 6)) (C := RX3) (T := TX3) (N := 8) (ref := "SortedRun") hx hb hts (xg_u mb_uws_X3) hown hK hP 0 rfl rfl 4 (by decide) (xg_w hts mb_fieldLink_RX3_30) (fun _ h9 => h9) rfl dX3_open_2 ?_
  refine lv_aload_n hx hb dX3_open_5 rfl (lv_at hl 0 rfl) ?_
  refine va_get (D := (dC, dI)) (ci := 3) (v := .ref (ad 4)) (C := RX3) (T := TX3) (N := 8) (ref := "SortedRun") hx hb hts (xg_u mb_uws_X3) hown hK hP 0 rfl rfl 3 (by decide) (xg_w hts mb_fieldLink_RX3_23) (fun _ h9 => h9) rfl dX3_open_6 ?_
  refine xk_i (va_runV (As := [.ref (ad 4)]) (rest := [.ref (ad 0)]) ⟨hx, hb, hml, hown, hts⟩ (cX1_readFrom_m l dC dI ca ad kf vf bf w op nx en ok tf nb ef ff fi ek ev L hL _) (cwV 1 hts (xg_V mb_methodLink_RX3_81 mb_instanceMethod_yX1_readFrom mb_selects_yX1_readFrom mb_initialized_RX1 mb_code_yX1_readFrom) rfl rfl rfl ⟨rfl, by decide, by decide, by decide +kernel⟩ ⟨Nat.le_of_ble_eq_true rfl, Nat.le_of_ble_eq_true rfl⟩) (xpreV (va_recv (q0 := 6) hK hP rfl rfl) hK hP hD hS hA hE) rfl rfl hl.1 rfl (lv_room (Nat.le_of_ble_eq_true rfl)) dX3_open_9 ⟨Nat.le_of_ble_eq_true rfl, Nat.le_of_ble_eq_true rfl⟩) hD hS hA (fun r u H locs hu hP hD hS => ?_)
  have hP : va_P (dC, dI) vwCl (xw ad ca kf vf bf w op (nI L) u.2.1 u.2.2.1 u.2.2.2.1 tf u.1 u.2.2.2.2.1 u.2.2.2.2.2 fi ek ev) H := hP
  have hD : va_D A (xw ad ca kf vf bf w op (nI L) u.2.1 u.2.2.1 u.2.2.2.1 tf u.1 u.2.2.2.2.1 u.2.2.2.2.2 fi ek ev) := hD
  obtain ⟨x1, x2, x3, x4, x5, x6⟩ := u
  dsimp only at hu hP hD
  rcases hu with hu | hu
  · obtain ⟨lr, ho, rfl, hn, hlen, hrows⟩ := hu
    refine va_put (D := (dC, dI)) (ci := 3) (v := .int 1) (ty := .boolean) (C := RX3) (T := TX3) (N := 8) (ref := "SortedRun") hx hb hts (xg_u mb_uws_X3) tyX3 tyX3_ok nmX3 hown hK hP hD hS 0 rfl rfl 7 (by decide) (xg_w hts mb_fieldLink_RX3_75) (fun _ h9 => h9) rfl (by decide +kernel) rfl rfl (Nat.le_of_ble_eq_true rfl) dX3_open_12 (fun H locs hP hD hS => ?_)
    have hP : va_P (dC, dI) vwCl (xw ad ca kf vf bf w 1 (nI L) x2 x3 x4 tf x1 x5 x6 fi ek ev) H := hP
    have hD : va_D A (xw ad ca kf vf bf w 1 (nI L) x2 x3 x4 tf x1 x5 x6 fi ek ev) := hD
    refine lv_aload_n hx hb dX3_open_15 rfl (lv_at hl 0 rfl) ?_
    refine va_get (D := (dC, dI)) (ci := 3) (v := .int 1) (C := RX3) (T := TX3) (N := 8) (ref := "SortedRun") hx hb hts (xg_u mb_uws_X3) hown hK hP 0 rfl rfl 7 (by decide) (xg_w hts mb_fieldLink_RX3_75) (fun _ h9 => h9) rfl dX3_open_16 ?_
    refine lv_if_ne (tgt := 32) hx hb dX3_open_19 rfl (fun hc => ?_) (fun hc => absurd hc (by decide))
    refine lv_aload_n hx hb dX3_open_32 rfl (lv_at hl 0 rfl) ?_
    refine va_get (D := (dC, dI)) (ci := 3) (v := .ref (ad 6)) (C := RX3) (T := TX3) (N := 8) (ref := "SortedRun") hx hb hts (xg_u mb_uws_X3) hown hK hP 0 rfl rfl 4 (by decide) (xg_w hts mb_fieldLink_RX3_30) (fun _ h9 => h9) rfl dX3_open_33 ?_
    refine va_getN (host := "SortedRun") (D := (dC, dI)) (ci := 1) (v := .int x1) (C := RX1) (T := TX1) (N := 3) (ref := "SortedRun$Index") hx hb hts (xg_u mb_uws_X1) hown hK hP 6 rfl rfl 2 (by decide) (xn_w (w := .fieldLinkNest RX3 90 "SortedRun$Index" "blocks" "I" "SortedRun") (i := 62) hE rfl rfl rfl) (fun _ h9 => h9) rfl dX3_open_36 ?_
    refine lv_topi (fun z1 ez1 => ?_)
    have ez1 : z1 = nI lr.length := ez1.trans (hn)
    subst ez1
    refine x_size hS (fun hz => ?_)
    refine vx_ret (W.widen (k := 1) (n := 6) (Nat.zero_le _) (Nat.zero_le _) ?_)
    exact W.iret (v := nI lr.length) hx hb hr (fun t ht hW => ⟨⟨nI lr.length, (x1, x2, x3, x4, x5, x6), rfl, ⟨lr, ho, rfl, hn, hlen, hrows⟩, ⟨by rw [ht]; exact hP, va_K.moved hW.alike hK, hD⟩, (congrArg Array.size ht).trans hz⟩, hS.F ht⟩) hS.2.2 dX3_open_39
  · obtain ⟨ho, rfl⟩ := hu
    refine va_put (D := (dC, dI)) (ci := 3) (v := .int 0) (ty := .boolean) (C := RX3) (T := TX3) (N := 8) (ref := "SortedRun") hx hb hts (xg_u mb_uws_X3) tyX3 tyX3_ok nmX3 hown hK hP hD hS 0 rfl rfl 7 (by decide) (xg_w hts mb_fieldLink_RX3_75) (fun _ h9 => h9) rfl (by decide +kernel) rfl rfl (Nat.le_of_ble_eq_true rfl) dX3_open_12 (fun H locs hP hD hS => ?_)
    have hP : va_P (dC, dI) vwCl (xw ad ca kf vf bf w 0 (nI L) x2 x3 x4 tf x1 x5 x6 fi ek ev) H := hP
    have hD : va_D A (xw ad ca kf vf bf w 0 (nI L) x2 x3 x4 tf x1 x5 x6 fi ek ev) := hD
    refine lv_aload_n hx hb dX3_open_15 rfl (lv_at hl 0 rfl) ?_
    refine va_get (D := (dC, dI)) (ci := 3) (v := .int 0) (C := RX3) (T := TX3) (N := 8) (ref := "SortedRun") hx hb hts (xg_u mb_uws_X3) hown hK hP 0 rfl rfl 7 (by decide) (xg_w hts mb_fieldLink_RX3_75) (fun _ h9 => h9) rfl dX3_open_16 ?_
    refine lv_if_ne (tgt := 32) hx hb dX3_open_19 rfl (fun hc => absurd hc (not_not_intro rfl)) (fun hc => ?_)
    obtain ⟨sa, hstr⟩ := hE.2.2.2.1 _ (List.mem_of_getElem? (i := 4) rfl)
    exact xx_throw (x1, x2, x3, x4, x5, x6) hx hb hnt hown (by decide +kernel) (xg_w hts mb_classLink_RX3_85) (xg_w hts mb_initialized_ArithmeticException) hstr xh_AE_at xh_AE_good xh_AE_on hE (hl.1.trans hml.symm) dX3_open_22 dX3_open_25 dX3_open_26 dX3_open_28 dX3_open_31 hno ⟨Nat.le_of_ble_eq_true rfl, Nat.le_of_ble_eq_true rfl, Nat.le_of_ble_eq_true rfl, Nat.le_of_ble_eq_true rfl⟩ hlocks (⟨rfl, ho⟩) hK hP hD hS (Nat.le_refl _) (Nat.le_refl _)

set_option maxHeartbeats 4000000 in
set_option maxRecDepth 100000 in
theorem cX3_size_m (l : Launch) (dC : Nat → ClassId) (dI : Nat → Nat → Nat) (ca : Nat → ClassId) (ad : Nat → Nat) (kf : Nat → Int32) (vf : Nat → Int64) (bf : Nat → Int32) (w : Int32) (op : Int32) (ln : Int32) (nx : Int32) (en : Int32) (ok : Int32) (tf : Nat → Int32) (nb : Int32) (ef : Nat → Int32) (ff : Nat → Int32) (fi : Int32) (ek : Int32) (ev : Int64) : ∀ sz : Nat, Met l yX3_size wsX3_size ({ frames := 0, cells := 0, slots := 0, locals := 0 } : Room) (va_Pc [.ref (ad 0)] (xP (dC, dI) (xt ca) (xw ad ca kf vf bf w op ln nx en ok tf nb ef ff fi ek ev) sz)) (va_Qi (S := Unit) (fun r _ => r = ln) (fun u t => xB (dC, dI) (xt ca) (va_A (xw ad ca kf vf bf w op ln nx en ok tf nb ef ff fi ek ev) sz) (xw ad ca kf vf bf w op ln nx en ok tf nb ef ff fi ek ev) t) (va_A (xw ad ca kf vf bf w op ln nx en ok tf nb ef ff fi ek ev) sz)) 0 0 (va_A (xw ad ca kf vf bf w op ln nx en ok tf nb ef ff fi ek ev) sz) := by
  intro sz
  refine Met.ofW (cc := cX3_size) (maxL := 1) (ret := (some .int)) (by decide) rfl ?_
  intro p e s m args below meth c s₁ B hml hv
  obtain ⟨rfl, hsz, hP, hK, hD0, hE⟩ := hv
  have hx := B.exec
  have hb := B.bytes
  have hr := B.returns
  have hts := atoms_spec (ws := wsX3_size) B.pre
  have hown : s.vm.findClass RX3 = some m.cls := findClass_of_methodNamed B.named
  have hlocks := B.notSynchronized
  subst hsz
  have hD := hD0.self (sz := s.heap.size)
  generalize hAe : va_A (xw ad ca kf vf bf w op ln nx en ok tf nb ef ff fi ek ev) s.heap.size = A at hD hE ⊢
  have hA : ∀ q : Nat, s.heap.size ≤ q → A q := fun q h => by rw [← hAe]; exact Or.inr h
  have hS : va_S A s.heap s.heap [] := va_S.rf
  have hl := lv_entry ([.ref (ad 0)]) (n := 1) (Nat.le_of_ble_eq_true rfl)
  rw [lg_entry_eq]
  generalize (lg_sl ([.ref (ad 0)]) ++ List.replicate (1 - (lg_sl ([.ref (ad 0)])).length) Slot.unset).toArray = ls at hl ⊢
  have hl : lv_has ls 1 [(0, .ref (ad 0))] := hl
  refine lv_aload_n hx hb dX3_size_0 rfl (lv_at hl 0 rfl) ?_
  refine va_get (D := (dC, dI)) (ci := 3) (v := .ref (ad 4)) (C := RX3) (T := TX3) (N := 8) (ref := "SortedRun") hx hb hts (xg_u mb_uws_X3) hown hK hP 0 rfl rfl 3 (by decide) (xg_w hts mb_fieldLink_RX3_23) (fun _ h9 => h9) rfl dX3_size_1 ?_
  refine va_getN (host := "SortedRun") (D := (dC, dI)) (ci := 2) (v := .int ln) (C := RX2) (T := TX2) (N := 5) (ref := "SortedRun$Table") hx hb hts (xg_u mb_uws_X2) hown hK hP 4 rfl rfl 1 (by decide) (xn_w (w := .fieldLinkNest RX3 60 "SortedRun$Table" "length" "I" "SortedRun") (i := 32) hE rfl rfl rfl) (fun _ h9 => h9) rfl dX3_size_4 ?_
  have hP9 := hP
  have hD9 := hD
  exact W.iret (v := ln) hx hb hr (fun t ht hW => ⟨⟨ln, (), rfl, rfl, by rw [ht]; exact hP9, va_K.moved hW.alike hK, hD9⟩, hS.F ht⟩) hS.2.2 dX3_size_7

set_option maxHeartbeats 4000000 in
set_option maxRecDepth 100000 in
theorem cX3_entries_m (l : Launch) (hnt : l.stackTraces = false) (dC : Nat → ClassId) (dI : Nat → Nat → Nat) (ca : Nat → ClassId) (ad : Nat → Nat) (kf : Nat → Int32) (vf : Nat → Int64) (bf : Nat → Int32) (w : Int32) (op : Int32) (ln : Int32) (nx : Int32) (en : Int32) (ok : Int32) (tf : Nat → Int32) (nb : Int32) (ef : Nat → Int32) (ff : Nat → Int32) (fi : Int32) (ek : Int32) (ev : Int64) (lr : List (Nat × Nat)) (x : Int32) (hopen : ¬ op = 0 → nb = nI lr.length ∧ lr.length ≤ 2444 ∧ px_rows 0 0 lr ef ff ∧ px_sum lr ≤ 4889) : ∀ sz : Nat, vx_Met l yX3_entries wsX3_entries ({ frames := 7, cells := 1, slots := 6, locals := 114 } : Room) (va_Pc [.ref (ad 0), .int x] (xP (dC, dI) (xt ca) (xw ad ca kf vf bf w op ln nx en ok tf nb ef ff fi ek ev) sz)) (va_Qi (S := Int32 × Int32 × Int32 × Int32 × Int32 × Int64) (fun r u => ¬ op = 0 ∧ ∃ j lb, j < lr.length ∧ x = nI j ∧ pe_of tf lr j = some lb ∧ r = nI lb.length ∧ lb.length ≤ 2444) (fun u t => xB (dC, dI) (xt ca) (va_A (xw ad ca kf vf bf w op ln nx en ok tf nb ef ff fi ek ev) sz) (xw ad ca kf vf bf w op ln u.1 u.2.1 u.2.2.1 tf nb ef ff u.2.2.2.1 u.2.2.2.2.1 u.2.2.2.2.2) t ∧ t.heap.size = sz) (va_A (xw ad ca kf vf bf w op ln nx en ok tf nb ef ff fi ek ev) sz)) (xX (S := Int32 × Int32 × Int32 × Int32 × Int32 × Int64) (dC, dI) (xt ca) (va_A (xw ad ca kf vf bf w op ln nx en ok tf nb ef ff fi ek ev) sz) (fun E u => (E = "java/lang/IllegalStateException" ∧ op = 0) ∨ (¬ op = 0 ∧ E = "java/lang/IndexOutOfBoundsException" ∧ sp_in x lr.length = false) ∨ (¬ op = 0 ∧ E = "java/lang/ArithmeticException" ∧ ∃ j, j < lr.length ∧ x = nI j ∧ pe_of tf lr j = none)) (fun u => xw ad ca kf vf bf w op ln u.1 u.2.1 u.2.2.1 tf nb ef ff u.2.2.2.1 u.2.2.2.2.1 u.2.2.2.2.2)) 1 6 (va_A (xw ad ca kf vf bf w op ln nx en ok tf nb ef ff fi ek ev) sz) := by
  intro sz
  refine vx_ofW (cc := cX3_entries) (maxL := 2) (ret := (some .int)) (by decide) rfl ?_
  intro p e s m args below meth c s₁ B hml hno hv
  obtain ⟨rfl, hsz, hP, hK, hD0, hE⟩ := hv
  have hx := B.exec
  have hb := B.bytes
  have hr := B.returns
  have hts := atoms_spec (ws := wsX3_entries) B.pre
  have hown : s.vm.findClass RX3 = some m.cls := findClass_of_methodNamed B.named
  have hlocks := B.notSynchronized
  subst hsz
  have hD := hD0.self (sz := s.heap.size)
  generalize hAe : va_A (xw ad ca kf vf bf w op ln nx en ok tf nb ef ff fi ek ev) s.heap.size = A at hD hE ⊢
  have hA : ∀ q : Nat, s.heap.size ≤ q → A q := fun q h => by rw [← hAe]; exact Or.inr h
  have hS : va_S A s.heap s.heap [] := va_S.rf
  have hl := lv_entry ([.ref (ad 0), .int x]) (n := 2) (Nat.le_of_ble_eq_true rfl)
  rw [lg_entry_eq]
  generalize (lg_sl ([.ref (ad 0), .int x]) ++ List.replicate (2 - (lg_sl ([.ref (ad 0), .int x])).length) Slot.unset).toArray = ls at hl ⊢
  have hl : lv_has ls 2 [(0, .ref (ad 0)), (1, .int x)] := hl
  refine lv_aload_n hx hb dX3_entries_0 rfl (lv_at hl 0 rfl) ?_
  refine x_size hS (fun hz => ?_)
  refine xx_v (vx_runV (As := []) (rest := []) ⟨hx, hb, hml, hown, hts⟩ (cX3_requireOpen_m l hnt dC dI ca ad kf vf bf w op ln nx en ok tf nb ef ff fi ek ev  _) (cwV 0 hts (xg_V mb_methodLink_RX3_93 mb_instanceMethod_yX3_requireOpen mb_selects_yX3_requireOpen mb_initialized_RX3 mb_code_yX3_requireOpen) rfl rfl rfl ⟨rfl, by decide, by decide, by decide +kernel⟩ ⟨Nat.le_of_ble_eq_true rfl, Nat.le_of_ble_eq_true rfl⟩) (xpreV (va_recv (q0 := 0) hK hP rfl rfl) hK hP hD hS hA hE) rfl rfl hl.1 rfl (lv_room (Nat.le_of_ble_eq_true rfl)) dX3_entries_1 ⟨Nat.le_of_ble_eq_true rfl, Nat.le_of_ble_eq_true rfl⟩) hD hS hA hz (fun E ce q9 u H locs hX hP hD hS hce hcv hcl => ?_) (fun u H locs hop hP hD hS hz => ?_)
  · exact xx_out (nx, en, ok, fi, ek, ev) hno hlocks (Or.inl hX) hce hcv hcl hK hP hD hS (Nat.le_refl _) (Nat.le_refl _)
  have hP : va_P (dC, dI) vwCl (xw ad ca kf vf bf w op ln nx en ok tf nb ef ff fi ek ev) H := hP
  have hD : va_D A (xw ad ca kf vf bf w op ln nx en ok tf nb ef ff fi ek ev) := hD
  obtain ⟨hnb, hlen, hrows, hsum⟩ := hopen hop
  subst hnb
  refine lv_aload_n hx hb dX3_entries_4 rfl (lv_at hl 0 rfl) ?_
  refine lv_iload_n hx hb dX3_entries_5 rfl (lv_at hl 1 rfl) ?_
  refine x_size hS (fun hz => ?_)
  refine xx_v (vx_runV (As := [.int x]) (rest := []) ⟨hx, hb, hml, hown, hts⟩ (cX3_requireBlock_m l hnt dC dI ca ad kf vf bf w op ln nx en ok tf ef ff fi ek ev lr.length x (by omega) _) (cwV 1 hts (xg_V mb_methodLink_RX3_123 mb_instanceMethod_yX3_requireBlock mb_selects_yX3_requireBlock mb_initialized_RX3 mb_code_yX3_requireBlock) rfl rfl rfl ⟨rfl, by decide, by decide, by decide +kernel⟩ ⟨Nat.le_of_ble_eq_true rfl, Nat.le_of_ble_eq_true rfl⟩) (xpreV (va_recv (q0 := 0) hK hP rfl rfl) hK hP hD hS hA hE) rfl rfl hl.1 rfl (lv_room (Nat.le_of_ble_eq_true rfl)) dX3_entries_6 ⟨Nat.le_of_ble_eq_true rfl, Nat.le_of_ble_eq_true rfl⟩) hD hS hA hz (fun E ce q9 u H locs hX hP hD hS hce hcv hcl => ?_) (fun u H locs hin hP hD hS hz => ?_)
  · exact xx_out (nx, en, ok, fi, ek, ev) hno hlocks (Or.inr (Or.inl ⟨hop, hX⟩)) hce hcv hcl hK hP hD hS (Nat.le_refl _) (Nat.le_refl _)
  have hP : va_P (dC, dI) vwCl (xw ad ca kf vf bf w op ln nx en ok tf (nI lr.length) ef ff fi ek ev) H := hP
  have hD : va_D A (xw ad ca kf vf bf w op ln nx en ok tf (nI lr.length) ef ff fi ek ev) := hD
  obtain ⟨j, hj, rfl⟩ := (sp_in_iff (by omega)).mp hin
  obtain ⟨hbp, hbq⟩ := px_rows_at hrows hj
  have hle := px_take_le lr j
  have hle2 := px_sum_take lr (j + 1)
  refine lv_aload_n hx hb dX3_entries_9 rfl (lv_at hl 0 rfl) ?_
  refine lv_iload_n hx hb dX3_entries_10 rfl (lv_at hl 1 rfl) ?_
  refine x_size hS (fun hz => ?_)
  refine xx_i (vx_runV (As := [.int (nI j)]) (rest := []) ⟨hx, hb, hml, hown, hts⟩ (cX3_countRightEntries_m l hnt dC dI ca ad kf vf bf w op ln nx en ok tf (nI lr.length) ef ff fi ek ev (px_sum (lr.take j)) (px_sum (lr.take (j + 1))) j (by omega) hbp hbq hle (by omega) _) (cwV 1 hts (xg_V mb_methodLink_RX3_104 mb_instanceMethod_yX3_countRightEntries mb_selects_yX3_countRightEntries mb_initialized_RX3 mb_code_yX3_countRightEntries) rfl rfl rfl ⟨rfl, by decide, by decide, by decide +kernel⟩ ⟨Nat.le_of_ble_eq_true rfl, Nat.le_of_ble_eq_true rfl⟩) (xpreV (va_recv (q0 := 0) hK hP rfl rfl) hK hP hD hS hA hE) rfl rfl hl.1 rfl (lv_room (Nat.le_of_ble_eq_true rfl)) dX3_entries_11 ⟨Nat.le_of_ble_eq_true rfl, Nat.le_of_ble_eq_true rfl⟩) hD hS hA hz (fun E ce q9 u H locs hX hP hD hS hce hcv hcl => ?_) (fun r u H locs hu hP hD hS hz => ?_)
  · exact xx_out u hno hlocks (Or.inr (Or.inr ⟨hop, hX.1, j, hj, rfl, hX.2⟩)) hce hcv hcl hK hP hD hS (Nat.le_refl _) (Nat.le_refl _)
  have hP : va_P (dC, dI) vwCl (xw ad ca kf vf bf w op ln u.1 u.2.1 u.2.2.1 tf (nI lr.length) ef ff u.2.2.2.1 u.2.2.2.2.1 u.2.2.2.2.2) H := hP
  have hD : va_D A (xw ad ca kf vf bf w op ln u.1 u.2.1 u.2.2.1 tf (nI lr.length) ef ff u.2.2.2.1 u.2.2.2.2.1 u.2.2.2.2.2) := hD
  obtain ⟨x1, x2, x3, x4, x5, x6⟩ := u
  dsimp only at hP hD
  obtain ⟨lb, hlb, rfl, hlbl⟩ := hu
  refine x_size hS (fun hz => ?_)
  refine vx_ret (W.widen (k := 1) (n := 6) (Nat.zero_le _) (Nat.zero_le _) ?_)
  exact W.iret (v := nI lb.length) hx hb hr (fun t ht hW => ⟨⟨nI lb.length, (x1, x2, x3, x4, x5, x6), rfl, ⟨hop, j, lb, hj, rfl, hlb, rfl, hlbl⟩, ⟨by rw [ht]; exact hP, va_K.moved hW.alike hK, hD⟩, (congrArg Array.size ht).trans hz⟩, hS.F ht⟩) hS.2.2 dX3_entries_14
