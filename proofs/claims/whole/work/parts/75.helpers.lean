/-! SortedRunLaw: the helpers (rows by wip/whole/wlaw1.py) -/
abbrev wsL_add : List Cond := .codeWith yL_add cL_add 6 (some .int) [(0, 11, 14, 13), (0, 11, 18, 15)] :: wsG
set_option maxHeartbeats 4000000 in
set_option maxRecDepth 100000 in
theorem cL_add_m (l : Launch) (hnt : l.stackTraces = false) (dC : Nat → ClassId) (dI : Nat → Nat → Nat) (ca : Nat → ClassId) (ad : Nat → Nat) (kf : Nat → Int32) (vf : Nat → Int64) (bf : Nat → Int32) (op : Int32) (ln : Int32) (nx : Int32) (en : Int32) (ok : Int32) (tf : Nat → Int32) (nb : Int32) (ef : Nat → Int32) (ff : Nat → Int32) (fi : Int32) (ek : Int32) (ev : Int64) (oa : Nat) (oc : ClassId) (of : Nat → Int64) (n : Nat) (key : Int32) (v : Int64) (hn : n ≤ 300) : ∀ sz : Nat, Met l yL_add wsL_add ({ frames := 7, cells := 1, slots := 6, locals := 113 } : Room) (va_Pc [.ref (ad 0), .int key, .long v, .ref oa] (xP (dC, dI) (xt ca ++ [(oc, .long)]) (xw ad ca kf vf bf (nI n) op ln nx en ok tf nb ef ff fi ek ev ++ [(oa, .inl (oc, 1, .inr (.inl of)))]) sz)) (va_Qi (S := (Nat → Int32) × (Nat → Int64) × Int32 × (Nat → Int64)) (fun r u => (r = 0 ∧ n < 300 ∧ (n = 0 ∨ kf (n - 1) < key) ∧ u = (upd kf n key, vp_updL vf n v, nI (n + 1), vp_updL of 0 (nI (n + 1)).toInt64)) ∨ (r = 2 ∧ n = 300 ∧ u = (kf, vf, nI n, of)) ∨ (r = 1 ∧ n < 300 ∧ 0 < n ∧ key ≤ kf (n - 1) ∧ u = (kf, vf, nI n, of))) (fun u t => xB (dC, dI) (xt ca ++ [(oc, .long)]) (va_A (xw ad ca kf vf bf (nI n) op ln nx en ok tf nb ef ff fi ek ev ++ [(oa, .inl (oc, 1, .inr (.inl of)))]) sz) (xw ad ca u.1 u.2.1 bf u.2.2.1 op ln nx en ok tf nb ef ff fi ek ev ++ [(oa, .inl (oc, 1, .inr (.inl u.2.2.2)))]) t) (va_A (xw ad ca kf vf bf (nI n) op ln nx en ok tf nb ef ff fi ek ev ++ [(oa, .inl (oc, 1, .inr (.inl of)))]) sz)) 1 6 (va_A (xw ad ca kf vf bf (nI n) op ln nx en ok tf nb ef ff fi ek ev ++ [(oa, .inl (oc, 1, .inr (.inl of)))]) sz) := by
  intro sz
  refine va_MetW (cc := cL_add) (maxL := 6) (ret := some .int) (by decide) rfl ?_
  intro p e s m args below meth c s₁ B hml hv
  obtain ⟨rfl, hsz, hP, hK, hD0, hE⟩ := hv
  have hx := B.exec
  have hb := B.bytes
  have hr := B.returns
  have hts := atoms_spec (ws := wsL_add) B.pre
  have hown : s.vm.findClass RL = some m.cls := findClass_of_methodNamed B.named
  have hlocks := B.notSynchronized
  have htab := vx_table (x := yL_add) B (hts _ List.mem_cons_self)
  subst hsz
  have hD := hD0.self (sz := s.heap.size)
  generalize hAe : va_A (xw ad ca kf vf bf (nI n) op ln nx en ok tf nb ef ff fi ek ev ++ [(oa, .inl (oc, 1, .inr (.inl of)))]) s.heap.size = A at hD hE ⊢
  have hA : ∀ q : Nat, s.heap.size ≤ q → A q := fun q h => by rw [← hAe]; exact Or.inr h
  have hS : va_S A s.heap s.heap [] := va_S.rf
  have hl := lv_entry ([.ref (ad 0), .int key, .long v, .ref oa]) (n := 6) (Nat.le_of_ble_eq_true rfl)
  rw [lg_entry_eq]
  generalize (lg_sl ([.ref (ad 0), .int key, .long v, .ref oa]) ++ List.replicate (6 - (lg_sl ([.ref (ad 0), .int key, .long v, .ref oa])).length) Slot.unset).toArray = ls at hl ⊢
  have hl : lv_has ls 6 [(0, .ref (ad 0)), (1, .int key), (2, .long v), (4, .ref oa)] := hl
  refine lv_aload hx hb dL_add_0 (lv_at hl 3 rfl) ?_
  refine lv_iconst (v := nI 0) hx hb dL_add_2 (by decide) ?_
  refine lv_aload_n hx hb dL_add_3 rfl (lv_at hl 0 rfl) ?_
  refine lv_iload_n hx hb dL_add_4 rfl (lv_at hl 1 rfl) ?_
  refine lv_lload_n hx hb dL_add_5 rfl (lv_at hl 2 rfl) ?_
  have hP1 : va_P (dC, dI) vwCl (xw ad ca kf vf bf (nI n) op ln nx en ok tf nb ef ff fi ek ev) s.heap := xf_pl hP
  have hP2 := xf_pr hP
  have hK1 : va_K (dC, dI) vwCl (xt ca) s := hK.sub [0, 1, 2, 3, 4, 5, 6, 7] rfl
  refine xfx_i (vx_runV (As := [.int key, .long v]) (rest := [.int (nI 0), .ref oa]) ⟨hx, hb, hml, hown, hts⟩ (cX3_add_m l hnt dC dI ca ad kf vf bf op ln nx en ok tf nb ef ff fi ek ev n key v hn _) (cwV 2 hts (xg_V mb_methodLink_RL_7 mb_instanceMethod_yX3_add mb_selects_yX3_add mb_initialized_RX3 mb_code_yX3_add) rfl rfl rfl ⟨rfl, by decide, by decide, by decide +kernel⟩ ⟨Nat.le_of_ble_eq_true rfl, Nat.le_of_ble_eq_true rfl⟩) (xpreV (va_recv (q0 := 0) hK1 hP1 rfl rfl) hK1 hP1 (xf_l hD) hS hA hE) rfl rfl hl.1 rfl (lv_room (Nat.le_of_ble_eq_true rfl)) dL_add_6 ⟨Nat.le_of_ble_eq_true rfl, Nat.le_of_ble_eq_true rfl⟩) hD hP2 hS hA rfl (fun E ce q9 u H locs hX hP hD hS hce hcv hcl => ?_) (fun r u H locs hu hP hD hS => ?_)
  · rcases hX with hX | hX
    · obtain ⟨rfl, hX⟩ := hX
      refine vx_catch (name := "java/lang/IllegalStateException") hown [(⟨0, 11, 14, 13⟩ : ExceptionTableEntry)] (⟨0, 11, 18, 15⟩ : ExceptionTableEntry) [] (htab.trans rfl) (fun z hz => by
          simp only [List.mem_cons, List.not_mem_nil, or_false] at hz
          rcases hz with rfl
          · exact Or.inr ⟨by decide, "java/lang/IllegalArgumentException", xg_w hts (wsG_t (i := 172) rfl rfl), hE.2.2.2.2.1 ("java/lang/IllegalStateException", "java/lang/IllegalArgumentException") (List.mem_of_getElem? (i := 5) rfl)⟩) (by decide) (by decide) (xg_w hts (wsG_t (i := 173) rfl rfl)) (xn_w (w := .castable "java/lang/IllegalStateException" "java/lang/IllegalStateException") (i := 180) hE rfl rfl rfl) hce hcv hcl ?_
      have hP : va_P (dC, dI) vwCl (xw ad ca kf vf bf (nI n) op ln nx en ok tf nb ef ff fi ek ev ++ [(oa, .inl (oc, 1, .inr (.inl of)))]) H := hP
      have hD : va_D A (xw ad ca kf vf bf (nI n) op ln nx en ok tf nb ef ff fi ek ev ++ [(oa, .inl (oc, 1, .inr (.inl of)))]) := hD
      refine lv_astore hx hb dL_add_18 hl (by decide) rfl (fun ls hl => ?_)
      have hl : lv_has ls 6 [(5, .ref q9), (0, .ref (ad 0)), (1, .int key), (2, .long v), (4, .ref oa)] := hl
      refine lv_iconst (v := 2) hx hb dL_add_20 (by decide) ?_
      exact W.iret (v := 2) hx hb hr (fun t ht hW => ⟨⟨2, (kf, vf, nI n, of), rfl, Or.inr (Or.inl (⟨rfl, hX, rfl⟩)), by rw [ht]; exact hP, va_K.moved hW.alike hK, hD⟩, hS.F ht⟩) hS.2.2 dL_add_21
    · obtain ⟨rfl, hX, hX2, hX3⟩ := hX
      refine vx_catch (name := "java/lang/IllegalArgumentException") hown [] (⟨0, 11, 14, 13⟩ : ExceptionTableEntry) [(⟨0, 11, 18, 15⟩ : ExceptionTableEntry)] (htab.trans rfl) (fun z hz => nomatch hz) (by decide) (by decide) (xg_w hts (wsG_t (i := 172) rfl rfl)) (xn_w (w := .castable "java/lang/IllegalArgumentException" "java/lang/IllegalArgumentException") (i := 249) hE rfl rfl rfl) hce hcv hcl ?_
      have hP : va_P (dC, dI) vwCl (xw ad ca kf vf bf (nI n) op ln nx en ok tf nb ef ff fi ek ev ++ [(oa, .inl (oc, 1, .inr (.inl of)))]) H := hP
      have hD : va_D A (xw ad ca kf vf bf (nI n) op ln nx en ok tf nb ef ff fi ek ev ++ [(oa, .inl (oc, 1, .inr (.inl of)))]) := hD
      refine lv_astore hx hb dL_add_14 hl (by decide) rfl (fun ls hl => ?_)
      have hl : lv_has ls 6 [(5, .ref q9), (0, .ref (ad 0)), (1, .int key), (2, .long v), (4, .ref oa)] := hl
      refine lv_iconst (v := 1) hx hb dL_add_16 (by decide) ?_
      exact W.iret (v := 1) hx hb hr (fun t ht hW => ⟨⟨1, (kf, vf, nI n, of), rfl, Or.inr (Or.inr (⟨rfl, hX, hX2, hX3, rfl⟩)), by rw [ht]; exact hP, va_K.moved hW.alike hK, hD⟩, hS.F ht⟩) hS.2.2 dL_add_17
  obtain ⟨hu1, hu2, rfl⟩ := hu
  have hP : va_P (dC, dI) vwCl (xw ad ca (upd kf n key) (vp_updL vf n v) bf (nI (n + 1)) op ln nx en ok tf nb ef ff fi ek ev ++ [(oa, .inl (oc, 1, .inr (.inl of)))]) H := hP
  have hD : va_D A (xw ad ca (upd kf n key) (vp_updL vf n v) bf (nI (n + 1)) op ln nx en ok tf nb ef ff fi ek ev ++ [(oa, .inl (oc, 1, .inr (.inl of)))]) := hD
  refine lv_i2l (v := (nI (n + 1)).toInt64) hx hb dL_add_9 (rfl) ?_
  refine va_last hx hb hK hP hD hS 10 8 rfl rfl (vp_in_nI (by decide) (by decide)) dL_add_10 (fun H locs hP hD hS => ?_)
  have e9 : vp_updL of (nI 0).toNatClampNeg ((nI (n + 1)).toInt64) = vp_updL of 0 ((nI (n + 1)).toInt64) := by rw [nI_clamp (by decide)]
  rw [e9] at hP hD
  clear e9
  have hP : va_P (dC, dI) vwCl (xw ad ca (upd kf n key) (vp_updL vf n v) bf (nI (n + 1)) op ln nx en ok tf nb ef ff fi ek ev ++ [(oa, .inl (oc, 1, .inr (.inl (vp_updL of 0 ((nI (n + 1)).toInt64)))))]) H := hP
  have hD : va_D A (xw ad ca (upd kf n key) (vp_updL vf n v) bf (nI (n + 1)) op ln nx en ok tf nb ef ff fi ek ev ++ [(oa, .inl (oc, 1, .inr (.inl (vp_updL of 0 ((nI (n + 1)).toInt64)))))]) := hD
  refine lv_goto (tgt := 22) hx hb dL_add_11 rfl ?_
  refine lv_iconst (v := 0) hx hb dL_add_22 (by decide) ?_
  refine W.widen (k := 1) (n := 6) (Nat.zero_le _) (Nat.zero_le _) ?_
  exact W.iret (v := 0) hx hb hr (fun t ht hW => ⟨⟨0, (upd kf n key, vp_updL vf n v, nI (n + 1), vp_updL of 0 (nI (n + 1)).toInt64), rfl, Or.inl (⟨rfl, hu1, hu2, rfl⟩), by rw [ht]; exact hP, va_K.moved hW.alike hK, hD⟩, hS.F ht⟩) hS.2.2 dL_add_23

abbrev wsL_at : List Cond := .codeWith yL_at cL_at 4 (some .int) [(0, 9, 12, 21)] :: wsG
set_option maxHeartbeats 4000000 in
set_option maxRecDepth 100000 in
theorem cL_at_m (l : Launch) (hnt : l.stackTraces = false) (dC : Nat → ClassId) (dI : Nat → Nat → Nat) (ca : Nat → ClassId) (ad : Nat → Nat) (kf : Nat → Int32) (vf : Nat → Int64) (bf : Nat → Int32) (w : Int32) (op : Int32) (nx : Int32) (en : Int32) (ok : Int32) (tf : Nat → Int32) (nb : Int32) (ef : Nat → Int32) (ff : Nat → Int32) (fi : Int32) (ek : Int32) (ev : Int64) (oa : Nat) (oc : ClassId) (of : Nat → Int64) (n : Nat) (x : Int32) (hn : n ≤ 4889) : ∀ sz : Nat, Met l yL_at wsL_at ({ frames := 8, cells := 1, slots := 6, locals := 132 } : Room) (va_Pc [.ref (ad 0), .int x, .ref oa] (xP (dC, dI) (xt ca ++ [(oc, .long)]) (xw ad ca kf vf bf w op (nI n) nx en ok tf nb ef ff fi ek ev ++ [(oa, .inl (oc, 1, .inr (.inl of)))]) sz)) (va_Qi (S := Nat → Int64) (fun r u => (r = 0 ∧ ∃ j, j < n ∧ x = nI j ∧ u = vp_updL of 0 (nI (pb_ub tf j)).toInt64) ∨ (r = 1 ∧ sp_in x n = false ∧ u = of)) (fun u t => xB (dC, dI) (xt ca ++ [(oc, .long)]) (va_A (xw ad ca kf vf bf w op (nI n) nx en ok tf nb ef ff fi ek ev ++ [(oa, .inl (oc, 1, .inr (.inl of)))]) sz) (xw ad ca kf vf bf w op (nI n) nx en ok tf nb ef ff fi ek ev ++ [(oa, .inl (oc, 1, .inr (.inl u)))]) t) (va_A (xw ad ca kf vf bf w op (nI n) nx en ok tf nb ef ff fi ek ev ++ [(oa, .inl (oc, 1, .inr (.inl of)))]) sz)) 1 6 (va_A (xw ad ca kf vf bf w op (nI n) nx en ok tf nb ef ff fi ek ev ++ [(oa, .inl (oc, 1, .inr (.inl of)))]) sz) := by
  intro sz
  refine va_MetW (cc := cL_at) (maxL := 4) (ret := some .int) (by decide) rfl ?_
  intro p e s m args below meth c s₁ B hml hv
  obtain ⟨rfl, hsz, hP, hK, hD0, hE⟩ := hv
  have hx := B.exec
  have hb := B.bytes
  have hr := B.returns
  have hts := atoms_spec (ws := wsL_at) B.pre
  have hown : s.vm.findClass RL = some m.cls := findClass_of_methodNamed B.named
  have hlocks := B.notSynchronized
  have htab := vx_table (x := yL_at) B (hts _ List.mem_cons_self)
  subst hsz
  have hD := hD0.self (sz := s.heap.size)
  generalize hAe : va_A (xw ad ca kf vf bf w op (nI n) nx en ok tf nb ef ff fi ek ev ++ [(oa, .inl (oc, 1, .inr (.inl of)))]) s.heap.size = A at hD hE ⊢
  have hA : ∀ q : Nat, s.heap.size ≤ q → A q := fun q h => by rw [← hAe]; exact Or.inr h
  have hS : va_S A s.heap s.heap [] := va_S.rf
  have hl := lv_entry ([.ref (ad 0), .int x, .ref oa]) (n := 4) (Nat.le_of_ble_eq_true rfl)
  rw [lg_entry_eq]
  generalize (lg_sl ([.ref (ad 0), .int x, .ref oa]) ++ List.replicate (4 - (lg_sl ([.ref (ad 0), .int x, .ref oa])).length) Slot.unset).toArray = ls at hl ⊢
  have hl : lv_has ls 4 [(0, .ref (ad 0)), (1, .int x), (2, .ref oa)] := hl
  refine lv_aload_n hx hb dL_at_0 rfl (lv_at hl 2 rfl) ?_
  refine lv_iconst (v := nI 0) hx hb dL_at_1 (by decide) ?_
  refine lv_aload_n hx hb dL_at_2 rfl (lv_at hl 0 rfl) ?_
  refine lv_iload_n hx hb dL_at_3 rfl (lv_at hl 1 rfl) ?_
  have hP1 : va_P (dC, dI) vwCl (xw ad ca kf vf bf w op (nI n) nx en ok tf nb ef ff fi ek ev) s.heap := xf_pl hP
  have hP2 := xf_pr hP
  have hK1 : va_K (dC, dI) vwCl (xt ca) s := hK.sub [0, 1, 2, 3, 4, 5, 6, 7] rfl
  refine xfx_i (vx_runV (As := [.int x]) (rest := [.int (nI 0), .ref oa]) ⟨hx, hb, hml, hown, hts⟩ (cX3_at_m l hnt dC dI ca ad kf vf bf w op nx en ok tf nb ef ff fi ek ev n x hn _) (cwV 1 hts (xg_V mb_methodLink_RL_17 mb_instanceMethod_yX3_at mb_selects_yX3_at mb_initialized_RX3 mb_code_yX3_at) rfl rfl rfl ⟨rfl, by decide, by decide, by decide +kernel⟩ ⟨Nat.le_of_ble_eq_true rfl, Nat.le_of_ble_eq_true rfl⟩) (xpreV (va_recv (q0 := 0) hK1 hP1 rfl rfl) hK1 hP1 (xf_l hD) hS hA hE) rfl rfl hl.1 rfl (lv_room (Nat.le_of_ble_eq_true rfl)) dL_at_4 ⟨Nat.le_of_ble_eq_true rfl, Nat.le_of_ble_eq_true rfl⟩) hD hP2 hS hA rfl (fun E ce q9 u H locs hX hP hD hS hce hcv hcl => ?_) (fun r u H locs hu hP hD hS => ?_)
  · obtain ⟨rfl, hX⟩ := hX
    refine vx_catch (name := "java/lang/IndexOutOfBoundsException") hown [] (⟨0, 9, 12, 21⟩ : ExceptionTableEntry) [] (htab.trans rfl) (fun z hz => nomatch hz) (by decide) (by decide) (xg_w hts (wsG_t (i := 266) rfl rfl)) (xn_w (w := .castable "java/lang/IndexOutOfBoundsException" "java/lang/IndexOutOfBoundsException") (i := 277) hE rfl rfl rfl) hce hcv hcl ?_
    have hP : va_P (dC, dI) vwCl (xw ad ca kf vf bf w op (nI n) nx en ok tf nb ef ff fi ek ev ++ [(oa, .inl (oc, 1, .inr (.inl of)))]) H := hP
    have hD : va_D A (xw ad ca kf vf bf w op (nI n) nx en ok tf nb ef ff fi ek ev ++ [(oa, .inl (oc, 1, .inr (.inl of)))]) := hD
    refine lv_astore_n hx hb dL_at_12 rfl hl (by decide) rfl (fun ls hl => ?_)
    have hl : lv_has ls 4 [(3, .ref q9), (0, .ref (ad 0)), (1, .int x), (2, .ref oa)] := hl
    refine lv_iconst (v := 1) hx hb dL_at_13 (by decide) ?_
    exact W.iret (v := 1) hx hb hr (fun t ht hW => ⟨⟨1, of, rfl, Or.inr ⟨rfl, hX, rfl⟩, by rw [ht]; exact hP, va_K.moved hW.alike hK, hD⟩, hS.F ht⟩) hS.2.2 dL_at_14
  obtain ⟨j, hj, hxj, rfl⟩ := hu
  have hP : va_P (dC, dI) vwCl (xw ad ca kf vf bf w op (nI n) nx en ok tf nb ef ff fi ek ev ++ [(oa, .inl (oc, 1, .inr (.inl of)))]) H := hP
  have hD : va_D A (xw ad ca kf vf bf w op (nI n) nx en ok tf nb ef ff fi ek ev ++ [(oa, .inl (oc, 1, .inr (.inl of)))]) := hD
  refine lv_i2l (v := (nI (pb_ub tf j)).toInt64) hx hb dL_at_7 (rfl) ?_
  refine va_last hx hb hK hP hD hS 10 8 rfl rfl (vp_in_nI (by decide) (by decide)) dL_at_8 (fun H locs hP hD hS => ?_)
  have e9 : vp_updL of (nI 0).toNatClampNeg ((nI (pb_ub tf j)).toInt64) = vp_updL of 0 ((nI (pb_ub tf j)).toInt64) := by rw [nI_clamp (by decide)]
  rw [e9] at hP hD
  clear e9
  have hP : va_P (dC, dI) vwCl (xw ad ca kf vf bf w op (nI n) nx en ok tf nb ef ff fi ek ev ++ [(oa, .inl (oc, 1, .inr (.inl (vp_updL of 0 ((nI (pb_ub tf j)).toInt64)))))]) H := hP
  have hD : va_D A (xw ad ca kf vf bf w op (nI n) nx en ok tf nb ef ff fi ek ev ++ [(oa, .inl (oc, 1, .inr (.inl (vp_updL of 0 ((nI (pb_ub tf j)).toInt64)))))]) := hD
  refine lv_goto (tgt := 15) hx hb dL_at_9 rfl ?_
  refine lv_iconst (v := 0) hx hb dL_at_15 (by decide) ?_
  refine W.widen (k := 1) (n := 6) (Nat.zero_le _) (Nat.zero_le _) ?_
  exact W.iret (v := 0) hx hb hr (fun t ht hW => ⟨⟨0, vp_updL of 0 (nI (pb_ub tf j)).toInt64, rfl, Or.inl ⟨rfl, j, hj, hxj, rfl⟩, by rw [ht]; exact hP, va_K.moved hW.alike hK, hD⟩, hS.F ht⟩) hS.2.2 dL_at_16

abbrev wsL_damage : List Cond := .codeWith yL_damage cL_damage 5 (some .int) [(0, 10, 13, 21)] :: wsG
set_option maxHeartbeats 4000000 in
set_option maxRecDepth 100000 in
theorem cL_damage_m (l : Launch) (hnt : l.stackTraces = false) (dC : Nat → ClassId) (dI : Nat → Nat → Nat) (ca : Nat → ClassId) (ad : Nat → Nat) (kf : Nat → Int32) (vf : Nat → Int64) (bf : Nat → Int32) (w : Int32) (op : Int32) (nx : Int32) (en : Int32) (ok : Int32) (tf : Nat → Int32) (nb : Int32) (ef : Nat → Int32) (ff : Nat → Int32) (fi : Int32) (ek : Int32) (ev : Int64) (oa : Nat) (oc : ClassId) (of : Nat → Int64) (n : Nat) (x v : Int32) (hn : n ≤ 4889) : ∀ sz : Nat, Met l yL_damage wsL_damage ({ frames := 8, cells := 1, slots := 6, locals := 134 } : Room) (va_Pc [.ref (ad 0), .int x, .int v, .ref oa] (xP (dC, dI) (xt ca ++ [(oc, .long)]) (xw ad ca kf vf bf w op (nI n) nx en ok tf nb ef ff fi ek ev ++ [(oa, .inl (oc, 1, .inr (.inl of)))]) sz)) (va_Qi (S := Int32 × (Nat → Int32) × (Nat → Int64)) (fun r u => (r = 0 ∧ ∃ j, j < n ∧ x = nI j ∧ u = (0, upd tf j v.toInt8.toInt32, vp_updL of 0 (nI (pb_ub tf j)).toInt64)) ∨ (r = 1 ∧ sp_in x n = false ∧ u = (op, tf, of))) (fun u t => xB (dC, dI) (xt ca ++ [(oc, .long)]) (va_A (xw ad ca kf vf bf w op (nI n) nx en ok tf nb ef ff fi ek ev ++ [(oa, .inl (oc, 1, .inr (.inl of)))]) sz) (xw ad ca kf vf bf w u.1 (nI n) nx en ok u.2.1 nb ef ff fi ek ev ++ [(oa, .inl (oc, 1, .inr (.inl u.2.2)))]) t) (va_A (xw ad ca kf vf bf w op (nI n) nx en ok tf nb ef ff fi ek ev ++ [(oa, .inl (oc, 1, .inr (.inl of)))]) sz)) 1 6 (va_A (xw ad ca kf vf bf w op (nI n) nx en ok tf nb ef ff fi ek ev ++ [(oa, .inl (oc, 1, .inr (.inl of)))]) sz) := by
  intro sz
  refine va_MetW (cc := cL_damage) (maxL := 5) (ret := some .int) (by decide) rfl ?_
  intro p e s m args below meth c s₁ B hml hv
  obtain ⟨rfl, hsz, hP, hK, hD0, hE⟩ := hv
  have hx := B.exec
  have hb := B.bytes
  have hr := B.returns
  have hts := atoms_spec (ws := wsL_damage) B.pre
  have hown : s.vm.findClass RL = some m.cls := findClass_of_methodNamed B.named
  have hlocks := B.notSynchronized
  have htab := vx_table (x := yL_damage) B (hts _ List.mem_cons_self)
  subst hsz
  have hD := hD0.self (sz := s.heap.size)
  generalize hAe : va_A (xw ad ca kf vf bf w op (nI n) nx en ok tf nb ef ff fi ek ev ++ [(oa, .inl (oc, 1, .inr (.inl of)))]) s.heap.size = A at hD hE ⊢
  have hA : ∀ q : Nat, s.heap.size ≤ q → A q := fun q h => by rw [← hAe]; exact Or.inr h
  have hS : va_S A s.heap s.heap [] := va_S.rf
  have hl := lv_entry ([.ref (ad 0), .int x, .int v, .ref oa]) (n := 5) (Nat.le_of_ble_eq_true rfl)
  rw [lg_entry_eq]
  generalize (lg_sl ([.ref (ad 0), .int x, .int v, .ref oa]) ++ List.replicate (5 - (lg_sl ([.ref (ad 0), .int x, .int v, .ref oa])).length) Slot.unset).toArray = ls at hl ⊢
  have hl : lv_has ls 5 [(0, .ref (ad 0)), (1, .int x), (2, .int v), (3, .ref oa)] := hl
  refine lv_aload_n hx hb dL_damage_0 rfl (lv_at hl 3 rfl) ?_
  refine lv_iconst (v := nI 0) hx hb dL_damage_1 (by decide) ?_
  refine lv_aload_n hx hb dL_damage_2 rfl (lv_at hl 0 rfl) ?_
  refine lv_iload_n hx hb dL_damage_3 rfl (lv_at hl 1 rfl) ?_
  refine lv_iload_n hx hb dL_damage_4 rfl (lv_at hl 2 rfl) ?_
  have hP1 : va_P (dC, dI) vwCl (xw ad ca kf vf bf w op (nI n) nx en ok tf nb ef ff fi ek ev) s.heap := xf_pl hP
  have hP2 := xf_pr hP
  have hK1 : va_K (dC, dI) vwCl (xt ca) s := hK.sub [0, 1, 2, 3, 4, 5, 6, 7] rfl
  refine xfx_i (vx_runV (As := [.int x, .int v]) (rest := [.int (nI 0), .ref oa]) ⟨hx, hb, hml, hown, hts⟩ (cX3_damage_m l hnt dC dI ca ad kf vf bf w op nx en ok tf nb ef ff fi ek ev n x v hn _) (cwV 2 hts (xg_V mb_methodLink_RL_23 mb_instanceMethod_yX3_damage mb_selects_yX3_damage mb_initialized_RX3 mb_code_yX3_damage) rfl rfl rfl ⟨rfl, by decide, by decide, by decide +kernel⟩ ⟨Nat.le_of_ble_eq_true rfl, Nat.le_of_ble_eq_true rfl⟩) (xpreV (va_recv (q0 := 0) hK1 hP1 rfl rfl) hK1 hP1 (xf_l hD) hS hA hE) rfl rfl hl.1 rfl (lv_room (Nat.le_of_ble_eq_true rfl)) dL_damage_5 ⟨Nat.le_of_ble_eq_true rfl, Nat.le_of_ble_eq_true rfl⟩) hD hP2 hS hA rfl (fun E ce q9 j H locs hX hP hD hS hce hcv hcl => ?_) (fun r j H locs hu hP hD hS => ?_)
  · obtain ⟨rfl, hX⟩ := hX
    refine vx_catch (name := "java/lang/IndexOutOfBoundsException") hown [] (⟨0, 10, 13, 21⟩ : ExceptionTableEntry) [] (htab.trans rfl) (fun z hz => nomatch hz) (by decide) (by decide) (xg_w hts (wsG_t (i := 266) rfl rfl)) (xn_w (w := .castable "java/lang/IndexOutOfBoundsException" "java/lang/IndexOutOfBoundsException") (i := 277) hE rfl rfl rfl) hce hcv hcl ?_
    have hP : va_P (dC, dI) vwCl (xw ad ca kf vf bf w op (nI n) nx en ok tf nb ef ff fi ek ev ++ [(oa, .inl (oc, 1, .inr (.inl of)))]) H := hP
    have hD : va_D A (xw ad ca kf vf bf w op (nI n) nx en ok tf nb ef ff fi ek ev ++ [(oa, .inl (oc, 1, .inr (.inl of)))]) := hD
    refine lv_astore hx hb dL_damage_13 hl (by decide) rfl (fun ls hl => ?_)
    have hl : lv_has ls 5 [(4, .ref q9), (0, .ref (ad 0)), (1, .int x), (2, .int v), (3, .ref oa)] := hl
    refine lv_iconst (v := 1) hx hb dL_damage_15 (by decide) ?_
    exact W.iret (v := 1) hx hb hr (fun t ht hW => ⟨⟨1, (op, tf, of), rfl, Or.inr ⟨rfl, hX, rfl⟩, by rw [ht]; exact hP, va_K.moved hW.alike hK, hD⟩, hS.F ht⟩) hS.2.2 dL_damage_16
  obtain ⟨hj, hxj, rfl⟩ := hu
  have hP : va_P (dC, dI) vwCl (xw ad ca kf vf bf w 0 (nI n) nx en ok (upd tf j v.toInt8.toInt32) nb ef ff fi ek ev ++ [(oa, .inl (oc, 1, .inr (.inl of)))]) H := hP
  have hD : va_D A (xw ad ca kf vf bf w 0 (nI n) nx en ok (upd tf j v.toInt8.toInt32) nb ef ff fi ek ev ++ [(oa, .inl (oc, 1, .inr (.inl of)))]) := hD
  refine lv_i2l (v := (nI (pb_ub tf j)).toInt64) hx hb dL_damage_8 (rfl) ?_
  refine va_last hx hb hK hP hD hS 10 8 rfl rfl (vp_in_nI (by decide) (by decide)) dL_damage_9 (fun H locs hP hD hS => ?_)
  have e9 : vp_updL of (nI 0).toNatClampNeg ((nI (pb_ub tf j)).toInt64) = vp_updL of 0 ((nI (pb_ub tf j)).toInt64) := by rw [nI_clamp (by decide)]
  rw [e9] at hP hD
  clear e9
  have hP : va_P (dC, dI) vwCl (xw ad ca kf vf bf w 0 (nI n) nx en ok (upd tf j v.toInt8.toInt32) nb ef ff fi ek ev ++ [(oa, .inl (oc, 1, .inr (.inl (vp_updL of 0 ((nI (pb_ub tf j)).toInt64)))))]) H := hP
  have hD : va_D A (xw ad ca kf vf bf w 0 (nI n) nx en ok (upd tf j v.toInt8.toInt32) nb ef ff fi ek ev ++ [(oa, .inl (oc, 1, .inr (.inl (vp_updL of 0 ((nI (pb_ub tf j)).toInt64)))))]) := hD
  refine lv_goto (tgt := 17) hx hb dL_damage_10 rfl ?_
  refine lv_iconst (v := 0) hx hb dL_damage_17 (by decide) ?_
  refine W.widen (k := 1) (n := 6) (Nat.zero_le _) (Nat.zero_le _) ?_
  exact W.iret (v := 0) hx hb hr (fun t ht hW => ⟨⟨0, (0, upd tf j v.toInt8.toInt32, vp_updL of 0 (nI (pb_ub tf j)).toInt64), rfl, Or.inl ⟨rfl, j, hj, hxj, rfl⟩, by rw [ht]; exact hP, va_K.moved hW.alike hK, hD⟩, hS.F ht⟩) hS.2.2 dL_damage_18

abbrev wsL_cut : List Cond := .codeWith yL_cut cL_cut 3 (some .int) [(0, 5, 8, 13)] :: wsG
set_option maxHeartbeats 4000000 in
set_option maxRecDepth 100000 in
theorem cL_cut_m (l : Launch) (hnt : l.stackTraces = false) (dC : Nat → ClassId) (dI : Nat → Nat → Nat) (ca : Nat → ClassId) (ad : Nat → Nat) (kf : Nat → Int32) (vf : Nat → Int64) (bf : Nat → Int32) (w : Int32) (op : Int32) (nx : Int32) (en : Int32) (ok : Int32) (tf : Nat → Int32) (nb : Int32) (ef : Nat → Int32) (ff : Nat → Int32) (fi : Int32) (ek : Int32) (ev : Int64) (n : Nat) (x : Int32) (hn : n ≤ 4889) : ∀ sz : Nat, Met l yL_cut wsL_cut ({ frames := 7, cells := 1, slots := 6, locals := 111 } : Room) (va_Pc [.ref (ad 0), .int x] (xP (dC, dI) (xt ca) (xw ad ca kf vf bf w op (nI n) nx en ok tf nb ef ff fi ek ev) sz)) (va_Qi (S := Int32 × Int32) (fun r u => (r = 0 ∧ sp_in x (n + 1) = true ∧ u = (x, 0)) ∨ (r = 1 ∧ sp_in x (n + 1) = false ∧ u = (nI n, op))) (fun u t => xB (dC, dI) (xt ca) (va_A (xw ad ca kf vf bf w op (nI n) nx en ok tf nb ef ff fi ek ev) sz) (xw ad ca kf vf bf w u.2 u.1 nx en ok tf nb ef ff fi ek ev) t) (va_A (xw ad ca kf vf bf w op (nI n) nx en ok tf nb ef ff fi ek ev) sz)) 1 6 (va_A (xw ad ca kf vf bf w op (nI n) nx en ok tf nb ef ff fi ek ev) sz) := by
  intro sz
  refine va_MetW (cc := cL_cut) (maxL := 3) (ret := some .int) (by decide) rfl ?_
  intro p e s m args below meth c s₁ B hml hv
  obtain ⟨rfl, hsz, hP, hK, hD0, hE⟩ := hv
  have hx := B.exec
  have hb := B.bytes
  have hr := B.returns
  have hts := atoms_spec (ws := wsL_cut) B.pre
  have hown : s.vm.findClass RL = some m.cls := findClass_of_methodNamed B.named
  have hlocks := B.notSynchronized
  have htab := vx_table (x := yL_cut) B (hts _ List.mem_cons_self)
  subst hsz
  have hD := hD0.self (sz := s.heap.size)
  generalize hAe : va_A (xw ad ca kf vf bf w op (nI n) nx en ok tf nb ef ff fi ek ev) s.heap.size = A at hD hE ⊢
  have hA : ∀ q : Nat, s.heap.size ≤ q → A q := fun q h => by rw [← hAe]; exact Or.inr h
  have hS : va_S A s.heap s.heap [] := va_S.rf
  have hl := lv_entry ([.ref (ad 0), .int x]) (n := 3) (Nat.le_of_ble_eq_true rfl)
  rw [lg_entry_eq]
  generalize (lg_sl ([.ref (ad 0), .int x]) ++ List.replicate (3 - (lg_sl ([.ref (ad 0), .int x])).length) Slot.unset).toArray = ls at hl ⊢
  have hl : lv_has ls 3 [(0, .ref (ad 0)), (1, .int x)] := hl
  refine lv_aload_n hx hb dL_cut_0 rfl (lv_at hl 0 rfl) ?_
  refine lv_iload_n hx hb dL_cut_1 rfl (lv_at hl 1 rfl) ?_
  have hP1 := hP
  have hP2 : va_P (dC, dI) vwCl [] s.heap := hP.sub [] rfl
  have hK1 := hK
  have hD : va_D A (xw ad ca kf vf bf w op (nI n) nx en ok tf nb ef ff fi ek ev ++ []) := hD
  refine xfx_v (vx_runV (As := [.int x]) (rest := []) ⟨hx, hb, hml, hown, hts⟩ (cX3_cut_m l hnt dC dI ca ad kf vf bf w op nx en ok tf nb ef ff fi ek ev n x hn _) (cwV 1 hts (xg_V mb_methodLink_RL_27 mb_instanceMethod_yX3_cut mb_selects_yX3_cut mb_initialized_RX3 mb_code_yX3_cut) rfl rfl rfl ⟨rfl, by decide, by decide, by decide +kernel⟩ ⟨Nat.le_of_ble_eq_true rfl, Nat.le_of_ble_eq_true rfl⟩) (xpreV (va_recv (q0 := 0) hK1 hP1 rfl rfl) hK1 hP1 (xf_l hD) hS hA hE) rfl rfl hl.1 rfl (lv_room (Nat.le_of_ble_eq_true rfl)) dL_cut_2 ⟨Nat.le_of_ble_eq_true rfl, Nat.le_of_ble_eq_true rfl⟩) hD hP2 hS hA rfl (fun E ce q9 u H locs hX hP hD hS hce hcv hcl => ?_) (fun u H locs hu hP hD hS => ?_)
  · rw [List.append_nil] at hP hD
    obtain ⟨rfl, hX⟩ := hX
    refine vx_catch (name := "java/lang/IllegalArgumentException") hown [] (⟨0, 5, 8, 13⟩ : ExceptionTableEntry) [] (htab.trans rfl) (fun z hz => nomatch hz) (by decide) (by decide) (xg_w hts (wsG_t (i := 172) rfl rfl)) (xn_w (w := .castable "java/lang/IllegalArgumentException" "java/lang/IllegalArgumentException") (i := 249) hE rfl rfl rfl) hce hcv hcl ?_
    have hP : va_P (dC, dI) vwCl (xw ad ca kf vf bf w op (nI n) nx en ok tf nb ef ff fi ek ev) H := hP
    have hD : va_D A (xw ad ca kf vf bf w op (nI n) nx en ok tf nb ef ff fi ek ev) := hD
    refine lv_astore_n hx hb dL_cut_8 rfl hl (by decide) rfl (fun ls hl => ?_)
    have hl : lv_has ls 3 [(2, .ref q9), (0, .ref (ad 0)), (1, .int x)] := hl
    refine lv_iconst (v := 1) hx hb dL_cut_9 (by decide) ?_
    exact W.iret (v := 1) hx hb hr (fun t ht hW => ⟨⟨1, (nI n, op), rfl, Or.inr ⟨rfl, hX, rfl⟩, by rw [ht]; exact hP, va_K.moved hW.alike hK, hD⟩, hS.F ht⟩) hS.2.2 dL_cut_10
  rw [List.append_nil] at hP hD
  have hP : va_P (dC, dI) vwCl (xw ad ca kf vf bf w 0 x nx en ok tf nb ef ff fi ek ev) H := hP
  have hD : va_D A (xw ad ca kf vf bf w 0 x nx en ok tf nb ef ff fi ek ev) := hD
  refine lv_goto (tgt := 11) hx hb dL_cut_5 rfl ?_
  refine lv_iconst (v := 0) hx hb dL_cut_11 (by decide) ?_
  refine W.widen (k := 1) (n := 6) (Nat.zero_le _) (Nat.zero_le _) ?_
  exact W.iret (v := 0) hx hb hr (fun t ht hW => ⟨⟨0, (x, 0), rfl, Or.inl ⟨rfl, hu, rfl⟩, by rw [ht]; exact hP, va_K.moved hW.alike hK, hD⟩, hS.F ht⟩) hS.2.2 dL_cut_12

abbrev wsL_open : List Cond := .codeWith yL_open cL_open 3 (some .int) [(0, 8, 11, 35)] :: wsG
set_option maxHeartbeats 4000000 in
set_option maxRecDepth 100000 in
theorem cL_open_m (l : Launch) (hnt : l.stackTraces = false) (dC : Nat → ClassId) (dI : Nat → Nat → Nat) (ca : Nat → ClassId) (ad : Nat → Nat) (kf : Nat → Int32) (vf : Nat → Int64) (bf : Nat → Int32) (w : Int32) (op : Int32) (nx : Int32) (en : Int32) (ok : Int32) (tf : Nat → Int32) (nb : Int32) (ef : Nat → Int32) (ff : Nat → Int32) (fi : Int32) (ek : Int32) (ev : Int64) (oa : Nat) (oc : ClassId) (of : Nat → Int64) (L : Nat) (hL : L ≤ 4889) : ∀ sz : Nat, Met l yL_open wsL_open ({ frames := 7, cells := 1, slots := 6, locals := 119 } : Room) (va_Pc [.ref (ad 0), .ref oa] (xP (dC, dI) (xt ca ++ [(oc, .long)]) (xw ad ca kf vf bf w op (nI L) nx en ok tf nb ef ff fi ek ev ++ [(oa, .inl (oc, 1, .inr (.inl of)))]) sz)) (va_Qi (S := (Int32 × Int32 × Int32 × Int32 × (Nat → Int32) × (Nat → Int32)) × Int32 × (Nat → Int64)) (fun r u => (r = 0 ∧ ∃ lr, px_open tf L = some lr ∧ u.1.1 = nI lr.length ∧ lr.length ≤ 2444 ∧ px_rows 0 0 lr u.1.2.2.2.2.1 u.1.2.2.2.2.2 ∧ u.2 = (1, vp_updL of 0 (nI lr.length).toInt64)) ∨ (r = 1 ∧ px_open tf L = none ∧ u.2 = (0, of))) (fun u t => xB (dC, dI) (xt ca ++ [(oc, .long)]) (va_A (xw ad ca kf vf bf w op (nI L) nx en ok tf nb ef ff fi ek ev ++ [(oa, .inl (oc, 1, .inr (.inl of)))]) sz) (xw ad ca kf vf bf w u.2.1 (nI L) u.1.2.1 u.1.2.2.1 u.1.2.2.2.1 tf u.1.1 u.1.2.2.2.2.1 u.1.2.2.2.2.2 fi ek ev ++ [(oa, .inl (oc, 1, .inr (.inl u.2.2)))]) t) (va_A (xw ad ca kf vf bf w op (nI L) nx en ok tf nb ef ff fi ek ev ++ [(oa, .inl (oc, 1, .inr (.inl of)))]) sz)) 1 6 (va_A (xw ad ca kf vf bf w op (nI L) nx en ok tf nb ef ff fi ek ev ++ [(oa, .inl (oc, 1, .inr (.inl of)))]) sz) := by
  intro sz
  refine va_MetW (cc := cL_open) (maxL := 3) (ret := some .int) (by decide) rfl ?_
  intro p e s m args below meth c s₁ B hml hv
  obtain ⟨rfl, hsz, hP, hK, hD0, hE⟩ := hv
  have hx := B.exec
  have hb := B.bytes
  have hr := B.returns
  have hts := atoms_spec (ws := wsL_open) B.pre
  have hown : s.vm.findClass RL = some m.cls := findClass_of_methodNamed B.named
  have hlocks := B.notSynchronized
  have htab := vx_table (x := yL_open) B (hts _ List.mem_cons_self)
  subst hsz
  have hD := hD0.self (sz := s.heap.size)
  generalize hAe : va_A (xw ad ca kf vf bf w op (nI L) nx en ok tf nb ef ff fi ek ev ++ [(oa, .inl (oc, 1, .inr (.inl of)))]) s.heap.size = A at hD hE ⊢
  have hA : ∀ q : Nat, s.heap.size ≤ q → A q := fun q h => by rw [← hAe]; exact Or.inr h
  have hS : va_S A s.heap s.heap [] := va_S.rf
  have hl := lv_entry ([.ref (ad 0), .ref oa]) (n := 3) (Nat.le_of_ble_eq_true rfl)
  rw [lg_entry_eq]
  generalize (lg_sl ([.ref (ad 0), .ref oa]) ++ List.replicate (3 - (lg_sl ([.ref (ad 0), .ref oa])).length) Slot.unset).toArray = ls at hl ⊢
  have hl : lv_has ls 3 [(0, .ref (ad 0)), (1, .ref oa)] := hl
  refine lv_aload_n hx hb dL_open_0 rfl (lv_at hl 1 rfl) ?_
  refine lv_iconst (v := nI 0) hx hb dL_open_1 (by decide) ?_
  refine lv_aload_n hx hb dL_open_2 rfl (lv_at hl 0 rfl) ?_
  have hP1 : va_P (dC, dI) vwCl (xw ad ca kf vf bf w op (nI L) nx en ok tf nb ef ff fi ek ev) s.heap := xf_pl hP
  have hP2 := xf_pr hP
  have hK1 : va_K (dC, dI) vwCl (xt ca) s := hK.sub [0, 1, 2, 3, 4, 5, 6, 7] rfl
  refine xfx_i (vx_runV (As := []) (rest := [.int (nI 0), .ref oa]) ⟨hx, hb, hml, hown, hts⟩ (cX3_open_m l hnt dC dI ca ad kf vf bf w op nx en ok tf nb ef ff fi ek ev L hL _) (cwV 0 hts (xg_V mb_methodLink_RL_31 mb_instanceMethod_yX3_open mb_selects_yX3_open mb_initialized_RX3 mb_code_yX3_open) rfl rfl rfl ⟨rfl, by decide, by decide, by decide +kernel⟩ ⟨Nat.le_of_ble_eq_true rfl, Nat.le_of_ble_eq_true rfl⟩) (xpreV (va_recv (q0 := 0) hK1 hP1 rfl rfl) hK1 hP1 (xf_l hD) hS hA hE) rfl rfl hl.1 rfl (lv_room (Nat.le_of_ble_eq_true rfl)) dL_open_3 ⟨Nat.le_of_ble_eq_true rfl, Nat.le_of_ble_eq_true rfl⟩) hD hP2 hS hA rfl (fun E ce q9 u H locs hX hP hD hS hce hcv hcl => ?_) (fun r u H locs hu hP hD hS => ?_)
  · obtain ⟨x1, x2, x3, x4, x5, x6⟩ := u
    dsimp only at hX hP hD
    obtain ⟨rfl, hX⟩ := hX
    refine vx_catch (name := "java/lang/ArithmeticException") hown [] (⟨0, 8, 11, 35⟩ : ExceptionTableEntry) [] (htab.trans rfl) (fun z hz => nomatch hz) (by decide) (by decide) (xg_w hts (wsG_t (i := 310) rfl rfl)) (xn_w (w := .castable "java/lang/ArithmeticException" "java/lang/ArithmeticException") (i := 354) hE rfl rfl rfl) hce hcv hcl ?_
    have hP : va_P (dC, dI) vwCl (xw ad ca kf vf bf w 0 (nI L) x2 x3 x4 tf x1 x5 x6 fi ek ev ++ [(oa, .inl (oc, 1, .inr (.inl of)))]) H := hP
    have hD : va_D A (xw ad ca kf vf bf w 0 (nI L) x2 x3 x4 tf x1 x5 x6 fi ek ev ++ [(oa, .inl (oc, 1, .inr (.inl of)))]) := hD
    refine lv_astore_n hx hb dL_open_11 rfl hl (by decide) rfl (fun ls hl => ?_)
    have hl : lv_has ls 3 [(2, .ref q9), (0, .ref (ad 0)), (1, .ref oa)] := hl
    refine lv_iconst (v := 1) hx hb dL_open_12 (by decide) ?_
    exact W.iret (v := 1) hx hb hr (fun t ht hW => ⟨⟨1, ((x1, x2, x3, x4, x5, x6), 0, of), rfl, Or.inr ⟨rfl, hX, rfl⟩, by rw [ht]; exact hP, va_K.moved hW.alike hK, hD⟩, hS.F ht⟩) hS.2.2 dL_open_13
  obtain ⟨x1, x2, x3, x4, x5, x6⟩ := u
  dsimp only at hu hP hD
  obtain ⟨lr, ho, rfl, hx1, hlen, hrows⟩ := hu
  have hP : va_P (dC, dI) vwCl (xw ad ca kf vf bf w 1 (nI L) x2 x3 x4 tf x1 x5 x6 fi ek ev ++ [(oa, .inl (oc, 1, .inr (.inl of)))]) H := hP
  have hD : va_D A (xw ad ca kf vf bf w 1 (nI L) x2 x3 x4 tf x1 x5 x6 fi ek ev ++ [(oa, .inl (oc, 1, .inr (.inl of)))]) := hD
  refine lv_i2l (v := (nI lr.length).toInt64) hx hb dL_open_6 (rfl) ?_
  refine va_last hx hb hK hP hD hS 10 8 rfl rfl (vp_in_nI (by decide) (by decide)) dL_open_7 (fun H locs hP hD hS => ?_)
  have e9 : vp_updL of (nI 0).toNatClampNeg ((nI lr.length).toInt64) = vp_updL of 0 ((nI lr.length).toInt64) := by rw [nI_clamp (by decide)]
  rw [e9] at hP hD
  clear e9
  have hP : va_P (dC, dI) vwCl (xw ad ca kf vf bf w 1 (nI L) x2 x3 x4 tf x1 x5 x6 fi ek ev ++ [(oa, .inl (oc, 1, .inr (.inl (vp_updL of 0 ((nI lr.length).toInt64)))))]) H := hP
  have hD : va_D A (xw ad ca kf vf bf w 1 (nI L) x2 x3 x4 tf x1 x5 x6 fi ek ev ++ [(oa, .inl (oc, 1, .inr (.inl (vp_updL of 0 ((nI lr.length).toInt64)))))]) := hD
  refine lv_goto (tgt := 14) hx hb dL_open_8 rfl ?_
  refine lv_iconst (v := 0) hx hb dL_open_14 (by decide) ?_
  refine W.widen (k := 1) (n := 6) (Nat.zero_le _) (Nat.zero_le _) ?_
  exact W.iret (v := 0) hx hb hr (fun t ht hW => ⟨⟨0, ((x1, x2, x3, x4, x5, x6), 1, vp_updL of 0 (nI lr.length).toInt64), rfl, Or.inl ⟨rfl, lr, ho, hx1, hlen, hrows, rfl⟩, by rw [ht]; exact hP, va_K.moved hW.alike hK, hD⟩, hS.F ht⟩) hS.2.2 dL_open_15

abbrev wsL_get : List Cond := .codeWith yL_get cL_get 4 (some .int) [(0, 8, 11, 15), (0, 8, 14, 35), (0, 8, 17, 41)] :: wsG
set_option maxHeartbeats 4000000 in
set_option maxRecDepth 100000 in
theorem cL_get_m (l : Launch) (hnt : l.stackTraces = false) (dC : Nat → ClassId) (dI : Nat → Nat → Nat) (ca : Nat → ClassId) (ad : Nat → Nat) (kf : Nat → Int32) (vf : Nat → Int64) (bf : Nat → Int32) (w : Int32) (op : Int32) (ln : Int32) (nx : Int32) (en : Int32) (ok : Int32) (tf : Nat → Int32) (nb : Int32) (ef : Nat → Int32) (ff : Nat → Int32) (fi : Int32) (ek : Int32) (ev : Int64) (oa : Nat) (oc : ClassId) (of : Nat → Int64) (lr : List (Nat × Nat)) (key : Int32) (hopen : ¬ op = 0 → nb = nI lr.length ∧ lr.length ≤ 2444 ∧ px_rows 0 0 lr ef ff ∧ px_sum lr ≤ 4889) : ∀ sz : Nat, Met l yL_get wsL_get ({ frames := 8, cells := 1, slots := 6, locals := 138 } : Room) (va_Pc [.ref (ad 0), .int key, .ref oa] (xP (dC, dI) (xt ca ++ [(oc, .long)]) (xw ad ca kf vf bf w op ln nx en ok tf nb ef ff fi ek ev ++ [(oa, .inl (oc, 1, .inr (.inl of)))]) sz)) (va_Qi (S := (Int32 × Int32 × Int32 × Int32 × Int32 × Int64) × (Nat → Int64)) (fun r u => (r = 0 ∧ ¬ op = 0 ∧ ∃ j lb v, px_last (px_kf lr) key lr.length = some j ∧ pe_of tf lr j = some lb ∧ sp_find lb key = some v ∧ u.2 = vp_updL of 0 v) ∨ (r = 1 ∧ op = 0 ∧ u.2 = of) ∨ (r = 3 ∧ ¬ op = 0 ∧ px_last (px_kf lr) key lr.length = none ∧ u.2 = of) ∨ (r = 2 ∧ ¬ op = 0 ∧ (∃ j, px_last (px_kf lr) key lr.length = some j ∧ pe_of tf lr j = none) ∧ u.2 = of) ∨ (r = 3 ∧ ¬ op = 0 ∧ (∃ j lb, px_last (px_kf lr) key lr.length = some j ∧ pe_of tf lr j = some lb ∧ sp_find lb key = none) ∧ u.2 = of)) (fun u t => xB (dC, dI) (xt ca ++ [(oc, .long)]) (va_A (xw ad ca kf vf bf w op ln nx en ok tf nb ef ff fi ek ev ++ [(oa, .inl (oc, 1, .inr (.inl of)))]) sz) (xw ad ca kf vf bf w op ln u.1.1 u.1.2.1 u.1.2.2.1 tf nb ef ff u.1.2.2.2.1 u.1.2.2.2.2.1 u.1.2.2.2.2.2 ++ [(oa, .inl (oc, 1, .inr (.inl u.2)))]) t) (va_A (xw ad ca kf vf bf w op ln nx en ok tf nb ef ff fi ek ev ++ [(oa, .inl (oc, 1, .inr (.inl of)))]) sz)) 1 6 (va_A (xw ad ca kf vf bf w op ln nx en ok tf nb ef ff fi ek ev ++ [(oa, .inl (oc, 1, .inr (.inl of)))]) sz) := by
  intro sz
  refine va_MetW (cc := cL_get) (maxL := 4) (ret := some .int) (by decide) rfl ?_
  intro p e s m args below meth c s₁ B hml hv
  obtain ⟨rfl, hsz, hP, hK, hD0, hE⟩ := hv
  have hx := B.exec
  have hb := B.bytes
  have hr := B.returns
  have hts := atoms_spec (ws := wsL_get) B.pre
  have hown : s.vm.findClass RL = some m.cls := findClass_of_methodNamed B.named
  have hlocks := B.notSynchronized
  have htab := vx_table (x := yL_get) B (hts _ List.mem_cons_self)
  subst hsz
  have hD := hD0.self (sz := s.heap.size)
  generalize hAe : va_A (xw ad ca kf vf bf w op ln nx en ok tf nb ef ff fi ek ev ++ [(oa, .inl (oc, 1, .inr (.inl of)))]) s.heap.size = A at hD hE ⊢
  have hA : ∀ q : Nat, s.heap.size ≤ q → A q := fun q h => by rw [← hAe]; exact Or.inr h
  have hS : va_S A s.heap s.heap [] := va_S.rf
  have hl := lv_entry ([.ref (ad 0), .int key, .ref oa]) (n := 4) (Nat.le_of_ble_eq_true rfl)
  rw [lg_entry_eq]
  generalize (lg_sl ([.ref (ad 0), .int key, .ref oa]) ++ List.replicate (4 - (lg_sl ([.ref (ad 0), .int key, .ref oa])).length) Slot.unset).toArray = ls at hl ⊢
  have hl : lv_has ls 4 [(0, .ref (ad 0)), (1, .int key), (2, .ref oa)] := hl
  refine lv_aload_n hx hb dL_get_0 rfl (lv_at hl 2 rfl) ?_
  refine lv_iconst (v := nI 0) hx hb dL_get_1 (by decide) ?_
  refine lv_aload_n hx hb dL_get_2 rfl (lv_at hl 0 rfl) ?_
  refine lv_iload_n hx hb dL_get_3 rfl (lv_at hl 1 rfl) ?_
  have hP1 : va_P (dC, dI) vwCl (xw ad ca kf vf bf w op ln nx en ok tf nb ef ff fi ek ev) s.heap := xf_pl hP
  have hP2 := xf_pr hP
  have hK1 : va_K (dC, dI) vwCl (xt ca) s := hK.sub [0, 1, 2, 3, 4, 5, 6, 7] rfl
  refine xfx_l (vx_runV (As := [.int key]) (rest := [.int (nI 0), .ref oa]) ⟨hx, hb, hml, hown, hts⟩ (cX3_get_m l hnt dC dI ca ad kf vf bf w op ln nx en ok tf nb ef ff fi ek ev lr key hopen _) (cwV 1 hts (xg_V mb_methodLink_RL_37 mb_instanceMethod_yX3_get mb_selects_yX3_get mb_initialized_RX3 mb_code_yX3_get) rfl rfl rfl ⟨rfl, by decide, by decide, by decide +kernel⟩ ⟨Nat.le_of_ble_eq_true rfl, Nat.le_of_ble_eq_true rfl⟩) (xpreV (va_recv (q0 := 0) hK1 hP1 rfl rfl) hK1 hP1 (xf_l hD) hS hA hE) rfl rfl hl.1 rfl (lv_room (Nat.le_of_ble_eq_true rfl)) dL_get_4 ⟨Nat.le_of_ble_eq_true rfl, Nat.le_of_ble_eq_true rfl⟩) hD hP2 hS hA rfl (fun E ce q9 u H locs hX hP hD hS hce hcv hcl => ?_) (fun r u H locs hu hP hD hS => ?_)
  · obtain ⟨x1, x2, x3, x4, x5, x6⟩ := u
    dsimp only at hX hP hD
    rcases hX with hX | hX | hX | hX
    · obtain ⟨rfl, hX⟩ := hX
      refine vx_catch (name := "java/lang/IllegalStateException") hown [] (⟨0, 8, 11, 15⟩ : ExceptionTableEntry) [(⟨0, 8, 14, 35⟩ : ExceptionTableEntry), (⟨0, 8, 17, 41⟩ : ExceptionTableEntry)] (htab.trans rfl) (fun z hz => nomatch hz) (by decide) (by decide) (xg_w hts (wsG_t (i := 173) rfl rfl)) (xn_w (w := .castable "java/lang/IllegalStateException" "java/lang/IllegalStateException") (i := 180) hE rfl rfl rfl) hce hcv hcl ?_
      have hP : va_P (dC, dI) vwCl (xw ad ca kf vf bf w op ln x1 x2 x3 tf nb ef ff x4 x5 x6 ++ [(oa, .inl (oc, 1, .inr (.inl of)))]) H := hP
      have hD : va_D A (xw ad ca kf vf bf w op ln x1 x2 x3 tf nb ef ff x4 x5 x6 ++ [(oa, .inl (oc, 1, .inr (.inl of)))]) := hD
      refine lv_astore_n hx hb dL_get_11 rfl hl (by decide) rfl (fun ls hl => ?_)
      have hl : lv_has ls 4 [(3, .ref q9), (0, .ref (ad 0)), (1, .int key), (2, .ref oa)] := hl
      refine lv_iconst (v := 1) hx hb dL_get_12 (by decide) ?_
      exact W.iret (v := 1) hx hb hr (fun t ht hW => ⟨⟨1, ((x1, x2, x3, x4, x5, x6), of), rfl, Or.inr (Or.inl (⟨rfl, hX, rfl⟩)), by rw [ht]; exact hP, va_K.moved hW.alike hK, hD⟩, hS.F ht⟩) hS.2.2 dL_get_13
    · obtain ⟨hop, rfl, hX⟩ := hX
      refine vx_catch (name := "java/util/NoSuchElementException") hown [(⟨0, 8, 11, 15⟩ : ExceptionTableEntry), (⟨0, 8, 14, 35⟩ : ExceptionTableEntry)] (⟨0, 8, 17, 41⟩ : ExceptionTableEntry) [] (htab.trans rfl) (fun z hz => by
          simp only [List.mem_cons, List.not_mem_nil, or_false] at hz
          rcases hz with rfl | rfl
          · exact Or.inr ⟨by decide, "java/lang/IllegalStateException", xg_w hts (wsG_t (i := 173) rfl rfl), hE.2.2.2.2.1 ("java/util/NoSuchElementException", "java/lang/IllegalStateException") (List.mem_of_getElem? (i := 17) rfl)⟩
          · exact Or.inr ⟨by decide, "java/lang/ArithmeticException", xg_w hts (wsG_t (i := 310) rfl rfl), hE.2.2.2.2.1 ("java/util/NoSuchElementException", "java/lang/ArithmeticException") (List.mem_of_getElem? (i := 35) rfl)⟩) (by decide) (by decide) (xg_w hts (wsG_t (i := 371) rfl rfl)) (xn_w (w := .castable "java/util/NoSuchElementException" "java/util/NoSuchElementException") (i := 387) hE rfl rfl rfl) hce hcv hcl ?_
      have hP : va_P (dC, dI) vwCl (xw ad ca kf vf bf w op ln x1 x2 x3 tf nb ef ff x4 x5 x6 ++ [(oa, .inl (oc, 1, .inr (.inl of)))]) H := hP
      have hD : va_D A (xw ad ca kf vf bf w op ln x1 x2 x3 tf nb ef ff x4 x5 x6 ++ [(oa, .inl (oc, 1, .inr (.inl of)))]) := hD
      refine lv_astore_n hx hb dL_get_17 rfl hl (by decide) rfl (fun ls hl => ?_)
      have hl : lv_has ls 4 [(3, .ref q9), (0, .ref (ad 0)), (1, .int key), (2, .ref oa)] := hl
      refine lv_iconst (v := 3) hx hb dL_get_18 (by decide) ?_
      exact W.iret (v := 3) hx hb hr (fun t ht hW => ⟨⟨3, ((x1, x2, x3, x4, x5, x6), of), rfl, Or.inr (Or.inr (Or.inl (⟨rfl, hop, hX, rfl⟩))), by rw [ht]; exact hP, va_K.moved hW.alike hK, hD⟩, hS.F ht⟩) hS.2.2 dL_get_19
    · obtain ⟨hop, rfl, hX⟩ := hX
      refine vx_catch (name := "java/lang/ArithmeticException") hown [(⟨0, 8, 11, 15⟩ : ExceptionTableEntry)] (⟨0, 8, 14, 35⟩ : ExceptionTableEntry) [(⟨0, 8, 17, 41⟩ : ExceptionTableEntry)] (htab.trans rfl) (fun z hz => by
          simp only [List.mem_cons, List.not_mem_nil, or_false] at hz
          rcases hz with rfl
          · exact Or.inr ⟨by decide, "java/lang/IllegalStateException", xg_w hts (wsG_t (i := 173) rfl rfl), hE.2.2.2.2.1 ("java/lang/ArithmeticException", "java/lang/IllegalStateException") (List.mem_of_getElem? (i := 16) rfl)⟩) (by decide) (by decide) (xg_w hts (wsG_t (i := 310) rfl rfl)) (xn_w (w := .castable "java/lang/ArithmeticException" "java/lang/ArithmeticException") (i := 354) hE rfl rfl rfl) hce hcv hcl ?_
      have hP : va_P (dC, dI) vwCl (xw ad ca kf vf bf w op ln x1 x2 x3 tf nb ef ff x4 x5 x6 ++ [(oa, .inl (oc, 1, .inr (.inl of)))]) H := hP
      have hD : va_D A (xw ad ca kf vf bf w op ln x1 x2 x3 tf nb ef ff x4 x5 x6 ++ [(oa, .inl (oc, 1, .inr (.inl of)))]) := hD
      refine lv_astore_n hx hb dL_get_14 rfl hl (by decide) rfl (fun ls hl => ?_)
      have hl : lv_has ls 4 [(3, .ref q9), (0, .ref (ad 0)), (1, .int key), (2, .ref oa)] := hl
      refine lv_iconst (v := 2) hx hb dL_get_15 (by decide) ?_
      exact W.iret (v := 2) hx hb hr (fun t ht hW => ⟨⟨2, ((x1, x2, x3, x4, x5, x6), of), rfl, Or.inr (Or.inr (Or.inr (Or.inl (⟨rfl, hop, hX, rfl⟩)))), by rw [ht]; exact hP, va_K.moved hW.alike hK, hD⟩, hS.F ht⟩) hS.2.2 dL_get_16
    · obtain ⟨hop, rfl, hX⟩ := hX
      refine vx_catch (name := "java/util/NoSuchElementException") hown [(⟨0, 8, 11, 15⟩ : ExceptionTableEntry), (⟨0, 8, 14, 35⟩ : ExceptionTableEntry)] (⟨0, 8, 17, 41⟩ : ExceptionTableEntry) [] (htab.trans rfl) (fun z hz => by
          simp only [List.mem_cons, List.not_mem_nil, or_false] at hz
          rcases hz with rfl | rfl
          · exact Or.inr ⟨by decide, "java/lang/IllegalStateException", xg_w hts (wsG_t (i := 173) rfl rfl), hE.2.2.2.2.1 ("java/util/NoSuchElementException", "java/lang/IllegalStateException") (List.mem_of_getElem? (i := 17) rfl)⟩
          · exact Or.inr ⟨by decide, "java/lang/ArithmeticException", xg_w hts (wsG_t (i := 310) rfl rfl), hE.2.2.2.2.1 ("java/util/NoSuchElementException", "java/lang/ArithmeticException") (List.mem_of_getElem? (i := 35) rfl)⟩) (by decide) (by decide) (xg_w hts (wsG_t (i := 371) rfl rfl)) (xn_w (w := .castable "java/util/NoSuchElementException" "java/util/NoSuchElementException") (i := 387) hE rfl rfl rfl) hce hcv hcl ?_
      have hP : va_P (dC, dI) vwCl (xw ad ca kf vf bf w op ln x1 x2 x3 tf nb ef ff x4 x5 x6 ++ [(oa, .inl (oc, 1, .inr (.inl of)))]) H := hP
      have hD : va_D A (xw ad ca kf vf bf w op ln x1 x2 x3 tf nb ef ff x4 x5 x6 ++ [(oa, .inl (oc, 1, .inr (.inl of)))]) := hD
      refine lv_astore_n hx hb dL_get_17 rfl hl (by decide) rfl (fun ls hl => ?_)
      have hl : lv_has ls 4 [(3, .ref q9), (0, .ref (ad 0)), (1, .int key), (2, .ref oa)] := hl
      refine lv_iconst (v := 3) hx hb dL_get_18 (by decide) ?_
      exact W.iret (v := 3) hx hb hr (fun t ht hW => ⟨⟨3, ((x1, x2, x3, x4, x5, x6), of), rfl, Or.inr (Or.inr (Or.inr (Or.inr (⟨rfl, hop, hX, rfl⟩)))), by rw [ht]; exact hP, va_K.moved hW.alike hK, hD⟩, hS.F ht⟩) hS.2.2 dL_get_19
  obtain ⟨x1, x2, x3, x4, x5, x6⟩ := u
  dsimp only at hu hP hD
  obtain ⟨hop, j, lb, hla, hlb, hfd⟩ := hu
  have hP : va_P (dC, dI) vwCl (xw ad ca kf vf bf w op ln x1 x2 x3 tf nb ef ff x4 x5 x6 ++ [(oa, .inl (oc, 1, .inr (.inl of)))]) H := hP
  have hD : va_D A (xw ad ca kf vf bf w op ln x1 x2 x3 tf nb ef ff x4 x5 x6 ++ [(oa, .inl (oc, 1, .inr (.inl of)))]) := hD
  refine va_last hx hb hK hP hD hS 10 8 rfl rfl (vp_in_nI (by decide) (by decide)) dL_get_7 (fun H locs hP hD hS => ?_)
  have e9 : vp_updL of (nI 0).toNatClampNeg r = vp_updL of 0 r := by rw [nI_clamp (by decide)]
  rw [e9] at hP hD
  clear e9
  have hP : va_P (dC, dI) vwCl (xw ad ca kf vf bf w op ln x1 x2 x3 tf nb ef ff x4 x5 x6 ++ [(oa, .inl (oc, 1, .inr (.inl (vp_updL of 0 r))))]) H := hP
  have hD : va_D A (xw ad ca kf vf bf w op ln x1 x2 x3 tf nb ef ff x4 x5 x6 ++ [(oa, .inl (oc, 1, .inr (.inl (vp_updL of 0 r))))]) := hD
  refine lv_goto (tgt := 20) hx hb dL_get_8 rfl ?_
  refine lv_iconst (v := 0) hx hb dL_get_20 (by decide) ?_
  refine W.widen (k := 1) (n := 6) (Nat.zero_le _) (Nat.zero_le _) ?_
  exact W.iret (v := 0) hx hb hr (fun t ht hW => ⟨⟨0, ((x1, x2, x3, x4, x5, x6), vp_updL of 0 r), rfl, Or.inl (⟨rfl, hop, j, lb, r, hla, hlb, hfd, rfl⟩), by rw [ht]; exact hP, va_K.moved hW.alike hK, hD⟩, hS.F ht⟩) hS.2.2 dL_get_21

abbrev wsL_entries : List Cond := .codeWith yL_entries cL_entries 4 (some .int) [(0, 9, 12, 15), (0, 9, 15, 21), (0, 9, 18, 35)] :: wsG
set_option maxHeartbeats 4000000 in
set_option maxRecDepth 100000 in
theorem cL_entries_m (l : Launch) (hnt : l.stackTraces = false) (dC : Nat → ClassId) (dI : Nat → Nat → Nat) (ca : Nat → ClassId) (ad : Nat → Nat) (kf : Nat → Int32) (vf : Nat → Int64) (bf : Nat → Int32) (w : Int32) (op : Int32) (ln : Int32) (nx : Int32) (en : Int32) (ok : Int32) (tf : Nat → Int32) (nb : Int32) (ef : Nat → Int32) (ff : Nat → Int32) (fi : Int32) (ek : Int32) (ev : Int64) (oa : Nat) (oc : ClassId) (of : Nat → Int64) (lr : List (Nat × Nat)) (x : Int32) (hopen : ¬ op = 0 → nb = nI lr.length ∧ lr.length ≤ 2444 ∧ px_rows 0 0 lr ef ff ∧ px_sum lr ≤ 4889) : ∀ sz : Nat, Met l yL_entries wsL_entries ({ frames := 8, cells := 1, slots := 6, locals := 135 } : Room) (va_Pc [.ref (ad 0), .int x, .ref oa] (xP (dC, dI) (xt ca ++ [(oc, .long)]) (xw ad ca kf vf bf w op ln nx en ok tf nb ef ff fi ek ev ++ [(oa, .inl (oc, 1, .inr (.inl of)))]) sz)) (va_Qi (S := (Int32 × Int32 × Int32 × Int32 × Int32 × Int64) × (Nat → Int64)) (fun r u => (r = 0 ∧ ¬ op = 0 ∧ ∃ j lb, (j < lr.length ∧ x = nI j) ∧ pe_of tf lr j = some lb ∧ u.2 = vp_updL of 0 (nI lb.length).toInt64) ∨ (r = 1 ∧ op = 0 ∧ u.2 = of) ∨ (r = 2 ∧ ¬ op = 0 ∧ sp_in x lr.length = false ∧ u.2 = of) ∨ (r = 3 ∧ ¬ op = 0 ∧ (∃ j, (j < lr.length ∧ x = nI j) ∧ pe_of tf lr j = none) ∧ u.2 = of)) (fun u t => xB (dC, dI) (xt ca ++ [(oc, .long)]) (va_A (xw ad ca kf vf bf w op ln nx en ok tf nb ef ff fi ek ev ++ [(oa, .inl (oc, 1, .inr (.inl of)))]) sz) (xw ad ca kf vf bf w op ln u.1.1 u.1.2.1 u.1.2.2.1 tf nb ef ff u.1.2.2.2.1 u.1.2.2.2.2.1 u.1.2.2.2.2.2 ++ [(oa, .inl (oc, 1, .inr (.inl u.2)))]) t) (va_A (xw ad ca kf vf bf w op ln nx en ok tf nb ef ff fi ek ev ++ [(oa, .inl (oc, 1, .inr (.inl of)))]) sz)) 1 6 (va_A (xw ad ca kf vf bf w op ln nx en ok tf nb ef ff fi ek ev ++ [(oa, .inl (oc, 1, .inr (.inl of)))]) sz) := by
  intro sz
  refine va_MetW (cc := cL_entries) (maxL := 4) (ret := some .int) (by decide) rfl ?_
  intro p e s m args below meth c s₁ B hml hv
  obtain ⟨rfl, hsz, hP, hK, hD0, hE⟩ := hv
  have hx := B.exec
  have hb := B.bytes
  have hr := B.returns
  have hts := atoms_spec (ws := wsL_entries) B.pre
  have hown : s.vm.findClass RL = some m.cls := findClass_of_methodNamed B.named
  have hlocks := B.notSynchronized
  have htab := vx_table (x := yL_entries) B (hts _ List.mem_cons_self)
  subst hsz
  have hD := hD0.self (sz := s.heap.size)
  generalize hAe : va_A (xw ad ca kf vf bf w op ln nx en ok tf nb ef ff fi ek ev ++ [(oa, .inl (oc, 1, .inr (.inl of)))]) s.heap.size = A at hD hE ⊢
  have hA : ∀ q : Nat, s.heap.size ≤ q → A q := fun q h => by rw [← hAe]; exact Or.inr h
  have hS : va_S A s.heap s.heap [] := va_S.rf
  have hl := lv_entry ([.ref (ad 0), .int x, .ref oa]) (n := 4) (Nat.le_of_ble_eq_true rfl)
  rw [lg_entry_eq]
  generalize (lg_sl ([.ref (ad 0), .int x, .ref oa]) ++ List.replicate (4 - (lg_sl ([.ref (ad 0), .int x, .ref oa])).length) Slot.unset).toArray = ls at hl ⊢
  have hl : lv_has ls 4 [(0, .ref (ad 0)), (1, .int x), (2, .ref oa)] := hl
  refine lv_aload_n hx hb dL_entries_0 rfl (lv_at hl 2 rfl) ?_
  refine lv_iconst (v := nI 0) hx hb dL_entries_1 (by decide) ?_
  refine lv_aload_n hx hb dL_entries_2 rfl (lv_at hl 0 rfl) ?_
  refine lv_iload_n hx hb dL_entries_3 rfl (lv_at hl 1 rfl) ?_
  have hP1 : va_P (dC, dI) vwCl (xw ad ca kf vf bf w op ln nx en ok tf nb ef ff fi ek ev) s.heap := xf_pl hP
  have hP2 := xf_pr hP
  have hK1 : va_K (dC, dI) vwCl (xt ca) s := hK.sub [0, 1, 2, 3, 4, 5, 6, 7] rfl
  refine xfx_i (vx_runV (As := [.int x]) (rest := [.int (nI 0), .ref oa]) ⟨hx, hb, hml, hown, hts⟩ (cX3_entries_m l hnt dC dI ca ad kf vf bf w op ln nx en ok tf nb ef ff fi ek ev lr x hopen _) (cwV 1 hts (xg_V mb_methodLink_RL_43 mb_instanceMethod_yX3_entries mb_selects_yX3_entries mb_initialized_RX3 mb_code_yX3_entries) rfl rfl rfl ⟨rfl, by decide, by decide, by decide +kernel⟩ ⟨Nat.le_of_ble_eq_true rfl, Nat.le_of_ble_eq_true rfl⟩) (xpreV (va_recv (q0 := 0) hK1 hP1 rfl rfl) hK1 hP1 (xf_l hD) hS hA hE) rfl rfl hl.1 rfl (lv_room (Nat.le_of_ble_eq_true rfl)) dL_entries_4 ⟨Nat.le_of_ble_eq_true rfl, Nat.le_of_ble_eq_true rfl⟩) hD hP2 hS hA rfl (fun E ce q9 u H locs hX hP hD hS hce hcv hcl => ?_) (fun r u H locs hu hP hD hS => ?_)
  · obtain ⟨x1, x2, x3, x4, x5, x6⟩ := u
    dsimp only at hX hP hD
    rcases hX with hX | hX | hX
    · obtain ⟨rfl, hX⟩ := hX
      refine vx_catch (name := "java/lang/IllegalStateException") hown [] (⟨0, 9, 12, 15⟩ : ExceptionTableEntry) [(⟨0, 9, 15, 21⟩ : ExceptionTableEntry), (⟨0, 9, 18, 35⟩ : ExceptionTableEntry)] (htab.trans rfl) (fun z hz => nomatch hz) (by decide) (by decide) (xg_w hts (wsG_t (i := 173) rfl rfl)) (xn_w (w := .castable "java/lang/IllegalStateException" "java/lang/IllegalStateException") (i := 180) hE rfl rfl rfl) hce hcv hcl ?_
      have hP : va_P (dC, dI) vwCl (xw ad ca kf vf bf w op ln x1 x2 x3 tf nb ef ff x4 x5 x6 ++ [(oa, .inl (oc, 1, .inr (.inl of)))]) H := hP
      have hD : va_D A (xw ad ca kf vf bf w op ln x1 x2 x3 tf nb ef ff x4 x5 x6 ++ [(oa, .inl (oc, 1, .inr (.inl of)))]) := hD
      refine lv_astore_n hx hb dL_entries_12 rfl hl (by decide) rfl (fun ls hl => ?_)
      have hl : lv_has ls 4 [(3, .ref q9), (0, .ref (ad 0)), (1, .int x), (2, .ref oa)] := hl
      refine lv_iconst (v := 1) hx hb dL_entries_13 (by decide) ?_
      exact W.iret (v := 1) hx hb hr (fun t ht hW => ⟨⟨1, ((x1, x2, x3, x4, x5, x6), of), rfl, Or.inr (Or.inl (⟨rfl, hX, rfl⟩)), by rw [ht]; exact hP, va_K.moved hW.alike hK, hD⟩, hS.F ht⟩) hS.2.2 dL_entries_14
    · obtain ⟨hop, rfl, hX⟩ := hX
      refine vx_catch (name := "java/lang/IndexOutOfBoundsException") hown [(⟨0, 9, 12, 15⟩ : ExceptionTableEntry)] (⟨0, 9, 15, 21⟩ : ExceptionTableEntry) [(⟨0, 9, 18, 35⟩ : ExceptionTableEntry)] (htab.trans rfl) (fun z hz => by
          simp only [List.mem_cons, List.not_mem_nil, or_false] at hz
          rcases hz with rfl
          · exact Or.inr ⟨by decide, "java/lang/IllegalStateException", xg_w hts (wsG_t (i := 173) rfl rfl), hE.2.2.2.2.1 ("java/lang/IndexOutOfBoundsException", "java/lang/IllegalStateException") (List.mem_of_getElem? (i := 15) rfl)⟩) (by decide) (by decide) (xg_w hts (wsG_t (i := 266) rfl rfl)) (xn_w (w := .castable "java/lang/IndexOutOfBoundsException" "java/lang/IndexOutOfBoundsException") (i := 277) hE rfl rfl rfl) hce hcv hcl ?_
      have hP : va_P (dC, dI) vwCl (xw ad ca kf vf bf w op ln x1 x2 x3 tf nb ef ff x4 x5 x6 ++ [(oa, .inl (oc, 1, .inr (.inl of)))]) H := hP
      have hD : va_D A (xw ad ca kf vf bf w op ln x1 x2 x3 tf nb ef ff x4 x5 x6 ++ [(oa, .inl (oc, 1, .inr (.inl of)))]) := hD
      refine lv_astore_n hx hb dL_entries_15 rfl hl (by decide) rfl (fun ls hl => ?_)
      have hl : lv_has ls 4 [(3, .ref q9), (0, .ref (ad 0)), (1, .int x), (2, .ref oa)] := hl
      refine lv_iconst (v := 2) hx hb dL_entries_16 (by decide) ?_
      exact W.iret (v := 2) hx hb hr (fun t ht hW => ⟨⟨2, ((x1, x2, x3, x4, x5, x6), of), rfl, Or.inr (Or.inr (Or.inl (⟨rfl, hop, hX, rfl⟩))), by rw [ht]; exact hP, va_K.moved hW.alike hK, hD⟩, hS.F ht⟩) hS.2.2 dL_entries_17
    · obtain ⟨hop, rfl, j, hj, hxj, hX⟩ := hX
      refine vx_catch (name := "java/lang/ArithmeticException") hown [(⟨0, 9, 12, 15⟩ : ExceptionTableEntry), (⟨0, 9, 15, 21⟩ : ExceptionTableEntry)] (⟨0, 9, 18, 35⟩ : ExceptionTableEntry) [] (htab.trans rfl) (fun z hz => by
          simp only [List.mem_cons, List.not_mem_nil, or_false] at hz
          rcases hz with rfl | rfl
          · exact Or.inr ⟨by decide, "java/lang/IllegalStateException", xg_w hts (wsG_t (i := 173) rfl rfl), hE.2.2.2.2.1 ("java/lang/ArithmeticException", "java/lang/IllegalStateException") (List.mem_of_getElem? (i := 16) rfl)⟩
          · exact Or.inr ⟨by decide, "java/lang/IndexOutOfBoundsException", xg_w hts (wsG_t (i := 266) rfl rfl), hE.2.2.2.2.1 ("java/lang/ArithmeticException", "java/lang/IndexOutOfBoundsException") (List.mem_of_getElem? (i := 25) rfl)⟩) (by decide) (by decide) (xg_w hts (wsG_t (i := 310) rfl rfl)) (xn_w (w := .castable "java/lang/ArithmeticException" "java/lang/ArithmeticException") (i := 354) hE rfl rfl rfl) hce hcv hcl ?_
      have hP : va_P (dC, dI) vwCl (xw ad ca kf vf bf w op ln x1 x2 x3 tf nb ef ff x4 x5 x6 ++ [(oa, .inl (oc, 1, .inr (.inl of)))]) H := hP
      have hD : va_D A (xw ad ca kf vf bf w op ln x1 x2 x3 tf nb ef ff x4 x5 x6 ++ [(oa, .inl (oc, 1, .inr (.inl of)))]) := hD
      refine lv_astore_n hx hb dL_entries_18 rfl hl (by decide) rfl (fun ls hl => ?_)
      have hl : lv_has ls 4 [(3, .ref q9), (0, .ref (ad 0)), (1, .int x), (2, .ref oa)] := hl
      refine lv_iconst (v := 3) hx hb dL_entries_19 (by decide) ?_
      exact W.iret (v := 3) hx hb hr (fun t ht hW => ⟨⟨3, ((x1, x2, x3, x4, x5, x6), of), rfl, Or.inr (Or.inr (Or.inr (⟨rfl, hop, ⟨j, ⟨hj, hxj⟩, hX⟩, rfl⟩))), by rw [ht]; exact hP, va_K.moved hW.alike hK, hD⟩, hS.F ht⟩) hS.2.2 dL_entries_20
  obtain ⟨x1, x2, x3, x4, x5, x6⟩ := u
  dsimp only at hu hP hD
  obtain ⟨hop, j, lb, hj, hxj, hlb, rfl, hlbl⟩ := hu
  have hP : va_P (dC, dI) vwCl (xw ad ca kf vf bf w op ln x1 x2 x3 tf nb ef ff x4 x5 x6 ++ [(oa, .inl (oc, 1, .inr (.inl of)))]) H := hP
  have hD : va_D A (xw ad ca kf vf bf w op ln x1 x2 x3 tf nb ef ff x4 x5 x6 ++ [(oa, .inl (oc, 1, .inr (.inl of)))]) := hD
  refine lv_i2l (v := (nI lb.length).toInt64) hx hb dL_entries_7 (rfl) ?_
  refine va_last hx hb hK hP hD hS 10 8 rfl rfl (vp_in_nI (by decide) (by decide)) dL_entries_8 (fun H locs hP hD hS => ?_)
  have e9 : vp_updL of (nI 0).toNatClampNeg ((nI lb.length).toInt64) = vp_updL of 0 ((nI lb.length).toInt64) := by rw [nI_clamp (by decide)]
  rw [e9] at hP hD
  clear e9
  have hP : va_P (dC, dI) vwCl (xw ad ca kf vf bf w op ln x1 x2 x3 tf nb ef ff x4 x5 x6 ++ [(oa, .inl (oc, 1, .inr (.inl (vp_updL of 0 ((nI lb.length).toInt64)))))]) H := hP
  have hD : va_D A (xw ad ca kf vf bf w op ln x1 x2 x3 tf nb ef ff x4 x5 x6 ++ [(oa, .inl (oc, 1, .inr (.inl (vp_updL of 0 ((nI lb.length).toInt64)))))]) := hD
  refine lv_goto (tgt := 21) hx hb dL_entries_9 rfl ?_
  refine lv_iconst (v := 0) hx hb dL_entries_21 (by decide) ?_
  refine W.widen (k := 1) (n := 6) (Nat.zero_le _) (Nat.zero_le _) ?_
  exact W.iret (v := 0) hx hb hr (fun t ht hW => ⟨⟨0, ((x1, x2, x3, x4, x5, x6), vp_updL of 0 (nI lb.length).toInt64), rfl, Or.inl (⟨rfl, hop, j, lb, ⟨hj, hxj⟩, hlb, rfl⟩), by rw [ht]; exact hP, va_K.moved hW.alike hK, hD⟩, hS.F ht⟩) hS.2.2 dL_entries_22

abbrev wsL_key : List Cond := .codeWith yL_key cL_key 5 (some .int) [(0, 10, 13, 15), (0, 10, 17, 21), (0, 10, 21, 35)] :: wsG
set_option maxHeartbeats 4000000 in
set_option maxRecDepth 100000 in
theorem cL_key_m (l : Launch) (hnt : l.stackTraces = false) (dC : Nat → ClassId) (dI : Nat → Nat → Nat) (ca : Nat → ClassId) (ad : Nat → Nat) (kf : Nat → Int32) (vf : Nat → Int64) (bf : Nat → Int32) (w : Int32) (op : Int32) (ln : Int32) (nx : Int32) (en : Int32) (ok : Int32) (tf : Nat → Int32) (nb : Int32) (ef : Nat → Int32) (ff : Nat → Int32) (fi : Int32) (ek : Int32) (ev : Int64) (oa : Nat) (oc : ClassId) (of : Nat → Int64) (lr : List (Nat × Nat)) (x y : Int32) (hopen : ¬ op = 0 → nb = nI lr.length ∧ lr.length ≤ 2444 ∧ px_rows 0 0 lr ef ff ∧ px_sum lr ≤ 4889) : ∀ sz : Nat, Met l yL_key wsL_key ({ frames := 8, cells := 1, slots := 6, locals := 138 } : Room) (va_Pc [.ref (ad 0), .int x, .int y, .ref oa] (xP (dC, dI) (xt ca ++ [(oc, .long)]) (xw ad ca kf vf bf w op ln nx en ok tf nb ef ff fi ek ev ++ [(oa, .inl (oc, 1, .inr (.inl of)))]) sz)) (va_Qi (S := (Int32 × Int32 × Int32 × Int32 × Int32 × Int64) × (Nat → Int64)) (fun r u => (r = 0 ∧ ¬ op = 0 ∧ ∃ j lb i, (j < lr.length ∧ x = nI j) ∧ pe_of tf lr j = some lb ∧ i < lb.length ∧ y = nI i ∧ u.2 = vp_updL of 0 ((lb.getD i (0, 0)).1).toInt64) ∨ (r = 1 ∧ op = 0 ∧ u.2 = of) ∨ (r = 2 ∧ ¬ op = 0 ∧ sp_in x lr.length = false ∧ u.2 = of) ∨ (r = 3 ∧ ¬ op = 0 ∧ (∃ j, (j < lr.length ∧ x = nI j) ∧ pe_of tf lr j = none) ∧ u.2 = of) ∨ (r = 2 ∧ ¬ op = 0 ∧ (∃ j lb, (j < lr.length ∧ x = nI j) ∧ pe_of tf lr j = some lb ∧ sp_in y lb.length = false) ∧ u.2 = of)) (fun u t => xB (dC, dI) (xt ca ++ [(oc, .long)]) (va_A (xw ad ca kf vf bf w op ln nx en ok tf nb ef ff fi ek ev ++ [(oa, .inl (oc, 1, .inr (.inl of)))]) sz) (xw ad ca kf vf bf w op ln u.1.1 u.1.2.1 u.1.2.2.1 tf nb ef ff u.1.2.2.2.1 u.1.2.2.2.2.1 u.1.2.2.2.2.2 ++ [(oa, .inl (oc, 1, .inr (.inl u.2)))]) t) (va_A (xw ad ca kf vf bf w op ln nx en ok tf nb ef ff fi ek ev ++ [(oa, .inl (oc, 1, .inr (.inl of)))]) sz)) 1 6 (va_A (xw ad ca kf vf bf w op ln nx en ok tf nb ef ff fi ek ev ++ [(oa, .inl (oc, 1, .inr (.inl of)))]) sz) := by
  intro sz
  refine va_MetW (cc := cL_key) (maxL := 5) (ret := some .int) (by decide) rfl ?_
  intro p e s m args below meth c s₁ B hml hv
  obtain ⟨rfl, hsz, hP, hK, hD0, hE⟩ := hv
  have hx := B.exec
  have hb := B.bytes
  have hr := B.returns
  have hts := atoms_spec (ws := wsL_key) B.pre
  have hown : s.vm.findClass RL = some m.cls := findClass_of_methodNamed B.named
  have hlocks := B.notSynchronized
  have htab := vx_table (x := yL_key) B (hts _ List.mem_cons_self)
  subst hsz
  have hD := hD0.self (sz := s.heap.size)
  generalize hAe : va_A (xw ad ca kf vf bf w op ln nx en ok tf nb ef ff fi ek ev ++ [(oa, .inl (oc, 1, .inr (.inl of)))]) s.heap.size = A at hD hE ⊢
  have hA : ∀ q : Nat, s.heap.size ≤ q → A q := fun q h => by rw [← hAe]; exact Or.inr h
  have hS : va_S A s.heap s.heap [] := va_S.rf
  have hl := lv_entry ([.ref (ad 0), .int x, .int y, .ref oa]) (n := 5) (Nat.le_of_ble_eq_true rfl)
  rw [lg_entry_eq]
  generalize (lg_sl ([.ref (ad 0), .int x, .int y, .ref oa]) ++ List.replicate (5 - (lg_sl ([.ref (ad 0), .int x, .int y, .ref oa])).length) Slot.unset).toArray = ls at hl ⊢
  have hl : lv_has ls 5 [(0, .ref (ad 0)), (1, .int x), (2, .int y), (3, .ref oa)] := hl
  refine lv_aload_n hx hb dL_key_0 rfl (lv_at hl 3 rfl) ?_
  refine lv_iconst (v := nI 0) hx hb dL_key_1 (by decide) ?_
  refine lv_aload_n hx hb dL_key_2 rfl (lv_at hl 0 rfl) ?_
  refine lv_iload_n hx hb dL_key_3 rfl (lv_at hl 1 rfl) ?_
  refine lv_iload_n hx hb dL_key_4 rfl (lv_at hl 2 rfl) ?_
  have hP1 : va_P (dC, dI) vwCl (xw ad ca kf vf bf w op ln nx en ok tf nb ef ff fi ek ev) s.heap := xf_pl hP
  have hP2 := xf_pr hP
  have hK1 : va_K (dC, dI) vwCl (xt ca) s := hK.sub [0, 1, 2, 3, 4, 5, 6, 7] rfl
  refine xfx_i (vx_runV (As := [.int x, .int y]) (rest := [.int (nI 0), .ref oa]) ⟨hx, hb, hml, hown, hts⟩ (cX3_key_m l hnt dC dI ca ad kf vf bf w op ln nx en ok tf nb ef ff fi ek ev lr x y hopen _) (cwV 2 hts (xg_V mb_methodLink_RL_46 mb_instanceMethod_yX3_key mb_selects_yX3_key mb_initialized_RX3 mb_code_yX3_key) rfl rfl rfl ⟨rfl, by decide, by decide, by decide +kernel⟩ ⟨Nat.le_of_ble_eq_true rfl, Nat.le_of_ble_eq_true rfl⟩) (xpreV (va_recv (q0 := 0) hK1 hP1 rfl rfl) hK1 hP1 (xf_l hD) hS hA hE) rfl rfl hl.1 rfl (lv_room (Nat.le_of_ble_eq_true rfl)) dL_key_5 ⟨Nat.le_of_ble_eq_true rfl, Nat.le_of_ble_eq_true rfl⟩) hD hP2 hS hA rfl (fun E ce q9 u H locs hX hP hD hS hce hcv hcl => ?_) (fun r u H locs hu hP hD hS => ?_)
  · obtain ⟨x1, x2, x3, x4, x5, x6⟩ := u
    dsimp only at hX hP hD
    rcases hX with hX | hX | hX | hX
    · obtain ⟨rfl, hX⟩ := hX
      refine vx_catch (name := "java/lang/IllegalStateException") hown [] (⟨0, 10, 13, 15⟩ : ExceptionTableEntry) [(⟨0, 10, 17, 21⟩ : ExceptionTableEntry), (⟨0, 10, 21, 35⟩ : ExceptionTableEntry)] (htab.trans rfl) (fun z hz => nomatch hz) (by decide) (by decide) (xg_w hts (wsG_t (i := 173) rfl rfl)) (xn_w (w := .castable "java/lang/IllegalStateException" "java/lang/IllegalStateException") (i := 180) hE rfl rfl rfl) hce hcv hcl ?_
      have hP : va_P (dC, dI) vwCl (xw ad ca kf vf bf w op ln x1 x2 x3 tf nb ef ff x4 x5 x6 ++ [(oa, .inl (oc, 1, .inr (.inl of)))]) H := hP
      have hD : va_D A (xw ad ca kf vf bf w op ln x1 x2 x3 tf nb ef ff x4 x5 x6 ++ [(oa, .inl (oc, 1, .inr (.inl of)))]) := hD
      refine lv_astore hx hb dL_key_13 hl (by decide) rfl (fun ls hl => ?_)
      have hl : lv_has ls 5 [(4, .ref q9), (0, .ref (ad 0)), (1, .int x), (2, .int y), (3, .ref oa)] := hl
      refine lv_iconst (v := 1) hx hb dL_key_15 (by decide) ?_
      exact W.iret (v := 1) hx hb hr (fun t ht hW => ⟨⟨1, ((x1, x2, x3, x4, x5, x6), of), rfl, Or.inr (Or.inl (⟨rfl, hX, rfl⟩)), by rw [ht]; exact hP, va_K.moved hW.alike hK, hD⟩, hS.F ht⟩) hS.2.2 dL_key_16
    · obtain ⟨hop, rfl, hX⟩ := hX
      refine vx_catch (name := "java/lang/IndexOutOfBoundsException") hown [(⟨0, 10, 13, 15⟩ : ExceptionTableEntry)] (⟨0, 10, 17, 21⟩ : ExceptionTableEntry) [(⟨0, 10, 21, 35⟩ : ExceptionTableEntry)] (htab.trans rfl) (fun z hz => by
          simp only [List.mem_cons, List.not_mem_nil, or_false] at hz
          rcases hz with rfl
          · exact Or.inr ⟨by decide, "java/lang/IllegalStateException", xg_w hts (wsG_t (i := 173) rfl rfl), hE.2.2.2.2.1 ("java/lang/IndexOutOfBoundsException", "java/lang/IllegalStateException") (List.mem_of_getElem? (i := 15) rfl)⟩) (by decide) (by decide) (xg_w hts (wsG_t (i := 266) rfl rfl)) (xn_w (w := .castable "java/lang/IndexOutOfBoundsException" "java/lang/IndexOutOfBoundsException") (i := 277) hE rfl rfl rfl) hce hcv hcl ?_
      have hP : va_P (dC, dI) vwCl (xw ad ca kf vf bf w op ln x1 x2 x3 tf nb ef ff x4 x5 x6 ++ [(oa, .inl (oc, 1, .inr (.inl of)))]) H := hP
      have hD : va_D A (xw ad ca kf vf bf w op ln x1 x2 x3 tf nb ef ff x4 x5 x6 ++ [(oa, .inl (oc, 1, .inr (.inl of)))]) := hD
      refine lv_astore hx hb dL_key_17 hl (by decide) rfl (fun ls hl => ?_)
      have hl : lv_has ls 5 [(4, .ref q9), (0, .ref (ad 0)), (1, .int x), (2, .int y), (3, .ref oa)] := hl
      refine lv_iconst (v := 2) hx hb dL_key_19 (by decide) ?_
      exact W.iret (v := 2) hx hb hr (fun t ht hW => ⟨⟨2, ((x1, x2, x3, x4, x5, x6), of), rfl, Or.inr (Or.inr (Or.inl (⟨rfl, hop, hX, rfl⟩))), by rw [ht]; exact hP, va_K.moved hW.alike hK, hD⟩, hS.F ht⟩) hS.2.2 dL_key_20
    · obtain ⟨hop, rfl, j, hj, hxj, hX⟩ := hX
      refine vx_catch (name := "java/lang/ArithmeticException") hown [(⟨0, 10, 13, 15⟩ : ExceptionTableEntry), (⟨0, 10, 17, 21⟩ : ExceptionTableEntry)] (⟨0, 10, 21, 35⟩ : ExceptionTableEntry) [] (htab.trans rfl) (fun z hz => by
          simp only [List.mem_cons, List.not_mem_nil, or_false] at hz
          rcases hz with rfl | rfl
          · exact Or.inr ⟨by decide, "java/lang/IllegalStateException", xg_w hts (wsG_t (i := 173) rfl rfl), hE.2.2.2.2.1 ("java/lang/ArithmeticException", "java/lang/IllegalStateException") (List.mem_of_getElem? (i := 16) rfl)⟩
          · exact Or.inr ⟨by decide, "java/lang/IndexOutOfBoundsException", xg_w hts (wsG_t (i := 266) rfl rfl), hE.2.2.2.2.1 ("java/lang/ArithmeticException", "java/lang/IndexOutOfBoundsException") (List.mem_of_getElem? (i := 25) rfl)⟩) (by decide) (by decide) (xg_w hts (wsG_t (i := 310) rfl rfl)) (xn_w (w := .castable "java/lang/ArithmeticException" "java/lang/ArithmeticException") (i := 354) hE rfl rfl rfl) hce hcv hcl ?_
      have hP : va_P (dC, dI) vwCl (xw ad ca kf vf bf w op ln x1 x2 x3 tf nb ef ff x4 x5 x6 ++ [(oa, .inl (oc, 1, .inr (.inl of)))]) H := hP
      have hD : va_D A (xw ad ca kf vf bf w op ln x1 x2 x3 tf nb ef ff x4 x5 x6 ++ [(oa, .inl (oc, 1, .inr (.inl of)))]) := hD
      refine lv_astore hx hb dL_key_21 hl (by decide) rfl (fun ls hl => ?_)
      have hl : lv_has ls 5 [(4, .ref q9), (0, .ref (ad 0)), (1, .int x), (2, .int y), (3, .ref oa)] := hl
      refine lv_iconst (v := 3) hx hb dL_key_23 (by decide) ?_
      exact W.iret (v := 3) hx hb hr (fun t ht hW => ⟨⟨3, ((x1, x2, x3, x4, x5, x6), of), rfl, Or.inr (Or.inr (Or.inr (Or.inl (⟨rfl, hop, ⟨j, ⟨hj, hxj⟩, hX⟩, rfl⟩)))), by rw [ht]; exact hP, va_K.moved hW.alike hK, hD⟩, hS.F ht⟩) hS.2.2 dL_key_24
    · obtain ⟨hop, rfl, j, hj, hxj, lb, hlb, hX⟩ := hX
      refine vx_catch (name := "java/lang/IndexOutOfBoundsException") hown [(⟨0, 10, 13, 15⟩ : ExceptionTableEntry)] (⟨0, 10, 17, 21⟩ : ExceptionTableEntry) [(⟨0, 10, 21, 35⟩ : ExceptionTableEntry)] (htab.trans rfl) (fun z hz => by
          simp only [List.mem_cons, List.not_mem_nil, or_false] at hz
          rcases hz with rfl
          · exact Or.inr ⟨by decide, "java/lang/IllegalStateException", xg_w hts (wsG_t (i := 173) rfl rfl), hE.2.2.2.2.1 ("java/lang/IndexOutOfBoundsException", "java/lang/IllegalStateException") (List.mem_of_getElem? (i := 15) rfl)⟩) (by decide) (by decide) (xg_w hts (wsG_t (i := 266) rfl rfl)) (xn_w (w := .castable "java/lang/IndexOutOfBoundsException" "java/lang/IndexOutOfBoundsException") (i := 277) hE rfl rfl rfl) hce hcv hcl ?_
      have hP : va_P (dC, dI) vwCl (xw ad ca kf vf bf w op ln x1 x2 x3 tf nb ef ff x4 x5 x6 ++ [(oa, .inl (oc, 1, .inr (.inl of)))]) H := hP
      have hD : va_D A (xw ad ca kf vf bf w op ln x1 x2 x3 tf nb ef ff x4 x5 x6 ++ [(oa, .inl (oc, 1, .inr (.inl of)))]) := hD
      refine lv_astore hx hb dL_key_17 hl (by decide) rfl (fun ls hl => ?_)
      have hl : lv_has ls 5 [(4, .ref q9), (0, .ref (ad 0)), (1, .int x), (2, .int y), (3, .ref oa)] := hl
      refine lv_iconst (v := 2) hx hb dL_key_19 (by decide) ?_
      exact W.iret (v := 2) hx hb hr (fun t ht hW => ⟨⟨2, ((x1, x2, x3, x4, x5, x6), of), rfl, Or.inr (Or.inr (Or.inr (Or.inr (⟨rfl, hop, ⟨j, lb, ⟨hj, hxj⟩, hlb, hX⟩, rfl⟩)))), by rw [ht]; exact hP, va_K.moved hW.alike hK, hD⟩, hS.F ht⟩) hS.2.2 dL_key_20
  obtain ⟨x1, x2, x3, x4, x5, x6⟩ := u
  dsimp only at hu hP hD
  obtain ⟨hop, j, hj, hxj, lb, i, hlb, hi, hyi, rfl⟩ := hu
  have hP : va_P (dC, dI) vwCl (xw ad ca kf vf bf w op ln x1 x2 x3 tf nb ef ff x4 x5 x6 ++ [(oa, .inl (oc, 1, .inr (.inl of)))]) H := hP
  have hD : va_D A (xw ad ca kf vf bf w op ln x1 x2 x3 tf nb ef ff x4 x5 x6 ++ [(oa, .inl (oc, 1, .inr (.inl of)))]) := hD
  refine lv_i2l (v := ((lb.getD i (0, 0)).1).toInt64) hx hb dL_key_8 (rfl) ?_
  refine va_last hx hb hK hP hD hS 10 8 rfl rfl (vp_in_nI (by decide) (by decide)) dL_key_9 (fun H locs hP hD hS => ?_)
  have e9 : vp_updL of (nI 0).toNatClampNeg (((lb.getD i (0, 0)).1).toInt64) = vp_updL of 0 (((lb.getD i (0, 0)).1).toInt64) := by rw [nI_clamp (by decide)]
  rw [e9] at hP hD
  clear e9
  have hP : va_P (dC, dI) vwCl (xw ad ca kf vf bf w op ln x1 x2 x3 tf nb ef ff x4 x5 x6 ++ [(oa, .inl (oc, 1, .inr (.inl (vp_updL of 0 (((lb.getD i (0, 0)).1).toInt64)))))]) H := hP
  have hD : va_D A (xw ad ca kf vf bf w op ln x1 x2 x3 tf nb ef ff x4 x5 x6 ++ [(oa, .inl (oc, 1, .inr (.inl (vp_updL of 0 (((lb.getD i (0, 0)).1).toInt64)))))]) := hD
  refine lv_goto (tgt := 25) hx hb dL_key_10 rfl ?_
  refine lv_iconst (v := 0) hx hb dL_key_25 (by decide) ?_
  refine W.widen (k := 1) (n := 6) (Nat.zero_le _) (Nat.zero_le _) ?_
  exact W.iret (v := 0) hx hb hr (fun t ht hW => ⟨⟨0, ((x1, x2, x3, x4, x5, x6), vp_updL of 0 ((lb.getD i (0, 0)).1).toInt64), rfl, Or.inl (⟨rfl, hop, j, lb, i, ⟨hj, hxj⟩, hlb, hi, hyi, rfl⟩), by rw [ht]; exact hP, va_K.moved hW.alike hK, hD⟩, hS.F ht⟩) hS.2.2 dL_key_26
