/-! Table, sums and numbers read (rows by wip/whole/wtab.py) -/
set_option maxHeartbeats 4000000 in
set_option maxRecDepth 100000 in
theorem lpX2_hasSum_go {p : Program} {l : Launch} {e : Env} {s : State} {m : MethodId} {args : Array Value} {below : List Frame} {meth : Method} {c : Code} {Q : State → Prop} {A : Nat → Prop} {dC : Nat → ClassId} {dI : Nat → Nat → Nat} {ca : Nat → ClassId} {ad : Nat → Nat} (hx : p.tables.exec = Jvm.exec) (hb : c.code = cX2_hasSum) (hml : c.maxLocals = 5) (hown : s.vm.findClass RX2 = some m.cls) (hts : ∀ w ∈ wsX2_hasSum, w.before args s = true) (hK : va_K (dC, dI) vwCl (xt ca) s) (hA : ∀ q : Nat, s.heap.size ≤ q → A q) (hE : xn_E A s) {kf : Nat → Int32} {vf : Nat → Int64} {bf : Nat → Int32} {w : Int32} {op : Int32} {ln : Int32} {nx : Int32} {en : Int32} {ok : Int32} {tf : Nat → Int32} {nb : Int32} {ef : Nat → Int32} {ff : Nat → Int32} {fi : Int32} {ek : Int32} {ev : Int64} {a b : Nat} {x : Int32} (hb9 : b + 4 ≤ 4889) : ∀ (k : Nat)  (H : Heap) (locs : List Loc) (ls : Array Slot), k ≤ 4 → (∀ j, j < 4 - k → pb_ub tf (b + j) = ps_w tf a b / 2 ^ (8 * j) % 256) → lv_has ls 5 [(4, .int (nI (4 - k))), (3, .int (nI (ps_w tf a b))), (0, .ref (ad 4)), (1, .int x), (2, .int (nI b))] → va_P (dC, dI) vwCl (xw ad ca kf vf bf w op ln nx en ok tf nb ef ff fi ek ev) H → va_D A (xw ad ca kf vf bf w op ln nx en ok tf nb ef ff fi ek ev) → va_S A s.heap H locs → (ps_has tf a b → ∀ (H : Heap) (locs : List Loc) (ls : Array Slot), va_P (dC, dI) vwCl (xw ad ca kf vf bf w op ln nx en ok tf nb ef ff fi ek ev) H → va_D A (xw ad ca kf vf bf w op ln nx en ok tf nb ef ff fi ek ev) → va_S A s.heap H locs → W p l e ({ frames := 2, cells := 0, slots := 0, locals := 45 } : Room) s m args below meth c H locs 0 0 Q (F0 m 46 ls [])) → (¬ ps_has tf a b → ∀ (H : Heap) (locs : List Loc) (ls : Array Slot), va_P (dC, dI) vwCl (xw ad ca kf vf bf w op ln nx en ok tf nb ef ff fi ek ev) H → va_D A (xw ad ca kf vf bf w op ln nx en ok tf nb ef ff fi ek ev) → va_S A s.heap H locs → W p l e ({ frames := 2, cells := 0, slots := 0, locals := 45 } : Room) s m args below meth c H locs 0 0 Q (F0 m 38 ls [])) → W p l e ({ frames := 2, cells := 0, slots := 0, locals := 45 } : Room) s m args below meth c H locs 0 0 Q (F0 m 10 ls []) := by
  intro k
  induction k with
  | zero =>
    intro  H locs ls hk hq hl hP hD hS kk kn
    have hl : lv_has ls 5 [(4, .int (nI (4 - 0))), (3, .int (nI (ps_w tf a b))), (0, .ref (ad 4)), (1, .int x), (2, .int (nI b))] := hl
    refine lv_iload hx hb dX2_hasSum_10 (lv_at hl 0 rfl) ?_
    refine lv_iconst (v := nI 4) hx hb dX2_hasSum_12 (by decide) ?_
    refine lv_icmp_ge (tgt := 46) hx hb dX2_hasSum_13 rfl (fun hc => ?_) (fun hc => absurd hc (not_not_intro (by decide)))
    exact kk hq H locs ls hP hD hS
  | succ k ih =>
    intro  H locs ls hk hq hl hP hD hS kk kn
    have hl : lv_has ls 5 [(4, .int (nI (4 - (k + 1)))), (3, .int (nI (ps_w tf a b))), (0, .ref (ad 4)), (1, .int x), (2, .int (nI b))] := hl
    refine lv_iload hx hb dX2_hasSum_10 (lv_at hl 0 rfl) ?_
    refine lv_iconst (v := nI 4) hx hb dX2_hasSum_12 (by decide) ?_
    refine lv_icmp_ge (tgt := 46) hx hb dX2_hasSum_13 rfl (fun hc => absurd hc (by rw [nI_leI (by decide) (by omega)]; omega)) (fun hc => ?_)
    refine lv_aload_n hx hb dX2_hasSum_16 rfl (lv_at hl 2 rfl) ?_
    refine lv_iload_n hx hb dX2_hasSum_17 rfl (lv_at hl 4 rfl) ?_
    refine lv_iload hx hb dX2_hasSum_18 (lv_at hl 0 rfl) ?_
    refine lv_iadd hx hb dX2_hasSum_20 ?_
    refine lv_topi (fun z1 ez1 => ?_)
    have ez1 : z1 = nI (b + (4 - (k + 1))) := ez1.trans (nI_add _ _)
    subst ez1
    refine xk_i (va_runV (As := [.int (nI (b + (4 - (k + 1))))]) (rest := []) ⟨hx, hb, hml, hown, hts⟩ (cX2_byteAt_m l dC dI ca ad kf vf bf w op ln nx en ok tf nb ef ff fi ek ev (b + (4 - (k + 1))) (by omega) _) (cwV 1 hts (xg_V mb_methodLink_RX2_29 mb_instanceMethod_yX2_byteAt mb_selects_yX2_byteAt mb_initialized_RX2 mb_code_yX2_byteAt) rfl rfl rfl ⟨rfl, by decide, by decide, by decide +kernel⟩ ⟨Nat.le_of_ble_eq_true rfl, Nat.le_of_ble_eq_true rfl⟩) (xpreV (va_recv (q0 := 4) hK hP rfl rfl) hK hP hD hS hA hE) rfl rfl hl.1 rfl (lv_room (Nat.le_of_ble_eq_true rfl)) dX2_hasSum_21 ⟨Nat.le_of_ble_eq_true rfl, Nat.le_of_ble_eq_true rfl⟩) hD hS hA (fun r u H locs hu hP hD hS => ?_)
    subst hu
    have hP : va_P (dC, dI) vwCl (xw ad ca kf vf bf w op ln nx en ok tf nb ef ff fi ek ev) H := hP
    have hD : va_D A (xw ad ca kf vf bf w op ln nx en ok tf nb ef ff fi ek ev) := hD
    refine lv_iload_n hx hb dX2_hasSum_24 rfl (lv_at hl 1 rfl) ?_
    refine lv_bipush (v := nI 8) hx hb dX2_hasSum_25 (by decide) ?_
    refine lv_iload hx hb dX2_hasSum_27 (lv_at hl 0 rfl) ?_
    refine lv_imul hx hb dX2_hasSum_29 ?_
    refine lv_topi (fun z2 ez2 => ?_)
    have ez2 : z2 = nI (8 * (4 - (k + 1))) := ez2.trans (pk_mul _ _)
    subst ez2
    refine lv_iushr (v := nI (ps_w tf a b / 2 ^ (8 * (4 - (k + 1))))) hx hb dX2_hasSum_30 (pk_ushrN (n := ps_w tf a b) (ps_w_lt tf a b) _ _ (s_u _ (by omega))) ?_
    refine lv_sipush (v := nI 255) hx hb dX2_hasSum_31 (by decide) ?_
    refine lv_iand hx hb dX2_hasSum_34 ?_
    refine lv_topi (fun z3 ez3 => ?_)
    have ez3 : z3 = nI (ps_w tf a b / 2 ^ (8 * (4 - (k + 1))) % 256) := ez3.trans (pk_andN (n := ps_w tf a b / 2 ^ (8 * (4 - (k + 1)))) (Nat.lt_of_le_of_lt (Nat.div_le_self _ _) (ps_w_lt tf a b)) 8 (by decide))
    subst ez3
    refine lv_icmp_eq (tgt := 40) hx hb dX2_hasSum_35 rfl (fun hc => ?_) (fun hc => ?_)
    · have hc1 : pb_ub tf (b + (4 - (k + 1))) = ps_w tf a b / 2 ^ (8 * (4 - (k + 1))) % 256 := (nI_eq (Nat.lt_trans (pb_ub_lt tf _) (by decide)) (Nat.lt_trans (Nat.mod_lt _ (by decide)) (by decide))).mp hc
      refine lv_iinc (k := 0) (v := nI (4 - k)) hx hb dX2_hasSum_40 hl rfl ((nI_1 _).trans (congrArg nI (by omega))) (by decide) rfl (fun ls hl => ?_)
      have hl : lv_has ls 5 [(4, .int (nI (4 - k))), (3, .int (nI (ps_w tf a b))), (0, .ref (ad 4)), (1, .int x), (2, .int (nI b))] := hl
      refine lv_goto (tgt := 10) hx hb dX2_hasSum_43 rfl ?_
      refine ih _ _ _ (by omega) (fun j hj => ?_) hl hP hD hS kk kn
      by_cases e : j = (4 - (k + 1))
      · subst e; exact hc1
      · exact hq j (by omega)
    · exact kn (fun hh => hc (congrArg nI (hh (4 - (k + 1)) (by omega)))) H locs ls hP hD hS

set_option maxHeartbeats 4000000 in
set_option maxRecDepth 100000 in
theorem cX2_hasSum_m (l : Launch) (dC : Nat → ClassId) (dI : Nat → Nat → Nat) (ca : Nat → ClassId) (ad : Nat → Nat) (kf : Nat → Int32) (vf : Nat → Int64) (bf : Nat → Int32) (w : Int32) (op : Int32) (ln : Int32) (nx : Int32) (en : Int32) (ok : Int32) (tf : Nat → Int32) (nb : Int32) (ef : Nat → Int32) (ff : Nat → Int32) (fi : Int32) (ek : Int32) (ev : Int64) (a b : Nat) (hab : a ≤ b) (hb9 : b + 4 ≤ 4889) : ∀ sz : Nat, Met l yX2_hasSum wsX2_hasSum ({ frames := 2, cells := 0, slots := 0, locals := 45 } : Room) (va_Pc [.ref (ad 4), .int (nI a), .int (nI b)] (xP (dC, dI) (xt ca) (xw ad ca kf vf bf w op ln nx en ok tf nb ef ff fi ek ev) sz)) (va_Qi (S := Unit) (fun r _ => (r = 1 ∧ ps_has tf a b) ∨ (r = 0 ∧ ¬ ps_has tf a b)) (fun u t => xB (dC, dI) (xt ca) (va_A (xw ad ca kf vf bf w op ln nx en ok tf nb ef ff fi ek ev) sz) (xw ad ca kf vf bf w op ln nx en ok tf nb ef ff fi ek ev) t) (va_A (xw ad ca kf vf bf w op ln nx en ok tf nb ef ff fi ek ev) sz)) 0 0 (va_A (xw ad ca kf vf bf w op ln nx en ok tf nb ef ff fi ek ev) sz) := by
  intro sz
  refine Met.ofW (cc := cX2_hasSum) (maxL := 5) (ret := (some .boolean)) (by decide) rfl ?_
  intro p e s m args below meth c s₁ B hml hv
  obtain ⟨rfl, hsz, hP, hK, hD0, hE⟩ := hv
  have hx := B.exec
  have hb := B.bytes
  have hr := B.returns
  have hts := atoms_spec (ws := wsX2_hasSum) B.pre
  have hown : s.vm.findClass RX2 = some m.cls := findClass_of_methodNamed B.named
  have hlocks := B.notSynchronized
  subst hsz
  have hD := hD0.self (sz := s.heap.size)
  generalize hAe : va_A (xw ad ca kf vf bf w op ln nx en ok tf nb ef ff fi ek ev) s.heap.size = A at hD hE ⊢
  have hA : ∀ q : Nat, s.heap.size ≤ q → A q := fun q h => by rw [← hAe]; exact Or.inr h
  have hS : va_S A s.heap s.heap [] := va_S.rf
  have hl := lv_entry ([.ref (ad 4), .int (nI a), .int (nI b)]) (n := 5) (Nat.le_of_ble_eq_true rfl)
  rw [lg_entry_eq]
  generalize (lg_sl ([.ref (ad 4), .int (nI a), .int (nI b)]) ++ List.replicate (5 - (lg_sl ([.ref (ad 4), .int (nI a), .int (nI b)])).length) Slot.unset).toArray = ls at hl ⊢
  have hl : lv_has ls 5 [(0, .ref (ad 4)), (1, .int (nI a)), (2, .int (nI b))] := hl
  refine lv_aload_n hx hb dX2_hasSum_0 rfl (lv_at hl 0 rfl) ?_
  refine lv_iload_n hx hb dX2_hasSum_1 rfl (lv_at hl 1 rfl) ?_
  refine lv_iload_n hx hb dX2_hasSum_2 rfl (lv_at hl 2 rfl) ?_
  refine xk_i (va_runV (As := [.int (nI a), .int (nI b)]) (rest := []) ⟨hx, hb, hml, hown, hts⟩ (cX2_sumOf_m l dC dI ca ad kf vf bf w op ln nx en ok tf nb ef ff fi ek ev a b hab (by omega) _) (cwV 2 hts (xg_V mb_methodLink_RX2_25 mb_instanceMethod_yX2_sumOf mb_selects_yX2_sumOf mb_initialized_RX2 mb_code_yX2_sumOf) rfl rfl rfl ⟨rfl, by decide, by decide, by decide +kernel⟩ ⟨Nat.le_of_ble_eq_true rfl, Nat.le_of_ble_eq_true rfl⟩) (xpreV (va_recv (q0 := 4) hK hP rfl rfl) hK hP hD hS hA hE) rfl rfl hl.1 rfl (lv_room (Nat.le_of_ble_eq_true rfl)) dX2_hasSum_3 ⟨Nat.le_of_ble_eq_true rfl, Nat.le_of_ble_eq_true rfl⟩) hD hS hA (fun r u H locs hu hP hD hS => ?_)
  subst hu
  have hP : va_P (dC, dI) vwCl (xw ad ca kf vf bf w op ln nx en ok tf nb ef ff fi ek ev) H := hP
  have hD : va_D A (xw ad ca kf vf bf w op ln nx en ok tf nb ef ff fi ek ev) := hD
  refine lv_istore_n hx hb dX2_hasSum_6 rfl hl (by decide) rfl (fun ls hl => ?_)
  have hl : lv_has ls 5 [(3, .int (nI (ps_w tf a b))), (0, .ref (ad 4)), (1, .int (nI a)), (2, .int (nI b))] := hl
  refine lv_iconst (v := nI (4 - 4)) hx hb dX2_hasSum_7 (by decide) ?_
  refine lv_istore hx hb dX2_hasSum_8 hl (by decide) rfl (fun ls hl => ?_)
  have hl : lv_has ls 5 [(4, .int (nI (4 - 4))), (3, .int (nI (ps_w tf a b))), (0, .ref (ad 4)), (1, .int (nI a)), (2, .int (nI b))] := hl
  refine lpX2_hasSum_go hx hb hml hown hts hK hA hE (a := a) (b := b) hb9 4 _ _ _ (Nat.le_refl _) (fun j hj => absurd hj (by omega)) hl hP hD hS (fun hh H locs ls hP hD hS => ?_) (fun hh H locs ls hP hD hS => ?_)
  · refine lv_iconst (v := 1) hx hb dX2_hasSum_46 (by decide) ?_
    have hP9 := hP
    have hD9 := hD
    exact W.zret (v := 1) hx hb hr (by rfl) (fun t ht hW => ⟨⟨1, (), rfl, Or.inl ⟨rfl, hh⟩, by rw [ht]; exact hP9, va_K.moved hW.alike hK, hD9⟩, hS.F ht⟩) hS.2.2 dX2_hasSum_47
  · refine lv_iconst (v := 0) hx hb dX2_hasSum_38 (by decide) ?_
    have hP9 := hP
    have hD9 := hD
    exact W.zret (v := 0) hx hb hr (by rfl) (fun t ht hW => ⟨⟨0, (), rfl, Or.inr ⟨rfl, hh⟩, by rw [ht]; exact hP9, va_K.moved hW.alike hK, hD9⟩, hS.F ht⟩) hS.2.2 dX2_hasSum_39

set_option maxHeartbeats 4000000 in
set_option maxRecDepth 100000 in
theorem lpX2_takeNumber_go {p : Program} {l : Launch} {e : Env} {s : State} {m : MethodId} {args : Array Value} {below : List Frame} {meth : Method} {c : Code} {Q : State → Prop} {A : Nat → Prop} {dC : Nat → ClassId} {dI : Nat → Nat → Nat} {ca : Nat → ClassId} {ad : Nat → Nat} (hx : p.tables.exec = Jvm.exec) (hb : c.code = cX2_takeNumber) (hml : c.maxLocals = 5) (hown : s.vm.findClass RX2 = some m.cls) (hts : ∀ w ∈ wsX2_takeNumber, w.before args s = true) (hK : va_K (dC, dI) vwCl (xt ca) s) (hA : ∀ q : Nat, s.heap.size ≤ q → A q) (hE : xn_E A s) {kf : Nat → Int32} {vf : Nat → Int64} {bf : Nat → Int32} {w : Int32} {op : Int32} {ln : Int32} {ok : Int32} {tf : Nat → Int32} {nb : Int32} {ef : Nat → Int32} {ff : Nat → Int32} {fi : Int32} {ek : Int32} {ev : Int64} {b : Nat} (hb9 : b ≤ 4889) : ∀ (k : Nat) (a v : Nat) (H : Heap) (locs : List Loc) (ls : Array Slot), k ≤ 10 → a ≤ b → v < 2 ^ (7 * (10 - k)) → lv_has ls 5 [(3, .int (nI (10 - k))), (1, .long (lN v)), (0, .ref (ad 4))] → va_P (dC, dI) vwCl (xw ad ca kf vf bf w op ln (nI a) (nI b) ok tf nb ef ff fi ek ev) H → va_D A (xw ad ca kf vf bf w op ln (nI a) (nI b) ok tf nb ef ff fi ek ev) → va_S A s.heap H locs → (∀ n a', pb_rdn tf b k (10 - k) a v = some (n, a') → ∀ (H : Heap) (locs : List Loc) (ls : Array Slot), lv_has ls 5 [(1, .long (lN n))] → va_P (dC, dI) vwCl (xw ad ca kf vf bf w op ln (nI a') (nI b) ok tf nb ef ff fi ek ev) H → va_D A (xw ad ca kf vf bf w op ln (nI a') (nI b) ok tf nb ef ff fi ek ev) → va_S A s.heap H locs → W p l e ({ frames := 1, cells := 0, slots := 0, locals := 21 } : Room) s m args below meth c H locs 0 0 Q (F0 m 78 ls [])) → (pb_rdn tf b k (10 - k) a v = none → ∀ a', a ≤ a' → a' ≤ b → ∀ (H : Heap) (locs : List Loc) (ls : Array Slot), lv_has ls 5 [(0, .ref (ad 4))] → va_P (dC, dI) vwCl (xw ad ca kf vf bf w op ln (nI a') (nI b) ok tf nb ef ff fi ek ev) H → va_D A (xw ad ca kf vf bf w op ln (nI a') (nI b) ok tf nb ef ff fi ek ev) → va_S A s.heap H locs → W p l e ({ frames := 1, cells := 0, slots := 0, locals := 21 } : Room) s m args below meth c H locs 0 0 Q (F0 m 86 ls [])) → W p l e ({ frames := 1, cells := 0, slots := 0, locals := 21 } : Room) s m args below meth c H locs 0 0 Q (F0 m 4 ls []) := by
  intro k
  induction k with
  | zero =>
    intro a v H locs ls hk ha hv hl hP hD hS kk kn
    have hl : lv_has ls 5 [(3, .int (nI (10 - 0))), (1, .long (lN v)), (0, .ref (ad 4))] := hl
    refine lv_iload_n hx hb dX2_takeNumber_4 rfl (lv_at hl 0 rfl) ?_
    refine lv_bipush (v := nI 10) hx hb dX2_takeNumber_5 (by decide) ?_
    refine lv_icmp_ge (tgt := 86) hx hb dX2_takeNumber_7 rfl (fun hc => ?_) (fun hc => absurd hc (not_not_intro (by decide)))
    exact kn rfl a (Nat.le_refl _) ha H locs ls (lv_sub hl [2] rfl) hP hD hS
  | succ k ih =>
    intro a v H locs ls hk ha hv hl hP hD hS kk kn
    have hl : lv_has ls 5 [(3, .int (nI (10 - (k + 1)))), (1, .long (lN v)), (0, .ref (ad 4))] := hl
    refine lv_iload_n hx hb dX2_takeNumber_4 rfl (lv_at hl 0 rfl) ?_
    refine lv_bipush (v := nI 10) hx hb dX2_takeNumber_5 (by decide) ?_
    refine lv_icmp_ge (tgt := 86) hx hb dX2_takeNumber_7 rfl (fun hc => absurd hc (by rw [nI_leI (by decide) (by omega)]; omega)) (fun hc => ?_)
    refine lv_aload_n hx hb dX2_takeNumber_10 rfl (lv_at hl 2 rfl) ?_
    refine va_get (D := (dC, dI)) (ci := 2) (v := .int (nI a)) (C := RX2) (T := TX2) (N := 5) (ref := "SortedRun$Table") hx hb hts (xg_u mb_uws_X2) hown hK hP 4 rfl rfl 2 (by decide) (xg_w hts mb_fieldLink_RX2_37) (fun _ h9 => h9) rfl dX2_takeNumber_11 ?_
    refine lv_aload_n hx hb dX2_takeNumber_14 rfl (lv_at hl 2 rfl) ?_
    refine va_get (D := (dC, dI)) (ci := 2) (v := .int (nI b)) (C := RX2) (T := TX2) (N := 5) (ref := "SortedRun$Table") hx hb hts (xg_u mb_uws_X2) hown hK hP 4 rfl rfl 3 (by decide) (xg_w hts mb_fieldLink_RX2_40) (fun _ h9 => h9) rfl dX2_takeNumber_15 ?_
    refine lv_icmp_ge (tgt := 86) hx hb dX2_takeNumber_18 rfl (fun hc => ?_) (fun hc => ?_)
    · have hc1 : b ≤ a := (nI_leI (by omega) (by omega)).mp hc
      exact kn (by unfold pb_rdn; rw [if_neg (by omega)]) a (Nat.le_refl _) ha H locs ls (lv_sub hl [2] rfl) hP hD hS
    · have ha1 : a < b := Nat.lt_of_not_le (fun z => hc ((nI_leI (by omega) (by omega)).mpr z))
      have hu9 := pb_ub_lt tf a
      refine lv_aload_n hx hb dX2_takeNumber_21 rfl (lv_at hl 2 rfl) ?_
      refine lv_aload_n hx hb dX2_takeNumber_22 rfl (lv_at hl 2 rfl) ?_
      refine va_get (D := (dC, dI)) (ci := 2) (v := .int (nI a)) (C := RX2) (T := TX2) (N := 5) (ref := "SortedRun$Table") hx hb hts (xg_u mb_uws_X2) hown hK hP 4 rfl rfl 2 (by decide) (xg_w hts mb_fieldLink_RX2_37) (fun _ h9 => h9) rfl dX2_takeNumber_23 ?_
      refine xk_i (va_runV (As := [.int (nI a)]) (rest := []) ⟨hx, hb, hml, hown, hts⟩ (cX2_byteAt_m l dC dI ca ad kf vf bf w op ln (nI a) (nI b) ok tf nb ef ff fi ek ev a (by omega) _) (cwV 1 hts (xg_V mb_methodLink_RX2_29 mb_instanceMethod_yX2_byteAt mb_selects_yX2_byteAt mb_initialized_RX2 mb_code_yX2_byteAt) rfl rfl rfl ⟨rfl, by decide, by decide, by decide +kernel⟩ ⟨Nat.le_of_ble_eq_true rfl, Nat.le_of_ble_eq_true rfl⟩) (xpreV (va_recv (q0 := 4) hK hP rfl rfl) hK hP hD hS hA hE) rfl rfl hl.1 rfl (lv_room (Nat.le_of_ble_eq_true rfl)) dX2_takeNumber_26 ⟨Nat.le_of_ble_eq_true rfl, Nat.le_of_ble_eq_true rfl⟩) hD hS hA (fun r u H locs hu hP hD hS => ?_)
      subst hu
      have hP : va_P (dC, dI) vwCl (xw ad ca kf vf bf w op ln (nI a) (nI b) ok tf nb ef ff fi ek ev) H := hP
      have hD : va_D A (xw ad ca kf vf bf w op ln (nI a) (nI b) ok tf nb ef ff fi ek ev) := hD
      refine lv_istore hx hb dX2_takeNumber_29 hl (by decide) rfl (fun ls hl => ?_)
      have hl : lv_has ls 5 [(4, .int (nI (pb_ub tf a))), (3, .int (nI (10 - (k + 1)))), (1, .long (lN v)), (0, .ref (ad 4))] := hl
      refine lv_aload_n hx hb dX2_takeNumber_31 rfl (lv_at hl 3 rfl) ?_
      refine lv_dup hx hb dX2_takeNumber_32 rfl ?_
      refine va_get (D := (dC, dI)) (ci := 2) (v := .int (nI a)) (C := RX2) (T := TX2) (N := 5) (ref := "SortedRun$Table") hx hb hts (xg_u mb_uws_X2) hown hK hP 4 rfl rfl 2 (by decide) (xg_w hts mb_fieldLink_RX2_37) (fun _ h9 => h9) rfl dX2_takeNumber_33 ?_
      refine lv_iconst (v := 1) hx hb dX2_takeNumber_36 (by decide) ?_
      refine lv_iadd hx hb dX2_takeNumber_37 ?_
      refine lv_topi (fun z1 ez1 => ?_)
      have ez1 : z1 = nI (a + 1) := ez1.trans (nI_1 a)
      subst ez1
      refine va_put (D := (dC, dI)) (ci := 2) (v := .int (nI (a + 1))) (ty := .int) (C := RX2) (T := TX2) (N := 5) (ref := "SortedRun$Table") hx hb hts (xg_u mb_uws_X2) tyX2 tyX2_ok nmX2 hown hK hP hD hS 4 rfl rfl 2 (by decide) (xg_w hts mb_fieldLink_RX2_37) (fun _ h9 => h9) rfl (by decide +kernel) rfl rfl (Nat.le_of_ble_eq_true rfl) dX2_takeNumber_38 (fun H locs hP hD hS => ?_)
      have hP : va_P (dC, dI) vwCl (xw ad ca kf vf bf w op ln (nI (a + 1)) (nI b) ok tf nb ef ff fi ek ev) H := hP
      have hD : va_D A (xw ad ca kf vf bf w op ln (nI (a + 1)) (nI b) ok tf nb ef ff fi ek ev) := hD
      refine lv_iload_n hx hb dX2_takeNumber_41 rfl (lv_at hl 1 rfl) ?_
      refine lv_bipush (v := nI 9) hx hb dX2_takeNumber_42 (by decide) ?_
      refine lv_icmp_ne (tgt := 56) hx hb dX2_takeNumber_44 rfl (fun hc1 => ?_) (fun hc1 => ?_)
      · have hc1 : ¬ (10 - (k + 1)) = 9 := fun z => hc1 (congrArg nI z)
        refine lv_lload_n hx hb dX2_takeNumber_56 rfl (lv_at hl 2 rfl) ?_
        refine lv_iload hx hb dX2_takeNumber_57 (lv_at hl 0 rfl) ?_
        refine lv_bipush (v := nI 127) hx hb dX2_takeNumber_59 (by decide) ?_
        refine lv_iand hx hb dX2_takeNumber_61 ?_
        refine lv_topi (fun z2 ez2 => ?_)
        have ez2 : z2 = nI (pb_ub tf a % 128) := ez2.trans (pk_andN (n := pb_ub tf a) (Nat.lt_trans hu9 (by decide)) 7 (by decide))
        subst ez2
        refine lv_i2l (v := lN (pb_ub tf a % 128)) hx hb dX2_takeNumber_62 (nI_l (Nat.lt_trans (Nat.mod_lt _ (by decide)) (by decide))) ?_
        refine lv_bipush (v := nI 7) hx hb dX2_takeNumber_63 (by decide) ?_
        refine lv_iload_n hx hb dX2_takeNumber_65 rfl (lv_at hl 1 rfl) ?_
        refine lv_imul hx hb dX2_takeNumber_66 ?_
        refine lv_topi (fun z3 ez3 => ?_)
        have ez3 : z3 = nI (7 * (10 - (k + 1))) := ez3.trans (pk_mul _ _)
        subst ez3
        refine lv_lshl (v := lN (pb_ub tf a % 128 * 2 ^ (7 * (10 - (k + 1))))) hx hb dX2_takeNumber_67 (wb_shl _ (k := 7 * (10 - (k + 1))) (by omega)) ?_
        refine lv_ladd hx hb dX2_takeNumber_68 ?_
        refine lv_topl (fun z4 ez4 => ?_)
        have ez4 : z4 = lN (v + pb_ub tf a % 128 * 2 ^ (7 * (10 - (k + 1)))) := ez4.trans (lN_add _ _)
        subst ez4
        refine lv_lstore_n hx hb dX2_takeNumber_69 rfl hl (by decide) rfl (fun ls hl => ?_)
        have hl : lv_has ls 5 [(1, .long (lN (v + pb_ub tf a % 128 * 2 ^ (7 * (10 - (k + 1)))))), (4, .int (nI (pb_ub tf a))), (3, .int (nI (10 - (k + 1)))), (0, .ref (ad 4))] := hl
        refine lv_iload hx hb dX2_takeNumber_70 (lv_at hl 1 rfl) ?_
        refine lv_sipush (v := nI 128) hx hb dX2_takeNumber_72 (by decide) ?_
        refine lv_icmp_ge (tgt := 80) hx hb dX2_takeNumber_75 rfl (fun hc3 => ?_) (fun hc3 => ?_)
        · have hc3 : 128 ≤ pb_ub tf a := (nI_leI (by decide) (Nat.lt_trans hu9 (by decide))).mp hc3
          refine lv_iinc (k := 2) (v := nI (10 - k)) hx hb dX2_takeNumber_80 hl rfl ((nI_1 _).trans (congrArg nI (by omega))) (by decide) rfl (fun ls hl => ?_)
          have hl : lv_has ls 5 [(3, .int (nI (10 - k))), (1, .long (lN (v + pb_ub tf a % 128 * 2 ^ (7 * (10 - (k + 1)))))), (4, .int (nI (pb_ub tf a))), (0, .ref (ad 4))] := hl
          refine lv_goto (tgt := 4) hx hb dX2_takeNumber_83 rfl ?_
          have hr : pb_rdn tf b (k + 1) (10 - (k + 1)) a v = pb_rdn tf b k (10 - k) (a + 1) (v + pb_ub tf a % 128 * 2 ^ (7 * (10 - (k + 1)))) := by
            conv => lhs; unfold pb_rdn
            rw [if_pos ha1, if_neg (by omega : ¬ ((10 - (k + 1)) = 9 ∧ 1 < pb_ub tf a)), if_neg (by omega), show (10 - (k + 1)) + 1 = 10 - k by omega]
          rw [hr] at kk kn
          have hv2 : v + pb_ub tf a % 128 * 2 ^ (7 * (10 - (k + 1))) < 2 ^ (7 * (10 - k)) := by
            have h1 : 2 ^ (7 * (10 - k)) = 128 * 2 ^ (7 * (10 - (k + 1))) := by rw [show 7 * (10 - k) = 7 * (10 - (k + 1)) + 7 by omega, Nat.pow_add, Nat.mul_comm]
            have h2 : pb_ub tf a % 128 * 2 ^ (7 * (10 - (k + 1))) ≤ 127 * 2 ^ (7 * (10 - (k + 1))) := Nat.mul_le_mul_right _ (by omega)
            rw [h1]; omega
          exact ih (a + 1) _ _ _ _ (by omega) (by omega) hv2 (lv_sub hl [0, 1, 3] rfl) hP hD hS kk (fun hn a' h1 h2 => kn hn a' (by omega) h2)
        · have hc3 : pb_ub tf a < 128 := Nat.lt_of_not_le (fun z => hc3 ((nI_leI (by decide) (Nat.lt_trans hu9 (by decide))).mpr z))
          refine kk (v + pb_ub tf a % 128 * 2 ^ (7 * (10 - (k + 1)))) (a + 1) ?_ H locs ls (lv_sub hl [0] rfl) hP hD hS
          unfold pb_rdn
          rw [if_pos ha1, if_neg (by omega : ¬ ((10 - (k + 1)) = 9 ∧ 1 < pb_ub tf a)), if_pos hc3]
      · have hc1 : (10 - (k + 1)) = 9 := (nI_eq (by omega) (by decide)).mp hc1
        refine lv_iload hx hb dX2_takeNumber_47 (lv_at hl 0 rfl) ?_
        refine lv_iconst (v := nI 1) hx hb dX2_takeNumber_49 (by decide) ?_
        refine lv_icmp_le (tgt := 56) hx hb dX2_takeNumber_50 rfl (fun hc2 => ?_) (fun hc2 => ?_)
        · have hc2 : pb_ub tf a ≤ 1 := (nI_leI (Nat.lt_trans hu9 (by decide)) (by decide)).mp hc2
          refine lv_lload_n hx hb dX2_takeNumber_56 rfl (lv_at hl 2 rfl) ?_
          refine lv_iload hx hb dX2_takeNumber_57 (lv_at hl 0 rfl) ?_
          refine lv_bipush (v := nI 127) hx hb dX2_takeNumber_59 (by decide) ?_
          refine lv_iand hx hb dX2_takeNumber_61 ?_
          refine lv_topi (fun z2 ez2 => ?_)
          have ez2 : z2 = nI (pb_ub tf a % 128) := ez2.trans (pk_andN (n := pb_ub tf a) (Nat.lt_trans hu9 (by decide)) 7 (by decide))
          subst ez2
          refine lv_i2l (v := lN (pb_ub tf a % 128)) hx hb dX2_takeNumber_62 (nI_l (Nat.lt_trans (Nat.mod_lt _ (by decide)) (by decide))) ?_
          refine lv_bipush (v := nI 7) hx hb dX2_takeNumber_63 (by decide) ?_
          refine lv_iload_n hx hb dX2_takeNumber_65 rfl (lv_at hl 1 rfl) ?_
          refine lv_imul hx hb dX2_takeNumber_66 ?_
          refine lv_topi (fun z3 ez3 => ?_)
          have ez3 : z3 = nI (7 * (10 - (k + 1))) := ez3.trans (pk_mul _ _)
          subst ez3
          refine lv_lshl (v := lN (pb_ub tf a % 128 * 2 ^ (7 * (10 - (k + 1))))) hx hb dX2_takeNumber_67 (wb_shl _ (k := 7 * (10 - (k + 1))) (by omega)) ?_
          refine lv_ladd hx hb dX2_takeNumber_68 ?_
          refine lv_topl (fun z4 ez4 => ?_)
          have ez4 : z4 = lN (v + pb_ub tf a % 128 * 2 ^ (7 * (10 - (k + 1)))) := ez4.trans (lN_add _ _)
          subst ez4
          refine lv_lstore_n hx hb dX2_takeNumber_69 rfl hl (by decide) rfl (fun ls hl => ?_)
          have hl : lv_has ls 5 [(1, .long (lN (v + pb_ub tf a % 128 * 2 ^ (7 * (10 - (k + 1)))))), (4, .int (nI (pb_ub tf a))), (3, .int (nI (10 - (k + 1)))), (0, .ref (ad 4))] := hl
          refine lv_iload hx hb dX2_takeNumber_70 (lv_at hl 1 rfl) ?_
          refine lv_sipush (v := nI 128) hx hb dX2_takeNumber_72 (by decide) ?_
          refine lv_icmp_ge (tgt := 80) hx hb dX2_takeNumber_75 rfl (fun hc3 => ?_) (fun hc3 => ?_)
          · have hc3 : 128 ≤ pb_ub tf a := (nI_leI (by decide) (Nat.lt_trans hu9 (by decide))).mp hc3
            refine lv_iinc (k := 2) (v := nI (10 - k)) hx hb dX2_takeNumber_80 hl rfl ((nI_1 _).trans (congrArg nI (by omega))) (by decide) rfl (fun ls hl => ?_)
            have hl : lv_has ls 5 [(3, .int (nI (10 - k))), (1, .long (lN (v + pb_ub tf a % 128 * 2 ^ (7 * (10 - (k + 1)))))), (4, .int (nI (pb_ub tf a))), (0, .ref (ad 4))] := hl
            refine lv_goto (tgt := 4) hx hb dX2_takeNumber_83 rfl ?_
            have hr : pb_rdn tf b (k + 1) (10 - (k + 1)) a v = pb_rdn tf b k (10 - k) (a + 1) (v + pb_ub tf a % 128 * 2 ^ (7 * (10 - (k + 1)))) := by
              conv => lhs; unfold pb_rdn
              rw [if_pos ha1, if_neg (by omega : ¬ ((10 - (k + 1)) = 9 ∧ 1 < pb_ub tf a)), if_neg (by omega), show (10 - (k + 1)) + 1 = 10 - k by omega]
            rw [hr] at kk kn
            have hv2 : v + pb_ub tf a % 128 * 2 ^ (7 * (10 - (k + 1))) < 2 ^ (7 * (10 - k)) := by
              have h1 : 2 ^ (7 * (10 - k)) = 128 * 2 ^ (7 * (10 - (k + 1))) := by rw [show 7 * (10 - k) = 7 * (10 - (k + 1)) + 7 by omega, Nat.pow_add, Nat.mul_comm]
              have h2 : pb_ub tf a % 128 * 2 ^ (7 * (10 - (k + 1))) ≤ 127 * 2 ^ (7 * (10 - (k + 1))) := Nat.mul_le_mul_right _ (by omega)
              rw [h1]; omega
            exact ih (a + 1) _ _ _ _ (by omega) (by omega) hv2 (lv_sub hl [0, 1, 3] rfl) hP hD hS kk (fun hn a' h1 h2 => kn hn a' (by omega) h2)
          · have hc3 : pb_ub tf a < 128 := Nat.lt_of_not_le (fun z => hc3 ((nI_leI (by decide) (Nat.lt_trans hu9 (by decide))).mpr z))
            refine kk (v + pb_ub tf a % 128 * 2 ^ (7 * (10 - (k + 1)))) (a + 1) ?_ H locs ls (lv_sub hl [0] rfl) hP hD hS
            unfold pb_rdn
            rw [if_pos ha1, if_neg (by omega : ¬ ((10 - (k + 1)) = 9 ∧ 1 < pb_ub tf a)), if_pos hc3]
        · have hc2 : 1 < pb_ub tf a := Nat.lt_of_not_le (fun q => hc2 ((nI_leI (Nat.lt_trans hu9 (by decide)) (by decide)).mpr q))
          refine lv_goto (tgt := 86) hx hb dX2_takeNumber_53 rfl ?_
          exact kn (by unfold pb_rdn; rw [if_pos ha1, if_pos ⟨hc1, hc2⟩]) (a + 1) (by omega) (by omega) H locs ls (lv_sub hl [3] rfl) hP hD hS

set_option maxHeartbeats 4000000 in
set_option maxRecDepth 100000 in
theorem cX2_takeNumber_m (l : Launch) (dC : Nat → ClassId) (dI : Nat → Nat → Nat) (ca : Nat → ClassId) (ad : Nat → Nat) (kf : Nat → Int32) (vf : Nat → Int64) (bf : Nat → Int32) (w : Int32) (op : Int32) (ln : Int32) (ok : Int32) (tf : Nat → Int32) (nb : Int32) (ef : Nat → Int32) (ff : Nat → Int32) (fi : Int32) (ek : Int32) (ev : Int64) (a b : Nat) (ha : a ≤ b) (hb9 : b ≤ 4889) : ∀ sz : Nat, Met l yX2_takeNumber wsX2_takeNumber ({ frames := 1, cells := 0, slots := 0, locals := 21 } : Room) (va_Pc [.ref (ad 4)] (xP (dC, dI) (xt ca) (xw ad ca kf vf bf w op ln (nI a) (nI b) ok tf nb ef ff fi ek ev) sz)) (va_Ql (S := Nat × Nat × Int32) (fun r u => r = lN u.1 ∧ u.1 < 2 ^ 64 ∧ a ≤ u.2.1 ∧ u.2.1 ≤ b ∧ ((pb_rd tf b a = some (u.1, u.2.1) ∧ u.2.2 = ok) ∨ (pb_rd tf b a = none ∧ u.2.2 = 0))) (fun u t => xB (dC, dI) (xt ca) (va_A (xw ad ca kf vf bf w op ln (nI a) (nI b) ok tf nb ef ff fi ek ev) sz) (xw ad ca kf vf bf w op ln (nI u.2.1) (nI b) u.2.2 tf nb ef ff fi ek ev) t) (va_A (xw ad ca kf vf bf w op ln (nI a) (nI b) ok tf nb ef ff fi ek ev) sz)) 0 0 (va_A (xw ad ca kf vf bf w op ln (nI a) (nI b) ok tf nb ef ff fi ek ev) sz) := by
  intro sz
  refine Met.ofW (cc := cX2_takeNumber) (maxL := 5) (ret := (some .long)) (by decide) rfl ?_
  intro p e s m args below meth c s₁ B hml hv
  obtain ⟨rfl, hsz, hP, hK, hD0, hE⟩ := hv
  have hx := B.exec
  have hb := B.bytes
  have hr := B.returns
  have hts := atoms_spec (ws := wsX2_takeNumber) B.pre
  have hown : s.vm.findClass RX2 = some m.cls := findClass_of_methodNamed B.named
  have hlocks := B.notSynchronized
  subst hsz
  have hD := hD0.self (sz := s.heap.size)
  generalize hAe : va_A (xw ad ca kf vf bf w op ln (nI a) (nI b) ok tf nb ef ff fi ek ev) s.heap.size = A at hD hE ⊢
  have hA : ∀ q : Nat, s.heap.size ≤ q → A q := fun q h => by rw [← hAe]; exact Or.inr h
  have hS : va_S A s.heap s.heap [] := va_S.rf
  have hl := lv_entry ([.ref (ad 4)]) (n := 5) (Nat.le_of_ble_eq_true rfl)
  rw [lg_entry_eq]
  generalize (lg_sl ([.ref (ad 4)]) ++ List.replicate (5 - (lg_sl ([.ref (ad 4)])).length) Slot.unset).toArray = ls at hl ⊢
  have hl : lv_has ls 5 [(0, .ref (ad 4))] := hl
  refine lv_lconst (v := lN 0) hx hb dX2_takeNumber_0 (by decide) ?_
  refine lv_lstore_n hx hb dX2_takeNumber_1 rfl hl (by decide) rfl (fun ls hl => ?_)
  have hl : lv_has ls 5 [(1, .long (lN 0)), (0, .ref (ad 4))] := hl
  refine lv_iconst (v := nI (10 - 10)) hx hb dX2_takeNumber_2 (by decide) ?_
  refine lv_istore_n hx hb dX2_takeNumber_3 rfl hl (by decide) rfl (fun ls hl => ?_)
  have hl : lv_has ls 5 [(3, .int (nI (10 - 10))), (1, .long (lN 0)), (0, .ref (ad 4))] := hl
  refine lpX2_takeNumber_go hx hb hml hown hts hK hA hE hb9 10 a 0 _ _ _ (Nat.le_refl _) ha (by decide) (lv_sub hl [0, 1, 2] rfl) hP hD hS (fun n a' hn H locs ls hl hP hD hS => ?_) (fun hn a' h1 h2 H locs ls hl hP hD hS => ?_)
  · refine lv_lload_n hx hb dX2_takeNumber_78 rfl (lv_at hl 0 rfl) ?_
    have hP9 := hP
    have hD9 := hD
    exact W.lret (v := lN n) hx hb hr (fun t ht hW => ⟨⟨lN n, (n, a', ok), rfl, ⟨rfl, pb_rd_lt hn, Nat.le_of_lt (pb_rd_in hn).1, (pb_rd_in hn).2, Or.inl ⟨hn, rfl⟩⟩, by rw [ht]; exact hP9, va_K.moved hW.alike hK, hD9⟩, hS.F ht⟩) hS.2.2 dX2_takeNumber_79
  · refine lv_aload_n hx hb dX2_takeNumber_86 rfl (lv_at hl 0 rfl) ?_
    refine lv_iconst (v := 0) hx hb dX2_takeNumber_87 (by decide) ?_
    refine va_put (D := (dC, dI)) (ci := 2) (v := .int 0) (ty := .boolean) (C := RX2) (T := TX2) (N := 5) (ref := "SortedRun$Table") hx hb hts (xg_u mb_uws_X2) tyX2 tyX2_ok nmX2 hown hK hP hD hS 4 rfl rfl 4 (by decide) (xg_w hts mb_fieldLink_RX2_43) (fun _ h9 => h9) rfl (by decide +kernel) rfl rfl (Nat.le_of_ble_eq_true rfl) dX2_takeNumber_88 (fun H locs hP hD hS => ?_)
    have hP : va_P (dC, dI) vwCl (xw ad ca kf vf bf w op ln (nI a') (nI b) 0 tf nb ef ff fi ek ev) H := hP
    have hD : va_D A (xw ad ca kf vf bf w op ln (nI a') (nI b) 0 tf nb ef ff fi ek ev) := hD
    refine lv_lconst (v := lN 0) hx hb dX2_takeNumber_91 (by decide) ?_
    have hP9 := hP
    have hD9 := hD
    exact W.lret (v := lN 0) hx hb hr (fun t ht hW => ⟨⟨lN 0, (0, a', 0), rfl, ⟨rfl, (by decide : (0 : Nat) < 2 ^ 64), h1, h2, Or.inr ⟨hn, rfl⟩⟩, by rw [ht]; exact hP9, va_K.moved hW.alike hK, hD9⟩, hS.F ht⟩) hS.2.2 dX2_takeNumber_92
