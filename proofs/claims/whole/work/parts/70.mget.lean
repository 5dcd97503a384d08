/-! SortedRunModel: get, entries, key (rows by wip/whole/wmod5.py) -/
set_option maxHeartbeats 4000000 in
set_option maxRecDepth 100000 in
theorem lpX4_get_bl {p : Program} {l : Launch} {e : Env} {s : State} {m : MethodId} {args : Array Value} {below : List Frame} {meth : Method} {c : Code} {Q : State → Prop} {A : Nat → Prop} {dC : Nat → ClassId} {dI : Nat → Nat → Nat} {ca : Nat → ClassId} {ad : Nat → Nat} (hx : p.tables.exec = Jvm.exec) (hb : c.code = cX4_get) (hml : c.maxLocals = 4) (hown : s.vm.findClass RX4 = some m.cls) (hts : ∀ w ∈ wsX4_get, w.before args s = true) (hK : va_K (dC, dI) vwCl (xt ca) s) (hA : ∀ q : Nat, s.heap.size ≤ q → A q) (hE : xn_E A s) {kf : Nat → Int32} {vf : Nat → Int64} {tf : Nat → Int32} {fr : Nat → Int32} {sf : Nat → Int32} {fi : Nat → Int32} {bk : Nat → Int32} {bv : Nat → Int64} {w : Int32} {ny : Int32} {nb : Int32} {mn : Int32} {ai : Int32} {en : Int32} {th : Int32} {op : Int32} {wr : Int32} {key : Int32} : ∀ (k : Nat)  (H : Heap) (locs : List Loc) (ls : Array Slot), k ≤ 2444 → lv_has ls 4 [(2, .int (nI k + (-1))), (0, .ref (ad 0)), (1, .int key)] → va_P (dC, dI) vwCl (xm ad ca kf vf tf fr sf fi bk bv w ny nb mn ai en th op wr) H → va_D A (xm ad ca kf vf tf fr sf fi bk bv w ny nb mn ai en th op wr) → va_S A s.heap H locs → (∀ j, px_last fi key k = some j → ∀ (H : Heap) (locs : List Loc) (ls : Array Slot), lv_has ls 4 [(2, .int (nI j)), (0, .ref (ad 0)), (1, .int key)] → va_P (dC, dI) vwCl (xm ad ca kf vf tf fr sf fi bk bv w ny nb mn ai en th op wr) H → va_D A (xm ad ca kf vf tf fr sf fi bk bv w ny nb mn ai en th op wr) → va_S A s.heap H locs → W p l e ({ frames := 3, cells := 0, slots := 0, locals := 75 } : Room) s m args below meth c H locs 0 0 Q (F0 m 52 ls [])) → (px_last fi key k = none → ∀ (H : Heap) (locs : List Loc) (ls : Array Slot), lv_has ls 4 [(2, .int (-1)), (0, .ref (ad 0)), (1, .int key)] → va_P (dC, dI) vwCl (xm ad ca kf vf tf fr sf fi bk bv w ny nb mn ai en th op wr) H → va_D A (xm ad ca kf vf tf fr sf fi bk bv w ny nb mn ai en th op wr) → va_S A s.heap H locs → W p l e ({ frames := 3, cells := 0, slots := 0, locals := 75 } : Room) s m args below meth c H locs 0 0 Q (F0 m 52 ls [])) → W p l e ({ frames := 3, cells := 0, slots := 0, locals := 75 } : Room) s m args below meth c H locs 0 0 Q (F0 m 32 ls []) := by
  intro k
  induction k with
  | zero =>
    intro  H locs ls hk hl hP hD hS kk kn
    have hl : lv_has ls 4 [(2, .int (nI 0 + (-1))), (0, .ref (ad 0)), (1, .int key)] := hl
    refine lv_iload_n hx hb dX4_get_32 rfl (lv_at hl 0 rfl) ?_
    refine lv_if_lt (tgt := 52) hx hb dX4_get_33 rfl (fun hc => ?_) (fun hc => absurd hc (not_not_intro (by decide)))
    exact kn rfl H locs ls hl hP hD hS
  | succ k ih =>
    intro  H locs ls hk hl hP hD hS kk kn
    have hl : lv_has ls 4 [(2, .int (nI (k + 1) + (-1))), (0, .ref (ad 0)), (1, .int key)] := hl
    rw [pk_m1] at hl
    refine lv_iload_n hx hb dX4_get_32 rfl (lv_at hl 0 rfl) ?_
    refine lv_if_lt (tgt := 52) hx hb dX4_get_33 rfl (fun hc => absurd hc (nI_pos (by omega))) (fun hc => ?_)
    refine lv_aload_n hx hb dX4_get_36 rfl (lv_at hl 1 rfl) ?_
    refine va_get (D := (dC, dI)) (ci := 4) (v := .ref (ad 6)) (C := RX4) (T := TX4) (N := 17) (ref := "SortedRunModel") hx hb hts (xg_u mb_uws_X4) hown hK hP 0 rfl rfl 5 (by decide) (xg_w hts mb_fieldLink_RX4_27) (fun _ h9 => h9) rfl dX4_get_37 ?_
    refine lv_iload_n hx hb dX4_get_40 rfl (lv_at hl 0 rfl) ?_
    refine va_iald hx hb hK hP 6 5 rfl rfl (vp_in_nI (by omega) (by decide)) dX4_get_41 ?_
    refine lv_topi (fun z1 ez1 => ?_)
    have ez1 : z1 = fi k := ez1.trans (congrArg fi (nI_clamp (by omega)))
    subst ez1
    refine lv_iload_n hx hb dX4_get_42 rfl (lv_at hl 2 rfl) ?_
    refine lv_icmp_le (tgt := 52) hx hb dX4_get_43 rfl (fun hc => ?_) (fun hc => ?_)
    · exact kk k (by unfold px_last; rw [if_pos hc]) H locs ls hl hP hD hS
    · have e1 : px_last fi key (k + 1) = px_last fi key k := by conv => lhs; unfold px_last; rw [if_neg hc]
      rw [e1] at kk kn
      refine lv_iinc (k := 0) (v := nI k + (-1)) hx hb dX4_get_46 hl rfl (rfl) (by decide) rfl (fun ls hl => ?_)
      have hl : lv_has ls 4 [(2, .int (nI k + (-1))), (0, .ref (ad 0)), (1, .int key)] := hl
      refine lv_goto (tgt := 32) hx hb dX4_get_49 rfl ?_
      exact ih _ _ _ (by omega) hl hP hD hS kk kn

set_option maxHeartbeats 4000000 in
set_option maxRecDepth 100000 in
theorem lpX4_get_en {p : Program} {l : Launch} {e : Env} {s : State} {m : MethodId} {args : Array Value} {below : List Frame} {meth : Method} {c : Code} {Q : State → Prop} {A : Nat → Prop} {dC : Nat → ClassId} {dI : Nat → Nat → Nat} {ca : Nat → ClassId} {ad : Nat → Nat} (hx : p.tables.exec = Jvm.exec) (hb : c.code = cX4_get) (hml : c.maxLocals = 4) (hown : s.vm.findClass RX4 = some m.cls) (hts : ∀ w ∈ wsX4_get, w.before args s = true) (hK : va_K (dC, dI) vwCl (xt ca) s) (hA : ∀ q : Nat, s.heap.size ≤ q → A q) (hE : xn_E A s) {kf : Nat → Int32} {vf : Nat → Int64} {tf : Nat → Int32} {fr : Nat → Int32} {sf : Nat → Int32} {fi : Nat → Int32} {bk : Nat → Int32} {bv : Nat → Int64} {w : Int32} {ny : Int32} {nb : Int32} {ai : Int32} {en : Int32} {th : Int32} {op : Int32} {wr : Int32} {key : Int32} {lb : List (Int32 × Int64)} (hlb : lb.length ≤ 2444) (hrw : (∀ i, i < lb.length → bk (i) = (lb.getD i (0, 0)).1 ∧ bv (i) = (lb.getD i (0, 0)).2)) : ∀ (k : Nat) (i9 : Nat) (H : Heap) (locs : List Loc) (ls : Array Slot), i9 + k = lb.length → lv_has ls 4 [(3, .int (nI i9)), (0, .ref (ad 0)), (1, .int key)] → va_P (dC, dI) vwCl (xm ad ca kf vf tf fr sf fi bk bv w ny nb (nI lb.length) ai en th op wr) H → va_D A (xm ad ca kf vf tf fr sf fi bk bv w ny nb (nI lb.length) ai en th op wr) → va_S A s.heap H locs → (∀ v, sp_find (lb.drop i9) key = some v → ∀ (H : Heap) (locs : List Loc) (ls : Array Slot), lv_has ls 4 [] → va_P (dC, dI) vwCl (xm ad ca kf vf tf fr sf fi bk bv w ny nb (nI lb.length) ai en th op wr) H → va_D A (xm ad ca kf vf tf fr sf fi bk bv w ny nb (nI lb.length) ai en th op wr) → va_S A s.heap H locs → W p l e ({ frames := 3, cells := 0, slots := 0, locals := 75 } : Room) s m args below meth c H locs 0 0 Q (F0 m 104 ls [.long v])) → (sp_find (lb.drop i9) key = none → ∀ (H : Heap) (locs : List Loc) (ls : Array Slot), lv_has ls 4 [(0, .ref (ad 0))] → va_P (dC, dI) vwCl (xm ad ca kf vf tf fr sf fi bk bv w ny nb (nI lb.length) ai en th op wr) H → va_D A (xm ad ca kf vf tf fr sf fi bk bv w ny nb (nI lb.length) ai en th op wr) → va_S A s.heap H locs → W p l e ({ frames := 3, cells := 0, slots := 0, locals := 75 } : Room) s m args below meth c H locs 0 0 Q (F0 m 111 ls [])) → W p l e ({ frames := 3, cells := 0, slots := 0, locals := 75 } : Room) s m args below meth c H locs 0 0 Q (F0 m 80 ls []) := by
  intro k
  induction k with
  | zero =>
    intro i9 H locs ls hk hl hP hD hS kk kn
    have hl : lv_has ls 4 [(3, .int (nI i9)), (0, .ref (ad 0)), (1, .int key)] := hl
    obtain rfl : i9 = lb.length := by omega
    refine lv_iload_n hx hb dX4_get_80 rfl (lv_at hl 0 rfl) ?_
    refine lv_aload_n hx hb dX4_get_81 rfl (lv_at hl 1 rfl) ?_
    refine va_get (D := (dC, dI)) (ci := 4) (v := .int (nI lb.length)) (C := RX4) (T := TX4) (N := 17) (ref := "SortedRunModel") hx hb hts (xg_u mb_uws_X4) hown hK hP 0 rfl rfl 11 (by decide) (xg_w hts mb_fieldLink_RX4_110) (fun _ h9 => h9) rfl dX4_get_82 ?_
    refine lv_icmp_ge (tgt := 111) hx hb dX4_get_85 rfl (fun hc => ?_) (fun hc => absurd hc (not_not_intro (Int32.le_refl _)))
    exact kn (by rw [List.drop_length]; rfl) H locs ls (lv_sub hl [1] rfl) hP hD hS
  | succ k ih =>
    intro i9 H locs ls hk hl hP hD hS kk kn
    have hl : lv_has ls 4 [(3, .int (nI i9)), (0, .ref (ad 0)), (1, .int key)] := hl
    refine lv_iload_n hx hb dX4_get_80 rfl (lv_at hl 0 rfl) ?_
    refine lv_aload_n hx hb dX4_get_81 rfl (lv_at hl 1 rfl) ?_
    refine va_get (D := (dC, dI)) (ci := 4) (v := .int (nI lb.length)) (C := RX4) (T := TX4) (N := 17) (ref := "SortedRunModel") hx hb hts (xg_u mb_uws_X4) hown hK hP 0 rfl rfl 11 (by decide) (xg_w hts mb_fieldLink_RX4_110) (fun _ h9 => h9) rfl dX4_get_82 ?_
    refine lv_icmp_ge (tgt := 111) hx hb dX4_get_85 rfl (fun hc => absurd hc (by rw [nI_leI (by omega) (by omega)]; omega)) (fun hc => ?_)
    have hi9 : i9 < lb.length := by omega
    have hd := pm_drop hi9
    obtain ⟨e1, e2⟩ := hrw i9 hi9
    refine lv_aload_n hx hb dX4_get_88 rfl (lv_at hl 1 rfl) ?_
    refine va_get (D := (dC, dI)) (ci := 4) (v := .ref (ad 7)) (C := RX4) (T := TX4) (N := 17) (ref := "SortedRunModel") hx hb hts (xg_u mb_uws_X4) hown hK hP 0 rfl rfl 6 (by decide) (xg_w hts mb_fieldLink_RX4_30) (fun _ h9 => h9) rfl dX4_get_89 ?_
    refine lv_iload_n hx hb dX4_get_92 rfl (lv_at hl 0 rfl) ?_
    refine va_iald hx hb hK hP 7 6 rfl rfl (vp_in_nI (by omega) (by decide)) dX4_get_93 ?_
    refine lv_topi (fun z1 ez1 => ?_)
    have ez1 : z1 = (lb.getD i9 (0, 0)).1 := ez1.trans ((congrArg bk (nI_clamp (by omega))).trans e1)
    subst ez1
    refine lv_iload_n hx hb dX4_get_94 rfl (lv_at hl 2 rfl) ?_
    refine lv_icmp_ne (tgt := 105) hx hb dX4_get_95 rfl (fun hc => ?_) (fun hc => ?_)
    · have hf9 : sp_find (lb.drop i9) key = sp_find (lb.drop (i9 + 1)) key := by rw [hd]; conv => lhs; unfold sp_find; rw [if_neg hc]
      rw [hf9] at kk kn
      refine lv_iinc (k := 0) (v := nI (i9 + 1)) hx hb dX4_get_105 hl rfl (nI_1 i9) (by decide) rfl (fun ls hl => ?_)
      have hl : lv_has ls 4 [(3, .int (nI (i9 + 1))), (0, .ref (ad 0)), (1, .int key)] := hl
      refine lv_goto (tgt := 80) hx hb dX4_get_108 rfl ?_
      exact ih (i9 + 1) _ _ _ (by omega) hl hP hD hS kk kn
    · refine lv_aload_n hx hb dX4_get_98 rfl (lv_at hl 1 rfl) ?_
      refine va_get (D := (dC, dI)) (ci := 4) (v := .ref (ad 8)) (C := RX4) (T := TX4) (N := 17) (ref := "SortedRunModel") hx hb hts (xg_u mb_uws_X4) hown hK hP 0 rfl rfl 7 (by decide) (xg_w hts mb_fieldLink_RX4_33) (fun _ h9 => h9) rfl dX4_get_99 ?_
      refine lv_iload_n hx hb dX4_get_102 rfl (lv_at hl 0 rfl) ?_
      refine va_lald hx hb hK hP 8 7 rfl rfl (vp_in_nI (by omega) (by decide)) dX4_get_103 ?_
      refine lv_topl (fun z2 ez2 => ?_)
      have ez2 : z2 = (lb.getD i9 (0, 0)).2 := ez2.trans ((congrArg bv (nI_clamp (by omega))).trans e2)
      subst ez2
      exact kk _ (by rw [hd]; unfold sp_find; rw [if_pos hc]) H locs ls (lv_sub hl [] rfl) hP hD hS

set_option maxHeartbeats 4000000 in
set_option maxRecDepth 100000 in
theorem cX4_get_m (l : Launch) (dC : Nat → ClassId) (dI : Nat → Nat → Nat) (ca : Nat → ClassId) (ad : Nat → Nat) (kf : Nat → Int32) (vf : Nat → Int64) (tf : Nat → Int32) (fr : Nat → Int32) (sf : Nat → Int32) (fi : Nat → Int32) (bk : Nat → Int32) (bv : Nat → Int64) (w : Int32) (ny : Int32) (nb : Int32) (mn : Int32) (ai : Int32) (en : Int32) (th : Int32) (op : Int32) (wr : Int32) (lr : List (Nat × Nat)) (key : Int32) (hf : pb_fit tf) (hopen : ¬ op = 0 → nb = nI lr.length ∧ lr.length ≤ 2444 ∧ pm_rows 0 0 lr fr sf fi ∧ px_sum lr ≤ 4889) : ∀ sz : Nat, Met l yX4_get wsX4_get ({ frames := 3, cells := 0, slots := 0, locals := 75 } : Room) (va_Pc [.ref (ad 0), .int key] (xP (dC, dI) (xt ca) (xm ad ca kf vf tf fr sf fi bk bv w ny nb mn ai en th op wr) sz)) (va_Ql (S := Int32 × (Nat → Int32) × (Nat → Int64) × Int32 × Int32 × Int32 × Int32) (fun r u => (u.1 = 1 ∧ op = 0) ∨ (u.1 = 3 ∧ ¬ op = 0 ∧ px_last (px_kf lr) key lr.length = none) ∨ (u.1 = 2 ∧ ¬ op = 0 ∧ ∃ j, px_last (px_kf lr) key lr.length = some j ∧ pe_of tf lr j = none) ∨ (u.1 = 3 ∧ ¬ op = 0 ∧ ∃ j lb, px_last (px_kf lr) key lr.length = some j ∧ pe_of tf lr j = some lb ∧ sp_find lb key = none) ∨ (u.1 = 0 ∧ ¬ op = 0 ∧ ∃ j lb, px_last (px_kf lr) key lr.length = some j ∧ pe_of tf lr j = some lb ∧ sp_find lb key = some r)) (fun u t => xB (dC, dI) (xt ca) (va_A (xm ad ca kf vf tf fr sf fi bk bv w ny nb mn ai en th op wr) sz) (xm ad ca kf vf tf fr sf fi u.2.1 u.2.2.1 w ny nb u.2.2.2.1 u.2.2.2.2.1 u.2.2.2.2.2.1 u.1 op u.2.2.2.2.2.2) t) (va_A (xm ad ca kf vf tf fr sf fi bk bv w ny nb mn ai en th op wr) sz)) 0 0 (va_A (xm ad ca kf vf tf fr sf fi bk bv w ny nb mn ai en th op wr) sz) := by
  intro sz
  refine Met.ofW (cc := cX4_get) (maxL := 4) (ret := (some .long)) (by decide) rfl ?_
  intro p e s m args below meth c s₁ B hml hv
  obtain ⟨rfl, hsz, hP, hK, hD0, hE⟩ := hv
  have hx := B.exec
  have hb := B.bytes
  have hr := B.returns
  have hts := atoms_spec (ws := wsX4_get) B.pre
  have hown : s.vm.findClass RX4 = some m.cls := findClass_of_methodNamed B.named
  have hlocks := B.notSynchronized
  subst hsz
  have hD := hD0.self (sz := s.heap.size)
  generalize hAe : va_A (xm ad ca kf vf tf fr sf fi bk bv w ny nb mn ai en th op wr) s.heap.size = A at hD hE ⊢
  have hA : ∀ q : Nat, s.heap.size ≤ q → A q := fun q h => by rw [← hAe]; exact Or.inr h
  have hS : va_S A s.heap s.heap [] := va_S.rf
  have hl := lv_entry ([.ref (ad 0), .int key]) (n := 4) (Nat.le_of_ble_eq_true rfl)
  rw [lg_entry_eq]
  generalize (lg_sl ([.ref (ad 0), .int key]) ++ List.replicate (4 - (lg_sl ([.ref (ad 0), .int key])).length) Slot.unset).toArray = ls at hl ⊢
  have hl : lv_has ls 4 [(0, .ref (ad 0)), (1, .int key)] := hl
  refine lv_aload_n hx hb dX4_get_0 rfl (lv_at hl 0 rfl) ?_
  refine lv_aload_n hx hb dX4_get_1 rfl (lv_at hl 0 rfl) ?_
  refine va_get (D := (dC, dI)) (ci := 4) (v := .int op) (C := RX4) (T := TX4) (N := 17) (ref := "SortedRunModel") hx hb hts (xg_u mb_uws_X4) hown hK hP 0 rfl rfl 15 (by decide) (xg_w hts mb_fieldLink_RX4_74) (fun _ h9 => h9) rfl dX4_get_2 ?_
  refine lv_if_eq (tgt := 12) hx hb dX4_get_5 rfl (fun hc => ?_) (fun hc => ?_)
  · refine lv_iconst (v := 1) hx hb dX4_get_12 (by decide) ?_
    refine va_put (D := (dC, dI)) (ci := 4) (v := .int 1) (ty := .int) (C := RX4) (T := TX4) (N := 17) (ref := "SortedRunModel") hx hb hts (xg_u mb_uws_X4) tyX4 tyX4_ok nmX4 hown hK hP hD hS 0 rfl rfl 14 (by decide) (xg_w hts mb_fieldLink_RX4_39) (fun _ h9 => h9) rfl (by decide +kernel) rfl rfl (Nat.le_of_ble_eq_true rfl) dX4_get_13 (fun H locs hP hD hS => ?_)
    have hP : va_P (dC, dI) vwCl (xm ad ca kf vf tf fr sf fi bk bv w ny nb mn ai en 1 op wr) H := hP
    have hD : va_D A (xm ad ca kf vf tf fr sf fi bk bv w ny nb mn ai en 1 op wr) := hD
    refine lv_aload_n hx hb dX4_get_16 rfl (lv_at hl 0 rfl) ?_
    refine va_get (D := (dC, dI)) (ci := 4) (v := .int 1) (C := RX4) (T := TX4) (N := 17) (ref := "SortedRunModel") hx hb hts (xg_u mb_uws_X4) hown hK hP 0 rfl rfl 14 (by decide) (xg_w hts mb_fieldLink_RX4_39) (fun _ h9 => h9) rfl dX4_get_17 ?_
    refine lv_if_le (tgt := 25) hx hb dX4_get_20 rfl (fun hc2 => absurd hc2 (by decide)) (fun hc2 => ?_)
    refine lv_lconst (v := 0) hx hb dX4_get_23 (by decide) ?_
    have hP9 := hP
    have hD9 := hD
    exact W.lret (v := 0) hx hb hr (fun t ht hW => ⟨⟨0, (1, bk, bv, mn, ai, en, wr), rfl, Or.inl (⟨rfl, hc⟩), by rw [ht]; exact hP9, va_K.moved hW.alike hK, hD9⟩, hS.F ht⟩) hS.2.2 dX4_get_24
  · have hop := hc
    obtain ⟨hnb, hlen, hrows, hsum⟩ := hopen hop
    refine lv_iconst (v := 0) hx hb dX4_get_8 (by decide) ?_
    refine lv_goto (tgt := 13) hx hb dX4_get_9 rfl ?_
    refine va_put (D := (dC, dI)) (ci := 4) (v := .int 0) (ty := .int) (C := RX4) (T := TX4) (N := 17) (ref := "SortedRunModel") hx hb hts (xg_u mb_uws_X4) tyX4 tyX4_ok nmX4 hown hK hP hD hS 0 rfl rfl 14 (by decide) (xg_w hts mb_fieldLink_RX4_39) (fun _ h9 => h9) rfl (by decide +kernel) rfl rfl (Nat.le_of_ble_eq_true rfl) dX4_get_13 (fun H locs hP hD hS => ?_)
    have hP : va_P (dC, dI) vwCl (xm ad ca kf vf tf fr sf fi bk bv w ny nb mn ai en 0 op wr) H := hP
    have hD : va_D A (xm ad ca kf vf tf fr sf fi bk bv w ny nb mn ai en 0 op wr) := hD
    refine lv_aload_n hx hb dX4_get_16 rfl (lv_at hl 0 rfl) ?_
    refine va_get (D := (dC, dI)) (ci := 4) (v := .int 0) (C := RX4) (T := TX4) (N := 17) (ref := "SortedRunModel") hx hb hts (xg_u mb_uws_X4) hown hK hP 0 rfl rfl 14 (by decide) (xg_w hts mb_fieldLink_RX4_39) (fun _ h9 => h9) rfl dX4_get_17 ?_
    refine lv_if_le (tgt := 25) hx hb dX4_get_20 rfl (fun hc2 => ?_) (fun hc2 => absurd hc2 (not_not_intro (by decide)))
    refine lv_aload_n hx hb dX4_get_25 rfl (lv_at hl 0 rfl) ?_
    refine va_get (D := (dC, dI)) (ci := 4) (v := .int nb) (C := RX4) (T := TX4) (N := 17) (ref := "SortedRunModel") hx hb hts (xg_u mb_uws_X4) hown hK hP 0 rfl rfl 10 (by decide) (xg_w hts mb_fieldLink_RX4_102) (fun _ h9 => h9) rfl dX4_get_26 ?_
    refine lv_topi (fun z1 ez1 => ?_)
    have ez1 : z1 = nI lr.length := ez1.trans (hnb)
    subst ez1
    refine lv_iconst (v := 1) hx hb dX4_get_29 (by decide) ?_
    refine lv_isub hx hb dX4_get_30 ?_
    refine lv_topi (fun z2 ez2 => ?_)
    have ez2 : z2 = nI lr.length + (-1) := ez2.trans (by rw [Int32.sub_eq_add_neg])
    subst ez2
    refine lv_istore_n hx hb dX4_get_31 rfl hl (by decide) rfl (fun ls hl => ?_)
    have hl : lv_has ls 4 [(2, .int (nI lr.length + (-1))), (0, .ref (ad 0)), (1, .int key)] := hl
    refine lpX4_get_bl hx hb hml hown hts hK hA hE (key := key) lr.length _ _ _ hlen (lv_sub hl [0, 1, 2] rfl) hP hD hS ?_ ?_
    · intro j hla H locs ls hl hP hD hS
      rw [pm_last_rows hrows key lr.length (Nat.le_refl _)] at hla
      have hj := px_last_lt hla
      obtain ⟨hp, hs, hps⟩ := pm_at hrows hsum hj
      have hof := pm_of (f := tf) hj
      refine lv_iload_n hx hb dX4_get_52 rfl (lv_at hl 0 rfl) ?_
      refine lv_if_ge (tgt := 63) hx hb dX4_get_53 rfl (fun hc => ?_) (fun hc => absurd hc (not_not_intro (nI_pos' (by omega))))
      refine lv_aload_n hx hb dX4_get_63 rfl (lv_at hl 1 rfl) ?_
      refine lv_iload_n hx hb dX4_get_64 rfl (lv_at hl 0 rfl) ?_
      refine xk_i (va_runV (As := [.int (nI j)]) (rest := []) ⟨hx, hb, hml, hown, hts⟩ (cX4_isBlock_m l dC dI ca ad kf vf tf fr sf fi bk bv w ny nb mn ai en 0 op wr j (px_sum (lr.take j)) (lr.getD j (0, 0)).1 (by omega) hp hs hps hf _) (cwV 1 hts (xg_V mb_methodLink_RX4_121 mb_instanceMethod_yX4_isBlock mb_selects_yX4_isBlock mb_initialized_RX4 mb_code_yX4_isBlock) rfl rfl rfl ⟨rfl, by decide, by decide, by decide +kernel⟩ ⟨Nat.le_of_ble_eq_true rfl, Nat.le_of_ble_eq_true rfl⟩) (xpreV (va_recv (q0 := 0) hK hP rfl rfl) hK hP hD hS hA hE) rfl rfl hl.1 rfl (lv_room (Nat.le_of_ble_eq_true rfl)) dX4_get_65 ⟨Nat.le_of_ble_eq_true rfl, Nat.le_of_ble_eq_true rfl⟩) hD hS hA (fun r u H locs hu hP hD hS => ?_)
      have hP : va_P (dC, dI) vwCl (xm ad ca kf vf tf fr sf fi u.1 u.2.1 w ny nb u.2.2.1 u.2.2.2.1 u.2.2.2.2.1 0 op u.2.2.2.2.2) H := hP
      have hD : va_D A (xm ad ca kf vf tf fr sf fi u.1 u.2.1 w ny nb u.2.2.1 u.2.2.2.1 u.2.2.2.2.1 0 op u.2.2.2.2.2) := hD
      obtain ⟨x1, x2, x3, x4, x5, x6⟩ := u
      dsimp only at hu hP hD
      rw [← hof] at hu
      rcases hu with hu | hu
      · obtain ⟨lb, hlb, rfl, rfl, hlbl, hrw⟩ := hu
        refine lv_if_ne (tgt := 78) hx hb dX4_get_68 rfl (fun hc => ?_) (fun hc => absurd hc (by decide))
        refine lv_iconst (v := nI 0) hx hb dX4_get_78 (by decide) ?_
        refine lv_istore_n hx hb dX4_get_79 rfl hl (by decide) rfl (fun ls hl => ?_)
        have hl : lv_has ls 4 [(3, .int (nI 0)), (2, .int (nI j)), (0, .ref (ad 0)), (1, .int key)] := hl
        refine lpX4_get_en hx hb hml hown hts hK hA hE (key := key) (lb := lb) hlbl hrw lb.length 0 _ _ _ (by omega) (lv_sub hl [0, 2, 3] rfl) hP hD hS ?_ ?_
        · intro v hv H locs ls hl hP hD hS
          rw [List.drop_zero] at hv
          have hP9 := hP
          have hD9 := hD
          exact W.lret (v := v) hx hb hr (fun t ht hW => ⟨⟨v, (0, x1, x2, nI lb.length, x4, x5, x6), rfl, Or.inr (Or.inr (Or.inr (Or.inr (⟨rfl, hop, j, lb, hla, hlb, hv⟩)))), by rw [ht]; exact hP9, va_K.moved hW.alike hK, hD9⟩, hS.F ht⟩) hS.2.2 dX4_get_104
        · intro hv H locs ls hl hP hD hS
          rw [List.drop_zero] at hv
          refine lv_aload_n hx hb dX4_get_111 rfl (lv_at hl 0 rfl) ?_
          refine lv_iconst (v := 3) hx hb dX4_get_112 (by decide) ?_
          refine va_put (D := (dC, dI)) (ci := 4) (v := .int 3) (ty := .int) (C := RX4) (T := TX4) (N := 17) (ref := "SortedRunModel") hx hb hts (xg_u mb_uws_X4) tyX4 tyX4_ok nmX4 hown hK hP hD hS 0 rfl rfl 14 (by decide) (xg_w hts mb_fieldLink_RX4_39) (fun _ h9 => h9) rfl (by decide +kernel) rfl rfl (Nat.le_of_ble_eq_true rfl) dX4_get_113 (fun H locs hP hD hS => ?_)
          have hP : va_P (dC, dI) vwCl (xm ad ca kf vf tf fr sf fi x1 x2 w ny nb (nI lb.length) x4 x5 3 op x6) H := hP
          have hD : va_D A (xm ad ca kf vf tf fr sf fi x1 x2 w ny nb (nI lb.length) x4 x5 3 op x6) := hD
          refine lv_lconst (v := 0) hx hb dX4_get_116 (by decide) ?_
          have hP9 := hP
          have hD9 := hD
          exact W.lret (v := 0) hx hb hr (fun t ht hW => ⟨⟨0, (3, x1, x2, nI lb.length, x4, x5, x6), rfl, Or.inr (Or.inr (Or.inr (Or.inl (⟨rfl, hop, j, lb, hla, hlb, hv⟩)))), by rw [ht]; exact hP9, va_K.moved hW.alike hK, hD9⟩, hS.F ht⟩) hS.2.2 dX4_get_117
      · obtain ⟨hno, rfl⟩ := hu
        refine lv_if_ne (tgt := 78) hx hb dX4_get_68 rfl (fun hc => absurd hc (not_not_intro rfl)) (fun hc => ?_)
        refine lv_aload_n hx hb dX4_get_71 rfl (lv_at hl 1 rfl) ?_
        refine lv_iconst (v := 2) hx hb dX4_get_72 (by decide) ?_
        refine va_put (D := (dC, dI)) (ci := 4) (v := .int 2) (ty := .int) (C := RX4) (T := TX4) (N := 17) (ref := "SortedRunModel") hx hb hts (xg_u mb_uws_X4) tyX4 tyX4_ok nmX4 hown hK hP hD hS 0 rfl rfl 14 (by decide) (xg_w hts mb_fieldLink_RX4_39) (fun _ h9 => h9) rfl (by decide +kernel) rfl rfl (Nat.le_of_ble_eq_true rfl) dX4_get_73 (fun H locs hP hD hS => ?_)
        have hP : va_P (dC, dI) vwCl (xm ad ca kf vf tf fr sf fi x1 x2 w ny nb x3 x4 x5 2 op x6) H := hP
        have hD : va_D A (xm ad ca kf vf tf fr sf fi x1 x2 w ny nb x3 x4 x5 2 op x6) := hD
        refine lv_lconst (v := 0) hx hb dX4_get_76 (by decide) ?_
        have hP9 := hP
        have hD9 := hD
        exact W.lret (v := 0) hx hb hr (fun t ht hW => ⟨⟨0, (2, x1, x2, x3, x4, x5, x6), rfl, Or.inr (Or.inr (Or.inl (⟨rfl, hop, j, hla, hno⟩))), by rw [ht]; exact hP9, va_K.moved hW.alike hK, hD9⟩, hS.F ht⟩) hS.2.2 dX4_get_77
    · intro hla H locs ls hl hP hD hS
      rw [pm_last_rows hrows key lr.length (Nat.le_refl _)] at hla
      refine lv_iload_n hx hb dX4_get_52 rfl (lv_at hl 0 rfl) ?_
      refine lv_if_ge (tgt := 63) hx hb dX4_get_53 rfl (fun hc => absurd hc (by decide)) (fun hc => ?_)
      refine lv_aload_n hx hb dX4_get_56 rfl (lv_at hl 1 rfl) ?_
      refine lv_iconst (v := 3) hx hb dX4_get_57 (by decide) ?_
      refine va_put (D := (dC, dI)) (ci := 4) (v := .int 3) (ty := .int) (C := RX4) (T := TX4) (N := 17) (ref := "SortedRunModel") hx hb hts (xg_u mb_uws_X4) tyX4 tyX4_ok nmX4 hown hK hP hD hS 0 rfl rfl 14 (by decide) (xg_w hts mb_fieldLink_RX4_39) (fun _ h9 => h9) rfl (by decide +kernel) rfl rfl (Nat.le_of_ble_eq_true rfl) dX4_get_58 (fun H locs hP hD hS => ?_)
      have hP : va_P (dC, dI) vwCl (xm ad ca kf vf tf fr sf fi bk bv w ny nb mn ai en 3 op wr) H := hP
      have hD : va_D A (xm ad ca kf vf tf fr sf fi bk bv w ny nb mn ai en 3 op wr) := hD
      refine lv_lconst (v := 0) hx hb dX4_get_61 (by decide) ?_
      have hP9 := hP
      have hD9 := hD
      exact W.lret (v := 0) hx hb hr (fun t ht hW => ⟨⟨0, (3, bk, bv, mn, ai, en, wr), rfl, Or.inr (Or.inl (⟨rfl, hop, hla⟩)), by rw [ht]; exact hP9, va_K.moved hW.alike hK, hD9⟩, hS.F ht⟩) hS.2.2 dX4_get_62

set_option maxHeartbeats 4000000 in
set_option maxRecDepth 100000 in
theorem cX4_isThere_m (l : Launch) (dC : Nat → ClassId) (dI : Nat → Nat → Nat) (ca : Nat → ClassId) (ad : Nat → Nat) (kf : Nat → Int32) (vf : Nat → Int64) (tf : Nat → Int32) (fr : Nat → Int32) (sf : Nat → Int32) (fi : Nat → Int32) (bk : Nat → Int32) (bv : Nat → Int64) (w : Int32) (ny : Int32) (nb : Int32) (mn : Int32) (ai : Int32) (en : Int32) (th : Int32) (op : Int32) (wr : Int32) (lr : List (Nat × Nat)) (x : Int32) (hf : pb_fit tf) (hopen : ¬ op = 0 → nb = nI lr.length ∧ lr.length ≤ 2444 ∧ pm_rows 0 0 lr fr sf fi ∧ px_sum lr ≤ 4889) : ∀ sz : Nat, Met l yX4_isThere wsX4_isThere ({ frames := 3, cells := 0, slots := 0, locals := 75 } : Room) (va_Pc [.ref (ad 0), .int x] (xP (dC, dI) (xt ca) (xm ad ca kf vf tf fr sf fi bk bv w ny nb mn ai en th op wr) sz)) (va_Qi (S := Int32 × (Nat → Int32) × (Nat → Int64) × Int32 × Int32 × Int32 × Int32) (fun r u => (r = 0 ∧ u.1 = 1 ∧ op = 0) ∨ (r = 0 ∧ u.1 = 2 ∧ ¬ op = 0 ∧ sp_in x lr.length = false) ∨ (r = 0 ∧ u.1 = 3 ∧ ¬ op = 0 ∧ ∃ j, (j < lr.length ∧ x = nI j) ∧ pe_of tf lr j = none) ∨ (r = 1 ∧ u.1 = 0 ∧ ¬ op = 0 ∧ ∃ j lb, j < lr.length ∧ x = nI j ∧ pe_of tf lr j = some lb ∧ lb.length ≤ 2444 ∧ u.2.2.2.1 = nI lb.length ∧ (∀ i, i < lb.length → u.2.1 (i) = (lb.getD i (0, 0)).1 ∧ u.2.2.1 (i) = (lb.getD i (0, 0)).2))) (fun u t => xB (dC, dI) (xt ca) (va_A (xm ad ca kf vf tf fr sf fi bk bv w ny nb mn ai en th op wr) sz) (xm ad ca kf vf tf fr sf fi u.2.1 u.2.2.1 w ny nb u.2.2.2.1 u.2.2.2.2.1 u.2.2.2.2.2.1 u.1 op u.2.2.2.2.2.2) t) (va_A (xm ad ca kf vf tf fr sf fi bk bv w ny nb mn ai en th op wr) sz)) 0 0 (va_A (xm ad ca kf vf tf fr sf fi bk bv w ny nb mn ai en th op wr) sz) := by
  intro sz
  refine Met.ofW (cc := cX4_isThere) (maxL := 2) (ret := (some .boolean)) (by decide) rfl ?_
  intro p e s m args below meth c s₁ B hml hv
  obtain ⟨rfl, hsz, hP, hK, hD0, hE⟩ := hv
  have hx := B.exec
  have hb := B.bytes
  have hr := B.returns
  have hts := atoms_spec (ws := wsX4_isThere) B.pre
  have hown : s.vm.findClass RX4 = some m.cls := findClass_of_methodNamed B.named
  have hlocks := B.notSynchronized
  subst hsz
  have hD := hD0.self (sz := s.heap.size)
  generalize hAe : va_A (xm ad ca kf vf tf fr sf fi bk bv w ny nb mn ai en th op wr) s.heap.size = A at hD hE ⊢
  have hA : ∀ q : Nat, s.heap.size ≤ q → A q := fun q h => by rw [← hAe]; exact Or.inr h
  have hS : va_S A s.heap s.heap [] := va_S.rf
  have hl := lv_entry ([.ref (ad 0), .int x]) (n := 2) (Nat.le_of_ble_eq_true rfl)
  rw [lg_entry_eq]
  generalize (lg_sl ([.ref (ad 0), .int x]) ++ List.replicate (2 - (lg_sl ([.ref (ad 0), .int x])).length) Slot.unset).toArray = ls at hl ⊢
  have hl : lv_has ls 2 [(0, .ref (ad 0)), (1, .int x)] := hl
  refine lv_aload_n hx hb dX4_isThere_0 rfl (lv_at hl 0 rfl) ?_
  refine lv_aload_n hx hb dX4_isThere_1 rfl (lv_at hl 0 rfl) ?_
  refine va_get (D := (dC, dI)) (ci := 4) (v := .int op) (C := RX4) (T := TX4) (N := 17) (ref := "SortedRunModel") hx hb hts (xg_u mb_uws_X4) hown hK hP 0 rfl rfl 15 (by decide) (xg_w hts mb_fieldLink_RX4_74) (fun _ h9 => h9) rfl dX4_isThere_2 ?_
  refine lv_if_ne (tgt := 12) hx hb dX4_isThere_5 rfl (fun hc => ?_) (fun hc => ?_)
  · obtain ⟨hnb, hlen, hrows, hsum⟩ := hopen hc
    refine lv_iload_n hx hb dX4_isThere_12 rfl (lv_at hl 1 rfl) ?_
    refine lv_if_lt (tgt := 24) hx hb dX4_isThere_13 rfl (fun hc2 => ?_) (fun hc2 => ?_)
    · refine lv_iconst (v := 2) hx hb dX4_isThere_24 (by decide) ?_
      refine lv_goto (tgt := 41) hx hb dX4_isThere_25 rfl ?_
      refine va_put (D := (dC, dI)) (ci := 4) (v := .int 2) (ty := .int) (C := RX4) (T := TX4) (N := 17) (ref := "SortedRunModel") hx hb hts (xg_u mb_uws_X4) tyX4 tyX4_ok nmX4 hown hK hP hD hS 0 rfl rfl 14 (by decide) (xg_w hts mb_fieldLink_RX4_39) (fun _ h9 => h9) rfl (by decide +kernel) rfl rfl (Nat.le_of_ble_eq_true rfl) dX4_isThere_41 (fun H locs hP hD hS => ?_)
      have hP : va_P (dC, dI) vwCl (xm ad ca kf vf tf fr sf fi bk bv w ny nb mn ai en 2 op wr) H := hP
      have hD : va_D A (xm ad ca kf vf tf fr sf fi bk bv w ny nb mn ai en 2 op wr) := hD
      refine lv_aload_n hx hb dX4_isThere_44 rfl (lv_at hl 0 rfl) ?_
      refine va_get (D := (dC, dI)) (ci := 4) (v := .int 2) (C := RX4) (T := TX4) (N := 17) (ref := "SortedRunModel") hx hb hts (xg_u mb_uws_X4) hown hK hP 0 rfl rfl 14 (by decide) (xg_w hts mb_fieldLink_RX4_39) (fun _ h9 => h9) rfl dX4_isThere_45 ?_
      refine lv_if_ne (tgt := 55) hx hb dX4_isThere_48 rfl (fun hc9 => ?_) (fun hc9 => absurd hc9 (by decide))
      refine lv_iconst (v := 0) hx hb dX4_isThere_55 (by decide) ?_
      have hP9 := hP
      have hD9 := hD
      exact W.zret (v := 0) hx hb hr (by rfl) (fun t ht hW => ⟨⟨0, (2, bk, bv, mn, ai, en, wr), rfl, Or.inr (Or.inl (⟨rfl, rfl, hc, by unfold sp_in; rw [decide_eq_false (Int32.not_le.mpr hc2)]; rfl⟩)), by rw [ht]; exact hP9, va_K.moved hW.alike hK, hD9⟩, hS.F ht⟩) hS.2.2 dX4_isThere_56
    · refine lv_iload_n hx hb dX4_isThere_16 rfl (lv_at hl 1 rfl) ?_
      refine lv_aload_n hx hb dX4_isThere_17 rfl (lv_at hl 0 rfl) ?_
      refine va_get (D := (dC, dI)) (ci := 4) (v := .int nb) (C := RX4) (T := TX4) (N := 17) (ref := "SortedRunModel") hx hb hts (xg_u mb_uws_X4) hown hK hP 0 rfl rfl 10 (by decide) (xg_w hts mb_fieldLink_RX4_102) (fun _ h9 => h9) rfl dX4_isThere_18 ?_
      refine lv_topi (fun z1 ez1 => ?_)
      have ez1 : z1 = nI lr.length := ez1.trans (hnb)
      subst ez1
      refine lv_icmp_lt (tgt := 28) hx hb dX4_isThere_21 rfl (fun hc3 => ?_) (fun hc3 => ?_)
      · obtain ⟨j, hj, rfl⟩ := (sp_in_iff (n := lr.length) (by omega)).mp (by unfold sp_in; rw [decide_eq_true (Int32.not_lt.mp hc2), decide_eq_true hc3]; rfl)
        obtain ⟨hp, hs, hps⟩ := pm_at hrows hsum hj
        have hof := pm_of (f := tf) hj
        refine lv_aload_n hx hb dX4_isThere_28 rfl (lv_at hl 0 rfl) ?_
        refine lv_iload_n hx hb dX4_isThere_29 rfl (lv_at hl 1 rfl) ?_
        refine xk_i (va_runV (As := [.int (nI j)]) (rest := [.ref (ad 0)]) ⟨hx, hb, hml, hown, hts⟩ (cX4_isBlock_m l dC dI ca ad kf vf tf fr sf fi bk bv w ny nb mn ai en th op wr j (px_sum (lr.take j)) (lr.getD j (0, 0)).1 (by omega) hp hs hps hf _) (cwV 1 hts (xg_V mb_methodLink_RX4_121 mb_instanceMethod_yX4_isBlock mb_selects_yX4_isBlock mb_initialized_RX4 mb_code_yX4_isBlock) rfl rfl rfl ⟨rfl, by decide, by decide, by decide +kernel⟩ ⟨Nat.le_of_ble_eq_true rfl, Nat.le_of_ble_eq_true rfl⟩) (xpreV (va_recv (q0 := 0) hK hP rfl rfl) hK hP hD hS hA hE) rfl rfl hl.1 rfl (lv_room (Nat.le_of_ble_eq_true rfl)) dX4_isThere_30 ⟨Nat.le_of_ble_eq_true rfl, Nat.le_of_ble_eq_true rfl⟩) hD hS hA (fun r u H locs hu hP hD hS => ?_)
        have hP : va_P (dC, dI) vwCl (xm ad ca kf vf tf fr sf fi u.1 u.2.1 w ny nb u.2.2.1 u.2.2.2.1 u.2.2.2.2.1 th op u.2.2.2.2.2) H := hP
        have hD : va_D A (xm ad ca kf vf tf fr sf fi u.1 u.2.1 w ny nb u.2.2.1 u.2.2.2.1 u.2.2.2.2.1 th op u.2.2.2.2.2) := hD
        obtain ⟨x1, x2, x3, x4, x5, x6⟩ := u
        dsimp only at hu hP hD
        rw [← hof] at hu
        rcases hu with hu | hu
        · obtain ⟨lb, hlb, rfl, hx3, hlbl, hrw⟩ := hu
          refine lv_if_ne (tgt := 40) hx hb dX4_isThere_33 rfl (fun hc4 => ?_) (fun hc4 => absurd hc4 (by decide))
          refine lv_iconst (v := 0) hx hb dX4_isThere_40 (by decide) ?_
          refine va_put (D := (dC, dI)) (ci := 4) (v := .int 0) (ty := .int) (C := RX4) (T := TX4) (N := 17) (ref := "SortedRunModel") hx hb hts (xg_u mb_uws_X4) tyX4 tyX4_ok nmX4 hown hK hP hD hS 0 rfl rfl 14 (by decide) (xg_w hts mb_fieldLink_RX4_39) (fun _ h9 => h9) rfl (by decide +kernel) rfl rfl (Nat.le_of_ble_eq_true rfl) dX4_isThere_41 (fun H locs hP hD hS => ?_)
          have hP : va_P (dC, dI) vwCl (xm ad ca kf vf tf fr sf fi x1 x2 w ny nb x3 x4 x5 0 op x6) H := hP
          have hD : va_D A (xm ad ca kf vf tf fr sf fi x1 x2 w ny nb x3 x4 x5 0 op x6) := hD
          refine lv_aload_n hx hb dX4_isThere_44 rfl (lv_at hl 0 rfl) ?_
          refine va_get (D := (dC, dI)) (ci := 4) (v := .int 0) (C := RX4) (T := TX4) (N := 17) (ref := "SortedRunModel") hx hb hts (xg_u mb_uws_X4) hown hK hP 0 rfl rfl 14 (by decide) (xg_w hts mb_fieldLink_RX4_39) (fun _ h9 => h9) rfl dX4_isThere_45 ?_
          refine lv_if_ne (tgt := 55) hx hb dX4_isThere_48 rfl (fun hc9 => absurd hc9 (not_not_intro rfl)) (fun hc9 => ?_)
          refine lv_iconst (v := 1) hx hb dX4_isThere_51 (by decide) ?_
          refine lv_goto (tgt := 56) hx hb dX4_isThere_52 rfl ?_
          have hP9 := hP
          have hD9 := hD
          exact W.zret (v := 1) hx hb hr (by rfl) (fun t ht hW => ⟨⟨1, (0, x1, x2, x3, x4, x5, x6), rfl, Or.inr (Or.inr (Or.inr (⟨rfl, rfl, hc, j, lb, hj, rfl, hlb, hlbl, hx3, hrw⟩))), by rw [ht]; exact hP9, va_K.moved hW.alike hK, hD9⟩, hS.F ht⟩) hS.2.2 dX4_isThere_56
        · obtain ⟨hno, rfl⟩ := hu
          refine lv_if_ne (tgt := 40) hx hb dX4_isThere_33 rfl (fun hc4 => absurd hc4 (not_not_intro rfl)) (fun hc4 => ?_)
          refine lv_iconst (v := 3) hx hb dX4_isThere_36 (by decide) ?_
          refine lv_goto (tgt := 41) hx hb dX4_isThere_37 rfl ?_
          refine va_put (D := (dC, dI)) (ci := 4) (v := .int 3) (ty := .int) (C := RX4) (T := TX4) (N := 17) (ref := "SortedRunModel") hx hb hts (xg_u mb_uws_X4) tyX4 tyX4_ok nmX4 hown hK hP hD hS 0 rfl rfl 14 (by decide) (xg_w hts mb_fieldLink_RX4_39) (fun _ h9 => h9) rfl (by decide +kernel) rfl rfl (Nat.le_of_ble_eq_true rfl) dX4_isThere_41 (fun H locs hP hD hS => ?_)
          have hP : va_P (dC, dI) vwCl (xm ad ca kf vf tf fr sf fi x1 x2 w ny nb x3 x4 x5 3 op x6) H := hP
          have hD : va_D A (xm ad ca kf vf tf fr sf fi x1 x2 w ny nb x3 x4 x5 3 op x6) := hD
          refine lv_aload_n hx hb dX4_isThere_44 rfl (lv_at hl 0 rfl) ?_
          refine va_get (D := (dC, dI)) (ci := 4) (v := .int 3) (C := RX4) (T := TX4) (N := 17) (ref := "SortedRunModel") hx hb hts (xg_u mb_uws_X4) hown hK hP 0 rfl rfl 14 (by decide) (xg_w hts mb_fieldLink_RX4_39) (fun _ h9 => h9) rfl dX4_isThere_45 ?_
          refine lv_if_ne (tgt := 55) hx hb dX4_isThere_48 rfl (fun hc9 => ?_) (fun hc9 => absurd hc9 (by decide))
          refine lv_iconst (v := 0) hx hb dX4_isThere_55 (by decide) ?_
          have hP9 := hP
          have hD9 := hD
          exact W.zret (v := 0) hx hb hr (by rfl) (fun t ht hW => ⟨⟨0, (3, x1, x2, x3, x4, x5, x6), rfl, Or.inr (Or.inr (Or.inl (⟨rfl, rfl, hc, j, ⟨hj, rfl⟩, hno⟩))), by rw [ht]; exact hP9, va_K.moved hW.alike hK, hD9⟩, hS.F ht⟩) hS.2.2 dX4_isThere_56
      · refine lv_iconst (v := 2) hx hb dX4_isThere_24 (by decide) ?_
        refine lv_goto (tgt := 41) hx hb dX4_isThere_25 rfl ?_
        refine va_put (D := (dC, dI)) (ci := 4) (v := .int 2) (ty := .int) (C := RX4) (T := TX4) (N := 17) (ref := "SortedRunModel") hx hb hts (xg_u mb_uws_X4) tyX4 tyX4_ok nmX4 hown hK hP hD hS 0 rfl rfl 14 (by decide) (xg_w hts mb_fieldLink_RX4_39) (fun _ h9 => h9) rfl (by decide +kernel) rfl rfl (Nat.le_of_ble_eq_true rfl) dX4_isThere_41 (fun H locs hP hD hS => ?_)
        have hP : va_P (dC, dI) vwCl (xm ad ca kf vf tf fr sf fi bk bv w ny nb mn ai en 2 op wr) H := hP
        have hD : va_D A (xm ad ca kf vf tf fr sf fi bk bv w ny nb mn ai en 2 op wr) := hD
        refine lv_aload_n hx hb dX4_isThere_44 rfl (lv_at hl 0 rfl) ?_
        refine va_get (D := (dC, dI)) (ci := 4) (v := .int 2) (C := RX4) (T := TX4) (N := 17) (ref := "SortedRunModel") hx hb hts (xg_u mb_uws_X4) hown hK hP 0 rfl rfl 14 (by decide) (xg_w hts mb_fieldLink_RX4_39) (fun _ h9 => h9) rfl dX4_isThere_45 ?_
        refine lv_if_ne (tgt := 55) hx hb dX4_isThere_48 rfl (fun hc9 => ?_) (fun hc9 => absurd hc9 (by decide))
        refine lv_iconst (v := 0) hx hb dX4_isThere_55 (by decide) ?_
        have hP9 := hP
        have hD9 := hD
        exact W.zret (v := 0) hx hb hr (by rfl) (fun t ht hW => ⟨⟨0, (2, bk, bv, mn, ai, en, wr), rfl, Or.inr (Or.inl (⟨rfl, rfl, hc, by unfold sp_in; rw [decide_eq_false hc3, Bool.and_false]⟩)), by rw [ht]; exact hP9, va_K.moved hW.alike hK, hD9⟩, hS.F ht⟩) hS.2.2 dX4_isThere_56
  · refine lv_iconst (v := 1) hx hb dX4_isThere_8 (by decide) ?_
    refine lv_goto (tgt := 41) hx hb dX4_isThere_9 rfl ?_
    refine va_put (D := (dC, dI)) (ci := 4) (v := .int 1) (ty := .int) (C := RX4) (T := TX4) (N := 17) (ref := "SortedRunModel") hx hb hts (xg_u mb_uws_X4) tyX4 tyX4_ok nmX4 hown hK hP hD hS 0 rfl rfl 14 (by decide) (xg_w hts mb_fieldLink_RX4_39) (fun _ h9 => h9) rfl (by decide +kernel) rfl rfl (Nat.le_of_ble_eq_true rfl) dX4_isThere_41 (fun H locs hP hD hS => ?_)
    have hP : va_P (dC, dI) vwCl (xm ad ca kf vf tf fr sf fi bk bv w ny nb mn ai en 1 op wr) H := hP
    have hD : va_D A (xm ad ca kf vf tf fr sf fi bk bv w ny nb mn ai en 1 op wr) := hD
    refine lv_aload_n hx hb dX4_isThere_44 rfl (lv_at hl 0 rfl) ?_
    refine va_get (D := (dC, dI)) (ci := 4) (v := .int 1) (C := RX4) (T := TX4) (N := 17) (ref := "SortedRunModel") hx hb hts (xg_u mb_uws_X4) hown hK hP 0 rfl rfl 14 (by decide) (xg_w hts mb_fieldLink_RX4_39) (fun _ h9 => h9) rfl dX4_isThere_45 ?_
    refine lv_if_ne (tgt := 55) hx hb dX4_isThere_48 rfl (fun hc9 => ?_) (fun hc9 => absurd hc9 (by decide))
    refine lv_iconst (v := 0) hx hb dX4_isThere_55 (by decide) ?_
    have hP9 := hP
    have hD9 := hD
    exact W.zret (v := 0) hx hb hr (by rfl) (fun t ht hW => ⟨⟨0, (1, bk, bv, mn, ai, en, wr), rfl, Or.inl (⟨rfl, rfl, hc⟩), by rw [ht]; exact hP9, va_K.moved hW.alike hK, hD9⟩, hS.F ht⟩) hS.2.2 dX4_isThere_56

set_option maxHeartbeats 4000000 in
set_option maxRecDepth 100000 in
theorem cX4_entries_m (l : Launch) (dC : Nat → ClassId) (dI : Nat → Nat → Nat) (ca : Nat → ClassId) (ad : Nat → Nat) (kf : Nat → Int32) (vf : Nat → Int64) (tf : Nat → Int32) (fr : Nat → Int32) (sf : Nat → Int32) (fi : Nat → Int32) (bk : Nat → Int32) (bv : Nat → Int64) (w : Int32) (ny : Int32) (nb : Int32) (mn : Int32) (ai : Int32) (en : Int32) (th : Int32) (op : Int32) (wr : Int32) (lr : List (Nat × Nat)) (x : Int32) (hf : pb_fit tf) (hopen : ¬ op = 0 → nb = nI lr.length ∧ lr.length ≤ 2444 ∧ pm_rows 0 0 lr fr sf fi ∧ px_sum lr ≤ 4889) : ∀ sz : Nat, Met l yX4_entries wsX4_entries ({ frames := 4, cells := 0, slots := 0, locals := 96 } : Room) (va_Pc [.ref (ad 0), .int x] (xP (dC, dI) (xt ca) (xm ad ca kf vf tf fr sf fi bk bv w ny nb mn ai en th op wr) sz)) (va_Qi (S := Int32 × (Nat → Int32) × (Nat → Int64) × Int32 × Int32 × Int32 × Int32) (fun r u => (u.1 = 1 ∧ op = 0) ∨ (u.1 = 2 ∧ ¬ op = 0 ∧ sp_in x lr.length = false) ∨ (u.1 = 3 ∧ ¬ op = 0 ∧ ∃ j, (j < lr.length ∧ x = nI j) ∧ pe_of tf lr j = none) ∨ (u.1 = 0 ∧ ¬ op = 0 ∧ ∃ j lb, (j < lr.length ∧ x = nI j) ∧ pe_of tf lr j = some lb ∧ r = nI lb.length)) (fun u t => xB (dC, dI) (xt ca) (va_A (xm ad ca kf vf tf fr sf fi bk bv w ny nb mn ai en th op wr) sz) (xm ad ca kf vf tf fr sf fi u.2.1 u.2.2.1 w ny nb u.2.2.2.1 u.2.2.2.2.1 u.2.2.2.2.2.1 u.1 op u.2.2.2.2.2.2) t) (va_A (xm ad ca kf vf tf fr sf fi bk bv w ny nb mn ai en th op wr) sz)) 0 0 (va_A (xm ad ca kf vf tf fr sf fi bk bv w ny nb mn ai en th op wr) sz) := by
  intro sz
  refine Met.ofW (cc := cX4_entries) (maxL := 2) (ret := (some .int)) (by decide) rfl ?_
  intro p e s m args below meth c s₁ B hml hv
  obtain ⟨rfl, hsz, hP, hK, hD0, hE⟩ := hv
  have hx := B.exec
  have hb := B.bytes
  have hr := B.returns
  have hts := atoms_spec (ws := wsX4_entries) B.pre
  have hown : s.vm.findClass RX4 = some m.cls := findClass_of_methodNamed B.named
  have hlocks := B.notSynchronized
  subst hsz
  have hD := hD0.self (sz := s.heap.size)
  generalize hAe : va_A (xm ad ca kf vf tf fr sf fi bk bv w ny nb mn ai en th op wr) s.heap.size = A at hD hE ⊢
  have hA : ∀ q : Nat, s.heap.size ≤ q → A q := fun q h => by rw [← hAe]; exact Or.inr h
  have hS : va_S A s.heap s.heap [] := va_S.rf
  have hl := lv_entry ([.ref (ad 0), .int x]) (n := 2) (Nat.le_of_ble_eq_true rfl)
  rw [lg_entry_eq]
  generalize (lg_sl ([.ref (ad 0), .int x]) ++ List.replicate (2 - (lg_sl ([.ref (ad 0), .int x])).length) Slot.unset).toArray = ls at hl ⊢
  have hl : lv_has ls 2 [(0, .ref (ad 0)), (1, .int x)] := hl
  refine lv_aload_n hx hb dX4_entries_0 rfl (lv_at hl 0 rfl) ?_
  refine lv_iload_n hx hb dX4_entries_1 rfl (lv_at hl 1 rfl) ?_
  refine xk_i (va_runV (As := [.int x]) (rest := []) ⟨hx, hb, hml, hown, hts⟩ (cX4_isThere_m l dC dI ca ad kf vf tf fr sf fi bk bv w ny nb mn ai en th op wr lr x hf hopen _) (cwV 1 hts (xg_V mb_methodLink_RX4_124 mb_instanceMethod_yX4_isThere mb_selects_yX4_isThere mb_initialized_RX4 mb_code_yX4_isThere) rfl rfl rfl ⟨rfl, by decide, by decide, by decide +kernel⟩ ⟨Nat.le_of_ble_eq_true rfl, Nat.le_of_ble_eq_true rfl⟩) (xpreV (va_recv (q0 := 0) hK hP rfl rfl) hK hP hD hS hA hE) rfl rfl hl.1 rfl (lv_room (Nat.le_of_ble_eq_true rfl)) dX4_entries_2 ⟨Nat.le_of_ble_eq_true rfl, Nat.le_of_ble_eq_true rfl⟩) hD hS hA (fun r u H locs hu hP hD hS => ?_)
  have hP : va_P (dC, dI) vwCl (xm ad ca kf vf tf fr sf fi u.2.1 u.2.2.1 w ny nb u.2.2.2.1 u.2.2.2.2.1 u.2.2.2.2.2.1 u.1 op u.2.2.2.2.2.2) H := hP
  have hD : va_D A (xm ad ca kf vf tf fr sf fi u.2.1 u.2.2.1 w ny nb u.2.2.2.1 u.2.2.2.2.1 u.2.2.2.2.2.1 u.1 op u.2.2.2.2.2.2) := hD
  obtain ⟨x0, x1, x2, x3, x4, x5, x6⟩ := u
  dsimp only at hu hP hD
  rcases hu with hu | hu | hu | hu
  · obtain ⟨rfl, rfl, h1⟩ := hu
    refine lv_if_eq (tgt := 15) hx hb dX4_entries_5 rfl (fun hc => ?_) (fun hc => absurd hc (not_not_intro rfl))
    refine lv_iconst (v := 0) hx hb dX4_entries_15 (by decide) ?_
    have hP9 := hP
    have hD9 := hD
    exact W.iret (v := 0) hx hb hr (fun t ht hW => ⟨⟨0, (1, x1, x2, x3, x4, x5, x6), rfl, Or.inl (⟨rfl, h1⟩), by rw [ht]; exact hP9, va_K.moved hW.alike hK, hD9⟩, hS.F ht⟩) hS.2.2 dX4_entries_16
  · obtain ⟨rfl, rfl, h1⟩ := hu
    refine lv_if_eq (tgt := 15) hx hb dX4_entries_5 rfl (fun hc => ?_) (fun hc => absurd hc (not_not_intro rfl))
    refine lv_iconst (v := 0) hx hb dX4_entries_15 (by decide) ?_
    have hP9 := hP
    have hD9 := hD
    exact W.iret (v := 0) hx hb hr (fun t ht hW => ⟨⟨0, (2, x1, x2, x3, x4, x5, x6), rfl, Or.inr (Or.inl (⟨rfl, h1⟩)), by rw [ht]; exact hP9, va_K.moved hW.alike hK, hD9⟩, hS.F ht⟩) hS.2.2 dX4_entries_16
  · obtain ⟨rfl, rfl, h1⟩ := hu
    refine lv_if_eq (tgt := 15) hx hb dX4_entries_5 rfl (fun hc => ?_) (fun hc => absurd hc (not_not_intro rfl))
    refine lv_iconst (v := 0) hx hb dX4_entries_15 (by decide) ?_
    have hP9 := hP
    have hD9 := hD
    exact W.iret (v := 0) hx hb hr (fun t ht hW => ⟨⟨0, (3, x1, x2, x3, x4, x5, x6), rfl, Or.inr (Or.inr (Or.inl (⟨rfl, h1⟩))), by rw [ht]; exact hP9, va_K.moved hW.alike hK, hD9⟩, hS.F ht⟩) hS.2.2 dX4_entries_16
  · obtain ⟨rfl, rfl, hc, j, lb, hj, rfl, hlb, hlbl, hx3, hrw⟩ := hu
    refine lv_if_eq (tgt := 15) hx hb dX4_entries_5 rfl (fun hc9 => absurd hc9 (by decide)) (fun hc9 => ?_)
    refine lv_aload_n hx hb dX4_entries_8 rfl (lv_at hl 0 rfl) ?_
    refine va_get (D := (dC, dI)) (ci := 4) (v := .int x3) (C := RX4) (T := TX4) (N := 17) (ref := "SortedRunModel") hx hb hts (xg_u mb_uws_X4) hown hK hP 0 rfl rfl 11 (by decide) (xg_w hts mb_fieldLink_RX4_110) (fun _ h9 => h9) rfl dX4_entries_9 ?_
    refine lv_topi (fun z1 ez1 => ?_)
    have ez1 : z1 = nI lb.length := ez1.trans (hx3)
    subst ez1
    refine lv_goto (tgt := 16) hx hb dX4_entries_12 rfl ?_
    have hP9 := hP
    have hD9 := hD
    exact W.iret (v := nI lb.length) hx hb hr (fun t ht hW => ⟨⟨nI lb.length, (0, x1, x2, x3, x4, x5, x6), rfl, Or.inr (Or.inr (Or.inr (⟨rfl, hc, j, lb, ⟨hj, rfl⟩, hlb, rfl⟩))), by rw [ht]; exact hP9, va_K.moved hW.alike hK, hD9⟩, hS.F ht⟩) hS.2.2 dX4_entries_16

set_option maxHeartbeats 4000000 in
set_option maxRecDepth 100000 in
theorem cX4_key_m (l : Launch) (dC : Nat → ClassId) (dI : Nat → Nat → Nat) (ca : Nat → ClassId) (ad : Nat → Nat) (kf : Nat → Int32) (vf : Nat → Int64) (tf : Nat → Int32) (fr : Nat → Int32) (sf : Nat → Int32) (fi : Nat → Int32) (bk : Nat → Int32) (bv : Nat → Int64) (w : Int32) (ny : Int32) (nb : Int32) (mn : Int32) (ai : Int32) (en : Int32) (th : Int32) (op : Int32) (wr : Int32) (lr : List (Nat × Nat)) (x y : Int32) (hf : pb_fit tf) (hopen : ¬ op = 0 → nb = nI lr.length ∧ lr.length ≤ 2444 ∧ pm_rows 0 0 lr fr sf fi ∧ px_sum lr ≤ 4889) : ∀ sz : Nat, Met l yX4_key wsX4_key ({ frames := 4, cells := 0, slots := 0, locals := 96 } : Room) (va_Pc [.ref (ad 0), .int x, .int y] (xP (dC, dI) (xt ca) (xm ad ca kf vf tf fr sf fi bk bv w ny nb mn ai en th op wr) sz)) (va_Qi (S := Int32 × (Nat → Int32) × (Nat → Int64) × Int32 × Int32 × Int32 × Int32) (fun r u => (u.1 = 1 ∧ op = 0) ∨ (u.1 = 2 ∧ ¬ op = 0 ∧ sp_in x lr.length = false) ∨ (u.1 = 3 ∧ ¬ op = 0 ∧ ∃ j, (j < lr.length ∧ x = nI j) ∧ pe_of tf lr j = none) ∨ (u.1 = 2 ∧ ¬ op = 0 ∧ ∃ j lb, (j < lr.length ∧ x = nI j) ∧ pe_of tf lr j = some lb ∧ sp_in y lb.length = false) ∨ (u.1 = 0 ∧ ¬ op = 0 ∧ ∃ j lb i, (j < lr.length ∧ x = nI j) ∧ pe_of tf lr j = some lb ∧ i < lb.length ∧ y = nI i ∧ r = (lb.getD i (0, 0)).1)) (fun u t => xB (dC, dI) (xt ca) (va_A (xm ad ca kf vf tf fr sf fi bk bv w ny nb mn ai en th op wr) sz) (xm ad ca kf vf tf fr sf fi u.2.1 u.2.2.1 w ny nb u.2.2.2.1 u.2.2.2.2.1 u.2.2.2.2.2.1 u.1 op u.2.2.2.2.2.2) t) (va_A (xm ad ca kf vf tf fr sf fi bk bv w ny nb mn ai en th op wr) sz)) 0 0 (va_A (xm ad ca kf vf tf fr sf fi bk bv w ny nb mn ai en th op wr) sz) := by
  intro sz
  refine Met.ofW (cc := cX4_key) (maxL := 3) (ret := (some .int)) (by decide) rfl ?_
  intro p e s m args below meth c s₁ B hml hv
  obtain ⟨rfl, hsz, hP, hK, hD0, hE⟩ := hv
  have hx := B.exec
  have hb := B.bytes
  have hr := B.returns
  have hts := atoms_spec (ws := wsX4_key) B.pre
  have hown : s.vm.findClass RX4 = some m.cls := findClass_of_methodNamed B.named
  have hlocks := B.notSynchronized
  subst hsz
  have hD := hD0.self (sz := s.heap.size)
  generalize hAe : va_A (xm ad ca kf vf tf fr sf fi bk bv w ny nb mn ai en th op wr) s.heap.size = A at hD hE ⊢
  have hA : ∀ q : Nat, s.heap.size ≤ q → A q := fun q h => by rw [← hAe]; exact Or.inr h
  have hS : va_S A s.heap s.heap [] := va_S.rf
  have hl := lv_entry ([.ref (ad 0), .int x, .int y]) (n := 3) (Nat.le_of_ble_eq_true rfl)
  rw [lg_entry_eq]
  generalize (lg_sl ([.ref (ad 0), .int x, .int y]) ++ List.replicate (3 - (lg_sl ([.ref (ad 0), .int x, .int y])).length) Slot.unset).toArray = ls at hl ⊢
  have hl : lv_has ls 3 [(0, .ref (ad 0)), (1, .int x), (2, .int y)] := hl
  refine lv_aload_n hx hb dX4_key_0 rfl (lv_at hl 0 rfl) ?_
  refine lv_iload_n hx hb dX4_key_1 rfl (lv_at hl 1 rfl) ?_
  refine xk_i (va_runV (As := [.int x]) (rest := []) ⟨hx, hb, hml, hown, hts⟩ (cX4_isThere_m l dC dI ca ad kf vf tf fr sf fi bk bv w ny nb mn ai en th op wr lr x hf hopen _) (cwV 1 hts (xg_V mb_methodLink_RX4_124 mb_instanceMethod_yX4_isThere mb_selects_yX4_isThere mb_initialized_RX4 mb_code_yX4_isThere) rfl rfl rfl ⟨rfl, by decide, by decide, by decide +kernel⟩ ⟨Nat.le_of_ble_eq_true rfl, Nat.le_of_ble_eq_true rfl⟩) (xpreV (va_recv (q0 := 0) hK hP rfl rfl) hK hP hD hS hA hE) rfl rfl hl.1 rfl (lv_room (Nat.le_of_ble_eq_true rfl)) dX4_key_2 ⟨Nat.le_of_ble_eq_true rfl, Nat.le_of_ble_eq_true rfl⟩) hD hS hA (fun r u H locs hu hP hD hS => ?_)
  have hP : va_P (dC, dI) vwCl (xm ad ca kf vf tf fr sf fi u.2.1 u.2.2.1 w ny nb u.2.2.2.1 u.2.2.2.2.1 u.2.2.2.2.2.1 u.1 op u.2.2.2.2.2.2) H := hP
  have hD : va_D A (xm ad ca kf vf tf fr sf fi u.2.1 u.2.2.1 w ny nb u.2.2.2.1 u.2.2.2.2.1 u.2.2.2.2.2.1 u.1 op u.2.2.2.2.2.2) := hD
  obtain ⟨x0, x1, x2, x3, x4, x5, x6⟩ := u
  dsimp only at hu hP hD
  rcases hu with hu | hu | hu | hu
  · obtain ⟨rfl, rfl, h1⟩ := hu
    refine lv_if_ne (tgt := 10) hx hb dX4_key_5 rfl (fun hc => absurd hc (not_not_intro rfl)) (fun hc => ?_)
    refine lv_iconst (v := 0) hx hb dX4_key_8 (by decide) ?_
    have hP9 := hP
    have hD9 := hD
    exact W.iret (v := 0) hx hb hr (fun t ht hW => ⟨⟨0, (1, x1, x2, x3, x4, x5, x6), rfl, Or.inl (⟨rfl, h1⟩), by rw [ht]; exact hP9, va_K.moved hW.alike hK, hD9⟩, hS.F ht⟩) hS.2.2 dX4_key_9
  · obtain ⟨rfl, rfl, h1⟩ := hu
    refine lv_if_ne (tgt := 10) hx hb dX4_key_5 rfl (fun hc => absurd hc (not_not_intro rfl)) (fun hc => ?_)
    refine lv_iconst (v := 0) hx hb dX4_key_8 (by decide) ?_
    have hP9 := hP
    have hD9 := hD
    exact W.iret (v := 0) hx hb hr (fun t ht hW => ⟨⟨0, (2, x1, x2, x3, x4, x5, x6), rfl, Or.inr (Or.inl (⟨rfl, h1⟩)), by rw [ht]; exact hP9, va_K.moved hW.alike hK, hD9⟩, hS.F ht⟩) hS.2.2 dX4_key_9
  · obtain ⟨rfl, rfl, h1⟩ := hu
    refine lv_if_ne (tgt := 10) hx hb dX4_key_5 rfl (fun hc => absurd hc (not_not_intro rfl)) (fun hc => ?_)
    refine lv_iconst (v := 0) hx hb dX4_key_8 (by decide) ?_
    have hP9 := hP
    have hD9 := hD
    exact W.iret (v := 0) hx hb hr (fun t ht hW => ⟨⟨0, (3, x1, x2, x3, x4, x5, x6), rfl, Or.inr (Or.inr (Or.inl (⟨rfl, h1⟩))), by rw [ht]; exact hP9, va_K.moved hW.alike hK, hD9⟩, hS.F ht⟩) hS.2.2 dX4_key_9
  · obtain ⟨rfl, rfl, hc, j, lb, hj, rfl, hlb, hlbl, rfl, hrw⟩ := hu
    refine lv_if_ne (tgt := 10) hx hb dX4_key_5 rfl (fun hc9 => ?_) (fun hc9 => absurd hc9 (by decide))
    refine lv_aload_n hx hb dX4_key_10 rfl (lv_at hl 0 rfl) ?_
    refine lv_iload_n hx hb dX4_key_11 rfl (lv_at hl 2 rfl) ?_
    refine lv_if_lt (tgt := 23) hx hb dX4_key_12 rfl (fun hc2 => ?_) (fun hc2 => ?_)
    · refine lv_iconst (v := 2) hx hb dX4_key_23 (by decide) ?_
      refine lv_goto (tgt := 28) hx hb dX4_key_24 rfl ?_
      refine va_put (D := (dC, dI)) (ci := 4) (v := .int 2) (ty := .int) (C := RX4) (T := TX4) (N := 17) (ref := "SortedRunModel") hx hb hts (xg_u mb_uws_X4) tyX4 tyX4_ok nmX4 hown hK hP hD hS 0 rfl rfl 14 (by decide) (xg_w hts mb_fieldLink_RX4_39) (fun _ h9 => h9) rfl (by decide +kernel) rfl rfl (Nat.le_of_ble_eq_true rfl) dX4_key_28 (fun H locs hP hD hS => ?_)
      have hP : va_P (dC, dI) vwCl (xm ad ca kf vf tf fr sf fi x1 x2 w ny nb (nI lb.length) x4 x5 2 op x6) H := hP
      have hD : va_D A (xm ad ca kf vf tf fr sf fi x1 x2 w ny nb (nI lb.length) x4 x5 2 op x6) := hD
      refine lv_aload_n hx hb dX4_key_31 rfl (lv_at hl 0 rfl) ?_
      refine va_get (D := (dC, dI)) (ci := 4) (v := .int 2) (C := RX4) (T := TX4) (N := 17) (ref := "SortedRunModel") hx hb hts (xg_u mb_uws_X4) hown hK hP 0 rfl rfl 14 (by decide) (xg_w hts mb_fieldLink_RX4_39) (fun _ h9 => h9) rfl dX4_key_32 ?_
      refine lv_if_le (tgt := 42) hx hb dX4_key_35 rfl (fun hc8 => absurd hc8 (by decide)) (fun hc8 => ?_)
      refine lv_iconst (v := 0) hx hb dX4_key_38 (by decide) ?_
      refine lv_goto (tgt := 48) hx hb dX4_key_39 rfl ?_
      have hP9 := hP
      have hD9 := hD
      exact W.iret (v := 0) hx hb hr (fun t ht hW => ⟨⟨0, (2, x1, x2, nI lb.length, x4, x5, x6), rfl, Or.inr (Or.inr (Or.inr (Or.inl (⟨rfl, hc, j, lb, ⟨hj, rfl⟩, hlb, by unfold sp_in; rw [decide_eq_false (Int32.not_le.mpr hc2)]; rfl⟩)))), by rw [ht]; exact hP9, va_K.moved hW.alike hK, hD9⟩, hS.F ht⟩) hS.2.2 dX4_key_48
    · refine lv_iload_n hx hb dX4_key_15 rfl (lv_at hl 2 rfl) ?_
      refine lv_aload_n hx hb dX4_key_16 rfl (lv_at hl 0 rfl) ?_
      refine va_get (D := (dC, dI)) (ci := 4) (v := .int (nI lb.length)) (C := RX4) (T := TX4) (N := 17) (ref := "SortedRunModel") hx hb hts (xg_u mb_uws_X4) hown hK hP 0 rfl rfl 11 (by decide) (xg_w hts mb_fieldLink_RX4_110) (fun _ h9 => h9) rfl dX4_key_17 ?_
      refine lv_icmp_lt (tgt := 27) hx hb dX4_key_20 rfl (fun hc3 => ?_) (fun hc3 => ?_)
      · obtain ⟨i, hi, rfl⟩ := (sp_in_iff (n := lb.length) (by omega)).mp (by unfold sp_in; rw [decide_eq_true (Int32.not_lt.mp hc2), decide_eq_true hc3]; rfl)
        refine lv_iconst (v := 0) hx hb dX4_key_27 (by decide) ?_
        refine va_put (D := (dC, dI)) (ci := 4) (v := .int 0) (ty := .int) (C := RX4) (T := TX4) (N := 17) (ref := "SortedRunModel") hx hb hts (xg_u mb_uws_X4) tyX4 tyX4_ok nmX4 hown hK hP hD hS 0 rfl rfl 14 (by decide) (xg_w hts mb_fieldLink_RX4_39) (fun _ h9 => h9) rfl (by decide +kernel) rfl rfl (Nat.le_of_ble_eq_true rfl) dX4_key_28 (fun H locs hP hD hS => ?_)
        have hP : va_P (dC, dI) vwCl (xm ad ca kf vf tf fr sf fi x1 x2 w ny nb (nI lb.length) x4 x5 0 op x6) H := hP
        have hD : va_D A (xm ad ca kf vf tf fr sf fi x1 x2 w ny nb (nI lb.length) x4 x5 0 op x6) := hD
        refine lv_aload_n hx hb dX4_key_31 rfl (lv_at hl 0 rfl) ?_
        refine va_get (D := (dC, dI)) (ci := 4) (v := .int 0) (C := RX4) (T := TX4) (N := 17) (ref := "SortedRunModel") hx hb hts (xg_u mb_uws_X4) hown hK hP 0 rfl rfl 14 (by decide) (xg_w hts mb_fieldLink_RX4_39) (fun _ h9 => h9) rfl dX4_key_32 ?_
        refine lv_if_le (tgt := 42) hx hb dX4_key_35 rfl (fun hc8 => ?_) (fun hc8 => absurd hc8 (not_not_intro (by decide)))
        refine lv_aload_n hx hb dX4_key_42 rfl (lv_at hl 0 rfl) ?_
        refine va_get (D := (dC, dI)) (ci := 4) (v := .ref (ad 7)) (C := RX4) (T := TX4) (N := 17) (ref := "SortedRunModel") hx hb hts (xg_u mb_uws_X4) hown hK hP 0 rfl rfl 6 (by decide) (xg_w hts mb_fieldLink_RX4_30) (fun _ h9 => h9) rfl dX4_key_43 ?_
        refine lv_iload_n hx hb dX4_key_46 rfl (lv_at hl 2 rfl) ?_
        refine va_iald hx hb hK hP 7 6 rfl rfl (vp_in_nI (by omega) (by decide)) dX4_key_47 ?_
        refine lv_topi (fun z1 ez1 => ?_)
        have ez1 : z1 = (lb.getD i (0, 0)).1 := ez1.trans ((congrArg x1 (nI_clamp (by omega))).trans (hrw i hi).1)
        subst ez1
        have hP9 := hP
        have hD9 := hD
        exact W.iret (v := (lb.getD i (0, 0)).1) hx hb hr (fun t ht hW => ⟨⟨(lb.getD i (0, 0)).1, (0, x1, x2, nI lb.length, x4, x5, x6), rfl, Or.inr (Or.inr (Or.inr (Or.inr (⟨rfl, hc, j, lb, i, ⟨hj, rfl⟩, hlb, hi, rfl, rfl⟩)))), by rw [ht]; exact hP9, va_K.moved hW.alike hK, hD9⟩, hS.F ht⟩) hS.2.2 dX4_key_48
      · refine lv_iconst (v := 2) hx hb dX4_key_23 (by decide) ?_
        refine lv_goto (tgt := 28) hx hb dX4_key_24 rfl ?_
        refine va_put (D := (dC, dI)) (ci := 4) (v := .int 2) (ty := .int) (C := RX4) (T := TX4) (N := 17) (ref := "SortedRunModel") hx hb hts (xg_u mb_uws_X4) tyX4 tyX4_ok nmX4 hown hK hP hD hS 0 rfl rfl 14 (by decide) (xg_w hts mb_fieldLink_RX4_39) (fun _ h9 => h9) rfl (by decide +kernel) rfl rfl (Nat.le_of_ble_eq_true rfl) dX4_key_28 (fun H locs hP hD hS => ?_)
        have hP : va_P (dC, dI) vwCl (xm ad ca kf vf tf fr sf fi x1 x2 w ny nb (nI lb.length) x4 x5 2 op x6) H := hP
        have hD : va_D A (xm ad ca kf vf tf fr sf fi x1 x2 w ny nb (nI lb.length) x4 x5 2 op x6) := hD
        refine lv_aload_n hx hb dX4_key_31 rfl (lv_at hl 0 rfl) ?_
        refine va_get (D := (dC, dI)) (ci := 4) (v := .int 2) (C := RX4) (T := TX4) (N := 17) (ref := "SortedRunModel") hx hb hts (xg_u mb_uws_X4) hown hK hP 0 rfl rfl 14 (by decide) (xg_w hts mb_fieldLink_RX4_39) (fun _ h9 => h9) rfl dX4_key_32 ?_
        refine lv_if_le (tgt := 42) hx hb dX4_key_35 rfl (fun hc8 => absurd hc8 (by decide)) (fun hc8 => ?_)
        refine lv_iconst (v := 0) hx hb dX4_key_38 (by decide) ?_
        refine lv_goto (tgt := 48) hx hb dX4_key_39 rfl ?_
        have hP9 := hP
        have hD9 := hD
        exact W.iret (v := 0) hx hb hr (fun t ht hW => ⟨⟨0, (2, x1, x2, nI lb.length, x4, x5, x6), rfl, Or.inr (Or.inr (Or.inr (Or.inl (⟨rfl, hc, j, lb, ⟨hj, rfl⟩, hlb, by unfold sp_in; rw [decide_eq_false hc3, Bool.and_false]⟩)))), by rw [ht]; exact hP9, va_K.moved hW.alike hK, hD9⟩, hS.F ht⟩) hS.2.2 dX4_key_48
