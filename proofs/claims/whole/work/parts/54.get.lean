/-! SortedRun: key, get (rows by wip/whole/wsr3.py) -/
set_option maxHeartbeats 4000000 in
set_option maxRecDepth 100000 in
theorem lpX3_key_go {p : Program} {l : Launch} {e : Env} {s : State} {m : MethodId} {args : Array Value} {below : List Frame} {meth : Method} {c : Code} {Q : State → Prop} {A : Nat → Prop} {dC : Nat → ClassId} {dI : Nat → Nat → Nat} {ca : Nat → ClassId} {ad : Nat → Nat} (hx : p.tables.exec = Jvm.exec) (hb : c.code = cX3_key) (hml : c.maxLocals = 5) (hown : s.vm.findClass RX3 = some m.cls) (hts : ∀ w ∈ wsX3_key, w.before args s = true) (hK : va_K (dC, dI) vwCl (xt ca) s) (hA : ∀ q : Nat, s.heap.size ≤ q → A q) (hE : xn_E A s) {kf : Nat → Int32} {vf : Nat → Int64} {bf : Nat → Int32} {w : Int32} {op : Int32} {ln : Int32} {tf : Nat → Int32} {nb : Int32} {ef : Nat → Int32} {ff : Nat → Int32} {e9 i : Nat} (he9 : e9 ≤ 4885) (hi : i < 2444) : ∀ (k : Nat) (cnt a : Nat) (ok fi ek : Int32) (ev : Int64) (fst : Bool) (lb : List (Int32 × Int64)) (H : Heap) (locs : List Loc) (ls : Array Slot), a ≤ e9 → fi = (if fst = true then 1 else 0) → pe_bl tf e9 e9 fst ek a = some lb → k ≤ lb.length → cnt + k = i + 1 → lv_has ls 5 [(4, .int (nI cnt)), (0, .ref (ad 0)), (2, .int (nI i))] → va_P (dC, dI) vwCl (xw ad ca kf vf bf w op ln (nI a) (nI e9) ok tf nb ef ff fi ek ev) H → va_D A (xw ad ca kf vf bf w op ln (nI a) (nI e9) ok tf nb ef ff fi ek ev) → va_S A s.heap H locs → (∀ (x1 x3 x4 x5 : Int32) (x6 : Int64), (k = 0 → x5 = ek) → (0 < k → x5 = (lb.getD (k - 1) (0, 0)).1) → ∀ (H : Heap) (locs : List Loc) (ls : Array Slot), lv_has ls 5 [(0, .ref (ad 0))] → va_P (dC, dI) vwCl (xw ad ca kf vf bf w op ln x1 (nI e9) x3 tf nb ef ff x4 x5 x6) H → va_D A (xw ad ca kf vf bf w op ln x1 (nI e9) x3 tf nb ef ff x4 x5 x6) → va_S A s.heap H locs → W p l e ({ frames := 7, cells := 1, slots := 6, locals := 114 } : Room) s m args below meth c H locs 0 0 Q (F0 m 65 ls [])) → W p l e ({ frames := 7, cells := 1, slots := 6, locals := 114 } : Room) s m args below meth c H locs 0 0 Q (F0 m 42 ls []) := by
  intro k
  induction k with
  | zero =>
    intro cnt a ok fi ek ev fst lb H locs ls ha hfi hlb hkl hck hl hP hD hS kg
    have hl : lv_has ls 5 [(4, .int (nI cnt)), (0, .ref (ad 0)), (2, .int (nI i))] := hl
    refine lv_iload hx hb dX3_key_42 (lv_at hl 0 rfl) ?_
    refine lv_iload_n hx hb dX3_key_44 rfl (lv_at hl 2 rfl) ?_
    refine lv_icmp_gt (tgt := 65) hx hb dX3_key_45 rfl (fun hc => ?_) (fun hc => absurd hc (not_not_intro (nI_lt (by omega) (by omega))))
    exact kg _ _ _ _ _ (fun _ => rfl) (fun z => absurd z (Nat.lt_irrefl 0)) H locs ls (lv_sub hl [1] rfl) hP hD hS
  | succ k ih =>
    intro cnt a ok fi ek ev fst lb H locs ls ha hfi hlb hkl hck hl hP hD hS kg
    have hl : lv_has ls 5 [(4, .int (nI cnt)), (0, .ref (ad 0)), (2, .int (nI i))] := hl
    refine lv_iload hx hb dX3_key_42 (lv_at hl 0 rfl) ?_
    refine lv_iload_n hx hb dX3_key_44 rfl (lv_at hl 2 rfl) ?_
    refine lv_icmp_gt (tgt := 65) hx hb dX3_key_45 rfl (fun hc => absurd hc (by rw [nI_ltI (by omega) (by omega)]; omega)) (fun hc => ?_)
    obtain ⟨h8, k1, v1, a2, lb2, hrd, rfl, hlb2⟩ := pe_bl_inv hlb (by omega)
    refine lv_aload_n hx hb dX3_key_48 rfl (lv_at hl 1 rfl) ?_
    refine va_get (D := (dC, dI)) (ci := 3) (v := .ref (ad 9)) (C := RX3) (T := TX3) (N := 8) (ref := "SortedRun") hx hb hts (xg_u mb_uws_X3) hown hK hP 0 rfl rfl 5 (by decide) (xg_w hts mb_fieldLink_RX3_37) (fun _ h9 => h9) rfl dX3_key_49 ?_
    refine lv_aload_n hx hb dX3_key_52 rfl (lv_at hl 1 rfl) ?_
    refine va_get (D := (dC, dI)) (ci := 3) (v := .ref (ad 4)) (C := RX3) (T := TX3) (N := 8) (ref := "SortedRun") hx hb hts (xg_u mb_uws_X3) hown hK hP 0 rfl rfl 3 (by decide) (xg_w hts mb_fieldLink_RX3_23) (fun _ h9 => h9) rfl dX3_key_53 ?_
    refine xk_v (va_runV (As := [.ref (ad 4)]) (rest := []) ⟨hx, hb, hml, hown, hts⟩ (cX0_readNext_m l dC dI ca ad kf vf bf w op ln ok tf nb ef ff fi ek ev a e9 fst ha (by omega) hfi _) (cwV 1 hts (xg_V mb_methodLink_RX3_110 mb_instanceMethod_yX0_readNext mb_selects_yX0_readNext mb_initialized_RX0 mb_code_yX0_readNext) rfl rfl rfl ⟨rfl, by decide, by decide, by decide +kernel⟩ ⟨Nat.le_of_ble_eq_true rfl, Nat.le_of_ble_eq_true rfl⟩) (xpreV (va_recv (q0 := 9) hK hP rfl rfl) hK hP hD hS hA hE) rfl rfl hl.1 rfl (lv_room (Nat.le_of_ble_eq_true rfl)) dX3_key_56 ⟨Nat.le_of_ble_eq_true rfl, Nat.le_of_ble_eq_true rfl⟩) hD hS hA (fun u H locs hu hP hD hS => ?_)
    have hP : va_P (dC, dI) vwCl (xw ad ca kf vf bf w op ln (nI u.1) (nI e9) u.2.1 tf nb ef ff 0 u.2.2.1 u.2.2.2) H := hP
    have hD : va_D A (xw ad ca kf vf bf w op ln (nI u.1) (nI e9) u.2.1 tf nb ef ff 0 u.2.2.1 u.2.2.2) := hD
    obtain ⟨a1, o1, kq, vq⟩ := u
    obtain ⟨h1, h2, hq1⟩ := hu
    dsimp only at h1 h2 hq1 hP hD
    have hq2 : k1 = kq ∧ v1 = vq ∧ a2 = a1 := by
      rcases hq1 with ⟨z, -⟩ | ⟨z, -⟩
      · rw [hrd] at z; cases z; exact ⟨rfl, rfl, rfl⟩
      · rw [hrd] at z; cases z
    obtain ⟨rfl, rfl, rfl⟩ := hq2
    refine lv_iinc (k := 0) (v := nI (cnt + 1)) hx hb dX3_key_59 hl rfl (nI_1 cnt) (by decide) rfl (fun ls hl => ?_)
    have hl : lv_has ls 5 [(4, .int (nI (cnt + 1))), (0, .ref (ad 0)), (2, .int (nI i))] := hl
    refine lv_goto (tgt := 42) hx hb dX3_key_62 rfl ?_
    refine ih (cnt + 1) a2 o1 0 k1 v1 false lb2 _ _ _ h2 rfl hlb2 (by simpa using hkl) (by omega) hl hP hD hS ?_
    intro x1 x3 x4 x5 x6 hx0 hx1 H locs ls hl hP hD hS
    refine kg x1 x3 x4 x5 x6 (fun z => absurd z (Nat.succ_ne_zero k)) (fun _ => ?_) H locs ls hl hP hD hS
    cases k with
    | zero => exact hx0 rfl
    | succ k => exact hx1 (Nat.succ_pos k)

set_option maxHeartbeats 4000000 in
set_option maxRecDepth 100000 in
theorem cX3_key_m (l : Launch) (hnt : l.stackTraces = false) (dC : Nat → ClassId) (dI : Nat → Nat → Nat) (ca : Nat → ClassId) (ad : Nat → Nat) (kf : Nat → Int32) (vf : Nat → Int64) (bf : Nat → Int32) (w : Int32) (op : Int32) (ln : Int32) (nx : Int32) (en : Int32) (ok : Int32) (tf : Nat → Int32) (nb : Int32) (ef : Nat → Int32) (ff : Nat → Int32) (fi : Int32) (ek : Int32) (ev : Int64) (lr : List (Nat × Nat)) (x y : Int32) (hopen : ¬ op = 0 → nb = nI lr.length ∧ lr.length ≤ 2444 ∧ px_rows 0 0 lr ef ff ∧ px_sum lr ≤ 4889) : ∀ sz : Nat, vx_Met l yX3_key wsX3_key ({ frames := 7, cells := 1, slots := 6, locals := 114 } : Room) (va_Pc [.ref (ad 0), .int x, .int y] (xP (dC, dI) (xt ca) (xw ad ca kf vf bf w op ln nx en ok tf nb ef ff fi ek ev) sz)) (va_Qi (S := Int32 × Int32 × Int32 × Int32 × Int32 × Int64) (fun r u => ¬ op = 0 ∧ ∃ j, j < lr.length ∧ x = nI j ∧ ∃ lb i, pe_of tf lr j = some lb ∧ i < lb.length ∧ y = nI i ∧ r = (lb.getD i (0, 0)).1) (fun u t => xB (dC, dI) (xt ca) (va_A (xw ad ca kf vf bf w op ln nx en ok tf nb ef ff fi ek ev) sz) (xw ad ca kf vf bf w op ln u.1 u.2.1 u.2.2.1 tf nb ef ff u.2.2.2.1 u.2.2.2.2.1 u.2.2.2.2.2) t ∧ t.heap.size = sz) (va_A (xw ad ca kf vf bf w op ln nx en ok tf nb ef ff fi ek ev) sz)) (xX (S := Int32 × Int32 × Int32 × Int32 × Int32 × Int64) (dC, dI) (xt ca) (va_A (xw ad ca kf vf bf w op ln nx en ok tf nb ef ff fi ek ev) sz) (fun E u => (E = "java/lang/IllegalStateException" ∧ op = 0) ∨ (¬ op = 0 ∧ E = "java/lang/IndexOutOfBoundsException" ∧ sp_in x lr.length = false) ∨ (¬ op = 0 ∧ E = "java/lang/ArithmeticException" ∧ ∃ j, j < lr.length ∧ x = nI j ∧ pe_of tf lr j = none) ∨ (¬ op = 0 ∧ E = "java/lang/IndexOutOfBoundsException" ∧ ∃ j, j < lr.length ∧ x = nI j ∧ ∃ lb, pe_of tf lr j = some lb ∧ sp_in y lb.length = false)) (fun u => xw ad ca kf vf bf w op ln u.1 u.2.1 u.2.2.1 tf nb ef ff u.2.2.2.1 u.2.2.2.2.1 u.2.2.2.2.2)) 1 6 (va_A (xw ad ca kf vf bf w op ln nx en ok tf nb ef ff fi ek ev) sz) := by
  intro sz
  refine vx_ofW (cc := cX3_key) (maxL := 5) (ret := (some .int)) (by decide) rfl ?_
  intro p e s m args below meth c s₁ B hml hno hv
  obtain ⟨rfl, hsz, hP, hK, hD0, hE⟩ := hv
  have hx := B.exec
  have hb := B.bytes
  have hr := B.returns
  have hts := atoms_spec (ws := wsX3_key) B.pre
  have hown : s.vm.findClass RX3 = some m.cls := findClass_of_methodNamed B.named
  have hlocks := B.notSynchronized
  subst hsz
  have hD := hD0.self (sz := s.heap.size)
  generalize hAe : va_A (xw ad ca kf vf bf w op ln nx en ok tf nb ef ff fi ek ev) s.heap.size = A at hD hE ⊢
  have hA : ∀ q : Nat, s.heap.size ≤ q → A q := fun q h => by rw [← hAe]; exact Or.inr h
  have hS : va_S A s.heap s.heap [] := va_S.rf
  have hl := lv_entry ([.ref (ad 0), .int x, .int y]) (n := 5) (Nat.le_of_ble_eq_true rfl)
  rw [lg_entry_eq]
  generalize (lg_sl ([.ref (ad 0), .int x, .int y]) ++ List.replicate (5 - (lg_sl ([.ref (ad 0), .int x, .int y])).length) Slot.unset).toArray = ls at hl ⊢
  have hl : lv_has ls 5 [(0, .ref (ad 0)), (1, .int x), (2, .int y)] := hl
  refine lv_aload_n hx hb dX3_key_0 rfl (lv_at hl 0 rfl) ?_
  refine x_size hS (fun hz => ?_)
  refine xx_v (vx_runV (As := []) (rest := []) ⟨hx, hb, hml, hown, hts⟩ (cX3_requireOpen_m l hnt dC dI ca ad kf vf bf w op ln nx en ok tf nb ef ff fi ek ev  _) (cwV 0 hts (xg_V mb_methodLink_RX3_93 mb_instanceMethod_yX3_requireOpen mb_selects_yX3_requireOpen mb_initialized_RX3 mb_code_yX3_requireOpen) rfl rfl rfl ⟨rfl, by decide, by decide, by decide +kernel⟩ ⟨Nat.le_of_ble_eq_true rfl, Nat.le_of_ble_eq_true rfl⟩) (xpreV (va_recv (q0 := 0) hK hP rfl rfl) hK hP hD hS hA hE) rfl rfl hl.1 rfl (lv_room (Nat.le_of_ble_eq_true rfl)) dX3_key_1 ⟨Nat.le_of_ble_eq_true rfl, Nat.le_of_ble_eq_true rfl⟩) hD hS hA hz (fun E ce q9 u H locs hX hP hD hS hce hcv hcl => ?_) (fun u H locs hop hP hD hS hz => ?_)
  · exact xx_out (nx, en, ok, fi, ek, ev) hno hlocks (Or.inl hX) hce hcv hcl hK hP hD hS (Nat.le_refl _) (Nat.le_refl _)
  have hP : va_P (dC, dI) vwCl (xw ad ca kf vf bf w op ln nx en ok tf nb ef ff fi ek ev) H := hP
  have hD : va_D A (xw ad ca kf vf bf w op ln nx en ok tf nb ef ff fi ek ev) := hD
  obtain ⟨hnb, hlen, hrows, hsum⟩ := hopen hop
  subst hnb
  refine lv_aload_n hx hb dX3_key_4 rfl (lv_at hl 0 rfl) ?_
  refine lv_iload_n hx hb dX3_key_5 rfl (lv_at hl 1 rfl) ?_
  refine x_size hS (fun hz => ?_)
  refine xx_v (vx_runV (As := [.int x]) (rest := []) ⟨hx, hb, hml, hown, hts⟩ (cX3_requireBlock_m l hnt dC dI ca ad kf vf bf w op ln nx en ok tf ef ff fi ek ev lr.length x (by omega) _) (cwV 1 hts (xg_V mb_methodLink_RX3_123 mb_instanceMethod_yX3_requireBlock mb_selects_yX3_requireBlock mb_initialized_RX3 mb_code_yX3_requireBlock) rfl rfl rfl ⟨rfl, by decide, by decide, by decide +kernel⟩ ⟨Nat.le_of_ble_eq_true rfl, Nat.le_of_ble_eq_true rfl⟩) (xpreV (va_recv (q0 := 0) hK hP rfl rfl) hK hP hD hS hA hE) rfl rfl hl.1 rfl (lv_room (Nat.le_of_ble_eq_true rfl)) dX3_key_6 ⟨Nat.le_of_ble_eq_true rfl, Nat.le_of_ble_eq_true rfl⟩) hD hS hA hz (fun E ce q9 u H locs hX hP hD hS hce hcv hcl => ?_) (fun u H locs hin hP hD hS hz => ?_)
  · exact xx_out (nx, en, ok, fi, ek, ev) hno hlocks (Or.inr (Or.inl ⟨hop, hX⟩)) hce hcv hcl hK hP hD hS (Nat.le_refl _) (Nat.le_refl _)
  have hP : va_P (dC, dI) vwCl (xw ad ca kf vf bf w op ln nx en ok tf (nI lr.length) ef ff fi ek ev) H := hP
  have hD : va_D A (xw ad ca kf vf bf w op ln nx en ok tf (nI lr.length) ef ff fi ek ev) := hD
  obtain ⟨j, hj, rfl⟩ := (sp_in_iff (by omega)).mp hin
  obtain ⟨hbp, hbq⟩ := px_rows_at hrows hj
  have hle := px_take_le lr j
  have hle2 := px_sum_take lr (j + 1)
  refine lv_aload_n hx hb dX3_key_9 rfl (lv_at hl 0 rfl) ?_
  refine lv_iload_n hx hb dX3_key_10 rfl (lv_at hl 1 rfl) ?_
  refine x_size hS (fun hz => ?_)
  refine xx_i (vx_runV (As := [.int (nI j)]) (rest := []) ⟨hx, hb, hml, hown, hts⟩ (cX3_countRightEntries_m l hnt dC dI ca ad kf vf bf w op ln nx en ok tf (nI lr.length) ef ff fi ek ev (px_sum (lr.take j)) (px_sum (lr.take (j + 1))) j (by omega) hbp hbq hle (by omega) _) (cwV 1 hts (xg_V mb_methodLink_RX3_104 mb_instanceMethod_yX3_countRightEntries mb_selects_yX3_countRightEntries mb_initialized_RX3 mb_code_yX3_countRightEntries) rfl rfl rfl ⟨rfl, by decide, by decide, by decide +kernel⟩ ⟨Nat.le_of_ble_eq_true rfl, Nat.le_of_ble_eq_true rfl⟩) (xpreV (va_recv (q0 := 0) hK hP rfl rfl) hK hP hD hS hA hE) rfl rfl hl.1 rfl (lv_room (Nat.le_of_ble_eq_true rfl)) dX3_key_11 ⟨Nat.le_of_ble_eq_true rfl, Nat.le_of_ble_eq_true rfl⟩) hD hS hA hz (fun E ce q9 u H locs hX hP hD hS hce hcv hcl => ?_) (fun r u H locs hu hP hD hS hz => ?_)
  · exact xx_out u hno hlocks (Or.inr (Or.inr (Or.inl ⟨hop, hX.1, j, hj, rfl, hX.2⟩))) hce hcv hcl hK hP hD hS (Nat.le_refl _) (Nat.le_refl _)
  have hP : va_P (dC, dI) vwCl (xw ad ca kf vf bf w op ln u.1 u.2.1 u.2.2.1 tf (nI lr.length) ef ff u.2.2.2.1 u.2.2.2.2.1 u.2.2.2.2.2) H := hP
  have hD : va_D A (xw ad ca kf vf bf w op ln u.1 u.2.1 u.2.2.1 tf (nI lr.length) ef ff u.2.2.2.1 u.2.2.2.2.1 u.2.2.2.2.2) := hD
  obtain ⟨x1, x2, x3, x4, x5, x6⟩ := u
  dsimp only at hP hD
  obtain ⟨lb, hlb, rfl, hlbl⟩ := hu
  refine lv_istore_n hx hb dX3_key_14 rfl hl (by decide) rfl (fun ls hl => ?_)
  have hl : lv_has ls 5 [(3, .int (nI lb.length)), (0, .ref (ad 0)), (1, .int (nI j)), (2, .int y)] := hl
  refine lv_iload_n hx hb dX3_key_15 rfl (lv_at hl 3 rfl) ?_
  refine lv_if_lt (tgt := 24) hx hb dX3_key_16 rfl (fun hc => ?_) (fun hc => ?_)
  · obtain ⟨sa, hstr⟩ := hE.2.2.2.1 _ (List.mem_of_getElem? (i := 10) rfl)
    exact xx_throw (x1, x2, x3, x4, x5, x6) hx hb hnt hown (by decide +kernel) (xg_w hts mb_classLink_RX3_126) (xg_w hts mb_initialized_IndexOutOfBoundsException) hstr xh_IOB_at xh_IOB_good xh_IOB_on hE (hl.1.trans hml.symm) dX3_key_24 dX3_key_27 dX3_key_28 dX3_key_30 dX3_key_33 hno ⟨Nat.le_of_ble_eq_true rfl, Nat.le_of_ble_eq_true rfl, Nat.le_of_ble_eq_true rfl, Nat.le_of_ble_eq_true rfl⟩ hlocks (Or.inr (Or.inr (Or.inr ⟨hop, rfl, j, hj, rfl, lb, hlb, by unfold sp_in; rw [decide_eq_false (Int32.not_le.mpr hc)]; rfl⟩))) hK hP hD hS (Nat.le_refl _) (Nat.le_refl _)
  · refine lv_iload_n hx hb dX3_key_19 rfl (lv_at hl 3 rfl) ?_
    refine lv_iload_n hx hb dX3_key_20 rfl (lv_at hl 0 rfl) ?_
    refine lv_icmp_lt (tgt := 34) hx hb dX3_key_21 rfl (fun hc2 => ?_) (fun hc2 => ?_)
    · obtain ⟨i, hi, rfl⟩ := (sp_in_iff (n := lb.length) (by omega)).mp (by unfold sp_in; rw [decide_eq_true (Int32.not_lt.mp hc), decide_eq_true hc2]; rfl)
      refine lv_aload_n hx hb dX3_key_34 rfl (lv_at hl 1 rfl) ?_
      refine lv_iload_n hx hb dX3_key_35 rfl (lv_at hl 2 rfl) ?_
      refine xk_v (va_runV (As := [.int (nI j)]) (rest := []) ⟨hx, hb, hml, hown, hts⟩ (cX3_startReading_m l dC dI ca ad kf vf bf w op ln x1 x2 x3 tf (nI lr.length) ef ff x4 x5 x6 j (by omega) _) (cwV 1 hts (xg_V mb_methodLink_RX3_107 mb_instanceMethod_yX3_startReading mb_selects_yX3_startReading mb_initialized_RX3 mb_code_yX3_startReading) rfl rfl rfl ⟨rfl, by decide, by decide, by decide +kernel⟩ ⟨Nat.le_of_ble_eq_true rfl, Nat.le_of_ble_eq_true rfl⟩) (xpreV (va_recv (q0 := 0) hK hP rfl rfl) hK hP hD hS hA hE) rfl rfl hl.1 rfl (lv_room (Nat.le_of_ble_eq_true rfl)) dX3_key_36 ⟨Nat.le_of_ble_eq_true rfl, Nat.le_of_ble_eq_true rfl⟩) hD hS hA (fun u H locs hu hP hD hS => ?_)
      have hP : va_P (dC, dI) vwCl (xw ad ca kf vf bf w op ln (px_st ef j) (ef j - nI 4) 1 tf (nI lr.length) ef ff 1 x5 x6) H := hP
      have hD : va_D A (xw ad ca kf vf bf w op ln (px_st ef j) (ef j - nI 4) 1 tf (nI lr.length) ef ff 1 x5 x6) := hD
      obtain ⟨h44, hbl⟩ := pe_of_some hlb
      rw [hbp, hbq, pk_sub (by omega)] at hP hD
      rw [pe_bl_first tf _ 0 x5] at hbl
      refine lv_iconst (v := nI 0) hx hb dX3_key_39 (by decide) ?_
      refine lv_istore hx hb dX3_key_40 hl (by decide) rfl (fun ls hl => ?_)
      have hl : lv_has ls 5 [(4, .int (nI 0)), (3, .int (nI lb.length)), (0, .ref (ad 0)), (1, .int (nI j)), (2, .int (nI i))] := hl
      refine lpX3_key_go hx hb hml hown hts hK hA hE (e9 := px_sum (lr.take (j + 1)) - 4) (i := i) (by omega) (by omega) (i + 1) 0 (px_sum (lr.take j)) 1 1 x5 x6 true lb _ _ _ (by omega) rfl hbl hi (by omega) (lv_sub hl [0, 2, 4] rfl) hP hD hS ?_
      intro y1 y3 y4 y5 y6 _ hy H locs ls hl hP hD hS
      refine lv_aload_n hx hb dX3_key_65 rfl (lv_at hl 0 rfl) ?_
      refine va_get (D := (dC, dI)) (ci := 3) (v := .ref (ad 9)) (C := RX3) (T := TX3) (N := 8) (ref := "SortedRun") hx hb hts (xg_u mb_uws_X3) hown hK hP 0 rfl rfl 5 (by decide) (xg_w hts mb_fieldLink_RX3_37) (fun _ h9 => h9) rfl dX3_key_66 ?_
      refine va_getN (host := "SortedRun") (D := (dC, dI)) (ci := 0) (v := .int y5) (C := RX0) (T := TX0) (N := 3) (ref := "SortedRun$Entry") hx hb hts (xg_u mb_uws_X0) hown hK hP 9 rfl rfl 1 (by decide) (xn_w (w := .fieldLinkNest RX3 114 "SortedRun$Entry" "key" "I" "SortedRun") (i := 79) hE rfl rfl rfl) (fun _ h9 => h9) rfl dX3_key_69 ?_
      refine x_size hS (fun hz => ?_)
      refine vx_ret (W.widen (k := 1) (n := 6) (Nat.zero_le _) (Nat.zero_le _) ?_)
      exact W.iret (v := y5) hx hb hr (fun t ht hW => ⟨⟨y5, (y1, nI (px_sum (lr.take (j + 1)) - 4), y3, y4, y5, y6), rfl, ⟨hop, j, hj, rfl, lb, i, hlb, hi, rfl, hy (Nat.succ_pos i)⟩, ⟨by rw [ht]; exact hP, va_K.moved hW.alike hK, hD⟩, (congrArg Array.size ht).trans hz⟩, hS.F ht⟩) hS.2.2 dX3_key_72
    · obtain ⟨sa, hstr⟩ := hE.2.2.2.1 _ (List.mem_of_getElem? (i := 10) rfl)
      exact xx_throw (x1, x2, x3, x4, x5, x6) hx hb hnt hown (by decide +kernel) (xg_w hts mb_classLink_RX3_126) (xg_w hts mb_initialized_IndexOutOfBoundsException) hstr xh_IOB_at xh_IOB_good xh_IOB_on hE (hl.1.trans hml.symm) dX3_key_24 dX3_key_27 dX3_key_28 dX3_key_30 dX3_key_33 hno ⟨Nat.le_of_ble_eq_true rfl, Nat.le_of_ble_eq_true rfl, Nat.le_of_ble_eq_true rfl, Nat.le_of_ble_eq_true rfl⟩ hlocks (Or.inr (Or.inr (Or.inr ⟨hop, rfl, j, hj, rfl, lb, hlb, by unfold sp_in; rw [decide_eq_false hc2, Bool.and_false]⟩))) hK hP hD hS (Nat.le_refl _) (Nat.le_refl _)

set_option maxHeartbeats 4000000 in
set_option maxRecDepth 100000 in
theorem lpX3_get_go {p : Program} {l : Launch} {e : Env} {s : State} {m : MethodId} {args : Array Value} {below : List Frame} {meth : Method} {c : Code} {Q : State → Prop} {A : Nat → Prop} {dC : Nat → ClassId} {dI : Nat → Nat → Nat} {ca : Nat → ClassId} {ad : Nat → Nat} (hx : p.tables.exec = Jvm.exec) (hb : c.code = cX3_get) (hml : c.maxLocals = 5) (hown : s.vm.findClass RX3 = some m.cls) (hts : ∀ w ∈ wsX3_get, w.before args s = true) (hK : va_K (dC, dI) vwCl (xt ca) s) (hA : ∀ q : Nat, s.heap.size ≤ q → A q) (hE : xn_E A s) {kf : Nat → Int32} {vf : Nat → Int64} {bf : Nat → Int32} {w : Int32} {op : Int32} {ln : Int32} {tf : Nat → Int32} {nb : Int32} {ef : Nat → Int32} {ff : Nat → Int32} {e9 n : Nat} {key : Int32} (he9 : e9 ≤ 4885) (hn : n ≤ 2444) : ∀ (k : Nat) (cnt a : Nat) (ok fi ek : Int32) (ev : Int64) (fst : Bool) (lb : List (Int32 × Int64)) (H : Heap) (locs : List Loc) (ls : Array Slot), a ≤ e9 → fi = (if fst = true then 1 else 0) → pe_bl tf e9 e9 fst ek a = some lb → lb.length = k → cnt + k = n → lv_has ls 5 [(4, .int (nI cnt)), (0, .ref (ad 0)), (1, .int key), (3, .int (nI n))] → va_P (dC, dI) vwCl (xw ad ca kf vf bf w op ln (nI a) (nI e9) ok tf nb ef ff fi ek ev) H → va_D A (xw ad ca kf vf bf w op ln (nI a) (nI e9) ok tf nb ef ff fi ek ev) → va_S A s.heap H locs → (∀ (x1 x3 x4 x5 : Int32) (x6 : Int64), sp_find lb key = some x6 → ∀ (H : Heap) (locs : List Loc) (ls : Array Slot), lv_has ls 5 [(0, .ref (ad 0))] → va_P (dC, dI) vwCl (xw ad ca kf vf bf w op ln x1 (nI e9) x3 tf nb ef ff x4 x5 x6) H → va_D A (xw ad ca kf vf bf w op ln x1 (nI e9) x3 tf nb ef ff x4 x5 x6) → va_S A s.heap H locs → W p l e ({ frames := 7, cells := 1, slots := 6, locals := 114 } : Room) s m args below meth c H locs 0 0 Q (F0 m 70 ls [])) → (∀ (x1 x3 x4 x5 : Int32) (x6 : Int64), sp_find lb key = none → ∀ (H : Heap) (locs : List Loc) (ls : Array Slot), lv_has ls 5 [(0, .ref (ad 0))] → va_P (dC, dI) vwCl (xw ad ca kf vf bf w op ln x1 (nI e9) x3 tf nb ef ff x4 x5 x6) H → va_D A (xw ad ca kf vf bf w op ln x1 (nI e9) x3 tf nb ef ff x4 x5 x6) → va_S A s.heap H locs → W p l e ({ frames := 7, cells := 1, slots := 6, locals := 114 } : Room) s m args below meth c H locs 0 0 Q (F0 m 84 ls [])) → W p l e ({ frames := 7, cells := 1, slots := 6, locals := 114 } : Room) s m args below meth c H locs 0 0 Q (F0 m 42 ls []) := by
  intro k
  induction k with
  | zero =>
    intro cnt a ok fi ek ev fst lb H locs ls ha hfi hlb hkl hck hl hP hD hS kf1 kn
    have hl : lv_has ls 5 [(4, .int (nI cnt)), (0, .ref (ad 0)), (1, .int key), (3, .int (nI n))] := hl
    obtain rfl := List.eq_nil_of_length_eq_zero hkl
    refine lv_iload hx hb dX3_get_42 (lv_at hl 0 rfl) ?_
    refine lv_iload_n hx hb dX3_get_44 rfl (lv_at hl 3 rfl) ?_
    refine lv_icmp_ge (tgt := 84) hx hb dX3_get_45 rfl (fun hc => ?_) (fun hc => absurd hc (not_not_intro (nI_le (by omega) (by omega))))
    exact kn _ _ _ _ _ rfl H locs ls (lv_sub hl [1] rfl) hP hD hS
  | succ k ih =>
    intro cnt a ok fi ek ev fst lb H locs ls ha hfi hlb hkl hck hl hP hD hS kf1 kn
    have hl : lv_has ls 5 [(4, .int (nI cnt)), (0, .ref (ad 0)), (1, .int key), (3, .int (nI n))] := hl
    refine lv_iload hx hb dX3_get_42 (lv_at hl 0 rfl) ?_
    refine lv_iload_n hx hb dX3_get_44 rfl (lv_at hl 3 rfl) ?_
    refine lv_icmp_ge (tgt := 84) hx hb dX3_get_45 rfl (fun hc => absurd hc (by rw [nI_leI (by omega) (by omega)]; omega)) (fun hc => ?_)
    obtain ⟨h8, k1, v1, a2, lb2, hrd, rfl, hlb2⟩ := pe_bl_inv hlb (by omega)
    refine lv_aload_n hx hb dX3_get_48 rfl (lv_at hl 1 rfl) ?_
    refine va_get (D := (dC, dI)) (ci := 3) (v := .ref (ad 9)) (C := RX3) (T := TX3) (N := 8) (ref := "SortedRun") hx hb hts (xg_u mb_uws_X3) hown hK hP 0 rfl rfl 5 (by decide) (xg_w hts mb_fieldLink_RX3_37) (fun _ h9 => h9) rfl dX3_get_49 ?_
    refine lv_aload_n hx hb dX3_get_52 rfl (lv_at hl 1 rfl) ?_
    refine va_get (D := (dC, dI)) (ci := 3) (v := .ref (ad 4)) (C := RX3) (T := TX3) (N := 8) (ref := "SortedRun") hx hb hts (xg_u mb_uws_X3) hown hK hP 0 rfl rfl 3 (by decide) (xg_w hts mb_fieldLink_RX3_23) (fun _ h9 => h9) rfl dX3_get_53 ?_
    refine xk_v (va_runV (As := [.ref (ad 4)]) (rest := []) ⟨hx, hb, hml, hown, hts⟩ (cX0_readNext_m l dC dI ca ad kf vf bf w op ln ok tf nb ef ff fi ek ev a e9 fst ha (by omega) hfi _) (cwV 1 hts (xg_V mb_methodLink_RX3_110 mb_instanceMethod_yX0_readNext mb_selects_yX0_readNext mb_initialized_RX0 mb_code_yX0_readNext) rfl rfl rfl ⟨rfl, by decide, by decide, by decide +kernel⟩ ⟨Nat.le_of_ble_eq_true rfl, Nat.le_of_ble_eq_true rfl⟩) (xpreV (va_recv (q0 := 9) hK hP rfl rfl) hK hP hD hS hA hE) rfl rfl hl.1 rfl (lv_room (Nat.le_of_ble_eq_true rfl)) dX3_get_56 ⟨Nat.le_of_ble_eq_true rfl, Nat.le_of_ble_eq_true rfl⟩) hD hS hA (fun u H locs hu hP hD hS => ?_)
    have hP : va_P (dC, dI) vwCl (xw ad ca kf vf bf w op ln (nI u.1) (nI e9) u.2.1 tf nb ef ff 0 u.2.2.1 u.2.2.2) H := hP
    have hD : va_D A (xw ad ca kf vf bf w op ln (nI u.1) (nI e9) u.2.1 tf nb ef ff 0 u.2.2.1 u.2.2.2) := hD
    obtain ⟨a1, o1, kq, vq⟩ := u
    obtain ⟨h1, h2, hq1⟩ := hu
    dsimp only at h1 h2 hq1 hP hD
    have hq2 : k1 = kq ∧ v1 = vq ∧ a2 = a1 := by
      rcases hq1 with ⟨z, -⟩ | ⟨z, -⟩
      · rw [hrd] at z; cases z; exact ⟨rfl, rfl, rfl⟩
      · rw [hrd] at z; cases z
    obtain ⟨rfl, rfl, rfl⟩ := hq2
    refine lv_aload_n hx hb dX3_get_59 rfl (lv_at hl 1 rfl) ?_
    refine va_get (D := (dC, dI)) (ci := 3) (v := .ref (ad 9)) (C := RX3) (T := TX3) (N := 8) (ref := "SortedRun") hx hb hts (xg_u mb_uws_X3) hown hK hP 0 rfl rfl 5 (by decide) (xg_w hts mb_fieldLink_RX3_37) (fun _ h9 => h9) rfl dX3_get_60 ?_
    refine va_getN (host := "SortedRun") (D := (dC, dI)) (ci := 0) (v := .int k1) (C := RX0) (T := TX0) (N := 3) (ref := "SortedRun$Entry") hx hb hts (xg_u mb_uws_X0) hown hK hP 9 rfl rfl 1 (by decide) (xn_w (w := .fieldLinkNest RX3 114 "SortedRun$Entry" "key" "I" "SortedRun") (i := 79) hE rfl rfl rfl) (fun _ h9 => h9) rfl dX3_get_63 ?_
    refine lv_iload_n hx hb dX3_get_66 rfl (lv_at hl 2 rfl) ?_
    refine lv_icmp_ne (tgt := 78) hx hb dX3_get_67 rfl (fun hc => ?_) (fun hc => ?_)
    · have hf9 : sp_find ((k1, v1) :: lb2) key = sp_find lb2 key := by conv => lhs; unfold sp_find; rw [if_neg hc]
      rw [hf9] at kf1 kn
      refine lv_iinc (k := 0) (v := nI (cnt + 1)) hx hb dX3_get_78 hl rfl (nI_1 cnt) (by decide) rfl (fun ls hl => ?_)
      have hl : lv_has ls 5 [(4, .int (nI (cnt + 1))), (0, .ref (ad 0)), (1, .int key), (3, .int (nI n))] := hl
      refine lv_goto (tgt := 42) hx hb dX3_get_81 rfl ?_
      exact ih (cnt + 1) a2 o1 0 k1 v1 false lb2 _ _ _ h2 rfl hlb2 (by simpa using hkl) (by omega) hl hP hD hS kf1 kn
    · exact kf1 _ _ _ _ v1 (by unfold sp_find; rw [if_pos hc]) H locs ls (lv_sub hl [1] rfl) hP hD hS

set_option maxHeartbeats 4000000 in
set_option maxRecDepth 100000 in
theorem cX3_get_m (l : Launch) (hnt : l.stackTraces = false) (dC : Nat → ClassId) (dI : Nat → Nat → Nat) (ca : Nat → ClassId) (ad : Nat → Nat) (kf : Nat → Int32) (vf : Nat → Int64) (bf : Nat → Int32) (w : Int32) (op : Int32) (ln : Int32) (nx : Int32) (en : Int32) (ok : Int32) (tf : Nat → Int32) (nb : Int32) (ef : Nat → Int32) (ff : Nat → Int32) (fi : Int32) (ek : Int32) (ev : Int64) (lr : List (Nat × Nat)) (key : Int32) (hopen : ¬ op = 0 → nb = nI lr.length ∧ lr.length ≤ 2444 ∧ px_rows 0 0 lr ef ff ∧ px_sum lr ≤ 4889) : ∀ sz : Nat, vx_Met l yX3_get wsX3_get ({ frames := 7, cells := 1, slots := 6, locals := 114 } : Room) (va_Pc [.ref (ad 0), .int key] (xP (dC, dI) (xt ca) (xw ad ca kf vf bf w op ln nx en ok tf nb ef ff fi ek ev) sz)) (va_Ql (S := Int32 × Int32 × Int32 × Int32 × Int32 × Int64) (fun r u => ¬ op = 0 ∧ ∃ j lb, px_last (px_kf lr) key lr.length = some j ∧ pe_of tf lr j = some lb ∧ sp_find lb key = some r) (fun u t => xB (dC, dI) (xt ca) (va_A (xw ad ca kf vf bf w op ln nx en ok tf nb ef ff fi ek ev) sz) (xw ad ca kf vf bf w op ln u.1 u.2.1 u.2.2.1 tf nb ef ff u.2.2.2.1 u.2.2.2.2.1 u.2.2.2.2.2) t ∧ t.heap.size = sz) (va_A (xw ad ca kf vf bf w op ln nx en ok tf nb ef ff fi ek ev) sz)) (xX (S := Int32 × Int32 × Int32 × Int32 × Int32 × Int64) (dC, dI) (xt ca) (va_A (xw ad ca kf vf bf w op ln nx en ok tf nb ef ff fi ek ev) sz) (fun E u => (E = "java/lang/IllegalStateException" ∧ op = 0) ∨ (¬ op = 0 ∧ E = "java/util/NoSuchElementException" ∧ px_last (px_kf lr) key lr.length = none) ∨ (¬ op = 0 ∧ E = "java/lang/ArithmeticException" ∧ ∃ j, px_last (px_kf lr) key lr.length = some j ∧ pe_of tf lr j = none) ∨ (¬ op = 0 ∧ E = "java/util/NoSuchElementException" ∧ ∃ j lb, px_last (px_kf lr) key lr.length = some j ∧ pe_of tf lr j = some lb ∧ sp_find lb key = none)) (fun u => xw ad ca kf vf bf w op ln u.1 u.2.1 u.2.2.1 tf nb ef ff u.2.2.2.1 u.2.2.2.2.1 u.2.2.2.2.2)) 1 6 (va_A (xw ad ca kf vf bf w op ln nx en ok tf nb ef ff fi ek ev) sz) := by
  intro sz
  refine vx_ofW (cc := cX3_get) (maxL := 5) (ret := (some .long)) (by decide) rfl ?_
  intro p e s m args below meth c s₁ B hml hno hv
  obtain ⟨rfl, hsz, hP, hK, hD0, hE⟩ := hv
  have hx := B.exec
  have hb := B.bytes
  have hr := B.returns
  have hts := atoms_spec (ws := wsX3_get) B.pre
  have hown : s.vm.findClass RX3 = some m.cls := findClass_of_methodNamed B.named
  have hlocks := B.notSynchronized
  subst hsz
  have hD := hD0.self (sz := s.heap.size)
  generalize hAe : va_A (xw ad ca kf vf bf w op ln nx en ok tf nb ef ff fi ek ev) s.heap.size = A at hD hE ⊢
  have hA : ∀ q : Nat, s.heap.size ≤ q → A q := fun q h => by rw [← hAe]; exact Or.inr h
  have hS : va_S A s.heap s.heap [] := va_S.rf
  have hl := lv_entry ([.ref (ad 0), .int key]) (n := 5) (Nat.le_of_ble_eq_true rfl)
  rw [lg_entry_eq]
  generalize (lg_sl ([.ref (ad 0), .int key]) ++ List.replicate (5 - (lg_sl ([.ref (ad 0), .int key])).length) Slot.unset).toArray = ls at hl ⊢
  have hl : lv_has ls 5 [(0, .ref (ad 0)), (1, .int key)] := hl
  refine lv_aload_n hx hb dX3_get_0 rfl (lv_at hl 0 rfl) ?_
  refine x_size hS (fun hz => ?_)
  refine xx_v (vx_runV (As := []) (rest := []) ⟨hx, hb, hml, hown, hts⟩ (cX3_requireOpen_m l hnt dC dI ca ad kf vf bf w op ln nx en ok tf nb ef ff fi ek ev  _) (cwV 0 hts (xg_V mb_methodLink_RX3_93 mb_instanceMethod_yX3_requireOpen mb_selects_yX3_requireOpen mb_initialized_RX3 mb_code_yX3_requireOpen) rfl rfl rfl ⟨rfl, by decide, by decide, by decide +kernel⟩ ⟨Nat.le_of_ble_eq_true rfl, Nat.le_of_ble_eq_true rfl⟩) (xpreV (va_recv (q0 := 0) hK hP rfl rfl) hK hP hD hS hA hE) rfl rfl hl.1 rfl (lv_room (Nat.le_of_ble_eq_true rfl)) dX3_get_1 ⟨Nat.le_of_ble_eq_true rfl, Nat.le_of_ble_eq_true rfl⟩) hD hS hA hz (fun E ce q9 u H locs hX hP hD hS hce hcv hcl => ?_) (fun u H locs hop hP hD hS hz => ?_)
  · exact xx_out (nx, en, ok, fi, ek, ev) hno hlocks (Or.inl hX) hce hcv hcl hK hP hD hS (Nat.le_refl _) (Nat.le_refl _)
  have hP : va_P (dC, dI) vwCl (xw ad ca kf vf bf w op ln nx en ok tf nb ef ff fi ek ev) H := hP
  have hD : va_D A (xw ad ca kf vf bf w op ln nx en ok tf nb ef ff fi ek ev) := hD
  obtain ⟨hnb, hlen, hrows, hsum⟩ := hopen hop
  subst hnb
  refine lv_aload_n hx hb dX3_get_4 rfl (lv_at hl 0 rfl) ?_
  refine va_get (D := (dC, dI)) (ci := 3) (v := .ref (ad 6)) (C := RX3) (T := TX3) (N := 8) (ref := "SortedRun") hx hb hts (xg_u mb_uws_X3) hown hK hP 0 rfl rfl 4 (by decide) (xg_w hts mb_fieldLink_RX3_30) (fun _ h9 => h9) rfl dX3_get_5 ?_
  refine lv_iload_n hx hb dX3_get_8 rfl (lv_at hl 1 rfl) ?_
  refine xk_i (va_runV (As := [.int key]) (rest := []) ⟨hx, hb, hml, hown, hts⟩ (cX1_lastBlockNotAbove_m l dC dI ca ad kf vf bf w op ln nx en ok tf ef ff fi ek ev lr.length key hlen _) (cwV 1 hts (xg_V mb_methodLink_RX3_96 mb_instanceMethod_yX1_lastBlockNotAbove mb_selects_yX1_lastBlockNotAbove mb_initialized_RX1 mb_code_yX1_lastBlockNotAbove) rfl rfl rfl ⟨rfl, by decide, by decide, by decide +kernel⟩ ⟨Nat.le_of_ble_eq_true rfl, Nat.le_of_ble_eq_true rfl⟩) (xpreV (va_recv (q0 := 6) hK hP rfl rfl) hK hP hD hS hA hE) rfl rfl hl.1 rfl (lv_room (Nat.le_of_ble_eq_true rfl)) dX3_get_9 ⟨Nat.le_of_ble_eq_true rfl, Nat.le_of_ble_eq_true rfl⟩) hD hS hA (fun r u H locs hu hP hD hS => ?_)
  have hP : va_P (dC, dI) vwCl (xw ad ca kf vf bf w op ln nx en ok tf (nI lr.length) ef ff fi ek ev) H := hP
  have hD : va_D A (xw ad ca kf vf bf w op ln nx en ok tf (nI lr.length) ef ff fi ek ev) := hD
  rw [px_last_rows hrows key lr.length (Nat.le_refl _)] at hu
  rcases hu with hu | hu
  · obtain ⟨j, hla, rfl⟩ := hu
    have hj := px_last_lt hla
    obtain ⟨hbp, hbq⟩ := px_rows_at hrows hj
    have hle := px_take_le lr j
    have hle2 := px_sum_take lr (j + 1)
    refine lv_istore_n hx hb dX3_get_12 rfl hl (by decide) rfl (fun ls hl => ?_)
    have hl : lv_has ls 5 [(2, .int (nI j)), (0, .ref (ad 0)), (1, .int key)] := hl
    refine lv_iload_n hx hb dX3_get_13 rfl (lv_at hl 0 rfl) ?_
    refine lv_iconst (v := -1) hx hb dX3_get_14 (by decide) ?_
    refine lv_icmp_ne (tgt := 28) hx hb dX3_get_15 rfl (fun hc => ?_) (fun hc => absurd hc (fun z => absurd (z ▸ nI_pos (n := j) (by omega)) (by decide)))
    refine lv_aload_n hx hb dX3_get_28 rfl (lv_at hl 1 rfl) ?_
    refine lv_iload_n hx hb dX3_get_29 rfl (lv_at hl 0 rfl) ?_
    refine x_size hS (fun hz => ?_)
    refine xx_i (vx_runV (As := [.int (nI j)]) (rest := []) ⟨hx, hb, hml, hown, hts⟩ (cX3_countRightEntries_m l hnt dC dI ca ad kf vf bf w op ln nx en ok tf (nI lr.length) ef ff fi ek ev (px_sum (lr.take j)) (px_sum (lr.take (j + 1))) j (by omega) hbp hbq hle (by omega) _) (cwV 1 hts (xg_V mb_methodLink_RX3_104 mb_instanceMethod_yX3_countRightEntries mb_selects_yX3_countRightEntries mb_initialized_RX3 mb_code_yX3_countRightEntries) rfl rfl rfl ⟨rfl, by decide, by decide, by decide +kernel⟩ ⟨Nat.le_of_ble_eq_true rfl, Nat.le_of_ble_eq_true rfl⟩) (xpreV (va_recv (q0 := 0) hK hP rfl rfl) hK hP hD hS hA hE) rfl rfl hl.1 rfl (lv_room (Nat.le_of_ble_eq_true rfl)) dX3_get_30 ⟨Nat.le_of_ble_eq_true rfl, Nat.le_of_ble_eq_true rfl⟩) hD hS hA hz (fun E ce q9 u H locs hX hP hD hS hce hcv hcl => ?_) (fun r u H locs hu hP hD hS hz => ?_)
    · exact xx_out u hno hlocks (Or.inr (Or.inr (Or.inl ⟨hop, hX.1, j, hla, hX.2⟩))) hce hcv hcl hK hP hD hS (Nat.le_refl _) (Nat.le_refl _)
    have hP : va_P (dC, dI) vwCl (xw ad ca kf vf bf w op ln u.1 u.2.1 u.2.2.1 tf (nI lr.length) ef ff u.2.2.2.1 u.2.2.2.2.1 u.2.2.2.2.2) H := hP
    have hD : va_D A (xw ad ca kf vf bf w op ln u.1 u.2.1 u.2.2.1 tf (nI lr.length) ef ff u.2.2.2.1 u.2.2.2.2.1 u.2.2.2.2.2) := hD
    obtain ⟨x1, x2, x3, x4, x5, x6⟩ := u
    dsimp only at hP hD
    obtain ⟨lb, hlb, rfl, hlbl⟩ := hu
    refine lv_istore_n hx hb dX3_get_33 rfl hl (by decide) rfl (fun ls hl => ?_)
    have hl : lv_has ls 5 [(3, .int (nI lb.length)), (2, .int (nI j)), (0, .ref (ad 0)), (1, .int key)] := hl
    refine lv_aload_n hx hb dX3_get_34 rfl (lv_at hl 2 rfl) ?_
    refine lv_iload_n hx hb dX3_get_35 rfl (lv_at hl 1 rfl) ?_
    refine xk_v (va_runV (As := [.int (nI j)]) (rest := []) ⟨hx, hb, hml, hown, hts⟩ (cX3_startReading_m l dC dI ca ad kf vf bf w op ln x1 x2 x3 tf (nI lr.length) ef ff x4 x5 x6 j (by omega) _) (cwV 1 hts (xg_V mb_methodLink_RX3_107 mb_instanceMethod_yX3_startReading mb_selects_yX3_startReading mb_initialized_RX3 mb_code_yX3_startReading) rfl rfl rfl ⟨rfl, by decide, by decide, by decide +kernel⟩ ⟨Nat.le_of_ble_eq_true rfl, Nat.le_of_ble_eq_true rfl⟩) (xpreV (va_recv (q0 := 0) hK hP rfl rfl) hK hP hD hS hA hE) rfl rfl hl.1 rfl (lv_room (Nat.le_of_ble_eq_true rfl)) dX3_get_36 ⟨Nat.le_of_ble_eq_true rfl, Nat.le_of_ble_eq_true rfl⟩) hD hS hA (fun u H locs hu hP hD hS => ?_)
    have hP : va_P (dC, dI) vwCl (xw ad ca kf vf bf w op ln (px_st ef j) (ef j - nI 4) 1 tf (nI lr.length) ef ff 1 x5 x6) H := hP
    have hD : va_D A (xw ad ca kf vf bf w op ln (px_st ef j) (ef j - nI 4) 1 tf (nI lr.length) ef ff 1 x5 x6) := hD
    obtain ⟨h44, hbl⟩ := pe_of_some hlb
    rw [hbp, hbq, pk_sub (by omega)] at hP hD
    rw [pe_bl_first tf _ 0 x5] at hbl
    refine lv_iconst (v := nI 0) hx hb dX3_get_39 (by decide) ?_
    refine lv_istore hx hb dX3_get_40 hl (by decide) rfl (fun ls hl => ?_)
    have hl : lv_has ls 5 [(4, .int (nI 0)), (3, .int (nI lb.length)), (2, .int (nI j)), (0, .ref (ad 0)), (1, .int key)] := hl
    refine lpX3_get_go hx hb hml hown hts hK hA hE (e9 := px_sum (lr.take (j + 1)) - 4) (n := lb.length) (key := key) (by omega) (by omega) lb.length 0 (px_sum (lr.take j)) 1 1 x5 x6 true lb _ _ _ (by omega) rfl hbl rfl (by omega) (lv_sub hl [0, 3, 4, 1] rfl) hP hD hS ?_ ?_
    · intro y1 y3 y4 y5 y6 hy H locs ls hl hP hD hS
      refine lv_aload_n hx hb dX3_get_70 rfl (lv_at hl 0 rfl) ?_
      refine va_get (D := (dC, dI)) (ci := 3) (v := .ref (ad 9)) (C := RX3) (T := TX3) (N := 8) (ref := "SortedRun") hx hb hts (xg_u mb_uws_X3) hown hK hP 0 rfl rfl 5 (by decide) (xg_w hts mb_fieldLink_RX3_37) (fun _ h9 => h9) rfl dX3_get_71 ?_
      refine va_getN (host := "SortedRun") (D := (dC, dI)) (ci := 0) (v := .long y6) (C := RX0) (T := TX0) (N := 3) (ref := "SortedRun$Entry") hx hb hts (xg_u mb_uws_X0) hown hK hP 9 rfl rfl 2 (by decide) (xn_w (w := .fieldLinkNest RX3 117 "SortedRun$Entry" "value" "J" "SortedRun") (i := 81) hE rfl rfl rfl) (fun _ h9 => h9) rfl dX3_get_74 ?_
      refine x_size hS (fun hz => ?_)
      refine vx_ret (W.widen (k := 1) (n := 6) (Nat.zero_le _) (Nat.zero_le _) ?_)
      exact W.lret (v := y6) hx hb hr (fun t ht hW => ⟨⟨y6, (y1, nI (px_sum (lr.take (j + 1)) - 4), y3, y4, y5, y6), rfl, ⟨hop, j, lb, hla, hlb, hy⟩, ⟨by rw [ht]; exact hP, va_K.moved hW.alike hK, hD⟩, (congrArg Array.size ht).trans hz⟩, hS.F ht⟩) hS.2.2 dX3_get_77
    · intro y1 y3 y4 y5 y6 hy H locs ls hl hP hD hS
      obtain ⟨sa, hstr⟩ := hE.2.2.2.1 _ (List.mem_of_getElem? (i := 8) rfl)
      exact xx_throwN (y1, nI (px_sum (lr.take (j + 1)) - 4), y3, y4, y5, y6) hx hb hnt hown (by decide +kernel) (xg_w hts mb_classLink_RX3_99) (xg_w hts mb_initialized_NoSuchElementException) hstr xh_NSE_at xh_NSE_good xh_NSE_on hE (hl.1.trans hml.symm) dX3_get_84 dX3_get_87 dX3_get_88 dX3_get_90 dX3_get_93 hno ⟨Nat.le_of_ble_eq_true rfl, Nat.le_of_ble_eq_true rfl, Nat.le_of_ble_eq_true rfl, Nat.le_of_ble_eq_true rfl⟩ hlocks (Or.inr (Or.inr (Or.inr ⟨hop, rfl, j, lb, hla, hlb, hy⟩))) hK hP hD hS (Nat.le_refl _) (Nat.le_refl _)
  · obtain ⟨hla, rfl⟩ := hu
    refine lv_istore_n hx hb dX3_get_12 rfl hl (by decide) rfl (fun ls hl => ?_)
    have hl : lv_has ls 5 [(2, .int (-1)), (0, .ref (ad 0)), (1, .int key)] := hl
    refine lv_iload_n hx hb dX3_get_13 rfl (lv_at hl 0 rfl) ?_
    refine lv_iconst (v := -1) hx hb dX3_get_14 (by decide) ?_
    refine lv_icmp_ne (tgt := 28) hx hb dX3_get_15 rfl (fun hc => absurd hc (not_not_intro rfl)) (fun hc => ?_)
    obtain ⟨sa, hstr⟩ := hE.2.2.2.1 _ (List.mem_of_getElem? (i := 6) rfl)
    exact xx_throwN (nx, en, ok, fi, ek, ev) hx hb hnt hown (by decide +kernel) (xg_w hts mb_classLink_RX3_99) (xg_w hts mb_initialized_NoSuchElementException) hstr xh_NSE_at xh_NSE_good xh_NSE_on hE (hl.1.trans hml.symm) dX3_get_18 dX3_get_21 dX3_get_22 dX3_get_24 dX3_get_27 hno ⟨Nat.le_of_ble_eq_true rfl, Nat.le_of_ble_eq_true rfl, Nat.le_of_ble_eq_true rfl, Nat.le_of_ble_eq_true rfl⟩ hlocks (Or.inr (Or.inl ⟨hop, rfl, hla⟩)) hK hP hD hS (Nat.le_refl _) (Nat.le_refl _)
