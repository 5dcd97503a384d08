/-! Index: read (rows by wip/whole/wix.py) -/
set_option maxHeartbeats 4000000 in
set_option maxRecDepth 100000 in
theorem lpX1_readBlocks_go {p : Program} {l : Launch} {e : Env} {s : State} {m : MethodId} {args : Array Value} {below : List Frame} {meth : Method} {c : Code} {Q : State → Prop} {A : Nat → Prop} {dC : Nat → ClassId} {dI : Nat → Nat → Nat} {ca : Nat → ClassId} {ad : Nat → Nat} (hx : p.tables.exec = Jvm.exec) (hb : c.code = cX1_readBlocks) (hml : c.maxLocals = 12) (hown : s.vm.findClass RX1 = some m.cls) (hts : ∀ w ∈ wsX1_readBlocks, w.before args s = true) (hK : va_K (dC, dI) vwCl (xt ca) s) (hA : ∀ q : Nat, s.heap.size ≤ q → A q) (hE : xn_E A s) {kf : Nat → Int32} {vf : Nat → Int64} {bf : Nat → Int32} {w : Int32} {op : Int32} {ln : Int32} {tf : Nat → Int32} {fi : Int32} {ek : Int32} {ev : Int64} {e9 n : Nat} {z2 : Int32} (he9 : e9 ≤ 4889) (hn9 : n ≤ 2444) : ∀ (k : Nat) (b a acc : Nat) (ok : Int32) (ef ff : Nat → Int32) (H : Heap) (locs : List Loc) (ls : Array Slot), (ok = 0 ∨ ok = 1) → b + k = n → a ≤ e9 → lv_has ls 12 [(7, .int (nI b)), (5, .long (lN acc)), (0, .ref (ad 6)), (1, .ref (ad 4)), (2, .int z2)] → va_P (dC, dI) vwCl (xw ad ca kf vf bf w op ln (nI a) (nI e9) ok tf (nI n) ef ff fi ek ev) H → va_D A (xw ad ca kf vf bf w op ln (nI a) (nI e9) ok tf (nI n) ef ff fi ek ev) → va_S A s.heap H locs → (ok = 1 → ∀ lr a', px_rd tf e9 k a = some (lr, a') → ∀ ef' ff' : Nat → Int32, (∀ j, j < b → ef' j = ef j ∧ ff' j = ff j) → px_rows b acc lr ef' ff' → ∀ (H : Heap) (locs : List Loc) (ls : Array Slot), lv_has ls 12 [(5, .long (lN (acc + px_sum lr))), (2, .int z2)] → va_P (dC, dI) vwCl (xw ad ca kf vf bf w op ln (nI a') (nI e9) 1 tf (nI n) ef' ff' fi ek ev) H → va_D A (xw ad ca kf vf bf w op ln (nI a') (nI e9) 1 tf (nI n) ef' ff' fi ek ev) → va_S A s.heap H locs → W p l e ({ frames := 2, cells := 0, slots := 0, locals := 45 } : Room) s m args below meth c H locs 0 0 Q (F0 m 110 ls [])) → (ok = 0 ∨ px_rd tf e9 k a = none → ∀ (a' s9 : Nat) (ef' ff' : Nat → Int32), a' ≤ e9 → ∀ (H : Heap) (locs : List Loc) (ls : Array Slot), lv_has ls 12 [(5, .long (lN s9)), (2, .int z2)] → va_P (dC, dI) vwCl (xw ad ca kf vf bf w op ln (nI a') (nI e9) 0 tf (nI n) ef' ff' fi ek ev) H → va_D A (xw ad ca kf vf bf w op ln (nI a') (nI e9) 0 tf (nI n) ef' ff' fi ek ev) → va_S A s.heap H locs → W p l e ({ frames := 2, cells := 0, slots := 0, locals := 45 } : Room) s m args below meth c H locs 0 0 Q (F0 m 110 ls [])) → (ok = 0 ∨ px_rd tf e9 k a = none → ∀ (a' : Nat) (ok' : Int32) (ef' ff' : Nat → Int32), a' ≤ e9 → ∀ (H : Heap) (locs : List Loc) (ls : Array Slot), va_P (dC, dI) vwCl (xw ad ca kf vf bf w op ln (nI a') (nI e9) ok' tf (nI n) ef' ff' fi ek ev) H → va_D A (xw ad ca kf vf bf w op ln (nI a') (nI e9) ok' tf (nI n) ef' ff' fi ek ev) → va_S A s.heap H locs → W p l e ({ frames := 2, cells := 0, slots := 0, locals := 45 } : Room) s m args below meth c H locs 0 0 Q (F0 m 72 ls [])) → W p l e ({ frames := 2, cells := 0, slots := 0, locals := 45 } : Room) s m args below meth c H locs 0 0 Q (F0 m 33 ls []) := by
  intro k
  induction k with
  | zero =>
    intro b a acc ok ef ff H locs ls hok hbn ha hl hP hD hS kg kb ke
    have hl : lv_has ls 12 [(7, .int (nI b)), (5, .long (lN acc)), (0, .ref (ad 6)), (1, .ref (ad 4)), (2, .int z2)] := hl
    refine lv_iload hx hb dX1_readBlocks_33 (lv_at hl 0 rfl) ?_
    refine lv_aload_n hx hb dX1_readBlocks_35 rfl (lv_at hl 2 rfl) ?_
    refine va_get (D := (dC, dI)) (ci := 1) (v := .int (nI n)) (C := RX1) (T := TX1) (N := 3) (ref := "SortedRun$Index") hx hb hts (xg_u mb_uws_X1) hown hK hP 6 rfl rfl 2 (by decide) (xg_w hts mb_fieldLink_RX1_18) (fun _ h9 => h9) rfl dX1_readBlocks_36 ?_
    refine lv_icmp_ge (tgt := 110) hx hb dX1_readBlocks_39 rfl (fun hc => ?_) (fun hc => absurd hc (not_not_intro (nI_le (by omega) (by omega))))
    by_cases h1 : ok = 1
    · subst h1
      exact kg rfl [] a rfl ef ff (fun _ _ => ⟨rfl, rfl⟩) px_rows_nil H locs ls (lv_sub hl [1, 4] rfl) hP hD hS
    · by_cases h0 : ok = 0
      · subst h0
        exact kb (Or.inl rfl) a acc ef ff ha H locs ls (lv_sub hl [1, 4] rfl) hP hD hS
      · exact absurd hok (by intro z; rcases z with z | z; exact h0 z; exact h1 z)
  | succ k ih =>
    intro b a acc ok ef ff H locs ls hok hbn ha hl hP hD hS kg kb ke
    have hl : lv_has ls 12 [(7, .int (nI b)), (5, .long (lN acc)), (0, .ref (ad 6)), (1, .ref (ad 4)), (2, .int z2)] := hl
    refine lv_iload hx hb dX1_readBlocks_33 (lv_at hl 0 rfl) ?_
    refine lv_aload_n hx hb dX1_readBlocks_35 rfl (lv_at hl 2 rfl) ?_
    refine va_get (D := (dC, dI)) (ci := 1) (v := .int (nI n)) (C := RX1) (T := TX1) (N := 3) (ref := "SortedRun$Index") hx hb hts (xg_u mb_uws_X1) hown hK hP 6 rfl rfl 2 (by decide) (xg_w hts mb_fieldLink_RX1_18) (fun _ h9 => h9) rfl dX1_readBlocks_36 ?_
    refine lv_icmp_ge (tgt := 110) hx hb dX1_readBlocks_39 rfl (fun hc => absurd hc (by rw [nI_leI (by omega) (by omega)]; omega)) (fun hc => ?_)
    refine lv_aload_n hx hb dX1_readBlocks_42 rfl (lv_at hl 3 rfl) ?_
    refine xk_l (va_runV (As := []) (rest := []) ⟨hx, hb, hml, hown, hts⟩ (cX2_takeNumber_m l dC dI ca ad kf vf bf w op ln ok tf (nI n) ef ff fi ek ev a e9 ha he9 _) (cwV 0 hts (xg_V mb_methodLink_RX1_51 mb_instanceMethod_yX2_takeNumber mb_selects_yX2_takeNumber mb_initialized_RX2 mb_code_yX2_takeNumber) rfl rfl rfl ⟨rfl, by decide, by decide, by decide +kernel⟩ ⟨Nat.le_of_ble_eq_true rfl, Nat.le_of_ble_eq_true rfl⟩) (xpreV (va_recv (q0 := 4) hK hP rfl rfl) hK hP hD hS hA hE) rfl rfl hl.1 rfl (lv_room (Nat.le_of_ble_eq_true rfl)) dX1_readBlocks_43 ⟨Nat.le_of_ble_eq_true rfl, Nat.le_of_ble_eq_true rfl⟩) hD hS hA (fun r u H locs hu hP hD hS => ?_)
    have hP : va_P (dC, dI) vwCl (xw ad ca kf vf bf w op ln (nI u.2.1) (nI e9) u.2.2 tf (nI n) ef ff fi ek ev) H := hP
    have hD : va_D A (xw ad ca kf vf bf w op ln (nI u.2.1) (nI e9) u.2.2 tf (nI n) ef ff fi ek ev) := hD
    obtain ⟨n1, a1, o1⟩ := u
    obtain ⟨hr1, hn1, h1, h2, hq1⟩ := hu
    dsimp only at hr1 hn1 h1 h2 hq1 hP hD
    subst hr1
    refine lv_lstore hx hb dX1_readBlocks_46 hl (by decide) rfl (fun ls hl => ?_)
    have hl : lv_has ls 12 [(8, .long (lN n1)), (7, .int (nI b)), (5, .long (lN acc)), (0, .ref (ad 6)), (1, .ref (ad 4)), (2, .int z2)] := hl
    refine lv_aload_n hx hb dX1_readBlocks_48 rfl (lv_at hl 4 rfl) ?_
    refine xk_l (va_runV (As := []) (rest := []) ⟨hx, hb, hml, hown, hts⟩ (cX2_takeNumber_m l dC dI ca ad kf vf bf w op ln o1 tf (nI n) ef ff fi ek ev a1 e9 h2 he9 _) (cwV 0 hts (xg_V mb_methodLink_RX1_51 mb_instanceMethod_yX2_takeNumber mb_selects_yX2_takeNumber mb_initialized_RX2 mb_code_yX2_takeNumber) rfl rfl rfl ⟨rfl, by decide, by decide, by decide +kernel⟩ ⟨Nat.le_of_ble_eq_true rfl, Nat.le_of_ble_eq_true rfl⟩) (xpreV (va_recv (q0 := 4) hK hP rfl rfl) hK hP hD hS hA hE) rfl rfl hl.1 rfl (lv_room (Nat.le_of_ble_eq_true rfl)) dX1_readBlocks_49 ⟨Nat.le_of_ble_eq_true rfl, Nat.le_of_ble_eq_true rfl⟩) hD hS hA (fun r u H locs hu hP hD hS => ?_)
    have hP : va_P (dC, dI) vwCl (xw ad ca kf vf bf w op ln (nI u.2.1) (nI e9) u.2.2 tf (nI n) ef ff fi ek ev) H := hP
    have hD : va_D A (xw ad ca kf vf bf w op ln (nI u.2.1) (nI e9) u.2.2 tf (nI n) ef ff fi ek ev) := hD
    obtain ⟨n2, a2, o2⟩ := u
    obtain ⟨hr2, hn2, h3, h4, hq2⟩ := hu
    dsimp only at hr2 hn2 h3 h4 hq2 hP hD
    subst hr2
    obtain ⟨s1, s2, s3⟩ := px_step (k := k) hq1 hq2
    have ho1 : o1 = 0 ∨ o1 = 1 := hq1.elim (fun z => by rw [z.2]; exact hok) (fun z => Or.inl z.2)
    have ho2 : o2 = 0 ∨ o2 = 1 := hq2.elim (fun z => by rw [z.2]; exact ho1) (fun z => Or.inl z.2)
    refine lv_lstore hx hb dX1_readBlocks_52 hl (by decide) rfl (fun ls hl => ?_)
    have hl : lv_has ls 12 [(10, .long (lN n2)), (8, .long (lN n1)), (7, .int (nI b)), (5, .long (lN acc)), (0, .ref (ad 6)), (1, .ref (ad 4)), (2, .int z2)] := hl
    refine lv_aload_n hx hb dX1_readBlocks_54 rfl (lv_at hl 4 rfl) ?_
    refine lv_lload hx hb dX1_readBlocks_55 (lv_at hl 1 rfl) ?_
    refine xk_i (va_runV (As := [.long (lN n1)]) (rest := []) ⟨hx, hb, hml, hown, hts⟩ (cX1_fitsIndex_m l dC dI ca ad kf vf bf w op ln (nI a2) (nI e9) o2 tf (nI n) ef ff fi ek ev n1 hn1 _) (cwV 1 hts (xg_V mb_methodLink_RX1_56 mb_instanceMethod_yX1_fitsIndex mb_selects_yX1_fitsIndex mb_initialized_RX1 mb_code_yX1_fitsIndex) rfl rfl rfl ⟨rfl, by decide, by decide, by decide +kernel⟩ ⟨Nat.le_of_ble_eq_true rfl, Nat.le_of_ble_eq_true rfl⟩) (xpreV (va_recv (q0 := 6) hK hP rfl rfl) hK hP hD hS hA hE) rfl rfl hl.1 rfl (lv_room (Nat.le_of_ble_eq_true rfl)) dX1_readBlocks_57 ⟨Nat.le_of_ble_eq_true rfl, Nat.le_of_ble_eq_true rfl⟩) hD hS hA (fun r u H locs hu hP hD hS => ?_)
    have hP : va_P (dC, dI) vwCl (xw ad ca kf vf bf w op ln (nI a2) (nI e9) o2 tf (nI n) ef ff fi ek ev) H := hP
    have hD : va_D A (xw ad ca kf vf bf w op ln (nI a2) (nI e9) o2 tf (nI n) ef ff fi ek ev) := hD
    rcases hu with hf | hf
    · obtain ⟨rfl, hf⟩ := hf
      refine lv_if_eq (tgt := 72) hx hb dX1_readBlocks_60 rfl (fun hc => absurd hc (by decide)) (fun hc => ?_)
      refine lv_aload_n hx hb dX1_readBlocks_63 rfl (lv_at hl 4 rfl) ?_
      refine lv_lload hx hb dX1_readBlocks_64 (lv_at hl 0 rfl) ?_
      refine xk_i (va_runV (As := [.long (lN n2)]) (rest := []) ⟨hx, hb, hml, hown, hts⟩ (cX1_fitsIndex_m l dC dI ca ad kf vf bf w op ln (nI a2) (nI e9) o2 tf (nI n) ef ff fi ek ev n2 hn2 _) (cwV 1 hts (xg_V mb_methodLink_RX1_56 mb_instanceMethod_yX1_fitsIndex mb_selects_yX1_fitsIndex mb_initialized_RX1 mb_code_yX1_fitsIndex) rfl rfl rfl ⟨rfl, by decide, by decide, by decide +kernel⟩ ⟨Nat.le_of_ble_eq_true rfl, Nat.le_of_ble_eq_true rfl⟩) (xpreV (va_recv (q0 := 6) hK hP rfl rfl) hK hP hD hS hA hE) rfl rfl hl.1 rfl (lv_room (Nat.le_of_ble_eq_true rfl)) dX1_readBlocks_66 ⟨Nat.le_of_ble_eq_true rfl, Nat.le_of_ble_eq_true rfl⟩) hD hS hA (fun r u H locs hu hP hD hS => ?_)
      have hP : va_P (dC, dI) vwCl (xw ad ca kf vf bf w op ln (nI a2) (nI e9) o2 tf (nI n) ef ff fi ek ev) H := hP
      have hD : va_D A (xw ad ca kf vf bf w op ln (nI a2) (nI e9) o2 tf (nI n) ef ff fi ek ev) := hD
      rcases hu with hf2 | hf2
      · obtain ⟨rfl, hf2⟩ := hf2
        refine lv_if_ne (tgt := 74) hx hb dX1_readBlocks_69 rfl (fun hc => ?_) (fun hc => absurd hc (by decide))
        refine lv_lload hx hb dX1_readBlocks_74 (lv_at hl 3 rfl) ?_
        refine lv_lload hx hb dX1_readBlocks_76 (lv_at hl 1 rfl) ?_
        refine lv_ladd hx hb dX1_readBlocks_78 ?_
        refine lv_topl (fun z1 ez1 => ?_)
        have ez1 : z1 = lN (acc + n1) := ez1.trans (lN_add _ _)
        subst ez1
        refine lv_lstore hx hb dX1_readBlocks_79 hl (by decide) rfl (fun ls hl => ?_)
        have hl : lv_has ls 12 [(5, .long (lN (acc + n1))), (10, .long (lN n2)), (8, .long (lN n1)), (7, .int (nI b)), (0, .ref (ad 6)), (1, .ref (ad 4)), (2, .int z2)] := hl
        refine lv_aload_n hx hb dX1_readBlocks_81 rfl (lv_at hl 4 rfl) ?_
        refine va_get (D := (dC, dI)) (ci := 1) (v := .ref (ad 7)) (C := RX1) (T := TX1) (N := 3) (ref := "SortedRun$Index") hx hb hts (xg_u mb_uws_X1) hown hK hP 6 rfl rfl 0 (by decide) (xg_w hts mb_fieldLink_RX1_9) (fun _ h9 => h9) rfl dX1_readBlocks_82 ?_
        refine lv_iload hx hb dX1_readBlocks_85 (lv_at hl 3 rfl) ?_
        refine lv_lload hx hb dX1_readBlocks_87 (lv_at hl 0 rfl) ?_
        refine lv_l2i (v := nI (acc + n1)) hx hb dX1_readBlocks_89 (lN_i _) ?_
        refine va_iast hx hb hK hP hD hS 7 4 rfl rfl (vp_in_nI (by omega) (by decide)) dX1_readBlocks_90 (fun H locs hP hD hS => ?_)
        have e9 : upd ef (nI b).toNatClampNeg (nI (acc + n1)) = upd ef b (nI (acc + n1)) := by rw [nI_clamp (by omega)]
        rw [e9] at hP hD
        clear e9
        have hP : va_P (dC, dI) vwCl (xw ad ca kf vf bf w op ln (nI a2) (nI e9) o2 tf (nI n) (upd ef b (nI (acc + n1))) ff fi ek ev) H := hP
        have hD : va_D A (xw ad ca kf vf bf w op ln (nI a2) (nI e9) o2 tf (nI n) (upd ef b (nI (acc + n1))) ff fi ek ev) := hD
        refine lv_aload_n hx hb dX1_readBlocks_91 rfl (lv_at hl 4 rfl) ?_
        refine va_get (D := (dC, dI)) (ci := 1) (v := .ref (ad 8)) (C := RX1) (T := TX1) (N := 3) (ref := "SortedRun$Index") hx hb hts (xg_u mb_uws_X1) hown hK hP 6 rfl rfl 1 (by decide) (xg_w hts mb_fieldLink_RX1_15) (fun _ h9 => h9) rfl dX1_readBlocks_92 ?_
        refine lv_iload hx hb dX1_readBlocks_95 (lv_at hl 3 rfl) ?_
        refine lv_lload hx hb dX1_readBlocks_97 (lv_at hl 1 rfl) ?_
        refine xk_l (va_runSN (As := [.long (lN n2)]) (rest := [.int (nI b), .ref (ad 8)]) ⟨hx, hb, hml, hown, hts⟩ (cX3_unfold_m l dC dI ca ad kf vf bf w op ln (nI a2) (nI e9) o2 tf (nI n) (upd ef b (nI (acc + n1))) ff fi ek ev (lN n2) _) ⟨va_cnB 1 hts (xg_0 mb_code_yX3_unfold) rfl rfl rfl (xn_nw (w := .methodLinkNest RX1 60 yX3_unfold "SortedRun") (i := 345) hE rfl rfl) (xg_w hts mb_initialized_RX3) ⟨by decide, by decide, by decide +kernel⟩ ⟨Nat.le_of_ble_eq_true rfl, Nat.le_of_ble_eq_true rfl⟩, xg_w hts mb_static_yX3_unfold, trivial⟩ (xpreS hK hP hD hS hA hE) rfl rfl hl.1 rfl (lv_room (Nat.le_of_ble_eq_true rfl)) dX1_readBlocks_99 ⟨Nat.le_of_ble_eq_true rfl, Nat.le_of_ble_eq_true rfl⟩) hD hS hA (fun r u H locs hu hP hD hS => ?_)
        subst hu
        have hP : va_P (dC, dI) vwCl (xw ad ca kf vf bf w op ln (nI a2) (nI e9) o2 tf (nI n) (upd ef b (nI (acc + n1))) ff fi ek ev) H := hP
        have hD : va_D A (xw ad ca kf vf bf w op ln (nI a2) (nI e9) o2 tf (nI n) (upd ef b (nI (acc + n1))) ff fi ek ev) := hD
        refine lv_l2i (v := (pu_u (lN n2)).toInt32) hx hb dX1_readBlocks_102 (rfl) ?_
        refine va_iast hx hb hK hP hD hS 8 5 rfl rfl (vp_in_nI (by omega) (by decide)) dX1_readBlocks_103 (fun H locs hP hD hS => ?_)
        have e9 : upd ff (nI b).toNatClampNeg ((pu_u (lN n2)).toInt32) = upd ff b (pu_u (lN n2)).toInt32 := by rw [nI_clamp (by omega)]
        rw [e9] at hP hD
        clear e9
        have hP : va_P (dC, dI) vwCl (xw ad ca kf vf bf w op ln (nI a2) (nI e9) o2 tf (nI n) (upd ef b (nI (acc + n1))) (upd ff b (pu_u (lN n2)).toInt32) fi ek ev) H := hP
        have hD : va_D A (xw ad ca kf vf bf w op ln (nI a2) (nI e9) o2 tf (nI n) (upd ef b (nI (acc + n1))) (upd ff b (pu_u (lN n2)).toInt32) fi ek ev) := hD
        refine lv_iinc (k := 3) (v := nI (b + 1)) hx hb dX1_readBlocks_104 hl rfl (nI_1 b) (by decide) rfl (fun ls hl => ?_)
        have hl : lv_has ls 12 [(7, .int (nI (b + 1))), (5, .long (lN (acc + n1))), (10, .long (lN n2)), (8, .long (lN n1)), (0, .ref (ad 6)), (1, .ref (ad 4)), (2, .int z2)] := hl
        refine lv_goto (tgt := 33) hx hb dX1_readBlocks_107 rfl ?_
        refine ih (b + 1) a2 (acc + n1) o2 _ _ _ _ _ ho2 (by omega) h4 (lv_sub hl [0, 1, 4, 5, 6] rfl) hP hD hS ?_ ?_ ?_
        · intro ho lr a' hl' ef' ff' hsame hrows H locs ls hl hP hD hS
          obtain ⟨q1, q2⟩ := s3 hf hf2 ho
          rw [Nat.add_assoc] at hl
          refine kg q1 ((n1, n2) :: lr) a' (q2 lr a' hl') ef' ff' (fun j hj => ?_) ?_ H locs ls hl hP hD hS
          · obtain ⟨t1, t2⟩ := hsame j (by omega)
            exact ⟨t1.trans (pk_un (by omega)), t2.trans (pk_un (by omega))⟩
          · obtain ⟨t1, t2⟩ := hsame b (by omega)
            exact px_rows_cons (ef := ef) (ff := ff) (t1.trans pk_us) (t2.trans pk_us) hrows
        · intro hb a' s9 ef' ff' ha' H locs ls hl hP hD hS
          exact kb (s2 hf hf2 hb) a' s9 ef' ff' ha' H locs ls hl hP hD hS
        · intro hb a' ok' ef' ff' ha' H locs ls hP hD hS
          exact ke (s2 hf hf2 hb) a' ok' ef' ff' ha' H locs ls hP hD hS
      · obtain ⟨rfl, hf2⟩ := hf2
        refine lv_if_ne (tgt := 74) hx hb dX1_readBlocks_69 rfl (fun hc => absurd hc (not_not_intro rfl)) (fun hc => ?_)
        exact ke (s1 (fun z => hf2 z.2)) a2 o2 ef ff h4 H locs ls hP hD hS
    · obtain ⟨rfl, hf⟩ := hf
      refine lv_if_eq (tgt := 72) hx hb dX1_readBlocks_60 rfl (fun hc => ?_) (fun hc => absurd hc (not_not_intro rfl))
      exact ke (s1 (fun z => hf z.1)) a2 o2 ef ff h4 H locs ls hP hD hS
