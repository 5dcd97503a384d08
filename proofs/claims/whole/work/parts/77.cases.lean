/-! SortedRunLaw: what holds at the head of its loop -/
abbrev wsL0 : List Cond := .initialized RL :: wsG
def xST (D : va_G) (A : Nat → Prop) (ad : Nat → Nat) (ca : Nat → ClassId) (am : Nat → Nat) (cm : Nat → ClassId) (oa : Nat) (oc : ClassId) (H : Heap) : Prop :=
  ∃ (kf : Nat → Int32) (vf : Nat → Int64) (bf : Nat → Int32) (w : Int32) (op : Int32) (ln : Int32) (nx : Int32) (en : Int32) (ok : Int32) (tf : Nat → Int32) (nb : Int32) (ef : Nat → Int32) (ff : Nat → Int32) (fi : Int32) (ek : Int32) (ev : Int64) (mk : Nat → Int32) (mv : Nat → Int64) (mt : Nat → Int32) (fr : Nat → Int32) (sf : Nat → Int32) (gi : Nat → Int32) (bk : Nat → Int32) (bv : Nat → Int64) (mq : Int32) (ny : Int32) (mb : Int32) (mn : Int32) (ai : Int32) (me : Int32) (th : Int32) (mo : Int32) (wr : Int32) (of : Nat → Int64) (n Lb : Nat) (lr : List (Nat × Nat)), xI kf vf w op ln tf nb ef ff mk mv mt fr sf gi mq ny mb mo n Lb lr ∧ va_P D vwCl (xw ad ca kf vf bf w op ln nx en ok tf nb ef ff fi ek ev ++ (xm am cm mk mv mt fr sf gi bk bv mq ny mb mn ai me th mo wr ++ [(oa, .inl (oc, 1, .inr (.inl of)))])) H ∧ va_D A (xw ad ca kf vf bf w op ln nx en ok tf nb ef ff fi ek ev ++ (xm am cm mk mv mt fr sf gi bk bv mq ny mb mn ai me th mo wr ++ [(oa, .inl (oc, 1, .inr (.inl of)))]))
set_option maxHeartbeats 4000000 in
set_option maxRecDepth 100000 in
theorem cs_add {p : Program} {l : Launch} {e : Env} {s : State} {m : MethodId} {below : List Frame} {meth : Method} {c : Code} {Q : State → Prop} {dC : Nat → ClassId} {dI : Nat → Nat → Nat} {ca cm : Nat → ClassId} {ad am : Nat → Nat} {oa : Nat} {oc : ClassId} {b Ls : Nat} {xs : Nat → Int32} (hx : p.tables.exec = Jvm.exec) (hb : c.code = code) (hml : c.maxLocals = 8) (hown : s.vm.findClass RL = some m.cls) (hts : ∀ w ∈ wsL0, w.before #[.ref b] s = true) (hX : va_X b Ls xs s s.heap) (hbl : b < s.heap.size) (hE : xn_E (fun q => s.heap.size ≤ q) s) (hnt : l.stackTraces = false) (hKx : va_K (dC, dI) vwCl (xt ca) s) (hKm : va_K (dC, dI) vwCl (xt cm) s) (hKo : va_K (dC, dI) vwCl [(oc, .long)] s) {kf : Nat → Int32} {vf : Nat → Int64} {bf : Nat → Int32} {w : Int32} {op : Int32} {ln : Int32} {nx : Int32} {en : Int32} {ok : Int32} {tf : Nat → Int32} {nb : Int32} {ef : Nat → Int32} {ff : Nat → Int32} {fi : Int32} {ek : Int32} {ev : Int64} {mk : Nat → Int32} {mv : Nat → Int64} {mt : Nat → Int32} {fr : Nat → Int32} {sf : Nat → Int32} {gi : Nat → Int32} {bk : Nat → Int32} {bv : Nat → Int64} {mq : Int32} {ny : Int32} {mb : Int32} {mn : Int32} {ai : Int32} {me : Int32} {th : Int32} {mo : Int32} {wr : Int32} {of : Nat → Int64} {n Lb : Nat} {lr : List (Nat × Nat)} {i9 cells slots : Nat} {H : Heap} {locs : List Loc} {ls : Array Slot} (hI : xI kf vf w op ln tf nb ef ff mk mv mt fr sf gi mq ny mb mo n Lb lr) (hi : 4 * i9 + 3 < Ls) (hLs : Ls ≤ 2048) (hc1 : cells + 1 ≤ room_1.cells) (hs1 : slots + 6 ≤ room_1.slots) (hP : va_P (dC, dI) vwCl (xw ad ca kf vf bf w op ln nx en ok tf nb ef ff fi ek ev ++ (xm am cm mk mv mt fr sf gi bk bv mq ny mb mn ai me th mo wr ++ [(oa, .inl (oc, 1, .inr (.inl of)))])) H) (hD : va_D (fun q => s.heap.size ≤ q) (xw ad ca kf vf bf w op ln nx en ok tf nb ef ff fi ek ev ++ (xm am cm mk mv mt fr sf gi bk bv mq ny mb mn ai me th mo wr ++ [(oa, .inl (oc, 1, .inr (.inl of)))]))) (hS : va_S (fun q => s.heap.size ≤ q) s.heap H locs) (hl : lv_has ls 8 [(4, .int (nI (4 * i9))), (0, .ref b), (1, .ref (ad 0)), (2, .ref (am 0)), (3, .ref oa)]) (kk : (∀ (H : Heap) (locs : List Loc) (ls : Array Slot), xST (dC, dI) (fun q => s.heap.size ≤ q) ad ca am cm oa oc H → va_S (fun q => s.heap.size ≤ q) s.heap H locs → lv_has ls 8 [(4, .int (nI (4 * i9))), (0, .ref b), (1, .ref (ad 0)), (2, .ref (am 0)), (3, .ref oa)] → W p l e room_1 s m #[.ref b] below meth c H locs (cells + 1) (slots + 6) Q (F0 m 601 ls []))) : W p l e room_1 s m #[.ref b] below meth c H locs cells slots Q (F0 m 92 ls []) := by
  have hA : ∀ q : Nat, s.heap.size ≤ q → (fun q => s.heap.size ≤ q) q := fun q h => h
  have hbA : ¬ (fun q => s.heap.size ≤ q) b := Nat.not_le.mpr hbl
  obtain ⟨hI1, hI2, hI3⟩ := hI
  have hI := And.intro hI1 (And.intro hI2 hI3)
  have hI : xI kf vf w op ln tf nb ef ff mk mv mt fr sf gi mq ny mb mo n Lb lr := hI
  obtain ⟨hn, rfl, rfl, hup, -, -⟩ := hI1
  obtain ⟨hLb, rfl, rfl, -, hfit⟩ := hI2
  obtain ⟨ho1, ho2, -, ho4⟩ := xI_open hI
  have hcm : cells + 1 + 0 ≤ room_1.cells := hc1
  have hsm : slots + 6 + 0 ≤ room_1.slots := hs1
  refine lv_aload_n hx hb dL_law_92 rfl (lv_at hl 2 rfl) ?_
  refine lv_aload_n hx hb dL_law_93 rfl (lv_at hl 1 rfl) ?_
  refine lv_iload hx hb dL_law_94 (lv_at hl 0 rfl) ?_
  refine lv_iconst (v := nI 1) hx hb dL_law_96 (by decide) ?_
  refine lv_iadd hx hb dL_law_97 ?_
  refine lv_topi (fun z1 ez1 => ?_)
  have ez1 : z1 = nI (4 * i9 + 1) := ez1.trans (nI_add _ _)
  subst ez1
  refine va_sld hx hb hX hbl hbA hS (vp_in_nI (by omega) (by omega)) dL_law_98 ?_
  refine lv_topi (fun z2 ez2 => ?_)
  have ez2 : z2 = xs (4 * i9 + 1) := ez2.trans (congrArg xs (nI_clamp (by omega)))
  subst ez2
  refine lv_aload_n hx hb dL_law_99 rfl (lv_at hl 1 rfl) ?_
  refine lv_iload hx hb dL_law_100 (lv_at hl 0 rfl) ?_
  refine lv_iconst (v := nI 2) hx hb dL_law_102 (by decide) ?_
  refine lv_iadd hx hb dL_law_103 ?_
  refine lv_topi (fun z3 ez3 => ?_)
  have ez3 : z3 = nI (4 * i9 + 2) := ez3.trans (nI_add _ _)
  subst ez3
  refine va_sld hx hb hX hbl hbA hS (vp_in_nI (by omega) (by omega)) dL_law_104 ?_
  refine lv_topi (fun z4 ez4 => ?_)
  have ez4 : z4 = xs (4 * i9 + 2) := ez4.trans (congrArg xs (nI_clamp (by omega)))
  subst ez4
  refine lv_i2l (v := (xs (4 * i9 + 2)).toInt64) hx hb dL_law_105 (rfl) ?_
  refine lv_bipush (v := nI 32) hx hb dL_law_106 (by decide) ?_
  refine lv_lshl (v := ((xs (4 * i9 + 2)).toInt64) <<< ((nI 32).toInt64 &&& 63)) hx hb dL_law_108 (rfl) ?_
  refine lv_aload_n hx hb dL_law_109 rfl (lv_at hl 1 rfl) ?_
  refine lv_iload hx hb dL_law_110 (lv_at hl 0 rfl) ?_
  refine lv_iconst (v := nI 3) hx hb dL_law_112 (by decide) ?_
  refine lv_iadd hx hb dL_law_113 ?_
  refine lv_topi (fun z5 ez5 => ?_)
  have ez5 : z5 = nI (4 * i9 + 3) := ez5.trans (nI_add _ _)
  subst ez5
  refine va_sld hx hb hX hbl hbA hS (vp_in_nI (by omega) (by omega)) dL_law_114 ?_
  refine lv_topi (fun z6 ez6 => ?_)
  have ez6 : z6 = xs (4 * i9 + 3) := ez6.trans (congrArg xs (nI_clamp (by omega)))
  subst ez6
  refine lv_i2l (v := (xs (4 * i9 + 3)).toInt64) hx hb dL_law_115 (rfl) ?_
  refine lv_ldc2 (v := 4294967295) hx hb hown (xg_w hts mb_constantLong_RL_53) dL_law_116 ?_
  refine lv_land hx hb dL_law_119 ?_
  refine lv_lor hx hb dL_law_120 ?_
  refine lv_aload_n hx hb dL_law_121 rfl (lv_at hl 4 rfl) ?_
  have hP1 : va_P (dC, dI) vwCl (xw ad ca kf vf bf (nI n) op (nI Lb) nx en ok tf nb ef ff fi ek ev ++ [(oa, .inl (oc, 1, .inr (.inl of)))]) H := hP.sub [0, 1, 2, 3, 4, 5, 6, 7, 8, 9, 19] rfl
  have hP2 : va_P (dC, dI) vwCl (xm am cm mk mv mt fr sf gi bk bv (nI n) (nI Lb) mb mn ai me th mo wr) H := hP.sub [10, 11, 12, 13, 14, 15, 16, 17, 18] rfl
  have hD2 : va_D (fun q => s.heap.size ≤ q) ((xw ad ca kf vf bf (nI n) op (nI Lb) nx en ok tf nb ef ff fi ek ev ++ [(oa, .inl (oc, 1, .inr (.inl of)))]) ++ xm am cm mk mv mt fr sf gi bk bv (nI n) (nI Lb) mb mn ai me th mo wr) := hD.sub [0, 1, 2, 3, 4, 5, 6, 7, 8, 9, 19, 10, 11, 12, 13, 14, 15, 16, 17, 18] rfl rfl
  have hK1 := va_K.app hKx hKo
  refine xf_i (vx_runSW (As := [.ref (ad 0), .int (xs (4 * i9 + 1)), .long ((((xs (4 * i9 + 2)).toInt64) <<< ((nI 32).toInt64 &&& 63)) ||| (((xs (4 * i9 + 3)).toInt64) &&& 4294967295)), .ref oa]) (rest := []) ⟨hx, hb, hml, hown, hts⟩ (cL_add_m l hnt dC dI ca ad kf vf bf op (nI Lb) nx en ok tf nb ef ff fi ek ev oa oc of n (xs (4 * i9 + 1)) ((((xs (4 * i9 + 2)).toInt64) <<< ((nI 32).toInt64 &&& 63)) ||| (((xs (4 * i9 + 3)).toInt64) &&& 4294967295)) hn _) (vx_cwSW 4 hts (xg_in (xg_c mb_methodLink_RL_55 (xg_c mb_static_yL_add (xg_c mb_initialized_RL (xg_c (wsG_t (i := 171) rfl rfl) (fun _ h => h)))))) rfl rfl rfl ⟨by decide, by decide, by decide +kernel⟩ ⟨Nat.le_of_ble_eq_true rfl, Nat.le_of_ble_eq_true rfl⟩) (xpreS (wd := xw ad ca kf vf bf (nI n) op (nI Lb) nx en ok tf nb ef ff fi ek ev ++ [(oa, .inl (oc, 1, .inr (.inl of)))]) hK1 hP1 (xf_l hD2) hS hA hE) rfl rfl hl.1 rfl (lv_room (Nat.le_of_ble_eq_true rfl)) dL_law_122 ⟨hc1, hs1⟩) hD2 hP2 hS hA (fun r u H locs hu _ hP hD hS => ?_)
  have hP : va_P (dC, dI) vwCl (xw ad ca u.1 u.2.1 bf u.2.2.1 op (nI Lb) nx en ok tf nb ef ff fi ek ev ++ (xm am cm mk mv mt fr sf gi bk bv (nI n) (nI Lb) mb mn ai me th mo wr ++ [(oa, .inl (oc, 1, .inr (.inl u.2.2.2)))])) H := hP.sub [0, 1, 2, 3, 4, 5, 6, 7, 8, 9, 11, 12, 13, 14, 15, 16, 17, 18, 19, 10] rfl
  have hD : va_D (fun q => s.heap.size ≤ q) (xw ad ca u.1 u.2.1 bf u.2.2.1 op (nI Lb) nx en ok tf nb ef ff fi ek ev ++ (xm am cm mk mv mt fr sf gi bk bv (nI n) (nI Lb) mb mn ai me th mo wr ++ [(oa, .inl (oc, 1, .inr (.inl u.2.2.2)))])) := hD.sub [0, 1, 2, 3, 4, 5, 6, 7, 8, 9, 11, 12, 13, 14, 15, 16, 17, 18, 19, 10] rfl rfl
  refine lv_istore hx hb dL_law_125 hl (by decide) rfl (fun ls hl => ?_)
  have hl : lv_has ls 8 [(5, .int r), (4, .int (nI (4 * i9))), (0, .ref b), (1, .ref (ad 0)), (2, .ref (am 0)), (3, .ref oa)] := hl
  refine lv_aload_n hx hb dL_law_127 rfl (lv_at hl 4 rfl) ?_
  refine lv_aload_n hx hb dL_law_128 rfl (lv_at hl 2 rfl) ?_
  refine lv_iload hx hb dL_law_129 (lv_at hl 1 rfl) ?_
  refine lv_iconst (v := nI 1) hx hb dL_law_131 (by decide) ?_
  refine lv_iadd hx hb dL_law_132 ?_
  refine lv_topi (fun z7 ez7 => ?_)
  have ez7 : z7 = nI (4 * i9 + 1) := ez7.trans (nI_add _ _)
  subst ez7
  refine va_sld hx hb hX hbl hbA hS (vp_in_nI (by omega) (by omega)) dL_law_133 ?_
  refine lv_topi (fun z8 ez8 => ?_)
  have ez8 : z8 = xs (4 * i9 + 1) := ez8.trans (congrArg xs (nI_clamp (by omega)))
  subst ez8
  refine lv_aload_n hx hb dL_law_134 rfl (lv_at hl 2 rfl) ?_
  refine lv_iload hx hb dL_law_135 (lv_at hl 1 rfl) ?_
  refine lv_iconst (v := nI 2) hx hb dL_law_137 (by decide) ?_
  refine lv_iadd hx hb dL_law_138 ?_
  refine lv_topi (fun z9 ez9 => ?_)
  have ez9 : z9 = nI (4 * i9 + 2) := ez9.trans (nI_add _ _)
  subst ez9
  refine va_sld hx hb hX hbl hbA hS (vp_in_nI (by omega) (by omega)) dL_law_139 ?_
  refine lv_topi (fun z10 ez10 => ?_)
  have ez10 : z10 = xs (4 * i9 + 2) := ez10.trans (congrArg xs (nI_clamp (by omega)))
  subst ez10
  refine lv_i2l (v := (xs (4 * i9 + 2)).toInt64) hx hb dL_law_140 (rfl) ?_
  refine lv_bipush (v := nI 32) hx hb dL_law_141 (by decide) ?_
  refine lv_lshl (v := ((xs (4 * i9 + 2)).toInt64) <<< ((nI 32).toInt64 &&& 63)) hx hb dL_law_143 (rfl) ?_
  refine lv_aload_n hx hb dL_law_144 rfl (lv_at hl 2 rfl) ?_
  refine lv_iload hx hb dL_law_145 (lv_at hl 1 rfl) ?_
  refine lv_iconst (v := nI 3) hx hb dL_law_147 (by decide) ?_
  refine lv_iadd hx hb dL_law_148 ?_
  refine lv_topi (fun z11 ez11 => ?_)
  have ez11 : z11 = nI (4 * i9 + 3) := ez11.trans (nI_add _ _)
  subst ez11
  refine va_sld hx hb hX hbl hbA hS (vp_in_nI (by omega) (by omega)) dL_law_149 ?_
  refine lv_topi (fun z12 ez12 => ?_)
  have ez12 : z12 = xs (4 * i9 + 3) := ez12.trans (congrArg xs (nI_clamp (by omega)))
  subst ez12
  refine lv_i2l (v := (xs (4 * i9 + 3)).toInt64) hx hb dL_law_150 (rfl) ?_
  refine lv_ldc2 (v := 4294967295) hx hb hown (xg_w hts mb_constantLong_RL_53) dL_law_151 ?_
  refine lv_land hx hb dL_law_154 ?_
  refine lv_lor hx hb dL_law_155 ?_
  have hP1 : va_P (dC, dI) vwCl (xm am cm mk mv mt fr sf gi bk bv (nI n) (nI Lb) mb mn ai me th mo wr) H := hP.sub [10, 11, 12, 13, 14, 15, 16, 17, 18] rfl
  have hP2 : va_P (dC, dI) vwCl (xw ad ca u.1 u.2.1 bf u.2.2.1 op (nI Lb) nx en ok tf nb ef ff fi ek ev ++ [(oa, .inl (oc, 1, .inr (.inl u.2.2.2)))]) H := hP.sub [0, 1, 2, 3, 4, 5, 6, 7, 8, 9, 19] rfl
  have hD2 : va_D (fun q => s.heap.size ≤ q) (xm am cm mk mv mt fr sf gi bk bv (nI n) (nI Lb) mb mn ai me th mo wr ++ (xw ad ca u.1 u.2.1 bf u.2.2.1 op (nI Lb) nx en ok tf nb ef ff fi ek ev ++ [(oa, .inl (oc, 1, .inr (.inl u.2.2.2)))])) := hD.sub [10, 11, 12, 13, 14, 15, 16, 17, 18, 0, 1, 2, 3, 4, 5, 6, 7, 8, 9, 19] rfl rfl
  refine xf_i (va_runV (As := [.int (xs (4 * i9 + 1)), .long ((((xs (4 * i9 + 2)).toInt64) <<< ((nI 32).toInt64 &&& 63)) ||| (((xs (4 * i9 + 3)).toInt64) &&& 4294967295))]) (rest := []) ⟨hx, hb, hml, hown, hts⟩ (cX4_add_m l dC dI cm am mk mv mt fr sf gi bk bv (nI Lb) mb mn ai me th mo wr n (xs (4 * i9 + 1)) ((((xs (4 * i9 + 2)).toInt64) <<< ((nI 32).toInt64 &&& 63)) ||| (((xs (4 * i9 + 3)).toInt64) &&& 4294967295)) hn _) (cwV 2 hts (xg_V mb_methodLink_RL_60 mb_instanceMethod_yX4_add mb_selects_yX4_add mb_initialized_RX4 mb_code_yX4_add) rfl rfl rfl ⟨rfl, by decide, by decide, by decide +kernel⟩ ⟨Nat.le_of_ble_eq_true rfl, Nat.le_of_ble_eq_true rfl⟩) (xpreV (va_recv (q0 := 0) hKm hP1 rfl rfl) hKm hP1 (xf_l hD2) hS hA hE) rfl rfl hl.1 rfl (lv_room (Nat.le_of_ble_eq_true rfl)) dL_law_156 ⟨hcm, hsm⟩) hD2 hP2 hS hA (fun r2 u2 H locs hu2 _ hP hD hS => ?_)
  have hP : va_P (dC, dI) vwCl (xw ad ca u.1 u.2.1 bf u.2.2.1 op (nI Lb) nx en ok tf nb ef ff fi ek ev ++ (xm am cm u2.2.2.1 u2.2.2.2 mt fr sf gi bk bv u2.2.1 (nI Lb) mb mn ai me u2.1 mo wr ++ [(oa, .inl (oc, 1, .inr (.inl u.2.2.2)))])) H := hP.sub [9, 10, 11, 12, 13, 14, 15, 16, 17, 18, 0, 1, 2, 3, 4, 5, 6, 7, 8, 19] rfl
  have hD : va_D (fun q => s.heap.size ≤ q) (xw ad ca u.1 u.2.1 bf u.2.2.1 op (nI Lb) nx en ok tf nb ef ff fi ek ev ++ (xm am cm u2.2.2.1 u2.2.2.2 mt fr sf gi bk bv u2.2.1 (nI Lb) mb mn ai me u2.1 mo wr ++ [(oa, .inl (oc, 1, .inr (.inl u.2.2.2)))])) := hD.sub [9, 10, 11, 12, 13, 14, 15, 16, 17, 18, 0, 1, 2, 3, 4, 5, 6, 7, 8, 19] rfl rfl
  obtain ⟨hth, hou, n9, hI9⟩ := xI_add hI hu hu2
  refine lv_istore hx hb dL_law_159 hl (by decide) rfl (fun ls hl => ?_)
  have hl : lv_has ls 8 [(6, .int r2), (5, .int r), (4, .int (nI (4 * i9))), (0, .ref b), (1, .ref (ad 0)), (2, .ref (am 0)), (3, .ref oa)] := hl
  refine lv_aload_n hx hb dL_law_161 rfl (lv_at hl 5 rfl) ?_
  have hP1 : va_P (dC, dI) vwCl (xm am cm u2.2.2.1 u2.2.2.2 mt fr sf gi bk bv u2.2.1 (nI Lb) mb mn ai me u2.1 mo wr) H := hP.sub [10, 11, 12, 13, 14, 15, 16, 17, 18] rfl
  have hP2 : va_P (dC, dI) vwCl (xw ad ca u.1 u.2.1 bf u.2.2.1 op (nI Lb) nx en ok tf nb ef ff fi ek ev ++ [(oa, .inl (oc, 1, .inr (.inl u.2.2.2)))]) H := hP.sub [0, 1, 2, 3, 4, 5, 6, 7, 8, 9, 19] rfl
  have hD2 : va_D (fun q => s.heap.size ≤ q) (xm am cm u2.2.2.1 u2.2.2.2 mt fr sf gi bk bv u2.2.1 (nI Lb) mb mn ai me u2.1 mo wr ++ (xw ad ca u.1 u.2.1 bf u.2.2.1 op (nI Lb) nx en ok tf nb ef ff fi ek ev ++ [(oa, .inl (oc, 1, .inr (.inl u.2.2.2)))])) := hD.sub [10, 11, 12, 13, 14, 15, 16, 17, 18, 0, 1, 2, 3, 4, 5, 6, 7, 8, 9, 19] rfl rfl
  refine xf_i (va_runV (As := []) (rest := []) ⟨hx, hb, hml, hown, hts⟩ (cX4_thrown_m l dC dI cm am u2.2.2.1 u2.2.2.2 mt fr sf gi bk bv u2.2.1 (nI Lb) mb mn ai me u2.1 mo wr  _) (cwV 0 hts (xg_V mb_methodLink_RL_61 mb_instanceMethod_yX4_thrown mb_selects_yX4_thrown mb_initialized_RX4 mb_code_yX4_thrown) rfl rfl rfl ⟨rfl, by decide, by decide, by decide +kernel⟩ ⟨Nat.le_of_ble_eq_true rfl, Nat.le_of_ble_eq_true rfl⟩) (xpreV (va_recv (q0 := 0) hKm hP1 rfl rfl) hKm hP1 (xf_l hD2) hS hA hE) rfl rfl hl.1 rfl (lv_room (Nat.le_of_ble_eq_true rfl)) dL_law_162 ⟨hcm, hsm⟩) hD2 hP2 hS hA (fun r3 u3 H locs hu3 _ hP hD hS => ?_)
  subst hu3
  have hP : va_P (dC, dI) vwCl (xw ad ca u.1 u.2.1 bf u.2.2.1 op (nI Lb) nx en ok tf nb ef ff fi ek ev ++ (xm am cm u2.2.2.1 u2.2.2.2 mt fr sf gi bk bv u2.2.1 (nI Lb) mb mn ai me u2.1 mo wr ++ [(oa, .inl (oc, 1, .inr (.inl u.2.2.2)))])) H := hP.sub [9, 10, 11, 12, 13, 14, 15, 16, 17, 18, 0, 1, 2, 3, 4, 5, 6, 7, 8, 19] rfl
  have hD : va_D (fun q => s.heap.size ≤ q) (xw ad ca u.1 u.2.1 bf u.2.2.1 op (nI Lb) nx en ok tf nb ef ff fi ek ev ++ (xm am cm u2.2.2.1 u2.2.2.2 mt fr sf gi bk bv u2.2.1 (nI Lb) mb mn ai me u2.1 mo wr ++ [(oa, .inl (oc, 1, .inr (.inl u.2.2.2)))])) := hD.sub [9, 10, 11, 12, 13, 14, 15, 16, 17, 18, 0, 1, 2, 3, 4, 5, 6, 7, 8, 19] rfl rfl
  refine lv_iload hx hb dL_law_165 (lv_at hl 1 rfl) ?_
  refine lv_icmp_eq (tgt := 172) hx hb dL_law_167 rfl (fun hq => ?_) (fun hq => absurd hq (not_not_intro (hth)))
  refine lv_iload hx hb dL_law_172 (lv_at hl 1 rfl) ?_
  refine lv_if_ne (tgt := 189) hx hb dL_law_174 rfl (fun hnz => ?_) (fun hz => ?_)
  · refine lv_goto (tgt := 601) hx hb dL_law_189 rfl ?_
    exact kk H locs ls ⟨u.1, u.2.1, bf, u.2.2.1, op, nI Lb, nx, en, ok, tf, nb, ef, ff, fi, ek, ev, u2.2.2.1, u2.2.2.2, mt, fr, sf, gi, bk, bv, u2.2.1, nI Lb, mb, mn, ai, me, u2.1, mo, wr, u.2.2.2, n9, Lb, lr, hI9, hP, hD⟩ hS (lv_sub hl [2, 3, 4, 5, 6] rfl)
  · have ho0 := hou hz
    refine lv_aload_n hx hb dL_law_177 rfl (lv_at hl 6 rfl) ?_
    refine lv_iconst (v := nI 0) hx hb dL_law_178 (by decide) ?_
    refine va_lald hx hb hKo hP 19 0 rfl rfl (vp_in_nI (by decide) (by decide)) dL_law_179 ?_
    refine lv_topl (fun z13 ez13 => ?_)
    have ez13 : z13 = u.2.2.2 0 := ez13.trans (congrArg u.2.2.2 (nI_clamp (by decide)))
    subst ez13
    refine lv_iload hx hb dL_law_180 (lv_at hl 0 rfl) ?_
    refine lv_i2l (v := r2.toInt64) hx hb dL_law_182 (rfl) ?_
    refine W.lcmp hx hb dL_law_183 ?_
    refine lv_if_eq (tgt := 189) hx hb dL_law_184 rfl (fun hq => ?_) (fun hq => absurd hq (not_not_intro (lc_eq.mpr ho0)))
    refine lv_goto (tgt := 601) hx hb dL_law_189 rfl ?_
    exact kk H locs ls ⟨u.1, u.2.1, bf, u.2.2.1, op, nI Lb, nx, en, ok, tf, nb, ef, ff, fi, ek, ev, u2.2.2.1, u2.2.2.2, mt, fr, sf, gi, bk, bv, u2.2.1, nI Lb, mb, mn, ai, me, u2.1, mo, wr, u.2.2.2, n9, Lb, lr, hI9, hP, hD⟩ hS (lv_sub hl [2, 3, 4, 5, 6] rfl)
