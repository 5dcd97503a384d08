/-! SortedRunLaw: what holds at the head of its loop -/
abbrev wsL0 : List Cond := .initialized RL :: wsG
def xST (D : va_G) (A : Nat → Prop) (ad : Nat → Nat) (ca : Nat → ClassId) (am : Nat → Nat) (cm : Nat → ClassId) (oa : Nat) (oc : ClassId) (H : Heap) : Prop :=
  ∃ (kf : Nat → Int32) (vf : Nat → Int64) (bf : Nat → Int32) (w : Int32) (op : Int32) (ln : Int32) (nx : Int32) (en : Int32) (ok : Int32) (tf : Nat → Int32) (nb : Int32) (ef : Nat → Int32) (ff : Nat → Int32) (fi : Int32) (ek : Int32) (ev : Int64) (mk : Nat → Int32) (mv : Nat → Int64) (mt : Nat → Int32) (fr : Nat → Int32) (sf : Nat → Int32) (gi : Nat → Int32) (bk : Nat → Int32) (bv : Nat → Int64) (mq : Int32) (ny : Int32) (mb : Int32) (mn : Int32) (ai : Int32) (me : Int32) (th : Int32) (mo : Int32) (wr : Int32) (of : Nat → Int64) (n Lb : Nat) (lr : List (Nat × Nat)), xI kf vf w op ln tf nb ef ff mk mv mt fr sf gi mq ny mb mo n Lb lr ∧ va_P D vwCl (xw ad ca kf vf bf w op ln nx en ok tf nb ef ff fi ek ev ++ (xm am cm mk mv mt fr sf gi bk bv mq ny mb mn ai me th mo wr ++ [(oa, .inl (oc, 1, .inr (.inl of)))])) H ∧ va_D A (xw ad ca kf vf bf w op ln nx en ok tf nb ef ff fi ek ev ++ (xm am cm mk mv mt fr sf gi bk bv mq ny mb mn ai me th mo wr ++ [(oa, .inl (oc, 1, .inr (.inl of)))]))
set_option maxHeartbeats 4000000 in
set_option maxRecDepth 100000 in
theorem cs_add {p : Program} {l : Launch} {e : Env} {s : State} {m : MethodId} {below : List Frame} {meth : Method} {c : Code} {Q : State → Prop} {dC : Nat → ClassId} {dI : Nat → Nat → Nat} {ca cm : Nat → ClassId} {ad am : Nat → Nat} {oa : Nat} {oc : ClassId} {b Ls : Nat} {xs : Nat → Int32} (hx : p.tables.exec = Jvm.exec) (hb : c.code = code) (hml : c.maxLocals = 8) (hown : s.vm.findClass RL = some m.cls) (hts : ∀ w ∈ wsL0, w.before #[.ref b] s = true) (hX : va_X b Ls xs s s.heap) (hbl : b < s.heap.size) (hE : xn_E (fun q => s.heap.size ≤ q) s) (hnt : l.stackTraces = false) (hKx : va_K (dC, dI) vwCl (xt ca) s) (hKm : va_K (dC, dI) vwCl (xt cm) s) (hKo : va_K (dC, dI) vwCl [(oc, .long)] s) {kf : Nat → Int32} {vf : Nat → Int64} {bf : Nat → Int32} {w : Int32} {op : Int32} {ln : Int32} {nx : Int32} {en : Int32} {ok : Int32} {tf : Nat → Int32} {nb : Int32} {ef : Nat → Int32} {ff : Nat → Int32} {fi : Int32} {ek : Int32} {ev : Int64} {mk : Nat → Int32} {mv : Nat → Int64} {mt : Nat → Int32} {fr : Nat → Int32} {sf : Nat → Int32} {gi : Nat → Int32} {bk : Nat → Int32} {bv : Nat → Int64} {mq : Int32} {ny : Int32} {mb : Int32} {mn : Int32} {ai : Int32} {me : Int32} {th : Int32} {mo : Int32} {wr : Int32} {of : Nat → Int64} {n Lb : Nat} {lr : List (Nat × Nat)} {i9 cells slots : Nat} {H : Heap} {locs : List Loc} {ls : Array Slot} (hI : xI kf vf w op ln tf nb ef ff mk mv mt fr sf gi mq ny mb mo n Lb lr) (hi : 4 * i9 + 3 < Ls) (hLs : Ls ≤ 2048) (hc1 : cells + 1 ≤ room_1.cells) (hs1 : slots + 6 ≤ room_1.slots) (hP : va_P (dC, dI) vwCl (xw ad ca kf vf bf w op ln nx en ok tf nb ef ff fi ek ev ++ (xm am cm mk mv mt fr sf gi bk bv mq ny mb mn ai me th mo wr ++ [(oa, .inl (oc, 1, .inr (.inl of)))])) H) (hD : va_D (fun q => s.heap.size ≤ q) (xw ad ca kf vf bf w op ln nx en ok tf nb ef ff fi ek ev ++ (xm am cm mk mv mt fr sf gi bk bv mq ny mb mn ai me th mo wr ++ [(oa, .inl (oc, 1, .inr (.inl of)))]))) (hS : va_S (fun q => s.heap.size ≤ q) s.heap H locs) (hl : lv_has ls 8 [(4, .int (nI (4 * i9))), (0, .ref b), (1, .ref (ad 0)), (2, .ref (am 0)), (3, .ref oa)]) (kk : (∀ (H : Heap) (locs : List Loc) (ls : Array Slot), xST (dC, dI) (fun q => s.heap.size ≤ q) ad ca am cm oa oc H → va_S (fun q => s.heap.size ≤ q) s.heap H locs → lv_has ls 8 [(4, .int (nI (4 * i9))), (0, .ref b), (1, .ref (ad 0)), (2, .ref (am 0)), (3, .ref oa)] → W p l e room_1 s m #[.ref b] below meth c H locs (cells + 1) (slots + 6) Q (F0 m 601 ls []))) : W p l e room_1 s m #[.ref b] below meth c H locs cells slots Q (F0 m 92 ls []) := by
  have hA : ∀ q : Nat, s.heap.size ≤ q → (fun q => s.heap.size ≤ q) q := fun q h => h
  have hbA : ¬ (fun q => s.heap.size ≤ q) b := Nat.not_le.mpr hbl
  obtain ⟨hI1, hI2, hI3⟩ := hI
  have hI := And.intro hI1 (And.intro hI2 hI3)
  have hI : xI kf vf w op ln tf nb ef ff mk mv mt fr sf gi mq ny mb mo n Lb lr := hI
  obtain ⟨hn, rfl, rfl, hup, -, -⟩ := hI1
  obtain ⟨hLb, rfl, rfl, -, hfit⟩ := hI2
  obtain ⟨ho1, ho2, -, ho4⟩ := xI_open hI
  have hcm : cells + 1 + 0 ≤ room_1.cells := hc1
  have hsm : slots + 6 + 0 ≤ room_1.slots := hs1
  refine lv_aload_n hx hb dL_law_92 rfl (lv_at hl 2 rfl) ?_
  refine lv_aload_n hx hb dL_law_93 rfl (lv_at hl 1 rfl) ?_
  refine lv_iload hx hb dL_law_94 (lv_at hl 0 rfl) ?_
  refine lv_iconst (v := nI 1) hx hb dL_law_96 (by decide) ?_
  refine lv_iadd hx hb dL_law_97 ?_
  refine lv_topi (fun z1 ez1 => ?_)
  have ez1 : z1 = nI (4 * i9 + 1) := ez1.trans (nI_add _ _)
  subst ez1
  refine va_sld hx hb hX hbl hbA hS (vp_in_nI (by omega) (by omega)) dL_law_98 ?_
  refine lv_topi (fun z2 ez2 => ?_)
  have ez2 : z2 = xs (4 * i9 + 1) := ez2.trans (congrArg xs (nI_clamp (by omega)))
  subst ez2
  refine lv_aload_n hx hb dL_law_99 rfl (lv_at hl 1 rfl) ?_
  refine lv_iload hx hb dL_law_100 (lv_at hl 0 rfl) ?_
  refine lv_iconst (v := nI 2) hx hb dL_law_102 (by decide) ?_
  refine lv_iadd hx hb dL_law_103 ?_
  refine lv_topi (fun z3 ez3 => ?_)
  have ez3 : z3 = nI (4 * i9 + 2) := ez3.trans (nI_add _ _)
  subst ez3
  refine va_sld hx hb hX hbl hbA hS (vp_in_nI (by omega) (by omega)) dL_law_104 ?_
  refine lv_topi (fun z4 ez4 => ?_)
  have ez4 : z4 = xs (4 * i9 + 2) := ez4.trans (congrArg xs (nI_clamp (by omega)))
  subst ez4
  refine lv_i2l (v := (xs (4 * i9 + 2)).toInt64) hx hb dL_law_105 (rfl) ?_
  refine lv_bipush (v := nI 32) hx hb dL_law_106 (by decide) ?_
  refine lv_lshl (v := ((xs (4 * i9 + 2)).toInt64) <<< ((nI 32).toInt64 &&& 63)) hx hb dL_law_108 (rfl) ?_
  refine lv_aload_n hx hb dL_law_109 rfl (lv_at hl 1 rfl) ?_
  refine lv_iload hx hb dL_law_110 (lv_at hl 0 rfl) ?_
  refine lv_iconst (v := nI 3) hx hb dL_law_112 (by decide) ?_
  refine lv_iadd hx hb dL_law_113 ?_
  refine lv_topi (fun z5 ez5 => ?_)
  have ez5 : z5 = nI (4 * i9 + 3) := ez5.trans (nI_add _ _)
  subst ez5
  refine va_sld hx hb hX hbl hbA hS (vp_in_nI (by omega) (by omega)) dL_law_114 ?_
  refine lv_topi (fun z6 ez6 => ?_)
  have ez6 : z6 = xs (4 * i9 + 3) := ez6.trans (congrArg xs (nI_clamp (by omega)))
  subst ez6
  refine lv_i2l (v := (xs (4 * i9 + 3)).toInt64) hx hb dL_law_115 (rfl) ?_
  refine lv_ldc2 (v := 4294967295) hx hb hown (xg_w hts mb_constantLong_RL_53) dL_law_116 ?_
  refine lv_land hx hb dL_law_119 ?_
  refine lv_lor hx hb dL_law_120 ?_
  refine lv_aload_n hx hb dL_law_121 rfl (lv_at hl 4 rfl) ?_
  have hP1 : va_P (dC, dI) vwCl (xw ad ca kf vf bf (nI n) op (nI Lb) nx en ok tf nb ef ff fi ek ev ++ [(oa, .inl (oc, 1, .inr (.inl of)))]) H := hP.sub [0, 1, 2, 3, 4, 5, 6, 7, 8, 9, 19] rfl
  have hP2 : va_P (dC, dI) vwCl (xm am cm mk mv mt fr sf gi bk bv (nI n) (nI Lb) mb mn ai me th mo wr) H := hP.sub [10, 11, 12, 13, 14, 15, 16, 17, 18] rfl
  have hD2 : va_D (fun q => s.heap.size ≤ q) ((xw ad ca kf vf bf (nI n) op (nI Lb) nx en ok tf nb ef ff fi ek ev ++ [(oa, .inl (oc, 1, .inr (.inl of)))]) ++ xm am cm mk mv mt fr sf gi bk bv (nI n) (nI Lb) mb mn ai me th mo wr) := hD.sub [0, 1, 2, 3, 4, 5, 6, 7, 8, 9, 19, 10, 11, 12, 13, 14, 15, 16, 17, 18] rfl rfl
  have hK1 := va_K.app hKx hKo
  refine xf_i (vx_runSW (As := [.ref (ad 0), .int (xs (4 * i9 + 1)), .long ((((xs (4 * i9 + 2)).toInt64) <<< ((nI 32).toInt64 &&& 63)) ||| (((xs (4 * i9 + 3)).toInt64) &&& 4294967295)), .ref oa]) (rest := []) ⟨hx, hb, hml, hown, hts⟩ (cL_add_m l hnt dC dI ca ad kf vf bf op (nI Lb) nx en ok tf nb ef ff fi ek ev oa oc of n (xs (4 * i9 + 1)) ((((xs (4 * i9 + 2)).toInt64) <<< ((nI 32).toInt64 &&& 63)) ||| (((xs (4 * i9 + 3)).toInt64) &&& 4294967295)) hn _) (vx_cwSW 4 hts (xg_in (xg_c mb_methodLink_RL_55 (xg_c mb_static_yL_add (xg_c mb_initialized_RL (xg_c (wsG_t (i := 171) rfl rfl) (fun _ h => h)))))) rfl rfl rfl ⟨by decide, by decide, by decide +kernel⟩ ⟨Nat.le_of_ble_eq_true rfl, Nat.le_of_ble_eq_true rfl⟩) (xpreS (wd := xw ad ca kf vf bf (nI n) op (nI Lb) nx en ok tf nb ef ff fi ek ev ++ [(oa, .inl (oc, 1, .inr (.inl of)))]) hK1 hP1 (xf_l hD2) hS hA hE) rfl rfl hl.1 rfl (lv_room (Nat.le_of_ble_eq_true rfl)) dL_law_122 ⟨hc1, hs1⟩) hD2 hP2 hS hA (fun r u H locs hu _ hP hD hS => ?_)
  have hP : va_P (dC, dI) vwCl (xw ad ca u.1 u.2.1 bf u.2.2.1 op (nI Lb) nx en ok tf nb ef ff fi ek ev ++ (xm am cm mk mv mt fr sf gi bk bv (nI n) (nI Lb) mb mn ai me th mo wr ++ [(oa, .inl (oc, 1, .inr (.inl u.2.2.2)))])) H := hP.sub [0, 1, 2, 3, 4, 5, 6, 7, 8, 9, 11, 12, 13, 14, 15, 16, 17, 18, 19, 10] rfl
  have hD : va_D (fun q => s.heap.size ≤ q) (xw ad ca u.1 u.2.1 bf u.2.2.1 op (nI Lb) nx en ok tf nb ef ff fi ek ev ++ (xm am cm mk mv mt fr sf gi bk bv (nI n) (nI Lb) mb mn ai me th mo wr ++ [(oa, .inl (oc, 1, .inr (.inl u.2.2.2)))])) := hD.sub [0, 1, 2, 3, 4, 5, 6, 7, 8, 9, 11, 12, 13, 14, 15, 16, 17, 18, 19, 10] rfl rfl
  refine lv_istore hx hb dL_law_125 hl (by decide) rfl (fun ls hl => ?_)
  have hl : lv_has ls 8 [(5, .int r), (4, .int (nI (4 * i9))), (0, .ref b), (1, .ref (ad 0)), (2, .ref (am 0)), (3, .ref oa)] := hl
  refine lv_aload_n hx hb dL_law_127 rfl (lv_at hl 4 rfl) ?_
  refine lv_aload_n hx hb dL_law_128 rfl (lv_at hl 2 rfl) ?_
  refine lv_iload hx hb dL_law_129 (lv_at hl 1 rfl) ?_
  refine lv_iconst (v := nI 1) hx hb dL_law_131 (by decide) ?_
  refine lv_iadd hx hb dL_law_132 ?_
  refine lv_topi (fun z7 ez7 => ?_)
  have ez7 : z7 = nI (4 * i9 + 1) := ez7.trans (nI_add _ _)
  subst ez7
  refine va_sld hx hb hX hbl hbA hS (vp_in_nI (by omega) (by omega)) dL_law_133 ?_
  refine lv_topi (fun z8 ez8 => ?_)
  have ez8 : z8 = xs (4 * i9 + 1) := ez8.trans (congrArg xs (nI_clamp (by omega)))
  subst ez8
  refine lv_aload_n hx hb dL_law_134 rfl (lv_at hl 2 rfl) ?_
  refine lv_iload hx hb dL_law_135 (lv_at hl 1 rfl) ?_
  refine lv_iconst (v := nI 2) hx hb dL_law_137 (by decide) ?_
  refine lv_iadd hx hb dL_law_138 ?_
  refine lv_topi (fun z9 ez9 => ?_)
  have ez9 : z9 = nI (4 * i9 + 2) := ez9.trans (nI_add _ _)
  subst ez9
  refine va_sld hx hb hX hbl hbA hS (vp_in_nI (by omega) (by omega)) dL_law_139 ?_
  refine lv_topi (fun z10 ez10 => ?_)
  have ez10 : z10 = xs (4 * i9 + 2) := ez10.trans (congrArg xs (nI_clamp (by omega)))
  subst ez10
  refine lv_i2l (v := (xs (4 * i9 + 2)).toInt64) hx hb dL_law_140 (rfl) ?_
  refine lv_bipush (v := nI 32) hx hb dL_law_141 (by decide) ?_
  refine lv_lshl (v := ((xs (4 * i9 + 2)).toInt64) <<< ((nI 32).toInt64 &&& 63)) hx hb dL_law_143 (rfl) ?_
  refine lv_aload_n hx hb dL_law_144 rfl (lv_at hl 2 rfl) ?_
  refine lv_iload hx hb dL_law_145 (lv_at hl 1 rfl) ?_
  refine lv_iconst (v := nI 3) hx hb dL_law_147 (by decide) ?_
  refine lv_iadd hx hb dL_law_148 ?_
  refine lv_topi (fun z11 ez11 => ?_)
  have ez11 : z11 = nI (4 * i9 + 3) := ez11.trans (nI_add _ _)
  subst ez11
  refine va_sld hx hb hX hbl hbA hS (vp_in_nI (by omega) (by omega)) dL_law_149 ?_
  refine lv_topi (fun z12 ez12 => ?_)
  have ez12 : z12 = xs (4 * i9 + 3) := ez12.trans (congrArg xs (nI_clamp (by omega)))
  subst ez12
  refine lv_i2l (v := (xs (4 * i9 + 3)).toInt64) hx hb dL_law_150 (rfl) ?_
  refine lv_ldc2 (v := 4294967295) hx hb hown (xg_w hts mb_constantLong_RL_53) dL_law_151 ?_
  refine lv_land hx hb dL_law_154 ?_
  refine lv_lor hx hb dL_law_155 ?_
  have hP1 : va_P (dC, dI) vwCl (xm am cm mk mv mt fr sf gi bk bv (nI n) (nI Lb) mb mn ai me th mo wr) H := hP.sub [10, 11, 12, 13, 14, 15, 16, 17, 18] rfl
  have hP2 : va_P (dC, dI) vwCl (xw ad ca u.1 u.2.1 bf u.2.2.1 op (nI Lb) nx en ok tf nb ef ff fi ek ev ++ [(oa, .inl (oc, 1, .inr (.inl u.2.2.2)))]) H := hP.sub [0, 1, 2, 3, 4, 5, 6, 7, 8, 9, 19] rfl
  have hD2 : va_D (fun q => s.heap.size ≤ q) (xm am cm mk mv mt fr sf gi bk bv (nI n) (nI Lb) mb mn ai me th mo wr ++ (xw ad ca u.1 u.2.1 bf u.2.2.1 op (nI Lb) nx en ok tf nb ef ff fi ek ev ++ [(oa, .inl (oc, 1, .inr (.inl u.2.2.2)))])) := hD.sub [10, 11, 12, 13, 14, 15, 16, 17, 18, 0, 1, 2, 3, 4, 5, 6, 7, 8, 9, 19] rfl rfl
  refine xf_i (va_runV (As := [.int (xs (4 * i9 + 1)), .long ((((xs (4 * i9 + 2)).toInt64) <<< ((nI 32).toInt64 &&& 63)) ||| (((xs (4 * i9 + 3)).toInt64) &&& 4294967295))]) (rest := []) ⟨hx, hb, hml, hown, hts⟩ (cX4_add_m l dC dI cm am mk mv mt fr sf gi bk bv (nI Lb) mb mn ai me th mo wr n (xs (4 * i9 + 1)) ((((xs (4 * i9 + 2)).toInt64) <<< ((nI 32).toInt64 &&& 63)) ||| (((xs (4 * i9 + 3)).toInt64) &&& 4294967295)) hn _) (cwV 2 hts (xg_V mb_methodLink_RL_60 mb_instanceMethod_yX4_add mb_selects_yX4_add mb_initialized_RX4 mb_code_yX4_add) rfl rfl rfl ⟨rfl, by decide, by decide, by decide +kernel⟩ ⟨Nat.le_of_ble_eq_true rfl, Nat.le_of_ble_eq_true rfl⟩) (xpreV (va_recv (q0 := 0) hKm hP1 rfl rfl) hKm hP1 (xf_l hD2) hS hA hE) rfl rfl hl.1 rfl (lv_room (Nat.le_of_ble_eq_true rfl)) dL_law_156 ⟨hcm, hsm⟩) hD2 hP2 hS hA (fun r2 u2 H locs hu2 _ hP hD hS => ?_)
  have hP : va_P (dC, dI) vwCl (xw ad ca u.1 u.2.1 bf u.2.2.1 op (nI Lb) nx en ok tf nb ef ff fi ek ev ++ (xm am cm u2.2.2.1 u2.2.2.2 mt fr sf gi bk bv u2.2.1 (nI Lb) mb mn ai me u2.1 mo wr ++ [(oa, .inl (oc, 1, .inr (.inl u.2.2.2)))])) H := hP.sub [9, 10, 11, 12, 13, 14, 15, 16, 17, 18, 0, 1, 2, 3, 4, 5, 6, 7, 8, 19] rfl
  have hD : va_D (fun q => s.heap.size ≤ q) (xw ad ca u.1 u.2.1 bf u.2.2.1 op (nI Lb) nx en ok tf nb ef ff fi ek ev ++ (xm am cm u2.2.2.1 u2.2.2.2 mt fr sf gi bk bv u2.2.1 (nI Lb) mb mn ai me u2.1 mo wr ++ [(oa, .inl (oc, 1, .inr (.inl u.2.2.2)))])) := hD.sub [9, 10, 11, 12, 13, 14, 15, 16, 17, 18, 0, 1, 2, 3, 4, 5, 6, 7, 8, 19] rfl rfl
  obtain ⟨hth, hou, n9, hI9⟩ := xI_add hI hu hu2
  refine lv_istore hx hb dL_law_159 hl (by decide) rfl (fun ls hl => ?_)
  have hl : lv_has ls 8 [(6, .int r2), (5, .int r), (4, .int (nI (4 * i9))), (0, .ref b), (1, .ref (ad 0)), (2, .ref (am 0)), (3, .ref oa)] := hl
  refine lv_aload_n hx hb dL_law_161 rfl (lv_at hl 5 rfl) ?_
  have hP1 : va_P (dC, dI) vwCl (xm am cm u2.2.2.1 u2.2.2.2 mt fr sf gi bk bv u2.2.1 (nI Lb) mb mn ai me u2.1 mo wr) H := hP.sub [10, 11, 12, 13, 14, 15, 16, 17, 18] rfl
  have hP2 : va_P (dC, dI) vwCl (xw ad ca u.1 u.2.1 bf u.2.2.1 op (nI Lb) nx en ok tf nb ef ff fi ek ev ++ [(oa, .inl (oc, 1, .inr (.inl u.2.2.2)))]) H := hP.sub [0, 1, 2, 3, 4, 5, 6, 7, 8, 9, 19] rfl
  have hD2 : va_D (fun q => s.heap.size ≤ q) (xm am cm u2.2.2.1 u2.2.2.2 mt fr sf gi bk bv u2.2.1 (nI Lb) mb mn ai me u2.1 mo wr ++ (xw ad ca u.1 u.2.1 bf u.2.2.1 op (nI Lb) nx en ok tf nb ef ff fi ek ev ++ [(oa, .inl (oc, 1, .inr (.inl u.2.2.2)))])) := hD.sub [10, 11, 12, 13, 14, 15, 16, 17, 18, 0, 1, 2, 3, 4, 5, 6, 7, 8, 9, 19] rfl rfl
  refine xf_i (va_runV (As := []) (rest := []) ⟨hx, hb, hml, hown, hts⟩ (cX4_thrown_m l dC dI cm am u2.2.2.1 u2.2.2.2 mt fr sf gi bk bv u2.2.1 (nI Lb) mb mn ai me u2.1 mo wr  _) (cwV 0 hts (xg_V mb_methodLink_RL_61 mb_instanceMethod_yX4_thrown mb_selects_yX4_thrown mb_initialized_RX4 mb_code_yX4_thrown) rfl rfl rfl ⟨rfl, by decide, by decide, by decide +kernel⟩ ⟨Nat.le_of_ble_eq_true rfl, Nat.le_of_ble_eq_true rfl⟩) (xpreV (va_recv (q0 := 0) hKm hP1 rfl rfl) hKm hP1 (xf_l hD2) hS hA hE) rfl rfl hl.1 rfl (lv_room (Nat.le_of_ble_eq_true rfl)) dL_law_162 ⟨hcm, hsm⟩) hD2 hP2 hS hA (fun r3 u3 H locs hu3 _ hP hD hS => ?_)
  subst hu3
  have hP : va_P (dC, dI) vwCl (xw ad ca u.1 u.2.1 bf u.2.2.1 op (nI Lb) nx en ok tf nb ef ff fi ek ev ++ (xm am cm u2.2.2.1 u2.2.2.2 mt fr sf gi bk bv u2.2.1 (nI Lb) mb mn ai me u2.1 mo wr ++ [(oa, .inl (oc, 1, .inr (.inl u.2.2.2)))])) H := hP.sub [9, 10, 11, 12, 13, 14, 15, 16, 17, 18, 0, 1, 2, 3, 4, 5, 6, 7, 8, 19] rfl
  have hD : va_D (fun q => s.heap.size ≤ q) (xw ad ca u.1 u.2.1 bf u.2.2.1 op (nI Lb) nx en ok tf nb ef ff fi ek ev ++ (xm am cm u2.2.2.1 u2.2.2.2 mt fr sf gi bk bv u2.2.1 (nI Lb) mb mn ai me u2.1 mo wr ++ [(oa, .inl (oc, 1, .inr (.inl u.2.2.2)))])) := hD.sub [9, 10, 11, 12, 13, 14, 15, 16, 17, 18, 0, 1, 2, 3, 4, 5, 6, 7, 8, 19] rfl rfl
  refine lv_iload hx hb dL_law_165 (lv_at hl 1 rfl) ?_
  refine lv_icmp_eq (tgt := 172) hx hb dL_law_167 rfl (fun hq => ?_) (fun hq => absurd hq (not_not_intro (hth)))
  refine lv_iload hx hb dL_law_172 (lv_at hl 1 rfl) ?_
  refine lv_if_ne (tgt := 189) hx hb dL_law_174 rfl (fun hnz => ?_) (fun hz => ?_)
  · refine lv_goto (tgt := 601) hx hb dL_law_189 rfl ?_
    exact kk H locs ls ⟨u.1, u.2.1, bf, u.2.2.1, op, nI Lb, nx, en, ok, tf, nb, ef, ff, fi, ek, ev, u2.2.2.1, u2.2.2.2, mt, fr, sf, gi, bk, bv, u2.2.1, nI Lb, mb, mn, ai, me, u2.1, mo, wr, u.2.2.2, n9, Lb, lr, hI9, hP, hD⟩ hS (lv_sub hl [2, 3, 4, 5, 6] rfl)
  · have ho0 := hou hz
    refine lv_aload_n hx hb dL_law_177 rfl (lv_at hl 6 rfl) ?_
    refine lv_iconst (v := nI 0) hx hb dL_law_178 (by decide) ?_
    refine va_lald hx hb hKo hP 19 0 rfl rfl (vp_in_nI (by decide) (by decide)) dL_law_179 ?_
    refine lv_topl (fun z13 ez13 => ?_)
    have ez13 : z13 = u.2.2.2 0 := ez13.trans (congrArg u.2.2.2 (nI_clamp (by decide)))
    subst ez13
    refine lv_iload hx hb dL_law_180 (lv_at hl 0 rfl) ?_
    refine lv_i2l (v := r2.toInt64) hx hb dL_law_182 (rfl) ?_
    refine W.lcmp hx hb dL_law_183 ?_
    refine lv_if_eq (tgt := 189) hx hb dL_law_184 rfl (fun hq => ?_) (fun hq => absurd hq (not_not_intro (lc_eq.mpr ho0)))
    refine lv_goto (tgt := 601) hx hb dL_law_189 rfl ?_
    exact kk H locs ls ⟨u.1, u.2.1, bf, u.2.2.1, op, nI Lb, nx, en, ok, tf, nb, ef, ff, fi, ek, ev, u2.2.2.1, u2.2.2.2, mt, fr, sf, gi, bk, bv, u2.2.1, nI Lb, mb, mn, ai, me, u2.1, mo, wr, u.2.2.2, n9, Lb, lr, hI9, hP, hD⟩ hS (lv_sub hl [2, 3, 4, 5, 6] rfl)

set_option maxHeartbeats 4000000 in
set_option maxRecDepth 100000 in
theorem cs_write {p : Program} {l : Launch} {e : Env} {s : State} {m : MethodId} {below : List Frame} {meth : Method} {c : Code} {Q : State → Prop} {dC : Nat → ClassId} {dI : Nat → Nat → Nat} {ca cm : Nat → ClassId} {ad am : Nat → Nat} {oa : Nat} {oc : ClassId} {b Ls : Nat} {xs : Nat → Int32} (hx : p.tables.exec = Jvm.exec) (hb : c.code = code) (hml : c.maxLocals = 8) (hown : s.vm.findClass RL = some m.cls) (hts : ∀ w ∈ wsL0, w.before #[.ref b] s = true) (hX : va_X b Ls xs s s.heap) (hbl : b < s.heap.size) (hE : xn_E (fun q => s.heap.size ≤ q) s) (hnt : l.stackTraces = false) (hKx : va_K (dC, dI) vwCl (xt ca) s) (hKm : va_K (dC, dI) vwCl (xt cm) s) (hKo : va_K (dC, dI) vwCl [(oc, .long)] s) {kf : Nat → Int32} {vf : Nat → Int64} {bf : Nat → Int32} {w : Int32} {op : Int32} {ln : Int32} {nx : Int32} {en : Int32} {ok : Int32} {tf : Nat → Int32} {nb : Int32} {ef : Nat → Int32} {ff : Nat → Int32} {fi : Int32} {ek : Int32} {ev : Int64} {mk : Nat → Int32} {mv : Nat → Int64} {mt : Nat → Int32} {fr : Nat → Int32} {sf : Nat → Int32} {gi : Nat → Int32} {bk : Nat → Int32} {bv : Nat → Int64} {mq : Int32} {ny : Int32} {mb : Int32} {mn : Int32} {ai : Int32} {me : Int32} {th : Int32} {mo : Int32} {wr : Int32} {of : Nat → Int64} {n Lb : Nat} {lr : List (Nat × Nat)} {i9 cells slots : Nat} {H : Heap} {locs : List Loc} {ls : Array Slot} (hI : xI kf vf w op ln tf nb ef ff mk mv mt fr sf gi mq ny mb mo n Lb lr) (hi : 4 * i9 + 3 < Ls) (hLs : Ls ≤ 2048) (hc1 : cells + 1 ≤ room_1.cells) (hs1 : slots + 6 ≤ room_1.slots) (hP : va_P (dC, dI) vwCl (xw ad ca kf vf bf w op ln nx en ok tf nb ef ff fi ek ev ++ (xm am cm mk mv mt fr sf gi bk bv mq ny mb mn ai me th mo wr ++ [(oa, .inl (oc, 1, .inr (.inl of)))])) H) (hD : va_D (fun q => s.heap.size ≤ q) (xw ad ca kf vf bf w op ln nx en ok tf nb ef ff fi ek ev ++ (xm am cm mk mv mt fr sf gi bk bv mq ny mb mn ai me th mo wr ++ [(oa, .inl (oc, 1, .inr (.inl of)))]))) (hS : va_S (fun q => s.heap.size ≤ q) s.heap H locs) (hl : lv_has ls 8 [(4, .int (nI (4 * i9))), (0, .ref b), (1, .ref (ad 0)), (2, .ref (am 0)), (3, .ref oa)]) (kk : (∀ (H : Heap) (locs : List Loc) (ls : Array Slot), xST (dC, dI) (fun q => s.heap.size ≤ q) ad ca am cm oa oc H → va_S (fun q => s.heap.size ≤ q) s.heap H locs → lv_has ls 8 [(4, .int (nI (4 * i9))), (0, .ref b), (1, .ref (ad 0)), (2, .ref (am 0)), (3, .ref oa)] → W p l e room_1 s m #[.ref b] below meth c H locs (cells + 1) (slots + 6) Q (F0 m 601 ls []))) : W p l e room_1 s m #[.ref b] below meth c H locs cells slots Q (F0 m 192 ls []) := by
  have hA : ∀ q : Nat, s.heap.size ≤ q → (fun q => s.heap.size ≤ q) q := fun q h => h
  have hbA : ¬ (fun q => s.heap.size ≤ q) b := Nat.not_le.mpr hbl
  obtain ⟨hI1, hI2, hI3⟩ := hI
  have hI := And.intro hI1 (And.intro hI2 hI3)
  have hI : xI kf vf w op ln tf nb ef ff mk mv mt fr sf gi mq ny mb mo n Lb lr := hI
  obtain ⟨hn, rfl, rfl, hup, -, -⟩ := hI1
  obtain ⟨hLb, rfl, rfl, -, hfit⟩ := hI2
  obtain ⟨ho1, ho2, -, ho4⟩ := xI_open hI
  have hcm : cells + 0 ≤ room_1.cells := Nat.le_trans (Nat.le_add_right _ 1) hc1
  have hsm : slots + 0 ≤ room_1.slots := Nat.le_trans (Nat.le_add_right _ 6) hs1
  have hupm : pw_up mk n := fun i hi => by rw [← hI.1.2.2.2.2.1 i (by omega), ← hI.1.2.2.2.2.1 (i + 1) (by omega)]; exact hup i hi
  refine lv_aload_n hx hb dL_law_192 rfl (lv_at hl 2 rfl) ?_
  have hP1 := xf_pl hP
  have hP2 := xf_pr hP
  refine xf_i (va_runV (As := []) (rest := []) ⟨hx, hb, hml, hown, hts⟩ (cX3_write_m l dC dI ca ad kf vf bf op (nI Lb) nx en ok tf nb ef ff fi ek ev n hn hup _) (cwV 0 hts (xg_V mb_methodLink_RL_64 mb_instanceMethod_yX3_write mb_selects_yX3_write mb_initialized_RX3 mb_code_yX3_write) rfl rfl rfl ⟨rfl, by decide, by decide, by decide +kernel⟩ ⟨Nat.le_of_ble_eq_true rfl, Nat.le_of_ble_eq_true rfl⟩) (xpreV (wd := xw ad ca kf vf bf (nI n) op (nI Lb) nx en ok tf nb ef ff fi ek ev) (va_recv (q0 := 0) hKx hP1 rfl rfl) hKx hP1 (xf_l hD) hS hA hE) rfl rfl hl.1 rfl (lv_room (Nat.le_of_ble_eq_true rfl)) dL_law_193 ⟨hcm, hsm⟩) hD hP2 hS hA (fun r u H locs hu _ hP hD hS => ?_)
  subst hu
  have hP : va_P (dC, dI) vwCl (xw ad ca kf vf u 0 0 (nI (pw_all kf vf n tf).2) nx en ok ((pw_all kf vf n tf).1) nb ef ff fi ek ev ++ (xm am cm mk mv mt fr sf gi bk bv (nI n) (nI Lb) mb mn ai me th mo wr ++ [(oa, .inl (oc, 1, .inr (.inl of)))])) H := hP
  have hD : va_D (fun q => s.heap.size ≤ q) (xw ad ca kf vf u 0 0 (nI (pw_all kf vf n tf).2) nx en ok ((pw_all kf vf n tf).1) nb ef ff fi ek ev ++ (xm am cm mk mv mt fr sf gi bk bv (nI n) (nI Lb) mb mn ai me th mo wr ++ [(oa, .inl (oc, 1, .inr (.inl of)))])) := hD
  refine lv_aload_n hx hb dL_law_196 rfl (lv_at hl 3 rfl) ?_
  have hP1 : va_P (dC, dI) vwCl (xm am cm mk mv mt fr sf gi bk bv (nI n) (nI Lb) mb mn ai me th mo wr) H := hP.sub [10, 11, 12, 13, 14, 15, 16, 17, 18] rfl
  have hP2 : va_P (dC, dI) vwCl (xw ad ca kf vf u 0 0 (nI (pw_all kf vf n tf).2) nx en ok ((pw_all kf vf n tf).1) nb ef ff fi ek ev ++ [(oa, .inl (oc, 1, .inr (.inl of)))]) H := hP.sub [0, 1, 2, 3, 4, 5, 6, 7, 8, 9, 19] rfl
  have hD2 : va_D (fun q => s.heap.size ≤ q) (xm am cm mk mv mt fr sf gi bk bv (nI n) (nI Lb) mb mn ai me th mo wr ++ (xw ad ca kf vf u 0 0 (nI (pw_all kf vf n tf).2) nx en ok ((pw_all kf vf n tf).1) nb ef ff fi ek ev ++ [(oa, .inl (oc, 1, .inr (.inl of)))])) := hD.sub [10, 11, 12, 13, 14, 15, 16, 17, 18, 0, 1, 2, 3, 4, 5, 6, 7, 8, 9, 19] rfl rfl
  refine xf_i (va_runV (As := []) (rest := [.int (nI (pw_all kf vf n tf).2)]) ⟨hx, hb, hml, hown, hts⟩ (cX4_write_m l dC dI cm am mk mv mt fr sf gi bk bv (nI Lb) mb mn ai me th mo wr n hn hupm _) (cwV 0 hts (xg_V mb_methodLink_RL_67 mb_instanceMethod_yX4_write mb_selects_yX4_write mb_initialized_RX4 mb_code_yX4_write) rfl rfl rfl ⟨rfl, by decide, by decide, by decide +kernel⟩ ⟨Nat.le_of_ble_eq_true rfl, Nat.le_of_ble_eq_true rfl⟩) (xpreV (va_recv (q0 := 0) hKm hP1 rfl rfl) hKm hP1 (xf_l hD2) hS hA hE) rfl rfl hl.1 rfl (lv_room (Nat.le_of_ble_eq_true rfl)) dL_law_197 ⟨hcm, hsm⟩) hD2 hP2 hS hA (fun r2 u2 H locs hu2 _ hP hD hS => ?_)
  subst hu2
  have hP : va_P (dC, dI) vwCl (xw ad ca kf vf u 0 0 (nI (pw_all kf vf n tf).2) nx en ok ((pw_all kf vf n tf).1) nb ef ff fi ek ev ++ (xm am cm mk mv ((pw_all mk mv n mt).1) fr u2.1 u2.2 bk bv 0 (nI (pw_all mk mv n mt).2) mb mn ai me 0 0 wr ++ [(oa, .inl (oc, 1, .inr (.inl of)))])) H := hP.sub [9, 10, 11, 12, 13, 14, 15, 16, 17, 18, 0, 1, 2, 3, 4, 5, 6, 7, 8, 19] rfl
  have hD : va_D (fun q => s.heap.size ≤ q) (xw ad ca kf vf u 0 0 (nI (pw_all kf vf n tf).2) nx en ok ((pw_all kf vf n tf).1) nb ef ff fi ek ev ++ (xm am cm mk mv ((pw_all mk mv n mt).1) fr u2.1 u2.2 bk bv 0 (nI (pw_all mk mv n mt).2) mb mn ai me 0 0 wr ++ [(oa, .inl (oc, 1, .inr (.inl of)))])) := hD.sub [9, 10, 11, 12, 13, 14, 15, 16, 17, 18, 0, 1, 2, 3, 4, 5, 6, 7, 8, 19] rfl rfl
  obtain ⟨hw1, hI9⟩ := xI_write (bfx := u) (u2 := u2) hI
  refine lv_icmp_eq (tgt := 601) hx hb dL_law_200 rfl (fun hc => ?_) (fun hc => absurd hc (not_not_intro (congrArg nI hw1)))
  refine W.widen (k := cells + 1) (n := slots + 6) (Nat.le_add_right _ _) (Nat.le_add_right _ _) ?_
  exact kk H locs ls ⟨kf, vf, u, 0, 0, nI (pw_all kf vf n tf).2, nx, en, ok, (pw_all kf vf n tf).1, nb, ef, ff, fi, ek, ev, mk, mv, (pw_all mk mv n mt).1, fr, u2.1, u2.2, bk, bv, 0, nI (pw_all mk mv n mt).2, mb, mn, ai, me, 0, 0, wr, of, 0, (pw_all kf vf n tf).2, lr, hI9, hP, hD⟩ hS (lv_sub hl [0, 1, 2, 3, 4] rfl)

set_option maxHeartbeats 4000000 in
set_option maxRecDepth 100000 in
theorem cs_size {p : Program} {l : Launch} {e : Env} {s : State} {m : MethodId} {below : List Frame} {meth : Method} {c : Code} {Q : State → Prop} {dC : Nat → ClassId} {dI : Nat → Nat → Nat} {ca cm : Nat → ClassId} {ad am : Nat → Nat} {oa : Nat} {oc : ClassId} {b Ls : Nat} {xs : Nat → Int32} (hx : p.tables.exec = Jvm.exec) (hb : c.code = code) (hml : c.maxLocals = 8) (hown : s.vm.findClass RL = some m.cls) (hts : ∀ w ∈ wsL0, w.before #[.ref b] s = true) (hX : va_X b Ls xs s s.heap) (hbl : b < s.heap.size) (hE : xn_E (fun q => s.heap.size ≤ q) s) (hnt : l.stackTraces = false) (hKx : va_K (dC, dI) vwCl (xt ca) s) (hKm : va_K (dC, dI) vwCl (xt cm) s) (hKo : va_K (dC, dI) vwCl [(oc, .long)] s) {kf : Nat → Int32} {vf : Nat → Int64} {bf : Nat → Int32} {w : Int32} {op : Int32} {ln : Int32} {nx : Int32} {en : Int32} {ok : Int32} {tf : Nat → Int32} {nb : Int32} {ef : Nat → Int32} {ff : Nat → Int32} {fi : Int32} {ek : Int32} {ev : Int64} {mk : Nat → Int32} {mv : Nat → Int64} {mt : Nat → Int32} {fr : Nat → Int32} {sf : Nat → Int32} {gi : Nat → Int32} {bk : Nat → Int32} {bv : Nat → Int64} {mq : Int32} {ny : Int32} {mb : Int32} {mn : Int32} {ai : Int32} {me : Int32} {th : Int32} {mo : Int32} {wr : Int32} {of : Nat → Int64} {n Lb : Nat} {lr : List (Nat × Nat)} {i9 cells slots : Nat} {H : Heap} {locs : List Loc} {ls : Array Slot} (hI : xI kf vf w op ln tf nb ef ff mk mv mt fr sf gi mq ny mb mo n Lb lr) (hi : 4 * i9 + 3 < Ls) (hLs : Ls ≤ 2048) (hc1 : cells + 1 ≤ room_1.cells) (hs1 : slots + 6 ≤ room_1.slots) (hP : va_P (dC, dI) vwCl (xw ad ca kf vf bf w op ln nx en ok tf nb ef ff fi ek ev ++ (xm am cm mk mv mt fr sf gi bk bv mq ny mb mn ai me th mo wr ++ [(oa, .inl (oc, 1, .inr (.inl of)))])) H) (hD : va_D (fun q => s.heap.size ≤ q) (xw ad ca kf vf bf w op ln nx en ok tf nb ef ff fi ek ev ++ (xm am cm mk mv mt fr sf gi bk bv mq ny mb mn ai me th mo wr ++ [(oa, .inl (oc, 1, .inr (.inl of)))]))) (hS : va_S (fun q => s.heap.size ≤ q) s.heap H locs) (hl : lv_has ls 8 [(4, .int (nI (4 * i9))), (0, .ref b), (1, .ref (ad 0)), (2, .ref (am 0)), (3, .ref oa)]) (kk : (∀ (H : Heap) (locs : List Loc) (ls : Array Slot), xST (dC, dI) (fun q => s.heap.size ≤ q) ad ca am cm oa oc H → va_S (fun q => s.heap.size ≤ q) s.heap H locs → lv_has ls 8 [(4, .int (nI (4 * i9))), (0, .ref b), (1, .ref (ad 0)), (2, .ref (am 0)), (3, .ref oa)] → W p l e room_1 s m #[.ref b] below meth c H locs (cells + 1) (slots + 6) Q (F0 m 601 ls []))) : W p l e room_1 s m #[.ref b] below meth c H locs cells slots Q (F0 m 588 ls []) := by
  have hA : ∀ q : Nat, s.heap.size ≤ q → (fun q => s.heap.size ≤ q) q := fun q h => h
  have hbA : ¬ (fun q => s.heap.size ≤ q) b := Nat.not_le.mpr hbl
  obtain ⟨hI1, hI2, hI3⟩ := hI
  have hI := And.intro hI1 (And.intro hI2 hI3)
  have hI : xI kf vf w op ln tf nb ef ff mk mv mt fr sf gi mq ny mb mo n Lb lr := hI
  obtain ⟨hn, rfl, rfl, hup, -, -⟩ := hI1
  obtain ⟨hLb, rfl, rfl, -, hfit⟩ := hI2
  obtain ⟨ho1, ho2, -, ho4⟩ := xI_open hI
  have hcm : cells + 0 ≤ room_1.cells := Nat.le_trans (Nat.le_add_right _ 1) hc1
  have hsm : slots + 0 ≤ room_1.slots := Nat.le_trans (Nat.le_add_right _ 6) hs1
  refine lv_aload_n hx hb dL_law_588 rfl (lv_at hl 2 rfl) ?_
  have hP1 := xf_pl hP
  have hP2 := xf_pr hP
  refine xf_i (va_runV (As := []) (rest := []) ⟨hx, hb, hml, hown, hts⟩ (cX3_size_m l dC dI ca ad kf vf bf (nI n) op (nI Lb) nx en ok tf nb ef ff fi ek ev  _) (cwV 0 hts (xg_V mb_methodLink_RL_93 mb_instanceMethod_yX3_size mb_selects_yX3_size mb_initialized_RX3 mb_code_yX3_size) rfl rfl rfl ⟨rfl, by decide, by decide, by decide +kernel⟩ ⟨Nat.le_of_ble_eq_true rfl, Nat.le_of_ble_eq_true rfl⟩) (xpreV (wd := xw ad ca kf vf bf (nI n) op (nI Lb) nx en ok tf nb ef ff fi ek ev) (va_recv (q0 := 0) hKx hP1 rfl rfl) hKx hP1 (xf_l hD) hS hA hE) rfl rfl hl.1 rfl (lv_room (Nat.le_of_ble_eq_true rfl)) dL_law_589 ⟨hcm, hsm⟩) hD hP2 hS hA (fun r u H locs hu _ hP hD hS => ?_)
  subst hu
  have hP : va_P (dC, dI) vwCl (xw ad ca kf vf bf (nI n) op (nI Lb) nx en ok tf nb ef ff fi ek ev ++ (xm am cm mk mv mt fr sf gi bk bv (nI n) (nI Lb) mb mn ai me th mo wr ++ [(oa, .inl (oc, 1, .inr (.inl of)))])) H := hP
  have hD : va_D (fun q => s.heap.size ≤ q) (xw ad ca kf vf bf (nI n) op (nI Lb) nx en ok tf nb ef ff fi ek ev ++ (xm am cm mk mv mt fr sf gi bk bv (nI n) (nI Lb) mb mn ai me th mo wr ++ [(oa, .inl (oc, 1, .inr (.inl of)))])) := hD
  refine lv_aload_n hx hb dL_law_592 rfl (lv_at hl 3 rfl) ?_
  have hP1 : va_P (dC, dI) vwCl (xm am cm mk mv mt fr sf gi bk bv (nI n) (nI Lb) mb mn ai me th mo wr) H := hP.sub [10, 11, 12, 13, 14, 15, 16, 17, 18] rfl
  have hP2 : va_P (dC, dI) vwCl (xw ad ca kf vf bf (nI n) op (nI Lb) nx en ok tf nb ef ff fi ek ev ++ [(oa, .inl (oc, 1, .inr (.inl of)))]) H := hP.sub [0, 1, 2, 3, 4, 5, 6, 7, 8, 9, 19] rfl
  have hD2 : va_D (fun q => s.heap.size ≤ q) (xm am cm mk mv mt fr sf gi bk bv (nI n) (nI Lb) mb mn ai me th mo wr ++ (xw ad ca kf vf bf (nI n) op (nI Lb) nx en ok tf nb ef ff fi ek ev ++ [(oa, .inl (oc, 1, .inr (.inl of)))])) := hD.sub [10, 11, 12, 13, 14, 15, 16, 17, 18, 0, 1, 2, 3, 4, 5, 6, 7, 8, 9, 19] rfl rfl
  refine xf_i (va_runV (As := []) (rest := [.int (nI Lb)]) ⟨hx, hb, hml, hown, hts⟩ (cX4_size_m l dC dI cm am mk mv mt fr sf gi bk bv (nI n) (nI Lb) mb mn ai me th mo wr  _) (cwV 0 hts (xg_V mb_methodLink_RL_96 mb_instanceMethod_yX4_size mb_selects_yX4_size mb_initialized_RX4 mb_code_yX4_size) rfl rfl rfl ⟨rfl, by decide, by decide, by decide +kernel⟩ ⟨Nat.le_of_ble_eq_true rfl, Nat.le_of_ble_eq_true rfl⟩) (xpreV (va_recv (q0 := 0) hKm hP1 rfl rfl) hKm hP1 (xf_l hD2) hS hA hE) rfl rfl hl.1 rfl (lv_room (Nat.le_of_ble_eq_true rfl)) dL_law_593 ⟨hcm, hsm⟩) hD2 hP2 hS hA (fun r2 u2 H locs hu2 _ hP hD hS => ?_)
  subst hu2
  have hP : va_P (dC, dI) vwCl (xw ad ca kf vf bf (nI n) op (nI Lb) nx en ok tf nb ef ff fi ek ev ++ (xm am cm mk mv mt fr sf gi bk bv (nI n) (nI Lb) mb mn ai me 0 mo wr ++ [(oa, .inl (oc, 1, .inr (.inl of)))])) H := hP.sub [9, 10, 11, 12, 13, 14, 15, 16, 17, 18, 0, 1, 2, 3, 4, 5, 6, 7, 8, 19] rfl
  have hD : va_D (fun q => s.heap.size ≤ q) (xw ad ca kf vf bf (nI n) op (nI Lb) nx en ok tf nb ef ff fi ek ev ++ (xm am cm mk mv mt fr sf gi bk bv (nI n) (nI Lb) mb mn ai me 0 mo wr ++ [(oa, .inl (oc, 1, .inr (.inl of)))])) := hD.sub [9, 10, 11, 12, 13, 14, 15, 16, 17, 18, 0, 1, 2, 3, 4, 5, 6, 7, 8, 19] rfl rfl
  refine lv_icmp_eq (tgt := 601) hx hb dL_law_596 rfl (fun hc => ?_) (fun hc => absurd hc (not_not_intro rfl))
  refine W.widen (k := cells + 1) (n := slots + 6) (Nat.le_add_right _ _) (Nat.le_add_right _ _) ?_
  exact kk H locs ls ⟨kf, vf, bf, nI n, op, nI Lb, nx, en, ok, tf, nb, ef, ff, fi, ek, ev, mk, mv, mt, fr, sf, gi, bk, bv, nI n, nI Lb, mb, mn, ai, me, 0, mo, wr, of, n, Lb, lr, hI, hP, hD⟩ hS (lv_sub hl [0, 1, 2, 3, 4] rfl)

set_option maxHeartbeats 4000000 in
set_option maxRecDepth 100000 in
theorem cs_at {p : Program} {l : Launch} {e : Env} {s : State} {m : MethodId} {below : List Frame} {meth : Method} {c : Code} {Q : State → Prop} {dC : Nat → ClassId} {dI : Nat → Nat → Nat} {ca cm : Nat → ClassId} {ad am : Nat → Nat} {oa : Nat} {oc : ClassId} {b Ls : Nat} {xs : Nat → Int32} (hx : p.tables.exec = Jvm.exec) (hb : c.code = code) (hml : c.maxLocals = 8) (hown : s.vm.findClass RL = some m.cls) (hts : ∀ w ∈ wsL0, w.before #[.ref b] s = true) (hX : va_X b Ls xs s s.heap) (hbl : b < s.heap.size) (hE : xn_E (fun q => s.heap.size ≤ q) s) (hnt : l.stackTraces = false) (hKx : va_K (dC, dI) vwCl (xt ca) s) (hKm : va_K (dC, dI) vwCl (xt cm) s) (hKo : va_K (dC, dI) vwCl [(oc, .long)] s) {kf : Nat → Int32} {vf : Nat → Int64} {bf : Nat → Int32} {w : Int32} {op : Int32} {ln : Int32} {nx : Int32} {en : Int32} {ok : Int32} {tf : Nat → Int32} {nb : Int32} {ef : Nat → Int32} {ff : Nat → Int32} {fi : Int32} {ek : Int32} {ev : Int64} {mk : Nat → Int32} {mv : Nat → Int64} {mt : Nat → Int32} {fr : Nat → Int32} {sf : Nat → Int32} {gi : Nat → Int32} {bk : Nat → Int32} {bv : Nat → Int64} {mq : Int32} {ny : Int32} {mb : Int32} {mn : Int32} {ai : Int32} {me : Int32} {th : Int32} {mo : Int32} {wr : Int32} {of : Nat → Int64} {n Lb : Nat} {lr : List (Nat × Nat)} {i9 cells slots : Nat} {H : Heap} {locs : List Loc} {ls : Array Slot} (hI : xI kf vf w op ln tf nb ef ff mk mv mt fr sf gi mq ny mb mo n Lb lr) (hi : 4 * i9 + 3 < Ls) (hLs : Ls ≤ 2048) (hc1 : cells + 1 ≤ room_1.cells) (hs1 : slots + 6 ≤ room_1.slots) (hP : va_P (dC, dI) vwCl (xw ad ca kf vf bf w op ln nx en ok tf nb ef ff fi ek ev ++ (xm am cm mk mv mt fr sf gi bk bv mq ny mb mn ai me th mo wr ++ [(oa, .inl (oc, 1, .inr (.inl of)))])) H) (hD : va_D (fun q => s.heap.size ≤ q) (xw ad ca kf vf bf w op ln nx en ok tf nb ef ff fi ek ev ++ (xm am cm mk mv mt fr sf gi bk bv mq ny mb mn ai me th mo wr ++ [(oa, .inl (oc, 1, .inr (.inl of)))]))) (hS : va_S (fun q => s.heap.size ≤ q) s.heap H locs) (hl : lv_has ls 8 [(4, .int (nI (4 * i9))), (0, .ref b), (1, .ref (ad 0)), (2, .ref (am 0)), (3, .ref oa)]) (kk : (∀ (H : Heap) (locs : List Loc) (ls : Array Slot), xST (dC, dI) (fun q => s.heap.size ≤ q) ad ca am cm oa oc H → va_S (fun q => s.heap.size ≤ q) s.heap H locs → lv_has ls 8 [(4, .int (nI (4 * i9))), (0, .ref b), (1, .ref (ad 0)), (2, .ref (am 0)), (3, .ref oa)] → W p l e room_1 s m #[.ref b] below meth c H locs (cells + 1) (slots + 6) Q (F0 m 601 ls []))) : W p l e room_1 s m #[.ref b] below meth c H locs cells slots Q (F0 m 205 ls []) := by
  have hA : ∀ q : Nat, s.heap.size ≤ q → (fun q => s.heap.size ≤ q) q := fun q h => h
  have hbA : ¬ (fun q => s.heap.size ≤ q) b := Nat.not_le.mpr hbl
  obtain ⟨hI1, hI2, hI3⟩ := hI
  have hI := And.intro hI1 (And.intro hI2 hI3)
  have hI : xI kf vf w op ln tf nb ef ff mk mv mt fr sf gi mq ny mb mo n Lb lr := hI
  obtain ⟨hn, rfl, rfl, hup, -, -⟩ := hI1
  obtain ⟨hLb, rfl, rfl, -, hfit⟩ := hI2
  obtain ⟨ho1, ho2, -, ho4⟩ := xI_open hI
  have hcm : cells + 1 + 0 ≤ room_1.cells := hc1
  have hsm : slots + 6 + 0 ≤ room_1.slots := hs1
  refine lv_aload_n hx hb dL_law_205 rfl (lv_at hl 2 rfl) ?_
  refine lv_aload_n hx hb dL_law_206 rfl (lv_at hl 1 rfl) ?_
  refine lv_iload hx hb dL_law_207 (lv_at hl 0 rfl) ?_
  refine lv_iconst (v := nI 1) hx hb dL_law_209 (by decide) ?_
  refine lv_iadd hx hb dL_law_210 ?_
  refine lv_topi (fun z1 ez1 => ?_)
  have ez1 : z1 = nI (4 * i9 + 1) := ez1.trans (nI_add _ _)
  subst ez1
  refine va_sld hx hb hX hbl hbA hS (vp_in_nI (by omega) (by omega)) dL_law_211 ?_
  refine lv_topi (fun z2 ez2 => ?_)
  have ez2 : z2 = xs (4 * i9 + 1) := ez2.trans (congrArg xs (nI_clamp (by omega)))
  subst ez2
  refine lv_aload_n hx hb dL_law_212 rfl (lv_at hl 4 rfl) ?_
  have hP1 : va_P (dC, dI) vwCl (xw ad ca kf vf bf (nI n) op (nI Lb) nx en ok tf nb ef ff fi ek ev ++ [(oa, .inl (oc, 1, .inr (.inl of)))]) H := hP.sub [0, 1, 2, 3, 4, 5, 6, 7, 8, 9, 19] rfl
  have hP2 : va_P (dC, dI) vwCl (xm am cm mk mv mt fr sf gi bk bv (nI n) (nI Lb) mb mn ai me th mo wr) H := hP.sub [10, 11, 12, 13, 14, 15, 16, 17, 18] rfl
  have hD2 : va_D (fun q => s.heap.size ≤ q) ((xw ad ca kf vf bf (nI n) op (nI Lb) nx en ok tf nb ef ff fi ek ev ++ [(oa, .inl (oc, 1, .inr (.inl of)))]) ++ xm am cm mk mv mt fr sf gi bk bv (nI n) (nI Lb) mb mn ai me th mo wr) := hD.sub [0, 1, 2, 3, 4, 5, 6, 7, 8, 9, 19, 10, 11, 12, 13, 14, 15, 16, 17, 18] rfl rfl
  have hK1 := va_K.app hKx hKo
  refine xf_i (vx_runSW (As := [.ref (ad 0), .int (xs (4 * i9 + 1)), .ref oa]) (rest := []) ⟨hx, hb, hml, hown, hts⟩ (cL_at_m l hnt dC dI ca ad kf vf bf (nI n) op nx en ok tf nb ef ff fi ek ev oa oc of Lb (xs (4 * i9 + 1)) hLb _) (vx_cwSW 3 hts (xg_in (xg_c mb_methodLink_RL_68 (xg_c mb_static_yL_at (xg_c mb_initialized_RL (xg_c (wsG_t (i := 265) rfl rfl) (fun _ h => h)))))) rfl rfl rfl ⟨by decide, by decide, by decide +kernel⟩ ⟨Nat.le_of_ble_eq_true rfl, Nat.le_of_ble_eq_true rfl⟩) (xpreS (wd := xw ad ca kf vf bf (nI n) op (nI Lb) nx en ok tf nb ef ff fi ek ev ++ [(oa, .inl (oc, 1, .inr (.inl of)))]) hK1 hP1 (xf_l hD2) hS hA hE) rfl rfl hl.1 rfl (lv_room (Nat.le_of_ble_eq_true rfl)) dL_law_213 ⟨hc1, hs1⟩) hD2 hP2 hS hA (fun r u H locs hu _ hP hD hS => ?_)
  have hP : va_P (dC, dI) vwCl (xw ad ca kf vf bf (nI n) op (nI Lb) nx en ok tf nb ef ff fi ek ev ++ (xm am cm mk mv mt fr sf gi bk bv (nI n) (nI Lb) mb mn ai me th mo wr ++ [(oa, .inl (oc, 1, .inr (.inl u)))])) H := hP.sub [0, 1, 2, 3, 4, 5, 6, 7, 8, 9, 11, 12, 13, 14, 15, 16, 17, 18, 19, 10] rfl
  have hD : va_D (fun q => s.heap.size ≤ q) (xw ad ca kf vf bf (nI n) op (nI Lb) nx en ok tf nb ef ff fi ek ev ++ (xm am cm mk mv mt fr sf gi bk bv (nI n) (nI Lb) mb mn ai me th mo wr ++ [(oa, .inl (oc, 1, .inr (.inl u)))])) := hD.sub [0, 1, 2, 3, 4, 5, 6, 7, 8, 9, 11, 12, 13, 14, 15, 16, 17, 18, 19, 10] rfl rfl
  refine lv_istore hx hb dL_law_216 hl (by decide) rfl (fun ls hl => ?_)
  have hl : lv_has ls 8 [(5, .int r), (4, .int (nI (4 * i9))), (0, .ref b), (1, .ref (ad 0)), (2, .ref (am 0)), (3, .ref oa)] := hl
  refine lv_aload_n hx hb dL_law_218 rfl (lv_at hl 4 rfl) ?_
  refine lv_aload_n hx hb dL_law_219 rfl (lv_at hl 2 rfl) ?_
  refine lv_iload hx hb dL_law_220 (lv_at hl 1 rfl) ?_
  refine lv_iconst (v := nI 1) hx hb dL_law_222 (by decide) ?_
  refine lv_iadd hx hb dL_law_223 ?_
  refine lv_topi (fun z3 ez3 => ?_)
  have ez3 : z3 = nI (4 * i9 + 1) := ez3.trans (nI_add _ _)
  subst ez3
  refine va_sld hx hb hX hbl hbA hS (vp_in_nI (by omega) (by omega)) dL_law_224 ?_
  refine lv_topi (fun z4 ez4 => ?_)
  have ez4 : z4 = xs (4 * i9 + 1) := ez4.trans (congrArg xs (nI_clamp (by omega)))
  subst ez4
  have hP1 : va_P (dC, dI) vwCl (xm am cm mk mv mt fr sf gi bk bv (nI n) (nI Lb) mb mn ai me th mo wr) H := hP.sub [10, 11, 12, 13, 14, 15, 16, 17, 18] rfl
  have hP2 : va_P (dC, dI) vwCl (xw ad ca kf vf bf (nI n) op (nI Lb) nx en ok tf nb ef ff fi ek ev ++ [(oa, .inl (oc, 1, .inr (.inl u)))]) H := hP.sub [0, 1, 2, 3, 4, 5, 6, 7, 8, 9, 19] rfl
  have hD2 : va_D (fun q => s.heap.size ≤ q) (xm am cm mk mv mt fr sf gi bk bv (nI n) (nI Lb) mb mn ai me th mo wr ++ (xw ad ca kf vf bf (nI n) op (nI Lb) nx en ok tf nb ef ff fi ek ev ++ [(oa, .inl (oc, 1, .inr (.inl u)))])) := hD.sub [10, 11, 12, 13, 14, 15, 16, 17, 18, 0, 1, 2, 3, 4, 5, 6, 7, 8, 9, 19] rfl rfl
  refine xf_i (va_runV (As := [.int (xs (4 * i9 + 1))]) (rest := []) ⟨hx, hb, hml, hown, hts⟩ (cX4_at_m l dC dI cm am mk mv mt fr sf gi bk bv (nI n) mb mn ai me th mo wr Lb (xs (4 * i9 + 1)) hLb _) (cwV 1 hts (xg_V mb_methodLink_RL_71 mb_instanceMethod_yX4_at mb_selects_yX4_at mb_initialized_RX4 mb_code_yX4_at) rfl rfl rfl ⟨rfl, by decide, by decide, by decide +kernel⟩ ⟨Nat.le_of_ble_eq_true rfl, Nat.le_of_ble_eq_true rfl⟩) (xpreV (va_recv (q0 := 0) hKm hP1 rfl rfl) hKm hP1 (xf_l hD2) hS hA hE) rfl rfl hl.1 rfl (lv_room (Nat.le_of_ble_eq_true rfl)) dL_law_225 ⟨hcm, hsm⟩) hD2 hP2 hS hA (fun r2 u2 H locs hu2 _ hP hD hS => ?_)
  obtain ⟨w9, rfl⟩ : ∃ z : Int32 × Unit, u2 = z.1 := ⟨(u2, ()), rfl⟩
  have hP : va_P (dC, dI) vwCl (xw ad ca kf vf bf (nI n) op (nI Lb) nx en ok tf nb ef ff fi ek ev ++ (xm am cm mk mv mt fr sf gi bk bv (nI n) (nI Lb) mb mn ai me w9.1 mo wr ++ [(oa, .inl (oc, 1, .inr (.inl u)))])) H := hP.sub [9, 10, 11, 12, 13, 14, 15, 16, 17, 18, 0, 1, 2, 3, 4, 5, 6, 7, 8, 19] rfl
  have hD : va_D (fun q => s.heap.size ≤ q) (xw ad ca kf vf bf (nI n) op (nI Lb) nx en ok tf nb ef ff fi ek ev ++ (xm am cm mk mv mt fr sf gi bk bv (nI n) (nI Lb) mb mn ai me w9.1 mo wr ++ [(oa, .inl (oc, 1, .inr (.inl u)))])) := hD.sub [9, 10, 11, 12, 13, 14, 15, 16, 17, 18, 0, 1, 2, 3, 4, 5, 6, 7, 8, 19] rfl rfl
  obtain ⟨hth, hou⟩ := xI_at hI hu hu2
  refine lv_istore hx hb dL_law_228 hl (by decide) rfl (fun ls hl => ?_)
  have hl : lv_has ls 8 [(6, .int r2), (5, .int r), (4, .int (nI (4 * i9))), (0, .ref b), (1, .ref (ad 0)), (2, .ref (am 0)), (3, .ref oa)] := hl
  refine lv_aload_n hx hb dL_law_230 rfl (lv_at hl 5 rfl) ?_
  have hP1 : va_P (dC, dI) vwCl (xm am cm mk mv mt fr sf gi bk bv (nI n) (nI Lb) mb mn ai me w9.1 mo wr) H := hP.sub [10, 11, 12, 13, 14, 15, 16, 17, 18] rfl
  have hP2 : va_P (dC, dI) vwCl (xw ad ca kf vf bf (nI n) op (nI Lb) nx en ok tf nb ef ff fi ek ev ++ [(oa, .inl (oc, 1, .inr (.inl u)))]) H := hP.sub [0, 1, 2, 3, 4, 5, 6, 7, 8, 9, 19] rfl
  have hD2 : va_D (fun q => s.heap.size ≤ q) (xm am cm mk mv mt fr sf gi bk bv (nI n) (nI Lb) mb mn ai me w9.1 mo wr ++ (xw ad ca kf vf bf (nI n) op (nI Lb) nx en ok tf nb ef ff fi ek ev ++ [(oa, .inl (oc, 1, .inr (.inl u)))])) := hD.sub [10, 11, 12, 13, 14, 15, 16, 17, 18, 0, 1, 2, 3, 4, 5, 6, 7, 8, 9, 19] rfl rfl
  refine xf_i (va_runV (As := []) (rest := []) ⟨hx, hb, hml, hown, hts⟩ (cX4_thrown_m l dC dI cm am mk mv mt fr sf gi bk bv (nI n) (nI Lb) mb mn ai me w9.1 mo wr  _) (cwV 0 hts (xg_V mb_methodLink_RL_61 mb_instanceMethod_yX4_thrown mb_selects_yX4_thrown mb_initialized_RX4 mb_code_yX4_thrown) rfl rfl rfl ⟨rfl, by decide, by decide, by decide +kernel⟩ ⟨Nat.le_of_ble_eq_true rfl, Nat.le_of_ble_eq_true rfl⟩) (xpreV (va_recv (q0 := 0) hKm hP1 rfl rfl) hKm hP1 (xf_l hD2) hS hA hE) rfl rfl hl.1 rfl (lv_room (Nat.le_of_ble_eq_true rfl)) dL_law_231 ⟨hcm, hsm⟩) hD2 hP2 hS hA (fun r3 u3 H locs hu3 _ hP hD hS => ?_)
  subst hu3
  have hP : va_P (dC, dI) vwCl (xw ad ca kf vf bf (nI n) op (nI Lb) nx en ok tf nb ef ff fi ek ev ++ (xm am cm mk mv mt fr sf gi bk bv (nI n) (nI Lb) mb mn ai me w9.1 mo wr ++ [(oa, .inl (oc, 1, .inr (.inl u)))])) H := hP.sub [9, 10, 11, 12, 13, 14, 15, 16, 17, 18, 0, 1, 2, 3, 4, 5, 6, 7, 8, 19] rfl
  have hD : va_D (fun q => s.heap.size ≤ q) (xw ad ca kf vf bf (nI n) op (nI Lb) nx en ok tf nb ef ff fi ek ev ++ (xm am cm mk mv mt fr sf gi bk bv (nI n) (nI Lb) mb mn ai me w9.1 mo wr ++ [(oa, .inl (oc, 1, .inr (.inl u)))])) := hD.sub [9, 10, 11, 12, 13, 14, 15, 16, 17, 18, 0, 1, 2, 3, 4, 5, 6, 7, 8, 19] rfl rfl
  refine lv_iload hx hb dL_law_234 (lv_at hl 1 rfl) ?_
  refine lv_icmp_eq (tgt := 241) hx hb dL_law_236 rfl (fun hq => ?_) (fun hq => absurd hq (not_not_intro (hth)))
  refine lv_iload hx hb dL_law_241 (lv_at hl 1 rfl) ?_
  refine lv_if_ne (tgt := 258) hx hb dL_law_243 rfl (fun hnz => ?_) (fun hz => ?_)
  · refine lv_goto (tgt := 601) hx hb dL_law_258 rfl ?_
    exact kk H locs ls ⟨kf, vf, bf, nI n, op, nI Lb, nx, en, ok, tf, nb, ef, ff, fi, ek, ev, mk, mv, mt, fr, sf, gi, bk, bv, nI n, nI Lb, mb, mn, ai, me, w9.1, mo, wr, u, n, Lb, lr, hI, hP, hD⟩ hS (lv_sub hl [2, 3, 4, 5, 6] rfl)
  · have ho0 := hou hz
    refine lv_aload_n hx hb dL_law_246 rfl (lv_at hl 6 rfl) ?_
    refine lv_iconst (v := nI 0) hx hb dL_law_247 (by decide) ?_
    refine va_lald hx hb hKo hP 19 0 rfl rfl (vp_in_nI (by decide) (by decide)) dL_law_248 ?_
    refine lv_topl (fun z5 ez5 => ?_)
    have ez5 : z5 = u 0 := ez5.trans (congrArg u (nI_clamp (by decide)))
    subst ez5
    refine lv_iload hx hb dL_law_249 (lv_at hl 0 rfl) ?_
    refine lv_i2l (v := r2.toInt64) hx hb dL_law_251 (rfl) ?_
    refine W.lcmp hx hb dL_law_252 ?_
    refine lv_if_eq (tgt := 258) hx hb dL_law_253 rfl (fun hq => ?_) (fun hq => absurd hq (not_not_intro (lc_eq.mpr ho0)))
    refine lv_goto (tgt := 601) hx hb dL_law_258 rfl ?_
    exact kk H locs ls ⟨kf, vf, bf, nI n, op, nI Lb, nx, en, ok, tf, nb, ef, ff, fi, ek, ev, mk, mv, mt, fr, sf, gi, bk, bv, nI n, nI Lb, mb, mn, ai, me, w9.1, mo, wr, u, n, Lb, lr, hI, hP, hD⟩ hS (lv_sub hl [2, 3, 4, 5, 6] rfl)

set_option maxHeartbeats 4000000 in
set_option maxRecDepth 100000 in
theorem cs_damage {p : Program} {l : Launch} {e : Env} {s : State} {m : MethodId} {below : List Frame} {meth : Method} {c : Code} {Q : State → Prop} {dC : Nat → ClassId} {dI : Nat → Nat → Nat} {ca cm : Nat → ClassId} {ad am : Nat → Nat} {oa : Nat} {oc : ClassId} {b Ls : Nat} {xs : Nat → Int32} (hx : p.tables.exec = Jvm.exec) (hb : c.code = code) (hml : c.maxLocals = 8) (hown : s.vm.findClass RL = some m.cls) (hts : ∀ w ∈ wsL0, w.before #[.ref b] s = true) (hX : va_X b Ls xs s s.heap) (hbl : b < s.heap.size) (hE : xn_E (fun q => s.heap.size ≤ q) s) (hnt : l.stackTraces = false) (hKx : va_K (dC, dI) vwCl (xt ca) s) (hKm : va_K (dC, dI) vwCl (xt cm) s) (hKo : va_K (dC, dI) vwCl [(oc, .long)] s) {kf : Nat → Int32} {vf : Nat → Int64} {bf : Nat → Int32} {w : Int32} {op : Int32} {ln : Int32} {nx : Int32} {en : Int32} {ok : Int32} {tf : Nat → Int32} {nb : Int32} {ef : Nat → Int32} {ff : Nat → Int32} {fi : Int32} {ek : Int32} {ev : Int64} {mk : Nat → Int32} {mv : Nat → Int64} {mt : Nat → Int32} {fr : Nat → Int32} {sf : Nat → Int32} {gi : Nat → Int32} {bk : Nat → Int32} {bv : Nat → Int64} {mq : Int32} {ny : Int32} {mb : Int32} {mn : Int32} {ai : Int32} {me : Int32} {th : Int32} {mo : Int32} {wr : Int32} {of : Nat → Int64} {n Lb : Nat} {lr : List (Nat × Nat)} {i9 cells slots : Nat} {H : Heap} {locs : List Loc} {ls : Array Slot} (hI : xI kf vf w op ln tf nb ef ff mk mv mt fr sf gi mq ny mb mo n Lb lr) (hi : 4 * i9 + 3 < Ls) (hLs : Ls ≤ 2048) (hc1 : cells + 1 ≤ room_1.cells) (hs1 : slots + 6 ≤ room_1.slots) (hP : va_P (dC, dI) vwCl (xw ad ca kf vf bf w op ln nx en ok tf nb ef ff fi ek ev ++ (xm am cm mk mv mt fr sf gi bk bv mq ny mb mn ai me th mo wr ++ [(oa, .inl (oc, 1, .inr (.inl of)))])) H) (hD : va_D (fun q => s.heap.size ≤ q) (xw ad ca kf vf bf w op ln nx en ok tf nb ef ff fi ek ev ++ (xm am cm mk mv mt fr sf gi bk bv mq ny mb mn ai me th mo wr ++ [(oa, .inl (oc, 1, .inr (.inl of)))]))) (hS : va_S (fun q => s.heap.size ≤ q) s.heap H locs) (hl : lv_has ls 8 [(4, .int (nI (4 * i9))), (0, .ref b), (1, .ref (ad 0)), (2, .ref (am 0)), (3, .ref oa)]) (kk : (∀ (H : Heap) (locs : List Loc) (ls : Array Slot), xST (dC, dI) (fun q => s.heap.size ≤ q) ad ca am cm oa oc H → va_S (fun q => s.heap.size ≤ q) s.heap H locs → lv_has ls 8 [(4, .int (nI (4 * i9))), (0, .ref b), (1, .ref (ad 0)), (2, .ref (am 0)), (3, .ref oa)] → W p l e room_1 s m #[.ref b] below meth c H locs (cells + 1) (slots + 6) Q (F0 m 601 ls []))) : W p l e room_1 s m #[.ref b] below meth c H locs cells slots Q (F0 m 261 ls []) := by
  have hA : ∀ q : Nat, s.heap.size ≤ q → (fun q => s.heap.size ≤ q) q := fun q h => h
  have hbA : ¬ (fun q => s.heap.size ≤ q) b := Nat.not_le.mpr hbl
  obtain ⟨hI1, hI2, hI3⟩ := hI
  have hI := And.intro hI1 (And.intro hI2 hI3)
  have hI : xI kf vf w op ln tf nb ef ff mk mv mt fr sf gi mq ny mb mo n Lb lr := hI
  obtain ⟨hn, rfl, rfl, hup, -, -⟩ := hI1
  obtain ⟨hLb, rfl, rfl, -, hfit⟩ := hI2
  obtain ⟨ho1, ho2, -, ho4⟩ := xI_open hI
  have hcm : cells + 1 + 0 ≤ room_1.cells := hc1
  have hsm : slots + 6 + 0 ≤ room_1.slots := hs1
  refine lv_aload_n hx hb dL_law_261 rfl (lv_at hl 2 rfl) ?_
  refine lv_aload_n hx hb dL_law_262 rfl (lv_at hl 1 rfl) ?_
  refine lv_iload hx hb dL_law_263 (lv_at hl 0 rfl) ?_
  refine lv_iconst (v := nI 1) hx hb dL_law_265 (by decide) ?_
  refine lv_iadd hx hb dL_law_266 ?_
  refine lv_topi (fun z1 ez1 => ?_)
  have ez1 : z1 = nI (4 * i9 + 1) := ez1.trans (nI_add _ _)
  subst ez1
  refine va_sld hx hb hX hbl hbA hS (vp_in_nI (by omega) (by omega)) dL_law_267 ?_
  refine lv_topi (fun z2 ez2 => ?_)
  have ez2 : z2 = xs (4 * i9 + 1) := ez2.trans (congrArg xs (nI_clamp (by omega)))
  subst ez2
  refine lv_aload_n hx hb dL_law_268 rfl (lv_at hl 1 rfl) ?_
  refine lv_iload hx hb dL_law_269 (lv_at hl 0 rfl) ?_
  refine lv_iconst (v := nI 2) hx hb dL_law_271 (by decide) ?_
  refine lv_iadd hx hb dL_law_272 ?_
  refine lv_topi (fun z3 ez3 => ?_)
  have ez3 : z3 = nI (4 * i9 + 2) := ez3.trans (nI_add _ _)
  subst ez3
  refine va_sld hx hb hX hbl hbA hS (vp_in_nI (by omega) (by omega)) dL_law_273 ?_
  refine lv_topi (fun z4 ez4 => ?_)
  have ez4 : z4 = xs (4 * i9 + 2) := ez4.trans (congrArg xs (nI_clamp (by omega)))
  subst ez4
  refine lv_aload_n hx hb dL_law_274 rfl (lv_at hl 4 rfl) ?_
  have hP1 : va_P (dC, dI) vwCl (xw ad ca kf vf bf (nI n) op (nI Lb) nx en ok tf nb ef ff fi ek ev ++ [(oa, .inl (oc, 1, .inr (.inl of)))]) H := hP.sub [0, 1, 2, 3, 4, 5, 6, 7, 8, 9, 19] rfl
  have hP2 : va_P (dC, dI) vwCl (xm am cm mk mv mt fr sf gi bk bv (nI n) (nI Lb) mb mn ai me th mo wr) H := hP.sub [10, 11, 12, 13, 14, 15, 16, 17, 18] rfl
  have hD2 : va_D (fun q => s.heap.size ≤ q) ((xw ad ca kf vf bf (nI n) op (nI Lb) nx en ok tf nb ef ff fi ek ev ++ [(oa, .inl (oc, 1, .inr (.inl of)))]) ++ xm am cm mk mv mt fr sf gi bk bv (nI n) (nI Lb) mb mn ai me th mo wr) := hD.sub [0, 1, 2, 3, 4, 5, 6, 7, 8, 9, 19, 10, 11, 12, 13, 14, 15, 16, 17, 18] rfl rfl
  have hK1 := va_K.app hKx hKo
  refine xf_i (vx_runSW (As := [.ref (ad 0), .int (xs (4 * i9 + 1)), .int (xs (4 * i9 + 2)), .ref oa]) (rest := []) ⟨hx, hb, hml, hown, hts⟩ (cL_damage_m l hnt dC dI ca ad kf vf bf (nI n) op nx en ok tf nb ef ff fi ek ev oa oc of Lb (xs (4 * i9 + 1)) (xs (4 * i9 + 2)) hLb _) (vx_cwSW 4 hts (xg_in (xg_c mb_methodLink_RL_72 (xg_c mb_static_yL_damage (xg_c mb_initialized_RL (xg_c (wsG_t (i := 294) rfl rfl) (fun _ h => h)))))) rfl rfl rfl ⟨by decide, by decide, by decide +kernel⟩ ⟨Nat.le_of_ble_eq_true rfl, Nat.le_of_ble_eq_true rfl⟩) (xpreS (wd := xw ad ca kf vf bf (nI n) op (nI Lb) nx en ok tf nb ef ff fi ek ev ++ [(oa, .inl (oc, 1, .inr (.inl of)))]) hK1 hP1 (xf_l hD2) hS hA hE) rfl rfl hl.1 rfl (lv_room (Nat.le_of_ble_eq_true rfl)) dL_law_275 ⟨hc1, hs1⟩) hD2 hP2 hS hA (fun r u H locs hu _ hP hD hS => ?_)
  have hP : va_P (dC, dI) vwCl (xw ad ca kf vf bf (nI n) u.1 (nI Lb) nx en ok u.2.1 nb ef ff fi ek ev ++ (xm am cm mk mv mt fr sf gi bk bv (nI n) (nI Lb) mb mn ai me th mo wr ++ [(oa, .inl (oc, 1, .inr (.inl u.2.2)))])) H := hP.sub [0, 1, 2, 3, 4, 5, 6, 7, 8, 9, 11, 12, 13, 14, 15, 16, 17, 18, 19, 10] rfl
  have hD : va_D (fun q => s.heap.size ≤ q) (xw ad ca kf vf bf (nI n) u.1 (nI Lb) nx en ok u.2.1 nb ef ff fi ek ev ++ (xm am cm mk mv mt fr sf gi bk bv (nI n) (nI Lb) mb mn ai me th mo wr ++ [(oa, .inl (oc, 1, .inr (.inl u.2.2)))])) := hD.sub [0, 1, 2, 3, 4, 5, 6, 7, 8, 9, 11, 12, 13, 14, 15, 16, 17, 18, 19, 10] rfl rfl
  refine lv_istore hx hb dL_law_278 hl (by decide) rfl (fun ls hl => ?_)
  have hl : lv_has ls 8 [(5, .int r), (4, .int (nI (4 * i9))), (0, .ref b), (1, .ref (ad 0)), (2, .ref (am 0)), (3, .ref oa)] := hl
  refine lv_aload_n hx hb dL_law_280 rfl (lv_at hl 4 rfl) ?_
  refine lv_aload_n hx hb dL_law_281 rfl (lv_at hl 2 rfl) ?_
  refine lv_iload hx hb dL_law_282 (lv_at hl 1 rfl) ?_
  refine lv_iconst (v := nI 1) hx hb dL_law_284 (by decide) ?_
  refine lv_iadd hx hb dL_law_285 ?_
  refine lv_topi (fun z5 ez5 => ?_)
  have ez5 : z5 = nI (4 * i9 + 1) := ez5.trans (nI_add _ _)
  subst ez5
  refine va_sld hx hb hX hbl hbA hS (vp_in_nI (by omega) (by omega)) dL_law_286 ?_
  refine lv_topi (fun z6 ez6 => ?_)
  have ez6 : z6 = xs (4 * i9 + 1) := ez6.trans (congrArg xs (nI_clamp (by omega)))
  subst ez6
  refine lv_aload_n hx hb dL_law_287 rfl (lv_at hl 2 rfl) ?_
  refine lv_iload hx hb dL_law_288 (lv_at hl 1 rfl) ?_
  refine lv_iconst (v := nI 2) hx hb dL_law_290 (by decide) ?_
  refine lv_iadd hx hb dL_law_291 ?_
  refine lv_topi (fun z7 ez7 => ?_)
  have ez7 : z7 = nI (4 * i9 + 2) := ez7.trans (nI_add _ _)
  subst ez7
  refine va_sld hx hb hX hbl hbA hS (vp_in_nI (by omega) (by omega)) dL_law_292 ?_
  refine lv_topi (fun z8 ez8 => ?_)
  have ez8 : z8 = xs (4 * i9 + 2) := ez8.trans (congrArg xs (nI_clamp (by omega)))
  subst ez8
  have hP1 : va_P (dC, dI) vwCl (xm am cm mk mv mt fr sf gi bk bv (nI n) (nI Lb) mb mn ai me th mo wr) H := hP.sub [10, 11, 12, 13, 14, 15, 16, 17, 18] rfl
  have hP2 : va_P (dC, dI) vwCl (xw ad ca kf vf bf (nI n) u.1 (nI Lb) nx en ok u.2.1 nb ef ff fi ek ev ++ [(oa, .inl (oc, 1, .inr (.inl u.2.2)))]) H := hP.sub [0, 1, 2, 3, 4, 5, 6, 7, 8, 9, 19] rfl
  have hD2 : va_D (fun q => s.heap.size ≤ q) (xm am cm mk mv mt fr sf gi bk bv (nI n) (nI Lb) mb mn ai me th mo wr ++ (xw ad ca kf vf bf (nI n) u.1 (nI Lb) nx en ok u.2.1 nb ef ff fi ek ev ++ [(oa, .inl (oc, 1, .inr (.inl u.2.2)))])) := hD.sub [10, 11, 12, 13, 14, 15, 16, 17, 18, 0, 1, 2, 3, 4, 5, 6, 7, 8, 9, 19] rfl rfl
  refine xf_i (va_runV (As := [.int (xs (4 * i9 + 1)), .int (xs (4 * i9 + 2))]) (rest := []) ⟨hx, hb, hml, hown, hts⟩ (cX4_damage_m l dC dI cm am mk mv mt fr sf gi bk bv (nI n) mb mn ai me th mo wr Lb (xs (4 * i9 + 1)) (xs (4 * i9 + 2)) hLb _) (cwV 2 hts (xg_V mb_methodLink_RL_75 mb_instanceMethod_yX4_damage mb_selects_yX4_damage mb_initialized_RX4 mb_code_yX4_damage) rfl rfl rfl ⟨rfl, by decide, by decide, by decide +kernel⟩ ⟨Nat.le_of_ble_eq_true rfl, Nat.le_of_ble_eq_true rfl⟩) (xpreV (va_recv (q0 := 0) hKm hP1 rfl rfl) hKm hP1 (xf_l hD2) hS hA hE) rfl rfl hl.1 rfl (lv_room (Nat.le_of_ble_eq_true rfl)) dL_law_293 ⟨hcm, hsm⟩) hD2 hP2 hS hA (fun r2 u2 H locs hu2 _ hP hD hS => ?_)
  have hP : va_P (dC, dI) vwCl (xw ad ca kf vf bf (nI n) u.1 (nI Lb) nx en ok u.2.1 nb ef ff fi ek ev ++ (xm am cm mk mv u2.2.2 fr sf gi bk bv (nI n) (nI Lb) mb mn ai me u2.1 u2.2.1 wr ++ [(oa, .inl (oc, 1, .inr (.inl u.2.2)))])) H := hP.sub [9, 10, 11, 12, 13, 14, 15, 16, 17, 18, 0, 1, 2, 3, 4, 5, 6, 7, 8, 19] rfl
  have hD : va_D (fun q => s.heap.size ≤ q) (xw ad ca kf vf bf (nI n) u.1 (nI Lb) nx en ok u.2.1 nb ef ff fi ek ev ++ (xm am cm mk mv u2.2.2 fr sf gi bk bv (nI n) (nI Lb) mb mn ai me u2.1 u2.2.1 wr ++ [(oa, .inl (oc, 1, .inr (.inl u.2.2)))])) := hD.sub [9, 10, 11, 12, 13, 14, 15, 16, 17, 18, 0, 1, 2, 3, 4, 5, 6, 7, 8, 19] rfl rfl
  obtain ⟨hth, hou, hI9⟩ := xI_damage hI hu hu2
  refine lv_istore hx hb dL_law_296 hl (by decide) rfl (fun ls hl => ?_)
  have hl : lv_has ls 8 [(6, .int r2), (5, .int r), (4, .int (nI (4 * i9))), (0, .ref b), (1, .ref (ad 0)), (2, .ref (am 0)), (3, .ref oa)] := hl
  refine lv_aload_n hx hb dL_law_298 rfl (lv_at hl 5 rfl) ?_
  have hP1 : va_P (dC, dI) vwCl (xm am cm mk mv u2.2.2 fr sf gi bk bv (nI n) (nI Lb) mb mn ai me u2.1 u2.2.1 wr) H := hP.sub [10, 11, 12, 13, 14, 15, 16, 17, 18] rfl
  have hP2 : va_P (dC, dI) vwCl (xw ad ca kf vf bf (nI n) u.1 (nI Lb) nx en ok u.2.1 nb ef ff fi ek ev ++ [(oa, .inl (oc, 1, .inr (.inl u.2.2)))]) H := hP.sub [0, 1, 2, 3, 4, 5, 6, 7, 8, 9, 19] rfl
  have hD2 : va_D (fun q => s.heap.size ≤ q) (xm am cm mk mv u2.2.2 fr sf gi bk bv (nI n) (nI Lb) mb mn ai me u2.1 u2.2.1 wr ++ (xw ad ca kf vf bf (nI n) u.1 (nI Lb) nx en ok u.2.1 nb ef ff fi ek ev ++ [(oa, .inl (oc, 1, .inr (.inl u.2.2)))])) := hD.sub [10, 11, 12, 13, 14, 15, 16, 17, 18, 0, 1, 2, 3, 4, 5, 6, 7, 8, 9, 19] rfl rfl
  refine xf_i (va_runV (As := []) (rest := []) ⟨hx, hb, hml, hown, hts⟩ (cX4_thrown_m l dC dI cm am mk mv u2.2.2 fr sf gi bk bv (nI n) (nI Lb) mb mn ai me u2.1 u2.2.1 wr  _) (cwV 0 hts (xg_V mb_methodLink_RL_61 mb_instanceMethod_yX4_thrown mb_selects_yX4_thrown mb_initialized_RX4 mb_code_yX4_thrown) rfl rfl rfl ⟨rfl, by decide, by decide, by decide +kernel⟩ ⟨Nat.le_of_ble_eq_true rfl, Nat.le_of_ble_eq_true rfl⟩) (xpreV (va_recv (q0 := 0) hKm hP1 rfl rfl) hKm hP1 (xf_l hD2) hS hA hE) rfl rfl hl.1 rfl (lv_room (Nat.le_of_ble_eq_true rfl)) dL_law_299 ⟨hcm, hsm⟩) hD2 hP2 hS hA (fun r3 u3 H locs hu3 _ hP hD hS => ?_)
  subst hu3
  have hP : va_P (dC, dI) vwCl (xw ad ca kf vf bf (nI n) u.1 (nI Lb) nx en ok u.2.1 nb ef ff fi ek ev ++ (xm am cm mk mv u2.2.2 fr sf gi bk bv (nI n) (nI Lb) mb mn ai me u2.1 u2.2.1 wr ++ [(oa, .inl (oc, 1, .inr (.inl u.2.2)))])) H := hP.sub [9, 10, 11, 12, 13, 14, 15, 16, 17, 18, 0, 1, 2, 3, 4, 5, 6, 7, 8, 19] rfl
  have hD : va_D (fun q => s.heap.size ≤ q) (xw ad ca kf vf bf (nI n) u.1 (nI Lb) nx en ok u.2.1 nb ef ff fi ek ev ++ (xm am cm mk mv u2.2.2 fr sf gi bk bv (nI n) (nI Lb) mb mn ai me u2.1 u2.2.1 wr ++ [(oa, .inl (oc, 1, .inr (.inl u.2.2)))])) := hD.sub [9, 10, 11, 12, 13, 14, 15, 16, 17, 18, 0, 1, 2, 3, 4, 5, 6, 7, 8, 19] rfl rfl
  refine lv_iload hx hb dL_law_302 (lv_at hl 1 rfl) ?_
  refine lv_icmp_eq (tgt := 309) hx hb dL_law_304 rfl (fun hq => ?_) (fun hq => absurd hq (not_not_intro (hth)))
  refine lv_iload hx hb dL_law_309 (lv_at hl 1 rfl) ?_
  refine lv_if_ne (tgt := 326) hx hb dL_law_311 rfl (fun hnz => ?_) (fun hz => ?_)
  · refine lv_goto (tgt := 601) hx hb dL_law_326 rfl ?_
    exact kk H locs ls ⟨kf, vf, bf, nI n, u.1, nI Lb, nx, en, ok, u.2.1, nb, ef, ff, fi, ek, ev, mk, mv, u2.2.2, fr, sf, gi, bk, bv, nI n, nI Lb, mb, mn, ai, me, u2.1, u2.2.1, wr, u.2.2, n, Lb, lr, hI9, hP, hD⟩ hS (lv_sub hl [2, 3, 4, 5, 6] rfl)
  · have ho0 := hou hz
    refine lv_aload_n hx hb dL_law_314 rfl (lv_at hl 6 rfl) ?_
    refine lv_iconst (v := nI 0) hx hb dL_law_315 (by decide) ?_
    refine va_lald hx hb hKo hP 19 0 rfl rfl (vp_in_nI (by decide) (by decide)) dL_law_316 ?_
    refine lv_topl (fun z9 ez9 => ?_)
    have ez9 : z9 = u.2.2 0 := ez9.trans (congrArg u.2.2 (nI_clamp (by decide)))
    subst ez9
    refine lv_iload hx hb dL_law_317 (lv_at hl 0 rfl) ?_
    refine lv_i2l (v := r2.toInt64) hx hb dL_law_319 (rfl) ?_
    refine W.lcmp hx hb dL_law_320 ?_
    refine lv_if_eq (tgt := 326) hx hb dL_law_321 rfl (fun hq => ?_) (fun hq => absurd hq (not_not_intro (lc_eq.mpr ho0)))
    refine lv_goto (tgt := 601) hx hb dL_law_326 rfl ?_
    exact kk H locs ls ⟨kf, vf, bf, nI n, u.1, nI Lb, nx, en, ok, u.2.1, nb, ef, ff, fi, ek, ev, mk, mv, u2.2.2, fr, sf, gi, bk, bv, nI n, nI Lb, mb, mn, ai, me, u2.1, u2.2.1, wr, u.2.2, n, Lb, lr, hI9, hP, hD⟩ hS (lv_sub hl [2, 3, 4, 5, 6] rfl)

set_option maxHeartbeats 4000000 in
set_option maxRecDepth 100000 in
theorem cs_cut {p : Program} {l : Launch} {e : Env} {s : State} {m : MethodId} {below : List Frame} {meth : Method} {c : Code} {Q : State → Prop} {dC : Nat → ClassId} {dI : Nat → Nat → Nat} {ca cm : Nat → ClassId} {ad am : Nat → Nat} {oa : Nat} {oc : ClassId} {b Ls : Nat} {xs : Nat → Int32} (hx : p.tables.exec = Jvm.exec) (hb : c.code = code) (hml : c.maxLocals = 8) (hown : s.vm.findClass RL = some m.cls) (hts : ∀ w ∈ wsL0, w.before #[.ref b] s = true) (hX : va_X b Ls xs s s.heap) (hbl : b < s.heap.size) (hE : xn_E (fun q => s.heap.size ≤ q) s) (hnt : l.stackTraces = false) (hKx : va_K (dC, dI) vwCl (xt ca) s) (hKm : va_K (dC, dI) vwCl (xt cm) s) (hKo : va_K (dC, dI) vwCl [(oc, .long)] s) {kf : Nat → Int32} {vf : Nat → Int64} {bf : Nat → Int32} {w : Int32} {op : Int32} {ln : Int32} {nx : Int32} {en : Int32} {ok : Int32} {tf : Nat → Int32} {nb : Int32} {ef : Nat → Int32} {ff : Nat → Int32} {fi : Int32} {ek : Int32} {ev : Int64} {mk : Nat → Int32} {mv : Nat → Int64} {mt : Nat → Int32} {fr : Nat → Int32} {sf : Nat → Int32} {gi : Nat → Int32} {bk : Nat → Int32} {bv : Nat → Int64} {mq : Int32} {ny : Int32} {mb : Int32} {mn : Int32} {ai : Int32} {me : Int32} {th : Int32} {mo : Int32} {wr : Int32} {of : Nat → Int64} {n Lb : Nat} {lr : List (Nat × Nat)} {i9 cells slots : Nat} {H : Heap} {locs : List Loc} {ls : Array Slot} (hI : xI kf vf w op ln tf nb ef ff mk mv mt fr sf gi mq ny mb mo n Lb lr) (hi : 4 * i9 + 3 < Ls) (hLs : Ls ≤ 2048) (hc1 : cells + 1 ≤ room_1.cells) (hs1 : slots + 6 ≤ room_1.slots) (hP : va_P (dC, dI) vwCl (xw ad ca kf vf bf w op ln nx en ok tf nb ef ff fi ek ev ++ (xm am cm mk mv mt fr sf gi bk bv mq ny mb mn ai me th mo wr ++ [(oa, .inl (oc, 1, .inr (.inl of)))])) H) (hD : va_D (fun q => s.heap.size ≤ q) (xw ad ca kf vf bf w op ln nx en ok tf nb ef ff fi ek ev ++ (xm am cm mk mv mt fr sf gi bk bv mq ny mb mn ai me th mo wr ++ [(oa, .inl (oc, 1, .inr (.inl of)))]))) (hS : va_S (fun q => s.heap.size ≤ q) s.heap H locs) (hl : lv_has ls 8 [(4, .int (nI (4 * i9))), (0, .ref b), (1, .ref (ad 0)), (2, .ref (am 0)), (3, .ref oa)]) (kk : (∀ (H : Heap) (locs : List Loc) (ls : Array Slot), xST (dC, dI) (fun q => s.heap.size ≤ q) ad ca am cm oa oc H → va_S (fun q => s.heap.size ≤ q) s.heap H locs → lv_has ls 8 [(4, .int (nI (4 * i9))), (0, .ref b), (1, .ref (ad 0)), (2, .ref (am 0)), (3, .ref oa)] → W p l e room_1 s m #[.ref b] below meth c H locs (cells + 1) (slots + 6) Q (F0 m 601 ls []))) : W p l e room_1 s m #[.ref b] below meth c H locs cells slots Q (F0 m 329 ls []) := by
  have hA : ∀ q : Nat, s.heap.size ≤ q → (fun q => s.heap.size ≤ q) q := fun q h => h
  have hbA : ¬ (fun q => s.heap.size ≤ q) b := Nat.not_le.mpr hbl
  obtain ⟨hI1, hI2, hI3⟩ := hI
  have hI := And.intro hI1 (And.intro hI2 hI3)
  have hI : xI kf vf w op ln tf nb ef ff mk mv mt fr sf gi mq ny mb mo n Lb lr := hI
  obtain ⟨hn, rfl, rfl, hup, -, -⟩ := hI1
  obtain ⟨hLb, rfl, rfl, -, hfit⟩ := hI2
  obtain ⟨ho1, ho2, -, ho4⟩ := xI_open hI
  have hcm : cells + 1 + 0 ≤ room_1.cells := hc1
  have hsm : slots + 6 + 0 ≤ room_1.slots := hs1
  refine lv_aload_n hx hb dL_law_329 rfl (lv_at hl 2 rfl) ?_
  refine lv_aload_n hx hb dL_law_330 rfl (lv_at hl 1 rfl) ?_
  refine lv_iload hx hb dL_law_331 (lv_at hl 0 rfl) ?_
  refine lv_iconst (v := nI 1) hx hb dL_law_333 (by decide) ?_
  refine lv_iadd hx hb dL_law_334 ?_
  refine lv_topi (fun z1 ez1 => ?_)
  have ez1 : z1 = nI (4 * i9 + 1) := ez1.trans (nI_add _ _)
  subst ez1
  refine va_sld hx hb hX hbl hbA hS (vp_in_nI (by omega) (by omega)) dL_law_335 ?_
  refine lv_topi (fun z2 ez2 => ?_)
  have ez2 : z2 = xs (4 * i9 + 1) := ez2.trans (congrArg xs (nI_clamp (by omega)))
  subst ez2
  have hP1 := xf_pl hP
  have hP2 := xf_pr hP
  have hD2 := hD
  have hK1 := hKx
  refine xf_i (vx_runSW (As := [.ref (ad 0), .int (xs (4 * i9 + 1))]) (rest := []) ⟨hx, hb, hml, hown, hts⟩ (cL_cut_m l hnt dC dI ca ad kf vf bf (nI n) op nx en ok tf nb ef ff fi ek ev Lb (xs (4 * i9 + 1)) hLb _) (vx_cwSW 2 hts (xg_in (xg_c mb_methodLink_RL_76 (xg_c mb_static_yL_cut (xg_c mb_initialized_RL (xg_c (wsG_t (i := 301) rfl rfl) (fun _ h => h)))))) rfl rfl rfl ⟨by decide, by decide, by decide +kernel⟩ ⟨Nat.le_of_ble_eq_true rfl, Nat.le_of_ble_eq_true rfl⟩) (xpreS (wd := xw ad ca kf vf bf (nI n) op (nI Lb) nx en ok tf nb ef ff fi ek ev) hK1 hP1 (xf_l hD2) hS hA hE) rfl rfl hl.1 rfl (lv_room (Nat.le_of_ble_eq_true rfl)) dL_law_336 ⟨hc1, hs1⟩) hD2 hP2 hS hA (fun r u H locs hu _ hP hD hS => ?_)
  have hP : va_P (dC, dI) vwCl (xw ad ca kf vf bf (nI n) u.2 u.1 nx en ok tf nb ef ff fi ek ev ++ (xm am cm mk mv mt fr sf gi bk bv (nI n) (nI Lb) mb mn ai me th mo wr ++ [(oa, .inl (oc, 1, .inr (.inl of)))])) H := hP
  have hD : va_D (fun q => s.heap.size ≤ q) (xw ad ca kf vf bf (nI n) u.2 u.1 nx en ok tf nb ef ff fi ek ev ++ (xm am cm mk mv mt fr sf gi bk bv (nI n) (nI Lb) mb mn ai me th mo wr ++ [(oa, .inl (oc, 1, .inr (.inl of)))])) := hD
  refine lv_istore hx hb dL_law_339 hl (by decide) rfl (fun ls hl => ?_)
  have hl : lv_has ls 8 [(5, .int r), (4, .int (nI (4 * i9))), (0, .ref b), (1, .ref (ad 0)), (2, .ref (am 0)), (3, .ref oa)] := hl
  refine lv_aload_n hx hb dL_law_341 rfl (lv_at hl 4 rfl) ?_
  refine lv_aload_n hx hb dL_law_342 rfl (lv_at hl 2 rfl) ?_
  refine lv_iload hx hb dL_law_343 (lv_at hl 1 rfl) ?_
  refine lv_iconst (v := nI 1) hx hb dL_law_345 (by decide) ?_
  refine lv_iadd hx hb dL_law_346 ?_
  refine lv_topi (fun z3 ez3 => ?_)
  have ez3 : z3 = nI (4 * i9 + 1) := ez3.trans (nI_add _ _)
  subst ez3
  refine va_sld hx hb hX hbl hbA hS (vp_in_nI (by omega) (by omega)) dL_law_347 ?_
  refine lv_topi (fun z4 ez4 => ?_)
  have ez4 : z4 = xs (4 * i9 + 1) := ez4.trans (congrArg xs (nI_clamp (by omega)))
  subst ez4
  have hP1 : va_P (dC, dI) vwCl (xm am cm mk mv mt fr sf gi bk bv (nI n) (nI Lb) mb mn ai me th mo wr) H := hP.sub [10, 11, 12, 13, 14, 15, 16, 17, 18] rfl
  have hP2 : va_P (dC, dI) vwCl (xw ad ca kf vf bf (nI n) u.2 u.1 nx en ok tf nb ef ff fi ek ev ++ [(oa, .inl (oc, 1, .inr (.inl of)))]) H := hP.sub [0, 1, 2, 3, 4, 5, 6, 7, 8, 9, 19] rfl
  have hD2 : va_D (fun q => s.heap.size ≤ q) (xm am cm mk mv mt fr sf gi bk bv (nI n) (nI Lb) mb mn ai me th mo wr ++ (xw ad ca kf vf bf (nI n) u.2 u.1 nx en ok tf nb ef ff fi ek ev ++ [(oa, .inl (oc, 1, .inr (.inl of)))])) := hD.sub [10, 11, 12, 13, 14, 15, 16, 17, 18, 0, 1, 2, 3, 4, 5, 6, 7, 8, 9, 19] rfl rfl
  refine xf_v (va_runV (As := [.int (xs (4 * i9 + 1))]) (rest := []) ⟨hx, hb, hml, hown, hts⟩ (cX4_cut_m l dC dI cm am mk mv mt fr sf gi bk bv (nI n) mb mn ai me th mo wr Lb (xs (4 * i9 + 1)) hLb _) (cwV 1 hts (xg_V mb_methodLink_RL_79 mb_instanceMethod_yX4_cut mb_selects_yX4_cut mb_initialized_RX4 mb_code_yX4_cut) rfl rfl rfl ⟨rfl, by decide, by decide, by decide +kernel⟩ ⟨Nat.le_of_ble_eq_true rfl, Nat.le_of_ble_eq_true rfl⟩) (xpreV (va_recv (q0 := 0) hKm hP1 rfl rfl) hKm hP1 (xf_l hD2) hS hA hE) rfl rfl hl.1 rfl (lv_room (Nat.le_of_ble_eq_true rfl)) dL_law_348 ⟨hcm, hsm⟩) hD2 hP2 hS hA (fun u2 H locs hu2 _ hP hD hS => ?_)
  have hP : va_P (dC, dI) vwCl (xw ad ca kf vf bf (nI n) u.2 u.1 nx en ok tf nb ef ff fi ek ev ++ (xm am cm mk mv mt fr sf gi bk bv (nI n) u2.2.1 mb mn ai me u2.1 u2.2.2 wr ++ [(oa, .inl (oc, 1, .inr (.inl of)))])) H := hP.sub [9, 10, 11, 12, 13, 14, 15, 16, 17, 18, 0, 1, 2, 3, 4, 5, 6, 7, 8, 19] rfl
  have hD : va_D (fun q => s.heap.size ≤ q) (xw ad ca kf vf bf (nI n) u.2 u.1 nx en ok tf nb ef ff fi ek ev ++ (xm am cm mk mv mt fr sf gi bk bv (nI n) u2.2.1 mb mn ai me u2.1 u2.2.2 wr ++ [(oa, .inl (oc, 1, .inr (.inl of)))])) := hD.sub [9, 10, 11, 12, 13, 14, 15, 16, 17, 18, 0, 1, 2, 3, 4, 5, 6, 7, 8, 19] rfl rfl
  obtain ⟨hth, L9, hI9⟩ := xI_cut hI hu hu2
  refine lv_aload_n hx hb dL_law_351 rfl (lv_at hl 4 rfl) ?_
  have hP1 : va_P (dC, dI) vwCl (xm am cm mk mv mt fr sf gi bk bv (nI n) u2.2.1 mb mn ai me u2.1 u2.2.2 wr) H := hP.sub [10, 11, 12, 13, 14, 15, 16, 17, 18] rfl
  have hP2 : va_P (dC, dI) vwCl (xw ad ca kf vf bf (nI n) u.2 u.1 nx en ok tf nb ef ff fi ek ev ++ [(oa, .inl (oc, 1, .inr (.inl of)))]) H := hP.sub [0, 1, 2, 3, 4, 5, 6, 7, 8, 9, 19] rfl
  have hD2 : va_D (fun q => s.heap.size ≤ q) (xm am cm mk mv mt fr sf gi bk bv (nI n) u2.2.1 mb mn ai me u2.1 u2.2.2 wr ++ (xw ad ca kf vf bf (nI n) u.2 u.1 nx en ok tf nb ef ff fi ek ev ++ [(oa, .inl (oc, 1, .inr (.inl of)))])) := hD.sub [10, 11, 12, 13, 14, 15, 16, 17, 18, 0, 1, 2, 3, 4, 5, 6, 7, 8, 9, 19] rfl rfl
  refine xf_i (va_runV (As := []) (rest := []) ⟨hx, hb, hml, hown, hts⟩ (cX4_thrown_m l dC dI cm am mk mv mt fr sf gi bk bv (nI n) u2.2.1 mb mn ai me u2.1 u2.2.2 wr  _) (cwV 0 hts (xg_V mb_methodLink_RL_61 mb_instanceMethod_yX4_thrown mb_selects_yX4_thrown mb_initialized_RX4 mb_code_yX4_thrown) rfl rfl rfl ⟨rfl, by decide, by decide, by decide +kernel⟩ ⟨Nat.le_of_ble_eq_true rfl, Nat.le_of_ble_eq_true rfl⟩) (xpreV (va_recv (q0 := 0) hKm hP1 rfl rfl) hKm hP1 (xf_l hD2) hS hA hE) rfl rfl hl.1 rfl (lv_room (Nat.le_of_ble_eq_true rfl)) dL_law_352 ⟨hcm, hsm⟩) hD2 hP2 hS hA (fun r3 u3 H locs hu3 _ hP hD hS => ?_)
  subst hu3
  have hP : va_P (dC, dI) vwCl (xw ad ca kf vf bf (nI n) u.2 u.1 nx en ok tf nb ef ff fi ek ev ++ (xm am cm mk mv mt fr sf gi bk bv (nI n) u2.2.1 mb mn ai me u2.1 u2.2.2 wr ++ [(oa, .inl (oc, 1, .inr (.inl of)))])) H := hP.sub [9, 10, 11, 12, 13, 14, 15, 16, 17, 18, 0, 1, 2, 3, 4, 5, 6, 7, 8, 19] rfl
  have hD : va_D (fun q => s.heap.size ≤ q) (xw ad ca kf vf bf (nI n) u.2 u.1 nx en ok tf nb ef ff fi ek ev ++ (xm am cm mk mv mt fr sf gi bk bv (nI n) u2.2.1 mb mn ai me u2.1 u2.2.2 wr ++ [(oa, .inl (oc, 1, .inr (.inl of)))])) := hD.sub [9, 10, 11, 12, 13, 14, 15, 16, 17, 18, 0, 1, 2, 3, 4, 5, 6, 7, 8, 19] rfl rfl
  refine lv_iload hx hb dL_law_355 (lv_at hl 0 rfl) ?_
  refine lv_icmp_eq (tgt := 362) hx hb dL_law_357 rfl (fun hq => ?_) (fun hq => absurd hq (not_not_intro (hth)))
  refine lv_goto (tgt := 601) hx hb dL_law_362 rfl ?_
  exact kk H locs ls ⟨kf, vf, bf, nI n, u.2, u.1, nx, en, ok, tf, nb, ef, ff, fi, ek, ev, mk, mv, mt, fr, sf, gi, bk, bv, nI n, u2.2.1, mb, mn, ai, me, u2.1, u2.2.2, wr, of, n, L9, lr, hI9, hP, hD⟩ hS (lv_sub hl [1, 2, 3, 4, 5] rfl)

set_option maxHeartbeats 4000000 in
set_option maxRecDepth 100000 in
theorem cs_open {p : Program} {l : Launch} {e : Env} {s : State} {m : MethodId} {below : List Frame} {meth : Method} {c : Code} {Q : State → Prop} {dC : Nat → ClassId} {dI : Nat → Nat → Nat} {ca cm : Nat → ClassId} {ad am : Nat → Nat} {oa : Nat} {oc : ClassId} {b Ls : Nat} {xs : Nat → Int32} (hx : p.tables.exec = Jvm.exec) (hb : c.code = code) (hml : c.maxLocals = 8) (hown : s.vm.findClass RL = some m.cls) (hts : ∀ w ∈ wsL0, w.before #[.ref b] s = true) (hX : va_X b Ls xs s s.heap) (hbl : b < s.heap.size) (hE : xn_E (fun q => s.heap.size ≤ q) s) (hnt : l.stackTraces = false) (hKx : va_K (dC, dI) vwCl (xt ca) s) (hKm : va_K (dC, dI) vwCl (xt cm) s) (hKo : va_K (dC, dI) vwCl [(oc, .long)] s) {kf : Nat → Int32} {vf : Nat → Int64} {bf : Nat → Int32} {w : Int32} {op : Int32} {ln : Int32} {nx : Int32} {en : Int32} {ok : Int32} {tf : Nat → Int32} {nb : Int32} {ef : Nat → Int32} {ff : Nat → Int32} {fi : Int32} {ek : Int32} {ev : Int64} {mk : Nat → Int32} {mv : Nat → Int64} {mt : Nat → Int32} {fr : Nat → Int32} {sf : Nat → Int32} {gi : Nat → Int32} {bk : Nat → Int32} {bv : Nat → Int64} {mq : Int32} {ny : Int32} {mb : Int32} {mn : Int32} {ai : Int32} {me : Int32} {th : Int32} {mo : Int32} {wr : Int32} {of : Nat → Int64} {n Lb : Nat} {lr : List (Nat × Nat)} {i9 cells slots : Nat} {H : Heap} {locs : List Loc} {ls : Array Slot} (hI : xI kf vf w op ln tf nb ef ff mk mv mt fr sf gi mq ny mb mo n Lb lr) (hi : 4 * i9 + 3 < Ls) (hLs : Ls ≤ 2048) (hc1 : cells + 1 ≤ room_1.cells) (hs1 : slots + 6 ≤ room_1.slots) (hP : va_P (dC, dI) vwCl (xw ad ca kf vf bf w op ln nx en ok tf nb ef ff fi ek ev ++ (xm am cm mk mv mt fr sf gi bk bv mq ny mb mn ai me th mo wr ++ [(oa, .inl (oc, 1, .inr (.inl of)))])) H) (hD : va_D (fun q => s.heap.size ≤ q) (xw ad ca kf vf bf w op ln nx en ok tf nb ef ff fi ek ev ++ (xm am cm mk mv mt fr sf gi bk bv mq ny mb mn ai me th mo wr ++ [(oa, .inl (oc, 1, .inr (.inl of)))]))) (hS : va_S (fun q => s.heap.size ≤ q) s.heap H locs) (hl : lv_has ls 8 [(4, .int (nI (4 * i9))), (0, .ref b), (1, .ref (ad 0)), (2, .ref (am 0)), (3, .ref oa)]) (kk : (∀ (H : Heap) (locs : List Loc) (ls : Array Slot), xST (dC, dI) (fun q => s.heap.size ≤ q) ad ca am cm oa oc H → va_S (fun q => s.heap.size ≤ q) s.heap H locs → lv_has ls 8 [(4, .int (nI (4 * i9))), (0, .ref b), (1, .ref (ad 0)), (2, .ref (am 0)), (3, .ref oa)] → W p l e room_1 s m #[.ref b] below meth c H locs (cells + 1) (slots + 6) Q (F0 m 601 ls []))) : W p l e room_1 s m #[.ref b] below meth c H locs cells slots Q (F0 m 365 ls []) := by
  have hA : ∀ q : Nat, s.heap.size ≤ q → (fun q => s.heap.size ≤ q) q := fun q h => h
  have hbA : ¬ (fun q => s.heap.size ≤ q) b := Nat.not_le.mpr hbl
  obtain ⟨hI1, hI2, hI3⟩ := hI
  have hI := And.intro hI1 (And.intro hI2 hI3)
  have hI : xI kf vf w op ln tf nb ef ff mk mv mt fr sf gi mq ny mb mo n Lb lr := hI
  obtain ⟨hn, rfl, rfl, hup, -, -⟩ := hI1
  obtain ⟨hLb, rfl, rfl, -, hfit⟩ := hI2
  obtain ⟨ho1, ho2, -, ho4⟩ := xI_open hI
  have hcm : cells + 1 + 0 ≤ room_1.cells := hc1
  have hsm : slots + 6 + 0 ≤ room_1.slots := hs1
  refine lv_aload_n hx hb dL_law_365 rfl (lv_at hl 2 rfl) ?_
  refine lv_aload_n hx hb dL_law_366 rfl (lv_at hl 4 rfl) ?_
  have hP1 : va_P (dC, dI) vwCl (xw ad ca kf vf bf (nI n) op (nI Lb) nx en ok tf nb ef ff fi ek ev ++ [(oa, .inl (oc, 1, .inr (.inl of)))]) H := hP.sub [0, 1, 2, 3, 4, 5, 6, 7, 8, 9, 19] rfl
  have hP2 : va_P (dC, dI) vwCl (xm am cm mk mv mt fr sf gi bk bv (nI n) (nI Lb) mb mn ai me th mo wr) H := hP.sub [10, 11, 12, 13, 14, 15, 16, 17, 18] rfl
  have hD2 : va_D (fun q => s.heap.size ≤ q) ((xw ad ca kf vf bf (nI n) op (nI Lb) nx en ok tf nb ef ff fi ek ev ++ [(oa, .inl (oc, 1, .inr (.inl of)))]) ++ xm am cm mk mv mt fr sf gi bk bv (nI n) (nI Lb) mb mn ai me th mo wr) := hD.sub [0, 1, 2, 3, 4, 5, 6, 7, 8, 9, 19, 10, 11, 12, 13, 14, 15, 16, 17, 18] rfl rfl
  have hK1 := va_K.app hKx hKo
  refine xf_i (vx_runSW (As := [.ref (ad 0), .ref oa]) (rest := []) ⟨hx, hb, hml, hown, hts⟩ (cL_open_m l hnt dC dI ca ad kf vf bf (nI n) op nx en ok tf nb ef ff fi ek ev oa oc of Lb hLb _) (vx_cwSW 2 hts (xg_in (xg_c mb_methodLink_RL_80 (xg_c mb_static_yL_open (xg_c mb_initialized_RL (xg_c (wsG_t (i := 309) rfl rfl) (fun _ h => h)))))) rfl rfl rfl ⟨by decide, by decide, by decide +kernel⟩ ⟨Nat.le_of_ble_eq_true rfl, Nat.le_of_ble_eq_true rfl⟩) (xpreS (wd := xw ad ca kf vf bf (nI n) op (nI Lb) nx en ok tf nb ef ff fi ek ev ++ [(oa, .inl (oc, 1, .inr (.inl of)))]) hK1 hP1 (xf_l hD2) hS hA hE) rfl rfl hl.1 rfl (lv_room (Nat.le_of_ble_eq_true rfl)) dL_law_367 ⟨hc1, hs1⟩) hD2 hP2 hS hA (fun r u H locs hu _ hP hD hS => ?_)
  have hP : va_P (dC, dI) vwCl (xw ad ca kf vf bf (nI n) u.2.1 (nI Lb) u.1.2.1 u.1.2.2.1 u.1.2.2.2.1 tf u.1.1 u.1.2.2.2.2.1 u.1.2.2.2.2.2 fi ek ev ++ (xm am cm mk mv mt fr sf gi bk bv (nI n) (nI Lb) mb mn ai me th mo wr ++ [(oa, .inl (oc, 1, .inr (.inl u.2.2)))])) H := hP.sub [0, 1, 2, 3, 4, 5, 6, 7, 8, 9, 11, 12, 13, 14, 15, 16, 17, 18, 19, 10] rfl
  have hD : va_D (fun q => s.heap.size ≤ q) (xw ad ca kf vf bf (nI n) u.2.1 (nI Lb) u.1.2.1 u.1.2.2.1 u.1.2.2.2.1 tf u.1.1 u.1.2.2.2.2.1 u.1.2.2.2.2.2 fi ek ev ++ (xm am cm mk mv mt fr sf gi bk bv (nI n) (nI Lb) mb mn ai me th mo wr ++ [(oa, .inl (oc, 1, .inr (.inl u.2.2)))])) := hD.sub [0, 1, 2, 3, 4, 5, 6, 7, 8, 9, 11, 12, 13, 14, 15, 16, 17, 18, 19, 10] rfl rfl
  refine lv_istore hx hb dL_law_370 hl (by decide) rfl (fun ls hl => ?_)
  have hl : lv_has ls 8 [(5, .int r), (4, .int (nI (4 * i9))), (0, .ref b), (1, .ref (ad 0)), (2, .ref (am 0)), (3, .ref oa)] := hl
  refine lv_aload_n hx hb dL_law_372 rfl (lv_at hl 4 rfl) ?_
  have hP1 : va_P (dC, dI) vwCl (xm am cm mk mv mt fr sf gi bk bv (nI n) (nI Lb) mb mn ai me th mo wr) H := hP.sub [10, 11, 12, 13, 14, 15, 16, 17, 18] rfl
  have hP2 : va_P (dC, dI) vwCl (xw ad ca kf vf bf (nI n) u.2.1 (nI Lb) u.1.2.1 u.1.2.2.1 u.1.2.2.2.1 tf u.1.1 u.1.2.2.2.2.1 u.1.2.2.2.2.2 fi ek ev ++ [(oa, .inl (oc, 1, .inr (.inl u.2.2)))]) H := hP.sub [0, 1, 2, 3, 4, 5, 6, 7, 8, 9, 19] rfl
  have hD2 : va_D (fun q => s.heap.size ≤ q) (xm am cm mk mv mt fr sf gi bk bv (nI n) (nI Lb) mb mn ai me th mo wr ++ (xw ad ca kf vf bf (nI n) u.2.1 (nI Lb) u.1.2.1 u.1.2.2.1 u.1.2.2.2.1 tf u.1.1 u.1.2.2.2.2.1 u.1.2.2.2.2.2 fi ek ev ++ [(oa, .inl (oc, 1, .inr (.inl u.2.2)))])) := hD.sub [10, 11, 12, 13, 14, 15, 16, 17, 18, 0, 1, 2, 3, 4, 5, 6, 7, 8, 9, 19] rfl rfl
  refine xf_i (va_runV (As := []) (rest := []) ⟨hx, hb, hml, hown, hts⟩ (cX4_open_m l dC dI cm am mk mv mt fr sf gi bk bv (nI n) mb mn ai me th mo wr Lb hLb hfit _) (cwV 0 hts (xg_V mb_methodLink_RL_83 mb_instanceMethod_yX4_open mb_selects_yX4_open mb_initialized_RX4 mb_code_yX4_open) rfl rfl rfl ⟨rfl, by decide, by decide, by decide +kernel⟩ ⟨Nat.le_of_ble_eq_true rfl, Nat.le_of_ble_eq_true rfl⟩) (xpreV (va_recv (q0 := 0) hKm hP1 rfl rfl) hKm hP1 (xf_l hD2) hS hA hE) rfl rfl hl.1 rfl (lv_room (Nat.le_of_ble_eq_true rfl)) dL_law_373 ⟨hcm, hsm⟩) hD2 hP2 hS hA (fun r2 u2 H locs hu2 _ hP hD hS => ?_)
  have hP : va_P (dC, dI) vwCl (xw ad ca kf vf bf (nI n) u.2.1 (nI Lb) u.1.2.1 u.1.2.2.1 u.1.2.2.2.1 tf u.1.1 u.1.2.2.2.2.1 u.1.2.2.2.2.2 fi ek ev ++ (xm am cm mk mv mt u2.2.1 u2.2.2.1 u2.2.2.2.1 bk bv (nI n) (nI Lb) u2.2.2.2.2.1 mn u2.2.2.2.2.2.1 u2.2.2.2.2.2.2.1 u2.1.1 u2.1.2 u2.2.2.2.2.2.2.2 ++ [(oa, .inl (oc, 1, .inr (.inl u.2.2)))])) H := hP.sub [9, 10, 11, 12, 13, 14, 15, 16, 17, 18, 0, 1, 2, 3, 4, 5, 6, 7, 8, 19] rfl
  have hD : va_D (fun q => s.heap.size ≤ q) (xw ad ca kf vf bf (nI n) u.2.1 (nI Lb) u.1.2.1 u.1.2.2.1 u.1.2.2.2.1 tf u.1.1 u.1.2.2.2.2.1 u.1.2.2.2.2.2 fi ek ev ++ (xm am cm mk mv mt u2.2.1 u2.2.2.1 u2.2.2.2.1 bk bv (nI n) (nI Lb) u2.2.2.2.2.1 mn u2.2.2.2.2.2.1 u2.2.2.2.2.2.2.1 u2.1.1 u2.1.2 u2.2.2.2.2.2.2.2 ++ [(oa, .inl (oc, 1, .inr (.inl u.2.2)))])) := hD.sub [9, 10, 11, 12, 13, 14, 15, 16, 17, 18, 0, 1, 2, 3, 4, 5, 6, 7, 8, 19] rfl rfl
  obtain ⟨hth, hou, l9, hI9⟩ := xI_opn hI hu hu2
  refine lv_istore hx hb dL_law_376 hl (by decide) rfl (fun ls hl => ?_)
  have hl : lv_has ls 8 [(6, .int r2), (5, .int r), (4, .int (nI (4 * i9))), (0, .ref b), (1, .ref (ad 0)), (2, .ref (am 0)), (3, .ref oa)] := hl
  refine lv_aload_n hx hb dL_law_378 rfl (lv_at hl 5 rfl) ?_
  have hP1 : va_P (dC, dI) vwCl (xm am cm mk mv mt u2.2.1 u2.2.2.1 u2.2.2.2.1 bk bv (nI n) (nI Lb) u2.2.2.2.2.1 mn u2.2.2.2.2.2.1 u2.2.2.2.2.2.2.1 u2.1.1 u2.1.2 u2.2.2.2.2.2.2.2) H := hP.sub [10, 11, 12, 13, 14, 15, 16, 17, 18] rfl
  have hP2 : va_P (dC, dI) vwCl (xw ad ca kf vf bf (nI n) u.2.1 (nI Lb) u.1.2.1 u.1.2.2.1 u.1.2.2.2.1 tf u.1.1 u.1.2.2.2.2.1 u.1.2.2.2.2.2 fi ek ev ++ [(oa, .inl (oc, 1, .inr (.inl u.2.2)))]) H := hP.sub [0, 1, 2, 3, 4, 5, 6, 7, 8, 9, 19] rfl
  have hD2 : va_D (fun q => s.heap.size ≤ q) (xm am cm mk mv mt u2.2.1 u2.2.2.1 u2.2.2.2.1 bk bv (nI n) (nI Lb) u2.2.2.2.2.1 mn u2.2.2.2.2.2.1 u2.2.2.2.2.2.2.1 u2.1.1 u2.1.2 u2.2.2.2.2.2.2.2 ++ (xw ad ca kf vf bf (nI n) u.2.1 (nI Lb) u.1.2.1 u.1.2.2.1 u.1.2.2.2.1 tf u.1.1 u.1.2.2.2.2.1 u.1.2.2.2.2.2 fi ek ev ++ [(oa, .inl (oc, 1, .inr (.inl u.2.2)))])) := hD.sub [10, 11, 12, 13, 14, 15, 16, 17, 18, 0, 1, 2, 3, 4, 5, 6, 7, 8, 9, 19] rfl rfl
  refine xf_i (va_runV (As := []) (rest := []) ⟨hx, hb, hml, hown, hts⟩ (cX4_thrown_m l dC dI cm am mk mv mt u2.2.1 u2.2.2.1 u2.2.2.2.1 bk bv (nI n) (nI Lb) u2.2.2.2.2.1 mn u2.2.2.2.2.2.1 u2.2.2.2.2.2.2.1 u2.1.1 u2.1.2 u2.2.2.2.2.2.2.2  _) (cwV 0 hts (xg_V mb_methodLink_RL_61 mb_instanceMethod_yX4_thrown mb_selects_yX4_thrown mb_initialized_RX4 mb_code_yX4_thrown) rfl rfl rfl ⟨rfl, by decide, by decide, by decide +kernel⟩ ⟨Nat.le_of_ble_eq_true rfl, Nat.le_of_ble_eq_true rfl⟩) (xpreV (va_recv (q0 := 0) hKm hP1 rfl rfl) hKm hP1 (xf_l hD2) hS hA hE) rfl rfl hl.1 rfl (lv_room (Nat.le_of_ble_eq_true rfl)) dL_law_379 ⟨hcm, hsm⟩) hD2 hP2 hS hA (fun r3 u3 H locs hu3 _ hP hD hS => ?_)
  subst hu3
  have hP : va_P (dC, dI) vwCl (xw ad ca kf vf bf (nI n) u.2.1 (nI Lb) u.1.2.1 u.1.2.2.1 u.1.2.2.2.1 tf u.1.1 u.1.2.2.2.2.1 u.1.2.2.2.2.2 fi ek ev ++ (xm am cm mk mv mt u2.2.1 u2.2.2.1 u2.2.2.2.1 bk bv (nI n) (nI Lb) u2.2.2.2.2.1 mn u2.2.2.2.2.2.1 u2.2.2.2.2.2.2.1 u2.1.1 u2.1.2 u2.2.2.2.2.2.2.2 ++ [(oa, .inl (oc, 1, .inr (.inl u.2.2)))])) H := hP.sub [9, 10, 11, 12, 13, 14, 15, 16, 17, 18, 0, 1, 2, 3, 4, 5, 6, 7, 8, 19] rfl
  have hD : va_D (fun q => s.heap.size ≤ q) (xw ad ca kf vf bf (nI n) u.2.1 (nI Lb) u.1.2.1 u.1.2.2.1 u.1.2.2.2.1 tf u.1.1 u.1.2.2.2.2.1 u.1.2.2.2.2.2 fi ek ev ++ (xm am cm mk mv mt u2.2.1 u2.2.2.1 u2.2.2.2.1 bk bv (nI n) (nI Lb) u2.2.2.2.2.1 mn u2.2.2.2.2.2.1 u2.2.2.2.2.2.2.1 u2.1.1 u2.1.2 u2.2.2.2.2.2.2.2 ++ [(oa, .inl (oc, 1, .inr (.inl u.2.2)))])) := hD.sub [9, 10, 11, 12, 13, 14, 15, 16, 17, 18, 0, 1, 2, 3, 4, 5, 6, 7, 8, 19] rfl rfl
  refine lv_iload hx hb dL_law_382 (lv_at hl 1 rfl) ?_
  refine lv_icmp_eq (tgt := 389) hx hb dL_law_384 rfl (fun hq => ?_) (fun hq => absurd hq (not_not_intro (hth)))
  refine lv_iload hx hb dL_law_389 (lv_at hl 1 rfl) ?_
  refine lv_if_ne (tgt := 406) hx hb dL_law_391 rfl (fun hnz => ?_) (fun hz => ?_)
  · refine lv_goto (tgt := 601) hx hb dL_law_406 rfl ?_
    exact kk H locs ls ⟨kf, vf, bf, nI n, u.2.1, nI Lb, u.1.2.1, u.1.2.2.1, u.1.2.2.2.1, tf, u.1.1, u.1.2.2.2.2.1, u.1.2.2.2.2.2, fi, ek, ev, mk, mv, mt, u2.2.1, u2.2.2.1, u2.2.2.2.1, bk, bv, nI n, nI Lb, u2.2.2.2.2.1, mn, u2.2.2.2.2.2.1, u2.2.2.2.2.2.2.1, u2.1.1, u2.1.2, u2.2.2.2.2.2.2.2, u.2.2, n, Lb, l9, hI9, hP, hD⟩ hS (lv_sub hl [2, 3, 4, 5, 6] rfl)
  · have ho0 := hou hz
    refine lv_aload_n hx hb dL_law_394 rfl (lv_at hl 6 rfl) ?_
    refine lv_iconst (v := nI 0) hx hb dL_law_395 (by decide) ?_
    refine va_lald hx hb hKo hP 19 0 rfl rfl (vp_in_nI (by decide) (by decide)) dL_law_396 ?_
    refine lv_topl (fun z1 ez1 => ?_)
    have ez1 : z1 = u.2.2 0 := ez1.trans (congrArg u.2.2 (nI_clamp (by decide)))
    subst ez1
    refine lv_iload hx hb dL_law_397 (lv_at hl 0 rfl) ?_
    refine lv_i2l (v := r2.toInt64) hx hb dL_law_399 (rfl) ?_
    refine W.lcmp hx hb dL_law_400 ?_
    refine lv_if_eq (tgt := 406) hx hb dL_law_401 rfl (fun hq => ?_) (fun hq => absurd hq (not_not_intro (lc_eq.mpr ho0)))
    refine lv_goto (tgt := 601) hx hb dL_law_406 rfl ?_
    exact kk H locs ls ⟨kf, vf, bf, nI n, u.2.1, nI Lb, u.1.2.1, u.1.2.2.1, u.1.2.2.2.1, tf, u.1.1, u.1.2.2.2.2.1, u.1.2.2.2.2.2, fi, ek, ev, mk, mv, mt, u2.2.1, u2.2.2.1, u2.2.2.2.1, bk, bv, nI n, nI Lb, u2.2.2.2.2.1, mn, u2.2.2.2.2.2.1, u2.2.2.2.2.2.2.1, u2.1.1, u2.1.2, u2.2.2.2.2.2.2.2, u.2.2, n, Lb, l9, hI9, hP, hD⟩ hS (lv_sub hl [2, 3, 4, 5, 6] rfl)

set_option maxHeartbeats 4000000 in
set_option maxRecDepth 100000 in
theorem cs_get {p : Program} {l : Launch} {e : Env} {s : State} {m : MethodId} {below : List Frame} {meth : Method} {c : Code} {Q : State → Prop} {dC : Nat → ClassId} {dI : Nat → Nat → Nat} {ca cm : Nat → ClassId} {ad am : Nat → Nat} {oa : Nat} {oc : ClassId} {b Ls : Nat} {xs : Nat → Int32} (hx : p.tables.exec = Jvm.exec) (hb : c.code = code) (hml : c.maxLocals = 8) (hown : s.vm.findClass RL = some m.cls) (hts : ∀ w ∈ wsL0, w.before #[.ref b] s = true) (hX : va_X b Ls xs s s.heap) (hbl : b < s.heap.size) (hE : xn_E (fun q => s.heap.size ≤ q) s) (hnt : l.stackTraces = false) (hKx : va_K (dC, dI) vwCl (xt ca) s) (hKm : va_K (dC, dI) vwCl (xt cm) s) (hKo : va_K (dC, dI) vwCl [(oc, .long)] s) {kf : Nat → Int32} {vf : Nat → Int64} {bf : Nat → Int32} {w : Int32} {op : Int32} {ln : Int32} {nx : Int32} {en : Int32} {ok : Int32} {tf : Nat → Int32} {nb : Int32} {ef : Nat → Int32} {ff : Nat → Int32} {fi : Int32} {ek : Int32} {ev : Int64} {mk : Nat → Int32} {mv : Nat → Int64} {mt : Nat → Int32} {fr : Nat → Int32} {sf : Nat → Int32} {gi : Nat → Int32} {bk : Nat → Int32} {bv : Nat → Int64} {mq : Int32} {ny : Int32} {mb : Int32} {mn : Int32} {ai : Int32} {me : Int32} {th : Int32} {mo : Int32} {wr : Int32} {of : Nat → Int64} {n Lb : Nat} {lr : List (Nat × Nat)} {i9 cells slots : Nat} {H : Heap} {locs : List Loc} {ls : Array Slot} (hI : xI kf vf w op ln tf nb ef ff mk mv mt fr sf gi mq ny mb mo n Lb lr) (hi : 4 * i9 + 3 < Ls) (hLs : Ls ≤ 2048) (hc1 : cells + 1 ≤ room_1.cells) (hs1 : slots + 6 ≤ room_1.slots) (hP : va_P (dC, dI) vwCl (xw ad ca kf vf bf w op ln nx en ok tf nb ef ff fi ek ev ++ (xm am cm mk mv mt fr sf gi bk bv mq ny mb mn ai me th mo wr ++ [(oa, .inl (oc, 1, .inr (.inl of)))])) H) (hD : va_D (fun q => s.heap.size ≤ q) (xw ad ca kf vf bf w op ln nx en ok tf nb ef ff fi ek ev ++ (xm am cm mk mv mt fr sf gi bk bv mq ny mb mn ai me th mo wr ++ [(oa, .inl (oc, 1, .inr (.inl of)))]))) (hS : va_S (fun q => s.heap.size ≤ q) s.heap H locs) (hl : lv_has ls 8 [(4, .int (nI (4 * i9))), (0, .ref b), (1, .ref (ad 0)), (2, .ref (am 0)), (3, .ref oa)]) (kk : (∀ (H : Heap) (locs : List Loc) (ls : Array Slot), xST (dC, dI) (fun q => s.heap.size ≤ q) ad ca am cm oa oc H → va_S (fun q => s.heap.size ≤ q) s.heap H locs → lv_has ls 8 [(4, .int (nI (4 * i9))), (0, .ref b), (1, .ref (ad 0)), (2, .ref (am 0)), (3, .ref oa)] → W p l e room_1 s m #[.ref b] below meth c H locs (cells + 1) (slots + 6) Q (F0 m 601 ls []))) : W p l e room_1 s m #[.ref b] below meth c H locs cells slots Q (F0 m 409 ls []) := by
  have hA : ∀ q : Nat, s.heap.size ≤ q → (fun q => s.heap.size ≤ q) q := fun q h => h
  have hbA : ¬ (fun q => s.heap.size ≤ q) b := Nat.not_le.mpr hbl
  obtain ⟨hI1, hI2, hI3⟩ := hI
  have hI := And.intro hI1 (And.intro hI2 hI3)
  have hI : xI kf vf w op ln tf nb ef ff mk mv mt fr sf gi mq ny mb mo n Lb lr := hI
  obtain ⟨hn, rfl, rfl, hup, -, -⟩ := hI1
  obtain ⟨hLb, rfl, rfl, -, hfit⟩ := hI2
  obtain ⟨ho1, ho2, -, ho4⟩ := xI_open hI
  have hcm : cells + 1 + 0 ≤ room_1.cells := hc1
  have hsm : slots + 6 + 0 ≤ room_1.slots := hs1
  refine lv_aload_n hx hb dL_law_409 rfl (lv_at hl 2 rfl) ?_
  refine lv_aload_n hx hb dL_law_410 rfl (lv_at hl 1 rfl) ?_
  refine lv_iload hx hb dL_law_411 (lv_at hl 0 rfl) ?_
  refine lv_iconst (v := nI 1) hx hb dL_law_413 (by decide) ?_
  refine lv_iadd hx hb dL_law_414 ?_
  refine lv_topi (fun z1 ez1 => ?_)
  have ez1 : z1 = nI (4 * i9 + 1) := ez1.trans (nI_add _ _)
  subst ez1
  refine va_sld hx hb hX hbl hbA hS (vp_in_nI (by omega) (by omega)) dL_law_415 ?_
  refine lv_topi (fun z2 ez2 => ?_)
  have ez2 : z2 = xs (4 * i9 + 1) := ez2.trans (congrArg xs (nI_clamp (by omega)))
  subst ez2
  refine lv_aload_n hx hb dL_law_416 rfl (lv_at hl 4 rfl) ?_
  have hP1 : va_P (dC, dI) vwCl (xw ad ca kf vf bf (nI n) op (nI Lb) nx en ok tf nb ef ff fi ek ev ++ [(oa, .inl (oc, 1, .inr (.inl of)))]) H := hP.sub [0, 1, 2, 3, 4, 5, 6, 7, 8, 9, 19] rfl
  have hP2 : va_P (dC, dI) vwCl (xm am cm mk mv mt fr sf gi bk bv (nI n) (nI Lb) mb mn ai me th mo wr) H := hP.sub [10, 11, 12, 13, 14, 15, 16, 17, 18] rfl
  have hD2 : va_D (fun q => s.heap.size ≤ q) ((xw ad ca kf vf bf (nI n) op (nI Lb) nx en ok tf nb ef ff fi ek ev ++ [(oa, .inl (oc, 1, .inr (.inl of)))]) ++ xm am cm mk mv mt fr sf gi bk bv (nI n) (nI Lb) mb mn ai me th mo wr) := hD.sub [0, 1, 2, 3, 4, 5, 6, 7, 8, 9, 19, 10, 11, 12, 13, 14, 15, 16, 17, 18] rfl rfl
  have hK1 := va_K.app hKx hKo
  refine xf_i (vx_runSW (As := [.ref (ad 0), .int (xs (4 * i9 + 1)), .ref oa]) (rest := []) ⟨hx, hb, hml, hown, hts⟩ (cL_get_m l hnt dC dI ca ad kf vf bf (nI n) op (nI Lb) nx en ok tf nb ef ff fi ek ev oa oc of lr (xs (4 * i9 + 1)) ho1 _) (vx_cwSW 3 hts (xg_in (xg_c mb_methodLink_RL_84 (xg_c mb_static_yL_get (xg_c mb_initialized_RL (xg_c (wsG_t (i := 370) rfl rfl) (fun _ h => h)))))) rfl rfl rfl ⟨by decide, by decide, by decide +kernel⟩ ⟨Nat.le_of_ble_eq_true rfl, Nat.le_of_ble_eq_true rfl⟩) (xpreS (wd := xw ad ca kf vf bf (nI n) op (nI Lb) nx en ok tf nb ef ff fi ek ev ++ [(oa, .inl (oc, 1, .inr (.inl of)))]) hK1 hP1 (xf_l hD2) hS hA hE) rfl rfl hl.1 rfl (lv_room (Nat.le_of_ble_eq_true rfl)) dL_law_417 ⟨hc1, hs1⟩) hD2 hP2 hS hA (fun r u H locs hu _ hP hD hS => ?_)
  have hP : va_P (dC, dI) vwCl (xw ad ca kf vf bf (nI n) op (nI Lb) u.1.1 u.1.2.1 u.1.2.2.1 tf nb ef ff u.1.2.2.2.1 u.1.2.2.2.2.1 u.1.2.2.2.2.2 ++ (xm am cm mk mv mt fr sf gi bk bv (nI n) (nI Lb) mb mn ai me th mo wr ++ [(oa, .inl (oc, 1, .inr (.inl u.2)))])) H := hP.sub [0, 1, 2, 3, 4, 5, 6, 7, 8, 9, 11, 12, 13, 14, 15, 16, 17, 18, 19, 10] rfl
  have hD : va_D (fun q => s.heap.size ≤ q) (xw ad ca kf vf bf (nI n) op (nI Lb) u.1.1 u.1.2.1 u.1.2.2.1 tf nb ef ff u.1.2.2.2.1 u.1.2.2.2.2.1 u.1.2.2.2.2.2 ++ (xm am cm mk mv mt fr sf gi bk bv (nI n) (nI Lb) mb mn ai me th mo wr ++ [(oa, .inl (oc, 1, .inr (.inl u.2)))])) := hD.sub [0, 1, 2, 3, 4, 5, 6, 7, 8, 9, 11, 12, 13, 14, 15, 16, 17, 18, 19, 10] rfl rfl
  refine lv_istore hx hb dL_law_420 hl (by decide) rfl (fun ls hl => ?_)
  have hl : lv_has ls 8 [(5, .int r), (4, .int (nI (4 * i9))), (0, .ref b), (1, .ref (ad 0)), (2, .ref (am 0)), (3, .ref oa)] := hl
  refine lv_aload_n hx hb dL_law_422 rfl (lv_at hl 4 rfl) ?_
  refine lv_aload_n hx hb dL_law_423 rfl (lv_at hl 2 rfl) ?_
  refine lv_iload hx hb dL_law_424 (lv_at hl 1 rfl) ?_
  refine lv_iconst (v := nI 1) hx hb dL_law_426 (by decide) ?_
  refine lv_iadd hx hb dL_law_427 ?_
  refine lv_topi (fun z3 ez3 => ?_)
  have ez3 : z3 = nI (4 * i9 + 1) := ez3.trans (nI_add _ _)
  subst ez3
  refine va_sld hx hb hX hbl hbA hS (vp_in_nI (by omega) (by omega)) dL_law_428 ?_
  refine lv_topi (fun z4 ez4 => ?_)
  have ez4 : z4 = xs (4 * i9 + 1) := ez4.trans (congrArg xs (nI_clamp (by omega)))
  subst ez4
  have hP1 : va_P (dC, dI) vwCl (xm am cm mk mv mt fr sf gi bk bv (nI n) (nI Lb) mb mn ai me th mo wr) H := hP.sub [10, 11, 12, 13, 14, 15, 16, 17, 18] rfl
  have hP2 : va_P (dC, dI) vwCl (xw ad ca kf vf bf (nI n) op (nI Lb) u.1.1 u.1.2.1 u.1.2.2.1 tf nb ef ff u.1.2.2.2.1 u.1.2.2.2.2.1 u.1.2.2.2.2.2 ++ [(oa, .inl (oc, 1, .inr (.inl u.2)))]) H := hP.sub [0, 1, 2, 3, 4, 5, 6, 7, 8, 9, 19] rfl
  have hD2 : va_D (fun q => s.heap.size ≤ q) (xm am cm mk mv mt fr sf gi bk bv (nI n) (nI Lb) mb mn ai me th mo wr ++ (xw ad ca kf vf bf (nI n) op (nI Lb) u.1.1 u.1.2.1 u.1.2.2.1 tf nb ef ff u.1.2.2.2.1 u.1.2.2.2.2.1 u.1.2.2.2.2.2 ++ [(oa, .inl (oc, 1, .inr (.inl u.2)))])) := hD.sub [10, 11, 12, 13, 14, 15, 16, 17, 18, 0, 1, 2, 3, 4, 5, 6, 7, 8, 9, 19] rfl rfl
  refine xf_ll (va_runV (As := [.int (xs (4 * i9 + 1))]) (rest := []) ⟨hx, hb, hml, hown, hts⟩ (cX4_get_m l dC dI cm am mk mv mt fr sf gi bk bv (nI n) (nI Lb) mb mn ai me th mo wr lr (xs (4 * i9 + 1)) hfit ho2 _) (cwV 1 hts (xg_V mb_methodLink_RL_86 mb_instanceMethod_yX4_get mb_selects_yX4_get mb_initialized_RX4 mb_code_yX4_get) rfl rfl rfl ⟨rfl, by decide, by decide, by decide +kernel⟩ ⟨Nat.le_of_ble_eq_true rfl, Nat.le_of_ble_eq_true rfl⟩) (xpreV (va_recv (q0 := 0) hKm hP1 rfl rfl) hKm hP1 (xf_l hD2) hS hA hE) rfl rfl hl.1 rfl (lv_room (Nat.le_of_ble_eq_true rfl)) dL_law_429 ⟨hcm, hsm⟩) hD2 hP2 hS hA (fun r2 u2 H locs hu2 _ hP hD hS => ?_)
  have hP : va_P (dC, dI) vwCl (xw ad ca kf vf bf (nI n) op (nI Lb) u.1.1 u.1.2.1 u.1.2.2.1 tf nb ef ff u.1.2.2.2.1 u.1.2.2.2.2.1 u.1.2.2.2.2.2 ++ (xm am cm mk mv mt fr sf gi u2.2.1 u2.2.2.1 (nI n) (nI Lb) mb u2.2.2.2.1 u2.2.2.2.2.1 u2.2.2.2.2.2.1 u2.1 mo u2.2.2.2.2.2.2 ++ [(oa, .inl (oc, 1, .inr (.inl u.2)))])) H := hP.sub [9, 10, 11, 12, 13, 14, 15, 16, 17, 18, 0, 1, 2, 3, 4, 5, 6, 7, 8, 19] rfl
  have hD : va_D (fun q => s.heap.size ≤ q) (xw ad ca kf vf bf (nI n) op (nI Lb) u.1.1 u.1.2.1 u.1.2.2.1 tf nb ef ff u.1.2.2.2.1 u.1.2.2.2.2.1 u.1.2.2.2.2.2 ++ (xm am cm mk mv mt fr sf gi u2.2.1 u2.2.2.1 (nI n) (nI Lb) mb u2.2.2.2.1 u2.2.2.2.2.1 u2.2.2.2.2.2.1 u2.1 mo u2.2.2.2.2.2.2 ++ [(oa, .inl (oc, 1, .inr (.inl u.2)))])) := hD.sub [9, 10, 11, 12, 13, 14, 15, 16, 17, 18, 0, 1, 2, 3, 4, 5, 6, 7, 8, 19] rfl rfl
  obtain ⟨hth, hou⟩ := xI_get hI hu hu2
  refine lv_lstore hx hb dL_law_432 hl (by decide) rfl (fun ls hl => ?_)
  have hl : lv_has ls 8 [(6, .long r2), (5, .int r), (4, .int (nI (4 * i9))), (0, .ref b), (1, .ref (ad 0)), (2, .ref (am 0)), (3, .ref oa)] := hl
  refine lv_aload_n hx hb dL_law_434 rfl (lv_at hl 5 rfl) ?_
  have hP1 : va_P (dC, dI) vwCl (xm am cm mk mv mt fr sf gi u2.2.1 u2.2.2.1 (nI n) (nI Lb) mb u2.2.2.2.1 u2.2.2.2.2.1 u2.2.2.2.2.2.1 u2.1 mo u2.2.2.2.2.2.2) H := hP.sub [10, 11, 12, 13, 14, 15, 16, 17, 18] rfl
  have hP2 : va_P (dC, dI) vwCl (xw ad ca kf vf bf (nI n) op (nI Lb) u.1.1 u.1.2.1 u.1.2.2.1 tf nb ef ff u.1.2.2.2.1 u.1.2.2.2.2.1 u.1.2.2.2.2.2 ++ [(oa, .inl (oc, 1, .inr (.inl u.2)))]) H := hP.sub [0, 1, 2, 3, 4, 5, 6, 7, 8, 9, 19] rfl
  have hD2 : va_D (fun q => s.heap.size ≤ q) (xm am cm mk mv mt fr sf gi u2.2.1 u2.2.2.1 (nI n) (nI Lb) mb u2.2.2.2.1 u2.2.2.2.2.1 u2.2.2.2.2.2.1 u2.1 mo u2.2.2.2.2.2.2 ++ (xw ad ca kf vf bf (nI n) op (nI Lb) u.1.1 u.1.2.1 u.1.2.2.1 tf nb ef ff u.1.2.2.2.1 u.1.2.2.2.2.1 u.1.2.2.2.2.2 ++ [(oa, .inl (oc, 1, .inr (.inl u.2)))])) := hD.sub [10, 11, 12, 13, 14, 15, 16, 17, 18, 0, 1, 2, 3, 4, 5, 6, 7, 8, 9, 19] rfl rfl
  refine xf_i (va_runV (As := []) (rest := []) ⟨hx, hb, hml, hown, hts⟩ (cX4_thrown_m l dC dI cm am mk mv mt fr sf gi u2.2.1 u2.2.2.1 (nI n) (nI Lb) mb u2.2.2.2.1 u2.2.2.2.2.1 u2.2.2.2.2.2.1 u2.1 mo u2.2.2.2.2.2.2  _) (cwV 0 hts (xg_V mb_methodLink_RL_61 mb_instanceMethod_yX4_thrown mb_selects_yX4_thrown mb_initialized_RX4 mb_code_yX4_thrown) rfl rfl rfl ⟨rfl, by decide, by decide, by decide +kernel⟩ ⟨Nat.le_of_ble_eq_true rfl, Nat.le_of_ble_eq_true rfl⟩) (xpreV (va_recv (q0 := 0) hKm hP1 rfl rfl) hKm hP1 (xf_l hD2) hS hA hE) rfl rfl hl.1 rfl (lv_room (Nat.le_of_ble_eq_true rfl)) dL_law_435 ⟨hcm, hsm⟩) hD2 hP2 hS hA (fun r3 u3 H locs hu3 _ hP hD hS => ?_)
  subst hu3
  have hP : va_P (dC, dI) vwCl (xw ad ca kf vf bf (nI n) op (nI Lb) u.1.1 u.1.2.1 u.1.2.2.1 tf nb ef ff u.1.2.2.2.1 u.1.2.2.2.2.1 u.1.2.2.2.2.2 ++ (xm am cm mk mv mt fr sf gi u2.2.1 u2.2.2.1 (nI n) (nI Lb) mb u2.2.2.2.1 u2.2.2.2.2.1 u2.2.2.2.2.2.1 u2.1 mo u2.2.2.2.2.2.2 ++ [(oa, .inl (oc, 1, .inr (.inl u.2)))])) H := hP.sub [9, 10, 11, 12, 13, 14, 15, 16, 17, 18, 0, 1, 2, 3, 4, 5, 6, 7, 8, 19] rfl
  have hD : va_D (fun q => s.heap.size ≤ q) (xw ad ca kf vf bf (nI n) op (nI Lb) u.1.1 u.1.2.1 u.1.2.2.1 tf nb ef ff u.1.2.2.2.1 u.1.2.2.2.2.1 u.1.2.2.2.2.2 ++ (xm am cm mk mv mt fr sf gi u2.2.1 u2.2.2.1 (nI n) (nI Lb) mb u2.2.2.2.1 u2.2.2.2.2.1 u2.2.2.2.2.2.1 u2.1 mo u2.2.2.2.2.2.2 ++ [(oa, .inl (oc, 1, .inr (.inl u.2)))])) := hD.sub [9, 10, 11, 12, 13, 14, 15, 16, 17, 18, 0, 1, 2, 3, 4, 5, 6, 7, 8, 19] rfl rfl
  refine lv_iload hx hb dL_law_438 (lv_at hl 1 rfl) ?_
  refine lv_icmp_eq (tgt := 445) hx hb dL_law_440 rfl (fun hq => ?_) (fun hq => absurd hq (not_not_intro (hth)))
  refine lv_iload hx hb dL_law_445 (lv_at hl 1 rfl) ?_
  refine lv_if_ne (tgt := 461) hx hb dL_law_447 rfl (fun hnz => ?_) (fun hz => ?_)
  · refine lv_goto (tgt := 601) hx hb dL_law_461 rfl ?_
    exact kk H locs ls ⟨kf, vf, bf, nI n, op, nI Lb, u.1.1, u.1.2.1, u.1.2.2.1, tf, nb, ef, ff, u.1.2.2.2.1, u.1.2.2.2.2.1, u.1.2.2.2.2.2, mk, mv, mt, fr, sf, gi, u2.2.1, u2.2.2.1, nI n, nI Lb, mb, u2.2.2.2.1, u2.2.2.2.2.1, u2.2.2.2.2.2.1, u2.1, mo, u2.2.2.2.2.2.2, u.2, n, Lb, lr, hI, hP, hD⟩ hS (lv_sub hl [2, 3, 4, 5, 6] rfl)
  · have ho0 := hou hz
    refine lv_aload_n hx hb dL_law_450 rfl (lv_at hl 6 rfl) ?_
    refine lv_iconst (v := nI 0) hx hb dL_law_451 (by decide) ?_
    refine va_lald hx hb hKo hP 19 0 rfl rfl (vp_in_nI (by decide) (by decide)) dL_law_452 ?_
    refine lv_topl (fun z5 ez5 => ?_)
    have ez5 : z5 = u.2 0 := ez5.trans (congrArg u.2 (nI_clamp (by decide)))
    subst ez5
    refine lv_lload hx hb dL_law_453 (lv_at hl 0 rfl) ?_
    refine W.lcmp hx hb dL_law_455 ?_
    refine lv_if_eq (tgt := 461) hx hb dL_law_456 rfl (fun hq => ?_) (fun hq => absurd hq (not_not_intro (lc_eq.mpr ho0)))
    refine lv_goto (tgt := 601) hx hb dL_law_461 rfl ?_
    exact kk H locs ls ⟨kf, vf, bf, nI n, op, nI Lb, u.1.1, u.1.2.1, u.1.2.2.1, tf, nb, ef, ff, u.1.2.2.2.1, u.1.2.2.2.2.1, u.1.2.2.2.2.2, mk, mv, mt, fr, sf, gi, u2.2.1, u2.2.2.1, nI n, nI Lb, mb, u2.2.2.2.1, u2.2.2.2.2.1, u2.2.2.2.2.2.1, u2.1, mo, u2.2.2.2.2.2.2, u.2, n, Lb, lr, hI, hP, hD⟩ hS (lv_sub hl [2, 3, 4, 5, 6] rfl)

set_option maxHeartbeats 4000000 in
set_option maxRecDepth 100000 in
theorem cs_entries {p : Program} {l : Launch} {e : Env} {s : State} {m : MethodId} {below : List Frame} {meth : Method} {c : Code} {Q : State → Prop} {dC : Nat → ClassId} {dI : Nat → Nat → Nat} {ca cm : Nat → ClassId} {ad am : Nat → Nat} {oa : Nat} {oc : ClassId} {b Ls : Nat} {xs : Nat → Int32} (hx : p.tables.exec = Jvm.exec) (hb : c.code = code) (hml : c.maxLocals = 8) (hown : s.vm.findClass RL = some m.cls) (hts : ∀ w ∈ wsL0, w.before #[.ref b] s = true) (hX : va_X b Ls xs s s.heap) (hbl : b < s.heap.size) (hE : xn_E (fun q => s.heap.size ≤ q) s) (hnt : l.stackTraces = false) (hKx : va_K (dC, dI) vwCl (xt ca) s) (hKm : va_K (dC, dI) vwCl (xt cm) s) (hKo : va_K (dC, dI) vwCl [(oc, .long)] s) {kf : Nat → Int32} {vf : Nat → Int64} {bf : Nat → Int32} {w : Int32} {op : Int32} {ln : Int32} {nx : Int32} {en : Int32} {ok : Int32} {tf : Nat → Int32} {nb : Int32} {ef : Nat → Int32} {ff : Nat → Int32} {fi : Int32} {ek : Int32} {ev : Int64} {mk : Nat → Int32} {mv : Nat → Int64} {mt : Nat → Int32} {fr : Nat → Int32} {sf : Nat → Int32} {gi : Nat → Int32} {bk : Nat → Int32} {bv : Nat → Int64} {mq : Int32} {ny : Int32} {mb : Int32} {mn : Int32} {ai : Int32} {me : Int32} {th : Int32} {mo : Int32} {wr : Int32} {of : Nat → Int64} {n Lb : Nat} {lr : List (Nat × Nat)} {i9 cells slots : Nat} {H : Heap} {locs : List Loc} {ls : Array Slot} (hI : xI kf vf w op ln tf nb ef ff mk mv mt fr sf gi mq ny mb mo n Lb lr) (hi : 4 * i9 + 3 < Ls) (hLs : Ls ≤ 2048) (hc1 : cells + 1 ≤ room_1.cells) (hs1 : slots + 6 ≤ room_1.slots) (hP : va_P (dC, dI) vwCl (xw ad ca kf vf bf w op ln nx en ok tf nb ef ff fi ek ev ++ (xm am cm mk mv mt fr sf gi bk bv mq ny mb mn ai me th mo wr ++ [(oa, .inl (oc, 1, .inr (.inl of)))])) H) (hD : va_D (fun q => s.heap.size ≤ q) (xw ad ca kf vf bf w op ln nx en ok tf nb ef ff fi ek ev ++ (xm am cm mk mv mt fr sf gi bk bv mq ny mb mn ai me th mo wr ++ [(oa, .inl (oc, 1, .inr (.inl of)))]))) (hS : va_S (fun q => s.heap.size ≤ q) s.heap H locs) (hl : lv_has ls 8 [(4, .int (nI (4 * i9))), (0, .ref b), (1, .ref (ad 0)), (2, .ref (am 0)), (3, .ref oa)]) (kk : (∀ (H : Heap) (locs : List Loc) (ls : Array Slot), xST (dC, dI) (fun q => s.heap.size ≤ q) ad ca am cm oa oc H → va_S (fun q => s.heap.size ≤ q) s.heap H locs → lv_has ls 8 [(4, .int (nI (4 * i9))), (0, .ref b), (1, .ref (ad 0)), (2, .ref (am 0)), (3, .ref oa)] → W p l e room_1 s m #[.ref b] below meth c H locs (cells + 1) (slots + 6) Q (F0 m 601 ls []))) : W p l e room_1 s m #[.ref b] below meth c H locs cells slots Q (F0 m 464 ls []) := by
  have hA : ∀ q : Nat, s.heap.size ≤ q → (fun q => s.heap.size ≤ q) q := fun q h => h
  have hbA : ¬ (fun q => s.heap.size ≤ q) b := Nat.not_le.mpr hbl
  obtain ⟨hI1, hI2, hI3⟩ := hI
  have hI := And.intro hI1 (And.intro hI2 hI3)
  have hI : xI kf vf w op ln tf nb ef ff mk mv mt fr sf gi mq ny mb mo n Lb lr := hI
  obtain ⟨hn, rfl, rfl, hup, -, -⟩ := hI1
  obtain ⟨hLb, rfl, rfl, -, hfit⟩ := hI2
  obtain ⟨ho1, ho2, -, ho4⟩ := xI_open hI
  have hcm : cells + 1 + 0 ≤ room_1.cells := hc1
  have hsm : slots + 6 + 0 ≤ room_1.slots := hs1
  refine lv_aload_n hx hb dL_law_464 rfl (lv_at hl 2 rfl) ?_
  refine lv_aload_n hx hb dL_law_465 rfl (lv_at hl 1 rfl) ?_
  refine lv_iload hx hb dL_law_466 (lv_at hl 0 rfl) ?_
  refine lv_iconst (v := nI 1) hx hb dL_law_468 (by decide) ?_
  refine lv_iadd hx hb dL_law_469 ?_
  refine lv_topi (fun z1 ez1 => ?_)
  have ez1 : z1 = nI (4 * i9 + 1) := ez1.trans (nI_add _ _)
  subst ez1
  refine va_sld hx hb hX hbl hbA hS (vp_in_nI (by omega) (by omega)) dL_law_470 ?_
  refine lv_topi (fun z2 ez2 => ?_)
  have ez2 : z2 = xs (4 * i9 + 1) := ez2.trans (congrArg xs (nI_clamp (by omega)))
  subst ez2
  refine lv_aload_n hx hb dL_law_471 rfl (lv_at hl 4 rfl) ?_
  have hP1 : va_P (dC, dI) vwCl (xw ad ca kf vf bf (nI n) op (nI Lb) nx en ok tf nb ef ff fi ek ev ++ [(oa, .inl (oc, 1, .inr (.inl of)))]) H := hP.sub [0, 1, 2, 3, 4, 5, 6, 7, 8, 9, 19] rfl
  have hP2 : va_P (dC, dI) vwCl (xm am cm mk mv mt fr sf gi bk bv (nI n) (nI Lb) mb mn ai me th mo wr) H := hP.sub [10, 11, 12, 13, 14, 15, 16, 17, 18] rfl
  have hD2 : va_D (fun q => s.heap.size ≤ q) ((xw ad ca kf vf bf (nI n) op (nI Lb) nx en ok tf nb ef ff fi ek ev ++ [(oa, .inl (oc, 1, .inr (.inl of)))]) ++ xm am cm mk mv mt fr sf gi bk bv (nI n) (nI Lb) mb mn ai me th mo wr) := hD.sub [0, 1, 2, 3, 4, 5, 6, 7, 8, 9, 19, 10, 11, 12, 13, 14, 15, 16, 17, 18] rfl rfl
  have hK1 := va_K.app hKx hKo
  refine xf_i (vx_runSW (As := [.ref (ad 0), .int (xs (4 * i9 + 1)), .ref oa]) (rest := []) ⟨hx, hb, hml, hown, hts⟩ (cL_entries_m l hnt dC dI ca ad kf vf bf (nI n) op (nI Lb) nx en ok tf nb ef ff fi ek ev oa oc of lr (xs (4 * i9 + 1)) ho1 _) (vx_cwSW 3 hts (xg_in (xg_c mb_methodLink_RL_87 (xg_c mb_static_yL_entries (xg_c mb_initialized_RL (xg_c (wsG_t (i := 438) rfl rfl) (fun _ h => h)))))) rfl rfl rfl ⟨by decide, by decide, by decide +kernel⟩ ⟨Nat.le_of_ble_eq_true rfl, Nat.le_of_ble_eq_true rfl⟩) (xpreS (wd := xw ad ca kf vf bf (nI n) op (nI Lb) nx en ok tf nb ef ff fi ek ev ++ [(oa, .inl (oc, 1, .inr (.inl of)))]) hK1 hP1 (xf_l hD2) hS hA hE) rfl rfl hl.1 rfl (lv_room (Nat.le_of_ble_eq_true rfl)) dL_law_472 ⟨hc1, hs1⟩) hD2 hP2 hS hA (fun r u H locs hu _ hP hD hS => ?_)
  have hP : va_P (dC, dI) vwCl (xw ad ca kf vf bf (nI n) op (nI Lb) u.1.1 u.1.2.1 u.1.2.2.1 tf nb ef ff u.1.2.2.2.1 u.1.2.2.2.2.1 u.1.2.2.2.2.2 ++ (xm am cm mk mv mt fr sf gi bk bv (nI n) (nI Lb) mb mn ai me th mo wr ++ [(oa, .inl (oc, 1, .inr (.inl u.2)))])) H := hP.sub [0, 1, 2, 3, 4, 5, 6, 7, 8, 9, 11, 12, 13, 14, 15, 16, 17, 18, 19, 10] rfl
  have hD : va_D (fun q => s.heap.size ≤ q) (xw ad ca kf vf bf (nI n) op (nI Lb) u.1.1 u.1.2.1 u.1.2.2.1 tf nb ef ff u.1.2.2.2.1 u.1.2.2.2.2.1 u.1.2.2.2.2.2 ++ (xm am cm mk mv mt fr sf gi bk bv (nI n) (nI Lb) mb mn ai me th mo wr ++ [(oa, .inl (oc, 1, .inr (.inl u.2)))])) := hD.sub [0, 1, 2, 3, 4, 5, 6, 7, 8, 9, 11, 12, 13, 14, 15, 16, 17, 18, 19, 10] rfl rfl
  refine lv_istore hx hb dL_law_475 hl (by decide) rfl (fun ls hl => ?_)
  have hl : lv_has ls 8 [(5, .int r), (4, .int (nI (4 * i9))), (0, .ref b), (1, .ref (ad 0)), (2, .ref (am 0)), (3, .ref oa)] := hl
  refine lv_aload_n hx hb dL_law_477 rfl (lv_at hl 4 rfl) ?_
  refine lv_aload_n hx hb dL_law_478 rfl (lv_at hl 2 rfl) ?_
  refine lv_iload hx hb dL_law_479 (lv_at hl 1 rfl) ?_
  refine lv_iconst (v := nI 1) hx hb dL_law_481 (by decide) ?_
  refine lv_iadd hx hb dL_law_482 ?_
  refine lv_topi (fun z3 ez3 => ?_)
  have ez3 : z3 = nI (4 * i9 + 1) := ez3.trans (nI_add _ _)
  subst ez3
  refine va_sld hx hb hX hbl hbA hS (vp_in_nI (by omega) (by omega)) dL_law_483 ?_
  refine lv_topi (fun z4 ez4 => ?_)
  have ez4 : z4 = xs (4 * i9 + 1) := ez4.trans (congrArg xs (nI_clamp (by omega)))
  subst ez4
  have hP1 : va_P (dC, dI) vwCl (xm am cm mk mv mt fr sf gi bk bv (nI n) (nI Lb) mb mn ai me th mo wr) H := hP.sub [10, 11, 12, 13, 14, 15, 16, 17, 18] rfl
  have hP2 : va_P (dC, dI) vwCl (xw ad ca kf vf bf (nI n) op (nI Lb) u.1.1 u.1.2.1 u.1.2.2.1 tf nb ef ff u.1.2.2.2.1 u.1.2.2.2.2.1 u.1.2.2.2.2.2 ++ [(oa, .inl (oc, 1, .inr (.inl u.2)))]) H := hP.sub [0, 1, 2, 3, 4, 5, 6, 7, 8, 9, 19] rfl
  have hD2 : va_D (fun q => s.heap.size ≤ q) (xm am cm mk mv mt fr sf gi bk bv (nI n) (nI Lb) mb mn ai me th mo wr ++ (xw ad ca kf vf bf (nI n) op (nI Lb) u.1.1 u.1.2.1 u.1.2.2.1 tf nb ef ff u.1.2.2.2.1 u.1.2.2.2.2.1 u.1.2.2.2.2.2 ++ [(oa, .inl (oc, 1, .inr (.inl u.2)))])) := hD.sub [10, 11, 12, 13, 14, 15, 16, 17, 18, 0, 1, 2, 3, 4, 5, 6, 7, 8, 9, 19] rfl rfl
  refine xf_i (va_runV (As := [.int (xs (4 * i9 + 1))]) (rest := []) ⟨hx, hb, hml, hown, hts⟩ (cX4_entries_m l dC dI cm am mk mv mt fr sf gi bk bv (nI n) (nI Lb) mb mn ai me th mo wr lr (xs (4 * i9 + 1)) hfit ho2 _) (cwV 1 hts (xg_V mb_methodLink_RL_89 mb_instanceMethod_yX4_entries mb_selects_yX4_entries mb_initialized_RX4 mb_code_yX4_entries) rfl rfl rfl ⟨rfl, by decide, by decide, by decide +kernel⟩ ⟨Nat.le_of_ble_eq_true rfl, Nat.le_of_ble_eq_true rfl⟩) (xpreV (va_recv (q0 := 0) hKm hP1 rfl rfl) hKm hP1 (xf_l hD2) hS hA hE) rfl rfl hl.1 rfl (lv_room (Nat.le_of_ble_eq_true rfl)) dL_law_484 ⟨hcm, hsm⟩) hD2 hP2 hS hA (fun r2 u2 H locs hu2 _ hP hD hS => ?_)
  have hP : va_P (dC, dI) vwCl (xw ad ca kf vf bf (nI n) op (nI Lb) u.1.1 u.1.2.1 u.1.2.2.1 tf nb ef ff u.1.2.2.2.1 u.1.2.2.2.2.1 u.1.2.2.2.2.2 ++ (xm am cm mk mv mt fr sf gi u2.2.1 u2.2.2.1 (nI n) (nI Lb) mb u2.2.2.2.1 u2.2.2.2.2.1 u2.2.2.2.2.2.1 u2.1 mo u2.2.2.2.2.2.2 ++ [(oa, .inl (oc, 1, .inr (.inl u.2)))])) H := hP.sub [9, 10, 11, 12, 13, 14, 15, 16, 17, 18, 0, 1, 2, 3, 4, 5, 6, 7, 8, 19] rfl
  have hD : va_D (fun q => s.heap.size ≤ q) (xw ad ca kf vf bf (nI n) op (nI Lb) u.1.1 u.1.2.1 u.1.2.2.1 tf nb ef ff u.1.2.2.2.1 u.1.2.2.2.2.1 u.1.2.2.2.2.2 ++ (xm am cm mk mv mt fr sf gi u2.2.1 u2.2.2.1 (nI n) (nI Lb) mb u2.2.2.2.1 u2.2.2.2.2.1 u2.2.2.2.2.2.1 u2.1 mo u2.2.2.2.2.2.2 ++ [(oa, .inl (oc, 1, .inr (.inl u.2)))])) := hD.sub [9, 10, 11, 12, 13, 14, 15, 16, 17, 18, 0, 1, 2, 3, 4, 5, 6, 7, 8, 19] rfl rfl
  obtain ⟨hth, hou⟩ := xI_entries hI hu hu2
  refine lv_istore hx hb dL_law_487 hl (by decide) rfl (fun ls hl => ?_)
  have hl : lv_has ls 8 [(6, .int r2), (5, .int r), (4, .int (nI (4 * i9))), (0, .ref b), (1, .ref (ad 0)), (2, .ref (am 0)), (3, .ref oa)] := hl
  refine lv_aload_n hx hb dL_law_489 rfl (lv_at hl 5 rfl) ?_
  have hP1 : va_P (dC, dI) vwCl (xm am cm mk mv mt fr sf gi u2.2.1 u2.2.2.1 (nI n) (nI Lb) mb u2.2.2.2.1 u2.2.2.2.2.1 u2.2.2.2.2.2.1 u2.1 mo u2.2.2.2.2.2.2) H := hP.sub [10, 11, 12, 13, 14, 15, 16, 17, 18] rfl
  have hP2 : va_P (dC, dI) vwCl (xw ad ca kf vf bf (nI n) op (nI Lb) u.1.1 u.1.2.1 u.1.2.2.1 tf nb ef ff u.1.2.2.2.1 u.1.2.2.2.2.1 u.1.2.2.2.2.2 ++ [(oa, .inl (oc, 1, .inr (.inl u.2)))]) H := hP.sub [0, 1, 2, 3, 4, 5, 6, 7, 8, 9, 19] rfl
  have hD2 : va_D (fun q => s.heap.size ≤ q) (xm am cm mk mv mt fr sf gi u2.2.1 u2.2.2.1 (nI n) (nI Lb) mb u2.2.2.2.1 u2.2.2.2.2.1 u2.2.2.2.2.2.1 u2.1 mo u2.2.2.2.2.2.2 ++ (xw ad ca kf vf bf (nI n) op (nI Lb) u.1.1 u.1.2.1 u.1.2.2.1 tf nb ef ff u.1.2.2.2.1 u.1.2.2.2.2.1 u.1.2.2.2.2.2 ++ [(oa, .inl (oc, 1, .inr (.inl u.2)))])) := hD.sub [10, 11, 12, 13, 14, 15, 16, 17, 18, 0, 1, 2, 3, 4, 5, 6, 7, 8, 9, 19] rfl rfl
  refine xf_i (va_runV (As := []) (rest := []) ⟨hx, hb, hml, hown, hts⟩ (cX4_thrown_m l dC dI cm am mk mv mt fr sf gi u2.2.1 u2.2.2.1 (nI n) (nI Lb) mb u2.2.2.2.1 u2.2.2.2.2.1 u2.2.2.2.2.2.1 u2.1 mo u2.2.2.2.2.2.2  _) (cwV 0 hts (xg_V mb_methodLink_RL_61 mb_instanceMethod_yX4_thrown mb_selects_yX4_thrown mb_initialized_RX4 mb_code_yX4_thrown) rfl rfl rfl ⟨rfl, by decide, by decide, by decide +kernel⟩ ⟨Nat.le_of_ble_eq_true rfl, Nat.le_of_ble_eq_true rfl⟩) (xpreV (va_recv (q0 := 0) hKm hP1 rfl rfl) hKm hP1 (xf_l hD2) hS hA hE) rfl rfl hl.1 rfl (lv_room (Nat.le_of_ble_eq_true rfl)) dL_law_490 ⟨hcm, hsm⟩) hD2 hP2 hS hA (fun r3 u3 H locs hu3 _ hP hD hS => ?_)
  subst hu3
  have hP : va_P (dC, dI) vwCl (xw ad ca kf vf bf (nI n) op (nI Lb) u.1.1 u.1.2.1 u.1.2.2.1 tf nb ef ff u.1.2.2.2.1 u.1.2.2.2.2.1 u.1.2.2.2.2.2 ++ (xm am cm mk mv mt fr sf gi u2.2.1 u2.2.2.1 (nI n) (nI Lb) mb u2.2.2.2.1 u2.2.2.2.2.1 u2.2.2.2.2.2.1 u2.1 mo u2.2.2.2.2.2.2 ++ [(oa, .inl (oc, 1, .inr (.inl u.2)))])) H := hP.sub [9, 10, 11, 12, 13, 14, 15, 16, 17, 18, 0, 1, 2, 3, 4, 5, 6, 7, 8, 19] rfl
  have hD : va_D (fun q => s.heap.size ≤ q) (xw ad ca kf vf bf (nI n) op (nI Lb) u.1.1 u.1.2.1 u.1.2.2.1 tf nb ef ff u.1.2.2.2.1 u.1.2.2.2.2.1 u.1.2.2.2.2.2 ++ (xm am cm mk mv mt fr sf gi u2.2.1 u2.2.2.1 (nI n) (nI Lb) mb u2.2.2.2.1 u2.2.2.2.2.1 u2.2.2.2.2.2.1 u2.1 mo u2.2.2.2.2.2.2 ++ [(oa, .inl (oc, 1, .inr (.inl u.2)))])) := hD.sub [9, 10, 11, 12, 13, 14, 15, 16, 17, 18, 0, 1, 2, 3, 4, 5, 6, 7, 8, 19] rfl rfl
  refine lv_iload hx hb dL_law_493 (lv_at hl 1 rfl) ?_
  refine lv_icmp_eq (tgt := 500) hx hb dL_law_495 rfl (fun hq => ?_) (fun hq => absurd hq (not_not_intro (hth)))
  refine lv_iload hx hb dL_law_500 (lv_at hl 1 rfl) ?_
  refine lv_if_ne (tgt := 517) hx hb dL_law_502 rfl (fun hnz => ?_) (fun hz => ?_)
  · refine lv_goto (tgt := 601) hx hb dL_law_517 rfl ?_
    exact kk H locs ls ⟨kf, vf, bf, nI n, op, nI Lb, u.1.1, u.1.2.1, u.1.2.2.1, tf, nb, ef, ff, u.1.2.2.2.1, u.1.2.2.2.2.1, u.1.2.2.2.2.2, mk, mv, mt, fr, sf, gi, u2.2.1, u2.2.2.1, nI n, nI Lb, mb, u2.2.2.2.1, u2.2.2.2.2.1, u2.2.2.2.2.2.1, u2.1, mo, u2.2.2.2.2.2.2, u.2, n, Lb, lr, hI, hP, hD⟩ hS (lv_sub hl [2, 3, 4, 5, 6] rfl)
  · have ho0 := hou hz
    refine lv_aload_n hx hb dL_law_505 rfl (lv_at hl 6 rfl) ?_
    refine lv_iconst (v := nI 0) hx hb dL_law_506 (by decide) ?_
    refine va_lald hx hb hKo hP 19 0 rfl rfl (vp_in_nI (by decide) (by decide)) dL_law_507 ?_
    refine lv_topl (fun z5 ez5 => ?_)
    have ez5 : z5 = u.2 0 := ez5.trans (congrArg u.2 (nI_clamp (by decide)))
    subst ez5
    refine lv_iload hx hb dL_law_508 (lv_at hl 0 rfl) ?_
    refine lv_i2l (v := r2.toInt64) hx hb dL_law_510 (rfl) ?_
    refine W.lcmp hx hb dL_law_511 ?_
    refine lv_if_eq (tgt := 517) hx hb dL_law_512 rfl (fun hq => ?_) (fun hq => absurd hq (not_not_intro (lc_eq.mpr ho0)))
    refine lv_goto (tgt := 601) hx hb dL_law_517 rfl ?_
    exact kk H locs ls ⟨kf, vf, bf, nI n, op, nI Lb, u.1.1, u.1.2.1, u.1.2.2.1, tf, nb, ef, ff, u.1.2.2.2.1, u.1.2.2.2.2.1, u.1.2.2.2.2.2, mk, mv, mt, fr, sf, gi, u2.2.1, u2.2.2.1, nI n, nI Lb, mb, u2.2.2.2.1, u2.2.2.2.2.1, u2.2.2.2.2.2.1, u2.1, mo, u2.2.2.2.2.2.2, u.2, n, Lb, lr, hI, hP, hD⟩ hS (lv_sub hl [2, 3, 4, 5, 6] rfl)

set_option maxHeartbeats 4000000 in
set_option maxRecDepth 100000 in
theorem cs_key {p : Program} {l : Launch} {e : Env} {s : State} {m : MethodId} {below : List Frame} {meth : Method} {c : Code} {Q : State → Prop} {dC : Nat → ClassId} {dI : Nat → Nat → Nat} {ca cm : Nat → ClassId} {ad am : Nat → Nat} {oa : Nat} {oc : ClassId} {b Ls : Nat} {xs : Nat → Int32} (hx : p.tables.exec = Jvm.exec) (hb : c.code = code) (hml : c.maxLocals = 8) (hown : s.vm.findClass RL = some m.cls) (hts : ∀ w ∈ wsL0, w.before #[.ref b] s = true) (hX : va_X b Ls xs s s.heap) (hbl : b < s.heap.size) (hE : xn_E (fun q => s.heap.size ≤ q) s) (hnt : l.stackTraces = false) (hKx : va_K (dC, dI) vwCl (xt ca) s) (hKm : va_K (dC, dI) vwCl (xt cm) s) (hKo : va_K (dC, dI) vwCl [(oc, .long)] s) {kf : Nat → Int32} {vf : Nat → Int64} {bf : Nat → Int32} {w : Int32} {op : Int32} {ln : Int32} {nx : Int32} {en : Int32} {ok : Int32} {tf : Nat → Int32} {nb : Int32} {ef : Nat → Int32} {ff : Nat → Int32} {fi : Int32} {ek : Int32} {ev : Int64} {mk : Nat → Int32} {mv : Nat → Int64} {mt : Nat → Int32} {fr : Nat → Int32} {sf : Nat → Int32} {gi : Nat → Int32} {bk : Nat → Int32} {bv : Nat → Int64} {mq : Int32} {ny : Int32} {mb : Int32} {mn : Int32} {ai : Int32} {me : Int32} {th : Int32} {mo : Int32} {wr : Int32} {of : Nat → Int64} {n Lb : Nat} {lr : List (Nat × Nat)} {i9 cells slots : Nat} {H : Heap} {locs : List Loc} {ls : Array Slot} (hI : xI kf vf w op ln tf nb ef ff mk mv mt fr sf gi mq ny mb mo n Lb lr) (hi : 4 * i9 + 3 < Ls) (hLs : Ls ≤ 2048) (hc1 : cells + 1 ≤ room_1.cells) (hs1 : slots + 6 ≤ room_1.slots) (hP : va_P (dC, dI) vwCl (xw ad ca kf vf bf w op ln nx en ok tf nb ef ff fi ek ev ++ (xm am cm mk mv mt fr sf gi bk bv mq ny mb mn ai me th mo wr ++ [(oa, .inl (oc, 1, .inr (.inl of)))])) H) (hD : va_D (fun q => s.heap.size ≤ q) (xw ad ca kf vf bf w op ln nx en ok tf nb ef ff fi ek ev ++ (xm am cm mk mv mt fr sf gi bk bv mq ny mb mn ai me th mo wr ++ [(oa, .inl (oc, 1, .inr (.inl of)))]))) (hS : va_S (fun q => s.heap.size ≤ q) s.heap H locs) (hl : lv_has ls 8 [(4, .int (nI (4 * i9))), (0, .ref b), (1, .ref (ad 0)), (2, .ref (am 0)), (3, .ref oa)]) (kk : (∀ (H : Heap) (locs : List Loc) (ls : Array Slot), xST (dC, dI) (fun q => s.heap.size ≤ q) ad ca am cm oa oc H → va_S (fun q => s.heap.size ≤ q) s.heap H locs → lv_has ls 8 [(4, .int (nI (4 * i9))), (0, .ref b), (1, .ref (ad 0)), (2, .ref (am 0)), (3, .ref oa)] → W p l e room_1 s m #[.ref b] below meth c H locs (cells + 1) (slots + 6) Q (F0 m 601 ls []))) : W p l e room_1 s m #[.ref b] below meth c H locs cells slots Q (F0 m 520 ls []) := by
  have hA : ∀ q : Nat, s.heap.size ≤ q → (fun q => s.heap.size ≤ q) q := fun q h => h
  have hbA : ¬ (fun q => s.heap.size ≤ q) b := Nat.not_le.mpr hbl
  obtain ⟨hI1, hI2, hI3⟩ := hI
  have hI := And.intro hI1 (And.intro hI2 hI3)
  have hI : xI kf vf w op ln tf nb ef ff mk mv mt fr sf gi mq ny mb mo n Lb lr := hI
  obtain ⟨hn, rfl, rfl, hup, -, -⟩ := hI1
  obtain ⟨hLb, rfl, rfl, -, hfit⟩ := hI2
  obtain ⟨ho1, ho2, -, ho4⟩ := xI_open hI
  have hcm : cells + 1 + 0 ≤ room_1.cells := hc1
  have hsm : slots + 6 + 0 ≤ room_1.slots := hs1
  refine lv_aload_n hx hb dL_law_520 rfl (lv_at hl 2 rfl) ?_
  refine lv_aload_n hx hb dL_law_521 rfl (lv_at hl 1 rfl) ?_
  refine lv_iload hx hb dL_law_522 (lv_at hl 0 rfl) ?_
  refine lv_iconst (v := nI 1) hx hb dL_law_524 (by decide) ?_
  refine lv_iadd hx hb dL_law_525 ?_
  refine lv_topi (fun z1 ez1 => ?_)
  have ez1 : z1 = nI (4 * i9 + 1) := ez1.trans (nI_add _ _)
  subst ez1
  refine va_sld hx hb hX hbl hbA hS (vp_in_nI (by omega) (by omega)) dL_law_526 ?_
  refine lv_topi (fun z2 ez2 => ?_)
  have ez2 : z2 = xs (4 * i9 + 1) := ez2.trans (congrArg xs (nI_clamp (by omega)))
  subst ez2
  refine lv_aload_n hx hb dL_law_527 rfl (lv_at hl 1 rfl) ?_
  refine lv_iload hx hb dL_law_528 (lv_at hl 0 rfl) ?_
  refine lv_iconst (v := nI 2) hx hb dL_law_530 (by decide) ?_
  refine lv_iadd hx hb dL_law_531 ?_
  refine lv_topi (fun z3 ez3 => ?_)
  have ez3 : z3 = nI (4 * i9 + 2) := ez3.trans (nI_add _ _)
  subst ez3
  refine va_sld hx hb hX hbl hbA hS (vp_in_nI (by omega) (by omega)) dL_law_532 ?_
  refine lv_topi (fun z4 ez4 => ?_)
  have ez4 : z4 = xs (4 * i9 + 2) := ez4.trans (congrArg xs (nI_clamp (by omega)))
  subst ez4
  refine lv_aload_n hx hb dL_law_533 rfl (lv_at hl 4 rfl) ?_
  have hP1 : va_P (dC, dI) vwCl (xw ad ca kf vf bf (nI n) op (nI Lb) nx en ok tf nb ef ff fi ek ev ++ [(oa, .inl (oc, 1, .inr (.inl of)))]) H := hP.sub [0, 1, 2, 3, 4, 5, 6, 7, 8, 9, 19] rfl
  have hP2 : va_P (dC, dI) vwCl (xm am cm mk mv mt fr sf gi bk bv (nI n) (nI Lb) mb mn ai me th mo wr) H := hP.sub [10, 11, 12, 13, 14, 15, 16, 17, 18] rfl
  have hD2 : va_D (fun q => s.heap.size ≤ q) ((xw ad ca kf vf bf (nI n) op (nI Lb) nx en ok tf nb ef ff fi ek ev ++ [(oa, .inl (oc, 1, .inr (.inl of)))]) ++ xm am cm mk mv mt fr sf gi bk bv (nI n) (nI Lb) mb mn ai me th mo wr) := hD.sub [0, 1, 2, 3, 4, 5, 6, 7, 8, 9, 19, 10, 11, 12, 13, 14, 15, 16, 17, 18] rfl rfl
  have hK1 := va_K.app hKx hKo
  refine xf_i (vx_runSW (As := [.ref (ad 0), .int (xs (4 * i9 + 1)), .int (xs (4 * i9 + 2)), .ref oa]) (rest := []) ⟨hx, hb, hml, hown, hts⟩ (cL_key_m l hnt dC dI ca ad kf vf bf (nI n) op (nI Lb) nx en ok tf nb ef ff fi ek ev oa oc of lr (xs (4 * i9 + 1)) (xs (4 * i9 + 2)) ho1 _) (vx_cwSW 4 hts (xg_in (xg_c mb_methodLink_RL_90 (xg_c mb_static_yL_key (xg_c mb_initialized_RL (xg_c (wsG_t (i := 450) rfl rfl) (fun _ h => h)))))) rfl rfl rfl ⟨by decide, by decide, by decide +kernel⟩ ⟨Nat.le_of_ble_eq_true rfl, Nat.le_of_ble_eq_true rfl⟩) (xpreS (wd := xw ad ca kf vf bf (nI n) op (nI Lb) nx en ok tf nb ef ff fi ek ev ++ [(oa, .inl (oc, 1, .inr (.inl of)))]) hK1 hP1 (xf_l hD2) hS hA hE) rfl rfl hl.1 rfl (lv_room (Nat.le_of_ble_eq_true rfl)) dL_law_534 ⟨hc1, hs1⟩) hD2 hP2 hS hA (fun r u H locs hu _ hP hD hS => ?_)
  have hP : va_P (dC, dI) vwCl (xw ad ca kf vf bf (nI n) op (nI Lb) u.1.1 u.1.2.1 u.1.2.2.1 tf nb ef ff u.1.2.2.2.1 u.1.2.2.2.2.1 u.1.2.2.2.2.2 ++ (xm am cm mk mv mt fr sf gi bk bv (nI n) (nI Lb) mb mn ai me th mo wr ++ [(oa, .inl (oc, 1, .inr (.inl u.2)))])) H := hP.sub [0, 1, 2, 3, 4, 5, 6, 7, 8, 9, 11, 12, 13, 14, 15, 16, 17, 18, 19, 10] rfl
  have hD : va_D (fun q => s.heap.size ≤ q) (xw ad ca kf vf bf (nI n) op (nI Lb) u.1.1 u.1.2.1 u.1.2.2.1 tf nb ef ff u.1.2.2.2.1 u.1.2.2.2.2.1 u.1.2.2.2.2.2 ++ (xm am cm mk mv mt fr sf gi bk bv (nI n) (nI Lb) mb mn ai me th mo wr ++ [(oa, .inl (oc, 1, .inr (.inl u.2)))])) := hD.sub [0, 1, 2, 3, 4, 5, 6, 7, 8, 9, 11, 12, 13, 14, 15, 16, 17, 18, 19, 10] rfl rfl
  refine lv_istore hx hb dL_law_537 hl (by decide) rfl (fun ls hl => ?_)
  have hl : lv_has ls 8 [(5, .int r), (4, .int (nI (4 * i9))), (0, .ref b), (1, .ref (ad 0)), (2, .ref (am 0)), (3, .ref oa)] := hl
  refine lv_aload_n hx hb dL_law_539 rfl (lv_at hl 4 rfl) ?_
  refine lv_aload_n hx hb dL_law_540 rfl (lv_at hl 2 rfl) ?_
  refine lv_iload hx hb dL_law_541 (lv_at hl 1 rfl) ?_
  refine lv_iconst (v := nI 1) hx hb dL_law_543 (by decide) ?_
  refine lv_iadd hx hb dL_law_544 ?_
  refine lv_topi (fun z5 ez5 => ?_)
  have ez5 : z5 = nI (4 * i9 + 1) := ez5.trans (nI_add _ _)
  subst ez5
  refine va_sld hx hb hX hbl hbA hS (vp_in_nI (by omega) (by omega)) dL_law_545 ?_
  refine lv_topi (fun z6 ez6 => ?_)
  have ez6 : z6 = xs (4 * i9 + 1) := ez6.trans (congrArg xs (nI_clamp (by omega)))
  subst ez6
  refine lv_aload_n hx hb dL_law_546 rfl (lv_at hl 2 rfl) ?_
  refine lv_iload hx hb dL_law_547 (lv_at hl 1 rfl) ?_
  refine lv_iconst (v := nI 2) hx hb dL_law_549 (by decide) ?_
  refine lv_iadd hx hb dL_law_550 ?_
  refine lv_topi (fun z7 ez7 => ?_)
  have ez7 : z7 = nI (4 * i9 + 2) := ez7.trans (nI_add _ _)
  subst ez7
  refine va_sld hx hb hX hbl hbA hS (vp_in_nI (by omega) (by omega)) dL_law_551 ?_
  refine lv_topi (fun z8 ez8 => ?_)
  have ez8 : z8 = xs (4 * i9 + 2) := ez8.trans (congrArg xs (nI_clamp (by omega)))
  subst ez8
  have hP1 : va_P (dC, dI) vwCl (xm am cm mk mv mt fr sf gi bk bv (nI n) (nI Lb) mb mn ai me th mo wr) H := hP.sub [10, 11, 12, 13, 14, 15, 16, 17, 18] rfl
  have hP2 : va_P (dC, dI) vwCl (xw ad ca kf vf bf (nI n) op (nI Lb) u.1.1 u.1.2.1 u.1.2.2.1 tf nb ef ff u.1.2.2.2.1 u.1.2.2.2.2.1 u.1.2.2.2.2.2 ++ [(oa, .inl (oc, 1, .inr (.inl u.2)))]) H := hP.sub [0, 1, 2, 3, 4, 5, 6, 7, 8, 9, 19] rfl
  have hD2 : va_D (fun q => s.heap.size ≤ q) (xm am cm mk mv mt fr sf gi bk bv (nI n) (nI Lb) mb mn ai me th mo wr ++ (xw ad ca kf vf bf (nI n) op (nI Lb) u.1.1 u.1.2.1 u.1.2.2.1 tf nb ef ff u.1.2.2.2.1 u.1.2.2.2.2.1 u.1.2.2.2.2.2 ++ [(oa, .inl (oc, 1, .inr (.inl u.2)))])) := hD.sub [10, 11, 12, 13, 14, 15, 16, 17, 18, 0, 1, 2, 3, 4, 5, 6, 7, 8, 9, 19] rfl rfl
  refine xf_i (va_runV (As := [.int (xs (4 * i9 + 1)), .int (xs (4 * i9 + 2))]) (rest := []) ⟨hx, hb, hml, hown, hts⟩ (cX4_key_m l dC dI cm am mk mv mt fr sf gi bk bv (nI n) (nI Lb) mb mn ai me th mo wr lr (xs (4 * i9 + 1)) (xs (4 * i9 + 2)) hfit ho2 _) (cwV 2 hts (xg_V mb_methodLink_RL_92 mb_instanceMethod_yX4_key mb_selects_yX4_key mb_initialized_RX4 mb_code_yX4_key) rfl rfl rfl ⟨rfl, by decide, by decide, by decide +kernel⟩ ⟨Nat.le_of_ble_eq_true rfl, Nat.le_of_ble_eq_true rfl⟩) (xpreV (va_recv (q0 := 0) hKm hP1 rfl rfl) hKm hP1 (xf_l hD2) hS hA hE) rfl rfl hl.1 rfl (lv_room (Nat.le_of_ble_eq_true rfl)) dL_law_552 ⟨hcm, hsm⟩) hD2 hP2 hS hA (fun r2 u2 H locs hu2 _ hP hD hS => ?_)
  have hP : va_P (dC, dI) vwCl (xw ad ca kf vf bf (nI n) op (nI Lb) u.1.1 u.1.2.1 u.1.2.2.1 tf nb ef ff u.1.2.2.2.1 u.1.2.2.2.2.1 u.1.2.2.2.2.2 ++ (xm am cm mk mv mt fr sf gi u2.2.1 u2.2.2.1 (nI n) (nI Lb) mb u2.2.2.2.1 u2.2.2.2.2.1 u2.2.2.2.2.2.1 u2.1 mo u2.2.2.2.2.2.2 ++ [(oa, .inl (oc, 1, .inr (.inl u.2)))])) H := hP.sub [9, 10, 11, 12, 13, 14, 15, 16, 17, 18, 0, 1, 2, 3, 4, 5, 6, 7, 8, 19] rfl
  have hD : va_D (fun q => s.heap.size ≤ q) (xw ad ca kf vf bf (nI n) op (nI Lb) u.1.1 u.1.2.1 u.1.2.2.1 tf nb ef ff u.1.2.2.2.1 u.1.2.2.2.2.1 u.1.2.2.2.2.2 ++ (xm am cm mk mv mt fr sf gi u2.2.1 u2.2.2.1 (nI n) (nI Lb) mb u2.2.2.2.1 u2.2.2.2.2.1 u2.2.2.2.2.2.1 u2.1 mo u2.2.2.2.2.2.2 ++ [(oa, .inl (oc, 1, .inr (.inl u.2)))])) := hD.sub [9, 10, 11, 12, 13, 14, 15, 16, 17, 18, 0, 1, 2, 3, 4, 5, 6, 7, 8, 19] rfl rfl
  obtain ⟨hth, hou⟩ := xI_key hI hu hu2 (fun hop j lb hj hlb => by have z1 := pe_of_some hlb; have z2 := pe_bl_len _ _ _ _ _ z1.2; have z3 := px_sum_take lr (j + 1); have z4 := ho1 hop; omega)
  refine lv_istore hx hb dL_law_555 hl (by decide) rfl (fun ls hl => ?_)
  have hl : lv_has ls 8 [(6, .int r2), (5, .int r), (4, .int (nI (4 * i9))), (0, .ref b), (1, .ref (ad 0)), (2, .ref (am 0)), (3, .ref oa)] := hl
  refine lv_aload_n hx hb dL_law_557 rfl (lv_at hl 5 rfl) ?_
  have hP1 : va_P (dC, dI) vwCl (xm am cm mk mv mt fr sf gi u2.2.1 u2.2.2.1 (nI n) (nI Lb) mb u2.2.2.2.1 u2.2.2.2.2.1 u2.2.2.2.2.2.1 u2.1 mo u2.2.2.2.2.2.2) H := hP.sub [10, 11, 12, 13, 14, 15, 16, 17, 18] rfl
  have hP2 : va_P (dC, dI) vwCl (xw ad ca kf vf bf (nI n) op (nI Lb) u.1.1 u.1.2.1 u.1.2.2.1 tf nb ef ff u.1.2.2.2.1 u.1.2.2.2.2.1 u.1.2.2.2.2.2 ++ [(oa, .inl (oc, 1, .inr (.inl u.2)))]) H := hP.sub [0, 1, 2, 3, 4, 5, 6, 7, 8, 9, 19] rfl
  have hD2 : va_D (fun q => s.heap.size ≤ q) (xm am cm mk mv mt fr sf gi u2.2.1 u2.2.2.1 (nI n) (nI Lb) mb u2.2.2.2.1 u2.2.2.2.2.1 u2.2.2.2.2.2.1 u2.1 mo u2.2.2.2.2.2.2 ++ (xw ad ca kf vf bf (nI n) op (nI Lb) u.1.1 u.1.2.1 u.1.2.2.1 tf nb ef ff u.1.2.2.2.1 u.1.2.2.2.2.1 u.1.2.2.2.2.2 ++ [(oa, .inl (oc, 1, .inr (.inl u.2)))])) := hD.sub [10, 11, 12, 13, 14, 15, 16, 17, 18, 0, 1, 2, 3, 4, 5, 6, 7, 8, 9, 19] rfl rfl
  refine xf_i (va_runV (As := []) (rest := []) ⟨hx, hb, hml, hown, hts⟩ (cX4_thrown_m l dC dI cm am mk mv mt fr sf gi u2.2.1 u2.2.2.1 (nI n) (nI Lb) mb u2.2.2.2.1 u2.2.2.2.2.1 u2.2.2.2.2.2.1 u2.1 mo u2.2.2.2.2.2.2  _) (cwV 0 hts (xg_V mb_methodLink_RL_61 mb_instanceMethod_yX4_thrown mb_selects_yX4_thrown mb_initialized_RX4 mb_code_yX4_thrown) rfl rfl rfl ⟨rfl, by decide, by decide, by decide +kernel⟩ ⟨Nat.le_of_ble_eq_true rfl, Nat.le_of_ble_eq_true rfl⟩) (xpreV (va_recv (q0 := 0) hKm hP1 rfl rfl) hKm hP1 (xf_l hD2) hS hA hE) rfl rfl hl.1 rfl (lv_room (Nat.le_of_ble_eq_true rfl)) dL_law_558 ⟨hcm, hsm⟩) hD2 hP2 hS hA (fun r3 u3 H locs hu3 _ hP hD hS => ?_)
  subst hu3
  have hP : va_P (dC, dI) vwCl (xw ad ca kf vf bf (nI n) op (nI Lb) u.1.1 u.1.2.1 u.1.2.2.1 tf nb ef ff u.1.2.2.2.1 u.1.2.2.2.2.1 u.1.2.2.2.2.2 ++ (xm am cm mk mv mt fr sf gi u2.2.1 u2.2.2.1 (nI n) (nI Lb) mb u2.2.2.2.1 u2.2.2.2.2.1 u2.2.2.2.2.2.1 u2.1 mo u2.2.2.2.2.2.2 ++ [(oa, .inl (oc, 1, .inr (.inl u.2)))])) H := hP.sub [9, 10, 11, 12, 13, 14, 15, 16, 17, 18, 0, 1, 2, 3, 4, 5, 6, 7, 8, 19] rfl
  have hD : va_D (fun q => s.heap.size ≤ q) (xw ad ca kf vf bf (nI n) op (nI Lb) u.1.1 u.1.2.1 u.1.2.2.1 tf nb ef ff u.1.2.2.2.1 u.1.2.2.2.2.1 u.1.2.2.2.2.2 ++ (xm am cm mk mv mt fr sf gi u2.2.1 u2.2.2.1 (nI n) (nI Lb) mb u2.2.2.2.1 u2.2.2.2.2.1 u2.2.2.2.2.2.1 u2.1 mo u2.2.2.2.2.2.2 ++ [(oa, .inl (oc, 1, .inr (.inl u.2)))])) := hD.sub [9, 10, 11, 12, 13, 14, 15, 16, 17, 18, 0, 1, 2, 3, 4, 5, 6, 7, 8, 19] rfl rfl
  refine lv_iload hx hb dL_law_561 (lv_at hl 1 rfl) ?_
  refine lv_icmp_eq (tgt := 568) hx hb dL_law_563 rfl (fun hq => ?_) (fun hq => absurd hq (not_not_intro (hth)))
  refine lv_iload hx hb dL_law_568 (lv_at hl 1 rfl) ?_
  refine lv_if_ne (tgt := 585) hx hb dL_law_570 rfl (fun hnz => ?_) (fun hz => ?_)
  · refine lv_goto (tgt := 601) hx hb dL_law_585 rfl ?_
    exact kk H locs ls ⟨kf, vf, bf, nI n, op, nI Lb, u.1.1, u.1.2.1, u.1.2.2.1, tf, nb, ef, ff, u.1.2.2.2.1, u.1.2.2.2.2.1, u.1.2.2.2.2.2, mk, mv, mt, fr, sf, gi, u2.2.1, u2.2.2.1, nI n, nI Lb, mb, u2.2.2.2.1, u2.2.2.2.2.1, u2.2.2.2.2.2.1, u2.1, mo, u2.2.2.2.2.2.2, u.2, n, Lb, lr, hI, hP, hD⟩ hS (lv_sub hl [2, 3, 4, 5, 6] rfl)
  · have ho0 := hou hz
    refine lv_aload_n hx hb dL_law_573 rfl (lv_at hl 6 rfl) ?_
    refine lv_iconst (v := nI 0) hx hb dL_law_574 (by decide) ?_
    refine va_lald hx hb hKo hP 19 0 rfl rfl (vp_in_nI (by decide) (by decide)) dL_law_575 ?_
    refine lv_topl (fun z9 ez9 => ?_)
    have ez9 : z9 = u.2 0 := ez9.trans (congrArg u.2 (nI_clamp (by decide)))
    subst ez9
    refine lv_iload hx hb dL_law_576 (lv_at hl 0 rfl) ?_
    refine lv_i2l (v := r2.toInt64) hx hb dL_law_578 (rfl) ?_
    refine W.lcmp hx hb dL_law_579 ?_
    refine lv_if_eq (tgt := 585) hx hb dL_law_580 rfl (fun hq => ?_) (fun hq => absurd hq (not_not_intro (lc_eq.mpr ho0)))
    refine lv_goto (tgt := 601) hx hb dL_law_585 rfl ?_
    exact kk H locs ls ⟨kf, vf, bf, nI n, op, nI Lb, u.1.1, u.1.2.1, u.1.2.2.1, tf, nb, ef, ff, u.1.2.2.2.1, u.1.2.2.2.2.1, u.1.2.2.2.2.2, mk, mv, mt, fr, sf, gi, u2.2.1, u2.2.2.1, nI n, nI Lb, mb, u2.2.2.2.1, u2.2.2.2.2.1, u2.2.2.2.2.2.1, u2.1, mo, u2.2.2.2.2.2.2, u.2, n, Lb, lr, hI, hP, hD⟩ hS (lv_sub hl [2, 3, 4, 5, 6] rfl)
