/-! the law's start (rows by wip/whole/wlaw4.py) -/
set_option maxHeartbeats 4000000 in
set_option maxRecDepth 100000 in
theorem whole_start {p : Program} {e : Env} {s : State} {m : MethodId} {below : List Frame} {meth : Method} {c : Code} (l : Launch) (hnt : l.stackTraces = false) {b L : Nat} {xs : Nat → Int32} (hL : L ≤ 2048) (C0 : lw_At p s m meth c b L xs) : W p l e room_1 s m #[Value.ref b] below meth c s.heap [] 0 0 (lw_Z below #[Value.ref b] s) (entryFrame m ([Value.ref b] : List Value).toArray 8) := by
  obtain ⟨hx, hb, hr, hml, hown, hts0, hX, hbl, hlocks, hgv⟩ := C0
  have hE := xs_env hts0 hgv
  have hts : ∀ w ∈ wsL0, w.before #[Value.ref b] s = true := fun w hw => (List.mem_cons.mp hw).elim (fun z => by rw [z]; exact hts0 _ (List.mem_filter.mp mb_initialized_RL).1) (fun z => hts0 w (List.mem_filter.mp z).1)
  obtain ⟨c0, i0, k0⟩ := u_known hts (xg_u mb_uws_X0) (xg_w hts mb_instantiable_RX0_3)
  obtain ⟨c1, i1, k1⟩ := u_known hts (xg_u mb_uws_X1) (xg_w hts mb_instantiable_RX1_3)
  obtain ⟨c2, i2, k2⟩ := u_known hts (xg_u mb_uws_X2) (xg_w hts mb_instantiable_RX2_5)
  obtain ⟨c3, i3, k3⟩ := u_known hts (xg_u mb_uws_X3) (xg_w hts mb_instantiable_RX3_8)
  obtain ⟨c4, i4, k4⟩ := u_known hts (xg_u mb_uws_X4) (xg_w hts mb_instantiable_RX4_17)
  obtain ⟨dC, dI, hK⟩ : ∃ (dC : Nat → ClassId) (dI : Nat → Nat → Nat), va_K (dC, dI) vwCl [] s := by
    refine ⟨fun k => [c0, c1, c2, c3, c4].getD k c0, fun k => [i0, i1, i2, i3, i4].getD k i0, fun k q hq => ?_, fun k q hk => by cases hk⟩
    rcases k with _ | _ | _ | _ | _ | k
    · cases hq; exact k0
    · cases hq; exact k1
    · cases hq; exact k2
    · cases hq; exact k3
    · cases hq; exact k4
    · cases hq
  have hA : ∀ q : Nat, s.heap.size ≤ q → (fun q => s.heap.size ≤ q) q := fun q h => h
  have hS : va_S (fun q => s.heap.size ≤ q) s.heap s.heap [] := va_S.rf
  have hP : va_P (dC, dI) vwCl [] s.heap := fun k q hk => by cases hk
  have hD : va_D (fun q => s.heap.size ≤ q) [] := ⟨(fun i j p q hp => by cases hp), (fun k q hk => by cases hk)⟩
  have hl := lv_entry ([.ref b]) (n := 8) (Nat.le_of_ble_eq_true rfl)
  rw [lg_entry_eq]
  generalize (lg_sl ([.ref b]) ++ List.replicate (8 - (lg_sl ([.ref b])).length) Slot.unset).toArray = ls at hl ⊢
  have hl : lv_has ls 8 [(0, .ref b)] := hl
  refine va_new (D := (dC, dI)) (ci := 3) (fs := [.null, .null, .null, .null, .null, .null, .int 0, .int 0]) (C := RX3) (T := TX3) (N := 8) hx hb hts (xg_u mb_uws_X3) tyX3 tyX3_ok hown (xg_w hts mb_classLink_RL_8) (xg_w hts mb_instantiable_RX3_8) (xg_w hts mb_initialized_RX3) hK hP hD hS hA rfl (fun j hj => by rcases (show j = 0 ∨ j = 1 ∨ j = 2 ∨ j = 3 ∨ j = 4 ∨ j = 5 ∨ j = 6 ∨ j = 7 by omega) with rfl | rfl | rfl | rfl | rfl | rfl | rfl | rfl <;> rfl) (Nat.le_of_ble_eq_true rfl) (Nat.le_of_ble_eq_true rfl) dL_law_0 (fun x9 H hP hD hS => ?_)
  have hP1 : va_P (dC, dI) vwCl [(x9, .inr (3, [.null, .null, .null, .null, .null, .null, .int 0, .int 0]))] H := hP
  have hP2 : va_P (dC, dI) vwCl [] H := hP.sub [] rfl
  have hD2 : va_D (fun q => s.heap.size ≤ q) ([(x9, .inr (3, [.null, .null, .null, .null, .null, .null, .int 0, .int 0]))] ++ []) := hD
  refine lv_dup hx hb dL_law_3 rfl ?_
  refine xf_v (va_runI (As := []) (rest := [.ref x9]) ⟨hx, hb, hml, hown, hts⟩ (cX3_init_m l dC dI x9 _) (cwI 0 hts (xg_0 mb_code_yX3_init) rfl rfl rfl (xg_w hts mb_initialized_RX3) (xg_w hts mb_methodLink_RL_49) (xg_w hts mb_instanceMethod_yX3_init) rfl (by decide +kernel) ⟨Nat.le_of_ble_eq_true rfl, Nat.le_of_ble_eq_true rfl⟩) (xpreS (wd := [(x9, .inr (3, [.null, .null, .null, .null, .null, .null, .int 0, .int 0]))]) (hK.sub [] rfl) hP1 (xf_l hD2) hS hA hE) rfl rfl hl.1 rfl (lv_room (Nat.le_of_ble_eq_true rfl)) dL_law_4 ⟨Nat.le_of_ble_eq_true rfl, Nat.le_of_ble_eq_true rfl⟩) hD2 hP2 hS hA (fun u H locs hu hKx hP hD hS => ?_)
  obtain ⟨ad, ca, bf⟩ := u
  dsimp only at hu hKx hP hD
  rw [← hu]
  rw [List.append_nil] at hP hD
  refine lv_astore_n hx hb dL_law_7 rfl hl (by decide) rfl (fun ls hl => ?_)
  have hl : lv_has ls 8 [(1, .ref (ad 0)), (0, .ref b)] := hl
  refine va_new (D := (dC, dI)) (ci := 4) (fs := [.null, .null, .null, .null, .null, .null, .null, .null, .int 0, .int 0, .int 0, .int 0, .int 0, .int 0, .int 0, .int 0, .int 0]) (C := RX4) (T := TX4) (N := 17) hx hb hts (xg_u mb_uws_X4) tyX4 tyX4_ok hown (xg_w hts mb_classLink_RL_50) (xg_w hts mb_instantiable_RX4_17) (xg_w hts mb_initialized_RX4) hK hP hD hS hA rfl (fun j hj => by rcases (show j = 0 ∨ j = 1 ∨ j = 2 ∨ j = 3 ∨ j = 4 ∨ j = 5 ∨ j = 6 ∨ j = 7 ∨ j = 8 ∨ j = 9 ∨ j = 10 ∨ j = 11 ∨ j = 12 ∨ j = 13 ∨ j = 14 ∨ j = 15 ∨ j = 16 by omega) with rfl | rfl | rfl | rfl | rfl | rfl | rfl | rfl | rfl | rfl | rfl | rfl | rfl | rfl | rfl | rfl | rfl <;> rfl) (Nat.le_of_ble_eq_true rfl) (Nat.le_of_ble_eq_true rfl) dL_law_8 (fun y9 H hP hD hS => ?_)
  have hP1 : va_P (dC, dI) vwCl [(y9, .inr (4, [.null, .null, .null, .null, .null, .null, .null, .null, .int 0, .int 0, .int 0, .int 0, .int 0, .int 0, .int 0, .int 0, .int 0]))] H := hP.sub [10] rfl
  have hP2 : va_P (dC, dI) vwCl (xw ad ca (fun _ => 0) (fun _ => 0) bf 0 0 (nI (pw_all (fun _ => 0) (fun _ => 0) 0 (fun _ => 0)).2) 0 0 0 (pw_all (fun _ => 0) (fun _ => 0) 0 (fun _ => 0)).1 0 (fun _ => 0) (fun _ => 0) 0 0 0) H := hP.sub [0, 1, 2, 3, 4, 5, 6, 7, 8, 9] rfl
  have hD2 : va_D (fun q => s.heap.size ≤ q) ([(y9, .inr (4, [.null, .null, .null, .null, .null, .null, .null, .null, .int 0, .int 0, .int 0, .int 0, .int 0, .int 0, .int 0, .int 0, .int 0]))] ++ (xw ad ca (fun _ => 0) (fun _ => 0) bf 0 0 (nI (pw_all (fun _ => 0) (fun _ => 0) 0 (fun _ => 0)).2) 0 0 0 (pw_all (fun _ => 0) (fun _ => 0) 0 (fun _ => 0)).1 0 (fun _ => 0) (fun _ => 0) 0 0 0)) := hD.sub [10, 0, 1, 2, 3, 4, 5, 6, 7, 8, 9] rfl rfl
  refine lv_dup hx hb dL_law_11 rfl ?_
  refine xf_v (va_runI (As := []) (rest := [.ref y9]) ⟨hx, hb, hml, hown, hts⟩ (cX4_init_m l dC dI y9 _) (cwI 0 hts (xg_0 mb_code_yX4_init) rfl rfl rfl (xg_w hts mb_initialized_RX4) (xg_w hts mb_methodLink_RL_52) (xg_w hts mb_instanceMethod_yX4_init) rfl (by decide +kernel) ⟨Nat.le_of_ble_eq_true rfl, Nat.le_of_ble_eq_true rfl⟩) (xpreS (wd := [(y9, .inr (4, [.null, .null, .null, .null, .null, .null, .null, .null, .int 0, .int 0, .int 0, .int 0, .int 0, .int 0, .int 0, .int 0, .int 0]))]) (hK.sub [] rfl) hP1 (xf_l hD2) hS hA hE) rfl rfl hl.1 rfl (lv_room (Nat.le_of_ble_eq_true rfl)) dL_law_12 ⟨Nat.le_of_ble_eq_true rfl, Nat.le_of_ble_eq_true rfl⟩) hD2 hP2 hS hA (fun u H locs hu hKm hP hD hS => ?_)
  obtain ⟨am, cm, sf, gi⟩ := u
  dsimp only at hu hKm hP hD
  rw [← hu]
  have hP : va_P (dC, dI) vwCl (xw ad ca (fun _ => 0) (fun _ => 0) bf 0 0 (nI (pw_all (fun _ => 0) (fun _ => 0) 0 (fun _ => 0)).2) 0 0 0 (pw_all (fun _ => 0) (fun _ => 0) 0 (fun _ => 0)).1 0 (fun _ => 0) (fun _ => 0) 0 0 0 ++ xm am cm (fun _ => 0) (fun _ => 0) (pw_all (fun _ => 0) (fun _ => 0) 0 (fun _ => 0)).1 (fun _ => 0) sf gi (fun _ => 0) (fun _ => 0) 0 (nI (pw_all (fun _ => 0) (fun _ => 0) 0 (fun _ => 0)).2) 0 0 0 0 0 0 0) H := hP.sub [9, 10, 11, 12, 13, 14, 15, 16, 17, 18, 0, 1, 2, 3, 4, 5, 6, 7, 8] rfl
  have hD : va_D (fun q => s.heap.size ≤ q) (xw ad ca (fun _ => 0) (fun _ => 0) bf 0 0 (nI (pw_all (fun _ => 0) (fun _ => 0) 0 (fun _ => 0)).2) 0 0 0 (pw_all (fun _ => 0) (fun _ => 0) 0 (fun _ => 0)).1 0 (fun _ => 0) (fun _ => 0) 0 0 0 ++ xm am cm (fun _ => 0) (fun _ => 0) (pw_all (fun _ => 0) (fun _ => 0) 0 (fun _ => 0)).1 (fun _ => 0) sf gi (fun _ => 0) (fun _ => 0) 0 (nI (pw_all (fun _ => 0) (fun _ => 0) 0 (fun _ => 0)).2) 0 0 0 0 0 0 0) := hD.sub [9, 10, 11, 12, 13, 14, 15, 16, 17, 18, 0, 1, 2, 3, 4, 5, 6, 7, 8] rfl rfl
  refine lv_astore_n hx hb dL_law_15 rfl hl (by decide) rfl (fun ls hl => ?_)
  have hl : lv_has ls 8 [(2, .ref (am 0)), (1, .ref (ad 0)), (0, .ref b)] := hl
  refine lv_iconst (v := 1) hx hb dL_law_16 (by decide) ?_
  refine va_newa (atype := .long) (a0 := (1, .inr (.inl (fun _ => 0)))) (N' := 1) hx hb (xg_w hts mb_arrayClass_long) (ty := .long) rfl hK hP hD hS hA (fun _ => rfl) (by decide) (by decide) (by decide) (Nat.le_of_ble_eq_true rfl) (Nat.le_of_ble_eq_true rfl) dL_law_17 (fun oa oc H hKo hP hD hS => ?_)
  have hKo : va_K (dC, dI) vwCl [(oc, .long)] s := hKo
  have hP : va_P (dC, dI) vwCl (xw ad ca (fun _ => 0) (fun _ => 0) bf 0 0 (nI (pw_all (fun _ => 0) (fun _ => 0) 0 (fun _ => 0)).2) 0 0 0 (pw_all (fun _ => 0) (fun _ => 0) 0 (fun _ => 0)).1 0 (fun _ => 0) (fun _ => 0) 0 0 0 ++ (xm am cm (fun _ => 0) (fun _ => 0) (pw_all (fun _ => 0) (fun _ => 0) 0 (fun _ => 0)).1 (fun _ => 0) sf gi (fun _ => 0) (fun _ => 0) 0 (nI (pw_all (fun _ => 0) (fun _ => 0) 0 (fun _ => 0)).2) 0 0 0 0 0 0 0 ++ [(oa, .inl (oc, 1, .inr (.inl (fun _ => 0))))])) H := by rw [← List.append_assoc]; exact hP
  have hD : va_D (fun q => s.heap.size ≤ q) (xw ad ca (fun _ => 0) (fun _ => 0) bf 0 0 (nI (pw_all (fun _ => 0) (fun _ => 0) 0 (fun _ => 0)).2) 0 0 0 (pw_all (fun _ => 0) (fun _ => 0) 0 (fun _ => 0)).1 0 (fun _ => 0) (fun _ => 0) 0 0 0 ++ (xm am cm (fun _ => 0) (fun _ => 0) (pw_all (fun _ => 0) (fun _ => 0) 0 (fun _ => 0)).1 (fun _ => 0) sf gi (fun _ => 0) (fun _ => 0) 0 (nI (pw_all (fun _ => 0) (fun _ => 0) 0 (fun _ => 0)).2) 0 0 0 0 0 0 0 ++ [(oa, .inl (oc, 1, .inr (.inl (fun _ => 0))))])) := by rw [← List.append_assoc]; exact hD
  refine lv_astore_n hx hb dL_law_19 rfl hl (by decide) rfl (fun ls hl => ?_)
  have hl : lv_has ls 8 [(3, .ref oa), (2, .ref (am 0)), (1, .ref (ad 0)), (0, .ref b)] := hl
  refine lv_iconst (v := nI (4 * 0)) hx hb dL_law_20 (by decide) ?_
  refine lv_istore hx hb dL_law_21 hl (by decide) rfl (fun ls hl => ?_)
  have hl : lv_has ls 8 [(4, .int (nI (4 * 0))), (3, .ref oa), (2, .ref (am 0)), (1, .ref (ad 0)), (0, .ref b)] := hl
  have hz : pb_fit (fun _ => (0 : Int32)) := fun j => (by decide : (0 : Int32).toInt8.toInt32 = 0)
  have hup : pw_up (fun _ => (0 : Int32)) 0 := fun i hi => absurd hi (Nat.not_lt_zero _)
  have hI : xI (fun _ => 0) (fun _ => 0) 0 0 (nI (pw_all (fun _ => 0) (fun _ => 0) 0 (fun _ => 0)).2) (pw_all (fun _ => 0) (fun _ => 0) 0 (fun _ => 0)).1 0 (fun _ => 0) (fun _ => 0) (fun _ => 0) (fun _ => 0) (pw_all (fun _ => 0) (fun _ => 0) 0 (fun _ => 0)).1 (fun _ => 0) sf gi 0 (nI (pw_all (fun _ => 0) (fun _ => 0) 0 (fun _ => 0)).2) 0 0 0 (pw_all (fun _ => 0) (fun _ => 0) 0 (fun _ => 0)).2 [] :=
    ⟨⟨by decide, rfl, rfl, hup, fun a ha => absurd ha (Nat.not_lt_zero _), fun a ha => absurd ha (Nat.not_lt_zero _)⟩, ⟨pw_all_up hup (by decide) _, rfl, rfl, fun i hi => rfl, pw_all_fit hz⟩, Or.inl ⟨rfl, rfl⟩⟩
  exact lw_loop hx hb hml hown hts hX hbl hE hnt hKx hKm hKo hr hlocks hL 512 0 _ _ H locs ls (by omega) (Nat.zero_le _) (Nat.le_of_ble_eq_true rfl) (Nat.le_of_ble_eq_true rfl) ⟨(fun _ => 0), (fun _ => 0), bf, 0, 0, nI (pw_all (fun _ => 0) (fun _ => 0) 0 (fun _ => 0)).2, 0, 0, 0, (pw_all (fun _ => 0) (fun _ => 0) 0 (fun _ => 0)).1, 0, (fun _ => 0), (fun _ => 0), 0, 0, 0, (fun _ => 0), (fun _ => 0), (pw_all (fun _ => 0) (fun _ => 0) 0 (fun _ => 0)).1, (fun _ => 0), sf, gi, (fun _ => 0), (fun _ => 0), 0, nI (pw_all (fun _ => 0) (fun _ => 0) 0 (fun _ => 0)).2, 0, 0, 0, 0, 0, 0, 0, (fun _ => 0), 0, (pw_all (fun _ => 0) (fun _ => 0) 0 (fun _ => 0)).2, [], hI, hP, hD⟩ hS (lv_sub hl [0, 4, 3, 2, 1] rfl)
