/-! the environment that holds at the law's entry -/
theorem xs_on : ∀ w ∈ lw_tbl.filter xn_ok, goodWord w = true ∨ w.onTables = true := by decide +kernel
theorem xs_nc : ∀ q ∈ xn_nc, Cond.not (.castable q.1 q.2) ∈ flatC (Jvm.Cond.and given_1 narrow_1) := by decide +kernel
theorem xs_st : ∀ q ∈ xn_str, Cond.exactly (.string q.1 q.2.1) "java/lang/String" ∈ flatC (Jvm.Cond.and given_1 narrow_1) ∧ Cond.stringRef q.1 q.2.1 q.2.2 ∈ lw_tbl := by decide +kernel
theorem xs_tab : ∀ j : Nat, j < 16 → Cond.eq (.elem (.static RX2 "SUM_STEPS" "[I") (.int (Int32.ofNat j))) (.int (nI (pb_T j))) ∈ flatC (Jvm.Cond.and given_1 narrow_1) := by decide +kernel
theorem xs_env {args : Array Value} {s : State} (hts : ∀ w ∈ lw_tbl, w.before args s = true) (hgv : (Jvm.Cond.and given_1 narrow_1).before args s = true) : xn_E (fun q => s.heap.size ≤ q) s := by
  have hs := flat_of_before _ hgv
  have hA : ∀ a : Nat, a < s.heap.size → ¬ (fun q => s.heap.size ≤ q) a := fun a h => Nat.not_le.mpr h
  obtain ⟨st, ht, hT⟩ := va_Tof (args := args) (s := s) (tm := .static RX2 "SUM_STEPS" "[I") (ty := .int) (N := 16) (f := fun j => .int (nI (pb_T j))) (A := fun q => s.heap.size ≤ q) (by decide) (hs _ (by decide +kernel)) (va_eqt (hs (.eq (.length (.static RX2 "SUM_STEPS" "[I")) (.int 16)) (by decide +kernel))) (fun j hj => va_eqt (hs _ (xs_tab j hj))) hA
  refine ⟨fun w hw => (xs_on w hw).elim (fun hg => word_at (State.WarmedH.refl s) (good_of_word hg) (hts w (List.mem_filter.mp hw).1)) (fun ho => va_Nw.of ho (hts w (List.mem_filter.mp hw).1)), vx_Zqof (hts _ (by decide +kernel)) (hts _ (by decide +kernel)) (hs _ (by decide +kernel)) hA, vx_Zqof (hts _ (by decide +kernel)) (hts _ (by decide +kernel)) (hs _ (by decide +kernel)) hA, fun q hq => ?_, fun q hq => va_Nc.of (hs _ (xs_nc q hq)), st, va_Zof (hts _ (by decide +kernel)) (hts _ (by decide +kernel)) ht hA, hT⟩
  obtain ⟨h1, h2⟩ := xs_st q hq
  obtain ⟨a, cc, cA, kA, q1, -⟩ := Cond.exactly_spec (args := args) (first := s) (o := none) (s := s) (idx := []) (hs _ h1)
  exact ⟨a, vk_R.of (hts _ h2) q1⟩
