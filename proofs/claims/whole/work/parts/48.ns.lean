/-! throw new NoSuchElementException(".."): its constructor's link has another index than the library's rows ask for, so its road is laid here -/
abbrev nsE : String := "java/util/NoSuchElementException"
abbrev nsR : String := "java/lang/RuntimeException"
def ns_wd (own : String) (ic : Nat) : List Cond :=
  Bundle.passSAtoms nsE nsR 13 prog_16_method_4_code ++ Bundle.chainSAtoms nsR ["java/lang/Exception"] ++ Bundle.throwableSAtoms ++ Bundle.throwableAtoms ++
  [.isRef (.static Bundle.tN "UNASSIGNED_STACK" Bundle.steD), .isRef (.static Bundle.tN "SUPPRESSED_SENTINEL" Bundle.listD), .methodLink own ic (Bundle.initS nsE), .instantiable nsE 6, .selects nsE Bundle.tFill0 Bundle.tFill0, .selects nsE Bundle.tFill Bundle.tFill,
   .fieldLink Bundle.tN 198 Bundle.tN "backtrace" "Ljava/lang/Object;", .lays Bundle.tN Bundle.tN "backtrace" "Ljava/lang/Object;", .lays nsE Bundle.tN "backtrace" "Ljava/lang/Object;",
   .lays nsE Bundle.tN "detailMessage" "Ljava/lang/String;", .lays nsE Bundle.tN "suppressedExceptions" Bundle.listD, .lays nsE Bundle.tN "stackTrace" Bundle.steD, .lays nsE Bundle.tN "cause" "Ljava/lang/Throwable;"]
def ns_at (own : String) (ic : Nat) : List Cond := (ns_wd own ic).filter vx_no
theorem ns_d0 : decode prog_16_method_4_code 0 = .ok (.aload_n 0, 1) := by decide +kernel
theorem ns_d1 : decode prog_16_method_4_code 1 = .ok (.aload_n 1, 1) := by decide +kernel
theorem ns_d2 : decode prog_16_method_4_code 2 = .ok (.invokespecial 13, 3) := by decide +kernel
theorem ns_d5 : decode prog_16_method_4_code 5 = .ok (.return_, 1) := by decide +kernel
theorem ns_fit : Bundle.fit nsE = true ∧ Bundle.fit nsR = true ∧ Bundle.fit "java/lang/Exception" = true := by decide +kernel
section NS
variable {p : Program} {l : Launch} {e : Env} {R : Room} {s : State} {m : MethodId} {args : Array Value} {below : List Frame} {meth : Method} {c : Code} {locs : List Loc} {cells slots : Nat}
theorem ns_sel {cX : ClassId} {y : MethodName} {k : MethodId} (hadm : l.admits e) (hf : s.vm.findClass nsE = some cX) (hn : s.methodNamed? y = some k) (hy : y.cls ≠ "java/lang/invoke/MethodHandle" ∧ y.cls ≠ "java/lang/invoke/VarHandle") (hw : (Cond.selects nsE y y).before args s = true) : selectMethod e.platform s.vm cX k = .method k := by
  obtain ⟨c2, r2, m2, q1, q2, q3, q4, -⟩ := Cond.selects_spec hw
  rw [hf] at q1
  rw [State.methodFound?_of_named hn hy] at q2
  rw [hn] at q3
  cases q1
  cases q2
  cases q3
  rw [Launch.admits_selectMethod hadm]
  exact q4
set_option maxHeartbeats 2000000 in
/-- the constructor runs and the object leaves the method -/
theorem ns_ctor {T0 : State} (X : Stand p l e R s m args below meth c T0 locs cells slots) (hx : p.tables.exec = Jvm.exec) (htr : e.platform.stackTraces = false) {own : String} {ic : Nat} (hown : s.vm.findClass own = some m.cls) (hws : ∀ w ∈ ns_wd own ic, w.before args s = true) (hlocs : locs = [])
    {a : Addr} {cX : ClassId} {kX : Class} (hcX : s.vm.findClass nsE = some cX) (hkX : s.vm.classes[cX]? = some kX) (hcell : T0.heap[a]? = some (freshCell cX kX)) (hnew : s.heap.size ≤ a) {sa : Addr}
    {pc : Nat} {ls : Array Slot} {rest : List Value} (hsize : ls.size = c.maxLocals) (d6 : decode c.code pc = .ok (.invokespecial ic, 3)) (d9 : decode c.code (pc + 3) = .ok (.athrow, 1)) (hout : ∀ x ∈ c.exceptionTable.toList, covers x (pc + 3) = false)
    (hfr : 5 < R.frames) (hlo : 1 + (rest.map fun v => v.category).sum + 81 ≤ R.locals) (hlocks : meth.locks = false) :
    ∃ U : State, Steps p.tables e below (T0.setTop (F0 m pc ls (.ref sa :: .ref a :: .ref a :: rest))) U ∧ U.status = .running ∧ Ended U below (.threw a) ∧ s.WarmedH U.vm ∧ s.sameButNew ({ U with vm := s.vm } : State) [] cells slots ∧ ∃ ce, U.heap[a]? = some ce ∧ ce.vm = .none ∧ s.vm.findClass nsE = some ce.cls := by
  subst hlocs
  have hpf : e.platform.frameOwnsMonitors = true ∧ e.platform.finalization = false ∧ e.platform.magicAccessors = ({} : Platform).magicAccessors := by rw [X.admits.platform]; exact ⟨rfl, rfl, rfl⟩
  have hw : ∀ w, w ∈ ns_wd own ic → w.holds args s none s [] = true := fun w hw => hws w hw
  obtain ⟨T, Z0, L, -, Y⟩ := ThrowableC.of_atoms (args := args) hpf.1 hpf.2.1 hpf.2.2 (fun w hw => hws w (by simp [ns_wd, hw]))
  obtain ⟨Z, M, LZ, LM, hnZ⟩ := Init0T.ofS_atoms (args := args) hpf.2.2 L Y (fun w hw => hws w (by simp [ns_wd, hw]))
  obtain ⟨P2, Ps, hlen, L2, hLs, hn2, hl2, hls⟩ := Bundle.chainS (args := args) hpf.2.2 hnZ ["java/lang/Exception"] nsR ns_fit.2.1 (fun n hn => by rw [List.mem_singleton.mp hn]; exact ns_fit.2.2) (fun w hw => hws w (by simp [ns_wd, hw]))
  obtain ⟨P1, L1, hn1, hs1⟩ := PassC.ofS_atoms (args := args) (s := s) hpf.2.2 (X := nsE) (Y := nsR) (Bundle.fit_spec ns_fit.1).1 (Bundle.fit_spec ns_fit.2.1).2 ns_d0 ns_d1 ns_d2 ns_d5 (fun w hw => hws w (by simp [ns_wd, hw]))
  have hf1 : s.vm.findClass nsE = some P1.m.cls := findClass_of_methodNamed hn1
  have hce : cX = P1.m.cls := Option.some.inj (hcX.symm.trans hf1)
  subst hce
  obtain ⟨c1, k1, hc1, hk1, hord, -, -, -⟩ := Cond.instantiable_spec (hw (.instantiable nsE 6) (by simp [ns_wd]))
  have ec1 : c1 = P1.m.cls := Option.some.inj (hc1.symm.trans hf1)
  subst ec1
  have ek1 : k1 = kX := Option.some.inj (hk1.symm.trans hkX)
  subst ek1
  obtain ⟨cellS0, hcS0, hiss⟩ := Y.statics
  obtain ⟨u0, hu0⟩ := Cond.staticRefV Y.unassigned L.unassignedStatic L.statics hcS0 hiss (hw (.isRef (.static Bundle.tN "UNASSIGNED_STACK" Bundle.steD)) (by simp [ns_wd]))
  obtain ⟨sen, hsen⟩ := Cond.staticRefV Y.sentinel L.sentinelStatic L.statics hcS0 hiss (hw (.isRef (.static Bundle.tN "SUPPRESSED_SENTINEL" Bundle.listD)) (by simp [ns_wd]))
  obtain ⟨cb, ib, fB, hb1, hb2, hb3, hb4, -, hnB, htB, hffB⟩ := Cond.ownField (t := .object "java/lang/Object") Y.found L.cls (by decide +kernel) (hw (.fieldLink Bundle.tN 198 Bundle.tN "backtrace" "Ljava/lang/Object;") (by simp [ns_wd])) (hw (.lays Bundle.tN Bundle.tN "backtrace" "Ljava/lang/Object;") (by simp [ns_wd])) e.platform hpf.2.2
  obtain ⟨cellS, hcS, heS, -, hkeep⟩ := X.same.2.2.2.2.2 T.aS cellS0 hcS0
  have hcS1 : T0.heap[T.aS]? = some cellS := hcS
  have hvS : cellS.vm = cellS0.vm := by rw [heS]
  have hknS : cellS.vm ≠ .unknown := fun z => by rw [← hvS, z] at hiss; cases hiss
  have hapart : T.aS ≠ a := Nat.ne_of_lt (Nat.lt_of_lt_of_le (Array.getElem?_eq_some_iff.mp hcS0).1 hnew)
  obtain ⟨iM, hffM⟩ := Y.msg
  obtain ⟨tyC, jC, hjC, hjC'⟩ := Cond.laysAt hf1 hk1 Y.cause (hw (.lays nsE Bundle.tN "cause" "Ljava/lang/Throwable;") (by simp [ns_wd]))
  obtain ⟨tyS, jS, hjS, hjS'⟩ := Cond.laysAt hf1 hk1 Y.stack (hw (.lays nsE Bundle.tN "stackTrace" Bundle.steD) (by simp [ns_wd]))
  obtain ⟨tyP, jP, hjP, hjP'⟩ := Cond.laysAt hf1 hk1 Y.supp (hw (.lays nsE Bundle.tN "suppressedExceptions" Bundle.listD) (by simp [ns_wd]))
  obtain ⟨tyM, jM, hjM, hjM'⟩ := Cond.laysAt hf1 hk1 hffM (hw (.lays nsE Bundle.tN "detailMessage" "Ljava/lang/String;") (by simp [ns_wd]))
  obtain ⟨tyB, jB, hjB, hjB'⟩ := Cond.laysAt hf1 hk1 hffB (hw (.lays nsE Bundle.tN "backtrace" "Ljava/lang/Object;") (by simp [ns_wd]))
  have b1 := Cond.laysApart hjB hjC hjB' hjC' (by rw [hnB, Y.causeName]; decide)
  have b2 := Cond.laysApart hjB hjS hjB' hjS' (by rw [hnB, Y.stackName]; decide)
  have b3 := Cond.laysApart hjB hjP hjB' hjP' (by rw [hnB, Y.suppName]; decide)
  have hback : SkipFacts T e.platform s (fun u => u) u0 ((preparedCellV T.toThrowableT (freshCell P1.m.cls k1) a u0 sen).withEntry T0.cur) := by
    refine ⟨{ ci198 := cb, i198 := ib, fBack := fB }, ⟨hb1, hb2, hb3, hb4⟩, ?_, fun _ _ => rfl⟩
    have h9 := fresh_default (c := P1.m.cls) tyB
    rw [htB] at h9
    simpa [preparedCellV, Cell.setSlot, Cell.withEntry, Array.getElem?_setIfInBounds, b1, b2, b3, b1.symm, b2.symm, b3.symm, defaultValue] using h9
  obtain ⟨tm, mC, cC, kC, vm1, hnC, -, -, -, -, -, -, -, hW1, go1⟩ := Steps.initColdS (tb := p.tables) (e := e) (below := below) (s := s) (U := T0) X.here hx X.warmed hpf.2.2 hown (t := Bundle.initS nsE) rfl rfl (Bundle.fit_spec ns_fit.1).2
    (hw (.methodLink own ic (Bundle.initS nsE)) (by simp [ns_wd])) (hws (.instanceMethod (Bundle.initS nsE)) (by simp [ns_wd, Bundle.passSAtoms])) (bytes := prog_16_method_4_code) (maxL := 2) (hws (.code (Bundle.initS nsE) prog_16_method_4_code 2 none) (by simp [ns_wd, Bundle.passSAtoms]))
    (f := F0 m pc ls (.ref sa :: .ref a :: .ref a :: rest)) rfl (a := a) (msg := .ref sa) (rest := .ref a :: rest) rfl d6
  have etm : tm = P1.m := Option.some.inj (hnC.symm.trans hn1)
  subst etm
  obtain ⟨vm2, X2, go2⟩ := (X.noted hW1).ctorMessageOffV hx (g := F0 m pc ls (.ref a :: rest)) rfl hsize T L Z LZ M LM (P1 :: P2 :: Ps)
    (fun P hP => by
      rcases List.mem_cons.mp hP with rfl | hP
      · exact L1
      · rcases List.mem_cons.mp hP with rfl | hP
        · exact L2
        · exact hLs P hP) ⟨Option.some.inj (hs1.symm.trans hn2), hl2, hls⟩ (u0 := u0) (sen := sen) (self := a) (msg := .ref sa) rfl (cell := freshCell P1.m.cls k1) (cellS := cellS)
    hcell (fun _ => by simp) (by simp) rfl rfl (ns_sel X.admits hf1 Y.fill0 (by decide) (hws _ (by simp [ns_wd]))) (ns_sel X.admits hf1 Y.fill (by decide) (hws _ (by simp [ns_wd]))) hcS1 hapart hknS (by rw [hkeep _ (fun z => nomatch z)]; exact hu0) (by rw [hkeep _ (fun z => nomatch z)]; exact hsen)
    (Takes.of_laid hk1 hord tyC (by rw [Y.causeType]; rfl)) (Takes.of_laid hk1 hord tyS (by rw [Y.stackType]; exact fits_refV_array _ u0)) (Takes.of_laid hk1 hord tyP (by rw [Y.suppType]; exact fits_refV_object _ sen))
    (Takes.of_laid hk1 hord tyM (by rw [Y.msgType]; exact fits_refV_object _ ⟨.ref sa, rfl⟩)) Y.objLocals hback htr [] d6
    (by simp only [List.length_cons, hlen]; simpa using hfr) (by simp only [List.length_cons, hlen, List.map_cons, List.sum_cons, List.length_nil]; show 2 * 0 + (1 + _) + _ ≤ _; omega)
  obtain ⟨st9, hrun, hend, hW9, hsm⟩ := X2.athrowLeaves hx (g := { F0 m pc ls (.ref a :: rest) with pc := pc + 3 }) rfl rfl rfl hout (a := a) (rest := rest) rfl d9
  have hlt : a < ((T0.setVm vm1).setVm vm2).heap.size := (Array.getElem?_eq_some_iff.mp hcell).1
  refine ⟨_, go1 _ (fun acts => by rw [doInvoke_state]; exact go2 _ st9), hrun, hend, hW9, hsm.weaken (fun y hy hy2 => ?_) (Nat.le_refl _) (Nat.le_refl _), _, heapAt_setCell_self (s := (T0.setVm vm1).setVm vm2) (plainBareV T.toThrowableT (freshCell P1.m.cls k1) a u0 sen (.ref sa)) hlt, rfl, hf1⟩
  have hya : y.base = a := by
    rw [List.nil_append] at hy
    simp only [List.mem_cons, List.not_mem_nil, or_false] at hy
    rcases hy with rfl | rfl | rfl | rfl | rfl <;> rfl
  rw [hya] at hy2
  exact absurd hy2 (Nat.not_lt.mpr hnew)
end NS
