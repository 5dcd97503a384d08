/-! the throw of a NoSuchElementException leaves the method -/
section NS2
variable {p : Program} {l : Launch} {e : Env} {R : Room} {s : State} {m : MethodId} {args : Array Value} {below : List Frame} {meth : Method} {c : Code} {H : Heap} {locs : List Loc} {cells slots : Nat} {ls : Array Slot} {free : Addr → Prop} {Qc : Array Value → State → Outcome → State → Prop} {XC : String → State → State → Prop}
theorem ns_throw {cc : ByteArray} {pc : Nat} (hx : p.tables.exec = Jvm.exec) (hb : c.code = cc) (hnt : l.stackTraces = false) {own text : String} {ik is ic mc ms sa : Nat} {A : Nat → Prop} (hown : s.vm.findClass own = some m.cls)
    (hk : (Cond.classLink own ik nsE).before args s = true) (hini : (Cond.initialized nsE).before args s = true) (hstr : vk_R own is text sa s) (hat : ∀ w ∈ ns_at own ic, w.before args s = true) (hgood : ∀ w ∈ Cond.classLink own ik nsE :: Cond.initialized nsE :: ns_at own ic, vx_ot w = true)
    (hU : vx_Zq Bundle.tN "UNASSIGNED_STACK" Bundle.steD A s s.heap) (hN : vx_Zq Bundle.tN "SUPPRESSED_SENTINEL" Bundle.listD A s s.heap) (hS : va_S A s.heap H locs) (hsize : ls.size = c.maxLocals)
    (d0 : decode cc pc = .ok (.new ik, 3)) (d3 : decode cc (pc + 3) = .ok (.dup, 1)) (d4 : decode cc (pc + 4) = .ok (.ldc is, 2)) (d6 : decode cc (pc + 6) = .ok (.invokespecial ic, 3)) (d9 : decode cc (pc + 9) = .ok (.athrow, 1)) (hout : ∀ x ∈ c.exceptionTable.toList, covers x (pc + 9) = false)
    (hfr : 5 < R.frames) (hlo : 82 ≤ R.locals) (hrc : cells + 1 ≤ R.cells) (hrs : slots + 6 ≤ R.slots) (hlocks : meth.locks = false)
    (hXC : ∀ t : State, s.vm.Alike t.vm → H.size ≤ t.heap.size → (∀ q : Nat, q < H.size → t.heap[q]? = H[q]?) → XC nsE s t) (hf : ∀ z ∈ locs, free z.base) (h1 : cells + 1 ≤ mc) (h2 : slots + 6 ≤ ms) :
    W p l e R s m args below meth c H locs cells slots (vx_MQ below Qc XC args s mc ms free) (F0 m pc ls []) := by
  intro T hT X
  have htr : e.platform.stackTraces = false := by rw [X.admits.platform]; exact hnt
  subst hb
  -- the place is made the first one of a stay of its own
  have Y := vx_rebase X (R' := { frames := R.frames, locals := R.locals, cells := 1, slots := 6 }) (Nat.le_refl _) (Nat.le_refl _) hrc hrs
  obtain ⟨s9, h9⟩ : ∃ z, z = (T.setVm s.vm).setFrames (.invoking m args :: below) := ⟨_, rfl⟩
  rw [← h9] at Y
  have hvm : s9.vm = s.vm := by rw [h9]; rfl
  have hhp : s9.heap = H := by rw [h9]; exact hT
  have hW0 : s.WarmedH s9.vm := by rw [hvm]; exact State.WarmedH.refl s
  have on9 : ∀ w, vx_ot w = true → w.before args s = true → w.before args s9 = true := fun w a b => vx_ot_at hW0 hvm.symm a b
  have hU9 : vx_Zq Bundle.tN "UNASSIGNED_STACK" Bundle.steD A s9 s9.heap := by rw [hhp]; exact vx_Zq.moved hW0.alike (hU.kept hS.2.1)
  have hN9 : vx_Zq Bundle.tN "SUPPRESSED_SENTINEL" Bundle.listD A s9 s9.heap := by rw [hhp]; exact vx_Zq.moved hW0.alike (hN.kept hS.2.1)
  have hws : ∀ w ∈ ns_wd own ic, w.before args s9 = true := vx_own (L := ns_wd own ic) (fun w hw => on9 w (hgood w (List.mem_cons_of_mem _ (List.mem_cons_of_mem _ hw))) (hat w hw)) (vx_isRefq hU9.1) (vx_isRefq hN9.1) hU9.2.word hN9.2.word
  have hown9 : s9.vm.findClass own = some m.cls := by rw [hvm]; exact hown
  obtain ⟨vm1, cX, kX, hfX, hkX, -, -, X1, go1⟩ := Y.newCold hx (own := own) (C := nsE) (index := ik) (n := 6) hown9 (on9 _ (hgood _ List.mem_cons_self) hk) (hws _ (by simp [ns_wd])) (on9 _ (hgood _ (List.mem_cons_of_mem _ List.mem_cons_self)) hini)
    (g := F0 m pc ls []) rfl d0 (Nat.le_refl _) (Nat.le_refl _)
  generalize hT1 : (T.setVm vm1).pushCell { cls := cX, slots := kX.instanceTypes.map defaultValue, vm := .none } = T1 at X1 go1
  have hcellA : T1.heap[T.heap.size]? = some (freshCell cX kX) := by rw [← hT1]; exact State.heap_pushCell_size _ _
  have hstr9 : vk_R own is text sa s9 := vk_R.warm hW0 hstr
  obtain ⟨U, hsteps, hrun, hend, hW, hsm, ce, hce, hv, hcl⟩ := ns_ctor X1 hx htr (own := own) (ic := ic) hown9 hws rfl hfX hkX hcellA (by rw [hhp, hT]; exact Nat.le_refl _) (sa := sa) (pc := pc + 6) (ls := ls) (rest := []) hsize d6 d9 hout hfr (by simpa using hlo) hlocks
  obtain ⟨f1, f2⟩ := vx_frame hsm
  rw [hhp] at f1 f2
  have hWs : s.WarmedH U.vm := State.WarmedH.trans hW0 hW
  rw [hvm] at hcl
  have hall : s.sameButNew ({ U with vm := s.vm } : State) locs mc ms := by
    subst h9
    obtain ⟨e1, e2⟩ := hsm
    rw [State.setFrames_setFrames] at e1
    have h5 : (T.setVm s.vm).sameButNew ({ U with vm := s.vm } : State) [] (0 + 1) (0 + 6) := ⟨e1, e2⟩
    have h6 := X.same.trans h5
    rw [List.append_nil] at h6
    exact h6.mono h1 h2
  refine ⟨U, go1 _ ?_, .threw T.heap.size, hrun, hend, Or.inr ⟨T.heap.size, rfl, nsE, ce, locs, hXC U hWs.alike f1 (fun q hq => f2 q hq (fun z hz => nomatch hz)), hce, hv, hcl, hWs, hall, hf⟩⟩
  show Steps p.tables e below (T1.setTop { method := m, pc := pc + 3, locals := ls, stack := [.ref T.heap.size], locked := none }) _
  jvm_step X1.here [X1.here.top, hx, d3, Value.category]
  exact X1.ldcString hx (own := own) (text := text) (index := is) (a := sa) hown9 hstr9.1 hstr9.2
    (g := { method := m, pc := pc + 4, locals := ls, stack := [.ref T.heap.size, .ref T.heap.size], locked := none }) rfl d4 _ hsteps
end NS2
