section


def lw_okq (q : MethodName × Nat) : Prop := (q.1.cls ≠ "java/lang/invoke/MethodHandle" ∧ q.1.cls ≠ "java/lang/invoke/VarHandle") ∧ Cond.instantiable q.1.cls q.2 ∈ tables_1 ∧ Cond.privateMethod q.1 ∈ tables_1 ∧ Cond.instanceMethod q.1 ∈ tables_1
theorem lw_p0 : lw_okq (⟨"SortedRun", "writeTable", "()V"⟩, 8) := ⟨⟨by decide +kernel, by decide +kernel⟩, List.mem_of_getElem? (i := 16) (by decide +kernel), List.mem_of_getElem? (i := 90) (by decide +kernel), List.mem_of_getElem? (i := 91) (by decide +kernel)⟩
theorem lw_p1 : lw_okq (⟨"SortedRun", "writeBlock", "(I)I"⟩, 8) := ⟨⟨by decide +kernel, by decide +kernel⟩, List.mem_of_getElem? (i := 16) (by decide +kernel), List.mem_of_getElem? (i := 94) (by decide +kernel), List.mem_of_getElem? (i := 95) (by decide +kernel)⟩
theorem lw_p2 : lw_okq (⟨"SortedRun$Table", "sumOf", "(II)I"⟩, 5) := ⟨⟨by decide +kernel, by decide +kernel⟩, List.mem_of_getElem? (i := 24) (by decide +kernel), List.mem_of_getElem? (i := 119) (by decide +kernel), List.mem_of_getElem? (i := 120) (by decide +kernel)⟩
theorem lw_p3 : lw_okq (⟨"SortedRun", "writeIndex", "(I)V"⟩, 8) := ⟨⟨by decide +kernel, by decide +kernel⟩, List.mem_of_getElem? (i := 16) (by decide +kernel), List.mem_of_getElem? (i := 129) (by decide +kernel), List.mem_of_getElem? (i := 130) (by decide +kernel)⟩
theorem lw_p4 : lw_okq (⟨"java/lang/Throwable", "fillInStackTrace", "(I)Ljava/lang/Throwable;"⟩, 6) := ⟨⟨by decide +kernel, by decide +kernel⟩, List.mem_of_getElem? (i := 219) (by decide +kernel), List.mem_of_getElem? (i := 217) (by decide +kernel), List.mem_of_getElem? (i := 218) (by decide +kernel)⟩
theorem lw_p5 : lw_okq (⟨"SortedRun", "requireByte", "(I)V"⟩, 8) := ⟨⟨by decide +kernel, by decide +kernel⟩, List.mem_of_getElem? (i := 16) (by decide +kernel), List.mem_of_getElem? (i := 272) (by decide +kernel), List.mem_of_getElem? (i := 273) (by decide +kernel)⟩
theorem lw_p6 : lw_okq (⟨"SortedRun$Index", "readBlocks", "(LSortedRun$Table;I)Z"⟩, 3) := ⟨⟨by decide +kernel, by decide +kernel⟩, List.mem_of_getElem? (i := 54) (by decide +kernel), List.mem_of_getElem? (i := 332) (by decide +kernel), List.mem_of_getElem? (i := 333) (by decide +kernel)⟩
theorem lw_p7 : lw_okq (⟨"SortedRun$Index", "fitsIndex", "(J)Z"⟩, 3) := ⟨⟨by decide +kernel, by decide +kernel⟩, List.mem_of_getElem? (i := 54) (by decide +kernel), List.mem_of_getElem? (i := 341) (by decide +kernel), List.mem_of_getElem? (i := 342) (by decide +kernel)⟩
theorem lw_p8 : lw_okq (⟨"SortedRun", "requireOpen", "()V"⟩, 8) := ⟨⟨by decide +kernel, by decide +kernel⟩, List.mem_of_getElem? (i := 16) (by decide +kernel), List.mem_of_getElem? (i := 377) (by decide +kernel), List.mem_of_getElem? (i := 378) (by decide +kernel)⟩
theorem lw_p9 : lw_okq (⟨"SortedRun", "countRightEntries", "(I)I"⟩, 8) := ⟨⟨by decide +kernel, by decide +kernel⟩, List.mem_of_getElem? (i := 16) (by decide +kernel), List.mem_of_getElem? (i := 402) (by decide +kernel), List.mem_of_getElem? (i := 403) (by decide +kernel)⟩
theorem lw_p10 : lw_okq (⟨"SortedRun", "hasRightSum", "(I)Z"⟩, 8) := ⟨⟨by decide +kernel, by decide +kernel⟩, List.mem_of_getElem? (i := 16) (by decide +kernel), List.mem_of_getElem? (i := 406) (by decide +kernel), List.mem_of_getElem? (i := 407) (by decide +kernel)⟩
theorem lw_p11 : lw_okq (⟨"SortedRun", "countEntries", "(I)I"⟩, 8) := ⟨⟨by decide +kernel, by decide +kernel⟩, List.mem_of_getElem? (i := 16) (by decide +kernel), List.mem_of_getElem? (i := 419) (by decide +kernel), List.mem_of_getElem? (i := 420) (by decide +kernel)⟩
theorem lw_p12 : lw_okq (⟨"SortedRun", "startReading", "(I)V"⟩, 8) := ⟨⟨by decide +kernel, by decide +kernel⟩, List.mem_of_getElem? (i := 16) (by decide +kernel), List.mem_of_getElem? (i := 423) (by decide +kernel), List.mem_of_getElem? (i := 424) (by decide +kernel)⟩
theorem lw_p13 : lw_okq (⟨"SortedRun", "requireBlock", "(I)V"⟩, 8) := ⟨⟨by decide +kernel, by decide +kernel⟩, List.mem_of_getElem? (i := 16) (by decide +kernel), List.mem_of_getElem? (i := 444) (by decide +kernel), List.mem_of_getElem? (i := 445) (by decide +kernel)⟩
theorem lw_p14 : lw_okq (⟨"SortedRunModel", "build", "()V"⟩, 17) := ⟨⟨by decide +kernel, by decide +kernel⟩, List.mem_of_getElem? (i := 457) (by decide +kernel), List.mem_of_getElem? (i := 463) (by decide +kernel), List.mem_of_getElem? (i := 464) (by decide +kernel)⟩
theorem lw_p15 : lw_okq (⟨"SortedRunModel", "number", "(J)V"⟩, 17) := ⟨⟨by decide +kernel, by decide +kernel⟩, List.mem_of_getElem? (i := 457) (by decide +kernel), List.mem_of_getElem? (i := 472) (by decide +kernel), List.mem_of_getElem? (i := 473) (by decide +kernel)⟩
def lw_privs_1 : List (MethodName × Nat) := [(⟨"SortedRun", "writeTable", "()V"⟩, 8), (⟨"SortedRun", "writeBlock", "(I)I"⟩, 8), (⟨"SortedRun$Table", "sumOf", "(II)I"⟩, 5), (⟨"SortedRun", "writeIndex", "(I)V"⟩, 8), (⟨"java/lang/Throwable", "fillInStackTrace", "(I)Ljava/lang/Throwable;"⟩, 6), (⟨"SortedRun", "requireByte", "(I)V"⟩, 8), (⟨"SortedRun$Index", "readBlocks", "(LSortedRun$Table;I)Z"⟩, 3), (⟨"SortedRun$Index", "fitsIndex", "(J)Z"⟩, 3), (⟨"SortedRun", "requireOpen", "()V"⟩, 8), (⟨"SortedRun", "countRightEntries", "(I)I"⟩, 8), (⟨"SortedRun", "hasRightSum", "(I)Z"⟩, 8), (⟨"SortedRun", "countEntries", "(I)I"⟩, 8), (⟨"SortedRun", "startReading", "(I)V"⟩, 8), (⟨"SortedRun", "requireBlock", "(I)V"⟩, 8), (⟨"SortedRunModel", "build", "()V"⟩, 17), (⟨"SortedRunModel", "number", "(J)V"⟩, 17)]
theorem lw_r1 : ∀ q ∈ lw_privs_1, lw_okq q := List.forall_mem_cons.mpr ⟨lw_p0, List.forall_mem_cons.mpr ⟨lw_p1, List.forall_mem_cons.mpr ⟨lw_p2, List.forall_mem_cons.mpr ⟨lw_p3, List.forall_mem_cons.mpr ⟨lw_p4, List.forall_mem_cons.mpr ⟨lw_p5, List.forall_mem_cons.mpr ⟨lw_p6, List.forall_mem_cons.mpr ⟨lw_p7, List.forall_mem_cons.mpr ⟨lw_p8, List.forall_mem_cons.mpr ⟨lw_p9, List.forall_mem_cons.mpr ⟨lw_p10, List.forall_mem_cons.mpr ⟨lw_p11, List.forall_mem_cons.mpr ⟨lw_p12, List.forall_mem_cons.mpr ⟨lw_p13, List.forall_mem_cons.mpr ⟨lw_p14, List.forall_mem_cons.mpr ⟨lw_p15, fun _ h => absurd h List.not_mem_nil⟩⟩⟩⟩⟩⟩⟩⟩⟩⟩⟩⟩⟩⟩⟩⟩
theorem lw_p16 : lw_okq (⟨"SortedRunModel", "seal", "(I)V"⟩, 17) := ⟨⟨by decide +kernel, by decide +kernel⟩, List.mem_of_getElem? (i := 457) (by decide +kernel), List.mem_of_getElem? (i := 478) (by decide +kernel), List.mem_of_getElem? (i := 479) (by decide +kernel)⟩
theorem lw_p17 : lw_okq (⟨"SortedRunModel", "sum", "(II)I"⟩, 17) := ⟨⟨by decide +kernel, by decide +kernel⟩, List.mem_of_getElem? (i := 457) (by decide +kernel), List.mem_of_getElem? (i := 482) (by decide +kernel), List.mem_of_getElem? (i := 483) (by decide +kernel)⟩
theorem lw_p18 : lw_okq (⟨"SortedRunModel", "isByte", "(I)Z"⟩, 17) := ⟨⟨by decide +kernel, by decide +kernel⟩, List.mem_of_getElem? (i := 457) (by decide +kernel), List.mem_of_getElem? (i := 555) (by decide +kernel), List.mem_of_getElem? (i := 556) (by decide +kernel)⟩
theorem lw_p19 : lw_okq (⟨"SortedRunModel", "isIndex", "()Z"⟩, 17) := ⟨⟨by decide +kernel, by decide +kernel⟩, List.mem_of_getElem? (i := 457) (by decide +kernel), List.mem_of_getElem? (i := 571) (by decide +kernel), List.mem_of_getElem? (i := 572) (by decide +kernel)⟩
theorem lw_p20 : lw_okq (⟨"SortedRunModel", "isSealed", "(II)Z"⟩, 17) := ⟨⟨by decide +kernel, by decide +kernel⟩, List.mem_of_getElem? (i := 457) (by decide +kernel), List.mem_of_getElem? (i := 576) (by decide +kernel), List.mem_of_getElem? (i := 577) (by decide +kernel)⟩
theorem lw_p21 : lw_okq (⟨"SortedRunModel", "small", "()J"⟩, 17) := ⟨⟨by decide +kernel, by decide +kernel⟩, List.mem_of_getElem? (i := 457) (by decide +kernel), List.mem_of_getElem? (i := 580) (by decide +kernel), List.mem_of_getElem? (i := 581) (by decide +kernel)⟩
theorem lw_p22 : lw_okq (⟨"SortedRunModel", "read", "()J"⟩, 17) := ⟨⟨by decide +kernel, by decide +kernel⟩, List.mem_of_getElem? (i := 457) (by decide +kernel), List.mem_of_getElem? (i := 584) (by decide +kernel), List.mem_of_getElem? (i := 585) (by decide +kernel)⟩
theorem lw_p23 : lw_okq (⟨"SortedRunModel", "isBlock", "(I)Z"⟩, 17) := ⟨⟨by decide +kernel, by decide +kernel⟩, List.mem_of_getElem? (i := 457) (by decide +kernel), List.mem_of_getElem? (i := 597) (by decide +kernel), List.mem_of_getElem? (i := 598) (by decide +kernel)⟩
theorem lw_p24 : lw_okq (⟨"SortedRunModel", "isThere", "(I)Z"⟩, 17) := ⟨⟨by decide +kernel, by decide +kernel⟩, List.mem_of_getElem? (i := 457) (by decide +kernel), List.mem_of_getElem? (i := 605) (by decide +kernel), List.mem_of_getElem? (i := 606) (by decide +kernel)⟩
def lw_privs_2 : List (MethodName × Nat) := [(⟨"SortedRunModel", "seal", "(I)V"⟩, 17), (⟨"SortedRunModel", "sum", "(II)I"⟩, 17), (⟨"SortedRunModel", "isByte", "(I)Z"⟩, 17), (⟨"SortedRunModel", "isIndex", "()Z"⟩, 17), (⟨"SortedRunModel", "isSealed", "(II)Z"⟩, 17), (⟨"SortedRunModel", "small", "()J"⟩, 17), (⟨"SortedRunModel", "read", "()J"⟩, 17), (⟨"SortedRunModel", "isBlock", "(I)Z"⟩, 17), (⟨"SortedRunModel", "isThere", "(I)Z"⟩, 17)]
theorem lw_r2 : ∀ q ∈ lw_privs_2, lw_okq q := List.forall_mem_cons.mpr ⟨lw_p16, List.forall_mem_cons.mpr ⟨lw_p17, List.forall_mem_cons.mpr ⟨lw_p18, List.forall_mem_cons.mpr ⟨lw_p19, List.forall_mem_cons.mpr ⟨lw_p20, List.forall_mem_cons.mpr ⟨lw_p21, List.forall_mem_cons.mpr ⟨lw_p22, List.forall_mem_cons.mpr ⟨lw_p23, List.forall_mem_cons.mpr ⟨lw_p24, fun _ h => absurd h List.not_mem_nil⟩⟩⟩⟩⟩⟩⟩⟩⟩
def lw_privs : List (MethodName × Nat) := lw_privs_1 ++ (lw_privs_2)
def lw_tbl : List Cond := k2_sels lw_privs ++ tables_1
theorem lw_privs_ok : ∀ q ∈ lw_privs, lw_okq q := by
  show ∀ q ∈ lw_privs_1 ++ (lw_privs_2), lw_okq q
  exact List.forall_mem_append.mpr ⟨lw_r1, lw_r2⟩
end
section
theorem goodIn_r {big : List Cond} (ws : List Cond) (ps : List Nat) (hp : ws = ps.filterMap (fun i => big[i]?)) (h : ws.all goodWord = true) : GoodIn big ws := by
  intro w hw
  have h1 := List.all_eq_true.mp h w hw
  rw [hp] at hw
  obtain ⟨i, -, hi⟩ := List.mem_filterMap.mp hw
  have hm : w ∈ big := by first | exact List.mem_of_getElem? hi | exact List.getElem?_mem hi
  exact ⟨hm, good_of_word h1⟩
theorem goodIn_app {big a b : List Cond} (ha : GoodIn big a) (hb : GoodIn big b) : GoodIn big (a ++ b) := fun w h => (List.mem_append.mp h).elim (ha w) (hb w)
theorem goodIn_ca {big a b : List Cond} {c : Cond} (ha : GoodIn big (c :: a)) (hb : GoodIn big b) : GoodIn big (c :: (a ++ b)) := fun w h => (List.mem_cons.mp h).elim (fun e => ha w (List.mem_cons.mpr (Or.inl e))) (fun h => (List.mem_append.mp h).elim (fun h => ha w (List.mem_cons.mpr (Or.inr h))) (hb w))
theorem goodIn_sub {big ws : List Cond} (hm : ∀ w ∈ ws, w ∈ big) (h : ws.all goodWord = true) : GoodIn big ws := fun w hw => ⟨hm w hw, good_of_word (List.all_eq_true.mp h w hw)⟩
section VXA
def vx_T (XC : String → State → State → Prop) (st : State) (q : Addr) (t : State) (mc ms : Nat) (free : Addr → Prop) : Prop :=
  ∃ (E : String) (ce : Cell) (L : List Loc), XC E st t ∧ t.heap[q]? = some ce ∧ ce.vm = .none ∧ st.vm.findClass E = some ce.cls ∧ st.WarmedH t.vm ∧ st.sameButNew ({ t with vm := st.vm } : State) L mc ms ∧ ∀ z ∈ L, free z.base
def vx_Q (Qc : Array Value → State → Outcome → State → Prop) (XC : String → State → State → Prop) (mc ms : Nat) (free : Addr → Prop) : Array Value → State → Outcome → State → Prop := fun a st o t =>
  (Qc a st o t ∧ ∃ L, FrameEnd st o t L mc ms ∧ ∀ q ∈ L, free q.base) ∨ ∃ q, o = .threw q ∧ vx_T XC st q t mc ms free
def vx_Met (l : Launch) (y : MethodName) (ws : List Cond) (rm : Room) (Pc : Array Value → State → Prop) (Qc : Array Value → State → Outcome → State → Prop) (XC : String → State → State → Prop) (mc ms : Nat) (free : Addr → Prop) : Prop :=
  MetFree l y (headSpec ws rm) Pc (fun _ _ _ _ _ => True) (vx_Q Qc XC mc ms free)
def vx_Post (XC : String → State → State → Prop) (mc ms : Nat) (free : Addr → Prop) : Pt → Array Value → Addr → Pt → Prop := fun A a q B =>
  ∃ (g : JFrame) (mk : MethodId) (t : State) (L : List Loc) (E : String) (ce : Cell), B.U.heap = t.heap ∧ B.U.vm = t.vm ∧ XC E (A.U.calling g mk a) t ∧ t.heap[q]? = some ce ∧ ce.vm = .none ∧ A.U.vm.findClass E = some ce.cls ∧ B.locs = A.locs ++ L ∧ (∀ z ∈ L, free z.base) ∧ B.cells = A.cells + mc ∧ B.slots = A.slots + ms
def vx_Back (l : Launch) (R : Room) (p : Program) (e : Env) (below : List Frame) (s : State) (sargs : Array Value) (y : MethodName) (len W9 : Nat)
    (Pre : Pt → Array Value → Prop) (Post : Pt → Array Value → Option Value → Pt → Prop) (PostX : Pt → Array Value → Addr → Pt → Prop) : Prop :=
  ∀ (m : MethodId) (meth : Method) (c : Code) (A : Pt) (g : JFrame) (ig : Instr) (mk : MethodId) (a : Array Value),
    Stand p l e R s m sargs below meth c A.U A.locs A.cells A.slots → g.method = m → g.locals.size = c.maxLocals → decode c.code g.pc = .ok (ig, len) →
    2 * g.monitorRoom + (g.stack.map fun v => v.category).sum ≤ W9 → A.U.methodNamed? y = some mk → Pre A a →
    (∃ (v : Option Value) (B : Pt), Stand p l e R s m sargs below meth c B.U B.locs B.cells B.slots ∧ Post A a v B ∧
      Steps p.tables e below (doInvoke e (A.U.setTop g) [] mk a).1 (B.U.setTop { g with pc := g.pc + len, stack := v.toList ++ g.stack })) ∨
    (∃ (q : Addr) (B : Pt), Stand p l e R s m sargs below meth c B.U B.locs B.cells B.slots ∧ PostX A a q B ∧
      Steps p.tables e below (doInvoke e (A.U.setTop g) [] mk a).1 ((B.U.setTop g).pushFrame (.throwing q)))
section Payer
variable {l : Launch} {R : Room} {p : Program} {e : Env} {below : List Frame} {s : State} {sargs : Array Value} {y : MethodName} {len W9 : Nat}
theorem vx_back {ws : List Cond} {rm : Room} {Pc : Array Value → State → Prop} {Qc : Array Value → State → Outcome → State → Prop} {XC : String → State → State → Prop} {mc ms : Nat} {free : Addr → Prop} {bytes : ByteArray} {maxL : Nat} {ret : Option FieldType}
    (hM : vx_Met l y ws rm Pc Qc XC mc ms free) (hblind : FrameBlind Pc) (hrc : rm.cells = mc) (hrs : rm.slots = ms)
    (hframes : rm.frames + 1 ≤ R.frames) (hlocals : W9 + (maxL + 11) + rm.locals ≤ R.locals)
    (hws : ∀ w ∈ ws, ∀ a' U, s.WarmedH U.vm → w.before a' U = true) (hcode : Cond.code y bytes maxL ret ∈ ws) (hinit : ∀ a' U, s.WarmedH U.vm → (Cond.initialized y.cls).before a' U = true) :
    vx_Back l R p e below s sargs y len W9 (PreOf R mc ms Pc) (PostOf Qc mc ms free) (vx_Post XC mc ms free) := by
  intro m meth c A g ig mk a X hg hsize hdg hW hn hp
  have h1 : (headSpec ws rm).pre.before a A.U = true := atoms_intro fun w hw => hws w hw _ _ X.warmed
  have h2 : (Cond.code y bytes maxL ret).before a A.U = true := hws _ hcode _ _ X.warmed
  have h3 : (Cond.initialized y.cls).before a A.U = true := hinit _ _ X.warmed
  have h4 : A.cells + (headSpec ws rm).room.cells ≤ R.cells := by rw [show (headSpec ws rm).room.cells = mc from hrc]; exact hp.1
  have h5 : A.slots + (headSpec ws rm).room.slots ≤ R.slots := by rw [show (headSpec ws rm).room.slots = ms from hrs]; exact hp.2.1
  have hPc : Pc a (A.U.calling g mk a) := hblind _ _ _ _ hp.2.2
  obtain ⟨U, Ls, c0, s0⟩ := A
  dsimp only [Pt.U, Pt.locs, Pt.cells, Pt.slots] at h1 h2 h3 h4 h5 X hn hPc ⊢
  obtain ⟨methY, cY, hmY, hcY, -, hlY, -, -, -, -⟩ := Cond.code_spec hn h2
  obtain ⟨kY, hkY, -⟩ := className_of_methodNamed hn
  have hinitY : kY.init = .initialized := Cond.initialized_spec (findClass_of_methodNamed hn) hkY h3
  have h : At U g.method c below := by rw [hg]; exact X.here
  have hlocals9 : W9 + (maxL + 11) + (headSpec ws rm).room.locals ≤ R.locals := hlocals
  have happ : (headSpec ws rm).appliesLoose y e.platform (U.calling g mk a) = true :=
    Spec.appliesLoose_calling (g := g) h hdg hn hkY hinitY
      (X.room_calling (g := g) (R' := (headSpec ws rm).room) hsize hmY hcY hframes (by rw [hlY]; omega) h4 h5) h1
  obtain ⟨mid, hmid⟩ := h.above
  have hfr : (U.setTop g).frames = (.java g :: mid) ++ below := by rw [State.frames_setTop' g h.top, hmid]; rfl
  obtain ⟨o, s₂, hsteps, -, hend, hq⟩ := Steps.callFree hM p X.admits X.cas X.clock (acts := []) hfr happ hPc trivial
  have hq' : vx_Q Qc XC mc ms free a (U.calling g mk a) o s₂ := hq
  rw [State.frames_setTop' g h.top] at hend
  obtain ⟨g₀, hg0⟩ := Option.isSome_iff_exists.mp h.top
  obtain ⟨r, hr⟩ := State.topJava?_eq_some.mp hg0
  have hr' : (({ U with heap := s₂.heap, slotsUsed := s₂.slotsUsed } : State).setVm s₂.vm).frames = .java g₀ :: r := hr
  rcases hq' with ⟨hqc, L, hfe, hL⟩ | ⟨q, rfl, E, ce, L, hx, hce, hcv, hcl, hW₂, hsm, hL⟩
  · obtain ⟨⟨v, rfl⟩, hW₂, e2, q2, q3, q4, q5, q6⟩ := id hfe
    have e3 : s₂ = ({ (U.calling g mk a).setFrames s₂.frames with heap := s₂.heap, slotsUsed := s₂.slotsUsed } : State).setVm s₂.vm := by
      have : s₂ = ({ s₂ with vm := (U.calling g mk a).vm } : State).setVm s₂.vm := rfl
      rw [e2] at this
      exact this
    obtain ⟨c₂, i₂, len₂, hc₂, hd₂, hf₂⟩ := hend
    have hW' : U.WarmedH s₂.vm := hW₂
    have hcc : c₂ = c := by
      have h1 : s₂.code? g.method = U.code? g.method := by
        rw [State.code?_eq, State.code?_eq, hW'.alike.method?]
      exact Option.some.inj (hc₂.symm.trans (h1.trans h.code))
    subst hcc
    have hlen : len₂ = len := by rw [hdg] at hd₂; cases hd₂; rfl
    subst hlen
    have hs₂ : s₂ = (({ U with heap := s₂.heap, slotsUsed := s₂.slotsUsed } : State).setVm s₂.vm).setTop { g with pc := g.pc + len₂, stack := v.toList ++ g.stack } := by
      refine e3.trans ?_
      rw [hf₂, State.calling_eq h.top, State.setFrames_setFrames, State.setTop_of_frames _ hr', hr]
      rfl
    have hsame : U.sameButNew ({ U with heap := s₂.heap, slotsUsed := s₂.slotsUsed } : State) L mc ms := by
      refine ⟨?_, q2, q3, q4, q5, q6⟩
      obtain ⟨t, ht, -⟩ := State.frames_cons hr
      show ({ U with heap := s₂.heap, slotsUsed := s₂.slotsUsed } : State) = { U.setFrames U.frames with heap := s₂.heap, slotsUsed := s₂.slotsUsed }
      rw [State.setFrames_self ht]
    subst hg
    refine Or.inl ⟨v, ⟨(({ U with heap := s₂.heap, slotsUsed := s₂.slotsUsed } : State).setVm s₂.vm), Ls ++ L, c0 + mc, s0 + ms⟩,
      ⟨X.admits, X.cas, X.clock, X.frames, X.room, X.hears, X.method, X.code, (X.here.setHeapUsed s₂.heap s₂.slotsUsed).setVm hW'.alike, X.tail, State.WarmedH.trans X.warmed hW', X.limits, X.bytes, X.same.trans (hsame.setVm s.vm)⟩,
      ⟨g, mk, s₂, L, rfl, rfl, hqc, rfl, hL, rfl, rfl⟩, ?_⟩
    show Steps p.tables e below _ ((({ U with heap := s₂.heap, slotsUsed := s₂.slotsUsed } : State).setVm s₂.vm).setTop { g with pc := g.pc + len₂, stack := v.toList ++ g.stack })
    rw [← hs₂]
    exact hsteps
  · obtain ⟨e2, q2, q3, q4, q5, q6⟩ := id hsm
    have e3 : s₂ = ({ (U.calling g mk a).setFrames s₂.frames with heap := s₂.heap, slotsUsed := s₂.slotsUsed } : State).setVm s₂.vm := by
      have : s₂ = ({ s₂ with vm := (U.calling g mk a).vm } : State).setVm s₂.vm := rfl
      rw [e2] at this
      exact this
    have hf₂ : s₂.frames = .throwing q :: .java g :: U.frames.tail := hend
    have hW' : U.WarmedH s₂.vm := hW₂
    have hs₂ : s₂ = ((({ U with heap := s₂.heap, slotsUsed := s₂.slotsUsed } : State).setVm s₂.vm).setTop g).pushFrame (.throwing q) := by
      refine e3.trans ?_
      rw [hf₂, State.calling_eq h.top, State.setFrames_setFrames, State.pushFrame, State.frames_setTop _ hr', State.setTop_of_frames _ hr', State.setFrames_setFrames, hr]
      rfl
    have hsame : U.sameButNew ({ U with heap := s₂.heap, slotsUsed := s₂.slotsUsed } : State) L mc ms := by
      refine ⟨?_, q2, q3, q4, q5, q6⟩
      obtain ⟨t, ht, -⟩ := State.frames_cons hr
      show ({ U with heap := s₂.heap, slotsUsed := s₂.slotsUsed } : State) = { U.setFrames U.frames with heap := s₂.heap, slotsUsed := s₂.slotsUsed }
      rw [State.setFrames_self ht]
    subst hg
    refine Or.inr ⟨q, ⟨(({ U with heap := s₂.heap, slotsUsed := s₂.slotsUsed } : State).setVm s₂.vm), Ls ++ L, c0 + mc, s0 + ms⟩,
      ⟨X.admits, X.cas, X.clock, X.frames, X.room, X.hears, X.method, X.code, (X.here.setHeapUsed s₂.heap s₂.slotsUsed).setVm hW'.alike, X.tail, State.WarmedH.trans X.warmed hW', X.limits, X.bytes, X.same.trans (hsame.setVm s.vm)⟩,
      ⟨g, mk, s₂, L, E, ce, rfl, rfl, hx, hce, hcv, hcl, rfl, hL, rfl, rfl⟩, ?_⟩
    show Steps p.tables e below _ (((({ U with heap := s₂.heap, slotsUsed := s₂.slotsUsed } : State).setVm s₂.vm).setTop g).pushFrame (.throwing q))
    rw [← hs₂]
    exact hsteps
end Payer
section Calls
variable {p : Program} {l : Launch} {e : Env} {R : Room} {s : State} {m : MethodId} {args : Array Value} {below : List Frame} {meth : Method} {c : Code} {T : State} {locs : List Loc} {cells slots : Nat}
theorem vx_callV (X : Stand p l e R s m args below meth c T locs cells slots) (hexec : p.tables.exec = Jvm.exec) {own C : String} {index : Nat} {y : MethodName} {bytes : ByteArray} {maxL : Nat} {ret : Option FieldType}
    (hown : s.vm.findClass own = some m.cls) (hlink : (Cond.methodLink own index y).before args s = true) (hinst : (Cond.instanceMethod y).before args s = true) (hsel : (Cond.selects C y y).before args s = true)
    (hcode : (Cond.code y bytes maxL ret).before args s = true) (hy : y.cls ≠ "java/lang/invoke/MethodHandle" ∧ y.cls ≠ "java/lang/invoke/VarHandle")
    {W9 : Nat} {Pre : Pt → Array Value → Prop} {Post : Pt → Array Value → Option Value → Pt → Prop} {PostX : Pt → Array Value → Addr → Pt → Prop} (hK : vx_Back l R p e below s args y 3 W9 Pre Post PostX)
    {b : Addr} {cellB : Cell} (hcell : T.heap[b]? = some cellB) (hobj : cellB.vm.isStatics = false) (hcls : s.vm.findClass C = some cellB.cls)
    {g : JFrame} (hg : g.method = m) (hsize : g.locals.size = c.maxLocals) {argsL rest : List Value} (hlen : ∀ sig, parseMethodDescriptor y.desc = some sig → argsL.length = sig.parameters.length)
    (hstack : g.stack = argsL.reverse ++ .ref b :: rest) (hW : 2 * g.monitorRoom + (rest.map fun v => v.category).sum ≤ W9) (hdg : decode c.code g.pc = .ok (.invokevirtual index, 3))
    (hpre : ∀ vm₁, s.WarmedH vm₁ → Pre ⟨T.setVm vm₁, locs, cells, slots⟩ (Value.ref b :: argsL).toArray) :
    (∃ (v : Option Value) (vm₁ : Vm) (B : Pt), s.WarmedH vm₁ ∧ Stand p l e R s m args below meth c B.U B.locs B.cells B.slots ∧ Post ⟨T.setVm vm₁, locs, cells, slots⟩ (Value.ref b :: argsL).toArray v B ∧
      ∀ target, Steps p.tables e below (B.U.setTop { g with pc := g.pc + 3, stack := v.toList ++ rest }) target → Steps p.tables e below (T.setTop g) target) ∨
    (∃ (q : Addr) (vm₁ : Vm) (B : Pt), s.WarmedH vm₁ ∧ Stand p l e R s m args below meth c B.U B.locs B.cells B.slots ∧ PostX ⟨T.setVm vm₁, locs, cells, slots⟩ (Value.ref b :: argsL).toArray q B ∧
      Steps p.tables e below (T.setTop g) ((B.U.setTop { g with stack := rest }).pushFrame (.throwing q))) := by
  obtain ⟨mk, methM, hnamed, hmethM, hstM, habM⟩ := Cond.instanceMethod_spec hinst
  obtain ⟨methM', cM, hmethM', -, -, -, -, -, -, hsigM⟩ := Cond.code_spec hnamed hcode
  cases hmethM.symm.trans hmethM'
  obtain ⟨c2, r2, m2, q1, q2, q3, q4, kP, hkP, hkPi⟩ := Cond.selects_spec hsel
  cases hcls.symm.trans q1
  cases (State.methodFound?_of_named hnamed hy).symm.trans q2
  cases hnamed.symm.trans q3
  have hselP : selectMethod e.platform s.vm cellB.cls mk = .method mk := by rw [Launch.admits_selectMethod X.admits]; exact q4
  obtain ⟨vm₁, X₁, hstep₁⟩ := X.invokevirtual hexec hown hlink hnamed hmethM hstM hkP hkPi hy (a := b) (cell := cellB) hcell
    (fun z h => by rw [h] at hobj; cases hobj) hselP hmethM habM hkP hkPi (g := g) hg (argsL := argsL) (rest := rest) (hlen _ hsigM) hstack hdg
  rcases hK m meth c ⟨T.setVm vm₁, locs, cells, slots⟩ { g with stack := rest } (.invokevirtual index) mk (Value.ref b :: argsL).toArray X₁ hg hsize hdg hW (X₁.named hnamed) (hpre vm₁ X₁.warmed) with ⟨v, B, X', hpost, hsteps⟩ | ⟨q, B, X', hpost, hsteps⟩
  · exact Or.inl ⟨v, vm₁, B, X₁.warmed, X', hpost, fun target h => hstep₁ _ fun acts => by rw [doInvoke_state]; exact hsteps.trans h⟩
  · exact Or.inr ⟨q, vm₁, B, X₁.warmed, X', hpost, hstep₁ _ fun acts => by rw [doInvoke_state]; exact hsteps⟩
theorem vx_callS (X : Stand p l e R s m args below meth c T locs cells slots) (hexec : p.tables.exec = Jvm.exec) {own : String} {index : Nat} {y : MethodName} {bytes : ByteArray} {maxL : Nat} {ret : Option FieldType}
    (hown : s.vm.findClass own = some m.cls) (hlink : (Cond.methodLink own index y).before args s = true) (hstat : (Cond.static y).before args s = true) (hinit : (Cond.initialized y.cls).before args s = true)
    (hcode : (Cond.code y bytes maxL ret).before args s = true) (hy : y.cls ≠ "java/lang/invoke/MethodHandle" ∧ y.cls ≠ "java/lang/invoke/VarHandle")
    {W9 : Nat} {Pre : Pt → Array Value → Prop} {Post : Pt → Array Value → Option Value → Pt → Prop} {PostX : Pt → Array Value → Addr → Pt → Prop} (hK : vx_Back l R p e below s args y 3 W9 Pre Post PostX)
    {g : JFrame} (hg : g.method = m) (hsize : g.locals.size = c.maxLocals) {argsL rest : List Value} (hlen : ∀ sig, parseMethodDescriptor y.desc = some sig → argsL.length = sig.parameters.length)
    (hstack : g.stack = argsL.reverse ++ rest) (hW : 2 * g.monitorRoom + (rest.map fun v => v.category).sum ≤ W9) (hdg : decode c.code g.pc = .ok (.invokestatic index, 3))
    (hpre : ∀ vm₁, s.WarmedH vm₁ → Pre ⟨T.setVm vm₁, locs, cells, slots⟩ argsL.toArray) :
    (∃ (v : Option Value) (vm₁ : Vm) (B : Pt), s.WarmedH vm₁ ∧ Stand p l e R s m args below meth c B.U B.locs B.cells B.slots ∧ Post ⟨T.setVm vm₁, locs, cells, slots⟩ argsL.toArray v B ∧
      ∀ target, Steps p.tables e below (B.U.setTop { g with pc := g.pc + 3, stack := v.toList ++ rest }) target → Steps p.tables e below (T.setTop g) target) ∨
    (∃ (q : Addr) (vm₁ : Vm) (B : Pt), s.WarmedH vm₁ ∧ Stand p l e R s m args below meth c B.U B.locs B.cells B.slots ∧ PostX ⟨T.setVm vm₁, locs, cells, slots⟩ argsL.toArray q B ∧
      Steps p.tables e below (T.setTop g) ((B.U.setTop { g with stack := rest }).pushFrame (.throwing q))) := by
  obtain ⟨mk, hnamed⟩ := Cond.code_named hcode
  obtain ⟨methM, cM, hmethM, -, -, -, -, -, -, hsigM⟩ := Cond.code_spec hnamed hcode
  have hstatic : methM.isStatic = true := Cond.static_spec hnamed hmethM hstat
  obtain ⟨kP, hkP, -⟩ := className_of_methodNamed hnamed
  have hinitP : kP.init = .initialized := Cond.initialized_spec (findClass_of_methodNamed hnamed) hkP hinit
  obtain ⟨vm₁, X₁, hstep₁⟩ := X.invokestatic hexec hown hlink hnamed hmethM hstatic hkP hinitP hy (g := g) hg (argsL := argsL) (rest := rest) (hlen _ hsigM) hstack hdg
  rcases hK m meth c ⟨T.setVm vm₁, locs, cells, slots⟩ { g with stack := rest } (.invokestatic index) mk argsL.toArray X₁ hg hsize hdg hW (X₁.named hnamed) (hpre vm₁ X₁.warmed) with ⟨v, B, X', hpost, hsteps⟩ | ⟨q, B, X', hpost, hsteps⟩
  · exact Or.inl ⟨v, vm₁, B, X₁.warmed, X', hpost, fun target h => hstep₁ _ fun acts => by rw [doInvoke_state]; exact hsteps.trans h⟩
  · exact Or.inr ⟨q, vm₁, B, X₁.warmed, X', hpost, hstep₁ _ fun acts => by rw [doInvoke_state]; exact hsteps⟩
end Calls
theorem vx_cls {s : State} {T : State} {vm₁ : Vm} {E : String} {k : ClassId} (hW : s.WarmedH vm₁) (h : (T.setVm vm₁).vm.findClass E = some k) : s.vm.findClass E = some k := by
  have h1 : vm₁.findClass E = some k := h
  rw [hW.alike.findClass] at h1
  exact h1
def vx_W (p : Program) (l : Launch) (e : Env) (R : Room) (s : State) (m : MethodId) (args : Array Value) (below : List Frame) (meth : Method) (c : Code) (H : Heap) (locs : List Loc) (cells slots : Nat) (Q : State → Prop) (g : JFrame) (q : Addr) : Prop :=
  ∀ T : State, T.heap = H → Stand p l e R s m args below meth c T locs cells slots → ∃ t, Steps p.tables e below ((T.setTop g).pushFrame (.throwing q)) t ∧ Q t
def vx_Run (p : Program) (l : Launch) (e : Env) (R : Room) (s : State) (m : MethodId) (args : Array Value) (below : List Frame) (meth : Method) (c : Code) (H : Heap) (locs : List Loc) (cells slots mc ms : Nat) (g : JFrame) (rest : List Value) (Qa : State → Outcome → State → Prop) (XC : String → State → State → Prop) (free : Addr → Prop) : Prop :=
  ∀ T : State, T.heap = H → Stand p l e R s m args below meth c T locs cells slots →
    (∃ (v : Option Value) (st₀ t T' : State) (L : List Loc), st₀.heap = H ∧ Stand p l e R s m args below meth c T' (locs ++ L) (cells + mc) (slots + ms) ∧ (∀ q ∈ L, free q.base) ∧ T'.heap = t.heap ∧ T'.vm = t.vm ∧ Qa st₀ (.returned v) t ∧
      Goes p e below T g T' { g with pc := g.pc + 3, stack := v.toList ++ rest }) ∨
    (∃ (q : Addr) (st₀ t T' : State) (L : List Loc) (E : String) (ce : Cell), st₀.heap = H ∧ Stand p l e R s m args below meth c T' (locs ++ L) (cells + mc) (slots + ms) ∧ (∀ z ∈ L, free z.base) ∧ T'.heap = t.heap ∧ T'.vm = t.vm ∧ XC E st₀ t ∧ t.heap[q]? = some ce ∧ ce.vm = .none ∧ s.vm.findClass E = some ce.cls ∧
      Steps p.tables e below (T.setTop g) ((T'.setTop { g with stack := rest }).pushFrame (.throwing q)))
def vx_X {S : Type} (px : S → Prop) (B : String → S → State → Prop) (A : Nat → Prop) : String → State → State → Prop := fun E st t => ∃ u : S, px u ∧ B E u t ∧ va_F A st t
section Runs
variable {p : Program} {l : Launch} {e : Env} {R : Room} {s : State} {m : MethodId} {args : Array Value} {below : List Frame} {meth : Method} {c : Code} {H : Heap} {locs : List Loc} {cells slots : Nat}
variable {y : MethodName} {bytes cc : ByteArray} {maxL nL mc ms n index : Nat} {ret : Option FieldType} {ws : List Cond} {rm : Room} {Pc : Array Value → State → Prop} {Qc : Array Value → State → Outcome → State → Prop} {XC : String → State → State → Prop} {free : Addr → Prop} {Ts : List Cond} {own C : String} {b : Addr} {As rest : List Value} {g : JFrame}
theorem vx_callBack (cb : CallB R s args own index y bytes maxL ret ws rm mc ms n) (hM : vx_Met l y ws rm Pc Qc XC mc ms free) (hbl : FrameBlind Pc) : vx_Back l R p e below s args y 3 8 (PreOf R mc ms Pc) (PostOf Qc mc ms free) (vx_Post XC mc ms free) := by
  obtain ⟨hrc, hrs, hfr, hlo, hws, hcw, -, hini, -⟩ := cb
  exact vx_back (bytes := bytes) (maxL := maxL) (ret := ret) hM hbl hrc hrs hfr hlo hws hcw (fun a' U hW => word_at hW (Or.inl (by first | rfl | simp [Cond.onTables, Cond.keeps, Cond.steady])) hini)
theorem vx_runV (S : CallFix p m c cc nL s args Ts own) (hM : vx_Met l y ws rm Pc Qc XC mc ms free) (cw : CallW R s args own C index y bytes maxL ret ws rm mc ms n) (hp : PreV s H C b Pc As)
    (hg : g.method = m) (hn : As.length = n) (hsize : g.locals.size = nL) (hstack : g.stack = As.reverse ++ .ref b :: rest) (hW : 2 * g.monitorRoom + (rest.map fun v => v.category).sum ≤ 8) (hdg : decode cc g.pc = .ok (.invokevirtual index, 3)) (hf : cells + mc ≤ R.cells ∧ slots + ms ≤ R.slots) :
    vx_Run p l e R s m args below meth c H locs cells slots mc ms g rest (Qc (Value.ref b :: As).toArray) XC free := by
  have hK : vx_Back l R p e below s args y 3 8 (PreOf R mc ms Pc) (PostOf Qc mc ms free) (vx_Post XC mc ms free) := vx_callBack cw.1 hM hp.1
  obtain ⟨⟨-, -, -, -, -, -, hcode, -, hy, hlen, hl⟩, hin, hse⟩ := cw
  obtain ⟨hx, hb, hml, ho, -⟩ := S
  obtain ⟨-, ⟨cellB, hcB, hoB, hclB⟩, hPc⟩ := hp
  intro T hT X
  rcases vx_callV X hx (C := C) (bytes := bytes) (maxL := maxL) (ret := ret) ho hl hin hse hcode hy hK (by rw [hT]; exact hcB) hoB hclB hg (hsize.trans hml.symm) (argsL := As) (rest := rest) (fun sig h => hn.trans (hlen sig h)) hstack hW (by rw [hb]; exact hdg)
    (fun vm₁ hW₁ => ⟨hf.1, hf.2, hPc (T.setVm vm₁) hT hW₁⟩) with ⟨v, vm₁, ⟨U', l2, c2, s2⟩, hW₁, X', ⟨g', mk, t, L, e1, e2, hq, h1, hL, h2, h3⟩, st⟩ | ⟨q, vm₁, ⟨U', l2, c2, s2⟩, hW₁, X', ⟨g', mk, t, L, E, ce, e1, e2, hq, hce, hcv, hcl, h1, hL, h2, h3⟩, st⟩
  · dsimp only [Pt.U, Pt.locs, Pt.cells, Pt.slots] at X' e1 e2 h1 h2 h3 st
    subst h1; subst h2; subst h3
    exact Or.inl ⟨v, (T.setVm vm₁).calling g' mk (Value.ref b :: As).toArray, t, U', L, hT, X', hL, e1, e2, hq, st⟩
  · dsimp only [Pt.U, Pt.locs, Pt.cells, Pt.slots] at X' e1 e2 h1 h2 h3 st hcl
    subst h1; subst h2; subst h3
    exact Or.inr ⟨q, (T.setVm vm₁).calling g' mk (Value.ref b :: As).toArray, t, U', L, E, ce, hT, X', hL, e1, e2, hq, hce, hcv, vx_cls hW₁ hcl, st⟩
theorem vx_runS (S : CallFix p m c cc nL s args Ts own) (hM : vx_Met l y ws rm Pc Qc XC mc ms free) (cw : CallB R s args own index y bytes maxL ret ws rm mc ms n ∧ (Cond.static y).before args s = true) (hp : PreS s H Pc As)
    (hg : g.method = m) (hn : As.length = n) (hsize : g.locals.size = nL) (hstack : g.stack = As.reverse ++ rest) (hW : 2 * g.monitorRoom + (rest.map fun v => v.category).sum ≤ 8) (hdg : decode cc g.pc = .ok (.invokestatic index, 3)) (hf : cells + mc ≤ R.cells ∧ slots + ms ≤ R.slots) :
    vx_Run p l e R s m args below meth c H locs cells slots mc ms g rest (Qc As.toArray) XC free := by
  have hK : vx_Back l R p e below s args y 3 8 (PreOf R mc ms Pc) (PostOf Qc mc ms free) (vx_Post XC mc ms free) := vx_callBack cw.1 hM hp.1
  obtain ⟨⟨-, -, -, -, -, -, hcode, hini, hy, hlen, hl⟩, hstt⟩ := cw
  obtain ⟨hx, hb, hml, ho, -⟩ := S
  intro T hT X
  rcases vx_callS X hx (bytes := bytes) (maxL := maxL) (ret := ret) ho hl hstt hini hcode hy hK hg (hsize.trans hml.symm) (argsL := As) (rest := rest) (fun sig h => hn.trans (hlen sig h)) hstack hW (by rw [hb]; exact hdg)
    (fun vm₁ hW₁ => ⟨hf.1, hf.2, hp.2 (T.setVm vm₁) hT hW₁⟩) with ⟨v, vm₁, ⟨U', l2, c2, s2⟩, hW₁, X', ⟨g', mk, t, L, e1, e2, hq, h1, hL, h2, h3⟩, st⟩ | ⟨q, vm₁, ⟨U', l2, c2, s2⟩, hW₁, X', ⟨g', mk, t, L, E, ce, e1, e2, hq, hce, hcv, hcl, h1, hL, h2, h3⟩, st⟩
  · dsimp only [Pt.U, Pt.locs, Pt.cells, Pt.slots] at X' e1 e2 h1 h2 h3 st
    subst h1; subst h2; subst h3
    exact Or.inl ⟨v, (T.setVm vm₁).calling g' mk As.toArray, t, U', L, hT, X', hL, e1, e2, hq, st⟩
  · dsimp only [Pt.U, Pt.locs, Pt.cells, Pt.slots] at X' e1 e2 h1 h2 h3 st hcl
    subst h1; subst h2; subst h3
    exact Or.inr ⟨q, (T.setVm vm₁).calling g' mk As.toArray, t, U', L, E, ce, hT, X', hL, e1, e2, hq, hce, hcv, vx_cls hW₁ hcl, st⟩
end Runs
section Rows
variable {p : Program} {l : Launch} {e : Env} {R : Room} {s : State} {m : MethodId} {args : Array Value} {below : List Frame} {meth : Method} {c : Code} {H : Heap} {locs : List Loc} {cells slots : Nat} {Q : State → Prop}
variable {mc ms : Nat} {free : Addr → Prop} {A0 A1 : Nat → Prop} {H0 : Heap} {a : Array Value} {pc : Nat} {ls : Array Slot} {st0 rest : List Value}
theorem vx_keep {st₀ t T' : State} {L : List Loc} (h0 : st₀.heap = H) (e1 : T'.heap = t.heap) (hS : va_S A0 H0 H locs) (hA : ∀ q, q < H.size → A1 q → A0 q) (hf : ∀ q, free q → A0 q) (hL : ∀ q ∈ L, free q.base) (hF : va_F A1 st₀ t) :
    H.size ≤ T'.heap.size ∧ (∀ q : Nat, q < H.size → ¬ A1 q → T'.heap[q]? = H[q]?) ∧ va_S A0 H0 T'.heap (locs ++ L) := by
  obtain ⟨hz, hk⟩ := hF
  rw [h0] at hz hk
  exact ⟨by rw [e1]; exact hz, fun q h1 h2 => by rw [e1]; exact hk q h1 h2,
    ⟨Nat.le_trans hS.1 (by rw [e1]; exact hz), fun q h1 h2 => by rw [e1, hk q (Nat.lt_of_lt_of_le h1 hS.1) (fun z => h2 (hA q (Nat.lt_of_lt_of_le h1 hS.1) z))]; exact hS.2.1 q h1 h2, fun q hq => by
      rcases List.mem_append.mp hq with h | h
      · exact hS.2.2 q h
      · exact hf _ (hL q h)⟩⟩
theorem vx_calli {S SX : Type} {post : Int32 → S → Prop} {px : SX → Prop} {B : S → State → Prop} {BX : String → SX → State → Prop} {AX : Nat → Prop} (hr : vx_Run p l e R s m args below meth c H locs cells slots mc ms (F0 m pc ls st0) rest (va_Qi post B A1 a) (vx_X px BX AX) free) (hS : va_S A0 H0 H locs) (hA : ∀ q, q < H.size → A1 q → A0 q) (hf : ∀ q, free q → A0 q) (hAX : ∀ q, q < H.size → AX q → A0 q)
    (kx : ∀ (E : String) (ce : Cell) (q9 : Addr) (u : SX) (t : State) (H1 : Heap) (locs1 : List Loc), t.heap = H1 → s.vm.Alike t.vm → px u → BX E u t → H.size ≤ H1.size → (∀ q : Nat, q < H.size → ¬ AX q → H1[q]? = H[q]?) → va_S A0 H0 H1 locs1 → H1[q9]? = some ce → ce.vm = .none → s.vm.findClass E = some ce.cls → vx_W p l e R s m args below meth c H1 locs1 (cells + mc) (slots + ms) Q (F0 m pc ls rest) q9)
    (kk : ∀ (r : Int32) (u : S) (t : State) (H1 : Heap) (locs1 : List Loc), t.heap = H1 → s.vm.Alike t.vm → post r u → B u t → H.size ≤ H1.size → (∀ q : Nat, q < H.size → ¬ A1 q → H1[q]? = H[q]?) → va_S A0 H0 H1 locs1 → W p l e R s m args below meth c H1 locs1 (cells + mc) (slots + ms) Q (F0 m (pc + 3) ls (.int r :: rest))) : W p l e R s m args below meth c H locs cells slots Q (F0 m pc ls st0) := by
  intro T hT X
  rcases hr T hT X with ⟨v, st₀, t, T', L, h0, X', hL, e1, e2, ⟨⟨r, u, hv, hp, hb⟩, hF⟩, st⟩ | ⟨q, st₀, t, T', L, E, ce, h0, X', hL, e1, e2, ⟨u, hp, hb, hF⟩, hce, hcv, hcl, st⟩
  · cases hv
    obtain ⟨k1, k2, k3⟩ := vx_keep h0 e1 hS hA hf hL hF
    obtain ⟨t2, a1, b1⟩ := kk r u t T'.heap (locs ++ L) e1.symm (by rw [← e2]; exact X'.warmed.alike) hp hb k1 k2 k3 T' rfl X'
    exact ⟨t2, st t2 a1, b1⟩
  · obtain ⟨k1, k2, k3⟩ := vx_keep h0 e1 hS hAX hf hL hF
    obtain ⟨t2, a1, b1⟩ := kx E ce q u t T'.heap (locs ++ L) e1.symm (by rw [← e2]; exact X'.warmed.alike) hp hb k1 k2 k3 (by rw [e1]; exact hce) hcv hcl T' rfl X'
    exact ⟨t2, st.trans a1, b1⟩
theorem vx_calll {S SX : Type} {post : Int64 → S → Prop} {px : SX → Prop} {B : S → State → Prop} {BX : String → SX → State → Prop} {AX : Nat → Prop} (hr : vx_Run p l e R s m args below meth c H locs cells slots mc ms (F0 m pc ls st0) rest (va_Ql post B A1 a) (vx_X px BX AX) free) (hS : va_S A0 H0 H locs) (hA : ∀ q, q < H.size → A1 q → A0 q) (hf : ∀ q, free q → A0 q) (hAX : ∀ q, q < H.size → AX q → A0 q)
    (kx : ∀ (E : String) (ce : Cell) (q9 : Addr) (u : SX) (t : State) (H1 : Heap) (locs1 : List Loc), t.heap = H1 → s.vm.Alike t.vm → px u → BX E u t → H.size ≤ H1.size → (∀ q : Nat, q < H.size → ¬ AX q → H1[q]? = H[q]?) → va_S A0 H0 H1 locs1 → H1[q9]? = some ce → ce.vm = .none → s.vm.findClass E = some ce.cls → vx_W p l e R s m args below meth c H1 locs1 (cells + mc) (slots + ms) Q (F0 m pc ls rest) q9)
    (kk : ∀ (r : Int64) (u : S) (t : State) (H1 : Heap) (locs1 : List Loc), t.heap = H1 → s.vm.Alike t.vm → post r u → B u t → H.size ≤ H1.size → (∀ q : Nat, q < H.size → ¬ A1 q → H1[q]? = H[q]?) → va_S A0 H0 H1 locs1 → W p l e R s m args below meth c H1 locs1 (cells + mc) (slots + ms) Q (F0 m (pc + 3) ls (.long r :: rest))) : W p l e R s m args below meth c H locs cells slots Q (F0 m pc ls st0) := by
  intro T hT X
  rcases hr T hT X with ⟨v, st₀, t, T', L, h0, X', hL, e1, e2, ⟨⟨r, u, hv, hp, hb⟩, hF⟩, st⟩ | ⟨q, st₀, t, T', L, E, ce, h0, X', hL, e1, e2, ⟨u, hp, hb, hF⟩, hce, hcv, hcl, st⟩
  · cases hv
    obtain ⟨k1, k2, k3⟩ := vx_keep h0 e1 hS hA hf hL hF
    obtain ⟨t2, a1, b1⟩ := kk r u t T'.heap (locs ++ L) e1.symm (by rw [← e2]; exact X'.warmed.alike) hp hb k1 k2 k3 T' rfl X'
    exact ⟨t2, st t2 a1, b1⟩
  · obtain ⟨k1, k2, k3⟩ := vx_keep h0 e1 hS hAX hf hL hF
    obtain ⟨t2, a1, b1⟩ := kx E ce q u t T'.heap (locs ++ L) e1.symm (by rw [← e2]; exact X'.warmed.alike) hp hb k1 k2 k3 (by rw [e1]; exact hce) hcv hcl T' rfl X'
    exact ⟨t2, st.trans a1, b1⟩
theorem vx_callf {S SX : Type} {post : UInt32 → S → Prop} {px : SX → Prop} {B : S → State → Prop} {BX : String → SX → State → Prop} {AX : Nat → Prop} (hr : vx_Run p l e R s m args below meth c H locs cells slots mc ms (F0 m pc ls st0) rest (va_Qf post B A1 a) (vx_X px BX AX) free) (hS : va_S A0 H0 H locs) (hA : ∀ q, q < H.size → A1 q → A0 q) (hf : ∀ q, free q → A0 q) (hAX : ∀ q, q < H.size → AX q → A0 q)
    (kx : ∀ (E : String) (ce : Cell) (q9 : Addr) (u : SX) (t : State) (H1 : Heap) (locs1 : List Loc), t.heap = H1 → s.vm.Alike t.vm → px u → BX E u t → H.size ≤ H1.size → (∀ q : Nat, q < H.size → ¬ AX q → H1[q]? = H[q]?) → va_S A0 H0 H1 locs1 → H1[q9]? = some ce → ce.vm = .none → s.vm.findClass E = some ce.cls → vx_W p l e R s m args below meth c H1 locs1 (cells + mc) (slots + ms) Q (F0 m pc ls rest) q9)
    (kk : ∀ (r : UInt32) (u : S) (t : State) (H1 : Heap) (locs1 : List Loc), t.heap = H1 → s.vm.Alike t.vm → post r u → B u t → H.size ≤ H1.size → (∀ q : Nat, q < H.size → ¬ A1 q → H1[q]? = H[q]?) → va_S A0 H0 H1 locs1 → W p l e R s m args below meth c H1 locs1 (cells + mc) (slots + ms) Q (F0 m (pc + 3) ls (.float r :: rest))) : W p l e R s m args below meth c H locs cells slots Q (F0 m pc ls st0) := by
  intro T hT X
  rcases hr T hT X with ⟨v, st₀, t, T', L, h0, X', hL, e1, e2, ⟨⟨r, u, hv, hp, hb⟩, hF⟩, st⟩ | ⟨q, st₀, t, T', L, E, ce, h0, X', hL, e1, e2, ⟨u, hp, hb, hF⟩, hce, hcv, hcl, st⟩
  · cases hv
    obtain ⟨k1, k2, k3⟩ := vx_keep h0 e1 hS hA hf hL hF
    obtain ⟨t2, a1, b1⟩ := kk r u t T'.heap (locs ++ L) e1.symm (by rw [← e2]; exact X'.warmed.alike) hp hb k1 k2 k3 T' rfl X'
    exact ⟨t2, st t2 a1, b1⟩
  · obtain ⟨k1, k2, k3⟩ := vx_keep h0 e1 hS hAX hf hL hF
    obtain ⟨t2, a1, b1⟩ := kx E ce q u t T'.heap (locs ++ L) e1.symm (by rw [← e2]; exact X'.warmed.alike) hp hb k1 k2 k3 (by rw [e1]; exact hce) hcv hcl T' rfl X'
    exact ⟨t2, st.trans a1, b1⟩
theorem vx_calld {S SX : Type} {post : UInt64 → S → Prop} {px : SX → Prop} {B : S → State → Prop} {BX : String → SX → State → Prop} {AX : Nat → Prop} (hr : vx_Run p l e R s m args below meth c H locs cells slots mc ms (F0 m pc ls st0) rest (va_Qd post B A1 a) (vx_X px BX AX) free) (hS : va_S A0 H0 H locs) (hA : ∀ q, q < H.size → A1 q → A0 q) (hf : ∀ q, free q → A0 q) (hAX : ∀ q, q < H.size → AX q → A0 q)
    (kx : ∀ (E : String) (ce : Cell) (q9 : Addr) (u : SX) (t : State) (H1 : Heap) (locs1 : List Loc), t.heap = H1 → s.vm.Alike t.vm → px u → BX E u t → H.size ≤ H1.size → (∀ q : Nat, q < H.size → ¬ AX q → H1[q]? = H[q]?) → va_S A0 H0 H1 locs1 → H1[q9]? = some ce → ce.vm = .none → s.vm.findClass E = some ce.cls → vx_W p l e R s m args below meth c H1 locs1 (cells + mc) (slots + ms) Q (F0 m pc ls rest) q9)
    (kk : ∀ (r : UInt64) (u : S) (t : State) (H1 : Heap) (locs1 : List Loc), t.heap = H1 → s.vm.Alike t.vm → post r u → B u t → H.size ≤ H1.size → (∀ q : Nat, q < H.size → ¬ A1 q → H1[q]? = H[q]?) → va_S A0 H0 H1 locs1 → W p l e R s m args below meth c H1 locs1 (cells + mc) (slots + ms) Q (F0 m (pc + 3) ls (.double r :: rest))) : W p l e R s m args below meth c H locs cells slots Q (F0 m pc ls st0) := by
  intro T hT X
  rcases hr T hT X with ⟨v, st₀, t, T', L, h0, X', hL, e1, e2, ⟨⟨r, u, hv, hp, hb⟩, hF⟩, st⟩ | ⟨q, st₀, t, T', L, E, ce, h0, X', hL, e1, e2, ⟨u, hp, hb, hF⟩, hce, hcv, hcl, st⟩
  · cases hv
    obtain ⟨k1, k2, k3⟩ := vx_keep h0 e1 hS hA hf hL hF
    obtain ⟨t2, a1, b1⟩ := kk r u t T'.heap (locs ++ L) e1.symm (by rw [← e2]; exact X'.warmed.alike) hp hb k1 k2 k3 T' rfl X'
    exact ⟨t2, st t2 a1, b1⟩
  · obtain ⟨k1, k2, k3⟩ := vx_keep h0 e1 hS hAX hf hL hF
    obtain ⟨t2, a1, b1⟩ := kx E ce q u t T'.heap (locs ++ L) e1.symm (by rw [← e2]; exact X'.warmed.alike) hp hb k1 k2 k3 (by rw [e1]; exact hce) hcv hcl T' rfl X'
    exact ⟨t2, st.trans a1, b1⟩
theorem vx_callv {S SX : Type} {post : S → Prop} {px : SX → Prop} {B : S → State → Prop} {BX : String → SX → State → Prop} {AX : Nat → Prop} (hr : vx_Run p l e R s m args below meth c H locs cells slots mc ms (F0 m pc ls st0) rest (va_Qv post B A1 a) (vx_X px BX AX) free) (hS : va_S A0 H0 H locs) (hA : ∀ q, q < H.size → A1 q → A0 q) (hf : ∀ q, free q → A0 q) (hAX : ∀ q, q < H.size → AX q → A0 q)
    (kx : ∀ (E : String) (ce : Cell) (q9 : Addr) (u : SX) (t : State) (H1 : Heap) (locs1 : List Loc), t.heap = H1 → s.vm.Alike t.vm → px u → BX E u t → H.size ≤ H1.size → (∀ q : Nat, q < H.size → ¬ AX q → H1[q]? = H[q]?) → va_S A0 H0 H1 locs1 → H1[q9]? = some ce → ce.vm = .none → s.vm.findClass E = some ce.cls → vx_W p l e R s m args below meth c H1 locs1 (cells + mc) (slots + ms) Q (F0 m pc ls rest) q9)
    (kk : ∀ (u : S) (t : State) (H1 : Heap) (locs1 : List Loc), t.heap = H1 → s.vm.Alike t.vm → post u → B u t → H.size ≤ H1.size → (∀ q : Nat, q < H.size → ¬ A1 q → H1[q]? = H[q]?) → va_S A0 H0 H1 locs1 → W p l e R s m args below meth c H1 locs1 (cells + mc) (slots + ms) Q (F0 m (pc + 3) ls (rest))) : W p l e R s m args below meth c H locs cells slots Q (F0 m pc ls st0) := by
  intro T hT X
  rcases hr T hT X with ⟨v, st₀, t, T', L, h0, X', hL, e1, e2, ⟨⟨u, hv, hp, hb⟩, hF⟩, st⟩ | ⟨q, st₀, t, T', L, E, ce, h0, X', hL, e1, e2, ⟨u, hp, hb, hF⟩, hce, hcv, hcl, st⟩
  · cases hv
    obtain ⟨k1, k2, k3⟩ := vx_keep h0 e1 hS hA hf hL hF
    obtain ⟨t2, a1, b1⟩ := kk u t T'.heap (locs ++ L) e1.symm (by rw [← e2]; exact X'.warmed.alike) hp hb k1 k2 k3 T' rfl X'
    exact ⟨t2, st t2 a1, b1⟩
  · obtain ⟨k1, k2, k3⟩ := vx_keep h0 e1 hS hAX hf hL hF
    obtain ⟨t2, a1, b1⟩ := kx E ce q u t T'.heap (locs ++ L) e1.symm (by rw [← e2]; exact X'.warmed.alike) hp hb k1 k2 k3 (by rw [e1]; exact hce) hcv hcl T' rfl X'
    exact ⟨t2, st.trans a1, b1⟩
theorem vx_catch {own name : String} {E : String} {ce : Cell} {q : Addr} (hown : s.vm.findClass own = some m.cls) (pre : List ExceptionTableEntry) (x : ExceptionTableEntry) (suf : List ExceptionTableEntry) (hsplit : c.exceptionTable.toList = pre ++ x :: suf)
    (hpass : ∀ z ∈ pre, covers z pc = false ∨ (z.catchType ≠ 0 ∧ ∃ nm : String, (Cond.classLink own z.catchType nm).before args s = true ∧ va_Nc E nm s)) (hx : covers x pc = true) (h0 : x.catchType ≠ 0)
    (hlink : (Cond.classLink own x.catchType name).before args s = true) (hcast : (Cond.castable E name).before args s = true) (hcell : H[q]? = some ce) (hv : ce.vm = .none) (hcl : s.vm.findClass E = some ce.cls)
    (kk : W p l e R s m args below meth c H locs cells slots Q (F0 m x.handlerPc ls [.ref q])) : vx_W p l e R s m args below meth c H locs cells slots Q (F0 m pc ls rest) q := by
  intro T hT X
  have hpl : e.platform.magicAccessors = ({} : Platform).magicAccessors := by rw [X.admits.platform]
  obtain ⟨c3, c4, hc3, hc4, hasg⟩ := Cond.castable_spec hcast
  cases Option.some.inj (hc3.symm.trans hcl)
  obtain ⟨c5, hc5, hcl5⟩ := Cond.classLink_spec hown hlink e.platform hpl
  cases Option.some.inj (hc4.symm.trans hc5)
  obtain ⟨vm', X', st⟩ := X.thenCaughtThrough q (g := F0 m pc ls rest) rfl (Steps.refl _) (by rw [hT]; exact hcell) (by rw [hv]; rfl) (by obtain ⟨k9, h9, -⟩ := Vm.findClass_spec hcl; exact ⟨k9, h9⟩) pre x suf hsplit
    (fun z hz => by
      rcases hpass z hz with h | ⟨hz0, nm, hl1, hn1⟩
      · exact Or.inl h
      · obtain ⟨c6, hc6, hcl6⟩ := Cond.classLink_spec hown hl1 e.platform hpl
        obtain ⟨a8, b8, h1, h2, h3⟩ := hn1
        cases Option.some.inj (h1.symm.trans hcl)
        cases Option.some.inj (h2.symm.trans hc6)
        exact Or.inr ⟨hz0, _, hcl6, h3⟩) hx (Or.inr ⟨h0, c4, hcl5, hasg⟩)
  obtain ⟨t, a1, b1⟩ := kk (T.setVm vm') hT X'
  exact ⟨t, st.trans a1, b1⟩
end Rows
section Ends
variable {p : Program} {l : Launch} {e : Env} {R : Room} {s : State} {m : MethodId} {args : Array Value} {below : List Frame} {meth : Method} {c : Code} {H : Heap} {locs : List Loc} {cells slots : Nat} {Q : State → Prop}
variable {mc ms : Nat} {free : Addr → Prop} {A0 A1 : Nat → Prop} {H0 : Heap} {a : Array Value} {ls : Array Slot} {st0 rest : List Value}
variable {Qc : Array Value → State → Outcome → State → Prop} {XC : String → State → State → Prop}
def vx_MQ (below : List Frame) (Qc : Array Value → State → Outcome → State → Prop) (XC : String → State → State → Prop) (a : Array Value) (s : State) (mc ms : Nat) (free : Addr → Prop) : State → Prop := fun t =>
  ∃ o, t.status = .running ∧ Ended t below o ∧ vx_Q Qc XC mc ms free a s o t
theorem vx_ret {g : JFrame} {mc ms : Nat} (k : W p l e R s m args below meth c H locs cells slots (MQ below Qc args s mc ms free) g) : W p l e R s m args below meth c H locs cells slots (vx_MQ below Qc XC args s mc ms free) g := by
  intro T hT X
  obtain ⟨t, a1, o, b1, b2, b3, b4⟩ := k T hT X
  exact ⟨t, a1, o, b1, b2, Or.inl ⟨b3, b4⟩⟩
theorem vx_widen {g : JFrame} {q : Addr} {k n : Nat} (h1 : cells ≤ k) (h2 : slots ≤ n) (kk : vx_W p l e R s m args below meth c H locs k n Q g q) : vx_W p l e R s m args below meth c H locs cells slots Q g q := fun T hT X => kk T hT (stand_widen X h1 h2)
theorem vx_out {pc : Nat} {E : String} {ce : Cell} {q : Addr} {mc ms : Nat} (hout : ∀ x ∈ c.exceptionTable.toList, covers x pc = false) (hlocks : meth.locks = false) (hcell : H[q]? = some ce) (hv : ce.vm = .none) (hcl : s.vm.findClass E = some ce.cls)
    (hx : ∀ t : State, t.heap = H → s.vm.Alike t.vm → XC E s t) (hf : ∀ z ∈ locs, free z.base) (hc : cells ≤ mc) (hs : slots ≤ ms) :
    vx_W p l e R s m args below meth c H locs cells slots (vx_MQ below Qc XC args s mc ms free) (F0 m pc ls rest) q := by
  intro T hT X
  obtain ⟨st1, hrun, hend, hW, hsm⟩ := X.leaveThrown q (g := F0 m pc ls rest) rfl rfl rfl hout hlocks
  have hcell9 : (T.setFrames (.throwing q :: below)).heap[q]? = some ce := by
    show T.heap[q]? = some ce
    rw [hT]; exact hcell
  exact ⟨_, st1, .threw q, hrun, hend, Or.inr ⟨q, rfl, E, ce, locs, hx _ hT hW.alike, hcell9, hv, hcl, hW, hsm.mono hc hs, hf⟩⟩
theorem vx_frame {U : State} {k n : Nat} (h : s.sameButNew ({ U with vm := s.vm } : State) locs k n) : s.heap.size ≤ U.heap.size ∧ ∀ q : Nat, q < s.heap.size → (∀ z ∈ locs, z.base ≠ q) → U.heap[q]? = s.heap[q]? := by
  obtain ⟨-, h2, -, -, -, h6⟩ := h
  refine ⟨h2, fun q hq hz => ?_⟩
  obtain ⟨c9, e1, e2, e3, e4⟩ := h6 q _ (Array.getElem?_eq_getElem hq)
  have hs : c9.slots = (s.heap[q]).slots := Array.ext_getElem? fun i => e4 i fun hm => hz _ hm rfl
  have h9 : c9 = s.heap[q] := by
    rw [hs] at e2
    exact e2
  have e5 : U.heap[q]? = some c9 := e1
  rw [e5, h9, Array.getElem?_eq_getElem hq]
def vx_no (w : Cond) : Bool := decide (w ≠ .isRef (.static Bundle.tN "UNASSIGNED_STACK" Bundle.steD)) && decide (w ≠ .isRef (.static Bundle.tN "SUPPRESSED_SENTINEL" Bundle.listD)) && decide (w ≠ .laysStatic Bundle.tN "UNASSIGNED_STACK" Bundle.steD) && decide (w ≠ .laysStatic Bundle.tN "SUPPRESSED_SENTINEL" Bundle.listD)
def vx_at0 (own : String) (ic : Nat) (X : String) (names : List String) : List Cond := (Bundle.ownAtoms0 own ic X names).filter vx_no
def vx_atS (own : String) (ic : Nat) (X : String) (names : List String) : List Cond := (Bundle.ownAtoms own ic X names).filter vx_no
def vx_ot (w : Cond) : Bool := w.onTables || goodWord w
theorem vx_ot_at {args a' : Array Value} {s U : State} {w : Cond} (hW : s.WarmedH U.vm) (hvm : s.vm = U.vm) (hg : vx_ot w = true) (h : w.before args s = true) : w.before a' U = true := by
  simp only [vx_ot, Bool.or_eq_true] at hg
  rcases hg with hg | hg
  · exact va_tabs hg hvm h
  · exact word_at hW (good_of_word hg) h
theorem vx_hat {args : Array Value} {s : State} {L B : List Cond} (h1 : ∀ w ∈ L.filter goodWord, w.before args s = true) (h2 : ∀ w ∈ L.filter (fun w => !goodWord w), w ∈ B) (h3 : ∀ w ∈ B, w.before args s = true) : ∀ w ∈ L, w.before args s = true := by
  intro w hw
  by_cases g : goodWord w = true
  · exact h1 w (List.mem_filter.mpr ⟨hw, g⟩)
  · refine h3 w (h2 w (List.mem_filter.mpr ⟨hw, ?_⟩))
    show (!goodWord w) = true
    cases hgw : goodWord w
    · rfl
    · exact absurd hgw g
theorem vx_c {args : Array Value} {s : State} {w : Cond} {B : List Cond} (h : w.before args s = true) (t : ∀ w ∈ B, w.before args s = true) : ∀ w' ∈ w :: B, w'.before args s = true := fun w' h' => (List.mem_cons.mp h').elim (fun e => by rw [e]; exact h) (t w')
theorem vx_n {args : Array Value} {s : State} : ∀ w ∈ ([] : List Cond), w.before args s = true := fun _ h => nomatch h
theorem vx_own {args : Array Value} {s : State} {L : List Cond} (h1 : ∀ w ∈ L.filter vx_no, w.before args s = true)
    (hU : (Cond.isRef (.static Bundle.tN "UNASSIGNED_STACK" Bundle.steD)).before args s = true) (hN : (Cond.isRef (.static Bundle.tN "SUPPRESSED_SENTINEL" Bundle.listD)).before args s = true)
    (lU : (Cond.laysStatic Bundle.tN "UNASSIGNED_STACK" Bundle.steD).before args s = true) (lN : (Cond.laysStatic Bundle.tN "SUPPRESSED_SENTINEL" Bundle.listD).before args s = true) : ∀ w ∈ L, w.before args s = true := by
  intro w hw
  by_cases e1 : w = .isRef (.static Bundle.tN "UNASSIGNED_STACK" Bundle.steD)
  · rw [e1]; exact hU
  · by_cases e2 : w = .isRef (.static Bundle.tN "SUPPRESSED_SENTINEL" Bundle.listD)
    · rw [e2]; exact hN
    · by_cases e3 : w = .laysStatic Bundle.tN "UNASSIGNED_STACK" Bundle.steD
      · rw [e3]; exact lU
      · by_cases e4 : w = .laysStatic Bundle.tN "SUPPRESSED_SENTINEL" Bundle.listD
        · rw [e4]; exact lN
        · exact h1 w (List.mem_filter.mpr ⟨hw, by unfold vx_no; rw [decide_eq_true e1, decide_eq_true e2, decide_eq_true e3, decide_eq_true e4]; rfl⟩)
def vx_L (C n d : String) (A : Nat → Prop) (U : State) (H : Heap) : Prop := ∃ (c : ClassId) (k : Class) (i : Nat) (f : Field) (a : Nat) (cell : Cell), U.vm.findClass C = some c ∧ U.fieldFound? C n d = some (c, k, i, f) ∧ f.isStatic = true ∧ k.statics = some a ∧ H[a]? = some cell ∧ cell.vm.isStatics = true ∧ cell.cls = c ∧ f.slot < cell.slots.size ∧ k.staticTypes[f.slot]? = some f.type ∧ ¬ A a
theorem vx_L.moved {C n d : String} {A : Nat → Prop} {u U : State} {H : Heap} (hvm : u.vm.Alike U.vm) (h : vx_L C n d A u H) : vx_L C n d A U H := by
  obtain ⟨c, k, i, f, a, cell, h1, h2, h3, h4, h5, h6, h7, h8, h9, h10⟩ := h
  obtain ⟨k', hi', he⟩ := State.fieldFound?_setVm hvm h2
  exact ⟨c, k', i, f, a, cell, by rw [hvm.findClass]; exact h1, hi', h3, by rw [he]; exact h4, h5, h6, h7, h8, by rw [he]; exact h9, h10⟩
theorem vx_L.kept {C n d : String} {A : Nat → Prop} {U : State} {H H1 : Heap} (h : vx_L C n d A U H) (hq : ∀ a : Nat, a < H.size → ¬ A a → H1[a]? = H[a]?) : vx_L C n d A U H1 := by
  obtain ⟨c, k, i, f, a, cell, h1, h2, h3, h4, h5, h6, h7, h8, h9, h10⟩ := h
  exact ⟨c, k, i, f, a, cell, h1, h2, h3, h4, by rw [hq a (Array.getElem?_eq_some_iff.mp h5).1 h10]; exact h5, h6, h7, h8, h9, h10⟩
theorem vx_L.narrow {C n d : String} {A B : Nat → Prop} {U : State} {H : Heap} (h : vx_L C n d A U H) (hAB : ∀ q, B q → A q) : vx_L C n d B U H := by
  obtain ⟨c, k, i, f, a, cell, h1, h2, h3, h4, h5, h6, h7, h8, h9, h10⟩ := h
  exact ⟨c, k, i, f, a, cell, h1, h2, h3, h4, h5, h6, h7, h8, h9, fun z => h10 (hAB _ z)⟩
theorem vx_L.word {C n d : String} {A : Nat → Prop} {s : State} {args : Array Value} (h : vx_L C n d A s s.heap) : (Cond.laysStatic C n d).before args s = true := by
  obtain ⟨c, k, i, f, a, cell, h1, h2, h3, h4, h5, h6, h7, h8, h9, -⟩ := h
  show (Cond.laysStatic C n d).holds args s none s [] = true
  exact Cond.laysStatic_of h1 h2 h3 h4 h5 h6 h7 h8 h9
def vx_Zq (C n d : String) (A : Nat → Prop) (U : State) (H : Heap) : Prop := va_Zq C n d A U H ∧ vx_L C n d A U H
theorem vx_Zq.moved {C n d : String} {A : Nat → Prop} {u U : State} {H : Heap} (hvm : u.vm.Alike U.vm) (h : vx_Zq C n d A u H) : vx_Zq C n d A U H := ⟨va_Zq.moved hvm h.1, vx_L.moved hvm h.2⟩
theorem vx_Zq.kept {C n d : String} {A : Nat → Prop} {U : State} {H H1 : Heap} (h : vx_Zq C n d A U H) (hq : ∀ a : Nat, a < H.size → ¬ A a → H1[a]? = H[a]?) : vx_Zq C n d A U H1 := ⟨va_Zq.kept h.1 hq, vx_L.kept h.2 hq⟩
theorem vx_Zq.narrow {C n d : String} {A B : Nat → Prop} {U : State} {H : Heap} (h : vx_Zq C n d A U H) (hAB : ∀ q, B q → A q) : vx_Zq C n d B U H := ⟨va_Zq.narrow h.1 hAB, vx_L.narrow h.2 hAB⟩
theorem vx_Zqof {args : Array Value} {s : State} {C n d : String} {A : Nat → Prop} (hl : (Cond.laysStatic C n d).before args s = true) (hini : (Cond.initialized C).before args s = true) (h : (Cond.isRef (.static C n d)).before args s = true) (hA : ∀ a : Nat, a < s.heap.size → ¬ A a) : vx_Zq C n d A s s.heap := by
  refine ⟨va_Zqof hl hini h hA, ?_⟩
  obtain ⟨c, k, i, f, a, cell, h1, h2, h3, h4, h5, h6, h7, h8, h9⟩ := Cond.laysStatic_spec hl
  exact ⟨c, k, i, f, a, cell, h1, h2, h3, h4, h5, h6, h7, h8, h9, hA a (Array.getElem?_eq_some_iff.mp h5).1⟩
theorem vx_isRef {C n d : String} {v : Value} {A : Nat → Prop} {s : State} {args : Array Value} (h : va_Z C n d v A s s.heap) (hv : v.isRef = true) : (Cond.isRef (.static C n d)).before args s = true := by
  obtain ⟨cf, kf, fi, f, a, cell, h1, h2, h3, h4, h5, h6, h7, -⟩ := h
  have he : (Term.static C n d).eval args s none [] s = some v := by
    simp [Term.eval, State.fieldNamed?, h1, h2, h4, h5, h6, h7]
  simp only [Cond.before, Cond.holds, Cond.value, he]
  cases v <;> simp_all [Value.isRef]
theorem vx_isRefq {C n d : String} {A : Nat → Prop} {s : State} {args : Array Value} (h : va_Zq C n d A s s.heap) : (Cond.isRef (.static C n d)).before args s = true := by
  rcases h with h | ⟨t, h⟩
  · exact vx_isRef h rfl
  · exact vx_isRef h rfl
theorem vx_rebase {T : State} (X : Stand p l e R s m args below meth c T locs cells slots) {R' : Room} (hf : R'.frames ≤ R.frames) (hl : R'.locals ≤ R.locals) (hc : cells + R'.cells ≤ R.cells) (hs : slots + R'.slots ≤ R.slots) :
    Stand p l e R' ((T.setVm s.vm).setFrames (.invoking m args :: below)) m args below meth c T [] 0 0 := by
  have htop : (T.setVm s.vm).topJava?.isSome := X.here.top
  have hF : ((T.setVm s.vm).setFrames (.invoking m args :: below)).frames = .invoking m args :: below := State.frames_setFrames _ (State.cur_lt_of_top htop)
  obtain ⟨g₀, hg0⟩ := Option.isSome_iff_exists.mp htop
  obtain ⟨r, hr⟩ := State.topJava?_eq_some.mp hg0
  have hl9 : e.platform.stackLimits (T.setVm s.vm).me = e.platform.stackLimits s.me := X.limits
  have hb9 : (T.setVm s.vm).me.stackBytes = s.me.stackBytes := X.bytes
  refine ⟨X.admits, X.cas, X.clock, hF, ?_, X.hears, X.method, X.code, X.here, X.tail, X.warmed, ?_, ?_, ?_⟩
  · have h := X.room
    have hU : ((T.setVm s.vm).setFrames (.invoking m args :: below)).localsInUse = s.localsInUse := by
      rw [State.localsInUse_invoking hF (meth := meth) (c := c) X.method X.code, State.localsInUse_invoking X.frames X.method X.code]
    simp only [State.hasRoom, Bool.and_eq_true, decide_eq_true_eq] at h ⊢
    obtain ⟨⟨⟨⟨h1, h2, h3, h4, h5, h6⟩, h7⟩, h8⟩, h9⟩ := h
    rw [X.frames, List.length_cons] at h2 h3
    have q1 := X.heapSize
    have q2 := X.used
    simp only [hF, hU, List.length_cons, State.stackLimits_setFrames, State.stackBytes_setFrames, hl9, hb9]
    refine ⟨⟨⟨⟨by omega, by omega, by omega, by omega, by omega, h6⟩, ?_⟩, ?_⟩, X.book⟩
    · show T.heap.size + R'.cells ≤ e.platform.maxCells
      omega
    · show T.slotsUsed + R'.slots ≤ e.platform.maxSlots
      omega
  · rw [State.stackLimits_setFrames]; rfl
  · rw [State.stackBytes_setFrames]; rfl
  · refine ⟨?_, Nat.le_refl _, Nat.le_refl _, ?_, ?_, fun a c9 h9 => ⟨c9, h9, rfl, rfl, fun _ _ => rfl⟩⟩
    · obtain ⟨t, ht, -⟩ := State.frames_cons hr
      show T.setVm s.vm = { ((T.setVm s.vm).setFrames (.invoking m args :: below)).setFrames (T.setVm s.vm).frames with heap := T.heap, slotsUsed := T.slotsUsed }
      rw [State.setFrames_setFrames, State.setFrames_self ht]
      rfl
    · show T.slotsUsed = T.slotsUsed + ((T.heap.toList.drop T.heap.size).map (·.slots.size)).sum
      rw [List.drop_eq_nil_of_le (Nat.le_of_eq Array.length_toList)]
      rfl
    · show ((T.heap.toList.drop T.heap.size).map (·.slots.size)).sum ≤ 0
      rw [List.drop_eq_nil_of_le (Nat.le_of_eq Array.length_toList)]
      exact Nat.le_refl _
theorem vx_throw0 {cc : ByteArray} {pc : Nat} (hexec : p.tables.exec = Jvm.exec) (hb : c.code = cc) (hl : l.stackTraces = false) {own cls : String} {names : List String} {ik ic mc ms : Nat} {A : Nat → Prop}
    (hown : s.vm.findClass own = some m.cls) (hcls : Bundle.fit cls = true) (hnames : ∀ n ∈ names, Bundle.fit n = true)
    (hk : (Cond.classLink own ik cls).before args s = true) (hini : (Cond.initialized cls).before args s = true) (hat : ∀ w ∈ vx_at0 own ic cls names, w.before args s = true)
    (hgood : ∀ w ∈ Cond.classLink own ik cls :: Cond.initialized cls :: vx_at0 own ic cls names, vx_ot w = true)
    (hU : vx_Zq Bundle.tN "UNASSIGNED_STACK" Bundle.steD A s s.heap) (hN : vx_Zq Bundle.tN "SUPPRESSED_SENTINEL" Bundle.listD A s s.heap) (hS : va_S A s.heap H locs) (hsize : ls.size = c.maxLocals)
    (d0 : decode cc pc = .ok (.new ik, 3)) (d3 : decode cc (pc + 3) = .ok (.dup, 1)) (d4 : decode cc (pc + 4) = .ok (.invokespecial ic, 3)) (d7 : decode cc (pc + 7) = .ok (.athrow, 1))
    (hout : ∀ x ∈ c.exceptionTable.toList, covers x (pc + 7) = false)
    (hRframes : names.length + 3 < R.frames) (hRlocals : (rest.map fun v => v.category).sum + (13 * (names.length + 1) + 42) ≤ R.locals) (hRcells : cells + 1 ≤ R.cells) (hRslots : slots + 6 ≤ R.slots) (hlocks : meth.locks = false)
    (hx : ∀ t : State, s.vm.Alike t.vm → H.size ≤ t.heap.size → (∀ q : Nat, q < H.size → t.heap[q]? = H[q]?) → XC cls s t)
    (hf : ∀ z ∈ locs, free z.base) (hc : cells + 1 ≤ mc) (hs : slots + 6 ≤ ms) :
    W p l e R s m args below meth c H locs cells slots (vx_MQ below Qc XC args s mc ms free) (F0 m pc ls rest) := by
  intro T hT X
  have htr : e.platform.stackTraces = false := (show e.platform.stackTraces = l.stackTraces by rw [X.admits.platform]).trans hl
  have Y := vx_rebase X (R' := { frames := R.frames, locals := R.locals, cells := 1, slots := 6 }) (Nat.le_refl _) (Nat.le_refl _) hRcells hRslots
  obtain ⟨s', hA⟩ : ∃ z, z = (T.setVm s.vm).setFrames (.invoking m args :: below) := ⟨_, rfl⟩
  rw [← hA] at Y
  have hvm : s'.vm = s.vm := by rw [hA]; rfl
  have hhp : s'.heap = H := by rw [hA]; exact hT
  have hW0 : s.WarmedH s'.vm := by rw [hvm]; exact State.WarmedH.refl s
  have hat' : ∀ w ∈ vx_at0 own ic cls names, w.before args s' = true := fun w hw => vx_ot_at hW0 hvm.symm (hgood w (List.mem_cons_of_mem _ (List.mem_cons_of_mem _ hw))) (hat w hw)
  have hk' : (Cond.classLink own ik cls).before args s' = true := vx_ot_at hW0 hvm.symm (hgood _ List.mem_cons_self) hk
  have hini' : (Cond.initialized cls).before args s' = true := vx_ot_at hW0 hvm.symm (hgood _ (List.mem_cons_of_mem _ List.mem_cons_self)) hini
  have hU' : vx_Zq Bundle.tN "UNASSIGNED_STACK" Bundle.steD A s' s'.heap := by rw [hhp]; exact vx_Zq.moved hW0.alike (hU.kept hS.2.1)
  have hN' : vx_Zq Bundle.tN "SUPPRESSED_SENTINEL" Bundle.listD A s' s'.heap := by rw [hhp]; exact vx_Zq.moved hW0.alike (hN.kept hS.2.1)
  have h : ∀ w ∈ Bundle.ownAtoms0 own ic cls names, w.before args s' = true := vx_own hat' (vx_isRefq hU'.1) (vx_isRefq hN'.1) hU'.2.word hN'.2.word
  have hown' : s'.vm.findClass own = some m.cls := by rw [hvm]; exact hown
  have hins : (Cond.instantiable cls 6).before args s' = true := h _ (by simp [Bundle.ownAtoms0])
  obtain ⟨vm₁, cX, kX, hfX, hkX, -, -, X₁, st1⟩ := Y.newCold hexec (own := own) (C := cls) (index := ik) (n := 6) hown' hk' hins hini'
    (g := F0 m pc ls rest) rfl (by rw [hb]; exact d0) (Nat.le_refl _) (Nat.le_refl _)
  generalize hT1 : (T.setVm vm₁).pushCell { cls := cX, slots := kX.instanceTypes.map defaultValue, vm := .none } = T1 at X₁ st1
  have hcat : (Value.ref T.heap.size).category = 1 := rfl
  have hcellA : T1.heap[T.heap.size]? = some (freshCell cX kX) := by rw [← hT1]; exact State.heap_pushCell_size _ _
  have d3' : decode c.code (pc + 3) = .ok (.dup, 1) := by rw [hb]; exact d3
  obtain ⟨U, hsteps, hrun, hend, hW, hsame, ce, hce, hO⟩ := X₁.ctorThrow0 hexec htr (own := own) (cls := cls) (names := names) (ic := ic) hown' hcls hnames h (fun x hx => nomatch hx) hfX hkX hcellA (by rw [hhp, hT]; exact Nat.le_refl _)
    (g := { method := m, pc := pc + 4, locals := ls, stack := .ref T.heap.size :: .ref T.heap.size :: rest, locked := none }) rfl hsize rfl rfl (rest := rest) rfl
    (by rw [hb]; exact d4) (by rw [hb]; exact d7) hout hRframes (by simp only [List.map_cons, List.sum_cons, hcat]; omega) hlocks
  obtain ⟨f1, f2⟩ := vx_frame hsame
  rw [hhp] at f1 f2
  have hWs : s.WarmedH U.vm := State.WarmedH.trans hW0 hW
  have hcl : s.vm.findClass cls = some ce.cls := by
    have h9 := hO.cls
    rw [hvm] at h9
    exact h9
  have hall : s.sameButNew ({ U with vm := s.vm } : State) locs mc ms := by
    subst hA
    obtain ⟨e1, e2⟩ := hsame
    rw [State.setFrames_setFrames] at e1
    have h2 : (T.setVm s.vm).sameButNew ({ U with vm := s.vm } : State) [] (0 + 1) (0 + 6) := ⟨e1, e2⟩
    have h3 := X.same.trans h2
    rw [List.append_nil] at h3
    exact h3.mono hc hs
  refine ⟨U, ?_, .threw T.heap.size, hrun, hend, Or.inr ⟨T.heap.size, rfl, cls, ce, locs, hx U hWs.alike f1 (fun q hq => f2 q hq (fun z hz => nomatch hz)), hce, hO.vm, hcl, hWs, hall, hf⟩⟩
  refine st1 _ ?_
  show Steps p.tables e below (T1.setTop { method := m, pc := pc + 3, locals := ls, stack := .ref T.heap.size :: rest, locked := none }) _
  jvm_step X₁.here [X₁.here.top, hexec, d3', Value.category]
  exact hsteps
theorem vx_throwS {cc : ByteArray} {pc : Nat} (hexec : p.tables.exec = Jvm.exec) (hb : c.code = cc) (hl : l.stackTraces = false) {own cls text : String} {names : List String} {ik is ic mc ms sa : Nat} {A : Nat → Prop}
    (hown : s.vm.findClass own = some m.cls) (hcls : Bundle.fit cls = true) (hnames : ∀ n ∈ names, Bundle.fit n = true)
    (hk : (Cond.classLink own ik cls).before args s = true) (hini : (Cond.initialized cls).before args s = true) (hstr : vk_R own is text sa s) (hat : ∀ w ∈ vx_atS own ic cls names, w.before args s = true)
    (hgood : ∀ w ∈ Cond.classLink own ik cls :: Cond.initialized cls :: vx_atS own ic cls names, vx_ot w = true)
    (hU : vx_Zq Bundle.tN "UNASSIGNED_STACK" Bundle.steD A s s.heap) (hN : vx_Zq Bundle.tN "SUPPRESSED_SENTINEL" Bundle.listD A s s.heap) (hS : va_S A s.heap H locs) (hsize : ls.size = c.maxLocals)
    (d0 : decode cc pc = .ok (.new ik, 3)) (d3 : decode cc (pc + 3) = .ok (.dup, 1)) (d4 : decode cc (pc + 4) = .ok (.ldc is, 2)) (d6 : decode cc (pc + 6) = .ok (.invokespecial ic, 3)) (d9 : decode cc (pc + 9) = .ok (.athrow, 1))
    (hout : ∀ x ∈ c.exceptionTable.toList, covers x (pc + 9) = false)
    (hRframes : names.length + 3 < R.frames) (hRlocals : (rest.map fun v => v.category).sum + (13 * (names.length + 1) + 43) ≤ R.locals) (hRcells : cells + 1 ≤ R.cells) (hRslots : slots + 6 ≤ R.slots) (hlocks : meth.locks = false)
    (hx : ∀ t : State, s.vm.Alike t.vm → H.size ≤ t.heap.size → (∀ q : Nat, q < H.size → t.heap[q]? = H[q]?) → XC cls s t)
    (hf : ∀ z ∈ locs, free z.base) (hc : cells + 1 ≤ mc) (hs : slots + 6 ≤ ms) :
    W p l e R s m args below meth c H locs cells slots (vx_MQ below Qc XC args s mc ms free) (F0 m pc ls rest) := by
  intro T hT X
  have htr : e.platform.stackTraces = false := (show e.platform.stackTraces = l.stackTraces by rw [X.admits.platform]).trans hl
  have Y := vx_rebase X (R' := { frames := R.frames, locals := R.locals, cells := 1, slots := 6 }) (Nat.le_refl _) (Nat.le_refl _) hRcells hRslots
  obtain ⟨s', hA⟩ : ∃ z, z = (T.setVm s.vm).setFrames (.invoking m args :: below) := ⟨_, rfl⟩
  rw [← hA] at Y
  have hvm : s'.vm = s.vm := by rw [hA]; rfl
  have hhp : s'.heap = H := by rw [hA]; exact hT
  have hW0 : s.WarmedH s'.vm := by rw [hvm]; exact State.WarmedH.refl s
  have hat' : ∀ w ∈ vx_atS own ic cls names, w.before args s' = true := fun w hw => vx_ot_at hW0 hvm.symm (hgood w (List.mem_cons_of_mem _ (List.mem_cons_of_mem _ hw))) (hat w hw)
  have hk' : (Cond.classLink own ik cls).before args s' = true := vx_ot_at hW0 hvm.symm (hgood _ List.mem_cons_self) hk
  have hini' : (Cond.initialized cls).before args s' = true := vx_ot_at hW0 hvm.symm (hgood _ (List.mem_cons_of_mem _ List.mem_cons_self)) hini
  have hU' : vx_Zq Bundle.tN "UNASSIGNED_STACK" Bundle.steD A s' s'.heap := by rw [hhp]; exact vx_Zq.moved hW0.alike (hU.kept hS.2.1)
  have hN' : vx_Zq Bundle.tN "SUPPRESSED_SENTINEL" Bundle.listD A s' s'.heap := by rw [hhp]; exact vx_Zq.moved hW0.alike (hN.kept hS.2.1)
  have h : ∀ w ∈ Bundle.ownAtoms own ic cls names, w.before args s' = true := vx_own hat' (vx_isRefq hU'.1) (vx_isRefq hN'.1) hU'.2.word hN'.2.word
  have hown' : s'.vm.findClass own = some m.cls := by rw [hvm]; exact hown
  have hins : (Cond.instantiable cls 6).before args s' = true := h _ (by simp [Bundle.ownAtoms])
  obtain ⟨vm₁, cX, kX, hfX, hkX, -, -, X₁, st1⟩ := Y.newCold hexec (own := own) (C := cls) (index := ik) (n := 6) hown' hk' hins hini'
    (g := F0 m pc ls rest) rfl (by rw [hb]; exact d0) (Nat.le_refl _) (Nat.le_refl _)
  generalize hT1 : (T.setVm vm₁).pushCell { cls := cX, slots := kX.instanceTypes.map defaultValue, vm := .none } = T1 at X₁ st1
  have hcat : (Value.ref T.heap.size).category = 1 := rfl
  have hcellA : T1.heap[T.heap.size]? = some (freshCell cX kX) := by rw [← hT1]; exact State.heap_pushCell_size _ _
  have d3' : decode c.code (pc + 3) = .ok (.dup, 1) := by rw [hb]; exact d3
  have d4' : decode c.code (pc + 4) = .ok (.ldc is, 2) := by rw [hb]; exact d4
  have hstr' : vk_R own is text sa s' := vk_R.warm hW0 hstr
  obtain ⟨U, hsteps, hrun, hend, hW, hsame, ce, hce, hO⟩ := X₁.ctorThrowS hexec htr (own := own) (cls := cls) (names := names) (ic := ic) hown' hcls hnames h (fun x hx => nomatch hx) hfX hkX hcellA (by rw [hhp, hT]; exact Nat.le_refl _) (msg := .ref sa) rfl
    (g := { method := m, pc := pc + 6, locals := ls, stack := .ref sa :: .ref T.heap.size :: .ref T.heap.size :: rest, locked := none }) rfl hsize rfl rfl (rest := rest) rfl
    (by rw [hb]; exact d6) (by rw [hb]; exact d9) hout hRframes (by simp only [List.map_cons, List.sum_cons, hcat]; omega) hlocks
  obtain ⟨f1, f2⟩ := vx_frame hsame
  rw [hhp] at f1 f2
  have hWs : s.WarmedH U.vm := State.WarmedH.trans hW0 hW
  have hcl : s.vm.findClass cls = some ce.cls := by
    have h9 := hO.cls
    rw [hvm] at h9
    exact h9
  have hall : s.sameButNew ({ U with vm := s.vm } : State) locs mc ms := by
    subst hA
    obtain ⟨e1, e2⟩ := hsame
    rw [State.setFrames_setFrames] at e1
    have h2 : (T.setVm s.vm).sameButNew ({ U with vm := s.vm } : State) [] (0 + 1) (0 + 6) := ⟨e1, e2⟩
    have h3 := X.same.trans h2
    rw [List.append_nil] at h3
    exact h3.mono hc hs
  refine ⟨U, ?_, .threw T.heap.size, hrun, hend, Or.inr ⟨T.heap.size, rfl, cls, ce, locs, hx U hWs.alike f1 (fun q hq => f2 q hq (fun z hz => nomatch hz)), hce, hO.vm, hcl, hWs, hall, hf⟩⟩
  refine st1 _ ?_
  show Steps p.tables e below (T1.setTop { method := m, pc := pc + 3, locals := ls, stack := .ref T.heap.size :: rest, locked := none }) _
  jvm_step X₁.here [X₁.here.top, hexec, d3', Value.category]
  exact X₁.ldcString hexec (own := own) (text := text) (index := is) (a := sa) hown' hstr'.1 hstr'.2
    (g := { method := m, pc := pc + 4, locals := ls, stack := .ref T.heap.size :: .ref T.heap.size :: rest, locked := none }) rfl d4' _ hsteps
theorem vx_throwSW {cc : ByteArray} {pc : Nat} (hexec : p.tables.exec = Jvm.exec) (hb : c.code = cc) (hl : l.stackTraces = false) {own cls text : String} {names : List String} {ik is ic mc ms sa : Nat} {A : Nat → Prop}
    (hown : s.vm.findClass own = some m.cls) (hcls : Bundle.fit cls = true) (hnames : ∀ n ∈ names, Bundle.fit n = true)
    (hk : (Cond.classLink own ik cls).before args s = true) (hini : (Cond.initialized cls).before args s = true) (hstr : vk_R own is text sa s) (hat : ∀ w ∈ vx_atS own ic cls names, w.before args s = true)
    (hgood : ∀ w ∈ Cond.classLink own ik cls :: Cond.initialized cls :: vx_atS own ic cls names, vx_ot w = true)
    (hU : vx_Zq Bundle.tN "UNASSIGNED_STACK" Bundle.steD A s s.heap) (hN : vx_Zq Bundle.tN "SUPPRESSED_SENTINEL" Bundle.listD A s s.heap) (hS : va_S A s.heap H locs) (hsize : ls.size = c.maxLocals)
    (d0 : decode cc pc = .ok (.new ik, 3)) (d3 : decode cc (pc + 3) = .ok (.dup, 1)) (d4 : decode cc (pc + 4) = .ok (.ldc_w is, 3)) (d7 : decode cc (pc + 7) = .ok (.invokespecial ic, 3)) (d10 : decode cc (pc + 10) = .ok (.athrow, 1))
    (hout : ∀ x ∈ c.exceptionTable.toList, covers x (pc + 10) = false)
    (hRframes : names.length + 3 < R.frames) (hRlocals : (rest.map fun v => v.category).sum + (13 * (names.length + 1) + 43) ≤ R.locals) (hRcells : cells + 1 ≤ R.cells) (hRslots : slots + 6 ≤ R.slots) (hlocks : meth.locks = false)
    (hx : ∀ t : State, s.vm.Alike t.vm → H.size ≤ t.heap.size → (∀ q : Nat, q < H.size → t.heap[q]? = H[q]?) → XC cls s t)
    (hf : ∀ z ∈ locs, free z.base) (hc : cells + 1 ≤ mc) (hs : slots + 6 ≤ ms) :
    W p l e R s m args below meth c H locs cells slots (vx_MQ below Qc XC args s mc ms free) (F0 m pc ls rest) := by
  intro T hT X
  have htr : e.platform.stackTraces = false := (show e.platform.stackTraces = l.stackTraces by rw [X.admits.platform]).trans hl
  have Y := vx_rebase X (R' := { frames := R.frames, locals := R.locals, cells := 1, slots := 6 }) (Nat.le_refl _) (Nat.le_refl _) hRcells hRslots
  obtain ⟨s', hA⟩ : ∃ z, z = (T.setVm s.vm).setFrames (.invoking m args :: below) := ⟨_, rfl⟩
  rw [← hA] at Y
  have hvm : s'.vm = s.vm := by rw [hA]; rfl
  have hhp : s'.heap = H := by rw [hA]; exact hT
  have hW0 : s.WarmedH s'.vm := by rw [hvm]; exact State.WarmedH.refl s
  have hat' : ∀ w ∈ vx_atS own ic cls names, w.before args s' = true := fun w hw => vx_ot_at hW0 hvm.symm (hgood w (List.mem_cons_of_mem _ (List.mem_cons_of_mem _ hw))) (hat w hw)
  have hk' : (Cond.classLink own ik cls).before args s' = true := vx_ot_at hW0 hvm.symm (hgood _ List.mem_cons_self) hk
  have hini' : (Cond.initialized cls).before args s' = true := vx_ot_at hW0 hvm.symm (hgood _ (List.mem_cons_of_mem _ List.mem_cons_self)) hini
  have hU' : vx_Zq Bundle.tN "UNASSIGNED_STACK" Bundle.steD A s' s'.heap := by rw [hhp]; exact vx_Zq.moved hW0.alike (hU.kept hS.2.1)
  have hN' : vx_Zq Bundle.tN "SUPPRESSED_SENTINEL" Bundle.listD A s' s'.heap := by rw [hhp]; exact vx_Zq.moved hW0.alike (hN.kept hS.2.1)
  have h : ∀ w ∈ Bundle.ownAtoms own ic cls names, w.before args s' = true := vx_own hat' (vx_isRefq hU'.1) (vx_isRefq hN'.1) hU'.2.word hN'.2.word
  have hown' : s'.vm.findClass own = some m.cls := by rw [hvm]; exact hown
  have hins : (Cond.instantiable cls 6).before args s' = true := h _ (by simp [Bundle.ownAtoms])
  obtain ⟨vm₁, cX, kX, hfX, hkX, -, -, X₁, st1⟩ := Y.newCold hexec (own := own) (C := cls) (index := ik) (n := 6) hown' hk' hins hini'
    (g := F0 m pc ls rest) rfl (by rw [hb]; exact d0) (Nat.le_refl _) (Nat.le_refl _)
  generalize hT1 : (T.setVm vm₁).pushCell { cls := cX, slots := kX.instanceTypes.map defaultValue, vm := .none } = T1 at X₁ st1
  have hcat : (Value.ref T.heap.size).category = 1 := rfl
  have hcellA : T1.heap[T.heap.size]? = some (freshCell cX kX) := by rw [← hT1]; exact State.heap_pushCell_size _ _
  have d3' : decode c.code (pc + 3) = .ok (.dup, 1) := by rw [hb]; exact d3
  have d4' : decode c.code (pc + 4) = .ok (.ldc_w is, 3) := by rw [hb]; exact d4
  have hstr' : vk_R own is text sa s' := vk_R.warm hW0 hstr
  obtain ⟨U, hsteps, hrun, hend, hW, hsame, ce, hce, hO⟩ := X₁.ctorThrowS hexec htr (own := own) (cls := cls) (names := names) (ic := ic) hown' hcls hnames h (fun x hx => nomatch hx) hfX hkX hcellA (by rw [hhp, hT]; exact Nat.le_refl _) (msg := .ref sa) rfl
    (g := { method := m, pc := pc + 7, locals := ls, stack := .ref sa :: .ref T.heap.size :: .ref T.heap.size :: rest, locked := none }) rfl hsize rfl rfl (rest := rest) rfl
    (by rw [hb]; exact d7) (by rw [hb]; exact d10) hout hRframes (by simp only [List.map_cons, List.sum_cons, hcat]; omega) hlocks
  obtain ⟨f1, f2⟩ := vx_frame hsame
  rw [hhp] at f1 f2
  have hWs : s.WarmedH U.vm := State.WarmedH.trans hW0 hW
  have hcl : s.vm.findClass cls = some ce.cls := by
    have h9 := hO.cls
    rw [hvm] at h9
    exact h9
  have hall : s.sameButNew ({ U with vm := s.vm } : State) locs mc ms := by
    subst hA
    obtain ⟨e1, e2⟩ := hsame
    rw [State.setFrames_setFrames] at e1
    have h2 : (T.setVm s.vm).sameButNew ({ U with vm := s.vm } : State) [] (0 + 1) (0 + 6) := ⟨e1, e2⟩
    have h3 := X.same.trans h2
    rw [List.append_nil] at h3
    exact h3.mono hc hs
  refine ⟨U, ?_, .threw T.heap.size, hrun, hend, Or.inr ⟨T.heap.size, rfl, cls, ce, locs, hx U hWs.alike f1 (fun q hq => f2 q hq (fun z hz => nomatch hz)), hce, hO.vm, hcl, hWs, hall, hf⟩⟩
  refine st1 _ ?_
  show Steps p.tables e below (T1.setTop { method := m, pc := pc + 3, locals := ls, stack := .ref T.heap.size :: rest, locked := none }) _
  jvm_step X₁.here [X₁.here.top, hexec, d3', Value.category]
  exact X₁.ldcStringW hexec (own := own) (text := text) (index := is) (a := sa) hown' hstr'.1 hstr'.2
    (g := { method := m, pc := pc + 4, locals := ls, stack := .ref T.heap.size :: .ref T.heap.size :: rest, locked := none }) rfl d4' _ hsteps
end Ends
section Bodies
variable {l : Launch}
theorem vx_ofW {y : MethodName} {ws ws' : List Cond} {rm : Room} {Pc : Array Value → State → Prop} {Qc : Array Value → State → Outcome → State → Prop} {XC : String → State → State → Prop} {mc ms : Nat} {free : Addr → Prop} {cc : ByteArray} {maxL : Nat} {ret : Option FieldType}
    (hy : plainName y.cls = true) (hw : ws = Cond.code y cc maxL ret :: ws')
    (body : ∀ p e s m args below meth c s₁, BodyLoose p l y (headSpec ws rm) cc maxL ret e s m args below meth c s₁ → c.maxLocals = maxL → (∀ x ∈ c.exceptionTable.toList, False) → Pc args s →
      W p l e (headSpec ws rm).room s m args below meth c s.heap [] 0 0 (vx_MQ below Qc XC args s mc ms free) (entryFrame m args maxL)) : vx_Met l y ws rm Pc Qc XC mc ms free := by
  refine MetFree.of_bodyS (code := cc) (maxLocals := maxL) (ret := ret) hy ?_ ?_
  · intro args s m h hn
    obtain ⟨meth, c, h1, h2, h3, h4, h5, h6, -, -⟩ := Cond.code_spec hn (atoms_spec (ws := ws) h _ (by rw [hw]; exact List.mem_cons_self))
    exact ⟨meth, c, h1, h2, h3, h4, h5, h6⟩
  · intro p e s m args below meth c s₁ B hml hP _
    have hh0 : s₁.heap = s.heap := by rw [B.state]; rfl
    have ht : ∀ x ∈ c.exceptionTable.toList, False := by
      obtain ⟨meth9, c9, h1, h2, -, -, -, -, h7, -⟩ := Cond.code_spec B.named (atoms_spec (ws := ws) B.pre _ (by rw [hw]; exact List.mem_cons_self))
      cases Option.some.inj (h1.symm.trans B.method)
      cases Option.some.inj (h2.symm.trans (Stand.of_body B).code)
      intro x hx
      rw [Array.isEmpty_iff.mp h7] at hx
      cases hx
    obtain ⟨t, a1, o, b1, b2, b3⟩ := body p e s m args below meth c s₁ B hml ht hP s₁ hh0 (Stand.of_body B)
    exact ⟨t, o, a1, b1, b2, b3⟩
theorem vx_table {p : Program} {x y : MethodName} {S : Spec} {cc bytes : ByteArray} {maxL maxL' : Nat} {ret ret' : Option FieldType} {e : Env} {s s₁ : State} {m : MethodId} {args : Array Value} {below : List Frame} {meth : Method} {c : Code} {hh : List (Nat × Nat × Nat × Nat)}
    (B : BodyLoose p l y S cc maxL ret e s m args below meth c s₁) (h : (Cond.codeWith y bytes maxL' ret' hh).before args s = true) : c.exceptionTable.toList = tableOf hh := by
  obtain ⟨m9, meth9, c9, hn9, h1, h2, -, -, h6, -⟩ := Cond.codeWith_spec h
  cases Option.some.inj (hn9.symm.trans B.named)
  cases Option.some.inj (h1.symm.trans B.method)
  cases Option.some.inj (h2.symm.trans (Stand.of_body B).code)
  rw [← h6, table_eq]
end Bodies
end VXA
section VXS
variable {p : Program} {l : Launch} {e : Env} {R : Room} {s : State} {m : MethodId} {args : Array Value} {below : List Frame} {meth : Method} {c : Code} {T : State} {H : Heap} {locs : List Loc} {cells slots : Nat}
abbrev vx_CSW (R : Room) (s : State) (args : Array Value) (own : String) (index : Nat) (y : MethodName) (bytes : ByteArray) (maxL : Nat) (ret : Option FieldType) (hh : List (Nat × Nat × Nat × Nat)) (ws : List Cond) (rm : Room) (mc ms n : Nat) : Prop :=
  (rm.cells = mc ∧ rm.slots = ms ∧ rm.frames + 1 ≤ R.frames ∧ 8 + (maxL + 11) + rm.locals ≤ R.locals ∧ (∀ w ∈ ws, ∀ (a' : Array Value) (U : State), s.WarmedH U.vm → w.before a' U = true) ∧ Cond.codeWith y bytes maxL ret hh ∈ ws) ∧
  (Cond.codeWith y bytes maxL ret hh).before args s = true ∧ (Cond.initialized y.cls).before args s = true ∧ (y.cls ≠ "java/lang/invoke/MethodHandle" ∧ y.cls ≠ "java/lang/invoke/VarHandle") ∧
  (∀ sig, parseMethodDescriptor y.desc = some sig → n = sig.parameters.length) ∧ (Cond.methodLink own index y).before args s = true ∧ (Cond.static y).before args s = true
theorem vx_cwSW {own : String} {index maxL mc ms : Nat} {y : MethodName} {bytes : ByteArray} {ret : Option FieldType} {hh : List (Nat × Nat × Nat × Nat)} {Ts ws ws' : List Cond} {rm : Room} (n : Nat) (ht : ∀ w ∈ Ts, w.before args s = true) (hT : GoodIn Ts (va_wsS own index y ws)) (hw : ws = Cond.codeWith y bytes maxL ret hh :: ws') (hrc : rm.cells = mc) (hrs : rm.slots = ms)
    (hd : y.cls ≠ "java/lang/invoke/MethodHandle" ∧ y.cls ≠ "java/lang/invoke/VarHandle" ∧ (parseMethodDescriptor y.desc).map (fun d => d.parameters.length) = some n) (hR : rm.frames + 1 ≤ R.frames ∧ 8 + (maxL + 11) + rm.locals ≤ R.locals) :
    vx_CSW R s args own index y bytes maxL ret hh ws rm mc ms n := by
  have ok : ∀ w ∈ va_wsS own index y ws, w.before args s = true := fun w h => ht w (hT w h).1
  have hG : GoodIn Ts ws := fun w h => hT w (by unfold va_wsS; exact List.mem_append_right _ h)
  have hc : Cond.codeWith y bytes maxL ret hh ∈ ws := by rw [hw]; exact List.mem_cons_self
  refine ⟨⟨hrc, hrs, hR.1, hR.2, pay_in ht hG, hc⟩, ht _ (hG _ hc).1, ok _ (by simp [va_wsS]), ⟨hd.1, hd.2.1⟩, fun sig h => ?_, ok _ (by simp [va_wsS]), ok _ (by simp [va_wsS])⟩
  have h2 := hd.2.2
  rw [h] at h2
  exact (Option.some.inj h2).symm
theorem vx_callSW (X : Stand p l e R s m args below meth c T locs cells slots) (hexec : p.tables.exec = Jvm.exec) {own : String} {index : Nat} {y : MethodName} {bytes : ByteArray} {maxL : Nat} {ret : Option FieldType} {hh : List (Nat × Nat × Nat × Nat)}
    (hown : s.vm.findClass own = some m.cls) (hlink : (Cond.methodLink own index y).before args s = true) (hstat : (Cond.static y).before args s = true) (hinit : (Cond.initialized y.cls).before args s = true)
    (hcode : (Cond.codeWith y bytes maxL ret hh).before args s = true) (hy : y.cls ≠ "java/lang/invoke/MethodHandle" ∧ y.cls ≠ "java/lang/invoke/VarHandle")
    {W9 : Nat} {Pre : Pt → Array Value → Prop} {Post : Pt → Array Value → Option Value → Pt → Prop} (hK : Back l R p e below s args y 3 W9 Pre Post)
    {g : JFrame} (hg : g.method = m) (hsize : g.locals.size = c.maxLocals) {argsL rest : List Value} (hlen : ∀ sig, parseMethodDescriptor y.desc = some sig → argsL.length = sig.parameters.length)
    (hstack : g.stack = argsL.reverse ++ rest) (hW : 2 * g.monitorRoom + (rest.map fun v => v.category).sum ≤ W9) (hdg : decode c.code g.pc = .ok (.invokestatic index, 3))
    (hpre : ∀ vm₁, s.WarmedH vm₁ → Pre ⟨T.setVm vm₁, locs, cells, slots⟩ argsL.toArray) :
    ∃ (v : Option Value) (vm₁ : Vm) (B : Pt), s.WarmedH vm₁ ∧ Stand p l e R s m args below meth c B.U B.locs B.cells B.slots ∧ Post ⟨T.setVm vm₁, locs, cells, slots⟩ argsL.toArray v B ∧
      ∀ target, Steps p.tables e below (B.U.setTop { g with pc := g.pc + 3, stack := v.toList ++ rest }) target → Steps p.tables e below (T.setTop g) target := by
  obtain ⟨mk, methM, cM, hnamed, hmethM, -, -, -, -, -, -, hsigM⟩ := Cond.codeWith_spec hcode
  have hstatic : methM.isStatic = true := Cond.static_spec hnamed hmethM hstat
  obtain ⟨kP, hkP, -⟩ := className_of_methodNamed hnamed
  have hinitP : kP.init = .initialized := Cond.initialized_spec (findClass_of_methodNamed hnamed) hkP hinit
  obtain ⟨vm₁, X₁, hstep₁⟩ := X.invokestatic hexec hown hlink hnamed hmethM hstatic hkP hinitP hy (g := g) hg (argsL := argsL) (rest := rest) (hlen _ hsigM) hstack hdg
  obtain ⟨v, B, X', hpost, hsteps⟩ := hK m meth c ⟨T.setVm vm₁, locs, cells, slots⟩ { g with stack := rest } (.invokestatic index) mk argsL.toArray X₁ hg hsize hdg hW (X₁.named hnamed) (hpre vm₁ X₁.warmed)
  exact ⟨v, vm₁, B, X₁.warmed, X', hpost, fun target h => hstep₁ _ fun acts => by rw [doInvoke_state]; exact hsteps.trans h⟩
theorem vx_runSW {y : MethodName} {bytes cc : ByteArray} {maxL nL mc ms n index : Nat} {ret : Option FieldType} {hh : List (Nat × Nat × Nat × Nat)} {ws : List Cond} {rm : Room} {Pc : Array Value → State → Prop} {Qc : Array Value → State → Outcome → State → Prop} {free : Addr → Prop} {Ts : List Cond} {own : String} {As rest : List Value} {g : JFrame}
    (S : CallFix p m c cc nL s args Ts own) (hM : Met l y ws rm Pc Qc mc ms free) (cw : vx_CSW R s args own index y bytes maxL ret hh ws rm mc ms n) (hp : PreS s H Pc As)
    (hg : g.method = m) (hn : As.length = n) (hsize : g.locals.size = nL) (hstack : g.stack = As.reverse ++ rest) (hW : 2 * g.monitorRoom + (rest.map fun v => v.category).sum ≤ 8) (hdg : decode cc g.pc = .ok (.invokestatic index, 3)) (hf : cells + mc ≤ R.cells ∧ slots + ms ≤ R.slots) :
    va_Run p l e R s m args below meth c H locs cells slots mc ms g rest (Qc As.toArray) (free) := by
  obtain ⟨⟨hrc, hrs, hfr, hlo, hws, hcw⟩, hcode, hini, hy, hlen, hl, hstt⟩ := cw
  have hK : Back l R p e below s args y 3 8 (PreOf R mc ms Pc) (PostOf Qc mc ms free) := va_backW (hh := hh) (bytes := bytes) (maxL := maxL) (ret := ret) hM hp.1 hrc hrs hfr hlo hws hcw (fun a' U hW => word_at hW (Or.inl (by first | rfl | simp [Cond.onTables, Cond.keeps, Cond.steady])) hini)
  obtain ⟨hx, hb, hml, ho, -⟩ := S
  intro T hT X
  obtain ⟨v, vm₁, ⟨U', l2, c2, s2⟩, hW₁, X', ⟨g', mk, t, L, e1, e2, hq, h1, hL, h2, h3⟩, st⟩ := vx_callSW X hx (hh := hh) (bytes := bytes) (maxL := maxL) (ret := ret) ho hl hstt hini hcode hy hK hg (hsize.trans hml.symm) (argsL := As) (rest := rest) (fun sig h => hn.trans (hlen sig h)) hstack hW (by rw [hb]; exact hdg)
    (fun vm₁ hW₁ => ⟨hf.1, hf.2, hp.2 (T.setVm vm₁) hT hW₁⟩)
  dsimp only [Pt.U, Pt.locs, Pt.cells, Pt.slots] at X' e1 e2 h1 h2 h3 st
  subst h1; subst h2; subst h3
  exact ⟨v, (T.setVm vm₁).calling g' mk As.toArray, t, U', L, hT, X', hL, e1, e2, hq, st⟩
theorem vx_outP {p : Program} {l : Launch} {e : Env} {R : Room} {s : State} {m : MethodId} {args : Array Value} {below : List Frame} {meth : Method} {c : Code} {H : Heap} {locs : List Loc} {cells slots : Nat} {free : Addr → Prop} {ls : Array Slot} {rest : List Value} {Qc : Array Value → State → Outcome → State → Prop} {XC : String → State → State → Prop}
    {pc : Nat} {own E : String} {ce : Cell} {q : Addr} {mc ms : Nat} (hown : s.vm.findClass own = some m.cls) (hlocks : meth.locks = false)
    (hpass : ∀ z ∈ c.exceptionTable.toList, covers z pc = false ∨ (z.catchType ≠ 0 ∧ ∃ nm : String, (Cond.classLink own z.catchType nm).before args s = true ∧ va_Nc E nm s)) (hcell : H[q]? = some ce) (hv : ce.vm = .none) (hcl : s.vm.findClass E = some ce.cls)
    (hx : ∀ t : State, t.heap = H → s.vm.Alike t.vm → XC E s t) (hf : ∀ z ∈ locs, free z.base) (hc : cells ≤ mc) (hs : slots ≤ ms) :
    vx_W p l e R s m args below meth c H locs cells slots (vx_MQ below Qc XC args s mc ms free) (F0 m pc ls rest) q := by
  intro T hT X
  have hpl : e.platform.magicAccessors = ({} : Platform).magicAccessors := by rw [X.admits.platform]
  obtain ⟨vm', hW', X', st⟩ := X.outThrough hlocks q (g := F0 m pc ls rest) rfl rfl rfl (cell := ce) (by rw [hT]; exact hcell) (by rw [hv]; rfl)
    (by obtain ⟨k9, h9, -⟩ := Vm.findClass_spec hcl; exact ⟨k9, h9⟩) (fun z hz => by
      rcases hpass z hz with h | ⟨hz0, nm, hl1, hn1⟩
      · exact Or.inl h
      · obtain ⟨c6, hc6, hcl6⟩ := Cond.classLink_spec hown hl1 e.platform hpl
        obtain ⟨a8, b8, h1, h2, h3⟩ := hn1
        cases Option.some.inj (h1.symm.trans hcl)
        cases Option.some.inj (h2.symm.trans hc6)
        exact Or.inr ⟨hz0, _, hcl6, h3⟩)
  obtain ⟨g₀, hfr⟩ := X'.frames_eq
  have hcell9 : ((T.setVm vm').setFrames (.throwing q :: below)).heap[q]? = some ce := by
    show T.heap[q]? = some ce
    rw [hT]; exact hcell
  have hend : Ended ((T.setVm vm').setFrames (.throwing q :: below)) below (.threw q) := State.frames_setFrames _ (State.cur_lt_of_frames hfr)
  refine ⟨(T.setVm vm').setFrames (.throwing q :: below), ?_, .threw q, X'.here.running, hend, Or.inr ⟨q, rfl, E, ce, locs, hx _ hT (X'.ends _).1.alike, hcell9, hv, hcl, (X'.ends _).1, (X'.ends _).2.mono hc hs, hf⟩⟩
  rw [X.pushThrowing_eq]
  exact st
theorem vx_lt {D : va_G} {cl : List vw_C} {ws : va_W} {H1 : Heap} (h : va_P D cl ws H1) {k : Nat} {q : Nat × va_E} (hk : ws[k]? = some q) : q.1 < H1.size := (h k q hk).lt
end VXS
section VXH
section
variable {l : Launch} {R : Room} {p : Program} {e : Env} {below : List Frame} {s : State} {sargs : Array Value} {y : MethodName} {len W9 : Nat}
theorem vx_backW {ws : List Cond} {rm : Room} {Pc : Array Value → State → Prop} {Qc : Array Value → State → Outcome → State → Prop} {XC : String → State → State → Prop} {mc ms : Nat} {free : Addr → Prop} {bytes : ByteArray} {maxL : Nat} {ret : Option FieldType} {hh : List (Nat × Nat × Nat × Nat)}
    (hM : vx_Met l y ws rm Pc Qc XC mc ms free) (hblind : FrameBlind Pc) (hrc : rm.cells = mc) (hrs : rm.slots = ms)
    (hframes : rm.frames + 1 ≤ R.frames) (hlocals : W9 + (maxL + 11) + rm.locals ≤ R.locals)
    (hws : ∀ w ∈ ws, ∀ a' U, s.WarmedH U.vm → w.before a' U = true) (hcode : Cond.codeWith y bytes maxL ret hh ∈ ws) (hinit : ∀ a' U, s.WarmedH U.vm → (Cond.initialized y.cls).before a' U = true) :
    vx_Back l R p e below s sargs y len W9 (PreOf R mc ms Pc) (PostOf Qc mc ms free) (vx_Post XC mc ms free) := by
  intro m meth c A g ig mk a X hg hsize hdg hW hn hp
  have h1 : (headSpec ws rm).pre.before a A.U = true := atoms_intro fun w hw => hws w hw _ _ X.warmed
  have h2 : (Cond.codeWith y bytes maxL ret hh).before a A.U = true := hws _ hcode _ _ X.warmed
  have h3 : (Cond.initialized y.cls).before a A.U = true := hinit _ _ X.warmed
  have h4 : A.cells + (headSpec ws rm).room.cells ≤ R.cells := by rw [show (headSpec ws rm).room.cells = mc from hrc]; exact hp.1
  have h5 : A.slots + (headSpec ws rm).room.slots ≤ R.slots := by rw [show (headSpec ws rm).room.slots = ms from hrs]; exact hp.2.1
  have hPc : Pc a (A.U.calling g mk a) := hblind _ _ _ _ hp.2.2
  obtain ⟨U, Ls, c0, s0⟩ := A
  dsimp only [Pt.U, Pt.locs, Pt.cells, Pt.slots] at h1 h2 h3 h4 h5 X hn hPc ⊢
  obtain ⟨m9, methY, cY, hn9, hmY, hcY, -, hlY, -⟩ := Cond.codeWith_spec h2
  cases Option.some.inj (hn9.symm.trans hn)
  obtain ⟨kY, hkY, -⟩ := className_of_methodNamed hn
  have hinitY : kY.init = .initialized := Cond.initialized_spec (findClass_of_methodNamed hn) hkY h3
  have h : At U g.method c below := by rw [hg]; exact X.here
  have hlocals9 : W9 + (maxL + 11) + (headSpec ws rm).room.locals ≤ R.locals := hlocals
  have happ : (headSpec ws rm).appliesLoose y e.platform (U.calling g mk a) = true :=
    Spec.appliesLoose_calling (g := g) h hdg hn hkY hinitY
      (X.room_calling (g := g) (R' := (headSpec ws rm).room) hsize hmY hcY hframes (by rw [hlY]; omega) h4 h5) h1
  obtain ⟨mid, hmid⟩ := h.above
  have hfr : (U.setTop g).frames = (.java g :: mid) ++ below := by rw [State.frames_setTop' g h.top, hmid]; rfl
  obtain ⟨o, s₂, hsteps, -, hend, hq⟩ := Steps.callFree hM p X.admits X.cas X.clock (acts := []) hfr happ hPc trivial
  have hq' : vx_Q Qc XC mc ms free a (U.calling g mk a) o s₂ := hq
  rw [State.frames_setTop' g h.top] at hend
  obtain ⟨g₀, hg0⟩ := Option.isSome_iff_exists.mp h.top
  obtain ⟨r, hr⟩ := State.topJava?_eq_some.mp hg0
  have hr' : (({ U with heap := s₂.heap, slotsUsed := s₂.slotsUsed } : State).setVm s₂.vm).frames = .java g₀ :: r := hr
  rcases hq' with ⟨hqc, L, hfe, hL⟩ | ⟨q, rfl, E, ce, L, hx, hce, hcv, hcl, hW₂, hsm, hL⟩
  · obtain ⟨⟨v, rfl⟩, hW₂, e2, q2, q3, q4, q5, q6⟩ := id hfe
    have e3 : s₂ = ({ (U.calling g mk a).setFrames s₂.frames with heap := s₂.heap, slotsUsed := s₂.slotsUsed } : State).setVm s₂.vm := by
      have : s₂ = ({ s₂ with vm := (U.calling g mk a).vm } : State).setVm s₂.vm := rfl
      rw [e2] at this
      exact this
    obtain ⟨c₂, i₂, len₂, hc₂, hd₂, hf₂⟩ := hend
    have hW' : U.WarmedH s₂.vm := hW₂
    have hcc : c₂ = c := by
      have h1 : s₂.code? g.method = U.code? g.method := by
        rw [State.code?_eq, State.code?_eq, hW'.alike.method?]
      exact Option.some.inj (hc₂.symm.trans (h1.trans h.code))
    subst hcc
    have hlen : len₂ = len := by rw [hdg] at hd₂; cases hd₂; rfl
    subst hlen
    have hs₂ : s₂ = (({ U with heap := s₂.heap, slotsUsed := s₂.slotsUsed } : State).setVm s₂.vm).setTop { g with pc := g.pc + len₂, stack := v.toList ++ g.stack } := by
      refine e3.trans ?_
      rw [hf₂, State.calling_eq h.top, State.setFrames_setFrames, State.setTop_of_frames _ hr', hr]
      rfl
    have hsame : U.sameButNew ({ U with heap := s₂.heap, slotsUsed := s₂.slotsUsed } : State) L mc ms := by
      refine ⟨?_, q2, q3, q4, q5, q6⟩
      obtain ⟨t, ht, -⟩ := State.frames_cons hr
      show ({ U with heap := s₂.heap, slotsUsed := s₂.slotsUsed } : State) = { U.setFrames U.frames with heap := s₂.heap, slotsUsed := s₂.slotsUsed }
      rw [State.setFrames_self ht]
    subst hg
    refine Or.inl ⟨v, ⟨(({ U with heap := s₂.heap, slotsUsed := s₂.slotsUsed } : State).setVm s₂.vm), Ls ++ L, c0 + mc, s0 + ms⟩,
      ⟨X.admits, X.cas, X.clock, X.frames, X.room, X.hears, X.method, X.code, (X.here.setHeapUsed s₂.heap s₂.slotsUsed).setVm hW'.alike, X.tail, State.WarmedH.trans X.warmed hW', X.limits, X.bytes, X.same.trans (hsame.setVm s.vm)⟩,
      ⟨g, mk, s₂, L, rfl, rfl, hqc, rfl, hL, rfl, rfl⟩, ?_⟩
    show Steps p.tables e below _ ((({ U with heap := s₂.heap, slotsUsed := s₂.slotsUsed } : State).setVm s₂.vm).setTop { g with pc := g.pc + len₂, stack := v.toList ++ g.stack })
    rw [← hs₂]
    exact hsteps
  · obtain ⟨e2, q2, q3, q4, q5, q6⟩ := id hsm
    have e3 : s₂ = ({ (U.calling g mk a).setFrames s₂.frames with heap := s₂.heap, slotsUsed := s₂.slotsUsed } : State).setVm s₂.vm := by
      have : s₂ = ({ s₂ with vm := (U.calling g mk a).vm } : State).setVm s₂.vm := rfl
      rw [e2] at this
      exact this
    have hf₂ : s₂.frames = .throwing q :: .java g :: U.frames.tail := hend
    have hW' : U.WarmedH s₂.vm := hW₂
    have hs₂ : s₂ = ((({ U with heap := s₂.heap, slotsUsed := s₂.slotsUsed } : State).setVm s₂.vm).setTop g).pushFrame (.throwing q) := by
      refine e3.trans ?_
      rw [hf₂, State.calling_eq h.top, State.setFrames_setFrames, State.pushFrame, State.frames_setTop _ hr', State.setTop_of_frames _ hr', State.setFrames_setFrames, hr]
      rfl
    have hsame : U.sameButNew ({ U with heap := s₂.heap, slotsUsed := s₂.slotsUsed } : State) L mc ms := by
      refine ⟨?_, q2, q3, q4, q5, q6⟩
      obtain ⟨t, ht, -⟩ := State.frames_cons hr
      show ({ U with heap := s₂.heap, slotsUsed := s₂.slotsUsed } : State) = { U.setFrames U.frames with heap := s₂.heap, slotsUsed := s₂.slotsUsed }
      rw [State.setFrames_self ht]
    subst hg
    refine Or.inr ⟨q, ⟨(({ U with heap := s₂.heap, slotsUsed := s₂.slotsUsed } : State).setVm s₂.vm), Ls ++ L, c0 + mc, s0 + ms⟩,
      ⟨X.admits, X.cas, X.clock, X.frames, X.room, X.hears, X.method, X.code, (X.here.setHeapUsed s₂.heap s₂.slotsUsed).setVm hW'.alike, X.tail, State.WarmedH.trans X.warmed hW', X.limits, X.bytes, X.same.trans (hsame.setVm s.vm)⟩,
      ⟨g, mk, s₂, L, E, ce, rfl, rfl, hx, hce, hcv, hcl, rfl, hL, rfl, rfl⟩, ?_⟩
    show Steps p.tables e below _ (((({ U with heap := s₂.heap, slotsUsed := s₂.slotsUsed } : State).setVm s₂.vm).setTop g).pushFrame (.throwing q))
    rw [← hs₂]
    exact hsteps
end
variable {p : Program} {l : Launch} {e : Env} {R : Room} {s : State} {m : MethodId} {args : Array Value} {below : List Frame} {meth : Method} {c : Code} {T : State} {H : Heap} {locs : List Loc} {cells slots : Nat}
theorem vx_callVX (X : Stand p l e R s m args below meth c T locs cells slots) (hexec : p.tables.exec = Jvm.exec) {own C : String} {index : Nat} {y : MethodName} {bytes : ByteArray} {maxL : Nat} {ret : Option FieldType} {hh : List (Nat × Nat × Nat × Nat)}
    (hown : s.vm.findClass own = some m.cls) (hlink : (Cond.methodLink own index y).before args s = true) (hinst : (Cond.instanceMethod y).before args s = true) (hsel : (Cond.selects C y y).before args s = true)
    (hcode : (Cond.codeWith y bytes maxL ret hh).before args s = true) (hy : y.cls ≠ "java/lang/invoke/MethodHandle" ∧ y.cls ≠ "java/lang/invoke/VarHandle")
    {W9 : Nat} {Pre : Pt → Array Value → Prop} {Post : Pt → Array Value → Option Value → Pt → Prop} {PostX : Pt → Array Value → Addr → Pt → Prop} (hK : vx_Back l R p e below s args y 3 W9 Pre Post PostX)
    {b : Addr} {cellB : Cell} (hcell : T.heap[b]? = some cellB) (hobj : cellB.vm.isStatics = false) (hcls : s.vm.findClass C = some cellB.cls)
    {g : JFrame} (hg : g.method = m) (hsize : g.locals.size = c.maxLocals) {argsL rest : List Value} (hlen : ∀ sig, parseMethodDescriptor y.desc = some sig → argsL.length = sig.parameters.length)
    (hstack : g.stack = argsL.reverse ++ .ref b :: rest) (hW : 2 * g.monitorRoom + (rest.map fun v => v.category).sum ≤ W9) (hdg : decode c.code g.pc = .ok (.invokevirtual index, 3))
    (hpre : ∀ vm₁, s.WarmedH vm₁ → Pre ⟨T.setVm vm₁, locs, cells, slots⟩ (Value.ref b :: argsL).toArray) :
    (∃ (v : Option Value) (vm₁ : Vm) (B : Pt), s.WarmedH vm₁ ∧ Stand p l e R s m args below meth c B.U B.locs B.cells B.slots ∧ Post ⟨T.setVm vm₁, locs, cells, slots⟩ (Value.ref b :: argsL).toArray v B ∧
      ∀ target, Steps p.tables e below (B.U.setTop { g with pc := g.pc + 3, stack := v.toList ++ rest }) target → Steps p.tables e below (T.setTop g) target) ∨
    (∃ (q : Addr) (vm₁ : Vm) (B : Pt), s.WarmedH vm₁ ∧ Stand p l e R s m args below meth c B.U B.locs B.cells B.slots ∧ PostX ⟨T.setVm vm₁, locs, cells, slots⟩ (Value.ref b :: argsL).toArray q B ∧
      Steps p.tables e below (T.setTop g) ((B.U.setTop { g with stack := rest }).pushFrame (.throwing q))) := by
  obtain ⟨mk, methM, hnamed, hmethM, hstM, habM⟩ := Cond.instanceMethod_spec hinst
  obtain ⟨m8, methM', cM, hn8, hmethM', -, -, -, -, -, -, hsigM⟩ := Cond.codeWith_spec hcode
  cases Option.some.inj (hn8.symm.trans hnamed)
  cases hmethM.symm.trans hmethM'
  obtain ⟨c2, r2, m2, q1, q2, q3, q4, kP, hkP, hkPi⟩ := Cond.selects_spec hsel
  cases hcls.symm.trans q1
  cases (State.methodFound?_of_named hnamed hy).symm.trans q2
  cases hnamed.symm.trans q3
  have hselP : selectMethod e.platform s.vm cellB.cls mk = .method mk := by rw [Launch.admits_selectMethod X.admits]; exact q4
  obtain ⟨vm₁, X₁, hstep₁⟩ := X.invokevirtual hexec hown hlink hnamed hmethM hstM hkP hkPi hy (a := b) (cell := cellB) hcell
    (fun z h => by rw [h] at hobj; cases hobj) hselP hmethM habM hkP hkPi (g := g) hg (argsL := argsL) (rest := rest) (hlen _ hsigM) hstack hdg
  rcases hK m meth c ⟨T.setVm vm₁, locs, cells, slots⟩ { g with stack := rest } (.invokevirtual index) mk (Value.ref b :: argsL).toArray X₁ hg hsize hdg hW (X₁.named hnamed) (hpre vm₁ X₁.warmed) with ⟨v, B, X', hpost, hsteps⟩ | ⟨q, B, X', hpost, hsteps⟩
  · exact Or.inl ⟨v, vm₁, B, X₁.warmed, X', hpost, fun target h => hstep₁ _ fun acts => by rw [doInvoke_state]; exact hsteps.trans h⟩
  · exact Or.inr ⟨q, vm₁, B, X₁.warmed, X', hpost, hstep₁ _ fun acts => by rw [doInvoke_state]; exact hsteps⟩
theorem vx_callSX (X : Stand p l e R s m args below meth c T locs cells slots) (hexec : p.tables.exec = Jvm.exec) {own : String} {index : Nat} {y : MethodName} {bytes : ByteArray} {maxL : Nat} {ret : Option FieldType} {hh : List (Nat × Nat × Nat × Nat)}
    (hown : s.vm.findClass own = some m.cls) (hlink : (Cond.methodLink own index y).before args s = true) (hstat : (Cond.static y).before args s = true) (hinit : (Cond.initialized y.cls).before args s = true)
    (hcode : (Cond.codeWith y bytes maxL ret hh).before args s = true) (hy : y.cls ≠ "java/lang/invoke/MethodHandle" ∧ y.cls ≠ "java/lang/invoke/VarHandle")
    {W9 : Nat} {Pre : Pt → Array Value → Prop} {Post : Pt → Array Value → Option Value → Pt → Prop} {PostX : Pt → Array Value → Addr → Pt → Prop} (hK : vx_Back l R p e below s args y 3 W9 Pre Post PostX)
    {g : JFrame} (hg : g.method = m) (hsize : g.locals.size = c.maxLocals) {argsL rest : List Value} (hlen : ∀ sig, parseMethodDescriptor y.desc = some sig → argsL.length = sig.parameters.length)
    (hstack : g.stack = argsL.reverse ++ rest) (hW : 2 * g.monitorRoom + (rest.map fun v => v.category).sum ≤ W9) (hdg : decode c.code g.pc = .ok (.invokestatic index, 3))
    (hpre : ∀ vm₁, s.WarmedH vm₁ → Pre ⟨T.setVm vm₁, locs, cells, slots⟩ argsL.toArray) :
    (∃ (v : Option Value) (vm₁ : Vm) (B : Pt), s.WarmedH vm₁ ∧ Stand p l e R s m args below meth c B.U B.locs B.cells B.slots ∧ Post ⟨T.setVm vm₁, locs, cells, slots⟩ argsL.toArray v B ∧
      ∀ target, Steps p.tables e below (B.U.setTop { g with pc := g.pc + 3, stack := v.toList ++ rest }) target → Steps p.tables e below (T.setTop g) target) ∨
    (∃ (q : Addr) (vm₁ : Vm) (B : Pt), s.WarmedH vm₁ ∧ Stand p l e R s m args below meth c B.U B.locs B.cells B.slots ∧ PostX ⟨T.setVm vm₁, locs, cells, slots⟩ argsL.toArray q B ∧
      Steps p.tables e below (T.setTop g) ((B.U.setTop { g with stack := rest }).pushFrame (.throwing q))) := by
  obtain ⟨mk, methM, cM, hnamed, hmethM, -, -, -, -, -, -, hsigM⟩ := Cond.codeWith_spec hcode
  have hstatic : methM.isStatic = true := Cond.static_spec hnamed hmethM hstat
  obtain ⟨kP, hkP, -⟩ := className_of_methodNamed hnamed
  have hinitP : kP.init = .initialized := Cond.initialized_spec (findClass_of_methodNamed hnamed) hkP hinit
  obtain ⟨vm₁, X₁, hstep₁⟩ := X.invokestatic hexec hown hlink hnamed hmethM hstatic hkP hinitP hy (g := g) hg (argsL := argsL) (rest := rest) (hlen _ hsigM) hstack hdg
  rcases hK m meth c ⟨T.setVm vm₁, locs, cells, slots⟩ { g with stack := rest } (.invokestatic index) mk argsL.toArray X₁ hg hsize hdg hW (X₁.named hnamed) (hpre vm₁ X₁.warmed) with ⟨v, B, X', hpost, hsteps⟩ | ⟨q, B, X', hpost, hsteps⟩
  · exact Or.inl ⟨v, vm₁, B, X₁.warmed, X', hpost, fun target h => hstep₁ _ fun acts => by rw [doInvoke_state]; exact hsteps.trans h⟩
  · exact Or.inr ⟨q, vm₁, B, X₁.warmed, X', hpost, hstep₁ _ fun acts => by rw [doInvoke_state]; exact hsteps⟩
theorem vx_callVW (X : Stand p l e R s m args below meth c T locs cells slots) (hexec : p.tables.exec = Jvm.exec) {own C : String} {index : Nat} {y : MethodName} {bytes : ByteArray} {maxL : Nat} {ret : Option FieldType} {hh : List (Nat × Nat × Nat × Nat)}
    (hown : s.vm.findClass own = some m.cls) (hlink : (Cond.methodLink own index y).before args s = true) (hinst : (Cond.instanceMethod y).before args s = true) (hsel : (Cond.selects C y y).before args s = true)
    (hcode : (Cond.codeWith y bytes maxL ret hh).before args s = true) (hy : y.cls ≠ "java/lang/invoke/MethodHandle" ∧ y.cls ≠ "java/lang/invoke/VarHandle")
    {W9 : Nat} {Pre : Pt → Array Value → Prop} {Post : Pt → Array Value → Option Value → Pt → Prop} (hK : Back l R p e below s args y 3 W9 Pre Post)
    {b : Addr} {cellB : Cell} (hcell : T.heap[b]? = some cellB) (hobj : cellB.vm.isStatics = false) (hcls : s.vm.findClass C = some cellB.cls)
    {g : JFrame} (hg : g.method = m) (hsize : g.locals.size = c.maxLocals) {argsL rest : List Value} (hlen : ∀ sig, parseMethodDescriptor y.desc = some sig → argsL.length = sig.parameters.length)
    (hstack : g.stack = argsL.reverse ++ .ref b :: rest) (hW : 2 * g.monitorRoom + (rest.map fun v => v.category).sum ≤ W9) (hdg : decode c.code g.pc = .ok (.invokevirtual index, 3))
    (hpre : ∀ vm₁, s.WarmedH vm₁ → Pre ⟨T.setVm vm₁, locs, cells, slots⟩ (Value.ref b :: argsL).toArray) :
    ∃ (v : Option Value) (vm₁ : Vm) (B : Pt), s.WarmedH vm₁ ∧ Stand p l e R s m args below meth c B.U B.locs B.cells B.slots ∧ Post ⟨T.setVm vm₁, locs, cells, slots⟩ (Value.ref b :: argsL).toArray v B ∧
      ∀ target, Steps p.tables e below (B.U.setTop { g with pc := g.pc + 3, stack := v.toList ++ rest }) target → Steps p.tables e below (T.setTop g) target := by
  obtain ⟨mk, methM, hnamed, hmethM, hstM, habM⟩ := Cond.instanceMethod_spec hinst
  obtain ⟨m8, methM', cM, hn8, hmethM', -, -, -, -, -, -, hsigM⟩ := Cond.codeWith_spec hcode
  cases Option.some.inj (hn8.symm.trans hnamed)
  cases hmethM.symm.trans hmethM'
  obtain ⟨c2, r2, m2, q1, q2, q3, q4, kP, hkP, hkPi⟩ := Cond.selects_spec hsel
  cases hcls.symm.trans q1
  cases (State.methodFound?_of_named hnamed hy).symm.trans q2
  cases hnamed.symm.trans q3
  have hselP : selectMethod e.platform s.vm cellB.cls mk = .method mk := by rw [Launch.admits_selectMethod X.admits]; exact q4
  obtain ⟨vm₁, X₁, hstep₁⟩ := X.invokevirtual hexec hown hlink hnamed hmethM hstM hkP hkPi hy (a := b) (cell := cellB) hcell
    (fun z h => by rw [h] at hobj; cases hobj) hselP hmethM habM hkP hkPi (g := g) hg (argsL := argsL) (rest := rest) (hlen _ hsigM) hstack hdg
  obtain ⟨v, B, X', hpost, hsteps⟩ := hK m meth c ⟨T.setVm vm₁, locs, cells, slots⟩ { g with stack := rest } (.invokevirtual index) mk (Value.ref b :: argsL).toArray X₁ hg hsize hdg hW (X₁.named hnamed) (hpre vm₁ X₁.warmed)
  exact ⟨v, vm₁, B, X₁.warmed, X', hpost, fun target h => hstep₁ _ fun acts => by rw [doInvoke_state]; exact hsteps.trans h⟩
abbrev vx_CVW (R : Room) (s : State) (args : Array Value) (own C : String) (index : Nat) (y : MethodName) (bytes : ByteArray) (maxL : Nat) (ret : Option FieldType) (hh : List (Nat × Nat × Nat × Nat)) (ws : List Cond) (rm : Room) (mc ms n : Nat) : Prop :=
  (rm.cells = mc ∧ rm.slots = ms ∧ rm.frames + 1 ≤ R.frames ∧ 8 + (maxL + 11) + rm.locals ≤ R.locals ∧ (∀ w ∈ ws, ∀ (a' : Array Value) (U : State), s.WarmedH U.vm → w.before a' U = true) ∧ Cond.codeWith y bytes maxL ret hh ∈ ws) ∧
  (Cond.codeWith y bytes maxL ret hh).before args s = true ∧ (Cond.initialized y.cls).before args s = true ∧ (y.cls ≠ "java/lang/invoke/MethodHandle" ∧ y.cls ≠ "java/lang/invoke/VarHandle") ∧
  (∀ sig, parseMethodDescriptor y.desc = some sig → n = sig.parameters.length) ∧ (Cond.methodLink own index y).before args s = true ∧ (Cond.instanceMethod y).before args s = true ∧ (Cond.selects C y y).before args s = true
theorem vx_cwVW {own C : String} {index maxL mc ms : Nat} {y : MethodName} {bytes : ByteArray} {ret : Option FieldType} {hh : List (Nat × Nat × Nat × Nat)} {Ts ws ws' : List Cond} {rm : Room} (n : Nat) (ht : ∀ w ∈ Ts, w.before args s = true) (hT : GoodIn Ts (wsV own index C y ws)) (hw : ws = Cond.codeWith y bytes maxL ret hh :: ws') (hrc : rm.cells = mc) (hrs : rm.slots = ms)
    (hd : y.cls = C ∧ y.cls ≠ "java/lang/invoke/MethodHandle" ∧ y.cls ≠ "java/lang/invoke/VarHandle" ∧ (parseMethodDescriptor y.desc).map (fun d => d.parameters.length) = some n) (hR : rm.frames + 1 ≤ R.frames ∧ 8 + (maxL + 11) + rm.locals ≤ R.locals) :
    vx_CVW R s args own C index y bytes maxL ret hh ws rm mc ms n := by
  obtain ⟨hC, hd⟩ := hd
  subst hC
  have ok : ∀ w ∈ wsV own index y.cls y ws, w.before args s = true := fun w h => ht w (hT w h).1
  have hG : GoodIn Ts ws := fun w h => hT w (by unfold wsV; exact List.mem_append_right _ h)
  have hc : Cond.codeWith y bytes maxL ret hh ∈ ws := by rw [hw]; exact List.mem_cons_self
  refine ⟨⟨hrc, hrs, hR.1, hR.2, pay_in ht hG, hc⟩, ht _ (hG _ hc).1, ok _ (by simp [wsV]), ⟨hd.1, hd.2.1⟩, fun sig h => ?_, ok _ (by simp [wsV]), ok _ (by simp [wsV]), ok _ (by simp [wsV])⟩
  have h2 := hd.2.2
  rw [h] at h2
  exact (Option.some.inj h2).symm
theorem vx_runVW {y : MethodName} {bytes cc : ByteArray} {maxL nL mc ms n index : Nat} {ret : Option FieldType} {hh : List (Nat × Nat × Nat × Nat)} {ws : List Cond} {rm : Room} {Pc : Array Value → State → Prop} {Qc : Array Value → State → Outcome → State → Prop} {free : Addr → Prop} {Ts : List Cond} {own C : String} {b : Addr} {As rest : List Value} {g : JFrame}
    (S : CallFix p m c cc nL s args Ts own) (hM : Met l y ws rm Pc Qc mc ms free) (cw : vx_CVW R s args own C index y bytes maxL ret hh ws rm mc ms n) (hp : PreV s H C b Pc As)
    (hg : g.method = m) (hn : As.length = n) (hsize : g.locals.size = nL) (hstack : g.stack = As.reverse ++ .ref b :: rest) (hW : 2 * g.monitorRoom + (rest.map fun v => v.category).sum ≤ 8) (hdg : decode cc g.pc = .ok (.invokevirtual index, 3)) (hf : cells + mc ≤ R.cells ∧ slots + ms ≤ R.slots) :
    va_Run p l e R s m args below meth c H locs cells slots mc ms g rest (Qc (Value.ref b :: As).toArray) free := by
  obtain ⟨⟨hrc, hrs, hfr, hlo, hws, hcw⟩, hcode, hini, hy, hlen, hl, hin, hse⟩ := cw
  have hK : Back l R p e below s args y 3 8 (PreOf R mc ms Pc) (PostOf Qc mc ms free) := va_backW (hh := hh) (bytes := bytes) (maxL := maxL) (ret := ret) hM hp.1 hrc hrs hfr hlo hws hcw (fun a' U hW => word_at hW (Or.inl (by first | rfl | simp [Cond.onTables, Cond.keeps, Cond.steady])) hini)
  obtain ⟨hx, hb, hml, ho, -⟩ := S
  obtain ⟨-, ⟨cellB, hcB, hoB, hclB⟩, hPc⟩ := hp
  intro T hT X
  obtain ⟨v, vm₁, ⟨U', l2, c2, s2⟩, hW₁, X', ⟨g', mk, t, L, e1, e2, hq, h1, hL, h2, h3⟩, st⟩ := vx_callVW X hx (C := C) (hh := hh) (bytes := bytes) (maxL := maxL) (ret := ret) ho hl hin hse hcode hy hK (by rw [hT]; exact hcB) hoB hclB hg (hsize.trans hml.symm) (argsL := As) (rest := rest) (fun sig h => hn.trans (hlen sig h)) hstack hW (by rw [hb]; exact hdg)
    (fun vm₁ hW₁ => ⟨hf.1, hf.2, hPc (T.setVm vm₁) hT hW₁⟩)
  dsimp only [Pt.U, Pt.locs, Pt.cells, Pt.slots] at X' e1 e2 h1 h2 h3 st
  subst h1; subst h2; subst h3
  exact ⟨v, (T.setVm vm₁).calling g' mk (Value.ref b :: As).toArray, t, U', L, hT, X', hL, e1, e2, hq, st⟩
section
variable {y : MethodName} {bytes cc : ByteArray} {maxL nL mc ms n index : Nat} {ret : Option FieldType} {ws : List Cond} {rm : Room} {Pc : Array Value → State → Prop} {Qc : Array Value → State → Outcome → State → Prop} {XC : String → State → State → Prop} {free : Addr → Prop} {Ts : List Cond} {own C : String} {b : Addr} {As rest : List Value} {g : JFrame}
theorem vx_runVX {hh : List (Nat × Nat × Nat × Nat)} (S : CallFix p m c cc nL s args Ts own) (hM : vx_Met l y ws rm Pc Qc XC mc ms free) (cw : vx_CVW R s args own C index y bytes maxL ret hh ws rm mc ms n) (hp : PreV s H C b Pc As)
    (hg : g.method = m) (hn : As.length = n) (hsize : g.locals.size = nL) (hstack : g.stack = As.reverse ++ .ref b :: rest) (hW : 2 * g.monitorRoom + (rest.map fun v => v.category).sum ≤ 8) (hdg : decode cc g.pc = .ok (.invokevirtual index, 3)) (hf : cells + mc ≤ R.cells ∧ slots + ms ≤ R.slots) :
    vx_Run p l e R s m args below meth c H locs cells slots mc ms g rest (Qc (Value.ref b :: As).toArray) XC free := by
  obtain ⟨⟨hrc, hrs, hfr, hlo, hws, hcw⟩, hcode, hini, hy, hlen, hl, hin, hse⟩ := cw
  have hK : vx_Back l R p e below s args y 3 8 (PreOf R mc ms Pc) (PostOf Qc mc ms free) (vx_Post XC mc ms free) := vx_backW (hh := hh) (bytes := bytes) (maxL := maxL) (ret := ret) hM hp.1 hrc hrs hfr hlo hws hcw (fun a' U hW => word_at hW (Or.inl (by first | rfl | simp [Cond.onTables, Cond.keeps, Cond.steady])) hini)
  obtain ⟨hx, hb, hml, ho, -⟩ := S
  obtain ⟨-, ⟨cellB, hcB, hoB, hclB⟩, hPc⟩ := hp
  intro T hT X
  rcases vx_callVX X hx (C := C) (hh := hh) (bytes := bytes) (maxL := maxL) (ret := ret) ho hl hin hse hcode hy hK (by rw [hT]; exact hcB) hoB hclB hg (hsize.trans hml.symm) (argsL := As) (rest := rest) (fun sig h => hn.trans (hlen sig h)) hstack hW (by rw [hb]; exact hdg)
    (fun vm₁ hW₁ => ⟨hf.1, hf.2, hPc (T.setVm vm₁) hT hW₁⟩) with ⟨v, vm₁, ⟨U', l2, c2, s2⟩, hW₁, X', ⟨g', mk, t, L, e1, e2, hq, h1, hL, h2, h3⟩, st⟩ | ⟨q, vm₁, ⟨U', l2, c2, s2⟩, hW₁, X', ⟨g', mk, t, L, E, ce, e1, e2, hq, hce, hcv, hcl, h1, hL, h2, h3⟩, st⟩
  · dsimp only [Pt.U, Pt.locs, Pt.cells, Pt.slots] at X' e1 e2 h1 h2 h3 st
    subst h1; subst h2; subst h3
    exact Or.inl ⟨v, (T.setVm vm₁).calling g' mk (Value.ref b :: As).toArray, t, U', L, hT, X', hL, e1, e2, hq, st⟩
  · dsimp only [Pt.U, Pt.locs, Pt.cells, Pt.slots] at X' e1 e2 h1 h2 h3 st hcl
    subst h1; subst h2; subst h3
    exact Or.inr ⟨q, (T.setVm vm₁).calling g' mk (Value.ref b :: As).toArray, t, U', L, E, ce, hT, X', hL, e1, e2, hq, hce, hcv, vx_cls hW₁ hcl, st⟩
theorem vx_runSX {hh : List (Nat × Nat × Nat × Nat)} (S : CallFix p m c cc nL s args Ts own) (hM : vx_Met l y ws rm Pc Qc XC mc ms free) (cw : vx_CSW R s args own index y bytes maxL ret hh ws rm mc ms n) (hp : PreS s H Pc As)
    (hg : g.method = m) (hn : As.length = n) (hsize : g.locals.size = nL) (hstack : g.stack = As.reverse ++ rest) (hW : 2 * g.monitorRoom + (rest.map fun v => v.category).sum ≤ 8) (hdg : decode cc g.pc = .ok (.invokestatic index, 3)) (hf : cells + mc ≤ R.cells ∧ slots + ms ≤ R.slots) :
    vx_Run p l e R s m args below meth c H locs cells slots mc ms g rest (Qc As.toArray) XC free := by
  obtain ⟨⟨hrc, hrs, hfr, hlo, hws, hcw⟩, hcode, hini, hy, hlen, hl, hstt⟩ := cw
  have hK : vx_Back l R p e below s args y 3 8 (PreOf R mc ms Pc) (PostOf Qc mc ms free) (vx_Post XC mc ms free) := vx_backW (hh := hh) (bytes := bytes) (maxL := maxL) (ret := ret) hM hp.1 hrc hrs hfr hlo hws hcw (fun a' U hW => word_at hW (Or.inl (by first | rfl | simp [Cond.onTables, Cond.keeps, Cond.steady])) hini)
  obtain ⟨hx, hb, hml, ho, -⟩ := S
  intro T hT X
  rcases vx_callSX X hx (hh := hh) (bytes := bytes) (maxL := maxL) (ret := ret) ho hl hstt hini hcode hy hK hg (hsize.trans hml.symm) (argsL := As) (rest := rest) (fun sig h => hn.trans (hlen sig h)) hstack hW (by rw [hb]; exact hdg)
    (fun vm₁ hW₁ => ⟨hf.1, hf.2, hp.2 (T.setVm vm₁) hT hW₁⟩) with ⟨v, vm₁, ⟨U', l2, c2, s2⟩, hW₁, X', ⟨g', mk, t, L, e1, e2, hq, h1, hL, h2, h3⟩, st⟩ | ⟨q, vm₁, ⟨U', l2, c2, s2⟩, hW₁, X', ⟨g', mk, t, L, E, ce, e1, e2, hq, hce, hcv, hcl, h1, hL, h2, h3⟩, st⟩
  · dsimp only [Pt.U, Pt.locs, Pt.cells, Pt.slots] at X' e1 e2 h1 h2 h3 st
    subst h1; subst h2; subst h3
    exact Or.inl ⟨v, (T.setVm vm₁).calling g' mk As.toArray, t, U', L, hT, X', hL, e1, e2, hq, st⟩
  · dsimp only [Pt.U, Pt.locs, Pt.cells, Pt.slots] at X' e1 e2 h1 h2 h3 st hcl
    subst h1; subst h2; subst h3
    exact Or.inr ⟨q, (T.setVm vm₁).calling g' mk As.toArray, t, U', L, E, ce, hT, X', hL, e1, e2, hq, hce, hcv, vx_cls hW₁ hcl, st⟩
end
end VXH
theorem vx_ofWH {l : Launch} {y : MethodName} {ws ws' : List Cond} {rm : Room} {Pc : Array Value → State → Prop} {Qc : Array Value → State → Outcome → State → Prop} {XC : String → State → State → Prop} {mc ms : Nat} {free : Addr → Prop} {cc : ByteArray} {maxL : Nat} {ret : Option FieldType} {hh : List (Nat × Nat × Nat × Nat)}
    (hy : plainName y.cls = true) (hw : ws = Cond.codeWith y cc maxL ret hh :: ws')
    (body : ∀ p e s m args below meth c s₁, BodyLoose p l y (headSpec ws rm) cc maxL ret e s m args below meth c s₁ → c.maxLocals = maxL → Pc args s →
      W p l e (headSpec ws rm).room s m args below meth c s.heap [] 0 0 (vx_MQ below Qc XC args s mc ms free) (entryFrame m args maxL)) : vx_Met l y ws rm Pc Qc XC mc ms free := by
  refine MetFree.of_bodyS (code := cc) (maxLocals := maxL) (ret := ret) hy ?_ ?_
  · intro args s m h hn
    obtain ⟨m9, meth, c, hn9, h1, h2, h3, h4, -, h5, h6, -⟩ := Cond.codeWith_spec (atoms_spec (ws := ws) h _ (by rw [hw]; exact List.mem_cons_self))
    cases hn.symm.trans hn9
    exact ⟨meth, c, h1, h2, h3, h4, h5, h6⟩
  · intro p e s m args below meth c s₁ B hml hP _
    have hh0 : s₁.heap = s.heap := by rw [B.state]; rfl
    obtain ⟨t, a1, o, b1, b2, b3⟩ := body p e s m args below meth c s₁ B hml hP s₁ hh0 (Stand.of_body B)
    exact ⟨t, o, a1, b1, b2, b3⟩
end
section
/-! names of the classes, fields and methods (printed by wip/whole/wnames.py) -/
def RX0 : String := "SortedRun$Entry"
def TX0 : u_T := fun k => match k with
  | 0 => ("SortedRun$Entry", "isFirst", "Z", false)
  | 1 => ("SortedRun$Entry", "key", "I", false)
  | _ => ("SortedRun$Entry", "value", "J", false)
def tyX0 : Nat → FieldType := fun k => match k with
  | 0 => .boolean
  | 1 => .int
  | _ => .long
theorem nmX0 : ∀ a, a < 3 → ∀ b, b < 3 → a ≠ b → (TX0 a).2.1 ≠ (TX0 b).2.1 := by decide +kernel
theorem tyX0_ok : ∀ k, k < 3 → parseFieldDescriptor (TX0 k).2.2.1 = some (tyX0 k) := by decide +kernel
abbrev cX0_init : ByteArray := prog_2_method_1_code
def yX0_init : MethodName := ⟨RX0, "<init>", "()V"⟩
abbrev cX0_readNext : ByteArray := prog_2_method_2_code
def yX0_readNext : MethodName := ⟨RX0, "readNext", "(LSortedRun$Table;)V"⟩
def RX1 : String := "SortedRun$Index"
def TX1 : u_T := fun k => match k with
  | 0 => ("SortedRun$Index", "ends", "[I", true)
  | 1 => ("SortedRun$Index", "firstKeys", "[I", true)
  | _ => ("SortedRun$Index", "blocks", "I", false)
def tyX1 : Nat → FieldType := fun k => match k with
  | 0 => .array .int
  | 1 => .array .int
  | _ => .int
theorem nmX1 : ∀ a, a < 3 → ∀ b, b < 3 → a ≠ b → (TX1 a).2.1 ≠ (TX1 b).2.1 := by decide +kernel
theorem tyX1_ok : ∀ k, k < 3 → parseFieldDescriptor (TX1 k).2.2.1 = some (tyX1 k) := by decide +kernel
abbrev cX1_init : ByteArray := prog_3_method_1_code
def yX1_init : MethodName := ⟨RX1, "<init>", "()V"⟩
abbrev cX1_startOf : ByteArray := prog_3_method_2_code
def yX1_startOf : MethodName := ⟨RX1, "startOf", "(I)I"⟩
abbrev cX1_bodyEndOf : ByteArray := prog_3_method_3_code
def yX1_bodyEndOf : MethodName := ⟨RX1, "bodyEndOf", "(I)I"⟩
abbrev cX1_lastBlockNotAbove : ByteArray := prog_3_method_4_code
def yX1_lastBlockNotAbove : MethodName := ⟨RX1, "lastBlockNotAbove", "(I)I"⟩
abbrev cX1_readFrom : ByteArray := prog_3_method_5_code
def yX1_readFrom : MethodName := ⟨RX1, "readFrom", "(LSortedRun$Table;)Z"⟩
abbrev cX1_readBlocks : ByteArray := prog_3_method_6_code
def yX1_readBlocks : MethodName := ⟨RX1, "readBlocks", "(LSortedRun$Table;I)Z"⟩
abbrev cX1_fitsIndex : ByteArray := prog_3_method_7_code
def yX1_fitsIndex : MethodName := ⟨RX1, "fitsIndex", "(J)Z"⟩
def RX2 : String := "SortedRun$Table"
def TX2 : u_T := fun k => match k with
  | 0 => ("SortedRun$Table", "bytes", "[B", true)
  | 1 => ("SortedRun$Table", "length", "I", false)
  | 2 => ("SortedRun$Table", "next", "I", false)
  | 3 => ("SortedRun$Table", "end", "I", false)
  | _ => ("SortedRun$Table", "areNumbersRight", "Z", false)
def tyX2 : Nat → FieldType := fun k => match k with
  | 0 => .array .byte
  | 1 => .int
  | 2 => .int
  | 3 => .int
  | _ => .boolean
theorem nmX2 : ∀ a, a < 5 → ∀ b, b < 5 → a ≠ b → (TX2 a).2.1 ≠ (TX2 b).2.1 := by decide +kernel
theorem tyX2_ok : ∀ k, k < 5 → parseFieldDescriptor (TX2 k).2.2.1 = some (tyX2 k) := by decide +kernel
abbrev cX2_init : ByteArray := prog_4_method_1_code
def yX2_init : MethodName := ⟨RX2, "<init>", "()V"⟩
abbrev cX2_byteAt : ByteArray := prog_4_method_2_code
def yX2_byteAt : MethodName := ⟨RX2, "byteAt", "(I)I"⟩
abbrev cX2_append : ByteArray := prog_4_method_3_code
def yX2_append : MethodName := ⟨RX2, "append", "(I)V"⟩
abbrev cX2_appendNumber : ByteArray := prog_4_method_4_code
def yX2_appendNumber : MethodName := ⟨RX2, "appendNumber", "(J)V"⟩
abbrev cX2_appendSum : ByteArray := prog_4_method_5_code
def yX2_appendSum : MethodName := ⟨RX2, "appendSum", "(I)V"⟩
abbrev cX2_appendFoot : ByteArray := prog_4_method_6_code
def yX2_appendFoot : MethodName := ⟨RX2, "appendFoot", "(I)V"⟩
abbrev cX2_foot : ByteArray := prog_4_method_7_code
def yX2_foot : MethodName := ⟨RX2, "foot", "()J"⟩
abbrev cX2_hasSum : ByteArray := prog_4_method_8_code
def yX2_hasSum : MethodName := ⟨RX2, "hasSum", "(II)Z"⟩
abbrev cX2_sumOf : ByteArray := prog_4_method_9_code
def yX2_sumOf : MethodName := ⟨RX2, "sumOf", "(II)I"⟩
abbrev cX2_startReading : ByteArray := prog_4_method_10_code
def yX2_startReading : MethodName := ⟨RX2, "startReading", "(II)V"⟩
abbrev cX2_isReadToEnd : ByteArray := prog_4_method_11_code
def yX2_isReadToEnd : MethodName := ⟨RX2, "isReadToEnd", "()Z"⟩
abbrev cX2_takeNumber : ByteArray := prog_4_method_12_code
def yX2_takeNumber : MethodName := ⟨RX2, "takeNumber", "()J"⟩
def RX3 : String := "SortedRun"
def TX3 : u_T := fun k => match k with
  | 0 => ("SortedRun", "waitingKeys", "[I", true)
  | 1 => ("SortedRun", "waitingValues", "[J", true)
  | 2 => ("SortedRun", "blockLengths", "[I", true)
  | 3 => ("SortedRun", "table", "LSortedRun$Table;", true)
  | 4 => ("SortedRun", "index", "LSortedRun$Index;", true)
  | 5 => ("SortedRun", "entry", "LSortedRun$Entry;", true)
  | 6 => ("SortedRun", "waiting", "I", false)
  | _ => ("SortedRun", "isOpen", "Z", false)
def tyX3 : Nat → FieldType := fun k => match k with
  | 0 => .array .int
  | 1 => .array .long
  | 2 => .array .int
  | 3 => .object "SortedRun$Table"
  | 4 => .object "SortedRun$Index"
  | 5 => .object "SortedRun$Entry"
  | 6 => .int
  | _ => .boolean
theorem nmX3 : ∀ a, a < 8 → ∀ b, b < 8 → a ≠ b → (TX3 a).2.1 ≠ (TX3 b).2.1 := by decide +kernel
theorem tyX3_ok : ∀ k, k < 8 → parseFieldDescriptor (TX3 k).2.2.1 = some (tyX3 k) := by decide +kernel
abbrev cX3_init : ByteArray := prog_1_method_1_code
def yX3_init : MethodName := ⟨RX3, "<init>", "()V"⟩
abbrev cX3_add : ByteArray := prog_1_method_2_code
def yX3_add : MethodName := ⟨RX3, "add", "(IJ)I"⟩
abbrev cX3_write : ByteArray := prog_1_method_3_code
def yX3_write : MethodName := ⟨RX3, "write", "()I"⟩
abbrev cX3_at : ByteArray := prog_1_method_4_code
def yX3_at : MethodName := ⟨RX3, "at", "(I)I"⟩
abbrev cX3_damage : ByteArray := prog_1_method_5_code
def yX3_damage : MethodName := ⟨RX3, "damage", "(II)I"⟩
abbrev cX3_cut : ByteArray := prog_1_method_6_code
def yX3_cut : MethodName := ⟨RX3, "cut", "(I)V"⟩
abbrev cX3_open : ByteArray := prog_1_method_7_code
def yX3_open : MethodName := ⟨RX3, "open", "()I"⟩
abbrev cX3_get : ByteArray := prog_1_method_8_code
def yX3_get : MethodName := ⟨RX3, "get", "(I)J"⟩
abbrev cX3_entries : ByteArray := prog_1_method_9_code
def yX3_entries : MethodName := ⟨RX3, "entries", "(I)I"⟩
abbrev cX3_key : ByteArray := prog_1_method_10_code
def yX3_key : MethodName := ⟨RX3, "key", "(II)I"⟩
abbrev cX3_size : ByteArray := prog_1_method_11_code
def yX3_size : MethodName := ⟨RX3, "size", "()I"⟩
abbrev cX3_requireByte : ByteArray := prog_1_method_12_code
def yX3_requireByte : MethodName := ⟨RX3, "requireByte", "(I)V"⟩
abbrev cX3_requireOpen : ByteArray := prog_1_method_13_code
def yX3_requireOpen : MethodName := ⟨RX3, "requireOpen", "()V"⟩
abbrev cX3_requireBlock : ByteArray := prog_1_method_14_code
def yX3_requireBlock : MethodName := ⟨RX3, "requireBlock", "(I)V"⟩
abbrev cX3_countRightEntries : ByteArray := prog_1_method_15_code
def yX3_countRightEntries : MethodName := ⟨RX3, "countRightEntries", "(I)I"⟩
abbrev cX3_hasRightSum : ByteArray := prog_1_method_16_code
def yX3_hasRightSum : MethodName := ⟨RX3, "hasRightSum", "(I)Z"⟩
abbrev cX3_countEntries : ByteArray := prog_1_method_17_code
def yX3_countEntries : MethodName := ⟨RX3, "countEntries", "(I)I"⟩
abbrev cX3_startReading : ByteArray := prog_1_method_18_code
def yX3_startReading : MethodName := ⟨RX3, "startReading", "(I)V"⟩
abbrev cX3_writeTable : ByteArray := prog_1_method_19_code
def yX3_writeTable : MethodName := ⟨RX3, "writeTable", "()V"⟩
abbrev cX3_writeBlock : ByteArray := prog_1_method_20_code
def yX3_writeBlock : MethodName := ⟨RX3, "writeBlock", "(I)I"⟩
abbrev cX3_writeIndex : ByteArray := prog_1_method_21_code
def yX3_writeIndex : MethodName := ⟨RX3, "writeIndex", "(I)V"⟩
abbrev cX3_fold : ByteArray := prog_1_method_22_code
def yX3_fold : MethodName := ⟨RX3, "fold", "(J)J"⟩
abbrev cX3_unfold : ByteArray := prog_1_method_23_code
def yX3_unfold : MethodName := ⟨RX3, "unfold", "(J)J"⟩
def RX4 : String := "SortedRunModel"
def TX4 : u_T := fun k => match k with
  | 0 => ("SortedRunModel", "key", "[I", true)
  | 1 => ("SortedRunModel", "value", "[J", true)
  | 2 => ("SortedRunModel", "table", "[B", true)
  | 3 => ("SortedRunModel", "from", "[I", true)
  | 4 => ("SortedRunModel", "size", "[I", true)
  | 5 => ("SortedRunModel", "first", "[I", true)
  | 6 => ("SortedRunModel", "bKey", "[I", true)
  | 7 => ("SortedRunModel", "bValue", "[J", true)
  | 8 => ("SortedRunModel", "waits", "I", false)
  | 9 => ("SortedRunModel", "bytes", "I", false)
  | 10 => ("SortedRunModel", "blocks", "I", false)
  | 11 => ("SortedRunModel", "many", "I", false)
  | 12 => ("SortedRunModel", "at", "I", false)
  | 13 => ("SortedRunModel", "end", "I", false)
  | 14 => ("SortedRunModel", "thrown", "I", false)
  | 15 => ("SortedRunModel", "isOpen", "Z", false)
  | _ => ("SortedRunModel", "isWrong", "Z", false)
def tyX4 : Nat → FieldType := fun k => match k with
  | 0 => .array .int
  | 1 => .array .long
  | 2 => .array .byte
  | 3 => .array .int
  | 4 => .array .int
  | 5 => .array .int
  | 6 => .array .int
  | 7 => .array .long
  | 8 => .int
  | 9 => .int
  | 10 => .int
  | 11 => .int
  | 12 => .int
  | 13 => .int
  | 14 => .int
  | 15 => .boolean
  | _ => .boolean
theorem nmX4 : ∀ a, a < 17 → ∀ b, b < 17 → a ≠ b → (TX4 a).2.1 ≠ (TX4 b).2.1 := by decide +kernel
theorem tyX4_ok : ∀ k, k < 17 → parseFieldDescriptor (TX4 k).2.2.1 = some (tyX4 k) := by decide +kernel
abbrev cX4_init : ByteArray := prog_6_method_1_code
def yX4_init : MethodName := ⟨RX4, "<init>", "()V"⟩
abbrev cX4_thrown : ByteArray := prog_6_method_2_code
def yX4_thrown : MethodName := ⟨RX4, "thrown", "()I"⟩
abbrev cX4_number : ByteArray := prog_6_method_3_code
def yX4_number : MethodName := ⟨RX4, "number", "(J)V"⟩
abbrev cX4_fold : ByteArray := prog_6_method_4_code
def yX4_fold : MethodName := ⟨RX4, "fold", "(J)J"⟩
abbrev cX4_unfold : ByteArray := prog_6_method_5_code
def yX4_unfold : MethodName := ⟨RX4, "unfold", "(J)J"⟩
abbrev cX4_sum : ByteArray := prog_6_method_6_code
def yX4_sum : MethodName := ⟨RX4, "sum", "(II)I"⟩
abbrev cX4_seal : ByteArray := prog_6_method_7_code
def yX4_seal : MethodName := ⟨RX4, "seal", "(I)V"⟩
abbrev cX4_isSealed : ByteArray := prog_6_method_8_code
def yX4_isSealed : MethodName := ⟨RX4, "isSealed", "(II)Z"⟩
abbrev cX4_build : ByteArray := prog_6_method_9_code
def yX4_build : MethodName := ⟨RX4, "build", "()V"⟩
abbrev cX4_read : ByteArray := prog_6_method_10_code
def yX4_read : MethodName := ⟨RX4, "read", "()J"⟩
abbrev cX4_small : ByteArray := prog_6_method_11_code
def yX4_small : MethodName := ⟨RX4, "small", "()J"⟩
abbrev cX4_isIndex : ByteArray := prog_6_method_12_code
def yX4_isIndex : MethodName := ⟨RX4, "isIndex", "()Z"⟩
abbrev cX4_isBlock : ByteArray := prog_6_method_13_code
def yX4_isBlock : MethodName := ⟨RX4, "isBlock", "(I)Z"⟩
abbrev cX4_add : ByteArray := prog_6_method_14_code
def yX4_add : MethodName := ⟨RX4, "add", "(IJ)I"⟩
abbrev cX4_write : ByteArray := prog_6_method_15_code
def yX4_write : MethodName := ⟨RX4, "write", "()I"⟩
abbrev cX4_isByte : ByteArray := prog_6_method_16_code
def yX4_isByte : MethodName := ⟨RX4, "isByte", "(I)Z"⟩
abbrev cX4_at : ByteArray := prog_6_method_17_code
def yX4_at : MethodName := ⟨RX4, "at", "(I)I"⟩
abbrev cX4_damage : ByteArray := prog_6_method_18_code
def yX4_damage : MethodName := ⟨RX4, "damage", "(II)I"⟩
abbrev cX4_cut : ByteArray := prog_6_method_19_code
def yX4_cut : MethodName := ⟨RX4, "cut", "(I)V"⟩
abbrev cX4_open : ByteArray := prog_6_method_20_code
def yX4_open : MethodName := ⟨RX4, "open", "()I"⟩
abbrev cX4_get : ByteArray := prog_6_method_21_code
def yX4_get : MethodName := ⟨RX4, "get", "(I)J"⟩
abbrev cX4_isThere : ByteArray := prog_6_method_22_code
def yX4_isThere : MethodName := ⟨RX4, "isThere", "(I)Z"⟩
abbrev cX4_entries : ByteArray := prog_6_method_23_code
def yX4_entries : MethodName := ⟨RX4, "entries", "(I)I"⟩
abbrev cX4_key : ByteArray := prog_6_method_24_code
def yX4_key : MethodName := ⟨RX4, "key", "(II)I"⟩
abbrev cX4_size : ByteArray := prog_6_method_25_code
def yX4_size : MethodName := ⟨RX4, "size", "()I"⟩
def RL : String := "SortedRunLaw"
abbrev cL_add : ByteArray := method_3_code
def yL_add : MethodName := ⟨RL, "add", "(LSortedRun;IJ[J)I"⟩
abbrev cL_at : ByteArray := method_4_code
def yL_at : MethodName := ⟨RL, "at", "(LSortedRun;I[J)I"⟩
abbrev cL_damage : ByteArray := method_5_code
def yL_damage : MethodName := ⟨RL, "damage", "(LSortedRun;II[J)I"⟩
abbrev cL_cut : ByteArray := method_6_code
def yL_cut : MethodName := ⟨RL, "cut", "(LSortedRun;I)I"⟩
abbrev cL_open : ByteArray := method_7_code
def yL_open : MethodName := ⟨RL, "open", "(LSortedRun;[J)I"⟩
abbrev cL_get : ByteArray := method_8_code
def yL_get : MethodName := ⟨RL, "get", "(LSortedRun;I[J)I"⟩
abbrev cL_entries : ByteArray := method_9_code
def yL_entries : MethodName := ⟨RL, "entries", "(LSortedRun;I[J)I"⟩
abbrev cL_key : ByteArray := method_10_code
def yL_key : MethodName := ⟨RL, "key", "(LSortedRun;II[J)I"⟩
abbrev cL_law : ByteArray := code
def yL_law : MethodName := ⟨RL, "law", "([I)Z"⟩
abbrev vwCl : List vw_C := [(RX0, TX0, 3), (RX1, TX1, 3), (RX2, TX2, 5), (RX3, TX3, 8), (RX4, TX4, 17)]
end
section
/-! decode rows -/
theorem dX0_init_0 : decode cX0_init 0 = .ok (.aload_n 0, 1) := by decide +kernel
theorem dX0_init_1 : decode cX0_init 1 = .ok (.invokespecial 1, 3) := by decide +kernel
theorem dX0_init_4 : decode cX0_init 4 = .ok (.return_, 1) := by decide +kernel
theorem dX0_readNext_0 : decode cX0_readNext 0 = .ok (.aload_n 1, 1) := by decide +kernel
theorem dX0_readNext_1 : decode cX0_readNext 1 = .ok (.invokevirtual 7, 3) := by decide +kernel
theorem dX0_readNext_4 : decode cX0_readNext 4 = .ok (.lstore_n 2, 1) := by decide +kernel
theorem dX0_readNext_5 : decode cX0_readNext 5 = .ok (.aload_n 0, 1) := by decide +kernel
theorem dX0_readNext_6 : decode cX0_readNext 6 = .ok (.aload_n 0, 1) := by decide +kernel
theorem dX0_readNext_7 : decode cX0_readNext 7 = .ok (.getfield 13, 3) := by decide +kernel
theorem dX0_readNext_10 : decode cX0_readNext 10 = .ok (.ifCond .eq 10, 3) := by decide +kernel
theorem dX0_readNext_13 : decode cX0_readNext 13 = .ok (.lload_n 2, 1) := by decide +kernel
theorem dX0_readNext_14 : decode cX0_readNext 14 = .ok (.invokestatic 19, 3) := by decide +kernel
theorem dX0_readNext_17 : decode cX0_readNext 17 = .ok (.goto 12, 3) := by decide +kernel
theorem dX0_readNext_20 : decode cX0_readNext 20 = .ok (.aload_n 0, 1) := by decide +kernel
theorem dX0_readNext_21 : decode cX0_readNext 21 = .ok (.getfield 25, 3) := by decide +kernel
theorem dX0_readNext_24 : decode cX0_readNext 24 = .ok (.i2l, 1) := by decide +kernel
theorem dX0_readNext_25 : decode cX0_readNext 25 = .ok (.lload_n 2, 1) := by decide +kernel
theorem dX0_readNext_26 : decode cX0_readNext 26 = .ok (.ladd, 1) := by decide +kernel
theorem dX0_readNext_27 : decode cX0_readNext 27 = .ok (.lconst 1, 1) := by decide +kernel
theorem dX0_readNext_28 : decode cX0_readNext 28 = .ok (.ladd, 1) := by decide +kernel
theorem dX0_readNext_29 : decode cX0_readNext 29 = .ok (.l2i, 1) := by decide +kernel
theorem dX0_readNext_30 : decode cX0_readNext 30 = .ok (.putfield 25, 3) := by decide +kernel
theorem dX0_readNext_33 : decode cX0_readNext 33 = .ok (.aload_n 0, 1) := by decide +kernel
theorem dX0_readNext_34 : decode cX0_readNext 34 = .ok (.aload_n 1, 1) := by decide +kernel
theorem dX0_readNext_35 : decode cX0_readNext 35 = .ok (.invokevirtual 7, 3) := by decide +kernel
theorem dX0_readNext_38 : decode cX0_readNext 38 = .ok (.invokestatic 19, 3) := by decide +kernel
theorem dX0_readNext_41 : decode cX0_readNext 41 = .ok (.putfield 29, 3) := by decide +kernel
theorem dX0_readNext_44 : decode cX0_readNext 44 = .ok (.aload_n 0, 1) := by decide +kernel
theorem dX0_readNext_45 : decode cX0_readNext 45 = .ok (.iconst 0, 1) := by decide +kernel
theorem dX0_readNext_46 : decode cX0_readNext 46 = .ok (.putfield 13, 3) := by decide +kernel
theorem dX0_readNext_49 : decode cX0_readNext 49 = .ok (.return_, 1) := by decide +kernel
theorem dX1_init_0 : decode cX1_init 0 = .ok (.aload_n 0, 1) := by decide +kernel
theorem dX1_init_1 : decode cX1_init 1 = .ok (.invokespecial 3, 3) := by decide +kernel
theorem dX1_init_4 : decode cX1_init 4 = .ok (.aload_n 0, 1) := by decide +kernel
theorem dX1_init_5 : decode cX1_init 5 = .ok (.sipush 2444, 3) := by decide +kernel
theorem dX1_init_8 : decode cX1_init 8 = .ok (.newarray .int, 2) := by decide +kernel
theorem dX1_init_10 : decode cX1_init 10 = .ok (.putfield 9, 3) := by decide +kernel
theorem dX1_init_13 : decode cX1_init 13 = .ok (.aload_n 0, 1) := by decide +kernel
theorem dX1_init_14 : decode cX1_init 14 = .ok (.sipush 2444, 3) := by decide +kernel
theorem dX1_init_17 : decode cX1_init 17 = .ok (.newarray .int, 2) := by decide +kernel
theorem dX1_init_19 : decode cX1_init 19 = .ok (.putfield 15, 3) := by decide +kernel
theorem dX1_init_22 : decode cX1_init 22 = .ok (.return_, 1) := by decide +kernel
theorem dX1_startOf_0 : decode cX1_startOf 0 = .ok (.iload_n 1, 1) := by decide +kernel
theorem dX1_startOf_1 : decode cX1_startOf 1 = .ok (.ifCond .ne 7, 3) := by decide +kernel
theorem dX1_startOf_4 : decode cX1_startOf 4 = .ok (.iconst 0, 1) := by decide +kernel
theorem dX1_startOf_5 : decode cX1_startOf 5 = .ok (.goto 11, 3) := by decide +kernel
theorem dX1_startOf_8 : decode cX1_startOf 8 = .ok (.aload_n 0, 1) := by decide +kernel
theorem dX1_startOf_9 : decode cX1_startOf 9 = .ok (.getfield 9, 3) := by decide +kernel
theorem dX1_startOf_12 : decode cX1_startOf 12 = .ok (.iload_n 1, 1) := by decide +kernel
theorem dX1_startOf_13 : decode cX1_startOf 13 = .ok (.iconst 1, 1) := by decide +kernel
theorem dX1_startOf_14 : decode cX1_startOf 14 = .ok (.isub, 1) := by decide +kernel
theorem dX1_startOf_15 : decode cX1_startOf 15 = .ok (.iaload, 1) := by decide +kernel
theorem dX1_startOf_16 : decode cX1_startOf 16 = .ok (.ireturn, 1) := by decide +kernel
theorem dX1_bodyEndOf_0 : decode cX1_bodyEndOf 0 = .ok (.aload_n 0, 1) := by decide +kernel
theorem dX1_bodyEndOf_1 : decode cX1_bodyEndOf 1 = .ok (.getfield 9, 3) := by decide +kernel
theorem dX1_bodyEndOf_4 : decode cX1_bodyEndOf 4 = .ok (.iload_n 1, 1) := by decide +kernel
theorem dX1_bodyEndOf_5 : decode cX1_bodyEndOf 5 = .ok (.iaload, 1) := by decide +kernel
theorem dX1_bodyEndOf_6 : decode cX1_bodyEndOf 6 = .ok (.iconst 4, 1) := by decide +kernel
theorem dX1_bodyEndOf_7 : decode cX1_bodyEndOf 7 = .ok (.isub, 1) := by decide +kernel
theorem dX1_bodyEndOf_8 : decode cX1_bodyEndOf 8 = .ok (.ireturn, 1) := by decide +kernel
theorem dX1_lastBlockNotAbove_0 : decode cX1_lastBlockNotAbove 0 = .ok (.aload_n 0, 1) := by decide +kernel
theorem dX1_lastBlockNotAbove_1 : decode cX1_lastBlockNotAbove 1 = .ok (.getfield 18, 3) := by decide +kernel
theorem dX1_lastBlockNotAbove_4 : decode cX1_lastBlockNotAbove 4 = .ok (.iconst 1, 1) := by decide +kernel
theorem dX1_lastBlockNotAbove_5 : decode cX1_lastBlockNotAbove 5 = .ok (.isub, 1) := by decide +kernel
theorem dX1_lastBlockNotAbove_6 : decode cX1_lastBlockNotAbove 6 = .ok (.istore_n 2, 1) := by decide +kernel
theorem dX1_lastBlockNotAbove_7 : decode cX1_lastBlockNotAbove 7 = .ok (.iload_n 2, 1) := by decide +kernel
theorem dX1_lastBlockNotAbove_8 : decode cX1_lastBlockNotAbove 8 = .ok (.ifCond .lt 21, 3) := by decide +kernel
theorem dX1_lastBlockNotAbove_11 : decode cX1_lastBlockNotAbove 11 = .ok (.aload_n 0, 1) := by decide +kernel
theorem dX1_lastBlockNotAbove_12 : decode cX1_lastBlockNotAbove 12 = .ok (.getfield 15, 3) := by decide +kernel
theorem dX1_lastBlockNotAbove_15 : decode cX1_lastBlockNotAbove 15 = .ok (.iload_n 2, 1) := by decide +kernel
theorem dX1_lastBlockNotAbove_16 : decode cX1_lastBlockNotAbove 16 = .ok (.iaload, 1) := by decide +kernel
theorem dX1_lastBlockNotAbove_17 : decode cX1_lastBlockNotAbove 17 = .ok (.iload_n 1, 1) := by decide +kernel
theorem dX1_lastBlockNotAbove_18 : decode cX1_lastBlockNotAbove 18 = .ok (.if_icmp .gt 5, 3) := by decide +kernel
theorem dX1_lastBlockNotAbove_21 : decode cX1_lastBlockNotAbove 21 = .ok (.iload_n 2, 1) := by decide +kernel
theorem dX1_lastBlockNotAbove_22 : decode cX1_lastBlockNotAbove 22 = .ok (.ireturn, 1) := by decide +kernel
theorem dX1_lastBlockNotAbove_23 : decode cX1_lastBlockNotAbove 23 = .ok (.iinc 2 (-1), 3) := by decide +kernel
theorem dX1_lastBlockNotAbove_26 : decode cX1_lastBlockNotAbove 26 = .ok (.goto (-19), 3) := by decide +kernel
theorem dX1_lastBlockNotAbove_29 : decode cX1_lastBlockNotAbove 29 = .ok (.iconst (-1), 1) := by decide +kernel
theorem dX1_lastBlockNotAbove_30 : decode cX1_lastBlockNotAbove 30 = .ok (.ireturn, 1) := by decide +kernel
theorem dX1_readFrom_0 : decode cX1_readFrom 0 = .ok (.aload_n 1, 1) := by decide +kernel
theorem dX1_readFrom_1 : decode cX1_readFrom 1 = .ok (.getfield 22, 3) := by decide +kernel
theorem dX1_readFrom_4 : decode cX1_readFrom 4 = .ok (.iconst 4, 1) := by decide +kernel
theorem dX1_readFrom_5 : decode cX1_readFrom 5 = .ok (.isub, 1) := by decide +kernel
theorem dX1_readFrom_6 : decode cX1_readFrom 6 = .ok (.iconst 4, 1) := by decide +kernel
theorem dX1_readFrom_7 : decode cX1_readFrom 7 = .ok (.isub, 1) := by decide +kernel
theorem dX1_readFrom_8 : decode cX1_readFrom 8 = .ok (.istore_n 2, 1) := by decide +kernel
theorem dX1_readFrom_9 : decode cX1_readFrom 9 = .ok (.iload_n 2, 1) := by decide +kernel
theorem dX1_readFrom_10 : decode cX1_readFrom 10 = .ok (.ifCond .lt 13, 3) := by decide +kernel
theorem dX1_readFrom_13 : decode cX1_readFrom 13 = .ok (.aload_n 1, 1) := by decide +kernel
theorem dX1_readFrom_14 : decode cX1_readFrom 14 = .ok (.invokevirtual 27, 3) := by decide +kernel
theorem dX1_readFrom_17 : decode cX1_readFrom 17 = .ok (.iload_n 2, 1) := by decide +kernel
theorem dX1_readFrom_18 : decode cX1_readFrom 18 = .ok (.i2l, 1) := by decide +kernel
theorem dX1_readFrom_19 : decode cX1_readFrom 19 = .ok (.lcmp, 1) := by decide +kernel
theorem dX1_readFrom_20 : decode cX1_readFrom 20 = .ok (.ifCond .le 5, 3) := by decide +kernel
theorem dX1_readFrom_23 : decode cX1_readFrom 23 = .ok (.iconst 0, 1) := by decide +kernel
theorem dX1_readFrom_24 : decode cX1_readFrom 24 = .ok (.ireturn, 1) := by decide +kernel
theorem dX1_readFrom_25 : decode cX1_readFrom 25 = .ok (.iload_n 2, 1) := by decide +kernel
theorem dX1_readFrom_26 : decode cX1_readFrom 26 = .ok (.aload_n 1, 1) := by decide +kernel
theorem dX1_readFrom_27 : decode cX1_readFrom 27 = .ok (.invokevirtual 27, 3) := by decide +kernel
theorem dX1_readFrom_30 : decode cX1_readFrom 30 = .ok (.l2i, 1) := by decide +kernel
theorem dX1_readFrom_31 : decode cX1_readFrom 31 = .ok (.isub, 1) := by decide +kernel
theorem dX1_readFrom_32 : decode cX1_readFrom 32 = .ok (.istore_n 3, 1) := by decide +kernel
theorem dX1_readFrom_33 : decode cX1_readFrom 33 = .ok (.aload_n 1, 1) := by decide +kernel
theorem dX1_readFrom_34 : decode cX1_readFrom 34 = .ok (.iload_n 3, 1) := by decide +kernel
theorem dX1_readFrom_35 : decode cX1_readFrom 35 = .ok (.iload_n 2, 1) := by decide +kernel
theorem dX1_readFrom_36 : decode cX1_readFrom 36 = .ok (.invokevirtual 31, 3) := by decide +kernel
theorem dX1_readFrom_39 : decode cX1_readFrom 39 = .ok (.ifCond .ne 5, 3) := by decide +kernel
theorem dX1_readFrom_42 : decode cX1_readFrom 42 = .ok (.iconst 0, 1) := by decide +kernel
theorem dX1_readFrom_43 : decode cX1_readFrom 43 = .ok (.ireturn, 1) := by decide +kernel
theorem dX1_readFrom_44 : decode cX1_readFrom 44 = .ok (.aload_n 1, 1) := by decide +kernel
theorem dX1_readFrom_45 : decode cX1_readFrom 45 = .ok (.iload_n 3, 1) := by decide +kernel
theorem dX1_readFrom_46 : decode cX1_readFrom 46 = .ok (.iload_n 2, 1) := by decide +kernel
theorem dX1_readFrom_47 : decode cX1_readFrom 47 = .ok (.invokevirtual 35, 3) := by decide +kernel
theorem dX1_readFrom_50 : decode cX1_readFrom 50 = .ok (.aload_n 0, 1) := by decide +kernel
theorem dX1_readFrom_51 : decode cX1_readFrom 51 = .ok (.aload_n 1, 1) := by decide +kernel
theorem dX1_readFrom_52 : decode cX1_readFrom 52 = .ok (.iload_n 3, 1) := by decide +kernel
theorem dX1_readFrom_53 : decode cX1_readFrom 53 = .ok (.invokevirtual 39, 3) := by decide +kernel
theorem dX1_readFrom_56 : decode cX1_readFrom 56 = .ok (.ifCond .eq 21, 3) := by decide +kernel
theorem dX1_readFrom_59 : decode cX1_readFrom 59 = .ok (.aload_n 1, 1) := by decide +kernel
theorem dX1_readFrom_60 : decode cX1_readFrom 60 = .ok (.getfield 43, 3) := by decide +kernel
theorem dX1_readFrom_63 : decode cX1_readFrom 63 = .ok (.ifCond .eq 14, 3) := by decide +kernel
theorem dX1_readFrom_66 : decode cX1_readFrom 66 = .ok (.aload_n 1, 1) := by decide +kernel
theorem dX1_readFrom_67 : decode cX1_readFrom 67 = .ok (.invokevirtual 47, 3) := by decide +kernel
theorem dX1_readFrom_70 : decode cX1_readFrom 70 = .ok (.ifCond .eq 7, 3) := by decide +kernel
theorem dX1_readFrom_73 : decode cX1_readFrom 73 = .ok (.iconst 1, 1) := by decide +kernel
theorem dX1_readFrom_74 : decode cX1_readFrom 74 = .ok (.goto 4, 3) := by decide +kernel
theorem dX1_readFrom_77 : decode cX1_readFrom 77 = .ok (.iconst 0, 1) := by decide +kernel
theorem dX1_readFrom_78 : decode cX1_readFrom 78 = .ok (.ireturn, 1) := by decide +kernel
theorem dX1_readBlocks_0 : decode cX1_readBlocks 0 = .ok (.aload_n 1, 1) := by decide +kernel
theorem dX1_readBlocks_1 : decode cX1_readBlocks 1 = .ok (.invokevirtual 51, 3) := by decide +kernel
theorem dX1_readBlocks_4 : decode cX1_readBlocks 4 = .ok (.lstore_n 3, 1) := by decide +kernel
theorem dX1_readBlocks_5 : decode cX1_readBlocks 5 = .ok (.lload_n 3, 1) := by decide +kernel
theorem dX1_readBlocks_6 : decode cX1_readBlocks 6 = .ok (.lconst 0, 1) := by decide +kernel
theorem dX1_readBlocks_7 : decode cX1_readBlocks 7 = .ok (.lcmp, 1) := by decide +kernel
theorem dX1_readBlocks_8 : decode cX1_readBlocks 8 = .ok (.ifCond .lt 11, 3) := by decide +kernel
theorem dX1_readBlocks_11 : decode cX1_readBlocks 11 = .ok (.lload_n 3, 1) := by decide +kernel
theorem dX1_readBlocks_12 : decode cX1_readBlocks 12 = .ok (.ldc2_w 54, 3) := by decide +kernel
theorem dX1_readBlocks_15 : decode cX1_readBlocks 15 = .ok (.lcmp, 1) := by decide +kernel
theorem dX1_readBlocks_16 : decode cX1_readBlocks 16 = .ok (.ifCond .le 5, 3) := by decide +kernel
theorem dX1_readBlocks_19 : decode cX1_readBlocks 19 = .ok (.iconst 0, 1) := by decide +kernel
theorem dX1_readBlocks_20 : decode cX1_readBlocks 20 = .ok (.ireturn, 1) := by decide +kernel
theorem dX1_readBlocks_21 : decode cX1_readBlocks 21 = .ok (.aload_n 0, 1) := by decide +kernel
theorem dX1_readBlocks_22 : decode cX1_readBlocks 22 = .ok (.lload_n 3, 1) := by decide +kernel
theorem dX1_readBlocks_23 : decode cX1_readBlocks 23 = .ok (.l2i, 1) := by decide +kernel
theorem dX1_readBlocks_24 : decode cX1_readBlocks 24 = .ok (.putfield 18, 3) := by decide +kernel
theorem dX1_readBlocks_27 : decode cX1_readBlocks 27 = .ok (.lconst 0, 1) := by decide +kernel
theorem dX1_readBlocks_28 : decode cX1_readBlocks 28 = .ok (.lstore 5, 2) := by decide +kernel
theorem dX1_readBlocks_30 : decode cX1_readBlocks 30 = .ok (.iconst 0, 1) := by decide +kernel
theorem dX1_readBlocks_31 : decode cX1_readBlocks 31 = .ok (.istore 7, 2) := by decide +kernel
theorem dX1_readBlocks_33 : decode cX1_readBlocks 33 = .ok (.iload 7, 2) := by decide +kernel
theorem dX1_readBlocks_35 : decode cX1_readBlocks 35 = .ok (.aload_n 0, 1) := by decide +kernel
theorem dX1_readBlocks_36 : decode cX1_readBlocks 36 = .ok (.getfield 18, 3) := by decide +kernel
theorem dX1_readBlocks_39 : decode cX1_readBlocks 39 = .ok (.if_icmp .ge 71, 3) := by decide +kernel
theorem dX1_readBlocks_42 : decode cX1_readBlocks 42 = .ok (.aload_n 1, 1) := by decide +kernel
theorem dX1_readBlocks_43 : decode cX1_readBlocks 43 = .ok (.invokevirtual 51, 3) := by decide +kernel
theorem dX1_readBlocks_46 : decode cX1_readBlocks 46 = .ok (.lstore 8, 2) := by decide +kernel
theorem dX1_readBlocks_48 : decode cX1_readBlocks 48 = .ok (.aload_n 1, 1) := by decide +kernel
theorem dX1_readBlocks_49 : decode cX1_readBlocks 49 = .ok (.invokevirtual 51, 3) := by decide +kernel
theorem dX1_readBlocks_52 : decode cX1_readBlocks 52 = .ok (.lstore 10, 2) := by decide +kernel
theorem dX1_readBlocks_54 : decode cX1_readBlocks 54 = .ok (.aload_n 0, 1) := by decide +kernel
theorem dX1_readBlocks_55 : decode cX1_readBlocks 55 = .ok (.lload 8, 2) := by decide +kernel
theorem dX1_readBlocks_57 : decode cX1_readBlocks 57 = .ok (.invokevirtual 56, 3) := by decide +kernel
theorem dX1_readBlocks_60 : decode cX1_readBlocks 60 = .ok (.ifCond .eq 12, 3) := by decide +kernel
theorem dX1_readBlocks_63 : decode cX1_readBlocks 63 = .ok (.aload_n 0, 1) := by decide +kernel
theorem dX1_readBlocks_64 : decode cX1_readBlocks 64 = .ok (.lload 10, 2) := by decide +kernel
theorem dX1_readBlocks_66 : decode cX1_readBlocks 66 = .ok (.invokevirtual 56, 3) := by decide +kernel
theorem dX1_readBlocks_69 : decode cX1_readBlocks 69 = .ok (.ifCond .ne 5, 3) := by decide +kernel
theorem dX1_readBlocks_72 : decode cX1_readBlocks 72 = .ok (.iconst 0, 1) := by decide +kernel
theorem dX1_readBlocks_73 : decode cX1_readBlocks 73 = .ok (.ireturn, 1) := by decide +kernel
theorem dX1_readBlocks_74 : decode cX1_readBlocks 74 = .ok (.lload 5, 2) := by decide +kernel
theorem dX1_readBlocks_76 : decode cX1_readBlocks 76 = .ok (.lload 8, 2) := by decide +kernel
theorem dX1_readBlocks_78 : decode cX1_readBlocks 78 = .ok (.ladd, 1) := by decide +kernel
theorem dX1_readBlocks_79 : decode cX1_readBlocks 79 = .ok (.lstore 5, 2) := by decide +kernel
theorem dX1_readBlocks_81 : decode cX1_readBlocks 81 = .ok (.aload_n 0, 1) := by decide +kernel
theorem dX1_readBlocks_82 : decode cX1_readBlocks 82 = .ok (.getfield 9, 3) := by decide +kernel
theorem dX1_readBlocks_85 : decode cX1_readBlocks 85 = .ok (.iload 7, 2) := by decide +kernel
theorem dX1_readBlocks_87 : decode cX1_readBlocks 87 = .ok (.lload 5, 2) := by decide +kernel
theorem dX1_readBlocks_89 : decode cX1_readBlocks 89 = .ok (.l2i, 1) := by decide +kernel
theorem dX1_readBlocks_90 : decode cX1_readBlocks 90 = .ok (.iastore, 1) := by decide +kernel
theorem dX1_readBlocks_91 : decode cX1_readBlocks 91 = .ok (.aload_n 0, 1) := by decide +kernel
theorem dX1_readBlocks_92 : decode cX1_readBlocks 92 = .ok (.getfield 15, 3) := by decide +kernel
theorem dX1_readBlocks_95 : decode cX1_readBlocks 95 = .ok (.iload 7, 2) := by decide +kernel
theorem dX1_readBlocks_97 : decode cX1_readBlocks 97 = .ok (.lload 10, 2) := by decide +kernel
theorem dX1_readBlocks_99 : decode cX1_readBlocks 99 = .ok (.invokestatic 60, 3) := by decide +kernel
theorem dX1_readBlocks_102 : decode cX1_readBlocks 102 = .ok (.l2i, 1) := by decide +kernel
theorem dX1_readBlocks_103 : decode cX1_readBlocks 103 = .ok (.iastore, 1) := by decide +kernel
theorem dX1_readBlocks_104 : decode cX1_readBlocks 104 = .ok (.iinc 7 1, 3) := by decide +kernel
theorem dX1_readBlocks_107 : decode cX1_readBlocks 107 = .ok (.goto (-74), 3) := by decide +kernel
theorem dX1_readBlocks_110 : decode cX1_readBlocks 110 = .ok (.lload 5, 2) := by decide +kernel
theorem dX1_readBlocks_112 : decode cX1_readBlocks 112 = .ok (.iload_n 2, 1) := by decide +kernel
theorem dX1_readBlocks_113 : decode cX1_readBlocks 113 = .ok (.i2l, 1) := by decide +kernel
theorem dX1_readBlocks_114 : decode cX1_readBlocks 114 = .ok (.lcmp, 1) := by decide +kernel
theorem dX1_readBlocks_115 : decode cX1_readBlocks 115 = .ok (.ifCond .ne 7, 3) := by decide +kernel
theorem dX1_readBlocks_118 : decode cX1_readBlocks 118 = .ok (.iconst 1, 1) := by decide +kernel
theorem dX1_readBlocks_119 : decode cX1_readBlocks 119 = .ok (.goto 4, 3) := by decide +kernel
theorem dX1_readBlocks_122 : decode cX1_readBlocks 122 = .ok (.iconst 0, 1) := by decide +kernel
theorem dX1_readBlocks_123 : decode cX1_readBlocks 123 = .ok (.ireturn, 1) := by decide +kernel
theorem dX1_fitsIndex_0 : decode cX1_fitsIndex 0 = .ok (.lload_n 1, 1) := by decide +kernel
theorem dX1_fitsIndex_1 : decode cX1_fitsIndex 1 = .ok (.lconst 0, 1) := by decide +kernel
theorem dX1_fitsIndex_2 : decode cX1_fitsIndex 2 = .ok (.lcmp, 1) := by decide +kernel
theorem dX1_fitsIndex_3 : decode cX1_fitsIndex 3 = .ok (.ifCond .lt 15, 3) := by decide +kernel
theorem dX1_fitsIndex_6 : decode cX1_fitsIndex 6 = .ok (.lload_n 1, 1) := by decide +kernel
theorem dX1_fitsIndex_7 : decode cX1_fitsIndex 7 = .ok (.ldc2_w 64, 3) := by decide +kernel
theorem dX1_fitsIndex_10 : decode cX1_fitsIndex 10 = .ok (.lcmp, 1) := by decide +kernel
theorem dX1_fitsIndex_11 : decode cX1_fitsIndex 11 = .ok (.ifCond .gt 7, 3) := by decide +kernel
theorem dX1_fitsIndex_14 : decode cX1_fitsIndex 14 = .ok (.iconst 1, 1) := by decide +kernel
theorem dX1_fitsIndex_15 : decode cX1_fitsIndex 15 = .ok (.goto 4, 3) := by decide +kernel
theorem dX1_fitsIndex_18 : decode cX1_fitsIndex 18 = .ok (.iconst 0, 1) := by decide +kernel
theorem dX1_fitsIndex_19 : decode cX1_fitsIndex 19 = .ok (.ireturn, 1) := by decide +kernel
theorem dX2_init_0 : decode cX2_init 0 = .ok (.aload_n 0, 1) := by decide +kernel
theorem dX2_init_1 : decode cX2_init 1 = .ok (.invokespecial 3, 3) := by decide +kernel
theorem dX2_init_4 : decode cX2_init 4 = .ok (.aload_n 0, 1) := by decide +kernel
theorem dX2_init_5 : decode cX2_init 5 = .ok (.sipush 4889, 3) := by decide +kernel
theorem dX2_init_8 : decode cX2_init 8 = .ok (.newarray .byte, 2) := by decide +kernel
theorem dX2_init_10 : decode cX2_init 10 = .ok (.putfield 9, 3) := by decide +kernel
theorem dX2_init_13 : decode cX2_init 13 = .ok (.return_, 1) := by decide +kernel
theorem dX2_byteAt_0 : decode cX2_byteAt 0 = .ok (.aload_n 0, 1) := by decide +kernel
theorem dX2_byteAt_1 : decode cX2_byteAt 1 = .ok (.getfield 9, 3) := by decide +kernel
theorem dX2_byteAt_4 : decode cX2_byteAt 4 = .ok (.iload_n 1, 1) := by decide +kernel
theorem dX2_byteAt_5 : decode cX2_byteAt 5 = .ok (.baload, 1) := by decide +kernel
theorem dX2_byteAt_6 : decode cX2_byteAt 6 = .ok (.sipush 255, 3) := by decide +kernel
theorem dX2_byteAt_9 : decode cX2_byteAt 9 = .ok (.iand, 1) := by decide +kernel
theorem dX2_byteAt_10 : decode cX2_byteAt 10 = .ok (.ireturn, 1) := by decide +kernel
theorem dX2_append_0 : decode cX2_append 0 = .ok (.aload_n 0, 1) := by decide +kernel
theorem dX2_append_1 : decode cX2_append 1 = .ok (.getfield 9, 3) := by decide +kernel
theorem dX2_append_4 : decode cX2_append 4 = .ok (.aload_n 0, 1) := by decide +kernel
theorem dX2_append_5 : decode cX2_append 5 = .ok (.getfield 15, 3) := by decide +kernel
theorem dX2_append_8 : decode cX2_append 8 = .ok (.iload_n 1, 1) := by decide +kernel
theorem dX2_append_9 : decode cX2_append 9 = .ok (.i2b, 1) := by decide +kernel
theorem dX2_append_10 : decode cX2_append 10 = .ok (.bastore, 1) := by decide +kernel
theorem dX2_append_11 : decode cX2_append 11 = .ok (.aload_n 0, 1) := by decide +kernel
theorem dX2_append_12 : decode cX2_append 12 = .ok (.dup, 1) := by decide +kernel
theorem dX2_append_13 : decode cX2_append 13 = .ok (.getfield 15, 3) := by decide +kernel
theorem dX2_append_16 : decode cX2_append 16 = .ok (.iconst 1, 1) := by decide +kernel
theorem dX2_append_17 : decode cX2_append 17 = .ok (.iadd, 1) := by decide +kernel
theorem dX2_append_18 : decode cX2_append 18 = .ok (.putfield 15, 3) := by decide +kernel
theorem dX2_append_21 : decode cX2_append 21 = .ok (.return_, 1) := by decide +kernel
theorem dX2_appendNumber_0 : decode cX2_appendNumber 0 = .ok (.lload_n 1, 1) := by decide +kernel
theorem dX2_appendNumber_1 : decode cX2_appendNumber 1 = .ok (.lstore_n 3, 1) := by decide +kernel
theorem dX2_appendNumber_2 : decode cX2_appendNumber 2 = .ok (.iconst 1, 1) := by decide +kernel
theorem dX2_appendNumber_3 : decode cX2_appendNumber 3 = .ok (.istore 5, 2) := by decide +kernel
theorem dX2_appendNumber_5 : decode cX2_appendNumber 5 = .ok (.iload 5, 2) := by decide +kernel
theorem dX2_appendNumber_7 : decode cX2_appendNumber 7 = .ok (.bipush 10, 2) := by decide +kernel
theorem dX2_appendNumber_9 : decode cX2_appendNumber 9 = .ok (.if_icmp .ge 37, 3) := by decide +kernel
theorem dX2_appendNumber_12 : decode cX2_appendNumber 12 = .ok (.lload_n 3, 1) := by decide +kernel
theorem dX2_appendNumber_13 : decode cX2_appendNumber 13 = .ok (.bipush 7, 2) := by decide +kernel
theorem dX2_appendNumber_15 : decode cX2_appendNumber 15 = .ok (.lushr, 1) := by decide +kernel
theorem dX2_appendNumber_16 : decode cX2_appendNumber 16 = .ok (.lconst 0, 1) := by decide +kernel
theorem dX2_appendNumber_17 : decode cX2_appendNumber 17 = .ok (.lcmp, 1) := by decide +kernel
theorem dX2_appendNumber_18 : decode cX2_appendNumber 18 = .ok (.ifCond .eq 28, 3) := by decide +kernel
theorem dX2_appendNumber_21 : decode cX2_appendNumber 21 = .ok (.aload_n 0, 1) := by decide +kernel
theorem dX2_appendNumber_22 : decode cX2_appendNumber 22 = .ok (.lload_n 3, 1) := by decide +kernel
theorem dX2_appendNumber_23 : decode cX2_appendNumber 23 = .ok (.ldc2_w 19, 3) := by decide +kernel
theorem dX2_appendNumber_26 : decode cX2_appendNumber 26 = .ok (.land, 1) := by decide +kernel
theorem dX2_appendNumber_27 : decode cX2_appendNumber 27 = .ok (.l2i, 1) := by decide +kernel
theorem dX2_appendNumber_28 : decode cX2_appendNumber 28 = .ok (.sipush 128, 3) := by decide +kernel
theorem dX2_appendNumber_31 : decode cX2_appendNumber 31 = .ok (.iadd, 1) := by decide +kernel
theorem dX2_appendNumber_32 : decode cX2_appendNumber 32 = .ok (.invokevirtual 21, 3) := by decide +kernel
theorem dX2_appendNumber_35 : decode cX2_appendNumber 35 = .ok (.lload_n 3, 1) := by decide +kernel
theorem dX2_appendNumber_36 : decode cX2_appendNumber 36 = .ok (.bipush 7, 2) := by decide +kernel
theorem dX2_appendNumber_38 : decode cX2_appendNumber 38 = .ok (.lushr, 1) := by decide +kernel
theorem dX2_appendNumber_39 : decode cX2_appendNumber 39 = .ok (.lstore_n 3, 1) := by decide +kernel
theorem dX2_appendNumber_40 : decode cX2_appendNumber 40 = .ok (.iinc 5 1, 3) := by decide +kernel
theorem dX2_appendNumber_43 : decode cX2_appendNumber 43 = .ok (.goto (-38), 3) := by decide +kernel
theorem dX2_appendNumber_46 : decode cX2_appendNumber 46 = .ok (.aload_n 0, 1) := by decide +kernel
theorem dX2_appendNumber_47 : decode cX2_appendNumber 47 = .ok (.lload_n 3, 1) := by decide +kernel
theorem dX2_appendNumber_48 : decode cX2_appendNumber 48 = .ok (.l2i, 1) := by decide +kernel
theorem dX2_appendNumber_49 : decode cX2_appendNumber 49 = .ok (.invokevirtual 21, 3) := by decide +kernel
theorem dX2_appendNumber_52 : decode cX2_appendNumber 52 = .ok (.return_, 1) := by decide +kernel
theorem dX2_appendSum_0 : decode cX2_appendSum 0 = .ok (.aload_n 0, 1) := by decide +kernel
theorem dX2_appendSum_1 : decode cX2_appendSum 1 = .ok (.iload_n 1, 1) := by decide +kernel
theorem dX2_appendSum_2 : decode cX2_appendSum 2 = .ok (.aload_n 0, 1) := by decide +kernel
theorem dX2_appendSum_3 : decode cX2_appendSum 3 = .ok (.getfield 15, 3) := by decide +kernel
theorem dX2_appendSum_6 : decode cX2_appendSum 6 = .ok (.invokevirtual 25, 3) := by decide +kernel
theorem dX2_appendSum_9 : decode cX2_appendSum 9 = .ok (.istore_n 2, 1) := by decide +kernel
theorem dX2_appendSum_10 : decode cX2_appendSum 10 = .ok (.iconst 0, 1) := by decide +kernel
theorem dX2_appendSum_11 : decode cX2_appendSum 11 = .ok (.istore_n 3, 1) := by decide +kernel
theorem dX2_appendSum_12 : decode cX2_appendSum 12 = .ok (.iload_n 3, 1) := by decide +kernel
theorem dX2_appendSum_13 : decode cX2_appendSum 13 = .ok (.iconst 4, 1) := by decide +kernel
theorem dX2_appendSum_14 : decode cX2_appendSum 14 = .ok (.if_icmp .ge 19, 3) := by decide +kernel
theorem dX2_appendSum_17 : decode cX2_appendSum 17 = .ok (.aload_n 0, 1) := by decide +kernel
theorem dX2_appendSum_18 : decode cX2_appendSum 18 = .ok (.iload_n 2, 1) := by decide +kernel
theorem dX2_appendSum_19 : decode cX2_appendSum 19 = .ok (.bipush 8, 2) := by decide +kernel
theorem dX2_appendSum_21 : decode cX2_appendSum 21 = .ok (.iload_n 3, 1) := by decide +kernel
theorem dX2_appendSum_22 : decode cX2_appendSum 22 = .ok (.imul, 1) := by decide +kernel
theorem dX2_appendSum_23 : decode cX2_appendSum 23 = .ok (.iushr, 1) := by decide +kernel
theorem dX2_appendSum_24 : decode cX2_appendSum 24 = .ok (.invokevirtual 21, 3) := by decide +kernel
theorem dX2_appendSum_27 : decode cX2_appendSum 27 = .ok (.iinc 3 1, 3) := by decide +kernel
theorem dX2_appendSum_30 : decode cX2_appendSum 30 = .ok (.goto (-18), 3) := by decide +kernel
theorem dX2_appendSum_33 : decode cX2_appendSum 33 = .ok (.return_, 1) := by decide +kernel
theorem dX2_appendFoot_0 : decode cX2_appendFoot 0 = .ok (.iconst 3, 1) := by decide +kernel
theorem dX2_appendFoot_1 : decode cX2_appendFoot 1 = .ok (.istore_n 2, 1) := by decide +kernel
theorem dX2_appendFoot_2 : decode cX2_appendFoot 2 = .ok (.iload_n 2, 1) := by decide +kernel
theorem dX2_appendFoot_3 : decode cX2_appendFoot 3 = .ok (.ifCond .lt 19, 3) := by decide +kernel
theorem dX2_appendFoot_6 : decode cX2_appendFoot 6 = .ok (.aload_n 0, 1) := by decide +kernel
theorem dX2_appendFoot_7 : decode cX2_appendFoot 7 = .ok (.iload_n 1, 1) := by decide +kernel
theorem dX2_appendFoot_8 : decode cX2_appendFoot 8 = .ok (.bipush 8, 2) := by decide +kernel
theorem dX2_appendFoot_10 : decode cX2_appendFoot 10 = .ok (.iload_n 2, 1) := by decide +kernel
theorem dX2_appendFoot_11 : decode cX2_appendFoot 11 = .ok (.imul, 1) := by decide +kernel
theorem dX2_appendFoot_12 : decode cX2_appendFoot 12 = .ok (.iushr, 1) := by decide +kernel
theorem dX2_appendFoot_13 : decode cX2_appendFoot 13 = .ok (.invokevirtual 21, 3) := by decide +kernel
theorem dX2_appendFoot_16 : decode cX2_appendFoot 16 = .ok (.iinc 2 (-1), 3) := by decide +kernel
theorem dX2_appendFoot_19 : decode cX2_appendFoot 19 = .ok (.goto (-17), 3) := by decide +kernel
theorem dX2_appendFoot_22 : decode cX2_appendFoot 22 = .ok (.return_, 1) := by decide +kernel
theorem dX2_foot_0 : decode cX2_foot 0 = .ok (.lconst 0, 1) := by decide +kernel
theorem dX2_foot_1 : decode cX2_foot 1 = .ok (.lstore_n 1, 1) := by decide +kernel
theorem dX2_foot_2 : decode cX2_foot 2 = .ok (.aload_n 0, 1) := by decide +kernel
theorem dX2_foot_3 : decode cX2_foot 3 = .ok (.getfield 15, 3) := by decide +kernel
theorem dX2_foot_6 : decode cX2_foot 6 = .ok (.iconst 4, 1) := by decide +kernel
theorem dX2_foot_7 : decode cX2_foot 7 = .ok (.isub, 1) := by decide +kernel
theorem dX2_foot_8 : decode cX2_foot 8 = .ok (.istore_n 3, 1) := by decide +kernel
theorem dX2_foot_9 : decode cX2_foot 9 = .ok (.iload_n 3, 1) := by decide +kernel
theorem dX2_foot_10 : decode cX2_foot 10 = .ok (.aload_n 0, 1) := by decide +kernel
theorem dX2_foot_11 : decode cX2_foot 11 = .ok (.getfield 15, 3) := by decide +kernel
theorem dX2_foot_14 : decode cX2_foot 14 = .ok (.if_icmp .ge 21, 3) := by decide +kernel
theorem dX2_foot_17 : decode cX2_foot 17 = .ok (.lload_n 1, 1) := by decide +kernel
theorem dX2_foot_18 : decode cX2_foot 18 = .ok (.bipush 8, 2) := by decide +kernel
theorem dX2_foot_20 : decode cX2_foot 20 = .ok (.lshl, 1) := by decide +kernel
theorem dX2_foot_21 : decode cX2_foot 21 = .ok (.aload_n 0, 1) := by decide +kernel
theorem dX2_foot_22 : decode cX2_foot 22 = .ok (.iload_n 3, 1) := by decide +kernel
theorem dX2_foot_23 : decode cX2_foot 23 = .ok (.invokevirtual 29, 3) := by decide +kernel
theorem dX2_foot_26 : decode cX2_foot 26 = .ok (.i2l, 1) := by decide +kernel
theorem dX2_foot_27 : decode cX2_foot 27 = .ok (.ladd, 1) := by decide +kernel
theorem dX2_foot_28 : decode cX2_foot 28 = .ok (.lstore_n 1, 1) := by decide +kernel
theorem dX2_foot_29 : decode cX2_foot 29 = .ok (.iinc 3 1, 3) := by decide +kernel
theorem dX2_foot_32 : decode cX2_foot 32 = .ok (.goto (-23), 3) := by decide +kernel
theorem dX2_foot_35 : decode cX2_foot 35 = .ok (.lload_n 1, 1) := by decide +kernel
theorem dX2_foot_36 : decode cX2_foot 36 = .ok (.lreturn, 1) := by decide +kernel
theorem dX2_hasSum_0 : decode cX2_hasSum 0 = .ok (.aload_n 0, 1) := by decide +kernel
theorem dX2_hasSum_1 : decode cX2_hasSum 1 = .ok (.iload_n 1, 1) := by decide +kernel
theorem dX2_hasSum_2 : decode cX2_hasSum 2 = .ok (.iload_n 2, 1) := by decide +kernel
theorem dX2_hasSum_3 : decode cX2_hasSum 3 = .ok (.invokevirtual 25, 3) := by decide +kernel
theorem dX2_hasSum_6 : decode cX2_hasSum 6 = .ok (.istore_n 3, 1) := by decide +kernel
theorem dX2_hasSum_7 : decode cX2_hasSum 7 = .ok (.iconst 0, 1) := by decide +kernel
theorem dX2_hasSum_8 : decode cX2_hasSum 8 = .ok (.istore 4, 2) := by decide +kernel
theorem dX2_hasSum_10 : decode cX2_hasSum 10 = .ok (.iload 4, 2) := by decide +kernel
theorem dX2_hasSum_12 : decode cX2_hasSum 12 = .ok (.iconst 4, 1) := by decide +kernel
theorem dX2_hasSum_13 : decode cX2_hasSum 13 = .ok (.if_icmp .ge 33, 3) := by decide +kernel
theorem dX2_hasSum_16 : decode cX2_hasSum 16 = .ok (.aload_n 0, 1) := by decide +kernel
theorem dX2_hasSum_17 : decode cX2_hasSum 17 = .ok (.iload_n 2, 1) := by decide +kernel
theorem dX2_hasSum_18 : decode cX2_hasSum 18 = .ok (.iload 4, 2) := by decide +kernel
theorem dX2_hasSum_20 : decode cX2_hasSum 20 = .ok (.iadd, 1) := by decide +kernel
theorem dX2_hasSum_21 : decode cX2_hasSum 21 = .ok (.invokevirtual 29, 3) := by decide +kernel
theorem dX2_hasSum_24 : decode cX2_hasSum 24 = .ok (.iload_n 3, 1) := by decide +kernel
theorem dX2_hasSum_25 : decode cX2_hasSum 25 = .ok (.bipush 8, 2) := by decide +kernel
theorem dX2_hasSum_27 : decode cX2_hasSum 27 = .ok (.iload 4, 2) := by decide +kernel
theorem dX2_hasSum_29 : decode cX2_hasSum 29 = .ok (.imul, 1) := by decide +kernel
theorem dX2_hasSum_30 : decode cX2_hasSum 30 = .ok (.iushr, 1) := by decide +kernel
theorem dX2_hasSum_31 : decode cX2_hasSum 31 = .ok (.sipush 255, 3) := by decide +kernel
theorem dX2_hasSum_34 : decode cX2_hasSum 34 = .ok (.iand, 1) := by decide +kernel
theorem dX2_hasSum_35 : decode cX2_hasSum 35 = .ok (.if_icmp .eq 5, 3) := by decide +kernel
theorem dX2_hasSum_38 : decode cX2_hasSum 38 = .ok (.iconst 0, 1) := by decide +kernel
theorem dX2_hasSum_39 : decode cX2_hasSum 39 = .ok (.ireturn, 1) := by decide +kernel
theorem dX2_hasSum_40 : decode cX2_hasSum 40 = .ok (.iinc 4 1, 3) := by decide +kernel
theorem dX2_hasSum_43 : decode cX2_hasSum 43 = .ok (.goto (-33), 3) := by decide +kernel
theorem dX2_hasSum_46 : decode cX2_hasSum 46 = .ok (.iconst 1, 1) := by decide +kernel
theorem dX2_hasSum_47 : decode cX2_hasSum 47 = .ok (.ireturn, 1) := by decide +kernel
theorem dX2_sumOf_0 : decode cX2_sumOf 0 = .ok (.iconst (-1), 1) := by decide +kernel
theorem dX2_sumOf_1 : decode cX2_sumOf 1 = .ok (.istore_n 3, 1) := by decide +kernel
theorem dX2_sumOf_2 : decode cX2_sumOf 2 = .ok (.iload_n 1, 1) := by decide +kernel
theorem dX2_sumOf_3 : decode cX2_sumOf 3 = .ok (.istore 4, 2) := by decide +kernel
theorem dX2_sumOf_5 : decode cX2_sumOf 5 = .ok (.iload 4, 2) := by decide +kernel
theorem dX2_sumOf_7 : decode cX2_sumOf 7 = .ok (.iload_n 2, 1) := by decide +kernel
theorem dX2_sumOf_8 : decode cX2_sumOf 8 = .ok (.if_icmp .ge 44, 3) := by decide +kernel
theorem dX2_sumOf_11 : decode cX2_sumOf 11 = .ok (.iload_n 3, 1) := by decide +kernel
theorem dX2_sumOf_12 : decode cX2_sumOf 12 = .ok (.aload_n 0, 1) := by decide +kernel
theorem dX2_sumOf_13 : decode cX2_sumOf 13 = .ok (.iload 4, 2) := by decide +kernel
theorem dX2_sumOf_15 : decode cX2_sumOf 15 = .ok (.invokevirtual 29, 3) := by decide +kernel
theorem dX2_sumOf_18 : decode cX2_sumOf 18 = .ok (.ixor, 1) := by decide +kernel
theorem dX2_sumOf_19 : decode cX2_sumOf 19 = .ok (.istore_n 3, 1) := by decide +kernel
theorem dX2_sumOf_20 : decode cX2_sumOf 20 = .ok (.iload_n 3, 1) := by decide +kernel
theorem dX2_sumOf_21 : decode cX2_sumOf 21 = .ok (.iconst 4, 1) := by decide +kernel
theorem dX2_sumOf_22 : decode cX2_sumOf 22 = .ok (.iushr, 1) := by decide +kernel
theorem dX2_sumOf_23 : decode cX2_sumOf 23 = .ok (.getstatic 33, 3) := by decide +kernel
theorem dX2_sumOf_26 : decode cX2_sumOf 26 = .ok (.iload_n 3, 1) := by decide +kernel
theorem dX2_sumOf_27 : decode cX2_sumOf 27 = .ok (.bipush 15, 2) := by decide +kernel
theorem dX2_sumOf_29 : decode cX2_sumOf 29 = .ok (.iand, 1) := by decide +kernel
theorem dX2_sumOf_30 : decode cX2_sumOf 30 = .ok (.iaload, 1) := by decide +kernel
theorem dX2_sumOf_31 : decode cX2_sumOf 31 = .ok (.ixor, 1) := by decide +kernel
theorem dX2_sumOf_32 : decode cX2_sumOf 32 = .ok (.istore_n 3, 1) := by decide +kernel
theorem dX2_sumOf_33 : decode cX2_sumOf 33 = .ok (.iload_n 3, 1) := by decide +kernel
theorem dX2_sumOf_34 : decode cX2_sumOf 34 = .ok (.iconst 4, 1) := by decide +kernel
theorem dX2_sumOf_35 : decode cX2_sumOf 35 = .ok (.iushr, 1) := by decide +kernel
theorem dX2_sumOf_36 : decode cX2_sumOf 36 = .ok (.getstatic 33, 3) := by decide +kernel
theorem dX2_sumOf_39 : decode cX2_sumOf 39 = .ok (.iload_n 3, 1) := by decide +kernel
theorem dX2_sumOf_40 : decode cX2_sumOf 40 = .ok (.bipush 15, 2) := by decide +kernel
theorem dX2_sumOf_42 : decode cX2_sumOf 42 = .ok (.iand, 1) := by decide +kernel
theorem dX2_sumOf_43 : decode cX2_sumOf 43 = .ok (.iaload, 1) := by decide +kernel
theorem dX2_sumOf_44 : decode cX2_sumOf 44 = .ok (.ixor, 1) := by decide +kernel
theorem dX2_sumOf_45 : decode cX2_sumOf 45 = .ok (.istore_n 3, 1) := by decide +kernel
theorem dX2_sumOf_46 : decode cX2_sumOf 46 = .ok (.iinc 4 1, 3) := by decide +kernel
theorem dX2_sumOf_49 : decode cX2_sumOf 49 = .ok (.goto (-44), 3) := by decide +kernel
theorem dX2_sumOf_52 : decode cX2_sumOf 52 = .ok (.iload_n 3, 1) := by decide +kernel
theorem dX2_sumOf_53 : decode cX2_sumOf 53 = .ok (.iconst (-1), 1) := by decide +kernel
theorem dX2_sumOf_54 : decode cX2_sumOf 54 = .ok (.ixor, 1) := by decide +kernel
theorem dX2_sumOf_55 : decode cX2_sumOf 55 = .ok (.ireturn, 1) := by decide +kernel
theorem dX2_startReading_0 : decode cX2_startReading 0 = .ok (.aload_n 0, 1) := by decide +kernel
theorem dX2_startReading_1 : decode cX2_startReading 1 = .ok (.iload_n 1, 1) := by decide +kernel
theorem dX2_startReading_2 : decode cX2_startReading 2 = .ok (.putfield 37, 3) := by decide +kernel
theorem dX2_startReading_5 : decode cX2_startReading 5 = .ok (.aload_n 0, 1) := by decide +kernel
theorem dX2_startReading_6 : decode cX2_startReading 6 = .ok (.iload_n 2, 1) := by decide +kernel
theorem dX2_startReading_7 : decode cX2_startReading 7 = .ok (.putfield 40, 3) := by decide +kernel
theorem dX2_startReading_10 : decode cX2_startReading 10 = .ok (.aload_n 0, 1) := by decide +kernel
theorem dX2_startReading_11 : decode cX2_startReading 11 = .ok (.iconst 1, 1) := by decide +kernel
theorem dX2_startReading_12 : decode cX2_startReading 12 = .ok (.putfield 43, 3) := by decide +kernel
theorem dX2_startReading_15 : decode cX2_startReading 15 = .ok (.return_, 1) := by decide +kernel
theorem dX2_isReadToEnd_0 : decode cX2_isReadToEnd 0 = .ok (.aload_n 0, 1) := by decide +kernel
theorem dX2_isReadToEnd_1 : decode cX2_isReadToEnd 1 = .ok (.getfield 37, 3) := by decide +kernel
theorem dX2_isReadToEnd_4 : decode cX2_isReadToEnd 4 = .ok (.aload_n 0, 1) := by decide +kernel
theorem dX2_isReadToEnd_5 : decode cX2_isReadToEnd 5 = .ok (.getfield 40, 3) := by decide +kernel
theorem dX2_isReadToEnd_8 : decode cX2_isReadToEnd 8 = .ok (.if_icmp .lt 7, 3) := by decide +kernel
theorem dX2_isReadToEnd_11 : decode cX2_isReadToEnd 11 = .ok (.iconst 1, 1) := by decide +kernel
theorem dX2_isReadToEnd_12 : decode cX2_isReadToEnd 12 = .ok (.goto 4, 3) := by decide +kernel
theorem dX2_isReadToEnd_15 : decode cX2_isReadToEnd 15 = .ok (.iconst 0, 1) := by decide +kernel
theorem dX2_isReadToEnd_16 : decode cX2_isReadToEnd 16 = .ok (.ireturn, 1) := by decide +kernel
theorem dX2_takeNumber_0 : decode cX2_takeNumber 0 = .ok (.lconst 0, 1) := by decide +kernel
theorem dX2_takeNumber_1 : decode cX2_takeNumber 1 = .ok (.lstore_n 1, 1) := by decide +kernel
theorem dX2_takeNumber_2 : decode cX2_takeNumber 2 = .ok (.iconst 0, 1) := by decide +kernel
theorem dX2_takeNumber_3 : decode cX2_takeNumber 3 = .ok (.istore_n 3, 1) := by decide +kernel
theorem dX2_takeNumber_4 : decode cX2_takeNumber 4 = .ok (.iload_n 3, 1) := by decide +kernel
end
section
/-! decode rows -/
theorem dX2_takeNumber_5 : decode cX2_takeNumber 5 = .ok (.bipush 10, 2) := by decide +kernel
theorem dX2_takeNumber_7 : decode cX2_takeNumber 7 = .ok (.if_icmp .ge 79, 3) := by decide +kernel
theorem dX2_takeNumber_10 : decode cX2_takeNumber 10 = .ok (.aload_n 0, 1) := by decide +kernel
theorem dX2_takeNumber_11 : decode cX2_takeNumber 11 = .ok (.getfield 37, 3) := by decide +kernel
theorem dX2_takeNumber_14 : decode cX2_takeNumber 14 = .ok (.aload_n 0, 1) := by decide +kernel
theorem dX2_takeNumber_15 : decode cX2_takeNumber 15 = .ok (.getfield 40, 3) := by decide +kernel
theorem dX2_takeNumber_18 : decode cX2_takeNumber 18 = .ok (.if_icmp .ge 68, 3) := by decide +kernel
theorem dX2_takeNumber_21 : decode cX2_takeNumber 21 = .ok (.aload_n 0, 1) := by decide +kernel
theorem dX2_takeNumber_22 : decode cX2_takeNumber 22 = .ok (.aload_n 0, 1) := by decide +kernel
theorem dX2_takeNumber_23 : decode cX2_takeNumber 23 = .ok (.getfield 37, 3) := by decide +kernel
theorem dX2_takeNumber_26 : decode cX2_takeNumber 26 = .ok (.invokevirtual 29, 3) := by decide +kernel
theorem dX2_takeNumber_29 : decode cX2_takeNumber 29 = .ok (.istore 4, 2) := by decide +kernel
theorem dX2_takeNumber_31 : decode cX2_takeNumber 31 = .ok (.aload_n 0, 1) := by decide +kernel
theorem dX2_takeNumber_32 : decode cX2_takeNumber 32 = .ok (.dup, 1) := by decide +kernel
theorem dX2_takeNumber_33 : decode cX2_takeNumber 33 = .ok (.getfield 37, 3) := by decide +kernel
theorem dX2_takeNumber_36 : decode cX2_takeNumber 36 = .ok (.iconst 1, 1) := by decide +kernel
theorem dX2_takeNumber_37 : decode cX2_takeNumber 37 = .ok (.iadd, 1) := by decide +kernel
theorem dX2_takeNumber_38 : decode cX2_takeNumber 38 = .ok (.putfield 37, 3) := by decide +kernel
theorem dX2_takeNumber_41 : decode cX2_takeNumber 41 = .ok (.iload_n 3, 1) := by decide +kernel
theorem dX2_takeNumber_42 : decode cX2_takeNumber 42 = .ok (.bipush 9, 2) := by decide +kernel
theorem dX2_takeNumber_44 : decode cX2_takeNumber 44 = .ok (.if_icmp .ne 12, 3) := by decide +kernel
theorem dX2_takeNumber_47 : decode cX2_takeNumber 47 = .ok (.iload 4, 2) := by decide +kernel
theorem dX2_takeNumber_49 : decode cX2_takeNumber 49 = .ok (.iconst 1, 1) := by decide +kernel
theorem dX2_takeNumber_50 : decode cX2_takeNumber 50 = .ok (.if_icmp .le 6, 3) := by decide +kernel
theorem dX2_takeNumber_53 : decode cX2_takeNumber 53 = .ok (.goto 33, 3) := by decide +kernel
theorem dX2_takeNumber_56 : decode cX2_takeNumber 56 = .ok (.lload_n 1, 1) := by decide +kernel
theorem dX2_takeNumber_57 : decode cX2_takeNumber 57 = .ok (.iload 4, 2) := by decide +kernel
theorem dX2_takeNumber_59 : decode cX2_takeNumber 59 = .ok (.bipush 127, 2) := by decide +kernel
theorem dX2_takeNumber_61 : decode cX2_takeNumber 61 = .ok (.iand, 1) := by decide +kernel
theorem dX2_takeNumber_62 : decode cX2_takeNumber 62 = .ok (.i2l, 1) := by decide +kernel
theorem dX2_takeNumber_63 : decode cX2_takeNumber 63 = .ok (.bipush 7, 2) := by decide +kernel
theorem dX2_takeNumber_65 : decode cX2_takeNumber 65 = .ok (.iload_n 3, 1) := by decide +kernel
theorem dX2_takeNumber_66 : decode cX2_takeNumber 66 = .ok (.imul, 1) := by decide +kernel
theorem dX2_takeNumber_67 : decode cX2_takeNumber 67 = .ok (.lshl, 1) := by decide +kernel
theorem dX2_takeNumber_68 : decode cX2_takeNumber 68 = .ok (.ladd, 1) := by decide +kernel
theorem dX2_takeNumber_69 : decode cX2_takeNumber 69 = .ok (.lstore_n 1, 1) := by decide +kernel
theorem dX2_takeNumber_70 : decode cX2_takeNumber 70 = .ok (.iload 4, 2) := by decide +kernel
theorem dX2_takeNumber_72 : decode cX2_takeNumber 72 = .ok (.sipush 128, 3) := by decide +kernel
theorem dX2_takeNumber_75 : decode cX2_takeNumber 75 = .ok (.if_icmp .ge 5, 3) := by decide +kernel
theorem dX2_takeNumber_78 : decode cX2_takeNumber 78 = .ok (.lload_n 1, 1) := by decide +kernel
theorem dX2_takeNumber_79 : decode cX2_takeNumber 79 = .ok (.lreturn, 1) := by decide +kernel
theorem dX2_takeNumber_80 : decode cX2_takeNumber 80 = .ok (.iinc 3 1, 3) := by decide +kernel
theorem dX2_takeNumber_83 : decode cX2_takeNumber 83 = .ok (.goto (-79), 3) := by decide +kernel
theorem dX2_takeNumber_86 : decode cX2_takeNumber 86 = .ok (.aload_n 0, 1) := by decide +kernel
theorem dX2_takeNumber_87 : decode cX2_takeNumber 87 = .ok (.iconst 0, 1) := by decide +kernel
theorem dX2_takeNumber_88 : decode cX2_takeNumber 88 = .ok (.putfield 43, 3) := by decide +kernel
theorem dX2_takeNumber_91 : decode cX2_takeNumber 91 = .ok (.lconst 0, 1) := by decide +kernel
theorem dX2_takeNumber_92 : decode cX2_takeNumber 92 = .ok (.lreturn, 1) := by decide +kernel
theorem dX3_init_0 : decode cX3_init 0 = .ok (.aload_n 0, 1) := by decide +kernel
theorem dX3_init_1 : decode cX3_init 1 = .ok (.invokespecial 3, 3) := by decide +kernel
theorem dX3_init_4 : decode cX3_init 4 = .ok (.aload_n 0, 1) := by decide +kernel
theorem dX3_init_5 : decode cX3_init 5 = .ok (.sipush 300, 3) := by decide +kernel
theorem dX3_init_8 : decode cX3_init 8 = .ok (.newarray .int, 2) := by decide +kernel
theorem dX3_init_10 : decode cX3_init 10 = .ok (.putfield 9, 3) := by decide +kernel
theorem dX3_init_13 : decode cX3_init 13 = .ok (.aload_n 0, 1) := by decide +kernel
theorem dX3_init_14 : decode cX3_init 14 = .ok (.sipush 300, 3) := by decide +kernel
theorem dX3_init_17 : decode cX3_init 17 = .ok (.newarray .long, 2) := by decide +kernel
theorem dX3_init_19 : decode cX3_init 19 = .ok (.putfield 13, 3) := by decide +kernel
theorem dX3_init_22 : decode cX3_init 22 = .ok (.aload_n 0, 1) := by decide +kernel
theorem dX3_init_23 : decode cX3_init 23 = .ok (.bipush 38, 2) := by decide +kernel
theorem dX3_init_25 : decode cX3_init 25 = .ok (.newarray .int, 2) := by decide +kernel
theorem dX3_init_27 : decode cX3_init 27 = .ok (.putfield 17, 3) := by decide +kernel
theorem dX3_init_30 : decode cX3_init 30 = .ok (.aload_n 0, 1) := by decide +kernel
theorem dX3_init_31 : decode cX3_init 31 = .ok (.new 20, 3) := by decide +kernel
theorem dX3_init_34 : decode cX3_init 34 = .ok (.dup, 1) := by decide +kernel
theorem dX3_init_35 : decode cX3_init 35 = .ok (.invokespecial 22, 3) := by decide +kernel
theorem dX3_init_38 : decode cX3_init 38 = .ok (.putfield 23, 3) := by decide +kernel
theorem dX3_init_41 : decode cX3_init 41 = .ok (.aload_n 0, 1) := by decide +kernel
theorem dX3_init_42 : decode cX3_init 42 = .ok (.new 27, 3) := by decide +kernel
theorem dX3_init_45 : decode cX3_init 45 = .ok (.dup, 1) := by decide +kernel
theorem dX3_init_46 : decode cX3_init 46 = .ok (.invokespecial 29, 3) := by decide +kernel
theorem dX3_init_49 : decode cX3_init 49 = .ok (.putfield 30, 3) := by decide +kernel
theorem dX3_init_52 : decode cX3_init 52 = .ok (.aload_n 0, 1) := by decide +kernel
theorem dX3_init_53 : decode cX3_init 53 = .ok (.new 34, 3) := by decide +kernel
theorem dX3_init_56 : decode cX3_init 56 = .ok (.dup, 1) := by decide +kernel
theorem dX3_init_57 : decode cX3_init 57 = .ok (.invokespecial 36, 3) := by decide +kernel
theorem dX3_init_60 : decode cX3_init 60 = .ok (.putfield 37, 3) := by decide +kernel
theorem dX3_init_63 : decode cX3_init 63 = .ok (.aload_n 0, 1) := by decide +kernel
theorem dX3_init_64 : decode cX3_init 64 = .ok (.invokevirtual 41, 3) := by decide +kernel
theorem dX3_init_67 : decode cX3_init 67 = .ok (.return_, 1) := by decide +kernel
theorem dX3_add_0 : decode cX3_add 0 = .ok (.aload_n 0, 1) := by decide +kernel
theorem dX3_add_1 : decode cX3_add 1 = .ok (.getfield 44, 3) := by decide +kernel
theorem dX3_add_4 : decode cX3_add 4 = .ok (.sipush 300, 3) := by decide +kernel
theorem dX3_add_7 : decode cX3_add 7 = .ok (.if_icmp .lt 13, 3) := by decide +kernel
theorem dX3_add_10 : decode cX3_add 10 = .ok (.new 48, 3) := by decide +kernel
theorem dX3_add_13 : decode cX3_add 13 = .ok (.dup, 1) := by decide +kernel
theorem dX3_add_14 : decode cX3_add 14 = .ok (.ldc 50, 2) := by decide +kernel
theorem dX3_add_16 : decode cX3_add 16 = .ok (.invokespecial 52, 3) := by decide +kernel
theorem dX3_add_19 : decode cX3_add 19 = .ok (.athrow, 1) := by decide +kernel
theorem dX3_add_20 : decode cX3_add 20 = .ok (.aload_n 0, 1) := by decide +kernel
theorem dX3_add_21 : decode cX3_add 21 = .ok (.getfield 44, 3) := by decide +kernel
theorem dX3_add_24 : decode cX3_add 24 = .ok (.ifCond .le 28, 3) := by decide +kernel
theorem dX3_add_27 : decode cX3_add 27 = .ok (.iload_n 1, 1) := by decide +kernel
theorem dX3_add_28 : decode cX3_add 28 = .ok (.aload_n 0, 1) := by decide +kernel
theorem dX3_add_29 : decode cX3_add 29 = .ok (.getfield 9, 3) := by decide +kernel
theorem dX3_add_32 : decode cX3_add 32 = .ok (.aload_n 0, 1) := by decide +kernel
theorem dX3_add_33 : decode cX3_add 33 = .ok (.getfield 44, 3) := by decide +kernel
theorem dX3_add_36 : decode cX3_add 36 = .ok (.iconst 1, 1) := by decide +kernel
theorem dX3_add_37 : decode cX3_add 37 = .ok (.isub, 1) := by decide +kernel
theorem dX3_add_38 : decode cX3_add 38 = .ok (.iaload, 1) := by decide +kernel
theorem dX3_add_39 : decode cX3_add 39 = .ok (.if_icmp .gt 13, 3) := by decide +kernel
theorem dX3_add_42 : decode cX3_add 42 = .ok (.new 55, 3) := by decide +kernel
theorem dX3_add_45 : decode cX3_add 45 = .ok (.dup, 1) := by decide +kernel
theorem dX3_add_46 : decode cX3_add 46 = .ok (.ldc 57, 2) := by decide +kernel
theorem dX3_add_48 : decode cX3_add 48 = .ok (.invokespecial 59, 3) := by decide +kernel
theorem dX3_add_51 : decode cX3_add 51 = .ok (.athrow, 1) := by decide +kernel
theorem dX3_add_52 : decode cX3_add 52 = .ok (.aload_n 0, 1) := by decide +kernel
theorem dX3_add_53 : decode cX3_add 53 = .ok (.getfield 9, 3) := by decide +kernel
theorem dX3_add_56 : decode cX3_add 56 = .ok (.aload_n 0, 1) := by decide +kernel
theorem dX3_add_57 : decode cX3_add 57 = .ok (.getfield 44, 3) := by decide +kernel
theorem dX3_add_60 : decode cX3_add 60 = .ok (.iload_n 1, 1) := by decide +kernel
theorem dX3_add_61 : decode cX3_add 61 = .ok (.iastore, 1) := by decide +kernel
theorem dX3_add_62 : decode cX3_add 62 = .ok (.aload_n 0, 1) := by decide +kernel
theorem dX3_add_63 : decode cX3_add 63 = .ok (.getfield 13, 3) := by decide +kernel
theorem dX3_add_66 : decode cX3_add 66 = .ok (.aload_n 0, 1) := by decide +kernel
theorem dX3_add_67 : decode cX3_add 67 = .ok (.getfield 44, 3) := by decide +kernel
theorem dX3_add_70 : decode cX3_add 70 = .ok (.lload_n 2, 1) := by decide +kernel
theorem dX3_add_71 : decode cX3_add 71 = .ok (.lastore, 1) := by decide +kernel
theorem dX3_add_72 : decode cX3_add 72 = .ok (.aload_n 0, 1) := by decide +kernel
theorem dX3_add_73 : decode cX3_add 73 = .ok (.dup, 1) := by decide +kernel
theorem dX3_add_74 : decode cX3_add 74 = .ok (.getfield 44, 3) := by decide +kernel
theorem dX3_add_77 : decode cX3_add 77 = .ok (.iconst 1, 1) := by decide +kernel
theorem dX3_add_78 : decode cX3_add 78 = .ok (.iadd, 1) := by decide +kernel
theorem dX3_add_79 : decode cX3_add 79 = .ok (.putfield 44, 3) := by decide +kernel
theorem dX3_add_82 : decode cX3_add 82 = .ok (.aload_n 0, 1) := by decide +kernel
theorem dX3_add_83 : decode cX3_add 83 = .ok (.getfield 44, 3) := by decide +kernel
theorem dX3_add_86 : decode cX3_add 86 = .ok (.ireturn, 1) := by decide +kernel
theorem dX3_write_0 : decode cX3_write 0 = .ok (.aload_n 0, 1) := by decide +kernel
theorem dX3_write_1 : decode cX3_write 1 = .ok (.invokevirtual 41, 3) := by decide +kernel
theorem dX3_write_4 : decode cX3_write 4 = .ok (.aload_n 0, 1) := by decide +kernel
theorem dX3_write_5 : decode cX3_write 5 = .ok (.getfield 23, 3) := by decide +kernel
theorem dX3_write_8 : decode cX3_write 8 = .ok (.getfield 60, 3) := by decide +kernel
theorem dX3_write_11 : decode cX3_write 11 = .ok (.ireturn, 1) := by decide +kernel
theorem dX3_at_0 : decode cX3_at 0 = .ok (.aload_n 0, 1) := by decide +kernel
theorem dX3_at_1 : decode cX3_at 1 = .ok (.iload_n 1, 1) := by decide +kernel
theorem dX3_at_2 : decode cX3_at 2 = .ok (.invokevirtual 63, 3) := by decide +kernel
theorem dX3_at_5 : decode cX3_at 5 = .ok (.aload_n 0, 1) := by decide +kernel
theorem dX3_at_6 : decode cX3_at 6 = .ok (.getfield 23, 3) := by decide +kernel
theorem dX3_at_9 : decode cX3_at 9 = .ok (.iload_n 1, 1) := by decide +kernel
theorem dX3_at_10 : decode cX3_at 10 = .ok (.invokevirtual 67, 3) := by decide +kernel
theorem dX3_at_13 : decode cX3_at 13 = .ok (.ireturn, 1) := by decide +kernel
theorem dX3_damage_0 : decode cX3_damage 0 = .ok (.aload_n 0, 1) := by decide +kernel
theorem dX3_damage_1 : decode cX3_damage 1 = .ok (.iload_n 1, 1) := by decide +kernel
theorem dX3_damage_2 : decode cX3_damage 2 = .ok (.invokevirtual 63, 3) := by decide +kernel
theorem dX3_damage_5 : decode cX3_damage 5 = .ok (.aload_n 0, 1) := by decide +kernel
theorem dX3_damage_6 : decode cX3_damage 6 = .ok (.getfield 23, 3) := by decide +kernel
theorem dX3_damage_9 : decode cX3_damage 9 = .ok (.iload_n 1, 1) := by decide +kernel
theorem dX3_damage_10 : decode cX3_damage 10 = .ok (.invokevirtual 67, 3) := by decide +kernel
theorem dX3_damage_13 : decode cX3_damage 13 = .ok (.istore_n 3, 1) := by decide +kernel
theorem dX3_damage_14 : decode cX3_damage 14 = .ok (.aload_n 0, 1) := by decide +kernel
theorem dX3_damage_15 : decode cX3_damage 15 = .ok (.getfield 23, 3) := by decide +kernel
theorem dX3_damage_18 : decode cX3_damage 18 = .ok (.getfield 71, 3) := by decide +kernel
theorem dX3_damage_21 : decode cX3_damage 21 = .ok (.iload_n 1, 1) := by decide +kernel
theorem dX3_damage_22 : decode cX3_damage 22 = .ok (.iload_n 2, 1) := by decide +kernel
theorem dX3_damage_23 : decode cX3_damage 23 = .ok (.i2b, 1) := by decide +kernel
theorem dX3_damage_24 : decode cX3_damage 24 = .ok (.bastore, 1) := by decide +kernel
theorem dX3_damage_25 : decode cX3_damage 25 = .ok (.aload_n 0, 1) := by decide +kernel
theorem dX3_damage_26 : decode cX3_damage 26 = .ok (.iconst 0, 1) := by decide +kernel
theorem dX3_damage_27 : decode cX3_damage 27 = .ok (.putfield 75, 3) := by decide +kernel
theorem dX3_damage_30 : decode cX3_damage 30 = .ok (.iload_n 3, 1) := by decide +kernel
theorem dX3_damage_31 : decode cX3_damage 31 = .ok (.ireturn, 1) := by decide +kernel
theorem dX3_cut_0 : decode cX3_cut 0 = .ok (.iload_n 1, 1) := by decide +kernel
theorem dX3_cut_1 : decode cX3_cut 1 = .ok (.ifCond .lt 14, 3) := by decide +kernel
theorem dX3_cut_4 : decode cX3_cut 4 = .ok (.iload_n 1, 1) := by decide +kernel
theorem dX3_cut_5 : decode cX3_cut 5 = .ok (.aload_n 0, 1) := by decide +kernel
theorem dX3_cut_6 : decode cX3_cut 6 = .ok (.getfield 23, 3) := by decide +kernel
theorem dX3_cut_9 : decode cX3_cut 9 = .ok (.getfield 60, 3) := by decide +kernel
theorem dX3_cut_12 : decode cX3_cut 12 = .ok (.if_icmp .le 13, 3) := by decide +kernel
theorem dX3_cut_15 : decode cX3_cut 15 = .ok (.new 55, 3) := by decide +kernel
theorem dX3_cut_18 : decode cX3_cut 18 = .ok (.dup, 1) := by decide +kernel
theorem dX3_cut_19 : decode cX3_cut 19 = .ok (.ldc 79, 2) := by decide +kernel
theorem dX3_cut_21 : decode cX3_cut 21 = .ok (.invokespecial 59, 3) := by decide +kernel
theorem dX3_cut_24 : decode cX3_cut 24 = .ok (.athrow, 1) := by decide +kernel
theorem dX3_cut_25 : decode cX3_cut 25 = .ok (.aload_n 0, 1) := by decide +kernel
theorem dX3_cut_26 : decode cX3_cut 26 = .ok (.getfield 23, 3) := by decide +kernel
theorem dX3_cut_29 : decode cX3_cut 29 = .ok (.iload_n 1, 1) := by decide +kernel
theorem dX3_cut_30 : decode cX3_cut 30 = .ok (.putfield 60, 3) := by decide +kernel
theorem dX3_cut_33 : decode cX3_cut 33 = .ok (.aload_n 0, 1) := by decide +kernel
theorem dX3_cut_34 : decode cX3_cut 34 = .ok (.iconst 0, 1) := by decide +kernel
theorem dX3_cut_35 : decode cX3_cut 35 = .ok (.putfield 75, 3) := by decide +kernel
theorem dX3_cut_38 : decode cX3_cut 38 = .ok (.return_, 1) := by decide +kernel
theorem dX3_open_0 : decode cX3_open 0 = .ok (.aload_n 0, 1) := by decide +kernel
theorem dX3_open_1 : decode cX3_open 1 = .ok (.aload_n 0, 1) := by decide +kernel
theorem dX3_open_2 : decode cX3_open 2 = .ok (.getfield 30, 3) := by decide +kernel
theorem dX3_open_5 : decode cX3_open 5 = .ok (.aload_n 0, 1) := by decide +kernel
theorem dX3_open_6 : decode cX3_open 6 = .ok (.getfield 23, 3) := by decide +kernel
theorem dX3_open_9 : decode cX3_open 9 = .ok (.invokevirtual 81, 3) := by decide +kernel
theorem dX3_open_12 : decode cX3_open 12 = .ok (.putfield 75, 3) := by decide +kernel
theorem dX3_open_15 : decode cX3_open 15 = .ok (.aload_n 0, 1) := by decide +kernel
theorem dX3_open_16 : decode cX3_open 16 = .ok (.getfield 75, 3) := by decide +kernel
theorem dX3_open_19 : decode cX3_open 19 = .ok (.ifCond .ne 13, 3) := by decide +kernel
theorem dX3_open_22 : decode cX3_open 22 = .ok (.new 85, 3) := by decide +kernel
theorem dX3_open_25 : decode cX3_open 25 = .ok (.dup, 1) := by decide +kernel
theorem dX3_open_26 : decode cX3_open 26 = .ok (.ldc 87, 2) := by decide +kernel
theorem dX3_open_28 : decode cX3_open 28 = .ok (.invokespecial 89, 3) := by decide +kernel
theorem dX3_open_31 : decode cX3_open 31 = .ok (.athrow, 1) := by decide +kernel
theorem dX3_open_32 : decode cX3_open 32 = .ok (.aload_n 0, 1) := by decide +kernel
theorem dX3_open_33 : decode cX3_open 33 = .ok (.getfield 30, 3) := by decide +kernel
theorem dX3_open_36 : decode cX3_open 36 = .ok (.getfield 90, 3) := by decide +kernel
theorem dX3_open_39 : decode cX3_open 39 = .ok (.ireturn, 1) := by decide +kernel
theorem dX3_get_0 : decode cX3_get 0 = .ok (.aload_n 0, 1) := by decide +kernel
theorem dX3_get_1 : decode cX3_get 1 = .ok (.invokevirtual 93, 3) := by decide +kernel
theorem dX3_get_4 : decode cX3_get 4 = .ok (.aload_n 0, 1) := by decide +kernel
theorem dX3_get_5 : decode cX3_get 5 = .ok (.getfield 30, 3) := by decide +kernel
theorem dX3_get_8 : decode cX3_get 8 = .ok (.iload_n 1, 1) := by decide +kernel
theorem dX3_get_9 : decode cX3_get 9 = .ok (.invokevirtual 96, 3) := by decide +kernel
theorem dX3_get_12 : decode cX3_get 12 = .ok (.istore_n 2, 1) := by decide +kernel
theorem dX3_get_13 : decode cX3_get 13 = .ok (.iload_n 2, 1) := by decide +kernel
theorem dX3_get_14 : decode cX3_get 14 = .ok (.iconst (-1), 1) := by decide +kernel
theorem dX3_get_15 : decode cX3_get 15 = .ok (.if_icmp .ne 13, 3) := by decide +kernel
theorem dX3_get_18 : decode cX3_get 18 = .ok (.new 99, 3) := by decide +kernel
theorem dX3_get_21 : decode cX3_get 21 = .ok (.dup, 1) := by decide +kernel
theorem dX3_get_22 : decode cX3_get 22 = .ok (.ldc 101, 2) := by decide +kernel
theorem dX3_get_24 : decode cX3_get 24 = .ok (.invokespecial 103, 3) := by decide +kernel
theorem dX3_get_27 : decode cX3_get 27 = .ok (.athrow, 1) := by decide +kernel
theorem dX3_get_28 : decode cX3_get 28 = .ok (.aload_n 0, 1) := by decide +kernel
theorem dX3_get_29 : decode cX3_get 29 = .ok (.iload_n 2, 1) := by decide +kernel
theorem dX3_get_30 : decode cX3_get 30 = .ok (.invokevirtual 104, 3) := by decide +kernel
theorem dX3_get_33 : decode cX3_get 33 = .ok (.istore_n 3, 1) := by decide +kernel
theorem dX3_get_34 : decode cX3_get 34 = .ok (.aload_n 0, 1) := by decide +kernel
theorem dX3_get_35 : decode cX3_get 35 = .ok (.iload_n 2, 1) := by decide +kernel
theorem dX3_get_36 : decode cX3_get 36 = .ok (.invokevirtual 107, 3) := by decide +kernel
theorem dX3_get_39 : decode cX3_get 39 = .ok (.iconst 0, 1) := by decide +kernel
theorem dX3_get_40 : decode cX3_get 40 = .ok (.istore 4, 2) := by decide +kernel
theorem dX3_get_42 : decode cX3_get 42 = .ok (.iload 4, 2) := by decide +kernel
theorem dX3_get_44 : decode cX3_get 44 = .ok (.iload_n 3, 1) := by decide +kernel
theorem dX3_get_45 : decode cX3_get 45 = .ok (.if_icmp .ge 39, 3) := by decide +kernel
theorem dX3_get_48 : decode cX3_get 48 = .ok (.aload_n 0, 1) := by decide +kernel
theorem dX3_get_49 : decode cX3_get 49 = .ok (.getfield 37, 3) := by decide +kernel
theorem dX3_get_52 : decode cX3_get 52 = .ok (.aload_n 0, 1) := by decide +kernel
theorem dX3_get_53 : decode cX3_get 53 = .ok (.getfield 23, 3) := by decide +kernel
theorem dX3_get_56 : decode cX3_get 56 = .ok (.invokevirtual 110, 3) := by decide +kernel
theorem dX3_get_59 : decode cX3_get 59 = .ok (.aload_n 0, 1) := by decide +kernel
theorem dX3_get_60 : decode cX3_get 60 = .ok (.getfield 37, 3) := by decide +kernel
theorem dX3_get_63 : decode cX3_get 63 = .ok (.getfield 114, 3) := by decide +kernel
theorem dX3_get_66 : decode cX3_get 66 = .ok (.iload_n 1, 1) := by decide +kernel
theorem dX3_get_67 : decode cX3_get 67 = .ok (.if_icmp .ne 11, 3) := by decide +kernel
theorem dX3_get_70 : decode cX3_get 70 = .ok (.aload_n 0, 1) := by decide +kernel
theorem dX3_get_71 : decode cX3_get 71 = .ok (.getfield 37, 3) := by decide +kernel
theorem dX3_get_74 : decode cX3_get 74 = .ok (.getfield 117, 3) := by decide +kernel
theorem dX3_get_77 : decode cX3_get 77 = .ok (.lreturn, 1) := by decide +kernel
theorem dX3_get_78 : decode cX3_get 78 = .ok (.iinc 4 1, 3) := by decide +kernel
theorem dX3_get_81 : decode cX3_get 81 = .ok (.goto (-39), 3) := by decide +kernel
theorem dX3_get_84 : decode cX3_get 84 = .ok (.new 99, 3) := by decide +kernel
theorem dX3_get_87 : decode cX3_get 87 = .ok (.dup, 1) := by decide +kernel
theorem dX3_get_88 : decode cX3_get 88 = .ok (.ldc 121, 2) := by decide +kernel
theorem dX3_get_90 : decode cX3_get 90 = .ok (.invokespecial 103, 3) := by decide +kernel
theorem dX3_get_93 : decode cX3_get 93 = .ok (.athrow, 1) := by decide +kernel
theorem dX3_entries_0 : decode cX3_entries 0 = .ok (.aload_n 0, 1) := by decide +kernel
theorem dX3_entries_1 : decode cX3_entries 1 = .ok (.invokevirtual 93, 3) := by decide +kernel
theorem dX3_entries_4 : decode cX3_entries 4 = .ok (.aload_n 0, 1) := by decide +kernel
theorem dX3_entries_5 : decode cX3_entries 5 = .ok (.iload_n 1, 1) := by decide +kernel
theorem dX3_entries_6 : decode cX3_entries 6 = .ok (.invokevirtual 123, 3) := by decide +kernel
theorem dX3_entries_9 : decode cX3_entries 9 = .ok (.aload_n 0, 1) := by decide +kernel
theorem dX3_entries_10 : decode cX3_entries 10 = .ok (.iload_n 1, 1) := by decide +kernel
theorem dX3_entries_11 : decode cX3_entries 11 = .ok (.invokevirtual 104, 3) := by decide +kernel
theorem dX3_entries_14 : decode cX3_entries 14 = .ok (.ireturn, 1) := by decide +kernel
theorem dX3_key_0 : decode cX3_key 0 = .ok (.aload_n 0, 1) := by decide +kernel
theorem dX3_key_1 : decode cX3_key 1 = .ok (.invokevirtual 93, 3) := by decide +kernel
theorem dX3_key_4 : decode cX3_key 4 = .ok (.aload_n 0, 1) := by decide +kernel
theorem dX3_key_5 : decode cX3_key 5 = .ok (.iload_n 1, 1) := by decide +kernel
theorem dX3_key_6 : decode cX3_key 6 = .ok (.invokevirtual 123, 3) := by decide +kernel
theorem dX3_key_9 : decode cX3_key 9 = .ok (.aload_n 0, 1) := by decide +kernel
theorem dX3_key_10 : decode cX3_key 10 = .ok (.iload_n 1, 1) := by decide +kernel
theorem dX3_key_11 : decode cX3_key 11 = .ok (.invokevirtual 104, 3) := by decide +kernel
theorem dX3_key_14 : decode cX3_key 14 = .ok (.istore_n 3, 1) := by decide +kernel
theorem dX3_key_15 : decode cX3_key 15 = .ok (.iload_n 2, 1) := by decide +kernel
theorem dX3_key_16 : decode cX3_key 16 = .ok (.ifCond .lt 8, 3) := by decide +kernel
theorem dX3_key_19 : decode cX3_key 19 = .ok (.iload_n 2, 1) := by decide +kernel
theorem dX3_key_20 : decode cX3_key 20 = .ok (.iload_n 3, 1) := by decide +kernel
theorem dX3_key_21 : decode cX3_key 21 = .ok (.if_icmp .lt 13, 3) := by decide +kernel
theorem dX3_key_24 : decode cX3_key 24 = .ok (.new 126, 3) := by decide +kernel
theorem dX3_key_27 : decode cX3_key 27 = .ok (.dup, 1) := by decide +kernel
theorem dX3_key_28 : decode cX3_key 28 = .ok (.ldc 128, 2) := by decide +kernel
theorem dX3_key_30 : decode cX3_key 30 = .ok (.invokespecial 130, 3) := by decide +kernel
theorem dX3_key_33 : decode cX3_key 33 = .ok (.athrow, 1) := by decide +kernel
theorem dX3_key_34 : decode cX3_key 34 = .ok (.aload_n 0, 1) := by decide +kernel
theorem dX3_key_35 : decode cX3_key 35 = .ok (.iload_n 1, 1) := by decide +kernel
theorem dX3_key_36 : decode cX3_key 36 = .ok (.invokevirtual 107, 3) := by decide +kernel
theorem dX3_key_39 : decode cX3_key 39 = .ok (.iconst 0, 1) := by decide +kernel
theorem dX3_key_40 : decode cX3_key 40 = .ok (.istore 4, 2) := by decide +kernel
theorem dX3_key_42 : decode cX3_key 42 = .ok (.iload 4, 2) := by decide +kernel
theorem dX3_key_44 : decode cX3_key 44 = .ok (.iload_n 2, 1) := by decide +kernel
theorem dX3_key_45 : decode cX3_key 45 = .ok (.if_icmp .gt 20, 3) := by decide +kernel
theorem dX3_key_48 : decode cX3_key 48 = .ok (.aload_n 0, 1) := by decide +kernel
theorem dX3_key_49 : decode cX3_key 49 = .ok (.getfield 37, 3) := by decide +kernel
theorem dX3_key_52 : decode cX3_key 52 = .ok (.aload_n 0, 1) := by decide +kernel
theorem dX3_key_53 : decode cX3_key 53 = .ok (.getfield 23, 3) := by decide +kernel
theorem dX3_key_56 : decode cX3_key 56 = .ok (.invokevirtual 110, 3) := by decide +kernel
theorem dX3_key_59 : decode cX3_key 59 = .ok (.iinc 4 1, 3) := by decide +kernel
theorem dX3_key_62 : decode cX3_key 62 = .ok (.goto (-20), 3) := by decide +kernel
theorem dX3_key_65 : decode cX3_key 65 = .ok (.aload_n 0, 1) := by decide +kernel
theorem dX3_key_66 : decode cX3_key 66 = .ok (.getfield 37, 3) := by decide +kernel
theorem dX3_key_69 : decode cX3_key 69 = .ok (.getfield 114, 3) := by decide +kernel
theorem dX3_key_72 : decode cX3_key 72 = .ok (.ireturn, 1) := by decide +kernel
theorem dX3_size_0 : decode cX3_size 0 = .ok (.aload_n 0, 1) := by decide +kernel
theorem dX3_size_1 : decode cX3_size 1 = .ok (.getfield 23, 3) := by decide +kernel
theorem dX3_size_4 : decode cX3_size 4 = .ok (.getfield 60, 3) := by decide +kernel
theorem dX3_size_7 : decode cX3_size 7 = .ok (.ireturn, 1) := by decide +kernel
theorem dX3_requireByte_0 : decode cX3_requireByte 0 = .ok (.iload_n 1, 1) := by decide +kernel
theorem dX3_requireByte_1 : decode cX3_requireByte 1 = .ok (.ifCond .lt 14, 3) := by decide +kernel
theorem dX3_requireByte_4 : decode cX3_requireByte 4 = .ok (.iload_n 1, 1) := by decide +kernel
theorem dX3_requireByte_5 : decode cX3_requireByte 5 = .ok (.aload_n 0, 1) := by decide +kernel
theorem dX3_requireByte_6 : decode cX3_requireByte 6 = .ok (.getfield 23, 3) := by decide +kernel
theorem dX3_requireByte_9 : decode cX3_requireByte 9 = .ok (.getfield 60, 3) := by decide +kernel
theorem dX3_requireByte_12 : decode cX3_requireByte 12 = .ok (.if_icmp .lt 13, 3) := by decide +kernel
theorem dX3_requireByte_15 : decode cX3_requireByte 15 = .ok (.new 126, 3) := by decide +kernel
theorem dX3_requireByte_18 : decode cX3_requireByte 18 = .ok (.dup, 1) := by decide +kernel
theorem dX3_requireByte_19 : decode cX3_requireByte 19 = .ok (.ldc 131, 2) := by decide +kernel
theorem dX3_requireByte_21 : decode cX3_requireByte 21 = .ok (.invokespecial 130, 3) := by decide +kernel
theorem dX3_requireByte_24 : decode cX3_requireByte 24 = .ok (.athrow, 1) := by decide +kernel
theorem dX3_requireByte_25 : decode cX3_requireByte 25 = .ok (.return_, 1) := by decide +kernel
theorem dX3_requireOpen_0 : decode cX3_requireOpen 0 = .ok (.aload_n 0, 1) := by decide +kernel
theorem dX3_requireOpen_1 : decode cX3_requireOpen 1 = .ok (.getfield 75, 3) := by decide +kernel
theorem dX3_requireOpen_4 : decode cX3_requireOpen 4 = .ok (.ifCond .ne 13, 3) := by decide +kernel
theorem dX3_requireOpen_7 : decode cX3_requireOpen 7 = .ok (.new 48, 3) := by decide +kernel
theorem dX3_requireOpen_10 : decode cX3_requireOpen 10 = .ok (.dup, 1) := by decide +kernel
theorem dX3_requireOpen_11 : decode cX3_requireOpen 11 = .ok (.ldc 133, 2) := by decide +kernel
theorem dX3_requireOpen_13 : decode cX3_requireOpen 13 = .ok (.invokespecial 52, 3) := by decide +kernel
theorem dX3_requireOpen_16 : decode cX3_requireOpen 16 = .ok (.athrow, 1) := by decide +kernel
theorem dX3_requireOpen_17 : decode cX3_requireOpen 17 = .ok (.return_, 1) := by decide +kernel
theorem dX3_requireBlock_0 : decode cX3_requireBlock 0 = .ok (.iload_n 1, 1) := by decide +kernel
theorem dX3_requireBlock_1 : decode cX3_requireBlock 1 = .ok (.ifCond .lt 14, 3) := by decide +kernel
theorem dX3_requireBlock_4 : decode cX3_requireBlock 4 = .ok (.iload_n 1, 1) := by decide +kernel
theorem dX3_requireBlock_5 : decode cX3_requireBlock 5 = .ok (.aload_n 0, 1) := by decide +kernel
theorem dX3_requireBlock_6 : decode cX3_requireBlock 6 = .ok (.getfield 30, 3) := by decide +kernel
theorem dX3_requireBlock_9 : decode cX3_requireBlock 9 = .ok (.getfield 90, 3) := by decide +kernel
theorem dX3_requireBlock_12 : decode cX3_requireBlock 12 = .ok (.if_icmp .lt 13, 3) := by decide +kernel
theorem dX3_requireBlock_15 : decode cX3_requireBlock 15 = .ok (.new 126, 3) := by decide +kernel
theorem dX3_requireBlock_18 : decode cX3_requireBlock 18 = .ok (.dup, 1) := by decide +kernel
theorem dX3_requireBlock_19 : decode cX3_requireBlock 19 = .ok (.ldc 135, 2) := by decide +kernel
theorem dX3_requireBlock_21 : decode cX3_requireBlock 21 = .ok (.invokespecial 130, 3) := by decide +kernel
theorem dX3_requireBlock_24 : decode cX3_requireBlock 24 = .ok (.athrow, 1) := by decide +kernel
theorem dX3_requireBlock_25 : decode cX3_requireBlock 25 = .ok (.return_, 1) := by decide +kernel
theorem dX3_countRightEntries_0 : decode cX3_countRightEntries 0 = .ok (.aload_n 0, 1) := by decide +kernel
theorem dX3_countRightEntries_1 : decode cX3_countRightEntries 1 = .ok (.iload_n 1, 1) := by decide +kernel
theorem dX3_countRightEntries_2 : decode cX3_countRightEntries 2 = .ok (.invokevirtual 137, 3) := by decide +kernel
theorem dX3_countRightEntries_5 : decode cX3_countRightEntries 5 = .ok (.ifCond .eq 11, 3) := by decide +kernel
theorem dX3_countRightEntries_8 : decode cX3_countRightEntries 8 = .ok (.aload_n 0, 1) := by decide +kernel
theorem dX3_countRightEntries_9 : decode cX3_countRightEntries 9 = .ok (.iload_n 1, 1) := by decide +kernel
theorem dX3_countRightEntries_10 : decode cX3_countRightEntries 10 = .ok (.invokevirtual 141, 3) := by decide +kernel
theorem dX3_countRightEntries_13 : decode cX3_countRightEntries 13 = .ok (.goto 4, 3) := by decide +kernel
theorem dX3_countRightEntries_16 : decode cX3_countRightEntries 16 = .ok (.iconst (-1), 1) := by decide +kernel
theorem dX3_countRightEntries_17 : decode cX3_countRightEntries 17 = .ok (.istore_n 2, 1) := by decide +kernel
theorem dX3_countRightEntries_18 : decode cX3_countRightEntries 18 = .ok (.iload_n 2, 1) := by decide +kernel
theorem dX3_countRightEntries_19 : decode cX3_countRightEntries 19 = .ok (.iconst (-1), 1) := by decide +kernel
theorem dX3_countRightEntries_20 : decode cX3_countRightEntries 20 = .ok (.if_icmp .ne 13, 3) := by decide +kernel
theorem dX3_countRightEntries_23 : decode cX3_countRightEntries 23 = .ok (.new 85, 3) := by decide +kernel
theorem dX3_countRightEntries_26 : decode cX3_countRightEntries 26 = .ok (.dup, 1) := by decide +kernel
theorem dX3_countRightEntries_27 : decode cX3_countRightEntries 27 = .ok (.ldc 144, 2) := by decide +kernel
theorem dX3_countRightEntries_29 : decode cX3_countRightEntries 29 = .ok (.invokespecial 89, 3) := by decide +kernel
theorem dX3_countRightEntries_32 : decode cX3_countRightEntries 32 = .ok (.athrow, 1) := by decide +kernel
theorem dX3_countRightEntries_33 : decode cX3_countRightEntries 33 = .ok (.iload_n 2, 1) := by decide +kernel
theorem dX3_countRightEntries_34 : decode cX3_countRightEntries 34 = .ok (.ireturn, 1) := by decide +kernel
theorem dX3_hasRightSum_0 : decode cX3_hasRightSum 0 = .ok (.aload_n 0, 1) := by decide +kernel
theorem dX3_hasRightSum_1 : decode cX3_hasRightSum 1 = .ok (.getfield 30, 3) := by decide +kernel
theorem dX3_hasRightSum_4 : decode cX3_hasRightSum 4 = .ok (.iload_n 1, 1) := by decide +kernel
theorem dX3_hasRightSum_5 : decode cX3_hasRightSum 5 = .ok (.invokevirtual 146, 3) := by decide +kernel
theorem dX3_hasRightSum_8 : decode cX3_hasRightSum 8 = .ok (.istore_n 2, 1) := by decide +kernel
theorem dX3_hasRightSum_9 : decode cX3_hasRightSum 9 = .ok (.aload_n 0, 1) := by decide +kernel
theorem dX3_hasRightSum_10 : decode cX3_hasRightSum 10 = .ok (.getfield 30, 3) := by decide +kernel
theorem dX3_hasRightSum_13 : decode cX3_hasRightSum 13 = .ok (.iload_n 1, 1) := by decide +kernel
theorem dX3_hasRightSum_14 : decode cX3_hasRightSum 14 = .ok (.invokevirtual 149, 3) := by decide +kernel
theorem dX3_hasRightSum_17 : decode cX3_hasRightSum 17 = .ok (.istore_n 3, 1) := by decide +kernel
theorem dX3_hasRightSum_18 : decode cX3_hasRightSum 18 = .ok (.iload_n 2, 1) := by decide +kernel
theorem dX3_hasRightSum_19 : decode cX3_hasRightSum 19 = .ok (.iload_n 3, 1) := by decide +kernel
theorem dX3_hasRightSum_20 : decode cX3_hasRightSum 20 = .ok (.if_icmp .gt 19, 3) := by decide +kernel
theorem dX3_hasRightSum_23 : decode cX3_hasRightSum 23 = .ok (.aload_n 0, 1) := by decide +kernel
theorem dX3_hasRightSum_24 : decode cX3_hasRightSum 24 = .ok (.getfield 23, 3) := by decide +kernel
theorem dX3_hasRightSum_27 : decode cX3_hasRightSum 27 = .ok (.iload_n 2, 1) := by decide +kernel
theorem dX3_hasRightSum_28 : decode cX3_hasRightSum 28 = .ok (.iload_n 3, 1) := by decide +kernel
theorem dX3_hasRightSum_29 : decode cX3_hasRightSum 29 = .ok (.invokevirtual 152, 3) := by decide +kernel
theorem dX3_hasRightSum_32 : decode cX3_hasRightSum 32 = .ok (.ifCond .eq 7, 3) := by decide +kernel
theorem dX3_hasRightSum_35 : decode cX3_hasRightSum 35 = .ok (.iconst 1, 1) := by decide +kernel
theorem dX3_hasRightSum_36 : decode cX3_hasRightSum 36 = .ok (.goto 4, 3) := by decide +kernel
theorem dX3_hasRightSum_39 : decode cX3_hasRightSum 39 = .ok (.iconst 0, 1) := by decide +kernel
theorem dX3_hasRightSum_40 : decode cX3_hasRightSum 40 = .ok (.ireturn, 1) := by decide +kernel
theorem dX3_countEntries_0 : decode cX3_countEntries 0 = .ok (.aload_n 0, 1) := by decide +kernel
theorem dX3_countEntries_1 : decode cX3_countEntries 1 = .ok (.iload_n 1, 1) := by decide +kernel
theorem dX3_countEntries_2 : decode cX3_countEntries 2 = .ok (.invokevirtual 107, 3) := by decide +kernel
theorem dX3_countEntries_5 : decode cX3_countEntries 5 = .ok (.iconst 0, 1) := by decide +kernel
theorem dX3_countEntries_6 : decode cX3_countEntries 6 = .ok (.istore_n 2, 1) := by decide +kernel
theorem dX3_countEntries_7 : decode cX3_countEntries 7 = .ok (.iload_n 2, 1) := by decide +kernel
theorem dX3_countEntries_8 : decode cX3_countEntries 8 = .ok (.sipush 2444, 3) := by decide +kernel
theorem dX3_countEntries_11 : decode cX3_countEntries 11 = .ok (.if_icmp .ge 30, 3) := by decide +kernel
theorem dX3_countEntries_14 : decode cX3_countEntries 14 = .ok (.aload_n 0, 1) := by decide +kernel
theorem dX3_countEntries_15 : decode cX3_countEntries 15 = .ok (.getfield 23, 3) := by decide +kernel
theorem dX3_countEntries_18 : decode cX3_countEntries 18 = .ok (.invokevirtual 156, 3) := by decide +kernel
theorem dX3_countEntries_21 : decode cX3_countEntries 21 = .ok (.ifCond .ne 20, 3) := by decide +kernel
theorem dX3_countEntries_24 : decode cX3_countEntries 24 = .ok (.aload_n 0, 1) := by decide +kernel
theorem dX3_countEntries_25 : decode cX3_countEntries 25 = .ok (.getfield 37, 3) := by decide +kernel
theorem dX3_countEntries_28 : decode cX3_countEntries 28 = .ok (.aload_n 0, 1) := by decide +kernel
theorem dX3_countEntries_29 : decode cX3_countEntries 29 = .ok (.getfield 23, 3) := by decide +kernel
theorem dX3_countEntries_32 : decode cX3_countEntries 32 = .ok (.invokevirtual 110, 3) := by decide +kernel
theorem dX3_countEntries_35 : decode cX3_countEntries 35 = .ok (.iinc 2 1, 3) := by decide +kernel
theorem dX3_countEntries_38 : decode cX3_countEntries 38 = .ok (.goto (-31), 3) := by decide +kernel
theorem dX3_countEntries_41 : decode cX3_countEntries 41 = .ok (.aload_n 0, 1) := by decide +kernel
theorem dX3_countEntries_42 : decode cX3_countEntries 42 = .ok (.getfield 23, 3) := by decide +kernel
theorem dX3_countEntries_45 : decode cX3_countEntries 45 = .ok (.getfield 160, 3) := by decide +kernel
theorem dX3_countEntries_48 : decode cX3_countEntries 48 = .ok (.ifCond .eq 7, 3) := by decide +kernel
theorem dX3_countEntries_51 : decode cX3_countEntries 51 = .ok (.iload_n 2, 1) := by decide +kernel
theorem dX3_countEntries_52 : decode cX3_countEntries 52 = .ok (.goto 4, 3) := by decide +kernel
theorem dX3_countEntries_55 : decode cX3_countEntries 55 = .ok (.iconst (-1), 1) := by decide +kernel
theorem dX3_countEntries_56 : decode cX3_countEntries 56 = .ok (.ireturn, 1) := by decide +kernel
theorem dX3_startReading_0 : decode cX3_startReading 0 = .ok (.aload_n 0, 1) := by decide +kernel
theorem dX3_startReading_1 : decode cX3_startReading 1 = .ok (.getfield 23, 3) := by decide +kernel
theorem dX3_startReading_4 : decode cX3_startReading 4 = .ok (.aload_n 0, 1) := by decide +kernel
theorem dX3_startReading_5 : decode cX3_startReading 5 = .ok (.getfield 30, 3) := by decide +kernel
theorem dX3_startReading_8 : decode cX3_startReading 8 = .ok (.iload_n 1, 1) := by decide +kernel
theorem dX3_startReading_9 : decode cX3_startReading 9 = .ok (.invokevirtual 146, 3) := by decide +kernel
theorem dX3_startReading_12 : decode cX3_startReading 12 = .ok (.aload_n 0, 1) := by decide +kernel
theorem dX3_startReading_13 : decode cX3_startReading 13 = .ok (.getfield 30, 3) := by decide +kernel
theorem dX3_startReading_16 : decode cX3_startReading 16 = .ok (.iload_n 1, 1) := by decide +kernel
theorem dX3_startReading_17 : decode cX3_startReading 17 = .ok (.invokevirtual 149, 3) := by decide +kernel
theorem dX3_startReading_20 : decode cX3_startReading 20 = .ok (.invokevirtual 163, 3) := by decide +kernel
theorem dX3_startReading_23 : decode cX3_startReading 23 = .ok (.aload_n 0, 1) := by decide +kernel
theorem dX3_startReading_24 : decode cX3_startReading 24 = .ok (.getfield 37, 3) := by decide +kernel
theorem dX3_startReading_27 : decode cX3_startReading 27 = .ok (.iconst 1, 1) := by decide +kernel
theorem dX3_startReading_28 : decode cX3_startReading 28 = .ok (.putfield 166, 3) := by decide +kernel
theorem dX3_startReading_31 : decode cX3_startReading 31 = .ok (.return_, 1) := by decide +kernel
end
section
/-! decode rows -/
theorem dX3_writeTable_0 : decode cX3_writeTable 0 = .ok (.aload_n 0, 1) := by decide +kernel
theorem dX3_writeTable_1 : decode cX3_writeTable 1 = .ok (.iconst 0, 1) := by decide +kernel
theorem dX3_writeTable_2 : decode cX3_writeTable 2 = .ok (.putfield 75, 3) := by decide +kernel
theorem dX3_writeTable_5 : decode cX3_writeTable 5 = .ok (.aload_n 0, 1) := by decide +kernel
theorem dX3_writeTable_6 : decode cX3_writeTable 6 = .ok (.getfield 23, 3) := by decide +kernel
theorem dX3_writeTable_9 : decode cX3_writeTable 9 = .ok (.iconst 0, 1) := by decide +kernel
theorem dX3_writeTable_10 : decode cX3_writeTable 10 = .ok (.putfield 60, 3) := by decide +kernel
theorem dX3_writeTable_13 : decode cX3_writeTable 13 = .ok (.iconst 0, 1) := by decide +kernel
theorem dX3_writeTable_14 : decode cX3_writeTable 14 = .ok (.istore_n 1, 1) := by decide +kernel
theorem dX3_writeTable_15 : decode cX3_writeTable 15 = .ok (.iconst 0, 1) := by decide +kernel
theorem dX3_writeTable_16 : decode cX3_writeTable 16 = .ok (.istore_n 2, 1) := by decide +kernel
theorem dX3_writeTable_17 : decode cX3_writeTable 17 = .ok (.iload_n 2, 1) := by decide +kernel
theorem dX3_writeTable_18 : decode cX3_writeTable 18 = .ok (.aload_n 0, 1) := by decide +kernel
theorem dX3_writeTable_19 : decode cX3_writeTable 19 = .ok (.getfield 44, 3) := by decide +kernel
theorem dX3_writeTable_22 : decode cX3_writeTable 22 = .ok (.if_icmp .ge 23, 3) := by decide +kernel
theorem dX3_writeTable_25 : decode cX3_writeTable 25 = .ok (.aload_n 0, 1) := by decide +kernel
theorem dX3_writeTable_26 : decode cX3_writeTable 26 = .ok (.getfield 17, 3) := by decide +kernel
theorem dX3_writeTable_29 : decode cX3_writeTable 29 = .ok (.iload_n 1, 1) := by decide +kernel
theorem dX3_writeTable_30 : decode cX3_writeTable 30 = .ok (.aload_n 0, 1) := by decide +kernel
theorem dX3_writeTable_31 : decode cX3_writeTable 31 = .ok (.iload_n 2, 1) := by decide +kernel
theorem dX3_writeTable_32 : decode cX3_writeTable 32 = .ok (.invokevirtual 169, 3) := by decide +kernel
theorem dX3_writeTable_35 : decode cX3_writeTable 35 = .ok (.iastore, 1) := by decide +kernel
theorem dX3_writeTable_36 : decode cX3_writeTable 36 = .ok (.iinc 1 1, 3) := by decide +kernel
theorem dX3_writeTable_39 : decode cX3_writeTable 39 = .ok (.iinc 2 8, 3) := by decide +kernel
theorem dX3_writeTable_42 : decode cX3_writeTable 42 = .ok (.goto (-25), 3) := by decide +kernel
theorem dX3_writeTable_45 : decode cX3_writeTable 45 = .ok (.aload_n 0, 1) := by decide +kernel
theorem dX3_writeTable_46 : decode cX3_writeTable 46 = .ok (.iload_n 1, 1) := by decide +kernel
theorem dX3_writeTable_47 : decode cX3_writeTable 47 = .ok (.invokevirtual 172, 3) := by decide +kernel
theorem dX3_writeTable_50 : decode cX3_writeTable 50 = .ok (.aload_n 0, 1) := by decide +kernel
theorem dX3_writeTable_51 : decode cX3_writeTable 51 = .ok (.iconst 0, 1) := by decide +kernel
theorem dX3_writeTable_52 : decode cX3_writeTable 52 = .ok (.putfield 44, 3) := by decide +kernel
theorem dX3_writeTable_55 : decode cX3_writeTable 55 = .ok (.return_, 1) := by decide +kernel
theorem dX3_writeBlock_0 : decode cX3_writeBlock 0 = .ok (.aload_n 0, 1) := by decide +kernel
theorem dX3_writeBlock_1 : decode cX3_writeBlock 1 = .ok (.getfield 23, 3) := by decide +kernel
theorem dX3_writeBlock_4 : decode cX3_writeBlock 4 = .ok (.getfield 60, 3) := by decide +kernel
theorem dX3_writeBlock_7 : decode cX3_writeBlock 7 = .ok (.istore_n 2, 1) := by decide +kernel
theorem dX3_writeBlock_8 : decode cX3_writeBlock 8 = .ok (.iload_n 1, 1) := by decide +kernel
theorem dX3_writeBlock_9 : decode cX3_writeBlock 9 = .ok (.bipush 8, 2) := by decide +kernel
theorem dX3_writeBlock_11 : decode cX3_writeBlock 11 = .ok (.iadd, 1) := by decide +kernel
theorem dX3_writeBlock_12 : decode cX3_writeBlock 12 = .ok (.aload_n 0, 1) := by decide +kernel
theorem dX3_writeBlock_13 : decode cX3_writeBlock 13 = .ok (.getfield 44, 3) := by decide +kernel
theorem dX3_writeBlock_16 : decode cX3_writeBlock 16 = .ok (.invokestatic 175, 3) := by decide +kernel
theorem dX3_writeBlock_19 : decode cX3_writeBlock 19 = .ok (.istore_n 3, 1) := by decide +kernel
theorem dX3_writeBlock_20 : decode cX3_writeBlock 20 = .ok (.aload_n 0, 1) := by decide +kernel
theorem dX3_writeBlock_21 : decode cX3_writeBlock 21 = .ok (.getfield 23, 3) := by decide +kernel
theorem dX3_writeBlock_24 : decode cX3_writeBlock 24 = .ok (.aload_n 0, 1) := by decide +kernel
theorem dX3_writeBlock_25 : decode cX3_writeBlock 25 = .ok (.getfield 9, 3) := by decide +kernel
theorem dX3_writeBlock_28 : decode cX3_writeBlock 28 = .ok (.iload_n 1, 1) := by decide +kernel
theorem dX3_writeBlock_29 : decode cX3_writeBlock 29 = .ok (.iaload, 1) := by decide +kernel
theorem dX3_writeBlock_30 : decode cX3_writeBlock 30 = .ok (.i2l, 1) := by decide +kernel
theorem dX3_writeBlock_31 : decode cX3_writeBlock 31 = .ok (.invokestatic 181, 3) := by decide +kernel
theorem dX3_writeBlock_34 : decode cX3_writeBlock 34 = .ok (.invokevirtual 185, 3) := by decide +kernel
theorem dX3_writeBlock_37 : decode cX3_writeBlock 37 = .ok (.aload_n 0, 1) := by decide +kernel
theorem dX3_writeBlock_38 : decode cX3_writeBlock 38 = .ok (.getfield 23, 3) := by decide +kernel
theorem dX3_writeBlock_41 : decode cX3_writeBlock 41 = .ok (.aload_n 0, 1) := by decide +kernel
theorem dX3_writeBlock_42 : decode cX3_writeBlock 42 = .ok (.getfield 13, 3) := by decide +kernel
theorem dX3_writeBlock_45 : decode cX3_writeBlock 45 = .ok (.iload_n 1, 1) := by decide +kernel
theorem dX3_writeBlock_46 : decode cX3_writeBlock 46 = .ok (.laload, 1) := by decide +kernel
theorem dX3_writeBlock_47 : decode cX3_writeBlock 47 = .ok (.invokestatic 181, 3) := by decide +kernel
theorem dX3_writeBlock_50 : decode cX3_writeBlock 50 = .ok (.invokevirtual 185, 3) := by decide +kernel
theorem dX3_writeBlock_53 : decode cX3_writeBlock 53 = .ok (.iload_n 1, 1) := by decide +kernel
theorem dX3_writeBlock_54 : decode cX3_writeBlock 54 = .ok (.iconst 1, 1) := by decide +kernel
theorem dX3_writeBlock_55 : decode cX3_writeBlock 55 = .ok (.iadd, 1) := by decide +kernel
theorem dX3_writeBlock_56 : decode cX3_writeBlock 56 = .ok (.istore 4, 2) := by decide +kernel
theorem dX3_writeBlock_58 : decode cX3_writeBlock 58 = .ok (.iload 4, 2) := by decide +kernel
theorem dX3_writeBlock_60 : decode cX3_writeBlock 60 = .ok (.iload_n 3, 1) := by decide +kernel
theorem dX3_writeBlock_61 : decode cX3_writeBlock 61 = .ok (.if_icmp .ge 54, 3) := by decide +kernel
theorem dX3_writeBlock_64 : decode cX3_writeBlock 64 = .ok (.aload_n 0, 1) := by decide +kernel
theorem dX3_writeBlock_65 : decode cX3_writeBlock 65 = .ok (.getfield 23, 3) := by decide +kernel
theorem dX3_writeBlock_68 : decode cX3_writeBlock 68 = .ok (.aload_n 0, 1) := by decide +kernel
theorem dX3_writeBlock_69 : decode cX3_writeBlock 69 = .ok (.getfield 9, 3) := by decide +kernel
theorem dX3_writeBlock_72 : decode cX3_writeBlock 72 = .ok (.iload 4, 2) := by decide +kernel
theorem dX3_writeBlock_74 : decode cX3_writeBlock 74 = .ok (.iaload, 1) := by decide +kernel
theorem dX3_writeBlock_75 : decode cX3_writeBlock 75 = .ok (.i2l, 1) := by decide +kernel
theorem dX3_writeBlock_76 : decode cX3_writeBlock 76 = .ok (.aload_n 0, 1) := by decide +kernel
theorem dX3_writeBlock_77 : decode cX3_writeBlock 77 = .ok (.getfield 9, 3) := by decide +kernel
theorem dX3_writeBlock_80 : decode cX3_writeBlock 80 = .ok (.iload 4, 2) := by decide +kernel
theorem dX3_writeBlock_82 : decode cX3_writeBlock 82 = .ok (.iconst 1, 1) := by decide +kernel
theorem dX3_writeBlock_83 : decode cX3_writeBlock 83 = .ok (.isub, 1) := by decide +kernel
theorem dX3_writeBlock_84 : decode cX3_writeBlock 84 = .ok (.iaload, 1) := by decide +kernel
theorem dX3_writeBlock_85 : decode cX3_writeBlock 85 = .ok (.i2l, 1) := by decide +kernel
theorem dX3_writeBlock_86 : decode cX3_writeBlock 86 = .ok (.lsub, 1) := by decide +kernel
theorem dX3_writeBlock_87 : decode cX3_writeBlock 87 = .ok (.lconst 1, 1) := by decide +kernel
theorem dX3_writeBlock_88 : decode cX3_writeBlock 88 = .ok (.lsub, 1) := by decide +kernel
theorem dX3_writeBlock_89 : decode cX3_writeBlock 89 = .ok (.invokevirtual 185, 3) := by decide +kernel
theorem dX3_writeBlock_92 : decode cX3_writeBlock 92 = .ok (.aload_n 0, 1) := by decide +kernel
theorem dX3_writeBlock_93 : decode cX3_writeBlock 93 = .ok (.getfield 23, 3) := by decide +kernel
theorem dX3_writeBlock_96 : decode cX3_writeBlock 96 = .ok (.aload_n 0, 1) := by decide +kernel
theorem dX3_writeBlock_97 : decode cX3_writeBlock 97 = .ok (.getfield 13, 3) := by decide +kernel
theorem dX3_writeBlock_100 : decode cX3_writeBlock 100 = .ok (.iload 4, 2) := by decide +kernel
theorem dX3_writeBlock_102 : decode cX3_writeBlock 102 = .ok (.laload, 1) := by decide +kernel
theorem dX3_writeBlock_103 : decode cX3_writeBlock 103 = .ok (.invokestatic 181, 3) := by decide +kernel
theorem dX3_writeBlock_106 : decode cX3_writeBlock 106 = .ok (.invokevirtual 185, 3) := by decide +kernel
theorem dX3_writeBlock_109 : decode cX3_writeBlock 109 = .ok (.iinc 4 1, 3) := by decide +kernel
theorem dX3_writeBlock_112 : decode cX3_writeBlock 112 = .ok (.goto (-54), 3) := by decide +kernel
theorem dX3_writeBlock_115 : decode cX3_writeBlock 115 = .ok (.aload_n 0, 1) := by decide +kernel
theorem dX3_writeBlock_116 : decode cX3_writeBlock 116 = .ok (.getfield 23, 3) := by decide +kernel
theorem dX3_writeBlock_119 : decode cX3_writeBlock 119 = .ok (.iload_n 2, 1) := by decide +kernel
theorem dX3_writeBlock_120 : decode cX3_writeBlock 120 = .ok (.invokevirtual 189, 3) := by decide +kernel
theorem dX3_writeBlock_123 : decode cX3_writeBlock 123 = .ok (.aload_n 0, 1) := by decide +kernel
theorem dX3_writeBlock_124 : decode cX3_writeBlock 124 = .ok (.getfield 23, 3) := by decide +kernel
theorem dX3_writeBlock_127 : decode cX3_writeBlock 127 = .ok (.getfield 60, 3) := by decide +kernel
theorem dX3_writeBlock_130 : decode cX3_writeBlock 130 = .ok (.iload_n 2, 1) := by decide +kernel
theorem dX3_writeBlock_131 : decode cX3_writeBlock 131 = .ok (.isub, 1) := by decide +kernel
theorem dX3_writeBlock_132 : decode cX3_writeBlock 132 = .ok (.ireturn, 1) := by decide +kernel
theorem dX3_writeIndex_0 : decode cX3_writeIndex 0 = .ok (.aload_n 0, 1) := by decide +kernel
theorem dX3_writeIndex_1 : decode cX3_writeIndex 1 = .ok (.getfield 23, 3) := by decide +kernel
theorem dX3_writeIndex_4 : decode cX3_writeIndex 4 = .ok (.getfield 60, 3) := by decide +kernel
theorem dX3_writeIndex_7 : decode cX3_writeIndex 7 = .ok (.istore_n 2, 1) := by decide +kernel
theorem dX3_writeIndex_8 : decode cX3_writeIndex 8 = .ok (.aload_n 0, 1) := by decide +kernel
theorem dX3_writeIndex_9 : decode cX3_writeIndex 9 = .ok (.getfield 23, 3) := by decide +kernel
theorem dX3_writeIndex_12 : decode cX3_writeIndex 12 = .ok (.iload_n 1, 1) := by decide +kernel
theorem dX3_writeIndex_13 : decode cX3_writeIndex 13 = .ok (.i2l, 1) := by decide +kernel
theorem dX3_writeIndex_14 : decode cX3_writeIndex 14 = .ok (.invokevirtual 185, 3) := by decide +kernel
theorem dX3_writeIndex_17 : decode cX3_writeIndex 17 = .ok (.iconst 0, 1) := by decide +kernel
theorem dX3_writeIndex_18 : decode cX3_writeIndex 18 = .ok (.istore_n 3, 1) := by decide +kernel
theorem dX3_writeIndex_19 : decode cX3_writeIndex 19 = .ok (.iload_n 3, 1) := by decide +kernel
theorem dX3_writeIndex_20 : decode cX3_writeIndex 20 = .ok (.iload_n 1, 1) := by decide +kernel
theorem dX3_writeIndex_21 : decode cX3_writeIndex 21 = .ok (.if_icmp .ge 43, 3) := by decide +kernel
theorem dX3_writeIndex_24 : decode cX3_writeIndex 24 = .ok (.aload_n 0, 1) := by decide +kernel
theorem dX3_writeIndex_25 : decode cX3_writeIndex 25 = .ok (.getfield 23, 3) := by decide +kernel
theorem dX3_writeIndex_28 : decode cX3_writeIndex 28 = .ok (.aload_n 0, 1) := by decide +kernel
theorem dX3_writeIndex_29 : decode cX3_writeIndex 29 = .ok (.getfield 17, 3) := by decide +kernel
theorem dX3_writeIndex_32 : decode cX3_writeIndex 32 = .ok (.iload_n 3, 1) := by decide +kernel
theorem dX3_writeIndex_33 : decode cX3_writeIndex 33 = .ok (.iaload, 1) := by decide +kernel
theorem dX3_writeIndex_34 : decode cX3_writeIndex 34 = .ok (.i2l, 1) := by decide +kernel
theorem dX3_writeIndex_35 : decode cX3_writeIndex 35 = .ok (.invokevirtual 185, 3) := by decide +kernel
theorem dX3_writeIndex_38 : decode cX3_writeIndex 38 = .ok (.aload_n 0, 1) := by decide +kernel
theorem dX3_writeIndex_39 : decode cX3_writeIndex 39 = .ok (.getfield 23, 3) := by decide +kernel
theorem dX3_writeIndex_42 : decode cX3_writeIndex 42 = .ok (.aload_n 0, 1) := by decide +kernel
theorem dX3_writeIndex_43 : decode cX3_writeIndex 43 = .ok (.getfield 9, 3) := by decide +kernel
theorem dX3_writeIndex_46 : decode cX3_writeIndex 46 = .ok (.iload_n 3, 1) := by decide +kernel
theorem dX3_writeIndex_47 : decode cX3_writeIndex 47 = .ok (.bipush 8, 2) := by decide +kernel
theorem dX3_writeIndex_49 : decode cX3_writeIndex 49 = .ok (.imul, 1) := by decide +kernel
theorem dX3_writeIndex_50 : decode cX3_writeIndex 50 = .ok (.iaload, 1) := by decide +kernel
theorem dX3_writeIndex_51 : decode cX3_writeIndex 51 = .ok (.i2l, 1) := by decide +kernel
theorem dX3_writeIndex_52 : decode cX3_writeIndex 52 = .ok (.invokestatic 181, 3) := by decide +kernel
theorem dX3_writeIndex_55 : decode cX3_writeIndex 55 = .ok (.invokevirtual 185, 3) := by decide +kernel
theorem dX3_writeIndex_58 : decode cX3_writeIndex 58 = .ok (.iinc 3 1, 3) := by decide +kernel
theorem dX3_writeIndex_61 : decode cX3_writeIndex 61 = .ok (.goto (-42), 3) := by decide +kernel
theorem dX3_writeIndex_64 : decode cX3_writeIndex 64 = .ok (.aload_n 0, 1) := by decide +kernel
theorem dX3_writeIndex_65 : decode cX3_writeIndex 65 = .ok (.getfield 23, 3) := by decide +kernel
theorem dX3_writeIndex_68 : decode cX3_writeIndex 68 = .ok (.getfield 60, 3) := by decide +kernel
theorem dX3_writeIndex_71 : decode cX3_writeIndex 71 = .ok (.iload_n 2, 1) := by decide +kernel
theorem dX3_writeIndex_72 : decode cX3_writeIndex 72 = .ok (.isub, 1) := by decide +kernel
theorem dX3_writeIndex_73 : decode cX3_writeIndex 73 = .ok (.istore_n 3, 1) := by decide +kernel
theorem dX3_writeIndex_74 : decode cX3_writeIndex 74 = .ok (.aload_n 0, 1) := by decide +kernel
theorem dX3_writeIndex_75 : decode cX3_writeIndex 75 = .ok (.getfield 23, 3) := by decide +kernel
theorem dX3_writeIndex_78 : decode cX3_writeIndex 78 = .ok (.iload_n 2, 1) := by decide +kernel
theorem dX3_writeIndex_79 : decode cX3_writeIndex 79 = .ok (.invokevirtual 189, 3) := by decide +kernel
theorem dX3_writeIndex_82 : decode cX3_writeIndex 82 = .ok (.aload_n 0, 1) := by decide +kernel
theorem dX3_writeIndex_83 : decode cX3_writeIndex 83 = .ok (.getfield 23, 3) := by decide +kernel
theorem dX3_writeIndex_86 : decode cX3_writeIndex 86 = .ok (.iload_n 3, 1) := by decide +kernel
theorem dX3_writeIndex_87 : decode cX3_writeIndex 87 = .ok (.invokevirtual 192, 3) := by decide +kernel
theorem dX3_writeIndex_90 : decode cX3_writeIndex 90 = .ok (.return_, 1) := by decide +kernel
theorem dX3_fold_0 : decode cX3_fold 0 = .ok (.lload_n 0, 1) := by decide +kernel
theorem dX3_fold_1 : decode cX3_fold 1 = .ok (.lconst 0, 1) := by decide +kernel
theorem dX3_fold_2 : decode cX3_fold 2 = .ok (.lcmp, 1) := by decide +kernel
theorem dX3_fold_3 : decode cX3_fold 3 = .ok (.ifCond .ge 13, 3) := by decide +kernel
theorem dX3_fold_6 : decode cX3_fold 6 = .ok (.ldc2_w 195, 3) := by decide +kernel
theorem dX3_fold_9 : decode cX3_fold 9 = .ok (.lload_n 0, 1) := by decide +kernel
theorem dX3_fold_10 : decode cX3_fold 10 = .ok (.lmul, 1) := by decide +kernel
theorem dX3_fold_11 : decode cX3_fold 11 = .ok (.lconst 1, 1) := by decide +kernel
theorem dX3_fold_12 : decode cX3_fold 12 = .ok (.lsub, 1) := by decide +kernel
theorem dX3_fold_13 : decode cX3_fold 13 = .ok (.goto 8, 3) := by decide +kernel
theorem dX3_fold_16 : decode cX3_fold 16 = .ok (.ldc2_w 197, 3) := by decide +kernel
theorem dX3_fold_19 : decode cX3_fold 19 = .ok (.lload_n 0, 1) := by decide +kernel
theorem dX3_fold_20 : decode cX3_fold 20 = .ok (.lmul, 1) := by decide +kernel
theorem dX3_fold_21 : decode cX3_fold 21 = .ok (.lreturn, 1) := by decide +kernel
theorem dX3_unfold_0 : decode cX3_unfold 0 = .ok (.lload_n 0, 1) := by decide +kernel
theorem dX3_unfold_1 : decode cX3_unfold 1 = .ok (.iconst 1, 1) := by decide +kernel
theorem dX3_unfold_2 : decode cX3_unfold 2 = .ok (.lushr, 1) := by decide +kernel
theorem dX3_unfold_3 : decode cX3_unfold 3 = .ok (.lstore_n 2, 1) := by decide +kernel
theorem dX3_unfold_4 : decode cX3_unfold 4 = .ok (.lload_n 0, 1) := by decide +kernel
theorem dX3_unfold_5 : decode cX3_unfold 5 = .ok (.lconst 1, 1) := by decide +kernel
theorem dX3_unfold_6 : decode cX3_unfold 6 = .ok (.land, 1) := by decide +kernel
theorem dX3_unfold_7 : decode cX3_unfold 7 = .ok (.lconst 0, 1) := by decide +kernel
theorem dX3_unfold_8 : decode cX3_unfold 8 = .ok (.lcmp, 1) := by decide +kernel
theorem dX3_unfold_9 : decode cX3_unfold 9 = .ok (.ifCond .ne 7, 3) := by decide +kernel
theorem dX3_unfold_12 : decode cX3_unfold 12 = .ok (.lload_n 2, 1) := by decide +kernel
theorem dX3_unfold_13 : decode cX3_unfold 13 = .ok (.goto 7, 3) := by decide +kernel
theorem dX3_unfold_16 : decode cX3_unfold 16 = .ok (.lload_n 2, 1) := by decide +kernel
theorem dX3_unfold_17 : decode cX3_unfold 17 = .ok (.lneg, 1) := by decide +kernel
theorem dX3_unfold_18 : decode cX3_unfold 18 = .ok (.lconst 1, 1) := by decide +kernel
theorem dX3_unfold_19 : decode cX3_unfold 19 = .ok (.lsub, 1) := by decide +kernel
theorem dX3_unfold_20 : decode cX3_unfold 20 = .ok (.lreturn, 1) := by decide +kernel
theorem dX4_init_0 : decode cX4_init 0 = .ok (.aload_n 0, 1) := by decide +kernel
theorem dX4_init_1 : decode cX4_init 1 = .ok (.invokespecial 1, 3) := by decide +kernel
theorem dX4_init_4 : decode cX4_init 4 = .ok (.aload_n 0, 1) := by decide +kernel
theorem dX4_init_5 : decode cX4_init 5 = .ok (.sipush 300, 3) := by decide +kernel
theorem dX4_init_8 : decode cX4_init 8 = .ok (.newarray .int, 2) := by decide +kernel
theorem dX4_init_10 : decode cX4_init 10 = .ok (.putfield 9, 3) := by decide +kernel
theorem dX4_init_13 : decode cX4_init 13 = .ok (.aload_n 0, 1) := by decide +kernel
theorem dX4_init_14 : decode cX4_init 14 = .ok (.sipush 300, 3) := by decide +kernel
theorem dX4_init_17 : decode cX4_init 17 = .ok (.newarray .long, 2) := by decide +kernel
theorem dX4_init_19 : decode cX4_init 19 = .ok (.putfield 13, 3) := by decide +kernel
theorem dX4_init_22 : decode cX4_init 22 = .ok (.aload_n 0, 1) := by decide +kernel
theorem dX4_init_23 : decode cX4_init 23 = .ok (.sipush 6000, 3) := by decide +kernel
theorem dX4_init_26 : decode cX4_init 26 = .ok (.newarray .byte, 2) := by decide +kernel
theorem dX4_init_28 : decode cX4_init 28 = .ok (.putfield 17, 3) := by decide +kernel
theorem dX4_init_31 : decode cX4_init 31 = .ok (.aload_n 0, 1) := by decide +kernel
theorem dX4_init_32 : decode cX4_init 32 = .ok (.sipush 6000, 3) := by decide +kernel
theorem dX4_init_35 : decode cX4_init 35 = .ok (.newarray .int, 2) := by decide +kernel
theorem dX4_init_37 : decode cX4_init 37 = .ok (.putfield 21, 3) := by decide +kernel
theorem dX4_init_40 : decode cX4_init 40 = .ok (.aload_n 0, 1) := by decide +kernel
theorem dX4_init_41 : decode cX4_init 41 = .ok (.sipush 6000, 3) := by decide +kernel
theorem dX4_init_44 : decode cX4_init 44 = .ok (.newarray .int, 2) := by decide +kernel
theorem dX4_init_46 : decode cX4_init 46 = .ok (.putfield 24, 3) := by decide +kernel
theorem dX4_init_49 : decode cX4_init 49 = .ok (.aload_n 0, 1) := by decide +kernel
theorem dX4_init_50 : decode cX4_init 50 = .ok (.sipush 6000, 3) := by decide +kernel
theorem dX4_init_53 : decode cX4_init 53 = .ok (.newarray .int, 2) := by decide +kernel
theorem dX4_init_55 : decode cX4_init 55 = .ok (.putfield 27, 3) := by decide +kernel
theorem dX4_init_58 : decode cX4_init 58 = .ok (.aload_n 0, 1) := by decide +kernel
theorem dX4_init_59 : decode cX4_init 59 = .ok (.sipush 6000, 3) := by decide +kernel
theorem dX4_init_62 : decode cX4_init 62 = .ok (.newarray .int, 2) := by decide +kernel
theorem dX4_init_64 : decode cX4_init 64 = .ok (.putfield 30, 3) := by decide +kernel
theorem dX4_init_67 : decode cX4_init 67 = .ok (.aload_n 0, 1) := by decide +kernel
theorem dX4_init_68 : decode cX4_init 68 = .ok (.sipush 6000, 3) := by decide +kernel
theorem dX4_init_71 : decode cX4_init 71 = .ok (.newarray .long, 2) := by decide +kernel
theorem dX4_init_73 : decode cX4_init 73 = .ok (.putfield 33, 3) := by decide +kernel
theorem dX4_init_76 : decode cX4_init 76 = .ok (.aload_n 0, 1) := by decide +kernel
theorem dX4_init_77 : decode cX4_init 77 = .ok (.invokevirtual 36, 3) := by decide +kernel
theorem dX4_init_80 : decode cX4_init 80 = .ok (.return_, 1) := by decide +kernel
theorem dX4_thrown_0 : decode cX4_thrown 0 = .ok (.aload_n 0, 1) := by decide +kernel
theorem dX4_thrown_1 : decode cX4_thrown 1 = .ok (.getfield 39, 3) := by decide +kernel
theorem dX4_thrown_4 : decode cX4_thrown 4 = .ok (.ireturn, 1) := by decide +kernel
theorem dX4_number_0 : decode cX4_number 0 = .ok (.lload_n 1, 1) := by decide +kernel
theorem dX4_number_1 : decode cX4_number 1 = .ok (.lstore_n 3, 1) := by decide +kernel
theorem dX4_number_2 : decode cX4_number 2 = .ok (.lload_n 3, 1) := by decide +kernel
theorem dX4_number_3 : decode cX4_number 3 = .ok (.lconst 0, 1) := by decide +kernel
theorem dX4_number_4 : decode cX4_number 4 = .ok (.lcmp, 1) := by decide +kernel
theorem dX4_number_5 : decode cX4_number 5 = .ok (.ifCond .lt 11, 3) := by decide +kernel
theorem dX4_number_8 : decode cX4_number 8 = .ok (.lload_n 3, 1) := by decide +kernel
theorem dX4_number_9 : decode cX4_number 9 = .ok (.ldc2_w 43, 3) := by decide +kernel
theorem dX4_number_12 : decode cX4_number 12 = .ok (.lcmp, 1) := by decide +kernel
theorem dX4_number_13 : decode cX4_number 13 = .ok (.ifCond .le 38, 3) := by decide +kernel
theorem dX4_number_16 : decode cX4_number 16 = .ok (.aload_n 0, 1) := by decide +kernel
theorem dX4_number_17 : decode cX4_number 17 = .ok (.getfield 17, 3) := by decide +kernel
theorem dX4_number_20 : decode cX4_number 20 = .ok (.aload_n 0, 1) := by decide +kernel
theorem dX4_number_21 : decode cX4_number 21 = .ok (.dup, 1) := by decide +kernel
theorem dX4_number_22 : decode cX4_number 22 = .ok (.getfield 45, 3) := by decide +kernel
theorem dX4_number_25 : decode cX4_number 25 = .ok (.dup_x1, 1) := by decide +kernel
theorem dX4_number_26 : decode cX4_number 26 = .ok (.iconst 1, 1) := by decide +kernel
theorem dX4_number_27 : decode cX4_number 27 = .ok (.iadd, 1) := by decide +kernel
theorem dX4_number_28 : decode cX4_number 28 = .ok (.putfield 45, 3) := by decide +kernel
theorem dX4_number_31 : decode cX4_number 31 = .ok (.lload_n 3, 1) := by decide +kernel
theorem dX4_number_32 : decode cX4_number 32 = .ok (.ldc2_w 43, 3) := by decide +kernel
theorem dX4_number_35 : decode cX4_number 35 = .ok (.land, 1) := by decide +kernel
theorem dX4_number_36 : decode cX4_number 36 = .ok (.ldc2_w 48, 3) := by decide +kernel
theorem dX4_number_39 : decode cX4_number 39 = .ok (.lor, 1) := by decide +kernel
theorem dX4_number_40 : decode cX4_number 40 = .ok (.l2i, 1) := by decide +kernel
theorem dX4_number_41 : decode cX4_number 41 = .ok (.i2b, 1) := by decide +kernel
theorem dX4_number_42 : decode cX4_number 42 = .ok (.bastore, 1) := by decide +kernel
theorem dX4_number_43 : decode cX4_number 43 = .ok (.lload_n 3, 1) := by decide +kernel
theorem dX4_number_44 : decode cX4_number 44 = .ok (.bipush 7, 2) := by decide +kernel
theorem dX4_number_46 : decode cX4_number 46 = .ok (.lushr, 1) := by decide +kernel
theorem dX4_number_47 : decode cX4_number 47 = .ok (.lstore_n 3, 1) := by decide +kernel
theorem dX4_number_48 : decode cX4_number 48 = .ok (.goto (-46), 3) := by decide +kernel
theorem dX4_number_51 : decode cX4_number 51 = .ok (.aload_n 0, 1) := by decide +kernel
theorem dX4_number_52 : decode cX4_number 52 = .ok (.getfield 17, 3) := by decide +kernel
theorem dX4_number_55 : decode cX4_number 55 = .ok (.aload_n 0, 1) := by decide +kernel
theorem dX4_number_56 : decode cX4_number 56 = .ok (.dup, 1) := by decide +kernel
theorem dX4_number_57 : decode cX4_number 57 = .ok (.getfield 45, 3) := by decide +kernel
theorem dX4_number_60 : decode cX4_number 60 = .ok (.dup_x1, 1) := by decide +kernel
theorem dX4_number_61 : decode cX4_number 61 = .ok (.iconst 1, 1) := by decide +kernel
theorem dX4_number_62 : decode cX4_number 62 = .ok (.iadd, 1) := by decide +kernel
theorem dX4_number_63 : decode cX4_number 63 = .ok (.putfield 45, 3) := by decide +kernel
theorem dX4_number_66 : decode cX4_number 66 = .ok (.lload_n 3, 1) := by decide +kernel
theorem dX4_number_67 : decode cX4_number 67 = .ok (.l2i, 1) := by decide +kernel
theorem dX4_number_68 : decode cX4_number 68 = .ok (.i2b, 1) := by decide +kernel
theorem dX4_number_69 : decode cX4_number 69 = .ok (.bastore, 1) := by decide +kernel
theorem dX4_number_70 : decode cX4_number 70 = .ok (.return_, 1) := by decide +kernel
theorem dX4_fold_0 : decode cX4_fold 0 = .ok (.lload_n 0, 1) := by decide +kernel
theorem dX4_fold_1 : decode cX4_fold 1 = .ok (.lconst 0, 1) := by decide +kernel
theorem dX4_fold_2 : decode cX4_fold 2 = .ok (.lcmp, 1) := by decide +kernel
theorem dX4_fold_3 : decode cX4_fold 3 = .ok (.ifCond .lt 11, 3) := by decide +kernel
theorem dX4_fold_6 : decode cX4_fold 6 = .ok (.ldc2_w 50, 3) := by decide +kernel
theorem dX4_fold_9 : decode cX4_fold 9 = .ok (.lload_n 0, 1) := by decide +kernel
theorem dX4_fold_10 : decode cX4_fold 10 = .ok (.lmul, 1) := by decide +kernel
theorem dX4_fold_11 : decode cX4_fold 11 = .ok (.goto 10, 3) := by decide +kernel
theorem dX4_fold_14 : decode cX4_fold 14 = .ok (.ldc2_w 52, 3) := by decide +kernel
theorem dX4_fold_17 : decode cX4_fold 17 = .ok (.lload_n 0, 1) := by decide +kernel
theorem dX4_fold_18 : decode cX4_fold 18 = .ok (.lmul, 1) := by decide +kernel
theorem dX4_fold_19 : decode cX4_fold 19 = .ok (.lconst 1, 1) := by decide +kernel
theorem dX4_fold_20 : decode cX4_fold 20 = .ok (.lsub, 1) := by decide +kernel
theorem dX4_fold_21 : decode cX4_fold 21 = .ok (.lreturn, 1) := by decide +kernel
theorem dX4_unfold_0 : decode cX4_unfold 0 = .ok (.lload_n 0, 1) := by decide +kernel
theorem dX4_unfold_1 : decode cX4_unfold 1 = .ok (.lconst 1, 1) := by decide +kernel
theorem dX4_unfold_2 : decode cX4_unfold 2 = .ok (.land, 1) := by decide +kernel
theorem dX4_unfold_3 : decode cX4_unfold 3 = .ok (.lconst 0, 1) := by decide +kernel
theorem dX4_unfold_4 : decode cX4_unfold 4 = .ok (.lcmp, 1) := by decide +kernel
theorem dX4_unfold_5 : decode cX4_unfold 5 = .ok (.ifCond .ne 9, 3) := by decide +kernel
theorem dX4_unfold_8 : decode cX4_unfold 8 = .ok (.lload_n 0, 1) := by decide +kernel
theorem dX4_unfold_9 : decode cX4_unfold 9 = .ok (.iconst 1, 1) := by decide +kernel
theorem dX4_unfold_10 : decode cX4_unfold 10 = .ok (.lushr, 1) := by decide +kernel
theorem dX4_unfold_11 : decode cX4_unfold 11 = .ok (.goto 9, 3) := by decide +kernel
theorem dX4_unfold_14 : decode cX4_unfold 14 = .ok (.lload_n 0, 1) := by decide +kernel
theorem dX4_unfold_15 : decode cX4_unfold 15 = .ok (.iconst 1, 1) := by decide +kernel
theorem dX4_unfold_16 : decode cX4_unfold 16 = .ok (.lushr, 1) := by decide +kernel
theorem dX4_unfold_17 : decode cX4_unfold 17 = .ok (.lneg, 1) := by decide +kernel
theorem dX4_unfold_18 : decode cX4_unfold 18 = .ok (.lconst 1, 1) := by decide +kernel
theorem dX4_unfold_19 : decode cX4_unfold 19 = .ok (.lsub, 1) := by decide +kernel
theorem dX4_unfold_20 : decode cX4_unfold 20 = .ok (.lreturn, 1) := by decide +kernel
theorem dX4_sum_0 : decode cX4_sum 0 = .ok (.iconst (-1), 1) := by decide +kernel
theorem dX4_sum_1 : decode cX4_sum 1 = .ok (.istore_n 3, 1) := by decide +kernel
theorem dX4_sum_2 : decode cX4_sum 2 = .ok (.iload_n 1, 1) := by decide +kernel
theorem dX4_sum_3 : decode cX4_sum 3 = .ok (.istore 4, 2) := by decide +kernel
theorem dX4_sum_5 : decode cX4_sum 5 = .ok (.iload 4, 2) := by decide +kernel
theorem dX4_sum_7 : decode cX4_sum 7 = .ok (.iload_n 2, 1) := by decide +kernel
theorem dX4_sum_8 : decode cX4_sum 8 = .ok (.if_icmp .ge 58, 3) := by decide +kernel
theorem dX4_sum_11 : decode cX4_sum 11 = .ok (.iconst 0, 1) := by decide +kernel
theorem dX4_sum_12 : decode cX4_sum 12 = .ok (.istore 5, 2) := by decide +kernel
theorem dX4_sum_14 : decode cX4_sum 14 = .ok (.iload 5, 2) := by decide +kernel
theorem dX4_sum_16 : decode cX4_sum 16 = .ok (.bipush 8, 2) := by decide +kernel
theorem dX4_sum_18 : decode cX4_sum 18 = .ok (.if_icmp .ge 42, 3) := by decide +kernel
theorem dX4_sum_21 : decode cX4_sum 21 = .ok (.aload_n 0, 1) := by decide +kernel
theorem dX4_sum_22 : decode cX4_sum 22 = .ok (.getfield 17, 3) := by decide +kernel
theorem dX4_sum_25 : decode cX4_sum 25 = .ok (.iload 4, 2) := by decide +kernel
theorem dX4_sum_27 : decode cX4_sum 27 = .ok (.baload, 1) := by decide +kernel
theorem dX4_sum_28 : decode cX4_sum 28 = .ok (.iload 5, 2) := by decide +kernel
theorem dX4_sum_30 : decode cX4_sum 30 = .ok (.ishr, 1) := by decide +kernel
theorem dX4_sum_31 : decode cX4_sum 31 = .ok (.iload_n 3, 1) := by decide +kernel
theorem dX4_sum_32 : decode cX4_sum 32 = .ok (.ixor, 1) := by decide +kernel
theorem dX4_sum_33 : decode cX4_sum 33 = .ok (.iconst 1, 1) := by decide +kernel
theorem dX4_sum_34 : decode cX4_sum 34 = .ok (.iand, 1) := by decide +kernel
theorem dX4_sum_35 : decode cX4_sum 35 = .ok (.istore 6, 2) := by decide +kernel
theorem dX4_sum_37 : decode cX4_sum 37 = .ok (.iload_n 3, 1) := by decide +kernel
theorem dX4_sum_38 : decode cX4_sum 38 = .ok (.iconst 1, 1) := by decide +kernel
theorem dX4_sum_39 : decode cX4_sum 39 = .ok (.iushr, 1) := by decide +kernel
theorem dX4_sum_40 : decode cX4_sum 40 = .ok (.iload 6, 2) := by decide +kernel
theorem dX4_sum_42 : decode cX4_sum 42 = .ok (.iconst 1, 1) := by decide +kernel
theorem dX4_sum_43 : decode cX4_sum 43 = .ok (.if_icmp .ne 8, 3) := by decide +kernel
theorem dX4_sum_46 : decode cX4_sum 46 = .ok (.ldc 54, 2) := by decide +kernel
theorem dX4_sum_48 : decode cX4_sum 48 = .ok (.goto 4, 3) := by decide +kernel
theorem dX4_sum_51 : decode cX4_sum 51 = .ok (.iconst 0, 1) := by decide +kernel
theorem dX4_sum_52 : decode cX4_sum 52 = .ok (.ixor, 1) := by decide +kernel
theorem dX4_sum_53 : decode cX4_sum 53 = .ok (.istore_n 3, 1) := by decide +kernel
theorem dX4_sum_54 : decode cX4_sum 54 = .ok (.iinc 5 1, 3) := by decide +kernel
theorem dX4_sum_57 : decode cX4_sum 57 = .ok (.goto (-43), 3) := by decide +kernel
theorem dX4_sum_60 : decode cX4_sum 60 = .ok (.iinc 4 1, 3) := by decide +kernel
theorem dX4_sum_63 : decode cX4_sum 63 = .ok (.goto (-58), 3) := by decide +kernel
theorem dX4_sum_66 : decode cX4_sum 66 = .ok (.iload_n 3, 1) := by decide +kernel
theorem dX4_sum_67 : decode cX4_sum 67 = .ok (.iconst (-1), 1) := by decide +kernel
theorem dX4_sum_68 : decode cX4_sum 68 = .ok (.ixor, 1) := by decide +kernel
theorem dX4_sum_69 : decode cX4_sum 69 = .ok (.ireturn, 1) := by decide +kernel
theorem dX4_seal_0 : decode cX4_seal 0 = .ok (.aload_n 0, 1) := by decide +kernel
theorem dX4_seal_1 : decode cX4_seal 1 = .ok (.iload_n 1, 1) := by decide +kernel
theorem dX4_seal_2 : decode cX4_seal 2 = .ok (.aload_n 0, 1) := by decide +kernel
theorem dX4_seal_3 : decode cX4_seal 3 = .ok (.getfield 45, 3) := by decide +kernel
theorem dX4_seal_6 : decode cX4_seal 6 = .ok (.invokevirtual 55, 3) := by decide +kernel
theorem dX4_seal_9 : decode cX4_seal 9 = .ok (.istore_n 2, 1) := by decide +kernel
theorem dX4_seal_10 : decode cX4_seal 10 = .ok (.iconst 0, 1) := by decide +kernel
theorem dX4_seal_11 : decode cX4_seal 11 = .ok (.istore_n 3, 1) := by decide +kernel
theorem dX4_seal_12 : decode cX4_seal 12 = .ok (.iload_n 3, 1) := by decide +kernel
theorem dX4_seal_13 : decode cX4_seal 13 = .ok (.iconst 4, 1) := by decide +kernel
theorem dX4_seal_14 : decode cX4_seal 14 = .ok (.if_icmp .ge 32, 3) := by decide +kernel
theorem dX4_seal_17 : decode cX4_seal 17 = .ok (.aload_n 0, 1) := by decide +kernel
theorem dX4_seal_18 : decode cX4_seal 18 = .ok (.getfield 17, 3) := by decide +kernel
theorem dX4_seal_21 : decode cX4_seal 21 = .ok (.aload_n 0, 1) := by decide +kernel
theorem dX4_seal_22 : decode cX4_seal 22 = .ok (.dup, 1) := by decide +kernel
theorem dX4_seal_23 : decode cX4_seal 23 = .ok (.getfield 45, 3) := by decide +kernel
theorem dX4_seal_26 : decode cX4_seal 26 = .ok (.dup_x1, 1) := by decide +kernel
theorem dX4_seal_27 : decode cX4_seal 27 = .ok (.iconst 1, 1) := by decide +kernel
theorem dX4_seal_28 : decode cX4_seal 28 = .ok (.iadd, 1) := by decide +kernel
theorem dX4_seal_29 : decode cX4_seal 29 = .ok (.putfield 45, 3) := by decide +kernel
theorem dX4_seal_32 : decode cX4_seal 32 = .ok (.iload_n 2, 1) := by decide +kernel
theorem dX4_seal_33 : decode cX4_seal 33 = .ok (.bipush 8, 2) := by decide +kernel
theorem dX4_seal_35 : decode cX4_seal 35 = .ok (.iload_n 3, 1) := by decide +kernel
theorem dX4_seal_36 : decode cX4_seal 36 = .ok (.imul, 1) := by decide +kernel
theorem dX4_seal_37 : decode cX4_seal 37 = .ok (.ishr, 1) := by decide +kernel
theorem dX4_seal_38 : decode cX4_seal 38 = .ok (.i2b, 1) := by decide +kernel
theorem dX4_seal_39 : decode cX4_seal 39 = .ok (.bastore, 1) := by decide +kernel
theorem dX4_seal_40 : decode cX4_seal 40 = .ok (.iinc 3 1, 3) := by decide +kernel
theorem dX4_seal_43 : decode cX4_seal 43 = .ok (.goto (-31), 3) := by decide +kernel
theorem dX4_seal_46 : decode cX4_seal 46 = .ok (.return_, 1) := by decide +kernel
theorem dX4_isSealed_0 : decode cX4_isSealed 0 = .ok (.aload_n 0, 1) := by decide +kernel
theorem dX4_isSealed_1 : decode cX4_isSealed 1 = .ok (.iload_n 1, 1) := by decide +kernel
theorem dX4_isSealed_2 : decode cX4_isSealed 2 = .ok (.iload_n 2, 1) := by decide +kernel
theorem dX4_isSealed_3 : decode cX4_isSealed 3 = .ok (.invokevirtual 55, 3) := by decide +kernel
theorem dX4_isSealed_6 : decode cX4_isSealed 6 = .ok (.istore_n 3, 1) := by decide +kernel
theorem dX4_isSealed_7 : decode cX4_isSealed 7 = .ok (.iconst 0, 1) := by decide +kernel
theorem dX4_isSealed_8 : decode cX4_isSealed 8 = .ok (.istore 4, 2) := by decide +kernel
theorem dX4_isSealed_10 : decode cX4_isSealed 10 = .ok (.iload 4, 2) := by decide +kernel
theorem dX4_isSealed_12 : decode cX4_isSealed 12 = .ok (.iconst 4, 1) := by decide +kernel
theorem dX4_isSealed_13 : decode cX4_isSealed 13 = .ok (.if_icmp .ge 31, 3) := by decide +kernel
theorem dX4_isSealed_16 : decode cX4_isSealed 16 = .ok (.aload_n 0, 1) := by decide +kernel
theorem dX4_isSealed_17 : decode cX4_isSealed 17 = .ok (.getfield 17, 3) := by decide +kernel
theorem dX4_isSealed_20 : decode cX4_isSealed 20 = .ok (.iload_n 2, 1) := by decide +kernel
theorem dX4_isSealed_21 : decode cX4_isSealed 21 = .ok (.iload 4, 2) := by decide +kernel
theorem dX4_isSealed_23 : decode cX4_isSealed 23 = .ok (.iadd, 1) := by decide +kernel
theorem dX4_isSealed_24 : decode cX4_isSealed 24 = .ok (.baload, 1) := by decide +kernel
theorem dX4_isSealed_25 : decode cX4_isSealed 25 = .ok (.iload_n 3, 1) := by decide +kernel
theorem dX4_isSealed_26 : decode cX4_isSealed 26 = .ok (.bipush 8, 2) := by decide +kernel
theorem dX4_isSealed_28 : decode cX4_isSealed 28 = .ok (.iload 4, 2) := by decide +kernel
theorem dX4_isSealed_30 : decode cX4_isSealed 30 = .ok (.imul, 1) := by decide +kernel
theorem dX4_isSealed_31 : decode cX4_isSealed 31 = .ok (.ishr, 1) := by decide +kernel
theorem dX4_isSealed_32 : decode cX4_isSealed 32 = .ok (.i2b, 1) := by decide +kernel
theorem dX4_isSealed_33 : decode cX4_isSealed 33 = .ok (.if_icmp .eq 5, 3) := by decide +kernel
theorem dX4_isSealed_36 : decode cX4_isSealed 36 = .ok (.iconst 0, 1) := by decide +kernel
theorem dX4_isSealed_37 : decode cX4_isSealed 37 = .ok (.ireturn, 1) := by decide +kernel
theorem dX4_isSealed_38 : decode cX4_isSealed 38 = .ok (.iinc 4 1, 3) := by decide +kernel
theorem dX4_isSealed_41 : decode cX4_isSealed 41 = .ok (.goto (-31), 3) := by decide +kernel
theorem dX4_isSealed_44 : decode cX4_isSealed 44 = .ok (.iconst 1, 1) := by decide +kernel
theorem dX4_isSealed_45 : decode cX4_isSealed 45 = .ok (.ireturn, 1) := by decide +kernel
theorem dX4_build_0 : decode cX4_build 0 = .ok (.iconst 0, 1) := by decide +kernel
theorem dX4_build_1 : decode cX4_build 1 = .ok (.istore_n 1, 1) := by decide +kernel
theorem dX4_build_2 : decode cX4_build 2 = .ok (.aload_n 0, 1) := by decide +kernel
theorem dX4_build_3 : decode cX4_build 3 = .ok (.iconst 0, 1) := by decide +kernel
theorem dX4_build_4 : decode cX4_build 4 = .ok (.putfield 45, 3) := by decide +kernel
theorem dX4_build_7 : decode cX4_build 7 = .ok (.iconst 0, 1) := by decide +kernel
theorem dX4_build_8 : decode cX4_build 8 = .ok (.istore_n 2, 1) := by decide +kernel
theorem dX4_build_9 : decode cX4_build 9 = .ok (.iload_n 2, 1) := by decide +kernel
theorem dX4_build_10 : decode cX4_build 10 = .ok (.aload_n 0, 1) := by decide +kernel
theorem dX4_build_11 : decode cX4_build 11 = .ok (.getfield 59, 3) := by decide +kernel
theorem dX4_build_14 : decode cX4_build 14 = .ok (.if_icmp .ge 132, 3) := by decide +kernel
theorem dX4_build_17 : decode cX4_build 17 = .ok (.aload_n 0, 1) := by decide +kernel
theorem dX4_build_18 : decode cX4_build 18 = .ok (.getfield 45, 3) := by decide +kernel
theorem dX4_build_21 : decode cX4_build 21 = .ok (.istore_n 3, 1) := by decide +kernel
theorem dX4_build_22 : decode cX4_build 22 = .ok (.iload_n 2, 1) := by decide +kernel
theorem dX4_build_23 : decode cX4_build 23 = .ok (.istore 4, 2) := by decide +kernel
end
section
/-! decode rows -/
theorem dX4_build_25 : decode cX4_build 25 = .ok (.iload 4, 2) := by decide +kernel
theorem dX4_build_27 : decode cX4_build 27 = .ok (.aload_n 0, 1) := by decide +kernel
theorem dX4_build_28 : decode cX4_build 28 = .ok (.getfield 59, 3) := by decide +kernel
theorem dX4_build_31 : decode cX4_build 31 = .ok (.if_icmp .ge 77, 3) := by decide +kernel
theorem dX4_build_34 : decode cX4_build 34 = .ok (.iload 4, 2) := by decide +kernel
theorem dX4_build_36 : decode cX4_build 36 = .ok (.iload_n 2, 1) := by decide +kernel
theorem dX4_build_37 : decode cX4_build 37 = .ok (.bipush 8, 2) := by decide +kernel
theorem dX4_build_39 : decode cX4_build 39 = .ok (.iadd, 1) := by decide +kernel
theorem dX4_build_40 : decode cX4_build 40 = .ok (.if_icmp .ge 68, 3) := by decide +kernel
theorem dX4_build_43 : decode cX4_build 43 = .ok (.aload_n 0, 1) := by decide +kernel
theorem dX4_build_44 : decode cX4_build 44 = .ok (.iload 4, 2) := by decide +kernel
theorem dX4_build_46 : decode cX4_build 46 = .ok (.iload_n 2, 1) := by decide +kernel
theorem dX4_build_47 : decode cX4_build 47 = .ok (.if_icmp .ne 17, 3) := by decide +kernel
theorem dX4_build_50 : decode cX4_build 50 = .ok (.aload_n 0, 1) := by decide +kernel
theorem dX4_build_51 : decode cX4_build 51 = .ok (.getfield 9, 3) := by decide +kernel
theorem dX4_build_54 : decode cX4_build 54 = .ok (.iload 4, 2) := by decide +kernel
theorem dX4_build_56 : decode cX4_build 56 = .ok (.iaload, 1) := by decide +kernel
theorem dX4_build_57 : decode cX4_build 57 = .ok (.i2l, 1) := by decide +kernel
theorem dX4_build_58 : decode cX4_build 58 = .ok (.invokestatic 62, 3) := by decide +kernel
theorem dX4_build_61 : decode cX4_build 61 = .ok (.goto 24, 3) := by decide +kernel
theorem dX4_build_64 : decode cX4_build 64 = .ok (.aload_n 0, 1) := by decide +kernel
theorem dX4_build_65 : decode cX4_build 65 = .ok (.getfield 9, 3) := by decide +kernel
theorem dX4_build_68 : decode cX4_build 68 = .ok (.iload 4, 2) := by decide +kernel
theorem dX4_build_70 : decode cX4_build 70 = .ok (.iaload, 1) := by decide +kernel
theorem dX4_build_71 : decode cX4_build 71 = .ok (.i2l, 1) := by decide +kernel
theorem dX4_build_72 : decode cX4_build 72 = .ok (.aload_n 0, 1) := by decide +kernel
theorem dX4_build_73 : decode cX4_build 73 = .ok (.getfield 9, 3) := by decide +kernel
theorem dX4_build_76 : decode cX4_build 76 = .ok (.iload 4, 2) := by decide +kernel
theorem dX4_build_78 : decode cX4_build 78 = .ok (.iconst 1, 1) := by decide +kernel
theorem dX4_build_79 : decode cX4_build 79 = .ok (.isub, 1) := by decide +kernel
theorem dX4_build_80 : decode cX4_build 80 = .ok (.iaload, 1) := by decide +kernel
theorem dX4_build_81 : decode cX4_build 81 = .ok (.i2l, 1) := by decide +kernel
theorem dX4_build_82 : decode cX4_build 82 = .ok (.lsub, 1) := by decide +kernel
theorem dX4_build_83 : decode cX4_build 83 = .ok (.lconst 1, 1) := by decide +kernel
theorem dX4_build_84 : decode cX4_build 84 = .ok (.lsub, 1) := by decide +kernel
theorem dX4_build_85 : decode cX4_build 85 = .ok (.invokevirtual 66, 3) := by decide +kernel
theorem dX4_build_88 : decode cX4_build 88 = .ok (.aload_n 0, 1) := by decide +kernel
theorem dX4_build_89 : decode cX4_build 89 = .ok (.aload_n 0, 1) := by decide +kernel
theorem dX4_build_90 : decode cX4_build 90 = .ok (.getfield 13, 3) := by decide +kernel
theorem dX4_build_93 : decode cX4_build 93 = .ok (.iload 4, 2) := by decide +kernel
theorem dX4_build_95 : decode cX4_build 95 = .ok (.laload, 1) := by decide +kernel
theorem dX4_build_96 : decode cX4_build 96 = .ok (.invokestatic 62, 3) := by decide +kernel
theorem dX4_build_99 : decode cX4_build 99 = .ok (.invokevirtual 66, 3) := by decide +kernel
theorem dX4_build_102 : decode cX4_build 102 = .ok (.iinc 4 1, 3) := by decide +kernel
theorem dX4_build_105 : decode cX4_build 105 = .ok (.goto (-80), 3) := by decide +kernel
theorem dX4_build_108 : decode cX4_build 108 = .ok (.aload_n 0, 1) := by decide +kernel
theorem dX4_build_109 : decode cX4_build 109 = .ok (.iload_n 3, 1) := by decide +kernel
theorem dX4_build_110 : decode cX4_build 110 = .ok (.invokevirtual 70, 3) := by decide +kernel
theorem dX4_build_113 : decode cX4_build 113 = .ok (.aload_n 0, 1) := by decide +kernel
theorem dX4_build_114 : decode cX4_build 114 = .ok (.getfield 24, 3) := by decide +kernel
theorem dX4_build_117 : decode cX4_build 117 = .ok (.iload_n 1, 1) := by decide +kernel
theorem dX4_build_118 : decode cX4_build 118 = .ok (.aload_n 0, 1) := by decide +kernel
theorem dX4_build_119 : decode cX4_build 119 = .ok (.getfield 45, 3) := by decide +kernel
theorem dX4_build_122 : decode cX4_build 122 = .ok (.iload_n 3, 1) := by decide +kernel
theorem dX4_build_123 : decode cX4_build 123 = .ok (.isub, 1) := by decide +kernel
theorem dX4_build_124 : decode cX4_build 124 = .ok (.iastore, 1) := by decide +kernel
theorem dX4_build_125 : decode cX4_build 125 = .ok (.aload_n 0, 1) := by decide +kernel
theorem dX4_build_126 : decode cX4_build 126 = .ok (.getfield 27, 3) := by decide +kernel
theorem dX4_build_129 : decode cX4_build 129 = .ok (.iload_n 1, 1) := by decide +kernel
theorem dX4_build_130 : decode cX4_build 130 = .ok (.aload_n 0, 1) := by decide +kernel
theorem dX4_build_131 : decode cX4_build 131 = .ok (.getfield 9, 3) := by decide +kernel
theorem dX4_build_134 : decode cX4_build 134 = .ok (.iload_n 2, 1) := by decide +kernel
theorem dX4_build_135 : decode cX4_build 135 = .ok (.iaload, 1) := by decide +kernel
theorem dX4_build_136 : decode cX4_build 136 = .ok (.iastore, 1) := by decide +kernel
theorem dX4_build_137 : decode cX4_build 137 = .ok (.iinc 1 1, 3) := by decide +kernel
theorem dX4_build_140 : decode cX4_build 140 = .ok (.iinc 2 8, 3) := by decide +kernel
theorem dX4_build_143 : decode cX4_build 143 = .ok (.goto (-134), 3) := by decide +kernel
theorem dX4_build_146 : decode cX4_build 146 = .ok (.aload_n 0, 1) := by decide +kernel
theorem dX4_build_147 : decode cX4_build 147 = .ok (.getfield 45, 3) := by decide +kernel
theorem dX4_build_150 : decode cX4_build 150 = .ok (.istore_n 2, 1) := by decide +kernel
theorem dX4_build_151 : decode cX4_build 151 = .ok (.aload_n 0, 1) := by decide +kernel
theorem dX4_build_152 : decode cX4_build 152 = .ok (.iload_n 1, 1) := by decide +kernel
theorem dX4_build_153 : decode cX4_build 153 = .ok (.i2l, 1) := by decide +kernel
theorem dX4_build_154 : decode cX4_build 154 = .ok (.invokevirtual 66, 3) := by decide +kernel
theorem dX4_build_157 : decode cX4_build 157 = .ok (.iconst 0, 1) := by decide +kernel
theorem dX4_build_158 : decode cX4_build 158 = .ok (.istore_n 3, 1) := by decide +kernel
theorem dX4_build_159 : decode cX4_build 159 = .ok (.iload_n 3, 1) := by decide +kernel
theorem dX4_build_160 : decode cX4_build 160 = .ok (.iload_n 1, 1) := by decide +kernel
theorem dX4_build_161 : decode cX4_build 161 = .ok (.if_icmp .ge 34, 3) := by decide +kernel
theorem dX4_build_164 : decode cX4_build 164 = .ok (.aload_n 0, 1) := by decide +kernel
theorem dX4_build_165 : decode cX4_build 165 = .ok (.aload_n 0, 1) := by decide +kernel
theorem dX4_build_166 : decode cX4_build 166 = .ok (.getfield 24, 3) := by decide +kernel
theorem dX4_build_169 : decode cX4_build 169 = .ok (.iload_n 3, 1) := by decide +kernel
theorem dX4_build_170 : decode cX4_build 170 = .ok (.iaload, 1) := by decide +kernel
theorem dX4_build_171 : decode cX4_build 171 = .ok (.i2l, 1) := by decide +kernel
theorem dX4_build_172 : decode cX4_build 172 = .ok (.invokevirtual 66, 3) := by decide +kernel
theorem dX4_build_175 : decode cX4_build 175 = .ok (.aload_n 0, 1) := by decide +kernel
theorem dX4_build_176 : decode cX4_build 176 = .ok (.aload_n 0, 1) := by decide +kernel
theorem dX4_build_177 : decode cX4_build 177 = .ok (.getfield 27, 3) := by decide +kernel
theorem dX4_build_180 : decode cX4_build 180 = .ok (.iload_n 3, 1) := by decide +kernel
theorem dX4_build_181 : decode cX4_build 181 = .ok (.iaload, 1) := by decide +kernel
theorem dX4_build_182 : decode cX4_build 182 = .ok (.i2l, 1) := by decide +kernel
theorem dX4_build_183 : decode cX4_build 183 = .ok (.invokestatic 62, 3) := by decide +kernel
theorem dX4_build_186 : decode cX4_build 186 = .ok (.invokevirtual 66, 3) := by decide +kernel
theorem dX4_build_189 : decode cX4_build 189 = .ok (.iinc 3 1, 3) := by decide +kernel
theorem dX4_build_192 : decode cX4_build 192 = .ok (.goto (-33), 3) := by decide +kernel
theorem dX4_build_195 : decode cX4_build 195 = .ok (.aload_n 0, 1) := by decide +kernel
theorem dX4_build_196 : decode cX4_build 196 = .ok (.getfield 45, 3) := by decide +kernel
theorem dX4_build_199 : decode cX4_build 199 = .ok (.iload_n 2, 1) := by decide +kernel
theorem dX4_build_200 : decode cX4_build 200 = .ok (.isub, 1) := by decide +kernel
theorem dX4_build_201 : decode cX4_build 201 = .ok (.istore_n 3, 1) := by decide +kernel
theorem dX4_build_202 : decode cX4_build 202 = .ok (.aload_n 0, 1) := by decide +kernel
theorem dX4_build_203 : decode cX4_build 203 = .ok (.iload_n 2, 1) := by decide +kernel
theorem dX4_build_204 : decode cX4_build 204 = .ok (.invokevirtual 70, 3) := by decide +kernel
theorem dX4_build_207 : decode cX4_build 207 = .ok (.bipush 24, 2) := by decide +kernel
theorem dX4_build_209 : decode cX4_build 209 = .ok (.istore 4, 2) := by decide +kernel
theorem dX4_build_211 : decode cX4_build 211 = .ok (.iload 4, 2) := by decide +kernel
theorem dX4_build_213 : decode cX4_build 213 = .ok (.ifCond .lt 30, 3) := by decide +kernel
theorem dX4_build_216 : decode cX4_build 216 = .ok (.aload_n 0, 1) := by decide +kernel
theorem dX4_build_217 : decode cX4_build 217 = .ok (.getfield 17, 3) := by decide +kernel
theorem dX4_build_220 : decode cX4_build 220 = .ok (.aload_n 0, 1) := by decide +kernel
theorem dX4_build_221 : decode cX4_build 221 = .ok (.dup, 1) := by decide +kernel
theorem dX4_build_222 : decode cX4_build 222 = .ok (.getfield 45, 3) := by decide +kernel
theorem dX4_build_225 : decode cX4_build 225 = .ok (.dup_x1, 1) := by decide +kernel
theorem dX4_build_226 : decode cX4_build 226 = .ok (.iconst 1, 1) := by decide +kernel
theorem dX4_build_227 : decode cX4_build 227 = .ok (.iadd, 1) := by decide +kernel
theorem dX4_build_228 : decode cX4_build 228 = .ok (.putfield 45, 3) := by decide +kernel
theorem dX4_build_231 : decode cX4_build 231 = .ok (.iload_n 3, 1) := by decide +kernel
theorem dX4_build_232 : decode cX4_build 232 = .ok (.iload 4, 2) := by decide +kernel
theorem dX4_build_234 : decode cX4_build 234 = .ok (.ishr, 1) := by decide +kernel
theorem dX4_build_235 : decode cX4_build 235 = .ok (.i2b, 1) := by decide +kernel
theorem dX4_build_236 : decode cX4_build 236 = .ok (.bastore, 1) := by decide +kernel
theorem dX4_build_237 : decode cX4_build 237 = .ok (.iinc 4 (-8), 3) := by decide +kernel
theorem dX4_build_240 : decode cX4_build 240 = .ok (.goto (-29), 3) := by decide +kernel
theorem dX4_build_243 : decode cX4_build 243 = .ok (.aload_n 0, 1) := by decide +kernel
theorem dX4_build_244 : decode cX4_build 244 = .ok (.iconst 0, 1) := by decide +kernel
theorem dX4_build_245 : decode cX4_build 245 = .ok (.putfield 59, 3) := by decide +kernel
theorem dX4_build_248 : decode cX4_build 248 = .ok (.aload_n 0, 1) := by decide +kernel
theorem dX4_build_249 : decode cX4_build 249 = .ok (.iconst 0, 1) := by decide +kernel
theorem dX4_build_250 : decode cX4_build 250 = .ok (.putfield 74, 3) := by decide +kernel
theorem dX4_build_253 : decode cX4_build 253 = .ok (.return_, 1) := by decide +kernel
theorem dX4_read_0 : decode cX4_read 0 = .ok (.lconst 0, 1) := by decide +kernel
theorem dX4_read_1 : decode cX4_read 1 = .ok (.lstore_n 1, 1) := by decide +kernel
theorem dX4_read_2 : decode cX4_read 2 = .ok (.iconst 0, 1) := by decide +kernel
theorem dX4_read_3 : decode cX4_read 3 = .ok (.istore_n 3, 1) := by decide +kernel
theorem dX4_read_4 : decode cX4_read 4 = .ok (.aload_n 0, 1) := by decide +kernel
theorem dX4_read_5 : decode cX4_read 5 = .ok (.getfield 78, 3) := by decide +kernel
theorem dX4_read_8 : decode cX4_read 8 = .ok (.aload_n 0, 1) := by decide +kernel
theorem dX4_read_9 : decode cX4_read 9 = .ok (.getfield 81, 3) := by decide +kernel
theorem dX4_read_12 : decode cX4_read 12 = .ok (.if_icmp .ne 10, 3) := by decide +kernel
theorem dX4_read_15 : decode cX4_read 15 = .ok (.aload_n 0, 1) := by decide +kernel
theorem dX4_read_16 : decode cX4_read 16 = .ok (.iconst 1, 1) := by decide +kernel
theorem dX4_read_17 : decode cX4_read 17 = .ok (.putfield 84, 3) := by decide +kernel
theorem dX4_read_20 : decode cX4_read 20 = .ok (.lconst 0, 1) := by decide +kernel
theorem dX4_read_21 : decode cX4_read 21 = .ok (.lreturn, 1) := by decide +kernel
theorem dX4_read_22 : decode cX4_read 22 = .ok (.aload_n 0, 1) := by decide +kernel
theorem dX4_read_23 : decode cX4_read 23 = .ok (.getfield 17, 3) := by decide +kernel
theorem dX4_read_26 : decode cX4_read 26 = .ok (.aload_n 0, 1) := by decide +kernel
theorem dX4_read_27 : decode cX4_read 27 = .ok (.getfield 78, 3) := by decide +kernel
theorem dX4_read_30 : decode cX4_read 30 = .ok (.baload, 1) := by decide +kernel
theorem dX4_read_31 : decode cX4_read 31 = .ok (.bipush 127, 2) := by decide +kernel
theorem dX4_read_33 : decode cX4_read 33 = .ok (.iand, 1) := by decide +kernel
theorem dX4_read_34 : decode cX4_read 34 = .ok (.i2l, 1) := by decide +kernel
theorem dX4_read_35 : decode cX4_read 35 = .ok (.lstore 4, 2) := by decide +kernel
theorem dX4_read_37 : decode cX4_read 37 = .ok (.iload_n 3, 1) := by decide +kernel
theorem dX4_read_38 : decode cX4_read 38 = .ok (.bipush 63, 2) := by decide +kernel
theorem dX4_read_40 : decode cX4_read 40 = .ok (.if_icmp .gt 16, 3) := by decide +kernel
theorem dX4_read_43 : decode cX4_read 43 = .ok (.iload_n 3, 1) := by decide +kernel
theorem dX4_read_44 : decode cX4_read 44 = .ok (.bipush 63, 2) := by decide +kernel
theorem dX4_read_46 : decode cX4_read 46 = .ok (.if_icmp .ne 15, 3) := by decide +kernel
theorem dX4_read_49 : decode cX4_read 49 = .ok (.lload 4, 2) := by decide +kernel
theorem dX4_read_51 : decode cX4_read 51 = .ok (.lconst 1, 1) := by decide +kernel
theorem dX4_read_52 : decode cX4_read 52 = .ok (.lcmp, 1) := by decide +kernel
theorem dX4_read_53 : decode cX4_read 53 = .ok (.ifCond .le 8, 3) := by decide +kernel
theorem dX4_read_56 : decode cX4_read 56 = .ok (.aload_n 0, 1) := by decide +kernel
theorem dX4_read_57 : decode cX4_read 57 = .ok (.iconst 1, 1) := by decide +kernel
theorem dX4_read_58 : decode cX4_read 58 = .ok (.putfield 84, 3) := by decide +kernel
theorem dX4_read_61 : decode cX4_read 61 = .ok (.iload_n 3, 1) := by decide +kernel
theorem dX4_read_62 : decode cX4_read 62 = .ok (.bipush 63, 2) := by decide +kernel
theorem dX4_read_64 : decode cX4_read 64 = .ok (.if_icmp .gt 10, 3) := by decide +kernel
theorem dX4_read_67 : decode cX4_read 67 = .ok (.lload_n 1, 1) := by decide +kernel
theorem dX4_read_68 : decode cX4_read 68 = .ok (.lload 4, 2) := by decide +kernel
theorem dX4_read_70 : decode cX4_read 70 = .ok (.iload_n 3, 1) := by decide +kernel
theorem dX4_read_71 : decode cX4_read 71 = .ok (.lshl, 1) := by decide +kernel
theorem dX4_read_72 : decode cX4_read 72 = .ok (.lor, 1) := by decide +kernel
theorem dX4_read_73 : decode cX4_read 73 = .ok (.lstore_n 1, 1) := by decide +kernel
theorem dX4_read_74 : decode cX4_read 74 = .ok (.aload_n 0, 1) := by decide +kernel
theorem dX4_read_75 : decode cX4_read 75 = .ok (.dup, 1) := by decide +kernel
theorem dX4_read_76 : decode cX4_read 76 = .ok (.getfield 78, 3) := by decide +kernel
theorem dX4_read_79 : decode cX4_read 79 = .ok (.iconst 1, 1) := by decide +kernel
theorem dX4_read_80 : decode cX4_read 80 = .ok (.iadd, 1) := by decide +kernel
theorem dX4_read_81 : decode cX4_read 81 = .ok (.putfield 78, 3) := by decide +kernel
theorem dX4_read_84 : decode cX4_read 84 = .ok (.aload_n 0, 1) := by decide +kernel
theorem dX4_read_85 : decode cX4_read 85 = .ok (.getfield 17, 3) := by decide +kernel
theorem dX4_read_88 : decode cX4_read 88 = .ok (.aload_n 0, 1) := by decide +kernel
theorem dX4_read_89 : decode cX4_read 89 = .ok (.getfield 78, 3) := by decide +kernel
theorem dX4_read_92 : decode cX4_read 92 = .ok (.iconst 1, 1) := by decide +kernel
theorem dX4_read_93 : decode cX4_read 93 = .ok (.isub, 1) := by decide +kernel
theorem dX4_read_94 : decode cX4_read 94 = .ok (.baload, 1) := by decide +kernel
theorem dX4_read_95 : decode cX4_read 95 = .ok (.ifCond .lt 5, 3) := by decide +kernel
theorem dX4_read_98 : decode cX4_read 98 = .ok (.lload_n 1, 1) := by decide +kernel
theorem dX4_read_99 : decode cX4_read 99 = .ok (.lreturn, 1) := by decide +kernel
theorem dX4_read_100 : decode cX4_read 100 = .ok (.iinc 3 7, 3) := by decide +kernel
theorem dX4_read_103 : decode cX4_read 103 = .ok (.goto (-99), 3) := by decide +kernel
theorem dX4_small_0 : decode cX4_small 0 = .ok (.aload_n 0, 1) := by decide +kernel
theorem dX4_small_1 : decode cX4_small 1 = .ok (.invokevirtual 87, 3) := by decide +kernel
theorem dX4_small_4 : decode cX4_small 4 = .ok (.lstore_n 1, 1) := by decide +kernel
theorem dX4_small_5 : decode cX4_small 5 = .ok (.lload_n 1, 1) := by decide +kernel
theorem dX4_small_6 : decode cX4_small 6 = .ok (.lconst 0, 1) := by decide +kernel
theorem dX4_small_7 : decode cX4_small 7 = .ok (.lcmp, 1) := by decide +kernel
theorem dX4_small_8 : decode cX4_small 8 = .ok (.ifCond .lt 11, 3) := by decide +kernel
theorem dX4_small_11 : decode cX4_small 11 = .ok (.lload_n 1, 1) := by decide +kernel
theorem dX4_small_12 : decode cX4_small 12 = .ok (.ldc2_w 91, 3) := by decide +kernel
theorem dX4_small_15 : decode cX4_small 15 = .ok (.lcmp, 1) := by decide +kernel
theorem dX4_small_16 : decode cX4_small 16 = .ok (.ifCond .le 8, 3) := by decide +kernel
theorem dX4_small_19 : decode cX4_small 19 = .ok (.aload_n 0, 1) := by decide +kernel
theorem dX4_small_20 : decode cX4_small 20 = .ok (.iconst 1, 1) := by decide +kernel
theorem dX4_small_21 : decode cX4_small 21 = .ok (.putfield 84, 3) := by decide +kernel
theorem dX4_small_24 : decode cX4_small 24 = .ok (.lload_n 1, 1) := by decide +kernel
theorem dX4_small_25 : decode cX4_small 25 = .ok (.lreturn, 1) := by decide +kernel
theorem dX4_isIndex_0 : decode cX4_isIndex 0 = .ok (.aload_n 0, 1) := by decide +kernel
theorem dX4_isIndex_1 : decode cX4_isIndex 1 = .ok (.getfield 45, 3) := by decide +kernel
theorem dX4_isIndex_4 : decode cX4_isIndex 4 = .ok (.bipush 8, 2) := by decide +kernel
theorem dX4_isIndex_6 : decode cX4_isIndex 6 = .ok (.if_icmp .ge 5, 3) := by decide +kernel
theorem dX4_isIndex_9 : decode cX4_isIndex 9 = .ok (.iconst 0, 1) := by decide +kernel
theorem dX4_isIndex_10 : decode cX4_isIndex 10 = .ok (.ireturn, 1) := by decide +kernel
theorem dX4_isIndex_11 : decode cX4_isIndex 11 = .ok (.lconst 0, 1) := by decide +kernel
theorem dX4_isIndex_12 : decode cX4_isIndex 12 = .ok (.lstore_n 1, 1) := by decide +kernel
theorem dX4_isIndex_13 : decode cX4_isIndex 13 = .ok (.iconst 4, 1) := by decide +kernel
theorem dX4_isIndex_14 : decode cX4_isIndex 14 = .ok (.istore_n 3, 1) := by decide +kernel
theorem dX4_isIndex_15 : decode cX4_isIndex 15 = .ok (.iload_n 3, 1) := by decide +kernel
theorem dX4_isIndex_16 : decode cX4_isIndex 16 = .ok (.ifCond .le 31, 3) := by decide +kernel
theorem dX4_isIndex_19 : decode cX4_isIndex 19 = .ok (.lload_n 1, 1) := by decide +kernel
theorem dX4_isIndex_20 : decode cX4_isIndex 20 = .ok (.bipush 8, 2) := by decide +kernel
theorem dX4_isIndex_22 : decode cX4_isIndex 22 = .ok (.lshl, 1) := by decide +kernel
theorem dX4_isIndex_23 : decode cX4_isIndex 23 = .ok (.aload_n 0, 1) := by decide +kernel
theorem dX4_isIndex_24 : decode cX4_isIndex 24 = .ok (.getfield 17, 3) := by decide +kernel
theorem dX4_isIndex_27 : decode cX4_isIndex 27 = .ok (.aload_n 0, 1) := by decide +kernel
theorem dX4_isIndex_28 : decode cX4_isIndex 28 = .ok (.getfield 45, 3) := by decide +kernel
theorem dX4_isIndex_31 : decode cX4_isIndex 31 = .ok (.iload_n 3, 1) := by decide +kernel
theorem dX4_isIndex_32 : decode cX4_isIndex 32 = .ok (.isub, 1) := by decide +kernel
theorem dX4_isIndex_33 : decode cX4_isIndex 33 = .ok (.baload, 1) := by decide +kernel
theorem dX4_isIndex_34 : decode cX4_isIndex 34 = .ok (.sipush 255, 3) := by decide +kernel
theorem dX4_isIndex_37 : decode cX4_isIndex 37 = .ok (.iand, 1) := by decide +kernel
theorem dX4_isIndex_38 : decode cX4_isIndex 38 = .ok (.i2l, 1) := by decide +kernel
theorem dX4_isIndex_39 : decode cX4_isIndex 39 = .ok (.lor, 1) := by decide +kernel
theorem dX4_isIndex_40 : decode cX4_isIndex 40 = .ok (.lstore_n 1, 1) := by decide +kernel
theorem dX4_isIndex_41 : decode cX4_isIndex 41 = .ok (.iinc 3 (-1), 3) := by decide +kernel
theorem dX4_isIndex_44 : decode cX4_isIndex 44 = .ok (.goto (-29), 3) := by decide +kernel
theorem dX4_isIndex_47 : decode cX4_isIndex 47 = .ok (.lload_n 1, 1) := by decide +kernel
theorem dX4_isIndex_48 : decode cX4_isIndex 48 = .ok (.ldc2_w 93, 3) := by decide +kernel
theorem dX4_isIndex_51 : decode cX4_isIndex 51 = .ok (.ladd, 1) := by decide +kernel
theorem dX4_isIndex_52 : decode cX4_isIndex 52 = .ok (.aload_n 0, 1) := by decide +kernel
theorem dX4_isIndex_53 : decode cX4_isIndex 53 = .ok (.getfield 45, 3) := by decide +kernel
theorem dX4_isIndex_56 : decode cX4_isIndex 56 = .ok (.i2l, 1) := by decide +kernel
theorem dX4_isIndex_57 : decode cX4_isIndex 57 = .ok (.lcmp, 1) := by decide +kernel
theorem dX4_isIndex_58 : decode cX4_isIndex 58 = .ok (.ifCond .le 5, 3) := by decide +kernel
theorem dX4_isIndex_61 : decode cX4_isIndex 61 = .ok (.iconst 0, 1) := by decide +kernel
theorem dX4_isIndex_62 : decode cX4_isIndex 62 = .ok (.ireturn, 1) := by decide +kernel
theorem dX4_isIndex_63 : decode cX4_isIndex 63 = .ok (.aload_n 0, 1) := by decide +kernel
theorem dX4_isIndex_64 : decode cX4_isIndex 64 = .ok (.getfield 45, 3) := by decide +kernel
theorem dX4_isIndex_67 : decode cX4_isIndex 67 = .ok (.bipush 8, 2) := by decide +kernel
theorem dX4_isIndex_69 : decode cX4_isIndex 69 = .ok (.isub, 1) := by decide +kernel
theorem dX4_isIndex_70 : decode cX4_isIndex 70 = .ok (.lload_n 1, 1) := by decide +kernel
theorem dX4_isIndex_71 : decode cX4_isIndex 71 = .ok (.l2i, 1) := by decide +kernel
theorem dX4_isIndex_72 : decode cX4_isIndex 72 = .ok (.isub, 1) := by decide +kernel
theorem dX4_isIndex_73 : decode cX4_isIndex 73 = .ok (.istore_n 3, 1) := by decide +kernel
theorem dX4_isIndex_74 : decode cX4_isIndex 74 = .ok (.aload_n 0, 1) := by decide +kernel
theorem dX4_isIndex_75 : decode cX4_isIndex 75 = .ok (.iload_n 3, 1) := by decide +kernel
theorem dX4_isIndex_76 : decode cX4_isIndex 76 = .ok (.aload_n 0, 1) := by decide +kernel
theorem dX4_isIndex_77 : decode cX4_isIndex 77 = .ok (.getfield 45, 3) := by decide +kernel
theorem dX4_isIndex_80 : decode cX4_isIndex 80 = .ok (.bipush 8, 2) := by decide +kernel
theorem dX4_isIndex_82 : decode cX4_isIndex 82 = .ok (.isub, 1) := by decide +kernel
theorem dX4_isIndex_83 : decode cX4_isIndex 83 = .ok (.invokevirtual 95, 3) := by decide +kernel
theorem dX4_isIndex_86 : decode cX4_isIndex 86 = .ok (.ifCond .ne 5, 3) := by decide +kernel
theorem dX4_isIndex_89 : decode cX4_isIndex 89 = .ok (.iconst 0, 1) := by decide +kernel
theorem dX4_isIndex_90 : decode cX4_isIndex 90 = .ok (.ireturn, 1) := by decide +kernel
theorem dX4_isIndex_91 : decode cX4_isIndex 91 = .ok (.aload_n 0, 1) := by decide +kernel
theorem dX4_isIndex_92 : decode cX4_isIndex 92 = .ok (.iload_n 3, 1) := by decide +kernel
theorem dX4_isIndex_93 : decode cX4_isIndex 93 = .ok (.putfield 78, 3) := by decide +kernel
theorem dX4_isIndex_96 : decode cX4_isIndex 96 = .ok (.aload_n 0, 1) := by decide +kernel
theorem dX4_isIndex_97 : decode cX4_isIndex 97 = .ok (.aload_n 0, 1) := by decide +kernel
theorem dX4_isIndex_98 : decode cX4_isIndex 98 = .ok (.getfield 45, 3) := by decide +kernel
theorem dX4_isIndex_101 : decode cX4_isIndex 101 = .ok (.bipush 8, 2) := by decide +kernel
theorem dX4_isIndex_103 : decode cX4_isIndex 103 = .ok (.isub, 1) := by decide +kernel
theorem dX4_isIndex_104 : decode cX4_isIndex 104 = .ok (.putfield 81, 3) := by decide +kernel
theorem dX4_isIndex_107 : decode cX4_isIndex 107 = .ok (.aload_n 0, 1) := by decide +kernel
theorem dX4_isIndex_108 : decode cX4_isIndex 108 = .ok (.iconst 0, 1) := by decide +kernel
theorem dX4_isIndex_109 : decode cX4_isIndex 109 = .ok (.putfield 84, 3) := by decide +kernel
theorem dX4_isIndex_112 : decode cX4_isIndex 112 = .ok (.aload_n 0, 1) := by decide +kernel
theorem dX4_isIndex_113 : decode cX4_isIndex 113 = .ok (.invokevirtual 99, 3) := by decide +kernel
theorem dX4_isIndex_116 : decode cX4_isIndex 116 = .ok (.lstore 4, 2) := by decide +kernel
theorem dX4_isIndex_118 : decode cX4_isIndex 118 = .ok (.lconst 0, 1) := by decide +kernel
theorem dX4_isIndex_119 : decode cX4_isIndex 119 = .ok (.lstore 6, 2) := by decide +kernel
theorem dX4_isIndex_121 : decode cX4_isIndex 121 = .ok (.aload_n 0, 1) := by decide +kernel
theorem dX4_isIndex_122 : decode cX4_isIndex 122 = .ok (.iconst 0, 1) := by decide +kernel
theorem dX4_isIndex_123 : decode cX4_isIndex 123 = .ok (.putfield 102, 3) := by decide +kernel
theorem dX4_isIndex_126 : decode cX4_isIndex 126 = .ok (.lconst 0, 1) := by decide +kernel
theorem dX4_isIndex_127 : decode cX4_isIndex 127 = .ok (.lstore 8, 2) := by decide +kernel
theorem dX4_isIndex_129 : decode cX4_isIndex 129 = .ok (.lload 8, 2) := by decide +kernel
theorem dX4_isIndex_131 : decode cX4_isIndex 131 = .ok (.lload 4, 2) := by decide +kernel
theorem dX4_isIndex_133 : decode cX4_isIndex 133 = .ok (.lcmp, 1) := by decide +kernel
theorem dX4_isIndex_134 : decode cX4_isIndex 134 = .ok (.ifCond .ge 127, 3) := by decide +kernel
theorem dX4_isIndex_137 : decode cX4_isIndex 137 = .ok (.aload_n 0, 1) := by decide +kernel
theorem dX4_isIndex_138 : decode cX4_isIndex 138 = .ok (.getfield 84, 3) := by decide +kernel
theorem dX4_isIndex_141 : decode cX4_isIndex 141 = .ok (.ifCond .ne 120, 3) := by decide +kernel
theorem dX4_isIndex_144 : decode cX4_isIndex 144 = .ok (.aload_n 0, 1) := by decide +kernel
theorem dX4_isIndex_145 : decode cX4_isIndex 145 = .ok (.invokevirtual 99, 3) := by decide +kernel
theorem dX4_isIndex_148 : decode cX4_isIndex 148 = .ok (.lstore 10, 2) := by decide +kernel
theorem dX4_isIndex_150 : decode cX4_isIndex 150 = .ok (.aload_n 0, 1) := by decide +kernel
theorem dX4_isIndex_151 : decode cX4_isIndex 151 = .ok (.invokevirtual 99, 3) := by decide +kernel
theorem dX4_isIndex_154 : decode cX4_isIndex 154 = .ok (.lstore 12, 2) := by decide +kernel
theorem dX4_isIndex_156 : decode cX4_isIndex 156 = .ok (.aload_n 0, 1) := by decide +kernel
theorem dX4_isIndex_157 : decode cX4_isIndex 157 = .ok (.getfield 84, 3) := by decide +kernel
theorem dX4_isIndex_160 : decode cX4_isIndex 160 = .ok (.ifCond .eq 6, 3) := by decide +kernel
theorem dX4_isIndex_163 : decode cX4_isIndex 163 = .ok (.goto 98, 3) := by decide +kernel
theorem dX4_isIndex_166 : decode cX4_isIndex 166 = .ok (.aload_n 0, 1) := by decide +kernel
theorem dX4_isIndex_167 : decode cX4_isIndex 167 = .ok (.getfield 21, 3) := by decide +kernel
theorem dX4_isIndex_170 : decode cX4_isIndex 170 = .ok (.aload_n 0, 1) := by decide +kernel
theorem dX4_isIndex_171 : decode cX4_isIndex 171 = .ok (.getfield 102, 3) := by decide +kernel
theorem dX4_isIndex_174 : decode cX4_isIndex 174 = .ok (.lload 6, 2) := by decide +kernel
theorem dX4_isIndex_176 : decode cX4_isIndex 176 = .ok (.ldc2_w 105, 3) := by decide +kernel
theorem dX4_isIndex_179 : decode cX4_isIndex 179 = .ok (.lcmp, 1) := by decide +kernel
theorem dX4_isIndex_180 : decode cX4_isIndex 180 = .ok (.ifCond .le 9, 3) := by decide +kernel
theorem dX4_isIndex_183 : decode cX4_isIndex 183 = .ok (.sipush 6000, 3) := by decide +kernel
theorem dX4_isIndex_186 : decode cX4_isIndex 186 = .ok (.goto 6, 3) := by decide +kernel
theorem dX4_isIndex_189 : decode cX4_isIndex 189 = .ok (.lload 6, 2) := by decide +kernel
theorem dX4_isIndex_191 : decode cX4_isIndex 191 = .ok (.l2i, 1) := by decide +kernel
theorem dX4_isIndex_192 : decode cX4_isIndex 192 = .ok (.iastore, 1) := by decide +kernel
theorem dX4_isIndex_193 : decode cX4_isIndex 193 = .ok (.aload_n 0, 1) := by decide +kernel
theorem dX4_isIndex_194 : decode cX4_isIndex 194 = .ok (.getfield 24, 3) := by decide +kernel
theorem dX4_isIndex_197 : decode cX4_isIndex 197 = .ok (.aload_n 0, 1) := by decide +kernel
theorem dX4_isIndex_198 : decode cX4_isIndex 198 = .ok (.getfield 102, 3) := by decide +kernel
theorem dX4_isIndex_201 : decode cX4_isIndex 201 = .ok (.lload 10, 2) := by decide +kernel
theorem dX4_isIndex_203 : decode cX4_isIndex 203 = .ok (.ldc2_w 105, 3) := by decide +kernel
theorem dX4_isIndex_206 : decode cX4_isIndex 206 = .ok (.lcmp, 1) := by decide +kernel
theorem dX4_isIndex_207 : decode cX4_isIndex 207 = .ok (.ifCond .le 9, 3) := by decide +kernel
theorem dX4_isIndex_210 : decode cX4_isIndex 210 = .ok (.sipush 6000, 3) := by decide +kernel
theorem dX4_isIndex_213 : decode cX4_isIndex 213 = .ok (.goto 6, 3) := by decide +kernel
theorem dX4_isIndex_216 : decode cX4_isIndex 216 = .ok (.lload 10, 2) := by decide +kernel
theorem dX4_isIndex_218 : decode cX4_isIndex 218 = .ok (.l2i, 1) := by decide +kernel
theorem dX4_isIndex_219 : decode cX4_isIndex 219 = .ok (.iastore, 1) := by decide +kernel
theorem dX4_isIndex_220 : decode cX4_isIndex 220 = .ok (.aload_n 0, 1) := by decide +kernel
theorem dX4_isIndex_221 : decode cX4_isIndex 221 = .ok (.getfield 27, 3) := by decide +kernel
theorem dX4_isIndex_224 : decode cX4_isIndex 224 = .ok (.aload_n 0, 1) := by decide +kernel
theorem dX4_isIndex_225 : decode cX4_isIndex 225 = .ok (.getfield 102, 3) := by decide +kernel
theorem dX4_isIndex_228 : decode cX4_isIndex 228 = .ok (.lload 12, 2) := by decide +kernel
theorem dX4_isIndex_230 : decode cX4_isIndex 230 = .ok (.invokestatic 107, 3) := by decide +kernel
theorem dX4_isIndex_233 : decode cX4_isIndex 233 = .ok (.l2i, 1) := by decide +kernel
theorem dX4_isIndex_234 : decode cX4_isIndex 234 = .ok (.iastore, 1) := by decide +kernel
theorem dX4_isIndex_235 : decode cX4_isIndex 235 = .ok (.lload 6, 2) := by decide +kernel
theorem dX4_isIndex_237 : decode cX4_isIndex 237 = .ok (.lload 10, 2) := by decide +kernel
theorem dX4_isIndex_239 : decode cX4_isIndex 239 = .ok (.ladd, 1) := by decide +kernel
theorem dX4_isIndex_240 : decode cX4_isIndex 240 = .ok (.lstore 6, 2) := by decide +kernel
theorem dX4_isIndex_242 : decode cX4_isIndex 242 = .ok (.aload_n 0, 1) := by decide +kernel
theorem dX4_isIndex_243 : decode cX4_isIndex 243 = .ok (.dup, 1) := by decide +kernel
theorem dX4_isIndex_244 : decode cX4_isIndex 244 = .ok (.getfield 102, 3) := by decide +kernel
theorem dX4_isIndex_247 : decode cX4_isIndex 247 = .ok (.iconst 1, 1) := by decide +kernel
theorem dX4_isIndex_248 : decode cX4_isIndex 248 = .ok (.iadd, 1) := by decide +kernel
theorem dX4_isIndex_249 : decode cX4_isIndex 249 = .ok (.putfield 102, 3) := by decide +kernel
theorem dX4_isIndex_252 : decode cX4_isIndex 252 = .ok (.lload 8, 2) := by decide +kernel
theorem dX4_isIndex_254 : decode cX4_isIndex 254 = .ok (.lconst 1, 1) := by decide +kernel
theorem dX4_isIndex_255 : decode cX4_isIndex 255 = .ok (.ladd, 1) := by decide +kernel
theorem dX4_isIndex_256 : decode cX4_isIndex 256 = .ok (.lstore 8, 2) := by decide +kernel
theorem dX4_isIndex_258 : decode cX4_isIndex 258 = .ok (.goto (-129), 3) := by decide +kernel
theorem dX4_isIndex_261 : decode cX4_isIndex 261 = .ok (.aload_n 0, 1) := by decide +kernel
theorem dX4_isIndex_262 : decode cX4_isIndex 262 = .ok (.getfield 84, 3) := by decide +kernel
theorem dX4_isIndex_265 : decode cX4_isIndex 265 = .ok (.ifCond .ne 26, 3) := by decide +kernel
theorem dX4_isIndex_268 : decode cX4_isIndex 268 = .ok (.aload_n 0, 1) := by decide +kernel
theorem dX4_isIndex_269 : decode cX4_isIndex 269 = .ok (.getfield 78, 3) := by decide +kernel
theorem dX4_isIndex_272 : decode cX4_isIndex 272 = .ok (.aload_n 0, 1) := by decide +kernel
theorem dX4_isIndex_273 : decode cX4_isIndex 273 = .ok (.getfield 81, 3) := by decide +kernel
theorem dX4_isIndex_276 : decode cX4_isIndex 276 = .ok (.if_icmp .ne 15, 3) := by decide +kernel
theorem dX4_isIndex_279 : decode cX4_isIndex 279 = .ok (.lload 6, 2) := by decide +kernel
theorem dX4_isIndex_281 : decode cX4_isIndex 281 = .ok (.iload_n 3, 1) := by decide +kernel
theorem dX4_isIndex_282 : decode cX4_isIndex 282 = .ok (.i2l, 1) := by decide +kernel
theorem dX4_isIndex_283 : decode cX4_isIndex 283 = .ok (.lcmp, 1) := by decide +kernel
theorem dX4_isIndex_284 : decode cX4_isIndex 284 = .ok (.ifCond .ne 7, 3) := by decide +kernel
theorem dX4_isIndex_287 : decode cX4_isIndex 287 = .ok (.iconst 1, 1) := by decide +kernel
theorem dX4_isIndex_288 : decode cX4_isIndex 288 = .ok (.goto 4, 3) := by decide +kernel
theorem dX4_isIndex_291 : decode cX4_isIndex 291 = .ok (.iconst 0, 1) := by decide +kernel
theorem dX4_isIndex_292 : decode cX4_isIndex 292 = .ok (.ireturn, 1) := by decide +kernel
theorem dX4_isBlock_0 : decode cX4_isBlock 0 = .ok (.aload_n 0, 1) := by decide +kernel
theorem dX4_isBlock_1 : decode cX4_isBlock 1 = .ok (.iconst 0, 1) := by decide +kernel
theorem dX4_isBlock_2 : decode cX4_isBlock 2 = .ok (.putfield 110, 3) := by decide +kernel
theorem dX4_isBlock_5 : decode cX4_isBlock 5 = .ok (.aload_n 0, 1) := by decide +kernel
theorem dX4_isBlock_6 : decode cX4_isBlock 6 = .ok (.getfield 24, 3) := by decide +kernel
theorem dX4_isBlock_9 : decode cX4_isBlock 9 = .ok (.iload_n 1, 1) := by decide +kernel
theorem dX4_isBlock_10 : decode cX4_isBlock 10 = .ok (.iaload, 1) := by decide +kernel
theorem dX4_isBlock_11 : decode cX4_isBlock 11 = .ok (.iconst 4, 1) := by decide +kernel
theorem dX4_isBlock_12 : decode cX4_isBlock 12 = .ok (.if_icmp .ge 5, 3) := by decide +kernel
theorem dX4_isBlock_15 : decode cX4_isBlock 15 = .ok (.iconst 0, 1) := by decide +kernel
theorem dX4_isBlock_16 : decode cX4_isBlock 16 = .ok (.ireturn, 1) := by decide +kernel
theorem dX4_isBlock_17 : decode cX4_isBlock 17 = .ok (.aload_n 0, 1) := by decide +kernel
theorem dX4_isBlock_18 : decode cX4_isBlock 18 = .ok (.aload_n 0, 1) := by decide +kernel
theorem dX4_isBlock_19 : decode cX4_isBlock 19 = .ok (.getfield 21, 3) := by decide +kernel
theorem dX4_isBlock_22 : decode cX4_isBlock 22 = .ok (.iload_n 1, 1) := by decide +kernel
theorem dX4_isBlock_23 : decode cX4_isBlock 23 = .ok (.iaload, 1) := by decide +kernel
theorem dX4_isBlock_24 : decode cX4_isBlock 24 = .ok (.putfield 78, 3) := by decide +kernel
theorem dX4_isBlock_27 : decode cX4_isBlock 27 = .ok (.aload_n 0, 1) := by decide +kernel
theorem dX4_isBlock_28 : decode cX4_isBlock 28 = .ok (.aload_n 0, 1) := by decide +kernel
theorem dX4_isBlock_29 : decode cX4_isBlock 29 = .ok (.getfield 21, 3) := by decide +kernel
theorem dX4_isBlock_32 : decode cX4_isBlock 32 = .ok (.iload_n 1, 1) := by decide +kernel
theorem dX4_isBlock_33 : decode cX4_isBlock 33 = .ok (.iaload, 1) := by decide +kernel
theorem dX4_isBlock_34 : decode cX4_isBlock 34 = .ok (.aload_n 0, 1) := by decide +kernel
theorem dX4_isBlock_35 : decode cX4_isBlock 35 = .ok (.getfield 24, 3) := by decide +kernel
theorem dX4_isBlock_38 : decode cX4_isBlock 38 = .ok (.iload_n 1, 1) := by decide +kernel
theorem dX4_isBlock_39 : decode cX4_isBlock 39 = .ok (.iaload, 1) := by decide +kernel
theorem dX4_isBlock_40 : decode cX4_isBlock 40 = .ok (.iadd, 1) := by decide +kernel
theorem dX4_isBlock_41 : decode cX4_isBlock 41 = .ok (.iconst 4, 1) := by decide +kernel
theorem dX4_isBlock_42 : decode cX4_isBlock 42 = .ok (.isub, 1) := by decide +kernel
theorem dX4_isBlock_43 : decode cX4_isBlock 43 = .ok (.putfield 81, 3) := by decide +kernel
theorem dX4_isBlock_46 : decode cX4_isBlock 46 = .ok (.aload_n 0, 1) := by decide +kernel
theorem dX4_isBlock_47 : decode cX4_isBlock 47 = .ok (.aload_n 0, 1) := by decide +kernel
theorem dX4_isBlock_48 : decode cX4_isBlock 48 = .ok (.getfield 78, 3) := by decide +kernel
theorem dX4_isBlock_51 : decode cX4_isBlock 51 = .ok (.aload_n 0, 1) := by decide +kernel
theorem dX4_isBlock_52 : decode cX4_isBlock 52 = .ok (.getfield 81, 3) := by decide +kernel
theorem dX4_isBlock_55 : decode cX4_isBlock 55 = .ok (.invokevirtual 95, 3) := by decide +kernel
theorem dX4_isBlock_58 : decode cX4_isBlock 58 = .ok (.ifCond .ne 5, 3) := by decide +kernel
theorem dX4_isBlock_61 : decode cX4_isBlock 61 = .ok (.iconst 0, 1) := by decide +kernel
theorem dX4_isBlock_62 : decode cX4_isBlock 62 = .ok (.ireturn, 1) := by decide +kernel
theorem dX4_isBlock_63 : decode cX4_isBlock 63 = .ok (.aload_n 0, 1) := by decide +kernel
theorem dX4_isBlock_64 : decode cX4_isBlock 64 = .ok (.iconst 0, 1) := by decide +kernel
theorem dX4_isBlock_65 : decode cX4_isBlock 65 = .ok (.putfield 84, 3) := by decide +kernel
theorem dX4_isBlock_68 : decode cX4_isBlock 68 = .ok (.aload_n 0, 1) := by decide +kernel
theorem dX4_isBlock_69 : decode cX4_isBlock 69 = .ok (.getfield 78, 3) := by decide +kernel
theorem dX4_isBlock_72 : decode cX4_isBlock 72 = .ok (.aload_n 0, 1) := by decide +kernel
theorem dX4_isBlock_73 : decode cX4_isBlock 73 = .ok (.getfield 81, 3) := by decide +kernel
theorem dX4_isBlock_76 : decode cX4_isBlock 76 = .ok (.if_icmp .ge 89, 3) := by decide +kernel
theorem dX4_isBlock_79 : decode cX4_isBlock 79 = .ok (.aload_n 0, 1) := by decide +kernel
end
section
/-! decode rows -/
theorem dX4_isBlock_80 : decode cX4_isBlock 80 = .ok (.getfield 84, 3) := by decide +kernel
theorem dX4_isBlock_83 : decode cX4_isBlock 83 = .ok (.ifCond .ne 82, 3) := by decide +kernel
theorem dX4_isBlock_86 : decode cX4_isBlock 86 = .ok (.aload_n 0, 1) := by decide +kernel
theorem dX4_isBlock_87 : decode cX4_isBlock 87 = .ok (.invokevirtual 87, 3) := by decide +kernel
theorem dX4_isBlock_90 : decode cX4_isBlock 90 = .ok (.lstore_n 2, 1) := by decide +kernel
theorem dX4_isBlock_91 : decode cX4_isBlock 91 = .ok (.aload_n 0, 1) := by decide +kernel
theorem dX4_isBlock_92 : decode cX4_isBlock 92 = .ok (.invokevirtual 87, 3) := by decide +kernel
theorem dX4_isBlock_95 : decode cX4_isBlock 95 = .ok (.lstore 4, 2) := by decide +kernel
theorem dX4_isBlock_97 : decode cX4_isBlock 97 = .ok (.aload_n 0, 1) := by decide +kernel
theorem dX4_isBlock_98 : decode cX4_isBlock 98 = .ok (.getfield 30, 3) := by decide +kernel
theorem dX4_isBlock_101 : decode cX4_isBlock 101 = .ok (.aload_n 0, 1) := by decide +kernel
theorem dX4_isBlock_102 : decode cX4_isBlock 102 = .ok (.getfield 110, 3) := by decide +kernel
theorem dX4_isBlock_105 : decode cX4_isBlock 105 = .ok (.aload_n 0, 1) := by decide +kernel
theorem dX4_isBlock_106 : decode cX4_isBlock 106 = .ok (.getfield 110, 3) := by decide +kernel
theorem dX4_isBlock_109 : decode cX4_isBlock 109 = .ok (.ifCond .ne 11, 3) := by decide +kernel
theorem dX4_isBlock_112 : decode cX4_isBlock 112 = .ok (.lload_n 2, 1) := by decide +kernel
theorem dX4_isBlock_113 : decode cX4_isBlock 113 = .ok (.invokestatic 107, 3) := by decide +kernel
theorem dX4_isBlock_116 : decode cX4_isBlock 116 = .ok (.l2i, 1) := by decide +kernel
theorem dX4_isBlock_117 : decode cX4_isBlock 117 = .ok (.goto 20, 3) := by decide +kernel
theorem dX4_isBlock_120 : decode cX4_isBlock 120 = .ok (.aload_n 0, 1) := by decide +kernel
theorem dX4_isBlock_121 : decode cX4_isBlock 121 = .ok (.getfield 30, 3) := by decide +kernel
theorem dX4_isBlock_124 : decode cX4_isBlock 124 = .ok (.aload_n 0, 1) := by decide +kernel
theorem dX4_isBlock_125 : decode cX4_isBlock 125 = .ok (.getfield 110, 3) := by decide +kernel
theorem dX4_isBlock_128 : decode cX4_isBlock 128 = .ok (.iconst 1, 1) := by decide +kernel
theorem dX4_isBlock_129 : decode cX4_isBlock 129 = .ok (.isub, 1) := by decide +kernel
theorem dX4_isBlock_130 : decode cX4_isBlock 130 = .ok (.iaload, 1) := by decide +kernel
theorem dX4_isBlock_131 : decode cX4_isBlock 131 = .ok (.i2l, 1) := by decide +kernel
theorem dX4_isBlock_132 : decode cX4_isBlock 132 = .ok (.lload_n 2, 1) := by decide +kernel
theorem dX4_isBlock_133 : decode cX4_isBlock 133 = .ok (.ladd, 1) := by decide +kernel
theorem dX4_isBlock_134 : decode cX4_isBlock 134 = .ok (.lconst 1, 1) := by decide +kernel
theorem dX4_isBlock_135 : decode cX4_isBlock 135 = .ok (.ladd, 1) := by decide +kernel
theorem dX4_isBlock_136 : decode cX4_isBlock 136 = .ok (.l2i, 1) := by decide +kernel
theorem dX4_isBlock_137 : decode cX4_isBlock 137 = .ok (.iastore, 1) := by decide +kernel
theorem dX4_isBlock_138 : decode cX4_isBlock 138 = .ok (.aload_n 0, 1) := by decide +kernel
theorem dX4_isBlock_139 : decode cX4_isBlock 139 = .ok (.getfield 33, 3) := by decide +kernel
theorem dX4_isBlock_142 : decode cX4_isBlock 142 = .ok (.aload_n 0, 1) := by decide +kernel
theorem dX4_isBlock_143 : decode cX4_isBlock 143 = .ok (.getfield 110, 3) := by decide +kernel
theorem dX4_isBlock_146 : decode cX4_isBlock 146 = .ok (.lload 4, 2) := by decide +kernel
theorem dX4_isBlock_148 : decode cX4_isBlock 148 = .ok (.invokestatic 107, 3) := by decide +kernel
theorem dX4_isBlock_151 : decode cX4_isBlock 151 = .ok (.lastore, 1) := by decide +kernel
theorem dX4_isBlock_152 : decode cX4_isBlock 152 = .ok (.aload_n 0, 1) := by decide +kernel
theorem dX4_isBlock_153 : decode cX4_isBlock 153 = .ok (.dup, 1) := by decide +kernel
theorem dX4_isBlock_154 : decode cX4_isBlock 154 = .ok (.getfield 110, 3) := by decide +kernel
theorem dX4_isBlock_157 : decode cX4_isBlock 157 = .ok (.iconst 1, 1) := by decide +kernel
theorem dX4_isBlock_158 : decode cX4_isBlock 158 = .ok (.iadd, 1) := by decide +kernel
theorem dX4_isBlock_159 : decode cX4_isBlock 159 = .ok (.putfield 110, 3) := by decide +kernel
theorem dX4_isBlock_162 : decode cX4_isBlock 162 = .ok (.goto (-94), 3) := by decide +kernel
theorem dX4_isBlock_165 : decode cX4_isBlock 165 = .ok (.aload_n 0, 1) := by decide +kernel
theorem dX4_isBlock_166 : decode cX4_isBlock 166 = .ok (.getfield 84, 3) := by decide +kernel
theorem dX4_isBlock_169 : decode cX4_isBlock 169 = .ok (.ifCond .ne 7, 3) := by decide +kernel
theorem dX4_isBlock_172 : decode cX4_isBlock 172 = .ok (.iconst 1, 1) := by decide +kernel
theorem dX4_isBlock_173 : decode cX4_isBlock 173 = .ok (.goto 4, 3) := by decide +kernel
theorem dX4_isBlock_176 : decode cX4_isBlock 176 = .ok (.iconst 0, 1) := by decide +kernel
theorem dX4_isBlock_177 : decode cX4_isBlock 177 = .ok (.ireturn, 1) := by decide +kernel
theorem dX4_add_0 : decode cX4_add 0 = .ok (.aload_n 0, 1) := by decide +kernel
theorem dX4_add_1 : decode cX4_add 1 = .ok (.aload_n 0, 1) := by decide +kernel
theorem dX4_add_2 : decode cX4_add 2 = .ok (.getfield 59, 3) := by decide +kernel
theorem dX4_add_5 : decode cX4_add 5 = .ok (.sipush 300, 3) := by decide +kernel
theorem dX4_add_8 : decode cX4_add 8 = .ok (.if_icmp .ne 7, 3) := by decide +kernel
theorem dX4_add_11 : decode cX4_add 11 = .ok (.iconst 2, 1) := by decide +kernel
theorem dX4_add_12 : decode cX4_add 12 = .ok (.goto 30, 3) := by decide +kernel
theorem dX4_add_15 : decode cX4_add 15 = .ok (.aload_n 0, 1) := by decide +kernel
theorem dX4_add_16 : decode cX4_add 16 = .ok (.getfield 59, 3) := by decide +kernel
theorem dX4_add_19 : decode cX4_add 19 = .ok (.ifCond .le 22, 3) := by decide +kernel
theorem dX4_add_22 : decode cX4_add 22 = .ok (.iload_n 1, 1) := by decide +kernel
theorem dX4_add_23 : decode cX4_add 23 = .ok (.aload_n 0, 1) := by decide +kernel
theorem dX4_add_24 : decode cX4_add 24 = .ok (.getfield 9, 3) := by decide +kernel
theorem dX4_add_27 : decode cX4_add 27 = .ok (.aload_n 0, 1) := by decide +kernel
theorem dX4_add_28 : decode cX4_add 28 = .ok (.getfield 59, 3) := by decide +kernel
theorem dX4_add_31 : decode cX4_add 31 = .ok (.iconst 1, 1) := by decide +kernel
theorem dX4_add_32 : decode cX4_add 32 = .ok (.isub, 1) := by decide +kernel
theorem dX4_add_33 : decode cX4_add 33 = .ok (.iaload, 1) := by decide +kernel
theorem dX4_add_34 : decode cX4_add 34 = .ok (.if_icmp .gt 7, 3) := by decide +kernel
theorem dX4_add_37 : decode cX4_add 37 = .ok (.iconst 1, 1) := by decide +kernel
theorem dX4_add_38 : decode cX4_add 38 = .ok (.goto 4, 3) := by decide +kernel
theorem dX4_add_41 : decode cX4_add 41 = .ok (.iconst 0, 1) := by decide +kernel
theorem dX4_add_42 : decode cX4_add 42 = .ok (.putfield 39, 3) := by decide +kernel
theorem dX4_add_45 : decode cX4_add 45 = .ok (.aload_n 0, 1) := by decide +kernel
theorem dX4_add_46 : decode cX4_add 46 = .ok (.getfield 39, 3) := by decide +kernel
theorem dX4_add_49 : decode cX4_add 49 = .ok (.ifCond .le 5, 3) := by decide +kernel
theorem dX4_add_52 : decode cX4_add 52 = .ok (.iconst 0, 1) := by decide +kernel
theorem dX4_add_53 : decode cX4_add 53 = .ok (.ireturn, 1) := by decide +kernel
theorem dX4_add_54 : decode cX4_add 54 = .ok (.aload_n 0, 1) := by decide +kernel
theorem dX4_add_55 : decode cX4_add 55 = .ok (.getfield 9, 3) := by decide +kernel
theorem dX4_add_58 : decode cX4_add 58 = .ok (.aload_n 0, 1) := by decide +kernel
theorem dX4_add_59 : decode cX4_add 59 = .ok (.getfield 59, 3) := by decide +kernel
theorem dX4_add_62 : decode cX4_add 62 = .ok (.iload_n 1, 1) := by decide +kernel
theorem dX4_add_63 : decode cX4_add 63 = .ok (.iastore, 1) := by decide +kernel
theorem dX4_add_64 : decode cX4_add 64 = .ok (.aload_n 0, 1) := by decide +kernel
theorem dX4_add_65 : decode cX4_add 65 = .ok (.getfield 13, 3) := by decide +kernel
theorem dX4_add_68 : decode cX4_add 68 = .ok (.aload_n 0, 1) := by decide +kernel
theorem dX4_add_69 : decode cX4_add 69 = .ok (.getfield 59, 3) := by decide +kernel
theorem dX4_add_72 : decode cX4_add 72 = .ok (.lload_n 2, 1) := by decide +kernel
theorem dX4_add_73 : decode cX4_add 73 = .ok (.lastore, 1) := by decide +kernel
theorem dX4_add_74 : decode cX4_add 74 = .ok (.aload_n 0, 1) := by decide +kernel
theorem dX4_add_75 : decode cX4_add 75 = .ok (.dup, 1) := by decide +kernel
theorem dX4_add_76 : decode cX4_add 76 = .ok (.getfield 59, 3) := by decide +kernel
theorem dX4_add_79 : decode cX4_add 79 = .ok (.iconst 1, 1) := by decide +kernel
theorem dX4_add_80 : decode cX4_add 80 = .ok (.iadd, 1) := by decide +kernel
theorem dX4_add_81 : decode cX4_add 81 = .ok (.putfield 59, 3) := by decide +kernel
theorem dX4_add_84 : decode cX4_add 84 = .ok (.aload_n 0, 1) := by decide +kernel
theorem dX4_add_85 : decode cX4_add 85 = .ok (.getfield 59, 3) := by decide +kernel
theorem dX4_add_88 : decode cX4_add 88 = .ok (.ireturn, 1) := by decide +kernel
theorem dX4_write_0 : decode cX4_write 0 = .ok (.aload_n 0, 1) := by decide +kernel
theorem dX4_write_1 : decode cX4_write 1 = .ok (.iconst 0, 1) := by decide +kernel
theorem dX4_write_2 : decode cX4_write 2 = .ok (.putfield 39, 3) := by decide +kernel
theorem dX4_write_5 : decode cX4_write 5 = .ok (.aload_n 0, 1) := by decide +kernel
theorem dX4_write_6 : decode cX4_write 6 = .ok (.invokevirtual 36, 3) := by decide +kernel
theorem dX4_write_9 : decode cX4_write 9 = .ok (.aload_n 0, 1) := by decide +kernel
theorem dX4_write_10 : decode cX4_write 10 = .ok (.getfield 45, 3) := by decide +kernel
theorem dX4_write_13 : decode cX4_write 13 = .ok (.ireturn, 1) := by decide +kernel
theorem dX4_isByte_0 : decode cX4_isByte 0 = .ok (.aload_n 0, 1) := by decide +kernel
theorem dX4_isByte_1 : decode cX4_isByte 1 = .ok (.iload_n 1, 1) := by decide +kernel
theorem dX4_isByte_2 : decode cX4_isByte 2 = .ok (.ifCond .lt 11, 3) := by decide +kernel
theorem dX4_isByte_5 : decode cX4_isByte 5 = .ok (.iload_n 1, 1) := by decide +kernel
theorem dX4_isByte_6 : decode cX4_isByte 6 = .ok (.aload_n 0, 1) := by decide +kernel
theorem dX4_isByte_7 : decode cX4_isByte 7 = .ok (.getfield 45, 3) := by decide +kernel
theorem dX4_isByte_10 : decode cX4_isByte 10 = .ok (.if_icmp .lt 7, 3) := by decide +kernel
theorem dX4_isByte_13 : decode cX4_isByte 13 = .ok (.iconst 1, 1) := by decide +kernel
theorem dX4_isByte_14 : decode cX4_isByte 14 = .ok (.goto 4, 3) := by decide +kernel
theorem dX4_isByte_17 : decode cX4_isByte 17 = .ok (.iconst 0, 1) := by decide +kernel
theorem dX4_isByte_18 : decode cX4_isByte 18 = .ok (.putfield 39, 3) := by decide +kernel
theorem dX4_isByte_21 : decode cX4_isByte 21 = .ok (.aload_n 0, 1) := by decide +kernel
theorem dX4_isByte_22 : decode cX4_isByte 22 = .ok (.getfield 39, 3) := by decide +kernel
theorem dX4_isByte_25 : decode cX4_isByte 25 = .ok (.ifCond .ne 7, 3) := by decide +kernel
theorem dX4_isByte_28 : decode cX4_isByte 28 = .ok (.iconst 1, 1) := by decide +kernel
theorem dX4_isByte_29 : decode cX4_isByte 29 = .ok (.goto 4, 3) := by decide +kernel
theorem dX4_isByte_32 : decode cX4_isByte 32 = .ok (.iconst 0, 1) := by decide +kernel
theorem dX4_isByte_33 : decode cX4_isByte 33 = .ok (.ireturn, 1) := by decide +kernel
theorem dX4_at_0 : decode cX4_at 0 = .ok (.aload_n 0, 1) := by decide +kernel
theorem dX4_at_1 : decode cX4_at 1 = .ok (.iload_n 1, 1) := by decide +kernel
theorem dX4_at_2 : decode cX4_at 2 = .ok (.invokevirtual 113, 3) := by decide +kernel
theorem dX4_at_5 : decode cX4_at 5 = .ok (.ifCond .eq 16, 3) := by decide +kernel
theorem dX4_at_8 : decode cX4_at 8 = .ok (.aload_n 0, 1) := by decide +kernel
theorem dX4_at_9 : decode cX4_at 9 = .ok (.getfield 17, 3) := by decide +kernel
theorem dX4_at_12 : decode cX4_at 12 = .ok (.iload_n 1, 1) := by decide +kernel
theorem dX4_at_13 : decode cX4_at 13 = .ok (.baload, 1) := by decide +kernel
theorem dX4_at_14 : decode cX4_at 14 = .ok (.sipush 255, 3) := by decide +kernel
theorem dX4_at_17 : decode cX4_at 17 = .ok (.iand, 1) := by decide +kernel
theorem dX4_at_18 : decode cX4_at 18 = .ok (.goto 4, 3) := by decide +kernel
theorem dX4_at_21 : decode cX4_at 21 = .ok (.iconst 0, 1) := by decide +kernel
theorem dX4_at_22 : decode cX4_at 22 = .ok (.ireturn, 1) := by decide +kernel
theorem dX4_damage_0 : decode cX4_damage 0 = .ok (.aload_n 0, 1) := by decide +kernel
theorem dX4_damage_1 : decode cX4_damage 1 = .ok (.iload_n 1, 1) := by decide +kernel
theorem dX4_damage_2 : decode cX4_damage 2 = .ok (.invokevirtual 113, 3) := by decide +kernel
theorem dX4_damage_5 : decode cX4_damage 5 = .ok (.ifCond .ne 5, 3) := by decide +kernel
theorem dX4_damage_8 : decode cX4_damage 8 = .ok (.iconst 0, 1) := by decide +kernel
theorem dX4_damage_9 : decode cX4_damage 9 = .ok (.ireturn, 1) := by decide +kernel
theorem dX4_damage_10 : decode cX4_damage 10 = .ok (.aload_n 0, 1) := by decide +kernel
theorem dX4_damage_11 : decode cX4_damage 11 = .ok (.getfield 17, 3) := by decide +kernel
theorem dX4_damage_14 : decode cX4_damage 14 = .ok (.iload_n 1, 1) := by decide +kernel
theorem dX4_damage_15 : decode cX4_damage 15 = .ok (.baload, 1) := by decide +kernel
theorem dX4_damage_16 : decode cX4_damage 16 = .ok (.sipush 255, 3) := by decide +kernel
theorem dX4_damage_19 : decode cX4_damage 19 = .ok (.iand, 1) := by decide +kernel
theorem dX4_damage_20 : decode cX4_damage 20 = .ok (.istore_n 3, 1) := by decide +kernel
theorem dX4_damage_21 : decode cX4_damage 21 = .ok (.aload_n 0, 1) := by decide +kernel
theorem dX4_damage_22 : decode cX4_damage 22 = .ok (.getfield 17, 3) := by decide +kernel
theorem dX4_damage_25 : decode cX4_damage 25 = .ok (.iload_n 1, 1) := by decide +kernel
theorem dX4_damage_26 : decode cX4_damage 26 = .ok (.iload_n 2, 1) := by decide +kernel
theorem dX4_damage_27 : decode cX4_damage 27 = .ok (.i2b, 1) := by decide +kernel
theorem dX4_damage_28 : decode cX4_damage 28 = .ok (.bastore, 1) := by decide +kernel
theorem dX4_damage_29 : decode cX4_damage 29 = .ok (.aload_n 0, 1) := by decide +kernel
theorem dX4_damage_30 : decode cX4_damage 30 = .ok (.iconst 0, 1) := by decide +kernel
theorem dX4_damage_31 : decode cX4_damage 31 = .ok (.putfield 74, 3) := by decide +kernel
theorem dX4_damage_34 : decode cX4_damage 34 = .ok (.iload_n 3, 1) := by decide +kernel
theorem dX4_damage_35 : decode cX4_damage 35 = .ok (.ireturn, 1) := by decide +kernel
theorem dX4_cut_0 : decode cX4_cut 0 = .ok (.aload_n 0, 1) := by decide +kernel
theorem dX4_cut_1 : decode cX4_cut 1 = .ok (.iload_n 1, 1) := by decide +kernel
theorem dX4_cut_2 : decode cX4_cut 2 = .ok (.ifCond .lt 11, 3) := by decide +kernel
theorem dX4_cut_5 : decode cX4_cut 5 = .ok (.iload_n 1, 1) := by decide +kernel
theorem dX4_cut_6 : decode cX4_cut 6 = .ok (.aload_n 0, 1) := by decide +kernel
theorem dX4_cut_7 : decode cX4_cut 7 = .ok (.getfield 45, 3) := by decide +kernel
theorem dX4_cut_10 : decode cX4_cut 10 = .ok (.if_icmp .le 7, 3) := by decide +kernel
theorem dX4_cut_13 : decode cX4_cut 13 = .ok (.iconst 1, 1) := by decide +kernel
theorem dX4_cut_14 : decode cX4_cut 14 = .ok (.goto 4, 3) := by decide +kernel
theorem dX4_cut_17 : decode cX4_cut 17 = .ok (.iconst 0, 1) := by decide +kernel
theorem dX4_cut_18 : decode cX4_cut 18 = .ok (.putfield 39, 3) := by decide +kernel
theorem dX4_cut_21 : decode cX4_cut 21 = .ok (.aload_n 0, 1) := by decide +kernel
theorem dX4_cut_22 : decode cX4_cut 22 = .ok (.getfield 39, 3) := by decide +kernel
theorem dX4_cut_25 : decode cX4_cut 25 = .ok (.ifCond .le 4, 3) := by decide +kernel
theorem dX4_cut_28 : decode cX4_cut 28 = .ok (.return_, 1) := by decide +kernel
theorem dX4_cut_29 : decode cX4_cut 29 = .ok (.aload_n 0, 1) := by decide +kernel
theorem dX4_cut_30 : decode cX4_cut 30 = .ok (.iload_n 1, 1) := by decide +kernel
theorem dX4_cut_31 : decode cX4_cut 31 = .ok (.putfield 45, 3) := by decide +kernel
theorem dX4_cut_34 : decode cX4_cut 34 = .ok (.aload_n 0, 1) := by decide +kernel
theorem dX4_cut_35 : decode cX4_cut 35 = .ok (.iconst 0, 1) := by decide +kernel
theorem dX4_cut_36 : decode cX4_cut 36 = .ok (.putfield 74, 3) := by decide +kernel
theorem dX4_cut_39 : decode cX4_cut 39 = .ok (.return_, 1) := by decide +kernel
theorem dX4_open_0 : decode cX4_open 0 = .ok (.aload_n 0, 1) := by decide +kernel
theorem dX4_open_1 : decode cX4_open 1 = .ok (.aload_n 0, 1) := by decide +kernel
theorem dX4_open_2 : decode cX4_open 2 = .ok (.invokevirtual 117, 3) := by decide +kernel
theorem dX4_open_5 : decode cX4_open 5 = .ok (.putfield 74, 3) := by decide +kernel
theorem dX4_open_8 : decode cX4_open 8 = .ok (.aload_n 0, 1) := by decide +kernel
theorem dX4_open_9 : decode cX4_open 9 = .ok (.aload_n 0, 1) := by decide +kernel
theorem dX4_open_10 : decode cX4_open 10 = .ok (.getfield 74, 3) := by decide +kernel
theorem dX4_open_13 : decode cX4_open 13 = .ok (.ifCond .eq 7, 3) := by decide +kernel
theorem dX4_open_16 : decode cX4_open 16 = .ok (.iconst 0, 1) := by decide +kernel
theorem dX4_open_17 : decode cX4_open 17 = .ok (.goto 4, 3) := by decide +kernel
theorem dX4_open_20 : decode cX4_open 20 = .ok (.iconst 1, 1) := by decide +kernel
theorem dX4_open_21 : decode cX4_open 21 = .ok (.putfield 39, 3) := by decide +kernel
theorem dX4_open_24 : decode cX4_open 24 = .ok (.aload_n 0, 1) := by decide +kernel
theorem dX4_open_25 : decode cX4_open 25 = .ok (.getfield 74, 3) := by decide +kernel
theorem dX4_open_28 : decode cX4_open 28 = .ok (.ifCond .eq 10, 3) := by decide +kernel
theorem dX4_open_31 : decode cX4_open 31 = .ok (.aload_n 0, 1) := by decide +kernel
theorem dX4_open_32 : decode cX4_open 32 = .ok (.getfield 102, 3) := by decide +kernel
theorem dX4_open_35 : decode cX4_open 35 = .ok (.goto 4, 3) := by decide +kernel
theorem dX4_open_38 : decode cX4_open 38 = .ok (.iconst 0, 1) := by decide +kernel
theorem dX4_open_39 : decode cX4_open 39 = .ok (.ireturn, 1) := by decide +kernel
theorem dX4_get_0 : decode cX4_get 0 = .ok (.aload_n 0, 1) := by decide +kernel
theorem dX4_get_1 : decode cX4_get 1 = .ok (.aload_n 0, 1) := by decide +kernel
theorem dX4_get_2 : decode cX4_get 2 = .ok (.getfield 74, 3) := by decide +kernel
theorem dX4_get_5 : decode cX4_get 5 = .ok (.ifCond .eq 7, 3) := by decide +kernel
theorem dX4_get_8 : decode cX4_get 8 = .ok (.iconst 0, 1) := by decide +kernel
theorem dX4_get_9 : decode cX4_get 9 = .ok (.goto 4, 3) := by decide +kernel
theorem dX4_get_12 : decode cX4_get 12 = .ok (.iconst 1, 1) := by decide +kernel
theorem dX4_get_13 : decode cX4_get 13 = .ok (.putfield 39, 3) := by decide +kernel
theorem dX4_get_16 : decode cX4_get 16 = .ok (.aload_n 0, 1) := by decide +kernel
theorem dX4_get_17 : decode cX4_get 17 = .ok (.getfield 39, 3) := by decide +kernel
theorem dX4_get_20 : decode cX4_get 20 = .ok (.ifCond .le 5, 3) := by decide +kernel
theorem dX4_get_23 : decode cX4_get 23 = .ok (.lconst 0, 1) := by decide +kernel
theorem dX4_get_24 : decode cX4_get 24 = .ok (.lreturn, 1) := by decide +kernel
theorem dX4_get_25 : decode cX4_get 25 = .ok (.aload_n 0, 1) := by decide +kernel
theorem dX4_get_26 : decode cX4_get 26 = .ok (.getfield 102, 3) := by decide +kernel
theorem dX4_get_29 : decode cX4_get 29 = .ok (.iconst 1, 1) := by decide +kernel
theorem dX4_get_30 : decode cX4_get 30 = .ok (.isub, 1) := by decide +kernel
theorem dX4_get_31 : decode cX4_get 31 = .ok (.istore_n 2, 1) := by decide +kernel
theorem dX4_get_32 : decode cX4_get 32 = .ok (.iload_n 2, 1) := by decide +kernel
theorem dX4_get_33 : decode cX4_get 33 = .ok (.ifCond .lt 19, 3) := by decide +kernel
theorem dX4_get_36 : decode cX4_get 36 = .ok (.aload_n 0, 1) := by decide +kernel
theorem dX4_get_37 : decode cX4_get 37 = .ok (.getfield 27, 3) := by decide +kernel
theorem dX4_get_40 : decode cX4_get 40 = .ok (.iload_n 2, 1) := by decide +kernel
theorem dX4_get_41 : decode cX4_get 41 = .ok (.iaload, 1) := by decide +kernel
theorem dX4_get_42 : decode cX4_get 42 = .ok (.iload_n 1, 1) := by decide +kernel
theorem dX4_get_43 : decode cX4_get 43 = .ok (.if_icmp .le 9, 3) := by decide +kernel
theorem dX4_get_46 : decode cX4_get 46 = .ok (.iinc 2 (-1), 3) := by decide +kernel
theorem dX4_get_49 : decode cX4_get 49 = .ok (.goto (-17), 3) := by decide +kernel
theorem dX4_get_52 : decode cX4_get 52 = .ok (.iload_n 2, 1) := by decide +kernel
theorem dX4_get_53 : decode cX4_get 53 = .ok (.ifCond .ge 10, 3) := by decide +kernel
theorem dX4_get_56 : decode cX4_get 56 = .ok (.aload_n 0, 1) := by decide +kernel
theorem dX4_get_57 : decode cX4_get 57 = .ok (.iconst 3, 1) := by decide +kernel
theorem dX4_get_58 : decode cX4_get 58 = .ok (.putfield 39, 3) := by decide +kernel
theorem dX4_get_61 : decode cX4_get 61 = .ok (.lconst 0, 1) := by decide +kernel
theorem dX4_get_62 : decode cX4_get 62 = .ok (.lreturn, 1) := by decide +kernel
theorem dX4_get_63 : decode cX4_get 63 = .ok (.aload_n 0, 1) := by decide +kernel
theorem dX4_get_64 : decode cX4_get 64 = .ok (.iload_n 2, 1) := by decide +kernel
theorem dX4_get_65 : decode cX4_get 65 = .ok (.invokevirtual 121, 3) := by decide +kernel
theorem dX4_get_68 : decode cX4_get 68 = .ok (.ifCond .ne 10, 3) := by decide +kernel
theorem dX4_get_71 : decode cX4_get 71 = .ok (.aload_n 0, 1) := by decide +kernel
theorem dX4_get_72 : decode cX4_get 72 = .ok (.iconst 2, 1) := by decide +kernel
theorem dX4_get_73 : decode cX4_get 73 = .ok (.putfield 39, 3) := by decide +kernel
theorem dX4_get_76 : decode cX4_get 76 = .ok (.lconst 0, 1) := by decide +kernel
theorem dX4_get_77 : decode cX4_get 77 = .ok (.lreturn, 1) := by decide +kernel
theorem dX4_get_78 : decode cX4_get 78 = .ok (.iconst 0, 1) := by decide +kernel
theorem dX4_get_79 : decode cX4_get 79 = .ok (.istore_n 3, 1) := by decide +kernel
theorem dX4_get_80 : decode cX4_get 80 = .ok (.iload_n 3, 1) := by decide +kernel
theorem dX4_get_81 : decode cX4_get 81 = .ok (.aload_n 0, 1) := by decide +kernel
theorem dX4_get_82 : decode cX4_get 82 = .ok (.getfield 110, 3) := by decide +kernel
theorem dX4_get_85 : decode cX4_get 85 = .ok (.if_icmp .ge 26, 3) := by decide +kernel
theorem dX4_get_88 : decode cX4_get 88 = .ok (.aload_n 0, 1) := by decide +kernel
theorem dX4_get_89 : decode cX4_get 89 = .ok (.getfield 30, 3) := by decide +kernel
theorem dX4_get_92 : decode cX4_get 92 = .ok (.iload_n 3, 1) := by decide +kernel
theorem dX4_get_93 : decode cX4_get 93 = .ok (.iaload, 1) := by decide +kernel
theorem dX4_get_94 : decode cX4_get 94 = .ok (.iload_n 1, 1) := by decide +kernel
theorem dX4_get_95 : decode cX4_get 95 = .ok (.if_icmp .ne 10, 3) := by decide +kernel
theorem dX4_get_98 : decode cX4_get 98 = .ok (.aload_n 0, 1) := by decide +kernel
theorem dX4_get_99 : decode cX4_get 99 = .ok (.getfield 33, 3) := by decide +kernel
theorem dX4_get_102 : decode cX4_get 102 = .ok (.iload_n 3, 1) := by decide +kernel
theorem dX4_get_103 : decode cX4_get 103 = .ok (.laload, 1) := by decide +kernel
theorem dX4_get_104 : decode cX4_get 104 = .ok (.lreturn, 1) := by decide +kernel
theorem dX4_get_105 : decode cX4_get 105 = .ok (.iinc 3 1, 3) := by decide +kernel
theorem dX4_get_108 : decode cX4_get 108 = .ok (.goto (-28), 3) := by decide +kernel
theorem dX4_get_111 : decode cX4_get 111 = .ok (.aload_n 0, 1) := by decide +kernel
theorem dX4_get_112 : decode cX4_get 112 = .ok (.iconst 3, 1) := by decide +kernel
theorem dX4_get_113 : decode cX4_get 113 = .ok (.putfield 39, 3) := by decide +kernel
theorem dX4_get_116 : decode cX4_get 116 = .ok (.lconst 0, 1) := by decide +kernel
theorem dX4_get_117 : decode cX4_get 117 = .ok (.lreturn, 1) := by decide +kernel
theorem dX4_isThere_0 : decode cX4_isThere 0 = .ok (.aload_n 0, 1) := by decide +kernel
theorem dX4_isThere_1 : decode cX4_isThere 1 = .ok (.aload_n 0, 1) := by decide +kernel
theorem dX4_isThere_2 : decode cX4_isThere 2 = .ok (.getfield 74, 3) := by decide +kernel
theorem dX4_isThere_5 : decode cX4_isThere 5 = .ok (.ifCond .ne 7, 3) := by decide +kernel
theorem dX4_isThere_8 : decode cX4_isThere 8 = .ok (.iconst 1, 1) := by decide +kernel
theorem dX4_isThere_9 : decode cX4_isThere 9 = .ok (.goto 32, 3) := by decide +kernel
theorem dX4_isThere_12 : decode cX4_isThere 12 = .ok (.iload_n 1, 1) := by decide +kernel
theorem dX4_isThere_13 : decode cX4_isThere 13 = .ok (.ifCond .lt 11, 3) := by decide +kernel
theorem dX4_isThere_16 : decode cX4_isThere 16 = .ok (.iload_n 1, 1) := by decide +kernel
theorem dX4_isThere_17 : decode cX4_isThere 17 = .ok (.aload_n 0, 1) := by decide +kernel
theorem dX4_isThere_18 : decode cX4_isThere 18 = .ok (.getfield 102, 3) := by decide +kernel
theorem dX4_isThere_21 : decode cX4_isThere 21 = .ok (.if_icmp .lt 7, 3) := by decide +kernel
theorem dX4_isThere_24 : decode cX4_isThere 24 = .ok (.iconst 2, 1) := by decide +kernel
theorem dX4_isThere_25 : decode cX4_isThere 25 = .ok (.goto 16, 3) := by decide +kernel
theorem dX4_isThere_28 : decode cX4_isThere 28 = .ok (.aload_n 0, 1) := by decide +kernel
theorem dX4_isThere_29 : decode cX4_isThere 29 = .ok (.iload_n 1, 1) := by decide +kernel
theorem dX4_isThere_30 : decode cX4_isThere 30 = .ok (.invokevirtual 121, 3) := by decide +kernel
theorem dX4_isThere_33 : decode cX4_isThere 33 = .ok (.ifCond .ne 7, 3) := by decide +kernel
theorem dX4_isThere_36 : decode cX4_isThere 36 = .ok (.iconst 3, 1) := by decide +kernel
theorem dX4_isThere_37 : decode cX4_isThere 37 = .ok (.goto 4, 3) := by decide +kernel
theorem dX4_isThere_40 : decode cX4_isThere 40 = .ok (.iconst 0, 1) := by decide +kernel
theorem dX4_isThere_41 : decode cX4_isThere 41 = .ok (.putfield 39, 3) := by decide +kernel
theorem dX4_isThere_44 : decode cX4_isThere 44 = .ok (.aload_n 0, 1) := by decide +kernel
theorem dX4_isThere_45 : decode cX4_isThere 45 = .ok (.getfield 39, 3) := by decide +kernel
theorem dX4_isThere_48 : decode cX4_isThere 48 = .ok (.ifCond .ne 7, 3) := by decide +kernel
theorem dX4_isThere_51 : decode cX4_isThere 51 = .ok (.iconst 1, 1) := by decide +kernel
theorem dX4_isThere_52 : decode cX4_isThere 52 = .ok (.goto 4, 3) := by decide +kernel
theorem dX4_isThere_55 : decode cX4_isThere 55 = .ok (.iconst 0, 1) := by decide +kernel
theorem dX4_isThere_56 : decode cX4_isThere 56 = .ok (.ireturn, 1) := by decide +kernel
theorem dX4_entries_0 : decode cX4_entries 0 = .ok (.aload_n 0, 1) := by decide +kernel
theorem dX4_entries_1 : decode cX4_entries 1 = .ok (.iload_n 1, 1) := by decide +kernel
theorem dX4_entries_2 : decode cX4_entries 2 = .ok (.invokevirtual 124, 3) := by decide +kernel
theorem dX4_entries_5 : decode cX4_entries 5 = .ok (.ifCond .eq 10, 3) := by decide +kernel
theorem dX4_entries_8 : decode cX4_entries 8 = .ok (.aload_n 0, 1) := by decide +kernel
theorem dX4_entries_9 : decode cX4_entries 9 = .ok (.getfield 110, 3) := by decide +kernel
theorem dX4_entries_12 : decode cX4_entries 12 = .ok (.goto 4, 3) := by decide +kernel
theorem dX4_entries_15 : decode cX4_entries 15 = .ok (.iconst 0, 1) := by decide +kernel
theorem dX4_entries_16 : decode cX4_entries 16 = .ok (.ireturn, 1) := by decide +kernel
theorem dX4_key_0 : decode cX4_key 0 = .ok (.aload_n 0, 1) := by decide +kernel
theorem dX4_key_1 : decode cX4_key 1 = .ok (.iload_n 1, 1) := by decide +kernel
theorem dX4_key_2 : decode cX4_key 2 = .ok (.invokevirtual 124, 3) := by decide +kernel
theorem dX4_key_5 : decode cX4_key 5 = .ok (.ifCond .ne 5, 3) := by decide +kernel
theorem dX4_key_8 : decode cX4_key 8 = .ok (.iconst 0, 1) := by decide +kernel
theorem dX4_key_9 : decode cX4_key 9 = .ok (.ireturn, 1) := by decide +kernel
theorem dX4_key_10 : decode cX4_key 10 = .ok (.aload_n 0, 1) := by decide +kernel
theorem dX4_key_11 : decode cX4_key 11 = .ok (.iload_n 2, 1) := by decide +kernel
theorem dX4_key_12 : decode cX4_key 12 = .ok (.ifCond .lt 11, 3) := by decide +kernel
theorem dX4_key_15 : decode cX4_key 15 = .ok (.iload_n 2, 1) := by decide +kernel
theorem dX4_key_16 : decode cX4_key 16 = .ok (.aload_n 0, 1) := by decide +kernel
theorem dX4_key_17 : decode cX4_key 17 = .ok (.getfield 110, 3) := by decide +kernel
theorem dX4_key_20 : decode cX4_key 20 = .ok (.if_icmp .lt 7, 3) := by decide +kernel
theorem dX4_key_23 : decode cX4_key 23 = .ok (.iconst 2, 1) := by decide +kernel
theorem dX4_key_24 : decode cX4_key 24 = .ok (.goto 4, 3) := by decide +kernel
theorem dX4_key_27 : decode cX4_key 27 = .ok (.iconst 0, 1) := by decide +kernel
theorem dX4_key_28 : decode cX4_key 28 = .ok (.putfield 39, 3) := by decide +kernel
theorem dX4_key_31 : decode cX4_key 31 = .ok (.aload_n 0, 1) := by decide +kernel
theorem dX4_key_32 : decode cX4_key 32 = .ok (.getfield 39, 3) := by decide +kernel
theorem dX4_key_35 : decode cX4_key 35 = .ok (.ifCond .le 7, 3) := by decide +kernel
theorem dX4_key_38 : decode cX4_key 38 = .ok (.iconst 0, 1) := by decide +kernel
theorem dX4_key_39 : decode cX4_key 39 = .ok (.goto 9, 3) := by decide +kernel
theorem dX4_key_42 : decode cX4_key 42 = .ok (.aload_n 0, 1) := by decide +kernel
theorem dX4_key_43 : decode cX4_key 43 = .ok (.getfield 30, 3) := by decide +kernel
theorem dX4_key_46 : decode cX4_key 46 = .ok (.iload_n 2, 1) := by decide +kernel
theorem dX4_key_47 : decode cX4_key 47 = .ok (.iaload, 1) := by decide +kernel
theorem dX4_key_48 : decode cX4_key 48 = .ok (.ireturn, 1) := by decide +kernel
theorem dX4_size_0 : decode cX4_size 0 = .ok (.aload_n 0, 1) := by decide +kernel
theorem dX4_size_1 : decode cX4_size 1 = .ok (.iconst 0, 1) := by decide +kernel
theorem dX4_size_2 : decode cX4_size 2 = .ok (.putfield 39, 3) := by decide +kernel
theorem dX4_size_5 : decode cX4_size 5 = .ok (.aload_n 0, 1) := by decide +kernel
theorem dX4_size_6 : decode cX4_size 6 = .ok (.getfield 45, 3) := by decide +kernel
theorem dX4_size_9 : decode cX4_size 9 = .ok (.ireturn, 1) := by decide +kernel
theorem dL_add_0 : decode cL_add 0 = .ok (.aload 4, 2) := by decide +kernel
theorem dL_add_2 : decode cL_add 2 = .ok (.iconst 0, 1) := by decide +kernel
theorem dL_add_3 : decode cL_add 3 = .ok (.aload_n 0, 1) := by decide +kernel
theorem dL_add_4 : decode cL_add 4 = .ok (.iload_n 1, 1) := by decide +kernel
theorem dL_add_5 : decode cL_add 5 = .ok (.lload_n 2, 1) := by decide +kernel
theorem dL_add_6 : decode cL_add 6 = .ok (.invokevirtual 7, 3) := by decide +kernel
theorem dL_add_9 : decode cL_add 9 = .ok (.i2l, 1) := by decide +kernel
theorem dL_add_10 : decode cL_add 10 = .ok (.lastore, 1) := by decide +kernel
theorem dL_add_11 : decode cL_add 11 = .ok (.goto 11, 3) := by decide +kernel
theorem dL_add_14 : decode cL_add 14 = .ok (.astore 5, 2) := by decide +kernel
theorem dL_add_16 : decode cL_add 16 = .ok (.iconst 1, 1) := by decide +kernel
theorem dL_add_17 : decode cL_add 17 = .ok (.ireturn, 1) := by decide +kernel
theorem dL_add_18 : decode cL_add 18 = .ok (.astore 5, 2) := by decide +kernel
theorem dL_add_20 : decode cL_add 20 = .ok (.iconst 2, 1) := by decide +kernel
theorem dL_add_21 : decode cL_add 21 = .ok (.ireturn, 1) := by decide +kernel
theorem dL_add_22 : decode cL_add 22 = .ok (.iconst 0, 1) := by decide +kernel
theorem dL_add_23 : decode cL_add 23 = .ok (.ireturn, 1) := by decide +kernel
theorem dL_at_0 : decode cL_at 0 = .ok (.aload_n 2, 1) := by decide +kernel
theorem dL_at_1 : decode cL_at 1 = .ok (.iconst 0, 1) := by decide +kernel
theorem dL_at_2 : decode cL_at 2 = .ok (.aload_n 0, 1) := by decide +kernel
theorem dL_at_3 : decode cL_at 3 = .ok (.iload_n 1, 1) := by decide +kernel
theorem dL_at_4 : decode cL_at 4 = .ok (.invokevirtual 17, 3) := by decide +kernel
theorem dL_at_7 : decode cL_at 7 = .ok (.i2l, 1) := by decide +kernel
theorem dL_at_8 : decode cL_at 8 = .ok (.lastore, 1) := by decide +kernel
theorem dL_at_9 : decode cL_at 9 = .ok (.goto 6, 3) := by decide +kernel
theorem dL_at_12 : decode cL_at 12 = .ok (.astore_n 3, 1) := by decide +kernel
theorem dL_at_13 : decode cL_at 13 = .ok (.iconst 1, 1) := by decide +kernel
theorem dL_at_14 : decode cL_at 14 = .ok (.ireturn, 1) := by decide +kernel
theorem dL_at_15 : decode cL_at 15 = .ok (.iconst 0, 1) := by decide +kernel
theorem dL_at_16 : decode cL_at 16 = .ok (.ireturn, 1) := by decide +kernel
theorem dL_damage_0 : decode cL_damage 0 = .ok (.aload_n 3, 1) := by decide +kernel
theorem dL_damage_1 : decode cL_damage 1 = .ok (.iconst 0, 1) := by decide +kernel
theorem dL_damage_2 : decode cL_damage 2 = .ok (.aload_n 0, 1) := by decide +kernel
theorem dL_damage_3 : decode cL_damage 3 = .ok (.iload_n 1, 1) := by decide +kernel
theorem dL_damage_4 : decode cL_damage 4 = .ok (.iload_n 2, 1) := by decide +kernel
theorem dL_damage_5 : decode cL_damage 5 = .ok (.invokevirtual 23, 3) := by decide +kernel
theorem dL_damage_8 : decode cL_damage 8 = .ok (.i2l, 1) := by decide +kernel
theorem dL_damage_9 : decode cL_damage 9 = .ok (.lastore, 1) := by decide +kernel
theorem dL_damage_10 : decode cL_damage 10 = .ok (.goto 7, 3) := by decide +kernel
theorem dL_damage_13 : decode cL_damage 13 = .ok (.astore 4, 2) := by decide +kernel
theorem dL_damage_15 : decode cL_damage 15 = .ok (.iconst 1, 1) := by decide +kernel
theorem dL_damage_16 : decode cL_damage 16 = .ok (.ireturn, 1) := by decide +kernel
theorem dL_damage_17 : decode cL_damage 17 = .ok (.iconst 0, 1) := by decide +kernel
theorem dL_damage_18 : decode cL_damage 18 = .ok (.ireturn, 1) := by decide +kernel
theorem dL_cut_0 : decode cL_cut 0 = .ok (.aload_n 0, 1) := by decide +kernel
theorem dL_cut_1 : decode cL_cut 1 = .ok (.iload_n 1, 1) := by decide +kernel
theorem dL_cut_2 : decode cL_cut 2 = .ok (.invokevirtual 27, 3) := by decide +kernel
theorem dL_cut_5 : decode cL_cut 5 = .ok (.goto 6, 3) := by decide +kernel
theorem dL_cut_8 : decode cL_cut 8 = .ok (.astore_n 2, 1) := by decide +kernel
theorem dL_cut_9 : decode cL_cut 9 = .ok (.iconst 1, 1) := by decide +kernel
theorem dL_cut_10 : decode cL_cut 10 = .ok (.ireturn, 1) := by decide +kernel
theorem dL_cut_11 : decode cL_cut 11 = .ok (.iconst 0, 1) := by decide +kernel
theorem dL_cut_12 : decode cL_cut 12 = .ok (.ireturn, 1) := by decide +kernel
theorem dL_open_0 : decode cL_open 0 = .ok (.aload_n 1, 1) := by decide +kernel
theorem dL_open_1 : decode cL_open 1 = .ok (.iconst 0, 1) := by decide +kernel
theorem dL_open_2 : decode cL_open 2 = .ok (.aload_n 0, 1) := by decide +kernel
theorem dL_open_3 : decode cL_open 3 = .ok (.invokevirtual 31, 3) := by decide +kernel
theorem dL_open_6 : decode cL_open 6 = .ok (.i2l, 1) := by decide +kernel
theorem dL_open_7 : decode cL_open 7 = .ok (.lastore, 1) := by decide +kernel
theorem dL_open_8 : decode cL_open 8 = .ok (.goto 6, 3) := by decide +kernel
theorem dL_open_11 : decode cL_open 11 = .ok (.astore_n 2, 1) := by decide +kernel
theorem dL_open_12 : decode cL_open 12 = .ok (.iconst 1, 1) := by decide +kernel
theorem dL_open_13 : decode cL_open 13 = .ok (.ireturn, 1) := by decide +kernel
theorem dL_open_14 : decode cL_open 14 = .ok (.iconst 0, 1) := by decide +kernel
theorem dL_open_15 : decode cL_open 15 = .ok (.ireturn, 1) := by decide +kernel
theorem dL_get_0 : decode cL_get 0 = .ok (.aload_n 2, 1) := by decide +kernel
theorem dL_get_1 : decode cL_get 1 = .ok (.iconst 0, 1) := by decide +kernel
theorem dL_get_2 : decode cL_get 2 = .ok (.aload_n 0, 1) := by decide +kernel
theorem dL_get_3 : decode cL_get 3 = .ok (.iload_n 1, 1) := by decide +kernel
theorem dL_get_4 : decode cL_get 4 = .ok (.invokevirtual 37, 3) := by decide +kernel
theorem dL_get_7 : decode cL_get 7 = .ok (.lastore, 1) := by decide +kernel
theorem dL_get_8 : decode cL_get 8 = .ok (.goto 12, 3) := by decide +kernel
theorem dL_get_11 : decode cL_get 11 = .ok (.astore_n 3, 1) := by decide +kernel
end
section
/-! decode rows -/
theorem dL_get_12 : decode cL_get 12 = .ok (.iconst 1, 1) := by decide +kernel
theorem dL_get_13 : decode cL_get 13 = .ok (.ireturn, 1) := by decide +kernel
theorem dL_get_14 : decode cL_get 14 = .ok (.astore_n 3, 1) := by decide +kernel
theorem dL_get_15 : decode cL_get 15 = .ok (.iconst 2, 1) := by decide +kernel
theorem dL_get_16 : decode cL_get 16 = .ok (.ireturn, 1) := by decide +kernel
theorem dL_get_17 : decode cL_get 17 = .ok (.astore_n 3, 1) := by decide +kernel
theorem dL_get_18 : decode cL_get 18 = .ok (.iconst 3, 1) := by decide +kernel
theorem dL_get_19 : decode cL_get 19 = .ok (.ireturn, 1) := by decide +kernel
theorem dL_get_20 : decode cL_get 20 = .ok (.iconst 0, 1) := by decide +kernel
theorem dL_get_21 : decode cL_get 21 = .ok (.ireturn, 1) := by decide +kernel
theorem dL_entries_0 : decode cL_entries 0 = .ok (.aload_n 2, 1) := by decide +kernel
theorem dL_entries_1 : decode cL_entries 1 = .ok (.iconst 0, 1) := by decide +kernel
theorem dL_entries_2 : decode cL_entries 2 = .ok (.aload_n 0, 1) := by decide +kernel
theorem dL_entries_3 : decode cL_entries 3 = .ok (.iload_n 1, 1) := by decide +kernel
theorem dL_entries_4 : decode cL_entries 4 = .ok (.invokevirtual 43, 3) := by decide +kernel
theorem dL_entries_7 : decode cL_entries 7 = .ok (.i2l, 1) := by decide +kernel
theorem dL_entries_8 : decode cL_entries 8 = .ok (.lastore, 1) := by decide +kernel
theorem dL_entries_9 : decode cL_entries 9 = .ok (.goto 12, 3) := by decide +kernel
theorem dL_entries_12 : decode cL_entries 12 = .ok (.astore_n 3, 1) := by decide +kernel
theorem dL_entries_13 : decode cL_entries 13 = .ok (.iconst 1, 1) := by decide +kernel
theorem dL_entries_14 : decode cL_entries 14 = .ok (.ireturn, 1) := by decide +kernel
theorem dL_entries_15 : decode cL_entries 15 = .ok (.astore_n 3, 1) := by decide +kernel
theorem dL_entries_16 : decode cL_entries 16 = .ok (.iconst 2, 1) := by decide +kernel
theorem dL_entries_17 : decode cL_entries 17 = .ok (.ireturn, 1) := by decide +kernel
theorem dL_entries_18 : decode cL_entries 18 = .ok (.astore_n 3, 1) := by decide +kernel
theorem dL_entries_19 : decode cL_entries 19 = .ok (.iconst 3, 1) := by decide +kernel
theorem dL_entries_20 : decode cL_entries 20 = .ok (.ireturn, 1) := by decide +kernel
theorem dL_entries_21 : decode cL_entries 21 = .ok (.iconst 0, 1) := by decide +kernel
theorem dL_entries_22 : decode cL_entries 22 = .ok (.ireturn, 1) := by decide +kernel
theorem dL_key_0 : decode cL_key 0 = .ok (.aload_n 3, 1) := by decide +kernel
theorem dL_key_1 : decode cL_key 1 = .ok (.iconst 0, 1) := by decide +kernel
theorem dL_key_2 : decode cL_key 2 = .ok (.aload_n 0, 1) := by decide +kernel
theorem dL_key_3 : decode cL_key 3 = .ok (.iload_n 1, 1) := by decide +kernel
theorem dL_key_4 : decode cL_key 4 = .ok (.iload_n 2, 1) := by decide +kernel
theorem dL_key_5 : decode cL_key 5 = .ok (.invokevirtual 46, 3) := by decide +kernel
theorem dL_key_8 : decode cL_key 8 = .ok (.i2l, 1) := by decide +kernel
theorem dL_key_9 : decode cL_key 9 = .ok (.lastore, 1) := by decide +kernel
theorem dL_key_10 : decode cL_key 10 = .ok (.goto 15, 3) := by decide +kernel
theorem dL_key_13 : decode cL_key 13 = .ok (.astore 4, 2) := by decide +kernel
theorem dL_key_15 : decode cL_key 15 = .ok (.iconst 1, 1) := by decide +kernel
theorem dL_key_16 : decode cL_key 16 = .ok (.ireturn, 1) := by decide +kernel
theorem dL_key_17 : decode cL_key 17 = .ok (.astore 4, 2) := by decide +kernel
theorem dL_key_19 : decode cL_key 19 = .ok (.iconst 2, 1) := by decide +kernel
theorem dL_key_20 : decode cL_key 20 = .ok (.ireturn, 1) := by decide +kernel
theorem dL_key_21 : decode cL_key 21 = .ok (.astore 4, 2) := by decide +kernel
theorem dL_key_23 : decode cL_key 23 = .ok (.iconst 3, 1) := by decide +kernel
theorem dL_key_24 : decode cL_key 24 = .ok (.ireturn, 1) := by decide +kernel
theorem dL_key_25 : decode cL_key 25 = .ok (.iconst 0, 1) := by decide +kernel
theorem dL_key_26 : decode cL_key 26 = .ok (.ireturn, 1) := by decide +kernel
theorem dL_law_0 : decode cL_law 0 = .ok (.new 8, 3) := by decide +kernel
theorem dL_law_3 : decode cL_law 3 = .ok (.dup, 1) := by decide +kernel
theorem dL_law_4 : decode cL_law 4 = .ok (.invokespecial 49, 3) := by decide +kernel
theorem dL_law_7 : decode cL_law 7 = .ok (.astore_n 1, 1) := by decide +kernel
theorem dL_law_8 : decode cL_law 8 = .ok (.new 50, 3) := by decide +kernel
theorem dL_law_11 : decode cL_law 11 = .ok (.dup, 1) := by decide +kernel
theorem dL_law_12 : decode cL_law 12 = .ok (.invokespecial 52, 3) := by decide +kernel
theorem dL_law_15 : decode cL_law 15 = .ok (.astore_n 2, 1) := by decide +kernel
theorem dL_law_16 : decode cL_law 16 = .ok (.iconst 1, 1) := by decide +kernel
theorem dL_law_17 : decode cL_law 17 = .ok (.newarray .long, 2) := by decide +kernel
theorem dL_law_19 : decode cL_law 19 = .ok (.astore_n 3, 1) := by decide +kernel
theorem dL_law_20 : decode cL_law 20 = .ok (.iconst 0, 1) := by decide +kernel
theorem dL_law_21 : decode cL_law 21 = .ok (.istore 4, 2) := by decide +kernel
theorem dL_law_23 : decode cL_law 23 = .ok (.iload 4, 2) := by decide +kernel
theorem dL_law_25 : decode cL_law 25 = .ok (.aload_n 0, 1) := by decide +kernel
theorem dL_law_26 : decode cL_law 26 = .ok (.arraylength, 1) := by decide +kernel
theorem dL_law_27 : decode cL_law 27 = .ok (.iconst 4, 1) := by decide +kernel
theorem dL_law_28 : decode cL_law 28 = .ok (.isub, 1) := by decide +kernel
theorem dL_law_29 : decode cL_law 29 = .ok (.if_icmp .gt 578, 3) := by decide +kernel
theorem dL_law_32 : decode cL_law 32 = .ok (.aload_n 0, 1) := by decide +kernel
theorem dL_law_33 : decode cL_law 33 = .ok (.iload 4, 2) := by decide +kernel
theorem dL_law_35 : decode cL_law 35 = .ok (.iaload, 1) := by decide +kernel
theorem dL_law_36 : decode cL_law 36 = .ok (.bipush 15, 2) := by decide +kernel
theorem dL_law_38 : decode cL_law 38 = .ok (.iand, 1) := by decide +kernel
theorem dL_law_39 : decode cL_law 39 = .ok (.tableswitch 562 0 9 #[53, 153, 166, 222, 290, 326, 370, 425, 481, 549], 53) := by decide +kernel
theorem dL_law_92 : decode cL_law 92 = .ok (.aload_n 1, 1) := by decide +kernel
theorem dL_law_93 : decode cL_law 93 = .ok (.aload_n 0, 1) := by decide +kernel
theorem dL_law_94 : decode cL_law 94 = .ok (.iload 4, 2) := by decide +kernel
theorem dL_law_96 : decode cL_law 96 = .ok (.iconst 1, 1) := by decide +kernel
theorem dL_law_97 : decode cL_law 97 = .ok (.iadd, 1) := by decide +kernel
theorem dL_law_98 : decode cL_law 98 = .ok (.iaload, 1) := by decide +kernel
theorem dL_law_99 : decode cL_law 99 = .ok (.aload_n 0, 1) := by decide +kernel
theorem dL_law_100 : decode cL_law 100 = .ok (.iload 4, 2) := by decide +kernel
theorem dL_law_102 : decode cL_law 102 = .ok (.iconst 2, 1) := by decide +kernel
theorem dL_law_103 : decode cL_law 103 = .ok (.iadd, 1) := by decide +kernel
theorem dL_law_104 : decode cL_law 104 = .ok (.iaload, 1) := by decide +kernel
theorem dL_law_105 : decode cL_law 105 = .ok (.i2l, 1) := by decide +kernel
theorem dL_law_106 : decode cL_law 106 = .ok (.bipush 32, 2) := by decide +kernel
theorem dL_law_108 : decode cL_law 108 = .ok (.lshl, 1) := by decide +kernel
theorem dL_law_109 : decode cL_law 109 = .ok (.aload_n 0, 1) := by decide +kernel
theorem dL_law_110 : decode cL_law 110 = .ok (.iload 4, 2) := by decide +kernel
theorem dL_law_112 : decode cL_law 112 = .ok (.iconst 3, 1) := by decide +kernel
theorem dL_law_113 : decode cL_law 113 = .ok (.iadd, 1) := by decide +kernel
theorem dL_law_114 : decode cL_law 114 = .ok (.iaload, 1) := by decide +kernel
theorem dL_law_115 : decode cL_law 115 = .ok (.i2l, 1) := by decide +kernel
theorem dL_law_116 : decode cL_law 116 = .ok (.ldc2_w 53, 3) := by decide +kernel
theorem dL_law_119 : decode cL_law 119 = .ok (.land, 1) := by decide +kernel
theorem dL_law_120 : decode cL_law 120 = .ok (.lor, 1) := by decide +kernel
theorem dL_law_121 : decode cL_law 121 = .ok (.aload_n 3, 1) := by decide +kernel
theorem dL_law_122 : decode cL_law 122 = .ok (.invokestatic 55, 3) := by decide +kernel
theorem dL_law_125 : decode cL_law 125 = .ok (.istore 5, 2) := by decide +kernel
theorem dL_law_127 : decode cL_law 127 = .ok (.aload_n 2, 1) := by decide +kernel
theorem dL_law_128 : decode cL_law 128 = .ok (.aload_n 0, 1) := by decide +kernel
theorem dL_law_129 : decode cL_law 129 = .ok (.iload 4, 2) := by decide +kernel
theorem dL_law_131 : decode cL_law 131 = .ok (.iconst 1, 1) := by decide +kernel
theorem dL_law_132 : decode cL_law 132 = .ok (.iadd, 1) := by decide +kernel
theorem dL_law_133 : decode cL_law 133 = .ok (.iaload, 1) := by decide +kernel
theorem dL_law_134 : decode cL_law 134 = .ok (.aload_n 0, 1) := by decide +kernel
theorem dL_law_135 : decode cL_law 135 = .ok (.iload 4, 2) := by decide +kernel
theorem dL_law_137 : decode cL_law 137 = .ok (.iconst 2, 1) := by decide +kernel
theorem dL_law_138 : decode cL_law 138 = .ok (.iadd, 1) := by decide +kernel
theorem dL_law_139 : decode cL_law 139 = .ok (.iaload, 1) := by decide +kernel
theorem dL_law_140 : decode cL_law 140 = .ok (.i2l, 1) := by decide +kernel
theorem dL_law_141 : decode cL_law 141 = .ok (.bipush 32, 2) := by decide +kernel
theorem dL_law_143 : decode cL_law 143 = .ok (.lshl, 1) := by decide +kernel
theorem dL_law_144 : decode cL_law 144 = .ok (.aload_n 0, 1) := by decide +kernel
theorem dL_law_145 : decode cL_law 145 = .ok (.iload 4, 2) := by decide +kernel
theorem dL_law_147 : decode cL_law 147 = .ok (.iconst 3, 1) := by decide +kernel
theorem dL_law_148 : decode cL_law 148 = .ok (.iadd, 1) := by decide +kernel
theorem dL_law_149 : decode cL_law 149 = .ok (.iaload, 1) := by decide +kernel
theorem dL_law_150 : decode cL_law 150 = .ok (.i2l, 1) := by decide +kernel
theorem dL_law_151 : decode cL_law 151 = .ok (.ldc2_w 53, 3) := by decide +kernel
theorem dL_law_154 : decode cL_law 154 = .ok (.land, 1) := by decide +kernel
theorem dL_law_155 : decode cL_law 155 = .ok (.lor, 1) := by decide +kernel
theorem dL_law_156 : decode cL_law 156 = .ok (.invokevirtual 60, 3) := by decide +kernel
theorem dL_law_159 : decode cL_law 159 = .ok (.istore 6, 2) := by decide +kernel
theorem dL_law_161 : decode cL_law 161 = .ok (.aload_n 2, 1) := by decide +kernel
theorem dL_law_162 : decode cL_law 162 = .ok (.invokevirtual 61, 3) := by decide +kernel
theorem dL_law_165 : decode cL_law 165 = .ok (.iload 5, 2) := by decide +kernel
theorem dL_law_167 : decode cL_law 167 = .ok (.if_icmp .eq 5, 3) := by decide +kernel
theorem dL_law_170 : decode cL_law 170 = .ok (.iconst 0, 1) := by decide +kernel
theorem dL_law_171 : decode cL_law 171 = .ok (.ireturn, 1) := by decide +kernel
theorem dL_law_172 : decode cL_law 172 = .ok (.iload 5, 2) := by decide +kernel
theorem dL_law_174 : decode cL_law 174 = .ok (.ifCond .ne 15, 3) := by decide +kernel
theorem dL_law_177 : decode cL_law 177 = .ok (.aload_n 3, 1) := by decide +kernel
theorem dL_law_178 : decode cL_law 178 = .ok (.iconst 0, 1) := by decide +kernel
theorem dL_law_179 : decode cL_law 179 = .ok (.laload, 1) := by decide +kernel
theorem dL_law_180 : decode cL_law 180 = .ok (.iload 6, 2) := by decide +kernel
theorem dL_law_182 : decode cL_law 182 = .ok (.i2l, 1) := by decide +kernel
theorem dL_law_183 : decode cL_law 183 = .ok (.lcmp, 1) := by decide +kernel
theorem dL_law_184 : decode cL_law 184 = .ok (.ifCond .eq 5, 3) := by decide +kernel
theorem dL_law_187 : decode cL_law 187 = .ok (.iconst 0, 1) := by decide +kernel
theorem dL_law_188 : decode cL_law 188 = .ok (.ireturn, 1) := by decide +kernel
theorem dL_law_189 : decode cL_law 189 = .ok (.goto 412, 3) := by decide +kernel
theorem dL_law_192 : decode cL_law 192 = .ok (.aload_n 1, 1) := by decide +kernel
theorem dL_law_193 : decode cL_law 193 = .ok (.invokevirtual 64, 3) := by decide +kernel
theorem dL_law_196 : decode cL_law 196 = .ok (.aload_n 2, 1) := by decide +kernel
theorem dL_law_197 : decode cL_law 197 = .ok (.invokevirtual 67, 3) := by decide +kernel
theorem dL_law_200 : decode cL_law 200 = .ok (.if_icmp .eq 401, 3) := by decide +kernel
theorem dL_law_203 : decode cL_law 203 = .ok (.iconst 0, 1) := by decide +kernel
theorem dL_law_204 : decode cL_law 204 = .ok (.ireturn, 1) := by decide +kernel
theorem dL_law_205 : decode cL_law 205 = .ok (.aload_n 1, 1) := by decide +kernel
theorem dL_law_206 : decode cL_law 206 = .ok (.aload_n 0, 1) := by decide +kernel
theorem dL_law_207 : decode cL_law 207 = .ok (.iload 4, 2) := by decide +kernel
theorem dL_law_209 : decode cL_law 209 = .ok (.iconst 1, 1) := by decide +kernel
theorem dL_law_210 : decode cL_law 210 = .ok (.iadd, 1) := by decide +kernel
theorem dL_law_211 : decode cL_law 211 = .ok (.iaload, 1) := by decide +kernel
theorem dL_law_212 : decode cL_law 212 = .ok (.aload_n 3, 1) := by decide +kernel
theorem dL_law_213 : decode cL_law 213 = .ok (.invokestatic 68, 3) := by decide +kernel
theorem dL_law_216 : decode cL_law 216 = .ok (.istore 5, 2) := by decide +kernel
theorem dL_law_218 : decode cL_law 218 = .ok (.aload_n 2, 1) := by decide +kernel
theorem dL_law_219 : decode cL_law 219 = .ok (.aload_n 0, 1) := by decide +kernel
theorem dL_law_220 : decode cL_law 220 = .ok (.iload 4, 2) := by decide +kernel
theorem dL_law_222 : decode cL_law 222 = .ok (.iconst 1, 1) := by decide +kernel
theorem dL_law_223 : decode cL_law 223 = .ok (.iadd, 1) := by decide +kernel
theorem dL_law_224 : decode cL_law 224 = .ok (.iaload, 1) := by decide +kernel
theorem dL_law_225 : decode cL_law 225 = .ok (.invokevirtual 71, 3) := by decide +kernel
theorem dL_law_228 : decode cL_law 228 = .ok (.istore 6, 2) := by decide +kernel
theorem dL_law_230 : decode cL_law 230 = .ok (.aload_n 2, 1) := by decide +kernel
theorem dL_law_231 : decode cL_law 231 = .ok (.invokevirtual 61, 3) := by decide +kernel
theorem dL_law_234 : decode cL_law 234 = .ok (.iload 5, 2) := by decide +kernel
theorem dL_law_236 : decode cL_law 236 = .ok (.if_icmp .eq 5, 3) := by decide +kernel
theorem dL_law_239 : decode cL_law 239 = .ok (.iconst 0, 1) := by decide +kernel
theorem dL_law_240 : decode cL_law 240 = .ok (.ireturn, 1) := by decide +kernel
theorem dL_law_241 : decode cL_law 241 = .ok (.iload 5, 2) := by decide +kernel
theorem dL_law_243 : decode cL_law 243 = .ok (.ifCond .ne 15, 3) := by decide +kernel
theorem dL_law_246 : decode cL_law 246 = .ok (.aload_n 3, 1) := by decide +kernel
theorem dL_law_247 : decode cL_law 247 = .ok (.iconst 0, 1) := by decide +kernel
theorem dL_law_248 : decode cL_law 248 = .ok (.laload, 1) := by decide +kernel
theorem dL_law_249 : decode cL_law 249 = .ok (.iload 6, 2) := by decide +kernel
theorem dL_law_251 : decode cL_law 251 = .ok (.i2l, 1) := by decide +kernel
theorem dL_law_252 : decode cL_law 252 = .ok (.lcmp, 1) := by decide +kernel
theorem dL_law_253 : decode cL_law 253 = .ok (.ifCond .eq 5, 3) := by decide +kernel
theorem dL_law_256 : decode cL_law 256 = .ok (.iconst 0, 1) := by decide +kernel
theorem dL_law_257 : decode cL_law 257 = .ok (.ireturn, 1) := by decide +kernel
theorem dL_law_258 : decode cL_law 258 = .ok (.goto 343, 3) := by decide +kernel
theorem dL_law_261 : decode cL_law 261 = .ok (.aload_n 1, 1) := by decide +kernel
theorem dL_law_262 : decode cL_law 262 = .ok (.aload_n 0, 1) := by decide +kernel
theorem dL_law_263 : decode cL_law 263 = .ok (.iload 4, 2) := by decide +kernel
theorem dL_law_265 : decode cL_law 265 = .ok (.iconst 1, 1) := by decide +kernel
theorem dL_law_266 : decode cL_law 266 = .ok (.iadd, 1) := by decide +kernel
theorem dL_law_267 : decode cL_law 267 = .ok (.iaload, 1) := by decide +kernel
theorem dL_law_268 : decode cL_law 268 = .ok (.aload_n 0, 1) := by decide +kernel
theorem dL_law_269 : decode cL_law 269 = .ok (.iload 4, 2) := by decide +kernel
theorem dL_law_271 : decode cL_law 271 = .ok (.iconst 2, 1) := by decide +kernel
theorem dL_law_272 : decode cL_law 272 = .ok (.iadd, 1) := by decide +kernel
theorem dL_law_273 : decode cL_law 273 = .ok (.iaload, 1) := by decide +kernel
theorem dL_law_274 : decode cL_law 274 = .ok (.aload_n 3, 1) := by decide +kernel
theorem dL_law_275 : decode cL_law 275 = .ok (.invokestatic 72, 3) := by decide +kernel
theorem dL_law_278 : decode cL_law 278 = .ok (.istore 5, 2) := by decide +kernel
theorem dL_law_280 : decode cL_law 280 = .ok (.aload_n 2, 1) := by decide +kernel
theorem dL_law_281 : decode cL_law 281 = .ok (.aload_n 0, 1) := by decide +kernel
theorem dL_law_282 : decode cL_law 282 = .ok (.iload 4, 2) := by decide +kernel
theorem dL_law_284 : decode cL_law 284 = .ok (.iconst 1, 1) := by decide +kernel
theorem dL_law_285 : decode cL_law 285 = .ok (.iadd, 1) := by decide +kernel
theorem dL_law_286 : decode cL_law 286 = .ok (.iaload, 1) := by decide +kernel
theorem dL_law_287 : decode cL_law 287 = .ok (.aload_n 0, 1) := by decide +kernel
theorem dL_law_288 : decode cL_law 288 = .ok (.iload 4, 2) := by decide +kernel
theorem dL_law_290 : decode cL_law 290 = .ok (.iconst 2, 1) := by decide +kernel
theorem dL_law_291 : decode cL_law 291 = .ok (.iadd, 1) := by decide +kernel
theorem dL_law_292 : decode cL_law 292 = .ok (.iaload, 1) := by decide +kernel
theorem dL_law_293 : decode cL_law 293 = .ok (.invokevirtual 75, 3) := by decide +kernel
theorem dL_law_296 : decode cL_law 296 = .ok (.istore 6, 2) := by decide +kernel
theorem dL_law_298 : decode cL_law 298 = .ok (.aload_n 2, 1) := by decide +kernel
theorem dL_law_299 : decode cL_law 299 = .ok (.invokevirtual 61, 3) := by decide +kernel
theorem dL_law_302 : decode cL_law 302 = .ok (.iload 5, 2) := by decide +kernel
theorem dL_law_304 : decode cL_law 304 = .ok (.if_icmp .eq 5, 3) := by decide +kernel
theorem dL_law_307 : decode cL_law 307 = .ok (.iconst 0, 1) := by decide +kernel
theorem dL_law_308 : decode cL_law 308 = .ok (.ireturn, 1) := by decide +kernel
theorem dL_law_309 : decode cL_law 309 = .ok (.iload 5, 2) := by decide +kernel
theorem dL_law_311 : decode cL_law 311 = .ok (.ifCond .ne 15, 3) := by decide +kernel
theorem dL_law_314 : decode cL_law 314 = .ok (.aload_n 3, 1) := by decide +kernel
theorem dL_law_315 : decode cL_law 315 = .ok (.iconst 0, 1) := by decide +kernel
theorem dL_law_316 : decode cL_law 316 = .ok (.laload, 1) := by decide +kernel
theorem dL_law_317 : decode cL_law 317 = .ok (.iload 6, 2) := by decide +kernel
theorem dL_law_319 : decode cL_law 319 = .ok (.i2l, 1) := by decide +kernel
theorem dL_law_320 : decode cL_law 320 = .ok (.lcmp, 1) := by decide +kernel
theorem dL_law_321 : decode cL_law 321 = .ok (.ifCond .eq 5, 3) := by decide +kernel
theorem dL_law_324 : decode cL_law 324 = .ok (.iconst 0, 1) := by decide +kernel
theorem dL_law_325 : decode cL_law 325 = .ok (.ireturn, 1) := by decide +kernel
theorem dL_law_326 : decode cL_law 326 = .ok (.goto 275, 3) := by decide +kernel
theorem dL_law_329 : decode cL_law 329 = .ok (.aload_n 1, 1) := by decide +kernel
theorem dL_law_330 : decode cL_law 330 = .ok (.aload_n 0, 1) := by decide +kernel
theorem dL_law_331 : decode cL_law 331 = .ok (.iload 4, 2) := by decide +kernel
theorem dL_law_333 : decode cL_law 333 = .ok (.iconst 1, 1) := by decide +kernel
theorem dL_law_334 : decode cL_law 334 = .ok (.iadd, 1) := by decide +kernel
theorem dL_law_335 : decode cL_law 335 = .ok (.iaload, 1) := by decide +kernel
theorem dL_law_336 : decode cL_law 336 = .ok (.invokestatic 76, 3) := by decide +kernel
theorem dL_law_339 : decode cL_law 339 = .ok (.istore 5, 2) := by decide +kernel
theorem dL_law_341 : decode cL_law 341 = .ok (.aload_n 2, 1) := by decide +kernel
theorem dL_law_342 : decode cL_law 342 = .ok (.aload_n 0, 1) := by decide +kernel
theorem dL_law_343 : decode cL_law 343 = .ok (.iload 4, 2) := by decide +kernel
theorem dL_law_345 : decode cL_law 345 = .ok (.iconst 1, 1) := by decide +kernel
theorem dL_law_346 : decode cL_law 346 = .ok (.iadd, 1) := by decide +kernel
theorem dL_law_347 : decode cL_law 347 = .ok (.iaload, 1) := by decide +kernel
theorem dL_law_348 : decode cL_law 348 = .ok (.invokevirtual 79, 3) := by decide +kernel
theorem dL_law_351 : decode cL_law 351 = .ok (.aload_n 2, 1) := by decide +kernel
theorem dL_law_352 : decode cL_law 352 = .ok (.invokevirtual 61, 3) := by decide +kernel
theorem dL_law_355 : decode cL_law 355 = .ok (.iload 5, 2) := by decide +kernel
theorem dL_law_357 : decode cL_law 357 = .ok (.if_icmp .eq 5, 3) := by decide +kernel
theorem dL_law_360 : decode cL_law 360 = .ok (.iconst 0, 1) := by decide +kernel
theorem dL_law_361 : decode cL_law 361 = .ok (.ireturn, 1) := by decide +kernel
theorem dL_law_362 : decode cL_law 362 = .ok (.goto 239, 3) := by decide +kernel
theorem dL_law_365 : decode cL_law 365 = .ok (.aload_n 1, 1) := by decide +kernel
theorem dL_law_366 : decode cL_law 366 = .ok (.aload_n 3, 1) := by decide +kernel
theorem dL_law_367 : decode cL_law 367 = .ok (.invokestatic 80, 3) := by decide +kernel
theorem dL_law_370 : decode cL_law 370 = .ok (.istore 5, 2) := by decide +kernel
theorem dL_law_372 : decode cL_law 372 = .ok (.aload_n 2, 1) := by decide +kernel
theorem dL_law_373 : decode cL_law 373 = .ok (.invokevirtual 83, 3) := by decide +kernel
theorem dL_law_376 : decode cL_law 376 = .ok (.istore 6, 2) := by decide +kernel
theorem dL_law_378 : decode cL_law 378 = .ok (.aload_n 2, 1) := by decide +kernel
theorem dL_law_379 : decode cL_law 379 = .ok (.invokevirtual 61, 3) := by decide +kernel
theorem dL_law_382 : decode cL_law 382 = .ok (.iload 5, 2) := by decide +kernel
theorem dL_law_384 : decode cL_law 384 = .ok (.if_icmp .eq 5, 3) := by decide +kernel
theorem dL_law_387 : decode cL_law 387 = .ok (.iconst 0, 1) := by decide +kernel
theorem dL_law_388 : decode cL_law 388 = .ok (.ireturn, 1) := by decide +kernel
theorem dL_law_389 : decode cL_law 389 = .ok (.iload 5, 2) := by decide +kernel
theorem dL_law_391 : decode cL_law 391 = .ok (.ifCond .ne 15, 3) := by decide +kernel
theorem dL_law_394 : decode cL_law 394 = .ok (.aload_n 3, 1) := by decide +kernel
theorem dL_law_395 : decode cL_law 395 = .ok (.iconst 0, 1) := by decide +kernel
theorem dL_law_396 : decode cL_law 396 = .ok (.laload, 1) := by decide +kernel
theorem dL_law_397 : decode cL_law 397 = .ok (.iload 6, 2) := by decide +kernel
theorem dL_law_399 : decode cL_law 399 = .ok (.i2l, 1) := by decide +kernel
theorem dL_law_400 : decode cL_law 400 = .ok (.lcmp, 1) := by decide +kernel
theorem dL_law_401 : decode cL_law 401 = .ok (.ifCond .eq 5, 3) := by decide +kernel
theorem dL_law_404 : decode cL_law 404 = .ok (.iconst 0, 1) := by decide +kernel
theorem dL_law_405 : decode cL_law 405 = .ok (.ireturn, 1) := by decide +kernel
theorem dL_law_406 : decode cL_law 406 = .ok (.goto 195, 3) := by decide +kernel
theorem dL_law_409 : decode cL_law 409 = .ok (.aload_n 1, 1) := by decide +kernel
theorem dL_law_410 : decode cL_law 410 = .ok (.aload_n 0, 1) := by decide +kernel
theorem dL_law_411 : decode cL_law 411 = .ok (.iload 4, 2) := by decide +kernel
theorem dL_law_413 : decode cL_law 413 = .ok (.iconst 1, 1) := by decide +kernel
theorem dL_law_414 : decode cL_law 414 = .ok (.iadd, 1) := by decide +kernel
theorem dL_law_415 : decode cL_law 415 = .ok (.iaload, 1) := by decide +kernel
theorem dL_law_416 : decode cL_law 416 = .ok (.aload_n 3, 1) := by decide +kernel
theorem dL_law_417 : decode cL_law 417 = .ok (.invokestatic 84, 3) := by decide +kernel
theorem dL_law_420 : decode cL_law 420 = .ok (.istore 5, 2) := by decide +kernel
theorem dL_law_422 : decode cL_law 422 = .ok (.aload_n 2, 1) := by decide +kernel
theorem dL_law_423 : decode cL_law 423 = .ok (.aload_n 0, 1) := by decide +kernel
theorem dL_law_424 : decode cL_law 424 = .ok (.iload 4, 2) := by decide +kernel
theorem dL_law_426 : decode cL_law 426 = .ok (.iconst 1, 1) := by decide +kernel
theorem dL_law_427 : decode cL_law 427 = .ok (.iadd, 1) := by decide +kernel
theorem dL_law_428 : decode cL_law 428 = .ok (.iaload, 1) := by decide +kernel
theorem dL_law_429 : decode cL_law 429 = .ok (.invokevirtual 86, 3) := by decide +kernel
theorem dL_law_432 : decode cL_law 432 = .ok (.lstore 6, 2) := by decide +kernel
theorem dL_law_434 : decode cL_law 434 = .ok (.aload_n 2, 1) := by decide +kernel
theorem dL_law_435 : decode cL_law 435 = .ok (.invokevirtual 61, 3) := by decide +kernel
theorem dL_law_438 : decode cL_law 438 = .ok (.iload 5, 2) := by decide +kernel
theorem dL_law_440 : decode cL_law 440 = .ok (.if_icmp .eq 5, 3) := by decide +kernel
theorem dL_law_443 : decode cL_law 443 = .ok (.iconst 0, 1) := by decide +kernel
theorem dL_law_444 : decode cL_law 444 = .ok (.ireturn, 1) := by decide +kernel
theorem dL_law_445 : decode cL_law 445 = .ok (.iload 5, 2) := by decide +kernel
theorem dL_law_447 : decode cL_law 447 = .ok (.ifCond .ne 14, 3) := by decide +kernel
theorem dL_law_450 : decode cL_law 450 = .ok (.aload_n 3, 1) := by decide +kernel
theorem dL_law_451 : decode cL_law 451 = .ok (.iconst 0, 1) := by decide +kernel
theorem dL_law_452 : decode cL_law 452 = .ok (.laload, 1) := by decide +kernel
theorem dL_law_453 : decode cL_law 453 = .ok (.lload 6, 2) := by decide +kernel
theorem dL_law_455 : decode cL_law 455 = .ok (.lcmp, 1) := by decide +kernel
theorem dL_law_456 : decode cL_law 456 = .ok (.ifCond .eq 5, 3) := by decide +kernel
theorem dL_law_459 : decode cL_law 459 = .ok (.iconst 0, 1) := by decide +kernel
theorem dL_law_460 : decode cL_law 460 = .ok (.ireturn, 1) := by decide +kernel
theorem dL_law_461 : decode cL_law 461 = .ok (.goto 140, 3) := by decide +kernel
theorem dL_law_464 : decode cL_law 464 = .ok (.aload_n 1, 1) := by decide +kernel
theorem dL_law_465 : decode cL_law 465 = .ok (.aload_n 0, 1) := by decide +kernel
theorem dL_law_466 : decode cL_law 466 = .ok (.iload 4, 2) := by decide +kernel
theorem dL_law_468 : decode cL_law 468 = .ok (.iconst 1, 1) := by decide +kernel
theorem dL_law_469 : decode cL_law 469 = .ok (.iadd, 1) := by decide +kernel
theorem dL_law_470 : decode cL_law 470 = .ok (.iaload, 1) := by decide +kernel
theorem dL_law_471 : decode cL_law 471 = .ok (.aload_n 3, 1) := by decide +kernel
theorem dL_law_472 : decode cL_law 472 = .ok (.invokestatic 87, 3) := by decide +kernel
theorem dL_law_475 : decode cL_law 475 = .ok (.istore 5, 2) := by decide +kernel
theorem dL_law_477 : decode cL_law 477 = .ok (.aload_n 2, 1) := by decide +kernel
theorem dL_law_478 : decode cL_law 478 = .ok (.aload_n 0, 1) := by decide +kernel
theorem dL_law_479 : decode cL_law 479 = .ok (.iload 4, 2) := by decide +kernel
theorem dL_law_481 : decode cL_law 481 = .ok (.iconst 1, 1) := by decide +kernel
theorem dL_law_482 : decode cL_law 482 = .ok (.iadd, 1) := by decide +kernel
theorem dL_law_483 : decode cL_law 483 = .ok (.iaload, 1) := by decide +kernel
theorem dL_law_484 : decode cL_law 484 = .ok (.invokevirtual 89, 3) := by decide +kernel
theorem dL_law_487 : decode cL_law 487 = .ok (.istore 6, 2) := by decide +kernel
theorem dL_law_489 : decode cL_law 489 = .ok (.aload_n 2, 1) := by decide +kernel
theorem dL_law_490 : decode cL_law 490 = .ok (.invokevirtual 61, 3) := by decide +kernel
theorem dL_law_493 : decode cL_law 493 = .ok (.iload 5, 2) := by decide +kernel
theorem dL_law_495 : decode cL_law 495 = .ok (.if_icmp .eq 5, 3) := by decide +kernel
theorem dL_law_498 : decode cL_law 498 = .ok (.iconst 0, 1) := by decide +kernel
theorem dL_law_499 : decode cL_law 499 = .ok (.ireturn, 1) := by decide +kernel
theorem dL_law_500 : decode cL_law 500 = .ok (.iload 5, 2) := by decide +kernel
theorem dL_law_502 : decode cL_law 502 = .ok (.ifCond .ne 15, 3) := by decide +kernel
theorem dL_law_505 : decode cL_law 505 = .ok (.aload_n 3, 1) := by decide +kernel
theorem dL_law_506 : decode cL_law 506 = .ok (.iconst 0, 1) := by decide +kernel
theorem dL_law_507 : decode cL_law 507 = .ok (.laload, 1) := by decide +kernel
theorem dL_law_508 : decode cL_law 508 = .ok (.iload 6, 2) := by decide +kernel
theorem dL_law_510 : decode cL_law 510 = .ok (.i2l, 1) := by decide +kernel
theorem dL_law_511 : decode cL_law 511 = .ok (.lcmp, 1) := by decide +kernel
theorem dL_law_512 : decode cL_law 512 = .ok (.ifCond .eq 5, 3) := by decide +kernel
theorem dL_law_515 : decode cL_law 515 = .ok (.iconst 0, 1) := by decide +kernel
theorem dL_law_516 : decode cL_law 516 = .ok (.ireturn, 1) := by decide +kernel
theorem dL_law_517 : decode cL_law 517 = .ok (.goto 84, 3) := by decide +kernel
theorem dL_law_520 : decode cL_law 520 = .ok (.aload_n 1, 1) := by decide +kernel
theorem dL_law_521 : decode cL_law 521 = .ok (.aload_n 0, 1) := by decide +kernel
theorem dL_law_522 : decode cL_law 522 = .ok (.iload 4, 2) := by decide +kernel
theorem dL_law_524 : decode cL_law 524 = .ok (.iconst 1, 1) := by decide +kernel
theorem dL_law_525 : decode cL_law 525 = .ok (.iadd, 1) := by decide +kernel
theorem dL_law_526 : decode cL_law 526 = .ok (.iaload, 1) := by decide +kernel
theorem dL_law_527 : decode cL_law 527 = .ok (.aload_n 0, 1) := by decide +kernel
theorem dL_law_528 : decode cL_law 528 = .ok (.iload 4, 2) := by decide +kernel
theorem dL_law_530 : decode cL_law 530 = .ok (.iconst 2, 1) := by decide +kernel
theorem dL_law_531 : decode cL_law 531 = .ok (.iadd, 1) := by decide +kernel
theorem dL_law_532 : decode cL_law 532 = .ok (.iaload, 1) := by decide +kernel
theorem dL_law_533 : decode cL_law 533 = .ok (.aload_n 3, 1) := by decide +kernel
theorem dL_law_534 : decode cL_law 534 = .ok (.invokestatic 90, 3) := by decide +kernel
theorem dL_law_537 : decode cL_law 537 = .ok (.istore 5, 2) := by decide +kernel
theorem dL_law_539 : decode cL_law 539 = .ok (.aload_n 2, 1) := by decide +kernel
theorem dL_law_540 : decode cL_law 540 = .ok (.aload_n 0, 1) := by decide +kernel
theorem dL_law_541 : decode cL_law 541 = .ok (.iload 4, 2) := by decide +kernel
theorem dL_law_543 : decode cL_law 543 = .ok (.iconst 1, 1) := by decide +kernel
theorem dL_law_544 : decode cL_law 544 = .ok (.iadd, 1) := by decide +kernel
theorem dL_law_545 : decode cL_law 545 = .ok (.iaload, 1) := by decide +kernel
theorem dL_law_546 : decode cL_law 546 = .ok (.aload_n 0, 1) := by decide +kernel
theorem dL_law_547 : decode cL_law 547 = .ok (.iload 4, 2) := by decide +kernel
theorem dL_law_549 : decode cL_law 549 = .ok (.iconst 2, 1) := by decide +kernel
theorem dL_law_550 : decode cL_law 550 = .ok (.iadd, 1) := by decide +kernel
theorem dL_law_551 : decode cL_law 551 = .ok (.iaload, 1) := by decide +kernel
theorem dL_law_552 : decode cL_law 552 = .ok (.invokevirtual 92, 3) := by decide +kernel
theorem dL_law_555 : decode cL_law 555 = .ok (.istore 6, 2) := by decide +kernel
theorem dL_law_557 : decode cL_law 557 = .ok (.aload_n 2, 1) := by decide +kernel
theorem dL_law_558 : decode cL_law 558 = .ok (.invokevirtual 61, 3) := by decide +kernel
theorem dL_law_561 : decode cL_law 561 = .ok (.iload 5, 2) := by decide +kernel
theorem dL_law_563 : decode cL_law 563 = .ok (.if_icmp .eq 5, 3) := by decide +kernel
theorem dL_law_566 : decode cL_law 566 = .ok (.iconst 0, 1) := by decide +kernel
theorem dL_law_567 : decode cL_law 567 = .ok (.ireturn, 1) := by decide +kernel
theorem dL_law_568 : decode cL_law 568 = .ok (.iload 5, 2) := by decide +kernel
theorem dL_law_570 : decode cL_law 570 = .ok (.ifCond .ne 15, 3) := by decide +kernel
theorem dL_law_573 : decode cL_law 573 = .ok (.aload_n 3, 1) := by decide +kernel
theorem dL_law_574 : decode cL_law 574 = .ok (.iconst 0, 1) := by decide +kernel
theorem dL_law_575 : decode cL_law 575 = .ok (.laload, 1) := by decide +kernel
theorem dL_law_576 : decode cL_law 576 = .ok (.iload 6, 2) := by decide +kernel
theorem dL_law_578 : decode cL_law 578 = .ok (.i2l, 1) := by decide +kernel
theorem dL_law_579 : decode cL_law 579 = .ok (.lcmp, 1) := by decide +kernel
theorem dL_law_580 : decode cL_law 580 = .ok (.ifCond .eq 5, 3) := by decide +kernel
theorem dL_law_583 : decode cL_law 583 = .ok (.iconst 0, 1) := by decide +kernel
theorem dL_law_584 : decode cL_law 584 = .ok (.ireturn, 1) := by decide +kernel
theorem dL_law_585 : decode cL_law 585 = .ok (.goto 16, 3) := by decide +kernel
theorem dL_law_588 : decode cL_law 588 = .ok (.aload_n 1, 1) := by decide +kernel
theorem dL_law_589 : decode cL_law 589 = .ok (.invokevirtual 93, 3) := by decide +kernel
theorem dL_law_592 : decode cL_law 592 = .ok (.aload_n 2, 1) := by decide +kernel
theorem dL_law_593 : decode cL_law 593 = .ok (.invokevirtual 96, 3) := by decide +kernel
theorem dL_law_596 : decode cL_law 596 = .ok (.if_icmp .eq 5, 3) := by decide +kernel
theorem dL_law_599 : decode cL_law 599 = .ok (.iconst 0, 1) := by decide +kernel
theorem dL_law_600 : decode cL_law 600 = .ok (.ireturn, 1) := by decide +kernel
theorem dL_law_601 : decode cL_law 601 = .ok (.iinc 4 4, 3) := by decide +kernel
theorem dL_law_604 : decode cL_law 604 = .ok (.goto (-581), 3) := by decide +kernel
theorem dL_law_607 : decode cL_law 607 = .ok (.iconst 1, 1) := by decide +kernel
theorem dL_law_608 : decode cL_law 608 = .ok (.ireturn, 1) := by decide +kernel
end
section

def bt (x : Int32) (i : Nat) : Bool := x.toBitVec.getLsbD i
theorem b_ext {x y : Int32} (h : ∀ i, i < 32 → bt x i = bt y i) : x = y := Int32.toBitVec_inj.mp (BitVec.eq_of_getLsbD_eq (fun i hi => h i hi))
theorem b_or (x y : Int32) (i : Nat) : bt (x ||| y) i = (bt x i || bt y i) := by unfold bt; rw [Int32.toBitVec_or, BitVec.getLsbD_or]
theorem b_and (x y : Int32) (i : Nat) : bt (x &&& y) i = (bt x i && bt y i) := by unfold bt; rw [Int32.toBitVec_and, BitVec.getLsbD_and]
theorem b_xor (x y : Int32) (i : Nat) : bt (x ^^^ y) i = (bt x i ^^ bt y i) := by unfold bt; rw [Int32.toBitVec_xor, BitVec.getLsbD_xor]
theorem b_big {x : Int32} {i : Nat} (h : 32 ≤ i) : bt x i = false := BitVec.getLsbD_of_ge _ _ h
theorem b_255 (i : Nat) : bt 255 i = decide (i < 8) := by
  rcases Nat.lt_or_ge i 32 with h | h
  · exact (by decide +kernel : ∀ i, i < 32 → bt 255 i = decide (i < 8)) i h
  · rw [b_big h, decide_eq_false (by omega)]
theorem b_65535 (i : Nat) : bt 65535 i = decide (i < 16) := by
  rcases Nat.lt_or_ge i 32 with h | h
  · exact (by decide +kernel : ∀ i, i < 32 → bt 65535 i = decide (i < 16)) i h
  · rw [b_big h, decide_eq_false (by omega)]
theorem b_m1 : ∀ i, i < 32 → bt (-1) i = true := by decide +kernel
theorem b_0 (i : Nat) : bt 0 i = false := BitVec.getLsbD_zero
theorem s_l : ∀ n, n < 32 → ((nI n &&& 31).toBitVec.smod 32).toNat = n := by decide +kernel
theorem s_u : ∀ n, n < 32 → (((nI n).toUInt32 &&& Int32.toUInt32 31).toBitVec % 32).toNat = n := by decide +kernel
theorem b_shl (n : Nat) (hn : n < 32) (x : Int32) {i : Nat} (hi : i < 32) : bt (x <<< (nI n &&& 31)) i = (decide (n ≤ i) && bt x (i - n)) := by
  unfold bt
  rw [Int32.toBitVec_shiftLeft]
  show (x.toBitVec <<< ((nI n &&& 31).toBitVec.smod 32).toNat).getLsbD i = _
  rw [s_l n hn, BitVec.getLsbD_shiftLeft]
  rcases Nat.lt_or_ge i n with h | h
  · simp [h, Nat.not_le.mpr h]
  · simp [hi, h, Nat.not_lt.mpr h]
theorem b_ushr (n : Nat) (hn : n < 32) (x : Int32) (i : Nat) : bt ((x.toUInt32 >>> ((nI n).toUInt32 &&& Int32.toUInt32 31)).toInt32) i = bt x (n + i) := by
  show (x.toUInt32 >>> ((nI n).toUInt32 &&& Int32.toUInt32 31)).toBitVec.getLsbD i = x.toUInt32.toBitVec.getLsbD (n + i)
  rw [UInt32.toBitVec_shiftRight]
  show (x.toUInt32.toBitVec >>> (((nI n).toUInt32 &&& Int32.toUInt32 31).toBitVec % 32).toNat).getLsbD i = _
  rw [s_u n hn, BitVec.getLsbD_ushiftRight]
theorem b_sshr (n : Nat) (hn : n < 32) (x : Int32) {i : Nat} (hi : i < 32) : bt (x >>> (nI n &&& 31)) i = if n + i < 32 then bt x (n + i) else bt x 31 := by
  unfold bt
  rw [Int32.toBitVec_shiftRight]
  show (x.toBitVec.sshiftRight ((nI n &&& 31).toBitVec.smod 32).toNat).getLsbD i = _
  rw [s_l n hn, BitVec.getLsbD_sshiftRight, BitVec.msb_eq_getLsbD_last]
  simp [hi]
theorem b_shl8 (x : Int32) {i : Nat} (hi : i < 32) : bt (x <<< ((8 : Int32) &&& 31)) i = (decide (8 ≤ i) && bt x (i - 8)) := b_shl 8 (by omega) x hi
theorem b_shl16 (x : Int32) {i : Nat} (hi : i < 32) : bt (x <<< ((16 : Int32) &&& 31)) i = (decide (16 ≤ i) && bt x (i - 16)) := b_shl 16 (by omega) x hi
theorem b_shl24 (x : Int32) {i : Nat} (hi : i < 32) : bt (x <<< ((24 : Int32) &&& 31)) i = (decide (24 ≤ i) && bt x (i - 24)) := b_shl 24 (by omega) x hi
theorem b_sshr8 (x : Int32) {i : Nat} (hi : i < 32) : bt (x >>> ((8 : Int32) &&& 31)) i = if 8 + i < 32 then bt x (8 + i) else bt x 31 := b_sshr 8 (by omega) x hi

theorem nx_and (a b : Nat) : nI a &&& nI b = nI (a &&& b) := by
  apply Int32.toBitVec_inj.1
  show BitVec.ofNat 32 a &&& BitVec.ofNat 32 b = BitVec.ofNat 32 (a &&& b)
  apply BitVec.eq_of_getLsbD_eq
  intro i hi
  simp [hi]
theorem nx_xor (a b : Nat) : nI a ^^^ nI b = nI (a ^^^ b) := by
  apply Int32.toBitVec_inj.1
  show BitVec.ofNat 32 a ^^^ BitVec.ofNat 32 b = BitVec.ofNat 32 (a ^^^ b)
  apply BitVec.eq_of_getLsbD_eq
  intro i hi
  simp [hi]
theorem nx_cnt : ∀ j : Fin 32, (UInt32.ofNat j.val &&& Int32.toUInt32 31).toNat % 32 = j.val := by decide +kernel
theorem nx_ush {k j : Nat} (hk : k < 65536) (hj : j < 32) : ((nI k).toUInt32 >>> ((nI j).toUInt32 &&& Int32.toUInt32 31)).toInt32 = nI (k >>> j) := by
  have hs : k >>> j ≤ k := by
    rw [Nat.shiftRight_eq_div_pow]
    exact Nat.div_le_self _ _
  have e2 : UInt32.ofNat k >>> (UInt32.ofNat j &&& Int32.toUInt32 31) = UInt32.ofNat (k >>> j) := by
    apply UInt32.toNat_inj.1
    have h1 : (UInt32.ofNat k).toNat = k := Nat.mod_eq_of_lt (by omega)
    have h2 : (UInt32.ofNat (k >>> j)).toNat = k >>> j := Nat.mod_eq_of_lt (by omega)
    rw [UInt32.toNat_shiftRight, nx_cnt ⟨j, hj⟩, h1, h2]
  show (UInt32.ofNat k >>> (UInt32.ofNat j &&& Int32.toUInt32 31)).toInt32 = _
  rw [e2]
  rfl
theorem nx_bit {k j : Nat} (hk : k < 65536) (hj : j < 16) : (((nI k).toUInt32 >>> ((nI j).toUInt32 &&& Int32.toUInt32 31)).toInt32 &&& 1) = 0 ↔ k.testBit j = false := by
  rw [nx_ush hk (by omega)]
  show nI (k >>> j) &&& nI 1 = 0 ↔ _
  rw [nx_and, Nat.and_one_is_mod, ← nI_0, nI_eq (by omega) (by omega), Nat.testBit_eq_decide_div_mod_eq, Nat.shiftRight_eq_div_pow, decide_eq_false_iff_not]
  generalize k / 2 ^ j = z
  omega
theorem nx_mod (k : Nat) : nI k &&& 65535 = nI (k % 65536) := by
  show nI k &&& nI 65535 = _
  rw [nx_and, show (65535 : Nat) = 2 ^ 16 - 1 from rfl, Nat.and_two_pow_sub_one_eq_mod]
theorem nx_m16 {k : Nat} (h : k < 65536) : nI k &&& 65535 = nI k := by rw [nx_mod, Nat.mod_eq_of_lt h]
theorem nx_mask (x : Int32) : ∃ k, k < 65536 ∧ x &&& 65535 = nI k := by
  have e : x = nI x.toBitVec.toNat := by
    apply Int32.toBitVec_inj.1
    show x.toBitVec = BitVec.ofNat 32 x.toBitVec.toNat
    simp
  refine ⟨x.toBitVec.toNat % 65536, Nat.mod_lt _ (by omega), ?_⟩
  rw [← nx_mod, ← e]

theorem bp_b (x : Int32) : x.toInt8.toInt32 &&& 255 = x &&& 255 := by
  apply Int32.toBitVec_inj.mp
  rw [Int32.toBitVec_and, Int32.toBitVec_and, Int8.toBitVec_toInt32, Int32.toBitVec_toInt8]
  apply BitVec.eq_of_getLsbD_eq
  intro i hi
  rw [BitVec.getLsbD_and, BitVec.getLsbD_and]
  have hm : ∀ i < 32, 8 ≤ i → (255 : Int32).toBitVec.getLsbD i = false := by decide
  rcases Nat.lt_or_ge i 8 with z | z
  · rw [BitVec.getLsbD_signExtend, BitVec.getLsbD_signExtend, if_pos z, if_pos hi]
    simp only [z, hi, decide_true, Bool.true_and]
  · rw [hm i hi z]; simp

theorem wb_tb (n : Nat) : (lN n).toBitVec = BitVec.ofNat 64 n := rfl
theorem wb_inj {a b : Int64} (h : a.toBitVec = b.toBitVec) : a = b := Int64.toBitVec_inj.mp h
theorem wb_tn {n : Nat} (h : n < 2 ^ 64) : (lN n).toBitVec.toNat = n := by rw [wb_tb, BitVec.toNat_ofNat, Nat.mod_eq_of_lt h]
theorem wb_of (x : Int64) : ∃ n, n < 2 ^ 64 ∧ x = lN n := ⟨x.toBitVec.toNat, x.toBitVec.isLt, wb_inj (by rw [wb_tb]; simp)⟩
theorem wb_of32 (x : Int32) : ∃ n, n < 2 ^ 32 ∧ x = nI n := ⟨x.toBitVec.toNat, x.toBitVec.isLt, Int32.toBitVec_inj.mp (by show _ = BitVec.ofNat 32 _; simp)⟩
theorem wb_c : ∀ k, k < 64 → ((nI k).toInt64 &&& 63) = lN k := by decide +kernel
theorem wb_cu : ∀ k, k < 64 → ((nI k).toInt64.toUInt64 &&& Int64.toUInt64 63) = UInt64.ofNat k := by decide +kernel
theorem wb_sm : ∀ k, k < 64 → (BitVec.ofNat 64 k).smod 64 = BitVec.ofNat 64 k := by decide +kernel
theorem wb_pw {a b : Nat} (h : a ≤ b) : 2 ^ b = 2 ^ a * 2 ^ (b - a) := by rw [← Nat.pow_add]; congr 1; omega
theorem wb_lt2 {a b : Nat} (h : a < b) : 2 ^ a < 2 ^ b := Nat.pow_lt_pow_right (by decide) h
theorem wb_mod (n : Nat) : lN n = lN (n % 2 ^ 64) := wb_inj (by rw [wb_tb, wb_tb]; apply BitVec.eq_of_toNat_eq; rw [BitVec.toNat_ofNat, BitVec.toNat_ofNat, Nat.mod_mod])
theorem wb_shr {n k : Nat} (hn : n < 2 ^ 64) (hk : k < 64) : ((lN n).toUInt64 >>> ((nI k).toInt64.toUInt64 &&& Int64.toUInt64 63)).toInt64 = lN (n / 2 ^ k) := by
  rw [wb_cu k hk]
  apply wb_inj
  apply BitVec.eq_of_toNat_eq
  show ((lN n).toUInt64 >>> UInt64.ofNat k).toNat = (BitVec.ofNat 64 _).toNat
  have h1 : (UInt64.ofNat k).toNat = k := by
    show (BitVec.ofNat 64 k).toNat = k
    rw [BitVec.toNat_ofNat, Nat.mod_eq_of_lt (by omega)]
  have h2 : (lN n).toUInt64.toNat = n := wb_tn hn
  rw [UInt64.toNat_shiftRight, h1, h2, Nat.mod_eq_of_lt hk, Nat.shiftRight_eq_div_pow, BitVec.toNat_ofNat, Nat.mod_eq_of_lt (Nat.lt_of_le_of_lt (Nat.div_le_self _ _) hn)]
theorem wb_shl (n : Nat) {k : Nat} (hk : k < 64) : lN n <<< ((nI k).toInt64 &&& 63) = lN (n * 2 ^ k) := by
  rw [wb_c k hk]
  apply wb_inj
  rw [Int64.toBitVec_shiftLeft, wb_tb, wb_tb, wb_tb, wb_sm k hk]
  apply BitVec.eq_of_toNat_eq
  rw [BitVec.shiftLeft_eq', BitVec.toNat_shiftLeft, BitVec.toNat_ofNat, BitVec.toNat_ofNat, BitVec.toNat_ofNat, Nat.mod_eq_of_lt (show k < 2 ^ 64 by omega), Nat.shiftLeft_eq, Nat.mul_mod, Nat.mod_mod, ← Nat.mul_mod]
theorem wb_and {a b : Nat} (ha : a < 2 ^ 64) (hb : b < 2 ^ 64) : lN a &&& lN b = lN (a &&& b) := by
  apply wb_inj
  rw [Int64.toBitVec_and, wb_tb, wb_tb, wb_tb]
  apply BitVec.eq_of_toNat_eq
  rw [BitVec.toNat_and, BitVec.toNat_ofNat, BitVec.toNat_ofNat, BitVec.toNat_ofNat, Nat.mod_eq_of_lt ha, Nat.mod_eq_of_lt hb, Nat.mod_eq_of_lt (Nat.and_lt_two_pow _ hb)]
theorem wb_or {a b : Nat} (ha : a < 2 ^ 64) (hb : b < 2 ^ 64) : lN a ||| lN b = lN (a ||| b) := by
  apply wb_inj
  rw [Int64.toBitVec_or, wb_tb, wb_tb, wb_tb]
  apply BitVec.eq_of_toNat_eq
  rw [BitVec.toNat_or, BitVec.toNat_ofNat, BitVec.toNat_ofNat, BitVec.toNat_ofNat, Nat.mod_eq_of_lt ha, Nat.mod_eq_of_lt hb, Nat.mod_eq_of_lt (Nat.or_lt_two_pow ha hb)]
theorem wb_mask {n k : Nat} (hn : n < 2 ^ 64) (hk : k < 64) : lN n &&& lN (2 ^ k - 1) = lN (n % 2 ^ k) := by
  rw [wb_and hn (by have := wb_lt2 hk; omega), Nat.and_two_pow_sub_one_eq_mod]
theorem wb_a1 {n : Nat} (hn : n < 2 ^ 64) : lN n &&& 1 = lN (n % 2) := wb_mask (k := 1) hn (by decide)
theorem wb_bit {n k : Nat} (hn : n < 2 ^ 64) (hk : k < 64) : ((lN n).toUInt64 >>> ((nI k).toInt64.toUInt64 &&& Int64.toUInt64 63)).toInt64 &&& 1 = lN (n / 2 ^ k % 2) := by
  rw [wb_shr hn hk, wb_a1 (Nat.lt_of_le_of_lt (Nat.div_le_self _ _) hn)]
theorem wb_xor {q k : Nat} (hk : k < 63) (h : 2 ^ k ≤ q) (h2 : q < 2 ^ (k + 1)) : lN q ^^^ lN (2 ^ k) = lN (q - 2 ^ k) := by
  obtain ⟨r, rfl⟩ : ∃ r, q = 2 ^ k + r := ⟨q - 2 ^ k, by omega⟩
  have hr : r < 2 ^ k := by rw [Nat.pow_succ] at h2; omega
  have hx : (2 ^ k + r) ^^^ 2 ^ k = r := by
    apply Nat.eq_of_testBit_eq
    intro i
    rw [Nat.testBit_xor, Nat.testBit_two_pow]
    rcases Nat.lt_trichotomy i k with h | h | h
    · rw [Nat.testBit_two_pow_add_gt h]
      simp [show ¬ k = i by omega]
    · subst h
      rw [Nat.testBit_two_pow_add_eq]
      simp
    · have a1 : 2 ^ (k + 1) ≤ 2 ^ i := Nat.pow_le_pow_right (by decide) h
      rw [Nat.testBit_lt_two_pow (show 2 ^ k + r < 2 ^ i by omega), Nat.testBit_lt_two_pow (show r < 2 ^ i by omega)]
      simp [show ¬ k = i by omega]
  have b1 := wb_lt2 (show k + 1 < 64 by omega)
  have b2 := wb_lt2 (show k < 64 by omega)
  apply wb_inj
  rw [Int64.toBitVec_xor, wb_tb, wb_tb, wb_tb]
  apply BitVec.eq_of_toNat_eq
  rw [BitVec.toNat_xor, BitVec.toNat_ofNat, BitVec.toNat_ofNat, BitVec.toNat_ofNat, Nat.mod_eq_of_lt (by omega : 2 ^ k + r < 2 ^ 64), Nat.mod_eq_of_lt b2, hx, Nat.add_sub_cancel_left, Nat.mod_eq_of_lt (by omega)]

theorem u_tn {n : Nat} (h : n < 2 ^ 64) : (UInt64.ofNat n).toNat = n := Nat.mod_eq_of_lt h
theorem g_and {a b c : Nat} (ha : a < 2 ^ 64) (hb : b < 2 ^ 64) (hc : a &&& b = c) : lN a &&& lN b = lN c := by
  subst hc
  have h : UInt64.ofNat a &&& UInt64.ofNat b = UInt64.ofNat (a &&& b) := UInt64.toNat_inj.mp (by rw [UInt64.toNat_and, u_tn ha, u_tn hb, u_tn (Nat.and_lt_two_pow a hb)])
  have h2 := congrArg UInt64.toInt64 h
  exact h2
theorem g_and1 {a : Nat} (ha : a < 2 ^ 64) : lN a &&& 1 = lN (a % 2) := g_and (b := 1) ha (by decide) (Nat.and_two_pow_sub_one_eq_mod a 1)
theorem g_mask {a s p : Nat} (hp : 2 ^ s = p) (hs : s < 64) (ha : a < 2 ^ 64) : lN a &&& lN (p - 1) = lN (a % p) := by
  subst hp
  have := Nat.pow_lt_pow_right (show 1 < 2 by decide) hs
  exact g_and ha (by omega) (Nat.and_two_pow_sub_one_eq_mod a s)
theorem g_or {k p a b : Nat} (hp : 2 ^ k = p) (ha : a < p) (h : b * p + a < 2 ^ 64) : lN (b * p) ||| lN a = lN (b * p + a) := by
  subst hp
  have h1 : b * 2 ^ k ||| a = b * 2 ^ k + a := by rw [← Nat.shiftLeft_eq, Nat.shiftLeft_add_eq_or_of_lt ha]
  have h3 : UInt64.ofNat (b * 2 ^ k) ||| UInt64.ofNat a = UInt64.ofNat (b * 2 ^ k + a) := UInt64.toNat_inj.mp (by rw [UInt64.toNat_or, u_tn (by omega), u_tn (by omega), u_tn h, h1])
  have h2 := congrArg UInt64.toInt64 h3
  exact h2
theorem g_or' {k p a b : Nat} (hp : 2 ^ k = p) (ha : a < p) (h : a + b * p < 2 ^ 64) : lN a ||| lN (b * p) = lN (a + b * p) := by
  rw [Int64.or_comm, g_or hp ha (by omega), Nat.add_comm]
theorem g_ushr {a k p : Nat} {y : UInt64} (hy : y = UInt64.ofNat k) (hk : k < 64) (hp : 2 ^ k = p) (ha : a < 2 ^ 64) : ((lN a).toUInt64 >>> y).toInt64 = lN (a / p) := by
  subst hy hp
  have h : UInt64.ofNat a >>> UInt64.ofNat k = UInt64.ofNat (a / 2 ^ k) := UInt64.toNat_inj.mp (by rw [UInt64.toNat_shiftRight, u_tn ha, u_tn (by omega), u_tn (Nat.lt_of_le_of_lt (Nat.div_le_self _ _) ha), Nat.mod_eq_of_lt hk, Nat.shiftRight_eq_div_pow])
  have h2 := congrArg UInt64.toInt64 h
  exact h2
theorem g_shl {a k p : Nat} {y : Int64} (hy : y.toBitVec.smod 64 = BitVec.ofNat 64 k) (hk : k < 64) (hp : 2 ^ k = p) (ha : a < 2 ^ 64) : lN a <<< y = lN (a * p) := by
  subst hp
  apply Int64.toBitVec_inj.mp
  rw [Int64.toBitVec_shiftLeft, hy]
  apply BitVec.eq_of_toNat_eq
  have hb : (lN a).toBitVec.toNat = a := Nat.mod_eq_of_lt ha
  have hk' : (BitVec.ofNat 64 k).toNat = k := Nat.mod_eq_of_lt (by omega)
  have h : ((lN a).toBitVec <<< BitVec.ofNat 64 k).toNat = (a * 2 ^ k) % 2 ^ 64 := by simp only [BitVec.shiftLeft_eq', BitVec.toNat_shiftLeft, hb, hk', Nat.shiftLeft_eq]
  exact h

theorem lN_bv (n : Nat) : (lN n).toBitVec = BitVec.ofNat 64 n := rfl
theorem lN_nat {n : Nat} (h : n < 2 ^ 64) : (lN n).toBitVec.toNat = n := by rw [lN_bv, BitVec.toNat_ofNat]; exact Nat.mod_eq_of_lt h
theorem lN_xor (a b : Nat) : lN a ^^^ lN b = lN (a ^^^ b) := by
  apply Int64.toBitVec_inj.mp; rw [Int64.toBitVec_xor, lN_bv, lN_bv, lN_bv]; apply BitVec.eq_of_getLsbD_eq; intro i hi; simp [BitVec.getLsbD_ofNat, Nat.testBit_xor, hi]
theorem lN_ti {m : Nat} (h : m < 2 ^ 64) : (lN m).toInt = if m < 2 ^ 63 then (m : Int) else (m : Int) - 2 ^ 64 := by
  have c := BitVec.toInt_eq_toNat_cond (lN m).toBitVec
  rw [lN_nat h] at c
  show (lN m).toBitVec.toInt = _
  rw [c]
  split <;> split <;> omega
end
section
/-! the answer of lcmp, compared with zero -/
theorem lc_le {x y : Int64} : lg_cmp x y ≤ 0 ↔ x ≤ y := by
  unfold lg_cmp
  rw [Int64.le_iff_toInt_le]
  by_cases h1 : y < x
  · rw [if_pos h1]
    rw [Int64.lt_iff_toInt_lt] at h1
    constructor
    · intro h; exact absurd h (by decide)
    · intro h; omega
  · rw [if_neg h1]
    rw [Int64.lt_iff_toInt_lt] at h1
    by_cases h2 : x = y
    · rw [if_pos h2]
      subst h2
      simp
    · rw [if_neg h2]
      constructor
      · intro _; omega
      · intro _; decide
theorem lc_gt {x y : Int64} : 0 < lg_cmp x y ↔ y < x := by
  unfold lg_cmp
  by_cases h1 : y < x
  · rw [if_pos h1]
    exact ⟨fun _ => h1, fun _ => by decide⟩
  · rw [if_neg h1]
    by_cases h2 : x = y
    · rw [if_pos h2]
      exact ⟨fun h => absurd h (by decide), fun h => absurd h h1⟩
    · rw [if_neg h2]
      exact ⟨fun h => absurd h (by decide), fun h => absurd h h1⟩
theorem lc_eq {x y : Int64} : lg_cmp x y = 0 ↔ x = y := by
  unfold lg_cmp
  by_cases h1 : y < x
  · rw [if_pos h1]
    constructor
    · intro h; exact absurd h (by decide)
    · intro h
      subst h
      rw [Int64.lt_iff_toInt_lt] at h1
      omega
  · rw [if_neg h1]
    by_cases h2 : x = y
    · rw [if_pos h2]
      exact ⟨fun _ => h2, fun _ => rfl⟩
    · rw [if_neg h2]
      exact ⟨fun h => absurd h (by decide), fun h => absurd h h2⟩
theorem lc_lt {x y : Int64} : lg_cmp x y < 0 ↔ x < y := by
  unfold lg_cmp
  rw [Int64.lt_iff_toInt_lt (x := x)]
  by_cases h1 : y < x
  · rw [if_pos h1]
    rw [Int64.lt_iff_toInt_lt] at h1
    exact ⟨fun h => absurd h (by decide), fun h => by omega⟩
  · rw [if_neg h1]
    rw [Int64.lt_iff_toInt_lt] at h1
    by_cases h2 : x = y
    · rw [if_pos h2]
      subst h2
      exact ⟨fun h => absurd h (by decide), fun h => by omega⟩
    · rw [if_neg h2]
      have h3 : ¬ x.toInt = y.toInt := fun h => h2 (Int64.toInt_inj.mp h)
      exact ⟨fun _ => by omega, fun _ => by decide⟩
theorem lc_ge {x y : Int64} : 0 ≤ lg_cmp x y ↔ y ≤ x := by
  unfold lg_cmp
  rw [Int64.le_iff_toInt_le]
  by_cases h1 : y < x
  · rw [if_pos h1]
    rw [Int64.lt_iff_toInt_lt] at h1
    exact ⟨fun _ => by omega, fun _ => by decide⟩
  · rw [if_neg h1]
    rw [Int64.lt_iff_toInt_lt] at h1
    by_cases h2 : x = y
    · rw [if_pos h2]
      subst h2
      exact ⟨fun _ => by omega, fun _ => by decide⟩
    · rw [if_neg h2]
      have h3 : ¬ x.toInt = y.toInt := fun h => h2 (Int64.toInt_inj.mp h)
      exact ⟨fun h => absurd h (by decide), fun h => by omega⟩
end
section
/-! numbers as they lie in bytes; the sum -/
def pb_ub (f : Nat → Int32) (i : Nat) : Nat := (f i).toBitVec.toNat % 256
theorem pb_ub_lt (f : Nat → Int32) (i : Nat) : pb_ub f i < 256 := Nat.mod_lt _ (by decide)
theorem pb_and (f : Nat → Int32) (i : Nat) : f i &&& 255 = nI (pb_ub f i) := pk_and (f i) 8 (by decide)
def pb_g (c : Nat) : Nat := (c / 2) ^^^ (if c % 2 = 1 then 3988292384 else 0)
theorem pb_xor_div2 (a b : Nat) : (a ^^^ b) / 2 = (a / 2) ^^^ (b / 2) := by
  apply Nat.eq_of_testBit_eq
  intro i
  simp [Nat.testBit_xor, Nat.testBit_div_two]
theorem pb_xor_mod2 (a b : Nat) : (a ^^^ b) % 2 = (a % 2 + b % 2) % 2 := by
  have h : ((a ^^^ b) % 2 = 1) ↔ ¬ ((a % 2 = 1) ↔ (b % 2 = 1)) := Nat.xor_mod_two_eq_one
  rcases Nat.mod_two_eq_zero_or_one a with ha | ha <;> rcases Nat.mod_two_eq_zero_or_one b with hb | hb <;> rcases Nat.mod_two_eq_zero_or_one (a ^^^ b) with hc | hc <;> simp [ha, hb, hc] at h ⊢
theorem pb_g_xor (a b : Nat) : pb_g (a ^^^ b) = pb_g a ^^^ pb_g b := by
  unfold pb_g
  rw [pb_xor_div2, pb_xor_mod2]
  rcases Nat.mod_two_eq_zero_or_one a with ha | ha <;> rcases Nat.mod_two_eq_zero_or_one b with hb | hb <;> simp [ha, hb]
  · rw [Nat.xor_assoc]
  · rw [Nat.xor_assoc, Nat.xor_assoc, Nat.xor_comm (b / 2)]
  · rw [Nat.xor_assoc (a / 2), ← Nat.xor_assoc 3988292384, Nat.xor_comm 3988292384 (b / 2), Nat.xor_assoc (b / 2), Nat.xor_self, Nat.xor_zero]
theorem pb_g_two (h : Nat) : pb_g (2 * h) = h := by
  unfold pb_g
  have h1 : 2 * h / 2 = h := by omega
  have h2 : ¬ (2 * h % 2 = 1) := by omega
  rw [h1, if_neg h2, Nat.xor_zero]
def pb_g4 (c : Nat) : Nat := pb_g (pb_g (pb_g (pb_g c)))
theorem pb_split (c : Nat) : c = (16 * (c / 16)) ^^^ (c % 16) := by
  apply Nat.eq_of_testBit_eq
  intro i
  rw [Nat.testBit_xor]
  have e1 : (16 * (c / 16)).testBit i = (decide (4 ≤ i) && c.testBit i) := by
    rw [show 16 * (c / 16) = 2 ^ 4 * (c / 2 ^ 4) from rfl, Nat.testBit_two_pow_mul, Nat.testBit_div_two_pow]
    by_cases h : 4 ≤ i
    · simp [h]
    · simp [h]
  have e2 : (c % 16).testBit i = (decide (i < 4) && c.testBit i) := by
    rw [show c % 16 = c % 2 ^ 4 from rfl, Nat.testBit_mod_two_pow]
  rw [e1, e2]
  by_cases h : 4 ≤ i
  · have : ¬ i < 4 := by omega
    simp [h, this]
  · have : i < 4 := by omega
    simp [h, this]
def pb_T (r : Nat) : Nat := pb_g4 r
theorem pb_nib (c : Nat) : pb_g4 c = (c / 16) ^^^ pb_T (c % 16) := by
  have h : pb_g4 ((16 * (c / 16)) ^^^ (c % 16)) = (c / 16) ^^^ pb_T (c % 16) := by
    unfold pb_g4 pb_T
    simp only [pb_g_xor]
    have h16 : 16 * (c / 16) = 2 * (2 * (2 * (2 * (c / 16)))) := by omega
    rw [h16, pb_g_two, pb_g_two, pb_g_two, pb_g_two]
    rfl
  rw [← pb_split] at h
  exact h
/-- what a byte does to the sum -/
def pb_B (c b : Nat) : Nat := pb_g4 (pb_g4 (c ^^^ b))
/-- the model's bits, one after the other: k of them done -/
def pb_M (b : Nat) : Nat → Nat → Nat
  | 0, c => c
  | k + 1, c => (pb_M b k c / 2) ^^^ (if (b / 2 ^ k + pb_M b k c) % 2 = 1 then 3988292384 else 0)
def pb_gn : Nat → Nat → Nat
  | 0, c => c
  | k + 1, c => pb_g (pb_gn k c)
theorem pb_gM (b c : Nat) : ∀ k, pb_gn k (c ^^^ b) = pb_M b k c ^^^ (b / 2 ^ k)
  | 0 => by simp [pb_gn, pb_M]
  | k + 1 => by
    have ih := pb_gM b c k
    show pb_g (pb_gn k (c ^^^ b)) = _
    rw [ih]
    show pb_g (pb_M b k c ^^^ b / 2 ^ k) = ((pb_M b k c / 2) ^^^ (if (b / 2 ^ k + pb_M b k c) % 2 = 1 then 3988292384 else 0)) ^^^ (b / 2 ^ (k + 1))
    unfold pb_g
    have hm : (pb_M b k c ^^^ b / 2 ^ k) % 2 = (b / 2 ^ k + pb_M b k c) % 2 := by rw [pb_xor_mod2]; omega
    rw [pb_xor_div2, Nat.div_div_eq_div_mul, ← Nat.pow_succ, hm]
    rw [Nat.xor_assoc, Nat.xor_assoc, Nat.xor_comm (b / 2 ^ (k + 1))]
theorem pb_MB {b : Nat} (hb : b < 256) (c : Nat) : pb_M b 8 c = pb_B c b := by
  have h := pb_gM b c 8
  have h0 : b / 2 ^ 8 = 0 := Nat.div_eq_of_lt hb
  rw [h0, Nat.xor_zero] at h
  exact h.symm
theorem pb_g_lt {c : Nat} (h : c < 2 ^ 32) : pb_g c < 2 ^ 32 := by
  unfold pb_g
  apply Nat.xor_lt_two_pow
  · omega
  · split <;> decide
theorem pb_g4_lt {c : Nat} (h : c < 2 ^ 32) : pb_g4 c < 2 ^ 32 := pb_g_lt (pb_g_lt (pb_g_lt (pb_g_lt h)))
theorem pb_B_lt {c b : Nat} (h : c < 2 ^ 32) (hb : b < 256) : pb_B c b < 2 ^ 32 := pb_g4_lt (pb_g4_lt (Nat.xor_lt_two_pow h (by omega)))
def pb_crc (f : Nat → Int32) (a : Nat) : Nat → Nat
  | 0 => 4294967295
  | n + 1 => pb_B (pb_crc f a n) (pb_ub f (a + n))
theorem pb_crc_lt (f : Nat → Int32) (a : Nat) : ∀ n, pb_crc f a n < 2 ^ 32
  | 0 => (by decide : (4294967295 : Nat) < 2 ^ 32)
  | n + 1 => pb_B_lt (pb_crc_lt f a n) (pb_ub_lt f _)
/-- two rows of bytes that are alike below L -/
def pb_eq (f g : Nat → Int32) (L : Nat) : Prop := ∀ i, i < L → f i = g i
theorem pb_eq.ub {f g : Nat → Int32} {L i : Nat} (h : pb_eq f g L) (hi : i < L) : pb_ub f i = pb_ub g i := by unfold pb_ub; rw [h i hi]
theorem pb_eq.crc {f g : Nat → Int32} {L a : Nat} (h : pb_eq f g L) : ∀ n, a + n ≤ L → pb_crc f a n = pb_crc g a n
  | 0, _ => rfl
  | n + 1, hn => by
    show pb_B (pb_crc f a n) (pb_ub f (a + n)) = pb_B (pb_crc g a n) (pb_ub g (a + n))
    rw [h.crc n (by omega), h.ub (by omega)]
/-! a NUMBER read: its value and the place behind it -/
def pb_rdn (f : Nat → Int32) (e : Nat) : Nat → Nat → Nat → Nat → Option (Nat × Nat)
  | 0, _, _, _ => none
  | k + 1, i, a, v => if a < e then (if i = 9 ∧ 1 < pb_ub f a then none else if pb_ub f a < 128 then some (v + pb_ub f a % 128 * 2 ^ (7 * i), a + 1) else pb_rdn f e k (i + 1) (a + 1) (v + pb_ub f a % 128 * 2 ^ (7 * i))) else none
def pb_rd (f : Nat → Int32) (e a : Nat) : Option (Nat × Nat) := pb_rdn f e 10 0 a 0
theorem pb_eq.rdn {f g : Nat → Int32} {L e : Nat} (h : pb_eq f g L) (he : e ≤ L) : ∀ k i a v, pb_rdn f e k i a v = pb_rdn g e k i a v
  | 0, _, _, _ => rfl
  | k + 1, i, a, v => by
    unfold pb_rdn
    by_cases ha : a < e
    · rw [if_pos ha, if_pos ha, h.ub (by omega : a < L), h.rdn he k]
    · rw [if_neg ha, if_neg ha]
theorem pb_eq.rd {f g : Nat → Int32} {L e : Nat} (h : pb_eq f g L) (he : e ≤ L) (a : Nat) : pb_rd f e a = pb_rd g e a := h.rdn he 10 0 a 0
theorem pb_rdn_in {f : Nat → Int32} {e : Nat} : ∀ k i a v n a', pb_rdn f e k i a v = some (n, a') → a < a' ∧ a' ≤ e
  | 0, _, _, _, _, _, h => by cases h
  | k + 1, i, a, v, n, a', h => by
    unfold pb_rdn at h
    by_cases ha : a < e
    · rw [if_pos ha] at h
      by_cases h9 : i = 9 ∧ 1 < pb_ub f a
      · rw [if_pos h9] at h; cases h
      · rw [if_neg h9] at h
        by_cases hb : pb_ub f a < 128
        · rw [if_pos hb] at h
          cases h
          omega
        · rw [if_neg hb] at h
          have := pb_rdn_in k (i + 1) (a + 1) _ n a' h
          omega
    · rw [if_neg ha] at h; cases h
theorem pb_rdn_lt {f : Nat → Int32} {e : Nat} : ∀ k i a v n a', i + k = 10 → v < 2 ^ (7 * i) → pb_rdn f e k i a v = some (n, a') → n < 2 ^ 64
  | 0, _, _, _, _, _, _, _, h => by cases h
  | k + 1, i, a, v, n, a', hi, hv, h => by
    unfold pb_rdn at h
    by_cases ha : a < e
    · rw [if_pos ha] at h
      have hm : pb_ub f a % 128 < 128 := Nat.mod_lt _ (by decide)
      have hpw : 2 ^ (7 * (i + 1)) = 128 * 2 ^ (7 * i) := by rw [Nat.mul_succ, Nat.pow_add, Nat.mul_comm]
      have hpos : 0 < 2 ^ (7 * i) := Nat.pow_pos (by decide)
      have hv2 : v + pb_ub f a % 128 * 2 ^ (7 * i) < 2 ^ (7 * (i + 1)) := by
        rw [hpw]
        have : pb_ub f a % 128 * 2 ^ (7 * i) ≤ 127 * 2 ^ (7 * i) := Nat.mul_le_mul_right _ (by omega)
        omega
      by_cases h9 : i = 9 ∧ 1 < pb_ub f a
      · rw [if_pos h9] at h; cases h
      · rw [if_neg h9] at h
        by_cases hb : pb_ub f a < 128
        · rw [if_pos hb] at h
          cases h
          by_cases hi9 : i = 9
          · subst hi9
            have h1 : pb_ub f a ≤ 1 := by omega
            have h2 : pb_ub f a % 128 = pb_ub f a := Nat.mod_eq_of_lt hb
            rw [h2]
            have h3 : pb_ub f a * 2 ^ (7 * 9) ≤ 1 * 2 ^ (7 * 9) := Nat.mul_le_mul_right _ h1
            have h4 : (2 : Nat) ^ (7 * 9) = 9223372036854775808 := by decide
            have h5 : (2 : Nat) ^ 64 = 18446744073709551616 := by decide
            rw [h4] at hv h3
            rw [h4, h5]
            exact Nat.lt_of_lt_of_le (Nat.add_lt_add_of_lt_of_le hv h3) (by decide)
          · have h6 : 2 ^ (7 * (i + 1)) ≤ 2 ^ 64 := Nat.pow_le_pow_right (by decide) (by omega)
            exact Nat.lt_of_lt_of_le hv2 h6
        · rw [if_neg hb] at h
          exact pb_rdn_lt k (i + 1) (a + 1) _ n a' (by omega) hv2 h
    · rw [if_neg ha] at h; cases h
theorem pb_rd_lt {f : Nat → Int32} {e a n a' : Nat} (h : pb_rd f e a = some (n, a')) : n < 2 ^ 64 := pb_rdn_lt 10 0 a 0 n a' rfl (by decide) h
theorem pb_rd_in {f : Nat → Int32} {e a n a' : Nat} (h : pb_rd f e a = some (n, a')) : a < a' ∧ a' ≤ e := pb_rdn_in 10 0 a 0 n a' h
end
section
/-! a NUMBER laid: how many bytes, and the row behind it -/
def pl_n : Nat → Nat → Nat
  | 0, _ => 1
  | k + 1, n => if 128 ≤ n then pl_n k (n / 128) + 1 else 1
def pl_f (f : Nat → Int32) : Nat → Nat → Nat → (Nat → Int32)
  | 0, L, n => upd f L (sb_b n)
  | k + 1, L, n => if 128 ≤ n then pl_f (upd f L (sb_b (n % 128 + 128))) k (L + 1) (n / 128) else upd f L (sb_b n)
theorem pl_n_pos : ∀ k n, 1 ≤ pl_n k n
  | 0, _ => Nat.le_refl _
  | k + 1, n => by
    unfold pl_n
    split <;> omega
theorem pl_n_le : ∀ k n, pl_n k n ≤ k + 1
  | 0, _ => Nat.le_refl _
  | k + 1, n => by
    unfold pl_n
    split
    · have := pl_n_le k (n / 128)
      omega
    · omega
theorem pl_n_small {k n j : Nat} (h : n < 2 ^ (7 * (j + 1))) : pl_n k n ≤ j + 1 := by
  induction k generalizing n j with
  | zero => exact Nat.le_add_left 1 j
  | succ k ih =>
    unfold pl_n
    split
    · rename_i h1
      cases j with
      | zero => exact absurd h (by simp; omega)
      | succ j =>
        have h2 : n / 128 < 2 ^ (7 * (j + 1)) := by
          have e : 2 ^ (7 * (j + 1 + 1)) = 128 * 2 ^ (7 * (j + 1)) := by rw [Nat.mul_succ 7 (j + 1), Nat.pow_add, Nat.mul_comm]
          rw [e] at h
          exact Nat.div_lt_of_lt_mul h
        have := ih h2
        omega
    · omega
theorem pl_lo (f : Nat → Int32) : ∀ k L n i, i < L → pl_f f k L n i = f i
  | 0, L, n, i, h => by
    show upd f L (sb_b n) i = f i
    exact pk_un (by omega)
  | k + 1, L, n, i, h => by
    unfold pl_f
    split
    · rw [pl_lo _ k (L + 1) (n / 128) i (by omega)]
      exact pk_un (by omega)
    · exact pk_un (by omega)
theorem pl_eq : ∀ k L n (f g : Nat → Int32), pb_eq f g L → pb_eq (pl_f f k L n) (pl_f g k L n) (L + pl_n k n)
  | 0, L, n, f, g, h => by
    intro i hi
    have hi : i < L + 1 := hi
    show upd f L (sb_b n) i = upd g L (sb_b n) i
    by_cases e : i = L
    · subst e
      rw [pk_us, pk_us]
    · rw [pk_un e, pk_un e]
      exact h i (by omega)
  | k + 1, L, n, f, g, h => by
    unfold pl_f pl_n
    have h1 : ∀ x, pb_eq (upd f L x) (upd g L x) (L + 1) := fun x i hi => by
      by_cases e : i = L
      · subst e
        rw [pk_us, pk_us]
      · rw [pk_un e, pk_un e]
        exact h i (by omega)
    split
    · have := pl_eq k (L + 1) (n / 128) _ _ (h1 (sb_b (n % 128 + 128)))
      rw [show L + 1 + pl_n k (n / 128) = L + (pl_n k (n / 128) + 1) by omega] at this
      exact this
    · exact h1 _
/-- every place holds a byte -/
def pb_fit (f : Nat → Int32) : Prop := ∀ j, (f j).toInt8.toInt32 = f j
theorem pb_fit_sb (c : Nat) : (sb_b c).toInt8.toInt32 = sb_b c := by
  unfold sb_b
  simp
theorem pb_fit.upd {f : Nat → Int32} {k : Nat} {x : Int32} (h : pb_fit f) (hx : x.toInt8.toInt32 = x) : pb_fit (upd f k x) := by
  intro j
  by_cases e : j = k
  · subst e
    rw [pk_us]; exact hx
  · rw [pk_un e]; exact h j
theorem pl_fit : ∀ k L n (f : Nat → Int32), pb_fit f → pb_fit (pl_f f k L n)
  | 0, L, n, f, h => h.upd (pb_fit_sb n)
  | k + 1, L, n, f, h => by
    unfold pl_f
    split
    · exact pl_fit k (L + 1) (n / 128) _ (h.upd (pb_fit_sb _))
    · exact h.upd (pb_fit_sb n)
end
section
/-! the table's words: sums, foot, entries, an INDEX, a whole table, in numbers and rows of bytes -/
def ps_w (f : Nat → Int32) (a b : Nat) : Nat := pb_crc f a (b - a) ^^^ 4294967295
theorem ps_w_lt (f : Nat → Int32) (a b : Nat) : ps_w f a b < 2 ^ 32 := Nat.xor_lt_two_pow (pb_crc_lt f a _) (by decide)
theorem pb_eq.w {f g : Nat → Int32} {L a b : Nat} (h : pb_eq f g L) (hb : b ≤ L) (hab : a ≤ b) : ps_w f a b = ps_w g a b := by
  unfold ps_w
  rw [h.crc _ (by omega)]
/-- k bytes of the number w laid at L, the lowest first -/
def ps_k (f : Nat → Int32) (L w : Nat) : Nat → (Nat → Int32)
  | 0 => f
  | k + 1 => upd (ps_k f L w k) (L + k) (sb_b (w / 2 ^ (8 * k)))
/-- k of the four bytes of n laid at L, the highest first -/
def pf_k (f : Nat → Int32) (L n : Nat) : Nat → (Nat → Int32)
  | 0 => f
  | k + 1 => upd (pf_k f L n k) (L + k) (sb_b (n / 2 ^ (8 * (3 - k))))
theorem pb_eq.upd {f g : Nat → Int32} {L : Nat} {x : Int32} (h : pb_eq f g L) : pb_eq (upd f L x) (upd g L x) (L + 1) := fun i hi => by
  by_cases e : i = L
  · subst e
    rw [pk_us, pk_us]
  · rw [pk_un e, pk_un e]
    exact h i (by omega)
theorem ps_eq {f g : Nat → Int32} {L w : Nat} (h : pb_eq f g L) : ∀ k, pb_eq (ps_k f L w k) (ps_k g L w k) (L + k)
  | 0 => h
  | k + 1 => (ps_eq h k).upd
theorem pf_eq {f g : Nat → Int32} {L n : Nat} (h : pb_eq f g L) : ∀ k, pb_eq (pf_k f L n k) (pf_k g L n k) (L + k)
  | 0 => h
  | k + 1 => (pf_eq h k).upd
theorem ps_fit {f : Nat → Int32} {L w : Nat} (h : pb_fit f) : ∀ k, pb_fit (ps_k f L w k)
  | 0 => h
  | k + 1 => (ps_fit h k).upd (pb_fit_sb _)
theorem pf_fit {f : Nat → Int32} {L n : Nat} (h : pb_fit f) : ∀ k, pb_fit (pf_k f L n k)
  | 0 => h
  | k + 1 => (pf_fit h k).upd (pb_fit_sb _)
/-- the SUM of the bytes from a to b stands at b -/
def ps_has (f : Nat → Int32) (a b : Nat) : Prop := ∀ i, i < 4 → pb_ub f (b + i) = ps_w f a b / 2 ^ (8 * i) % 256
theorem pb_eq.has {f g : Nat → Int32} {L a b : Nat} (h : pb_eq f g L) (hb : b + 4 ≤ L) (hab : a ≤ b) : ps_has f a b ↔ ps_has g a b := by
  unfold ps_has
  rw [h.w (by omega) hab]
  constructor
  · intro q i hi
    rw [← h.ub (by omega : b + i < L)]; exact q i hi
  · intro q i hi
    rw [h.ub (by omega : b + i < L)]; exact q i hi
def ps_hasB (f : Nat → Int32) (a b : Nat) : Bool := (List.range 4).all (fun i => pb_ub f (b + i) == ps_w f a b / 2 ^ (8 * i) % 256)
theorem ps_hasB_iff {f : Nat → Int32} {a b : Nat} : ps_hasB f a b = true ↔ ps_has f a b := by
  unfold ps_hasB ps_has
  simp [List.all_eq_true]
/-- the number that n bytes from a say, the highest first -/
def pf_n (f : Nat → Int32) (a : Nat) : Nat → Nat
  | 0 => 0
  | k + 1 => pf_n f a k * 256 + pb_ub f (a + k)
theorem pb_eq.foot {f g : Nat → Int32} {L a : Nat} (h : pb_eq f g L) : ∀ k, a + k ≤ L → pf_n f a k = pf_n g a k
  | 0, _ => rfl
  | k + 1, hk => by
    show pf_n f a k * 256 + pb_ub f (a + k) = pf_n g a k * 256 + pb_ub g (a + k)
    rw [h.foot k (by omega), h.ub (by omega)]
theorem pf_n_lt (f : Nat → Int32) (a : Nat) : ∀ k, pf_n f a k < 256 ^ k
  | 0 => (by decide : (0 : Nat) < 256 ^ 0)
  | k + 1 => by
    have h1 := pf_n_lt f a k
    have h2 := pb_ub_lt f (a + k)
    show pf_n f a k * 256 + pb_ub f (a + k) < 256 ^ (k + 1)
    rw [Nat.pow_succ]
    omega
/-! FOLD and back, as both sides compute them -/
def pu_f (v : Int64) : Int64 := if v < 0 then -2 * v - 1 else 2 * v
def pu_h (x : Int64) : Int64 := (x.toUInt64 >>> ((1 : Int32).toInt64.toUInt64 &&& Int64.toUInt64 63)).toInt64
def pu_u (x : Int64) : Int64 := if x &&& 1 = 0 then pu_h x else -(pu_h x) - 1
/-! ENTRIES -/
def pe_key (fst : Bool) (key : Int32) (n : Nat) : Int32 := if fst = true then (pu_u (lN n)).toInt32 else (key.toInt64 + lN n + 1).toInt32
def pe_rd (f : Nat → Int32) (e : Nat) (fst : Bool) (key : Int32) (a : Nat) : Option (Int32 × Int64 × Nat) := match pb_rd f e a with
  | none => none
  | some (n, a1) => match pb_rd f e a1 with
    | none => none
    | some (m, a2) => some (pe_key fst key n, pu_u (lN m), a2)
def pe_bl (f : Nat → Int32) (e : Nat) : Nat → Bool → Int32 → Nat → Option (List (Int32 × Int64))
  | 0, _, _, a => if a < e then none else some []
  | k + 1, fst, key, a => if a < e then (match pe_rd f e fst key a with
    | none => none
    | some (k1, v1, a1) => (pe_bl f e k false k1 a1).map (fun l => (k1, v1) :: l)) else some []
theorem pb_eq.erd {f g : Nat → Int32} {L e : Nat} (h : pb_eq f g L) (he : e ≤ L) (fst : Bool) (key : Int32) (a : Nat) : pe_rd f e fst key a = pe_rd g e fst key a := by
  unfold pe_rd
  rw [h.rd he a]
  cases hq : pb_rd g e a with
  | none => rfl
  | some q =>
    obtain ⟨n, a1⟩ := q
    simp only [h.rd he a1]
theorem pb_eq.bl {f g : Nat → Int32} {L e : Nat} (h : pb_eq f g L) (he : e ≤ L) : ∀ k fst key a, pe_bl f e k fst key a = pe_bl g e k fst key a
  | 0, _, _, _ => rfl
  | k + 1, fst, key, a => by
    unfold pe_bl
    rw [h.erd he]
    by_cases ha : a < e
    · rw [if_pos ha, if_pos ha]
      cases hq : pe_rd g e fst key a with
      | none => rfl
      | some q =>
        obtain ⟨k1, v1, a1⟩ := q
        simp only [h.bl he k]
    · rw [if_neg ha, if_neg ha]
theorem pe_rd_in {f : Nat → Int32} {e : Nat} {fst : Bool} {key k1 : Int32} {v1 : Int64} {a a1 : Nat} (h : pe_rd f e fst key a = some (k1, v1, a1)) : a + 2 ≤ a1 ∧ a1 ≤ e := by
  unfold pe_rd at h
  cases hq : pb_rd f e a with
  | none => rw [hq] at h; cases h
  | some q =>
    obtain ⟨n, b1⟩ := q
    rw [hq] at h
    have h1 := pb_rd_in hq
    cases hr : pb_rd f e b1 with
    | none => simp only [hr] at h; cases h
    | some r =>
      obtain ⟨m, b2⟩ := r
      simp only [hr] at h
      have h2 := pb_rd_in hr
      cases h
      omega
theorem pe_bl_len {f : Nat → Int32} {e : Nat} : ∀ k fst key a l, pe_bl f e k fst key a = some l → 2 * l.length ≤ e - a
  | 0, _, _, a, l, h => by
    unfold pe_bl at h
    split at h
    · cases h
    · cases h; simp
  | k + 1, fst, key, a, l, h => by
    unfold pe_bl at h
    split at h
    · rename_i ha
      cases hq : pe_rd f e fst key a with
      | none => rw [hq] at h; cases h
      | some q =>
        obtain ⟨k1, v1, a1⟩ := q
        rw [hq] at h
        have h1 := pe_rd_in hq
        cases hr : pe_bl f e k false k1 a1 with
        | none => simp [hr] at h
        | some l1 =>
          simp [hr] at h
          have h2 := pe_bl_len k false k1 a1 l1 hr
          rw [← h]
          simp
          omega
    · cases h; simp
/-! an INDEX: so many rows of a length and a folded KEY -/
def px_ok (n : Nat) : Bool := decide (n ≤ 4294967295)
def px_rd (f : Nat → Int32) (e : Nat) : Nat → Nat → Option (List (Nat × Nat) × Nat)
  | 0, a => some ([], a)
  | k + 1, a => match pb_rd f e a with
    | none => none
    | some (n, a1) => match pb_rd f e a1 with
      | none => none
      | some (m, a2) => if n ≤ 4294967295 ∧ m ≤ 4294967295 then (px_rd f e k a2).map (fun r => ((n, m) :: r.1, r.2)) else none
theorem pb_eq.xrd {f g : Nat → Int32} {L e : Nat} (h : pb_eq f g L) (he : e ≤ L) : ∀ k a, px_rd f e k a = px_rd g e k a
  | 0, _ => rfl
  | k + 1, a => by
    unfold px_rd
    rw [h.rd he a]
    cases hq : pb_rd g e a with
    | none => rfl
    | some q =>
      obtain ⟨n, a1⟩ := q
      simp only [h.rd he a1]
      cases hr : pb_rd g e a1 with
      | none => rfl
      | some r =>
        obtain ⟨m, a2⟩ := r
        simp only [h.xrd he k a2]
theorem px_rd_in {f : Nat → Int32} {e : Nat} : ∀ k a l a', px_rd f e k a = some (l, a') → a + 2 * k ≤ a' ∧ l.length = k ∧ (a ≤ e → a' ≤ e)
  | 0, a, l, a', h => by
    unfold px_rd at h
    cases h
    simp
  | k + 1, a, l, a', h => by
    unfold px_rd at h
    cases hq : pb_rd f e a with
    | none => rw [hq] at h; cases h
    | some q =>
      obtain ⟨n, a1⟩ := q
      rw [hq] at h
      have h1 := pb_rd_in hq
      cases hr : pb_rd f e a1 with
      | none => simp only [hr] at h; cases h
      | some r =>
        obtain ⟨m, a2⟩ := r
        simp only [hr] at h
        have h2 := pb_rd_in hr
        split at h
        · cases ht : px_rd f e k a2 with
          | none => simp [ht] at h
          | some t =>
            obtain ⟨l1, a3⟩ := t
            simp [ht] at h
            have h3 := px_rd_in k a2 l1 a3 ht
            obtain ⟨e1, e2⟩ := h
            subst e2
            rw [← e1]
            simp
            omega
        · cases h
/-- the lengths' sum -/
def px_sum : List (Nat × Nat) → Nat
  | [] => 0
  | q :: l => q.1 + px_sum l
/-- what open reads: the rows of the INDEX, if all is right -/
def px_open (f : Nat → Int32) (L : Nat) : Option (List (Nat × Nat)) :=
  if 8 ≤ L ∧ pf_n f (L - 4) 4 ≤ L - 8 ∧ ps_hasB f (L - 8 - pf_n f (L - 4) 4) (L - 8) = true then
    match pb_rd f (L - 8) (L - 8 - pf_n f (L - 4) 4) with
    | none => none
    | some (n, a1) => match px_rd f (L - 8) n a1 with
      | none => none
      | some (l, a2) => if a2 = L - 8 ∧ px_sum l = L - 8 - pf_n f (L - 4) 4 then some l else none
  else none
end
section
/-! what write lays down, as both sides lay it: a row of bytes and how many are laid -/
abbrev pw_P : Type := (Nat → Int32) × Nat
def pw_n (s : pw_P) (x : Int64) : pw_P := (pl_f s.1 9 s.2 x.toBitVec.toNat, s.2 + pl_n 9 x.toBitVec.toNat)
def pw_x (kf : Nat → Int32) (i j : Nat) : Int64 := if j = i then pu_f (kf j).toInt64 else (kf j).toInt64 - (kf (j - 1)).toInt64 - 1
def pw_e (kf : Nat → Int32) (vf : Nat → Int64) (i j : Nat) (s : pw_P) : pw_P := pw_n (pw_n s (pw_x kf i j)) (pu_f (vf j))
def pw_b (kf : Nat → Int32) (vf : Nat → Int64) (i : Nat) : Nat → pw_P → pw_P
  | 0, s => s
  | m + 1, s => pw_e kf vf i (i + m) (pw_b kf vf i m s)
def pw_s (s : pw_P) (a : Nat) : pw_P := (ps_k s.1 s.2 (ps_w s.1 a s.2) 4, s.2 + 4)
def pw_f (s : pw_P) (n : Nat) : pw_P := (pf_k s.1 s.2 n 4, s.2 + 4)
/-- one BLOCK: from the entry i, w entries in all -/
def pw_bl (kf : Nat → Int32) (vf : Nat → Int64) (w i : Nat) (s : pw_P) : pw_P := pw_s (pw_b kf vf i (min 8 (w - i)) s) s.2
def pw_bs (kf : Nat → Int32) (vf : Nat → Int64) (w : Nat) : Nat → pw_P → pw_P
  | 0, s => s
  | b + 1, s => pw_bl kf vf w (8 * b) (pw_bs kf vf w b s)
def pw_len (kf : Nat → Int32) (vf : Nat → Int64) (w : Nat) (s : pw_P) (b : Nat) : Nat := (pw_bs kf vf w (b + 1) s).2 - (pw_bs kf vf w b s).2
/-- the INDEX's rows: ln the BLOCKS' lengths -/
def pw_i (kf : Nat → Int32) (ln : Nat → Nat) : Nat → pw_P → pw_P
  | 0, s => s
  | b + 1, s => pw_n (pw_n (pw_i kf ln b s) (lN (ln b))) (pu_f (kf (8 * b)).toInt64)
def pw_ix (kf : Nat → Int32) (ln : Nat → Nat) (n : Nat) (s : pw_P) : pw_P :=
  pw_f (pw_s (pw_i kf ln n (pw_n s (lN n))) s.2) ((pw_i kf ln n (pw_n s (lN n))).2 - s.2)
def pw_all (kf : Nat → Int32) (vf : Nat → Int64) (w : Nat) (f : Nat → Int32) : pw_P :=
  pw_ix kf (pw_len kf vf w (f, 0)) ((w + 7) / 8) (pw_bs kf vf w ((w + 7) / 8) (f, 0))
/-- two rows with the same bytes laid -/
def pw_eq (s t : pw_P) : Prop := s.2 = t.2 ∧ pb_eq s.1 t.1 s.2
theorem pw_eq.n {s t : pw_P} (h : pw_eq s t) (x : Int64) : pw_eq (pw_n s x) (pw_n t x) := by
  obtain ⟨h1, h2⟩ := h
  refine ⟨by show s.2 + _ = t.2 + _; rw [h1], ?_⟩
  show pb_eq (pl_f s.1 9 s.2 _) (pl_f t.1 9 t.2 _) (s.2 + _)
  rw [← h1]
  exact pl_eq 9 s.2 _ _ _ h2
theorem pw_eq.e {s t : pw_P} (h : pw_eq s t) {kf kg : Nat → Int32} {vf vg : Nat → Int64} {i j : Nat} (hx : pw_x kf i j = pw_x kg i j) (hv : vf j = vg j) : pw_eq (pw_e kf vf i j s) (pw_e kg vg i j t) := by
  unfold pw_e
  rw [hx, hv]
  exact (h.n _).n _
theorem pw_x_eq {kf kg : Nat → Int32} {i j w : Nat} (hk : ∀ a, a < w → kf a = kg a) (hj : j < w) : pw_x kf i j = pw_x kg i j := by
  unfold pw_x
  split
  · rw [hk j hj]
  · rw [hk j hj, hk (j - 1) (by omega)]
theorem pw_eq.b {kf kg : Nat → Int32} {vf vg : Nat → Int64} {i w : Nat} (hk : ∀ a, a < w → kf a = kg a) (hv : ∀ a, a < w → vf a = vg a) : ∀ m {s t : pw_P}, i + m ≤ w → pw_eq s t → pw_eq (pw_b kf vf i m s) (pw_b kg vg i m t)
  | 0, _, _, _, h => h
  | m + 1, _, _, hm, h => (pw_eq.b hk hv m (by omega) h).e (pw_x_eq hk (by omega)) (hv _ (by omega))
theorem pw_n_le (s : pw_P) (x : Int64) : s.2 ≤ (pw_n s x).2 := Nat.le_add_right _ _
theorem pw_b_le (kf : Nat → Int32) (vf : Nat → Int64) (i : Nat) : ∀ m (s : pw_P), s.2 ≤ (pw_b kf vf i m s).2
  | 0, s => Nat.le_refl _
  | m + 1, s => Nat.le_trans (pw_b_le kf vf i m s) (Nat.le_trans (pw_n_le _ _) (pw_n_le _ _))
theorem pw_eq.s {s t : pw_P} (h : pw_eq s t) {a : Nat} (ha : a ≤ s.2) : pw_eq (pw_s s a) (pw_s t a) := by
  obtain ⟨h1, h2⟩ := h
  refine ⟨by show s.2 + 4 = t.2 + 4; rw [h1], ?_⟩
  show pb_eq (ps_k s.1 s.2 (ps_w s.1 a s.2) 4) (ps_k t.1 t.2 (ps_w t.1 a t.2) 4) (s.2 + 4)
  rw [← h1, h2.w (Nat.le_refl _) ha]
  exact ps_eq h2 4
theorem pw_eq.f {s t : pw_P} (h : pw_eq s t) (n : Nat) : pw_eq (pw_f s n) (pw_f t n) := by
  obtain ⟨h1, h2⟩ := h
  refine ⟨by show s.2 + 4 = t.2 + 4; rw [h1], ?_⟩
  show pb_eq (pf_k s.1 s.2 n 4) (pf_k t.1 t.2 n 4) (s.2 + 4)
  rw [← h1]
  exact pf_eq h2 4
theorem pw_eq.bl {kf kg : Nat → Int32} {vf vg : Nat → Int64} {i w : Nat} {s t : pw_P} (hk : ∀ a, a < w → kf a = kg a) (hv : ∀ a, a < w → vf a = vg a) (hi : i ≤ w) (h : pw_eq s t) : pw_eq (pw_bl kf vf w i s) (pw_bl kg vg w i t) := by
  unfold pw_bl
  rw [← h.1]
  exact (pw_eq.b hk hv (min 8 (w - i)) (by omega) h).s (pw_b_le kf vf i _ s)
theorem pw_eq.bs {kf kg : Nat → Int32} {vf vg : Nat → Int64} {w : Nat} {s t : pw_P} (hk : ∀ a, a < w → kf a = kg a) (hv : ∀ a, a < w → vf a = vg a) (h : pw_eq s t) : ∀ b, 8 * (b - 1) ≤ w → pw_eq (pw_bs kf vf w b s) (pw_bs kg vg w b t)
  | 0, _ => h
  | b + 1, hb => pw_eq.bl hk hv (by omega) (pw_eq.bs hk hv h b (by omega))
theorem pw_i_le (kf : Nat → Int32) (ln : Nat → Nat) : ∀ n (s : pw_P), s.2 ≤ (pw_i kf ln n s).2
  | 0, s => Nat.le_refl _
  | n + 1, s => Nat.le_trans (pw_i_le kf ln n s) (Nat.le_trans (pw_n_le _ _) (pw_n_le _ _))
theorem pw_eq.i {kf kg : Nat → Int32} {ln lm : Nat → Nat} {s t : pw_P} (h : pw_eq s t) : ∀ n, (∀ b, b < n → kf (8 * b) = kg (8 * b) ∧ ln b = lm b) → pw_eq (pw_i kf ln n s) (pw_i kg lm n t)
  | 0, _ => h
  | n + 1, hq => by
    have h1 := h.i n (fun b hb => hq b (by omega))
    obtain ⟨e1, e2⟩ := hq n (by omega)
    show pw_eq (pw_n (pw_n (pw_i kf ln n s) (lN (ln n))) (pu_f (kf (8 * n)).toInt64)) (pw_n (pw_n (pw_i kg lm n t) (lN (lm n))) (pu_f (kg (8 * n)).toInt64))
    rw [e1, e2]
    exact (h1.n _).n _
theorem pw_eq.ix {kf kg : Nat → Int32} {ln lm : Nat → Nat} {n : Nat} {s t : pw_P} (h : pw_eq s t) (hq : ∀ b, b < n → kf (8 * b) = kg (8 * b) ∧ ln b = lm b) : pw_eq (pw_ix kf ln n s) (pw_ix kg lm n t) := by
  unfold pw_ix
  have h1 := (h.n (lN n)).i n hq
  rw [← h.1, ← h1.1]
  exact (h1.s (Nat.le_trans (pw_n_le s (lN n)) (pw_i_le kf ln n _))).f _
theorem pw_eq.all {kf kg : Nat → Int32} {vf vg : Nat → Int64} {w : Nat} {f g : Nat → Int32} (hk : ∀ a, a < w → kf a = kg a) (hv : ∀ a, a < w → vf a = vg a) : pw_eq (pw_all kf vf w f) (pw_all kg vg w g) := by
  have h0 : pw_eq (f, 0) (g, 0) := ⟨rfl, fun i hi => absurd hi (Nat.not_lt_zero i)⟩
  have hb : ∀ b, b ≤ (w + 7) / 8 → pw_eq (pw_bs kf vf w b (f, 0)) (pw_bs kg vg w b (g, 0)) := fun b hb => pw_eq.bs hk hv h0 b (by omega)
  refine pw_eq.ix (hb _ (Nat.le_refl _)) (fun b h => ⟨hk _ (by omega), ?_⟩)
  unfold pw_len
  rw [(hb (b + 1) (by omega)).1, (hb b (by omega)).1]
end
section
/-! how long what is laid can be -/
theorem pz_sub {a b : Int64} (h1 : -9223372036854775808 ≤ a.toInt - b.toInt) (h2 : a.toInt - b.toInt < 9223372036854775808) : (a - b).toInt = a.toInt - b.toInt := by
  rw [Int64.toInt_sub]
  exact Int.bmod_eq_of_le (by omega) (by omega)
theorem pz_mul {a b : Int64} (h1 : -9223372036854775808 ≤ a.toInt * b.toInt) (h2 : a.toInt * b.toInt < 9223372036854775808) : (a * b).toInt = a.toInt * b.toInt := by
  rw [Int64.toInt_mul]
  exact Int.bmod_eq_of_le (by omega) (by omega)
theorem pz_i (k : Int32) : -2147483648 ≤ k.toInt64.toInt ∧ k.toInt64.toInt < 2147483648 := by
  rw [Int32.toInt_toInt64]
  have h1 := k.le_toInt
  have h2 := k.toInt_lt
  omega
theorem pz_nat {x : Int64} {B : Nat} (h1 : 0 ≤ x.toInt) (h2 : x.toInt < B) : x.toBitVec.toNat < B := by
  have c := BitVec.toInt_eq_toNat_cond x.toBitVec
  have e : x.toBitVec.toInt = x.toInt := rfl
  have hl := x.toBitVec.isLt
  rw [e] at c
  split at c <;> omega
theorem pu_f_in {v : Int64} (h1 : -2147483648 ≤ v.toInt) (h2 : v.toInt < 2147483648) : 0 ≤ (pu_f v).toInt ∧ (pu_f v).toInt < 4294967296 := by
  unfold pu_f
  have t0 : (0 : Int64).toInt = 0 := by decide
  have t1 : (1 : Int64).toInt = 1 := by decide
  have t2 : (2 : Int64).toInt = 2 := by decide
  have t3 : (-2 : Int64).toInt = -2 := by decide
  split
  · rename_i h
    rw [Int64.lt_iff_toInt_lt, t0] at h
    have e1 : (-2 * v).toInt = -2 * v.toInt := by rw [pz_mul (by rw [t3]; omega) (by rw [t3]; omega), t3]
    rw [pz_sub (by rw [e1, t1]; omega) (by rw [e1, t1]; omega), e1, t1]
    omega
  · rename_i h
    rw [Int64.lt_iff_toInt_lt, t0] at h
    rw [pz_mul (by rw [t2]; omega) (by rw [t2]; omega), t2]
    omega
theorem pu_f_lt (k : Int32) : (pu_f k.toInt64).toBitVec.toNat < 4294967296 := by
  obtain ⟨h1, h2⟩ := pz_i k
  obtain ⟨h3, h4⟩ := pu_f_in h1 h2
  exact pz_nat h3 h4
/-- the waiting KEYS go up -/
def pw_up (kf : Nat → Int32) (w : Nat) : Prop := ∀ i, i + 1 < w → kf i < kf (i + 1)
theorem pw_x_lt {kf : Nat → Int32} {w i j : Nat} (h : pw_up kf w) (hij : i ≤ j) (hj : j < w) : (pw_x kf i j).toBitVec.toNat < 4294967296 := by
  unfold pw_x
  split
  · exact pu_f_lt _
  · rename_i hne
    have h1 := h (j - 1) (by omega)
    rw [show j - 1 + 1 = j by omega, Int32.lt_iff_toInt_lt] at h1
    have a1 := pz_i (kf j)
    have a2 := pz_i (kf (j - 1))
    have e1 : (kf j).toInt64.toInt = (kf j).toInt := Int32.toInt_toInt64 _
    have e2 : (kf (j - 1)).toInt64.toInt = (kf (j - 1)).toInt := Int32.toInt_toInt64 _
    have t1 : (1 : Int64).toInt = 1 := by decide
    have s1 : ((kf j).toInt64 - (kf (j - 1)).toInt64).toInt = (kf j).toInt64.toInt - (kf (j - 1)).toInt64.toInt := pz_sub (by omega) (by omega)
    have s2 : ((kf j).toInt64 - (kf (j - 1)).toInt64 - 1).toInt = (kf j).toInt64.toInt - (kf (j - 1)).toInt64.toInt - 1 := by rw [pz_sub (by rw [s1, t1]; omega) (by rw [s1, t1]; omega), s1, t1]
    exact pz_nat (by rw [s2]; omega) (by rw [s2]; omega)
theorem pl_n5 {n : Nat} (h : n < 4294967296) : pl_n 9 n ≤ 5 := pl_n_small (j := 4) (Nat.lt_of_lt_of_le h (by decide))
theorem pl_n1 {n : Nat} (h : n < 128) : pl_n 9 n = 1 := Nat.le_antisymm (pl_n_small (j := 0) h) (pl_n_pos 9 n)
theorem pw_e_up {kf : Nat → Int32} {vf : Nat → Int64} {w i j : Nat} {s : pw_P} (h : pw_up kf w) (hij : i ≤ j) (hj : j < w) : (pw_e kf vf i j s).2 ≤ s.2 + 15 := by
  have h1 := pl_n5 (pw_x_lt h hij hj)
  have h2 := pl_n_le 9 (pu_f (vf j)).toBitVec.toNat
  show s.2 + pl_n 9 (pw_x kf i j).toBitVec.toNat + pl_n 9 (pu_f (vf j)).toBitVec.toNat ≤ s.2 + 15
  omega
theorem pw_b_up {kf : Nat → Int32} {vf : Nat → Int64} {w i : Nat} (h : pw_up kf w) : ∀ m (s : pw_P), i + m ≤ w → (pw_b kf vf i m s).2 ≤ s.2 + 15 * m
  | 0, s, _ => Nat.le_refl _
  | m + 1, s, hm => by
    have h1 := pw_b_up (vf := vf) (i := i) h m s (by omega)
    have h2 := pw_e_up (vf := vf) (s := pw_b kf vf i m s) h (Nat.le_add_right i m) (by omega)
    show (pw_e kf vf i (i + m) (pw_b kf vf i m s)).2 ≤ _
    omega
theorem pw_bl_up {kf : Nat → Int32} {vf : Nat → Int64} {w i : Nat} (h : pw_up kf w) (hi : i ≤ w) (s : pw_P) : (pw_bl kf vf w i s).2 ≤ s.2 + 15 * min 8 (w - i) + 4 := by
  have h1 := pw_b_up (vf := vf) h (min 8 (w - i)) s (by omega : i + min 8 (w - i) ≤ w)
  show (pw_b kf vf i (min 8 (w - i)) s).2 + 4 ≤ _
  omega
theorem pw_bs_up {kf : Nat → Int32} {vf : Nat → Int64} {w : Nat} (h : pw_up kf w) (s : pw_P) : ∀ b, 8 * (b - 1) ≤ w → (pw_bs kf vf w b s).2 ≤ s.2 + 15 * min (8 * b) w + 4 * b
  | 0, _ => Nat.le_add_right _ _
  | b + 1, hb => by
    have h1 := pw_bs_up (vf := vf) h s b (by omega)
    have h2 := pw_bl_up (vf := vf) h (by omega : 8 * b ≤ w) (pw_bs kf vf w b s)
    show (pw_bl kf vf w (8 * b) (pw_bs kf vf w b s)).2 ≤ _
    omega
theorem pw_bl_ge (kf : Nat → Int32) (vf : Nat → Int64) (w i : Nat) (s : pw_P) : s.2 ≤ (pw_bl kf vf w i s).2 := Nat.le_trans (pw_b_le kf vf i _ s) (Nat.le_add_right _ _)
theorem pw_len_up {kf : Nat → Int32} {vf : Nat → Int64} {w b : Nat} (h : pw_up kf w) (s : pw_P) (hb : 8 * b ≤ w) : pw_len kf vf w s b ≤ 124 := by
  have h2 := pw_bl_up (vf := vf) h hb (pw_bs kf vf w b s)
  show (pw_bl kf vf w (8 * b) (pw_bs kf vf w b s)).2 - (pw_bs kf vf w b s).2 ≤ 124
  omega
theorem pz_lN {n : Nat} (h : n < 2 ^ 64) : (lN n).toBitVec.toNat = n := wb_tn h
theorem pw_i_up {kf : Nat → Int32} {ln : Nat → Nat} (hl : ∀ b, ln b < 128) : ∀ n (s : pw_P), (pw_i kf ln n s).2 ≤ s.2 + 6 * n
  | 0, s => Nat.le_refl _
  | n + 1, s => by
    have h1 := pw_i_up (kf := kf) hl n s
    have h2 : pl_n 9 (lN (ln n)).toBitVec.toNat = 1 := by
      rw [pz_lN (Nat.lt_trans (hl n) (by decide))]
      exact pl_n1 (hl n)
    have h3 := pl_n5 (pu_f_lt (kf (8 * n)))
    show (pw_i kf ln n s).2 + pl_n 9 (lN (ln n)).toBitVec.toNat + pl_n 9 (pu_f (kf (8 * n)).toInt64).toBitVec.toNat ≤ _
    omega
end
section
/-! the INDEX as the rows of two arrays; one row read -/
theorem px_step {f : Nat → Int32} {e k a n1 a1 n2 a2 : Nat} {okv o1 o2 : Int32} (hr1 : (pb_rd f e a = some (n1, a1) ∧ o1 = okv) ∨ (pb_rd f e a = none ∧ o1 = 0)) (hr2 : (pb_rd f e a1 = some (n2, a2) ∧ o2 = o1) ∨ (pb_rd f e a1 = none ∧ o2 = 0)) :
    (¬ (n1 ≤ 4294967295 ∧ n2 ≤ 4294967295) → okv = 0 ∨ px_rd f e (k + 1) a = none) ∧ (n1 ≤ 4294967295 → n2 ≤ 4294967295 → (o2 = 0 ∨ px_rd f e k a2 = none) → (okv = 0 ∨ px_rd f e (k + 1) a = none)) ∧
    (n1 ≤ 4294967295 → n2 ≤ 4294967295 → o2 = 1 → okv = 1 ∧ ∀ l a3, px_rd f e k a2 = some (l, a3) → px_rd f e (k + 1) a = some ((n1, n2) :: l, a3)) := by
  rcases hr1 with ⟨h1, rfl⟩ | ⟨h1, rfl⟩
  · rcases hr2 with ⟨h2, rfl⟩ | ⟨h2, rfl⟩
    · refine ⟨fun hn => Or.inr ?_, fun q1 q2 h => ?_, fun q1 q2 h => ⟨h, fun l a3 h3 => ?_⟩⟩
      · unfold px_rd
        simp only [h1, h2]
        rw [if_neg hn]
      · rcases h with h | h
        · exact Or.inl h
        · refine Or.inr ?_
          unfold px_rd
          simp only [h1, h2]
          rw [if_pos ⟨q1, q2⟩, h]
          rfl
      · unfold px_rd
        simp only [h1, h2]
        rw [if_pos ⟨q1, q2⟩, h3]
        rfl
    · have hn : px_rd f e (k + 1) a = none := by
        unfold px_rd
        simp only [h1, h2]
      exact ⟨fun _ => Or.inr hn, fun _ _ _ => Or.inr hn, fun _ _ h => absurd h (by decide)⟩
  · have hn : px_rd f e (k + 1) a = none := by
      unfold px_rd
      simp only [h1]
    refine ⟨fun _ => Or.inr hn, fun _ _ _ => Or.inr hn, fun _ _ h => ?_⟩
    rcases hr2 with ⟨-, h2⟩ | ⟨-, h2⟩ <;> (rw [h2] at h; exact absurd h (by decide))
/-- the rows l stand from the place b on, acc the lengths' sum ahead of them -/
def px_rows (b acc : Nat) (l : List (Nat × Nat)) (ef ff : Nat → Int32) : Prop := ∀ j, j < l.length → ef (b + j) = nI (acc + px_sum (l.take (j + 1))) ∧ ff (b + j) = (pu_u (lN (l.getD j (0, 0)).2)).toInt32
theorem px_rows_nil {b acc : Nat} {ef ff : Nat → Int32} : px_rows b acc [] ef ff := fun j hj => absurd hj (Nat.not_lt_zero j)
theorem px_rows_cons {b acc n m : Nat} {l : List (Nat × Nat)} {ef ff ef' ff' : Nat → Int32} (he : ef' b = nI (acc + n)) (hf : ff' b = (pu_u (lN m)).toInt32) (h : px_rows (b + 1) (acc + n) l ef' ff') : px_rows b acc ((n, m) :: l) ef' ff' := by
  intro j hj
  cases j with
  | zero =>
    refine ⟨?_, by simpa using hf⟩
    simpa [px_sum] using he
  | succ j =>
    have h1 := h j (by simpa using hj)
    rw [show b + (j + 1) = b + 1 + j by omega]
    refine ⟨?_, ?_⟩
    · rw [h1.1]
      simp [px_sum, Nat.add_assoc]
    · rw [h1.2]
      simp
def px_st (ef : Nat → Int32) (j : Nat) : Int32 := if j = 0 then 0 else ef (j - 1)
/-- the last of n rows whose KEY isn't above key -/
def px_last (ff : Nat → Int32) (key : Int32) : Nat → Option Nat
  | 0 => none
  | n + 1 => if ff n ≤ key then some n else px_last ff key n
theorem pz_48 (x : Int32) : x - nI 4 - nI 4 = x - nI 8 := by
  rw [Int32.sub_eq_add_neg, Int32.sub_eq_add_neg, Int32.sub_eq_add_neg, Int32.add_assoc]
  rfl
theorem pz_fit {n : Nat} (h : n < 2 ^ 64) : (¬ lN n < 0 ∧ lN n ≤ lN 4294967295) ↔ n ≤ 4294967295 := by
  have e1 := lN_ti h
  have e2 : (lN 4294967295).toInt = 4294967295 := by decide
  have e0 : (0 : Int64).toInt = 0 := by decide
  rw [Int64.lt_iff_toInt_lt, Int64.le_iff_toInt_le, e1, e2, e0]
  split <;> omega
end
section
/-! the words that all methods take, and what holds of the start besides: links across the nest, Throwable's two statics, the text constants, the sum's table -/
def wsG : List Cond := lw_tbl.filter goodWord
theorem wsG_of {w : Cond} (h : w ∈ lw_tbl) (hg : goodWord w = true) : w ∈ wsG := List.mem_filter.mpr ⟨h, hg⟩
theorem wsG_t {w : Cond} {i : Nat} (h : tables_1[i]? = some w) (hg : goodWord w = true) : w ∈ wsG := wsG_of (List.mem_append_right _ (List.mem_of_getElem? h)) hg
theorem wsG_good {w : Cond} (h : w ∈ wsG) : (w.onTables && w.keeps) = true ∨ ∃ ty, w = .arrayClass ty := good_of_word (List.mem_filter.mp h).2
theorem xg_in {w0 : Cond} {L : List Cond} (h : ∀ w ∈ L, w ∈ wsG) : GoodIn (w0 :: wsG) L := fun w hw => ⟨List.mem_cons_of_mem _ (h w hw), wsG_good (h w hw)⟩
theorem xg_c {w : Cond} {L : List Cond} (h : w ∈ wsG) (t : ∀ w ∈ L, w ∈ wsG) : ∀ w' ∈ w :: L, w' ∈ wsG := fun w' h' => (List.mem_cons.mp h').elim (fun e => by rw [e]; exact h) (t w')
theorem xg_V {w0 : Cond} {own C : String} {idx : Nat} {y : MethodName} {c : Cond} (h1 : .methodLink own idx y ∈ wsG) (h2 : .instanceMethod y ∈ wsG) (h3 : .selects C y y ∈ wsG) (h4 : .initialized C ∈ wsG) (h5 : c ∈ wsG) : GoodIn (w0 :: wsG) (wsV own idx C y (c :: wsG)) :=
  xg_in (xg_c h1 (xg_c h2 (xg_c h3 (xg_c h4 (xg_c h5 (fun _ h => h))))))
theorem xg_S {w0 : Cond} {own : String} {idx : Nat} {y : MethodName} {c : Cond} (h1 : .methodLink own idx y ∈ wsG) (h2 : .static y ∈ wsG) (h3 : .initialized own ∈ wsG) (h5 : c ∈ wsG) : GoodIn (w0 :: wsG) (wsS own idx y (c :: wsG)) :=
  xg_in (xg_c h1 (xg_c h2 (xg_c h3 (xg_c h5 (fun _ h => h)))))
theorem xg_0 {w0 : Cond} {c : Cond} (h5 : c ∈ wsG) : GoodIn (w0 :: wsG) (c :: wsG) := xg_in (xg_c h5 (fun _ h => h))
theorem xg_w {w0 w : Cond} {args : Array Value} {s : State} (hts : ∀ w ∈ w0 :: wsG, w.before args s = true) (h : w ∈ wsG) : w.before args s = true := hts _ (List.mem_cons_of_mem _ h)
theorem xg_u {w0 : Cond} {L : List Cond} (h : ∀ w ∈ L, w ∈ wsG) : ∀ w ∈ L, w ∈ w0 :: wsG := fun w hw => List.mem_cons_of_mem _ (h w hw)
/-- words that stand on the tables and stay under warmer ones -/
def xn_ok : Cond → Bool
  | .fieldLinkNest .. => true
  | .methodLinkNest .. => true
  | .castable .. => true
  | .declares .. => true
  | w => goodWord w
theorem xn_warm {w : Cond} {s U : State} (hW : s.WarmedH U.vm) (hw : xn_ok w = true) (h : va_Nw w s) : va_Nw w U := by
  cases w
  case fieldLinkNest => exact va_Nw.warmF hW h
  case methodLinkNest => exact va_Nw.warmM hW h
  case castable => exact va_tabs rfl (rfl : (s.setVm U.vm).vm = U.vm) (Cond.before_warmed (args := #[]) hW _ trivial h)
  case declares => exact va_tabs rfl (rfl : (s.setVm U.vm).vm = U.vm) (Cond.before_warmed (args := #[]) hW _ trivial h)
  all_goals exact word_at hW (good_of_word hw) h
def xn_str : List (String × Nat × String) := [("SortedRun", 50, "300 entries wait already"), ("SortedRun", 57, "the key is not above the one before"), ("SortedRun", 131, "the table has no such byte"), ("SortedRun", 79, "the table has not so many bytes"), ("SortedRun", 87, "the foot or the index is not right"), ("SortedRun", 133, "the table is closed"), ("SortedRun", 101, "every block begins above the key"), ("SortedRun", 144, "the block is not right"), ("SortedRun", 121, "the block has not this key"), ("SortedRun", 135, "the table has no such block"), ("SortedRun", 128, "the block has no such entry")]
def xn_nc : List (String × String) := [("SortedRun", "java/lang/IllegalArgumentException"), ("SortedRun$Table", "java/lang/IllegalArgumentException"), ("SortedRun$Index", "java/lang/IllegalArgumentException"), ("SortedRun$Entry", "java/lang/IllegalArgumentException"), ("SortedRunModel", "java/lang/IllegalArgumentException"), ("java/lang/IllegalStateException", "java/lang/IllegalArgumentException"), ("java/lang/IndexOutOfBoundsException", "java/lang/IllegalArgumentException"), ("java/lang/ArithmeticException", "java/lang/IllegalArgumentException"), ("java/util/NoSuchElementException", "java/lang/IllegalArgumentException"), ("SortedRun", "java/lang/IllegalStateException"), ("SortedRun$Table", "java/lang/IllegalStateException"), ("SortedRun$Index", "java/lang/IllegalStateException"), ("SortedRun$Entry", "java/lang/IllegalStateException"), ("SortedRunModel", "java/lang/IllegalStateException"), ("java/lang/IllegalArgumentException", "java/lang/IllegalStateException"), ("java/lang/IndexOutOfBoundsException", "java/lang/IllegalStateException"), ("java/lang/ArithmeticException", "java/lang/IllegalStateException"), ("java/util/NoSuchElementException", "java/lang/IllegalStateException"), ("SortedRun", "java/lang/IndexOutOfBoundsException"), ("SortedRun$Table", "java/lang/IndexOutOfBoundsException"), ("SortedRun$Index", "java/lang/IndexOutOfBoundsException"), ("SortedRun$Entry", "java/lang/IndexOutOfBoundsException"), ("SortedRunModel", "java/lang/IndexOutOfBoundsException"), ("java/lang/IllegalStateException", "java/lang/IndexOutOfBoundsException"), ("java/lang/IllegalArgumentException", "java/lang/IndexOutOfBoundsException"), ("java/lang/ArithmeticException", "java/lang/IndexOutOfBoundsException"), ("java/util/NoSuchElementException", "java/lang/IndexOutOfBoundsException"), ("SortedRun", "java/lang/ArithmeticException"), ("SortedRun$Table", "java/lang/ArithmeticException"), ("SortedRun$Index", "java/lang/ArithmeticException"), ("SortedRun$Entry", "java/lang/ArithmeticException"), ("SortedRunModel", "java/lang/ArithmeticException"), ("java/lang/IllegalStateException", "java/lang/ArithmeticException"), ("java/lang/IllegalArgumentException", "java/lang/ArithmeticException"), ("java/lang/IndexOutOfBoundsException", "java/lang/ArithmeticException"), ("java/util/NoSuchElementException", "java/lang/ArithmeticException"), ("SortedRun", "java/util/NoSuchElementException"), ("SortedRun$Table", "java/util/NoSuchElementException"), ("SortedRun$Index", "java/util/NoSuchElementException"), ("SortedRun$Entry", "java/util/NoSuchElementException"), ("SortedRunModel", "java/util/NoSuchElementException"), ("java/lang/IllegalStateException", "java/util/NoSuchElementException"), ("java/lang/IllegalArgumentException", "java/util/NoSuchElementException"), ("java/lang/IndexOutOfBoundsException", "java/util/NoSuchElementException"), ("java/lang/ArithmeticException", "java/util/NoSuchElementException")]
def xn_E (A : Nat → Prop) (U : State) : Prop := (∀ w ∈ lw_tbl.filter xn_ok, va_Nw w U) ∧ vx_Zq Bundle.tN "UNASSIGNED_STACK" Bundle.steD A U U.heap ∧ vx_Zq Bundle.tN "SUPPRESSED_SENTINEL" Bundle.listD A U U.heap ∧ (∀ q ∈ xn_str, ∃ a, vk_R q.1 q.2.1 q.2.2 a U) ∧ (∀ q ∈ xn_nc, va_Nc q.1 q.2 U) ∧
  ∃ st : Nat, va_Z RX2 "SUM_STEPS" "[I" (.ref st) A U U.heap ∧ va_T .int st 16 (fun j => .int (nI (pb_T j))) A U U.heap
theorem xn_w {w : Cond} {i : Nat} {A : Nat → Prop} {U : State} {args : Array Value} (hE : xn_E A U) (h : tables_1[i]? = some w) (hg : xn_ok w = true) (ho : w.onTables = true) : w.before args U = true :=
  va_Nw.use ho (hE.1 w (List.mem_filter.mpr ⟨List.mem_append_right _ (List.mem_of_getElem? h), hg⟩))
theorem xn_nw {w : Cond} {i : Nat} {A : Nat → Prop} {U : State} (hE : xn_E A U) (h : tables_1[i]? = some w) (hg : xn_ok w = true) : va_Nw w U :=
  hE.1 w (List.mem_filter.mpr ⟨List.mem_append_right _ (List.mem_of_getElem? h), hg⟩)
theorem xn_move {A B : Nat → Prop} {s U : State} (hE : xn_E A s) (hW : s.WarmedH U.vm) (hk : ∀ a : Nat, a < s.heap.size → ¬ A a → U.heap[a]? = s.heap[a]?) (hAB : ∀ q, B q → A q) : xn_E B U := by
  obtain ⟨h1, h2, h3, h4, h5, st, h6, h7⟩ := hE
  refine ⟨fun w hw => xn_warm hW (List.mem_filter.mp hw).2 (h1 w hw), (vx_Zq.moved hW.alike (h2.kept hk)).narrow hAB, (vx_Zq.moved hW.alike (h3.kept hk)).narrow hAB, fun q hq => ?_, fun q hq => va_Nc.moved hW.alike (h5 q hq), st, (va_Z.moved hW.alike (h6.kept hk)).narrow hAB, (va_T.moved hW.alike (h7.kept hk)).narrow hAB⟩
  obtain ⟨a, ha⟩ := h4 q hq
  exact ⟨a, ha.warm hW⟩
theorem xn_go {A B : Nat → Prop} {s : State} {H : Heap} {locs : List Loc} (hE : xn_E A s) (hS : va_S A s.heap H locs) (hAB : ∀ q, B q → A q) : ∀ U : State, U.heap = H → s.WarmedH U.vm → xn_E B U :=
  fun U hU hW => xn_move hE hW (fun a h1 h2 => by rw [hU]; exact hS.2.1 a h1 h2) hAB
/-! contracts over one world, given whole: a call takes the world and gives the new one back -/
def xP (D : va_G) (tys : List (ClassId × FieldType)) (wd : va_W) (sz : Nat) (U : State) : Prop := U.heap.size = sz ∧ va_P D vwCl wd U.heap ∧ va_K D vwCl tys U ∧ va_D (fun _ => True) wd ∧ xn_E (va_A wd sz) U
def xB (D : va_G) (tys : List (ClassId × FieldType)) (A : Nat → Prop) (wd : va_W) (t : State) : Prop := va_P D vwCl wd t.heap ∧ va_K D vwCl tys t ∧ va_D A wd
theorem xP.blind {D : va_G} {tys : List (ClassId × FieldType)} {wd : va_W} {sz : Nat} {av : List Value} : FrameBlind (va_Pc av (xP D tys wd sz)) := by
  intro a U g mk q
  obtain ⟨q0, q1, qP, qK, qD, qE⟩ := q
  exact ⟨q0, q1, qP, va_K.moved (u := U) (U := U.calling g mk a) (Vm.Alike.refl U.vm) qK, qD, xn_move qE (State.WarmedH.refl U) (fun _ _ _ => rfl) (fun _ h => h)⟩
theorem xFc {A : Nat → Prop} {wd : va_W} {H0 H : Heap} {locs : List Loc} (hD : va_D A wd) (hS : va_S A H0 H locs) (hA : ∀ q, H0.size ≤ q → A q) : ∀ q, va_A wd H.size q → A q := by
  intro q h
  rcases h with ⟨k, e, hk⟩ | h
  · exact hD.2 k _ hk
  · exact hA q (Nat.le_trans hS.1 h)
section XK
variable {p : Program} {l : Launch} {e : Env} {R : Room} {s : State} {m : MethodId} {args : Array Value} {below : List Frame} {meth : Method} {c : Code} {H : Heap} {locs : List Loc} {cells slots mc ms pc : Nat} {Q : State → Prop} {ls : Array Slot} {st0 rest : List Value} {A : Nat → Prop} {a : Array Value} {D : va_G} {tys : List (ClassId × FieldType)} {wd : va_W} {av : List Value}
theorem xpreS (hK : va_K D vwCl tys s) (hP : va_P D vwCl wd H) (hD : va_D A wd) (hS : va_S A s.heap H locs) (hA : ∀ q, s.heap.size ≤ q → A q) (hE : xn_E A s) : PreS s H (va_Pc av (xP D tys wd H.size)) av :=
  ⟨xP.blind, fun U hU hW => ⟨rfl, by rw [hU], by rw [hU]; exact hP, va_K.moved hW.alike hK, hD.weaken (fun _ _ _ _ => trivial), xn_go hE hS (xFc hD hS hA) U hU hW⟩⟩
theorem xpreV {b : Addr} {As : List Value} {C : String} (hr : ∃ cell : Cell, H[b]? = some cell ∧ cell.vm.isStatics = false ∧ s.vm.findClass C = some cell.cls) (hK : va_K D vwCl tys s) (hP : va_P D vwCl wd H) (hD : va_D A wd) (hS : va_S A s.heap H locs) (hA : ∀ q, s.heap.size ≤ q → A q) (hE : xn_E A s) : PreV s H C b (va_Pc (Value.ref b :: As) (xP D tys wd H.size)) As :=
  ⟨xP.blind, hr, fun U hU hW => ⟨rfl, by rw [hU], by rw [hU]; exact hP, va_K.moved hW.alike hK, hD.weaken (fun _ _ _ _ => trivial), xn_go hE hS (xFc hD hS hA) U hU hW⟩⟩
theorem xk_i {S : Type} {post : Int32 → S → Prop} {wd' : S → va_W} (hr : va_Run p l e R s m args below meth c H locs cells slots mc ms (F0 m pc ls st0) rest (va_Qi post (fun u t => xB D tys (va_A wd H.size) (wd' u) t) (va_A wd H.size) a) (va_A wd H.size))
    (hD : va_D A wd) (hS : va_S A s.heap H locs) (hA : ∀ q, s.heap.size ≤ q → A q)
    (kk : ∀ (r : Int32) (u : S) (H1 : Heap) (locs1 : List Loc), post r u → va_P D vwCl (wd' u) H1 → va_D A (wd' u) → va_S A s.heap H1 locs1 → W p l e R s m args below meth c H1 locs1 (cells + mc) (slots + ms) Q (F0 m (pc + 3) ls (.int r :: rest))) : W p l e R s m args below meth c H locs cells slots Q (F0 m pc ls st0) :=
  have hFc := xFc hD hS hA
  va_calli hr hS (fun q _ h => hFc q h) hFc (fun r u t H1 locs1 ht _ hp hB _ _ hS1 => kk r u H1 locs1 hp (by rw [← ht]; exact hB.1) (hB.2.2.weaken (fun _ _ _ h => hFc _ h)) hS1)
theorem xk_l {S : Type} {post : Int64 → S → Prop} {wd' : S → va_W} (hr : va_Run p l e R s m args below meth c H locs cells slots mc ms (F0 m pc ls st0) rest (va_Ql post (fun u t => xB D tys (va_A wd H.size) (wd' u) t) (va_A wd H.size) a) (va_A wd H.size))
    (hD : va_D A wd) (hS : va_S A s.heap H locs) (hA : ∀ q, s.heap.size ≤ q → A q)
    (kk : ∀ (r : Int64) (u : S) (H1 : Heap) (locs1 : List Loc), post r u → va_P D vwCl (wd' u) H1 → va_D A (wd' u) → va_S A s.heap H1 locs1 → W p l e R s m args below meth c H1 locs1 (cells + mc) (slots + ms) Q (F0 m (pc + 3) ls (.long r :: rest))) : W p l e R s m args below meth c H locs cells slots Q (F0 m pc ls st0) :=
  have hFc := xFc hD hS hA
  va_calll hr hS (fun q _ h => hFc q h) hFc (fun r u t H1 locs1 ht _ hp hB _ _ hS1 => kk r u H1 locs1 hp (by rw [← ht]; exact hB.1) (hB.2.2.weaken (fun _ _ _ h => hFc _ h)) hS1)
theorem xk_v {S : Type} {post : S → Prop} {wd' : S → va_W} (hr : va_Run p l e R s m args below meth c H locs cells slots mc ms (F0 m pc ls st0) rest (va_Qv post (fun u t => xB D tys (va_A wd H.size) (wd' u) t) (va_A wd H.size) a) (va_A wd H.size))
    (hD : va_D A wd) (hS : va_S A s.heap H locs) (hA : ∀ q, s.heap.size ≤ q → A q)
    (kk : ∀ (u : S) (H1 : Heap) (locs1 : List Loc), post u → va_P D vwCl (wd' u) H1 → va_D A (wd' u) → va_S A s.heap H1 locs1 → W p l e R s m args below meth c H1 locs1 (cells + mc) (slots + ms) Q (F0 m (pc + 3) ls rest)) : W p l e R s m args below meth c H locs cells slots Q (F0 m pc ls st0) :=
  have hFc := xFc hD hS hA
  va_callv hr hS (fun q _ h => hFc q h) hFc (fun u t H1 locs1 ht _ hp hB _ _ hS1 => kk u H1 locs1 hp (by rw [← ht]; exact hB.1) (hB.2.2.weaken (fun _ _ _ h => hFc _ h)) hS1)
/-- where the heap hasn't grown, nothing counts as made -/
theorem x_tight {g : JFrame} (hz : H.size = s.heap.size) (kk : W p l e R s m args below meth c H locs 0 0 Q g) : W p l e R s m args below meth c H locs cells slots Q g := by
  intro T hT X
  obtain ⟨h1, h2, h3, h4, h5, h6⟩ := X.same
  have hsz : T.heap.size = s.heap.size := by rw [hT]; exact hz
  have hd : (T.setVm s.vm).heap.toList.drop s.heap.size = [] := by
    apply List.drop_eq_nil_of_le
    show T.heap.toList.length ≤ s.heap.size
    rw [Array.length_toList, hsz]
    exact Nat.le_refl _
  exact kk T hT { X with same := ⟨h1, h2, by show T.heap.size ≤ s.heap.size + 0; omega, h4, by rw [hd]; simp, h6⟩ }
/-- what a method leaves where it throws: which exception, the world -/
abbrev xX {S : Type} (D : va_G) (tys : List (ClassId × FieldType)) (A : Nat → Prop) (pX : String → S → Prop) (wx : S → va_W) : String → State → State → Prop := vx_X (fun _ => True) (fun E u t => pX E u ∧ xB D tys A (wx u) t) A
theorem xx_i {S SX : Type} {post : Int32 → S → Prop} {wd' : S → va_W} {pX : String → SX → Prop} {wx : SX → va_W} (hr : vx_Run p l e R s m args below meth c H locs cells slots mc ms (F0 m pc ls st0) rest (va_Qi post (fun u t => xB D tys (va_A wd H.size) (wd' u) t ∧ t.heap.size = H.size) (va_A wd H.size) a) (xX D tys (va_A wd H.size) pX wx) (va_A wd H.size))
    (hD : va_D A wd) (hS : va_S A s.heap H locs) (hA : ∀ q, s.heap.size ≤ q → A q) (hz : H.size = s.heap.size)
    (kx : ∀ (E : String) (ce : Cell) (q9 : Addr) (u : SX) (H1 : Heap) (locs1 : List Loc), pX E u → va_P D vwCl (wx u) H1 → va_D A (wx u) → va_S A s.heap H1 locs1 → H1[q9]? = some ce → ce.vm = .none → s.vm.findClass E = some ce.cls → vx_W p l e R s m args below meth c H1 locs1 (cells + mc) (slots + ms) Q (F0 m pc ls rest) q9)
    (kk : ∀ (r : Int32) (u : S) (H1 : Heap) (locs1 : List Loc), post r u → va_P D vwCl (wd' u) H1 → va_D A (wd' u) → va_S A s.heap H1 locs1 → H1.size = s.heap.size → W p l e R s m args below meth c H1 locs1 0 0 Q (F0 m (pc + 3) ls (.int r :: rest))) : W p l e R s m args below meth c H locs cells slots Q (F0 m pc ls st0) :=
  have hFc := xFc hD hS hA
  vx_calli hr hS (fun q _ h => hFc q h) hFc (fun q _ h => hFc q h)
    (fun E ce q9 u t H1 locs1 ht _ _ hB _ _ hS1 h1 h2 h3 => kx E ce q9 u H1 locs1 hB.1 (by rw [← ht]; exact hB.2.1) (hB.2.2.2.weaken (fun _ _ _ h => hFc _ h)) hS1 h1 h2 h3)
    (fun r u t H1 locs1 ht _ hp hB _ _ hS1 => x_tight (by rw [← ht, hB.2]; exact hz) (kk r u H1 locs1 hp (by rw [← ht]; exact hB.1.1) (hB.1.2.2.weaken (fun _ _ _ h => hFc _ h)) hS1 (by rw [← ht, hB.2]; exact hz)))
theorem xx_l {S SX : Type} {post : Int64 → S → Prop} {wd' : S → va_W} {pX : String → SX → Prop} {wx : SX → va_W} (hr : vx_Run p l e R s m args below meth c H locs cells slots mc ms (F0 m pc ls st0) rest (va_Ql post (fun u t => xB D tys (va_A wd H.size) (wd' u) t ∧ t.heap.size = H.size) (va_A wd H.size) a) (xX D tys (va_A wd H.size) pX wx) (va_A wd H.size))
    (hD : va_D A wd) (hS : va_S A s.heap H locs) (hA : ∀ q, s.heap.size ≤ q → A q) (hz : H.size = s.heap.size)
    (kx : ∀ (E : String) (ce : Cell) (q9 : Addr) (u : SX) (H1 : Heap) (locs1 : List Loc), pX E u → va_P D vwCl (wx u) H1 → va_D A (wx u) → va_S A s.heap H1 locs1 → H1[q9]? = some ce → ce.vm = .none → s.vm.findClass E = some ce.cls → vx_W p l e R s m args below meth c H1 locs1 (cells + mc) (slots + ms) Q (F0 m pc ls rest) q9)
    (kk : ∀ (r : Int64) (u : S) (H1 : Heap) (locs1 : List Loc), post r u → va_P D vwCl (wd' u) H1 → va_D A (wd' u) → va_S A s.heap H1 locs1 → H1.size = s.heap.size → W p l e R s m args below meth c H1 locs1 0 0 Q (F0 m (pc + 3) ls (.long r :: rest))) : W p l e R s m args below meth c H locs cells slots Q (F0 m pc ls st0) :=
  have hFc := xFc hD hS hA
  vx_calll hr hS (fun q _ h => hFc q h) hFc (fun q _ h => hFc q h)
    (fun E ce q9 u t H1 locs1 ht _ _ hB _ _ hS1 h1 h2 h3 => kx E ce q9 u H1 locs1 hB.1 (by rw [← ht]; exact hB.2.1) (hB.2.2.2.weaken (fun _ _ _ h => hFc _ h)) hS1 h1 h2 h3)
    (fun r u t H1 locs1 ht _ hp hB _ _ hS1 => x_tight (by rw [← ht, hB.2]; exact hz) (kk r u H1 locs1 hp (by rw [← ht]; exact hB.1.1) (hB.1.2.2.weaken (fun _ _ _ h => hFc _ h)) hS1 (by rw [← ht, hB.2]; exact hz)))
theorem xx_v {S SX : Type} {post : S → Prop} {wd' : S → va_W} {pX : String → SX → Prop} {wx : SX → va_W} (hr : vx_Run p l e R s m args below meth c H locs cells slots mc ms (F0 m pc ls st0) rest (va_Qv post (fun u t => xB D tys (va_A wd H.size) (wd' u) t ∧ t.heap.size = H.size) (va_A wd H.size) a) (xX D tys (va_A wd H.size) pX wx) (va_A wd H.size))
    (hD : va_D A wd) (hS : va_S A s.heap H locs) (hA : ∀ q, s.heap.size ≤ q → A q) (hz : H.size = s.heap.size)
    (kx : ∀ (E : String) (ce : Cell) (q9 : Addr) (u : SX) (H1 : Heap) (locs1 : List Loc), pX E u → va_P D vwCl (wx u) H1 → va_D A (wx u) → va_S A s.heap H1 locs1 → H1[q9]? = some ce → ce.vm = .none → s.vm.findClass E = some ce.cls → vx_W p l e R s m args below meth c H1 locs1 (cells + mc) (slots + ms) Q (F0 m pc ls rest) q9)
    (kk : ∀ (u : S) (H1 : Heap) (locs1 : List Loc), post u → va_P D vwCl (wd' u) H1 → va_D A (wd' u) → va_S A s.heap H1 locs1 → H1.size = s.heap.size → W p l e R s m args below meth c H1 locs1 0 0 Q (F0 m (pc + 3) ls rest)) : W p l e R s m args below meth c H locs cells slots Q (F0 m pc ls st0) :=
  have hFc := xFc hD hS hA
  vx_callv hr hS (fun q _ h => hFc q h) hFc (fun q _ h => hFc q h)
    (fun E ce q9 u t H1 locs1 ht _ _ hB _ _ hS1 h1 h2 h3 => kx E ce q9 u H1 locs1 hB.1 (by rw [← ht]; exact hB.2.1) (hB.2.2.2.weaken (fun _ _ _ h => hFc _ h)) hS1 h1 h2 h3)
    (fun u t H1 locs1 ht _ hp hB _ _ hS1 => x_tight (by rw [← ht, hB.2]; exact hz) (kk u H1 locs1 hp (by rw [← ht]; exact hB.1.1) (hB.1.2.2.weaken (fun _ _ _ h => hFc _ h)) hS1 (by rw [← ht, hB.2]; exact hz)))
/-- what a callee threw leaves the caller too -/
theorem xx_out {S : Type} {pX : String → S → Prop} {wx : S → va_W} {mc' ms' : Nat} {E : String} {q9 : Addr} {ce : Cell} {Qc : Array Value → State → Outcome → State → Prop} (u : S)
    (hno : ∀ x ∈ c.exceptionTable.toList, False) (hlocks : meth.locks = false) (hu : pX E u) (hc : H[q9]? = some ce) (hv : ce.vm = .none) (hcl : s.vm.findClass E = some ce.cls)
    (hK : va_K D vwCl tys s) (hP : va_P D vwCl (wx u) H) (hD : va_D A (wx u)) (hS : va_S A s.heap H locs) (h1 : cells ≤ mc') (h2 : slots ≤ ms') :
    vx_W p l e R s m args below meth c H locs cells slots (vx_MQ below Qc (xX D tys A pX wx) args s mc' ms' A) (F0 m pc ls rest) q9 :=
  vx_out (fun x hx => (hno x hx).elim) hlocks hc hv hcl (fun t ht ha => ⟨u, trivial, ⟨hu, by rw [ht]; exact hP, va_K.moved ha hK, hD⟩, hS.F ht⟩) hS.2.2 h1 h2
/-- throw new E("..") -/
theorem xx_throw {S : Type} {pX : String → S → Prop} {wx : S → va_W} {mc' ms' : Nat} {cc : ByteArray} {own cls text : String} {ik is ic sa : Nat} {Qc : Array Value → State → Outcome → State → Prop} (u : S) (hx : p.tables.exec = Jvm.exec) (hb : c.code = cc) (hnt : l.stackTraces = false)
    (hown : s.vm.findClass own = some m.cls) (hcls : Bundle.fit cls = true) (hk : (Cond.classLink own ik cls).before args s = true) (hini : (Cond.initialized cls).before args s = true) (hstr : vk_R own is text sa s)
    (hat : ∀ w ∈ vx_atS own ic cls ["java/lang/RuntimeException", "java/lang/Exception"], w ∈ lw_tbl.filter xn_ok) (hgood : ∀ w ∈ Cond.classLink own ik cls :: Cond.initialized cls :: vx_atS own ic cls ["java/lang/RuntimeException", "java/lang/Exception"], vx_ot w = true) (hon : ∀ w ∈ vx_atS own ic cls ["java/lang/RuntimeException", "java/lang/Exception"], w.onTables = true)
    (hE : xn_E A s) (hsize : ls.size = c.maxLocals)
    (d0 : decode cc pc = .ok (.new ik, 3)) (d3 : decode cc (pc + 3) = .ok (.dup, 1)) (d4 : decode cc (pc + 4) = .ok (.ldc is, 2)) (d6 : decode cc (pc + 6) = .ok (.invokespecial ic, 3)) (d9 : decode cc (pc + 9) = .ok (.athrow, 1))
    (hno : ∀ x ∈ c.exceptionTable.toList, False) (hR : 5 < R.frames ∧ 82 ≤ R.locals ∧ cells + 1 ≤ R.cells ∧ slots + 6 ≤ R.slots) (hlocks : meth.locks = false) (hu : pX cls u)
    (hK : va_K D vwCl tys s) (hP : va_P D vwCl (wx u) H) (hD : va_D A (wx u)) (hS : va_S A s.heap H locs) (h1 : cells + 1 ≤ mc') (h2 : slots + 6 ≤ ms') :
    W p l e R s m args below meth c H locs cells slots (vx_MQ below Qc (xX D tys A pX wx) args s mc' ms' A) (F0 m pc ls []) :=
  vx_throwS hx hb hnt hown hcls (fun n hn => by simp at hn; rcases hn with rfl | rfl <;> decide +kernel) hk hini hstr (fun w hw => va_Nw.use (hon w hw) (hE.1 w (hat w hw))) hgood hE.2.1 hE.2.2.1 hS hsize d0 d3 d4 d6 d9 (fun x hx => (hno x hx).elim) (by simpa using hR.1) (by simpa using hR.2.1) hR.2.2.1 hR.2.2.2 hlocks
    (fun t ha hz hq => ⟨u, trivial, ⟨hu, hP.kept (fun k q hk => hq _ (vx_lt hP hk)), va_K.moved ha hK, hD⟩, Nat.le_trans hS.1 hz, fun q h3 h4 => by rw [hq q (Nat.lt_of_lt_of_le h3 hS.1)]; exact hS.2.1 q h3 h4⟩) hS.2.2 h1 h2
end XK
end
section
/-! the words of each method among all words (printed by wip/whole/wwords.py) -/
theorem mb_uws_X0 : ∀ w ∈ u_ws RX0 TX0 3, w ∈ wsG := by decide +kernel
theorem mb_uws_X1 : ∀ w ∈ u_ws RX1 TX1 3, w ∈ wsG := by decide +kernel
theorem mb_uws_X2 : ∀ w ∈ u_ws RX2 TX2 5, w ∈ wsG := by decide +kernel
theorem mb_uws_X3 : ∀ w ∈ u_ws RX3 TX3 8, w ∈ wsG := by decide +kernel
theorem mb_uws_X4 : ∀ w ∈ u_ws RX4 TX4 17, w ∈ wsG := by decide +kernel
theorem mb_methodLink_RX0_1 : (.methodLink RX0 1 objectInit : Cond) ∈ wsG := wsG_t (i := 75) rfl rfl
set_option maxRecDepth 20000 in
theorem mb_methodLink_RX0_7 : (.methodLink RX0 7 yX2_takeNumber : Cond) ∈ wsG := wsG_t (i := 432) rfl rfl
theorem mb_instanceMethod_yX2_takeNumber : (.instanceMethod yX2_takeNumber : Cond) ∈ wsG := wsG_t (i := 336) rfl rfl
theorem mb_selects_yX2_takeNumber : (.selects RX2 yX2_takeNumber yX2_takeNumber : Cond) ∈ wsG := wsG_t (i := 337) rfl rfl
theorem mb_initialized_RX2 : (.initialized RX2 : Cond) ∈ wsG := wsG_t (i := 2) rfl rfl
theorem mb_code_yX2_takeNumber : (.code yX2_takeNumber cX2_takeNumber 5 (some .long) : Cond) ∈ wsG := wsG_t (i := 338) rfl rfl
theorem mb_fieldLink_RX0_13 : (.fieldLink RX0 13 "SortedRun$Entry" "isFirst" "Z" : Cond) ∈ wsG := wsG_t (i := 76) rfl rfl
theorem mb_static_yX3_unfold : (.static yX3_unfold : Cond) ∈ wsG := wsG_t (i := 346) rfl rfl
theorem mb_code_yX3_unfold : (.code yX3_unfold cX3_unfold 4 (some .long) : Cond) ∈ wsG := wsG_t (i := 347) rfl rfl
theorem mb_initialized_RX3 : (.initialized RX3 : Cond) ∈ wsG := wsG_t (i := 1) rfl rfl
theorem mb_fieldLink_RX0_25 : (.fieldLink RX0 25 "SortedRun$Entry" "key" "I" : Cond) ∈ wsG := wsG_t (i := 78) rfl rfl
theorem mb_fieldLink_RX0_29 : (.fieldLink RX0 29 "SortedRun$Entry" "value" "J" : Cond) ∈ wsG := wsG_t (i := 80) rfl rfl
theorem mb_methodLink_RX1_3 : (.methodLink RX1 3 objectInit : Cond) ∈ wsG := wsG_t (i := 58) rfl rfl
theorem mb_arrayClass_int : (.arrayClass .int : Cond) ∈ wsG := wsG_t (i := 50) rfl rfl
theorem mb_fieldLink_RX1_9 : (.fieldLink RX1 9 "SortedRun$Index" "ends" "[I" : Cond) ∈ wsG := wsG_t (i := 59) rfl rfl
theorem mb_fieldLink_RX1_15 : (.fieldLink RX1 15 "SortedRun$Index" "firstKeys" "[I" : Cond) ∈ wsG := wsG_t (i := 60) rfl rfl
theorem mb_fieldLink_RX1_18 : (.fieldLink RX1 18 "SortedRun$Index" "blocks" "I" : Cond) ∈ wsG := wsG_t (i := 61) rfl rfl
theorem mb_methodLink_RX1_27 : (.methodLink RX1 27 yX2_foot : Cond) ∈ wsG := wsG_t (i := 319) rfl rfl
theorem mb_instanceMethod_yX2_foot : (.instanceMethod yX2_foot : Cond) ∈ wsG := wsG_t (i := 320) rfl rfl
theorem mb_selects_yX2_foot : (.selects RX2 yX2_foot yX2_foot : Cond) ∈ wsG := wsG_t (i := 321) rfl rfl
theorem mb_code_yX2_foot : (.code yX2_foot cX2_foot 4 (some .long) : Cond) ∈ wsG := wsG_t (i := 322) rfl rfl
theorem mb_methodLink_RX1_31 : (.methodLink RX1 31 yX2_hasSum : Cond) ∈ wsG := wsG_t (i := 323) rfl rfl
theorem mb_instanceMethod_yX2_hasSum : (.instanceMethod yX2_hasSum : Cond) ∈ wsG := wsG_t (i := 324) rfl rfl
theorem mb_selects_yX2_hasSum : (.selects RX2 yX2_hasSum yX2_hasSum : Cond) ∈ wsG := wsG_t (i := 325) rfl rfl
theorem mb_code_yX2_hasSum : (.code yX2_hasSum cX2_hasSum 5 (some .boolean) : Cond) ∈ wsG := wsG_t (i := 326) rfl rfl
theorem mb_methodLink_RX1_35 : (.methodLink RX1 35 yX2_startReading : Cond) ∈ wsG := wsG_t (i := 327) rfl rfl
theorem mb_instanceMethod_yX2_startReading : (.instanceMethod yX2_startReading : Cond) ∈ wsG := wsG_t (i := 328) rfl rfl
theorem mb_selects_yX2_startReading : (.selects RX2 yX2_startReading yX2_startReading : Cond) ∈ wsG := wsG_t (i := 329) rfl rfl
theorem mb_code_yX2_startReading : (.code yX2_startReading cX2_startReading 3 none : Cond) ∈ wsG := wsG_t (i := 330) rfl rfl
theorem mb_methodLink_RX1_39 : (.methodLink RX1 39 yX1_readBlocks : Cond) ∈ wsG := wsG_t (i := 331) rfl rfl
theorem mb_instanceMethod_yX1_readBlocks : (.instanceMethod yX1_readBlocks : Cond) ∈ wsG := wsG_t (i := 333) rfl rfl
theorem mb_selects_yX1_readBlocks : (.selects RX1 yX1_readBlocks yX1_readBlocks : Cond) ∈ wsG := wsG_of (List.mem_append_left _ (List.mem_of_getElem? (i := 6) rfl)) rfl
theorem mb_initialized_RX1 : (.initialized RX1 : Cond) ∈ wsG := wsG_t (i := 3) rfl rfl
theorem mb_code_yX1_readBlocks : (.code yX1_readBlocks cX1_readBlocks 12 (some .boolean) : Cond) ∈ wsG := wsG_t (i := 334) rfl rfl
theorem mb_methodLink_RX1_47 : (.methodLink RX1 47 yX2_isReadToEnd : Cond) ∈ wsG := wsG_t (i := 348) rfl rfl
theorem mb_instanceMethod_yX2_isReadToEnd : (.instanceMethod yX2_isReadToEnd : Cond) ∈ wsG := wsG_t (i := 349) rfl rfl
theorem mb_selects_yX2_isReadToEnd : (.selects RX2 yX2_isReadToEnd yX2_isReadToEnd : Cond) ∈ wsG := wsG_t (i := 350) rfl rfl
set_option maxRecDepth 20000 in
theorem mb_code_yX2_isReadToEnd : (.code yX2_isReadToEnd cX2_isReadToEnd 1 (some .boolean) : Cond) ∈ wsG := wsG_t (i := 351) rfl rfl
theorem mb_methodLink_RX1_51 : (.methodLink RX1 51 yX2_takeNumber : Cond) ∈ wsG := wsG_t (i := 335) rfl rfl
theorem mb_constantLong_RX1_54 : (.constantLong RX1 54 (2444) : Cond) ∈ wsG := wsG_t (i := 339) rfl rfl
theorem mb_methodLink_RX1_56 : (.methodLink RX1 56 yX1_fitsIndex : Cond) ∈ wsG := wsG_t (i := 340) rfl rfl
theorem mb_instanceMethod_yX1_fitsIndex : (.instanceMethod yX1_fitsIndex : Cond) ∈ wsG := wsG_t (i := 342) rfl rfl
theorem mb_selects_yX1_fitsIndex : (.selects RX1 yX1_fitsIndex yX1_fitsIndex : Cond) ∈ wsG := wsG_of (List.mem_append_left _ (List.mem_of_getElem? (i := 7) rfl)) rfl
theorem mb_code_yX1_fitsIndex : (.code yX1_fitsIndex cX1_fitsIndex 3 (some .boolean) : Cond) ∈ wsG := wsG_t (i := 343) rfl rfl
theorem mb_constantLong_RX1_64 : (.constantLong RX1 64 (4294967295) : Cond) ∈ wsG := wsG_t (i := 344) rfl rfl
theorem mb_methodLink_RX2_3 : (.methodLink RX2 3 objectInit : Cond) ∈ wsG := wsG_t (i := 28) rfl rfl
theorem mb_arrayClass_byte : (.arrayClass .byte : Cond) ∈ wsG := wsG_t (i := 52) rfl rfl
theorem mb_fieldLink_RX2_9 : (.fieldLink RX2 9 "SortedRun$Table" "bytes" "[B" : Cond) ∈ wsG := wsG_t (i := 29) rfl rfl
theorem mb_fieldLink_RX2_15 : (.fieldLink RX2 15 "SortedRun$Table" "length" "I" : Cond) ∈ wsG := wsG_t (i := 31) rfl rfl
theorem mb_constantLong_RX2_19 : (.constantLong RX2 19 (127) : Cond) ∈ wsG := wsG_t (i := 109) rfl rfl
theorem mb_methodLink_RX2_21 : (.methodLink RX2 21 yX2_append : Cond) ∈ wsG := wsG_t (i := 110) rfl rfl
theorem mb_instanceMethod_yX2_append : (.instanceMethod yX2_append : Cond) ∈ wsG := wsG_t (i := 111) rfl rfl
theorem mb_selects_yX2_append : (.selects RX2 yX2_append yX2_append : Cond) ∈ wsG := wsG_t (i := 112) rfl rfl
theorem mb_code_yX2_append : (.code yX2_append cX2_append 2 none : Cond) ∈ wsG := wsG_t (i := 113) rfl rfl
theorem mb_methodLink_RX2_25 : (.methodLink RX2 25 yX2_sumOf : Cond) ∈ wsG := wsG_t (i := 118) rfl rfl
theorem mb_instanceMethod_yX2_sumOf : (.instanceMethod yX2_sumOf : Cond) ∈ wsG := wsG_t (i := 120) rfl rfl
theorem mb_selects_yX2_sumOf : (.selects RX2 yX2_sumOf yX2_sumOf : Cond) ∈ wsG := wsG_of (List.mem_append_left _ (List.mem_of_getElem? (i := 2) rfl)) rfl
theorem mb_code_yX2_sumOf : (.code yX2_sumOf cX2_sumOf 5 (some .int) : Cond) ∈ wsG := wsG_t (i := 121) rfl rfl
theorem mb_methodLink_RX2_29 : (.methodLink RX2 29 yX2_byteAt : Cond) ∈ wsG := wsG_t (i := 122) rfl rfl
theorem mb_instanceMethod_yX2_byteAt : (.instanceMethod yX2_byteAt : Cond) ∈ wsG := wsG_t (i := 123) rfl rfl
theorem mb_selects_yX2_byteAt : (.selects RX2 yX2_byteAt yX2_byteAt : Cond) ∈ wsG := wsG_t (i := 124) rfl rfl
theorem mb_code_yX2_byteAt : (.code yX2_byteAt cX2_byteAt 2 (some .int) : Cond) ∈ wsG := wsG_t (i := 125) rfl rfl
theorem mb_fieldLink_RX2_33 : (.fieldLink RX2 33 "SortedRun$Table" "SUM_STEPS" "[I" : Cond) ∈ wsG := wsG_t (i := 126) rfl rfl
theorem mb_fieldLink_RX2_37 : (.fieldLink RX2 37 "SortedRun$Table" "next" "I" : Cond) ∈ wsG := wsG_t (i := 34) rfl rfl
theorem mb_fieldLink_RX2_40 : (.fieldLink RX2 40 "SortedRun$Table" "end" "I" : Cond) ∈ wsG := wsG_t (i := 35) rfl rfl
theorem mb_fieldLink_RX2_43 : (.fieldLink RX2 43 "SortedRun$Table" "areNumbersRight" "Z" : Cond) ∈ wsG := wsG_t (i := 37) rfl rfl
theorem mb_methodLink_RX3_3 : (.methodLink RX3 3 objectInit : Cond) ∈ wsG := wsG_t (i := 20) rfl rfl
theorem mb_fieldLink_RX3_9 : (.fieldLink RX3 9 "SortedRun" "waitingKeys" "[I" : Cond) ∈ wsG := wsG_t (i := 136) rfl rfl
theorem mb_arrayClass_long : (.arrayClass .long : Cond) ∈ wsG := wsG_t (i := 51) rfl rfl
theorem mb_fieldLink_RX3_13 : (.fieldLink RX3 13 "SortedRun" "waitingValues" "[J" : Cond) ∈ wsG := wsG_t (i := 137) rfl rfl
theorem mb_fieldLink_RX3_17 : (.fieldLink RX3 17 "SortedRun" "blockLengths" "[I" : Cond) ∈ wsG := wsG_t (i := 138) rfl rfl
theorem mb_classLink_RX3_20 : (.classLink RX3 20 RX2 : Cond) ∈ wsG := wsG_t (i := 23) rfl rfl
theorem mb_instantiable_RX2_5 : (.instantiable RX2 5 : Cond) ∈ wsG := wsG_t (i := 24) rfl rfl
theorem mb_code_yX2_init : (.code yX2_init cX2_init 1 none : Cond) ∈ wsG := wsG_t (i := 27) rfl rfl
theorem mb_instanceMethod_yX2_init : (.instanceMethod yX2_init : Cond) ∈ wsG := wsG_t (i := 26) rfl rfl
theorem mb_fieldLink_RX3_23 : (.fieldLink RX3 23 "SortedRun" "table" "LSortedRun$Table;" : Cond) ∈ wsG := wsG_t (i := 139) rfl rfl
theorem mb_classLink_RX3_27 : (.classLink RX3 27 RX1 : Cond) ∈ wsG := wsG_t (i := 53) rfl rfl
theorem mb_instantiable_RX1_3 : (.instantiable RX1 3 : Cond) ∈ wsG := wsG_t (i := 54) rfl rfl
theorem mb_code_yX1_init : (.code yX1_init cX1_init 1 none : Cond) ∈ wsG := wsG_t (i := 57) rfl rfl
theorem mb_instanceMethod_yX1_init : (.instanceMethod yX1_init : Cond) ∈ wsG := wsG_t (i := 56) rfl rfl
theorem mb_fieldLink_RX3_30 : (.fieldLink RX3 30 "SortedRun" "index" "LSortedRun$Index;" : Cond) ∈ wsG := wsG_t (i := 140) rfl rfl
theorem mb_classLink_RX3_34 : (.classLink RX3 34 RX0 : Cond) ∈ wsG := wsG_t (i := 70) rfl rfl
theorem mb_instantiable_RX0_3 : (.instantiable RX0 3 : Cond) ∈ wsG := wsG_t (i := 71) rfl rfl
theorem mb_initialized_RX0 : (.initialized RX0 : Cond) ∈ wsG := wsG_t (i := 4) rfl rfl
theorem mb_code_yX0_init : (.code yX0_init cX0_init 1 none : Cond) ∈ wsG := wsG_t (i := 74) rfl rfl
theorem mb_instanceMethod_yX0_init : (.instanceMethod yX0_init : Cond) ∈ wsG := wsG_t (i := 73) rfl rfl
theorem mb_fieldLink_RX3_37 : (.fieldLink RX3 37 "SortedRun" "entry" "LSortedRun$Entry;" : Cond) ∈ wsG := wsG_t (i := 141) rfl rfl
theorem mb_methodLink_RX3_41 : (.methodLink RX3 41 yX3_writeTable : Cond) ∈ wsG := wsG_t (i := 89) rfl rfl
theorem mb_instanceMethod_yX3_writeTable : (.instanceMethod yX3_writeTable : Cond) ∈ wsG := wsG_t (i := 91) rfl rfl
theorem mb_selects_yX3_writeTable : (.selects RX3 yX3_writeTable yX3_writeTable : Cond) ∈ wsG := wsG_of (List.mem_append_left _ (List.mem_of_getElem? (i := 0) rfl)) rfl
theorem mb_code_yX3_writeTable : (.code yX3_writeTable cX3_writeTable 3 none : Cond) ∈ wsG := wsG_t (i := 92) rfl rfl
theorem mb_fieldLink_RX3_44 : (.fieldLink RX3 44 "SortedRun" "waiting" "I" : Cond) ∈ wsG := wsG_t (i := 142) rfl rfl
theorem mb_classLink_RX3_48 : (.classLink RX3 48 "java/lang/IllegalStateException" : Cond) ∈ wsG := wsG_t (i := 178) rfl rfl
theorem mb_initialized_IllegalStateException : (.initialized "java/lang/IllegalStateException" : Cond) ∈ wsG := wsG_t (i := 10) rfl rfl
theorem mb_classLink_RX3_55 : (.classLink RX3 55 "java/lang/IllegalArgumentException" : Cond) ∈ wsG := wsG_t (i := 247) rfl rfl
theorem mb_initialized_IllegalArgumentException : (.initialized "java/lang/IllegalArgumentException" : Cond) ∈ wsG := wsG_t (i := 11) rfl rfl
theorem mb_methodLink_RX3_63 : (.methodLink RX3 63 yX3_requireByte : Cond) ∈ wsG := wsG_t (i := 271) rfl rfl
theorem mb_instanceMethod_yX3_requireByte : (.instanceMethod yX3_requireByte : Cond) ∈ wsG := wsG_t (i := 273) rfl rfl
theorem mb_selects_yX3_requireByte : (.selects RX3 yX3_requireByte yX3_requireByte : Cond) ∈ wsG := wsG_of (List.mem_append_left _ (List.mem_of_getElem? (i := 5) rfl)) rfl
theorem mb_code_yX3_requireByte : (.code yX3_requireByte cX3_requireByte 2 none : Cond) ∈ wsG := wsG_t (i := 274) rfl rfl
theorem mb_methodLink_RX3_67 : (.methodLink RX3 67 yX2_byteAt : Cond) ∈ wsG := wsG_t (i := 291) rfl rfl
theorem mb_fieldLink_RX3_75 : (.fieldLink RX3 75 "SortedRun" "isOpen" "Z" : Cond) ∈ wsG := wsG_t (i := 143) rfl rfl
theorem mb_methodLink_RX3_81 : (.methodLink RX3 81 yX1_readFrom : Cond) ∈ wsG := wsG_t (i := 315) rfl rfl
theorem mb_instanceMethod_yX1_readFrom : (.instanceMethod yX1_readFrom : Cond) ∈ wsG := wsG_t (i := 316) rfl rfl
theorem mb_selects_yX1_readFrom : (.selects RX1 yX1_readFrom yX1_readFrom : Cond) ∈ wsG := wsG_t (i := 317) rfl rfl
theorem mb_code_yX1_readFrom : (.code yX1_readFrom cX1_readFrom 4 (some .boolean) : Cond) ∈ wsG := wsG_t (i := 318) rfl rfl
set_option maxRecDepth 20000 in
theorem mb_classLink_RX3_85 : (.classLink RX3 85 "java/lang/ArithmeticException" : Cond) ∈ wsG := wsG_t (i := 352) rfl rfl
theorem mb_initialized_ArithmeticException : (.initialized "java/lang/ArithmeticException" : Cond) ∈ wsG := wsG_t (i := 13) rfl rfl
set_option maxRecDepth 20000 in
theorem mb_methodLink_RX3_93 : (.methodLink RX3 93 yX3_requireOpen : Cond) ∈ wsG := wsG_t (i := 376) rfl rfl
set_option maxRecDepth 20000 in
theorem mb_instanceMethod_yX3_requireOpen : (.instanceMethod yX3_requireOpen : Cond) ∈ wsG := wsG_t (i := 378) rfl rfl
theorem mb_selects_yX3_requireOpen : (.selects RX3 yX3_requireOpen yX3_requireOpen : Cond) ∈ wsG := wsG_of (List.mem_append_left _ (List.mem_of_getElem? (i := 8) rfl)) rfl
set_option maxRecDepth 20000 in
theorem mb_code_yX3_requireOpen : (.code yX3_requireOpen cX3_requireOpen 1 none : Cond) ∈ wsG := wsG_t (i := 379) rfl rfl
set_option maxRecDepth 20000 in
theorem mb_methodLink_RX3_96 : (.methodLink RX3 96 yX1_lastBlockNotAbove : Cond) ∈ wsG := wsG_t (i := 381) rfl rfl
set_option maxRecDepth 20000 in
theorem mb_instanceMethod_yX1_lastBlockNotAbove : (.instanceMethod yX1_lastBlockNotAbove : Cond) ∈ wsG := wsG_t (i := 382) rfl rfl
set_option maxRecDepth 20000 in
theorem mb_selects_yX1_lastBlockNotAbove : (.selects RX1 yX1_lastBlockNotAbove yX1_lastBlockNotAbove : Cond) ∈ wsG := wsG_t (i := 383) rfl rfl
set_option maxRecDepth 20000 in
theorem mb_code_yX1_lastBlockNotAbove : (.code yX1_lastBlockNotAbove cX1_lastBlockNotAbove 3 (some .int) : Cond) ∈ wsG := wsG_t (i := 384) rfl rfl
set_option maxRecDepth 20000 in
theorem mb_classLink_RX3_99 : (.classLink RX3 99 "java/util/NoSuchElementException" : Cond) ∈ wsG := wsG_t (i := 385) rfl rfl
theorem mb_initialized_NoSuchElementException : (.initialized "java/util/NoSuchElementException" : Cond) ∈ wsG := wsG_t (i := 14) rfl rfl
set_option maxRecDepth 20000 in
theorem mb_methodLink_RX3_104 : (.methodLink RX3 104 yX3_countRightEntries : Cond) ∈ wsG := wsG_t (i := 401) rfl rfl
set_option maxRecDepth 20000 in
theorem mb_instanceMethod_yX3_countRightEntries : (.instanceMethod yX3_countRightEntries : Cond) ∈ wsG := wsG_t (i := 403) rfl rfl
theorem mb_selects_yX3_countRightEntries : (.selects RX3 yX3_countRightEntries yX3_countRightEntries : Cond) ∈ wsG := wsG_of (List.mem_append_left _ (List.mem_of_getElem? (i := 9) rfl)) rfl
set_option maxRecDepth 20000 in
theorem mb_code_yX3_countRightEntries : (.code yX3_countRightEntries cX3_countRightEntries 3 (some .int) : Cond) ∈ wsG := wsG_t (i := 404) rfl rfl
set_option maxRecDepth 20000 in
theorem mb_methodLink_RX3_107 : (.methodLink RX3 107 yX3_startReading : Cond) ∈ wsG := wsG_t (i := 422) rfl rfl
set_option maxRecDepth 20000 in
theorem mb_instanceMethod_yX3_startReading : (.instanceMethod yX3_startReading : Cond) ∈ wsG := wsG_t (i := 424) rfl rfl
theorem mb_selects_yX3_startReading : (.selects RX3 yX3_startReading yX3_startReading : Cond) ∈ wsG := wsG_of (List.mem_append_left _ (List.mem_of_getElem? (i := 12) rfl)) rfl
set_option maxRecDepth 20000 in
theorem mb_code_yX3_startReading : (.code yX3_startReading cX3_startReading 2 none : Cond) ∈ wsG := wsG_t (i := 425) rfl rfl
set_option maxRecDepth 20000 in
theorem mb_methodLink_RX3_110 : (.methodLink RX3 110 yX0_readNext : Cond) ∈ wsG := wsG_t (i := 428) rfl rfl
set_option maxRecDepth 20000 in
theorem mb_instanceMethod_yX0_readNext : (.instanceMethod yX0_readNext : Cond) ∈ wsG := wsG_t (i := 429) rfl rfl
set_option maxRecDepth 20000 in
theorem mb_selects_yX0_readNext : (.selects RX0 yX0_readNext yX0_readNext : Cond) ∈ wsG := wsG_t (i := 430) rfl rfl
set_option maxRecDepth 20000 in
theorem mb_code_yX0_readNext : (.code yX0_readNext cX0_readNext 4 none : Cond) ∈ wsG := wsG_t (i := 431) rfl rfl
set_option maxRecDepth 20000 in
theorem mb_methodLink_RX3_123 : (.methodLink RX3 123 yX3_requireBlock : Cond) ∈ wsG := wsG_t (i := 443) rfl rfl
set_option maxRecDepth 20000 in
theorem mb_instanceMethod_yX3_requireBlock : (.instanceMethod yX3_requireBlock : Cond) ∈ wsG := wsG_t (i := 445) rfl rfl
theorem mb_selects_yX3_requireBlock : (.selects RX3 yX3_requireBlock yX3_requireBlock : Cond) ∈ wsG := wsG_of (List.mem_append_left _ (List.mem_of_getElem? (i := 13) rfl)) rfl
set_option maxRecDepth 20000 in
theorem mb_code_yX3_requireBlock : (.code yX3_requireBlock cX3_requireBlock 2 none : Cond) ∈ wsG := wsG_t (i := 446) rfl rfl
theorem mb_classLink_RX3_126 : (.classLink RX3 126 "java/lang/IndexOutOfBoundsException" : Cond) ∈ wsG := wsG_t (i := 275) rfl rfl
theorem mb_initialized_IndexOutOfBoundsException : (.initialized "java/lang/IndexOutOfBoundsException" : Cond) ∈ wsG := wsG_t (i := 12) rfl rfl
set_option maxRecDepth 20000 in
theorem mb_methodLink_RX3_137 : (.methodLink RX3 137 yX3_hasRightSum : Cond) ∈ wsG := wsG_t (i := 405) rfl rfl
set_option maxRecDepth 20000 in
theorem mb_instanceMethod_yX3_hasRightSum : (.instanceMethod yX3_hasRightSum : Cond) ∈ wsG := wsG_t (i := 407) rfl rfl
theorem mb_selects_yX3_hasRightSum : (.selects RX3 yX3_hasRightSum yX3_hasRightSum : Cond) ∈ wsG := wsG_of (List.mem_append_left _ (List.mem_of_getElem? (i := 10) rfl)) rfl
set_option maxRecDepth 20000 in
theorem mb_code_yX3_hasRightSum : (.code yX3_hasRightSum cX3_hasRightSum 4 (some .boolean) : Cond) ∈ wsG := wsG_t (i := 408) rfl rfl
set_option maxRecDepth 20000 in
theorem mb_methodLink_RX3_141 : (.methodLink RX3 141 yX3_countEntries : Cond) ∈ wsG := wsG_t (i := 418) rfl rfl
set_option maxRecDepth 20000 in
theorem mb_instanceMethod_yX3_countEntries : (.instanceMethod yX3_countEntries : Cond) ∈ wsG := wsG_t (i := 420) rfl rfl
theorem mb_selects_yX3_countEntries : (.selects RX3 yX3_countEntries yX3_countEntries : Cond) ∈ wsG := wsG_of (List.mem_append_left _ (List.mem_of_getElem? (i := 11) rfl)) rfl
set_option maxRecDepth 20000 in
theorem mb_code_yX3_countEntries : (.code yX3_countEntries cX3_countEntries 3 (some .int) : Cond) ∈ wsG := wsG_t (i := 421) rfl rfl
set_option maxRecDepth 20000 in
theorem mb_methodLink_RX3_146 : (.methodLink RX3 146 yX1_startOf : Cond) ∈ wsG := wsG_t (i := 409) rfl rfl
set_option maxRecDepth 20000 in
theorem mb_instanceMethod_yX1_startOf : (.instanceMethod yX1_startOf : Cond) ∈ wsG := wsG_t (i := 410) rfl rfl
set_option maxRecDepth 20000 in
theorem mb_selects_yX1_startOf : (.selects RX1 yX1_startOf yX1_startOf : Cond) ∈ wsG := wsG_t (i := 411) rfl rfl
set_option maxRecDepth 20000 in
theorem mb_code_yX1_startOf : (.code yX1_startOf cX1_startOf 2 (some .int) : Cond) ∈ wsG := wsG_t (i := 412) rfl rfl
set_option maxRecDepth 20000 in
theorem mb_methodLink_RX3_149 : (.methodLink RX3 149 yX1_bodyEndOf : Cond) ∈ wsG := wsG_t (i := 413) rfl rfl
set_option maxRecDepth 20000 in
theorem mb_instanceMethod_yX1_bodyEndOf : (.instanceMethod yX1_bodyEndOf : Cond) ∈ wsG := wsG_t (i := 414) rfl rfl
set_option maxRecDepth 20000 in
theorem mb_selects_yX1_bodyEndOf : (.selects RX1 yX1_bodyEndOf yX1_bodyEndOf : Cond) ∈ wsG := wsG_t (i := 415) rfl rfl
set_option maxRecDepth 20000 in
theorem mb_code_yX1_bodyEndOf : (.code yX1_bodyEndOf cX1_bodyEndOf 2 (some .int) : Cond) ∈ wsG := wsG_t (i := 416) rfl rfl
set_option maxRecDepth 20000 in
theorem mb_methodLink_RX3_152 : (.methodLink RX3 152 yX2_hasSum : Cond) ∈ wsG := wsG_t (i := 417) rfl rfl
set_option maxRecDepth 20000 in
theorem mb_methodLink_RX3_156 : (.methodLink RX3 156 yX2_isReadToEnd : Cond) ∈ wsG := wsG_t (i := 427) rfl rfl
set_option maxRecDepth 20000 in
theorem mb_methodLink_RX3_163 : (.methodLink RX3 163 yX2_startReading : Cond) ∈ wsG := wsG_t (i := 426) rfl rfl
theorem mb_methodLink_RX3_169 : (.methodLink RX3 169 yX3_writeBlock : Cond) ∈ wsG := wsG_t (i := 93) rfl rfl
theorem mb_instanceMethod_yX3_writeBlock : (.instanceMethod yX3_writeBlock : Cond) ∈ wsG := wsG_t (i := 95) rfl rfl
theorem mb_selects_yX3_writeBlock : (.selects RX3 yX3_writeBlock yX3_writeBlock : Cond) ∈ wsG := wsG_of (List.mem_append_left _ (List.mem_of_getElem? (i := 1) rfl)) rfl
theorem mb_code_yX3_writeBlock : (.code yX3_writeBlock cX3_writeBlock 5 (some .int) : Cond) ∈ wsG := wsG_t (i := 96) rfl rfl
theorem mb_methodLink_RX3_172 : (.methodLink RX3 172 yX3_writeIndex : Cond) ∈ wsG := wsG_t (i := 128) rfl rfl
theorem mb_instanceMethod_yX3_writeIndex : (.instanceMethod yX3_writeIndex : Cond) ∈ wsG := wsG_t (i := 130) rfl rfl
theorem mb_selects_yX3_writeIndex : (.selects RX3 yX3_writeIndex yX3_writeIndex : Cond) ∈ wsG := wsG_of (List.mem_append_left _ (List.mem_of_getElem? (i := 3) rfl)) rfl
theorem mb_code_yX3_writeIndex : (.code yX3_writeIndex cX3_writeIndex 4 none : Cond) ∈ wsG := wsG_t (i := 131) rfl rfl
theorem mb_methodLink_RX3_175 : (.methodLink RX3 175 Lib.Math.min.name : Cond) ∈ wsG := wsG_t (i := 97) rfl rfl
theorem mb_methodLink_RX3_181 : (.methodLink RX3 181 yX3_fold : Cond) ∈ wsG := wsG_t (i := 100) rfl rfl
theorem mb_static_yX3_fold : (.static yX3_fold : Cond) ∈ wsG := wsG_t (i := 101) rfl rfl
theorem mb_code_yX3_fold : (.code yX3_fold cX3_fold 2 (some .long) : Cond) ∈ wsG := wsG_t (i := 102) rfl rfl
theorem mb_methodLink_RX3_185 : (.methodLink RX3 185 yX2_appendNumber : Cond) ∈ wsG := wsG_t (i := 105) rfl rfl
theorem mb_instanceMethod_yX2_appendNumber : (.instanceMethod yX2_appendNumber : Cond) ∈ wsG := wsG_t (i := 106) rfl rfl
theorem mb_selects_yX2_appendNumber : (.selects RX2 yX2_appendNumber yX2_appendNumber : Cond) ∈ wsG := wsG_t (i := 107) rfl rfl
theorem mb_code_yX2_appendNumber : (.code yX2_appendNumber cX2_appendNumber 6 none : Cond) ∈ wsG := wsG_t (i := 108) rfl rfl
theorem mb_methodLink_RX3_189 : (.methodLink RX3 189 yX2_appendSum : Cond) ∈ wsG := wsG_t (i := 114) rfl rfl
theorem mb_instanceMethod_yX2_appendSum : (.instanceMethod yX2_appendSum : Cond) ∈ wsG := wsG_t (i := 115) rfl rfl
theorem mb_selects_yX2_appendSum : (.selects RX2 yX2_appendSum yX2_appendSum : Cond) ∈ wsG := wsG_t (i := 116) rfl rfl
theorem mb_code_yX2_appendSum : (.code yX2_appendSum cX2_appendSum 4 none : Cond) ∈ wsG := wsG_t (i := 117) rfl rfl
theorem mb_methodLink_RX3_192 : (.methodLink RX3 192 yX2_appendFoot : Cond) ∈ wsG := wsG_t (i := 132) rfl rfl
theorem mb_instanceMethod_yX2_appendFoot : (.instanceMethod yX2_appendFoot : Cond) ∈ wsG := wsG_t (i := 133) rfl rfl
theorem mb_selects_yX2_appendFoot : (.selects RX2 yX2_appendFoot yX2_appendFoot : Cond) ∈ wsG := wsG_t (i := 134) rfl rfl
theorem mb_code_yX2_appendFoot : (.code yX2_appendFoot cX2_appendFoot 3 none : Cond) ∈ wsG := wsG_t (i := 135) rfl rfl
theorem mb_constantLong_RX3_195 : (.constantLong RX3 195 (-2) : Cond) ∈ wsG := wsG_t (i := 103) rfl rfl
theorem mb_constantLong_RX3_197 : (.constantLong RX3 197 (2) : Cond) ∈ wsG := wsG_t (i := 104) rfl rfl
set_option maxRecDepth 20000 in
theorem mb_methodLink_RX4_1 : (.methodLink RX4 1 objectInit : Cond) ∈ wsG := wsG_t (i := 461) rfl rfl
set_option maxRecDepth 20000 in
theorem mb_fieldLink_RX4_9 : (.fieldLink RX4 9 "SortedRunModel" "key" "[I" : Cond) ∈ wsG := wsG_t (i := 486) rfl rfl
set_option maxRecDepth 20000 in
theorem mb_fieldLink_RX4_13 : (.fieldLink RX4 13 "SortedRunModel" "value" "[J" : Cond) ∈ wsG := wsG_t (i := 487) rfl rfl
set_option maxRecDepth 20000 in
theorem mb_fieldLink_RX4_17 : (.fieldLink RX4 17 "SortedRunModel" "table" "[B" : Cond) ∈ wsG := wsG_t (i := 488) rfl rfl
set_option maxRecDepth 20000 in
theorem mb_fieldLink_RX4_21 : (.fieldLink RX4 21 "SortedRunModel" "from" "[I" : Cond) ∈ wsG := wsG_t (i := 489) rfl rfl
set_option maxRecDepth 20000 in
theorem mb_fieldLink_RX4_24 : (.fieldLink RX4 24 "SortedRunModel" "size" "[I" : Cond) ∈ wsG := wsG_t (i := 490) rfl rfl
set_option maxRecDepth 20000 in
theorem mb_fieldLink_RX4_27 : (.fieldLink RX4 27 "SortedRunModel" "first" "[I" : Cond) ∈ wsG := wsG_t (i := 491) rfl rfl
set_option maxRecDepth 20000 in
theorem mb_fieldLink_RX4_30 : (.fieldLink RX4 30 "SortedRunModel" "bKey" "[I" : Cond) ∈ wsG := wsG_t (i := 492) rfl rfl
set_option maxRecDepth 20000 in
theorem mb_fieldLink_RX4_33 : (.fieldLink RX4 33 "SortedRunModel" "bValue" "[J" : Cond) ∈ wsG := wsG_t (i := 493) rfl rfl
set_option maxRecDepth 20000 in
theorem mb_methodLink_RX4_36 : (.methodLink RX4 36 yX4_build : Cond) ∈ wsG := wsG_t (i := 462) rfl rfl
set_option maxRecDepth 20000 in
theorem mb_instanceMethod_yX4_build : (.instanceMethod yX4_build : Cond) ∈ wsG := wsG_t (i := 464) rfl rfl
theorem mb_selects_yX4_build : (.selects RX4 yX4_build yX4_build : Cond) ∈ wsG := wsG_of (List.mem_append_left _ (List.mem_of_getElem? (i := 14) rfl)) rfl
theorem mb_initialized_RX4 : (.initialized RX4 : Cond) ∈ wsG := wsG_t (i := 6) rfl rfl
set_option maxRecDepth 20000 in
theorem mb_code_yX4_build : (.code yX4_build cX4_build 5 none : Cond) ∈ wsG := wsG_t (i := 465) rfl rfl
set_option maxRecDepth 20000 in
theorem mb_fieldLink_RX4_39 : (.fieldLink RX4 39 "SortedRunModel" "thrown" "I" : Cond) ∈ wsG := wsG_t (i := 500) rfl rfl
set_option maxRecDepth 20000 in
theorem mb_constantLong_RX4_43 : (.constantLong RX4 43 (127) : Cond) ∈ wsG := wsG_t (i := 475) rfl rfl
set_option maxRecDepth 20000 in
theorem mb_fieldLink_RX4_45 : (.fieldLink RX4 45 "SortedRunModel" "bytes" "I" : Cond) ∈ wsG := wsG_t (i := 495) rfl rfl
set_option maxRecDepth 20000 in
theorem mb_constantLong_RX4_48 : (.constantLong RX4 48 (128) : Cond) ∈ wsG := wsG_t (i := 476) rfl rfl
set_option maxRecDepth 20000 in
theorem mb_constantLong_RX4_50 : (.constantLong RX4 50 (2) : Cond) ∈ wsG := wsG_t (i := 469) rfl rfl
set_option maxRecDepth 20000 in
theorem mb_constantLong_RX4_52 : (.constantLong RX4 52 (-2) : Cond) ∈ wsG := wsG_t (i := 470) rfl rfl
set_option maxRecDepth 20000 in
theorem mb_constant_RX4_54 : (.constant RX4 54 (-306674912) : Cond) ∈ wsG := wsG_t (i := 485) rfl rfl
set_option maxRecDepth 20000 in
theorem mb_methodLink_RX4_55 : (.methodLink RX4 55 yX4_sum : Cond) ∈ wsG := wsG_t (i := 481) rfl rfl
set_option maxRecDepth 20000 in
theorem mb_instanceMethod_yX4_sum : (.instanceMethod yX4_sum : Cond) ∈ wsG := wsG_t (i := 483) rfl rfl
theorem mb_selects_yX4_sum : (.selects RX4 yX4_sum yX4_sum : Cond) ∈ wsG := wsG_of (List.mem_append_left _ (List.mem_of_getElem? (i := 17) rfl)) rfl
set_option maxRecDepth 20000 in
theorem mb_code_yX4_sum : (.code yX4_sum cX4_sum 7 (some .int) : Cond) ∈ wsG := wsG_t (i := 484) rfl rfl
set_option maxRecDepth 20000 in
theorem mb_fieldLink_RX4_59 : (.fieldLink RX4 59 "SortedRunModel" "waits" "I" : Cond) ∈ wsG := wsG_t (i := 494) rfl rfl
set_option maxRecDepth 20000 in
theorem mb_methodLink_RX4_62 : (.methodLink RX4 62 yX4_fold : Cond) ∈ wsG := wsG_t (i := 466) rfl rfl
set_option maxRecDepth 20000 in
theorem mb_static_yX4_fold : (.static yX4_fold : Cond) ∈ wsG := wsG_t (i := 467) rfl rfl
set_option maxRecDepth 20000 in
theorem mb_code_yX4_fold : (.code yX4_fold cX4_fold 2 (some .long) : Cond) ∈ wsG := wsG_t (i := 468) rfl rfl
set_option maxRecDepth 20000 in
theorem mb_methodLink_RX4_66 : (.methodLink RX4 66 yX4_number : Cond) ∈ wsG := wsG_t (i := 471) rfl rfl
set_option maxRecDepth 20000 in
theorem mb_instanceMethod_yX4_number : (.instanceMethod yX4_number : Cond) ∈ wsG := wsG_t (i := 473) rfl rfl
theorem mb_selects_yX4_number : (.selects RX4 yX4_number yX4_number : Cond) ∈ wsG := wsG_of (List.mem_append_left _ (List.mem_of_getElem? (i := 15) rfl)) rfl
set_option maxRecDepth 20000 in
theorem mb_code_yX4_number : (.code yX4_number cX4_number 5 none : Cond) ∈ wsG := wsG_t (i := 474) rfl rfl
set_option maxRecDepth 20000 in
theorem mb_methodLink_RX4_70 : (.methodLink RX4 70 yX4_seal : Cond) ∈ wsG := wsG_t (i := 477) rfl rfl
set_option maxRecDepth 20000 in
theorem mb_instanceMethod_yX4_seal : (.instanceMethod yX4_seal : Cond) ∈ wsG := wsG_t (i := 479) rfl rfl
theorem mb_selects_yX4_seal : (.selects RX4 yX4_seal yX4_seal : Cond) ∈ wsG := wsG_of (List.mem_append_left _ (List.mem_of_getElem? (i := 16) rfl)) rfl
set_option maxRecDepth 20000 in
theorem mb_code_yX4_seal : (.code yX4_seal cX4_seal 4 none : Cond) ∈ wsG := wsG_t (i := 480) rfl rfl
set_option maxRecDepth 20000 in
theorem mb_fieldLink_RX4_74 : (.fieldLink RX4 74 "SortedRunModel" "isOpen" "Z" : Cond) ∈ wsG := wsG_t (i := 501) rfl rfl
set_option maxRecDepth 20000 in
theorem mb_fieldLink_RX4_78 : (.fieldLink RX4 78 "SortedRunModel" "at" "I" : Cond) ∈ wsG := wsG_t (i := 498) rfl rfl
set_option maxRecDepth 20000 in
theorem mb_fieldLink_RX4_81 : (.fieldLink RX4 81 "SortedRunModel" "end" "I" : Cond) ∈ wsG := wsG_t (i := 499) rfl rfl
set_option maxRecDepth 20000 in
theorem mb_fieldLink_RX4_84 : (.fieldLink RX4 84 "SortedRunModel" "isWrong" "Z" : Cond) ∈ wsG := wsG_t (i := 502) rfl rfl
set_option maxRecDepth 20000 in
theorem mb_methodLink_RX4_87 : (.methodLink RX4 87 yX4_read : Cond) ∈ wsG := wsG_t (i := 583) rfl rfl
set_option maxRecDepth 20000 in
theorem mb_instanceMethod_yX4_read : (.instanceMethod yX4_read : Cond) ∈ wsG := wsG_t (i := 585) rfl rfl
theorem mb_selects_yX4_read : (.selects RX4 yX4_read yX4_read : Cond) ∈ wsG := wsG_of (List.mem_append_left _ (List.mem_of_getElem? (i := 22) rfl)) rfl
set_option maxRecDepth 20000 in
theorem mb_code_yX4_read : (.code yX4_read cX4_read 6 (some .long) : Cond) ∈ wsG := wsG_t (i := 586) rfl rfl
set_option maxRecDepth 20000 in
theorem mb_constantLong_RX4_91 : (.constantLong RX4 91 (4294967295) : Cond) ∈ wsG := wsG_t (i := 587) rfl rfl
set_option maxRecDepth 20000 in
theorem mb_constantLong_RX4_93 : (.constantLong RX4 93 (8) : Cond) ∈ wsG := wsG_t (i := 574) rfl rfl
set_option maxRecDepth 20000 in
theorem mb_methodLink_RX4_95 : (.methodLink RX4 95 yX4_isSealed : Cond) ∈ wsG := wsG_t (i := 575) rfl rfl
set_option maxRecDepth 20000 in
theorem mb_instanceMethod_yX4_isSealed : (.instanceMethod yX4_isSealed : Cond) ∈ wsG := wsG_t (i := 577) rfl rfl
theorem mb_selects_yX4_isSealed : (.selects RX4 yX4_isSealed yX4_isSealed : Cond) ∈ wsG := wsG_of (List.mem_append_left _ (List.mem_of_getElem? (i := 20) rfl)) rfl
set_option maxRecDepth 20000 in
theorem mb_code_yX4_isSealed : (.code yX4_isSealed cX4_isSealed 5 (some .boolean) : Cond) ∈ wsG := wsG_t (i := 578) rfl rfl
set_option maxRecDepth 20000 in
theorem mb_methodLink_RX4_99 : (.methodLink RX4 99 yX4_small : Cond) ∈ wsG := wsG_t (i := 579) rfl rfl
set_option maxRecDepth 20000 in
theorem mb_instanceMethod_yX4_small : (.instanceMethod yX4_small : Cond) ∈ wsG := wsG_t (i := 581) rfl rfl
theorem mb_selects_yX4_small : (.selects RX4 yX4_small yX4_small : Cond) ∈ wsG := wsG_of (List.mem_append_left _ (List.mem_of_getElem? (i := 21) rfl)) rfl
set_option maxRecDepth 20000 in
theorem mb_code_yX4_small : (.code yX4_small cX4_small 3 (some .long) : Cond) ∈ wsG := wsG_t (i := 582) rfl rfl
set_option maxRecDepth 20000 in
theorem mb_fieldLink_RX4_102 : (.fieldLink RX4 102 "SortedRunModel" "blocks" "I" : Cond) ∈ wsG := wsG_t (i := 496) rfl rfl
set_option maxRecDepth 20000 in
theorem mb_constantLong_RX4_105 : (.constantLong RX4 105 (6000) : Cond) ∈ wsG := wsG_t (i := 588) rfl rfl
set_option maxRecDepth 20000 in
theorem mb_methodLink_RX4_107 : (.methodLink RX4 107 yX4_unfold : Cond) ∈ wsG := wsG_t (i := 589) rfl rfl
set_option maxRecDepth 20000 in
theorem mb_static_yX4_unfold : (.static yX4_unfold : Cond) ∈ wsG := wsG_t (i := 590) rfl rfl
set_option maxRecDepth 20000 in
theorem mb_code_yX4_unfold : (.code yX4_unfold cX4_unfold 2 (some .long) : Cond) ∈ wsG := wsG_t (i := 591) rfl rfl
set_option maxRecDepth 20000 in
theorem mb_fieldLink_RX4_110 : (.fieldLink RX4 110 "SortedRunModel" "many" "I" : Cond) ∈ wsG := wsG_t (i := 497) rfl rfl
set_option maxRecDepth 20000 in
theorem mb_methodLink_RX4_113 : (.methodLink RX4 113 yX4_isByte : Cond) ∈ wsG := wsG_t (i := 554) rfl rfl
set_option maxRecDepth 20000 in
theorem mb_instanceMethod_yX4_isByte : (.instanceMethod yX4_isByte : Cond) ∈ wsG := wsG_t (i := 556) rfl rfl
theorem mb_selects_yX4_isByte : (.selects RX4 yX4_isByte yX4_isByte : Cond) ∈ wsG := wsG_of (List.mem_append_left _ (List.mem_of_getElem? (i := 18) rfl)) rfl
set_option maxRecDepth 20000 in
theorem mb_code_yX4_isByte : (.code yX4_isByte cX4_isByte 2 (some .boolean) : Cond) ∈ wsG := wsG_t (i := 557) rfl rfl
set_option maxRecDepth 20000 in
theorem mb_methodLink_RX4_117 : (.methodLink RX4 117 yX4_isIndex : Cond) ∈ wsG := wsG_t (i := 570) rfl rfl
set_option maxRecDepth 20000 in
theorem mb_instanceMethod_yX4_isIndex : (.instanceMethod yX4_isIndex : Cond) ∈ wsG := wsG_t (i := 572) rfl rfl
theorem mb_selects_yX4_isIndex : (.selects RX4 yX4_isIndex yX4_isIndex : Cond) ∈ wsG := wsG_of (List.mem_append_left _ (List.mem_of_getElem? (i := 19) rfl)) rfl
set_option maxRecDepth 20000 in
theorem mb_code_yX4_isIndex : (.code yX4_isIndex cX4_isIndex 14 (some .boolean) : Cond) ∈ wsG := wsG_t (i := 573) rfl rfl
set_option maxRecDepth 20000 in
theorem mb_methodLink_RX4_121 : (.methodLink RX4 121 yX4_isBlock : Cond) ∈ wsG := wsG_t (i := 596) rfl rfl
set_option maxRecDepth 20000 in
theorem mb_instanceMethod_yX4_isBlock : (.instanceMethod yX4_isBlock : Cond) ∈ wsG := wsG_t (i := 598) rfl rfl
theorem mb_selects_yX4_isBlock : (.selects RX4 yX4_isBlock yX4_isBlock : Cond) ∈ wsG := wsG_of (List.mem_append_left _ (List.mem_of_getElem? (i := 23) rfl)) rfl
set_option maxRecDepth 20000 in
theorem mb_code_yX4_isBlock : (.code yX4_isBlock cX4_isBlock 6 (some .boolean) : Cond) ∈ wsG := wsG_t (i := 599) rfl rfl
set_option maxRecDepth 20000 in
theorem mb_methodLink_RX4_124 : (.methodLink RX4 124 yX4_isThere : Cond) ∈ wsG := wsG_t (i := 604) rfl rfl
set_option maxRecDepth 20000 in
theorem mb_instanceMethod_yX4_isThere : (.instanceMethod yX4_isThere : Cond) ∈ wsG := wsG_t (i := 606) rfl rfl
theorem mb_selects_yX4_isThere : (.selects RX4 yX4_isThere yX4_isThere : Cond) ∈ wsG := wsG_of (List.mem_append_left _ (List.mem_of_getElem? (i := 24) rfl)) rfl
set_option maxRecDepth 20000 in
theorem mb_code_yX4_isThere : (.code yX4_isThere cX4_isThere 2 (some .boolean) : Cond) ∈ wsG := wsG_t (i := 607) rfl rfl
theorem mb_methodLink_RL_7 : (.methodLink RL 7 yX3_add : Cond) ∈ wsG := wsG_t (i := 174) rfl rfl
theorem mb_instanceMethod_yX3_add : (.instanceMethod yX3_add : Cond) ∈ wsG := wsG_t (i := 175) rfl rfl
theorem mb_selects_yX3_add : (.selects RX3 yX3_add yX3_add : Cond) ∈ wsG := wsG_t (i := 176) rfl rfl
theorem mb_code_yX3_add : (.code yX3_add cX3_add 4 (some .int) : Cond) ∈ wsG := wsG_t (i := 177) rfl rfl
theorem mb_methodLink_RL_17 : (.methodLink RL 17 yX3_at : Cond) ∈ wsG := wsG_t (i := 267) rfl rfl
theorem mb_instanceMethod_yX3_at : (.instanceMethod yX3_at : Cond) ∈ wsG := wsG_t (i := 268) rfl rfl
theorem mb_selects_yX3_at : (.selects RX3 yX3_at yX3_at : Cond) ∈ wsG := wsG_t (i := 269) rfl rfl
theorem mb_code_yX3_at : (.code yX3_at cX3_at 2 (some .int) : Cond) ∈ wsG := wsG_t (i := 270) rfl rfl
theorem mb_methodLink_RL_23 : (.methodLink RL 23 yX3_damage : Cond) ∈ wsG := wsG_t (i := 295) rfl rfl
theorem mb_instanceMethod_yX3_damage : (.instanceMethod yX3_damage : Cond) ∈ wsG := wsG_t (i := 296) rfl rfl
theorem mb_selects_yX3_damage : (.selects RX3 yX3_damage yX3_damage : Cond) ∈ wsG := wsG_t (i := 297) rfl rfl
theorem mb_code_yX3_damage : (.code yX3_damage cX3_damage 4 (some .int) : Cond) ∈ wsG := wsG_t (i := 298) rfl rfl
theorem mb_methodLink_RL_27 : (.methodLink RL 27 yX3_cut : Cond) ∈ wsG := wsG_t (i := 302) rfl rfl
theorem mb_instanceMethod_yX3_cut : (.instanceMethod yX3_cut : Cond) ∈ wsG := wsG_t (i := 303) rfl rfl
theorem mb_selects_yX3_cut : (.selects RX3 yX3_cut yX3_cut : Cond) ∈ wsG := wsG_t (i := 304) rfl rfl
theorem mb_code_yX3_cut : (.code yX3_cut cX3_cut 2 none : Cond) ∈ wsG := wsG_t (i := 305) rfl rfl
theorem mb_methodLink_RL_31 : (.methodLink RL 31 yX3_open : Cond) ∈ wsG := wsG_t (i := 311) rfl rfl
theorem mb_instanceMethod_yX3_open : (.instanceMethod yX3_open : Cond) ∈ wsG := wsG_t (i := 312) rfl rfl
theorem mb_selects_yX3_open : (.selects RX3 yX3_open yX3_open : Cond) ∈ wsG := wsG_t (i := 313) rfl rfl
theorem mb_code_yX3_open : (.code yX3_open cX3_open 1 (some .int) : Cond) ∈ wsG := wsG_t (i := 314) rfl rfl
set_option maxRecDepth 20000 in
theorem mb_methodLink_RL_37 : (.methodLink RL 37 yX3_get : Cond) ∈ wsG := wsG_t (i := 372) rfl rfl
set_option maxRecDepth 20000 in
theorem mb_instanceMethod_yX3_get : (.instanceMethod yX3_get : Cond) ∈ wsG := wsG_t (i := 373) rfl rfl
set_option maxRecDepth 20000 in
theorem mb_selects_yX3_get : (.selects RX3 yX3_get yX3_get : Cond) ∈ wsG := wsG_t (i := 374) rfl rfl
set_option maxRecDepth 20000 in
theorem mb_code_yX3_get : (.code yX3_get cX3_get 5 (some .long) : Cond) ∈ wsG := wsG_t (i := 375) rfl rfl
set_option maxRecDepth 20000 in
theorem mb_methodLink_RL_43 : (.methodLink RL 43 yX3_entries : Cond) ∈ wsG := wsG_t (i := 439) rfl rfl
set_option maxRecDepth 20000 in
theorem mb_instanceMethod_yX3_entries : (.instanceMethod yX3_entries : Cond) ∈ wsG := wsG_t (i := 440) rfl rfl
set_option maxRecDepth 20000 in
theorem mb_selects_yX3_entries : (.selects RX3 yX3_entries yX3_entries : Cond) ∈ wsG := wsG_t (i := 441) rfl rfl
set_option maxRecDepth 20000 in
theorem mb_code_yX3_entries : (.code yX3_entries cX3_entries 2 (some .int) : Cond) ∈ wsG := wsG_t (i := 442) rfl rfl
set_option maxRecDepth 20000 in
theorem mb_methodLink_RL_46 : (.methodLink RL 46 yX3_key : Cond) ∈ wsG := wsG_t (i := 451) rfl rfl
set_option maxRecDepth 20000 in
theorem mb_instanceMethod_yX3_key : (.instanceMethod yX3_key : Cond) ∈ wsG := wsG_t (i := 452) rfl rfl
set_option maxRecDepth 20000 in
theorem mb_selects_yX3_key : (.selects RX3 yX3_key yX3_key : Cond) ∈ wsG := wsG_t (i := 453) rfl rfl
set_option maxRecDepth 20000 in
theorem mb_code_yX3_key : (.code yX3_key cX3_key 5 (some .int) : Cond) ∈ wsG := wsG_t (i := 454) rfl rfl
theorem mb_classLink_RL_8 : (.classLink RL 8 RX3 : Cond) ∈ wsG := wsG_t (i := 15) rfl rfl
theorem mb_instantiable_RX3_8 : (.instantiable RX3 8 : Cond) ∈ wsG := wsG_t (i := 16) rfl rfl
theorem mb_code_yX3_init : (.code yX3_init cX3_init 1 none : Cond) ∈ wsG := wsG_t (i := 19) rfl rfl
theorem mb_instanceMethod_yX3_init : (.instanceMethod yX3_init : Cond) ∈ wsG := wsG_t (i := 18) rfl rfl
theorem mb_methodLink_RL_49 : (.methodLink RL 49 yX3_init : Cond) ∈ wsG := wsG_t (i := 17) rfl rfl
set_option maxRecDepth 20000 in
theorem mb_classLink_RL_50 : (.classLink RL 50 RX4 : Cond) ∈ wsG := wsG_t (i := 456) rfl rfl
set_option maxRecDepth 20000 in
theorem mb_instantiable_RX4_17 : (.instantiable RX4 17 : Cond) ∈ wsG := wsG_t (i := 457) rfl rfl
set_option maxRecDepth 20000 in
theorem mb_code_yX4_init : (.code yX4_init cX4_init 1 none : Cond) ∈ wsG := wsG_t (i := 460) rfl rfl
set_option maxRecDepth 20000 in
theorem mb_instanceMethod_yX4_init : (.instanceMethod yX4_init : Cond) ∈ wsG := wsG_t (i := 459) rfl rfl
set_option maxRecDepth 20000 in
theorem mb_methodLink_RL_52 : (.methodLink RL 52 yX4_init : Cond) ∈ wsG := wsG_t (i := 458) rfl rfl
set_option maxRecDepth 20000 in
theorem mb_constantLong_RL_53 : (.constantLong RL 53 (4294967295) : Cond) ∈ wsG := wsG_t (i := 616) rfl rfl
theorem mb_methodLink_RL_55 : (.methodLink RL 55 yL_add : Cond) ∈ wsG := wsG_t (i := 169) rfl rfl
theorem mb_static_yL_add : (.static yL_add : Cond) ∈ wsG := wsG_t (i := 170) rfl rfl
theorem mb_initialized_RL : (.initialized RL : Cond) ∈ wsG := wsG_t (i := 0) rfl rfl
set_option maxRecDepth 20000 in
theorem mb_methodLink_RL_60 : (.methodLink RL 60 yX4_add : Cond) ∈ wsG := wsG_t (i := 542) rfl rfl
set_option maxRecDepth 20000 in
theorem mb_instanceMethod_yX4_add : (.instanceMethod yX4_add : Cond) ∈ wsG := wsG_t (i := 543) rfl rfl
set_option maxRecDepth 20000 in
theorem mb_selects_yX4_add : (.selects RX4 yX4_add yX4_add : Cond) ∈ wsG := wsG_t (i := 544) rfl rfl
set_option maxRecDepth 20000 in
theorem mb_code_yX4_add : (.code yX4_add cX4_add 4 (some .int) : Cond) ∈ wsG := wsG_t (i := 545) rfl rfl
set_option maxRecDepth 20000 in
theorem mb_methodLink_RL_61 : (.methodLink RL 61 yX4_thrown : Cond) ∈ wsG := wsG_t (i := 538) rfl rfl
set_option maxRecDepth 20000 in
theorem mb_instanceMethod_yX4_thrown : (.instanceMethod yX4_thrown : Cond) ∈ wsG := wsG_t (i := 539) rfl rfl
set_option maxRecDepth 20000 in
theorem mb_selects_yX4_thrown : (.selects RX4 yX4_thrown yX4_thrown : Cond) ∈ wsG := wsG_t (i := 540) rfl rfl
set_option maxRecDepth 20000 in
theorem mb_code_yX4_thrown : (.code yX4_thrown cX4_thrown 1 (some .int) : Cond) ∈ wsG := wsG_t (i := 541) rfl rfl
theorem mb_methodLink_RL_64 : (.methodLink RL 64 yX3_write : Cond) ∈ wsG := wsG_t (i := 161) rfl rfl
theorem mb_instanceMethod_yX3_write : (.instanceMethod yX3_write : Cond) ∈ wsG := wsG_t (i := 162) rfl rfl
theorem mb_selects_yX3_write : (.selects RX3 yX3_write yX3_write : Cond) ∈ wsG := wsG_t (i := 163) rfl rfl
theorem mb_code_yX3_write : (.code yX3_write cX3_write 1 (some .int) : Cond) ∈ wsG := wsG_t (i := 164) rfl rfl
set_option maxRecDepth 20000 in
theorem mb_methodLink_RL_67 : (.methodLink RL 67 yX4_write : Cond) ∈ wsG := wsG_t (i := 546) rfl rfl
set_option maxRecDepth 20000 in
theorem mb_instanceMethod_yX4_write : (.instanceMethod yX4_write : Cond) ∈ wsG := wsG_t (i := 547) rfl rfl
set_option maxRecDepth 20000 in
theorem mb_selects_yX4_write : (.selects RX4 yX4_write yX4_write : Cond) ∈ wsG := wsG_t (i := 548) rfl rfl
set_option maxRecDepth 20000 in
theorem mb_code_yX4_write : (.code yX4_write cX4_write 1 (some .int) : Cond) ∈ wsG := wsG_t (i := 549) rfl rfl
theorem mb_methodLink_RL_68 : (.methodLink RL 68 yL_at : Cond) ∈ wsG := wsG_t (i := 263) rfl rfl
theorem mb_static_yL_at : (.static yL_at : Cond) ∈ wsG := wsG_t (i := 264) rfl rfl
set_option maxRecDepth 20000 in
theorem mb_methodLink_RL_71 : (.methodLink RL 71 yX4_at : Cond) ∈ wsG := wsG_t (i := 550) rfl rfl
set_option maxRecDepth 20000 in
theorem mb_instanceMethod_yX4_at : (.instanceMethod yX4_at : Cond) ∈ wsG := wsG_t (i := 551) rfl rfl
set_option maxRecDepth 20000 in
theorem mb_selects_yX4_at : (.selects RX4 yX4_at yX4_at : Cond) ∈ wsG := wsG_t (i := 552) rfl rfl
set_option maxRecDepth 20000 in
theorem mb_code_yX4_at : (.code yX4_at cX4_at 2 (some .int) : Cond) ∈ wsG := wsG_t (i := 553) rfl rfl
theorem mb_methodLink_RL_72 : (.methodLink RL 72 yL_damage : Cond) ∈ wsG := wsG_t (i := 292) rfl rfl
theorem mb_static_yL_damage : (.static yL_damage : Cond) ∈ wsG := wsG_t (i := 293) rfl rfl
set_option maxRecDepth 20000 in
theorem mb_methodLink_RL_75 : (.methodLink RL 75 yX4_damage : Cond) ∈ wsG := wsG_t (i := 558) rfl rfl
set_option maxRecDepth 20000 in
theorem mb_instanceMethod_yX4_damage : (.instanceMethod yX4_damage : Cond) ∈ wsG := wsG_t (i := 559) rfl rfl
set_option maxRecDepth 20000 in
theorem mb_selects_yX4_damage : (.selects RX4 yX4_damage yX4_damage : Cond) ∈ wsG := wsG_t (i := 560) rfl rfl
set_option maxRecDepth 20000 in
theorem mb_code_yX4_damage : (.code yX4_damage cX4_damage 4 (some .int) : Cond) ∈ wsG := wsG_t (i := 561) rfl rfl
theorem mb_methodLink_RL_76 : (.methodLink RL 76 yL_cut : Cond) ∈ wsG := wsG_t (i := 299) rfl rfl
theorem mb_static_yL_cut : (.static yL_cut : Cond) ∈ wsG := wsG_t (i := 300) rfl rfl
set_option maxRecDepth 20000 in
theorem mb_methodLink_RL_79 : (.methodLink RL 79 yX4_cut : Cond) ∈ wsG := wsG_t (i := 562) rfl rfl
set_option maxRecDepth 20000 in
theorem mb_instanceMethod_yX4_cut : (.instanceMethod yX4_cut : Cond) ∈ wsG := wsG_t (i := 563) rfl rfl
set_option maxRecDepth 20000 in
theorem mb_selects_yX4_cut : (.selects RX4 yX4_cut yX4_cut : Cond) ∈ wsG := wsG_t (i := 564) rfl rfl
set_option maxRecDepth 20000 in
theorem mb_code_yX4_cut : (.code yX4_cut cX4_cut 2 none : Cond) ∈ wsG := wsG_t (i := 565) rfl rfl
theorem mb_methodLink_RL_80 : (.methodLink RL 80 yL_open : Cond) ∈ wsG := wsG_t (i := 307) rfl rfl
theorem mb_static_yL_open : (.static yL_open : Cond) ∈ wsG := wsG_t (i := 308) rfl rfl
set_option maxRecDepth 20000 in
theorem mb_methodLink_RL_83 : (.methodLink RL 83 yX4_open : Cond) ∈ wsG := wsG_t (i := 566) rfl rfl
set_option maxRecDepth 20000 in
theorem mb_instanceMethod_yX4_open : (.instanceMethod yX4_open : Cond) ∈ wsG := wsG_t (i := 567) rfl rfl
set_option maxRecDepth 20000 in
theorem mb_selects_yX4_open : (.selects RX4 yX4_open yX4_open : Cond) ∈ wsG := wsG_t (i := 568) rfl rfl
set_option maxRecDepth 20000 in
theorem mb_code_yX4_open : (.code yX4_open cX4_open 1 (some .int) : Cond) ∈ wsG := wsG_t (i := 569) rfl rfl
set_option maxRecDepth 20000 in
theorem mb_methodLink_RL_84 : (.methodLink RL 84 yL_get : Cond) ∈ wsG := wsG_t (i := 368) rfl rfl
set_option maxRecDepth 20000 in
theorem mb_static_yL_get : (.static yL_get : Cond) ∈ wsG := wsG_t (i := 369) rfl rfl
set_option maxRecDepth 20000 in
theorem mb_methodLink_RL_86 : (.methodLink RL 86 yX4_get : Cond) ∈ wsG := wsG_t (i := 592) rfl rfl
set_option maxRecDepth 20000 in
theorem mb_instanceMethod_yX4_get : (.instanceMethod yX4_get : Cond) ∈ wsG := wsG_t (i := 593) rfl rfl
set_option maxRecDepth 20000 in
theorem mb_selects_yX4_get : (.selects RX4 yX4_get yX4_get : Cond) ∈ wsG := wsG_t (i := 594) rfl rfl
set_option maxRecDepth 20000 in
theorem mb_code_yX4_get : (.code yX4_get cX4_get 4 (some .long) : Cond) ∈ wsG := wsG_t (i := 595) rfl rfl
set_option maxRecDepth 20000 in
theorem mb_methodLink_RL_87 : (.methodLink RL 87 yL_entries : Cond) ∈ wsG := wsG_t (i := 436) rfl rfl
set_option maxRecDepth 20000 in
theorem mb_static_yL_entries : (.static yL_entries : Cond) ∈ wsG := wsG_t (i := 437) rfl rfl
set_option maxRecDepth 20000 in
theorem mb_methodLink_RL_89 : (.methodLink RL 89 yX4_entries : Cond) ∈ wsG := wsG_t (i := 600) rfl rfl
set_option maxRecDepth 20000 in
theorem mb_instanceMethod_yX4_entries : (.instanceMethod yX4_entries : Cond) ∈ wsG := wsG_t (i := 601) rfl rfl
set_option maxRecDepth 20000 in
theorem mb_selects_yX4_entries : (.selects RX4 yX4_entries yX4_entries : Cond) ∈ wsG := wsG_t (i := 602) rfl rfl
set_option maxRecDepth 20000 in
theorem mb_code_yX4_entries : (.code yX4_entries cX4_entries 2 (some .int) : Cond) ∈ wsG := wsG_t (i := 603) rfl rfl
set_option maxRecDepth 20000 in
theorem mb_methodLink_RL_90 : (.methodLink RL 90 yL_key : Cond) ∈ wsG := wsG_t (i := 448) rfl rfl
set_option maxRecDepth 20000 in
theorem mb_static_yL_key : (.static yL_key : Cond) ∈ wsG := wsG_t (i := 449) rfl rfl
set_option maxRecDepth 20000 in
theorem mb_methodLink_RL_92 : (.methodLink RL 92 yX4_key : Cond) ∈ wsG := wsG_t (i := 608) rfl rfl
set_option maxRecDepth 20000 in
theorem mb_instanceMethod_yX4_key : (.instanceMethod yX4_key : Cond) ∈ wsG := wsG_t (i := 609) rfl rfl
set_option maxRecDepth 20000 in
theorem mb_selects_yX4_key : (.selects RX4 yX4_key yX4_key : Cond) ∈ wsG := wsG_t (i := 610) rfl rfl
set_option maxRecDepth 20000 in
theorem mb_code_yX4_key : (.code yX4_key cX4_key 3 (some .int) : Cond) ∈ wsG := wsG_t (i := 611) rfl rfl
theorem mb_methodLink_RL_93 : (.methodLink RL 93 yX3_size : Cond) ∈ wsG := wsG_t (i := 165) rfl rfl
theorem mb_instanceMethod_yX3_size : (.instanceMethod yX3_size : Cond) ∈ wsG := wsG_t (i := 166) rfl rfl
theorem mb_selects_yX3_size : (.selects RX3 yX3_size yX3_size : Cond) ∈ wsG := wsG_t (i := 167) rfl rfl
theorem mb_code_yX3_size : (.code yX3_size cX3_size 1 (some .int) : Cond) ∈ wsG := wsG_t (i := 168) rfl rfl
set_option maxRecDepth 20000 in
theorem mb_methodLink_RL_96 : (.methodLink RL 96 yX4_size : Cond) ∈ wsG := wsG_t (i := 612) rfl rfl
set_option maxRecDepth 20000 in
theorem mb_instanceMethod_yX4_size : (.instanceMethod yX4_size : Cond) ∈ wsG := wsG_t (i := 613) rfl rfl
set_option maxRecDepth 20000 in
theorem mb_selects_yX4_size : (.selects RX4 yX4_size yX4_size : Cond) ∈ wsG := wsG_t (i := 614) rfl rfl
set_option maxRecDepth 20000 in
theorem mb_code_yX4_size : (.code yX4_size cX4_size 1 (some .int) : Cond) ∈ wsG := wsG_t (i := 615) rfl rfl
theorem mb_instanceMethod_objectInit : (.instanceMethod objectInit : Cond) ∈ wsG := wsG_t (i := 21) rfl rfl
theorem mb_code_objectInit : (.code objectInit ⟨#[0xb1]⟩ 1 none : Cond) ∈ wsG := wsG_t (i := 22) rfl rfl
theorem mb_min_static : (.static Lib.Math.min.name : Cond) ∈ wsG := wsG_t (i := 98) rfl rfl
theorem mb_min_ini : (.initialized "java/lang/Math" : Cond) ∈ wsG := wsG_t (i := 5) rfl rfl
theorem mb_min_code : (.code Lib.Math.min.name Lib.Math.min.code 2 (some .int) : Cond) ∈ wsG := wsG_t (i := 99) rfl rfl
abbrev wsX0_init : List Cond := .code yX0_init cX0_init 1 none :: wsG
abbrev wsX0_readNext : List Cond := .code yX0_readNext cX0_readNext 4 none :: wsG
abbrev wsX1_init : List Cond := .code yX1_init cX1_init 1 none :: wsG
abbrev wsX1_startOf : List Cond := .code yX1_startOf cX1_startOf 2 (some .int) :: wsG
abbrev wsX1_bodyEndOf : List Cond := .code yX1_bodyEndOf cX1_bodyEndOf 2 (some .int) :: wsG
abbrev wsX1_lastBlockNotAbove : List Cond := .code yX1_lastBlockNotAbove cX1_lastBlockNotAbove 3 (some .int) :: wsG
abbrev wsX1_readFrom : List Cond := .code yX1_readFrom cX1_readFrom 4 (some .boolean) :: wsG
abbrev wsX1_readBlocks : List Cond := .code yX1_readBlocks cX1_readBlocks 12 (some .boolean) :: wsG
abbrev wsX1_fitsIndex : List Cond := .code yX1_fitsIndex cX1_fitsIndex 3 (some .boolean) :: wsG
abbrev wsX2_init : List Cond := .code yX2_init cX2_init 1 none :: wsG
abbrev wsX2_byteAt : List Cond := .code yX2_byteAt cX2_byteAt 2 (some .int) :: wsG
abbrev wsX2_append : List Cond := .code yX2_append cX2_append 2 none :: wsG
abbrev wsX2_appendNumber : List Cond := .code yX2_appendNumber cX2_appendNumber 6 none :: wsG
abbrev wsX2_appendSum : List Cond := .code yX2_appendSum cX2_appendSum 4 none :: wsG
abbrev wsX2_appendFoot : List Cond := .code yX2_appendFoot cX2_appendFoot 3 none :: wsG
abbrev wsX2_foot : List Cond := .code yX2_foot cX2_foot 4 (some .long) :: wsG
abbrev wsX2_hasSum : List Cond := .code yX2_hasSum cX2_hasSum 5 (some .boolean) :: wsG
abbrev wsX2_sumOf : List Cond := .code yX2_sumOf cX2_sumOf 5 (some .int) :: wsG
abbrev wsX2_startReading : List Cond := .code yX2_startReading cX2_startReading 3 none :: wsG
abbrev wsX2_isReadToEnd : List Cond := .code yX2_isReadToEnd cX2_isReadToEnd 1 (some .boolean) :: wsG
abbrev wsX2_takeNumber : List Cond := .code yX2_takeNumber cX2_takeNumber 5 (some .long) :: wsG
abbrev wsX3_init : List Cond := .code yX3_init cX3_init 1 none :: wsG
abbrev wsX3_add : List Cond := .code yX3_add cX3_add 4 (some .int) :: wsG
abbrev wsX3_write : List Cond := .code yX3_write cX3_write 1 (some .int) :: wsG
abbrev wsX3_at : List Cond := .code yX3_at cX3_at 2 (some .int) :: wsG
abbrev wsX3_damage : List Cond := .code yX3_damage cX3_damage 4 (some .int) :: wsG
abbrev wsX3_cut : List Cond := .code yX3_cut cX3_cut 2 none :: wsG
abbrev wsX3_open : List Cond := .code yX3_open cX3_open 1 (some .int) :: wsG
abbrev wsX3_get : List Cond := .code yX3_get cX3_get 5 (some .long) :: wsG
abbrev wsX3_entries : List Cond := .code yX3_entries cX3_entries 2 (some .int) :: wsG
abbrev wsX3_key : List Cond := .code yX3_key cX3_key 5 (some .int) :: wsG
abbrev wsX3_size : List Cond := .code yX3_size cX3_size 1 (some .int) :: wsG
abbrev wsX3_requireByte : List Cond := .code yX3_requireByte cX3_requireByte 2 none :: wsG
abbrev wsX3_requireOpen : List Cond := .code yX3_requireOpen cX3_requireOpen 1 none :: wsG
abbrev wsX3_requireBlock : List Cond := .code yX3_requireBlock cX3_requireBlock 2 none :: wsG
abbrev wsX3_countRightEntries : List Cond := .code yX3_countRightEntries cX3_countRightEntries 3 (some .int) :: wsG
abbrev wsX3_hasRightSum : List Cond := .code yX3_hasRightSum cX3_hasRightSum 4 (some .boolean) :: wsG
abbrev wsX3_countEntries : List Cond := .code yX3_countEntries cX3_countEntries 3 (some .int) :: wsG
abbrev wsX3_startReading : List Cond := .code yX3_startReading cX3_startReading 2 none :: wsG
abbrev wsX3_writeTable : List Cond := .code yX3_writeTable cX3_writeTable 3 none :: wsG
abbrev wsX3_writeBlock : List Cond := .code yX3_writeBlock cX3_writeBlock 5 (some .int) :: wsG
abbrev wsX3_writeIndex : List Cond := .code yX3_writeIndex cX3_writeIndex 4 none :: wsG
abbrev wsX3_fold : List Cond := .code yX3_fold cX3_fold 2 (some .long) :: wsG
abbrev wsX3_unfold : List Cond := .code yX3_unfold cX3_unfold 4 (some .long) :: wsG
abbrev wsX4_init : List Cond := .code yX4_init cX4_init 1 none :: wsG
abbrev wsX4_thrown : List Cond := .code yX4_thrown cX4_thrown 1 (some .int) :: wsG
abbrev wsX4_number : List Cond := .code yX4_number cX4_number 5 none :: wsG
abbrev wsX4_fold : List Cond := .code yX4_fold cX4_fold 2 (some .long) :: wsG
abbrev wsX4_unfold : List Cond := .code yX4_unfold cX4_unfold 2 (some .long) :: wsG
abbrev wsX4_sum : List Cond := .code yX4_sum cX4_sum 7 (some .int) :: wsG
abbrev wsX4_seal : List Cond := .code yX4_seal cX4_seal 4 none :: wsG
abbrev wsX4_isSealed : List Cond := .code yX4_isSealed cX4_isSealed 5 (some .boolean) :: wsG
abbrev wsX4_build : List Cond := .code yX4_build cX4_build 5 none :: wsG
abbrev wsX4_read : List Cond := .code yX4_read cX4_read 6 (some .long) :: wsG
abbrev wsX4_small : List Cond := .code yX4_small cX4_small 3 (some .long) :: wsG
abbrev wsX4_isIndex : List Cond := .code yX4_isIndex cX4_isIndex 14 (some .boolean) :: wsG
abbrev wsX4_isBlock : List Cond := .code yX4_isBlock cX4_isBlock 6 (some .boolean) :: wsG
abbrev wsX4_add : List Cond := .code yX4_add cX4_add 4 (some .int) :: wsG
abbrev wsX4_write : List Cond := .code yX4_write cX4_write 1 (some .int) :: wsG
abbrev wsX4_isByte : List Cond := .code yX4_isByte cX4_isByte 2 (some .boolean) :: wsG
abbrev wsX4_at : List Cond := .code yX4_at cX4_at 2 (some .int) :: wsG
abbrev wsX4_damage : List Cond := .code yX4_damage cX4_damage 4 (some .int) :: wsG
abbrev wsX4_cut : List Cond := .code yX4_cut cX4_cut 2 none :: wsG
abbrev wsX4_open : List Cond := .code yX4_open cX4_open 1 (some .int) :: wsG
abbrev wsX4_get : List Cond := .code yX4_get cX4_get 4 (some .long) :: wsG
abbrev wsX4_isThere : List Cond := .code yX4_isThere cX4_isThere 2 (some .boolean) :: wsG
abbrev wsX4_entries : List Cond := .code yX4_entries cX4_entries 2 (some .int) :: wsG
abbrev wsX4_key : List Cond := .code yX4_key cX4_key 3 (some .int) :: wsG
abbrev wsX4_size : List Cond := .code yX4_size cX4_size 1 (some .int) :: wsG
/-! the class's world: the cells ad 0 .. ad 9; ca: the array classes of int, long, byte -/
abbrev xw (ad : Nat → Nat) (ca : Nat → ClassId) (kf : Nat → Int32) (vf : Nat → Int64) (bf : Nat → Int32) (w op ln nx en ok : Int32) (tf : Nat → Int32) (nb : Int32) (ef ff : Nat → Int32) (fi ek : Int32) (ev : Int64) : va_W :=
  [(ad 0, .inr (3, [.ref (ad 1), .ref (ad 2), .ref (ad 3), .ref (ad 4), .ref (ad 6), .ref (ad 9), .int w, .int op])), (ad 1, .inl (ca 0, 300, .inl kf)), (ad 2, .inl (ca 1, 300, .inr (.inl vf))), (ad 3, .inl (ca 0, 38, .inl bf)),
   (ad 4, .inr (2, [.ref (ad 5), .int ln, .int nx, .int en, .int ok])), (ad 5, .inl (ca 2, 4889, .inl tf)), (ad 6, .inr (1, [.ref (ad 7), .ref (ad 8), .int nb])), (ad 7, .inl (ca 0, 2444, .inl ef)), (ad 8, .inl (ca 0, 2444, .inl ff)),
   (ad 9, .inr (0, [.int fi, .int ek, .long ev]))]
abbrev xt (ca : Nat → ClassId) : List (ClassId × FieldType) := [(ca 0, .int), (ca 1, .long), (ca 2, .byte)]
end
section
/-! Table (rows by wip/whole/wtab.py) -/
set_option maxHeartbeats 4000000 in
set_option maxRecDepth 100000 in
theorem cX2_byteAt_m (l : Launch) (dC : Nat → ClassId) (dI : Nat → Nat → Nat) (ca : Nat → ClassId) (ad : Nat → Nat) (kf : Nat → Int32) (vf : Nat → Int64) (bf : Nat → Int32) (w : Int32) (op : Int32) (ln : Int32) (nx : Int32) (en : Int32) (ok : Int32) (tf : Nat → Int32) (nb : Int32) (ef : Nat → Int32) (ff : Nat → Int32) (fi : Int32) (ek : Int32) (ev : Int64) (j : Nat) (hj : j < 4889) : ∀ sz : Nat, Met l yX2_byteAt wsX2_byteAt ({ frames := 0, cells := 0, slots := 0, locals := 0 } : Room) (va_Pc [.ref (ad 4), .int (nI j)] (xP (dC, dI) (xt ca) (xw ad ca kf vf bf w op ln nx en ok tf nb ef ff fi ek ev) sz)) (va_Qi (S := Unit) (fun r _ => r = nI (pb_ub tf j)) (fun u t => xB (dC, dI) (xt ca) (va_A (xw ad ca kf vf bf w op ln nx en ok tf nb ef ff fi ek ev) sz) (xw ad ca kf vf bf w op ln nx en ok tf nb ef ff fi ek ev) t) (va_A (xw ad ca kf vf bf w op ln nx en ok tf nb ef ff fi ek ev) sz)) 0 0 (va_A (xw ad ca kf vf bf w op ln nx en ok tf nb ef ff fi ek ev) sz) := by
  intro sz
  refine Met.ofW (cc := cX2_byteAt) (maxL := 2) (ret := (some .int)) (by decide) rfl ?_
  intro p e s m args below meth c s₁ B hml hv
  obtain ⟨rfl, hsz, hP, hK, hD0, hE⟩ := hv
  have hx := B.exec
  have hb := B.bytes
  have hr := B.returns
  have hts := atoms_spec (ws := wsX2_byteAt) B.pre
  have hown : s.vm.findClass RX2 = some m.cls := findClass_of_methodNamed B.named
  have hlocks := B.notSynchronized
  subst hsz
  have hD := hD0.self (sz := s.heap.size)
  generalize hAe : va_A (xw ad ca kf vf bf w op ln nx en ok tf nb ef ff fi ek ev) s.heap.size = A at hD hE ⊢
  have hA : ∀ q : Nat, s.heap.size ≤ q → A q := fun q h => by rw [← hAe]; exact Or.inr h
  have hS : va_S A s.heap s.heap [] := va_S.rf
  have hl := lv_entry ([.ref (ad 4), .int (nI j)]) (n := 2) (Nat.le_of_ble_eq_true rfl)
  rw [lg_entry_eq]
  generalize (lg_sl ([.ref (ad 4), .int (nI j)]) ++ List.replicate (2 - (lg_sl ([.ref (ad 4), .int (nI j)])).length) Slot.unset).toArray = ls at hl ⊢
  have hl : lv_has ls 2 [(0, .ref (ad 4)), (1, .int (nI j))] := hl
  refine lv_aload_n hx hb dX2_byteAt_0 rfl (lv_at hl 0 rfl) ?_
  refine va_get (D := (dC, dI)) (ci := 2) (v := .ref (ad 5)) (C := RX2) (T := TX2) (N := 5) (ref := "SortedRun$Table") hx hb hts (xg_u mb_uws_X2) hown hK hP 4 rfl rfl 0 (by decide) (xg_w hts mb_fieldLink_RX2_9) (fun _ h9 => h9) rfl dX2_byteAt_1 ?_
  refine lv_iload_n hx hb dX2_byteAt_4 rfl (lv_at hl 1 rfl) ?_
  refine va_bald hx hb hK hP 5 2 rfl rfl (vp_in_nI hj (by decide)) dX2_byteAt_5 ?_
  refine lv_topi (fun z1 ez1 => ?_)
  have ez1 : z1 = tf j := ez1.trans (congrArg tf (nI_clamp (by omega)))
  subst ez1
  refine lv_sipush (v := 255) hx hb dX2_byteAt_6 (by decide) ?_
  refine lv_iand hx hb dX2_byteAt_9 ?_
  refine lv_topi (fun z2 ez2 => ?_)
  have ez2 : z2 = nI (pb_ub tf j) := ez2.trans (pb_and tf j)
  subst ez2
  have hP9 := hP
  have hD9 := hD
  exact W.iret (v := nI (pb_ub tf j)) hx hb hr (fun t ht hW => ⟨⟨nI (pb_ub tf j), (), rfl, rfl, by rw [ht]; exact hP9, va_K.moved hW.alike hK, hD9⟩, hS.F ht⟩) hS.2.2 dX2_byteAt_10

set_option maxHeartbeats 4000000 in
set_option maxRecDepth 100000 in
theorem cX2_append_m (l : Launch) (dC : Nat → ClassId) (dI : Nat → Nat → Nat) (ca : Nat → ClassId) (ad : Nat → Nat) (kf : Nat → Int32) (vf : Nat → Int64) (bf : Nat → Int32) (w : Int32) (op : Int32) (nx : Int32) (en : Int32) (ok : Int32) (tf : Nat → Int32) (nb : Int32) (ef : Nat → Int32) (ff : Nat → Int32) (fi : Int32) (ek : Int32) (ev : Int64) (L : Nat) (v : Int32) (hL : L < 4889) : ∀ sz : Nat, Met l yX2_append wsX2_append ({ frames := 0, cells := 0, slots := 0, locals := 0 } : Room) (va_Pc [.ref (ad 4), .int v] (xP (dC, dI) (xt ca) (xw ad ca kf vf bf w op (nI L) nx en ok tf nb ef ff fi ek ev) sz)) (va_Qv (S := Unit) (fun _ => True) (fun u t => xB (dC, dI) (xt ca) (va_A (xw ad ca kf vf bf w op (nI L) nx en ok tf nb ef ff fi ek ev) sz) (xw ad ca kf vf bf w op (nI (L + 1)) nx en ok (upd tf L v.toInt8.toInt32) nb ef ff fi ek ev) t) (va_A (xw ad ca kf vf bf w op (nI L) nx en ok tf nb ef ff fi ek ev) sz)) 0 0 (va_A (xw ad ca kf vf bf w op (nI L) nx en ok tf nb ef ff fi ek ev) sz) := by
  intro sz
  refine Met.ofW (cc := cX2_append) (maxL := 2) (ret := none) (by decide) rfl ?_
  intro p e s m args below meth c s₁ B hml hv
  obtain ⟨rfl, hsz, hP, hK, hD0, hE⟩ := hv
  have hx := B.exec
  have hb := B.bytes
  have hr := B.returns
  have hts := atoms_spec (ws := wsX2_append) B.pre
  have hown : s.vm.findClass RX2 = some m.cls := findClass_of_methodNamed B.named
  have hlocks := B.notSynchronized
  subst hsz
  have hD := hD0.self (sz := s.heap.size)
  generalize hAe : va_A (xw ad ca kf vf bf w op (nI L) nx en ok tf nb ef ff fi ek ev) s.heap.size = A at hD hE ⊢
  have hA : ∀ q : Nat, s.heap.size ≤ q → A q := fun q h => by rw [← hAe]; exact Or.inr h
  have hS : va_S A s.heap s.heap [] := va_S.rf
  have hl := lv_entry ([.ref (ad 4), .int v]) (n := 2) (Nat.le_of_ble_eq_true rfl)
  rw [lg_entry_eq]
  generalize (lg_sl ([.ref (ad 4), .int v]) ++ List.replicate (2 - (lg_sl ([.ref (ad 4), .int v])).length) Slot.unset).toArray = ls at hl ⊢
  have hl : lv_has ls 2 [(0, .ref (ad 4)), (1, .int v)] := hl
  refine lv_aload_n hx hb dX2_append_0 rfl (lv_at hl 0 rfl) ?_
  refine va_get (D := (dC, dI)) (ci := 2) (v := .ref (ad 5)) (C := RX2) (T := TX2) (N := 5) (ref := "SortedRun$Table") hx hb hts (xg_u mb_uws_X2) hown hK hP 4 rfl rfl 0 (by decide) (xg_w hts mb_fieldLink_RX2_9) (fun _ h9 => h9) rfl dX2_append_1 ?_
  refine lv_aload_n hx hb dX2_append_4 rfl (lv_at hl 0 rfl) ?_
  refine va_get (D := (dC, dI)) (ci := 2) (v := .int (nI L)) (C := RX2) (T := TX2) (N := 5) (ref := "SortedRun$Table") hx hb hts (xg_u mb_uws_X2) hown hK hP 4 rfl rfl 1 (by decide) (xg_w hts mb_fieldLink_RX2_15) (fun _ h9 => h9) rfl dX2_append_5 ?_
  refine lv_iload_n hx hb dX2_append_8 rfl (lv_at hl 1 rfl) ?_
  refine lv_i2b (v := v.toInt8.toInt32) hx hb dX2_append_9 (rfl) ?_
  refine va_bast hx hb hK hP hD hS 5 2 rfl rfl (vp_in_nI hL (by decide)) dX2_append_10 (fun H locs hP hD hS => ?_)
  have e9 : upd tf (nI L).toNatClampNeg (vp_nar .byte v.toInt8.toInt32) = upd tf L v.toInt8.toInt32 := by rw [nI_clamp (by omega), pk_vb]
  rw [e9] at hP hD
  clear e9
  have hP : va_P (dC, dI) vwCl (xw ad ca kf vf bf w op (nI L) nx en ok (upd tf L v.toInt8.toInt32) nb ef ff fi ek ev) H := hP
  have hD : va_D A (xw ad ca kf vf bf w op (nI L) nx en ok (upd tf L v.toInt8.toInt32) nb ef ff fi ek ev) := hD
  refine lv_aload_n hx hb dX2_append_11 rfl (lv_at hl 0 rfl) ?_
  refine lv_dup hx hb dX2_append_12 rfl ?_
  refine va_get (D := (dC, dI)) (ci := 2) (v := .int (nI L)) (C := RX2) (T := TX2) (N := 5) (ref := "SortedRun$Table") hx hb hts (xg_u mb_uws_X2) hown hK hP 4 rfl rfl 1 (by decide) (xg_w hts mb_fieldLink_RX2_15) (fun _ h9 => h9) rfl dX2_append_13 ?_
  refine lv_iconst (v := 1) hx hb dX2_append_16 (by decide) ?_
  refine lv_iadd hx hb dX2_append_17 ?_
  refine lv_topi (fun z1 ez1 => ?_)
  have ez1 : z1 = nI (L + 1) := ez1.trans (nI_1 L)
  subst ez1
  refine va_put (D := (dC, dI)) (ci := 2) (v := .int (nI (L + 1))) (ty := .int) (C := RX2) (T := TX2) (N := 5) (ref := "SortedRun$Table") hx hb hts (xg_u mb_uws_X2) tyX2 tyX2_ok nmX2 hown hK hP hD hS 4 rfl rfl 1 (by decide) (xg_w hts mb_fieldLink_RX2_15) (fun _ h9 => h9) rfl (by decide +kernel) rfl rfl (Nat.le_of_ble_eq_true rfl) dX2_append_18 (fun H locs hP hD hS => ?_)
  have hP : va_P (dC, dI) vwCl (xw ad ca kf vf bf w op (nI (L + 1)) nx en ok (upd tf L v.toInt8.toInt32) nb ef ff fi ek ev) H := hP
  have hD : va_D A (xw ad ca kf vf bf w op (nI (L + 1)) nx en ok (upd tf L v.toInt8.toInt32) nb ef ff fi ek ev) := hD
  have hP9 := hP
  have hD9 := hD
  exact W.vret hx hb hr (fun t ht hW => ⟨⟨(), rfl, trivial, by rw [ht]; exact hP9, va_K.moved hW.alike hK, hD9⟩, hS.F ht⟩) hS.2.2 dX2_append_21

set_option maxHeartbeats 4000000 in
set_option maxRecDepth 100000 in
theorem cX2_startReading_m (l : Launch) (dC : Nat → ClassId) (dI : Nat → Nat → Nat) (ca : Nat → ClassId) (ad : Nat → Nat) (kf : Nat → Int32) (vf : Nat → Int64) (bf : Nat → Int32) (w : Int32) (op : Int32) (ln : Int32) (nx : Int32) (en : Int32) (ok : Int32) (tf : Nat → Int32) (nb : Int32) (ef : Nat → Int32) (ff : Nat → Int32) (fi : Int32) (ek : Int32) (ev : Int64) (x y : Int32) : ∀ sz : Nat, Met l yX2_startReading wsX2_startReading ({ frames := 0, cells := 0, slots := 0, locals := 0 } : Room) (va_Pc [.ref (ad 4), .int x, .int y] (xP (dC, dI) (xt ca) (xw ad ca kf vf bf w op ln nx en ok tf nb ef ff fi ek ev) sz)) (va_Qv (S := Unit) (fun _ => True) (fun u t => xB (dC, dI) (xt ca) (va_A (xw ad ca kf vf bf w op ln nx en ok tf nb ef ff fi ek ev) sz) (xw ad ca kf vf bf w op ln x y 1 tf nb ef ff fi ek ev) t) (va_A (xw ad ca kf vf bf w op ln nx en ok tf nb ef ff fi ek ev) sz)) 0 0 (va_A (xw ad ca kf vf bf w op ln nx en ok tf nb ef ff fi ek ev) sz) := by
  intro sz
  refine Met.ofW (cc := cX2_startReading) (maxL := 3) (ret := none) (by decide) rfl ?_
  intro p e s m args below meth c s₁ B hml hv
  obtain ⟨rfl, hsz, hP, hK, hD0, hE⟩ := hv
  have hx := B.exec
  have hb := B.bytes
  have hr := B.returns
  have hts := atoms_spec (ws := wsX2_startReading) B.pre
  have hown : s.vm.findClass RX2 = some m.cls := findClass_of_methodNamed B.named
  have hlocks := B.notSynchronized
  subst hsz
  have hD := hD0.self (sz := s.heap.size)
  generalize hAe : va_A (xw ad ca kf vf bf w op ln nx en ok tf nb ef ff fi ek ev) s.heap.size = A at hD hE ⊢
  have hA : ∀ q : Nat, s.heap.size ≤ q → A q := fun q h => by rw [← hAe]; exact Or.inr h
  have hS : va_S A s.heap s.heap [] := va_S.rf
  have hl := lv_entry ([.ref (ad 4), .int x, .int y]) (n := 3) (Nat.le_of_ble_eq_true rfl)
  rw [lg_entry_eq]
  generalize (lg_sl ([.ref (ad 4), .int x, .int y]) ++ List.replicate (3 - (lg_sl ([.ref (ad 4), .int x, .int y])).length) Slot.unset).toArray = ls at hl ⊢
  have hl : lv_has ls 3 [(0, .ref (ad 4)), (1, .int x), (2, .int y)] := hl
  refine lv_aload_n hx hb dX2_startReading_0 rfl (lv_at hl 0 rfl) ?_
  refine lv_iload_n hx hb dX2_startReading_1 rfl (lv_at hl 1 rfl) ?_
  refine va_put (D := (dC, dI)) (ci := 2) (v := .int x) (ty := .int) (C := RX2) (T := TX2) (N := 5) (ref := "SortedRun$Table") hx hb hts (xg_u mb_uws_X2) tyX2 tyX2_ok nmX2 hown hK hP hD hS 4 rfl rfl 2 (by decide) (xg_w hts mb_fieldLink_RX2_37) (fun _ h9 => h9) rfl (by decide +kernel) rfl rfl (Nat.le_of_ble_eq_true rfl) dX2_startReading_2 (fun H locs hP hD hS => ?_)
  have hP : va_P (dC, dI) vwCl (xw ad ca kf vf bf w op ln x en ok tf nb ef ff fi ek ev) H := hP
  have hD : va_D A (xw ad ca kf vf bf w op ln x en ok tf nb ef ff fi ek ev) := hD
  refine lv_aload_n hx hb dX2_startReading_5 rfl (lv_at hl 0 rfl) ?_
  refine lv_iload_n hx hb dX2_startReading_6 rfl (lv_at hl 2 rfl) ?_
  refine va_put (D := (dC, dI)) (ci := 2) (v := .int y) (ty := .int) (C := RX2) (T := TX2) (N := 5) (ref := "SortedRun$Table") hx hb hts (xg_u mb_uws_X2) tyX2 tyX2_ok nmX2 hown hK hP hD hS 4 rfl rfl 3 (by decide) (xg_w hts mb_fieldLink_RX2_40) (fun _ h9 => h9) rfl (by decide +kernel) rfl rfl (Nat.le_of_ble_eq_true rfl) dX2_startReading_7 (fun H locs hP hD hS => ?_)
  have hP : va_P (dC, dI) vwCl (xw ad ca kf vf bf w op ln x y ok tf nb ef ff fi ek ev) H := hP
  have hD : va_D A (xw ad ca kf vf bf w op ln x y ok tf nb ef ff fi ek ev) := hD
  refine lv_aload_n hx hb dX2_startReading_10 rfl (lv_at hl 0 rfl) ?_
  refine lv_iconst (v := 1) hx hb dX2_startReading_11 (by decide) ?_
  refine va_put (D := (dC, dI)) (ci := 2) (v := .int 1) (ty := .boolean) (C := RX2) (T := TX2) (N := 5) (ref := "SortedRun$Table") hx hb hts (xg_u mb_uws_X2) tyX2 tyX2_ok nmX2 hown hK hP hD hS 4 rfl rfl 4 (by decide) (xg_w hts mb_fieldLink_RX2_43) (fun _ h9 => h9) rfl (by decide +kernel) rfl rfl (Nat.le_of_ble_eq_true rfl) dX2_startReading_12 (fun H locs hP hD hS => ?_)
  have hP : va_P (dC, dI) vwCl (xw ad ca kf vf bf w op ln x y 1 tf nb ef ff fi ek ev) H := hP
  have hD : va_D A (xw ad ca kf vf bf w op ln x y 1 tf nb ef ff fi ek ev) := hD
  have hP9 := hP
  have hD9 := hD
  exact W.vret hx hb hr (fun t ht hW => ⟨⟨(), rfl, trivial, by rw [ht]; exact hP9, va_K.moved hW.alike hK, hD9⟩, hS.F ht⟩) hS.2.2 dX2_startReading_15

set_option maxHeartbeats 4000000 in
set_option maxRecDepth 100000 in
theorem cX2_isReadToEnd_m (l : Launch) (dC : Nat → ClassId) (dI : Nat → Nat → Nat) (ca : Nat → ClassId) (ad : Nat → Nat) (kf : Nat → Int32) (vf : Nat → Int64) (bf : Nat → Int32) (w : Int32) (op : Int32) (ln : Int32) (nx : Int32) (en : Int32) (ok : Int32) (tf : Nat → Int32) (nb : Int32) (ef : Nat → Int32) (ff : Nat → Int32) (fi : Int32) (ek : Int32) (ev : Int64) : ∀ sz : Nat, Met l yX2_isReadToEnd wsX2_isReadToEnd ({ frames := 0, cells := 0, slots := 0, locals := 0 } : Room) (va_Pc [.ref (ad 4)] (xP (dC, dI) (xt ca) (xw ad ca kf vf bf w op ln nx en ok tf nb ef ff fi ek ev) sz)) (va_Qi (S := Unit) (fun r _ => (r = 1 ∧ en ≤ nx) ∨ (r = 0 ∧ ¬ en ≤ nx)) (fun u t => xB (dC, dI) (xt ca) (va_A (xw ad ca kf vf bf w op ln nx en ok tf nb ef ff fi ek ev) sz) (xw ad ca kf vf bf w op ln nx en ok tf nb ef ff fi ek ev) t) (va_A (xw ad ca kf vf bf w op ln nx en ok tf nb ef ff fi ek ev) sz)) 0 0 (va_A (xw ad ca kf vf bf w op ln nx en ok tf nb ef ff fi ek ev) sz) := by
  intro sz
  refine Met.ofW (cc := cX2_isReadToEnd) (maxL := 1) (ret := (some .boolean)) (by decide) rfl ?_
  intro p e s m args below meth c s₁ B hml hv
  obtain ⟨rfl, hsz, hP, hK, hD0, hE⟩ := hv
  have hx := B.exec
  have hb := B.bytes
  have hr := B.returns
  have hts := atoms_spec (ws := wsX2_isReadToEnd) B.pre
  have hown : s.vm.findClass RX2 = some m.cls := findClass_of_methodNamed B.named
  have hlocks := B.notSynchronized
  subst hsz
  have hD := hD0.self (sz := s.heap.size)
  generalize hAe : va_A (xw ad ca kf vf bf w op ln nx en ok tf nb ef ff fi ek ev) s.heap.size = A at hD hE ⊢
  have hA : ∀ q : Nat, s.heap.size ≤ q → A q := fun q h => by rw [← hAe]; exact Or.inr h
  have hS : va_S A s.heap s.heap [] := va_S.rf
  have hl := lv_entry ([.ref (ad 4)]) (n := 1) (Nat.le_of_ble_eq_true rfl)
  rw [lg_entry_eq]
  generalize (lg_sl ([.ref (ad 4)]) ++ List.replicate (1 - (lg_sl ([.ref (ad 4)])).length) Slot.unset).toArray = ls at hl ⊢
  have hl : lv_has ls 1 [(0, .ref (ad 4))] := hl
  refine lv_aload_n hx hb dX2_isReadToEnd_0 rfl (lv_at hl 0 rfl) ?_
  refine va_get (D := (dC, dI)) (ci := 2) (v := .int nx) (C := RX2) (T := TX2) (N := 5) (ref := "SortedRun$Table") hx hb hts (xg_u mb_uws_X2) hown hK hP 4 rfl rfl 2 (by decide) (xg_w hts mb_fieldLink_RX2_37) (fun _ h9 => h9) rfl dX2_isReadToEnd_1 ?_
  refine lv_aload_n hx hb dX2_isReadToEnd_4 rfl (lv_at hl 0 rfl) ?_
  refine va_get (D := (dC, dI)) (ci := 2) (v := .int en) (C := RX2) (T := TX2) (N := 5) (ref := "SortedRun$Table") hx hb hts (xg_u mb_uws_X2) hown hK hP 4 rfl rfl 3 (by decide) (xg_w hts mb_fieldLink_RX2_40) (fun _ h9 => h9) rfl dX2_isReadToEnd_5 ?_
  refine lv_icmp_lt (tgt := 15) hx hb dX2_isReadToEnd_8 rfl (fun hc => ?_) (fun hc => ?_)
  · refine lv_iconst (v := 0) hx hb dX2_isReadToEnd_15 (by decide) ?_
    have hP9 := hP
    have hD9 := hD
    exact W.zret (v := 0) hx hb hr (by rfl) (fun t ht hW => ⟨⟨0, (), rfl, Or.inr ⟨rfl, Int32.not_le.mpr hc⟩, by rw [ht]; exact hP9, va_K.moved hW.alike hK, hD9⟩, hS.F ht⟩) hS.2.2 dX2_isReadToEnd_16
  · refine lv_iconst (v := 1) hx hb dX2_isReadToEnd_11 (by decide) ?_
    refine lv_goto (tgt := 16) hx hb dX2_isReadToEnd_12 rfl ?_
    have hP9 := hP
    have hD9 := hD
    exact W.zret (v := 1) hx hb hr (by rfl) (fun t ht hW => ⟨⟨1, (), rfl, Or.inl ⟨rfl, Int32.not_lt.mp hc⟩, by rw [ht]; exact hP9, va_K.moved hW.alike hK, hD9⟩, hS.F ht⟩) hS.2.2 dX2_isReadToEnd_16

set_option maxHeartbeats 4000000 in
set_option maxRecDepth 100000 in
theorem lpX2_appendNumber_lay {p : Program} {l : Launch} {e : Env} {s : State} {m : MethodId} {args : Array Value} {below : List Frame} {meth : Method} {c : Code} {Q : State → Prop} {A : Nat → Prop} {dC : Nat → ClassId} {dI : Nat → Nat → Nat} {ca : Nat → ClassId} {ad : Nat → Nat} (hx : p.tables.exec = Jvm.exec) (hb : c.code = cX2_appendNumber) (hml : c.maxLocals = 6) (hown : s.vm.findClass RX2 = some m.cls) (hts : ∀ w ∈ wsX2_appendNumber, w.before args s = true) (hK : va_K (dC, dI) vwCl (xt ca) s) (hA : ∀ q : Nat, s.heap.size ≤ q → A q) (hE : xn_E A s) {kf : Nat → Int32} {vf : Nat → Int64} {bf : Nat → Int32} {w : Int32} {op : Int32} {nx : Int32} {en : Int32} {ok : Int32} {nb : Int32} {ef : Nat → Int32} {ff : Nat → Int32} {fi : Int32} {ek : Int32} {ev : Int64} {x : Int64} : ∀ (k : Nat) (L n : Nat) (tf : Nat → Int32) (H : Heap) (locs : List Loc) (ls : Array Slot), k ≤ 9 → n < 2 ^ 64 → L + pl_n k n ≤ 4889 → lv_has ls 6 [(5, .int (nI (10 - k))), (3, .long (lN n)), (0, .ref (ad 4)), (1, .long x)] → va_P (dC, dI) vwCl (xw ad ca kf vf bf w op (nI L) nx en ok tf nb ef ff fi ek ev) H → va_D A (xw ad ca kf vf bf w op (nI L) nx en ok tf nb ef ff fi ek ev) → va_S A s.heap H locs → (∀ (H : Heap) (locs : List Loc) (ls : Array Slot), va_P (dC, dI) vwCl (xw ad ca kf vf bf w op (nI (L + pl_n k n)) nx en ok (pl_f tf k L n) nb ef ff fi ek ev) H → va_D A (xw ad ca kf vf bf w op (nI (L + pl_n k n)) nx en ok (pl_f tf k L n) nb ef ff fi ek ev) → va_S A s.heap H locs → W p l e ({ frames := 1, cells := 0, slots := 0, locals := 21 } : Room) s m args below meth c H locs 0 0 Q (F0 m 52 ls [])) → W p l e ({ frames := 1, cells := 0, slots := 0, locals := 21 } : Room) s m args below meth c H locs 0 0 Q (F0 m 5 ls []) := by
  intro k
  induction k with
  | zero =>
    intro L n tf H locs ls hk hn hL hl hP hD hS kk
    have hl : lv_has ls 6 [(5, .int (nI (10 - 0))), (3, .long (lN n)), (0, .ref (ad 4)), (1, .long x)] := hl
    have hL1 : L + 1 ≤ 4889 := hL
    refine lv_iload hx hb dX2_appendNumber_5 (lv_at hl 0 rfl) ?_
    refine lv_bipush (v := nI 10) hx hb dX2_appendNumber_7 (by decide) ?_
    refine lv_icmp_ge (tgt := 46) hx hb dX2_appendNumber_9 rfl (fun hc => ?_) (fun hc => absurd hc (not_not_intro (by decide)))
    refine lv_aload_n hx hb dX2_appendNumber_46 rfl (lv_at hl 2 rfl) ?_
    refine lv_lload_n hx hb dX2_appendNumber_47 rfl (lv_at hl 1 rfl) ?_
    refine lv_l2i (v := nI n) hx hb dX2_appendNumber_48 (lN_i n) ?_
    refine xk_v (va_runV (As := [.int (nI n)]) (rest := []) ⟨hx, hb, hml, hown, hts⟩ (cX2_append_m l dC dI ca ad kf vf bf w op nx en ok tf nb ef ff fi ek ev L (nI n) (by omega) _) (cwV 1 hts (xg_V mb_methodLink_RX2_21 mb_instanceMethod_yX2_append mb_selects_yX2_append mb_initialized_RX2 mb_code_yX2_append) rfl rfl rfl ⟨rfl, by decide, by decide, by decide +kernel⟩ ⟨Nat.le_of_ble_eq_true rfl, Nat.le_of_ble_eq_true rfl⟩) (xpreV (va_recv (q0 := 4) hK hP rfl rfl) hK hP hD hS hA hE) rfl rfl hl.1 rfl (lv_room (Nat.le_of_ble_eq_true rfl)) dX2_appendNumber_49 ⟨Nat.le_of_ble_eq_true rfl, Nat.le_of_ble_eq_true rfl⟩) hD hS hA (fun u H locs hu hP hD hS => ?_)
    have hP : va_P (dC, dI) vwCl (xw ad ca kf vf bf w op (nI (L + 1)) nx en ok (upd tf L (sb_b n)) nb ef ff fi ek ev) H := hP
    have hD : va_D A (xw ad ca kf vf bf w op (nI (L + 1)) nx en ok (upd tf L (sb_b n)) nb ef ff fi ek ev) := hD
    have e1 : pl_n 0 n = 1 := rfl
    have e2 : pl_f tf 0 L n = upd tf L (sb_b n) := rfl
    rw [e1, e2] at kk
    exact kk H locs ls hP hD hS
  | succ k ih =>
    intro L n tf H locs ls hk hn hL hl hP hD hS kk
    have hl : lv_has ls 6 [(5, .int (nI (10 - (k + 1)))), (3, .long (lN n)), (0, .ref (ad 4)), (1, .long x)] := hl
    have hL1 : L + 1 ≤ 4889 := Nat.le_trans (Nat.add_le_add_left (pl_n_pos _ _) L) hL
    refine lv_iload hx hb dX2_appendNumber_5 (lv_at hl 0 rfl) ?_
    refine lv_bipush (v := nI 10) hx hb dX2_appendNumber_7 (by decide) ?_
    refine lv_icmp_ge (tgt := 46) hx hb dX2_appendNumber_9 rfl (fun hc => absurd hc (by rw [nI_leI (by decide) (by omega)]; omega)) (fun hc => ?_)
    refine lv_lload_n hx hb dX2_appendNumber_12 rfl (lv_at hl 1 rfl) ?_
    refine lv_bipush (v := nI 7) hx hb dX2_appendNumber_13 (by decide) ?_
    refine lv_lushr (v := lN (n / 128)) hx hb dX2_appendNumber_15 (wb_shr (k := 7) hn (by decide)) ?_
    refine lv_lconst (v := lN 0) hx hb dX2_appendNumber_16 (by decide) ?_
    refine W.lcmp hx hb dX2_appendNumber_17 ?_
    refine lv_if_eq (tgt := 46) hx hb dX2_appendNumber_18 rfl (fun hc => ?_) (fun hc => ?_)
    · have hn1 : n / 128 = 0 := (pk_lEQ (by omega) (by decide)).mp (lc_eq.mp hc)
      refine lv_aload_n hx hb dX2_appendNumber_46 rfl (lv_at hl 2 rfl) ?_
      refine lv_lload_n hx hb dX2_appendNumber_47 rfl (lv_at hl 1 rfl) ?_
      refine lv_l2i (v := nI n) hx hb dX2_appendNumber_48 (lN_i n) ?_
      refine xk_v (va_runV (As := [.int (nI n)]) (rest := []) ⟨hx, hb, hml, hown, hts⟩ (cX2_append_m l dC dI ca ad kf vf bf w op nx en ok tf nb ef ff fi ek ev L (nI n) (by omega) _) (cwV 1 hts (xg_V mb_methodLink_RX2_21 mb_instanceMethod_yX2_append mb_selects_yX2_append mb_initialized_RX2 mb_code_yX2_append) rfl rfl rfl ⟨rfl, by decide, by decide, by decide +kernel⟩ ⟨Nat.le_of_ble_eq_true rfl, Nat.le_of_ble_eq_true rfl⟩) (xpreV (va_recv (q0 := 4) hK hP rfl rfl) hK hP hD hS hA hE) rfl rfl hl.1 rfl (lv_room (Nat.le_of_ble_eq_true rfl)) dX2_appendNumber_49 ⟨Nat.le_of_ble_eq_true rfl, Nat.le_of_ble_eq_true rfl⟩) hD hS hA (fun u H locs hu hP hD hS => ?_)
      have hP : va_P (dC, dI) vwCl (xw ad ca kf vf bf w op (nI (L + 1)) nx en ok (upd tf L (sb_b n)) nb ef ff fi ek ev) H := hP
      have hD : va_D A (xw ad ca kf vf bf w op (nI (L + 1)) nx en ok (upd tf L (sb_b n)) nb ef ff fi ek ev) := hD
      have e1 : pl_n (k + 1) n = 1 := by unfold pl_n; rw [if_neg (by omega)]
      have e2 : pl_f tf (k + 1) L n = upd tf L (sb_b n) := by unfold pl_f; rw [if_neg (by omega)]
      rw [e1, e2] at kk
      exact kk H locs ls hP hD hS
    · have hn1 : ¬ n / 128 = 0 := fun z => hc (lc_eq.mpr (congrArg lN z))
      have e1 : pl_n (k + 1) n = pl_n k (n / 128) + 1 := by conv => lhs; unfold pl_n; rw [if_pos (by omega : 128 ≤ n)]
      have e2 : pl_f tf (k + 1) L n = pl_f (upd tf L (sb_b (n % 128 + 128))) k (L + 1) (n / 128) := by conv => lhs; unfold pl_f; rw [if_pos (by omega : 128 ≤ n)]
      rw [e1] at hL
      rw [e1, e2] at kk
      refine lv_aload_n hx hb dX2_appendNumber_21 rfl (lv_at hl 2 rfl) ?_
      refine lv_lload_n hx hb dX2_appendNumber_22 rfl (lv_at hl 1 rfl) ?_
      refine lv_ldc2 (v := lN 127) hx hb hown (xg_w hts mb_constantLong_RX2_19) dX2_appendNumber_23 ?_
      refine lv_land hx hb dX2_appendNumber_26 ?_
      refine lv_topl (fun z1 ez1 => ?_)
      have ez1 : z1 = lN (n % 128) := ez1.trans (wb_mask (k := 7) hn (by decide))
      subst ez1
      refine lv_l2i (v := nI (n % 128)) hx hb dX2_appendNumber_27 (lN_i _) ?_
      refine lv_sipush (v := nI 128) hx hb dX2_appendNumber_28 (by decide) ?_
      refine lv_iadd hx hb dX2_appendNumber_31 ?_
      refine lv_topi (fun z2 ez2 => ?_)
      have ez2 : z2 = nI (n % 128 + 128) := ez2.trans (nI_add _ _)
      subst ez2
      refine xk_v (va_runV (As := [.int (nI (n % 128 + 128))]) (rest := []) ⟨hx, hb, hml, hown, hts⟩ (cX2_append_m l dC dI ca ad kf vf bf w op nx en ok tf nb ef ff fi ek ev L (nI (n % 128 + 128)) (by omega) _) (cwV 1 hts (xg_V mb_methodLink_RX2_21 mb_instanceMethod_yX2_append mb_selects_yX2_append mb_initialized_RX2 mb_code_yX2_append) rfl rfl rfl ⟨rfl, by decide, by decide, by decide +kernel⟩ ⟨Nat.le_of_ble_eq_true rfl, Nat.le_of_ble_eq_true rfl⟩) (xpreV (va_recv (q0 := 4) hK hP rfl rfl) hK hP hD hS hA hE) rfl rfl hl.1 rfl (lv_room (Nat.le_of_ble_eq_true rfl)) dX2_appendNumber_32 ⟨Nat.le_of_ble_eq_true rfl, Nat.le_of_ble_eq_true rfl⟩) hD hS hA (fun u H locs hu hP hD hS => ?_)
      have hP : va_P (dC, dI) vwCl (xw ad ca kf vf bf w op (nI (L + 1)) nx en ok (upd tf L (sb_b (n % 128 + 128))) nb ef ff fi ek ev) H := hP
      have hD : va_D A (xw ad ca kf vf bf w op (nI (L + 1)) nx en ok (upd tf L (sb_b (n % 128 + 128))) nb ef ff fi ek ev) := hD
      refine lv_lload_n hx hb dX2_appendNumber_35 rfl (lv_at hl 1 rfl) ?_
      refine lv_bipush (v := nI 7) hx hb dX2_appendNumber_36 (by decide) ?_
      refine lv_lushr (v := lN (n / 128)) hx hb dX2_appendNumber_38 (wb_shr (k := 7) hn (by decide)) ?_
      refine lv_lstore_n hx hb dX2_appendNumber_39 rfl hl (by decide) rfl (fun ls hl => ?_)
      have hl : lv_has ls 6 [(3, .long (lN (n / 128))), (5, .int (nI (10 - (k + 1)))), (0, .ref (ad 4)), (1, .long x)] := hl
      refine lv_iinc (k := 1) (v := nI (10 - k)) hx hb dX2_appendNumber_40 hl rfl ((nI_1 _).trans (congrArg nI (by omega))) (by decide) rfl (fun ls hl => ?_)
      have hl : lv_has ls 6 [(5, .int (nI (10 - k))), (3, .long (lN (n / 128))), (0, .ref (ad 4)), (1, .long x)] := hl
      refine lv_goto (tgt := 5) hx hb dX2_appendNumber_43 rfl ?_
      refine ih (L + 1) (n / 128) _ _ _ _ (by omega) (by omega) (by omega) hl hP hD hS (fun H locs ls hP hD hS => ?_)
      rw [Nat.add_assoc, Nat.add_comm 1] at hP hD
      exact kk H locs ls hP hD hS

set_option maxHeartbeats 4000000 in
set_option maxRecDepth 100000 in
theorem cX2_appendNumber_m (l : Launch) (dC : Nat → ClassId) (dI : Nat → Nat → Nat) (ca : Nat → ClassId) (ad : Nat → Nat) (kf : Nat → Int32) (vf : Nat → Int64) (bf : Nat → Int32) (w : Int32) (op : Int32) (nx : Int32) (en : Int32) (ok : Int32) (tf : Nat → Int32) (nb : Int32) (ef : Nat → Int32) (ff : Nat → Int32) (fi : Int32) (ek : Int32) (ev : Int64) (L : Nat) (x : Int64) (hL : L + pl_n 9 x.toBitVec.toNat ≤ 4889) : ∀ sz : Nat, Met l yX2_appendNumber wsX2_appendNumber ({ frames := 1, cells := 0, slots := 0, locals := 21 } : Room) (va_Pc [.ref (ad 4), .long x] (xP (dC, dI) (xt ca) (xw ad ca kf vf bf w op (nI L) nx en ok tf nb ef ff fi ek ev) sz)) (va_Qv (S := Unit) (fun _ => True) (fun u t => xB (dC, dI) (xt ca) (va_A (xw ad ca kf vf bf w op (nI L) nx en ok tf nb ef ff fi ek ev) sz) (xw ad ca kf vf bf w op (nI (L + pl_n 9 x.toBitVec.toNat)) nx en ok (pl_f tf 9 L x.toBitVec.toNat) nb ef ff fi ek ev) t) (va_A (xw ad ca kf vf bf w op (nI L) nx en ok tf nb ef ff fi ek ev) sz)) 0 0 (va_A (xw ad ca kf vf bf w op (nI L) nx en ok tf nb ef ff fi ek ev) sz) := by
  intro sz
  refine Met.ofW (cc := cX2_appendNumber) (maxL := 6) (ret := none) (by decide) rfl ?_
  intro p e s m args below meth c s₁ B hml hv
  obtain ⟨rfl, hsz, hP, hK, hD0, hE⟩ := hv
  have hx := B.exec
  have hb := B.bytes
  have hr := B.returns
  have hts := atoms_spec (ws := wsX2_appendNumber) B.pre
  have hown : s.vm.findClass RX2 = some m.cls := findClass_of_methodNamed B.named
  have hlocks := B.notSynchronized
  subst hsz
  have hD := hD0.self (sz := s.heap.size)
  generalize hAe : va_A (xw ad ca kf vf bf w op (nI L) nx en ok tf nb ef ff fi ek ev) s.heap.size = A at hD hE ⊢
  have hA : ∀ q : Nat, s.heap.size ≤ q → A q := fun q h => by rw [← hAe]; exact Or.inr h
  have hS : va_S A s.heap s.heap [] := va_S.rf
  have hl := lv_entry ([.ref (ad 4), .long x]) (n := 6) (Nat.le_of_ble_eq_true rfl)
  rw [lg_entry_eq]
  generalize (lg_sl ([.ref (ad 4), .long x]) ++ List.replicate (6 - (lg_sl ([.ref (ad 4), .long x])).length) Slot.unset).toArray = ls at hl ⊢
  have hl : lv_has ls 6 [(0, .ref (ad 4)), (1, .long x)] := hl
  have ex : x = lN x.toBitVec.toNat := wb_inj (by rw [wb_tb]; simp)
  refine lv_lload_n hx hb dX2_appendNumber_0 rfl (lv_at hl 1 rfl) ?_
  refine lv_topl (fun z1 ez1 => ?_)
  have ez1 : z1 = lN x.toBitVec.toNat := ez1.trans (ex)
  subst ez1
  refine lv_lstore_n hx hb dX2_appendNumber_1 rfl hl (by decide) rfl (fun ls hl => ?_)
  have hl : lv_has ls 6 [(3, .long (lN x.toBitVec.toNat)), (0, .ref (ad 4)), (1, .long x)] := hl
  refine lv_iconst (v := nI (10 - 9)) hx hb dX2_appendNumber_2 (by decide) ?_
  refine lv_istore hx hb dX2_appendNumber_3 hl (by decide) rfl (fun ls hl => ?_)
  have hl : lv_has ls 6 [(5, .int (nI (10 - 9))), (3, .long (lN x.toBitVec.toNat)), (0, .ref (ad 4)), (1, .long x)] := hl
  refine lpX2_appendNumber_lay hx hb hml hown hts hK hA hE 9 L x.toBitVec.toNat tf _ _ _ (Nat.le_refl _) x.toBitVec.isLt hL hl hP hD hS (fun H locs ls hP hD hS => ?_)
  have hP9 := hP
  have hD9 := hD
  exact W.vret hx hb hr (fun t ht hW => ⟨⟨(), rfl, trivial, by rw [ht]; exact hP9, va_K.moved hW.alike hK, hD9⟩, hS.F ht⟩) hS.2.2 dX2_appendNumber_52

set_option maxHeartbeats 4000000 in
set_option maxRecDepth 100000 in
theorem lpX2_sumOf_go {p : Program} {l : Launch} {e : Env} {s : State} {m : MethodId} {args : Array Value} {below : List Frame} {meth : Method} {c : Code} {Q : State → Prop} {A : Nat → Prop} {dC : Nat → ClassId} {dI : Nat → Nat → Nat} {ca : Nat → ClassId} {ad : Nat → Nat} (hx : p.tables.exec = Jvm.exec) (hb : c.code = cX2_sumOf) (hml : c.maxLocals = 5) (hown : s.vm.findClass RX2 = some m.cls) (hts : ∀ w ∈ wsX2_sumOf, w.before args s = true) (hK : va_K (dC, dI) vwCl (xt ca) s) (hA : ∀ q : Nat, s.heap.size ≤ q → A q) (hE : xn_E A s) {kf : Nat → Int32} {vf : Nat → Int64} {bf : Nat → Int32} {w : Int32} {op : Int32} {ln : Int32} {nx : Int32} {en : Int32} {ok : Int32} {tf : Nat → Int32} {nb : Int32} {ef : Nat → Int32} {ff : Nat → Int32} {fi : Int32} {ek : Int32} {ev : Int64} {a b : Nat} (hab : a ≤ b) (hb9 : b ≤ 4889) : ∀ (k : Nat)  (H : Heap) (locs : List Loc) (ls : Array Slot), k ≤ b - a → lv_has ls 5 [(4, .int (nI (b - k))), (3, .int (nI (pb_crc tf a (b - k - a)))), (0, .ref (ad 4)), (1, .int (nI a)), (2, .int (nI b))] → va_P (dC, dI) vwCl (xw ad ca kf vf bf w op ln nx en ok tf nb ef ff fi ek ev) H → va_D A (xw ad ca kf vf bf w op ln nx en ok tf nb ef ff fi ek ev) → va_S A s.heap H locs → (∀ (H : Heap) (locs : List Loc) (ls : Array Slot), lv_has ls 5 [(3, .int (nI (pb_crc tf a (b - a))))] → va_P (dC, dI) vwCl (xw ad ca kf vf bf w op ln nx en ok tf nb ef ff fi ek ev) H → va_D A (xw ad ca kf vf bf w op ln nx en ok tf nb ef ff fi ek ev) → va_S A s.heap H locs → W p l e ({ frames := 1, cells := 0, slots := 0, locals := 21 } : Room) s m args below meth c H locs 0 0 Q (F0 m 52 ls [])) → W p l e ({ frames := 1, cells := 0, slots := 0, locals := 21 } : Room) s m args below meth c H locs 0 0 Q (F0 m 5 ls []) := by
  intro k
  induction k with
  | zero =>
    intro  H locs ls hk hl hP hD hS kk
    have hl : lv_has ls 5 [(4, .int (nI (b - 0))), (3, .int (nI (pb_crc tf a (b - 0 - a)))), (0, .ref (ad 4)), (1, .int (nI a)), (2, .int (nI b))] := hl
    refine lv_iload hx hb dX2_sumOf_5 (lv_at hl 0 rfl) ?_
    refine lv_iload_n hx hb dX2_sumOf_7 rfl (lv_at hl 4 rfl) ?_
    refine lv_icmp_ge (tgt := 52) hx hb dX2_sumOf_8 rfl (fun hc => ?_) (fun hc => absurd hc (not_not_intro (nI_le (by omega) (by omega))))
    exact kk H locs ls (lv_sub hl [1] rfl) hP hD hS
  | succ k ih =>
    intro  H locs ls hk hl hP hD hS kk
    have hl : lv_has ls 5 [(4, .int (nI (b - (k + 1)))), (3, .int (nI (pb_crc tf a (b - (k + 1) - a)))), (0, .ref (ad 4)), (1, .int (nI a)), (2, .int (nI b))] := hl
    obtain ⟨st, hZ, hT⟩ := hE.2.2.2.2.2
    have hX0 : (pb_crc tf a (b - (k + 1) - a) ^^^ pb_ub tf (b - (k + 1))) < 2 ^ 32 := Nat.xor_lt_two_pow (pb_crc_lt tf a _) (by have := pb_ub_lt tf (b - (k + 1)); omega)
    have hX1 : pb_g4 (pb_crc tf a (b - (k + 1) - a) ^^^ pb_ub tf (b - (k + 1))) < 2 ^ 32 := pb_g4_lt hX0
    refine lv_iload hx hb dX2_sumOf_5 (lv_at hl 0 rfl) ?_
    refine lv_iload_n hx hb dX2_sumOf_7 rfl (lv_at hl 4 rfl) ?_
    refine lv_icmp_ge (tgt := 52) hx hb dX2_sumOf_8 rfl (fun hc => absurd hc (by rw [nI_leI (by omega) (by omega)]; omega)) (fun hc => ?_)
    refine lv_iload_n hx hb dX2_sumOf_11 rfl (lv_at hl 1 rfl) ?_
    refine lv_aload_n hx hb dX2_sumOf_12 rfl (lv_at hl 2 rfl) ?_
    refine lv_iload hx hb dX2_sumOf_13 (lv_at hl 0 rfl) ?_
    refine xk_i (va_runV (As := [.int (nI (b - (k + 1)))]) (rest := [.int (nI (pb_crc tf a (b - (k + 1) - a)))]) ⟨hx, hb, hml, hown, hts⟩ (cX2_byteAt_m l dC dI ca ad kf vf bf w op ln nx en ok tf nb ef ff fi ek ev (b - (k + 1)) (by omega) _) (cwV 1 hts (xg_V mb_methodLink_RX2_29 mb_instanceMethod_yX2_byteAt mb_selects_yX2_byteAt mb_initialized_RX2 mb_code_yX2_byteAt) rfl rfl rfl ⟨rfl, by decide, by decide, by decide +kernel⟩ ⟨Nat.le_of_ble_eq_true rfl, Nat.le_of_ble_eq_true rfl⟩) (xpreV (va_recv (q0 := 4) hK hP rfl rfl) hK hP hD hS hA hE) rfl rfl hl.1 rfl (lv_room (Nat.le_of_ble_eq_true rfl)) dX2_sumOf_15 ⟨Nat.le_of_ble_eq_true rfl, Nat.le_of_ble_eq_true rfl⟩) hD hS hA (fun r u H locs hu hP hD hS => ?_)
    subst hu
    have hP : va_P (dC, dI) vwCl (xw ad ca kf vf bf w op ln nx en ok tf nb ef ff fi ek ev) H := hP
    have hD : va_D A (xw ad ca kf vf bf w op ln nx en ok tf nb ef ff fi ek ev) := hD
    refine lv_ixor hx hb dX2_sumOf_18 ?_
    refine lv_topi (fun z1 ez1 => ?_)
    have ez1 : z1 = nI (pb_crc tf a (b - (k + 1) - a) ^^^ pb_ub tf (b - (k + 1))) := ez1.trans (nx_xor _ _)
    subst ez1
    refine lv_istore_n hx hb dX2_sumOf_19 rfl hl (by decide) rfl (fun ls hl => ?_)
    have hl : lv_has ls 5 [(3, .int (nI (pb_crc tf a (b - (k + 1) - a) ^^^ pb_ub tf (b - (k + 1))))), (4, .int (nI (b - (k + 1)))), (0, .ref (ad 4)), (1, .int (nI a)), (2, .int (nI b))] := hl
    refine lv_iload_n hx hb dX2_sumOf_20 rfl (lv_at hl 0 rfl) ?_
    refine lv_iconst (v := nI 4) hx hb dX2_sumOf_21 (by decide) ?_
    refine lv_iushr (v := nI ((pb_crc tf a (b - (k + 1) - a) ^^^ pb_ub tf (b - (k + 1))) / 16)) hx hb dX2_sumOf_22 (pk_ushrN (n := (pb_crc tf a (b - (k + 1) - a) ^^^ pb_ub tf (b - (k + 1)))) hX0 (nI 4) 4 (by decide)) ?_
    refine va_gets hx hb hZ hS hown (xg_w hts mb_fieldLink_RX2_33) (fun _ h9 => h9) dX2_sumOf_23 ?_
    refine lv_iload_n hx hb dX2_sumOf_26 rfl (lv_at hl 0 rfl) ?_
    refine lv_bipush (v := nI 15) hx hb dX2_sumOf_27 (by decide) ?_
    refine lv_iand hx hb dX2_sumOf_29 ?_
    refine lv_topi (fun z2 ez2 => ?_)
    have ez2 : z2 = nI ((pb_crc tf a (b - (k + 1) - a) ^^^ pb_ub tf (b - (k + 1))) % 16) := ez2.trans (pk_andN (n := (pb_crc tf a (b - (k + 1) - a) ^^^ pb_ub tf (b - (k + 1)))) hX0 4 (by decide))
    subst ez2
    refine va_ti (v := .int (nI (pb_T ((pb_crc tf a (b - (k + 1) - a) ^^^ pb_ub tf (b - (k + 1))) % 16)))) hx hb hT hS (vp_in_nI (Nat.mod_lt _ (by decide)) (by decide)) (by show Value.int (nI (pb_T (nI ((pb_crc tf a (b - (k + 1) - a) ^^^ pb_ub tf (b - (k + 1))) % 16)).toNatClampNeg)) = _; rw [nI_clamp (Nat.lt_trans (Nat.mod_lt _ (by decide)) (by decide))]) dX2_sumOf_30 ?_
    refine lv_ixor hx hb dX2_sumOf_31 ?_
    refine lv_topi (fun z3 ez3 => ?_)
    have ez3 : z3 = nI (pb_g4 (pb_crc tf a (b - (k + 1) - a) ^^^ pb_ub tf (b - (k + 1)))) := ez3.trans ((nx_xor _ _).trans (congrArg nI (pb_nib (pb_crc tf a (b - (k + 1) - a) ^^^ pb_ub tf (b - (k + 1)))).symm))
    subst ez3
    refine lv_istore_n hx hb dX2_sumOf_32 rfl hl (by decide) rfl (fun ls hl => ?_)
    have hl : lv_has ls 5 [(3, .int (nI (pb_g4 (pb_crc tf a (b - (k + 1) - a) ^^^ pb_ub tf (b - (k + 1)))))), (4, .int (nI (b - (k + 1)))), (0, .ref (ad 4)), (1, .int (nI a)), (2, .int (nI b))] := hl
    refine lv_iload_n hx hb dX2_sumOf_33 rfl (lv_at hl 0 rfl) ?_
    refine lv_iconst (v := nI 4) hx hb dX2_sumOf_34 (by decide) ?_
    refine lv_iushr (v := nI ((pb_g4 (pb_crc tf a (b - (k + 1) - a) ^^^ pb_ub tf (b - (k + 1)))) / 16)) hx hb dX2_sumOf_35 (pk_ushrN (n := (pb_g4 (pb_crc tf a (b - (k + 1) - a) ^^^ pb_ub tf (b - (k + 1))))) hX1 (nI 4) 4 (by decide)) ?_
    refine va_gets hx hb hZ hS hown (xg_w hts mb_fieldLink_RX2_33) (fun _ h9 => h9) dX2_sumOf_36 ?_
    refine lv_iload_n hx hb dX2_sumOf_39 rfl (lv_at hl 0 rfl) ?_
    refine lv_bipush (v := nI 15) hx hb dX2_sumOf_40 (by decide) ?_
    refine lv_iand hx hb dX2_sumOf_42 ?_
    refine lv_topi (fun z4 ez4 => ?_)
    have ez4 : z4 = nI ((pb_g4 (pb_crc tf a (b - (k + 1) - a) ^^^ pb_ub tf (b - (k + 1)))) % 16) := ez4.trans (pk_andN (n := (pb_g4 (pb_crc tf a (b - (k + 1) - a) ^^^ pb_ub tf (b - (k + 1))))) hX1 4 (by decide))
    subst ez4
    refine va_ti (v := .int (nI (pb_T ((pb_g4 (pb_crc tf a (b - (k + 1) - a) ^^^ pb_ub tf (b - (k + 1)))) % 16)))) hx hb hT hS (vp_in_nI (Nat.mod_lt _ (by decide)) (by decide)) (by show Value.int (nI (pb_T (nI ((pb_g4 (pb_crc tf a (b - (k + 1) - a) ^^^ pb_ub tf (b - (k + 1)))) % 16)).toNatClampNeg)) = _; rw [nI_clamp (Nat.lt_trans (Nat.mod_lt _ (by decide)) (by decide))]) dX2_sumOf_43 ?_
    refine lv_ixor hx hb dX2_sumOf_44 ?_
    refine lv_topi (fun z5 ez5 => ?_)
    have ez5 : z5 = nI (pb_g4 (pb_g4 (pb_crc tf a (b - (k + 1) - a) ^^^ pb_ub tf (b - (k + 1))))) := ez5.trans ((nx_xor _ _).trans (congrArg nI (pb_nib (pb_g4 (pb_crc tf a (b - (k + 1) - a) ^^^ pb_ub tf (b - (k + 1))))).symm))
    subst ez5
    refine lv_istore_n hx hb dX2_sumOf_45 rfl hl (by decide) rfl (fun ls hl => ?_)
    have hl : lv_has ls 5 [(3, .int (nI (pb_g4 (pb_g4 (pb_crc tf a (b - (k + 1) - a) ^^^ pb_ub tf (b - (k + 1))))))), (4, .int (nI (b - (k + 1)))), (0, .ref (ad 4)), (1, .int (nI a)), (2, .int (nI b))] := hl
    refine lv_iinc (k := 1) (v := nI (b - k)) hx hb dX2_sumOf_46 hl rfl ((nI_1 _).trans (congrArg nI (by omega))) (by decide) rfl (fun ls hl => ?_)
    have hl : lv_has ls 5 [(4, .int (nI (b - k))), (3, .int (nI (pb_g4 (pb_g4 (pb_crc tf a (b - (k + 1) - a) ^^^ pb_ub tf (b - (k + 1))))))), (0, .ref (ad 4)), (1, .int (nI a)), (2, .int (nI b))] := hl
    refine lv_goto (tgt := 5) hx hb dX2_sumOf_49 rfl ?_
    have e9 : pb_g4 (pb_g4 (pb_crc tf a (b - (k + 1) - a) ^^^ pb_ub tf (b - (k + 1)))) = pb_crc tf a (b - k - a) := by
      rw [show b - k - a = b - (k + 1) - a + 1 by omega]
      show _ = pb_B (pb_crc tf a (b - (k + 1) - a)) (pb_ub tf (a + (b - (k + 1) - a)))
      rw [show a + (b - (k + 1) - a) = b - (k + 1) by omega]
      rfl
    rw [e9] at hl
    exact ih _ _ _ (by omega) hl hP hD hS kk

set_option maxHeartbeats 4000000 in
set_option maxRecDepth 100000 in
theorem cX2_sumOf_m (l : Launch) (dC : Nat → ClassId) (dI : Nat → Nat → Nat) (ca : Nat → ClassId) (ad : Nat → Nat) (kf : Nat → Int32) (vf : Nat → Int64) (bf : Nat → Int32) (w : Int32) (op : Int32) (ln : Int32) (nx : Int32) (en : Int32) (ok : Int32) (tf : Nat → Int32) (nb : Int32) (ef : Nat → Int32) (ff : Nat → Int32) (fi : Int32) (ek : Int32) (ev : Int64) (a b : Nat) (hab : a ≤ b) (hb9 : b ≤ 4889) : ∀ sz : Nat, Met l yX2_sumOf wsX2_sumOf ({ frames := 1, cells := 0, slots := 0, locals := 21 } : Room) (va_Pc [.ref (ad 4), .int (nI a), .int (nI b)] (xP (dC, dI) (xt ca) (xw ad ca kf vf bf w op ln nx en ok tf nb ef ff fi ek ev) sz)) (va_Qi (S := Unit) (fun r _ => r = nI (ps_w tf a b)) (fun u t => xB (dC, dI) (xt ca) (va_A (xw ad ca kf vf bf w op ln nx en ok tf nb ef ff fi ek ev) sz) (xw ad ca kf vf bf w op ln nx en ok tf nb ef ff fi ek ev) t) (va_A (xw ad ca kf vf bf w op ln nx en ok tf nb ef ff fi ek ev) sz)) 0 0 (va_A (xw ad ca kf vf bf w op ln nx en ok tf nb ef ff fi ek ev) sz) := by
  intro sz
  refine Met.ofW (cc := cX2_sumOf) (maxL := 5) (ret := (some .int)) (by decide) rfl ?_
  intro p e s m args below meth c s₁ B hml hv
  obtain ⟨rfl, hsz, hP, hK, hD0, hE⟩ := hv
  have hx := B.exec
  have hb := B.bytes
  have hr := B.returns
  have hts := atoms_spec (ws := wsX2_sumOf) B.pre
  have hown : s.vm.findClass RX2 = some m.cls := findClass_of_methodNamed B.named
  have hlocks := B.notSynchronized
  subst hsz
  have hD := hD0.self (sz := s.heap.size)
  generalize hAe : va_A (xw ad ca kf vf bf w op ln nx en ok tf nb ef ff fi ek ev) s.heap.size = A at hD hE ⊢
  have hA : ∀ q : Nat, s.heap.size ≤ q → A q := fun q h => by rw [← hAe]; exact Or.inr h
  have hS : va_S A s.heap s.heap [] := va_S.rf
  have hl := lv_entry ([.ref (ad 4), .int (nI a), .int (nI b)]) (n := 5) (Nat.le_of_ble_eq_true rfl)
  rw [lg_entry_eq]
  generalize (lg_sl ([.ref (ad 4), .int (nI a), .int (nI b)]) ++ List.replicate (5 - (lg_sl ([.ref (ad 4), .int (nI a), .int (nI b)])).length) Slot.unset).toArray = ls at hl ⊢
  have hl : lv_has ls 5 [(0, .ref (ad 4)), (1, .int (nI a)), (2, .int (nI b))] := hl
  have e0 : pb_crc tf a (b - (b - a) - a) = 4294967295 := by rw [show b - (b - a) - a = 0 by omega]; rfl
  refine lv_iconst (v := nI (pb_crc tf a (b - (b - a) - a))) hx hb dX2_sumOf_0 (by rw [e0]; decide) ?_
  refine lv_istore_n hx hb dX2_sumOf_1 rfl hl (by decide) rfl (fun ls hl => ?_)
  have hl : lv_has ls 5 [(3, .int (nI (pb_crc tf a (b - (b - a) - a)))), (0, .ref (ad 4)), (1, .int (nI a)), (2, .int (nI b))] := hl
  refine lv_iload_n hx hb dX2_sumOf_2 rfl (lv_at hl 2 rfl) ?_
  refine lv_topi (fun z1 ez1 => ?_)
  have ez1 : z1 = nI (b - (b - a)) := ez1.trans (congrArg nI (by omega))
  subst ez1
  refine lv_istore hx hb dX2_sumOf_3 hl (by decide) rfl (fun ls hl => ?_)
  have hl : lv_has ls 5 [(4, .int (nI (b - (b - a)))), (3, .int (nI (pb_crc tf a (b - (b - a) - a)))), (0, .ref (ad 4)), (1, .int (nI a)), (2, .int (nI b))] := hl
  refine lpX2_sumOf_go hx hb hml hown hts hK hA hE hab hb9 (b - a) _ _ _ (Nat.le_refl _) hl hP hD hS (fun H locs ls hl hP hD hS => ?_)
  refine lv_iload_n hx hb dX2_sumOf_52 rfl (lv_at hl 0 rfl) ?_
  refine lv_iconst (v := nI 4294967295) hx hb dX2_sumOf_53 (by decide) ?_
  refine lv_ixor hx hb dX2_sumOf_54 ?_
  refine lv_topi (fun z2 ez2 => ?_)
  have ez2 : z2 = nI (ps_w tf a b) := ez2.trans (nx_xor _ _)
  subst ez2
  have hP9 := hP
  have hD9 := hD
  exact W.iret (v := nI (ps_w tf a b)) hx hb hr (fun t ht hW => ⟨⟨nI (ps_w tf a b), (), rfl, rfl, by rw [ht]; exact hP9, va_K.moved hW.alike hK, hD9⟩, hS.F ht⟩) hS.2.2 dX2_sumOf_55

set_option maxHeartbeats 4000000 in
set_option maxRecDepth 100000 in
theorem lpX2_appendSum_go {p : Program} {l : Launch} {e : Env} {s : State} {m : MethodId} {args : Array Value} {below : List Frame} {meth : Method} {c : Code} {Q : State → Prop} {A : Nat → Prop} {dC : Nat → ClassId} {dI : Nat → Nat → Nat} {ca : Nat → ClassId} {ad : Nat → Nat} (hx : p.tables.exec = Jvm.exec) (hb : c.code = cX2_appendSum) (hml : c.maxLocals = 4) (hown : s.vm.findClass RX2 = some m.cls) (hts : ∀ w ∈ wsX2_appendSum, w.before args s = true) (hK : va_K (dC, dI) vwCl (xt ca) s) (hA : ∀ q : Nat, s.heap.size ≤ q → A q) (hE : xn_E A s) {kf : Nat → Int32} {vf : Nat → Int64} {bf : Nat → Int32} {w : Int32} {op : Int32} {nx : Int32} {en : Int32} {ok : Int32} {tf : Nat → Int32} {nb : Int32} {ef : Nat → Int32} {ff : Nat → Int32} {fi : Int32} {ek : Int32} {ev : Int64} {L v : Nat} {x : Int32} (hL : L + 4 ≤ 4889) (hv : v < 2 ^ 32) : ∀ (k : Nat)  (H : Heap) (locs : List Loc) (ls : Array Slot), k ≤ 4 → lv_has ls 4 [(3, .int (nI (4 - k))), (2, .int (nI v)), (0, .ref (ad 4)), (1, .int x)] → va_P (dC, dI) vwCl (xw ad ca kf vf bf w op (nI (L + (4 - k))) nx en ok (ps_k tf L v (4 - k)) nb ef ff fi ek ev) H → va_D A (xw ad ca kf vf bf w op (nI (L + (4 - k))) nx en ok (ps_k tf L v (4 - k)) nb ef ff fi ek ev) → va_S A s.heap H locs → (∀ (H : Heap) (locs : List Loc) (ls : Array Slot), va_P (dC, dI) vwCl (xw ad ca kf vf bf w op (nI (L + 4)) nx en ok (ps_k tf L v 4) nb ef ff fi ek ev) H → va_D A (xw ad ca kf vf bf w op (nI (L + 4)) nx en ok (ps_k tf L v 4) nb ef ff fi ek ev) → va_S A s.heap H locs → W p l e ({ frames := 2, cells := 0, slots := 0, locals := 45 } : Room) s m args below meth c H locs 0 0 Q (F0 m 33 ls [])) → W p l e ({ frames := 2, cells := 0, slots := 0, locals := 45 } : Room) s m args below meth c H locs 0 0 Q (F0 m 12 ls []) := by
  intro k
  induction k with
  | zero =>
    intro  H locs ls hk hl hP hD hS kk
    have hl : lv_has ls 4 [(3, .int (nI (4 - 0))), (2, .int (nI v)), (0, .ref (ad 4)), (1, .int x)] := hl
    refine lv_iload_n hx hb dX2_appendSum_12 rfl (lv_at hl 0 rfl) ?_
    refine lv_iconst (v := nI 4) hx hb dX2_appendSum_13 (by decide) ?_
    refine lv_icmp_ge (tgt := 33) hx hb dX2_appendSum_14 rfl (fun hc => ?_) (fun hc => absurd hc (not_not_intro (by decide)))
    exact kk H locs ls hP hD hS
  | succ k ih =>
    intro  H locs ls hk hl hP hD hS kk
    have hl : lv_has ls 4 [(3, .int (nI (4 - (k + 1)))), (2, .int (nI v)), (0, .ref (ad 4)), (1, .int x)] := hl
    refine lv_iload_n hx hb dX2_appendSum_12 rfl (lv_at hl 0 rfl) ?_
    refine lv_iconst (v := nI 4) hx hb dX2_appendSum_13 (by decide) ?_
    refine lv_icmp_ge (tgt := 33) hx hb dX2_appendSum_14 rfl (fun hc => absurd hc (by rw [nI_leI (by decide) (by omega)]; omega)) (fun hc => ?_)
    refine lv_aload_n hx hb dX2_appendSum_17 rfl (lv_at hl 2 rfl) ?_
    refine lv_iload_n hx hb dX2_appendSum_18 rfl (lv_at hl 1 rfl) ?_
    refine lv_bipush (v := nI 8) hx hb dX2_appendSum_19 (by decide) ?_
    refine lv_iload_n hx hb dX2_appendSum_21 rfl (lv_at hl 0 rfl) ?_
    refine lv_imul hx hb dX2_appendSum_22 ?_
    refine lv_topi (fun z1 ez1 => ?_)
    have ez1 : z1 = nI (8 * (4 - (k + 1))) := ez1.trans (pk_mul _ _)
    subst ez1
    refine lv_iushr (v := nI (v / 2 ^ (8 * (4 - (k + 1))))) hx hb dX2_appendSum_23 (pk_ushrN (n := v) hv _ _ (s_u _ (by omega))) ?_
    have e1 : L + (4 - (k + 1)) + 1 = L + (4 - k) := by omega
    have e2 : upd (ps_k tf L v (4 - (k + 1))) (L + (4 - (k + 1))) (sb_b (v / 2 ^ (8 * (4 - (k + 1))))) = ps_k tf L v (4 - k) := by rw [show 4 - k = 4 - (k + 1) + 1 by omega]; rfl
    refine xk_v (va_runV (As := [.int (nI (v / 2 ^ (8 * (4 - (k + 1)))))]) (rest := []) ⟨hx, hb, hml, hown, hts⟩ (cX2_append_m l dC dI ca ad kf vf bf w op nx en ok (ps_k tf L v (4 - (k + 1))) nb ef ff fi ek ev (L + (4 - (k + 1))) (nI (v / 2 ^ (8 * (4 - (k + 1))))) (by omega) _) (cwV 1 hts (xg_V mb_methodLink_RX2_21 mb_instanceMethod_yX2_append mb_selects_yX2_append mb_initialized_RX2 mb_code_yX2_append) rfl rfl rfl ⟨rfl, by decide, by decide, by decide +kernel⟩ ⟨Nat.le_of_ble_eq_true rfl, Nat.le_of_ble_eq_true rfl⟩) (xpreV (va_recv (q0 := 4) hK hP rfl rfl) hK hP hD hS hA hE) rfl rfl hl.1 rfl (lv_room (Nat.le_of_ble_eq_true rfl)) dX2_appendSum_24 ⟨Nat.le_of_ble_eq_true rfl, Nat.le_of_ble_eq_true rfl⟩) hD hS hA (fun u H locs hu hP hD hS => ?_)
    have hP : va_P (dC, dI) vwCl (xw ad ca kf vf bf w op (nI (L + (4 - (k + 1)) + 1)) nx en ok (upd (ps_k tf L v (4 - (k + 1))) (L + (4 - (k + 1))) (sb_b (v / 2 ^ (8 * (4 - (k + 1)))))) nb ef ff fi ek ev) H := hP
    have hD : va_D A (xw ad ca kf vf bf w op (nI (L + (4 - (k + 1)) + 1)) nx en ok (upd (ps_k tf L v (4 - (k + 1))) (L + (4 - (k + 1))) (sb_b (v / 2 ^ (8 * (4 - (k + 1)))))) nb ef ff fi ek ev) := hD
    rw [e1, e2] at hP hD
    refine lv_iinc (k := 0) (v := nI (4 - k)) hx hb dX2_appendSum_27 hl rfl ((nI_1 _).trans (congrArg nI (by omega))) (by decide) rfl (fun ls hl => ?_)
    have hl : lv_has ls 4 [(3, .int (nI (4 - k))), (2, .int (nI v)), (0, .ref (ad 4)), (1, .int x)] := hl
    refine lv_goto (tgt := 12) hx hb dX2_appendSum_30 rfl ?_
    exact ih _ _ _ (by omega) hl hP hD hS kk

set_option maxHeartbeats 4000000 in
set_option maxRecDepth 100000 in
theorem cX2_appendSum_m (l : Launch) (dC : Nat → ClassId) (dI : Nat → Nat → Nat) (ca : Nat → ClassId) (ad : Nat → Nat) (kf : Nat → Int32) (vf : Nat → Int64) (bf : Nat → Int32) (w : Int32) (op : Int32) (nx : Int32) (en : Int32) (ok : Int32) (tf : Nat → Int32) (nb : Int32) (ef : Nat → Int32) (ff : Nat → Int32) (fi : Int32) (ek : Int32) (ev : Int64) (L a : Nat) (hL : L + 4 ≤ 4889) (ha : a ≤ L) : ∀ sz : Nat, Met l yX2_appendSum wsX2_appendSum ({ frames := 2, cells := 0, slots := 0, locals := 45 } : Room) (va_Pc [.ref (ad 4), .int (nI a)] (xP (dC, dI) (xt ca) (xw ad ca kf vf bf w op (nI L) nx en ok tf nb ef ff fi ek ev) sz)) (va_Qv (S := Unit) (fun _ => True) (fun u t => xB (dC, dI) (xt ca) (va_A (xw ad ca kf vf bf w op (nI L) nx en ok tf nb ef ff fi ek ev) sz) (xw ad ca kf vf bf w op (nI (L + 4)) nx en ok (ps_k tf L (ps_w tf a L) 4) nb ef ff fi ek ev) t) (va_A (xw ad ca kf vf bf w op (nI L) nx en ok tf nb ef ff fi ek ev) sz)) 0 0 (va_A (xw ad ca kf vf bf w op (nI L) nx en ok tf nb ef ff fi ek ev) sz) := by
  intro sz
  refine Met.ofW (cc := cX2_appendSum) (maxL := 4) (ret := none) (by decide) rfl ?_
  intro p e s m args below meth c s₁ B hml hv
  obtain ⟨rfl, hsz, hP, hK, hD0, hE⟩ := hv
  have hx := B.exec
  have hb := B.bytes
  have hr := B.returns
  have hts := atoms_spec (ws := wsX2_appendSum) B.pre
  have hown : s.vm.findClass RX2 = some m.cls := findClass_of_methodNamed B.named
  have hlocks := B.notSynchronized
  subst hsz
  have hD := hD0.self (sz := s.heap.size)
  generalize hAe : va_A (xw ad ca kf vf bf w op (nI L) nx en ok tf nb ef ff fi ek ev) s.heap.size = A at hD hE ⊢
  have hA : ∀ q : Nat, s.heap.size ≤ q → A q := fun q h => by rw [← hAe]; exact Or.inr h
  have hS : va_S A s.heap s.heap [] := va_S.rf
  have hl := lv_entry ([.ref (ad 4), .int (nI a)]) (n := 4) (Nat.le_of_ble_eq_true rfl)
  rw [lg_entry_eq]
  generalize (lg_sl ([.ref (ad 4), .int (nI a)]) ++ List.replicate (4 - (lg_sl ([.ref (ad 4), .int (nI a)])).length) Slot.unset).toArray = ls at hl ⊢
  have hl : lv_has ls 4 [(0, .ref (ad 4)), (1, .int (nI a))] := hl
  refine lv_aload_n hx hb dX2_appendSum_0 rfl (lv_at hl 0 rfl) ?_
  refine lv_iload_n hx hb dX2_appendSum_1 rfl (lv_at hl 1 rfl) ?_
  refine lv_aload_n hx hb dX2_appendSum_2 rfl (lv_at hl 0 rfl) ?_
  refine va_get (D := (dC, dI)) (ci := 2) (v := .int (nI L)) (C := RX2) (T := TX2) (N := 5) (ref := "SortedRun$Table") hx hb hts (xg_u mb_uws_X2) hown hK hP 4 rfl rfl 1 (by decide) (xg_w hts mb_fieldLink_RX2_15) (fun _ h9 => h9) rfl dX2_appendSum_3 ?_
  refine xk_i (va_runV (As := [.int (nI a), .int (nI L)]) (rest := []) ⟨hx, hb, hml, hown, hts⟩ (cX2_sumOf_m l dC dI ca ad kf vf bf w op (nI L) nx en ok tf nb ef ff fi ek ev a L ha (by omega) _) (cwV 2 hts (xg_V mb_methodLink_RX2_25 mb_instanceMethod_yX2_sumOf mb_selects_yX2_sumOf mb_initialized_RX2 mb_code_yX2_sumOf) rfl rfl rfl ⟨rfl, by decide, by decide, by decide +kernel⟩ ⟨Nat.le_of_ble_eq_true rfl, Nat.le_of_ble_eq_true rfl⟩) (xpreV (va_recv (q0 := 4) hK hP rfl rfl) hK hP hD hS hA hE) rfl rfl hl.1 rfl (lv_room (Nat.le_of_ble_eq_true rfl)) dX2_appendSum_6 ⟨Nat.le_of_ble_eq_true rfl, Nat.le_of_ble_eq_true rfl⟩) hD hS hA (fun r u H locs hu hP hD hS => ?_)
  subst hu
  have hP : va_P (dC, dI) vwCl (xw ad ca kf vf bf w op (nI L) nx en ok tf nb ef ff fi ek ev) H := hP
  have hD : va_D A (xw ad ca kf vf bf w op (nI L) nx en ok tf nb ef ff fi ek ev) := hD
  refine lv_istore_n hx hb dX2_appendSum_9 rfl hl (by decide) rfl (fun ls hl => ?_)
  have hl : lv_has ls 4 [(2, .int (nI (ps_w tf a L))), (0, .ref (ad 4)), (1, .int (nI a))] := hl
  refine lv_iconst (v := nI (4 - 4)) hx hb dX2_appendSum_10 (by decide) ?_
  refine lv_istore_n hx hb dX2_appendSum_11 rfl hl (by decide) rfl (fun ls hl => ?_)
  have hl : lv_has ls 4 [(3, .int (nI (4 - 4))), (2, .int (nI (ps_w tf a L))), (0, .ref (ad 4)), (1, .int (nI a))] := hl
  refine lpX2_appendSum_go hx hb hml hown hts hK hA hE (L := L) (v := ps_w tf a L) hL (ps_w_lt tf a L) 4 _ _ _ (Nat.le_refl _) hl hP hD hS (fun H locs ls hP hD hS => ?_)
  have hP9 := hP
  have hD9 := hD
  exact W.vret hx hb hr (fun t ht hW => ⟨⟨(), rfl, trivial, by rw [ht]; exact hP9, va_K.moved hW.alike hK, hD9⟩, hS.F ht⟩) hS.2.2 dX2_appendSum_33

set_option maxHeartbeats 4000000 in
set_option maxRecDepth 100000 in
theorem lpX2_appendFoot_go {p : Program} {l : Launch} {e : Env} {s : State} {m : MethodId} {args : Array Value} {below : List Frame} {meth : Method} {c : Code} {Q : State → Prop} {A : Nat → Prop} {dC : Nat → ClassId} {dI : Nat → Nat → Nat} {ca : Nat → ClassId} {ad : Nat → Nat} (hx : p.tables.exec = Jvm.exec) (hb : c.code = cX2_appendFoot) (hml : c.maxLocals = 3) (hown : s.vm.findClass RX2 = some m.cls) (hts : ∀ w ∈ wsX2_appendFoot, w.before args s = true) (hK : va_K (dC, dI) vwCl (xt ca) s) (hA : ∀ q : Nat, s.heap.size ≤ q → A q) (hE : xn_E A s) {kf : Nat → Int32} {vf : Nat → Int64} {bf : Nat → Int32} {w : Int32} {op : Int32} {nx : Int32} {en : Int32} {ok : Int32} {tf : Nat → Int32} {nb : Int32} {ef : Nat → Int32} {ff : Nat → Int32} {fi : Int32} {ek : Int32} {ev : Int64} {L n : Nat} (hL : L + 4 ≤ 4889) (hv : n < 2 ^ 32) : ∀ (k : Nat)  (H : Heap) (locs : List Loc) (ls : Array Slot), k ≤ 4 → lv_has ls 3 [(2, .int (nI k + (-1))), (0, .ref (ad 4)), (1, .int (nI n))] → va_P (dC, dI) vwCl (xw ad ca kf vf bf w op (nI (L + (4 - k))) nx en ok (pf_k tf L n (4 - k)) nb ef ff fi ek ev) H → va_D A (xw ad ca kf vf bf w op (nI (L + (4 - k))) nx en ok (pf_k tf L n (4 - k)) nb ef ff fi ek ev) → va_S A s.heap H locs → (∀ (H : Heap) (locs : List Loc) (ls : Array Slot), va_P (dC, dI) vwCl (xw ad ca kf vf bf w op (nI (L + 4)) nx en ok (pf_k tf L n 4) nb ef ff fi ek ev) H → va_D A (xw ad ca kf vf bf w op (nI (L + 4)) nx en ok (pf_k tf L n 4) nb ef ff fi ek ev) → va_S A s.heap H locs → W p l e ({ frames := 1, cells := 0, slots := 0, locals := 21 } : Room) s m args below meth c H locs 0 0 Q (F0 m 22 ls [])) → W p l e ({ frames := 1, cells := 0, slots := 0, locals := 21 } : Room) s m args below meth c H locs 0 0 Q (F0 m 2 ls []) := by
  intro k
  induction k with
  | zero =>
    intro  H locs ls hk hl hP hD hS kk
    have hl : lv_has ls 3 [(2, .int (nI 0 + (-1))), (0, .ref (ad 4)), (1, .int (nI n))] := hl
    refine lv_iload_n hx hb dX2_appendFoot_2 rfl (lv_at hl 0 rfl) ?_
    refine lv_if_lt (tgt := 22) hx hb dX2_appendFoot_3 rfl (fun hc => ?_) (fun hc => absurd hc (not_not_intro (by decide)))
    exact kk H locs ls hP hD hS
  | succ k ih =>
    intro  H locs ls hk hl hP hD hS kk
    have hl : lv_has ls 3 [(2, .int (nI (k + 1) + (-1))), (0, .ref (ad 4)), (1, .int (nI n))] := hl
    refine lv_iload_n hx hb dX2_appendFoot_2 rfl (lv_at hl 0 rfl) ?_
    refine lv_if_lt (tgt := 22) hx hb dX2_appendFoot_3 rfl (fun hc => absurd hc (by rw [pk_m1]; exact nI_pos (by omega))) (fun hc => ?_)
    refine lv_aload_n hx hb dX2_appendFoot_6 rfl (lv_at hl 1 rfl) ?_
    refine lv_iload_n hx hb dX2_appendFoot_7 rfl (lv_at hl 2 rfl) ?_
    refine lv_bipush (v := nI 8) hx hb dX2_appendFoot_8 (by decide) ?_
    refine lv_iload_n hx hb dX2_appendFoot_10 rfl (lv_at hl 0 rfl) ?_
    refine lv_topi (fun z1 ez1 => ?_)
    have ez1 : z1 = nI k := ez1.trans (pk_m1 k)
    subst ez1
    refine lv_imul hx hb dX2_appendFoot_11 ?_
    refine lv_topi (fun z2 ez2 => ?_)
    have ez2 : z2 = nI (8 * k) := ez2.trans (pk_mul _ _)
    subst ez2
    refine lv_iushr (v := nI (n / 2 ^ (8 * k))) hx hb dX2_appendFoot_12 (pk_ushrN (n := n) hv _ _ (s_u _ (by omega))) ?_
    have e1 : L + (4 - (k + 1)) + 1 = L + (4 - k) := by omega
    have e2 : upd (pf_k tf L n (4 - (k + 1))) (L + (4 - (k + 1))) (sb_b (n / 2 ^ (8 * k))) = pf_k tf L n (4 - k) := by
      rw [show 4 - k = 4 - (k + 1) + 1 by omega]
      show _ = upd (pf_k tf L n (4 - (k + 1))) (L + (4 - (k + 1))) (sb_b (n / 2 ^ (8 * (3 - (4 - (k + 1))))))
      rw [show 3 - (4 - (k + 1)) = k by omega]
    refine xk_v (va_runV (As := [.int (nI (n / 2 ^ (8 * k)))]) (rest := []) ⟨hx, hb, hml, hown, hts⟩ (cX2_append_m l dC dI ca ad kf vf bf w op nx en ok (pf_k tf L n (4 - (k + 1))) nb ef ff fi ek ev (L + (4 - (k + 1))) (nI (n / 2 ^ (8 * k))) (by omega) _) (cwV 1 hts (xg_V mb_methodLink_RX2_21 mb_instanceMethod_yX2_append mb_selects_yX2_append mb_initialized_RX2 mb_code_yX2_append) rfl rfl rfl ⟨rfl, by decide, by decide, by decide +kernel⟩ ⟨Nat.le_of_ble_eq_true rfl, Nat.le_of_ble_eq_true rfl⟩) (xpreV (va_recv (q0 := 4) hK hP rfl rfl) hK hP hD hS hA hE) rfl rfl hl.1 rfl (lv_room (Nat.le_of_ble_eq_true rfl)) dX2_appendFoot_13 ⟨Nat.le_of_ble_eq_true rfl, Nat.le_of_ble_eq_true rfl⟩) hD hS hA (fun u H locs hu hP hD hS => ?_)
    have hP : va_P (dC, dI) vwCl (xw ad ca kf vf bf w op (nI (L + (4 - (k + 1)) + 1)) nx en ok (upd (pf_k tf L n (4 - (k + 1))) (L + (4 - (k + 1))) (sb_b (n / 2 ^ (8 * k)))) nb ef ff fi ek ev) H := hP
    have hD : va_D A (xw ad ca kf vf bf w op (nI (L + (4 - (k + 1)) + 1)) nx en ok (upd (pf_k tf L n (4 - (k + 1))) (L + (4 - (k + 1))) (sb_b (n / 2 ^ (8 * k)))) nb ef ff fi ek ev) := hD
    rw [e1, e2] at hP hD
    refine lv_iinc (k := 0) (v := nI k + (-1)) hx hb dX2_appendFoot_16 hl rfl (by rw [pk_m1]; rfl) (by decide) rfl (fun ls hl => ?_)
    have hl : lv_has ls 3 [(2, .int (nI k + (-1))), (0, .ref (ad 4)), (1, .int (nI n))] := hl
    refine lv_goto (tgt := 2) hx hb dX2_appendFoot_19 rfl ?_
    exact ih _ _ _ (by omega) hl hP hD hS kk

set_option maxHeartbeats 4000000 in
set_option maxRecDepth 100000 in
theorem cX2_appendFoot_m (l : Launch) (dC : Nat → ClassId) (dI : Nat → Nat → Nat) (ca : Nat → ClassId) (ad : Nat → Nat) (kf : Nat → Int32) (vf : Nat → Int64) (bf : Nat → Int32) (w : Int32) (op : Int32) (nx : Int32) (en : Int32) (ok : Int32) (tf : Nat → Int32) (nb : Int32) (ef : Nat → Int32) (ff : Nat → Int32) (fi : Int32) (ek : Int32) (ev : Int64) (L n : Nat) (hL : L + 4 ≤ 4889) (hn : n < 2 ^ 32) : ∀ sz : Nat, Met l yX2_appendFoot wsX2_appendFoot ({ frames := 1, cells := 0, slots := 0, locals := 21 } : Room) (va_Pc [.ref (ad 4), .int (nI n)] (xP (dC, dI) (xt ca) (xw ad ca kf vf bf w op (nI L) nx en ok tf nb ef ff fi ek ev) sz)) (va_Qv (S := Unit) (fun _ => True) (fun u t => xB (dC, dI) (xt ca) (va_A (xw ad ca kf vf bf w op (nI L) nx en ok tf nb ef ff fi ek ev) sz) (xw ad ca kf vf bf w op (nI (L + 4)) nx en ok (pf_k tf L n 4) nb ef ff fi ek ev) t) (va_A (xw ad ca kf vf bf w op (nI L) nx en ok tf nb ef ff fi ek ev) sz)) 0 0 (va_A (xw ad ca kf vf bf w op (nI L) nx en ok tf nb ef ff fi ek ev) sz) := by
  intro sz
  refine Met.ofW (cc := cX2_appendFoot) (maxL := 3) (ret := none) (by decide) rfl ?_
  intro p e s m args below meth c s₁ B hml hv
  obtain ⟨rfl, hsz, hP, hK, hD0, hE⟩ := hv
  have hx := B.exec
  have hb := B.bytes
  have hr := B.returns
  have hts := atoms_spec (ws := wsX2_appendFoot) B.pre
  have hown : s.vm.findClass RX2 = some m.cls := findClass_of_methodNamed B.named
  have hlocks := B.notSynchronized
  subst hsz
  have hD := hD0.self (sz := s.heap.size)
  generalize hAe : va_A (xw ad ca kf vf bf w op (nI L) nx en ok tf nb ef ff fi ek ev) s.heap.size = A at hD hE ⊢
  have hA : ∀ q : Nat, s.heap.size ≤ q → A q := fun q h => by rw [← hAe]; exact Or.inr h
  have hS : va_S A s.heap s.heap [] := va_S.rf
  have hl := lv_entry ([.ref (ad 4), .int (nI n)]) (n := 3) (Nat.le_of_ble_eq_true rfl)
  rw [lg_entry_eq]
  generalize (lg_sl ([.ref (ad 4), .int (nI n)]) ++ List.replicate (3 - (lg_sl ([.ref (ad 4), .int (nI n)])).length) Slot.unset).toArray = ls at hl ⊢
  have hl : lv_has ls 3 [(0, .ref (ad 4)), (1, .int (nI n))] := hl
  refine lv_iconst (v := nI 4 + (-1)) hx hb dX2_appendFoot_0 (by decide) ?_
  refine lv_istore_n hx hb dX2_appendFoot_1 rfl hl (by decide) rfl (fun ls hl => ?_)
  have hl : lv_has ls 3 [(2, .int (nI 4 + (-1))), (0, .ref (ad 4)), (1, .int (nI n))] := hl
  refine lpX2_appendFoot_go hx hb hml hown hts hK hA hE (L := L) (n := n) hL hn 4 _ _ _ (Nat.le_refl _) hl hP hD hS (fun H locs ls hP hD hS => ?_)
  have hP9 := hP
  have hD9 := hD
  exact W.vret hx hb hr (fun t ht hW => ⟨⟨(), rfl, trivial, by rw [ht]; exact hP9, va_K.moved hW.alike hK, hD9⟩, hS.F ht⟩) hS.2.2 dX2_appendFoot_22

set_option maxHeartbeats 4000000 in
set_option maxRecDepth 100000 in
theorem lpX2_foot_go {p : Program} {l : Launch} {e : Env} {s : State} {m : MethodId} {args : Array Value} {below : List Frame} {meth : Method} {c : Code} {Q : State → Prop} {A : Nat → Prop} {dC : Nat → ClassId} {dI : Nat → Nat → Nat} {ca : Nat → ClassId} {ad : Nat → Nat} (hx : p.tables.exec = Jvm.exec) (hb : c.code = cX2_foot) (hml : c.maxLocals = 4) (hown : s.vm.findClass RX2 = some m.cls) (hts : ∀ w ∈ wsX2_foot, w.before args s = true) (hK : va_K (dC, dI) vwCl (xt ca) s) (hA : ∀ q : Nat, s.heap.size ≤ q → A q) (hE : xn_E A s) {kf : Nat → Int32} {vf : Nat → Int64} {bf : Nat → Int32} {w : Int32} {op : Int32} {nx : Int32} {en : Int32} {ok : Int32} {tf : Nat → Int32} {nb : Int32} {ef : Nat → Int32} {ff : Nat → Int32} {fi : Int32} {ek : Int32} {ev : Int64} {L : Nat} (hL : L ≤ 4889) (h4 : 4 ≤ L) : ∀ (k : Nat)  (H : Heap) (locs : List Loc) (ls : Array Slot), k ≤ 4 → lv_has ls 4 [(3, .int (nI (L - k))), (1, .long (lN (pf_n tf (L - 4) (4 - k)))), (0, .ref (ad 4))] → va_P (dC, dI) vwCl (xw ad ca kf vf bf w op (nI L) nx en ok tf nb ef ff fi ek ev) H → va_D A (xw ad ca kf vf bf w op (nI L) nx en ok tf nb ef ff fi ek ev) → va_S A s.heap H locs → (∀ (H : Heap) (locs : List Loc) (ls : Array Slot), lv_has ls 4 [(1, .long (lN (pf_n tf (L - 4) 4)))] → va_P (dC, dI) vwCl (xw ad ca kf vf bf w op (nI L) nx en ok tf nb ef ff fi ek ev) H → va_D A (xw ad ca kf vf bf w op (nI L) nx en ok tf nb ef ff fi ek ev) → va_S A s.heap H locs → W p l e ({ frames := 1, cells := 0, slots := 0, locals := 21 } : Room) s m args below meth c H locs 0 0 Q (F0 m 35 ls [])) → W p l e ({ frames := 1, cells := 0, slots := 0, locals := 21 } : Room) s m args below meth c H locs 0 0 Q (F0 m 9 ls []) := by
  intro k
  induction k with
  | zero =>
    intro  H locs ls hk hl hP hD hS kk
    have hl : lv_has ls 4 [(3, .int (nI (L - 0))), (1, .long (lN (pf_n tf (L - 4) (4 - 0)))), (0, .ref (ad 4))] := hl
    refine lv_iload_n hx hb dX2_foot_9 rfl (lv_at hl 0 rfl) ?_
    refine lv_aload_n hx hb dX2_foot_10 rfl (lv_at hl 2 rfl) ?_
    refine va_get (D := (dC, dI)) (ci := 2) (v := .int (nI L)) (C := RX2) (T := TX2) (N := 5) (ref := "SortedRun$Table") hx hb hts (xg_u mb_uws_X2) hown hK hP 4 rfl rfl 1 (by decide) (xg_w hts mb_fieldLink_RX2_15) (fun _ h9 => h9) rfl dX2_foot_11 ?_
    refine lv_icmp_ge (tgt := 35) hx hb dX2_foot_14 rfl (fun hc => ?_) (fun hc => absurd hc (not_not_intro (nI_le (by omega) (by omega))))
    exact kk H locs ls (lv_sub hl [1] rfl) hP hD hS
  | succ k ih =>
    intro  H locs ls hk hl hP hD hS kk
    have hl : lv_has ls 4 [(3, .int (nI (L - (k + 1)))), (1, .long (lN (pf_n tf (L - 4) (4 - (k + 1))))), (0, .ref (ad 4))] := hl
    refine lv_iload_n hx hb dX2_foot_9 rfl (lv_at hl 0 rfl) ?_
    refine lv_aload_n hx hb dX2_foot_10 rfl (lv_at hl 2 rfl) ?_
    refine va_get (D := (dC, dI)) (ci := 2) (v := .int (nI L)) (C := RX2) (T := TX2) (N := 5) (ref := "SortedRun$Table") hx hb hts (xg_u mb_uws_X2) hown hK hP 4 rfl rfl 1 (by decide) (xg_w hts mb_fieldLink_RX2_15) (fun _ h9 => h9) rfl dX2_foot_11 ?_
    refine lv_icmp_ge (tgt := 35) hx hb dX2_foot_14 rfl (fun hc => absurd hc (by rw [nI_leI (by omega) (by omega)]; omega)) (fun hc => ?_)
    refine lv_lload_n hx hb dX2_foot_17 rfl (lv_at hl 1 rfl) ?_
    refine lv_bipush (v := nI 8) hx hb dX2_foot_18 (by decide) ?_
    refine lv_lshl (v := lN (pf_n tf (L - 4) (4 - (k + 1)) * 256)) hx hb dX2_foot_20 (wb_shl _ (k := 8) (by decide)) ?_
    refine lv_aload_n hx hb dX2_foot_21 rfl (lv_at hl 2 rfl) ?_
    refine lv_iload_n hx hb dX2_foot_22 rfl (lv_at hl 0 rfl) ?_
    refine xk_i (va_runV (As := [.int (nI (L - (k + 1)))]) (rest := [.long (lN (pf_n tf (L - 4) (4 - (k + 1)) * 256))]) ⟨hx, hb, hml, hown, hts⟩ (cX2_byteAt_m l dC dI ca ad kf vf bf w op (nI L) nx en ok tf nb ef ff fi ek ev (L - (k + 1)) (by omega) _) (cwV 1 hts (xg_V mb_methodLink_RX2_29 mb_instanceMethod_yX2_byteAt mb_selects_yX2_byteAt mb_initialized_RX2 mb_code_yX2_byteAt) rfl rfl rfl ⟨rfl, by decide, by decide, by decide +kernel⟩ ⟨Nat.le_of_ble_eq_true rfl, Nat.le_of_ble_eq_true rfl⟩) (xpreV (va_recv (q0 := 4) hK hP rfl rfl) hK hP hD hS hA hE) rfl rfl hl.1 rfl (lv_room (Nat.le_of_ble_eq_true rfl)) dX2_foot_23 ⟨Nat.le_of_ble_eq_true rfl, Nat.le_of_ble_eq_true rfl⟩) hD hS hA (fun r u H locs hu hP hD hS => ?_)
    subst hu
    have hP : va_P (dC, dI) vwCl (xw ad ca kf vf bf w op (nI L) nx en ok tf nb ef ff fi ek ev) H := hP
    have hD : va_D A (xw ad ca kf vf bf w op (nI L) nx en ok tf nb ef ff fi ek ev) := hD
    refine lv_i2l (v := lN (pb_ub tf (L - (k + 1)))) hx hb dX2_foot_26 (nI_l (Nat.lt_trans (pb_ub_lt tf _) (by decide))) ?_
    have e9 : pf_n tf (L - 4) (4 - (k + 1)) * 256 + pb_ub tf (L - (k + 1)) = pf_n tf (L - 4) (4 - k) := by
      rw [show 4 - k = 4 - (k + 1) + 1 by omega]
      show _ = pf_n tf (L - 4) (4 - (k + 1)) * 256 + pb_ub tf (L - 4 + (4 - (k + 1)))
      rw [show L - 4 + (4 - (k + 1)) = L - (k + 1) by omega]
    refine lv_ladd hx hb dX2_foot_27 ?_
    refine lv_topl (fun z1 ez1 => ?_)
    have ez1 : z1 = lN (pf_n tf (L - 4) (4 - k)) := ez1.trans ((lN_add _ _).trans (congrArg lN e9))
    subst ez1
    refine lv_lstore_n hx hb dX2_foot_28 rfl hl (by decide) rfl (fun ls hl => ?_)
    have hl : lv_has ls 4 [(1, .long (lN (pf_n tf (L - 4) (4 - k)))), (3, .int (nI (L - (k + 1)))), (0, .ref (ad 4))] := hl
    refine lv_iinc (k := 1) (v := nI (L - k)) hx hb dX2_foot_29 hl rfl ((nI_1 _).trans (congrArg nI (by omega))) (by decide) rfl (fun ls hl => ?_)
    have hl : lv_has ls 4 [(3, .int (nI (L - k))), (1, .long (lN (pf_n tf (L - 4) (4 - k)))), (0, .ref (ad 4))] := hl
    refine lv_goto (tgt := 9) hx hb dX2_foot_32 rfl ?_
    exact ih _ _ _ (by omega) hl hP hD hS kk

set_option maxHeartbeats 4000000 in
set_option maxRecDepth 100000 in
theorem cX2_foot_m (l : Launch) (dC : Nat → ClassId) (dI : Nat → Nat → Nat) (ca : Nat → ClassId) (ad : Nat → Nat) (kf : Nat → Int32) (vf : Nat → Int64) (bf : Nat → Int32) (w : Int32) (op : Int32) (nx : Int32) (en : Int32) (ok : Int32) (tf : Nat → Int32) (nb : Int32) (ef : Nat → Int32) (ff : Nat → Int32) (fi : Int32) (ek : Int32) (ev : Int64) (L : Nat) (hL : L ≤ 4889) (h4 : 4 ≤ L) : ∀ sz : Nat, Met l yX2_foot wsX2_foot ({ frames := 1, cells := 0, slots := 0, locals := 21 } : Room) (va_Pc [.ref (ad 4)] (xP (dC, dI) (xt ca) (xw ad ca kf vf bf w op (nI L) nx en ok tf nb ef ff fi ek ev) sz)) (va_Ql (S := Unit) (fun r _ => r = lN (pf_n tf (L - 4) 4)) (fun u t => xB (dC, dI) (xt ca) (va_A (xw ad ca kf vf bf w op (nI L) nx en ok tf nb ef ff fi ek ev) sz) (xw ad ca kf vf bf w op (nI L) nx en ok tf nb ef ff fi ek ev) t) (va_A (xw ad ca kf vf bf w op (nI L) nx en ok tf nb ef ff fi ek ev) sz)) 0 0 (va_A (xw ad ca kf vf bf w op (nI L) nx en ok tf nb ef ff fi ek ev) sz) := by
  intro sz
  refine Met.ofW (cc := cX2_foot) (maxL := 4) (ret := (some .long)) (by decide) rfl ?_
  intro p e s m args below meth c s₁ B hml hv
  obtain ⟨rfl, hsz, hP, hK, hD0, hE⟩ := hv
  have hx := B.exec
  have hb := B.bytes
  have hr := B.returns
  have hts := atoms_spec (ws := wsX2_foot) B.pre
  have hown : s.vm.findClass RX2 = some m.cls := findClass_of_methodNamed B.named
  have hlocks := B.notSynchronized
  subst hsz
  have hD := hD0.self (sz := s.heap.size)
  generalize hAe : va_A (xw ad ca kf vf bf w op (nI L) nx en ok tf nb ef ff fi ek ev) s.heap.size = A at hD hE ⊢
  have hA : ∀ q : Nat, s.heap.size ≤ q → A q := fun q h => by rw [← hAe]; exact Or.inr h
  have hS : va_S A s.heap s.heap [] := va_S.rf
  have hl := lv_entry ([.ref (ad 4)]) (n := 4) (Nat.le_of_ble_eq_true rfl)
  rw [lg_entry_eq]
  generalize (lg_sl ([.ref (ad 4)]) ++ List.replicate (4 - (lg_sl ([.ref (ad 4)])).length) Slot.unset).toArray = ls at hl ⊢
  have hl : lv_has ls 4 [(0, .ref (ad 4))] := hl
  refine lv_lconst (v := lN (pf_n tf (L - 4) (4 - 4))) hx hb dX2_foot_0 (rfl) ?_
  refine lv_lstore_n hx hb dX2_foot_1 rfl hl (by decide) rfl (fun ls hl => ?_)
  have hl : lv_has ls 4 [(1, .long (lN (pf_n tf (L - 4) (4 - 4)))), (0, .ref (ad 4))] := hl
  refine lv_aload_n hx hb dX2_foot_2 rfl (lv_at hl 1 rfl) ?_
  refine va_get (D := (dC, dI)) (ci := 2) (v := .int (nI L)) (C := RX2) (T := TX2) (N := 5) (ref := "SortedRun$Table") hx hb hts (xg_u mb_uws_X2) hown hK hP 4 rfl rfl 1 (by decide) (xg_w hts mb_fieldLink_RX2_15) (fun _ h9 => h9) rfl dX2_foot_3 ?_
  refine lv_iconst (v := nI 4) hx hb dX2_foot_6 (by decide) ?_
  refine lv_isub hx hb dX2_foot_7 ?_
  refine lv_topi (fun z1 ez1 => ?_)
  have ez1 : z1 = nI (L - 4) := ez1.trans (pk_sub h4)
  subst ez1
  refine lv_istore_n hx hb dX2_foot_8 rfl hl (by decide) rfl (fun ls hl => ?_)
  have hl : lv_has ls 4 [(3, .int (nI (L - 4))), (1, .long (lN (pf_n tf (L - 4) (4 - 4)))), (0, .ref (ad 4))] := hl
  refine lpX2_foot_go hx hb hml hown hts hK hA hE hL h4 4 _ _ _ (Nat.le_refl _) hl hP hD hS (fun H locs ls hl hP hD hS => ?_)
  refine lv_lload_n hx hb dX2_foot_35 rfl (lv_at hl 0 rfl) ?_
  have hP9 := hP
  have hD9 := hD
  exact W.lret (v := lN (pf_n tf (L - 4) 4)) hx hb hr (fun t ht hW => ⟨⟨lN (pf_n tf (L - 4) 4), (), rfl, rfl, by rw [ht]; exact hP9, va_K.moved hW.alike hK, hD9⟩, hS.F ht⟩) hS.2.2 dX2_foot_36
end
section
/-! Table, sums and numbers read (rows by wip/whole/wtab.py) -/
set_option maxHeartbeats 4000000 in
set_option maxRecDepth 100000 in
theorem lpX2_hasSum_go {p : Program} {l : Launch} {e : Env} {s : State} {m : MethodId} {args : Array Value} {below : List Frame} {meth : Method} {c : Code} {Q : State → Prop} {A : Nat → Prop} {dC : Nat → ClassId} {dI : Nat → Nat → Nat} {ca : Nat → ClassId} {ad : Nat → Nat} (hx : p.tables.exec = Jvm.exec) (hb : c.code = cX2_hasSum) (hml : c.maxLocals = 5) (hown : s.vm.findClass RX2 = some m.cls) (hts : ∀ w ∈ wsX2_hasSum, w.before args s = true) (hK : va_K (dC, dI) vwCl (xt ca) s) (hA : ∀ q : Nat, s.heap.size ≤ q → A q) (hE : xn_E A s) {kf : Nat → Int32} {vf : Nat → Int64} {bf : Nat → Int32} {w : Int32} {op : Int32} {ln : Int32} {nx : Int32} {en : Int32} {ok : Int32} {tf : Nat → Int32} {nb : Int32} {ef : Nat → Int32} {ff : Nat → Int32} {fi : Int32} {ek : Int32} {ev : Int64} {a b : Nat} {x : Int32} (hb9 : b + 4 ≤ 4889) : ∀ (k : Nat)  (H : Heap) (locs : List Loc) (ls : Array Slot), k ≤ 4 → (∀ j, j < 4 - k → pb_ub tf (b + j) = ps_w tf a b / 2 ^ (8 * j) % 256) → lv_has ls 5 [(4, .int (nI (4 - k))), (3, .int (nI (ps_w tf a b))), (0, .ref (ad 4)), (1, .int x), (2, .int (nI b))] → va_P (dC, dI) vwCl (xw ad ca kf vf bf w op ln nx en ok tf nb ef ff fi ek ev) H → va_D A (xw ad ca kf vf bf w op ln nx en ok tf nb ef ff fi ek ev) → va_S A s.heap H locs → (ps_has tf a b → ∀ (H : Heap) (locs : List Loc) (ls : Array Slot), va_P (dC, dI) vwCl (xw ad ca kf vf bf w op ln nx en ok tf nb ef ff fi ek ev) H → va_D A (xw ad ca kf vf bf w op ln nx en ok tf nb ef ff fi ek ev) → va_S A s.heap H locs → W p l e ({ frames := 2, cells := 0, slots := 0, locals := 45 } : Room) s m args below meth c H locs 0 0 Q (F0 m 46 ls [])) → (¬ ps_has tf a b → ∀ (H : Heap) (locs : List Loc) (ls : Array Slot), va_P (dC, dI) vwCl (xw ad ca kf vf bf w op ln nx en ok tf nb ef ff fi ek ev) H → va_D A (xw ad ca kf vf bf w op ln nx en ok tf nb ef ff fi ek ev) → va_S A s.heap H locs → W p l e ({ frames := 2, cells := 0, slots := 0, locals := 45 } : Room) s m args below meth c H locs 0 0 Q (F0 m 38 ls [])) → W p l e ({ frames := 2, cells := 0, slots := 0, locals := 45 } : Room) s m args below meth c H locs 0 0 Q (F0 m 10 ls []) := by
  intro k
  induction k with
  | zero =>
    intro  H locs ls hk hq hl hP hD hS kk kn
    have hl : lv_has ls 5 [(4, .int (nI (4 - 0))), (3, .int (nI (ps_w tf a b))), (0, .ref (ad 4)), (1, .int x), (2, .int (nI b))] := hl
    refine lv_iload hx hb dX2_hasSum_10 (lv_at hl 0 rfl) ?_
    refine lv_iconst (v := nI 4) hx hb dX2_hasSum_12 (by decide) ?_
    refine lv_icmp_ge (tgt := 46) hx hb dX2_hasSum_13 rfl (fun hc => ?_) (fun hc => absurd hc (not_not_intro (by decide)))
    exact kk hq H locs ls hP hD hS
  | succ k ih =>
    intro  H locs ls hk hq hl hP hD hS kk kn
    have hl : lv_has ls 5 [(4, .int (nI (4 - (k + 1)))), (3, .int (nI (ps_w tf a b))), (0, .ref (ad 4)), (1, .int x), (2, .int (nI b))] := hl
    refine lv_iload hx hb dX2_hasSum_10 (lv_at hl 0 rfl) ?_
    refine lv_iconst (v := nI 4) hx hb dX2_hasSum_12 (by decide) ?_
    refine lv_icmp_ge (tgt := 46) hx hb dX2_hasSum_13 rfl (fun hc => absurd hc (by rw [nI_leI (by decide) (by omega)]; omega)) (fun hc => ?_)
    refine lv_aload_n hx hb dX2_hasSum_16 rfl (lv_at hl 2 rfl) ?_
    refine lv_iload_n hx hb dX2_hasSum_17 rfl (lv_at hl 4 rfl) ?_
    refine lv_iload hx hb dX2_hasSum_18 (lv_at hl 0 rfl) ?_
    refine lv_iadd hx hb dX2_hasSum_20 ?_
    refine lv_topi (fun z1 ez1 => ?_)
    have ez1 : z1 = nI (b + (4 - (k + 1))) := ez1.trans (nI_add _ _)
    subst ez1
    refine xk_i (va_runV (As := [.int (nI (b + (4 - (k + 1))))]) (rest := []) ⟨hx, hb, hml, hown, hts⟩ (cX2_byteAt_m l dC dI ca ad kf vf bf w op ln nx en ok tf nb ef ff fi ek ev (b + (4 - (k + 1))) (by omega) _) (cwV 1 hts (xg_V mb_methodLink_RX2_29 mb_instanceMethod_yX2_byteAt mb_selects_yX2_byteAt mb_initialized_RX2 mb_code_yX2_byteAt) rfl rfl rfl ⟨rfl, by decide, by decide, by decide +kernel⟩ ⟨Nat.le_of_ble_eq_true rfl, Nat.le_of_ble_eq_true rfl⟩) (xpreV (va_recv (q0 := 4) hK hP rfl rfl) hK hP hD hS hA hE) rfl rfl hl.1 rfl (lv_room (Nat.le_of_ble_eq_true rfl)) dX2_hasSum_21 ⟨Nat.le_of_ble_eq_true rfl, Nat.le_of_ble_eq_true rfl⟩) hD hS hA (fun r u H locs hu hP hD hS => ?_)
    subst hu
    have hP : va_P (dC, dI) vwCl (xw ad ca kf vf bf w op ln nx en ok tf nb ef ff fi ek ev) H := hP
    have hD : va_D A (xw ad ca kf vf bf w op ln nx en ok tf nb ef ff fi ek ev) := hD
    refine lv_iload_n hx hb dX2_hasSum_24 rfl (lv_at hl 1 rfl) ?_
    refine lv_bipush (v := nI 8) hx hb dX2_hasSum_25 (by decide) ?_
    refine lv_iload hx hb dX2_hasSum_27 (lv_at hl 0 rfl) ?_
    refine lv_imul hx hb dX2_hasSum_29 ?_
    refine lv_topi (fun z2 ez2 => ?_)
    have ez2 : z2 = nI (8 * (4 - (k + 1))) := ez2.trans (pk_mul _ _)
    subst ez2
    refine lv_iushr (v := nI (ps_w tf a b / 2 ^ (8 * (4 - (k + 1))))) hx hb dX2_hasSum_30 (pk_ushrN (n := ps_w tf a b) (ps_w_lt tf a b) _ _ (s_u _ (by omega))) ?_
    refine lv_sipush (v := nI 255) hx hb dX2_hasSum_31 (by decide) ?_
    refine lv_iand hx hb dX2_hasSum_34 ?_
    refine lv_topi (fun z3 ez3 => ?_)
    have ez3 : z3 = nI (ps_w tf a b / 2 ^ (8 * (4 - (k + 1))) % 256) := ez3.trans (pk_andN (n := ps_w tf a b / 2 ^ (8 * (4 - (k + 1)))) (Nat.lt_of_le_of_lt (Nat.div_le_self _ _) (ps_w_lt tf a b)) 8 (by decide))
    subst ez3
    refine lv_icmp_eq (tgt := 40) hx hb dX2_hasSum_35 rfl (fun hc => ?_) (fun hc => ?_)
    · have hc1 : pb_ub tf (b + (4 - (k + 1))) = ps_w tf a b / 2 ^ (8 * (4 - (k + 1))) % 256 := (nI_eq (Nat.lt_trans (pb_ub_lt tf _) (by decide)) (Nat.lt_trans (Nat.mod_lt _ (by decide)) (by decide))).mp hc
      refine lv_iinc (k := 0) (v := nI (4 - k)) hx hb dX2_hasSum_40 hl rfl ((nI_1 _).trans (congrArg nI (by omega))) (by decide) rfl (fun ls hl => ?_)
      have hl : lv_has ls 5 [(4, .int (nI (4 - k))), (3, .int (nI (ps_w tf a b))), (0, .ref (ad 4)), (1, .int x), (2, .int (nI b))] := hl
      refine lv_goto (tgt := 10) hx hb dX2_hasSum_43 rfl ?_
      refine ih _ _ _ (by omega) (fun j hj => ?_) hl hP hD hS kk kn
      by_cases e : j = (4 - (k + 1))
      · subst e; exact hc1
      · exact hq j (by omega)
    · exact kn (fun hh => hc (congrArg nI (hh (4 - (k + 1)) (by omega)))) H locs ls hP hD hS

set_option maxHeartbeats 4000000 in
set_option maxRecDepth 100000 in
theorem cX2_hasSum_m (l : Launch) (dC : Nat → ClassId) (dI : Nat → Nat → Nat) (ca : Nat → ClassId) (ad : Nat → Nat) (kf : Nat → Int32) (vf : Nat → Int64) (bf : Nat → Int32) (w : Int32) (op : Int32) (ln : Int32) (nx : Int32) (en : Int32) (ok : Int32) (tf : Nat → Int32) (nb : Int32) (ef : Nat → Int32) (ff : Nat → Int32) (fi : Int32) (ek : Int32) (ev : Int64) (a b : Nat) (hab : a ≤ b) (hb9 : b + 4 ≤ 4889) : ∀ sz : Nat, Met l yX2_hasSum wsX2_hasSum ({ frames := 2, cells := 0, slots := 0, locals := 45 } : Room) (va_Pc [.ref (ad 4), .int (nI a), .int (nI b)] (xP (dC, dI) (xt ca) (xw ad ca kf vf bf w op ln nx en ok tf nb ef ff fi ek ev) sz)) (va_Qi (S := Unit) (fun r _ => (r = 1 ∧ ps_has tf a b) ∨ (r = 0 ∧ ¬ ps_has tf a b)) (fun u t => xB (dC, dI) (xt ca) (va_A (xw ad ca kf vf bf w op ln nx en ok tf nb ef ff fi ek ev) sz) (xw ad ca kf vf bf w op ln nx en ok tf nb ef ff fi ek ev) t) (va_A (xw ad ca kf vf bf w op ln nx en ok tf nb ef ff fi ek ev) sz)) 0 0 (va_A (xw ad ca kf vf bf w op ln nx en ok tf nb ef ff fi ek ev) sz) := by
  intro sz
  refine Met.ofW (cc := cX2_hasSum) (maxL := 5) (ret := (some .boolean)) (by decide) rfl ?_
  intro p e s m args below meth c s₁ B hml hv
  obtain ⟨rfl, hsz, hP, hK, hD0, hE⟩ := hv
  have hx := B.exec
  have hb := B.bytes
  have hr := B.returns
  have hts := atoms_spec (ws := wsX2_hasSum) B.pre
  have hown : s.vm.findClass RX2 = some m.cls := findClass_of_methodNamed B.named
  have hlocks := B.notSynchronized
  subst hsz
  have hD := hD0.self (sz := s.heap.size)
  generalize hAe : va_A (xw ad ca kf vf bf w op ln nx en ok tf nb ef ff fi ek ev) s.heap.size = A at hD hE ⊢
  have hA : ∀ q : Nat, s.heap.size ≤ q → A q := fun q h => by rw [← hAe]; exact Or.inr h
  have hS : va_S A s.heap s.heap [] := va_S.rf
  have hl := lv_entry ([.ref (ad 4), .int (nI a), .int (nI b)]) (n := 5) (Nat.le_of_ble_eq_true rfl)
  rw [lg_entry_eq]
  generalize (lg_sl ([.ref (ad 4), .int (nI a), .int (nI b)]) ++ List.replicate (5 - (lg_sl ([.ref (ad 4), .int (nI a), .int (nI b)])).length) Slot.unset).toArray = ls at hl ⊢
  have hl : lv_has ls 5 [(0, .ref (ad 4)), (1, .int (nI a)), (2, .int (nI b))] := hl
  refine lv_aload_n hx hb dX2_hasSum_0 rfl (lv_at hl 0 rfl) ?_
  refine lv_iload_n hx hb dX2_hasSum_1 rfl (lv_at hl 1 rfl) ?_
  refine lv_iload_n hx hb dX2_hasSum_2 rfl (lv_at hl 2 rfl) ?_
  refine xk_i (va_runV (As := [.int (nI a), .int (nI b)]) (rest := []) ⟨hx, hb, hml, hown, hts⟩ (cX2_sumOf_m l dC dI ca ad kf vf bf w op ln nx en ok tf nb ef ff fi ek ev a b hab (by omega) _) (cwV 2 hts (xg_V mb_methodLink_RX2_25 mb_instanceMethod_yX2_sumOf mb_selects_yX2_sumOf mb_initialized_RX2 mb_code_yX2_sumOf) rfl rfl rfl ⟨rfl, by decide, by decide, by decide +kernel⟩ ⟨Nat.le_of_ble_eq_true rfl, Nat.le_of_ble_eq_true rfl⟩) (xpreV (va_recv (q0 := 4) hK hP rfl rfl) hK hP hD hS hA hE) rfl rfl hl.1 rfl (lv_room (Nat.le_of_ble_eq_true rfl)) dX2_hasSum_3 ⟨Nat.le_of_ble_eq_true rfl, Nat.le_of_ble_eq_true rfl⟩) hD hS hA (fun r u H locs hu hP hD hS => ?_)
  subst hu
  have hP : va_P (dC, dI) vwCl (xw ad ca kf vf bf w op ln nx en ok tf nb ef ff fi ek ev) H := hP
  have hD : va_D A (xw ad ca kf vf bf w op ln nx en ok tf nb ef ff fi ek ev) := hD
  refine lv_istore_n hx hb dX2_hasSum_6 rfl hl (by decide) rfl (fun ls hl => ?_)
  have hl : lv_has ls 5 [(3, .int (nI (ps_w tf a b))), (0, .ref (ad 4)), (1, .int (nI a)), (2, .int (nI b))] := hl
  refine lv_iconst (v := nI (4 - 4)) hx hb dX2_hasSum_7 (by decide) ?_
  refine lv_istore hx hb dX2_hasSum_8 hl (by decide) rfl (fun ls hl => ?_)
  have hl : lv_has ls 5 [(4, .int (nI (4 - 4))), (3, .int (nI (ps_w tf a b))), (0, .ref (ad 4)), (1, .int (nI a)), (2, .int (nI b))] := hl
  refine lpX2_hasSum_go hx hb hml hown hts hK hA hE (a := a) (b := b) hb9 4 _ _ _ (Nat.le_refl _) (fun j hj => absurd hj (by omega)) hl hP hD hS (fun hh H locs ls hP hD hS => ?_) (fun hh H locs ls hP hD hS => ?_)
  · refine lv_iconst (v := 1) hx hb dX2_hasSum_46 (by decide) ?_
    have hP9 := hP
    have hD9 := hD
    exact W.zret (v := 1) hx hb hr (by rfl) (fun t ht hW => ⟨⟨1, (), rfl, Or.inl ⟨rfl, hh⟩, by rw [ht]; exact hP9, va_K.moved hW.alike hK, hD9⟩, hS.F ht⟩) hS.2.2 dX2_hasSum_47
  · refine lv_iconst (v := 0) hx hb dX2_hasSum_38 (by decide) ?_
    have hP9 := hP
    have hD9 := hD
    exact W.zret (v := 0) hx hb hr (by rfl) (fun t ht hW => ⟨⟨0, (), rfl, Or.inr ⟨rfl, hh⟩, by rw [ht]; exact hP9, va_K.moved hW.alike hK, hD9⟩, hS.F ht⟩) hS.2.2 dX2_hasSum_39

set_option maxHeartbeats 4000000 in
set_option maxRecDepth 100000 in
theorem lpX2_takeNumber_go {p : Program} {l : Launch} {e : Env} {s : State} {m : MethodId} {args : Array Value} {below : List Frame} {meth : Method} {c : Code} {Q : State → Prop} {A : Nat → Prop} {dC : Nat → ClassId} {dI : Nat → Nat → Nat} {ca : Nat → ClassId} {ad : Nat → Nat} (hx : p.tables.exec = Jvm.exec) (hb : c.code = cX2_takeNumber) (hml : c.maxLocals = 5) (hown : s.vm.findClass RX2 = some m.cls) (hts : ∀ w ∈ wsX2_takeNumber, w.before args s = true) (hK : va_K (dC, dI) vwCl (xt ca) s) (hA : ∀ q : Nat, s.heap.size ≤ q → A q) (hE : xn_E A s) {kf : Nat → Int32} {vf : Nat → Int64} {bf : Nat → Int32} {w : Int32} {op : Int32} {ln : Int32} {ok : Int32} {tf : Nat → Int32} {nb : Int32} {ef : Nat → Int32} {ff : Nat → Int32} {fi : Int32} {ek : Int32} {ev : Int64} {b : Nat} (hb9 : b ≤ 4889) : ∀ (k : Nat) (a v : Nat) (H : Heap) (locs : List Loc) (ls : Array Slot), k ≤ 10 → a ≤ b → v < 2 ^ (7 * (10 - k)) → lv_has ls 5 [(3, .int (nI (10 - k))), (1, .long (lN v)), (0, .ref (ad 4))] → va_P (dC, dI) vwCl (xw ad ca kf vf bf w op ln (nI a) (nI b) ok tf nb ef ff fi ek ev) H → va_D A (xw ad ca kf vf bf w op ln (nI a) (nI b) ok tf nb ef ff fi ek ev) → va_S A s.heap H locs → (∀ n a', pb_rdn tf b k (10 - k) a v = some (n, a') → ∀ (H : Heap) (locs : List Loc) (ls : Array Slot), lv_has ls 5 [(1, .long (lN n))] → va_P (dC, dI) vwCl (xw ad ca kf vf bf w op ln (nI a') (nI b) ok tf nb ef ff fi ek ev) H → va_D A (xw ad ca kf vf bf w op ln (nI a') (nI b) ok tf nb ef ff fi ek ev) → va_S A s.heap H locs → W p l e ({ frames := 1, cells := 0, slots := 0, locals := 21 } : Room) s m args below meth c H locs 0 0 Q (F0 m 78 ls [])) → (pb_rdn tf b k (10 - k) a v = none → ∀ a', a ≤ a' → a' ≤ b → ∀ (H : Heap) (locs : List Loc) (ls : Array Slot), lv_has ls 5 [(0, .ref (ad 4))] → va_P (dC, dI) vwCl (xw ad ca kf vf bf w op ln (nI a') (nI b) ok tf nb ef ff fi ek ev) H → va_D A (xw ad ca kf vf bf w op ln (nI a') (nI b) ok tf nb ef ff fi ek ev) → va_S A s.heap H locs → W p l e ({ frames := 1, cells := 0, slots := 0, locals := 21 } : Room) s m args below meth c H locs 0 0 Q (F0 m 86 ls [])) → W p l e ({ frames := 1, cells := 0, slots := 0, locals := 21 } : Room) s m args below meth c H locs 0 0 Q (F0 m 4 ls []) := by
  intro k
  induction k with
  | zero =>
    intro a v H locs ls hk ha hv hl hP hD hS kk kn
    have hl : lv_has ls 5 [(3, .int (nI (10 - 0))), (1, .long (lN v)), (0, .ref (ad 4))] := hl
    refine lv_iload_n hx hb dX2_takeNumber_4 rfl (lv_at hl 0 rfl) ?_
    refine lv_bipush (v := nI 10) hx hb dX2_takeNumber_5 (by decide) ?_
    refine lv_icmp_ge (tgt := 86) hx hb dX2_takeNumber_7 rfl (fun hc => ?_) (fun hc => absurd hc (not_not_intro (by decide)))
    exact kn rfl a (Nat.le_refl _) ha H locs ls (lv_sub hl [2] rfl) hP hD hS
  | succ k ih =>
    intro a v H locs ls hk ha hv hl hP hD hS kk kn
    have hl : lv_has ls 5 [(3, .int (nI (10 - (k + 1)))), (1, .long (lN v)), (0, .ref (ad 4))] := hl
    refine lv_iload_n hx hb dX2_takeNumber_4 rfl (lv_at hl 0 rfl) ?_
    refine lv_bipush (v := nI 10) hx hb dX2_takeNumber_5 (by decide) ?_
    refine lv_icmp_ge (tgt := 86) hx hb dX2_takeNumber_7 rfl (fun hc => absurd hc (by rw [nI_leI (by decide) (by omega)]; omega)) (fun hc => ?_)
    refine lv_aload_n hx hb dX2_takeNumber_10 rfl (lv_at hl 2 rfl) ?_
    refine va_get (D := (dC, dI)) (ci := 2) (v := .int (nI a)) (C := RX2) (T := TX2) (N := 5) (ref := "SortedRun$Table") hx hb hts (xg_u mb_uws_X2) hown hK hP 4 rfl rfl 2 (by decide) (xg_w hts mb_fieldLink_RX2_37) (fun _ h9 => h9) rfl dX2_takeNumber_11 ?_
    refine lv_aload_n hx hb dX2_takeNumber_14 rfl (lv_at hl 2 rfl) ?_
    refine va_get (D := (dC, dI)) (ci := 2) (v := .int (nI b)) (C := RX2) (T := TX2) (N := 5) (ref := "SortedRun$Table") hx hb hts (xg_u mb_uws_X2) hown hK hP 4 rfl rfl 3 (by decide) (xg_w hts mb_fieldLink_RX2_40) (fun _ h9 => h9) rfl dX2_takeNumber_15 ?_
    refine lv_icmp_ge (tgt := 86) hx hb dX2_takeNumber_18 rfl (fun hc => ?_) (fun hc => ?_)
    · have hc1 : b ≤ a := (nI_leI (by omega) (by omega)).mp hc
      exact kn (by unfold pb_rdn; rw [if_neg (by omega)]) a (Nat.le_refl _) ha H locs ls (lv_sub hl [2] rfl) hP hD hS
    · have ha1 : a < b := Nat.lt_of_not_le (fun z => hc ((nI_leI (by omega) (by omega)).mpr z))
      have hu9 := pb_ub_lt tf a
      refine lv_aload_n hx hb dX2_takeNumber_21 rfl (lv_at hl 2 rfl) ?_
      refine lv_aload_n hx hb dX2_takeNumber_22 rfl (lv_at hl 2 rfl) ?_
      refine va_get (D := (dC, dI)) (ci := 2) (v := .int (nI a)) (C := RX2) (T := TX2) (N := 5) (ref := "SortedRun$Table") hx hb hts (xg_u mb_uws_X2) hown hK hP 4 rfl rfl 2 (by decide) (xg_w hts mb_fieldLink_RX2_37) (fun _ h9 => h9) rfl dX2_takeNumber_23 ?_
      refine xk_i (va_runV (As := [.int (nI a)]) (rest := []) ⟨hx, hb, hml, hown, hts⟩ (cX2_byteAt_m l dC dI ca ad kf vf bf w op ln (nI a) (nI b) ok tf nb ef ff fi ek ev a (by omega) _) (cwV 1 hts (xg_V mb_methodLink_RX2_29 mb_instanceMethod_yX2_byteAt mb_selects_yX2_byteAt mb_initialized_RX2 mb_code_yX2_byteAt) rfl rfl rfl ⟨rfl, by decide, by decide, by decide +kernel⟩ ⟨Nat.le_of_ble_eq_true rfl, Nat.le_of_ble_eq_true rfl⟩) (xpreV (va_recv (q0 := 4) hK hP rfl rfl) hK hP hD hS hA hE) rfl rfl hl.1 rfl (lv_room (Nat.le_of_ble_eq_true rfl)) dX2_takeNumber_26 ⟨Nat.le_of_ble_eq_true rfl, Nat.le_of_ble_eq_true rfl⟩) hD hS hA (fun r u H locs hu hP hD hS => ?_)
      subst hu
      have hP : va_P (dC, dI) vwCl (xw ad ca kf vf bf w op ln (nI a) (nI b) ok tf nb ef ff fi ek ev) H := hP
      have hD : va_D A (xw ad ca kf vf bf w op ln (nI a) (nI b) ok tf nb ef ff fi ek ev) := hD
      refine lv_istore hx hb dX2_takeNumber_29 hl (by decide) rfl (fun ls hl => ?_)
      have hl : lv_has ls 5 [(4, .int (nI (pb_ub tf a))), (3, .int (nI (10 - (k + 1)))), (1, .long (lN v)), (0, .ref (ad 4))] := hl
      refine lv_aload_n hx hb dX2_takeNumber_31 rfl (lv_at hl 3 rfl) ?_
      refine lv_dup hx hb dX2_takeNumber_32 rfl ?_
      refine va_get (D := (dC, dI)) (ci := 2) (v := .int (nI a)) (C := RX2) (T := TX2) (N := 5) (ref := "SortedRun$Table") hx hb hts (xg_u mb_uws_X2) hown hK hP 4 rfl rfl 2 (by decide) (xg_w hts mb_fieldLink_RX2_37) (fun _ h9 => h9) rfl dX2_takeNumber_33 ?_
      refine lv_iconst (v := 1) hx hb dX2_takeNumber_36 (by decide) ?_
      refine lv_iadd hx hb dX2_takeNumber_37 ?_
      refine lv_topi (fun z1 ez1 => ?_)
      have ez1 : z1 = nI (a + 1) := ez1.trans (nI_1 a)
      subst ez1
      refine va_put (D := (dC, dI)) (ci := 2) (v := .int (nI (a + 1))) (ty := .int) (C := RX2) (T := TX2) (N := 5) (ref := "SortedRun$Table") hx hb hts (xg_u mb_uws_X2) tyX2 tyX2_ok nmX2 hown hK hP hD hS 4 rfl rfl 2 (by decide) (xg_w hts mb_fieldLink_RX2_37) (fun _ h9 => h9) rfl (by decide +kernel) rfl rfl (Nat.le_of_ble_eq_true rfl) dX2_takeNumber_38 (fun H locs hP hD hS => ?_)
      have hP : va_P (dC, dI) vwCl (xw ad ca kf vf bf w op ln (nI (a + 1)) (nI b) ok tf nb ef ff fi ek ev) H := hP
      have hD : va_D A (xw ad ca kf vf bf w op ln (nI (a + 1)) (nI b) ok tf nb ef ff fi ek ev) := hD
      refine lv_iload_n hx hb dX2_takeNumber_41 rfl (lv_at hl 1 rfl) ?_
      refine lv_bipush (v := nI 9) hx hb dX2_takeNumber_42 (by decide) ?_
      refine lv_icmp_ne (tgt := 56) hx hb dX2_takeNumber_44 rfl (fun hc1 => ?_) (fun hc1 => ?_)
      · have hc1 : ¬ (10 - (k + 1)) = 9 := fun z => hc1 (congrArg nI z)
        refine lv_lload_n hx hb dX2_takeNumber_56 rfl (lv_at hl 2 rfl) ?_
        refine lv_iload hx hb dX2_takeNumber_57 (lv_at hl 0 rfl) ?_
        refine lv_bipush (v := nI 127) hx hb dX2_takeNumber_59 (by decide) ?_
        refine lv_iand hx hb dX2_takeNumber_61 ?_
        refine lv_topi (fun z2 ez2 => ?_)
        have ez2 : z2 = nI (pb_ub tf a % 128) := ez2.trans (pk_andN (n := pb_ub tf a) (Nat.lt_trans hu9 (by decide)) 7 (by decide))
        subst ez2
        refine lv_i2l (v := lN (pb_ub tf a % 128)) hx hb dX2_takeNumber_62 (nI_l (Nat.lt_trans (Nat.mod_lt _ (by decide)) (by decide))) ?_
        refine lv_bipush (v := nI 7) hx hb dX2_takeNumber_63 (by decide) ?_
        refine lv_iload_n hx hb dX2_takeNumber_65 rfl (lv_at hl 1 rfl) ?_
        refine lv_imul hx hb dX2_takeNumber_66 ?_
        refine lv_topi (fun z3 ez3 => ?_)
        have ez3 : z3 = nI (7 * (10 - (k + 1))) := ez3.trans (pk_mul _ _)
        subst ez3
        refine lv_lshl (v := lN (pb_ub tf a % 128 * 2 ^ (7 * (10 - (k + 1))))) hx hb dX2_takeNumber_67 (wb_shl _ (k := 7 * (10 - (k + 1))) (by omega)) ?_
        refine lv_ladd hx hb dX2_takeNumber_68 ?_
        refine lv_topl (fun z4 ez4 => ?_)
        have ez4 : z4 = lN (v + pb_ub tf a % 128 * 2 ^ (7 * (10 - (k + 1)))) := ez4.trans (lN_add _ _)
        subst ez4
        refine lv_lstore_n hx hb dX2_takeNumber_69 rfl hl (by decide) rfl (fun ls hl => ?_)
        have hl : lv_has ls 5 [(1, .long (lN (v + pb_ub tf a % 128 * 2 ^ (7 * (10 - (k + 1)))))), (4, .int (nI (pb_ub tf a))), (3, .int (nI (10 - (k + 1)))), (0, .ref (ad 4))] := hl
        refine lv_iload hx hb dX2_takeNumber_70 (lv_at hl 1 rfl) ?_
        refine lv_sipush (v := nI 128) hx hb dX2_takeNumber_72 (by decide) ?_
        refine lv_icmp_ge (tgt := 80) hx hb dX2_takeNumber_75 rfl (fun hc3 => ?_) (fun hc3 => ?_)
        · have hc3 : 128 ≤ pb_ub tf a := (nI_leI (by decide) (Nat.lt_trans hu9 (by decide))).mp hc3
          refine lv_iinc (k := 2) (v := nI (10 - k)) hx hb dX2_takeNumber_80 hl rfl ((nI_1 _).trans (congrArg nI (by omega))) (by decide) rfl (fun ls hl => ?_)
          have hl : lv_has ls 5 [(3, .int (nI (10 - k))), (1, .long (lN (v + pb_ub tf a % 128 * 2 ^ (7 * (10 - (k + 1)))))), (4, .int (nI (pb_ub tf a))), (0, .ref (ad 4))] := hl
          refine lv_goto (tgt := 4) hx hb dX2_takeNumber_83 rfl ?_
          have hr : pb_rdn tf b (k + 1) (10 - (k + 1)) a v = pb_rdn tf b k (10 - k) (a + 1) (v + pb_ub tf a % 128 * 2 ^ (7 * (10 - (k + 1)))) := by
            conv => lhs; unfold pb_rdn
            rw [if_pos ha1, if_neg (by omega : ¬ ((10 - (k + 1)) = 9 ∧ 1 < pb_ub tf a)), if_neg (by omega), show (10 - (k + 1)) + 1 = 10 - k by omega]
          rw [hr] at kk kn
          have hv2 : v + pb_ub tf a % 128 * 2 ^ (7 * (10 - (k + 1))) < 2 ^ (7 * (10 - k)) := by
            have h1 : 2 ^ (7 * (10 - k)) = 128 * 2 ^ (7 * (10 - (k + 1))) := by rw [show 7 * (10 - k) = 7 * (10 - (k + 1)) + 7 by omega, Nat.pow_add, Nat.mul_comm]
            have h2 : pb_ub tf a % 128 * 2 ^ (7 * (10 - (k + 1))) ≤ 127 * 2 ^ (7 * (10 - (k + 1))) := Nat.mul_le_mul_right _ (by omega)
            rw [h1]; omega
          exact ih (a + 1) _ _ _ _ (by omega) (by omega) hv2 (lv_sub hl [0, 1, 3] rfl) hP hD hS kk (fun hn a' h1 h2 => kn hn a' (by omega) h2)
        · have hc3 : pb_ub tf a < 128 := Nat.lt_of_not_le (fun z => hc3 ((nI_leI (by decide) (Nat.lt_trans hu9 (by decide))).mpr z))
          refine kk (v + pb_ub tf a % 128 * 2 ^ (7 * (10 - (k + 1)))) (a + 1) ?_ H locs ls (lv_sub hl [0] rfl) hP hD hS
          unfold pb_rdn
          rw [if_pos ha1, if_neg (by omega : ¬ ((10 - (k + 1)) = 9 ∧ 1 < pb_ub tf a)), if_pos hc3]
      · have hc1 : (10 - (k + 1)) = 9 := (nI_eq (by omega) (by decide)).mp hc1
        refine lv_iload hx hb dX2_takeNumber_47 (lv_at hl 0 rfl) ?_
        refine lv_iconst (v := nI 1) hx hb dX2_takeNumber_49 (by decide) ?_
        refine lv_icmp_le (tgt := 56) hx hb dX2_takeNumber_50 rfl (fun hc2 => ?_) (fun hc2 => ?_)
        · have hc2 : pb_ub tf a ≤ 1 := (nI_leI (Nat.lt_trans hu9 (by decide)) (by decide)).mp hc2
          refine lv_lload_n hx hb dX2_takeNumber_56 rfl (lv_at hl 2 rfl) ?_
          refine lv_iload hx hb dX2_takeNumber_57 (lv_at hl 0 rfl) ?_
          refine lv_bipush (v := nI 127) hx hb dX2_takeNumber_59 (by decide) ?_
          refine lv_iand hx hb dX2_takeNumber_61 ?_
          refine lv_topi (fun z2 ez2 => ?_)
          have ez2 : z2 = nI (pb_ub tf a % 128) := ez2.trans (pk_andN (n := pb_ub tf a) (Nat.lt_trans hu9 (by decide)) 7 (by decide))
          subst ez2
          refine lv_i2l (v := lN (pb_ub tf a % 128)) hx hb dX2_takeNumber_62 (nI_l (Nat.lt_trans (Nat.mod_lt _ (by decide)) (by decide))) ?_
          refine lv_bipush (v := nI 7) hx hb dX2_takeNumber_63 (by decide) ?_
          refine lv_iload_n hx hb dX2_takeNumber_65 rfl (lv_at hl 1 rfl) ?_
          refine lv_imul hx hb dX2_takeNumber_66 ?_
          refine lv_topi (fun z3 ez3 => ?_)
          have ez3 : z3 = nI (7 * (10 - (k + 1))) := ez3.trans (pk_mul _ _)
          subst ez3
          refine lv_lshl (v := lN (pb_ub tf a % 128 * 2 ^ (7 * (10 - (k + 1))))) hx hb dX2_takeNumber_67 (wb_shl _ (k := 7 * (10 - (k + 1))) (by omega)) ?_
          refine lv_ladd hx hb dX2_takeNumber_68 ?_
          refine lv_topl (fun z4 ez4 => ?_)
          have ez4 : z4 = lN (v + pb_ub tf a % 128 * 2 ^ (7 * (10 - (k + 1)))) := ez4.trans (lN_add _ _)
          subst ez4
          refine lv_lstore_n hx hb dX2_takeNumber_69 rfl hl (by decide) rfl (fun ls hl => ?_)
          have hl : lv_has ls 5 [(1, .long (lN (v + pb_ub tf a % 128 * 2 ^ (7 * (10 - (k + 1)))))), (4, .int (nI (pb_ub tf a))), (3, .int (nI (10 - (k + 1)))), (0, .ref (ad 4))] := hl
          refine lv_iload hx hb dX2_takeNumber_70 (lv_at hl 1 rfl) ?_
          refine lv_sipush (v := nI 128) hx hb dX2_takeNumber_72 (by decide) ?_
          refine lv_icmp_ge (tgt := 80) hx hb dX2_takeNumber_75 rfl (fun hc3 => ?_) (fun hc3 => ?_)
          · have hc3 : 128 ≤ pb_ub tf a := (nI_leI (by decide) (Nat.lt_trans hu9 (by decide))).mp hc3
            refine lv_iinc (k := 2) (v := nI (10 - k)) hx hb dX2_takeNumber_80 hl rfl ((nI_1 _).trans (congrArg nI (by omega))) (by decide) rfl (fun ls hl => ?_)
            have hl : lv_has ls 5 [(3, .int (nI (10 - k))), (1, .long (lN (v + pb_ub tf a % 128 * 2 ^ (7 * (10 - (k + 1)))))), (4, .int (nI (pb_ub tf a))), (0, .ref (ad 4))] := hl
            refine lv_goto (tgt := 4) hx hb dX2_takeNumber_83 rfl ?_
            have hr : pb_rdn tf b (k + 1) (10 - (k + 1)) a v = pb_rdn tf b k (10 - k) (a + 1) (v + pb_ub tf a % 128 * 2 ^ (7 * (10 - (k + 1)))) := by
              conv => lhs; unfold pb_rdn
              rw [if_pos ha1, if_neg (by omega : ¬ ((10 - (k + 1)) = 9 ∧ 1 < pb_ub tf a)), if_neg (by omega), show (10 - (k + 1)) + 1 = 10 - k by omega]
            rw [hr] at kk kn
            have hv2 : v + pb_ub tf a % 128 * 2 ^ (7 * (10 - (k + 1))) < 2 ^ (7 * (10 - k)) := by
              have h1 : 2 ^ (7 * (10 - k)) = 128 * 2 ^ (7 * (10 - (k + 1))) := by rw [show 7 * (10 - k) = 7 * (10 - (k + 1)) + 7 by omega, Nat.pow_add, Nat.mul_comm]
              have h2 : pb_ub tf a % 128 * 2 ^ (7 * (10 - (k + 1))) ≤ 127 * 2 ^ (7 * (10 - (k + 1))) := Nat.mul_le_mul_right _ (by omega)
              rw [h1]; omega
            exact ih (a + 1) _ _ _ _ (by omega) (by omega) hv2 (lv_sub hl [0, 1, 3] rfl) hP hD hS kk (fun hn a' h1 h2 => kn hn a' (by omega) h2)
          · have hc3 : pb_ub tf a < 128 := Nat.lt_of_not_le (fun z => hc3 ((nI_leI (by decide) (Nat.lt_trans hu9 (by decide))).mpr z))
            refine kk (v + pb_ub tf a % 128 * 2 ^ (7 * (10 - (k + 1)))) (a + 1) ?_ H locs ls (lv_sub hl [0] rfl) hP hD hS
            unfold pb_rdn
            rw [if_pos ha1, if_neg (by omega : ¬ ((10 - (k + 1)) = 9 ∧ 1 < pb_ub tf a)), if_pos hc3]
        · have hc2 : 1 < pb_ub tf a := Nat.lt_of_not_le (fun q => hc2 ((nI_leI (Nat.lt_trans hu9 (by decide)) (by decide)).mpr q))
          refine lv_goto (tgt := 86) hx hb dX2_takeNumber_53 rfl ?_
          exact kn (by unfold pb_rdn; rw [if_pos ha1, if_pos ⟨hc1, hc2⟩]) (a + 1) (by omega) (by omega) H locs ls (lv_sub hl [3] rfl) hP hD hS

set_option maxHeartbeats 4000000 in
set_option maxRecDepth 100000 in
theorem cX2_takeNumber_m (l : Launch) (dC : Nat → ClassId) (dI : Nat → Nat → Nat) (ca : Nat → ClassId) (ad : Nat → Nat) (kf : Nat → Int32) (vf : Nat → Int64) (bf : Nat → Int32) (w : Int32) (op : Int32) (ln : Int32) (ok : Int32) (tf : Nat → Int32) (nb : Int32) (ef : Nat → Int32) (ff : Nat → Int32) (fi : Int32) (ek : Int32) (ev : Int64) (a b : Nat) (ha : a ≤ b) (hb9 : b ≤ 4889) : ∀ sz : Nat, Met l yX2_takeNumber wsX2_takeNumber ({ frames := 1, cells := 0, slots := 0, locals := 21 } : Room) (va_Pc [.ref (ad 4)] (xP (dC, dI) (xt ca) (xw ad ca kf vf bf w op ln (nI a) (nI b) ok tf nb ef ff fi ek ev) sz)) (va_Ql (S := Nat × Nat × Int32) (fun r u => r = lN u.1 ∧ u.1 < 2 ^ 64 ∧ a ≤ u.2.1 ∧ u.2.1 ≤ b ∧ ((pb_rd tf b a = some (u.1, u.2.1) ∧ u.2.2 = ok) ∨ (pb_rd tf b a = none ∧ u.2.2 = 0))) (fun u t => xB (dC, dI) (xt ca) (va_A (xw ad ca kf vf bf w op ln (nI a) (nI b) ok tf nb ef ff fi ek ev) sz) (xw ad ca kf vf bf w op ln (nI u.2.1) (nI b) u.2.2 tf nb ef ff fi ek ev) t) (va_A (xw ad ca kf vf bf w op ln (nI a) (nI b) ok tf nb ef ff fi ek ev) sz)) 0 0 (va_A (xw ad ca kf vf bf w op ln (nI a) (nI b) ok tf nb ef ff fi ek ev) sz) := by
  intro sz
  refine Met.ofW (cc := cX2_takeNumber) (maxL := 5) (ret := (some .long)) (by decide) rfl ?_
  intro p e s m args below meth c s₁ B hml hv
  obtain ⟨rfl, hsz, hP, hK, hD0, hE⟩ := hv
  have hx := B.exec
  have hb := B.bytes
  have hr := B.returns
  have hts := atoms_spec (ws := wsX2_takeNumber) B.pre
  have hown : s.vm.findClass RX2 = some m.cls := findClass_of_methodNamed B.named
  have hlocks := B.notSynchronized
  subst hsz
  have hD := hD0.self (sz := s.heap.size)
  generalize hAe : va_A (xw ad ca kf vf bf w op ln (nI a) (nI b) ok tf nb ef ff fi ek ev) s.heap.size = A at hD hE ⊢
  have hA : ∀ q : Nat, s.heap.size ≤ q → A q := fun q h => by rw [← hAe]; exact Or.inr h
  have hS : va_S A s.heap s.heap [] := va_S.rf
  have hl := lv_entry ([.ref (ad 4)]) (n := 5) (Nat.le_of_ble_eq_true rfl)
  rw [lg_entry_eq]
  generalize (lg_sl ([.ref (ad 4)]) ++ List.replicate (5 - (lg_sl ([.ref (ad 4)])).length) Slot.unset).toArray = ls at hl ⊢
  have hl : lv_has ls 5 [(0, .ref (ad 4))] := hl
  refine lv_lconst (v := lN 0) hx hb dX2_takeNumber_0 (by decide) ?_
  refine lv_lstore_n hx hb dX2_takeNumber_1 rfl hl (by decide) rfl (fun ls hl => ?_)
  have hl : lv_has ls 5 [(1, .long (lN 0)), (0, .ref (ad 4))] := hl
  refine lv_iconst (v := nI (10 - 10)) hx hb dX2_takeNumber_2 (by decide) ?_
  refine lv_istore_n hx hb dX2_takeNumber_3 rfl hl (by decide) rfl (fun ls hl => ?_)
  have hl : lv_has ls 5 [(3, .int (nI (10 - 10))), (1, .long (lN 0)), (0, .ref (ad 4))] := hl
  refine lpX2_takeNumber_go hx hb hml hown hts hK hA hE hb9 10 a 0 _ _ _ (Nat.le_refl _) ha (by decide) (lv_sub hl [0, 1, 2] rfl) hP hD hS (fun n a' hn H locs ls hl hP hD hS => ?_) (fun hn a' h1 h2 H locs ls hl hP hD hS => ?_)
  · refine lv_lload_n hx hb dX2_takeNumber_78 rfl (lv_at hl 0 rfl) ?_
    have hP9 := hP
    have hD9 := hD
    exact W.lret (v := lN n) hx hb hr (fun t ht hW => ⟨⟨lN n, (n, a', ok), rfl, ⟨rfl, pb_rd_lt hn, Nat.le_of_lt (pb_rd_in hn).1, (pb_rd_in hn).2, Or.inl ⟨hn, rfl⟩⟩, by rw [ht]; exact hP9, va_K.moved hW.alike hK, hD9⟩, hS.F ht⟩) hS.2.2 dX2_takeNumber_79
  · refine lv_aload_n hx hb dX2_takeNumber_86 rfl (lv_at hl 0 rfl) ?_
    refine lv_iconst (v := 0) hx hb dX2_takeNumber_87 (by decide) ?_
    refine va_put (D := (dC, dI)) (ci := 2) (v := .int 0) (ty := .boolean) (C := RX2) (T := TX2) (N := 5) (ref := "SortedRun$Table") hx hb hts (xg_u mb_uws_X2) tyX2 tyX2_ok nmX2 hown hK hP hD hS 4 rfl rfl 4 (by decide) (xg_w hts mb_fieldLink_RX2_43) (fun _ h9 => h9) rfl (by decide +kernel) rfl rfl (Nat.le_of_ble_eq_true rfl) dX2_takeNumber_88 (fun H locs hP hD hS => ?_)
    have hP : va_P (dC, dI) vwCl (xw ad ca kf vf bf w op ln (nI a') (nI b) 0 tf nb ef ff fi ek ev) H := hP
    have hD : va_D A (xw ad ca kf vf bf w op ln (nI a') (nI b) 0 tf nb ef ff fi ek ev) := hD
    refine lv_lconst (v := lN 0) hx hb dX2_takeNumber_91 (by decide) ?_
    have hP9 := hP
    have hD9 := hD
    exact W.lret (v := lN 0) hx hb hr (fun t ht hW => ⟨⟨lN 0, (0, a', 0), rfl, ⟨rfl, (by decide : (0 : Nat) < 2 ^ 64), h1, h2, Or.inr ⟨hn, rfl⟩⟩, by rw [ht]; exact hP9, va_K.moved hW.alike hK, hD9⟩, hS.F ht⟩) hS.2.2 dX2_takeNumber_92
end
section
/-! fold, unfold, Entry, Index: leaves (rows by wip/whole/wix.py) -/
set_option maxHeartbeats 4000000 in
set_option maxRecDepth 100000 in
theorem cX3_fold_m (l : Launch) (dC : Nat → ClassId) (dI : Nat → Nat → Nat) (ca : Nat → ClassId) (ad : Nat → Nat) (kf : Nat → Int32) (vf : Nat → Int64) (bf : Nat → Int32) (w : Int32) (op : Int32) (ln : Int32) (nx : Int32) (en : Int32) (ok : Int32) (tf : Nat → Int32) (nb : Int32) (ef : Nat → Int32) (ff : Nat → Int32) (fi : Int32) (ek : Int32) (ev : Int64) (v : Int64) : ∀ sz : Nat, Met l yX3_fold wsX3_fold ({ frames := 0, cells := 0, slots := 0, locals := 0 } : Room) (va_Pc [.long v] (xP (dC, dI) (xt ca) (xw ad ca kf vf bf w op ln nx en ok tf nb ef ff fi ek ev) sz)) (va_Ql (S := Unit) (fun r _ => r = pu_f v) (fun u t => xB (dC, dI) (xt ca) (va_A (xw ad ca kf vf bf w op ln nx en ok tf nb ef ff fi ek ev) sz) (xw ad ca kf vf bf w op ln nx en ok tf nb ef ff fi ek ev) t) (va_A (xw ad ca kf vf bf w op ln nx en ok tf nb ef ff fi ek ev) sz)) 0 0 (va_A (xw ad ca kf vf bf w op ln nx en ok tf nb ef ff fi ek ev) sz) := by
  intro sz
  refine Met.ofW (cc := cX3_fold) (maxL := 2) (ret := (some .long)) (by decide) rfl ?_
  intro p e s m args below meth c s₁ B hml hv
  obtain ⟨rfl, hsz, hP, hK, hD0, hE⟩ := hv
  have hx := B.exec
  have hb := B.bytes
  have hr := B.returns
  have hts := atoms_spec (ws := wsX3_fold) B.pre
  have hown : s.vm.findClass RX3 = some m.cls := findClass_of_methodNamed B.named
  have hlocks := B.notSynchronized
  subst hsz
  have hD := hD0.self (sz := s.heap.size)
  generalize hAe : va_A (xw ad ca kf vf bf w op ln nx en ok tf nb ef ff fi ek ev) s.heap.size = A at hD hE ⊢
  have hA : ∀ q : Nat, s.heap.size ≤ q → A q := fun q h => by rw [← hAe]; exact Or.inr h
  have hS : va_S A s.heap s.heap [] := va_S.rf
  have hl := lv_entry ([.long v]) (n := 2) (Nat.le_of_ble_eq_true rfl)
  rw [lg_entry_eq]
  generalize (lg_sl ([.long v]) ++ List.replicate (2 - (lg_sl ([.long v])).length) Slot.unset).toArray = ls at hl ⊢
  have hl : lv_has ls 2 [(0, .long v)] := hl
  refine lv_lload_n hx hb dX3_fold_0 rfl (lv_at hl 0 rfl) ?_
  refine lv_lconst (v := 0) hx hb dX3_fold_1 (by decide) ?_
  refine W.lcmp hx hb dX3_fold_2 ?_
  refine lv_if_ge (tgt := 16) hx hb dX3_fold_3 rfl (fun hc => ?_) (fun hc => ?_)
  · have hc1 : ¬ v < 0 := Int64.not_lt.mpr (lc_ge.mp hc)
    refine lv_ldc2 (v := 2) hx hb hown (xg_w hts mb_constantLong_RX3_197) dX3_fold_16 ?_
    refine lv_lload_n hx hb dX3_fold_19 rfl (lv_at hl 0 rfl) ?_
    refine lv_lmul hx hb dX3_fold_20 ?_
    have hP9 := hP
    have hD9 := hD
    exact W.lret (v := 2 * v) hx hb hr (fun t ht hW => ⟨⟨2 * v, (), rfl, by unfold pu_f; rw [if_neg hc1], by rw [ht]; exact hP9, va_K.moved hW.alike hK, hD9⟩, hS.F ht⟩) hS.2.2 dX3_fold_21
  · have hc1 : v < 0 := Int64.not_le.mp (fun z => hc (lc_ge.mpr z))
    refine lv_ldc2 (v := -2) hx hb hown (xg_w hts mb_constantLong_RX3_195) dX3_fold_6 ?_
    refine lv_lload_n hx hb dX3_fold_9 rfl (lv_at hl 0 rfl) ?_
    refine lv_lmul hx hb dX3_fold_10 ?_
    refine lv_lconst (v := 1) hx hb dX3_fold_11 (by decide) ?_
    refine lv_lsub hx hb dX3_fold_12 ?_
    refine lv_goto (tgt := 21) hx hb dX3_fold_13 rfl ?_
    have hP9 := hP
    have hD9 := hD
    exact W.lret (v := ((-2) * v) - 1) hx hb hr (fun t ht hW => ⟨⟨((-2) * v) - 1, (), rfl, by unfold pu_f; rw [if_pos hc1], by rw [ht]; exact hP9, va_K.moved hW.alike hK, hD9⟩, hS.F ht⟩) hS.2.2 dX3_fold_21

set_option maxHeartbeats 4000000 in
set_option maxRecDepth 100000 in
theorem cX3_unfold_m (l : Launch) (dC : Nat → ClassId) (dI : Nat → Nat → Nat) (ca : Nat → ClassId) (ad : Nat → Nat) (kf : Nat → Int32) (vf : Nat → Int64) (bf : Nat → Int32) (w : Int32) (op : Int32) (ln : Int32) (nx : Int32) (en : Int32) (ok : Int32) (tf : Nat → Int32) (nb : Int32) (ef : Nat → Int32) (ff : Nat → Int32) (fi : Int32) (ek : Int32) (ev : Int64) (v : Int64) : ∀ sz : Nat, Met l yX3_unfold wsX3_unfold ({ frames := 0, cells := 0, slots := 0, locals := 0 } : Room) (va_Pc [.long v] (xP (dC, dI) (xt ca) (xw ad ca kf vf bf w op ln nx en ok tf nb ef ff fi ek ev) sz)) (va_Ql (S := Unit) (fun r _ => r = pu_u v) (fun u t => xB (dC, dI) (xt ca) (va_A (xw ad ca kf vf bf w op ln nx en ok tf nb ef ff fi ek ev) sz) (xw ad ca kf vf bf w op ln nx en ok tf nb ef ff fi ek ev) t) (va_A (xw ad ca kf vf bf w op ln nx en ok tf nb ef ff fi ek ev) sz)) 0 0 (va_A (xw ad ca kf vf bf w op ln nx en ok tf nb ef ff fi ek ev) sz) := by
  intro sz
  refine Met.ofW (cc := cX3_unfold) (maxL := 4) (ret := (some .long)) (by decide) rfl ?_
  intro p e s m args below meth c s₁ B hml hv
  obtain ⟨rfl, hsz, hP, hK, hD0, hE⟩ := hv
  have hx := B.exec
  have hb := B.bytes
  have hr := B.returns
  have hts := atoms_spec (ws := wsX3_unfold) B.pre
  have hown : s.vm.findClass RX3 = some m.cls := findClass_of_methodNamed B.named
  have hlocks := B.notSynchronized
  subst hsz
  have hD := hD0.self (sz := s.heap.size)
  generalize hAe : va_A (xw ad ca kf vf bf w op ln nx en ok tf nb ef ff fi ek ev) s.heap.size = A at hD hE ⊢
  have hA : ∀ q : Nat, s.heap.size ≤ q → A q := fun q h => by rw [← hAe]; exact Or.inr h
  have hS : va_S A s.heap s.heap [] := va_S.rf
  have hl := lv_entry ([.long v]) (n := 4) (Nat.le_of_ble_eq_true rfl)
  rw [lg_entry_eq]
  generalize (lg_sl ([.long v]) ++ List.replicate (4 - (lg_sl ([.long v])).length) Slot.unset).toArray = ls at hl ⊢
  have hl : lv_has ls 4 [(0, .long v)] := hl
  refine lv_lload_n hx hb dX3_unfold_0 rfl (lv_at hl 0 rfl) ?_
  refine lv_iconst (v := 1) hx hb dX3_unfold_1 (by decide) ?_
  refine lv_lushr (v := pu_h v) hx hb dX3_unfold_2 (rfl) ?_
  refine lv_lstore_n hx hb dX3_unfold_3 rfl hl (by decide) rfl (fun ls hl => ?_)
  have hl : lv_has ls 4 [(2, .long (pu_h v)), (0, .long v)] := hl
  refine lv_lload_n hx hb dX3_unfold_4 rfl (lv_at hl 1 rfl) ?_
  refine lv_lconst (v := 1) hx hb dX3_unfold_5 (by decide) ?_
  refine lv_land hx hb dX3_unfold_6 ?_
  refine lv_lconst (v := 0) hx hb dX3_unfold_7 (by decide) ?_
  refine W.lcmp hx hb dX3_unfold_8 ?_
  refine lv_if_ne (tgt := 16) hx hb dX3_unfold_9 rfl (fun hc => ?_) (fun hc => ?_)
  · have hc1 : ¬ (v &&& 1) = 0 := fun z => hc (lc_eq.mpr z)
    refine lv_lload_n hx hb dX3_unfold_16 rfl (lv_at hl 0 rfl) ?_
    refine lv_lneg hx hb dX3_unfold_17 ?_
    refine lv_lconst (v := 1) hx hb dX3_unfold_18 (by decide) ?_
    refine lv_lsub hx hb dX3_unfold_19 ?_
    have hP9 := hP
    have hD9 := hD
    exact W.lret (v := (-(pu_h v)) - 1) hx hb hr (fun t ht hW => ⟨⟨(-(pu_h v)) - 1, (), rfl, by unfold pu_u; rw [if_neg hc1], by rw [ht]; exact hP9, va_K.moved hW.alike hK, hD9⟩, hS.F ht⟩) hS.2.2 dX3_unfold_20
  · have hc1 : (v &&& 1) = 0 := lc_eq.mp hc
    refine lv_lload_n hx hb dX3_unfold_12 rfl (lv_at hl 0 rfl) ?_
    refine lv_goto (tgt := 20) hx hb dX3_unfold_13 rfl ?_
    have hP9 := hP
    have hD9 := hD
    exact W.lret (v := pu_h v) hx hb hr (fun t ht hW => ⟨⟨pu_h v, (), rfl, by unfold pu_u; rw [if_pos hc1], by rw [ht]; exact hP9, va_K.moved hW.alike hK, hD9⟩, hS.F ht⟩) hS.2.2 dX3_unfold_20

set_option maxHeartbeats 4000000 in
set_option maxRecDepth 100000 in
theorem cX0_readNext_m (l : Launch) (dC : Nat → ClassId) (dI : Nat → Nat → Nat) (ca : Nat → ClassId) (ad : Nat → Nat) (kf : Nat → Int32) (vf : Nat → Int64) (bf : Nat → Int32) (w : Int32) (op : Int32) (ln : Int32) (ok : Int32) (tf : Nat → Int32) (nb : Int32) (ef : Nat → Int32) (ff : Nat → Int32) (fi : Int32) (ek : Int32) (ev : Int64) (a b : Nat) (fst : Bool) (ha : a ≤ b) (hb9 : b ≤ 4889) (hfi : fi = if fst = true then 1 else 0) : ∀ sz : Nat, Met l yX0_readNext wsX0_readNext ({ frames := 2, cells := 0, slots := 0, locals := 45 } : Room) (va_Pc [.ref (ad 9), .ref (ad 4)] (xP (dC, dI) (xt ca) (xw ad ca kf vf bf w op ln (nI a) (nI b) ok tf nb ef ff fi ek ev) sz)) (va_Qv (S := Nat × Int32 × Int32 × Int64) (fun u => a ≤ u.1 ∧ u.1 ≤ b ∧ ((pe_rd tf b fst ek a = some (u.2.2.1, u.2.2.2, u.1) ∧ u.2.1 = ok) ∨ (pe_rd tf b fst ek a = none ∧ u.2.1 = 0))) (fun u t => xB (dC, dI) (xt ca) (va_A (xw ad ca kf vf bf w op ln (nI a) (nI b) ok tf nb ef ff fi ek ev) sz) (xw ad ca kf vf bf w op ln (nI u.1) (nI b) u.2.1 tf nb ef ff 0 u.2.2.1 u.2.2.2) t) (va_A (xw ad ca kf vf bf w op ln (nI a) (nI b) ok tf nb ef ff fi ek ev) sz)) 0 0 (va_A (xw ad ca kf vf bf w op ln (nI a) (nI b) ok tf nb ef ff fi ek ev) sz) := by
  intro sz
  refine Met.ofW (cc := cX0_readNext) (maxL := 4) (ret := none) (by decide) rfl ?_
  intro p e s m args below meth c s₁ B hml hv
  obtain ⟨rfl, hsz, hP, hK, hD0, hE⟩ := hv
  have hx := B.exec
  have hb := B.bytes
  have hr := B.returns
  have hts := atoms_spec (ws := wsX0_readNext) B.pre
  have hown : s.vm.findClass RX0 = some m.cls := findClass_of_methodNamed B.named
  have hlocks := B.notSynchronized
  subst hsz
  have hD := hD0.self (sz := s.heap.size)
  generalize hAe : va_A (xw ad ca kf vf bf w op ln (nI a) (nI b) ok tf nb ef ff fi ek ev) s.heap.size = A at hD hE ⊢
  have hA : ∀ q : Nat, s.heap.size ≤ q → A q := fun q h => by rw [← hAe]; exact Or.inr h
  have hS : va_S A s.heap s.heap [] := va_S.rf
  have hl := lv_entry ([.ref (ad 9), .ref (ad 4)]) (n := 4) (Nat.le_of_ble_eq_true rfl)
  rw [lg_entry_eq]
  generalize (lg_sl ([.ref (ad 9), .ref (ad 4)]) ++ List.replicate (4 - (lg_sl ([.ref (ad 9), .ref (ad 4)])).length) Slot.unset).toArray = ls at hl ⊢
  have hl : lv_has ls 4 [(0, .ref (ad 9)), (1, .ref (ad 4))] := hl
  refine lv_aload_n hx hb dX0_readNext_0 rfl (lv_at hl 1 rfl) ?_
  refine xk_l (va_runV (As := []) (rest := []) ⟨hx, hb, hml, hown, hts⟩ (cX2_takeNumber_m l dC dI ca ad kf vf bf w op ln ok tf nb ef ff fi ek ev a b ha hb9 _) (cwV 0 hts (xg_V mb_methodLink_RX0_7 mb_instanceMethod_yX2_takeNumber mb_selects_yX2_takeNumber mb_initialized_RX2 mb_code_yX2_takeNumber) rfl rfl rfl ⟨rfl, by decide, by decide, by decide +kernel⟩ ⟨Nat.le_of_ble_eq_true rfl, Nat.le_of_ble_eq_true rfl⟩) (xpreV (va_recv (q0 := 4) hK hP rfl rfl) hK hP hD hS hA hE) rfl rfl hl.1 rfl (lv_room (Nat.le_of_ble_eq_true rfl)) dX0_readNext_1 ⟨Nat.le_of_ble_eq_true rfl, Nat.le_of_ble_eq_true rfl⟩) hD hS hA (fun r u H locs hu hP hD hS => ?_)
  have hP : va_P (dC, dI) vwCl (xw ad ca kf vf bf w op ln (nI u.2.1) (nI b) u.2.2 tf nb ef ff fi ek ev) H := hP
  have hD : va_D A (xw ad ca kf vf bf w op ln (nI u.2.1) (nI b) u.2.2 tf nb ef ff fi ek ev) := hD
  obtain ⟨n1, a1, o1⟩ := u
  obtain ⟨hr1, hn1, h1, h2, hq1⟩ := hu
  dsimp only at hr1 hn1 h1 h2 hq1 hP hD
  subst hr1
  refine lv_lstore_n hx hb dX0_readNext_4 rfl hl (by decide) rfl (fun ls hl => ?_)
  have hl : lv_has ls 4 [(2, .long (lN n1)), (0, .ref (ad 9)), (1, .ref (ad 4))] := hl
  refine lv_aload_n hx hb dX0_readNext_5 rfl (lv_at hl 1 rfl) ?_
  refine lv_aload_n hx hb dX0_readNext_6 rfl (lv_at hl 1 rfl) ?_
  refine va_get (D := (dC, dI)) (ci := 0) (v := .int fi) (C := RX0) (T := TX0) (N := 3) (ref := "SortedRun$Entry") hx hb hts (xg_u mb_uws_X0) hown hK hP 9 rfl rfl 0 (by decide) (xg_w hts mb_fieldLink_RX0_13) (fun _ h9 => h9) rfl dX0_readNext_7 ?_
  refine lv_if_eq (tgt := 20) hx hb dX0_readNext_10 rfl (fun hc => ?_) (fun hc => ?_)
  · have hf : fst = false := by cases fst with | false => rfl | true => (rw [hfi] at hc; exact absurd hc (by decide))
    subst hf
    refine lv_aload_n hx hb dX0_readNext_20 rfl (lv_at hl 1 rfl) ?_
    refine va_get (D := (dC, dI)) (ci := 0) (v := .int ek) (C := RX0) (T := TX0) (N := 3) (ref := "SortedRun$Entry") hx hb hts (xg_u mb_uws_X0) hown hK hP 9 rfl rfl 1 (by decide) (xg_w hts mb_fieldLink_RX0_25) (fun _ h9 => h9) rfl dX0_readNext_21 ?_
    refine lv_i2l (v := ek.toInt64) hx hb dX0_readNext_24 (rfl) ?_
    refine lv_lload_n hx hb dX0_readNext_25 rfl (lv_at hl 0 rfl) ?_
    refine lv_ladd hx hb dX0_readNext_26 ?_
    refine lv_lconst (v := 1) hx hb dX0_readNext_27 (by decide) ?_
    refine lv_ladd hx hb dX0_readNext_28 ?_
    refine lv_l2i (v := pe_key false ek n1) hx hb dX0_readNext_29 (by unfold pe_key; simp) ?_
    refine va_put (D := (dC, dI)) (ci := 0) (v := .int (pe_key false ek n1)) (ty := .int) (C := RX0) (T := TX0) (N := 3) (ref := "SortedRun$Entry") hx hb hts (xg_u mb_uws_X0) tyX0 tyX0_ok nmX0 hown hK hP hD hS 9 rfl rfl 1 (by decide) (xg_w hts mb_fieldLink_RX0_25) (fun _ h9 => h9) rfl (by decide +kernel) rfl rfl (Nat.le_of_ble_eq_true rfl) dX0_readNext_30 (fun H locs hP hD hS => ?_)
    have hP : va_P (dC, dI) vwCl (xw ad ca kf vf bf w op ln (nI a1) (nI b) o1 tf nb ef ff fi (pe_key false ek n1) ev) H := hP
    have hD : va_D A (xw ad ca kf vf bf w op ln (nI a1) (nI b) o1 tf nb ef ff fi (pe_key false ek n1) ev) := hD
    refine lv_aload_n hx hb dX0_readNext_33 rfl (lv_at hl 1 rfl) ?_
    refine lv_aload_n hx hb dX0_readNext_34 rfl (lv_at hl 2 rfl) ?_
    refine xk_l (va_runV (As := []) (rest := [.ref (ad 9)]) ⟨hx, hb, hml, hown, hts⟩ (cX2_takeNumber_m l dC dI ca ad kf vf bf w op ln o1 tf nb ef ff fi (pe_key false ek n1) ev a1 b h2 hb9 _) (cwV 0 hts (xg_V mb_methodLink_RX0_7 mb_instanceMethod_yX2_takeNumber mb_selects_yX2_takeNumber mb_initialized_RX2 mb_code_yX2_takeNumber) rfl rfl rfl ⟨rfl, by decide, by decide, by decide +kernel⟩ ⟨Nat.le_of_ble_eq_true rfl, Nat.le_of_ble_eq_true rfl⟩) (xpreV (va_recv (q0 := 4) hK hP rfl rfl) hK hP hD hS hA hE) rfl rfl hl.1 rfl (lv_room (Nat.le_of_ble_eq_true rfl)) dX0_readNext_35 ⟨Nat.le_of_ble_eq_true rfl, Nat.le_of_ble_eq_true rfl⟩) hD hS hA (fun r u H locs hu hP hD hS => ?_)
    have hP : va_P (dC, dI) vwCl (xw ad ca kf vf bf w op ln (nI u.2.1) (nI b) u.2.2 tf nb ef ff fi (pe_key false ek n1) ev) H := hP
    have hD : va_D A (xw ad ca kf vf bf w op ln (nI u.2.1) (nI b) u.2.2 tf nb ef ff fi (pe_key false ek n1) ev) := hD
    obtain ⟨n2, a2, o2⟩ := u
    obtain ⟨hr2, hn2, h3, h4, hq2⟩ := hu
    dsimp only at hr2 hn2 h3 h4 hq2 hP hD
    subst hr2
    refine xk_l (va_runSN (As := [.long (lN n2)]) (rest := [.ref (ad 9)]) ⟨hx, hb, hml, hown, hts⟩ (cX3_unfold_m l dC dI ca ad kf vf bf w op ln (nI a2) (nI b) o2 tf nb ef ff fi (pe_key false ek n1) ev (lN n2) _) ⟨va_cnB 1 hts (xg_0 mb_code_yX3_unfold) rfl rfl rfl (xn_nw (w := .methodLinkNest RX0 19 yX3_unfold "SortedRun") (i := 433) hE rfl rfl) (xg_w hts mb_initialized_RX3) ⟨by decide, by decide, by decide +kernel⟩ ⟨Nat.le_of_ble_eq_true rfl, Nat.le_of_ble_eq_true rfl⟩, xg_w hts mb_static_yX3_unfold, trivial⟩ (xpreS hK hP hD hS hA hE) rfl rfl hl.1 rfl (lv_room (Nat.le_of_ble_eq_true rfl)) dX0_readNext_38 ⟨Nat.le_of_ble_eq_true rfl, Nat.le_of_ble_eq_true rfl⟩) hD hS hA (fun r u H locs hu hP hD hS => ?_)
    subst hu
    have hP : va_P (dC, dI) vwCl (xw ad ca kf vf bf w op ln (nI a2) (nI b) o2 tf nb ef ff fi (pe_key false ek n1) ev) H := hP
    have hD : va_D A (xw ad ca kf vf bf w op ln (nI a2) (nI b) o2 tf nb ef ff fi (pe_key false ek n1) ev) := hD
    refine va_put (D := (dC, dI)) (ci := 0) (v := .long (pu_u (lN n2))) (ty := .long) (C := RX0) (T := TX0) (N := 3) (ref := "SortedRun$Entry") hx hb hts (xg_u mb_uws_X0) tyX0 tyX0_ok nmX0 hown hK hP hD hS 9 rfl rfl 2 (by decide) (xg_w hts mb_fieldLink_RX0_29) (fun _ h9 => h9) rfl (by decide +kernel) rfl rfl (Nat.le_of_ble_eq_true rfl) dX0_readNext_41 (fun H locs hP hD hS => ?_)
    have hP : va_P (dC, dI) vwCl (xw ad ca kf vf bf w op ln (nI a2) (nI b) o2 tf nb ef ff fi (pe_key false ek n1) (pu_u (lN n2))) H := hP
    have hD : va_D A (xw ad ca kf vf bf w op ln (nI a2) (nI b) o2 tf nb ef ff fi (pe_key false ek n1) (pu_u (lN n2))) := hD
    refine lv_aload_n hx hb dX0_readNext_44 rfl (lv_at hl 1 rfl) ?_
    refine lv_iconst (v := 0) hx hb dX0_readNext_45 (by decide) ?_
    refine va_put (D := (dC, dI)) (ci := 0) (v := .int 0) (ty := .boolean) (C := RX0) (T := TX0) (N := 3) (ref := "SortedRun$Entry") hx hb hts (xg_u mb_uws_X0) tyX0 tyX0_ok nmX0 hown hK hP hD hS 9 rfl rfl 0 (by decide) (xg_w hts mb_fieldLink_RX0_13) (fun _ h9 => h9) rfl (by decide +kernel) rfl rfl (Nat.le_of_ble_eq_true rfl) dX0_readNext_46 (fun H locs hP hD hS => ?_)
    have hP : va_P (dC, dI) vwCl (xw ad ca kf vf bf w op ln (nI a2) (nI b) o2 tf nb ef ff 0 (pe_key false ek n1) (pu_u (lN n2))) H := hP
    have hD : va_D A (xw ad ca kf vf bf w op ln (nI a2) (nI b) o2 tf nb ef ff 0 (pe_key false ek n1) (pu_u (lN n2))) := hD
    have hz : (pe_rd tf b false ek a = some (pe_key false ek n1, pu_u (lN n2), a2) ∧ o2 = ok) ∨ (pe_rd tf b false ek a = none ∧ o2 = 0) := by
      unfold pe_rd
      rcases hq1 with ⟨q1, rfl⟩ | ⟨q1, rfl⟩
      · rcases hq2 with ⟨q2, rfl⟩ | ⟨q2, rfl⟩
        · exact Or.inl ⟨by simp only [q1, q2], rfl⟩
        · exact Or.inr ⟨by simp only [q1, q2], rfl⟩
      · refine Or.inr ⟨by simp only [q1], ?_⟩
        rcases hq2 with ⟨-, q2⟩ | ⟨-, q2⟩ <;> exact q2
    have hP9 := hP
    have hD9 := hD
    exact W.vret hx hb hr (fun t ht hW => ⟨⟨(a2, o2, pe_key false ek n1, pu_u (lN n2)), rfl, ⟨by omega, h4, hz⟩, by rw [ht]; exact hP9, va_K.moved hW.alike hK, hD9⟩, hS.F ht⟩) hS.2.2 dX0_readNext_49
  · have hf : fst = true := by cases fst with | true => rfl | false => (rw [hfi] at hc; exact absurd rfl hc)
    subst hf
    refine lv_lload_n hx hb dX0_readNext_13 rfl (lv_at hl 0 rfl) ?_
    refine xk_l (va_runSN (As := [.long (lN n1)]) (rest := [.ref (ad 9)]) ⟨hx, hb, hml, hown, hts⟩ (cX3_unfold_m l dC dI ca ad kf vf bf w op ln (nI a1) (nI b) o1 tf nb ef ff fi ek ev (lN n1) _) ⟨va_cnB 1 hts (xg_0 mb_code_yX3_unfold) rfl rfl rfl (xn_nw (w := .methodLinkNest RX0 19 yX3_unfold "SortedRun") (i := 433) hE rfl rfl) (xg_w hts mb_initialized_RX3) ⟨by decide, by decide, by decide +kernel⟩ ⟨Nat.le_of_ble_eq_true rfl, Nat.le_of_ble_eq_true rfl⟩, xg_w hts mb_static_yX3_unfold, trivial⟩ (xpreS hK hP hD hS hA hE) rfl rfl hl.1 rfl (lv_room (Nat.le_of_ble_eq_true rfl)) dX0_readNext_14 ⟨Nat.le_of_ble_eq_true rfl, Nat.le_of_ble_eq_true rfl⟩) hD hS hA (fun r u H locs hu hP hD hS => ?_)
    subst hu
    have hP : va_P (dC, dI) vwCl (xw ad ca kf vf bf w op ln (nI a1) (nI b) o1 tf nb ef ff fi ek ev) H := hP
    have hD : va_D A (xw ad ca kf vf bf w op ln (nI a1) (nI b) o1 tf nb ef ff fi ek ev) := hD
    refine lv_goto (tgt := 29) hx hb dX0_readNext_17 rfl ?_
    refine lv_l2i (v := pe_key true ek n1) hx hb dX0_readNext_29 (by unfold pe_key; simp) ?_
    refine va_put (D := (dC, dI)) (ci := 0) (v := .int (pe_key true ek n1)) (ty := .int) (C := RX0) (T := TX0) (N := 3) (ref := "SortedRun$Entry") hx hb hts (xg_u mb_uws_X0) tyX0 tyX0_ok nmX0 hown hK hP hD hS 9 rfl rfl 1 (by decide) (xg_w hts mb_fieldLink_RX0_25) (fun _ h9 => h9) rfl (by decide +kernel) rfl rfl (Nat.le_of_ble_eq_true rfl) dX0_readNext_30 (fun H locs hP hD hS => ?_)
    have hP : va_P (dC, dI) vwCl (xw ad ca kf vf bf w op ln (nI a1) (nI b) o1 tf nb ef ff fi (pe_key true ek n1) ev) H := hP
    have hD : va_D A (xw ad ca kf vf bf w op ln (nI a1) (nI b) o1 tf nb ef ff fi (pe_key true ek n1) ev) := hD
    refine lv_aload_n hx hb dX0_readNext_33 rfl (lv_at hl 1 rfl) ?_
    refine lv_aload_n hx hb dX0_readNext_34 rfl (lv_at hl 2 rfl) ?_
    refine xk_l (va_runV (As := []) (rest := [.ref (ad 9)]) ⟨hx, hb, hml, hown, hts⟩ (cX2_takeNumber_m l dC dI ca ad kf vf bf w op ln o1 tf nb ef ff fi (pe_key true ek n1) ev a1 b h2 hb9 _) (cwV 0 hts (xg_V mb_methodLink_RX0_7 mb_instanceMethod_yX2_takeNumber mb_selects_yX2_takeNumber mb_initialized_RX2 mb_code_yX2_takeNumber) rfl rfl rfl ⟨rfl, by decide, by decide, by decide +kernel⟩ ⟨Nat.le_of_ble_eq_true rfl, Nat.le_of_ble_eq_true rfl⟩) (xpreV (va_recv (q0 := 4) hK hP rfl rfl) hK hP hD hS hA hE) rfl rfl hl.1 rfl (lv_room (Nat.le_of_ble_eq_true rfl)) dX0_readNext_35 ⟨Nat.le_of_ble_eq_true rfl, Nat.le_of_ble_eq_true rfl⟩) hD hS hA (fun r u H locs hu hP hD hS => ?_)
    have hP : va_P (dC, dI) vwCl (xw ad ca kf vf bf w op ln (nI u.2.1) (nI b) u.2.2 tf nb ef ff fi (pe_key true ek n1) ev) H := hP
    have hD : va_D A (xw ad ca kf vf bf w op ln (nI u.2.1) (nI b) u.2.2 tf nb ef ff fi (pe_key true ek n1) ev) := hD
    obtain ⟨n2, a2, o2⟩ := u
    obtain ⟨hr2, hn2, h3, h4, hq2⟩ := hu
    dsimp only at hr2 hn2 h3 h4 hq2 hP hD
    subst hr2
    refine xk_l (va_runSN (As := [.long (lN n2)]) (rest := [.ref (ad 9)]) ⟨hx, hb, hml, hown, hts⟩ (cX3_unfold_m l dC dI ca ad kf vf bf w op ln (nI a2) (nI b) o2 tf nb ef ff fi (pe_key true ek n1) ev (lN n2) _) ⟨va_cnB 1 hts (xg_0 mb_code_yX3_unfold) rfl rfl rfl (xn_nw (w := .methodLinkNest RX0 19 yX3_unfold "SortedRun") (i := 433) hE rfl rfl) (xg_w hts mb_initialized_RX3) ⟨by decide, by decide, by decide +kernel⟩ ⟨Nat.le_of_ble_eq_true rfl, Nat.le_of_ble_eq_true rfl⟩, xg_w hts mb_static_yX3_unfold, trivial⟩ (xpreS hK hP hD hS hA hE) rfl rfl hl.1 rfl (lv_room (Nat.le_of_ble_eq_true rfl)) dX0_readNext_38 ⟨Nat.le_of_ble_eq_true rfl, Nat.le_of_ble_eq_true rfl⟩) hD hS hA (fun r u H locs hu hP hD hS => ?_)
    subst hu
    have hP : va_P (dC, dI) vwCl (xw ad ca kf vf bf w op ln (nI a2) (nI b) o2 tf nb ef ff fi (pe_key true ek n1) ev) H := hP
    have hD : va_D A (xw ad ca kf vf bf w op ln (nI a2) (nI b) o2 tf nb ef ff fi (pe_key true ek n1) ev) := hD
    refine va_put (D := (dC, dI)) (ci := 0) (v := .long (pu_u (lN n2))) (ty := .long) (C := RX0) (T := TX0) (N := 3) (ref := "SortedRun$Entry") hx hb hts (xg_u mb_uws_X0) tyX0 tyX0_ok nmX0 hown hK hP hD hS 9 rfl rfl 2 (by decide) (xg_w hts mb_fieldLink_RX0_29) (fun _ h9 => h9) rfl (by decide +kernel) rfl rfl (Nat.le_of_ble_eq_true rfl) dX0_readNext_41 (fun H locs hP hD hS => ?_)
    have hP : va_P (dC, dI) vwCl (xw ad ca kf vf bf w op ln (nI a2) (nI b) o2 tf nb ef ff fi (pe_key true ek n1) (pu_u (lN n2))) H := hP
    have hD : va_D A (xw ad ca kf vf bf w op ln (nI a2) (nI b) o2 tf nb ef ff fi (pe_key true ek n1) (pu_u (lN n2))) := hD
    refine lv_aload_n hx hb dX0_readNext_44 rfl (lv_at hl 1 rfl) ?_
    refine lv_iconst (v := 0) hx hb dX0_readNext_45 (by decide) ?_
    refine va_put (D := (dC, dI)) (ci := 0) (v := .int 0) (ty := .boolean) (C := RX0) (T := TX0) (N := 3) (ref := "SortedRun$Entry") hx hb hts (xg_u mb_uws_X0) tyX0 tyX0_ok nmX0 hown hK hP hD hS 9 rfl rfl 0 (by decide) (xg_w hts mb_fieldLink_RX0_13) (fun _ h9 => h9) rfl (by decide +kernel) rfl rfl (Nat.le_of_ble_eq_true rfl) dX0_readNext_46 (fun H locs hP hD hS => ?_)
    have hP : va_P (dC, dI) vwCl (xw ad ca kf vf bf w op ln (nI a2) (nI b) o2 tf nb ef ff 0 (pe_key true ek n1) (pu_u (lN n2))) H := hP
    have hD : va_D A (xw ad ca kf vf bf w op ln (nI a2) (nI b) o2 tf nb ef ff 0 (pe_key true ek n1) (pu_u (lN n2))) := hD
    have hz : (pe_rd tf b true ek a = some (pe_key true ek n1, pu_u (lN n2), a2) ∧ o2 = ok) ∨ (pe_rd tf b true ek a = none ∧ o2 = 0) := by
      unfold pe_rd
      rcases hq1 with ⟨q1, rfl⟩ | ⟨q1, rfl⟩
      · rcases hq2 with ⟨q2, rfl⟩ | ⟨q2, rfl⟩
        · exact Or.inl ⟨by simp only [q1, q2], rfl⟩
        · exact Or.inr ⟨by simp only [q1, q2], rfl⟩
      · refine Or.inr ⟨by simp only [q1], ?_⟩
        rcases hq2 with ⟨-, q2⟩ | ⟨-, q2⟩ <;> exact q2
    have hP9 := hP
    have hD9 := hD
    exact W.vret hx hb hr (fun t ht hW => ⟨⟨(a2, o2, pe_key true ek n1, pu_u (lN n2)), rfl, ⟨by omega, h4, hz⟩, by rw [ht]; exact hP9, va_K.moved hW.alike hK, hD9⟩, hS.F ht⟩) hS.2.2 dX0_readNext_49

set_option maxHeartbeats 4000000 in
set_option maxRecDepth 100000 in
theorem cX1_startOf_m (l : Launch) (dC : Nat → ClassId) (dI : Nat → Nat → Nat) (ca : Nat → ClassId) (ad : Nat → Nat) (kf : Nat → Int32) (vf : Nat → Int64) (bf : Nat → Int32) (w : Int32) (op : Int32) (ln : Int32) (nx : Int32) (en : Int32) (ok : Int32) (tf : Nat → Int32) (nb : Int32) (ef : Nat → Int32) (ff : Nat → Int32) (fi : Int32) (ek : Int32) (ev : Int64) (j : Nat) (hj : j ≤ 2444) : ∀ sz : Nat, Met l yX1_startOf wsX1_startOf ({ frames := 0, cells := 0, slots := 0, locals := 0 } : Room) (va_Pc [.ref (ad 6), .int (nI j)] (xP (dC, dI) (xt ca) (xw ad ca kf vf bf w op ln nx en ok tf nb ef ff fi ek ev) sz)) (va_Qi (S := Unit) (fun r _ => r = px_st ef j) (fun u t => xB (dC, dI) (xt ca) (va_A (xw ad ca kf vf bf w op ln nx en ok tf nb ef ff fi ek ev) sz) (xw ad ca kf vf bf w op ln nx en ok tf nb ef ff fi ek ev) t) (va_A (xw ad ca kf vf bf w op ln nx en ok tf nb ef ff fi ek ev) sz)) 0 0 (va_A (xw ad ca kf vf bf w op ln nx en ok tf nb ef ff fi ek ev) sz) := by
  intro sz
  refine Met.ofW (cc := cX1_startOf) (maxL := 2) (ret := (some .int)) (by decide) rfl ?_
  intro p e s m args below meth c s₁ B hml hv
  obtain ⟨rfl, hsz, hP, hK, hD0, hE⟩ := hv
  have hx := B.exec
  have hb := B.bytes
  have hr := B.returns
  have hts := atoms_spec (ws := wsX1_startOf) B.pre
  have hown : s.vm.findClass RX1 = some m.cls := findClass_of_methodNamed B.named
  have hlocks := B.notSynchronized
  subst hsz
  have hD := hD0.self (sz := s.heap.size)
  generalize hAe : va_A (xw ad ca kf vf bf w op ln nx en ok tf nb ef ff fi ek ev) s.heap.size = A at hD hE ⊢
  have hA : ∀ q : Nat, s.heap.size ≤ q → A q := fun q h => by rw [← hAe]; exact Or.inr h
  have hS : va_S A s.heap s.heap [] := va_S.rf
  have hl := lv_entry ([.ref (ad 6), .int (nI j)]) (n := 2) (Nat.le_of_ble_eq_true rfl)
  rw [lg_entry_eq]
  generalize (lg_sl ([.ref (ad 6), .int (nI j)]) ++ List.replicate (2 - (lg_sl ([.ref (ad 6), .int (nI j)])).length) Slot.unset).toArray = ls at hl ⊢
  have hl : lv_has ls 2 [(0, .ref (ad 6)), (1, .int (nI j))] := hl
  refine lv_iload_n hx hb dX1_startOf_0 rfl (lv_at hl 1 rfl) ?_
  refine lv_if_ne (tgt := 8) hx hb dX1_startOf_1 rfl (fun hc => ?_) (fun hc => ?_)
  · have hc1 : ¬ j = 0 := fun z => hc (congrArg nI z)
    refine lv_aload_n hx hb dX1_startOf_8 rfl (lv_at hl 0 rfl) ?_
    refine va_get (D := (dC, dI)) (ci := 1) (v := .ref (ad 7)) (C := RX1) (T := TX1) (N := 3) (ref := "SortedRun$Index") hx hb hts (xg_u mb_uws_X1) hown hK hP 6 rfl rfl 0 (by decide) (xg_w hts mb_fieldLink_RX1_9) (fun _ h9 => h9) rfl dX1_startOf_9 ?_
    refine lv_iload_n hx hb dX1_startOf_12 rfl (lv_at hl 1 rfl) ?_
    refine lv_iconst (v := nI 1) hx hb dX1_startOf_13 (by decide) ?_
    refine lv_isub hx hb dX1_startOf_14 ?_
    refine lv_topi (fun z1 ez1 => ?_)
    have ez1 : z1 = nI (j - 1) := ez1.trans (pk_sub (by omega))
    subst ez1
    refine va_iald hx hb hK hP 7 0 rfl rfl (vp_in_nI (by omega) (by decide)) dX1_startOf_15 ?_
    refine lv_topi (fun z2 ez2 => ?_)
    have ez2 : z2 = ef (j - 1) := ez2.trans (congrArg ef (nI_clamp (by omega)))
    subst ez2
    have hP9 := hP
    have hD9 := hD
    exact W.iret (v := ef (j - 1)) hx hb hr (fun t ht hW => ⟨⟨ef (j - 1), (), rfl, by unfold px_st; rw [if_neg hc1], by rw [ht]; exact hP9, va_K.moved hW.alike hK, hD9⟩, hS.F ht⟩) hS.2.2 dX1_startOf_16
  · have hc1 : j = 0 := (nI_eq (by omega) (by decide)).mp hc
    refine lv_iconst (v := 0) hx hb dX1_startOf_4 (by decide) ?_
    refine lv_goto (tgt := 16) hx hb dX1_startOf_5 rfl ?_
    have hP9 := hP
    have hD9 := hD
    exact W.iret (v := 0) hx hb hr (fun t ht hW => ⟨⟨0, (), rfl, by unfold px_st; rw [if_pos hc1], by rw [ht]; exact hP9, va_K.moved hW.alike hK, hD9⟩, hS.F ht⟩) hS.2.2 dX1_startOf_16

set_option maxHeartbeats 4000000 in
set_option maxRecDepth 100000 in
theorem cX1_bodyEndOf_m (l : Launch) (dC : Nat → ClassId) (dI : Nat → Nat → Nat) (ca : Nat → ClassId) (ad : Nat → Nat) (kf : Nat → Int32) (vf : Nat → Int64) (bf : Nat → Int32) (w : Int32) (op : Int32) (ln : Int32) (nx : Int32) (en : Int32) (ok : Int32) (tf : Nat → Int32) (nb : Int32) (ef : Nat → Int32) (ff : Nat → Int32) (fi : Int32) (ek : Int32) (ev : Int64) (j : Nat) (hj : j < 2444) : ∀ sz : Nat, Met l yX1_bodyEndOf wsX1_bodyEndOf ({ frames := 0, cells := 0, slots := 0, locals := 0 } : Room) (va_Pc [.ref (ad 6), .int (nI j)] (xP (dC, dI) (xt ca) (xw ad ca kf vf bf w op ln nx en ok tf nb ef ff fi ek ev) sz)) (va_Qi (S := Unit) (fun r _ => r = ef j - nI 4) (fun u t => xB (dC, dI) (xt ca) (va_A (xw ad ca kf vf bf w op ln nx en ok tf nb ef ff fi ek ev) sz) (xw ad ca kf vf bf w op ln nx en ok tf nb ef ff fi ek ev) t) (va_A (xw ad ca kf vf bf w op ln nx en ok tf nb ef ff fi ek ev) sz)) 0 0 (va_A (xw ad ca kf vf bf w op ln nx en ok tf nb ef ff fi ek ev) sz) := by
  intro sz
  refine Met.ofW (cc := cX1_bodyEndOf) (maxL := 2) (ret := (some .int)) (by decide) rfl ?_
  intro p e s m args below meth c s₁ B hml hv
  obtain ⟨rfl, hsz, hP, hK, hD0, hE⟩ := hv
  have hx := B.exec
  have hb := B.bytes
  have hr := B.returns
  have hts := atoms_spec (ws := wsX1_bodyEndOf) B.pre
  have hown : s.vm.findClass RX1 = some m.cls := findClass_of_methodNamed B.named
  have hlocks := B.notSynchronized
  subst hsz
  have hD := hD0.self (sz := s.heap.size)
  generalize hAe : va_A (xw ad ca kf vf bf w op ln nx en ok tf nb ef ff fi ek ev) s.heap.size = A at hD hE ⊢
  have hA : ∀ q : Nat, s.heap.size ≤ q → A q := fun q h => by rw [← hAe]; exact Or.inr h
  have hS : va_S A s.heap s.heap [] := va_S.rf
  have hl := lv_entry ([.ref (ad 6), .int (nI j)]) (n := 2) (Nat.le_of_ble_eq_true rfl)
  rw [lg_entry_eq]
  generalize (lg_sl ([.ref (ad 6), .int (nI j)]) ++ List.replicate (2 - (lg_sl ([.ref (ad 6), .int (nI j)])).length) Slot.unset).toArray = ls at hl ⊢
  have hl : lv_has ls 2 [(0, .ref (ad 6)), (1, .int (nI j))] := hl
  refine lv_aload_n hx hb dX1_bodyEndOf_0 rfl (lv_at hl 0 rfl) ?_
  refine va_get (D := (dC, dI)) (ci := 1) (v := .ref (ad 7)) (C := RX1) (T := TX1) (N := 3) (ref := "SortedRun$Index") hx hb hts (xg_u mb_uws_X1) hown hK hP 6 rfl rfl 0 (by decide) (xg_w hts mb_fieldLink_RX1_9) (fun _ h9 => h9) rfl dX1_bodyEndOf_1 ?_
  refine lv_iload_n hx hb dX1_bodyEndOf_4 rfl (lv_at hl 1 rfl) ?_
  refine va_iald hx hb hK hP 7 0 rfl rfl (vp_in_nI hj (by decide)) dX1_bodyEndOf_5 ?_
  refine lv_topi (fun z1 ez1 => ?_)
  have ez1 : z1 = ef j := ez1.trans (congrArg ef (nI_clamp (by omega)))
  subst ez1
  refine lv_iconst (v := nI 4) hx hb dX1_bodyEndOf_6 (by decide) ?_
  refine lv_isub hx hb dX1_bodyEndOf_7 ?_
  have hP9 := hP
  have hD9 := hD
  exact W.iret (v := (ef j) - (nI 4)) hx hb hr (fun t ht hW => ⟨⟨(ef j) - (nI 4), (), rfl, rfl, by rw [ht]; exact hP9, va_K.moved hW.alike hK, hD9⟩, hS.F ht⟩) hS.2.2 dX1_bodyEndOf_8

set_option maxHeartbeats 4000000 in
set_option maxRecDepth 100000 in
theorem lpX1_lastBlockNotAbove_go {p : Program} {l : Launch} {e : Env} {s : State} {m : MethodId} {args : Array Value} {below : List Frame} {meth : Method} {c : Code} {Q : State → Prop} {A : Nat → Prop} {dC : Nat → ClassId} {dI : Nat → Nat → Nat} {ca : Nat → ClassId} {ad : Nat → Nat} (hx : p.tables.exec = Jvm.exec) (hb : c.code = cX1_lastBlockNotAbove) (hml : c.maxLocals = 3) (hown : s.vm.findClass RX1 = some m.cls) (hts : ∀ w ∈ wsX1_lastBlockNotAbove, w.before args s = true) (hK : va_K (dC, dI) vwCl (xt ca) s) (hA : ∀ q : Nat, s.heap.size ≤ q → A q) (hE : xn_E A s) {kf : Nat → Int32} {vf : Nat → Int64} {bf : Nat → Int32} {w : Int32} {op : Int32} {ln : Int32} {nx : Int32} {en : Int32} {ok : Int32} {tf : Nat → Int32} {nb : Int32} {ef : Nat → Int32} {ff : Nat → Int32} {fi : Int32} {ek : Int32} {ev : Int64} {key : Int32} : ∀ (k : Nat)  (H : Heap) (locs : List Loc) (ls : Array Slot), k ≤ 2444 → lv_has ls 3 [(2, .int (nI k + (-1))), (0, .ref (ad 6)), (1, .int key)] → va_P (dC, dI) vwCl (xw ad ca kf vf bf w op ln nx en ok tf nb ef ff fi ek ev) H → va_D A (xw ad ca kf vf bf w op ln nx en ok tf nb ef ff fi ek ev) → va_S A s.heap H locs → (∀ j, px_last ff key k = some j → ∀ (H : Heap) (locs : List Loc) (ls : Array Slot), lv_has ls 3 [(2, .int (nI j))] → va_P (dC, dI) vwCl (xw ad ca kf vf bf w op ln nx en ok tf nb ef ff fi ek ev) H → va_D A (xw ad ca kf vf bf w op ln nx en ok tf nb ef ff fi ek ev) → va_S A s.heap H locs → W p l e ({ frames := 0, cells := 0, slots := 0, locals := 0 } : Room) s m args below meth c H locs 0 0 Q (F0 m 21 ls [])) → (px_last ff key k = none → ∀ (H : Heap) (locs : List Loc) (ls : Array Slot), va_P (dC, dI) vwCl (xw ad ca kf vf bf w op ln nx en ok tf nb ef ff fi ek ev) H → va_D A (xw ad ca kf vf bf w op ln nx en ok tf nb ef ff fi ek ev) → va_S A s.heap H locs → W p l e ({ frames := 0, cells := 0, slots := 0, locals := 0 } : Room) s m args below meth c H locs 0 0 Q (F0 m 29 ls [])) → W p l e ({ frames := 0, cells := 0, slots := 0, locals := 0 } : Room) s m args below meth c H locs 0 0 Q (F0 m 7 ls []) := by
  intro k
  induction k with
  | zero =>
    intro  H locs ls hk hl hP hD hS kk kn
    have hl : lv_has ls 3 [(2, .int (nI 0 + (-1))), (0, .ref (ad 6)), (1, .int key)] := hl
    refine lv_iload_n hx hb dX1_lastBlockNotAbove_7 rfl (lv_at hl 0 rfl) ?_
    refine lv_if_lt (tgt := 29) hx hb dX1_lastBlockNotAbove_8 rfl (fun hc => ?_) (fun hc => absurd hc (not_not_intro (by decide)))
    exact kn rfl H locs ls hP hD hS
  | succ k ih =>
    intro  H locs ls hk hl hP hD hS kk kn
    have hl : lv_has ls 3 [(2, .int (nI (k + 1) + (-1))), (0, .ref (ad 6)), (1, .int key)] := hl
    rw [pk_m1] at hl
    refine lv_iload_n hx hb dX1_lastBlockNotAbove_7 rfl (lv_at hl 0 rfl) ?_
    refine lv_if_lt (tgt := 29) hx hb dX1_lastBlockNotAbove_8 rfl (fun hc => absurd hc (nI_pos (by omega))) (fun hc => ?_)
    refine lv_aload_n hx hb dX1_lastBlockNotAbove_11 rfl (lv_at hl 1 rfl) ?_
    refine va_get (D := (dC, dI)) (ci := 1) (v := .ref (ad 8)) (C := RX1) (T := TX1) (N := 3) (ref := "SortedRun$Index") hx hb hts (xg_u mb_uws_X1) hown hK hP 6 rfl rfl 1 (by decide) (xg_w hts mb_fieldLink_RX1_15) (fun _ h9 => h9) rfl dX1_lastBlockNotAbove_12 ?_
    refine lv_iload_n hx hb dX1_lastBlockNotAbove_15 rfl (lv_at hl 0 rfl) ?_
    refine va_iald hx hb hK hP 8 0 rfl rfl (vp_in_nI (by omega) (by decide)) dX1_lastBlockNotAbove_16 ?_
    refine lv_topi (fun z1 ez1 => ?_)
    have ez1 : z1 = ff k := ez1.trans (congrArg ff (nI_clamp (by omega)))
    subst ez1
    refine lv_iload_n hx hb dX1_lastBlockNotAbove_17 rfl (lv_at hl 2 rfl) ?_
    refine lv_icmp_gt (tgt := 23) hx hb dX1_lastBlockNotAbove_18 rfl (fun hc => ?_) (fun hc => ?_)
    · have e1 : px_last ff key (k + 1) = px_last ff key k := by conv => lhs; unfold px_last; rw [if_neg (Int32.not_le.mpr hc)]
      rw [e1] at kk kn
      refine lv_iinc (k := 0) (v := nI k + (-1)) hx hb dX1_lastBlockNotAbove_23 hl rfl (rfl) (by decide) rfl (fun ls hl => ?_)
      have hl : lv_has ls 3 [(2, .int (nI k + (-1))), (0, .ref (ad 6)), (1, .int key)] := hl
      refine lv_goto (tgt := 7) hx hb dX1_lastBlockNotAbove_26 rfl ?_
      exact ih _ _ _ (by omega) hl hP hD hS kk kn
    · exact kk k (by unfold px_last; rw [if_pos (Int32.not_lt.mp hc)]) H locs ls (lv_sub hl [0] rfl) hP hD hS

set_option maxHeartbeats 4000000 in
set_option maxRecDepth 100000 in
theorem cX1_lastBlockNotAbove_m (l : Launch) (dC : Nat → ClassId) (dI : Nat → Nat → Nat) (ca : Nat → ClassId) (ad : Nat → Nat) (kf : Nat → Int32) (vf : Nat → Int64) (bf : Nat → Int32) (w : Int32) (op : Int32) (ln : Int32) (nx : Int32) (en : Int32) (ok : Int32) (tf : Nat → Int32) (ef : Nat → Int32) (ff : Nat → Int32) (fi : Int32) (ek : Int32) (ev : Int64) (n : Nat) (key : Int32) (hn : n ≤ 2444) : ∀ sz : Nat, Met l yX1_lastBlockNotAbove wsX1_lastBlockNotAbove ({ frames := 0, cells := 0, slots := 0, locals := 0 } : Room) (va_Pc [.ref (ad 6), .int key] (xP (dC, dI) (xt ca) (xw ad ca kf vf bf w op ln nx en ok tf (nI n) ef ff fi ek ev) sz)) (va_Qi (S := Unit) (fun r _ => (∃ j, px_last ff key n = some j ∧ r = nI j) ∨ (px_last ff key n = none ∧ r = -1)) (fun u t => xB (dC, dI) (xt ca) (va_A (xw ad ca kf vf bf w op ln nx en ok tf (nI n) ef ff fi ek ev) sz) (xw ad ca kf vf bf w op ln nx en ok tf (nI n) ef ff fi ek ev) t) (va_A (xw ad ca kf vf bf w op ln nx en ok tf (nI n) ef ff fi ek ev) sz)) 0 0 (va_A (xw ad ca kf vf bf w op ln nx en ok tf (nI n) ef ff fi ek ev) sz) := by
  intro sz
  refine Met.ofW (cc := cX1_lastBlockNotAbove) (maxL := 3) (ret := (some .int)) (by decide) rfl ?_
  intro p e s m args below meth c s₁ B hml hv
  obtain ⟨rfl, hsz, hP, hK, hD0, hE⟩ := hv
  have hx := B.exec
  have hb := B.bytes
  have hr := B.returns
  have hts := atoms_spec (ws := wsX1_lastBlockNotAbove) B.pre
  have hown : s.vm.findClass RX1 = some m.cls := findClass_of_methodNamed B.named
  have hlocks := B.notSynchronized
  subst hsz
  have hD := hD0.self (sz := s.heap.size)
  generalize hAe : va_A (xw ad ca kf vf bf w op ln nx en ok tf (nI n) ef ff fi ek ev) s.heap.size = A at hD hE ⊢
  have hA : ∀ q : Nat, s.heap.size ≤ q → A q := fun q h => by rw [← hAe]; exact Or.inr h
  have hS : va_S A s.heap s.heap [] := va_S.rf
  have hl := lv_entry ([.ref (ad 6), .int key]) (n := 3) (Nat.le_of_ble_eq_true rfl)
  rw [lg_entry_eq]
  generalize (lg_sl ([.ref (ad 6), .int key]) ++ List.replicate (3 - (lg_sl ([.ref (ad 6), .int key])).length) Slot.unset).toArray = ls at hl ⊢
  have hl : lv_has ls 3 [(0, .ref (ad 6)), (1, .int key)] := hl
  refine lv_aload_n hx hb dX1_lastBlockNotAbove_0 rfl (lv_at hl 0 rfl) ?_
  refine va_get (D := (dC, dI)) (ci := 1) (v := .int (nI n)) (C := RX1) (T := TX1) (N := 3) (ref := "SortedRun$Index") hx hb hts (xg_u mb_uws_X1) hown hK hP 6 rfl rfl 2 (by decide) (xg_w hts mb_fieldLink_RX1_18) (fun _ h9 => h9) rfl dX1_lastBlockNotAbove_1 ?_
  refine lv_iconst (v := 1) hx hb dX1_lastBlockNotAbove_4 (by decide) ?_
  refine lv_isub hx hb dX1_lastBlockNotAbove_5 ?_
  refine lv_topi (fun z1 ez1 => ?_)
  have ez1 : z1 = nI n + (-1) := ez1.trans (by rw [Int32.sub_eq_add_neg])
  subst ez1
  refine lv_istore_n hx hb dX1_lastBlockNotAbove_6 rfl hl (by decide) rfl (fun ls hl => ?_)
  have hl : lv_has ls 3 [(2, .int (nI n + (-1))), (0, .ref (ad 6)), (1, .int key)] := hl
  refine lpX1_lastBlockNotAbove_go hx hb hml hown hts hK hA hE n _ _ _ hn hl hP hD hS (fun j hj H locs ls hl hP hD hS => ?_) (fun hj H locs ls hP hD hS => ?_)
  · refine lv_iload_n hx hb dX1_lastBlockNotAbove_21 rfl (lv_at hl 0 rfl) ?_
    have hP9 := hP
    have hD9 := hD
    exact W.iret (v := nI j) hx hb hr (fun t ht hW => ⟨⟨nI j, (), rfl, Or.inl ⟨j, hj, rfl⟩, by rw [ht]; exact hP9, va_K.moved hW.alike hK, hD9⟩, hS.F ht⟩) hS.2.2 dX1_lastBlockNotAbove_22
  · refine lv_iconst (v := -1) hx hb dX1_lastBlockNotAbove_29 (by decide) ?_
    have hP9 := hP
    have hD9 := hD
    exact W.iret (v := -1) hx hb hr (fun t ht hW => ⟨⟨-1, (), rfl, Or.inr ⟨hj, rfl⟩, by rw [ht]; exact hP9, va_K.moved hW.alike hK, hD9⟩, hS.F ht⟩) hS.2.2 dX1_lastBlockNotAbove_30

set_option maxHeartbeats 4000000 in
set_option maxRecDepth 100000 in
theorem cX1_fitsIndex_m (l : Launch) (dC : Nat → ClassId) (dI : Nat → Nat → Nat) (ca : Nat → ClassId) (ad : Nat → Nat) (kf : Nat → Int32) (vf : Nat → Int64) (bf : Nat → Int32) (w : Int32) (op : Int32) (ln : Int32) (nx : Int32) (en : Int32) (ok : Int32) (tf : Nat → Int32) (nb : Int32) (ef : Nat → Int32) (ff : Nat → Int32) (fi : Int32) (ek : Int32) (ev : Int64) (n : Nat) (hn : n < 2 ^ 64) : ∀ sz : Nat, Met l yX1_fitsIndex wsX1_fitsIndex ({ frames := 0, cells := 0, slots := 0, locals := 0 } : Room) (va_Pc [.ref (ad 6), .long (lN n)] (xP (dC, dI) (xt ca) (xw ad ca kf vf bf w op ln nx en ok tf nb ef ff fi ek ev) sz)) (va_Qi (S := Unit) (fun r _ => (r = 1 ∧ n ≤ 4294967295) ∨ (r = 0 ∧ ¬ n ≤ 4294967295)) (fun u t => xB (dC, dI) (xt ca) (va_A (xw ad ca kf vf bf w op ln nx en ok tf nb ef ff fi ek ev) sz) (xw ad ca kf vf bf w op ln nx en ok tf nb ef ff fi ek ev) t) (va_A (xw ad ca kf vf bf w op ln nx en ok tf nb ef ff fi ek ev) sz)) 0 0 (va_A (xw ad ca kf vf bf w op ln nx en ok tf nb ef ff fi ek ev) sz) := by
  intro sz
  refine Met.ofW (cc := cX1_fitsIndex) (maxL := 3) (ret := (some .boolean)) (by decide) rfl ?_
  intro p e s m args below meth c s₁ B hml hv
  obtain ⟨rfl, hsz, hP, hK, hD0, hE⟩ := hv
  have hx := B.exec
  have hb := B.bytes
  have hr := B.returns
  have hts := atoms_spec (ws := wsX1_fitsIndex) B.pre
  have hown : s.vm.findClass RX1 = some m.cls := findClass_of_methodNamed B.named
  have hlocks := B.notSynchronized
  subst hsz
  have hD := hD0.self (sz := s.heap.size)
  generalize hAe : va_A (xw ad ca kf vf bf w op ln nx en ok tf nb ef ff fi ek ev) s.heap.size = A at hD hE ⊢
  have hA : ∀ q : Nat, s.heap.size ≤ q → A q := fun q h => by rw [← hAe]; exact Or.inr h
  have hS : va_S A s.heap s.heap [] := va_S.rf
  have hl := lv_entry ([.ref (ad 6), .long (lN n)]) (n := 3) (Nat.le_of_ble_eq_true rfl)
  rw [lg_entry_eq]
  generalize (lg_sl ([.ref (ad 6), .long (lN n)]) ++ List.replicate (3 - (lg_sl ([.ref (ad 6), .long (lN n)])).length) Slot.unset).toArray = ls at hl ⊢
  have hl : lv_has ls 3 [(0, .ref (ad 6)), (1, .long (lN n))] := hl
  have hf := pz_fit hn
  refine lv_lload_n hx hb dX1_fitsIndex_0 rfl (lv_at hl 1 rfl) ?_
  refine lv_lconst (v := 0) hx hb dX1_fitsIndex_1 (by decide) ?_
  refine W.lcmp hx hb dX1_fitsIndex_2 ?_
  refine lv_if_lt (tgt := 18) hx hb dX1_fitsIndex_3 rfl (fun hc => ?_) (fun hc => ?_)
  · refine lv_iconst (v := 0) hx hb dX1_fitsIndex_18 (by decide) ?_
    have hP9 := hP
    have hD9 := hD
    exact W.zret (v := 0) hx hb hr (by rfl) (fun t ht hW => ⟨⟨0, (), rfl, Or.inr ⟨rfl, fun z => (hf.mpr z).1 (lc_lt.mp hc)⟩, by rw [ht]; exact hP9, va_K.moved hW.alike hK, hD9⟩, hS.F ht⟩) hS.2.2 dX1_fitsIndex_19
  · have hc1 : ¬ lN n < 0 := fun z => hc (lc_lt.mpr z)
    refine lv_lload_n hx hb dX1_fitsIndex_6 rfl (lv_at hl 1 rfl) ?_
    refine lv_ldc2 (v := lN 4294967295) hx hb hown (xg_w hts mb_constantLong_RX1_64) dX1_fitsIndex_7 ?_
    refine W.lcmp hx hb dX1_fitsIndex_10 ?_
    refine lv_if_gt (tgt := 18) hx hb dX1_fitsIndex_11 rfl (fun hc2 => ?_) (fun hc2 => ?_)
    · refine lv_iconst (v := 0) hx hb dX1_fitsIndex_18 (by decide) ?_
      have hP9 := hP
      have hD9 := hD
      exact W.zret (v := 0) hx hb hr (by rfl) (fun t ht hW => ⟨⟨0, (), rfl, Or.inr ⟨rfl, fun z => (Int64.not_le.mpr (lc_gt.mp hc2)) (hf.mpr z).2⟩, by rw [ht]; exact hP9, va_K.moved hW.alike hK, hD9⟩, hS.F ht⟩) hS.2.2 dX1_fitsIndex_19
    · refine lv_iconst (v := 1) hx hb dX1_fitsIndex_14 (by decide) ?_
      refine lv_goto (tgt := 19) hx hb dX1_fitsIndex_15 rfl ?_
      have hP9 := hP
      have hD9 := hD
      exact W.zret (v := 1) hx hb hr (by rfl) (fun t ht hW => ⟨⟨1, (), rfl, Or.inl ⟨rfl, hf.mp ⟨hc1, Int64.not_lt.mp (fun z => hc2 (lc_gt.mpr z))⟩⟩, by rw [ht]; exact hP9, va_K.moved hW.alike hK, hD9⟩, hS.F ht⟩) hS.2.2 dX1_fitsIndex_19
end
section
/-! Index: read (rows by wip/whole/wix.py) -/
set_option maxHeartbeats 4000000 in
set_option maxRecDepth 100000 in
theorem lpX1_readBlocks_go {p : Program} {l : Launch} {e : Env} {s : State} {m : MethodId} {args : Array Value} {below : List Frame} {meth : Method} {c : Code} {Q : State → Prop} {A : Nat → Prop} {dC : Nat → ClassId} {dI : Nat → Nat → Nat} {ca : Nat → ClassId} {ad : Nat → Nat} (hx : p.tables.exec = Jvm.exec) (hb : c.code = cX1_readBlocks) (hml : c.maxLocals = 12) (hown : s.vm.findClass RX1 = some m.cls) (hts : ∀ w ∈ wsX1_readBlocks, w.before args s = true) (hK : va_K (dC, dI) vwCl (xt ca) s) (hA : ∀ q : Nat, s.heap.size ≤ q → A q) (hE : xn_E A s) {kf : Nat → Int32} {vf : Nat → Int64} {bf : Nat → Int32} {w : Int32} {op : Int32} {ln : Int32} {tf : Nat → Int32} {fi : Int32} {ek : Int32} {ev : Int64} {e9 n : Nat} {z2 : Int32} (he9 : e9 ≤ 4889) (hn9 : n ≤ 2444) : ∀ (k : Nat) (b a acc : Nat) (ok : Int32) (ef ff : Nat → Int32) (H : Heap) (locs : List Loc) (ls : Array Slot), (ok = 0 ∨ ok = 1) → b + k = n → a ≤ e9 → lv_has ls 12 [(7, .int (nI b)), (5, .long (lN acc)), (0, .ref (ad 6)), (1, .ref (ad 4)), (2, .int z2)] → va_P (dC, dI) vwCl (xw ad ca kf vf bf w op ln (nI a) (nI e9) ok tf (nI n) ef ff fi ek ev) H → va_D A (xw ad ca kf vf bf w op ln (nI a) (nI e9) ok tf (nI n) ef ff fi ek ev) → va_S A s.heap H locs → (ok = 1 → ∀ lr a', px_rd tf e9 k a = some (lr, a') → ∀ ef' ff' : Nat → Int32, (∀ j, j < b → ef' j = ef j ∧ ff' j = ff j) → px_rows b acc lr ef' ff' → ∀ (H : Heap) (locs : List Loc) (ls : Array Slot), lv_has ls 12 [(5, .long (lN (acc + px_sum lr))), (2, .int z2)] → va_P (dC, dI) vwCl (xw ad ca kf vf bf w op ln (nI a') (nI e9) 1 tf (nI n) ef' ff' fi ek ev) H → va_D A (xw ad ca kf vf bf w op ln (nI a') (nI e9) 1 tf (nI n) ef' ff' fi ek ev) → va_S A s.heap H locs → W p l e ({ frames := 2, cells := 0, slots := 0, locals := 45 } : Room) s m args below meth c H locs 0 0 Q (F0 m 110 ls [])) → (ok = 0 ∨ px_rd tf e9 k a = none → ∀ (a' s9 : Nat) (ef' ff' : Nat → Int32), a' ≤ e9 → ∀ (H : Heap) (locs : List Loc) (ls : Array Slot), lv_has ls 12 [(5, .long (lN s9)), (2, .int z2)] → va_P (dC, dI) vwCl (xw ad ca kf vf bf w op ln (nI a') (nI e9) 0 tf (nI n) ef' ff' fi ek ev) H → va_D A (xw ad ca kf vf bf w op ln (nI a') (nI e9) 0 tf (nI n) ef' ff' fi ek ev) → va_S A s.heap H locs → W p l e ({ frames := 2, cells := 0, slots := 0, locals := 45 } : Room) s m args below meth c H locs 0 0 Q (F0 m 110 ls [])) → (ok = 0 ∨ px_rd tf e9 k a = none → ∀ (a' : Nat) (ok' : Int32) (ef' ff' : Nat → Int32), a' ≤ e9 → ∀ (H : Heap) (locs : List Loc) (ls : Array Slot), va_P (dC, dI) vwCl (xw ad ca kf vf bf w op ln (nI a') (nI e9) ok' tf (nI n) ef' ff' fi ek ev) H → va_D A (xw ad ca kf vf bf w op ln (nI a') (nI e9) ok' tf (nI n) ef' ff' fi ek ev) → va_S A s.heap H locs → W p l e ({ frames := 2, cells := 0, slots := 0, locals := 45 } : Room) s m args below meth c H locs 0 0 Q (F0 m 72 ls [])) → W p l e ({ frames := 2, cells := 0, slots := 0, locals := 45 } : Room) s m args below meth c H locs 0 0 Q (F0 m 33 ls []) := by
  intro k
  induction k with
  | zero =>
    intro b a acc ok ef ff H locs ls hok hbn ha hl hP hD hS kg kb ke
    have hl : lv_has ls 12 [(7, .int (nI b)), (5, .long (lN acc)), (0, .ref (ad 6)), (1, .ref (ad 4)), (2, .int z2)] := hl
    refine lv_iload hx hb dX1_readBlocks_33 (lv_at hl 0 rfl) ?_
    refine lv_aload_n hx hb dX1_readBlocks_35 rfl (lv_at hl 2 rfl) ?_
    refine va_get (D := (dC, dI)) (ci := 1) (v := .int (nI n)) (C := RX1) (T := TX1) (N := 3) (ref := "SortedRun$Index") hx hb hts (xg_u mb_uws_X1) hown hK hP 6 rfl rfl 2 (by decide) (xg_w hts mb_fieldLink_RX1_18) (fun _ h9 => h9) rfl dX1_readBlocks_36 ?_
    refine lv_icmp_ge (tgt := 110) hx hb dX1_readBlocks_39 rfl (fun hc => ?_) (fun hc => absurd hc (not_not_intro (nI_le (by omega) (by omega))))
    by_cases h1 : ok = 1
    · subst h1
      exact kg rfl [] a rfl ef ff (fun _ _ => ⟨rfl, rfl⟩) px_rows_nil H locs ls (lv_sub hl [1, 4] rfl) hP hD hS
    · by_cases h0 : ok = 0
      · subst h0
        exact kb (Or.inl rfl) a acc ef ff ha H locs ls (lv_sub hl [1, 4] rfl) hP hD hS
      · exact absurd hok (by intro z; rcases z with z | z; exact h0 z; exact h1 z)
  | succ k ih =>
    intro b a acc ok ef ff H locs ls hok hbn ha hl hP hD hS kg kb ke
    have hl : lv_has ls 12 [(7, .int (nI b)), (5, .long (lN acc)), (0, .ref (ad 6)), (1, .ref (ad 4)), (2, .int z2)] := hl
    refine lv_iload hx hb dX1_readBlocks_33 (lv_at hl 0 rfl) ?_
    refine lv_aload_n hx hb dX1_readBlocks_35 rfl (lv_at hl 2 rfl) ?_
    refine va_get (D := (dC, dI)) (ci := 1) (v := .int (nI n)) (C := RX1) (T := TX1) (N := 3) (ref := "SortedRun$Index") hx hb hts (xg_u mb_uws_X1) hown hK hP 6 rfl rfl 2 (by decide) (xg_w hts mb_fieldLink_RX1_18) (fun _ h9 => h9) rfl dX1_readBlocks_36 ?_
    refine lv_icmp_ge (tgt := 110) hx hb dX1_readBlocks_39 rfl (fun hc => absurd hc (by rw [nI_leI (by omega) (by omega)]; omega)) (fun hc => ?_)
    refine lv_aload_n hx hb dX1_readBlocks_42 rfl (lv_at hl 3 rfl) ?_
    refine xk_l (va_runV (As := []) (rest := []) ⟨hx, hb, hml, hown, hts⟩ (cX2_takeNumber_m l dC dI ca ad kf vf bf w op ln ok tf (nI n) ef ff fi ek ev a e9 ha he9 _) (cwV 0 hts (xg_V mb_methodLink_RX1_51 mb_instanceMethod_yX2_takeNumber mb_selects_yX2_takeNumber mb_initialized_RX2 mb_code_yX2_takeNumber) rfl rfl rfl ⟨rfl, by decide, by decide, by decide +kernel⟩ ⟨Nat.le_of_ble_eq_true rfl, Nat.le_of_ble_eq_true rfl⟩) (xpreV (va_recv (q0 := 4) hK hP rfl rfl) hK hP hD hS hA hE) rfl rfl hl.1 rfl (lv_room (Nat.le_of_ble_eq_true rfl)) dX1_readBlocks_43 ⟨Nat.le_of_ble_eq_true rfl, Nat.le_of_ble_eq_true rfl⟩) hD hS hA (fun r u H locs hu hP hD hS => ?_)
    have hP : va_P (dC, dI) vwCl (xw ad ca kf vf bf w op ln (nI u.2.1) (nI e9) u.2.2 tf (nI n) ef ff fi ek ev) H := hP
    have hD : va_D A (xw ad ca kf vf bf w op ln (nI u.2.1) (nI e9) u.2.2 tf (nI n) ef ff fi ek ev) := hD
    obtain ⟨n1, a1, o1⟩ := u
    obtain ⟨hr1, hn1, h1, h2, hq1⟩ := hu
    dsimp only at hr1 hn1 h1 h2 hq1 hP hD
    subst hr1
    refine lv_lstore hx hb dX1_readBlocks_46 hl (by decide) rfl (fun ls hl => ?_)
    have hl : lv_has ls 12 [(8, .long (lN n1)), (7, .int (nI b)), (5, .long (lN acc)), (0, .ref (ad 6)), (1, .ref (ad 4)), (2, .int z2)] := hl
    refine lv_aload_n hx hb dX1_readBlocks_48 rfl (lv_at hl 4 rfl) ?_
    refine xk_l (va_runV (As := []) (rest := []) ⟨hx, hb, hml, hown, hts⟩ (cX2_takeNumber_m l dC dI ca ad kf vf bf w op ln o1 tf (nI n) ef ff fi ek ev a1 e9 h2 he9 _) (cwV 0 hts (xg_V mb_methodLink_RX1_51 mb_instanceMethod_yX2_takeNumber mb_selects_yX2_takeNumber mb_initialized_RX2 mb_code_yX2_takeNumber) rfl rfl rfl ⟨rfl, by decide, by decide, by decide +kernel⟩ ⟨Nat.le_of_ble_eq_true rfl, Nat.le_of_ble_eq_true rfl⟩) (xpreV (va_recv (q0 := 4) hK hP rfl rfl) hK hP hD hS hA hE) rfl rfl hl.1 rfl (lv_room (Nat.le_of_ble_eq_true rfl)) dX1_readBlocks_49 ⟨Nat.le_of_ble_eq_true rfl, Nat.le_of_ble_eq_true rfl⟩) hD hS hA (fun r u H locs hu hP hD hS => ?_)
    have hP : va_P (dC, dI) vwCl (xw ad ca kf vf bf w op ln (nI u.2.1) (nI e9) u.2.2 tf (nI n) ef ff fi ek ev) H := hP
    have hD : va_D A (xw ad ca kf vf bf w op ln (nI u.2.1) (nI e9) u.2.2 tf (nI n) ef ff fi ek ev) := hD
    obtain ⟨n2, a2, o2⟩ := u
    obtain ⟨hr2, hn2, h3, h4, hq2⟩ := hu
    dsimp only at hr2 hn2 h3 h4 hq2 hP hD
    subst hr2
    obtain ⟨s1, s2, s3⟩ := px_step (k := k) hq1 hq2
    have ho1 : o1 = 0 ∨ o1 = 1 := hq1.elim (fun z => by rw [z.2]; exact hok) (fun z => Or.inl z.2)
    have ho2 : o2 = 0 ∨ o2 = 1 := hq2.elim (fun z => by rw [z.2]; exact ho1) (fun z => Or.inl z.2)
    refine lv_lstore hx hb dX1_readBlocks_52 hl (by decide) rfl (fun ls hl => ?_)
    have hl : lv_has ls 12 [(10, .long (lN n2)), (8, .long (lN n1)), (7, .int (nI b)), (5, .long (lN acc)), (0, .ref (ad 6)), (1, .ref (ad 4)), (2, .int z2)] := hl
    refine lv_aload_n hx hb dX1_readBlocks_54 rfl (lv_at hl 4 rfl) ?_
    refine lv_lload hx hb dX1_readBlocks_55 (lv_at hl 1 rfl) ?_
    refine xk_i (va_runV (As := [.long (lN n1)]) (rest := []) ⟨hx, hb, hml, hown, hts⟩ (cX1_fitsIndex_m l dC dI ca ad kf vf bf w op ln (nI a2) (nI e9) o2 tf (nI n) ef ff fi ek ev n1 hn1 _) (cwV 1 hts (xg_V mb_methodLink_RX1_56 mb_instanceMethod_yX1_fitsIndex mb_selects_yX1_fitsIndex mb_initialized_RX1 mb_code_yX1_fitsIndex) rfl rfl rfl ⟨rfl, by decide, by decide, by decide +kernel⟩ ⟨Nat.le_of_ble_eq_true rfl, Nat.le_of_ble_eq_true rfl⟩) (xpreV (va_recv (q0 := 6) hK hP rfl rfl) hK hP hD hS hA hE) rfl rfl hl.1 rfl (lv_room (Nat.le_of_ble_eq_true rfl)) dX1_readBlocks_57 ⟨Nat.le_of_ble_eq_true rfl, Nat.le_of_ble_eq_true rfl⟩) hD hS hA (fun r u H locs hu hP hD hS => ?_)
    have hP : va_P (dC, dI) vwCl (xw ad ca kf vf bf w op ln (nI a2) (nI e9) o2 tf (nI n) ef ff fi ek ev) H := hP
    have hD : va_D A (xw ad ca kf vf bf w op ln (nI a2) (nI e9) o2 tf (nI n) ef ff fi ek ev) := hD
    rcases hu with hf | hf
    · obtain ⟨rfl, hf⟩ := hf
      refine lv_if_eq (tgt := 72) hx hb dX1_readBlocks_60 rfl (fun hc => absurd hc (by decide)) (fun hc => ?_)
      refine lv_aload_n hx hb dX1_readBlocks_63 rfl (lv_at hl 4 rfl) ?_
      refine lv_lload hx hb dX1_readBlocks_64 (lv_at hl 0 rfl) ?_
      refine xk_i (va_runV (As := [.long (lN n2)]) (rest := []) ⟨hx, hb, hml, hown, hts⟩ (cX1_fitsIndex_m l dC dI ca ad kf vf bf w op ln (nI a2) (nI e9) o2 tf (nI n) ef ff fi ek ev n2 hn2 _) (cwV 1 hts (xg_V mb_methodLink_RX1_56 mb_instanceMethod_yX1_fitsIndex mb_selects_yX1_fitsIndex mb_initialized_RX1 mb_code_yX1_fitsIndex) rfl rfl rfl ⟨rfl, by decide, by decide, by decide +kernel⟩ ⟨Nat.le_of_ble_eq_true rfl, Nat.le_of_ble_eq_true rfl⟩) (xpreV (va_recv (q0 := 6) hK hP rfl rfl) hK hP hD hS hA hE) rfl rfl hl.1 rfl (lv_room (Nat.le_of_ble_eq_true rfl)) dX1_readBlocks_66 ⟨Nat.le_of_ble_eq_true rfl, Nat.le_of_ble_eq_true rfl⟩) hD hS hA (fun r u H locs hu hP hD hS => ?_)
      have hP : va_P (dC, dI) vwCl (xw ad ca kf vf bf w op ln (nI a2) (nI e9) o2 tf (nI n) ef ff fi ek ev) H := hP
      have hD : va_D A (xw ad ca kf vf bf w op ln (nI a2) (nI e9) o2 tf (nI n) ef ff fi ek ev) := hD
      rcases hu with hf2 | hf2
      · obtain ⟨rfl, hf2⟩ := hf2
        refine lv_if_ne (tgt := 74) hx hb dX1_readBlocks_69 rfl (fun hc => ?_) (fun hc => absurd hc (by decide))
        refine lv_lload hx hb dX1_readBlocks_74 (lv_at hl 3 rfl) ?_
        refine lv_lload hx hb dX1_readBlocks_76 (lv_at hl 1 rfl) ?_
        refine lv_ladd hx hb dX1_readBlocks_78 ?_
        refine lv_topl (fun z1 ez1 => ?_)
        have ez1 : z1 = lN (acc + n1) := ez1.trans (lN_add _ _)
        subst ez1
        refine lv_lstore hx hb dX1_readBlocks_79 hl (by decide) rfl (fun ls hl => ?_)
        have hl : lv_has ls 12 [(5, .long (lN (acc + n1))), (10, .long (lN n2)), (8, .long (lN n1)), (7, .int (nI b)), (0, .ref (ad 6)), (1, .ref (ad 4)), (2, .int z2)] := hl
        refine lv_aload_n hx hb dX1_readBlocks_81 rfl (lv_at hl 4 rfl) ?_
        refine va_get (D := (dC, dI)) (ci := 1) (v := .ref (ad 7)) (C := RX1) (T := TX1) (N := 3) (ref := "SortedRun$Index") hx hb hts (xg_u mb_uws_X1) hown hK hP 6 rfl rfl 0 (by decide) (xg_w hts mb_fieldLink_RX1_9) (fun _ h9 => h9) rfl dX1_readBlocks_82 ?_
        refine lv_iload hx hb dX1_readBlocks_85 (lv_at hl 3 rfl) ?_
        refine lv_lload hx hb dX1_readBlocks_87 (lv_at hl 0 rfl) ?_
        refine lv_l2i (v := nI (acc + n1)) hx hb dX1_readBlocks_89 (lN_i _) ?_
        refine va_iast hx hb hK hP hD hS 7 0 rfl rfl (vp_in_nI (by omega) (by decide)) dX1_readBlocks_90 (fun H locs hP hD hS => ?_)
        have e9 : upd ef (nI b).toNatClampNeg (nI (acc + n1)) = upd ef b (nI (acc + n1)) := by rw [nI_clamp (by omega)]
        rw [e9] at hP hD
        clear e9
        have hP : va_P (dC, dI) vwCl (xw ad ca kf vf bf w op ln (nI a2) (nI e9) o2 tf (nI n) (upd ef b (nI (acc + n1))) ff fi ek ev) H := hP
        have hD : va_D A (xw ad ca kf vf bf w op ln (nI a2) (nI e9) o2 tf (nI n) (upd ef b (nI (acc + n1))) ff fi ek ev) := hD
        refine lv_aload_n hx hb dX1_readBlocks_91 rfl (lv_at hl 4 rfl) ?_
        refine va_get (D := (dC, dI)) (ci := 1) (v := .ref (ad 8)) (C := RX1) (T := TX1) (N := 3) (ref := "SortedRun$Index") hx hb hts (xg_u mb_uws_X1) hown hK hP 6 rfl rfl 1 (by decide) (xg_w hts mb_fieldLink_RX1_15) (fun _ h9 => h9) rfl dX1_readBlocks_92 ?_
        refine lv_iload hx hb dX1_readBlocks_95 (lv_at hl 3 rfl) ?_
        refine lv_lload hx hb dX1_readBlocks_97 (lv_at hl 1 rfl) ?_
        refine xk_l (va_runSN (As := [.long (lN n2)]) (rest := [.int (nI b), .ref (ad 8)]) ⟨hx, hb, hml, hown, hts⟩ (cX3_unfold_m l dC dI ca ad kf vf bf w op ln (nI a2) (nI e9) o2 tf (nI n) (upd ef b (nI (acc + n1))) ff fi ek ev (lN n2) _) ⟨va_cnB 1 hts (xg_0 mb_code_yX3_unfold) rfl rfl rfl (xn_nw (w := .methodLinkNest RX1 60 yX3_unfold "SortedRun") (i := 345) hE rfl rfl) (xg_w hts mb_initialized_RX3) ⟨by decide, by decide, by decide +kernel⟩ ⟨Nat.le_of_ble_eq_true rfl, Nat.le_of_ble_eq_true rfl⟩, xg_w hts mb_static_yX3_unfold, trivial⟩ (xpreS hK hP hD hS hA hE) rfl rfl hl.1 rfl (lv_room (Nat.le_of_ble_eq_true rfl)) dX1_readBlocks_99 ⟨Nat.le_of_ble_eq_true rfl, Nat.le_of_ble_eq_true rfl⟩) hD hS hA (fun r u H locs hu hP hD hS => ?_)
        subst hu
        have hP : va_P (dC, dI) vwCl (xw ad ca kf vf bf w op ln (nI a2) (nI e9) o2 tf (nI n) (upd ef b (nI (acc + n1))) ff fi ek ev) H := hP
        have hD : va_D A (xw ad ca kf vf bf w op ln (nI a2) (nI e9) o2 tf (nI n) (upd ef b (nI (acc + n1))) ff fi ek ev) := hD
        refine lv_l2i (v := (pu_u (lN n2)).toInt32) hx hb dX1_readBlocks_102 (rfl) ?_
        refine va_iast hx hb hK hP hD hS 8 0 rfl rfl (vp_in_nI (by omega) (by decide)) dX1_readBlocks_103 (fun H locs hP hD hS => ?_)
        have e9 : upd ff (nI b).toNatClampNeg ((pu_u (lN n2)).toInt32) = upd ff b (pu_u (lN n2)).toInt32 := by rw [nI_clamp (by omega)]
        rw [e9] at hP hD
        clear e9
        have hP : va_P (dC, dI) vwCl (xw ad ca kf vf bf w op ln (nI a2) (nI e9) o2 tf (nI n) (upd ef b (nI (acc + n1))) (upd ff b (pu_u (lN n2)).toInt32) fi ek ev) H := hP
        have hD : va_D A (xw ad ca kf vf bf w op ln (nI a2) (nI e9) o2 tf (nI n) (upd ef b (nI (acc + n1))) (upd ff b (pu_u (lN n2)).toInt32) fi ek ev) := hD
        refine lv_iinc (k := 3) (v := nI (b + 1)) hx hb dX1_readBlocks_104 hl rfl (nI_1 b) (by decide) rfl (fun ls hl => ?_)
        have hl : lv_has ls 12 [(7, .int (nI (b + 1))), (5, .long (lN (acc + n1))), (10, .long (lN n2)), (8, .long (lN n1)), (0, .ref (ad 6)), (1, .ref (ad 4)), (2, .int z2)] := hl
        refine lv_goto (tgt := 33) hx hb dX1_readBlocks_107 rfl ?_
        refine ih (b + 1) a2 (acc + n1) o2 _ _ _ _ _ ho2 (by omega) h4 (lv_sub hl [0, 1, 4, 5, 6] rfl) hP hD hS ?_ ?_ ?_
        · intro ho lr a' hl' ef' ff' hsame hrows H locs ls hl hP hD hS
          obtain ⟨q1, q2⟩ := s3 hf hf2 ho
          rw [Nat.add_assoc] at hl
          refine kg q1 ((n1, n2) :: lr) a' (q2 lr a' hl') ef' ff' (fun j hj => ?_) ?_ H locs ls hl hP hD hS
          · obtain ⟨t1, t2⟩ := hsame j (by omega)
            exact ⟨t1.trans (pk_un (by omega)), t2.trans (pk_un (by omega))⟩
          · obtain ⟨t1, t2⟩ := hsame b (by omega)
            exact px_rows_cons (ef := ef) (ff := ff) (t1.trans pk_us) (t2.trans pk_us) hrows
        · intro hb a' s9 ef' ff' ha' H locs ls hl hP hD hS
          exact kb (s2 hf hf2 hb) a' s9 ef' ff' ha' H locs ls hl hP hD hS
        · intro hb a' ok' ef' ff' ha' H locs ls hP hD hS
          exact ke (s2 hf hf2 hb) a' ok' ef' ff' ha' H locs ls hP hD hS
      · obtain ⟨rfl, hf2⟩ := hf2
        refine lv_if_ne (tgt := 74) hx hb dX1_readBlocks_69 rfl (fun hc => absurd hc (not_not_intro rfl)) (fun hc => ?_)
        exact ke (s1 (fun z => hf2 z.2)) a2 o2 ef ff h4 H locs ls hP hD hS
    · obtain ⟨rfl, hf⟩ := hf
      refine lv_if_eq (tgt := 72) hx hb dX1_readBlocks_60 rfl (fun hc => ?_) (fun hc => absurd hc (not_not_intro rfl))
      exact ke (s1 (fun z => hf z.1)) a2 o2 ef ff h4 H locs ls hP hD hS
end
section
/-! an INDEX that isn't right; sums of lengths -/
def px_bad (f : Nat → Int32) (e a : Nat) : Prop := pb_rd f e a = none ∨ ∃ n a1, pb_rd f e a = some (n, a1) ∧ (2444 < n ∨ px_rd f e n a1 = none)
theorem px_rd_sum {f : Nat → Int32} {e : Nat} : ∀ k a l a', px_rd f e k a = some (l, a') → px_sum l ≤ k * 4294967295
  | 0, a, l, a', h => by
    unfold px_rd at h
    cases h
    exact Nat.zero_le _
  | k + 1, a, l, a', h => by
    unfold px_rd at h
    cases hq : pb_rd f e a with
    | none => rw [hq] at h; cases h
    | some q =>
      obtain ⟨n, a1⟩ := q
      rw [hq] at h
      cases hr : pb_rd f e a1 with
      | none => simp only [hr] at h; cases h
      | some r =>
        obtain ⟨m, a2⟩ := r
        simp only [hr] at h
        split at h
        · rename_i hnm
          cases ht : px_rd f e k a2 with
          | none => simp [ht] at h
          | some t =>
            obtain ⟨l1, a3⟩ := t
            simp [ht] at h
            have h3 := px_rd_sum k a2 l1 a3 ht
            rw [← h.1]
            show n + px_sum l1 ≤ _
            rw [Nat.succ_mul]
            omega
        · cases h
theorem pz_fit2 {n B : Nat} (h : n < 2 ^ 64) (hB : B < 2 ^ 63) : (¬ lN n < lN 0 ∧ lN n ≤ lN B) ↔ n ≤ B := by
  have e1 := lN_ti h
  have e2 := lN_ti (Nat.lt_trans hB (by decide : 2 ^ 63 < 2 ^ 64))
  rw [if_pos hB] at e2
  have e0 : (lN 0).toInt = 0 := by decide
  rw [Int64.lt_iff_toInt_lt, Int64.le_iff_toInt_le, e1, e2, e0]
  split <;> omega
theorem px_open_bad {f : Nat → Int32} {L : Nat} (hL : L ≤ 4889) (h : px_bad f (L - 8) (L - 8 - pf_n f (L - 4) 4)) : px_open f L = none := by
  unfold px_open
  split
  · rcases h with h | ⟨n, a1, h, h2⟩
    · simp only [h]
    · simp only [h]
      rcases h2 with h2 | h2
      · cases hq : px_rd f (L - 8) n a1 with
        | none => rfl
        | some q =>
          obtain ⟨l, a2⟩ := q
          obtain ⟨q1, q2, q3⟩ := px_rd_in n a1 l a2 hq
          have q4 := q3 (pb_rd_in h).2
          omega
      · simp only [h2]
  · rfl
end
section
/-! Index: readBlocks, readFrom (rows by wip/whole/wix.py) -/
set_option maxHeartbeats 4000000 in
set_option maxRecDepth 100000 in
theorem cX1_readBlocks_m (l : Launch) (dC : Nat → ClassId) (dI : Nat → Nat → Nat) (ca : Nat → ClassId) (ad : Nat → Nat) (kf : Nat → Int32) (vf : Nat → Int64) (bf : Nat → Int32) (w : Int32) (op : Int32) (ln : Int32) (tf : Nat → Int32) (nb : Int32) (ef : Nat → Int32) (ff : Nat → Int32) (fi : Int32) (ek : Int32) (ev : Int64) (a e9 st : Nat) (ha : a ≤ e9) (he9 : e9 ≤ 4889) (hst : st < 2 ^ 31) : ∀ sz : Nat, Met l yX1_readBlocks wsX1_readBlocks ({ frames := 2, cells := 0, slots := 0, locals := 45 } : Room) (va_Pc [.ref (ad 6), .ref (ad 4), .int (nI st)] (xP (dC, dI) (xt ca) (xw ad ca kf vf bf w op ln (nI a) (nI e9) 1 tf nb ef ff fi ek ev) sz)) (va_Qi (S := Int32 × Nat × Int32 × (Nat → Int32) × (Nat → Int32)) (fun r u => (∃ n a1 lr, pb_rd tf e9 a = some (n, a1) ∧ n ≤ 2444 ∧ px_rd tf e9 n a1 = some (lr, u.2.1) ∧ u.2.2.1 = 1 ∧ u.1 = nI n ∧ px_rows 0 0 lr u.2.2.2.1 u.2.2.2.2 ∧ ((r = 1 ∧ px_sum lr = st) ∨ (r = 0 ∧ ¬ px_sum lr = st))) ∨ ((r = 0 ∨ u.2.2.1 = 0) ∧ (r = 0 ∨ r = 1) ∧ u.2.1 ≤ e9 ∧ px_bad tf e9 a)) (fun u t => xB (dC, dI) (xt ca) (va_A (xw ad ca kf vf bf w op ln (nI a) (nI e9) 1 tf nb ef ff fi ek ev) sz) (xw ad ca kf vf bf w op ln (nI u.2.1) (nI e9) u.2.2.1 tf u.1 u.2.2.2.1 u.2.2.2.2 fi ek ev) t) (va_A (xw ad ca kf vf bf w op ln (nI a) (nI e9) 1 tf nb ef ff fi ek ev) sz)) 0 0 (va_A (xw ad ca kf vf bf w op ln (nI a) (nI e9) 1 tf nb ef ff fi ek ev) sz) := by
  intro sz
  refine Met.ofW (cc := cX1_readBlocks) (maxL := 12) (ret := (some .boolean)) (by decide) rfl ?_
  intro p e s m args below meth c s₁ B hml hv
  obtain ⟨rfl, hsz, hP, hK, hD0, hE⟩ := hv
  have hx := B.exec
  have hb := B.bytes
  have hr := B.returns
  have hts := atoms_spec (ws := wsX1_readBlocks) B.pre
  have hown : s.vm.findClass RX1 = some m.cls := findClass_of_methodNamed B.named
  have hlocks := B.notSynchronized
  subst hsz
  have hD := hD0.self (sz := s.heap.size)
  generalize hAe : va_A (xw ad ca kf vf bf w op ln (nI a) (nI e9) 1 tf nb ef ff fi ek ev) s.heap.size = A at hD hE ⊢
  have hA : ∀ q : Nat, s.heap.size ≤ q → A q := fun q h => by rw [← hAe]; exact Or.inr h
  have hS : va_S A s.heap s.heap [] := va_S.rf
  have hl := lv_entry ([.ref (ad 6), .ref (ad 4), .int (nI st)]) (n := 12) (Nat.le_of_ble_eq_true rfl)
  rw [lg_entry_eq]
  generalize (lg_sl ([.ref (ad 6), .ref (ad 4), .int (nI st)]) ++ List.replicate (12 - (lg_sl ([.ref (ad 6), .ref (ad 4), .int (nI st)])).length) Slot.unset).toArray = ls at hl ⊢
  have hl : lv_has ls 12 [(0, .ref (ad 6)), (1, .ref (ad 4)), (2, .int (nI st))] := hl
  refine lv_aload_n hx hb dX1_readBlocks_0 rfl (lv_at hl 1 rfl) ?_
  refine xk_l (va_runV (As := []) (rest := []) ⟨hx, hb, hml, hown, hts⟩ (cX2_takeNumber_m l dC dI ca ad kf vf bf w op ln 1 tf nb ef ff fi ek ev a e9 ha he9 _) (cwV 0 hts (xg_V mb_methodLink_RX1_51 mb_instanceMethod_yX2_takeNumber mb_selects_yX2_takeNumber mb_initialized_RX2 mb_code_yX2_takeNumber) rfl rfl rfl ⟨rfl, by decide, by decide, by decide +kernel⟩ ⟨Nat.le_of_ble_eq_true rfl, Nat.le_of_ble_eq_true rfl⟩) (xpreV (va_recv (q0 := 4) hK hP rfl rfl) hK hP hD hS hA hE) rfl rfl hl.1 rfl (lv_room (Nat.le_of_ble_eq_true rfl)) dX1_readBlocks_1 ⟨Nat.le_of_ble_eq_true rfl, Nat.le_of_ble_eq_true rfl⟩) hD hS hA (fun r u H locs hu hP hD hS => ?_)
  have hP : va_P (dC, dI) vwCl (xw ad ca kf vf bf w op ln (nI u.2.1) (nI e9) u.2.2 tf nb ef ff fi ek ev) H := hP
  have hD : va_D A (xw ad ca kf vf bf w op ln (nI u.2.1) (nI e9) u.2.2 tf nb ef ff fi ek ev) := hD
  obtain ⟨n, a1, o1⟩ := u
  obtain ⟨hr1, hn1, h1, h2, hq1⟩ := hu
  dsimp only at hr1 hn1 h1 h2 hq1 hP hD
  subst hr1
  have hf := pz_fit2 (B := 2444) hn1 (by decide)
  have hbad : ¬ n ≤ 2444 → px_bad tf e9 a := fun hn => hq1.elim (fun z => Or.inr ⟨n, a1, z.1, Or.inl (by omega)⟩) (fun z => Or.inl z.1)
  refine lv_lstore_n hx hb dX1_readBlocks_4 rfl hl (by decide) rfl (fun ls hl => ?_)
  have hl : lv_has ls 12 [(3, .long (lN n)), (0, .ref (ad 6)), (1, .ref (ad 4)), (2, .int (nI st))] := hl
  refine lv_lload_n hx hb dX1_readBlocks_5 rfl (lv_at hl 0 rfl) ?_
  refine lv_lconst (v := lN 0) hx hb dX1_readBlocks_6 (by decide) ?_
  refine W.lcmp hx hb dX1_readBlocks_7 ?_
  refine lv_if_lt (tgt := 19) hx hb dX1_readBlocks_8 rfl (fun hc => ?_) (fun hc => ?_)
  · refine lv_iconst (v := 0) hx hb dX1_readBlocks_19 (by decide) ?_
    have hP9 := hP
    have hD9 := hD
    exact W.zret (v := 0) hx hb hr (by rfl) (fun t ht hW => ⟨⟨0, (nb, a1, o1, ef, ff), rfl, Or.inr ⟨Or.inl rfl, Or.inl rfl, h2, hbad (fun z => (hf.mpr z).1 (lc_lt.mp hc))⟩, by rw [ht]; exact hP9, va_K.moved hW.alike hK, hD9⟩, hS.F ht⟩) hS.2.2 dX1_readBlocks_20
  · have hc1 : ¬ lN n < lN 0 := fun z => hc (lc_lt.mpr z)
    refine lv_lload_n hx hb dX1_readBlocks_11 rfl (lv_at hl 0 rfl) ?_
    refine lv_ldc2 (v := lN 2444) hx hb hown (xg_w hts mb_constantLong_RX1_54) dX1_readBlocks_12 ?_
    refine W.lcmp hx hb dX1_readBlocks_15 ?_
    refine lv_if_le (tgt := 21) hx hb dX1_readBlocks_16 rfl (fun hc2 => ?_) (fun hc2 => ?_)
    · have hn9 : n ≤ 2444 := hf.mp ⟨hc1, lc_le.mp hc2⟩
      refine lv_aload_n hx hb dX1_readBlocks_21 rfl (lv_at hl 1 rfl) ?_
      refine lv_lload_n hx hb dX1_readBlocks_22 rfl (lv_at hl 0 rfl) ?_
      refine lv_l2i (v := nI n) hx hb dX1_readBlocks_23 (lN_i n) ?_
      refine va_put (D := (dC, dI)) (ci := 1) (v := .int (nI n)) (ty := .int) (C := RX1) (T := TX1) (N := 3) (ref := "SortedRun$Index") hx hb hts (xg_u mb_uws_X1) tyX1 tyX1_ok nmX1 hown hK hP hD hS 6 rfl rfl 2 (by decide) (xg_w hts mb_fieldLink_RX1_18) (fun _ h9 => h9) rfl (by decide +kernel) rfl rfl (Nat.le_of_ble_eq_true rfl) dX1_readBlocks_24 (fun H locs hP hD hS => ?_)
      have hP : va_P (dC, dI) vwCl (xw ad ca kf vf bf w op ln (nI a1) (nI e9) o1 tf (nI n) ef ff fi ek ev) H := hP
      have hD : va_D A (xw ad ca kf vf bf w op ln (nI a1) (nI e9) o1 tf (nI n) ef ff fi ek ev) := hD
      refine lv_lconst (v := lN 0) hx hb dX1_readBlocks_27 (by decide) ?_
      refine lv_lstore hx hb dX1_readBlocks_28 hl (by decide) rfl (fun ls hl => ?_)
      have hl : lv_has ls 12 [(5, .long (lN 0)), (3, .long (lN n)), (0, .ref (ad 6)), (1, .ref (ad 4)), (2, .int (nI st))] := hl
      refine lv_iconst (v := nI 0) hx hb dX1_readBlocks_30 (by decide) ?_
      refine lv_istore hx hb dX1_readBlocks_31 hl (by decide) rfl (fun ls hl => ?_)
      have hl : lv_has ls 12 [(7, .int (nI 0)), (5, .long (lN 0)), (3, .long (lN n)), (0, .ref (ad 6)), (1, .ref (ad 4)), (2, .int (nI st))] := hl
      have hok : o1 = 0 ∨ o1 = 1 := hq1.elim (fun z => Or.inr z.2) (fun z => Or.inl z.2)
      refine lpX1_readBlocks_go hx hb hml hown hts hK hA hE (e9 := e9) (n := n) he9 hn9 n 0 a1 0 o1 ef ff _ _ _ hok (by omega) h2 (lv_sub hl [0, 1, 3, 4, 5] rfl) hP hD hS ?_ ?_ ?_
      · intro ho lr a' hlr ef' ff' _ hrows H locs ls hl hP hD hS
        have hs : pb_rd tf e9 a = some (n, a1) := hq1.elim (fun z => z.1) (fun z => absurd (z.2.symm.trans ho) (by decide))
        have hsum := px_rd_sum n a1 lr a' hlr
        have hsum2 : 0 + px_sum lr < 2 ^ 63 := by have : n * 4294967295 ≤ 2444 * 4294967295 := Nat.mul_le_mul_right _ hn9; omega
        refine lv_lload hx hb dX1_readBlocks_110 (lv_at hl 0 rfl) ?_
        refine lv_iload_n hx hb dX1_readBlocks_112 rfl (lv_at hl 1 rfl) ?_
        refine lv_i2l (v := lN st) hx hb dX1_readBlocks_113 (nI_l hst) ?_
        refine W.lcmp hx hb dX1_readBlocks_114 ?_
        refine lv_if_ne (tgt := 122) hx hb dX1_readBlocks_115 rfl (fun hc => ?_) (fun hc => ?_)
        · refine lv_iconst (v := 0) hx hb dX1_readBlocks_122 (by decide) ?_
          have hP9 := hP
          have hD9 := hD
          exact W.zret (v := 0) hx hb hr (by rfl) (fun t ht hW => ⟨⟨0, (nI n, a', 1, ef', ff'), rfl, Or.inl ⟨n, a1, lr, hs, hn9, hlr, rfl, rfl, hrows, Or.inr ⟨rfl, fun y => hc (lc_eq.mpr (by rw [Nat.zero_add, y]))⟩⟩, by rw [ht]; exact hP9, va_K.moved hW.alike hK, hD9⟩, hS.F ht⟩) hS.2.2 dX1_readBlocks_123
        · refine lv_iconst (v := 1) hx hb dX1_readBlocks_118 (by decide) ?_
          refine lv_goto (tgt := 123) hx hb dX1_readBlocks_119 rfl ?_
          have hP9 := hP
          have hD9 := hD
          exact W.zret (v := 1) hx hb hr (by rfl) (fun t ht hW => ⟨⟨1, (nI n, a', 1, ef', ff'), rfl, Or.inl ⟨n, a1, lr, hs, hn9, hlr, rfl, rfl, hrows, Or.inl ⟨rfl, (Nat.zero_add _).symm.trans ((pk_lEQ hsum2 (by omega)).mp (lc_eq.mp hc))⟩⟩, by rw [ht]; exact hP9, va_K.moved hW.alike hK, hD9⟩, hS.F ht⟩) hS.2.2 dX1_readBlocks_123
      · intro hbb a' s9 ef' ff' ha' H locs ls hl hP hD hS
        have hbd : px_bad tf e9 a := hq1.elim (fun z => Or.inr ⟨n, a1, z.1, Or.inr (hbb.elim (fun y => absurd (z.2.symm.trans y) (by decide)) (fun y => y))⟩) (fun z => Or.inl z.1)
        refine lv_lload hx hb dX1_readBlocks_110 (lv_at hl 0 rfl) ?_
        refine lv_iload_n hx hb dX1_readBlocks_112 rfl (lv_at hl 1 rfl) ?_
        refine lv_i2l (v := (nI st).toInt64) hx hb dX1_readBlocks_113 (rfl) ?_
        refine W.lcmp hx hb dX1_readBlocks_114 ?_
        refine lv_if_ne (tgt := 122) hx hb dX1_readBlocks_115 rfl (fun hc => ?_) (fun hc => ?_)
        · refine lv_iconst (v := 0) hx hb dX1_readBlocks_122 (by decide) ?_
          have hP9 := hP
          have hD9 := hD
          exact W.zret (v := 0) hx hb hr (by rfl) (fun t ht hW => ⟨⟨0, (nI n, a', 0, ef', ff'), rfl, Or.inr ⟨Or.inr rfl, Or.inl rfl, ha', hbd⟩, by rw [ht]; exact hP9, va_K.moved hW.alike hK, hD9⟩, hS.F ht⟩) hS.2.2 dX1_readBlocks_123
        · refine lv_iconst (v := 1) hx hb dX1_readBlocks_118 (by decide) ?_
          refine lv_goto (tgt := 123) hx hb dX1_readBlocks_119 rfl ?_
          have hP9 := hP
          have hD9 := hD
          exact W.zret (v := 1) hx hb hr (by rfl) (fun t ht hW => ⟨⟨1, (nI n, a', 0, ef', ff'), rfl, Or.inr ⟨Or.inr rfl, Or.inr rfl, ha', hbd⟩, by rw [ht]; exact hP9, va_K.moved hW.alike hK, hD9⟩, hS.F ht⟩) hS.2.2 dX1_readBlocks_123
      · intro hbb a' ok' ef' ff' ha' H locs ls hP hD hS
        have hbd : px_bad tf e9 a := hq1.elim (fun z => Or.inr ⟨n, a1, z.1, Or.inr (hbb.elim (fun y => absurd (z.2.symm.trans y) (by decide)) (fun y => y))⟩) (fun z => Or.inl z.1)
        refine lv_iconst (v := 0) hx hb dX1_readBlocks_72 (by decide) ?_
        have hP9 := hP
        have hD9 := hD
        exact W.zret (v := 0) hx hb hr (by rfl) (fun t ht hW => ⟨⟨0, (nI n, a', ok', ef', ff'), rfl, Or.inr ⟨Or.inl rfl, Or.inl rfl, ha', hbd⟩, by rw [ht]; exact hP9, va_K.moved hW.alike hK, hD9⟩, hS.F ht⟩) hS.2.2 dX1_readBlocks_73
    · refine lv_iconst (v := 0) hx hb dX1_readBlocks_19 (by decide) ?_
      have hP9 := hP
      have hD9 := hD
      exact W.zret (v := 0) hx hb hr (by rfl) (fun t ht hW => ⟨⟨0, (nb, a1, o1, ef, ff), rfl, Or.inr ⟨Or.inl rfl, Or.inl rfl, h2, hbad (fun z => hc2 (lc_le.mpr (hf.mpr z).2))⟩, by rw [ht]; exact hP9, va_K.moved hW.alike hK, hD9⟩, hS.F ht⟩) hS.2.2 dX1_readBlocks_20

set_option maxHeartbeats 4000000 in
set_option maxRecDepth 100000 in
theorem cX1_readFrom_m (l : Launch) (dC : Nat → ClassId) (dI : Nat → Nat → Nat) (ca : Nat → ClassId) (ad : Nat → Nat) (kf : Nat → Int32) (vf : Nat → Int64) (bf : Nat → Int32) (w : Int32) (op : Int32) (nx : Int32) (en : Int32) (ok : Int32) (tf : Nat → Int32) (nb : Int32) (ef : Nat → Int32) (ff : Nat → Int32) (fi : Int32) (ek : Int32) (ev : Int64) (L : Nat) (hL : L ≤ 4889) : ∀ sz : Nat, Met l yX1_readFrom wsX1_readFrom ({ frames := 3, cells := 0, slots := 0, locals := 76 } : Room) (va_Pc [.ref (ad 6), .ref (ad 4)] (xP (dC, dI) (xt ca) (xw ad ca kf vf bf w op (nI L) nx en ok tf nb ef ff fi ek ev) sz)) (va_Qi (S := Int32 × Int32 × Int32 × Int32 × (Nat → Int32) × (Nat → Int32)) (fun r u => (∃ lr, px_open tf L = some lr ∧ r = 1 ∧ u.1 = nI lr.length ∧ lr.length ≤ 2444 ∧ px_rows 0 0 lr u.2.2.2.2.1 u.2.2.2.2.2) ∨ (px_open tf L = none ∧ r = 0)) (fun u t => xB (dC, dI) (xt ca) (va_A (xw ad ca kf vf bf w op (nI L) nx en ok tf nb ef ff fi ek ev) sz) (xw ad ca kf vf bf w op (nI L) u.2.1 u.2.2.1 u.2.2.2.1 tf u.1 u.2.2.2.2.1 u.2.2.2.2.2 fi ek ev) t) (va_A (xw ad ca kf vf bf w op (nI L) nx en ok tf nb ef ff fi ek ev) sz)) 0 0 (va_A (xw ad ca kf vf bf w op (nI L) nx en ok tf nb ef ff fi ek ev) sz) := by
  intro sz
  refine Met.ofW (cc := cX1_readFrom) (maxL := 4) (ret := (some .boolean)) (by decide) rfl ?_
  intro p e s m args below meth c s₁ B hml hv
  obtain ⟨rfl, hsz, hP, hK, hD0, hE⟩ := hv
  have hx := B.exec
  have hb := B.bytes
  have hr := B.returns
  have hts := atoms_spec (ws := wsX1_readFrom) B.pre
  have hown : s.vm.findClass RX1 = some m.cls := findClass_of_methodNamed B.named
  have hlocks := B.notSynchronized
  subst hsz
  have hD := hD0.self (sz := s.heap.size)
  generalize hAe : va_A (xw ad ca kf vf bf w op (nI L) nx en ok tf nb ef ff fi ek ev) s.heap.size = A at hD hE ⊢
  have hA : ∀ q : Nat, s.heap.size ≤ q → A q := fun q h => by rw [← hAe]; exact Or.inr h
  have hS : va_S A s.heap s.heap [] := va_S.rf
  have hl := lv_entry ([.ref (ad 6), .ref (ad 4)]) (n := 4) (Nat.le_of_ble_eq_true rfl)
  rw [lg_entry_eq]
  generalize (lg_sl ([.ref (ad 6), .ref (ad 4)]) ++ List.replicate (4 - (lg_sl ([.ref (ad 6), .ref (ad 4)])).length) Slot.unset).toArray = ls at hl ⊢
  have hl : lv_has ls 4 [(0, .ref (ad 6)), (1, .ref (ad 4))] := hl
  refine lv_aload_n hx hb dX1_readFrom_0 rfl (lv_at hl 1 rfl) ?_
  refine va_getN (host := "SortedRun") (D := (dC, dI)) (ci := 2) (v := .int (nI L)) (C := RX2) (T := TX2) (N := 5) (ref := "SortedRun$Table") hx hb hts (xg_u mb_uws_X2) hown hK hP 4 rfl rfl 1 (by decide) (xn_w (w := .fieldLinkNest RX1 22 "SortedRun$Table" "length" "I" "SortedRun") (i := 33) hE rfl rfl rfl) (fun _ h9 => h9) rfl dX1_readFrom_1 ?_
  refine lv_iconst (v := nI 4) hx hb dX1_readFrom_4 (by decide) ?_
  refine lv_isub hx hb dX1_readFrom_5 ?_
  refine lv_iconst (v := nI 4) hx hb dX1_readFrom_6 (by decide) ?_
  refine lv_isub hx hb dX1_readFrom_7 ?_
  by_cases h8 : 8 ≤ L
  · refine lv_topi (fun z1 ez1 => ?_)
    have ez1 : z1 = nI (L - 8) := ez1.trans (by rw [pk_sub (by omega), pk_sub (by omega)]; exact congrArg nI (by omega))
    subst ez1
    refine lv_istore_n hx hb dX1_readFrom_8 rfl hl (by decide) rfl (fun ls hl => ?_)
    have hl : lv_has ls 4 [(2, .int (nI (L - 8))), (0, .ref (ad 6)), (1, .ref (ad 4))] := hl
    refine lv_iload_n hx hb dX1_readFrom_9 rfl (lv_at hl 0 rfl) ?_
    have hF : pf_n tf (L - 4) 4 < 2 ^ 32 := pf_n_lt tf (L - 4) 4
    refine lv_if_lt (tgt := 23) hx hb dX1_readFrom_10 rfl (fun hc => absurd hc (nI_pos (by omega))) (fun hc => ?_)
    refine lv_aload_n hx hb dX1_readFrom_13 rfl (lv_at hl 2 rfl) ?_
    refine xk_l (va_runV (As := []) (rest := []) ⟨hx, hb, hml, hown, hts⟩ (cX2_foot_m l dC dI ca ad kf vf bf w op nx en ok tf nb ef ff fi ek ev L hL (by omega) _) (cwV 0 hts (xg_V mb_methodLink_RX1_27 mb_instanceMethod_yX2_foot mb_selects_yX2_foot mb_initialized_RX2 mb_code_yX2_foot) rfl rfl rfl ⟨rfl, by decide, by decide, by decide +kernel⟩ ⟨Nat.le_of_ble_eq_true rfl, Nat.le_of_ble_eq_true rfl⟩) (xpreV (va_recv (q0 := 4) hK hP rfl rfl) hK hP hD hS hA hE) rfl rfl hl.1 rfl (lv_room (Nat.le_of_ble_eq_true rfl)) dX1_readFrom_14 ⟨Nat.le_of_ble_eq_true rfl, Nat.le_of_ble_eq_true rfl⟩) hD hS hA (fun r u H locs hu hP hD hS => ?_)
    subst hu
    have hP : va_P (dC, dI) vwCl (xw ad ca kf vf bf w op (nI L) nx en ok tf nb ef ff fi ek ev) H := hP
    have hD : va_D A (xw ad ca kf vf bf w op (nI L) nx en ok tf nb ef ff fi ek ev) := hD
    refine lv_iload_n hx hb dX1_readFrom_17 rfl (lv_at hl 0 rfl) ?_
    refine lv_i2l (v := lN (L - 8)) hx hb dX1_readFrom_18 (nI_l (by omega)) ?_
    refine W.lcmp hx hb dX1_readFrom_19 ?_
    refine lv_if_le (tgt := 25) hx hb dX1_readFrom_20 rfl (fun hc2 => ?_) (fun hc2 => ?_)
    · have hF8 : pf_n tf (L - 4) 4 ≤ L - 8 := (pk_lLE (Nat.lt_trans hF (by decide)) (by omega)).mp (lc_le.mp hc2)
      refine lv_iload_n hx hb dX1_readFrom_25 rfl (lv_at hl 0 rfl) ?_
      refine lv_aload_n hx hb dX1_readFrom_26 rfl (lv_at hl 2 rfl) ?_
      refine xk_l (va_runV (As := []) (rest := [.int (nI (L - 8))]) ⟨hx, hb, hml, hown, hts⟩ (cX2_foot_m l dC dI ca ad kf vf bf w op nx en ok tf nb ef ff fi ek ev L hL (by omega) _) (cwV 0 hts (xg_V mb_methodLink_RX1_27 mb_instanceMethod_yX2_foot mb_selects_yX2_foot mb_initialized_RX2 mb_code_yX2_foot) rfl rfl rfl ⟨rfl, by decide, by decide, by decide +kernel⟩ ⟨Nat.le_of_ble_eq_true rfl, Nat.le_of_ble_eq_true rfl⟩) (xpreV (va_recv (q0 := 4) hK hP rfl rfl) hK hP hD hS hA hE) rfl rfl hl.1 rfl (lv_room (Nat.le_of_ble_eq_true rfl)) dX1_readFrom_27 ⟨Nat.le_of_ble_eq_true rfl, Nat.le_of_ble_eq_true rfl⟩) hD hS hA (fun r u H locs hu hP hD hS => ?_)
      subst hu
      have hP : va_P (dC, dI) vwCl (xw ad ca kf vf bf w op (nI L) nx en ok tf nb ef ff fi ek ev) H := hP
      have hD : va_D A (xw ad ca kf vf bf w op (nI L) nx en ok tf nb ef ff fi ek ev) := hD
      refine lv_l2i (v := nI (pf_n tf (L - 4) 4)) hx hb dX1_readFrom_30 (lN_i _) ?_
      refine lv_isub hx hb dX1_readFrom_31 ?_
      refine lv_topi (fun z2 ez2 => ?_)
      have ez2 : z2 = nI (L - 8 - pf_n tf (L - 4) 4) := ez2.trans (pk_sub hF8)
      subst ez2
      refine lv_istore_n hx hb dX1_readFrom_32 rfl hl (by decide) rfl (fun ls hl => ?_)
      have hl : lv_has ls 4 [(3, .int (nI (L - 8 - pf_n tf (L - 4) 4))), (2, .int (nI (L - 8))), (0, .ref (ad 6)), (1, .ref (ad 4))] := hl
      refine lv_aload_n hx hb dX1_readFrom_33 rfl (lv_at hl 3 rfl) ?_
      refine lv_iload_n hx hb dX1_readFrom_34 rfl (lv_at hl 0 rfl) ?_
      refine lv_iload_n hx hb dX1_readFrom_35 rfl (lv_at hl 1 rfl) ?_
      refine xk_i (va_runV (As := [.int (nI (L - 8 - pf_n tf (L - 4) 4)), .int (nI (L - 8))]) (rest := []) ⟨hx, hb, hml, hown, hts⟩ (cX2_hasSum_m l dC dI ca ad kf vf bf w op (nI L) nx en ok tf nb ef ff fi ek ev (L - 8 - pf_n tf (L - 4) 4) (L - 8) (by omega) (by omega) _) (cwV 2 hts (xg_V mb_methodLink_RX1_31 mb_instanceMethod_yX2_hasSum mb_selects_yX2_hasSum mb_initialized_RX2 mb_code_yX2_hasSum) rfl rfl rfl ⟨rfl, by decide, by decide, by decide +kernel⟩ ⟨Nat.le_of_ble_eq_true rfl, Nat.le_of_ble_eq_true rfl⟩) (xpreV (va_recv (q0 := 4) hK hP rfl rfl) hK hP hD hS hA hE) rfl rfl hl.1 rfl (lv_room (Nat.le_of_ble_eq_true rfl)) dX1_readFrom_36 ⟨Nat.le_of_ble_eq_true rfl, Nat.le_of_ble_eq_true rfl⟩) hD hS hA (fun r u H locs hu hP hD hS => ?_)
      have hP : va_P (dC, dI) vwCl (xw ad ca kf vf bf w op (nI L) nx en ok tf nb ef ff fi ek ev) H := hP
      have hD : va_D A (xw ad ca kf vf bf w op (nI L) nx en ok tf nb ef ff fi ek ev) := hD
      rcases hu with hh | hh
      · obtain ⟨rfl, hh⟩ := hh
        refine lv_if_ne (tgt := 44) hx hb dX1_readFrom_39 rfl (fun hc => ?_) (fun hc => absurd hc (by decide))
        refine lv_aload_n hx hb dX1_readFrom_44 rfl (lv_at hl 3 rfl) ?_
        refine lv_iload_n hx hb dX1_readFrom_45 rfl (lv_at hl 0 rfl) ?_
        refine lv_iload_n hx hb dX1_readFrom_46 rfl (lv_at hl 1 rfl) ?_
        refine xk_v (va_runV (As := [.int (nI (L - 8 - pf_n tf (L - 4) 4)), .int (nI (L - 8))]) (rest := []) ⟨hx, hb, hml, hown, hts⟩ (cX2_startReading_m l dC dI ca ad kf vf bf w op (nI L) nx en ok tf nb ef ff fi ek ev (nI (L - 8 - pf_n tf (L - 4) 4)) (nI (L - 8)) _) (cwV 2 hts (xg_V mb_methodLink_RX1_35 mb_instanceMethod_yX2_startReading mb_selects_yX2_startReading mb_initialized_RX2 mb_code_yX2_startReading) rfl rfl rfl ⟨rfl, by decide, by decide, by decide +kernel⟩ ⟨Nat.le_of_ble_eq_true rfl, Nat.le_of_ble_eq_true rfl⟩) (xpreV (va_recv (q0 := 4) hK hP rfl rfl) hK hP hD hS hA hE) rfl rfl hl.1 rfl (lv_room (Nat.le_of_ble_eq_true rfl)) dX1_readFrom_47 ⟨Nat.le_of_ble_eq_true rfl, Nat.le_of_ble_eq_true rfl⟩) hD hS hA (fun u H locs hu hP hD hS => ?_)
        have hP : va_P (dC, dI) vwCl (xw ad ca kf vf bf w op (nI L) (nI (L - 8 - pf_n tf (L - 4) 4)) (nI (L - 8)) 1 tf nb ef ff fi ek ev) H := hP
        have hD : va_D A (xw ad ca kf vf bf w op (nI L) (nI (L - 8 - pf_n tf (L - 4) 4)) (nI (L - 8)) 1 tf nb ef ff fi ek ev) := hD
        refine lv_aload_n hx hb dX1_readFrom_50 rfl (lv_at hl 2 rfl) ?_
        refine lv_aload_n hx hb dX1_readFrom_51 rfl (lv_at hl 3 rfl) ?_
        refine lv_iload_n hx hb dX1_readFrom_52 rfl (lv_at hl 0 rfl) ?_
        refine xk_i (va_runV (As := [.ref (ad 4), .int (nI (L - 8 - pf_n tf (L - 4) 4))]) (rest := []) ⟨hx, hb, hml, hown, hts⟩ (cX1_readBlocks_m l dC dI ca ad kf vf bf w op (nI L) tf nb ef ff fi ek ev (L - 8 - pf_n tf (L - 4) 4) (L - 8) (L - 8 - pf_n tf (L - 4) 4) (by omega) (by omega) (by omega) _) (cwV 2 hts (xg_V mb_methodLink_RX1_39 mb_instanceMethod_yX1_readBlocks mb_selects_yX1_readBlocks mb_initialized_RX1 mb_code_yX1_readBlocks) rfl rfl rfl ⟨rfl, by decide, by decide, by decide +kernel⟩ ⟨Nat.le_of_ble_eq_true rfl, Nat.le_of_ble_eq_true rfl⟩) (xpreV (va_recv (q0 := 6) hK hP rfl rfl) hK hP hD hS hA hE) rfl rfl hl.1 rfl (lv_room (Nat.le_of_ble_eq_true rfl)) dX1_readFrom_53 ⟨Nat.le_of_ble_eq_true rfl, Nat.le_of_ble_eq_true rfl⟩) hD hS hA (fun r u H locs hu hP hD hS => ?_)
        have hP : va_P (dC, dI) vwCl (xw ad ca kf vf bf w op (nI L) (nI u.2.1) (nI (L - 8)) u.2.2.1 tf u.1 u.2.2.2.1 u.2.2.2.2 fi ek ev) H := hP
        have hD : va_D A (xw ad ca kf vf bf w op (nI L) (nI u.2.1) (nI (L - 8)) u.2.2.1 tf u.1 u.2.2.2.1 u.2.2.2.2 fi ek ev) := hD
        obtain ⟨nb', a', ok', ef', ff'⟩ := u
        dsimp only at hu hP hD
        have hgood : ∀ n a1 lr, pb_rd tf (L - 8) (L - 8 - pf_n tf (L - 4) 4) = some (n, a1) → px_rd tf (L - 8) n a1 = some (lr, a') → px_open tf L = if a' = L - 8 ∧ px_sum lr = (L - 8 - pf_n tf (L - 4) 4) then some lr else none := fun n a1 lr q1 q2 => by
          unfold px_open
          rw [if_pos ⟨h8, hF8, ps_hasB_iff.mpr hh⟩]
          simp only [q1, q2]
        refine lv_if_eq (tgt := 77) hx hb dX1_readFrom_56 rfl (fun hc3 => ?_) (fun hc3 => ?_)
        · have hn : px_open tf L = none := by
            rcases hu with ⟨n, a1, lr, q1, q2, q3, q4, q5, q6, q7⟩ | ⟨-, -, -, q⟩
            · rw [hgood n a1 lr q1 q3, if_neg (fun y => ?_)]
              rcases q7 with ⟨y1, -⟩ | ⟨-, y1⟩
              · exact absurd (hc3.symm.trans y1) (by decide)
              · exact y1 y.2
            · exact px_open_bad hL q
          refine lv_iconst (v := 0) hx hb dX1_readFrom_77 (by decide) ?_
          have hP9 := hP
          have hD9 := hD
          exact W.zret (v := 0) hx hb hr (by rfl) (fun t ht hW => ⟨⟨0, (nb', nI a', nI (L - 8), ok', ef', ff'), rfl, Or.inr ⟨hn, rfl⟩, by rw [ht]; exact hP9, va_K.moved hW.alike hK, hD9⟩, hS.F ht⟩) hS.2.2 dX1_readFrom_78
        · refine lv_aload_n hx hb dX1_readFrom_59 rfl (lv_at hl 3 rfl) ?_
          refine va_getN (host := "SortedRun") (D := (dC, dI)) (ci := 2) (v := .int ok') (C := RX2) (T := TX2) (N := 5) (ref := "SortedRun$Table") hx hb hts (xg_u mb_uws_X2) hown hK hP 4 rfl rfl 4 (by decide) (xn_w (w := .fieldLinkNest RX1 43 "SortedRun$Table" "areNumbersRight" "Z" "SortedRun") (i := 36) hE rfl rfl rfl) (fun _ h9 => h9) rfl dX1_readFrom_60 ?_
          refine lv_if_eq (tgt := 77) hx hb dX1_readFrom_63 rfl (fun hc4 => ?_) (fun hc4 => ?_)
          · have hn : px_open tf L = none := by
              rcases hu with ⟨n, a1, lr, q1, q2, q3, q4, q5, q6, q7⟩ | ⟨-, -, -, q⟩
              · exact absurd (hc4.symm.trans q4) (by decide)
              · exact px_open_bad hL q
            refine lv_iconst (v := 0) hx hb dX1_readFrom_77 (by decide) ?_
            have hP9 := hP
            have hD9 := hD
            exact W.zret (v := 0) hx hb hr (by rfl) (fun t ht hW => ⟨⟨0, (nb', nI a', nI (L - 8), ok', ef', ff'), rfl, Or.inr ⟨hn, rfl⟩, by rw [ht]; exact hP9, va_K.moved hW.alike hK, hD9⟩, hS.F ht⟩) hS.2.2 dX1_readFrom_78
          · obtain ⟨n, a1, lr, q1, q2, q3, q4, q5, q6, q7⟩ | ⟨q0, -, -, q⟩ := hu
            · have hin := px_rd_in n a1 lr a' q3
              have ha8 : a' ≤ L - 8 := hin.2.2 (pb_rd_in q1).2
              have hsum : px_sum lr = (L - 8 - pf_n tf (L - 4) 4) := q7.elim (fun y => y.2) (fun y => absurd y.1 hc3)
              refine lv_aload_n hx hb dX1_readFrom_66 rfl (lv_at hl 3 rfl) ?_
              refine xk_i (va_runV (As := []) (rest := []) ⟨hx, hb, hml, hown, hts⟩ (cX2_isReadToEnd_m l dC dI ca ad kf vf bf w op (nI L) (nI a') (nI (L - 8)) ok' tf nb' ef' ff' fi ek ev  _) (cwV 0 hts (xg_V mb_methodLink_RX1_47 mb_instanceMethod_yX2_isReadToEnd mb_selects_yX2_isReadToEnd mb_initialized_RX2 mb_code_yX2_isReadToEnd) rfl rfl rfl ⟨rfl, by decide, by decide, by decide +kernel⟩ ⟨Nat.le_of_ble_eq_true rfl, Nat.le_of_ble_eq_true rfl⟩) (xpreV (va_recv (q0 := 4) hK hP rfl rfl) hK hP hD hS hA hE) rfl rfl hl.1 rfl (lv_room (Nat.le_of_ble_eq_true rfl)) dX1_readFrom_67 ⟨Nat.le_of_ble_eq_true rfl, Nat.le_of_ble_eq_true rfl⟩) hD hS hA (fun r u H locs hu hP hD hS => ?_)
              have hP : va_P (dC, dI) vwCl (xw ad ca kf vf bf w op (nI L) (nI a') (nI (L - 8)) ok' tf nb' ef' ff' fi ek ev) H := hP
              have hD : va_D A (xw ad ca kf vf bf w op (nI L) (nI a') (nI (L - 8)) ok' tf nb' ef' ff' fi ek ev) := hD
              rcases hu with h9 | h9
              · obtain ⟨rfl, h9⟩ := h9
                refine lv_if_eq (tgt := 77) hx hb dX1_readFrom_70 rfl (fun hc => absurd hc (by decide)) (fun hc => ?_)
                refine lv_iconst (v := 1) hx hb dX1_readFrom_73 (by decide) ?_
                refine lv_goto (tgt := 78) hx hb dX1_readFrom_74 rfl ?_
                have h10 : a' = L - 8 := by have := (nI_leI (by omega) (by omega)).mp h9; omega
                have hopen : px_open tf L = some lr := by rw [hgood n a1 lr q1 q3, if_pos ⟨h10, hsum⟩]
                have hP9 := hP
                have hD9 := hD
                exact W.zret (v := 1) hx hb hr (by rfl) (fun t ht hW => ⟨⟨1, (nb', nI a', nI (L - 8), ok', ef', ff'), rfl, Or.inl ⟨lr, hopen, rfl, by rw [hin.2.1]; exact q5, by rw [hin.2.1]; exact q2, q6⟩, by rw [ht]; exact hP9, va_K.moved hW.alike hK, hD9⟩, hS.F ht⟩) hS.2.2 dX1_readFrom_78
              · obtain ⟨rfl, h9⟩ := h9
                refine lv_if_eq (tgt := 77) hx hb dX1_readFrom_70 rfl (fun hc => ?_) (fun hc => absurd hc (not_not_intro rfl))
                have hn : px_open tf L = none := by rw [hgood n a1 lr q1 q3, if_neg (fun y => h9 (by rw [y.1]; exact Int32.le_refl _))]
                refine lv_iconst (v := 0) hx hb dX1_readFrom_77 (by decide) ?_
                have hP9 := hP
                have hD9 := hD
                exact W.zret (v := 0) hx hb hr (by rfl) (fun t ht hW => ⟨⟨0, (nb', nI a', nI (L - 8), ok', ef', ff'), rfl, Or.inr ⟨hn, rfl⟩, by rw [ht]; exact hP9, va_K.moved hW.alike hK, hD9⟩, hS.F ht⟩) hS.2.2 dX1_readFrom_78
            · rcases q0 with q0 | q0
              · exact absurd q0 hc3
              · exact absurd q0 hc4
      · obtain ⟨rfl, hh⟩ := hh
        refine lv_if_ne (tgt := 44) hx hb dX1_readFrom_39 rfl (fun hc => absurd hc (not_not_intro rfl)) (fun hc => ?_)
        refine lv_iconst (v := 0) hx hb dX1_readFrom_42 (by decide) ?_
        have hP9 := hP
        have hD9 := hD
        exact W.zret (v := 0) hx hb hr (by rfl) (fun t ht hW => ⟨⟨0, (nb, nx, en, ok, ef, ff), rfl, Or.inr ⟨by unfold px_open; rw [if_neg (fun y => hh (ps_hasB_iff.mp y.2.2))], rfl⟩, by rw [ht]; exact hP9, va_K.moved hW.alike hK, hD9⟩, hS.F ht⟩) hS.2.2 dX1_readFrom_43
    · refine lv_iconst (v := 0) hx hb dX1_readFrom_23 (by decide) ?_
      have hP9 := hP
      have hD9 := hD
      exact W.zret (v := 0) hx hb hr (by rfl) (fun t ht hW => ⟨⟨0, (nb, nx, en, ok, ef, ff), rfl, Or.inr ⟨by unfold px_open; rw [if_neg (fun y => hc2 (lc_le.mpr ((pk_lLE (Nat.lt_trans hF (by decide)) (by omega)).mpr y.2.1)))], rfl⟩, by rw [ht]; exact hP9, va_K.moved hW.alike hK, hD9⟩, hS.F ht⟩) hS.2.2 dX1_readFrom_24
  · refine lv_topi (fun z1 ez1 => ?_)
    have ez1 : z1 = nI L - nI 8 := ez1.trans (pz_48 _)
    subst ez1
    refine lv_istore_n hx hb dX1_readFrom_8 rfl hl (by decide) rfl (fun ls hl => ?_)
    have hl : lv_has ls 4 [(2, .int (nI L - nI 8)), (0, .ref (ad 6)), (1, .ref (ad 4))] := hl
    refine lv_iload_n hx hb dX1_readFrom_9 rfl (lv_at hl 0 rfl) ?_
    refine lv_if_lt (tgt := 23) hx hb dX1_readFrom_10 rfl (fun hc => ?_) (fun hc => absurd hc (not_not_intro (pk_sneg (by decide) (by omega))))
    refine lv_iconst (v := 0) hx hb dX1_readFrom_23 (by decide) ?_
    have hP9 := hP
    have hD9 := hD
    exact W.zret (v := 0) hx hb hr (by rfl) (fun t ht hW => ⟨⟨0, (nb, nx, en, ok, ef, ff), rfl, Or.inr ⟨by unfold px_open; rw [if_neg (fun y => h8 y.1)], rfl⟩, by rw [ht]; exact hP9, va_K.moved hW.alike hK, hD9⟩, hS.F ht⟩) hS.2.2 dX1_readFrom_24
end
section
/-! the words of the five throws; the heap's size where nothing is made -/
theorem x_size {p : Program} {l : Launch} {e : Env} {R : Room} {s : State} {m : MethodId} {args : Array Value} {below : List Frame} {meth : Method} {c : Code} {H : Heap} {locs : List Loc} {Q : State → Prop} {A : Nat → Prop} {g : JFrame} {slots : Nat} (hS : va_S A s.heap H locs) (kk : H.size = s.heap.size → W p l e R s m args below meth c H locs 0 slots Q g) : W p l e R s m args below meth c H locs 0 slots Q g := by
  intro T hT X
  have h1 := X.heapSize
  have h2 := hS.1
  rw [hT] at h1
  exact kk (by omega) T hT X
theorem xh_ISE_at : ∀ w ∈ vx_atS RX3 52 "java/lang/IllegalStateException" ["java/lang/RuntimeException", "java/lang/Exception"], w ∈ lw_tbl.filter xn_ok := by decide +kernel
theorem xh_ISE_good : ∀ w ∈ Cond.classLink RX3 48 "java/lang/IllegalStateException" :: Cond.initialized "java/lang/IllegalStateException" :: vx_atS RX3 52 "java/lang/IllegalStateException" ["java/lang/RuntimeException", "java/lang/Exception"], vx_ot w = true := by decide +kernel
theorem xh_ISE_on : ∀ w ∈ vx_atS RX3 52 "java/lang/IllegalStateException" ["java/lang/RuntimeException", "java/lang/Exception"], w.onTables = true := by decide +kernel
theorem xh_IAE_at : ∀ w ∈ vx_atS RX3 59 "java/lang/IllegalArgumentException" ["java/lang/RuntimeException", "java/lang/Exception"], w ∈ lw_tbl.filter xn_ok := by decide +kernel
theorem xh_IAE_good : ∀ w ∈ Cond.classLink RX3 55 "java/lang/IllegalArgumentException" :: Cond.initialized "java/lang/IllegalArgumentException" :: vx_atS RX3 59 "java/lang/IllegalArgumentException" ["java/lang/RuntimeException", "java/lang/Exception"], vx_ot w = true := by decide +kernel
theorem xh_IAE_on : ∀ w ∈ vx_atS RX3 59 "java/lang/IllegalArgumentException" ["java/lang/RuntimeException", "java/lang/Exception"], w.onTables = true := by decide +kernel
theorem xh_AE_at : ∀ w ∈ vx_atS RX3 89 "java/lang/ArithmeticException" ["java/lang/RuntimeException", "java/lang/Exception"], w ∈ lw_tbl.filter xn_ok := by decide +kernel
theorem xh_AE_good : ∀ w ∈ Cond.classLink RX3 85 "java/lang/ArithmeticException" :: Cond.initialized "java/lang/ArithmeticException" :: vx_atS RX3 89 "java/lang/ArithmeticException" ["java/lang/RuntimeException", "java/lang/Exception"], vx_ot w = true := by decide +kernel
theorem xh_AE_on : ∀ w ∈ vx_atS RX3 89 "java/lang/ArithmeticException" ["java/lang/RuntimeException", "java/lang/Exception"], w.onTables = true := by decide +kernel
theorem xh_IOB_at : ∀ w ∈ vx_atS RX3 130 "java/lang/IndexOutOfBoundsException" ["java/lang/RuntimeException", "java/lang/Exception"], w ∈ lw_tbl.filter xn_ok := by decide +kernel
theorem xh_IOB_good : ∀ w ∈ Cond.classLink RX3 126 "java/lang/IndexOutOfBoundsException" :: Cond.initialized "java/lang/IndexOutOfBoundsException" :: vx_atS RX3 130 "java/lang/IndexOutOfBoundsException" ["java/lang/RuntimeException", "java/lang/Exception"], vx_ot w = true := by decide +kernel
theorem xh_IOB_on : ∀ w ∈ vx_atS RX3 130 "java/lang/IndexOutOfBoundsException" ["java/lang/RuntimeException", "java/lang/Exception"], w.onTables = true := by decide +kernel
/-! the entries of a BLOCK from p to q, its SUM behind them -/
def pe_blk (f : Nat → Int32) (p q : Nat) : Option (List (Int32 × Int64)) := if p + 4 ≤ q ∧ ps_hasB f p (q - 4) = true then pe_bl f (q - 4) (q - 4) true 0 p else none
theorem pe_rd_first (f : Nat → Int32) (e : Nat) (k1 k2 : Int32) (a : Nat) : pe_rd f e true k1 a = pe_rd f e true k2 a := by
  unfold pe_rd pe_key
  simp
theorem pe_bl_first (f : Nat → Int32) (e : Nat) (k1 k2 : Int32) (a : Nat) : ∀ n, pe_bl f e n true k1 a = pe_bl f e n true k2 a
  | 0 => by unfold pe_bl; exact Eq.refl _
  | n + 1 => by unfold pe_bl; rw [pe_rd_first f e k1 k2]
/-- more fuel than bytes changes nothing -/
theorem pe_bl_fuel (f : Nat → Int32) (e : Nat) : ∀ n m fst key a, e - a ≤ n → e - a ≤ m → pe_bl f e n fst key a = pe_bl f e m fst key a
  | 0, 0, _, _, _, _, _ => rfl
  | 0, m + 1, fst, key, a, h1, h2 => by
    unfold pe_bl
    rw [if_neg (by omega), if_neg (by omega)]
  | n + 1, 0, fst, key, a, h1, h2 => by
    unfold pe_bl
    rw [if_neg (by omega), if_neg (by omega)]
  | n + 1, m + 1, fst, key, a, h1, h2 => by
    unfold pe_bl
    by_cases ha : a < e
    · rw [if_pos ha, if_pos ha]
      cases hq : pe_rd f e fst key a with
      | none => rfl
      | some q =>
        obtain ⟨k1, v1, a1⟩ := q
        have hin := pe_rd_in hq
        simp only
        rw [pe_bl_fuel f e n m false k1 a1 (by omega) (by omega)]
    · rw [if_neg ha, if_neg ha]
/-! the calls' answers, as numbers: 0 and the answer, or which exception of the document's order -/
def pe_of (f : Nat → Int32) (lr : List (Nat × Nat)) (j : Nat) : Option (List (Int32 × Int64)) := pe_blk f (px_sum (lr.take j)) (px_sum (lr.take (j + 1)))
def sp_in (x : Int32) (n : Nat) : Bool := decide (0 ≤ x) && decide (x < nI n)
theorem sp_in_iff {x : Int32} {n : Nat} (hn : n < 2 ^ 31) : sp_in x n = true ↔ ∃ j, j < n ∧ x = nI j := by
  unfold sp_in
  rw [Bool.and_eq_true, decide_eq_true_eq, decide_eq_true_eq]
  constructor
  · rintro ⟨h1, h2⟩
    obtain ⟨j, hj, rfl⟩ := nI_of (Int32.not_lt.mpr h1)
    exact ⟨j, (nI_ltI hj hn).mp h2, rfl⟩
  · rintro ⟨j, hj, rfl⟩
    exact ⟨nI_pos' (by omega), nI_lt hj hn⟩
theorem px_sum_take (l : List (Nat × Nat)) : ∀ j, px_sum (l.take j) ≤ px_sum l := by
  induction l with
  | nil => intro j; simp
  | cons q l ih =>
    intro j
    cases j with
    | zero => exact Nat.zero_le _
    | succ j =>
      have := ih j
      show q.1 + px_sum (l.take j) ≤ q.1 + px_sum l
      omega
theorem px_rows_at {lr : List (Nat × Nat)} {ef ff : Nat → Int32} (h : px_rows 0 0 lr ef ff) {j : Nat} (hj : j < lr.length) : px_st ef j = nI (px_sum (lr.take j)) ∧ ef j = nI (px_sum (lr.take (j + 1))) := by
  have h1 := (h j hj).1
  rw [Nat.zero_add, Nat.zero_add] at h1
  refine ⟨?_, h1⟩
  unfold px_st
  by_cases hz : j = 0
  · subst hz
    rw [if_pos rfl]
    rfl
  · rw [if_neg hz]
    have h2 := (h (j - 1) (by omega)).1
    rw [Nat.zero_add, Nat.zero_add, show j - 1 + 1 = j by omega] at h2
    exact h2
end
section
/-! a BLOCK's entries, one by one -/
theorem pe_bl_end {f : Nat → Int32} {e n : Nat} {fst : Bool} {key : Int32} {a : Nat} (ha : ¬ a < e) : pe_bl f e n fst key a = some [] := by
  cases n with
  | zero => unfold pe_bl; rw [if_neg ha]
  | succ n => unfold pe_bl; rw [if_neg ha]
theorem pe_bl_none {f : Nat → Int32} {e : Nat} {fst : Bool} {key : Int32} {a : Nat} (ha : a < e) (h : pe_rd f e fst key a = none) : pe_bl f e e fst key a = none := by
  cases e with
  | zero => exact absurd ha (Nat.not_lt_zero a)
  | succ n =>
    conv => lhs; unfold pe_bl
    rw [if_pos ha, h]
theorem pe_bl_some {f : Nat → Int32} {e : Nat} {fst : Bool} {key k1 : Int32} {v1 : Int64} {a a1 : Nat} (ha : a < e) (h : pe_rd f e fst key a = some (k1, v1, a1)) : pe_bl f e e fst key a = (pe_bl f e e false k1 a1).map (fun l => (k1, v1) :: l) := by
  have hin := pe_rd_in h
  cases e with
  | zero => exact absurd ha (Nat.not_lt_zero a)
  | succ n =>
    conv => lhs; unfold pe_bl
    rw [if_pos ha, h]
    simp only
    rw [pe_bl_fuel f (n + 1) n (n + 1) false k1 a1 (by omega) (by omega)]
/-- one entry read, the flag's two ways -/
theorem pe_step {f : Nat → Int32} {e a a1 : Nat} {fst : Bool} {ek k1 : Int32} {v1 : Int64} {ok o1 : Int32} (ha : a < e) (hq : (pe_rd f e fst ek a = some (k1, v1, a1) ∧ o1 = ok) ∨ (pe_rd f e fst ek a = none ∧ o1 = 0)) :
    ((o1 = 0 ∨ pe_bl f e e false k1 a1 = none) → (ok = 0 ∨ pe_bl f e e fst ek a = none)) ∧ (o1 = 1 → ok = 1 ∧ a + 2 ≤ a1 ∧ ∀ lb, pe_bl f e e false k1 a1 = some lb → pe_bl f e e fst ek a = some ((k1, v1) :: lb)) := by
  rcases hq with ⟨h, rfl⟩ | ⟨h, rfl⟩
  · refine ⟨fun hz => hz.imp id (fun hz => by rw [pe_bl_some ha h, hz]; rfl), fun ho => ⟨ho, (pe_rd_in h).1, fun lb hlb => by rw [pe_bl_some ha h, hlb]; rfl⟩⟩
  · exact ⟨fun _ => Or.inr (pe_bl_none ha h), fun ho => absurd ho (by decide)⟩
end
section
/-! throw new NoSuchElementException(".."): its constructor's link has another index than the library's rows ask for, so its road is laid here -/
abbrev nsE : String := "java/util/NoSuchElementException"
abbrev nsR : String := "java/lang/RuntimeException"
def ns_wd (own : String) (ic : Nat) : List Cond :=
  Bundle.passSAtoms nsE nsR 13 prog_16_method_4_code ++ Bundle.chainSAtoms nsR ["java/lang/Exception"] ++ Bundle.throwableSAtoms ++ Bundle.throwableAtoms ++
  [.isRef (.static Bundle.tN "UNASSIGNED_STACK" Bundle.steD), .isRef (.static Bundle.tN "SUPPRESSED_SENTINEL" Bundle.listD), .methodLink own ic (Bundle.initS nsE), .instantiable nsE 6, .selects nsE Bundle.tFill0 Bundle.tFill0, .selects nsE Bundle.tFill Bundle.tFill,
   .fieldLink Bundle.tN 198 Bundle.tN "backtrace" "Ljava/lang/Object;", .lays Bundle.tN Bundle.tN "backtrace" "Ljava/lang/Object;", .lays nsE Bundle.tN "backtrace" "Ljava/lang/Object;",
   .lays nsE Bundle.tN "detailMessage" "Ljava/lang/String;", .lays nsE Bundle.tN "suppressedExceptions" Bundle.listD, .lays nsE Bundle.tN "stackTrace" Bundle.steD, .lays nsE Bundle.tN "cause" "Ljava/lang/Throwable;"]
def ns_at (own : String) (ic : Nat) : List Cond := (ns_wd own ic).filter vx_no
theorem ns_d0 : decode prog_16_method_4_code 0 = .ok (.aload_n 0, 1) := by decide +kernel
theorem ns_d1 : decode prog_16_method_4_code 1 = .ok (.aload_n 1, 1) := by decide +kernel
theorem ns_d2 : decode prog_16_method_4_code 2 = .ok (.invokespecial 13, 3) := by decide +kernel
theorem ns_d5 : decode prog_16_method_4_code 5 = .ok (.return_, 1) := by decide +kernel
theorem ns_fit : Bundle.fit nsE = true ∧ Bundle.fit nsR = true ∧ Bundle.fit "java/lang/Exception" = true := by decide +kernel
section NS
variable {p : Program} {l : Launch} {e : Env} {R : Room} {s : State} {m : MethodId} {args : Array Value} {below : List Frame} {meth : Method} {c : Code} {locs : List Loc} {cells slots : Nat}
theorem ns_sel {cX : ClassId} {y : MethodName} {k : MethodId} (hadm : l.admits e) (hf : s.vm.findClass nsE = some cX) (hn : s.methodNamed? y = some k) (hy : y.cls ≠ "java/lang/invoke/MethodHandle" ∧ y.cls ≠ "java/lang/invoke/VarHandle") (hw : (Cond.selects nsE y y).before args s = true) : selectMethod e.platform s.vm cX k = .method k := by
  obtain ⟨c2, r2, m2, q1, q2, q3, q4, -⟩ := Cond.selects_spec hw
  rw [hf] at q1
  rw [State.methodFound?_of_named hn hy] at q2
  rw [hn] at q3
  cases q1
  cases q2
  cases q3
  rw [Launch.admits_selectMethod hadm]
  exact q4
set_option maxHeartbeats 2000000 in
/-- the constructor runs and the object leaves the method -/
theorem ns_ctor {T0 : State} (X : Stand p l e R s m args below meth c T0 locs cells slots) (hx : p.tables.exec = Jvm.exec) (htr : e.platform.stackTraces = false) {own : String} {ic : Nat} (hown : s.vm.findClass own = some m.cls) (hws : ∀ w ∈ ns_wd own ic, w.before args s = true) (hlocs : locs = [])
    {a : Addr} {cX : ClassId} {kX : Class} (hcX : s.vm.findClass nsE = some cX) (hkX : s.vm.classes[cX]? = some kX) (hcell : T0.heap[a]? = some (freshCell cX kX)) (hnew : s.heap.size ≤ a) {sa : Addr}
    {pc : Nat} {ls : Array Slot} {rest : List Value} (hsize : ls.size = c.maxLocals) (d6 : decode c.code pc = .ok (.invokespecial ic, 3)) (d9 : decode c.code (pc + 3) = .ok (.athrow, 1)) (hout : ∀ x ∈ c.exceptionTable.toList, covers x (pc + 3) = false)
    (hfr : 5 < R.frames) (hlo : 1 + (rest.map fun v => v.category).sum + 81 ≤ R.locals) (hlocks : meth.locks = false) :
    ∃ U : State, Steps p.tables e below (T0.setTop (F0 m pc ls (.ref sa :: .ref a :: .ref a :: rest))) U ∧ U.status = .running ∧ Ended U below (.threw a) ∧ s.WarmedH U.vm ∧ s.sameButNew ({ U with vm := s.vm } : State) [] cells slots ∧ ∃ ce, U.heap[a]? = some ce ∧ ce.vm = .none ∧ s.vm.findClass nsE = some ce.cls := by
  subst hlocs
  have hpf : e.platform.frameOwnsMonitors = true ∧ e.platform.finalization = false ∧ e.platform.magicAccessors = ({} : Platform).magicAccessors := by rw [X.admits.platform]; exact ⟨rfl, rfl, rfl⟩
  have hw : ∀ w, w ∈ ns_wd own ic → w.holds args s none s [] = true := fun w hw => hws w hw
  obtain ⟨T, Z0, L, -, Y⟩ := ThrowableC.of_atoms (args := args) hpf.1 hpf.2.1 hpf.2.2 (fun w hw => hws w (by simp [ns_wd, hw]))
  obtain ⟨Z, M, LZ, LM, hnZ⟩ := Init0T.ofS_atoms (args := args) hpf.2.2 L Y (fun w hw => hws w (by simp [ns_wd, hw]))
  obtain ⟨P2, Ps, hlen, L2, hLs, hn2, hl2, hls⟩ := Bundle.chainS (args := args) hpf.2.2 hnZ ["java/lang/Exception"] nsR ns_fit.2.1 (fun n hn => by rw [List.mem_singleton.mp hn]; exact ns_fit.2.2) (fun w hw => hws w (by simp [ns_wd, hw]))
  obtain ⟨P1, L1, hn1, hs1⟩ := PassC.ofS_atoms (args := args) (s := s) hpf.2.2 (X := nsE) (Y := nsR) (Bundle.fit_spec ns_fit.1).1 (Bundle.fit_spec ns_fit.2.1).2 ns_d0 ns_d1 ns_d2 ns_d5 (fun w hw => hws w (by simp [ns_wd, hw]))
  have hf1 : s.vm.findClass nsE = some P1.m.cls := findClass_of_methodNamed hn1
  have hce : cX = P1.m.cls := Option.some.inj (hcX.symm.trans hf1)
  subst hce
  obtain ⟨c1, k1, hc1, hk1, hord, -, -, -⟩ := Cond.instantiable_spec (hw (.instantiable nsE 6) (by simp [ns_wd]))
  have ec1 : c1 = P1.m.cls := Option.some.inj (hc1.symm.trans hf1)
  subst ec1
  have ek1 : k1 = kX := Option.some.inj (hk1.symm.trans hkX)
  subst ek1
  obtain ⟨cellS0, hcS0, hiss⟩ := Y.statics
  obtain ⟨u0, hu0⟩ := Cond.staticRefV Y.unassigned L.unassignedStatic L.statics hcS0 hiss (hw (.isRef (.static Bundle.tN "UNASSIGNED_STACK" Bundle.steD)) (by simp [ns_wd]))
  obtain ⟨sen, hsen⟩ := Cond.staticRefV Y.sentinel L.sentinelStatic L.statics hcS0 hiss (hw (.isRef (.static Bundle.tN "SUPPRESSED_SENTINEL" Bundle.listD)) (by simp [ns_wd]))
  obtain ⟨cb, ib, fB, hb1, hb2, hb3, hb4, -, hnB, htB, hffB⟩ := Cond.ownField (t := .object "java/lang/Object") Y.found L.cls (by decide +kernel) (hw (.fieldLink Bundle.tN 198 Bundle.tN "backtrace" "Ljava/lang/Object;") (by simp [ns_wd])) (hw (.lays Bundle.tN Bundle.tN "backtrace" "Ljava/lang/Object;") (by simp [ns_wd])) e.platform hpf.2.2
  obtain ⟨cellS, hcS, heS, -, hkeep⟩ := X.same.2.2.2.2.2 T.aS cellS0 hcS0
  have hcS1 : T0.heap[T.aS]? = some cellS := hcS
  have hvS : cellS.vm = cellS0.vm := by rw [heS]
  have hknS : cellS.vm ≠ .unknown := fun z => by rw [← hvS, z] at hiss; cases hiss
  have hapart : T.aS ≠ a := Nat.ne_of_lt (Nat.lt_of_lt_of_le (Array.getElem?_eq_some_iff.mp hcS0).1 hnew)
  obtain ⟨iM, hffM⟩ := Y.msg
  obtain ⟨tyC, jC, hjC, hjC'⟩ := Cond.laysAt hf1 hk1 Y.cause (hw (.lays nsE Bundle.tN "cause" "Ljava/lang/Throwable;") (by simp [ns_wd]))
  obtain ⟨tyS, jS, hjS, hjS'⟩ := Cond.laysAt hf1 hk1 Y.stack (hw (.lays nsE Bundle.tN "stackTrace" Bundle.steD) (by simp [ns_wd]))
  obtain ⟨tyP, jP, hjP, hjP'⟩ := Cond.laysAt hf1 hk1 Y.supp (hw (.lays nsE Bundle.tN "suppressedExceptions" Bundle.listD) (by simp [ns_wd]))
  obtain ⟨tyM, jM, hjM, hjM'⟩ := Cond.laysAt hf1 hk1 hffM (hw (.lays nsE Bundle.tN "detailMessage" "Ljava/lang/String;") (by simp [ns_wd]))
  obtain ⟨tyB, jB, hjB, hjB'⟩ := Cond.laysAt hf1 hk1 hffB (hw (.lays nsE Bundle.tN "backtrace" "Ljava/lang/Object;") (by simp [ns_wd]))
  have b1 := Cond.laysApart hjB hjC hjB' hjC' (by rw [hnB, Y.causeName]; decide)
  have b2 := Cond.laysApart hjB hjS hjB' hjS' (by rw [hnB, Y.stackName]; decide)
  have b3 := Cond.laysApart hjB hjP hjB' hjP' (by rw [hnB, Y.suppName]; decide)
  have hback : SkipFacts T e.platform s (fun u => u) u0 ((preparedCellV T.toThrowableT (freshCell P1.m.cls k1) a u0 sen).withEntry T0.cur) := by
    refine ⟨{ ci198 := cb, i198 := ib, fBack := fB }, ⟨hb1, hb2, hb3, hb4⟩, ?_, fun _ _ => rfl⟩
    have h9 := fresh_default (c := P1.m.cls) tyB
    rw [htB] at h9
    simpa [preparedCellV, Cell.setSlot, Cell.withEntry, Array.getElem?_setIfInBounds, b1, b2, b3, b1.symm, b2.symm, b3.symm, defaultValue] using h9
  obtain ⟨tm, mC, cC, kC, vm1, hnC, -, -, -, -, -, -, -, hW1, go1⟩ := Steps.initColdS (tb := p.tables) (e := e) (below := below) (s := s) (U := T0) X.here hx X.warmed hpf.2.2 hown (t := Bundle.initS nsE) rfl rfl (Bundle.fit_spec ns_fit.1).2
    (hw (.methodLink own ic (Bundle.initS nsE)) (by simp [ns_wd])) (hws (.instanceMethod (Bundle.initS nsE)) (by simp [ns_wd, Bundle.passSAtoms])) (bytes := prog_16_method_4_code) (maxL := 2) (hws (.code (Bundle.initS nsE) prog_16_method_4_code 2 none) (by simp [ns_wd, Bundle.passSAtoms]))
    (f := F0 m pc ls (.ref sa :: .ref a :: .ref a :: rest)) rfl (a := a) (msg := .ref sa) (rest := .ref a :: rest) rfl d6
  have etm : tm = P1.m := Option.some.inj (hnC.symm.trans hn1)
  subst etm
  obtain ⟨vm2, X2, go2⟩ := (X.noted hW1).ctorMessageOffV hx (g := F0 m pc ls (.ref a :: rest)) rfl hsize T L Z LZ M LM (P1 :: P2 :: Ps)
    (fun P hP => by
      rcases List.mem_cons.mp hP with rfl | hP
      · exact L1
      · rcases List.mem_cons.mp hP with rfl | hP
        · exact L2
        · exact hLs P hP) ⟨Option.some.inj (hs1.symm.trans hn2), hl2, hls⟩ (u0 := u0) (sen := sen) (self := a) (msg := .ref sa) rfl (cell := freshCell P1.m.cls k1) (cellS := cellS)
    hcell (fun _ => by simp) (by simp) rfl rfl (ns_sel X.admits hf1 Y.fill0 (by decide) (hws _ (by simp [ns_wd]))) (ns_sel X.admits hf1 Y.fill (by decide) (hws _ (by simp [ns_wd]))) hcS1 hapart hknS (by rw [hkeep _ (fun z => nomatch z)]; exact hu0) (by rw [hkeep _ (fun z => nomatch z)]; exact hsen)
    (Takes.of_laid hk1 hord tyC (by rw [Y.causeType]; rfl)) (Takes.of_laid hk1 hord tyS (by rw [Y.stackType]; exact fits_refV_array _ u0)) (Takes.of_laid hk1 hord tyP (by rw [Y.suppType]; exact fits_refV_object _ sen))
    (Takes.of_laid hk1 hord tyM (by rw [Y.msgType]; exact fits_refV_object _ ⟨.ref sa, rfl⟩)) Y.objLocals hback htr [] d6
    (by simp only [List.length_cons, hlen]; simpa using hfr) (by simp only [List.length_cons, hlen, List.map_cons, List.sum_cons, List.length_nil]; show 2 * 0 + (1 + _) + _ ≤ _; omega)
  obtain ⟨st9, hrun, hend, hW9, hsm⟩ := X2.athrowLeaves hx (g := { F0 m pc ls (.ref a :: rest) with pc := pc + 3 }) rfl rfl rfl hout (a := a) (rest := rest) rfl d9
  have hlt : a < ((T0.setVm vm1).setVm vm2).heap.size := (Array.getElem?_eq_some_iff.mp hcell).1
  refine ⟨_, go1 _ (fun acts => by rw [doInvoke_state]; exact go2 _ st9), hrun, hend, hW9, hsm.weaken (fun y hy hy2 => ?_) (Nat.le_refl _) (Nat.le_refl _), _, heapAt_setCell_self (s := (T0.setVm vm1).setVm vm2) (plainBareV T.toThrowableT (freshCell P1.m.cls k1) a u0 sen (.ref sa)) hlt, rfl, hf1⟩
  have hya : y.base = a := by
    rw [List.nil_append] at hy
    simp only [List.mem_cons, List.not_mem_nil, or_false] at hy
    rcases hy with rfl | rfl | rfl | rfl | rfl <;> rfl
  rw [hya] at hy2
  exact absurd hy2 (Nat.not_lt.mpr hnew)
end NS
end
section
/-! the throw of a NoSuchElementException leaves the method -/
section NS2
variable {p : Program} {l : Launch} {e : Env} {R : Room} {s : State} {m : MethodId} {args : Array Value} {below : List Frame} {meth : Method} {c : Code} {H : Heap} {locs : List Loc} {cells slots : Nat} {ls : Array Slot} {free : Addr → Prop} {Qc : Array Value → State → Outcome → State → Prop} {XC : String → State → State → Prop}
theorem ns_throw {cc : ByteArray} {pc : Nat} (hx : p.tables.exec = Jvm.exec) (hb : c.code = cc) (hnt : l.stackTraces = false) {own text : String} {ik is ic mc ms sa : Nat} {A : Nat → Prop} (hown : s.vm.findClass own = some m.cls)
    (hk : (Cond.classLink own ik nsE).before args s = true) (hini : (Cond.initialized nsE).before args s = true) (hstr : vk_R own is text sa s) (hat : ∀ w ∈ ns_at own ic, w.before args s = true) (hgood : ∀ w ∈ Cond.classLink own ik nsE :: Cond.initialized nsE :: ns_at own ic, vx_ot w = true)
    (hU : vx_Zq Bundle.tN "UNASSIGNED_STACK" Bundle.steD A s s.heap) (hN : vx_Zq Bundle.tN "SUPPRESSED_SENTINEL" Bundle.listD A s s.heap) (hS : va_S A s.heap H locs) (hsize : ls.size = c.maxLocals)
    (d0 : decode cc pc = .ok (.new ik, 3)) (d3 : decode cc (pc + 3) = .ok (.dup, 1)) (d4 : decode cc (pc + 4) = .ok (.ldc is, 2)) (d6 : decode cc (pc + 6) = .ok (.invokespecial ic, 3)) (d9 : decode cc (pc + 9) = .ok (.athrow, 1)) (hout : ∀ x ∈ c.exceptionTable.toList, covers x (pc + 9) = false)
    (hfr : 5 < R.frames) (hlo : 82 ≤ R.locals) (hrc : cells + 1 ≤ R.cells) (hrs : slots + 6 ≤ R.slots) (hlocks : meth.locks = false)
    (hXC : ∀ t : State, s.vm.Alike t.vm → H.size ≤ t.heap.size → (∀ q : Nat, q < H.size → t.heap[q]? = H[q]?) → XC nsE s t) (hf : ∀ z ∈ locs, free z.base) (h1 : cells + 1 ≤ mc) (h2 : slots + 6 ≤ ms) :
    W p l e R s m args below meth c H locs cells slots (vx_MQ below Qc XC args s mc ms free) (F0 m pc ls []) := by
  intro T hT X
  have htr : e.platform.stackTraces = false := by rw [X.admits.platform]; exact hnt
  subst hb
  -- the place is made the first one of a stay of its own
  have Y := vx_rebase X (R' := { frames := R.frames, locals := R.locals, cells := 1, slots := 6 }) (Nat.le_refl _) (Nat.le_refl _) hrc hrs
  obtain ⟨s9, h9⟩ : ∃ z, z = (T.setVm s.vm).setFrames (.invoking m args :: below) := ⟨_, rfl⟩
  rw [← h9] at Y
  have hvm : s9.vm = s.vm := by rw [h9]; rfl
  have hhp : s9.heap = H := by rw [h9]; exact hT
  have hW0 : s.WarmedH s9.vm := by rw [hvm]; exact State.WarmedH.refl s
  have on9 : ∀ w, vx_ot w = true → w.before args s = true → w.before args s9 = true := fun w a b => vx_ot_at hW0 hvm.symm a b
  have hU9 : vx_Zq Bundle.tN "UNASSIGNED_STACK" Bundle.steD A s9 s9.heap := by rw [hhp]; exact vx_Zq.moved hW0.alike (hU.kept hS.2.1)
  have hN9 : vx_Zq Bundle.tN "SUPPRESSED_SENTINEL" Bundle.listD A s9 s9.heap := by rw [hhp]; exact vx_Zq.moved hW0.alike (hN.kept hS.2.1)
  have hws : ∀ w ∈ ns_wd own ic, w.before args s9 = true := vx_own (L := ns_wd own ic) (fun w hw => on9 w (hgood w (List.mem_cons_of_mem _ (List.mem_cons_of_mem _ hw))) (hat w hw)) (vx_isRefq hU9.1) (vx_isRefq hN9.1) hU9.2.word hN9.2.word
  have hown9 : s9.vm.findClass own = some m.cls := by rw [hvm]; exact hown
  obtain ⟨vm1, cX, kX, hfX, hkX, -, -, X1, go1⟩ := Y.newCold hx (own := own) (C := nsE) (index := ik) (n := 6) hown9 (on9 _ (hgood _ List.mem_cons_self) hk) (hws _ (by simp [ns_wd])) (on9 _ (hgood _ (List.mem_cons_of_mem _ List.mem_cons_self)) hini)
    (g := F0 m pc ls []) rfl d0 (Nat.le_refl _) (Nat.le_refl _)
  generalize hT1 : (T.setVm vm1).pushCell { cls := cX, slots := kX.instanceTypes.map defaultValue, vm := .none } = T1 at X1 go1
  have hcellA : T1.heap[T.heap.size]? = some (freshCell cX kX) := by rw [← hT1]; exact State.heap_pushCell_size _ _
  have hstr9 : vk_R own is text sa s9 := vk_R.warm hW0 hstr
  obtain ⟨U, hsteps, hrun, hend, hW, hsm, ce, hce, hv, hcl⟩ := ns_ctor X1 hx htr (own := own) (ic := ic) hown9 hws rfl hfX hkX hcellA (by rw [hhp, hT]; exact Nat.le_refl _) (sa := sa) (pc := pc + 6) (ls := ls) (rest := []) hsize d6 d9 hout hfr (by simpa using hlo) hlocks
  obtain ⟨f1, f2⟩ := vx_frame hsm
  rw [hhp] at f1 f2
  have hWs : s.WarmedH U.vm := State.WarmedH.trans hW0 hW
  rw [hvm] at hcl
  have hall : s.sameButNew ({ U with vm := s.vm } : State) locs mc ms := by
    subst h9
    obtain ⟨e1, e2⟩ := hsm
    rw [State.setFrames_setFrames] at e1
    have h5 : (T.setVm s.vm).sameButNew ({ U with vm := s.vm } : State) [] (0 + 1) (0 + 6) := ⟨e1, e2⟩
    have h6 := X.same.trans h5
    rw [List.append_nil] at h6
    exact h6.mono h1 h2
  refine ⟨U, go1 _ ?_, .threw T.heap.size, hrun, hend, Or.inr ⟨T.heap.size, rfl, nsE, ce, locs, hXC U hWs.alike f1 (fun q hq => f2 q hq (fun z hz => nomatch hz)), hce, hv, hcl, hWs, hall, hf⟩⟩
  show Steps p.tables e below (T1.setTop { method := m, pc := pc + 3, locals := ls, stack := [.ref T.heap.size], locked := none }) _
  jvm_step X1.here [X1.here.top, hx, d3, Value.category]
  exact X1.ldcString hx (own := own) (text := text) (index := is) (a := sa) hown9 hstr9.1 hstr9.2
    (g := { method := m, pc := pc + 4, locals := ls, stack := [.ref T.heap.size, .ref T.heap.size], locked := none }) rfl d4 _ hsteps
end NS2
end
section
/-! throw new NoSuchElementException("..") in the class's world -/
theorem xh_NSE_at : ∀ w ∈ ns_at RX3 103, w ∈ lw_tbl.filter xn_ok := by decide +kernel
theorem xh_NSE_good : ∀ w ∈ Cond.classLink RX3 99 nsE :: Cond.initialized nsE :: ns_at RX3 103, vx_ot w = true := by decide +kernel
theorem xh_NSE_on : ∀ w ∈ ns_at RX3 103, w.onTables = true := by decide +kernel
section NS3
variable {p : Program} {l : Launch} {e : Env} {R : Room} {s : State} {m : MethodId} {args : Array Value} {below : List Frame} {meth : Method} {c : Code} {H : Heap} {locs : List Loc} {cells slots pc : Nat} {ls : Array Slot} {A : Nat → Prop} {D : va_G} {tys : List (ClassId × FieldType)}
theorem xx_throwN {S : Type} {pX : String → S → Prop} {wx : S → va_W} {mc' ms' : Nat} {cc : ByteArray} {own text : String} {ik is ic sa : Nat} {Qc : Array Value → State → Outcome → State → Prop} (u : S) (hx : p.tables.exec = Jvm.exec) (hb : c.code = cc) (hnt : l.stackTraces = false)
    (hown : s.vm.findClass own = some m.cls) (_ : Bundle.fit nsE = true) (hk : (Cond.classLink own ik nsE).before args s = true) (hini : (Cond.initialized nsE).before args s = true) (hstr : vk_R own is text sa s)
    (hat : ∀ w ∈ ns_at own ic, w ∈ lw_tbl.filter xn_ok) (hgood : ∀ w ∈ Cond.classLink own ik nsE :: Cond.initialized nsE :: ns_at own ic, vx_ot w = true) (hon : ∀ w ∈ ns_at own ic, w.onTables = true)
    (hE : xn_E A s) (hsize : ls.size = c.maxLocals)
    (d0 : decode cc pc = .ok (.new ik, 3)) (d3 : decode cc (pc + 3) = .ok (.dup, 1)) (d4 : decode cc (pc + 4) = .ok (.ldc is, 2)) (d6 : decode cc (pc + 6) = .ok (.invokespecial ic, 3)) (d9 : decode cc (pc + 9) = .ok (.athrow, 1))
    (hno : ∀ x ∈ c.exceptionTable.toList, False) (hR : 5 < R.frames ∧ 82 ≤ R.locals ∧ cells + 1 ≤ R.cells ∧ slots + 6 ≤ R.slots) (hlocks : meth.locks = false) (hu : pX nsE u)
    (hK : va_K D vwCl tys s) (hP : va_P D vwCl (wx u) H) (hD : va_D A (wx u)) (hS : va_S A s.heap H locs) (h1 : cells + 1 ≤ mc') (h2 : slots + 6 ≤ ms') :
    W p l e R s m args below meth c H locs cells slots (vx_MQ below Qc (xX D tys A pX wx) args s mc' ms' A) (F0 m pc ls []) :=
  ns_throw hx hb hnt hown hk hini hstr (fun w hw => va_Nw.use (hon w hw) (hE.1 w (hat w hw))) hgood hE.2.1 hE.2.2.1 hS hsize d0 d3 d4 d6 d9 (fun x hx => (hno x hx).elim) hR.1 hR.2.1 hR.2.2.1 hR.2.2.2 hlocks
    (fun t ha hz hq => ⟨u, trivial, ⟨hu, hP.kept (fun k q hk => hq _ (vx_lt hP hk)), va_K.moved ha hK, hD⟩, Nat.le_trans hS.1 hz, fun q h3 h4 => by rw [hq q (Nat.lt_of_lt_of_le h3 hS.1)]; exact hS.2.1 q h3 h4⟩) hS.2.2 h1 h2
end NS3
end
section
/-! SortedRun: reading a BLOCK (rows by wip/whole/wsr.py) -/
set_option maxHeartbeats 4000000 in
set_option maxRecDepth 100000 in
theorem cX3_startReading_m (l : Launch) (dC : Nat → ClassId) (dI : Nat → Nat → Nat) (ca : Nat → ClassId) (ad : Nat → Nat) (kf : Nat → Int32) (vf : Nat → Int64) (bf : Nat → Int32) (w : Int32) (op : Int32) (ln : Int32) (nx : Int32) (en : Int32) (ok : Int32) (tf : Nat → Int32) (nb : Int32) (ef : Nat → Int32) (ff : Nat → Int32) (fi : Int32) (ek : Int32) (ev : Int64) (j : Nat) (hj : j < 2444) : ∀ sz : Nat, Met l yX3_startReading wsX3_startReading ({ frames := 1, cells := 0, slots := 0, locals := 22 } : Room) (va_Pc [.ref (ad 0), .int (nI j)] (xP (dC, dI) (xt ca) (xw ad ca kf vf bf w op ln nx en ok tf nb ef ff fi ek ev) sz)) (va_Qv (S := Unit) (fun _ => True) (fun u t => xB (dC, dI) (xt ca) (va_A (xw ad ca kf vf bf w op ln nx en ok tf nb ef ff fi ek ev) sz) (xw ad ca kf vf bf w op ln (px_st ef j) (ef j - nI 4) 1 tf nb ef ff 1 ek ev) t) (va_A (xw ad ca kf vf bf w op ln nx en ok tf nb ef ff fi ek ev) sz)) 0 0 (va_A (xw ad ca kf vf bf w op ln nx en ok tf nb ef ff fi ek ev) sz) := by
  intro sz
  refine Met.ofW (cc := cX3_startReading) (maxL := 2) (ret := none) (by decide) rfl ?_
  intro p e s m args below meth c s₁ B hml hv
  obtain ⟨rfl, hsz, hP, hK, hD0, hE⟩ := hv
  have hx := B.exec
  have hb := B.bytes
  have hr := B.returns
  have hts := atoms_spec (ws := wsX3_startReading) B.pre
  have hown : s.vm.findClass RX3 = some m.cls := findClass_of_methodNamed B.named
  have hlocks := B.notSynchronized
  subst hsz
  have hD := hD0.self (sz := s.heap.size)
  generalize hAe : va_A (xw ad ca kf vf bf w op ln nx en ok tf nb ef ff fi ek ev) s.heap.size = A at hD hE ⊢
  have hA : ∀ q : Nat, s.heap.size ≤ q → A q := fun q h => by rw [← hAe]; exact Or.inr h
  have hS : va_S A s.heap s.heap [] := va_S.rf
  have hl := lv_entry ([.ref (ad 0), .int (nI j)]) (n := 2) (Nat.le_of_ble_eq_true rfl)
  rw [lg_entry_eq]
  generalize (lg_sl ([.ref (ad 0), .int (nI j)]) ++ List.replicate (2 - (lg_sl ([.ref (ad 0), .int (nI j)])).length) Slot.unset).toArray = ls at hl ⊢
  have hl : lv_has ls 2 [(0, .ref (ad 0)), (1, .int (nI j))] := hl
  refine lv_aload_n hx hb dX3_startReading_0 rfl (lv_at hl 0 rfl) ?_
  refine va_get (D := (dC, dI)) (ci := 3) (v := .ref (ad 4)) (C := RX3) (T := TX3) (N := 8) (ref := "SortedRun") hx hb hts (xg_u mb_uws_X3) hown hK hP 0 rfl rfl 3 (by decide) (xg_w hts mb_fieldLink_RX3_23) (fun _ h9 => h9) rfl dX3_startReading_1 ?_
  refine lv_aload_n hx hb dX3_startReading_4 rfl (lv_at hl 0 rfl) ?_
  refine va_get (D := (dC, dI)) (ci := 3) (v := .ref (ad 6)) (C := RX3) (T := TX3) (N := 8) (ref := "SortedRun") hx hb hts (xg_u mb_uws_X3) hown hK hP 0 rfl rfl 4 (by decide) (xg_w hts mb_fieldLink_RX3_30) (fun _ h9 => h9) rfl dX3_startReading_5 ?_
  refine lv_iload_n hx hb dX3_startReading_8 rfl (lv_at hl 1 rfl) ?_
  refine xk_i (va_runV (As := [.int (nI j)]) (rest := [.ref (ad 4)]) ⟨hx, hb, hml, hown, hts⟩ (cX1_startOf_m l dC dI ca ad kf vf bf w op ln nx en ok tf nb ef ff fi ek ev j (by omega) _) (cwV 1 hts (xg_V mb_methodLink_RX3_146 mb_instanceMethod_yX1_startOf mb_selects_yX1_startOf mb_initialized_RX1 mb_code_yX1_startOf) rfl rfl rfl ⟨rfl, by decide, by decide, by decide +kernel⟩ ⟨Nat.le_of_ble_eq_true rfl, Nat.le_of_ble_eq_true rfl⟩) (xpreV (va_recv (q0 := 6) hK hP rfl rfl) hK hP hD hS hA hE) rfl rfl hl.1 rfl (lv_room (Nat.le_of_ble_eq_true rfl)) dX3_startReading_9 ⟨Nat.le_of_ble_eq_true rfl, Nat.le_of_ble_eq_true rfl⟩) hD hS hA (fun r u H locs hu hP hD hS => ?_)
  subst hu
  have hP : va_P (dC, dI) vwCl (xw ad ca kf vf bf w op ln nx en ok tf nb ef ff fi ek ev) H := hP
  have hD : va_D A (xw ad ca kf vf bf w op ln nx en ok tf nb ef ff fi ek ev) := hD
  refine lv_aload_n hx hb dX3_startReading_12 rfl (lv_at hl 0 rfl) ?_
  refine va_get (D := (dC, dI)) (ci := 3) (v := .ref (ad 6)) (C := RX3) (T := TX3) (N := 8) (ref := "SortedRun") hx hb hts (xg_u mb_uws_X3) hown hK hP 0 rfl rfl 4 (by decide) (xg_w hts mb_fieldLink_RX3_30) (fun _ h9 => h9) rfl dX3_startReading_13 ?_
  refine lv_iload_n hx hb dX3_startReading_16 rfl (lv_at hl 1 rfl) ?_
  refine xk_i (va_runV (As := [.int (nI j)]) (rest := [.int (px_st ef j), .ref (ad 4)]) ⟨hx, hb, hml, hown, hts⟩ (cX1_bodyEndOf_m l dC dI ca ad kf vf bf w op ln nx en ok tf nb ef ff fi ek ev j hj _) (cwV 1 hts (xg_V mb_methodLink_RX3_149 mb_instanceMethod_yX1_bodyEndOf mb_selects_yX1_bodyEndOf mb_initialized_RX1 mb_code_yX1_bodyEndOf) rfl rfl rfl ⟨rfl, by decide, by decide, by decide +kernel⟩ ⟨Nat.le_of_ble_eq_true rfl, Nat.le_of_ble_eq_true rfl⟩) (xpreV (va_recv (q0 := 6) hK hP rfl rfl) hK hP hD hS hA hE) rfl rfl hl.1 rfl (lv_room (Nat.le_of_ble_eq_true rfl)) dX3_startReading_17 ⟨Nat.le_of_ble_eq_true rfl, Nat.le_of_ble_eq_true rfl⟩) hD hS hA (fun r u H locs hu hP hD hS => ?_)
  subst hu
  have hP : va_P (dC, dI) vwCl (xw ad ca kf vf bf w op ln nx en ok tf nb ef ff fi ek ev) H := hP
  have hD : va_D A (xw ad ca kf vf bf w op ln nx en ok tf nb ef ff fi ek ev) := hD
  refine xk_v (va_runV (As := [.int (px_st ef j), .int (ef j - nI 4)]) (rest := []) ⟨hx, hb, hml, hown, hts⟩ (cX2_startReading_m l dC dI ca ad kf vf bf w op ln nx en ok tf nb ef ff fi ek ev (px_st ef j) (ef j - nI 4) _) (cwV 2 hts (xg_V mb_methodLink_RX3_163 mb_instanceMethod_yX2_startReading mb_selects_yX2_startReading mb_initialized_RX2 mb_code_yX2_startReading) rfl rfl rfl ⟨rfl, by decide, by decide, by decide +kernel⟩ ⟨Nat.le_of_ble_eq_true rfl, Nat.le_of_ble_eq_true rfl⟩) (xpreV (va_recv (q0 := 4) hK hP rfl rfl) hK hP hD hS hA hE) rfl rfl hl.1 rfl (lv_room (Nat.le_of_ble_eq_true rfl)) dX3_startReading_20 ⟨Nat.le_of_ble_eq_true rfl, Nat.le_of_ble_eq_true rfl⟩) hD hS hA (fun u H locs hu hP hD hS => ?_)
  have hP : va_P (dC, dI) vwCl (xw ad ca kf vf bf w op ln (px_st ef j) (ef j - nI 4) 1 tf nb ef ff fi ek ev) H := hP
  have hD : va_D A (xw ad ca kf vf bf w op ln (px_st ef j) (ef j - nI 4) 1 tf nb ef ff fi ek ev) := hD
  refine lv_aload_n hx hb dX3_startReading_23 rfl (lv_at hl 0 rfl) ?_
  refine va_get (D := (dC, dI)) (ci := 3) (v := .ref (ad 9)) (C := RX3) (T := TX3) (N := 8) (ref := "SortedRun") hx hb hts (xg_u mb_uws_X3) hown hK hP 0 rfl rfl 5 (by decide) (xg_w hts mb_fieldLink_RX3_37) (fun _ h9 => h9) rfl dX3_startReading_24 ?_
  refine lv_iconst (v := 1) hx hb dX3_startReading_27 (by decide) ?_
  refine va_putN (host := "SortedRun") (D := (dC, dI)) (ci := 0) (v := .int 1) (ty := .boolean) (C := RX0) (T := TX0) (N := 3) (ref := "SortedRun$Entry") hx hb hts (xg_u mb_uws_X0) tyX0 tyX0_ok nmX0 hown hK hP hD hS 9 rfl rfl 0 (by decide) (xn_w (w := .fieldLinkNest RX3 166 "SortedRun$Entry" "isFirst" "Z" "SortedRun") (i := 77) hE rfl rfl rfl) (fun _ h9 => h9) rfl (by decide +kernel) rfl rfl (Nat.le_of_ble_eq_true rfl) dX3_startReading_28 (fun H locs hP hD hS => ?_)
  have hP : va_P (dC, dI) vwCl (xw ad ca kf vf bf w op ln (px_st ef j) (ef j - nI 4) 1 tf nb ef ff 1 ek ev) H := hP
  have hD : va_D A (xw ad ca kf vf bf w op ln (px_st ef j) (ef j - nI 4) 1 tf nb ef ff 1 ek ev) := hD
  have hP9 := hP
  have hD9 := hD
  exact W.vret hx hb hr (fun t ht hW => ⟨⟨(), rfl, trivial, by rw [ht]; exact hP9, va_K.moved hW.alike hK, hD9⟩, hS.F ht⟩) hS.2.2 dX3_startReading_31

set_option maxHeartbeats 4000000 in
set_option maxRecDepth 100000 in
theorem cX3_hasRightSum_m (l : Launch) (dC : Nat → ClassId) (dI : Nat → Nat → Nat) (ca : Nat → ClassId) (ad : Nat → Nat) (kf : Nat → Int32) (vf : Nat → Int64) (bf : Nat → Int32) (w : Int32) (op : Int32) (ln : Int32) (nx : Int32) (en : Int32) (ok : Int32) (tf : Nat → Int32) (nb : Int32) (ef : Nat → Int32) (ff : Nat → Int32) (fi : Int32) (ek : Int32) (ev : Int64) (bp bq j : Nat) (hj : j < 2444) (hp : px_st ef j = nI bp) (hq : ef j = nI bq) (hpq : bp ≤ bq) (hq9 : bq ≤ 4889) : ∀ sz : Nat, Met l yX3_hasRightSum wsX3_hasRightSum ({ frames := 3, cells := 0, slots := 0, locals := 69 } : Room) (va_Pc [.ref (ad 0), .int (nI j)] (xP (dC, dI) (xt ca) (xw ad ca kf vf bf w op ln nx en ok tf nb ef ff fi ek ev) sz)) (va_Qi (S := Unit) (fun r _ => (r = 1 ∧ bp + 4 ≤ bq ∧ ps_has tf bp (bq - 4)) ∨ (r = 0 ∧ ¬ (bp + 4 ≤ bq ∧ ps_has tf bp (bq - 4)))) (fun u t => xB (dC, dI) (xt ca) (va_A (xw ad ca kf vf bf w op ln nx en ok tf nb ef ff fi ek ev) sz) (xw ad ca kf vf bf w op ln nx en ok tf nb ef ff fi ek ev) t) (va_A (xw ad ca kf vf bf w op ln nx en ok tf nb ef ff fi ek ev) sz)) 0 0 (va_A (xw ad ca kf vf bf w op ln nx en ok tf nb ef ff fi ek ev) sz) := by
  intro sz
  refine Met.ofW (cc := cX3_hasRightSum) (maxL := 4) (ret := (some .boolean)) (by decide) rfl ?_
  intro p e s m args below meth c s₁ B hml hv
  obtain ⟨rfl, hsz, hP, hK, hD0, hE⟩ := hv
  have hx := B.exec
  have hb := B.bytes
  have hr := B.returns
  have hts := atoms_spec (ws := wsX3_hasRightSum) B.pre
  have hown : s.vm.findClass RX3 = some m.cls := findClass_of_methodNamed B.named
  have hlocks := B.notSynchronized
  subst hsz
  have hD := hD0.self (sz := s.heap.size)
  generalize hAe : va_A (xw ad ca kf vf bf w op ln nx en ok tf nb ef ff fi ek ev) s.heap.size = A at hD hE ⊢
  have hA : ∀ q : Nat, s.heap.size ≤ q → A q := fun q h => by rw [← hAe]; exact Or.inr h
  have hS : va_S A s.heap s.heap [] := va_S.rf
  have hl := lv_entry ([.ref (ad 0), .int (nI j)]) (n := 4) (Nat.le_of_ble_eq_true rfl)
  rw [lg_entry_eq]
  generalize (lg_sl ([.ref (ad 0), .int (nI j)]) ++ List.replicate (4 - (lg_sl ([.ref (ad 0), .int (nI j)])).length) Slot.unset).toArray = ls at hl ⊢
  have hl : lv_has ls 4 [(0, .ref (ad 0)), (1, .int (nI j))] := hl
  refine lv_aload_n hx hb dX3_hasRightSum_0 rfl (lv_at hl 0 rfl) ?_
  refine va_get (D := (dC, dI)) (ci := 3) (v := .ref (ad 6)) (C := RX3) (T := TX3) (N := 8) (ref := "SortedRun") hx hb hts (xg_u mb_uws_X3) hown hK hP 0 rfl rfl 4 (by decide) (xg_w hts mb_fieldLink_RX3_30) (fun _ h9 => h9) rfl dX3_hasRightSum_1 ?_
  refine lv_iload_n hx hb dX3_hasRightSum_4 rfl (lv_at hl 1 rfl) ?_
  refine xk_i (va_runV (As := [.int (nI j)]) (rest := []) ⟨hx, hb, hml, hown, hts⟩ (cX1_startOf_m l dC dI ca ad kf vf bf w op ln nx en ok tf nb ef ff fi ek ev j (by omega) _) (cwV 1 hts (xg_V mb_methodLink_RX3_146 mb_instanceMethod_yX1_startOf mb_selects_yX1_startOf mb_initialized_RX1 mb_code_yX1_startOf) rfl rfl rfl ⟨rfl, by decide, by decide, by decide +kernel⟩ ⟨Nat.le_of_ble_eq_true rfl, Nat.le_of_ble_eq_true rfl⟩) (xpreV (va_recv (q0 := 6) hK hP rfl rfl) hK hP hD hS hA hE) rfl rfl hl.1 rfl (lv_room (Nat.le_of_ble_eq_true rfl)) dX3_hasRightSum_5 ⟨Nat.le_of_ble_eq_true rfl, Nat.le_of_ble_eq_true rfl⟩) hD hS hA (fun r u H locs hu hP hD hS => ?_)
  subst hu
  have hP : va_P (dC, dI) vwCl (xw ad ca kf vf bf w op ln nx en ok tf nb ef ff fi ek ev) H := hP
  have hD : va_D A (xw ad ca kf vf bf w op ln nx en ok tf nb ef ff fi ek ev) := hD
  refine lv_topi (fun z1 ez1 => ?_)
  have ez1 : z1 = nI bp := ez1.trans (hp)
  subst ez1
  refine lv_istore_n hx hb dX3_hasRightSum_8 rfl hl (by decide) rfl (fun ls hl => ?_)
  have hl : lv_has ls 4 [(2, .int (nI bp)), (0, .ref (ad 0)), (1, .int (nI j))] := hl
  refine lv_aload_n hx hb dX3_hasRightSum_9 rfl (lv_at hl 1 rfl) ?_
  refine va_get (D := (dC, dI)) (ci := 3) (v := .ref (ad 6)) (C := RX3) (T := TX3) (N := 8) (ref := "SortedRun") hx hb hts (xg_u mb_uws_X3) hown hK hP 0 rfl rfl 4 (by decide) (xg_w hts mb_fieldLink_RX3_30) (fun _ h9 => h9) rfl dX3_hasRightSum_10 ?_
  refine lv_iload_n hx hb dX3_hasRightSum_13 rfl (lv_at hl 2 rfl) ?_
  refine xk_i (va_runV (As := [.int (nI j)]) (rest := []) ⟨hx, hb, hml, hown, hts⟩ (cX1_bodyEndOf_m l dC dI ca ad kf vf bf w op ln nx en ok tf nb ef ff fi ek ev j hj _) (cwV 1 hts (xg_V mb_methodLink_RX3_149 mb_instanceMethod_yX1_bodyEndOf mb_selects_yX1_bodyEndOf mb_initialized_RX1 mb_code_yX1_bodyEndOf) rfl rfl rfl ⟨rfl, by decide, by decide, by decide +kernel⟩ ⟨Nat.le_of_ble_eq_true rfl, Nat.le_of_ble_eq_true rfl⟩) (xpreV (va_recv (q0 := 6) hK hP rfl rfl) hK hP hD hS hA hE) rfl rfl hl.1 rfl (lv_room (Nat.le_of_ble_eq_true rfl)) dX3_hasRightSum_14 ⟨Nat.le_of_ble_eq_true rfl, Nat.le_of_ble_eq_true rfl⟩) hD hS hA (fun r u H locs hu hP hD hS => ?_)
  subst hu
  have hP : va_P (dC, dI) vwCl (xw ad ca kf vf bf w op ln nx en ok tf nb ef ff fi ek ev) H := hP
  have hD : va_D A (xw ad ca kf vf bf w op ln nx en ok tf nb ef ff fi ek ev) := hD
  refine lv_topi (fun z2 ez2 => ?_)
  have ez2 : z2 = nI bq - nI 4 := ez2.trans (by rw [hq])
  subst ez2
  by_cases h4 : bp + 4 ≤ bq
  · refine lv_topi (fun z3 ez3 => ?_)
    have ez3 : z3 = nI (bq - 4) := ez3.trans (pk_sub (by omega))
    subst ez3
    refine lv_istore_n hx hb dX3_hasRightSum_17 rfl hl (by decide) rfl (fun ls hl => ?_)
    have hl : lv_has ls 4 [(3, .int (nI (bq - 4))), (2, .int (nI bp)), (0, .ref (ad 0)), (1, .int (nI j))] := hl
    refine lv_iload_n hx hb dX3_hasRightSum_18 rfl (lv_at hl 1 rfl) ?_
    refine lv_iload_n hx hb dX3_hasRightSum_19 rfl (lv_at hl 0 rfl) ?_
    refine lv_icmp_gt (tgt := 39) hx hb dX3_hasRightSum_20 rfl (fun hc => absurd hc (by rw [nI_ltI (by omega) (by omega)]; omega)) (fun hc => ?_)
    refine lv_aload_n hx hb dX3_hasRightSum_23 rfl (lv_at hl 2 rfl) ?_
    refine va_get (D := (dC, dI)) (ci := 3) (v := .ref (ad 4)) (C := RX3) (T := TX3) (N := 8) (ref := "SortedRun") hx hb hts (xg_u mb_uws_X3) hown hK hP 0 rfl rfl 3 (by decide) (xg_w hts mb_fieldLink_RX3_23) (fun _ h9 => h9) rfl dX3_hasRightSum_24 ?_
    refine lv_iload_n hx hb dX3_hasRightSum_27 rfl (lv_at hl 1 rfl) ?_
    refine lv_iload_n hx hb dX3_hasRightSum_28 rfl (lv_at hl 0 rfl) ?_
    refine xk_i (va_runV (As := [.int (nI bp), .int (nI (bq - 4))]) (rest := []) ⟨hx, hb, hml, hown, hts⟩ (cX2_hasSum_m l dC dI ca ad kf vf bf w op ln nx en ok tf nb ef ff fi ek ev bp (bq - 4) (by omega) (by omega) _) (cwV 2 hts (xg_V mb_methodLink_RX3_152 mb_instanceMethod_yX2_hasSum mb_selects_yX2_hasSum mb_initialized_RX2 mb_code_yX2_hasSum) rfl rfl rfl ⟨rfl, by decide, by decide, by decide +kernel⟩ ⟨Nat.le_of_ble_eq_true rfl, Nat.le_of_ble_eq_true rfl⟩) (xpreV (va_recv (q0 := 4) hK hP rfl rfl) hK hP hD hS hA hE) rfl rfl hl.1 rfl (lv_room (Nat.le_of_ble_eq_true rfl)) dX3_hasRightSum_29 ⟨Nat.le_of_ble_eq_true rfl, Nat.le_of_ble_eq_true rfl⟩) hD hS hA (fun r u H locs hu hP hD hS => ?_)
    have hP : va_P (dC, dI) vwCl (xw ad ca kf vf bf w op ln nx en ok tf nb ef ff fi ek ev) H := hP
    have hD : va_D A (xw ad ca kf vf bf w op ln nx en ok tf nb ef ff fi ek ev) := hD
    rcases hu with hh | hh
    · obtain ⟨rfl, hh⟩ := hh
      refine lv_if_eq (tgt := 39) hx hb dX3_hasRightSum_32 rfl (fun hc => absurd hc (by decide)) (fun hc => ?_)
      refine lv_iconst (v := 1) hx hb dX3_hasRightSum_35 (by decide) ?_
      refine lv_goto (tgt := 40) hx hb dX3_hasRightSum_36 rfl ?_
      have hP9 := hP
      have hD9 := hD
      exact W.zret (v := 1) hx hb hr (by rfl) (fun t ht hW => ⟨⟨1, (), rfl, Or.inl ⟨rfl, h4, hh⟩, by rw [ht]; exact hP9, va_K.moved hW.alike hK, hD9⟩, hS.F ht⟩) hS.2.2 dX3_hasRightSum_40
    · obtain ⟨rfl, hh⟩ := hh
      refine lv_if_eq (tgt := 39) hx hb dX3_hasRightSum_32 rfl (fun hc => ?_) (fun hc => absurd hc (not_not_intro rfl))
      refine lv_iconst (v := 0) hx hb dX3_hasRightSum_39 (by decide) ?_
      have hP9 := hP
      have hD9 := hD
      exact W.zret (v := 0) hx hb hr (by rfl) (fun t ht hW => ⟨⟨0, (), rfl, Or.inr ⟨rfl, fun z => hh z.2⟩, by rw [ht]; exact hP9, va_K.moved hW.alike hK, hD9⟩, hS.F ht⟩) hS.2.2 dX3_hasRightSum_40
  · refine lv_istore_n hx hb dX3_hasRightSum_17 rfl hl (by decide) rfl (fun ls hl => ?_)
    have hl : lv_has ls 4 [(3, .int (nI bq - nI 4)), (2, .int (nI bp)), (0, .ref (ad 0)), (1, .int (nI j))] := hl
    refine lv_iload_n hx hb dX3_hasRightSum_18 rfl (lv_at hl 1 rfl) ?_
    refine lv_iload_n hx hb dX3_hasRightSum_19 rfl (lv_at hl 0 rfl) ?_
    have hlt : nI bq - nI 4 < nI bp := by
      by_cases h9 : 4 ≤ bq
      · rw [pk_sub h9]; exact nI_lt (by omega) (by omega)
      · have h1 := pk_sneg (a := bq) (b := 4) (by decide) (by omega)
        have h2 := nI_pos (n := bp) (by omega)
        rw [Int32.lt_iff_toInt_lt] at h1 h2 ⊢; omega
    refine lv_icmp_gt (tgt := 39) hx hb dX3_hasRightSum_20 rfl (fun hc => ?_) (fun hc => absurd hc (not_not_intro hlt))
    refine lv_iconst (v := 0) hx hb dX3_hasRightSum_39 (by decide) ?_
    have hP9 := hP
    have hD9 := hD
    exact W.zret (v := 0) hx hb hr (by rfl) (fun t ht hW => ⟨⟨0, (), rfl, Or.inr ⟨rfl, fun z => h4 z.1⟩, by rw [ht]; exact hP9, va_K.moved hW.alike hK, hD9⟩, hS.F ht⟩) hS.2.2 dX3_hasRightSum_40

set_option maxHeartbeats 4000000 in
set_option maxRecDepth 100000 in
theorem lpX3_countEntries_go {p : Program} {l : Launch} {e : Env} {s : State} {m : MethodId} {args : Array Value} {below : List Frame} {meth : Method} {c : Code} {Q : State → Prop} {A : Nat → Prop} {dC : Nat → ClassId} {dI : Nat → Nat → Nat} {ca : Nat → ClassId} {ad : Nat → Nat} (hx : p.tables.exec = Jvm.exec) (hb : c.code = cX3_countEntries) (hml : c.maxLocals = 3) (hown : s.vm.findClass RX3 = some m.cls) (hts : ∀ w ∈ wsX3_countEntries, w.before args s = true) (hK : va_K (dC, dI) vwCl (xt ca) s) (hA : ∀ q : Nat, s.heap.size ≤ q → A q) (hE : xn_E A s) {kf : Nat → Int32} {vf : Nat → Int64} {bf : Nat → Int32} {w : Int32} {op : Int32} {ln : Int32} {tf : Nat → Int32} {nb : Int32} {ef : Nat → Int32} {ff : Nat → Int32} {e9 : Nat} {z1 : Int32} (he9 : e9 ≤ 4885) : ∀ (k : Nat) (cnt a : Nat) (ok fi ek : Int32) (ev : Int64) (fst : Bool) (H : Heap) (locs : List Loc) (ls : Array Slot), (ok = 0 ∨ ok = 1) → (ok = 1 → 2 * cnt ≤ a) → cnt + k = 2444 → a ≤ e9 → fi = (if fst = true then 1 else 0) → lv_has ls 3 [(2, .int (nI cnt)), (0, .ref (ad 0)), (1, .int z1)] → va_P (dC, dI) vwCl (xw ad ca kf vf bf w op ln (nI a) (nI e9) ok tf nb ef ff fi ek ev) H → va_D A (xw ad ca kf vf bf w op ln (nI a) (nI e9) ok tf nb ef ff fi ek ev) → va_S A s.heap H locs → (ok = 1 → ∀ lb, pe_bl tf e9 e9 fst ek a = some lb → ∀ (x1 x2 x4 x5 : Int32) (x6 : Int64), ∀ (H : Heap) (locs : List Loc) (ls : Array Slot), lv_has ls 3 [(2, .int (nI (cnt + lb.length))), (0, .ref (ad 0))] → va_P (dC, dI) vwCl (xw ad ca kf vf bf w op ln x1 x2 1 tf nb ef ff x4 x5 x6) H → va_D A (xw ad ca kf vf bf w op ln x1 x2 1 tf nb ef ff x4 x5 x6) → va_S A s.heap H locs → W p l e ({ frames := 3, cells := 0, slots := 0, locals := 68 } : Room) s m args below meth c H locs 0 0 Q (F0 m 41 ls [])) → (ok = 0 ∨ pe_bl tf e9 e9 fst ek a = none → ∀ (x1 x2 x4 x5 : Int32) (x6 : Int64) (x7 : Int32), ∀ (H : Heap) (locs : List Loc) (ls : Array Slot), lv_has ls 3 [(2, .int x7), (0, .ref (ad 0))] → va_P (dC, dI) vwCl (xw ad ca kf vf bf w op ln x1 x2 0 tf nb ef ff x4 x5 x6) H → va_D A (xw ad ca kf vf bf w op ln x1 x2 0 tf nb ef ff x4 x5 x6) → va_S A s.heap H locs → W p l e ({ frames := 3, cells := 0, slots := 0, locals := 68 } : Room) s m args below meth c H locs 0 0 Q (F0 m 41 ls [])) → W p l e ({ frames := 3, cells := 0, slots := 0, locals := 68 } : Room) s m args below meth c H locs 0 0 Q (F0 m 7 ls []) := by
  intro k
  induction k with
  | zero =>
    intro cnt a ok fi ek ev fst H locs ls hok hcnt hck ha hfi hl hP hD hS kg kb
    have hl : lv_has ls 3 [(2, .int (nI cnt)), (0, .ref (ad 0)), (1, .int z1)] := hl
    refine lv_iload_n hx hb dX3_countEntries_7 rfl (lv_at hl 0 rfl) ?_
    refine lv_sipush (v := nI 2444) hx hb dX3_countEntries_8 (by decide) ?_
    refine lv_icmp_ge (tgt := 41) hx hb dX3_countEntries_11 rfl (fun hc => ?_) (fun hc => absurd hc (not_not_intro (nI_le (by omega) (by omega))))
    rcases hok with rfl | rfl
    · exact kb (Or.inl rfl) _ _ _ _ _ _ H locs ls (lv_sub hl [0, 1] rfl) hP hD hS
    · exact kg rfl [] (absurd (hcnt rfl) (by omega)) _ _ _ _ _ H locs ls (lv_sub hl [0, 1] rfl) hP hD hS
  | succ k ih =>
    intro cnt a ok fi ek ev fst H locs ls hok hcnt hck ha hfi hl hP hD hS kg kb
    have hl : lv_has ls 3 [(2, .int (nI cnt)), (0, .ref (ad 0)), (1, .int z1)] := hl
    refine lv_iload_n hx hb dX3_countEntries_7 rfl (lv_at hl 0 rfl) ?_
    refine lv_sipush (v := nI 2444) hx hb dX3_countEntries_8 (by decide) ?_
    refine lv_icmp_ge (tgt := 41) hx hb dX3_countEntries_11 rfl (fun hc => absurd hc (by rw [nI_leI (by decide) (by omega)]; omega)) (fun hc => ?_)
    refine lv_aload_n hx hb dX3_countEntries_14 rfl (lv_at hl 1 rfl) ?_
    refine va_get (D := (dC, dI)) (ci := 3) (v := .ref (ad 4)) (C := RX3) (T := TX3) (N := 8) (ref := "SortedRun") hx hb hts (xg_u mb_uws_X3) hown hK hP 0 rfl rfl 3 (by decide) (xg_w hts mb_fieldLink_RX3_23) (fun _ h9 => h9) rfl dX3_countEntries_15 ?_
    refine xk_i (va_runV (As := []) (rest := []) ⟨hx, hb, hml, hown, hts⟩ (cX2_isReadToEnd_m l dC dI ca ad kf vf bf w op ln (nI a) (nI e9) ok tf nb ef ff fi ek ev  _) (cwV 0 hts (xg_V mb_methodLink_RX3_156 mb_instanceMethod_yX2_isReadToEnd mb_selects_yX2_isReadToEnd mb_initialized_RX2 mb_code_yX2_isReadToEnd) rfl rfl rfl ⟨rfl, by decide, by decide, by decide +kernel⟩ ⟨Nat.le_of_ble_eq_true rfl, Nat.le_of_ble_eq_true rfl⟩) (xpreV (va_recv (q0 := 4) hK hP rfl rfl) hK hP hD hS hA hE) rfl rfl hl.1 rfl (lv_room (Nat.le_of_ble_eq_true rfl)) dX3_countEntries_18 ⟨Nat.le_of_ble_eq_true rfl, Nat.le_of_ble_eq_true rfl⟩) hD hS hA (fun r u H locs hu hP hD hS => ?_)
    have hP : va_P (dC, dI) vwCl (xw ad ca kf vf bf w op ln (nI a) (nI e9) ok tf nb ef ff fi ek ev) H := hP
    have hD : va_D A (xw ad ca kf vf bf w op ln (nI a) (nI e9) ok tf nb ef ff fi ek ev) := hD
    rcases hu with h9 | h9
    · obtain ⟨rfl, h9⟩ := h9
      have h8 : ¬ a < e9 := fun z => absurd ((nI_leI (by omega) (by omega)).mp h9) (by omega)
      refine lv_if_ne (tgt := 41) hx hb dX3_countEntries_21 rfl (fun hc => ?_) (fun hc => absurd hc (by decide))
      rcases hok with rfl | rfl
      · exact kb (Or.inl rfl) _ _ _ _ _ _ H locs ls (lv_sub hl [0, 1] rfl) hP hD hS
      · exact kg rfl [] (pe_bl_end h8) _ _ _ _ _ H locs ls (lv_sub hl [0, 1] rfl) hP hD hS
    · obtain ⟨rfl, h9⟩ := h9
      have h8 : a < e9 := Nat.lt_of_not_le (fun z => h9 ((nI_leI (by omega) (by omega)).mpr z))
      refine lv_if_ne (tgt := 41) hx hb dX3_countEntries_21 rfl (fun hc => absurd hc (not_not_intro rfl)) (fun hc => ?_)
      refine lv_aload_n hx hb dX3_countEntries_24 rfl (lv_at hl 1 rfl) ?_
      refine va_get (D := (dC, dI)) (ci := 3) (v := .ref (ad 9)) (C := RX3) (T := TX3) (N := 8) (ref := "SortedRun") hx hb hts (xg_u mb_uws_X3) hown hK hP 0 rfl rfl 5 (by decide) (xg_w hts mb_fieldLink_RX3_37) (fun _ h9 => h9) rfl dX3_countEntries_25 ?_
      refine lv_aload_n hx hb dX3_countEntries_28 rfl (lv_at hl 1 rfl) ?_
      refine va_get (D := (dC, dI)) (ci := 3) (v := .ref (ad 4)) (C := RX3) (T := TX3) (N := 8) (ref := "SortedRun") hx hb hts (xg_u mb_uws_X3) hown hK hP 0 rfl rfl 3 (by decide) (xg_w hts mb_fieldLink_RX3_23) (fun _ h9 => h9) rfl dX3_countEntries_29 ?_
      refine xk_v (va_runV (As := [.ref (ad 4)]) (rest := []) ⟨hx, hb, hml, hown, hts⟩ (cX0_readNext_m l dC dI ca ad kf vf bf w op ln ok tf nb ef ff fi ek ev a e9 fst ha (by omega) hfi _) (cwV 1 hts (xg_V mb_methodLink_RX3_110 mb_instanceMethod_yX0_readNext mb_selects_yX0_readNext mb_initialized_RX0 mb_code_yX0_readNext) rfl rfl rfl ⟨rfl, by decide, by decide, by decide +kernel⟩ ⟨Nat.le_of_ble_eq_true rfl, Nat.le_of_ble_eq_true rfl⟩) (xpreV (va_recv (q0 := 9) hK hP rfl rfl) hK hP hD hS hA hE) rfl rfl hl.1 rfl (lv_room (Nat.le_of_ble_eq_true rfl)) dX3_countEntries_32 ⟨Nat.le_of_ble_eq_true rfl, Nat.le_of_ble_eq_true rfl⟩) hD hS hA (fun u H locs hu hP hD hS => ?_)
      have hP : va_P (dC, dI) vwCl (xw ad ca kf vf bf w op ln (nI u.1) (nI e9) u.2.1 tf nb ef ff 0 u.2.2.1 u.2.2.2) H := hP
      have hD : va_D A (xw ad ca kf vf bf w op ln (nI u.1) (nI e9) u.2.1 tf nb ef ff 0 u.2.2.1 u.2.2.2) := hD
      obtain ⟨a1, o1, k1, v1⟩ := u
      obtain ⟨h1, h2, hq1⟩ := hu
      dsimp only at h1 h2 hq1 hP hD
      obtain ⟨s1, s2⟩ := pe_step h8 hq1
      have ho1 : o1 = 0 ∨ o1 = 1 := hq1.elim (fun z => by rw [z.2]; exact hok) (fun z => Or.inl z.2)
      refine lv_iinc (k := 0) (v := nI (cnt + 1)) hx hb dX3_countEntries_35 hl rfl (nI_1 cnt) (by decide) rfl (fun ls hl => ?_)
      have hl : lv_has ls 3 [(2, .int (nI (cnt + 1))), (0, .ref (ad 0)), (1, .int z1)] := hl
      refine lv_goto (tgt := 7) hx hb dX3_countEntries_38 rfl ?_
      refine ih (cnt + 1) a1 o1 0 k1 v1 false _ _ _ ho1 (fun z => ?_) (by omega) h2 rfl hl hP hD hS ?_ ?_
      · obtain ⟨q1, q2, -⟩ := s2 z
        have := hcnt q1; omega
      · intro z lb hlb x1 x2 x4 x5 x6 H locs ls hl hP hD hS
        obtain ⟨q1, -, q3⟩ := s2 z
        rw [show cnt + 1 + lb.length = cnt + ((k1, v1) :: lb).length by simp; omega] at hl
        exact kg q1 _ (q3 lb hlb) x1 x2 x4 x5 x6 H locs ls hl hP hD hS
      · intro z
        exact kb (s1 z)

set_option maxHeartbeats 4000000 in
set_option maxRecDepth 100000 in
theorem cX3_countEntries_m (l : Launch) (dC : Nat → ClassId) (dI : Nat → Nat → Nat) (ca : Nat → ClassId) (ad : Nat → Nat) (kf : Nat → Int32) (vf : Nat → Int64) (bf : Nat → Int32) (w : Int32) (op : Int32) (ln : Int32) (nx : Int32) (en : Int32) (ok : Int32) (tf : Nat → Int32) (nb : Int32) (ef : Nat → Int32) (ff : Nat → Int32) (fi : Int32) (ek : Int32) (ev : Int64) (bp bq j : Nat) (hj : j < 2444) (hp : px_st ef j = nI bp) (hq : ef j = nI bq) (hpq : bp ≤ bq) (hq9 : bq ≤ 4889) (h4 : bp + 4 ≤ bq) : ∀ sz : Nat, Met l yX3_countEntries wsX3_countEntries ({ frames := 3, cells := 0, slots := 0, locals := 68 } : Room) (va_Pc [.ref (ad 0), .int (nI j)] (xP (dC, dI) (xt ca) (xw ad ca kf vf bf w op ln nx en ok tf nb ef ff fi ek ev) sz)) (va_Qi (S := Int32 × Int32 × Int32 × Int32 × Int32 × Int64) (fun r u => (∃ lb, pe_bl tf (bq - 4) (bq - 4) true 0 bp = some lb ∧ r = nI lb.length ∧ lb.length ≤ 2444) ∨ (pe_bl tf (bq - 4) (bq - 4) true 0 bp = none ∧ r = -1)) (fun u t => xB (dC, dI) (xt ca) (va_A (xw ad ca kf vf bf w op ln nx en ok tf nb ef ff fi ek ev) sz) (xw ad ca kf vf bf w op ln u.1 u.2.1 u.2.2.1 tf nb ef ff u.2.2.2.1 u.2.2.2.2.1 u.2.2.2.2.2) t) (va_A (xw ad ca kf vf bf w op ln nx en ok tf nb ef ff fi ek ev) sz)) 0 0 (va_A (xw ad ca kf vf bf w op ln nx en ok tf nb ef ff fi ek ev) sz) := by
  intro sz
  refine Met.ofW (cc := cX3_countEntries) (maxL := 3) (ret := (some .int)) (by decide) rfl ?_
  intro p e s m args below meth c s₁ B hml hv
  obtain ⟨rfl, hsz, hP, hK, hD0, hE⟩ := hv
  have hx := B.exec
  have hb := B.bytes
  have hr := B.returns
  have hts := atoms_spec (ws := wsX3_countEntries) B.pre
  have hown : s.vm.findClass RX3 = some m.cls := findClass_of_methodNamed B.named
  have hlocks := B.notSynchronized
  subst hsz
  have hD := hD0.self (sz := s.heap.size)
  generalize hAe : va_A (xw ad ca kf vf bf w op ln nx en ok tf nb ef ff fi ek ev) s.heap.size = A at hD hE ⊢
  have hA : ∀ q : Nat, s.heap.size ≤ q → A q := fun q h => by rw [← hAe]; exact Or.inr h
  have hS : va_S A s.heap s.heap [] := va_S.rf
  have hl := lv_entry ([.ref (ad 0), .int (nI j)]) (n := 3) (Nat.le_of_ble_eq_true rfl)
  rw [lg_entry_eq]
  generalize (lg_sl ([.ref (ad 0), .int (nI j)]) ++ List.replicate (3 - (lg_sl ([.ref (ad 0), .int (nI j)])).length) Slot.unset).toArray = ls at hl ⊢
  have hl : lv_has ls 3 [(0, .ref (ad 0)), (1, .int (nI j))] := hl
  refine lv_aload_n hx hb dX3_countEntries_0 rfl (lv_at hl 0 rfl) ?_
  refine lv_iload_n hx hb dX3_countEntries_1 rfl (lv_at hl 1 rfl) ?_
  refine xk_v (va_runV (As := [.int (nI j)]) (rest := []) ⟨hx, hb, hml, hown, hts⟩ (cX3_startReading_m l dC dI ca ad kf vf bf w op ln nx en ok tf nb ef ff fi ek ev j hj _) (cwV 1 hts (xg_V mb_methodLink_RX3_107 mb_instanceMethod_yX3_startReading mb_selects_yX3_startReading mb_initialized_RX3 mb_code_yX3_startReading) rfl rfl rfl ⟨rfl, by decide, by decide, by decide +kernel⟩ ⟨Nat.le_of_ble_eq_true rfl, Nat.le_of_ble_eq_true rfl⟩) (xpreV (va_recv (q0 := 0) hK hP rfl rfl) hK hP hD hS hA hE) rfl rfl hl.1 rfl (lv_room (Nat.le_of_ble_eq_true rfl)) dX3_countEntries_2 ⟨Nat.le_of_ble_eq_true rfl, Nat.le_of_ble_eq_true rfl⟩) hD hS hA (fun u H locs hu hP hD hS => ?_)
  have hP : va_P (dC, dI) vwCl (xw ad ca kf vf bf w op ln (px_st ef j) (ef j - nI 4) 1 tf nb ef ff 1 ek ev) H := hP
  have hD : va_D A (xw ad ca kf vf bf w op ln (px_st ef j) (ef j - nI 4) 1 tf nb ef ff 1 ek ev) := hD
  rw [hp, hq, pk_sub (by omega)] at hP hD
  refine lv_iconst (v := nI 0) hx hb dX3_countEntries_5 (by decide) ?_
  refine lv_istore_n hx hb dX3_countEntries_6 rfl hl (by decide) rfl (fun ls hl => ?_)
  have hl : lv_has ls 3 [(2, .int (nI 0)), (0, .ref (ad 0)), (1, .int (nI j))] := hl
  refine lpX3_countEntries_go hx hb hml hown hts hK hA hE (e9 := bq - 4) (by omega) 2444 0 bp 1 1 ek ev true _ _ _ (Or.inr rfl) (fun _ => by omega) (by omega) (by omega) rfl hl hP hD hS ?_ ?_
  · intro _ lb hlb x1 x2 x4 x5 x6 H locs ls hl hP hD hS
    rw [pe_bl_first tf (bq - 4) ek 0] at hlb
    have hlen := pe_bl_len _ _ _ _ _ hlb
    refine lv_aload_n hx hb dX3_countEntries_41 rfl (lv_at hl 1 rfl) ?_
    refine va_get (D := (dC, dI)) (ci := 3) (v := .ref (ad 4)) (C := RX3) (T := TX3) (N := 8) (ref := "SortedRun") hx hb hts (xg_u mb_uws_X3) hown hK hP 0 rfl rfl 3 (by decide) (xg_w hts mb_fieldLink_RX3_23) (fun _ h9 => h9) rfl dX3_countEntries_42 ?_
    refine va_getN (host := "SortedRun") (D := (dC, dI)) (ci := 2) (v := .int 1) (C := RX2) (T := TX2) (N := 5) (ref := "SortedRun$Table") hx hb hts (xg_u mb_uws_X2) hown hK hP 4 rfl rfl 4 (by decide) (xn_w (w := .fieldLinkNest RX3 160 "SortedRun$Table" "areNumbersRight" "Z" "SortedRun") (i := 38) hE rfl rfl rfl) (fun _ h9 => h9) rfl dX3_countEntries_45 ?_
    refine lv_if_eq (tgt := 55) hx hb dX3_countEntries_48 rfl (fun hc => absurd hc (by decide)) (fun hc => ?_)
    refine lv_iload_n hx hb dX3_countEntries_51 rfl (lv_at hl 0 rfl) ?_
    refine lv_goto (tgt := 56) hx hb dX3_countEntries_52 rfl ?_
    refine lv_topi (fun z1 ez1 => ?_)
    have ez1 : z1 = nI lb.length := ez1.trans (by rw [Nat.zero_add])
    subst ez1
    have hP9 := hP
    have hD9 := hD
    exact W.iret (v := nI lb.length) hx hb hr (fun t ht hW => ⟨⟨nI lb.length, (x1, x2, 1, x4, x5, x6), rfl, Or.inl ⟨lb, hlb, rfl, by omega⟩, by rw [ht]; exact hP9, va_K.moved hW.alike hK, hD9⟩, hS.F ht⟩) hS.2.2 dX3_countEntries_56
  · intro hbb x1 x2 x4 x5 x6 x7 H locs ls hl hP hD hS
    have hbn : pe_bl tf (bq - 4) (bq - 4) true 0 bp = none := by rw [pe_bl_first tf (bq - 4) 0 ek]; exact hbb.elim (fun z => absurd z (by decide)) id
    refine lv_aload_n hx hb dX3_countEntries_41 rfl (lv_at hl 1 rfl) ?_
    refine va_get (D := (dC, dI)) (ci := 3) (v := .ref (ad 4)) (C := RX3) (T := TX3) (N := 8) (ref := "SortedRun") hx hb hts (xg_u mb_uws_X3) hown hK hP 0 rfl rfl 3 (by decide) (xg_w hts mb_fieldLink_RX3_23) (fun _ h9 => h9) rfl dX3_countEntries_42 ?_
    refine va_getN (host := "SortedRun") (D := (dC, dI)) (ci := 2) (v := .int 0) (C := RX2) (T := TX2) (N := 5) (ref := "SortedRun$Table") hx hb hts (xg_u mb_uws_X2) hown hK hP 4 rfl rfl 4 (by decide) (xn_w (w := .fieldLinkNest RX3 160 "SortedRun$Table" "areNumbersRight" "Z" "SortedRun") (i := 38) hE rfl rfl rfl) (fun _ h9 => h9) rfl dX3_countEntries_45 ?_
    refine lv_if_eq (tgt := 55) hx hb dX3_countEntries_48 rfl (fun hc => ?_) (fun hc => absurd hc (not_not_intro rfl))
    refine lv_iconst (v := -1) hx hb dX3_countEntries_55 (by decide) ?_
    have hP9 := hP
    have hD9 := hD
    exact W.iret (v := -1) hx hb hr (fun t ht hW => ⟨⟨-1, (x1, x2, 0, x4, x5, x6), rfl, Or.inr ⟨hbn, rfl⟩, by rw [ht]; exact hP9, va_K.moved hW.alike hK, hD9⟩, hS.F ht⟩) hS.2.2 dX3_countEntries_56

set_option maxHeartbeats 4000000 in
set_option maxRecDepth 100000 in
theorem cX3_requireByte_m (l : Launch) (hnt : l.stackTraces = false) (dC : Nat → ClassId) (dI : Nat → Nat → Nat) (ca : Nat → ClassId) (ad : Nat → Nat) (kf : Nat → Int32) (vf : Nat → Int64) (bf : Nat → Int32) (w : Int32) (op : Int32) (nx : Int32) (en : Int32) (ok : Int32) (tf : Nat → Int32) (nb : Int32) (ef : Nat → Int32) (ff : Nat → Int32) (fi : Int32) (ek : Int32) (ev : Int64) (n : Nat) (x : Int32) (hn : n < 2 ^ 31) : ∀ sz : Nat, vx_Met l yX3_requireByte wsX3_requireByte ({ frames := 6, cells := 1, slots := 6, locals := 90 } : Room) (va_Pc [.ref (ad 0), .int x] (xP (dC, dI) (xt ca) (xw ad ca kf vf bf w op (nI n) nx en ok tf nb ef ff fi ek ev) sz)) (va_Qv (S := Unit) (fun _ => sp_in x n = true) (fun u t => xB (dC, dI) (xt ca) (va_A (xw ad ca kf vf bf w op (nI n) nx en ok tf nb ef ff fi ek ev) sz) (xw ad ca kf vf bf w op (nI n) nx en ok tf nb ef ff fi ek ev) t ∧ t.heap.size = sz) (va_A (xw ad ca kf vf bf w op (nI n) nx en ok tf nb ef ff fi ek ev) sz)) (xX (S := Unit) (dC, dI) (xt ca) (va_A (xw ad ca kf vf bf w op (nI n) nx en ok tf nb ef ff fi ek ev) sz) (fun E _ => E = "java/lang/IndexOutOfBoundsException" ∧ sp_in x n = false) (fun u => xw ad ca kf vf bf w op (nI n) nx en ok tf nb ef ff fi ek ev)) 1 6 (va_A (xw ad ca kf vf bf w op (nI n) nx en ok tf nb ef ff fi ek ev) sz) := by
  intro sz
  refine vx_ofW (cc := cX3_requireByte) (maxL := 2) (ret := none) (by decide) rfl ?_
  intro p e s m args below meth c s₁ B hml hno hv
  obtain ⟨rfl, hsz, hP, hK, hD0, hE⟩ := hv
  have hx := B.exec
  have hb := B.bytes
  have hr := B.returns
  have hts := atoms_spec (ws := wsX3_requireByte) B.pre
  have hown : s.vm.findClass RX3 = some m.cls := findClass_of_methodNamed B.named
  have hlocks := B.notSynchronized
  subst hsz
  have hD := hD0.self (sz := s.heap.size)
  generalize hAe : va_A (xw ad ca kf vf bf w op (nI n) nx en ok tf nb ef ff fi ek ev) s.heap.size = A at hD hE ⊢
  have hA : ∀ q : Nat, s.heap.size ≤ q → A q := fun q h => by rw [← hAe]; exact Or.inr h
  have hS : va_S A s.heap s.heap [] := va_S.rf
  have hl := lv_entry ([.ref (ad 0), .int x]) (n := 2) (Nat.le_of_ble_eq_true rfl)
  rw [lg_entry_eq]
  generalize (lg_sl ([.ref (ad 0), .int x]) ++ List.replicate (2 - (lg_sl ([.ref (ad 0), .int x])).length) Slot.unset).toArray = ls at hl ⊢
  have hl : lv_has ls 2 [(0, .ref (ad 0)), (1, .int x)] := hl
  refine lv_iload_n hx hb dX3_requireByte_0 rfl (lv_at hl 1 rfl) ?_
  refine lv_if_lt (tgt := 15) hx hb dX3_requireByte_1 rfl (fun hc => ?_) (fun hc => ?_)
  · obtain ⟨sa, hstr⟩ := hE.2.2.2.1 _ (List.mem_of_getElem? (i := 2) rfl)
    exact xx_throw () hx hb hnt hown (by decide +kernel) (xg_w hts mb_classLink_RX3_126) (xg_w hts mb_initialized_IndexOutOfBoundsException) hstr xh_IOB_at xh_IOB_good xh_IOB_on hE (hl.1.trans hml.symm) dX3_requireByte_15 dX3_requireByte_18 dX3_requireByte_19 dX3_requireByte_21 dX3_requireByte_24 hno ⟨Nat.le_of_ble_eq_true rfl, Nat.le_of_ble_eq_true rfl, Nat.le_of_ble_eq_true rfl, Nat.le_of_ble_eq_true rfl⟩ hlocks (⟨rfl, by unfold sp_in; rw [decide_eq_false (Int32.not_le.mpr hc)]; rfl⟩) hK hP hD hS (Nat.le_refl _) (Nat.le_refl _)
  · refine lv_iload_n hx hb dX3_requireByte_4 rfl (lv_at hl 1 rfl) ?_
    refine lv_aload_n hx hb dX3_requireByte_5 rfl (lv_at hl 0 rfl) ?_
    refine va_get (D := (dC, dI)) (ci := 3) (v := .ref (ad 4)) (C := RX3) (T := TX3) (N := 8) (ref := "SortedRun") hx hb hts (xg_u mb_uws_X3) hown hK hP 0 rfl rfl 3 (by decide) (xg_w hts mb_fieldLink_RX3_23) (fun _ h9 => h9) rfl dX3_requireByte_6 ?_
    refine va_getN (host := "SortedRun") (D := (dC, dI)) (ci := 2) (v := .int (nI n)) (C := RX2) (T := TX2) (N := 5) (ref := "SortedRun$Table") hx hb hts (xg_u mb_uws_X2) hown hK hP 4 rfl rfl 1 (by decide) (xn_w (w := .fieldLinkNest RX3 60 "SortedRun$Table" "length" "I" "SortedRun") (i := 32) hE rfl rfl rfl) (fun _ h9 => h9) rfl dX3_requireByte_9 ?_
    refine lv_icmp_lt (tgt := 25) hx hb dX3_requireByte_12 rfl (fun hc2 => ?_) (fun hc2 => ?_)
    · refine x_size hS (fun hz => ?_)
      refine vx_ret (W.widen (k := 1) (n := 6) (Nat.zero_le _) (Nat.zero_le _) ?_)
      exact W.vret hx hb hr (fun t ht hW => ⟨⟨(), rfl, by unfold sp_in; rw [decide_eq_true (Int32.not_lt.mp hc), decide_eq_true hc2]; rfl, ⟨by rw [ht]; exact hP, va_K.moved hW.alike hK, hD⟩, (congrArg Array.size ht).trans hz⟩, hS.F ht⟩) hS.2.2 dX3_requireByte_25
    · obtain ⟨sa, hstr⟩ := hE.2.2.2.1 _ (List.mem_of_getElem? (i := 2) rfl)
      exact xx_throw () hx hb hnt hown (by decide +kernel) (xg_w hts mb_classLink_RX3_126) (xg_w hts mb_initialized_IndexOutOfBoundsException) hstr xh_IOB_at xh_IOB_good xh_IOB_on hE (hl.1.trans hml.symm) dX3_requireByte_15 dX3_requireByte_18 dX3_requireByte_19 dX3_requireByte_21 dX3_requireByte_24 hno ⟨Nat.le_of_ble_eq_true rfl, Nat.le_of_ble_eq_true rfl, Nat.le_of_ble_eq_true rfl, Nat.le_of_ble_eq_true rfl⟩ hlocks (⟨rfl, by unfold sp_in; rw [decide_eq_false hc2, Bool.and_false]⟩) hK hP hD hS (Nat.le_refl _) (Nat.le_refl _)

set_option maxHeartbeats 4000000 in
set_option maxRecDepth 100000 in
theorem cX3_requireBlock_m (l : Launch) (hnt : l.stackTraces = false) (dC : Nat → ClassId) (dI : Nat → Nat → Nat) (ca : Nat → ClassId) (ad : Nat → Nat) (kf : Nat → Int32) (vf : Nat → Int64) (bf : Nat → Int32) (w : Int32) (op : Int32) (ln : Int32) (nx : Int32) (en : Int32) (ok : Int32) (tf : Nat → Int32) (ef : Nat → Int32) (ff : Nat → Int32) (fi : Int32) (ek : Int32) (ev : Int64) (n : Nat) (x : Int32) (hn : n < 2 ^ 31) : ∀ sz : Nat, vx_Met l yX3_requireBlock wsX3_requireBlock ({ frames := 6, cells := 1, slots := 6, locals := 90 } : Room) (va_Pc [.ref (ad 0), .int x] (xP (dC, dI) (xt ca) (xw ad ca kf vf bf w op ln nx en ok tf (nI n) ef ff fi ek ev) sz)) (va_Qv (S := Unit) (fun _ => sp_in x n = true) (fun u t => xB (dC, dI) (xt ca) (va_A (xw ad ca kf vf bf w op ln nx en ok tf (nI n) ef ff fi ek ev) sz) (xw ad ca kf vf bf w op ln nx en ok tf (nI n) ef ff fi ek ev) t ∧ t.heap.size = sz) (va_A (xw ad ca kf vf bf w op ln nx en ok tf (nI n) ef ff fi ek ev) sz)) (xX (S := Unit) (dC, dI) (xt ca) (va_A (xw ad ca kf vf bf w op ln nx en ok tf (nI n) ef ff fi ek ev) sz) (fun E _ => E = "java/lang/IndexOutOfBoundsException" ∧ sp_in x n = false) (fun u => xw ad ca kf vf bf w op ln nx en ok tf (nI n) ef ff fi ek ev)) 1 6 (va_A (xw ad ca kf vf bf w op ln nx en ok tf (nI n) ef ff fi ek ev) sz) := by
  intro sz
  refine vx_ofW (cc := cX3_requireBlock) (maxL := 2) (ret := none) (by decide) rfl ?_
  intro p e s m args below meth c s₁ B hml hno hv
  obtain ⟨rfl, hsz, hP, hK, hD0, hE⟩ := hv
  have hx := B.exec
  have hb := B.bytes
  have hr := B.returns
  have hts := atoms_spec (ws := wsX3_requireBlock) B.pre
  have hown : s.vm.findClass RX3 = some m.cls := findClass_of_methodNamed B.named
  have hlocks := B.notSynchronized
  subst hsz
  have hD := hD0.self (sz := s.heap.size)
  generalize hAe : va_A (xw ad ca kf vf bf w op ln nx en ok tf (nI n) ef ff fi ek ev) s.heap.size = A at hD hE ⊢
  have hA : ∀ q : Nat, s.heap.size ≤ q → A q := fun q h => by rw [← hAe]; exact Or.inr h
  have hS : va_S A s.heap s.heap [] := va_S.rf
  have hl := lv_entry ([.ref (ad 0), .int x]) (n := 2) (Nat.le_of_ble_eq_true rfl)
  rw [lg_entry_eq]
  generalize (lg_sl ([.ref (ad 0), .int x]) ++ List.replicate (2 - (lg_sl ([.ref (ad 0), .int x])).length) Slot.unset).toArray = ls at hl ⊢
  have hl : lv_has ls 2 [(0, .ref (ad 0)), (1, .int x)] := hl
  refine lv_iload_n hx hb dX3_requireBlock_0 rfl (lv_at hl 1 rfl) ?_
  refine lv_if_lt (tgt := 15) hx hb dX3_requireBlock_1 rfl (fun hc => ?_) (fun hc => ?_)
  · obtain ⟨sa, hstr⟩ := hE.2.2.2.1 _ (List.mem_of_getElem? (i := 9) rfl)
    exact xx_throw () hx hb hnt hown (by decide +kernel) (xg_w hts mb_classLink_RX3_126) (xg_w hts mb_initialized_IndexOutOfBoundsException) hstr xh_IOB_at xh_IOB_good xh_IOB_on hE (hl.1.trans hml.symm) dX3_requireBlock_15 dX3_requireBlock_18 dX3_requireBlock_19 dX3_requireBlock_21 dX3_requireBlock_24 hno ⟨Nat.le_of_ble_eq_true rfl, Nat.le_of_ble_eq_true rfl, Nat.le_of_ble_eq_true rfl, Nat.le_of_ble_eq_true rfl⟩ hlocks (⟨rfl, by unfold sp_in; rw [decide_eq_false (Int32.not_le.mpr hc)]; rfl⟩) hK hP hD hS (Nat.le_refl _) (Nat.le_refl _)
  · refine lv_iload_n hx hb dX3_requireBlock_4 rfl (lv_at hl 1 rfl) ?_
    refine lv_aload_n hx hb dX3_requireBlock_5 rfl (lv_at hl 0 rfl) ?_
    refine va_get (D := (dC, dI)) (ci := 3) (v := .ref (ad 6)) (C := RX3) (T := TX3) (N := 8) (ref := "SortedRun") hx hb hts (xg_u mb_uws_X3) hown hK hP 0 rfl rfl 4 (by decide) (xg_w hts mb_fieldLink_RX3_30) (fun _ h9 => h9) rfl dX3_requireBlock_6 ?_
    refine va_getN (host := "SortedRun") (D := (dC, dI)) (ci := 1) (v := .int (nI n)) (C := RX1) (T := TX1) (N := 3) (ref := "SortedRun$Index") hx hb hts (xg_u mb_uws_X1) hown hK hP 6 rfl rfl 2 (by decide) (xn_w (w := .fieldLinkNest RX3 90 "SortedRun$Index" "blocks" "I" "SortedRun") (i := 62) hE rfl rfl rfl) (fun _ h9 => h9) rfl dX3_requireBlock_9 ?_
    refine lv_icmp_lt (tgt := 25) hx hb dX3_requireBlock_12 rfl (fun hc2 => ?_) (fun hc2 => ?_)
    · refine x_size hS (fun hz => ?_)
      refine vx_ret (W.widen (k := 1) (n := 6) (Nat.zero_le _) (Nat.zero_le _) ?_)
      exact W.vret hx hb hr (fun t ht hW => ⟨⟨(), rfl, by unfold sp_in; rw [decide_eq_true (Int32.not_lt.mp hc), decide_eq_true hc2]; rfl, ⟨by rw [ht]; exact hP, va_K.moved hW.alike hK, hD⟩, (congrArg Array.size ht).trans hz⟩, hS.F ht⟩) hS.2.2 dX3_requireBlock_25
    · obtain ⟨sa, hstr⟩ := hE.2.2.2.1 _ (List.mem_of_getElem? (i := 9) rfl)
      exact xx_throw () hx hb hnt hown (by decide +kernel) (xg_w hts mb_classLink_RX3_126) (xg_w hts mb_initialized_IndexOutOfBoundsException) hstr xh_IOB_at xh_IOB_good xh_IOB_on hE (hl.1.trans hml.symm) dX3_requireBlock_15 dX3_requireBlock_18 dX3_requireBlock_19 dX3_requireBlock_21 dX3_requireBlock_24 hno ⟨Nat.le_of_ble_eq_true rfl, Nat.le_of_ble_eq_true rfl, Nat.le_of_ble_eq_true rfl, Nat.le_of_ble_eq_true rfl⟩ hlocks (⟨rfl, by unfold sp_in; rw [decide_eq_false hc2, Bool.and_false]⟩) hK hP hD hS (Nat.le_refl _) (Nat.le_refl _)

set_option maxHeartbeats 4000000 in
set_option maxRecDepth 100000 in
theorem cX3_requireOpen_m (l : Launch) (hnt : l.stackTraces = false) (dC : Nat → ClassId) (dI : Nat → Nat → Nat) (ca : Nat → ClassId) (ad : Nat → Nat) (kf : Nat → Int32) (vf : Nat → Int64) (bf : Nat → Int32) (w : Int32) (op : Int32) (ln : Int32) (nx : Int32) (en : Int32) (ok : Int32) (tf : Nat → Int32) (nb : Int32) (ef : Nat → Int32) (ff : Nat → Int32) (fi : Int32) (ek : Int32) (ev : Int64) : ∀ sz : Nat, vx_Met l yX3_requireOpen wsX3_requireOpen ({ frames := 6, cells := 1, slots := 6, locals := 90 } : Room) (va_Pc [.ref (ad 0)] (xP (dC, dI) (xt ca) (xw ad ca kf vf bf w op ln nx en ok tf nb ef ff fi ek ev) sz)) (va_Qv (S := Unit) (fun _ => ¬ op = 0) (fun u t => xB (dC, dI) (xt ca) (va_A (xw ad ca kf vf bf w op ln nx en ok tf nb ef ff fi ek ev) sz) (xw ad ca kf vf bf w op ln nx en ok tf nb ef ff fi ek ev) t ∧ t.heap.size = sz) (va_A (xw ad ca kf vf bf w op ln nx en ok tf nb ef ff fi ek ev) sz)) (xX (S := Unit) (dC, dI) (xt ca) (va_A (xw ad ca kf vf bf w op ln nx en ok tf nb ef ff fi ek ev) sz) (fun E _ => E = "java/lang/IllegalStateException" ∧ op = 0) (fun u => xw ad ca kf vf bf w op ln nx en ok tf nb ef ff fi ek ev)) 1 6 (va_A (xw ad ca kf vf bf w op ln nx en ok tf nb ef ff fi ek ev) sz) := by
  intro sz
  refine vx_ofW (cc := cX3_requireOpen) (maxL := 1) (ret := none) (by decide) rfl ?_
  intro p e s m args below meth c s₁ B hml hno hv
  obtain ⟨rfl, hsz, hP, hK, hD0, hE⟩ := hv
  have hx := B.exec
  have hb := B.bytes
  have hr := B.returns
  have hts := atoms_spec (ws := wsX3_requireOpen) B.pre
  have hown : s.vm.findClass RX3 = some m.cls := findClass_of_methodNamed B.named
  have hlocks := B.notSynchronized
  subst hsz
  have hD := hD0.self (sz := s.heap.size)
  generalize hAe : va_A (xw ad ca kf vf bf w op ln nx en ok tf nb ef ff fi ek ev) s.heap.size = A at hD hE ⊢
  have hA : ∀ q : Nat, s.heap.size ≤ q → A q := fun q h => by rw [← hAe]; exact Or.inr h
  have hS : va_S A s.heap s.heap [] := va_S.rf
  have hl := lv_entry ([.ref (ad 0)]) (n := 1) (Nat.le_of_ble_eq_true rfl)
  rw [lg_entry_eq]
  generalize (lg_sl ([.ref (ad 0)]) ++ List.replicate (1 - (lg_sl ([.ref (ad 0)])).length) Slot.unset).toArray = ls at hl ⊢
  have hl : lv_has ls 1 [(0, .ref (ad 0))] := hl
  refine lv_aload_n hx hb dX3_requireOpen_0 rfl (lv_at hl 0 rfl) ?_
  refine va_get (D := (dC, dI)) (ci := 3) (v := .int op) (C := RX3) (T := TX3) (N := 8) (ref := "SortedRun") hx hb hts (xg_u mb_uws_X3) hown hK hP 0 rfl rfl 7 (by decide) (xg_w hts mb_fieldLink_RX3_75) (fun _ h9 => h9) rfl dX3_requireOpen_1 ?_
  refine lv_if_ne (tgt := 17) hx hb dX3_requireOpen_4 rfl (fun hc => ?_) (fun hc => ?_)
  · refine x_size hS (fun hz => ?_)
    refine vx_ret (W.widen (k := 1) (n := 6) (Nat.zero_le _) (Nat.zero_le _) ?_)
    exact W.vret hx hb hr (fun t ht hW => ⟨⟨(), rfl, hc, ⟨by rw [ht]; exact hP, va_K.moved hW.alike hK, hD⟩, (congrArg Array.size ht).trans hz⟩, hS.F ht⟩) hS.2.2 dX3_requireOpen_17
  · obtain ⟨sa, hstr⟩ := hE.2.2.2.1 _ (List.mem_of_getElem? (i := 5) rfl)
    exact xx_throw () hx hb hnt hown (by decide +kernel) (xg_w hts mb_classLink_RX3_48) (xg_w hts mb_initialized_IllegalStateException) hstr xh_ISE_at xh_ISE_good xh_ISE_on hE (hl.1.trans hml.symm) dX3_requireOpen_7 dX3_requireOpen_10 dX3_requireOpen_11 dX3_requireOpen_13 dX3_requireOpen_16 hno ⟨Nat.le_of_ble_eq_true rfl, Nat.le_of_ble_eq_true rfl, Nat.le_of_ble_eq_true rfl, Nat.le_of_ble_eq_true rfl⟩ hlocks (⟨rfl, hc⟩) hK hP hD hS (Nat.le_refl _) (Nat.le_refl _)

set_option maxHeartbeats 4000000 in
set_option maxRecDepth 100000 in
theorem cX3_countRightEntries_m (l : Launch) (hnt : l.stackTraces = false) (dC : Nat → ClassId) (dI : Nat → Nat → Nat) (ca : Nat → ClassId) (ad : Nat → Nat) (kf : Nat → Int32) (vf : Nat → Int64) (bf : Nat → Int32) (w : Int32) (op : Int32) (ln : Int32) (nx : Int32) (en : Int32) (ok : Int32) (tf : Nat → Int32) (nb : Int32) (ef : Nat → Int32) (ff : Nat → Int32) (fi : Int32) (ek : Int32) (ev : Int64) (bp bq j : Nat) (hj : j < 2444) (hp : px_st ef j = nI bp) (hq : ef j = nI bq) (hpq : bp ≤ bq) (hq9 : bq ≤ 4889) : ∀ sz : Nat, vx_Met l yX3_countRightEntries wsX3_countRightEntries ({ frames := 6, cells := 1, slots := 6, locals := 92 } : Room) (va_Pc [.ref (ad 0), .int (nI j)] (xP (dC, dI) (xt ca) (xw ad ca kf vf bf w op ln nx en ok tf nb ef ff fi ek ev) sz)) (va_Qi (S := Int32 × Int32 × Int32 × Int32 × Int32 × Int64) (fun r u => ∃ lb, pe_blk tf bp bq = some lb ∧ r = nI lb.length ∧ lb.length ≤ 2444) (fun u t => xB (dC, dI) (xt ca) (va_A (xw ad ca kf vf bf w op ln nx en ok tf nb ef ff fi ek ev) sz) (xw ad ca kf vf bf w op ln u.1 u.2.1 u.2.2.1 tf nb ef ff u.2.2.2.1 u.2.2.2.2.1 u.2.2.2.2.2) t ∧ t.heap.size = sz) (va_A (xw ad ca kf vf bf w op ln nx en ok tf nb ef ff fi ek ev) sz)) (xX (S := Int32 × Int32 × Int32 × Int32 × Int32 × Int64) (dC, dI) (xt ca) (va_A (xw ad ca kf vf bf w op ln nx en ok tf nb ef ff fi ek ev) sz) (fun E u => E = "java/lang/ArithmeticException" ∧ pe_blk tf bp bq = none) (fun u => xw ad ca kf vf bf w op ln u.1 u.2.1 u.2.2.1 tf nb ef ff u.2.2.2.1 u.2.2.2.2.1 u.2.2.2.2.2)) 1 6 (va_A (xw ad ca kf vf bf w op ln nx en ok tf nb ef ff fi ek ev) sz) := by
  intro sz
  refine vx_ofW (cc := cX3_countRightEntries) (maxL := 3) (ret := (some .int)) (by decide) rfl ?_
  intro p e s m args below meth c s₁ B hml hno hv
  obtain ⟨rfl, hsz, hP, hK, hD0, hE⟩ := hv
  have hx := B.exec
  have hb := B.bytes
  have hr := B.returns
  have hts := atoms_spec (ws := wsX3_countRightEntries) B.pre
  have hown : s.vm.findClass RX3 = some m.cls := findClass_of_methodNamed B.named
  have hlocks := B.notSynchronized
  subst hsz
  have hD := hD0.self (sz := s.heap.size)
  generalize hAe : va_A (xw ad ca kf vf bf w op ln nx en ok tf nb ef ff fi ek ev) s.heap.size = A at hD hE ⊢
  have hA : ∀ q : Nat, s.heap.size ≤ q → A q := fun q h => by rw [← hAe]; exact Or.inr h
  have hS : va_S A s.heap s.heap [] := va_S.rf
  have hl := lv_entry ([.ref (ad 0), .int (nI j)]) (n := 3) (Nat.le_of_ble_eq_true rfl)
  rw [lg_entry_eq]
  generalize (lg_sl ([.ref (ad 0), .int (nI j)]) ++ List.replicate (3 - (lg_sl ([.ref (ad 0), .int (nI j)])).length) Slot.unset).toArray = ls at hl ⊢
  have hl : lv_has ls 3 [(0, .ref (ad 0)), (1, .int (nI j))] := hl
  refine lv_aload_n hx hb dX3_countRightEntries_0 rfl (lv_at hl 0 rfl) ?_
  refine lv_iload_n hx hb dX3_countRightEntries_1 rfl (lv_at hl 1 rfl) ?_
  refine xk_i (va_runV (As := [.int (nI j)]) (rest := []) ⟨hx, hb, hml, hown, hts⟩ (cX3_hasRightSum_m l dC dI ca ad kf vf bf w op ln nx en ok tf nb ef ff fi ek ev bp bq j hj hp hq hpq hq9 _) (cwV 1 hts (xg_V mb_methodLink_RX3_137 mb_instanceMethod_yX3_hasRightSum mb_selects_yX3_hasRightSum mb_initialized_RX3 mb_code_yX3_hasRightSum) rfl rfl rfl ⟨rfl, by decide, by decide, by decide +kernel⟩ ⟨Nat.le_of_ble_eq_true rfl, Nat.le_of_ble_eq_true rfl⟩) (xpreV (va_recv (q0 := 0) hK hP rfl rfl) hK hP hD hS hA hE) rfl rfl hl.1 rfl (lv_room (Nat.le_of_ble_eq_true rfl)) dX3_countRightEntries_2 ⟨Nat.le_of_ble_eq_true rfl, Nat.le_of_ble_eq_true rfl⟩) hD hS hA (fun r u H locs hu hP hD hS => ?_)
  have hP : va_P (dC, dI) vwCl (xw ad ca kf vf bf w op ln nx en ok tf nb ef ff fi ek ev) H := hP
  have hD : va_D A (xw ad ca kf vf bf w op ln nx en ok tf nb ef ff fi ek ev) := hD
  rcases hu with hh | hh
  · obtain ⟨rfl, h4, hh⟩ := hh
    have hb0 : pe_blk tf bp bq = pe_bl tf (bq - 4) (bq - 4) true 0 bp := by unfold pe_blk; rw [if_pos ⟨h4, ps_hasB_iff.mpr hh⟩]
    refine lv_if_eq (tgt := 16) hx hb dX3_countRightEntries_5 rfl (fun hc => absurd hc (by decide)) (fun hc => ?_)
    refine lv_aload_n hx hb dX3_countRightEntries_8 rfl (lv_at hl 0 rfl) ?_
    refine lv_iload_n hx hb dX3_countRightEntries_9 rfl (lv_at hl 1 rfl) ?_
    refine xk_i (va_runV (As := [.int (nI j)]) (rest := []) ⟨hx, hb, hml, hown, hts⟩ (cX3_countEntries_m l dC dI ca ad kf vf bf w op ln nx en ok tf nb ef ff fi ek ev bp bq j hj hp hq hpq hq9 h4 _) (cwV 1 hts (xg_V mb_methodLink_RX3_141 mb_instanceMethod_yX3_countEntries mb_selects_yX3_countEntries mb_initialized_RX3 mb_code_yX3_countEntries) rfl rfl rfl ⟨rfl, by decide, by decide, by decide +kernel⟩ ⟨Nat.le_of_ble_eq_true rfl, Nat.le_of_ble_eq_true rfl⟩) (xpreV (va_recv (q0 := 0) hK hP rfl rfl) hK hP hD hS hA hE) rfl rfl hl.1 rfl (lv_room (Nat.le_of_ble_eq_true rfl)) dX3_countRightEntries_10 ⟨Nat.le_of_ble_eq_true rfl, Nat.le_of_ble_eq_true rfl⟩) hD hS hA (fun r u H locs hu hP hD hS => ?_)
    have hP : va_P (dC, dI) vwCl (xw ad ca kf vf bf w op ln u.1 u.2.1 u.2.2.1 tf nb ef ff u.2.2.2.1 u.2.2.2.2.1 u.2.2.2.2.2) H := hP
    have hD : va_D A (xw ad ca kf vf bf w op ln u.1 u.2.1 u.2.2.1 tf nb ef ff u.2.2.2.1 u.2.2.2.2.1 u.2.2.2.2.2) := hD
    obtain ⟨x1, x2, x3, x4, x5, x6⟩ := u
    dsimp only at hP hD
    rcases hu with hu | hu
    · obtain ⟨lb, hlb, rfl, hlen⟩ := hu
      refine lv_goto (tgt := 17) hx hb dX3_countRightEntries_13 rfl ?_
      refine lv_istore_n hx hb dX3_countRightEntries_17 rfl hl (by decide) rfl (fun ls hl => ?_)
      have hl : lv_has ls 3 [(2, .int (nI lb.length)), (0, .ref (ad 0)), (1, .int (nI j))] := hl
      refine lv_iload_n hx hb dX3_countRightEntries_18 rfl (lv_at hl 0 rfl) ?_
      refine lv_iconst (v := -1) hx hb dX3_countRightEntries_19 (by decide) ?_
      refine lv_icmp_ne (tgt := 33) hx hb dX3_countRightEntries_20 rfl (fun hc => ?_) (fun hc => absurd hc (fun z => absurd (z ▸ nI_pos (n := lb.length) (by omega)) (by decide)))
      refine lv_iload_n hx hb dX3_countRightEntries_33 rfl (lv_at hl 0 rfl) ?_
      refine x_size hS (fun hz => ?_)
      refine vx_ret (W.widen (k := 1) (n := 6) (Nat.zero_le _) (Nat.zero_le _) ?_)
      exact W.iret (v := nI lb.length) hx hb hr (fun t ht hW => ⟨⟨nI lb.length, (x1, x2, x3, x4, x5, x6), rfl, ⟨lb, by rw [hb0]; exact hlb, rfl, hlen⟩, ⟨by rw [ht]; exact hP, va_K.moved hW.alike hK, hD⟩, (congrArg Array.size ht).trans hz⟩, hS.F ht⟩) hS.2.2 dX3_countRightEntries_34
    · obtain ⟨hbn, rfl⟩ := hu
      have hbn : pe_blk tf bp bq = none := by rw [hb0]; exact hbn
      refine lv_goto (tgt := 17) hx hb dX3_countRightEntries_13 rfl ?_
      refine lv_istore_n hx hb dX3_countRightEntries_17 rfl hl (by decide) rfl (fun ls hl => ?_)
      have hl : lv_has ls 3 [(2, .int (-1)), (0, .ref (ad 0)), (1, .int (nI j))] := hl
      refine lv_iload_n hx hb dX3_countRightEntries_18 rfl (lv_at hl 0 rfl) ?_
      refine lv_iconst (v := -1) hx hb dX3_countRightEntries_19 (by decide) ?_
      refine lv_icmp_ne (tgt := 33) hx hb dX3_countRightEntries_20 rfl (fun hc => absurd hc (not_not_intro rfl)) (fun hc => ?_)
      obtain ⟨sa, hstr⟩ := hE.2.2.2.1 _ (List.mem_of_getElem? (i := 7) rfl)
      exact xx_throw (x1, x2, x3, x4, x5, x6) hx hb hnt hown (by decide +kernel) (xg_w hts mb_classLink_RX3_85) (xg_w hts mb_initialized_ArithmeticException) hstr xh_AE_at xh_AE_good xh_AE_on hE (hl.1.trans hml.symm) dX3_countRightEntries_23 dX3_countRightEntries_26 dX3_countRightEntries_27 dX3_countRightEntries_29 dX3_countRightEntries_32 hno ⟨Nat.le_of_ble_eq_true rfl, Nat.le_of_ble_eq_true rfl, Nat.le_of_ble_eq_true rfl, Nat.le_of_ble_eq_true rfl⟩ hlocks (⟨rfl, hbn⟩) hK hP hD hS (Nat.le_refl _) (Nat.le_refl _)
  · obtain ⟨rfl, hh⟩ := hh
    refine lv_if_eq (tgt := 16) hx hb dX3_countRightEntries_5 rfl (fun hc => ?_) (fun hc => absurd hc (not_not_intro rfl))
    have hbn : pe_blk tf bp bq = none := by unfold pe_blk; rw [if_neg (fun y => hh ⟨y.1, ps_hasB_iff.mp y.2⟩)]
    refine lv_iconst (v := -1) hx hb dX3_countRightEntries_16 (by decide) ?_
    refine lv_istore_n hx hb dX3_countRightEntries_17 rfl hl (by decide) rfl (fun ls hl => ?_)
    have hl : lv_has ls 3 [(2, .int (-1)), (0, .ref (ad 0)), (1, .int (nI j))] := hl
    refine lv_iload_n hx hb dX3_countRightEntries_18 rfl (lv_at hl 0 rfl) ?_
    refine lv_iconst (v := -1) hx hb dX3_countRightEntries_19 (by decide) ?_
    refine lv_icmp_ne (tgt := 33) hx hb dX3_countRightEntries_20 rfl (fun hc => absurd hc (not_not_intro rfl)) (fun hc => ?_)
    obtain ⟨sa, hstr⟩ := hE.2.2.2.1 _ (List.mem_of_getElem? (i := 7) rfl)
    exact xx_throw (nx, en, ok, fi, ek, ev) hx hb hnt hown (by decide +kernel) (xg_w hts mb_classLink_RX3_85) (xg_w hts mb_initialized_ArithmeticException) hstr xh_AE_at xh_AE_good xh_AE_on hE (hl.1.trans hml.symm) dX3_countRightEntries_23 dX3_countRightEntries_26 dX3_countRightEntries_27 dX3_countRightEntries_29 dX3_countRightEntries_32 hno ⟨Nat.le_of_ble_eq_true rfl, Nat.le_of_ble_eq_true rfl, Nat.le_of_ble_eq_true rfl, Nat.le_of_ble_eq_true rfl⟩ hlocks (⟨rfl, hbn⟩) hK hP hD hS (Nat.le_refl _) (Nat.le_refl _)
end
section
/-! a BLOCK's list, taken apart -/
theorem pe_bl_inv {f : Nat → Int32} {e : Nat} {fst : Bool} {key : Int32} {a : Nat} {l : List (Int32 × Int64)} (h : pe_bl f e e fst key a = some l) (hl : 0 < l.length) : a < e ∧ ∃ k1 v1 a1 l2, pe_rd f e fst key a = some (k1, v1, a1) ∧ l = (k1, v1) :: l2 ∧ pe_bl f e e false k1 a1 = some l2 := by
  by_cases ha : a < e
  · refine ⟨ha, ?_⟩
    cases hr : pe_rd f e fst key a with
    | none => rw [pe_bl_none ha hr] at h; cases h
    | some q =>
      obtain ⟨k1, v1, a1⟩ := q
      rw [pe_bl_some ha hr] at h
      cases hb : pe_bl f e e false k1 a1 with
      | none => rw [hb] at h; cases h
      | some l2 =>
        rw [hb] at h
        have e1 : (k1, v1) :: l2 = l := Option.some.inj h
        exact ⟨k1, v1, a1, l2, rfl, e1.symm, hb⟩
  · rw [pe_bl_end ha] at h
    cases h
    exact absurd hl (Nat.lt_irrefl 0)
/-- the first of the entries with this KEY -/
def sp_find (l : List (Int32 × Int64)) (key : Int32) : Option Int64 := match l with
  | [] => none
  | q :: l2 => if q.1 = key then some q.2 else sp_find l2 key
theorem pe_of_some {f : Nat → Int32} {p q : Nat} {lb : List (Int32 × Int64)} (h : pe_blk f p q = some lb) : p + 4 ≤ q ∧ pe_bl f (q - 4) (q - 4) true 0 p = some lb := by
  unfold pe_blk at h
  split at h
  · rename_i h1
    exact ⟨h1.1, h⟩
  · cases h
theorem px_take_le (lr : List (Nat × Nat)) (j : Nat) : px_sum (lr.take j) ≤ px_sum (lr.take (j + 1)) := by
  have h := px_sum_take (lr.take (j + 1)) j
  rw [List.take_take, Nat.min_eq_left (Nat.le_succ j)] at h
  exact h
end
section
/-! SortedRun: the calls (rows by wip/whole/wsr2.py) -/
set_option maxHeartbeats 4000000 in
set_option maxRecDepth 100000 in
theorem cX3_add_m (l : Launch) (hnt : l.stackTraces = false) (dC : Nat → ClassId) (dI : Nat → Nat → Nat) (ca : Nat → ClassId) (ad : Nat → Nat) (kf : Nat → Int32) (vf : Nat → Int64) (bf : Nat → Int32) (op : Int32) (ln : Int32) (nx : Int32) (en : Int32) (ok : Int32) (tf : Nat → Int32) (nb : Int32) (ef : Nat → Int32) (ff : Nat → Int32) (fi : Int32) (ek : Int32) (ev : Int64) (n : Nat) (key : Int32) (v : Int64) (hn : n ≤ 300) : ∀ sz : Nat, vx_Met l yX3_add wsX3_add ({ frames := 6, cells := 1, slots := 6, locals := 90 } : Room) (va_Pc [.ref (ad 0), .int key, .long v] (xP (dC, dI) (xt ca) (xw ad ca kf vf bf (nI n) op ln nx en ok tf nb ef ff fi ek ev) sz)) (va_Qi (S := Unit) (fun r _ => n < 300 ∧ (n = 0 ∨ kf (n - 1) < key) ∧ r = nI (n + 1)) (fun u t => xB (dC, dI) (xt ca) (va_A (xw ad ca kf vf bf (nI n) op ln nx en ok tf nb ef ff fi ek ev) sz) (xw ad ca (upd kf n key) (vp_updL vf n v) bf (nI (n + 1)) op ln nx en ok tf nb ef ff fi ek ev) t ∧ t.heap.size = sz) (va_A (xw ad ca kf vf bf (nI n) op ln nx en ok tf nb ef ff fi ek ev) sz)) (xX (S := Unit) (dC, dI) (xt ca) (va_A (xw ad ca kf vf bf (nI n) op ln nx en ok tf nb ef ff fi ek ev) sz) (fun E _ => (E = "java/lang/IllegalStateException" ∧ n = 300) ∨ (E = "java/lang/IllegalArgumentException" ∧ n < 300 ∧ 0 < n ∧ key ≤ kf (n - 1))) (fun u => xw ad ca kf vf bf (nI n) op ln nx en ok tf nb ef ff fi ek ev)) 1 6 (va_A (xw ad ca kf vf bf (nI n) op ln nx en ok tf nb ef ff fi ek ev) sz) := by
  intro sz
  refine vx_ofW (cc := cX3_add) (maxL := 4) (ret := (some .int)) (by decide) rfl ?_
  intro p e s m args below meth c s₁ B hml hno hv
  obtain ⟨rfl, hsz, hP, hK, hD0, hE⟩ := hv
  have hx := B.exec
  have hb := B.bytes
  have hr := B.returns
  have hts := atoms_spec (ws := wsX3_add) B.pre
  have hown : s.vm.findClass RX3 = some m.cls := findClass_of_methodNamed B.named
  have hlocks := B.notSynchronized
  subst hsz
  have hD := hD0.self (sz := s.heap.size)
  generalize hAe : va_A (xw ad ca kf vf bf (nI n) op ln nx en ok tf nb ef ff fi ek ev) s.heap.size = A at hD hE ⊢
  have hA : ∀ q : Nat, s.heap.size ≤ q → A q := fun q h => by rw [← hAe]; exact Or.inr h
  have hS : va_S A s.heap s.heap [] := va_S.rf
  have hl := lv_entry ([.ref (ad 0), .int key, .long v]) (n := 4) (Nat.le_of_ble_eq_true rfl)
  rw [lg_entry_eq]
  generalize (lg_sl ([.ref (ad 0), .int key, .long v]) ++ List.replicate (4 - (lg_sl ([.ref (ad 0), .int key, .long v])).length) Slot.unset).toArray = ls at hl ⊢
  have hl : lv_has ls 4 [(0, .ref (ad 0)), (1, .int key), (2, .long v)] := hl
  refine lv_aload_n hx hb dX3_add_0 rfl (lv_at hl 0 rfl) ?_
  refine va_get (D := (dC, dI)) (ci := 3) (v := .int (nI n)) (C := RX3) (T := TX3) (N := 8) (ref := "SortedRun") hx hb hts (xg_u mb_uws_X3) hown hK hP 0 rfl rfl 6 (by decide) (xg_w hts mb_fieldLink_RX3_44) (fun _ h9 => h9) rfl dX3_add_1 ?_
  refine lv_sipush (v := nI 300) hx hb dX3_add_4 (by decide) ?_
  refine lv_icmp_lt (tgt := 20) hx hb dX3_add_7 rfl (fun hc => ?_) (fun hc => ?_)
  · have hn3 : n < 300 := (nI_ltI (by omega) (by decide)).mp hc
    refine lv_aload_n hx hb dX3_add_20 rfl (lv_at hl 0 rfl) ?_
    refine va_get (D := (dC, dI)) (ci := 3) (v := .int (nI n)) (C := RX3) (T := TX3) (N := 8) (ref := "SortedRun") hx hb hts (xg_u mb_uws_X3) hown hK hP 0 rfl rfl 6 (by decide) (xg_w hts mb_fieldLink_RX3_44) (fun _ h9 => h9) rfl dX3_add_21 ?_
    refine lv_if_le (tgt := 52) hx hb dX3_add_24 rfl (fun hc2 => ?_) (fun hc2 => ?_)
    · have hk9 : n = 0 ∨ kf (n - 1) < key := Or.inl (by have := (nI_leI (b := 0) (by omega) (by decide)).mp hc2; omega)
      refine lv_aload_n hx hb dX3_add_52 rfl (lv_at hl 0 rfl) ?_
      refine va_get (D := (dC, dI)) (ci := 3) (v := .ref (ad 1)) (C := RX3) (T := TX3) (N := 8) (ref := "SortedRun") hx hb hts (xg_u mb_uws_X3) hown hK hP 0 rfl rfl 0 (by decide) (xg_w hts mb_fieldLink_RX3_9) (fun _ h9 => h9) rfl dX3_add_53 ?_
      refine lv_aload_n hx hb dX3_add_56 rfl (lv_at hl 0 rfl) ?_
      refine va_get (D := (dC, dI)) (ci := 3) (v := .int (nI n)) (C := RX3) (T := TX3) (N := 8) (ref := "SortedRun") hx hb hts (xg_u mb_uws_X3) hown hK hP 0 rfl rfl 6 (by decide) (xg_w hts mb_fieldLink_RX3_44) (fun _ h9 => h9) rfl dX3_add_57 ?_
      refine lv_iload_n hx hb dX3_add_60 rfl (lv_at hl 1 rfl) ?_
      refine va_iast hx hb hK hP hD hS 1 0 rfl rfl (vp_in_nI hn3 (by decide)) dX3_add_61 (fun H locs hP hD hS => ?_)
      have e9 : upd kf (nI n).toNatClampNeg key = upd kf n key := by rw [nI_clamp (by omega)]
      rw [e9] at hP hD
      clear e9
      have hP : va_P (dC, dI) vwCl (xw ad ca (upd kf n key) vf bf (nI n) op ln nx en ok tf nb ef ff fi ek ev) H := hP
      have hD : va_D A (xw ad ca (upd kf n key) vf bf (nI n) op ln nx en ok tf nb ef ff fi ek ev) := hD
      refine lv_aload_n hx hb dX3_add_62 rfl (lv_at hl 0 rfl) ?_
      refine va_get (D := (dC, dI)) (ci := 3) (v := .ref (ad 2)) (C := RX3) (T := TX3) (N := 8) (ref := "SortedRun") hx hb hts (xg_u mb_uws_X3) hown hK hP 0 rfl rfl 1 (by decide) (xg_w hts mb_fieldLink_RX3_13) (fun _ h9 => h9) rfl dX3_add_63 ?_
      refine lv_aload_n hx hb dX3_add_66 rfl (lv_at hl 0 rfl) ?_
      refine va_get (D := (dC, dI)) (ci := 3) (v := .int (nI n)) (C := RX3) (T := TX3) (N := 8) (ref := "SortedRun") hx hb hts (xg_u mb_uws_X3) hown hK hP 0 rfl rfl 6 (by decide) (xg_w hts mb_fieldLink_RX3_44) (fun _ h9 => h9) rfl dX3_add_67 ?_
      refine lv_lload_n hx hb dX3_add_70 rfl (lv_at hl 2 rfl) ?_
      refine va_last hx hb hK hP hD hS 2 1 rfl rfl (vp_in_nI hn3 (by decide)) dX3_add_71 (fun H locs hP hD hS => ?_)
      have e9 : vp_updL vf (nI n).toNatClampNeg v = vp_updL vf n v := by rw [nI_clamp (by omega)]
      rw [e9] at hP hD
      clear e9
      have hP : va_P (dC, dI) vwCl (xw ad ca (upd kf n key) (vp_updL vf n v) bf (nI n) op ln nx en ok tf nb ef ff fi ek ev) H := hP
      have hD : va_D A (xw ad ca (upd kf n key) (vp_updL vf n v) bf (nI n) op ln nx en ok tf nb ef ff fi ek ev) := hD
      refine lv_aload_n hx hb dX3_add_72 rfl (lv_at hl 0 rfl) ?_
      refine lv_dup hx hb dX3_add_73 rfl ?_
      refine va_get (D := (dC, dI)) (ci := 3) (v := .int (nI n)) (C := RX3) (T := TX3) (N := 8) (ref := "SortedRun") hx hb hts (xg_u mb_uws_X3) hown hK hP 0 rfl rfl 6 (by decide) (xg_w hts mb_fieldLink_RX3_44) (fun _ h9 => h9) rfl dX3_add_74 ?_
      refine lv_iconst (v := 1) hx hb dX3_add_77 (by decide) ?_
      refine lv_iadd hx hb dX3_add_78 ?_
      refine lv_topi (fun z1 ez1 => ?_)
      have ez1 : z1 = nI (n + 1) := ez1.trans (nI_1 n)
      subst ez1
      refine va_put (D := (dC, dI)) (ci := 3) (v := .int (nI (n + 1))) (ty := .int) (C := RX3) (T := TX3) (N := 8) (ref := "SortedRun") hx hb hts (xg_u mb_uws_X3) tyX3 tyX3_ok nmX3 hown hK hP hD hS 0 rfl rfl 6 (by decide) (xg_w hts mb_fieldLink_RX3_44) (fun _ h9 => h9) rfl (by decide +kernel) rfl rfl (Nat.le_of_ble_eq_true rfl) dX3_add_79 (fun H locs hP hD hS => ?_)
      have hP : va_P (dC, dI) vwCl (xw ad ca (upd kf n key) (vp_updL vf n v) bf (nI (n + 1)) op ln nx en ok tf nb ef ff fi ek ev) H := hP
      have hD : va_D A (xw ad ca (upd kf n key) (vp_updL vf n v) bf (nI (n + 1)) op ln nx en ok tf nb ef ff fi ek ev) := hD
      refine lv_aload_n hx hb dX3_add_82 rfl (lv_at hl 0 rfl) ?_
      refine va_get (D := (dC, dI)) (ci := 3) (v := .int (nI (n + 1))) (C := RX3) (T := TX3) (N := 8) (ref := "SortedRun") hx hb hts (xg_u mb_uws_X3) hown hK hP 0 rfl rfl 6 (by decide) (xg_w hts mb_fieldLink_RX3_44) (fun _ h9 => h9) rfl dX3_add_83 ?_
      refine x_size hS (fun hz => ?_)
      refine vx_ret (W.widen (k := 1) (n := 6) (Nat.zero_le _) (Nat.zero_le _) ?_)
      exact W.iret (v := nI (n + 1)) hx hb hr (fun t ht hW => ⟨⟨nI (n + 1), (), rfl, ⟨hn3, hk9, rfl⟩, ⟨by rw [ht]; exact hP, va_K.moved hW.alike hK, hD⟩, (congrArg Array.size ht).trans hz⟩, hS.F ht⟩) hS.2.2 dX3_add_86
    · have hn0 : 0 < n := Nat.pos_of_ne_zero (fun z => hc2 (by rw [z]; decide))
      refine lv_iload_n hx hb dX3_add_27 rfl (lv_at hl 1 rfl) ?_
      refine lv_aload_n hx hb dX3_add_28 rfl (lv_at hl 0 rfl) ?_
      refine va_get (D := (dC, dI)) (ci := 3) (v := .ref (ad 1)) (C := RX3) (T := TX3) (N := 8) (ref := "SortedRun") hx hb hts (xg_u mb_uws_X3) hown hK hP 0 rfl rfl 0 (by decide) (xg_w hts mb_fieldLink_RX3_9) (fun _ h9 => h9) rfl dX3_add_29 ?_
      refine lv_aload_n hx hb dX3_add_32 rfl (lv_at hl 0 rfl) ?_
      refine va_get (D := (dC, dI)) (ci := 3) (v := .int (nI n)) (C := RX3) (T := TX3) (N := 8) (ref := "SortedRun") hx hb hts (xg_u mb_uws_X3) hown hK hP 0 rfl rfl 6 (by decide) (xg_w hts mb_fieldLink_RX3_44) (fun _ h9 => h9) rfl dX3_add_33 ?_
      refine lv_iconst (v := 1) hx hb dX3_add_36 (by decide) ?_
      refine lv_isub hx hb dX3_add_37 ?_
      refine lv_topi (fun z1 ez1 => ?_)
      have ez1 : z1 = nI (n - 1) := ez1.trans (pk_sub (b := 1) (by omega))
      subst ez1
      refine va_iald hx hb hK hP 1 0 rfl rfl (vp_in_nI (by omega) (by decide)) dX3_add_38 ?_
      refine lv_topi (fun z2 ez2 => ?_)
      have ez2 : z2 = kf (n - 1) := ez2.trans (congrArg kf (nI_clamp (by omega)))
      subst ez2
      refine lv_icmp_gt (tgt := 52) hx hb dX3_add_39 rfl (fun hc3 => ?_) (fun hc3 => ?_)
      · have hk9 : n = 0 ∨ kf (n - 1) < key := Or.inr hc3
        refine lv_aload_n hx hb dX3_add_52 rfl (lv_at hl 0 rfl) ?_
        refine va_get (D := (dC, dI)) (ci := 3) (v := .ref (ad 1)) (C := RX3) (T := TX3) (N := 8) (ref := "SortedRun") hx hb hts (xg_u mb_uws_X3) hown hK hP 0 rfl rfl 0 (by decide) (xg_w hts mb_fieldLink_RX3_9) (fun _ h9 => h9) rfl dX3_add_53 ?_
        refine lv_aload_n hx hb dX3_add_56 rfl (lv_at hl 0 rfl) ?_
        refine va_get (D := (dC, dI)) (ci := 3) (v := .int (nI n)) (C := RX3) (T := TX3) (N := 8) (ref := "SortedRun") hx hb hts (xg_u mb_uws_X3) hown hK hP 0 rfl rfl 6 (by decide) (xg_w hts mb_fieldLink_RX3_44) (fun _ h9 => h9) rfl dX3_add_57 ?_
        refine lv_iload_n hx hb dX3_add_60 rfl (lv_at hl 1 rfl) ?_
        refine va_iast hx hb hK hP hD hS 1 0 rfl rfl (vp_in_nI hn3 (by decide)) dX3_add_61 (fun H locs hP hD hS => ?_)
        have e9 : upd kf (nI n).toNatClampNeg key = upd kf n key := by rw [nI_clamp (by omega)]
        rw [e9] at hP hD
        clear e9
        have hP : va_P (dC, dI) vwCl (xw ad ca (upd kf n key) vf bf (nI n) op ln nx en ok tf nb ef ff fi ek ev) H := hP
        have hD : va_D A (xw ad ca (upd kf n key) vf bf (nI n) op ln nx en ok tf nb ef ff fi ek ev) := hD
        refine lv_aload_n hx hb dX3_add_62 rfl (lv_at hl 0 rfl) ?_
        refine va_get (D := (dC, dI)) (ci := 3) (v := .ref (ad 2)) (C := RX3) (T := TX3) (N := 8) (ref := "SortedRun") hx hb hts (xg_u mb_uws_X3) hown hK hP 0 rfl rfl 1 (by decide) (xg_w hts mb_fieldLink_RX3_13) (fun _ h9 => h9) rfl dX3_add_63 ?_
        refine lv_aload_n hx hb dX3_add_66 rfl (lv_at hl 0 rfl) ?_
        refine va_get (D := (dC, dI)) (ci := 3) (v := .int (nI n)) (C := RX3) (T := TX3) (N := 8) (ref := "SortedRun") hx hb hts (xg_u mb_uws_X3) hown hK hP 0 rfl rfl 6 (by decide) (xg_w hts mb_fieldLink_RX3_44) (fun _ h9 => h9) rfl dX3_add_67 ?_
        refine lv_lload_n hx hb dX3_add_70 rfl (lv_at hl 2 rfl) ?_
        refine va_last hx hb hK hP hD hS 2 1 rfl rfl (vp_in_nI hn3 (by decide)) dX3_add_71 (fun H locs hP hD hS => ?_)
        have e9 : vp_updL vf (nI n).toNatClampNeg v = vp_updL vf n v := by rw [nI_clamp (by omega)]
        rw [e9] at hP hD
        clear e9
        have hP : va_P (dC, dI) vwCl (xw ad ca (upd kf n key) (vp_updL vf n v) bf (nI n) op ln nx en ok tf nb ef ff fi ek ev) H := hP
        have hD : va_D A (xw ad ca (upd kf n key) (vp_updL vf n v) bf (nI n) op ln nx en ok tf nb ef ff fi ek ev) := hD
        refine lv_aload_n hx hb dX3_add_72 rfl (lv_at hl 0 rfl) ?_
        refine lv_dup hx hb dX3_add_73 rfl ?_
        refine va_get (D := (dC, dI)) (ci := 3) (v := .int (nI n)) (C := RX3) (T := TX3) (N := 8) (ref := "SortedRun") hx hb hts (xg_u mb_uws_X3) hown hK hP 0 rfl rfl 6 (by decide) (xg_w hts mb_fieldLink_RX3_44) (fun _ h9 => h9) rfl dX3_add_74 ?_
        refine lv_iconst (v := 1) hx hb dX3_add_77 (by decide) ?_
        refine lv_iadd hx hb dX3_add_78 ?_
        refine lv_topi (fun z3 ez3 => ?_)
        have ez3 : z3 = nI (n + 1) := ez3.trans (nI_1 n)
        subst ez3
        refine va_put (D := (dC, dI)) (ci := 3) (v := .int (nI (n + 1))) (ty := .int) (C := RX3) (T := TX3) (N := 8) (ref := "SortedRun") hx hb hts (xg_u mb_uws_X3) tyX3 tyX3_ok nmX3 hown hK hP hD hS 0 rfl rfl 6 (by decide) (xg_w hts mb_fieldLink_RX3_44) (fun _ h9 => h9) rfl (by decide +kernel) rfl rfl (Nat.le_of_ble_eq_true rfl) dX3_add_79 (fun H locs hP hD hS => ?_)
        have hP : va_P (dC, dI) vwCl (xw ad ca (upd kf n key) (vp_updL vf n v) bf (nI (n + 1)) op ln nx en ok tf nb ef ff fi ek ev) H := hP
        have hD : va_D A (xw ad ca (upd kf n key) (vp_updL vf n v) bf (nI (n + 1)) op ln nx en ok tf nb ef ff fi ek ev) := hD
        refine lv_aload_n hx hb dX3_add_82 rfl (lv_at hl 0 rfl) ?_
        refine va_get (D := (dC, dI)) (ci := 3) (v := .int (nI (n + 1))) (C := RX3) (T := TX3) (N := 8) (ref := "SortedRun") hx hb hts (xg_u mb_uws_X3) hown hK hP 0 rfl rfl 6 (by decide) (xg_w hts mb_fieldLink_RX3_44) (fun _ h9 => h9) rfl dX3_add_83 ?_
        refine x_size hS (fun hz => ?_)
        refine vx_ret (W.widen (k := 1) (n := 6) (Nat.zero_le _) (Nat.zero_le _) ?_)
        exact W.iret (v := nI (n + 1)) hx hb hr (fun t ht hW => ⟨⟨nI (n + 1), (), rfl, ⟨hn3, hk9, rfl⟩, ⟨by rw [ht]; exact hP, va_K.moved hW.alike hK, hD⟩, (congrArg Array.size ht).trans hz⟩, hS.F ht⟩) hS.2.2 dX3_add_86
      · obtain ⟨sa, hstr⟩ := hE.2.2.2.1 _ (List.mem_of_getElem? (i := 1) rfl)
        exact xx_throw () hx hb hnt hown (by decide +kernel) (xg_w hts mb_classLink_RX3_55) (xg_w hts mb_initialized_IllegalArgumentException) hstr xh_IAE_at xh_IAE_good xh_IAE_on hE (hl.1.trans hml.symm) dX3_add_42 dX3_add_45 dX3_add_46 dX3_add_48 dX3_add_51 hno ⟨Nat.le_of_ble_eq_true rfl, Nat.le_of_ble_eq_true rfl, Nat.le_of_ble_eq_true rfl, Nat.le_of_ble_eq_true rfl⟩ hlocks (Or.inr ⟨rfl, hn3, hn0, Int32.not_lt.mp hc3⟩) hK hP hD hS (Nat.le_refl _) (Nat.le_refl _)
  · obtain ⟨sa, hstr⟩ := hE.2.2.2.1 _ (List.mem_of_getElem? (i := 0) rfl)
    exact xx_throw () hx hb hnt hown (by decide +kernel) (xg_w hts mb_classLink_RX3_48) (xg_w hts mb_initialized_IllegalStateException) hstr xh_ISE_at xh_ISE_good xh_ISE_on hE (hl.1.trans hml.symm) dX3_add_10 dX3_add_13 dX3_add_14 dX3_add_16 dX3_add_19 hno ⟨Nat.le_of_ble_eq_true rfl, Nat.le_of_ble_eq_true rfl, Nat.le_of_ble_eq_true rfl, Nat.le_of_ble_eq_true rfl⟩ hlocks (Or.inl ⟨rfl, by have := Nat.le_of_not_lt (fun z => hc ((nI_ltI (by omega) (by decide)).mpr z)); omega⟩) hK hP hD hS (Nat.le_refl _) (Nat.le_refl _)

set_option maxHeartbeats 4000000 in
set_option maxRecDepth 100000 in
theorem cX3_at_m (l : Launch) (hnt : l.stackTraces = false) (dC : Nat → ClassId) (dI : Nat → Nat → Nat) (ca : Nat → ClassId) (ad : Nat → Nat) (kf : Nat → Int32) (vf : Nat → Int64) (bf : Nat → Int32) (w : Int32) (op : Int32) (nx : Int32) (en : Int32) (ok : Int32) (tf : Nat → Int32) (nb : Int32) (ef : Nat → Int32) (ff : Nat → Int32) (fi : Int32) (ek : Int32) (ev : Int64) (n : Nat) (x : Int32) (hn : n ≤ 4889) : ∀ sz : Nat, vx_Met l yX3_at wsX3_at ({ frames := 7, cells := 1, slots := 6, locals := 111 } : Room) (va_Pc [.ref (ad 0), .int x] (xP (dC, dI) (xt ca) (xw ad ca kf vf bf w op (nI n) nx en ok tf nb ef ff fi ek ev) sz)) (va_Qi (S := Unit) (fun r _ => ∃ j, j < n ∧ x = nI j ∧ r = nI (pb_ub tf j)) (fun u t => xB (dC, dI) (xt ca) (va_A (xw ad ca kf vf bf w op (nI n) nx en ok tf nb ef ff fi ek ev) sz) (xw ad ca kf vf bf w op (nI n) nx en ok tf nb ef ff fi ek ev) t ∧ t.heap.size = sz) (va_A (xw ad ca kf vf bf w op (nI n) nx en ok tf nb ef ff fi ek ev) sz)) (xX (S := Unit) (dC, dI) (xt ca) (va_A (xw ad ca kf vf bf w op (nI n) nx en ok tf nb ef ff fi ek ev) sz) (fun E _ => E = "java/lang/IndexOutOfBoundsException" ∧ sp_in x n = false) (fun u => xw ad ca kf vf bf w op (nI n) nx en ok tf nb ef ff fi ek ev)) 1 6 (va_A (xw ad ca kf vf bf w op (nI n) nx en ok tf nb ef ff fi ek ev) sz) := by
  intro sz
  refine vx_ofW (cc := cX3_at) (maxL := 2) (ret := (some .int)) (by decide) rfl ?_
  intro p e s m args below meth c s₁ B hml hno hv
  obtain ⟨rfl, hsz, hP, hK, hD0, hE⟩ := hv
  have hx := B.exec
  have hb := B.bytes
  have hr := B.returns
  have hts := atoms_spec (ws := wsX3_at) B.pre
  have hown : s.vm.findClass RX3 = some m.cls := findClass_of_methodNamed B.named
  have hlocks := B.notSynchronized
  subst hsz
  have hD := hD0.self (sz := s.heap.size)
  generalize hAe : va_A (xw ad ca kf vf bf w op (nI n) nx en ok tf nb ef ff fi ek ev) s.heap.size = A at hD hE ⊢
  have hA : ∀ q : Nat, s.heap.size ≤ q → A q := fun q h => by rw [← hAe]; exact Or.inr h
  have hS : va_S A s.heap s.heap [] := va_S.rf
  have hl := lv_entry ([.ref (ad 0), .int x]) (n := 2) (Nat.le_of_ble_eq_true rfl)
  rw [lg_entry_eq]
  generalize (lg_sl ([.ref (ad 0), .int x]) ++ List.replicate (2 - (lg_sl ([.ref (ad 0), .int x])).length) Slot.unset).toArray = ls at hl ⊢
  have hl : lv_has ls 2 [(0, .ref (ad 0)), (1, .int x)] := hl
  refine lv_aload_n hx hb dX3_at_0 rfl (lv_at hl 0 rfl) ?_
  refine lv_iload_n hx hb dX3_at_1 rfl (lv_at hl 1 rfl) ?_
  refine x_size hS (fun hz => ?_)
  refine xx_v (vx_runV (As := [.int x]) (rest := []) ⟨hx, hb, hml, hown, hts⟩ (cX3_requireByte_m l hnt dC dI ca ad kf vf bf w op nx en ok tf nb ef ff fi ek ev n x (by omega) _) (cwV 1 hts (xg_V mb_methodLink_RX3_63 mb_instanceMethod_yX3_requireByte mb_selects_yX3_requireByte mb_initialized_RX3 mb_code_yX3_requireByte) rfl rfl rfl ⟨rfl, by decide, by decide, by decide +kernel⟩ ⟨Nat.le_of_ble_eq_true rfl, Nat.le_of_ble_eq_true rfl⟩) (xpreV (va_recv (q0 := 0) hK hP rfl rfl) hK hP hD hS hA hE) rfl rfl hl.1 rfl (lv_room (Nat.le_of_ble_eq_true rfl)) dX3_at_2 ⟨Nat.le_of_ble_eq_true rfl, Nat.le_of_ble_eq_true rfl⟩) hD hS hA hz (fun E ce q9 u H locs hX hP hD hS hce hcv hcl => ?_) (fun u H locs hu hP hD hS hz => ?_)
  · exact xx_out () hno hlocks (hX) hce hcv hcl hK hP hD hS (Nat.le_refl _) (Nat.le_refl _)
  have hP : va_P (dC, dI) vwCl (xw ad ca kf vf bf w op (nI n) nx en ok tf nb ef ff fi ek ev) H := hP
  have hD : va_D A (xw ad ca kf vf bf w op (nI n) nx en ok tf nb ef ff fi ek ev) := hD
  obtain ⟨j, hj, rfl⟩ := (sp_in_iff (by omega)).mp hu
  refine lv_aload_n hx hb dX3_at_5 rfl (lv_at hl 0 rfl) ?_
  refine va_get (D := (dC, dI)) (ci := 3) (v := .ref (ad 4)) (C := RX3) (T := TX3) (N := 8) (ref := "SortedRun") hx hb hts (xg_u mb_uws_X3) hown hK hP 0 rfl rfl 3 (by decide) (xg_w hts mb_fieldLink_RX3_23) (fun _ h9 => h9) rfl dX3_at_6 ?_
  refine lv_iload_n hx hb dX3_at_9 rfl (lv_at hl 1 rfl) ?_
  refine xk_i (va_runV (As := [.int (nI j)]) (rest := []) ⟨hx, hb, hml, hown, hts⟩ (cX2_byteAt_m l dC dI ca ad kf vf bf w op (nI n) nx en ok tf nb ef ff fi ek ev j (by omega) _) (cwV 1 hts (xg_V mb_methodLink_RX3_67 mb_instanceMethod_yX2_byteAt mb_selects_yX2_byteAt mb_initialized_RX2 mb_code_yX2_byteAt) rfl rfl rfl ⟨rfl, by decide, by decide, by decide +kernel⟩ ⟨Nat.le_of_ble_eq_true rfl, Nat.le_of_ble_eq_true rfl⟩) (xpreV (va_recv (q0 := 4) hK hP rfl rfl) hK hP hD hS hA hE) rfl rfl hl.1 rfl (lv_room (Nat.le_of_ble_eq_true rfl)) dX3_at_10 ⟨Nat.le_of_ble_eq_true rfl, Nat.le_of_ble_eq_true rfl⟩) hD hS hA (fun r u H locs hu hP hD hS => ?_)
  subst hu
  have hP : va_P (dC, dI) vwCl (xw ad ca kf vf bf w op (nI n) nx en ok tf nb ef ff fi ek ev) H := hP
  have hD : va_D A (xw ad ca kf vf bf w op (nI n) nx en ok tf nb ef ff fi ek ev) := hD
  refine x_size hS (fun hz => ?_)
  refine vx_ret (W.widen (k := 1) (n := 6) (Nat.zero_le _) (Nat.zero_le _) ?_)
  exact W.iret (v := nI (pb_ub tf j)) hx hb hr (fun t ht hW => ⟨⟨nI (pb_ub tf j), (), rfl, ⟨j, hj, rfl, rfl⟩, ⟨by rw [ht]; exact hP, va_K.moved hW.alike hK, hD⟩, (congrArg Array.size ht).trans hz⟩, hS.F ht⟩) hS.2.2 dX3_at_13

set_option maxHeartbeats 4000000 in
set_option maxRecDepth 100000 in
theorem cX3_damage_m (l : Launch) (hnt : l.stackTraces = false) (dC : Nat → ClassId) (dI : Nat → Nat → Nat) (ca : Nat → ClassId) (ad : Nat → Nat) (kf : Nat → Int32) (vf : Nat → Int64) (bf : Nat → Int32) (w : Int32) (op : Int32) (nx : Int32) (en : Int32) (ok : Int32) (tf : Nat → Int32) (nb : Int32) (ef : Nat → Int32) (ff : Nat → Int32) (fi : Int32) (ek : Int32) (ev : Int64) (n : Nat) (x v : Int32) (hn : n ≤ 4889) : ∀ sz : Nat, vx_Met l yX3_damage wsX3_damage ({ frames := 7, cells := 1, slots := 6, locals := 111 } : Room) (va_Pc [.ref (ad 0), .int x, .int v] (xP (dC, dI) (xt ca) (xw ad ca kf vf bf w op (nI n) nx en ok tf nb ef ff fi ek ev) sz)) (va_Qi (S := Nat) (fun r j => j < n ∧ x = nI j ∧ r = nI (pb_ub tf j)) (fun u t => xB (dC, dI) (xt ca) (va_A (xw ad ca kf vf bf w op (nI n) nx en ok tf nb ef ff fi ek ev) sz) (xw ad ca kf vf bf w 0 (nI n) nx en ok (upd tf u v.toInt8.toInt32) nb ef ff fi ek ev) t ∧ t.heap.size = sz) (va_A (xw ad ca kf vf bf w op (nI n) nx en ok tf nb ef ff fi ek ev) sz)) (xX (S := Unit) (dC, dI) (xt ca) (va_A (xw ad ca kf vf bf w op (nI n) nx en ok tf nb ef ff fi ek ev) sz) (fun E _ => E = "java/lang/IndexOutOfBoundsException" ∧ sp_in x n = false) (fun u => xw ad ca kf vf bf w op (nI n) nx en ok tf nb ef ff fi ek ev)) 1 6 (va_A (xw ad ca kf vf bf w op (nI n) nx en ok tf nb ef ff fi ek ev) sz) := by
  intro sz
  refine vx_ofW (cc := cX3_damage) (maxL := 4) (ret := (some .int)) (by decide) rfl ?_
  intro p e s m args below meth c s₁ B hml hno hv
  obtain ⟨rfl, hsz, hP, hK, hD0, hE⟩ := hv
  have hx := B.exec
  have hb := B.bytes
  have hr := B.returns
  have hts := atoms_spec (ws := wsX3_damage) B.pre
  have hown : s.vm.findClass RX3 = some m.cls := findClass_of_methodNamed B.named
  have hlocks := B.notSynchronized
  subst hsz
  have hD := hD0.self (sz := s.heap.size)
  generalize hAe : va_A (xw ad ca kf vf bf w op (nI n) nx en ok tf nb ef ff fi ek ev) s.heap.size = A at hD hE ⊢
  have hA : ∀ q : Nat, s.heap.size ≤ q → A q := fun q h => by rw [← hAe]; exact Or.inr h
  have hS : va_S A s.heap s.heap [] := va_S.rf
  have hl := lv_entry ([.ref (ad 0), .int x, .int v]) (n := 4) (Nat.le_of_ble_eq_true rfl)
  rw [lg_entry_eq]
  generalize (lg_sl ([.ref (ad 0), .int x, .int v]) ++ List.replicate (4 - (lg_sl ([.ref (ad 0), .int x, .int v])).length) Slot.unset).toArray = ls at hl ⊢
  have hl : lv_has ls 4 [(0, .ref (ad 0)), (1, .int x), (2, .int v)] := hl
  refine lv_aload_n hx hb dX3_damage_0 rfl (lv_at hl 0 rfl) ?_
  refine lv_iload_n hx hb dX3_damage_1 rfl (lv_at hl 1 rfl) ?_
  refine x_size hS (fun hz => ?_)
  refine xx_v (vx_runV (As := [.int x]) (rest := []) ⟨hx, hb, hml, hown, hts⟩ (cX3_requireByte_m l hnt dC dI ca ad kf vf bf w op nx en ok tf nb ef ff fi ek ev n x (by omega) _) (cwV 1 hts (xg_V mb_methodLink_RX3_63 mb_instanceMethod_yX3_requireByte mb_selects_yX3_requireByte mb_initialized_RX3 mb_code_yX3_requireByte) rfl rfl rfl ⟨rfl, by decide, by decide, by decide +kernel⟩ ⟨Nat.le_of_ble_eq_true rfl, Nat.le_of_ble_eq_true rfl⟩) (xpreV (va_recv (q0 := 0) hK hP rfl rfl) hK hP hD hS hA hE) rfl rfl hl.1 rfl (lv_room (Nat.le_of_ble_eq_true rfl)) dX3_damage_2 ⟨Nat.le_of_ble_eq_true rfl, Nat.le_of_ble_eq_true rfl⟩) hD hS hA hz (fun E ce q9 u H locs hX hP hD hS hce hcv hcl => ?_) (fun u H locs hu hP hD hS hz => ?_)
  · exact xx_out () hno hlocks (hX) hce hcv hcl hK hP hD hS (Nat.le_refl _) (Nat.le_refl _)
  have hP : va_P (dC, dI) vwCl (xw ad ca kf vf bf w op (nI n) nx en ok tf nb ef ff fi ek ev) H := hP
  have hD : va_D A (xw ad ca kf vf bf w op (nI n) nx en ok tf nb ef ff fi ek ev) := hD
  obtain ⟨j, hj, rfl⟩ := (sp_in_iff (by omega)).mp hu
  refine lv_aload_n hx hb dX3_damage_5 rfl (lv_at hl 0 rfl) ?_
  refine va_get (D := (dC, dI)) (ci := 3) (v := .ref (ad 4)) (C := RX3) (T := TX3) (N := 8) (ref := "SortedRun") hx hb hts (xg_u mb_uws_X3) hown hK hP 0 rfl rfl 3 (by decide) (xg_w hts mb_fieldLink_RX3_23) (fun _ h9 => h9) rfl dX3_damage_6 ?_
  refine lv_iload_n hx hb dX3_damage_9 rfl (lv_at hl 1 rfl) ?_
  refine xk_i (va_runV (As := [.int (nI j)]) (rest := []) ⟨hx, hb, hml, hown, hts⟩ (cX2_byteAt_m l dC dI ca ad kf vf bf w op (nI n) nx en ok tf nb ef ff fi ek ev j (by omega) _) (cwV 1 hts (xg_V mb_methodLink_RX3_67 mb_instanceMethod_yX2_byteAt mb_selects_yX2_byteAt mb_initialized_RX2 mb_code_yX2_byteAt) rfl rfl rfl ⟨rfl, by decide, by decide, by decide +kernel⟩ ⟨Nat.le_of_ble_eq_true rfl, Nat.le_of_ble_eq_true rfl⟩) (xpreV (va_recv (q0 := 4) hK hP rfl rfl) hK hP hD hS hA hE) rfl rfl hl.1 rfl (lv_room (Nat.le_of_ble_eq_true rfl)) dX3_damage_10 ⟨Nat.le_of_ble_eq_true rfl, Nat.le_of_ble_eq_true rfl⟩) hD hS hA (fun r u H locs hu hP hD hS => ?_)
  subst hu
  have hP : va_P (dC, dI) vwCl (xw ad ca kf vf bf w op (nI n) nx en ok tf nb ef ff fi ek ev) H := hP
  have hD : va_D A (xw ad ca kf vf bf w op (nI n) nx en ok tf nb ef ff fi ek ev) := hD
  refine lv_istore_n hx hb dX3_damage_13 rfl hl (by decide) rfl (fun ls hl => ?_)
  have hl : lv_has ls 4 [(3, .int (nI (pb_ub tf j))), (0, .ref (ad 0)), (1, .int (nI j)), (2, .int v)] := hl
  refine lv_aload_n hx hb dX3_damage_14 rfl (lv_at hl 1 rfl) ?_
  refine va_get (D := (dC, dI)) (ci := 3) (v := .ref (ad 4)) (C := RX3) (T := TX3) (N := 8) (ref := "SortedRun") hx hb hts (xg_u mb_uws_X3) hown hK hP 0 rfl rfl 3 (by decide) (xg_w hts mb_fieldLink_RX3_23) (fun _ h9 => h9) rfl dX3_damage_15 ?_
  refine va_getN (host := "SortedRun") (D := (dC, dI)) (ci := 2) (v := .ref (ad 5)) (C := RX2) (T := TX2) (N := 5) (ref := "SortedRun$Table") hx hb hts (xg_u mb_uws_X2) hown hK hP 4 rfl rfl 0 (by decide) (xn_w (w := .fieldLinkNest RX3 71 "SortedRun$Table" "bytes" "[B" "SortedRun") (i := 30) hE rfl rfl rfl) (fun _ h9 => h9) rfl dX3_damage_18 ?_
  refine lv_iload_n hx hb dX3_damage_21 rfl (lv_at hl 2 rfl) ?_
  refine lv_iload_n hx hb dX3_damage_22 rfl (lv_at hl 3 rfl) ?_
  refine lv_i2b (v := v.toInt8.toInt32) hx hb dX3_damage_23 (rfl) ?_
  refine va_bast hx hb hK hP hD hS 5 2 rfl rfl (vp_in_nI (by omega) (by decide)) dX3_damage_24 (fun H locs hP hD hS => ?_)
  have e9 : upd tf (nI j).toNatClampNeg (vp_nar .byte v.toInt8.toInt32) = upd tf j v.toInt8.toInt32 := by rw [nI_clamp (by omega), pk_vb]
  rw [e9] at hP hD
  clear e9
  have hP : va_P (dC, dI) vwCl (xw ad ca kf vf bf w op (nI n) nx en ok (upd tf j v.toInt8.toInt32) nb ef ff fi ek ev) H := hP
  have hD : va_D A (xw ad ca kf vf bf w op (nI n) nx en ok (upd tf j v.toInt8.toInt32) nb ef ff fi ek ev) := hD
  refine lv_aload_n hx hb dX3_damage_25 rfl (lv_at hl 1 rfl) ?_
  refine lv_iconst (v := 0) hx hb dX3_damage_26 (by decide) ?_
  refine va_put (D := (dC, dI)) (ci := 3) (v := .int 0) (ty := .boolean) (C := RX3) (T := TX3) (N := 8) (ref := "SortedRun") hx hb hts (xg_u mb_uws_X3) tyX3 tyX3_ok nmX3 hown hK hP hD hS 0 rfl rfl 7 (by decide) (xg_w hts mb_fieldLink_RX3_75) (fun _ h9 => h9) rfl (by decide +kernel) rfl rfl (Nat.le_of_ble_eq_true rfl) dX3_damage_27 (fun H locs hP hD hS => ?_)
  have hP : va_P (dC, dI) vwCl (xw ad ca kf vf bf w 0 (nI n) nx en ok (upd tf j v.toInt8.toInt32) nb ef ff fi ek ev) H := hP
  have hD : va_D A (xw ad ca kf vf bf w 0 (nI n) nx en ok (upd tf j v.toInt8.toInt32) nb ef ff fi ek ev) := hD
  refine lv_iload_n hx hb dX3_damage_30 rfl (lv_at hl 0 rfl) ?_
  refine x_size hS (fun hz => ?_)
  refine vx_ret (W.widen (k := 1) (n := 6) (Nat.zero_le _) (Nat.zero_le _) ?_)
  exact W.iret (v := nI (pb_ub tf j)) hx hb hr (fun t ht hW => ⟨⟨nI (pb_ub tf j), j, rfl, ⟨hj, rfl, rfl⟩, ⟨by rw [ht]; exact hP, va_K.moved hW.alike hK, hD⟩, (congrArg Array.size ht).trans hz⟩, hS.F ht⟩) hS.2.2 dX3_damage_31

set_option maxHeartbeats 4000000 in
set_option maxRecDepth 100000 in
theorem cX3_cut_m (l : Launch) (hnt : l.stackTraces = false) (dC : Nat → ClassId) (dI : Nat → Nat → Nat) (ca : Nat → ClassId) (ad : Nat → Nat) (kf : Nat → Int32) (vf : Nat → Int64) (bf : Nat → Int32) (w : Int32) (op : Int32) (nx : Int32) (en : Int32) (ok : Int32) (tf : Nat → Int32) (nb : Int32) (ef : Nat → Int32) (ff : Nat → Int32) (fi : Int32) (ek : Int32) (ev : Int64) (n : Nat) (x : Int32) (hn : n ≤ 4889) : ∀ sz : Nat, vx_Met l yX3_cut wsX3_cut ({ frames := 6, cells := 1, slots := 6, locals := 90 } : Room) (va_Pc [.ref (ad 0), .int x] (xP (dC, dI) (xt ca) (xw ad ca kf vf bf w op (nI n) nx en ok tf nb ef ff fi ek ev) sz)) (va_Qv (S := Unit) (fun _ => sp_in x (n + 1) = true) (fun u t => xB (dC, dI) (xt ca) (va_A (xw ad ca kf vf bf w op (nI n) nx en ok tf nb ef ff fi ek ev) sz) (xw ad ca kf vf bf w 0 x nx en ok tf nb ef ff fi ek ev) t ∧ t.heap.size = sz) (va_A (xw ad ca kf vf bf w op (nI n) nx en ok tf nb ef ff fi ek ev) sz)) (xX (S := Unit) (dC, dI) (xt ca) (va_A (xw ad ca kf vf bf w op (nI n) nx en ok tf nb ef ff fi ek ev) sz) (fun E _ => E = "java/lang/IllegalArgumentException" ∧ sp_in x (n + 1) = false) (fun u => xw ad ca kf vf bf w op (nI n) nx en ok tf nb ef ff fi ek ev)) 1 6 (va_A (xw ad ca kf vf bf w op (nI n) nx en ok tf nb ef ff fi ek ev) sz) := by
  intro sz
  refine vx_ofW (cc := cX3_cut) (maxL := 2) (ret := none) (by decide) rfl ?_
  intro p e s m args below meth c s₁ B hml hno hv
  obtain ⟨rfl, hsz, hP, hK, hD0, hE⟩ := hv
  have hx := B.exec
  have hb := B.bytes
  have hr := B.returns
  have hts := atoms_spec (ws := wsX3_cut) B.pre
  have hown : s.vm.findClass RX3 = some m.cls := findClass_of_methodNamed B.named
  have hlocks := B.notSynchronized
  subst hsz
  have hD := hD0.self (sz := s.heap.size)
  generalize hAe : va_A (xw ad ca kf vf bf w op (nI n) nx en ok tf nb ef ff fi ek ev) s.heap.size = A at hD hE ⊢
  have hA : ∀ q : Nat, s.heap.size ≤ q → A q := fun q h => by rw [← hAe]; exact Or.inr h
  have hS : va_S A s.heap s.heap [] := va_S.rf
  have hl := lv_entry ([.ref (ad 0), .int x]) (n := 2) (Nat.le_of_ble_eq_true rfl)
  rw [lg_entry_eq]
  generalize (lg_sl ([.ref (ad 0), .int x]) ++ List.replicate (2 - (lg_sl ([.ref (ad 0), .int x])).length) Slot.unset).toArray = ls at hl ⊢
  have hl : lv_has ls 2 [(0, .ref (ad 0)), (1, .int x)] := hl
  have hnn : x < nI (n + 1) ↔ x ≤ nI n := by
    have e1 := nI_toInt (n := n + 1) (by omega)
    have e2 := nI_toInt (n := n) (by omega)
    rw [Int32.lt_iff_toInt_lt, Int32.le_iff_toInt_le, e1, e2]; omega
  refine lv_iload_n hx hb dX3_cut_0 rfl (lv_at hl 1 rfl) ?_
  refine lv_if_lt (tgt := 15) hx hb dX3_cut_1 rfl (fun hc => ?_) (fun hc => ?_)
  · obtain ⟨sa, hstr⟩ := hE.2.2.2.1 _ (List.mem_of_getElem? (i := 3) rfl)
    exact xx_throw () hx hb hnt hown (by decide +kernel) (xg_w hts mb_classLink_RX3_55) (xg_w hts mb_initialized_IllegalArgumentException) hstr xh_IAE_at xh_IAE_good xh_IAE_on hE (hl.1.trans hml.symm) dX3_cut_15 dX3_cut_18 dX3_cut_19 dX3_cut_21 dX3_cut_24 hno ⟨Nat.le_of_ble_eq_true rfl, Nat.le_of_ble_eq_true rfl, Nat.le_of_ble_eq_true rfl, Nat.le_of_ble_eq_true rfl⟩ hlocks (⟨rfl, by unfold sp_in; rw [decide_eq_false (Int32.not_le.mpr hc)]; rfl⟩) hK hP hD hS (Nat.le_refl _) (Nat.le_refl _)
  · refine lv_iload_n hx hb dX3_cut_4 rfl (lv_at hl 1 rfl) ?_
    refine lv_aload_n hx hb dX3_cut_5 rfl (lv_at hl 0 rfl) ?_
    refine va_get (D := (dC, dI)) (ci := 3) (v := .ref (ad 4)) (C := RX3) (T := TX3) (N := 8) (ref := "SortedRun") hx hb hts (xg_u mb_uws_X3) hown hK hP 0 rfl rfl 3 (by decide) (xg_w hts mb_fieldLink_RX3_23) (fun _ h9 => h9) rfl dX3_cut_6 ?_
    refine va_getN (host := "SortedRun") (D := (dC, dI)) (ci := 2) (v := .int (nI n)) (C := RX2) (T := TX2) (N := 5) (ref := "SortedRun$Table") hx hb hts (xg_u mb_uws_X2) hown hK hP 4 rfl rfl 1 (by decide) (xn_w (w := .fieldLinkNest RX3 60 "SortedRun$Table" "length" "I" "SortedRun") (i := 32) hE rfl rfl rfl) (fun _ h9 => h9) rfl dX3_cut_9 ?_
    refine lv_icmp_le (tgt := 25) hx hb dX3_cut_12 rfl (fun hc2 => ?_) (fun hc2 => ?_)
    · refine lv_aload_n hx hb dX3_cut_25 rfl (lv_at hl 0 rfl) ?_
      refine va_get (D := (dC, dI)) (ci := 3) (v := .ref (ad 4)) (C := RX3) (T := TX3) (N := 8) (ref := "SortedRun") hx hb hts (xg_u mb_uws_X3) hown hK hP 0 rfl rfl 3 (by decide) (xg_w hts mb_fieldLink_RX3_23) (fun _ h9 => h9) rfl dX3_cut_26 ?_
      refine lv_iload_n hx hb dX3_cut_29 rfl (lv_at hl 1 rfl) ?_
      refine va_putN (host := "SortedRun") (D := (dC, dI)) (ci := 2) (v := .int x) (ty := .int) (C := RX2) (T := TX2) (N := 5) (ref := "SortedRun$Table") hx hb hts (xg_u mb_uws_X2) tyX2 tyX2_ok nmX2 hown hK hP hD hS 4 rfl rfl 1 (by decide) (xn_w (w := .fieldLinkNest RX3 60 "SortedRun$Table" "length" "I" "SortedRun") (i := 32) hE rfl rfl rfl) (fun _ h9 => h9) rfl (by decide +kernel) rfl rfl (Nat.le_of_ble_eq_true rfl) dX3_cut_30 (fun H locs hP hD hS => ?_)
      have hP : va_P (dC, dI) vwCl (xw ad ca kf vf bf w op x nx en ok tf nb ef ff fi ek ev) H := hP
      have hD : va_D A (xw ad ca kf vf bf w op x nx en ok tf nb ef ff fi ek ev) := hD
      refine lv_aload_n hx hb dX3_cut_33 rfl (lv_at hl 0 rfl) ?_
      refine lv_iconst (v := 0) hx hb dX3_cut_34 (by decide) ?_
      refine va_put (D := (dC, dI)) (ci := 3) (v := .int 0) (ty := .boolean) (C := RX3) (T := TX3) (N := 8) (ref := "SortedRun") hx hb hts (xg_u mb_uws_X3) tyX3 tyX3_ok nmX3 hown hK hP hD hS 0 rfl rfl 7 (by decide) (xg_w hts mb_fieldLink_RX3_75) (fun _ h9 => h9) rfl (by decide +kernel) rfl rfl (Nat.le_of_ble_eq_true rfl) dX3_cut_35 (fun H locs hP hD hS => ?_)
      have hP : va_P (dC, dI) vwCl (xw ad ca kf vf bf w 0 x nx en ok tf nb ef ff fi ek ev) H := hP
      have hD : va_D A (xw ad ca kf vf bf w 0 x nx en ok tf nb ef ff fi ek ev) := hD
      refine x_size hS (fun hz => ?_)
      refine vx_ret (W.widen (k := 1) (n := 6) (Nat.zero_le _) (Nat.zero_le _) ?_)
      exact W.vret hx hb hr (fun t ht hW => ⟨⟨(), rfl, by unfold sp_in; rw [decide_eq_true (Int32.not_lt.mp hc), decide_eq_true (hnn.mpr hc2)]; rfl, ⟨by rw [ht]; exact hP, va_K.moved hW.alike hK, hD⟩, (congrArg Array.size ht).trans hz⟩, hS.F ht⟩) hS.2.2 dX3_cut_38
    · obtain ⟨sa, hstr⟩ := hE.2.2.2.1 _ (List.mem_of_getElem? (i := 3) rfl)
      exact xx_throw () hx hb hnt hown (by decide +kernel) (xg_w hts mb_classLink_RX3_55) (xg_w hts mb_initialized_IllegalArgumentException) hstr xh_IAE_at xh_IAE_good xh_IAE_on hE (hl.1.trans hml.symm) dX3_cut_15 dX3_cut_18 dX3_cut_19 dX3_cut_21 dX3_cut_24 hno ⟨Nat.le_of_ble_eq_true rfl, Nat.le_of_ble_eq_true rfl, Nat.le_of_ble_eq_true rfl, Nat.le_of_ble_eq_true rfl⟩ hlocks (⟨rfl, by unfold sp_in; rw [decide_eq_false (fun y => hc2 (hnn.mp y)), Bool.and_false]⟩) hK hP hD hS (Nat.le_refl _) (Nat.le_refl _)

set_option maxHeartbeats 4000000 in
set_option maxRecDepth 100000 in
theorem cX3_open_m (l : Launch) (hnt : l.stackTraces = false) (dC : Nat → ClassId) (dI : Nat → Nat → Nat) (ca : Nat → ClassId) (ad : Nat → Nat) (kf : Nat → Int32) (vf : Nat → Int64) (bf : Nat → Int32) (w : Int32) (op : Int32) (nx : Int32) (en : Int32) (ok : Int32) (tf : Nat → Int32) (nb : Int32) (ef : Nat → Int32) (ff : Nat → Int32) (fi : Int32) (ek : Int32) (ev : Int64) (L : Nat) (hL : L ≤ 4889) : ∀ sz : Nat, vx_Met l yX3_open wsX3_open ({ frames := 6, cells := 1, slots := 6, locals := 99 } : Room) (va_Pc [.ref (ad 0)] (xP (dC, dI) (xt ca) (xw ad ca kf vf bf w op (nI L) nx en ok tf nb ef ff fi ek ev) sz)) (va_Qi (S := Int32 × Int32 × Int32 × Int32 × (Nat → Int32) × (Nat → Int32)) (fun r u => ∃ lr, px_open tf L = some lr ∧ r = nI lr.length ∧ u.1 = nI lr.length ∧ lr.length ≤ 2444 ∧ px_rows 0 0 lr u.2.2.2.2.1 u.2.2.2.2.2) (fun u t => xB (dC, dI) (xt ca) (va_A (xw ad ca kf vf bf w op (nI L) nx en ok tf nb ef ff fi ek ev) sz) (xw ad ca kf vf bf w 1 (nI L) u.2.1 u.2.2.1 u.2.2.2.1 tf u.1 u.2.2.2.2.1 u.2.2.2.2.2 fi ek ev) t ∧ t.heap.size = sz) (va_A (xw ad ca kf vf bf w op (nI L) nx en ok tf nb ef ff fi ek ev) sz)) (xX (S := Int32 × Int32 × Int32 × Int32 × (Nat → Int32) × (Nat → Int32)) (dC, dI) (xt ca) (va_A (xw ad ca kf vf bf w op (nI L) nx en ok tf nb ef ff fi ek ev) sz) (fun E u => E = "java/lang/ArithmeticException" ∧ px_open tf L = none) (fun u => xw ad ca kf vf bf w 0 (nI L) u.2.1 u.2.2.1 u.2.2.2.1 tf u.1 u.2.2.2.2.1 u.2.2.2.2.2 fi ek ev)) 1 6 (va_A (xw ad ca kf vf bf w op (nI L) nx en ok tf nb ef ff fi ek ev) sz) := by
  intro sz
  refine vx_ofW (cc := cX3_open) (maxL := 1) (ret := (some .int)) (by decide) rfl ?_
  intro p e s m args below meth c s₁ B hml hno hv
  obtain ⟨rfl, hsz, hP, hK, hD0, hE⟩ := hv
  have hx := B.exec
  have hb := B.bytes
  have hr := B.returns
  have hts := atoms_spec (ws := wsX3_open) B.pre
  have hown : s.vm.findClass RX3 = some m.cls := findClass_of_methodNamed B.named
  have hlocks := B.notSynchronized
  subst hsz
  have hD := hD0.self (sz := s.heap.size)
  generalize hAe : va_A (xw ad ca kf vf bf w op (nI L) nx en ok tf nb ef ff fi ek ev) s.heap.size = A at hD hE ⊢
  have hA : ∀ q : Nat, s.heap.size ≤ q → A q := fun q h => by rw [← hAe]; exact Or.inr h
  have hS : va_S A s.heap s.heap [] := va_S.rf
  have hl := lv_entry ([.ref (ad 0)]) (n := 1) (Nat.le_of_ble_eq_true rfl)
  rw [lg_entry_eq]
  generalize (lg_sl ([.ref (ad 0)]) ++ List.replicate (1 - (lg_sl ([.ref (ad 0)])).length) Slot.unset).toArray = ls at hl ⊢
  have hl : lv_has ls 1 [(0, .ref (ad 0))] := hl
  refine lv_aload_n hx hb dX3_open_0 rfl (lv_at hl 0 rfl) ?_
  refine lv_aload_n hx hb dX3_open_1 rfl (lv_at hl 0 rfl) ?_
  refine va_get (D := (dC, dI)) (ci := 3) (v := .ref (ad 6)) (C := RX3) (T := TX3) (N := 8) (ref := "SortedRun") hx hb hts (xg_u mb_uws_X3) hown hK hP 0 rfl rfl 4 (by decide) (xg_w hts mb_fieldLink_RX3_30) (fun _ h9 => h9) rfl dX3_open_2 ?_
  refine lv_aload_n hx hb dX3_open_5 rfl (lv_at hl 0 rfl) ?_
  refine va_get (D := (dC, dI)) (ci := 3) (v := .ref (ad 4)) (C := RX3) (T := TX3) (N := 8) (ref := "SortedRun") hx hb hts (xg_u mb_uws_X3) hown hK hP 0 rfl rfl 3 (by decide) (xg_w hts mb_fieldLink_RX3_23) (fun _ h9 => h9) rfl dX3_open_6 ?_
  refine xk_i (va_runV (As := [.ref (ad 4)]) (rest := [.ref (ad 0)]) ⟨hx, hb, hml, hown, hts⟩ (cX1_readFrom_m l dC dI ca ad kf vf bf w op nx en ok tf nb ef ff fi ek ev L hL _) (cwV 1 hts (xg_V mb_methodLink_RX3_81 mb_instanceMethod_yX1_readFrom mb_selects_yX1_readFrom mb_initialized_RX1 mb_code_yX1_readFrom) rfl rfl rfl ⟨rfl, by decide, by decide, by decide +kernel⟩ ⟨Nat.le_of_ble_eq_true rfl, Nat.le_of_ble_eq_true rfl⟩) (xpreV (va_recv (q0 := 6) hK hP rfl rfl) hK hP hD hS hA hE) rfl rfl hl.1 rfl (lv_room (Nat.le_of_ble_eq_true rfl)) dX3_open_9 ⟨Nat.le_of_ble_eq_true rfl, Nat.le_of_ble_eq_true rfl⟩) hD hS hA (fun r u H locs hu hP hD hS => ?_)
  have hP : va_P (dC, dI) vwCl (xw ad ca kf vf bf w op (nI L) u.2.1 u.2.2.1 u.2.2.2.1 tf u.1 u.2.2.2.2.1 u.2.2.2.2.2 fi ek ev) H := hP
  have hD : va_D A (xw ad ca kf vf bf w op (nI L) u.2.1 u.2.2.1 u.2.2.2.1 tf u.1 u.2.2.2.2.1 u.2.2.2.2.2 fi ek ev) := hD
  obtain ⟨x1, x2, x3, x4, x5, x6⟩ := u
  dsimp only at hu hP hD
  rcases hu with hu | hu
  · obtain ⟨lr, ho, rfl, hn, hlen, hrows⟩ := hu
    refine va_put (D := (dC, dI)) (ci := 3) (v := .int 1) (ty := .boolean) (C := RX3) (T := TX3) (N := 8) (ref := "SortedRun") hx hb hts (xg_u mb_uws_X3) tyX3 tyX3_ok nmX3 hown hK hP hD hS 0 rfl rfl 7 (by decide) (xg_w hts mb_fieldLink_RX3_75) (fun _ h9 => h9) rfl (by decide +kernel) rfl rfl (Nat.le_of_ble_eq_true rfl) dX3_open_12 (fun H locs hP hD hS => ?_)
    have hP : va_P (dC, dI) vwCl (xw ad ca kf vf bf w 1 (nI L) x2 x3 x4 tf x1 x5 x6 fi ek ev) H := hP
    have hD : va_D A (xw ad ca kf vf bf w 1 (nI L) x2 x3 x4 tf x1 x5 x6 fi ek ev) := hD
    refine lv_aload_n hx hb dX3_open_15 rfl (lv_at hl 0 rfl) ?_
    refine va_get (D := (dC, dI)) (ci := 3) (v := .int 1) (C := RX3) (T := TX3) (N := 8) (ref := "SortedRun") hx hb hts (xg_u mb_uws_X3) hown hK hP 0 rfl rfl 7 (by decide) (xg_w hts mb_fieldLink_RX3_75) (fun _ h9 => h9) rfl dX3_open_16 ?_
    refine lv_if_ne (tgt := 32) hx hb dX3_open_19 rfl (fun hc => ?_) (fun hc => absurd hc (by decide))
    refine lv_aload_n hx hb dX3_open_32 rfl (lv_at hl 0 rfl) ?_
    refine va_get (D := (dC, dI)) (ci := 3) (v := .ref (ad 6)) (C := RX3) (T := TX3) (N := 8) (ref := "SortedRun") hx hb hts (xg_u mb_uws_X3) hown hK hP 0 rfl rfl 4 (by decide) (xg_w hts mb_fieldLink_RX3_30) (fun _ h9 => h9) rfl dX3_open_33 ?_
    refine va_getN (host := "SortedRun") (D := (dC, dI)) (ci := 1) (v := .int x1) (C := RX1) (T := TX1) (N := 3) (ref := "SortedRun$Index") hx hb hts (xg_u mb_uws_X1) hown hK hP 6 rfl rfl 2 (by decide) (xn_w (w := .fieldLinkNest RX3 90 "SortedRun$Index" "blocks" "I" "SortedRun") (i := 62) hE rfl rfl rfl) (fun _ h9 => h9) rfl dX3_open_36 ?_
    refine lv_topi (fun z1 ez1 => ?_)
    have ez1 : z1 = nI lr.length := ez1.trans (hn)
    subst ez1
    refine x_size hS (fun hz => ?_)
    refine vx_ret (W.widen (k := 1) (n := 6) (Nat.zero_le _) (Nat.zero_le _) ?_)
    exact W.iret (v := nI lr.length) hx hb hr (fun t ht hW => ⟨⟨nI lr.length, (x1, x2, x3, x4, x5, x6), rfl, ⟨lr, ho, rfl, hn, hlen, hrows⟩, ⟨by rw [ht]; exact hP, va_K.moved hW.alike hK, hD⟩, (congrArg Array.size ht).trans hz⟩, hS.F ht⟩) hS.2.2 dX3_open_39
  · obtain ⟨ho, rfl⟩ := hu
    refine va_put (D := (dC, dI)) (ci := 3) (v := .int 0) (ty := .boolean) (C := RX3) (T := TX3) (N := 8) (ref := "SortedRun") hx hb hts (xg_u mb_uws_X3) tyX3 tyX3_ok nmX3 hown hK hP hD hS 0 rfl rfl 7 (by decide) (xg_w hts mb_fieldLink_RX3_75) (fun _ h9 => h9) rfl (by decide +kernel) rfl rfl (Nat.le_of_ble_eq_true rfl) dX3_open_12 (fun H locs hP hD hS => ?_)
    have hP : va_P (dC, dI) vwCl (xw ad ca kf vf bf w 0 (nI L) x2 x3 x4 tf x1 x5 x6 fi ek ev) H := hP
    have hD : va_D A (xw ad ca kf vf bf w 0 (nI L) x2 x3 x4 tf x1 x5 x6 fi ek ev) := hD
    refine lv_aload_n hx hb dX3_open_15 rfl (lv_at hl 0 rfl) ?_
    refine va_get (D := (dC, dI)) (ci := 3) (v := .int 0) (C := RX3) (T := TX3) (N := 8) (ref := "SortedRun") hx hb hts (xg_u mb_uws_X3) hown hK hP 0 rfl rfl 7 (by decide) (xg_w hts mb_fieldLink_RX3_75) (fun _ h9 => h9) rfl dX3_open_16 ?_
    refine lv_if_ne (tgt := 32) hx hb dX3_open_19 rfl (fun hc => absurd hc (not_not_intro rfl)) (fun hc => ?_)
    obtain ⟨sa, hstr⟩ := hE.2.2.2.1 _ (List.mem_of_getElem? (i := 4) rfl)
    exact xx_throw (x1, x2, x3, x4, x5, x6) hx hb hnt hown (by decide +kernel) (xg_w hts mb_classLink_RX3_85) (xg_w hts mb_initialized_ArithmeticException) hstr xh_AE_at xh_AE_good xh_AE_on hE (hl.1.trans hml.symm) dX3_open_22 dX3_open_25 dX3_open_26 dX3_open_28 dX3_open_31 hno ⟨Nat.le_of_ble_eq_true rfl, Nat.le_of_ble_eq_true rfl, Nat.le_of_ble_eq_true rfl, Nat.le_of_ble_eq_true rfl⟩ hlocks (⟨rfl, ho⟩) hK hP hD hS (Nat.le_refl _) (Nat.le_refl _)

set_option maxHeartbeats 4000000 in
set_option maxRecDepth 100000 in
theorem cX3_size_m (l : Launch) (dC : Nat → ClassId) (dI : Nat → Nat → Nat) (ca : Nat → ClassId) (ad : Nat → Nat) (kf : Nat → Int32) (vf : Nat → Int64) (bf : Nat → Int32) (w : Int32) (op : Int32) (ln : Int32) (nx : Int32) (en : Int32) (ok : Int32) (tf : Nat → Int32) (nb : Int32) (ef : Nat → Int32) (ff : Nat → Int32) (fi : Int32) (ek : Int32) (ev : Int64) : ∀ sz : Nat, Met l yX3_size wsX3_size ({ frames := 0, cells := 0, slots := 0, locals := 0 } : Room) (va_Pc [.ref (ad 0)] (xP (dC, dI) (xt ca) (xw ad ca kf vf bf w op ln nx en ok tf nb ef ff fi ek ev) sz)) (va_Qi (S := Unit) (fun r _ => r = ln) (fun u t => xB (dC, dI) (xt ca) (va_A (xw ad ca kf vf bf w op ln nx en ok tf nb ef ff fi ek ev) sz) (xw ad ca kf vf bf w op ln nx en ok tf nb ef ff fi ek ev) t) (va_A (xw ad ca kf vf bf w op ln nx en ok tf nb ef ff fi ek ev) sz)) 0 0 (va_A (xw ad ca kf vf bf w op ln nx en ok tf nb ef ff fi ek ev) sz) := by
  intro sz
  refine Met.ofW (cc := cX3_size) (maxL := 1) (ret := (some .int)) (by decide) rfl ?_
  intro p e s m args below meth c s₁ B hml hv
  obtain ⟨rfl, hsz, hP, hK, hD0, hE⟩ := hv
  have hx := B.exec
  have hb := B.bytes
  have hr := B.returns
  have hts := atoms_spec (ws := wsX3_size) B.pre
  have hown : s.vm.findClass RX3 = some m.cls := findClass_of_methodNamed B.named
  have hlocks := B.notSynchronized
  subst hsz
  have hD := hD0.self (sz := s.heap.size)
  generalize hAe : va_A (xw ad ca kf vf bf w op ln nx en ok tf nb ef ff fi ek ev) s.heap.size = A at hD hE ⊢
  have hA : ∀ q : Nat, s.heap.size ≤ q → A q := fun q h => by rw [← hAe]; exact Or.inr h
  have hS : va_S A s.heap s.heap [] := va_S.rf
  have hl := lv_entry ([.ref (ad 0)]) (n := 1) (Nat.le_of_ble_eq_true rfl)
  rw [lg_entry_eq]
  generalize (lg_sl ([.ref (ad 0)]) ++ List.replicate (1 - (lg_sl ([.ref (ad 0)])).length) Slot.unset).toArray = ls at hl ⊢
  have hl : lv_has ls 1 [(0, .ref (ad 0))] := hl
  refine lv_aload_n hx hb dX3_size_0 rfl (lv_at hl 0 rfl) ?_
  refine va_get (D := (dC, dI)) (ci := 3) (v := .ref (ad 4)) (C := RX3) (T := TX3) (N := 8) (ref := "SortedRun") hx hb hts (xg_u mb_uws_X3) hown hK hP 0 rfl rfl 3 (by decide) (xg_w hts mb_fieldLink_RX3_23) (fun _ h9 => h9) rfl dX3_size_1 ?_
  refine va_getN (host := "SortedRun") (D := (dC, dI)) (ci := 2) (v := .int ln) (C := RX2) (T := TX2) (N := 5) (ref := "SortedRun$Table") hx hb hts (xg_u mb_uws_X2) hown hK hP 4 rfl rfl 1 (by decide) (xn_w (w := .fieldLinkNest RX3 60 "SortedRun$Table" "length" "I" "SortedRun") (i := 32) hE rfl rfl rfl) (fun _ h9 => h9) rfl dX3_size_4 ?_
  have hP9 := hP
  have hD9 := hD
  exact W.iret (v := ln) hx hb hr (fun t ht hW => ⟨⟨ln, (), rfl, rfl, by rw [ht]; exact hP9, va_K.moved hW.alike hK, hD9⟩, hS.F ht⟩) hS.2.2 dX3_size_7

set_option maxHeartbeats 4000000 in
set_option maxRecDepth 100000 in
theorem cX3_entries_m (l : Launch) (hnt : l.stackTraces = false) (dC : Nat → ClassId) (dI : Nat → Nat → Nat) (ca : Nat → ClassId) (ad : Nat → Nat) (kf : Nat → Int32) (vf : Nat → Int64) (bf : Nat → Int32) (w : Int32) (op : Int32) (ln : Int32) (nx : Int32) (en : Int32) (ok : Int32) (tf : Nat → Int32) (nb : Int32) (ef : Nat → Int32) (ff : Nat → Int32) (fi : Int32) (ek : Int32) (ev : Int64) (lr : List (Nat × Nat)) (x : Int32) (hopen : ¬ op = 0 → nb = nI lr.length ∧ lr.length ≤ 2444 ∧ px_rows 0 0 lr ef ff ∧ px_sum lr ≤ 4889) : ∀ sz : Nat, vx_Met l yX3_entries wsX3_entries ({ frames := 7, cells := 1, slots := 6, locals := 114 } : Room) (va_Pc [.ref (ad 0), .int x] (xP (dC, dI) (xt ca) (xw ad ca kf vf bf w op ln nx en ok tf nb ef ff fi ek ev) sz)) (va_Qi (S := Int32 × Int32 × Int32 × Int32 × Int32 × Int64) (fun r u => ¬ op = 0 ∧ ∃ j lb, j < lr.length ∧ x = nI j ∧ pe_of tf lr j = some lb ∧ r = nI lb.length ∧ lb.length ≤ 2444) (fun u t => xB (dC, dI) (xt ca) (va_A (xw ad ca kf vf bf w op ln nx en ok tf nb ef ff fi ek ev) sz) (xw ad ca kf vf bf w op ln u.1 u.2.1 u.2.2.1 tf nb ef ff u.2.2.2.1 u.2.2.2.2.1 u.2.2.2.2.2) t ∧ t.heap.size = sz) (va_A (xw ad ca kf vf bf w op ln nx en ok tf nb ef ff fi ek ev) sz)) (xX (S := Int32 × Int32 × Int32 × Int32 × Int32 × Int64) (dC, dI) (xt ca) (va_A (xw ad ca kf vf bf w op ln nx en ok tf nb ef ff fi ek ev) sz) (fun E u => (E = "java/lang/IllegalStateException" ∧ op = 0) ∨ (¬ op = 0 ∧ E = "java/lang/IndexOutOfBoundsException" ∧ sp_in x lr.length = false) ∨ (¬ op = 0 ∧ E = "java/lang/ArithmeticException" ∧ ∃ j, j < lr.length ∧ x = nI j ∧ pe_of tf lr j = none)) (fun u => xw ad ca kf vf bf w op ln u.1 u.2.1 u.2.2.1 tf nb ef ff u.2.2.2.1 u.2.2.2.2.1 u.2.2.2.2.2)) 1 6 (va_A (xw ad ca kf vf bf w op ln nx en ok tf nb ef ff fi ek ev) sz) := by
  intro sz
  refine vx_ofW (cc := cX3_entries) (maxL := 2) (ret := (some .int)) (by decide) rfl ?_
  intro p e s m args below meth c s₁ B hml hno hv
  obtain ⟨rfl, hsz, hP, hK, hD0, hE⟩ := hv
  have hx := B.exec
  have hb := B.bytes
  have hr := B.returns
  have hts := atoms_spec (ws := wsX3_entries) B.pre
  have hown : s.vm.findClass RX3 = some m.cls := findClass_of_methodNamed B.named
  have hlocks := B.notSynchronized
  subst hsz
  have hD := hD0.self (sz := s.heap.size)
  generalize hAe : va_A (xw ad ca kf vf bf w op ln nx en ok tf nb ef ff fi ek ev) s.heap.size = A at hD hE ⊢
  have hA : ∀ q : Nat, s.heap.size ≤ q → A q := fun q h => by rw [← hAe]; exact Or.inr h
  have hS : va_S A s.heap s.heap [] := va_S.rf
  have hl := lv_entry ([.ref (ad 0), .int x]) (n := 2) (Nat.le_of_ble_eq_true rfl)
  rw [lg_entry_eq]
  generalize (lg_sl ([.ref (ad 0), .int x]) ++ List.replicate (2 - (lg_sl ([.ref (ad 0), .int x])).length) Slot.unset).toArray = ls at hl ⊢
  have hl : lv_has ls 2 [(0, .ref (ad 0)), (1, .int x)] := hl
  refine lv_aload_n hx hb dX3_entries_0 rfl (lv_at hl 0 rfl) ?_
  refine x_size hS (fun hz => ?_)
  refine xx_v (vx_runV (As := []) (rest := []) ⟨hx, hb, hml, hown, hts⟩ (cX3_requireOpen_m l hnt dC dI ca ad kf vf bf w op ln nx en ok tf nb ef ff fi ek ev  _) (cwV 0 hts (xg_V mb_methodLink_RX3_93 mb_instanceMethod_yX3_requireOpen mb_selects_yX3_requireOpen mb_initialized_RX3 mb_code_yX3_requireOpen) rfl rfl rfl ⟨rfl, by decide, by decide, by decide +kernel⟩ ⟨Nat.le_of_ble_eq_true rfl, Nat.le_of_ble_eq_true rfl⟩) (xpreV (va_recv (q0 := 0) hK hP rfl rfl) hK hP hD hS hA hE) rfl rfl hl.1 rfl (lv_room (Nat.le_of_ble_eq_true rfl)) dX3_entries_1 ⟨Nat.le_of_ble_eq_true rfl, Nat.le_of_ble_eq_true rfl⟩) hD hS hA hz (fun E ce q9 u H locs hX hP hD hS hce hcv hcl => ?_) (fun u H locs hop hP hD hS hz => ?_)
  · exact xx_out (nx, en, ok, fi, ek, ev) hno hlocks (Or.inl hX) hce hcv hcl hK hP hD hS (Nat.le_refl _) (Nat.le_refl _)
  have hP : va_P (dC, dI) vwCl (xw ad ca kf vf bf w op ln nx en ok tf nb ef ff fi ek ev) H := hP
  have hD : va_D A (xw ad ca kf vf bf w op ln nx en ok tf nb ef ff fi ek ev) := hD
  obtain ⟨hnb, hlen, hrows, hsum⟩ := hopen hop
  subst hnb
  refine lv_aload_n hx hb dX3_entries_4 rfl (lv_at hl 0 rfl) ?_
  refine lv_iload_n hx hb dX3_entries_5 rfl (lv_at hl 1 rfl) ?_
  refine x_size hS (fun hz => ?_)
  refine xx_v (vx_runV (As := [.int x]) (rest := []) ⟨hx, hb, hml, hown, hts⟩ (cX3_requireBlock_m l hnt dC dI ca ad kf vf bf w op ln nx en ok tf ef ff fi ek ev lr.length x (by omega) _) (cwV 1 hts (xg_V mb_methodLink_RX3_123 mb_instanceMethod_yX3_requireBlock mb_selects_yX3_requireBlock mb_initialized_RX3 mb_code_yX3_requireBlock) rfl rfl rfl ⟨rfl, by decide, by decide, by decide +kernel⟩ ⟨Nat.le_of_ble_eq_true rfl, Nat.le_of_ble_eq_true rfl⟩) (xpreV (va_recv (q0 := 0) hK hP rfl rfl) hK hP hD hS hA hE) rfl rfl hl.1 rfl (lv_room (Nat.le_of_ble_eq_true rfl)) dX3_entries_6 ⟨Nat.le_of_ble_eq_true rfl, Nat.le_of_ble_eq_true rfl⟩) hD hS hA hz (fun E ce q9 u H locs hX hP hD hS hce hcv hcl => ?_) (fun u H locs hin hP hD hS hz => ?_)
  · exact xx_out (nx, en, ok, fi, ek, ev) hno hlocks (Or.inr (Or.inl ⟨hop, hX⟩)) hce hcv hcl hK hP hD hS (Nat.le_refl _) (Nat.le_refl _)
  have hP : va_P (dC, dI) vwCl (xw ad ca kf vf bf w op ln nx en ok tf (nI lr.length) ef ff fi ek ev) H := hP
  have hD : va_D A (xw ad ca kf vf bf w op ln nx en ok tf (nI lr.length) ef ff fi ek ev) := hD
  obtain ⟨j, hj, rfl⟩ := (sp_in_iff (by omega)).mp hin
  obtain ⟨hbp, hbq⟩ := px_rows_at hrows hj
  have hle := px_take_le lr j
  have hle2 := px_sum_take lr (j + 1)
  refine lv_aload_n hx hb dX3_entries_9 rfl (lv_at hl 0 rfl) ?_
  refine lv_iload_n hx hb dX3_entries_10 rfl (lv_at hl 1 rfl) ?_
  refine x_size hS (fun hz => ?_)
  refine xx_i (vx_runV (As := [.int (nI j)]) (rest := []) ⟨hx, hb, hml, hown, hts⟩ (cX3_countRightEntries_m l hnt dC dI ca ad kf vf bf w op ln nx en ok tf (nI lr.length) ef ff fi ek ev (px_sum (lr.take j)) (px_sum (lr.take (j + 1))) j (by omega) hbp hbq hle (by omega) _) (cwV 1 hts (xg_V mb_methodLink_RX3_104 mb_instanceMethod_yX3_countRightEntries mb_selects_yX3_countRightEntries mb_initialized_RX3 mb_code_yX3_countRightEntries) rfl rfl rfl ⟨rfl, by decide, by decide, by decide +kernel⟩ ⟨Nat.le_of_ble_eq_true rfl, Nat.le_of_ble_eq_true rfl⟩) (xpreV (va_recv (q0 := 0) hK hP rfl rfl) hK hP hD hS hA hE) rfl rfl hl.1 rfl (lv_room (Nat.le_of_ble_eq_true rfl)) dX3_entries_11 ⟨Nat.le_of_ble_eq_true rfl, Nat.le_of_ble_eq_true rfl⟩) hD hS hA hz (fun E ce q9 u H locs hX hP hD hS hce hcv hcl => ?_) (fun r u H locs hu hP hD hS hz => ?_)
  · exact xx_out u hno hlocks (Or.inr (Or.inr ⟨hop, hX.1, j, hj, rfl, hX.2⟩)) hce hcv hcl hK hP hD hS (Nat.le_refl _) (Nat.le_refl _)
  have hP : va_P (dC, dI) vwCl (xw ad ca kf vf bf w op ln u.1 u.2.1 u.2.2.1 tf (nI lr.length) ef ff u.2.2.2.1 u.2.2.2.2.1 u.2.2.2.2.2) H := hP
  have hD : va_D A (xw ad ca kf vf bf w op ln u.1 u.2.1 u.2.2.1 tf (nI lr.length) ef ff u.2.2.2.1 u.2.2.2.2.1 u.2.2.2.2.2) := hD
  obtain ⟨x1, x2, x3, x4, x5, x6⟩ := u
  dsimp only at hP hD
  obtain ⟨lb, hlb, rfl, hlbl⟩ := hu
  refine x_size hS (fun hz => ?_)
  refine vx_ret (W.widen (k := 1) (n := 6) (Nat.zero_le _) (Nat.zero_le _) ?_)
  exact W.iret (v := nI lb.length) hx hb hr (fun t ht hW => ⟨⟨nI lb.length, (x1, x2, x3, x4, x5, x6), rfl, ⟨hop, j, lb, hj, rfl, hlb, rfl, hlbl⟩, ⟨by rw [ht]; exact hP, va_K.moved hW.alike hK, hD⟩, (congrArg Array.size ht).trans hz⟩, hS.F ht⟩) hS.2.2 dX3_entries_14
end
section
/-! the BLOCK that get asks -/
def px_kf (lr : List (Nat × Nat)) : Nat → Int32 := fun j => (pu_u (lN (lr.getD j (0, 0)).2)).toInt32
theorem px_last_rows {lr : List (Nat × Nat)} {ef ff : Nat → Int32} (h : px_rows 0 0 lr ef ff) (key : Int32) : ∀ n, n ≤ lr.length → px_last ff key n = px_last (px_kf lr) key n
  | 0, _ => rfl
  | n + 1, hn => by
    have h1 := (h n hn).2
    rw [Nat.zero_add] at h1
    unfold px_last
    rw [px_last_rows h key n (Nat.le_of_succ_le hn), h1]
    exact Eq.refl _
theorem px_last_lt {f : Nat → Int32} {key : Int32} : ∀ {n j}, px_last f key n = some j → j < n
  | 0, j, h => by cases h
  | n + 1, j, h => by
    unfold px_last at h
    split at h
    · cases h; exact Nat.lt_succ_self n
    · exact Nat.lt_succ_of_lt (px_last_lt h)
end
section
/-! SortedRun: key, get (rows by wip/whole/wsr3.py) -/
set_option maxHeartbeats 4000000 in
set_option maxRecDepth 100000 in
theorem lpX3_key_go {p : Program} {l : Launch} {e : Env} {s : State} {m : MethodId} {args : Array Value} {below : List Frame} {meth : Method} {c : Code} {Q : State → Prop} {A : Nat → Prop} {dC : Nat → ClassId} {dI : Nat → Nat → Nat} {ca : Nat → ClassId} {ad : Nat → Nat} (hx : p.tables.exec = Jvm.exec) (hb : c.code = cX3_key) (hml : c.maxLocals = 5) (hown : s.vm.findClass RX3 = some m.cls) (hts : ∀ w ∈ wsX3_key, w.before args s = true) (hK : va_K (dC, dI) vwCl (xt ca) s) (hA : ∀ q : Nat, s.heap.size ≤ q → A q) (hE : xn_E A s) {kf : Nat → Int32} {vf : Nat → Int64} {bf : Nat → Int32} {w : Int32} {op : Int32} {ln : Int32} {tf : Nat → Int32} {nb : Int32} {ef : Nat → Int32} {ff : Nat → Int32} {e9 i : Nat} (he9 : e9 ≤ 4885) (hi : i < 2444) : ∀ (k : Nat) (cnt a : Nat) (ok fi ek : Int32) (ev : Int64) (fst : Bool) (lb : List (Int32 × Int64)) (H : Heap) (locs : List Loc) (ls : Array Slot), a ≤ e9 → fi = (if fst = true then 1 else 0) → pe_bl tf e9 e9 fst ek a = some lb → k ≤ lb.length → cnt + k = i + 1 → lv_has ls 5 [(4, .int (nI cnt)), (0, .ref (ad 0)), (2, .int (nI i))] → va_P (dC, dI) vwCl (xw ad ca kf vf bf w op ln (nI a) (nI e9) ok tf nb ef ff fi ek ev) H → va_D A (xw ad ca kf vf bf w op ln (nI a) (nI e9) ok tf nb ef ff fi ek ev) → va_S A s.heap H locs → (∀ (x1 x3 x4 x5 : Int32) (x6 : Int64), (k = 0 → x5 = ek) → (0 < k → x5 = (lb.getD (k - 1) (0, 0)).1) → ∀ (H : Heap) (locs : List Loc) (ls : Array Slot), lv_has ls 5 [(0, .ref (ad 0))] → va_P (dC, dI) vwCl (xw ad ca kf vf bf w op ln x1 (nI e9) x3 tf nb ef ff x4 x5 x6) H → va_D A (xw ad ca kf vf bf w op ln x1 (nI e9) x3 tf nb ef ff x4 x5 x6) → va_S A s.heap H locs → W p l e ({ frames := 7, cells := 1, slots := 6, locals := 114 } : Room) s m args below meth c H locs 0 0 Q (F0 m 65 ls [])) → W p l e ({ frames := 7, cells := 1, slots := 6, locals := 114 } : Room) s m args below meth c H locs 0 0 Q (F0 m 42 ls []) := by
  intro k
  induction k with
  | zero =>
    intro cnt a ok fi ek ev fst lb H locs ls ha hfi hlb hkl hck hl hP hD hS kg
    have hl : lv_has ls 5 [(4, .int (nI cnt)), (0, .ref (ad 0)), (2, .int (nI i))] := hl
    refine lv_iload hx hb dX3_key_42 (lv_at hl 0 rfl) ?_
    refine lv_iload_n hx hb dX3_key_44 rfl (lv_at hl 2 rfl) ?_
    refine lv_icmp_gt (tgt := 65) hx hb dX3_key_45 rfl (fun hc => ?_) (fun hc => absurd hc (not_not_intro (nI_lt (by omega) (by omega))))
    exact kg _ _ _ _ _ (fun _ => rfl) (fun z => absurd z (Nat.lt_irrefl 0)) H locs ls (lv_sub hl [1] rfl) hP hD hS
  | succ k ih =>
    intro cnt a ok fi ek ev fst lb H locs ls ha hfi hlb hkl hck hl hP hD hS kg
    have hl : lv_has ls 5 [(4, .int (nI cnt)), (0, .ref (ad 0)), (2, .int (nI i))] := hl
    refine lv_iload hx hb dX3_key_42 (lv_at hl 0 rfl) ?_
    refine lv_iload_n hx hb dX3_key_44 rfl (lv_at hl 2 rfl) ?_
    refine lv_icmp_gt (tgt := 65) hx hb dX3_key_45 rfl (fun hc => absurd hc (by rw [nI_ltI (by omega) (by omega)]; omega)) (fun hc => ?_)
    obtain ⟨h8, k1, v1, a2, lb2, hrd, rfl, hlb2⟩ := pe_bl_inv hlb (by omega)
    refine lv_aload_n hx hb dX3_key_48 rfl (lv_at hl 1 rfl) ?_
    refine va_get (D := (dC, dI)) (ci := 3) (v := .ref (ad 9)) (C := RX3) (T := TX3) (N := 8) (ref := "SortedRun") hx hb hts (xg_u mb_uws_X3) hown hK hP 0 rfl rfl 5 (by decide) (xg_w hts mb_fieldLink_RX3_37) (fun _ h9 => h9) rfl dX3_key_49 ?_
    refine lv_aload_n hx hb dX3_key_52 rfl (lv_at hl 1 rfl) ?_
    refine va_get (D := (dC, dI)) (ci := 3) (v := .ref (ad 4)) (C := RX3) (T := TX3) (N := 8) (ref := "SortedRun") hx hb hts (xg_u mb_uws_X3) hown hK hP 0 rfl rfl 3 (by decide) (xg_w hts mb_fieldLink_RX3_23) (fun _ h9 => h9) rfl dX3_key_53 ?_
    refine xk_v (va_runV (As := [.ref (ad 4)]) (rest := []) ⟨hx, hb, hml, hown, hts⟩ (cX0_readNext_m l dC dI ca ad kf vf bf w op ln ok tf nb ef ff fi ek ev a e9 fst ha (by omega) hfi _) (cwV 1 hts (xg_V mb_methodLink_RX3_110 mb_instanceMethod_yX0_readNext mb_selects_yX0_readNext mb_initialized_RX0 mb_code_yX0_readNext) rfl rfl rfl ⟨rfl, by decide, by decide, by decide +kernel⟩ ⟨Nat.le_of_ble_eq_true rfl, Nat.le_of_ble_eq_true rfl⟩) (xpreV (va_recv (q0 := 9) hK hP rfl rfl) hK hP hD hS hA hE) rfl rfl hl.1 rfl (lv_room (Nat.le_of_ble_eq_true rfl)) dX3_key_56 ⟨Nat.le_of_ble_eq_true rfl, Nat.le_of_ble_eq_true rfl⟩) hD hS hA (fun u H locs hu hP hD hS => ?_)
    have hP : va_P (dC, dI) vwCl (xw ad ca kf vf bf w op ln (nI u.1) (nI e9) u.2.1 tf nb ef ff 0 u.2.2.1 u.2.2.2) H := hP
    have hD : va_D A (xw ad ca kf vf bf w op ln (nI u.1) (nI e9) u.2.1 tf nb ef ff 0 u.2.2.1 u.2.2.2) := hD
    obtain ⟨a1, o1, kq, vq⟩ := u
    obtain ⟨h1, h2, hq1⟩ := hu
    dsimp only at h1 h2 hq1 hP hD
    have hq2 : k1 = kq ∧ v1 = vq ∧ a2 = a1 := by
      rcases hq1 with ⟨z, -⟩ | ⟨z, -⟩
      · rw [hrd] at z; cases z; exact ⟨rfl, rfl, rfl⟩
      · rw [hrd] at z; cases z
    obtain ⟨rfl, rfl, rfl⟩ := hq2
    refine lv_iinc (k := 0) (v := nI (cnt + 1)) hx hb dX3_key_59 hl rfl (nI_1 cnt) (by decide) rfl (fun ls hl => ?_)
    have hl : lv_has ls 5 [(4, .int (nI (cnt + 1))), (0, .ref (ad 0)), (2, .int (nI i))] := hl
    refine lv_goto (tgt := 42) hx hb dX3_key_62 rfl ?_
    refine ih (cnt + 1) a2 o1 0 k1 v1 false lb2 _ _ _ h2 rfl hlb2 (by simpa using hkl) (by omega) hl hP hD hS ?_
    intro x1 x3 x4 x5 x6 hx0 hx1 H locs ls hl hP hD hS
    refine kg x1 x3 x4 x5 x6 (fun z => absurd z (Nat.succ_ne_zero k)) (fun _ => ?_) H locs ls hl hP hD hS
    cases k with
    | zero => exact hx0 rfl
    | succ k => exact hx1 (Nat.succ_pos k)

set_option maxHeartbeats 4000000 in
set_option maxRecDepth 100000 in
theorem cX3_key_m (l : Launch) (hnt : l.stackTraces = false) (dC : Nat → ClassId) (dI : Nat → Nat → Nat) (ca : Nat → ClassId) (ad : Nat → Nat) (kf : Nat → Int32) (vf : Nat → Int64) (bf : Nat → Int32) (w : Int32) (op : Int32) (ln : Int32) (nx : Int32) (en : Int32) (ok : Int32) (tf : Nat → Int32) (nb : Int32) (ef : Nat → Int32) (ff : Nat → Int32) (fi : Int32) (ek : Int32) (ev : Int64) (lr : List (Nat × Nat)) (x y : Int32) (hopen : ¬ op = 0 → nb = nI lr.length ∧ lr.length ≤ 2444 ∧ px_rows 0 0 lr ef ff ∧ px_sum lr ≤ 4889) : ∀ sz : Nat, vx_Met l yX3_key wsX3_key ({ frames := 7, cells := 1, slots := 6, locals := 114 } : Room) (va_Pc [.ref (ad 0), .int x, .int y] (xP (dC, dI) (xt ca) (xw ad ca kf vf bf w op ln nx en ok tf nb ef ff fi ek ev) sz)) (va_Qi (S := Int32 × Int32 × Int32 × Int32 × Int32 × Int64) (fun r u => ¬ op = 0 ∧ ∃ j, j < lr.length ∧ x = nI j ∧ ∃ lb i, pe_of tf lr j = some lb ∧ i < lb.length ∧ y = nI i ∧ r = (lb.getD i (0, 0)).1) (fun u t => xB (dC, dI) (xt ca) (va_A (xw ad ca kf vf bf w op ln nx en ok tf nb ef ff fi ek ev) sz) (xw ad ca kf vf bf w op ln u.1 u.2.1 u.2.2.1 tf nb ef ff u.2.2.2.1 u.2.2.2.2.1 u.2.2.2.2.2) t ∧ t.heap.size = sz) (va_A (xw ad ca kf vf bf w op ln nx en ok tf nb ef ff fi ek ev) sz)) (xX (S := Int32 × Int32 × Int32 × Int32 × Int32 × Int64) (dC, dI) (xt ca) (va_A (xw ad ca kf vf bf w op ln nx en ok tf nb ef ff fi ek ev) sz) (fun E u => (E = "java/lang/IllegalStateException" ∧ op = 0) ∨ (¬ op = 0 ∧ E = "java/lang/IndexOutOfBoundsException" ∧ sp_in x lr.length = false) ∨ (¬ op = 0 ∧ E = "java/lang/ArithmeticException" ∧ ∃ j, j < lr.length ∧ x = nI j ∧ pe_of tf lr j = none) ∨ (¬ op = 0 ∧ E = "java/lang/IndexOutOfBoundsException" ∧ ∃ j, j < lr.length ∧ x = nI j ∧ ∃ lb, pe_of tf lr j = some lb ∧ sp_in y lb.length = false)) (fun u => xw ad ca kf vf bf w op ln u.1 u.2.1 u.2.2.1 tf nb ef ff u.2.2.2.1 u.2.2.2.2.1 u.2.2.2.2.2)) 1 6 (va_A (xw ad ca kf vf bf w op ln nx en ok tf nb ef ff fi ek ev) sz) := by
  intro sz
  refine vx_ofW (cc := cX3_key) (maxL := 5) (ret := (some .int)) (by decide) rfl ?_
  intro p e s m args below meth c s₁ B hml hno hv
  obtain ⟨rfl, hsz, hP, hK, hD0, hE⟩ := hv
  have hx := B.exec
  have hb := B.bytes
  have hr := B.returns
  have hts := atoms_spec (ws := wsX3_key) B.pre
  have hown : s.vm.findClass RX3 = some m.cls := findClass_of_methodNamed B.named
  have hlocks := B.notSynchronized
  subst hsz
  have hD := hD0.self (sz := s.heap.size)
  generalize hAe : va_A (xw ad ca kf vf bf w op ln nx en ok tf nb ef ff fi ek ev) s.heap.size = A at hD hE ⊢
  have hA : ∀ q : Nat, s.heap.size ≤ q → A q := fun q h => by rw [← hAe]; exact Or.inr h
  have hS : va_S A s.heap s.heap [] := va_S.rf
  have hl := lv_entry ([.ref (ad 0), .int x, .int y]) (n := 5) (Nat.le_of_ble_eq_true rfl)
  rw [lg_entry_eq]
  generalize (lg_sl ([.ref (ad 0), .int x, .int y]) ++ List.replicate (5 - (lg_sl ([.ref (ad 0), .int x, .int y])).length) Slot.unset).toArray = ls at hl ⊢
  have hl : lv_has ls 5 [(0, .ref (ad 0)), (1, .int x), (2, .int y)] := hl
  refine lv_aload_n hx hb dX3_key_0 rfl (lv_at hl 0 rfl) ?_
  refine x_size hS (fun hz => ?_)
  refine xx_v (vx_runV (As := []) (rest := []) ⟨hx, hb, hml, hown, hts⟩ (cX3_requireOpen_m l hnt dC dI ca ad kf vf bf w op ln nx en ok tf nb ef ff fi ek ev  _) (cwV 0 hts (xg_V mb_methodLink_RX3_93 mb_instanceMethod_yX3_requireOpen mb_selects_yX3_requireOpen mb_initialized_RX3 mb_code_yX3_requireOpen) rfl rfl rfl ⟨rfl, by decide, by decide, by decide +kernel⟩ ⟨Nat.le_of_ble_eq_true rfl, Nat.le_of_ble_eq_true rfl⟩) (xpreV (va_recv (q0 := 0) hK hP rfl rfl) hK hP hD hS hA hE) rfl rfl hl.1 rfl (lv_room (Nat.le_of_ble_eq_true rfl)) dX3_key_1 ⟨Nat.le_of_ble_eq_true rfl, Nat.le_of_ble_eq_true rfl⟩) hD hS hA hz (fun E ce q9 u H locs hX hP hD hS hce hcv hcl => ?_) (fun u H locs hop hP hD hS hz => ?_)
  · exact xx_out (nx, en, ok, fi, ek, ev) hno hlocks (Or.inl hX) hce hcv hcl hK hP hD hS (Nat.le_refl _) (Nat.le_refl _)
  have hP : va_P (dC, dI) vwCl (xw ad ca kf vf bf w op ln nx en ok tf nb ef ff fi ek ev) H := hP
  have hD : va_D A (xw ad ca kf vf bf w op ln nx en ok tf nb ef ff fi ek ev) := hD
  obtain ⟨hnb, hlen, hrows, hsum⟩ := hopen hop
  subst hnb
  refine lv_aload_n hx hb dX3_key_4 rfl (lv_at hl 0 rfl) ?_
  refine lv_iload_n hx hb dX3_key_5 rfl (lv_at hl 1 rfl) ?_
  refine x_size hS (fun hz => ?_)
  refine xx_v (vx_runV (As := [.int x]) (rest := []) ⟨hx, hb, hml, hown, hts⟩ (cX3_requireBlock_m l hnt dC dI ca ad kf vf bf w op ln nx en ok tf ef ff fi ek ev lr.length x (by omega) _) (cwV 1 hts (xg_V mb_methodLink_RX3_123 mb_instanceMethod_yX3_requireBlock mb_selects_yX3_requireBlock mb_initialized_RX3 mb_code_yX3_requireBlock) rfl rfl rfl ⟨rfl, by decide, by decide, by decide +kernel⟩ ⟨Nat.le_of_ble_eq_true rfl, Nat.le_of_ble_eq_true rfl⟩) (xpreV (va_recv (q0 := 0) hK hP rfl rfl) hK hP hD hS hA hE) rfl rfl hl.1 rfl (lv_room (Nat.le_of_ble_eq_true rfl)) dX3_key_6 ⟨Nat.le_of_ble_eq_true rfl, Nat.le_of_ble_eq_true rfl⟩) hD hS hA hz (fun E ce q9 u H locs hX hP hD hS hce hcv hcl => ?_) (fun u H locs hin hP hD hS hz => ?_)
  · exact xx_out (nx, en, ok, fi, ek, ev) hno hlocks (Or.inr (Or.inl ⟨hop, hX⟩)) hce hcv hcl hK hP hD hS (Nat.le_refl _) (Nat.le_refl _)
  have hP : va_P (dC, dI) vwCl (xw ad ca kf vf bf w op ln nx en ok tf (nI lr.length) ef ff fi ek ev) H := hP
  have hD : va_D A (xw ad ca kf vf bf w op ln nx en ok tf (nI lr.length) ef ff fi ek ev) := hD
  obtain ⟨j, hj, rfl⟩ := (sp_in_iff (by omega)).mp hin
  obtain ⟨hbp, hbq⟩ := px_rows_at hrows hj
  have hle := px_take_le lr j
  have hle2 := px_sum_take lr (j + 1)
  refine lv_aload_n hx hb dX3_key_9 rfl (lv_at hl 0 rfl) ?_
  refine lv_iload_n hx hb dX3_key_10 rfl (lv_at hl 1 rfl) ?_
  refine x_size hS (fun hz => ?_)
  refine xx_i (vx_runV (As := [.int (nI j)]) (rest := []) ⟨hx, hb, hml, hown, hts⟩ (cX3_countRightEntries_m l hnt dC dI ca ad kf vf bf w op ln nx en ok tf (nI lr.length) ef ff fi ek ev (px_sum (lr.take j)) (px_sum (lr.take (j + 1))) j (by omega) hbp hbq hle (by omega) _) (cwV 1 hts (xg_V mb_methodLink_RX3_104 mb_instanceMethod_yX3_countRightEntries mb_selects_yX3_countRightEntries mb_initialized_RX3 mb_code_yX3_countRightEntries) rfl rfl rfl ⟨rfl, by decide, by decide, by decide +kernel⟩ ⟨Nat.le_of_ble_eq_true rfl, Nat.le_of_ble_eq_true rfl⟩) (xpreV (va_recv (q0 := 0) hK hP rfl rfl) hK hP hD hS hA hE) rfl rfl hl.1 rfl (lv_room (Nat.le_of_ble_eq_true rfl)) dX3_key_11 ⟨Nat.le_of_ble_eq_true rfl, Nat.le_of_ble_eq_true rfl⟩) hD hS hA hz (fun E ce q9 u H locs hX hP hD hS hce hcv hcl => ?_) (fun r u H locs hu hP hD hS hz => ?_)
  · exact xx_out u hno hlocks (Or.inr (Or.inr (Or.inl ⟨hop, hX.1, j, hj, rfl, hX.2⟩))) hce hcv hcl hK hP hD hS (Nat.le_refl _) (Nat.le_refl _)
  have hP : va_P (dC, dI) vwCl (xw ad ca kf vf bf w op ln u.1 u.2.1 u.2.2.1 tf (nI lr.length) ef ff u.2.2.2.1 u.2.2.2.2.1 u.2.2.2.2.2) H := hP
  have hD : va_D A (xw ad ca kf vf bf w op ln u.1 u.2.1 u.2.2.1 tf (nI lr.length) ef ff u.2.2.2.1 u.2.2.2.2.1 u.2.2.2.2.2) := hD
  obtain ⟨x1, x2, x3, x4, x5, x6⟩ := u
  dsimp only at hP hD
  obtain ⟨lb, hlb, rfl, hlbl⟩ := hu
  refine lv_istore_n hx hb dX3_key_14 rfl hl (by decide) rfl (fun ls hl => ?_)
  have hl : lv_has ls 5 [(3, .int (nI lb.length)), (0, .ref (ad 0)), (1, .int (nI j)), (2, .int y)] := hl
  refine lv_iload_n hx hb dX3_key_15 rfl (lv_at hl 3 rfl) ?_
  refine lv_if_lt (tgt := 24) hx hb dX3_key_16 rfl (fun hc => ?_) (fun hc => ?_)
  · obtain ⟨sa, hstr⟩ := hE.2.2.2.1 _ (List.mem_of_getElem? (i := 10) rfl)
    exact xx_throw (x1, x2, x3, x4, x5, x6) hx hb hnt hown (by decide +kernel) (xg_w hts mb_classLink_RX3_126) (xg_w hts mb_initialized_IndexOutOfBoundsException) hstr xh_IOB_at xh_IOB_good xh_IOB_on hE (hl.1.trans hml.symm) dX3_key_24 dX3_key_27 dX3_key_28 dX3_key_30 dX3_key_33 hno ⟨Nat.le_of_ble_eq_true rfl, Nat.le_of_ble_eq_true rfl, Nat.le_of_ble_eq_true rfl, Nat.le_of_ble_eq_true rfl⟩ hlocks (Or.inr (Or.inr (Or.inr ⟨hop, rfl, j, hj, rfl, lb, hlb, by unfold sp_in; rw [decide_eq_false (Int32.not_le.mpr hc)]; rfl⟩))) hK hP hD hS (Nat.le_refl _) (Nat.le_refl _)
  · refine lv_iload_n hx hb dX3_key_19 rfl (lv_at hl 3 rfl) ?_
    refine lv_iload_n hx hb dX3_key_20 rfl (lv_at hl 0 rfl) ?_
    refine lv_icmp_lt (tgt := 34) hx hb dX3_key_21 rfl (fun hc2 => ?_) (fun hc2 => ?_)
    · obtain ⟨i, hi, rfl⟩ := (sp_in_iff (n := lb.length) (by omega)).mp (by unfold sp_in; rw [decide_eq_true (Int32.not_lt.mp hc), decide_eq_true hc2]; rfl)
      refine lv_aload_n hx hb dX3_key_34 rfl (lv_at hl 1 rfl) ?_
      refine lv_iload_n hx hb dX3_key_35 rfl (lv_at hl 2 rfl) ?_
      refine xk_v (va_runV (As := [.int (nI j)]) (rest := []) ⟨hx, hb, hml, hown, hts⟩ (cX3_startReading_m l dC dI ca ad kf vf bf w op ln x1 x2 x3 tf (nI lr.length) ef ff x4 x5 x6 j (by omega) _) (cwV 1 hts (xg_V mb_methodLink_RX3_107 mb_instanceMethod_yX3_startReading mb_selects_yX3_startReading mb_initialized_RX3 mb_code_yX3_startReading) rfl rfl rfl ⟨rfl, by decide, by decide, by decide +kernel⟩ ⟨Nat.le_of_ble_eq_true rfl, Nat.le_of_ble_eq_true rfl⟩) (xpreV (va_recv (q0 := 0) hK hP rfl rfl) hK hP hD hS hA hE) rfl rfl hl.1 rfl (lv_room (Nat.le_of_ble_eq_true rfl)) dX3_key_36 ⟨Nat.le_of_ble_eq_true rfl, Nat.le_of_ble_eq_true rfl⟩) hD hS hA (fun u H locs hu hP hD hS => ?_)
      have hP : va_P (dC, dI) vwCl (xw ad ca kf vf bf w op ln (px_st ef j) (ef j - nI 4) 1 tf (nI lr.length) ef ff 1 x5 x6) H := hP
      have hD : va_D A (xw ad ca kf vf bf w op ln (px_st ef j) (ef j - nI 4) 1 tf (nI lr.length) ef ff 1 x5 x6) := hD
      obtain ⟨h44, hbl⟩ := pe_of_some hlb
      rw [hbp, hbq, pk_sub (by omega)] at hP hD
      rw [pe_bl_first tf _ 0 x5] at hbl
      refine lv_iconst (v := nI 0) hx hb dX3_key_39 (by decide) ?_
      refine lv_istore hx hb dX3_key_40 hl (by decide) rfl (fun ls hl => ?_)
      have hl : lv_has ls 5 [(4, .int (nI 0)), (3, .int (nI lb.length)), (0, .ref (ad 0)), (1, .int (nI j)), (2, .int (nI i))] := hl
      refine lpX3_key_go hx hb hml hown hts hK hA hE (e9 := px_sum (lr.take (j + 1)) - 4) (i := i) (by omega) (by omega) (i + 1) 0 (px_sum (lr.take j)) 1 1 x5 x6 true lb _ _ _ (by omega) rfl hbl hi (by omega) (lv_sub hl [0, 2, 4] rfl) hP hD hS ?_
      intro y1 y3 y4 y5 y6 _ hy H locs ls hl hP hD hS
      refine lv_aload_n hx hb dX3_key_65 rfl (lv_at hl 0 rfl) ?_
      refine va_get (D := (dC, dI)) (ci := 3) (v := .ref (ad 9)) (C := RX3) (T := TX3) (N := 8) (ref := "SortedRun") hx hb hts (xg_u mb_uws_X3) hown hK hP 0 rfl rfl 5 (by decide) (xg_w hts mb_fieldLink_RX3_37) (fun _ h9 => h9) rfl dX3_key_66 ?_
      refine va_getN (host := "SortedRun") (D := (dC, dI)) (ci := 0) (v := .int y5) (C := RX0) (T := TX0) (N := 3) (ref := "SortedRun$Entry") hx hb hts (xg_u mb_uws_X0) hown hK hP 9 rfl rfl 1 (by decide) (xn_w (w := .fieldLinkNest RX3 114 "SortedRun$Entry" "key" "I" "SortedRun") (i := 79) hE rfl rfl rfl) (fun _ h9 => h9) rfl dX3_key_69 ?_
      refine x_size hS (fun hz => ?_)
      refine vx_ret (W.widen (k := 1) (n := 6) (Nat.zero_le _) (Nat.zero_le _) ?_)
      exact W.iret (v := y5) hx hb hr (fun t ht hW => ⟨⟨y5, (y1, nI (px_sum (lr.take (j + 1)) - 4), y3, y4, y5, y6), rfl, ⟨hop, j, hj, rfl, lb, i, hlb, hi, rfl, hy (Nat.succ_pos i)⟩, ⟨by rw [ht]; exact hP, va_K.moved hW.alike hK, hD⟩, (congrArg Array.size ht).trans hz⟩, hS.F ht⟩) hS.2.2 dX3_key_72
    · obtain ⟨sa, hstr⟩ := hE.2.2.2.1 _ (List.mem_of_getElem? (i := 10) rfl)
      exact xx_throw (x1, x2, x3, x4, x5, x6) hx hb hnt hown (by decide +kernel) (xg_w hts mb_classLink_RX3_126) (xg_w hts mb_initialized_IndexOutOfBoundsException) hstr xh_IOB_at xh_IOB_good xh_IOB_on hE (hl.1.trans hml.symm) dX3_key_24 dX3_key_27 dX3_key_28 dX3_key_30 dX3_key_33 hno ⟨Nat.le_of_ble_eq_true rfl, Nat.le_of_ble_eq_true rfl, Nat.le_of_ble_eq_true rfl, Nat.le_of_ble_eq_true rfl⟩ hlocks (Or.inr (Or.inr (Or.inr ⟨hop, rfl, j, hj, rfl, lb, hlb, by unfold sp_in; rw [decide_eq_false hc2, Bool.and_false]⟩))) hK hP hD hS (Nat.le_refl _) (Nat.le_refl _)

set_option maxHeartbeats 4000000 in
set_option maxRecDepth 100000 in
theorem lpX3_get_go {p : Program} {l : Launch} {e : Env} {s : State} {m : MethodId} {args : Array Value} {below : List Frame} {meth : Method} {c : Code} {Q : State → Prop} {A : Nat → Prop} {dC : Nat → ClassId} {dI : Nat → Nat → Nat} {ca : Nat → ClassId} {ad : Nat → Nat} (hx : p.tables.exec = Jvm.exec) (hb : c.code = cX3_get) (hml : c.maxLocals = 5) (hown : s.vm.findClass RX3 = some m.cls) (hts : ∀ w ∈ wsX3_get, w.before args s = true) (hK : va_K (dC, dI) vwCl (xt ca) s) (hA : ∀ q : Nat, s.heap.size ≤ q → A q) (hE : xn_E A s) {kf : Nat → Int32} {vf : Nat → Int64} {bf : Nat → Int32} {w : Int32} {op : Int32} {ln : Int32} {tf : Nat → Int32} {nb : Int32} {ef : Nat → Int32} {ff : Nat → Int32} {e9 n : Nat} {key : Int32} (he9 : e9 ≤ 4885) (hn : n ≤ 2444) : ∀ (k : Nat) (cnt a : Nat) (ok fi ek : Int32) (ev : Int64) (fst : Bool) (lb : List (Int32 × Int64)) (H : Heap) (locs : List Loc) (ls : Array Slot), a ≤ e9 → fi = (if fst = true then 1 else 0) → pe_bl tf e9 e9 fst ek a = some lb → lb.length = k → cnt + k = n → lv_has ls 5 [(4, .int (nI cnt)), (0, .ref (ad 0)), (1, .int key), (3, .int (nI n))] → va_P (dC, dI) vwCl (xw ad ca kf vf bf w op ln (nI a) (nI e9) ok tf nb ef ff fi ek ev) H → va_D A (xw ad ca kf vf bf w op ln (nI a) (nI e9) ok tf nb ef ff fi ek ev) → va_S A s.heap H locs → (∀ (x1 x3 x4 x5 : Int32) (x6 : Int64), sp_find lb key = some x6 → ∀ (H : Heap) (locs : List Loc) (ls : Array Slot), lv_has ls 5 [(0, .ref (ad 0))] → va_P (dC, dI) vwCl (xw ad ca kf vf bf w op ln x1 (nI e9) x3 tf nb ef ff x4 x5 x6) H → va_D A (xw ad ca kf vf bf w op ln x1 (nI e9) x3 tf nb ef ff x4 x5 x6) → va_S A s.heap H locs → W p l e ({ frames := 7, cells := 1, slots := 6, locals := 114 } : Room) s m args below meth c H locs 0 0 Q (F0 m 70 ls [])) → (∀ (x1 x3 x4 x5 : Int32) (x6 : Int64), sp_find lb key = none → ∀ (H : Heap) (locs : List Loc) (ls : Array Slot), lv_has ls 5 [(0, .ref (ad 0))] → va_P (dC, dI) vwCl (xw ad ca kf vf bf w op ln x1 (nI e9) x3 tf nb ef ff x4 x5 x6) H → va_D A (xw ad ca kf vf bf w op ln x1 (nI e9) x3 tf nb ef ff x4 x5 x6) → va_S A s.heap H locs → W p l e ({ frames := 7, cells := 1, slots := 6, locals := 114 } : Room) s m args below meth c H locs 0 0 Q (F0 m 84 ls [])) → W p l e ({ frames := 7, cells := 1, slots := 6, locals := 114 } : Room) s m args below meth c H locs 0 0 Q (F0 m 42 ls []) := by
  intro k
  induction k with
  | zero =>
    intro cnt a ok fi ek ev fst lb H locs ls ha hfi hlb hkl hck hl hP hD hS kf1 kn
    have hl : lv_has ls 5 [(4, .int (nI cnt)), (0, .ref (ad 0)), (1, .int key), (3, .int (nI n))] := hl
    obtain rfl := List.eq_nil_of_length_eq_zero hkl
    refine lv_iload hx hb dX3_get_42 (lv_at hl 0 rfl) ?_
    refine lv_iload_n hx hb dX3_get_44 rfl (lv_at hl 3 rfl) ?_
    refine lv_icmp_ge (tgt := 84) hx hb dX3_get_45 rfl (fun hc => ?_) (fun hc => absurd hc (not_not_intro (nI_le (by omega) (by omega))))
    exact kn _ _ _ _ _ rfl H locs ls (lv_sub hl [1] rfl) hP hD hS
  | succ k ih =>
    intro cnt a ok fi ek ev fst lb H locs ls ha hfi hlb hkl hck hl hP hD hS kf1 kn
    have hl : lv_has ls 5 [(4, .int (nI cnt)), (0, .ref (ad 0)), (1, .int key), (3, .int (nI n))] := hl
    refine lv_iload hx hb dX3_get_42 (lv_at hl 0 rfl) ?_
    refine lv_iload_n hx hb dX3_get_44 rfl (lv_at hl 3 rfl) ?_
    refine lv_icmp_ge (tgt := 84) hx hb dX3_get_45 rfl (fun hc => absurd hc (by rw [nI_leI (by omega) (by omega)]; omega)) (fun hc => ?_)
    obtain ⟨h8, k1, v1, a2, lb2, hrd, rfl, hlb2⟩ := pe_bl_inv hlb (by omega)
    refine lv_aload_n hx hb dX3_get_48 rfl (lv_at hl 1 rfl) ?_
    refine va_get (D := (dC, dI)) (ci := 3) (v := .ref (ad 9)) (C := RX3) (T := TX3) (N := 8) (ref := "SortedRun") hx hb hts (xg_u mb_uws_X3) hown hK hP 0 rfl rfl 5 (by decide) (xg_w hts mb_fieldLink_RX3_37) (fun _ h9 => h9) rfl dX3_get_49 ?_
    refine lv_aload_n hx hb dX3_get_52 rfl (lv_at hl 1 rfl) ?_
    refine va_get (D := (dC, dI)) (ci := 3) (v := .ref (ad 4)) (C := RX3) (T := TX3) (N := 8) (ref := "SortedRun") hx hb hts (xg_u mb_uws_X3) hown hK hP 0 rfl rfl 3 (by decide) (xg_w hts mb_fieldLink_RX3_23) (fun _ h9 => h9) rfl dX3_get_53 ?_
    refine xk_v (va_runV (As := [.ref (ad 4)]) (rest := []) ⟨hx, hb, hml, hown, hts⟩ (cX0_readNext_m l dC dI ca ad kf vf bf w op ln ok tf nb ef ff fi ek ev a e9 fst ha (by omega) hfi _) (cwV 1 hts (xg_V mb_methodLink_RX3_110 mb_instanceMethod_yX0_readNext mb_selects_yX0_readNext mb_initialized_RX0 mb_code_yX0_readNext) rfl rfl rfl ⟨rfl, by decide, by decide, by decide +kernel⟩ ⟨Nat.le_of_ble_eq_true rfl, Nat.le_of_ble_eq_true rfl⟩) (xpreV (va_recv (q0 := 9) hK hP rfl rfl) hK hP hD hS hA hE) rfl rfl hl.1 rfl (lv_room (Nat.le_of_ble_eq_true rfl)) dX3_get_56 ⟨Nat.le_of_ble_eq_true rfl, Nat.le_of_ble_eq_true rfl⟩) hD hS hA (fun u H locs hu hP hD hS => ?_)
    have hP : va_P (dC, dI) vwCl (xw ad ca kf vf bf w op ln (nI u.1) (nI e9) u.2.1 tf nb ef ff 0 u.2.2.1 u.2.2.2) H := hP
    have hD : va_D A (xw ad ca kf vf bf w op ln (nI u.1) (nI e9) u.2.1 tf nb ef ff 0 u.2.2.1 u.2.2.2) := hD
    obtain ⟨a1, o1, kq, vq⟩ := u
    obtain ⟨h1, h2, hq1⟩ := hu
    dsimp only at h1 h2 hq1 hP hD
    have hq2 : k1 = kq ∧ v1 = vq ∧ a2 = a1 := by
      rcases hq1 with ⟨z, -⟩ | ⟨z, -⟩
      · rw [hrd] at z; cases z; exact ⟨rfl, rfl, rfl⟩
      · rw [hrd] at z; cases z
    obtain ⟨rfl, rfl, rfl⟩ := hq2
    refine lv_aload_n hx hb dX3_get_59 rfl (lv_at hl 1 rfl) ?_
    refine va_get (D := (dC, dI)) (ci := 3) (v := .ref (ad 9)) (C := RX3) (T := TX3) (N := 8) (ref := "SortedRun") hx hb hts (xg_u mb_uws_X3) hown hK hP 0 rfl rfl 5 (by decide) (xg_w hts mb_fieldLink_RX3_37) (fun _ h9 => h9) rfl dX3_get_60 ?_
    refine va_getN (host := "SortedRun") (D := (dC, dI)) (ci := 0) (v := .int k1) (C := RX0) (T := TX0) (N := 3) (ref := "SortedRun$Entry") hx hb hts (xg_u mb_uws_X0) hown hK hP 9 rfl rfl 1 (by decide) (xn_w (w := .fieldLinkNest RX3 114 "SortedRun$Entry" "key" "I" "SortedRun") (i := 79) hE rfl rfl rfl) (fun _ h9 => h9) rfl dX3_get_63 ?_
    refine lv_iload_n hx hb dX3_get_66 rfl (lv_at hl 2 rfl) ?_
    refine lv_icmp_ne (tgt := 78) hx hb dX3_get_67 rfl (fun hc => ?_) (fun hc => ?_)
    · have hf9 : sp_find ((k1, v1) :: lb2) key = sp_find lb2 key := by conv => lhs; unfold sp_find; rw [if_neg hc]
      rw [hf9] at kf1 kn
      refine lv_iinc (k := 0) (v := nI (cnt + 1)) hx hb dX3_get_78 hl rfl (nI_1 cnt) (by decide) rfl (fun ls hl => ?_)
      have hl : lv_has ls 5 [(4, .int (nI (cnt + 1))), (0, .ref (ad 0)), (1, .int key), (3, .int (nI n))] := hl
      refine lv_goto (tgt := 42) hx hb dX3_get_81 rfl ?_
      exact ih (cnt + 1) a2 o1 0 k1 v1 false lb2 _ _ _ h2 rfl hlb2 (by simpa using hkl) (by omega) hl hP hD hS kf1 kn
    · exact kf1 _ _ _ _ v1 (by unfold sp_find; rw [if_pos hc]) H locs ls (lv_sub hl [1] rfl) hP hD hS

set_option maxHeartbeats 4000000 in
set_option maxRecDepth 100000 in
theorem cX3_get_m (l : Launch) (hnt : l.stackTraces = false) (dC : Nat → ClassId) (dI : Nat → Nat → Nat) (ca : Nat → ClassId) (ad : Nat → Nat) (kf : Nat → Int32) (vf : Nat → Int64) (bf : Nat → Int32) (w : Int32) (op : Int32) (ln : Int32) (nx : Int32) (en : Int32) (ok : Int32) (tf : Nat → Int32) (nb : Int32) (ef : Nat → Int32) (ff : Nat → Int32) (fi : Int32) (ek : Int32) (ev : Int64) (lr : List (Nat × Nat)) (key : Int32) (hopen : ¬ op = 0 → nb = nI lr.length ∧ lr.length ≤ 2444 ∧ px_rows 0 0 lr ef ff ∧ px_sum lr ≤ 4889) : ∀ sz : Nat, vx_Met l yX3_get wsX3_get ({ frames := 7, cells := 1, slots := 6, locals := 114 } : Room) (va_Pc [.ref (ad 0), .int key] (xP (dC, dI) (xt ca) (xw ad ca kf vf bf w op ln nx en ok tf nb ef ff fi ek ev) sz)) (va_Ql (S := Int32 × Int32 × Int32 × Int32 × Int32 × Int64) (fun r u => ¬ op = 0 ∧ ∃ j lb, px_last (px_kf lr) key lr.length = some j ∧ pe_of tf lr j = some lb ∧ sp_find lb key = some r) (fun u t => xB (dC, dI) (xt ca) (va_A (xw ad ca kf vf bf w op ln nx en ok tf nb ef ff fi ek ev) sz) (xw ad ca kf vf bf w op ln u.1 u.2.1 u.2.2.1 tf nb ef ff u.2.2.2.1 u.2.2.2.2.1 u.2.2.2.2.2) t ∧ t.heap.size = sz) (va_A (xw ad ca kf vf bf w op ln nx en ok tf nb ef ff fi ek ev) sz)) (xX (S := Int32 × Int32 × Int32 × Int32 × Int32 × Int64) (dC, dI) (xt ca) (va_A (xw ad ca kf vf bf w op ln nx en ok tf nb ef ff fi ek ev) sz) (fun E u => (E = "java/lang/IllegalStateException" ∧ op = 0) ∨ (¬ op = 0 ∧ E = "java/util/NoSuchElementException" ∧ px_last (px_kf lr) key lr.length = none) ∨ (¬ op = 0 ∧ E = "java/lang/ArithmeticException" ∧ ∃ j, px_last (px_kf lr) key lr.length = some j ∧ pe_of tf lr j = none) ∨ (¬ op = 0 ∧ E = "java/util/NoSuchElementException" ∧ ∃ j lb, px_last (px_kf lr) key lr.length = some j ∧ pe_of tf lr j = some lb ∧ sp_find lb key = none)) (fun u => xw ad ca kf vf bf w op ln u.1 u.2.1 u.2.2.1 tf nb ef ff u.2.2.2.1 u.2.2.2.2.1 u.2.2.2.2.2)) 1 6 (va_A (xw ad ca kf vf bf w op ln nx en ok tf nb ef ff fi ek ev) sz) := by
  intro sz
  refine vx_ofW (cc := cX3_get) (maxL := 5) (ret := (some .long)) (by decide) rfl ?_
  intro p e s m args below meth c s₁ B hml hno hv
  obtain ⟨rfl, hsz, hP, hK, hD0, hE⟩ := hv
  have hx := B.exec
  have hb := B.bytes
  have hr := B.returns
  have hts := atoms_spec (ws := wsX3_get) B.pre
  have hown : s.vm.findClass RX3 = some m.cls := findClass_of_methodNamed B.named
  have hlocks := B.notSynchronized
  subst hsz
  have hD := hD0.self (sz := s.heap.size)
  generalize hAe : va_A (xw ad ca kf vf bf w op ln nx en ok tf nb ef ff fi ek ev) s.heap.size = A at hD hE ⊢
  have hA : ∀ q : Nat, s.heap.size ≤ q → A q := fun q h => by rw [← hAe]; exact Or.inr h
  have hS : va_S A s.heap s.heap [] := va_S.rf
  have hl := lv_entry ([.ref (ad 0), .int key]) (n := 5) (Nat.le_of_ble_eq_true rfl)
  rw [lg_entry_eq]
  generalize (lg_sl ([.ref (ad 0), .int key]) ++ List.replicate (5 - (lg_sl ([.ref (ad 0), .int key])).length) Slot.unset).toArray = ls at hl ⊢
  have hl : lv_has ls 5 [(0, .ref (ad 0)), (1, .int key)] := hl
  refine lv_aload_n hx hb dX3_get_0 rfl (lv_at hl 0 rfl) ?_
  refine x_size hS (fun hz => ?_)
  refine xx_v (vx_runV (As := []) (rest := []) ⟨hx, hb, hml, hown, hts⟩ (cX3_requireOpen_m l hnt dC dI ca ad kf vf bf w op ln nx en ok tf nb ef ff fi ek ev  _) (cwV 0 hts (xg_V mb_methodLink_RX3_93 mb_instanceMethod_yX3_requireOpen mb_selects_yX3_requireOpen mb_initialized_RX3 mb_code_yX3_requireOpen) rfl rfl rfl ⟨rfl, by decide, by decide, by decide +kernel⟩ ⟨Nat.le_of_ble_eq_true rfl, Nat.le_of_ble_eq_true rfl⟩) (xpreV (va_recv (q0 := 0) hK hP rfl rfl) hK hP hD hS hA hE) rfl rfl hl.1 rfl (lv_room (Nat.le_of_ble_eq_true rfl)) dX3_get_1 ⟨Nat.le_of_ble_eq_true rfl, Nat.le_of_ble_eq_true rfl⟩) hD hS hA hz (fun E ce q9 u H locs hX hP hD hS hce hcv hcl => ?_) (fun u H locs hop hP hD hS hz => ?_)
  · exact xx_out (nx, en, ok, fi, ek, ev) hno hlocks (Or.inl hX) hce hcv hcl hK hP hD hS (Nat.le_refl _) (Nat.le_refl _)
  have hP : va_P (dC, dI) vwCl (xw ad ca kf vf bf w op ln nx en ok tf nb ef ff fi ek ev) H := hP
  have hD : va_D A (xw ad ca kf vf bf w op ln nx en ok tf nb ef ff fi ek ev) := hD
  obtain ⟨hnb, hlen, hrows, hsum⟩ := hopen hop
  subst hnb
  refine lv_aload_n hx hb dX3_get_4 rfl (lv_at hl 0 rfl) ?_
  refine va_get (D := (dC, dI)) (ci := 3) (v := .ref (ad 6)) (C := RX3) (T := TX3) (N := 8) (ref := "SortedRun") hx hb hts (xg_u mb_uws_X3) hown hK hP 0 rfl rfl 4 (by decide) (xg_w hts mb_fieldLink_RX3_30) (fun _ h9 => h9) rfl dX3_get_5 ?_
  refine lv_iload_n hx hb dX3_get_8 rfl (lv_at hl 1 rfl) ?_
  refine xk_i (va_runV (As := [.int key]) (rest := []) ⟨hx, hb, hml, hown, hts⟩ (cX1_lastBlockNotAbove_m l dC dI ca ad kf vf bf w op ln nx en ok tf ef ff fi ek ev lr.length key hlen _) (cwV 1 hts (xg_V mb_methodLink_RX3_96 mb_instanceMethod_yX1_lastBlockNotAbove mb_selects_yX1_lastBlockNotAbove mb_initialized_RX1 mb_code_yX1_lastBlockNotAbove) rfl rfl rfl ⟨rfl, by decide, by decide, by decide +kernel⟩ ⟨Nat.le_of_ble_eq_true rfl, Nat.le_of_ble_eq_true rfl⟩) (xpreV (va_recv (q0 := 6) hK hP rfl rfl) hK hP hD hS hA hE) rfl rfl hl.1 rfl (lv_room (Nat.le_of_ble_eq_true rfl)) dX3_get_9 ⟨Nat.le_of_ble_eq_true rfl, Nat.le_of_ble_eq_true rfl⟩) hD hS hA (fun r u H locs hu hP hD hS => ?_)
  have hP : va_P (dC, dI) vwCl (xw ad ca kf vf bf w op ln nx en ok tf (nI lr.length) ef ff fi ek ev) H := hP
  have hD : va_D A (xw ad ca kf vf bf w op ln nx en ok tf (nI lr.length) ef ff fi ek ev) := hD
  rw [px_last_rows hrows key lr.length (Nat.le_refl _)] at hu
  rcases hu with hu | hu
  · obtain ⟨j, hla, rfl⟩ := hu
    have hj := px_last_lt hla
    obtain ⟨hbp, hbq⟩ := px_rows_at hrows hj
    have hle := px_take_le lr j
    have hle2 := px_sum_take lr (j + 1)
    refine lv_istore_n hx hb dX3_get_12 rfl hl (by decide) rfl (fun ls hl => ?_)
    have hl : lv_has ls 5 [(2, .int (nI j)), (0, .ref (ad 0)), (1, .int key)] := hl
    refine lv_iload_n hx hb dX3_get_13 rfl (lv_at hl 0 rfl) ?_
    refine lv_iconst (v := -1) hx hb dX3_get_14 (by decide) ?_
    refine lv_icmp_ne (tgt := 28) hx hb dX3_get_15 rfl (fun hc => ?_) (fun hc => absurd hc (fun z => absurd (z ▸ nI_pos (n := j) (by omega)) (by decide)))
    refine lv_aload_n hx hb dX3_get_28 rfl (lv_at hl 1 rfl) ?_
    refine lv_iload_n hx hb dX3_get_29 rfl (lv_at hl 0 rfl) ?_
    refine x_size hS (fun hz => ?_)
    refine xx_i (vx_runV (As := [.int (nI j)]) (rest := []) ⟨hx, hb, hml, hown, hts⟩ (cX3_countRightEntries_m l hnt dC dI ca ad kf vf bf w op ln nx en ok tf (nI lr.length) ef ff fi ek ev (px_sum (lr.take j)) (px_sum (lr.take (j + 1))) j (by omega) hbp hbq hle (by omega) _) (cwV 1 hts (xg_V mb_methodLink_RX3_104 mb_instanceMethod_yX3_countRightEntries mb_selects_yX3_countRightEntries mb_initialized_RX3 mb_code_yX3_countRightEntries) rfl rfl rfl ⟨rfl, by decide, by decide, by decide +kernel⟩ ⟨Nat.le_of_ble_eq_true rfl, Nat.le_of_ble_eq_true rfl⟩) (xpreV (va_recv (q0 := 0) hK hP rfl rfl) hK hP hD hS hA hE) rfl rfl hl.1 rfl (lv_room (Nat.le_of_ble_eq_true rfl)) dX3_get_30 ⟨Nat.le_of_ble_eq_true rfl, Nat.le_of_ble_eq_true rfl⟩) hD hS hA hz (fun E ce q9 u H locs hX hP hD hS hce hcv hcl => ?_) (fun r u H locs hu hP hD hS hz => ?_)
    · exact xx_out u hno hlocks (Or.inr (Or.inr (Or.inl ⟨hop, hX.1, j, hla, hX.2⟩))) hce hcv hcl hK hP hD hS (Nat.le_refl _) (Nat.le_refl _)
    have hP : va_P (dC, dI) vwCl (xw ad ca kf vf bf w op ln u.1 u.2.1 u.2.2.1 tf (nI lr.length) ef ff u.2.2.2.1 u.2.2.2.2.1 u.2.2.2.2.2) H := hP
    have hD : va_D A (xw ad ca kf vf bf w op ln u.1 u.2.1 u.2.2.1 tf (nI lr.length) ef ff u.2.2.2.1 u.2.2.2.2.1 u.2.2.2.2.2) := hD
    obtain ⟨x1, x2, x3, x4, x5, x6⟩ := u
    dsimp only at hP hD
    obtain ⟨lb, hlb, rfl, hlbl⟩ := hu
    refine lv_istore_n hx hb dX3_get_33 rfl hl (by decide) rfl (fun ls hl => ?_)
    have hl : lv_has ls 5 [(3, .int (nI lb.length)), (2, .int (nI j)), (0, .ref (ad 0)), (1, .int key)] := hl
    refine lv_aload_n hx hb dX3_get_34 rfl (lv_at hl 2 rfl) ?_
    refine lv_iload_n hx hb dX3_get_35 rfl (lv_at hl 1 rfl) ?_
    refine xk_v (va_runV (As := [.int (nI j)]) (rest := []) ⟨hx, hb, hml, hown, hts⟩ (cX3_startReading_m l dC dI ca ad kf vf bf w op ln x1 x2 x3 tf (nI lr.length) ef ff x4 x5 x6 j (by omega) _) (cwV 1 hts (xg_V mb_methodLink_RX3_107 mb_instanceMethod_yX3_startReading mb_selects_yX3_startReading mb_initialized_RX3 mb_code_yX3_startReading) rfl rfl rfl ⟨rfl, by decide, by decide, by decide +kernel⟩ ⟨Nat.le_of_ble_eq_true rfl, Nat.le_of_ble_eq_true rfl⟩) (xpreV (va_recv (q0 := 0) hK hP rfl rfl) hK hP hD hS hA hE) rfl rfl hl.1 rfl (lv_room (Nat.le_of_ble_eq_true rfl)) dX3_get_36 ⟨Nat.le_of_ble_eq_true rfl, Nat.le_of_ble_eq_true rfl⟩) hD hS hA (fun u H locs hu hP hD hS => ?_)
    have hP : va_P (dC, dI) vwCl (xw ad ca kf vf bf w op ln (px_st ef j) (ef j - nI 4) 1 tf (nI lr.length) ef ff 1 x5 x6) H := hP
    have hD : va_D A (xw ad ca kf vf bf w op ln (px_st ef j) (ef j - nI 4) 1 tf (nI lr.length) ef ff 1 x5 x6) := hD
    obtain ⟨h44, hbl⟩ := pe_of_some hlb
    rw [hbp, hbq, pk_sub (by omega)] at hP hD
    rw [pe_bl_first tf _ 0 x5] at hbl
    refine lv_iconst (v := nI 0) hx hb dX3_get_39 (by decide) ?_
    refine lv_istore hx hb dX3_get_40 hl (by decide) rfl (fun ls hl => ?_)
    have hl : lv_has ls 5 [(4, .int (nI 0)), (3, .int (nI lb.length)), (2, .int (nI j)), (0, .ref (ad 0)), (1, .int key)] := hl
    refine lpX3_get_go hx hb hml hown hts hK hA hE (e9 := px_sum (lr.take (j + 1)) - 4) (n := lb.length) (key := key) (by omega) (by omega) lb.length 0 (px_sum (lr.take j)) 1 1 x5 x6 true lb _ _ _ (by omega) rfl hbl rfl (by omega) (lv_sub hl [0, 3, 4, 1] rfl) hP hD hS ?_ ?_
    · intro y1 y3 y4 y5 y6 hy H locs ls hl hP hD hS
      refine lv_aload_n hx hb dX3_get_70 rfl (lv_at hl 0 rfl) ?_
      refine va_get (D := (dC, dI)) (ci := 3) (v := .ref (ad 9)) (C := RX3) (T := TX3) (N := 8) (ref := "SortedRun") hx hb hts (xg_u mb_uws_X3) hown hK hP 0 rfl rfl 5 (by decide) (xg_w hts mb_fieldLink_RX3_37) (fun _ h9 => h9) rfl dX3_get_71 ?_
      refine va_getN (host := "SortedRun") (D := (dC, dI)) (ci := 0) (v := .long y6) (C := RX0) (T := TX0) (N := 3) (ref := "SortedRun$Entry") hx hb hts (xg_u mb_uws_X0) hown hK hP 9 rfl rfl 2 (by decide) (xn_w (w := .fieldLinkNest RX3 117 "SortedRun$Entry" "value" "J" "SortedRun") (i := 81) hE rfl rfl rfl) (fun _ h9 => h9) rfl dX3_get_74 ?_
      refine x_size hS (fun hz => ?_)
      refine vx_ret (W.widen (k := 1) (n := 6) (Nat.zero_le _) (Nat.zero_le _) ?_)
      exact W.lret (v := y6) hx hb hr (fun t ht hW => ⟨⟨y6, (y1, nI (px_sum (lr.take (j + 1)) - 4), y3, y4, y5, y6), rfl, ⟨hop, j, lb, hla, hlb, hy⟩, ⟨by rw [ht]; exact hP, va_K.moved hW.alike hK, hD⟩, (congrArg Array.size ht).trans hz⟩, hS.F ht⟩) hS.2.2 dX3_get_77
    · intro y1 y3 y4 y5 y6 hy H locs ls hl hP hD hS
      obtain ⟨sa, hstr⟩ := hE.2.2.2.1 _ (List.mem_of_getElem? (i := 8) rfl)
      exact xx_throwN (y1, nI (px_sum (lr.take (j + 1)) - 4), y3, y4, y5, y6) hx hb hnt hown (by decide +kernel) (xg_w hts mb_classLink_RX3_99) (xg_w hts mb_initialized_NoSuchElementException) hstr xh_NSE_at xh_NSE_good xh_NSE_on hE (hl.1.trans hml.symm) dX3_get_84 dX3_get_87 dX3_get_88 dX3_get_90 dX3_get_93 hno ⟨Nat.le_of_ble_eq_true rfl, Nat.le_of_ble_eq_true rfl, Nat.le_of_ble_eq_true rfl, Nat.le_of_ble_eq_true rfl⟩ hlocks (Or.inr (Or.inr (Or.inr ⟨hop, rfl, j, lb, hla, hlb, hy⟩))) hK hP hD hS (Nat.le_refl _) (Nat.le_refl _)
  · obtain ⟨hla, rfl⟩ := hu
    refine lv_istore_n hx hb dX3_get_12 rfl hl (by decide) rfl (fun ls hl => ?_)
    have hl : lv_has ls 5 [(2, .int (-1)), (0, .ref (ad 0)), (1, .int key)] := hl
    refine lv_iload_n hx hb dX3_get_13 rfl (lv_at hl 0 rfl) ?_
    refine lv_iconst (v := -1) hx hb dX3_get_14 (by decide) ?_
    refine lv_icmp_ne (tgt := 28) hx hb dX3_get_15 rfl (fun hc => absurd hc (not_not_intro rfl)) (fun hc => ?_)
    obtain ⟨sa, hstr⟩ := hE.2.2.2.1 _ (List.mem_of_getElem? (i := 6) rfl)
    exact xx_throwN (nx, en, ok, fi, ek, ev) hx hb hnt hown (by decide +kernel) (xg_w hts mb_classLink_RX3_99) (xg_w hts mb_initialized_NoSuchElementException) hstr xh_NSE_at xh_NSE_good xh_NSE_on hE (hl.1.trans hml.symm) dX3_get_18 dX3_get_21 dX3_get_22 dX3_get_24 dX3_get_27 hno ⟨Nat.le_of_ble_eq_true rfl, Nat.le_of_ble_eq_true rfl, Nat.le_of_ble_eq_true rfl, Nat.le_of_ble_eq_true rfl⟩ hlocks (Or.inr (Or.inl ⟨hop, rfl, hla⟩)) hK hP hD hS (Nat.le_refl _) (Nat.le_refl _)
end
section
/-! the lengths that write keeps to -/
theorem pw_len_128 {kf : Nat → Int32} {vf : Nat → Int64} {w : Nat} (h : pw_up kf w) (s : pw_P) (b : Nat) : pw_len kf vf w s b < 128 := by
  by_cases hb : 8 * b ≤ w
  · exact Nat.lt_of_le_of_lt (pw_len_up h s hb) (by decide)
  · have e : min 8 (w - 8 * b) = 0 := by omega
    show (pw_bl kf vf w (8 * b) (pw_bs kf vf w b s)).2 - (pw_bs kf vf w b s).2 < 128
    have e2 : (pw_bl kf vf w (8 * b) (pw_bs kf vf w b s)).2 = (pw_bs kf vf w b s).2 + 4 := by
      unfold pw_bl
      rw [e]
      exact Eq.refl _
    omega
theorem pw_all_up {kf : Nat → Int32} {vf : Nat → Int64} {w : Nat} (h : pw_up kf w) (hw : w ≤ 300) (f : Nat → Int32) : (pw_all kf vf w f).2 ≤ 4889 := by
  have h1 := pw_bs_up (vf := vf) h (f, 0) ((w + 7) / 8) (by omega)
  have h2 := pw_i_up (kf := kf) (ln := pw_len kf vf w (f, 0)) (pw_len_128 h (f, 0)) ((w + 7) / 8) (pw_n (pw_bs kf vf w ((w + 7) / 8) (f, 0)) (lN ((w + 7) / 8)))
  have h3 : pl_n 9 (lN ((w + 7) / 8)).toBitVec.toNat = 1 := by
    rw [pz_lN (by omega)]
    exact pl_n1 (by omega)
  have h4 : (pw_n (pw_bs kf vf w ((w + 7) / 8) (f, 0)) (lN ((w + 7) / 8))).2 = (pw_bs kf vf w ((w + 7) / 8) (f, 0)).2 + pl_n 9 (lN ((w + 7) / 8)).toBitVec.toNat := rfl
  show (pw_i kf (pw_len kf vf w (f, 0)) ((w + 7) / 8) (pw_n (pw_bs kf vf w ((w + 7) / 8) (f, 0)) (lN ((w + 7) / 8)))).2 + 4 + 4 ≤ 4889
  simp only at h1
  omega
end
section
/-! SortedRun: the writers (rows by wip/whole/wwr.py) -/
set_option maxHeartbeats 4000000 in
set_option maxRecDepth 100000 in
theorem lpX3_writeBlock_go {p : Program} {l : Launch} {e : Env} {s : State} {m : MethodId} {args : Array Value} {below : List Frame} {meth : Method} {c : Code} {Q : State → Prop} {A : Nat → Prop} {dC : Nat → ClassId} {dI : Nat → Nat → Nat} {ca : Nat → ClassId} {ad : Nat → Nat} (hx : p.tables.exec = Jvm.exec) (hb : c.code = cX3_writeBlock) (hml : c.maxLocals = 5) (hown : s.vm.findClass RX3 = some m.cls) (hts : ∀ w ∈ wsX3_writeBlock, w.before args s = true) (hK : va_K (dC, dI) vwCl (xt ca) s) (hA : ∀ q : Nat, s.heap.size ≤ q → A q) (hE : xn_E A s) {kf : Nat → Int32} {vf : Nat → Int64} {bf : Nat → Int32} {op : Int32} {nx : Int32} {en : Int32} {ok : Int32} {nb : Int32} {ef : Nat → Int32} {ff : Nat → Int32} {fi : Int32} {ek : Int32} {ev : Int64} {i0 n9 w9 : Nat} {sw : pw_P} (hw : w9 ≤ 300) (hn : i0 + n9 ≤ w9) (hup : pw_up kf w9) (hL : sw.2 + 15 * n9 + 4 ≤ 4889) : ∀ (k : Nat) (m9 : Nat) (H : Heap) (locs : List Loc) (ls : Array Slot), m9 + k = n9 → 1 ≤ m9 → lv_has ls 5 [(4, .int (nI (i0 + m9))), (0, .ref (ad 0)), (2, .int (nI sw.2)), (3, .int (nI (i0 + n9)))] → va_P (dC, dI) vwCl (xw ad ca kf vf bf (nI w9) op (nI (pw_b kf vf i0 m9 sw).2) nx en ok ((pw_b kf vf i0 m9 sw).1) nb ef ff fi ek ev) H → va_D A (xw ad ca kf vf bf (nI w9) op (nI (pw_b kf vf i0 m9 sw).2) nx en ok ((pw_b kf vf i0 m9 sw).1) nb ef ff fi ek ev) → va_S A s.heap H locs → (∀ (H : Heap) (locs : List Loc) (ls : Array Slot), lv_has ls 5 [(0, .ref (ad 0)), (2, .int (nI sw.2))] → va_P (dC, dI) vwCl (xw ad ca kf vf bf (nI w9) op (nI (pw_b kf vf i0 n9 sw).2) nx en ok ((pw_b kf vf i0 n9 sw).1) nb ef ff fi ek ev) H → va_D A (xw ad ca kf vf bf (nI w9) op (nI (pw_b kf vf i0 n9 sw).2) nx en ok ((pw_b kf vf i0 n9 sw).1) nb ef ff fi ek ev) → va_S A s.heap H locs → W p l e ({ frames := 3, cells := 0, slots := 0, locals := 68 } : Room) s m args below meth c H locs 0 0 Q (F0 m 115 ls [])) → W p l e ({ frames := 3, cells := 0, slots := 0, locals := 68 } : Room) s m args below meth c H locs 0 0 Q (F0 m 58 ls []) := by
  intro k
  induction k with
  | zero =>
    intro m9 H locs ls hm hm1 hl hP hD hS kg
    have hl : lv_has ls 5 [(4, .int (nI (i0 + m9))), (0, .ref (ad 0)), (2, .int (nI sw.2)), (3, .int (nI (i0 + n9)))] := hl
    obtain rfl : m9 = n9 := by omega
    refine lv_iload hx hb dX3_writeBlock_58 (lv_at hl 0 rfl) ?_
    refine lv_iload_n hx hb dX3_writeBlock_60 rfl (lv_at hl 3 rfl) ?_
    refine lv_icmp_ge (tgt := 115) hx hb dX3_writeBlock_61 rfl (fun hc => ?_) (fun hc => absurd hc (not_not_intro (Int32.le_refl _)))
    exact kg H locs ls (lv_sub hl [1, 2] rfl) hP hD hS
  | succ k ih =>
    intro m9 H locs ls hm hm1 hl hP hD hS kg
    have hl : lv_has ls 5 [(4, .int (nI (i0 + m9))), (0, .ref (ad 0)), (2, .int (nI sw.2)), (3, .int (nI (i0 + n9)))] := hl
    refine lv_iload hx hb dX3_writeBlock_58 (lv_at hl 0 rfl) ?_
    refine lv_iload_n hx hb dX3_writeBlock_60 rfl (lv_at hl 3 rfl) ?_
    refine lv_icmp_ge (tgt := 115) hx hb dX3_writeBlock_61 rfl (fun hc => absurd hc (by rw [nI_leI (by omega) (by omega)]; omega)) (fun hc => ?_)
    have u1 := pw_b_up (vf := vf) (i := i0) hup m9 sw (by omega)
    have u2 := pl_n5 (pw_x_lt (i := i0) (j := i0 + m9) hup (by omega) (by omega))
    have u3 := pl_n_le 9 (pu_f (vf (i0 + m9))).toBitVec.toNat
    refine lv_aload_n hx hb dX3_writeBlock_64 rfl (lv_at hl 1 rfl) ?_
    refine va_get (D := (dC, dI)) (ci := 3) (v := .ref (ad 4)) (C := RX3) (T := TX3) (N := 8) (ref := "SortedRun") hx hb hts (xg_u mb_uws_X3) hown hK hP 0 rfl rfl 3 (by decide) (xg_w hts mb_fieldLink_RX3_23) (fun _ h9 => h9) rfl dX3_writeBlock_65 ?_
    refine lv_aload_n hx hb dX3_writeBlock_68 rfl (lv_at hl 1 rfl) ?_
    refine va_get (D := (dC, dI)) (ci := 3) (v := .ref (ad 1)) (C := RX3) (T := TX3) (N := 8) (ref := "SortedRun") hx hb hts (xg_u mb_uws_X3) hown hK hP 0 rfl rfl 0 (by decide) (xg_w hts mb_fieldLink_RX3_9) (fun _ h9 => h9) rfl dX3_writeBlock_69 ?_
    refine lv_iload hx hb dX3_writeBlock_72 (lv_at hl 0 rfl) ?_
    refine va_iald hx hb hK hP 1 0 rfl rfl (vp_in_nI (by omega) (by decide)) dX3_writeBlock_74 ?_
    refine lv_topi (fun z1 ez1 => ?_)
    have ez1 : z1 = kf (i0 + m9) := ez1.trans (congrArg kf (nI_clamp (by omega)))
    subst ez1
    refine lv_i2l (v := (kf (i0 + m9)).toInt64) hx hb dX3_writeBlock_75 (rfl) ?_
    refine lv_aload_n hx hb dX3_writeBlock_76 rfl (lv_at hl 1 rfl) ?_
    refine va_get (D := (dC, dI)) (ci := 3) (v := .ref (ad 1)) (C := RX3) (T := TX3) (N := 8) (ref := "SortedRun") hx hb hts (xg_u mb_uws_X3) hown hK hP 0 rfl rfl 0 (by decide) (xg_w hts mb_fieldLink_RX3_9) (fun _ h9 => h9) rfl dX3_writeBlock_77 ?_
    refine lv_iload hx hb dX3_writeBlock_80 (lv_at hl 0 rfl) ?_
    refine lv_iconst (v := nI 1) hx hb dX3_writeBlock_82 (by decide) ?_
    refine lv_isub hx hb dX3_writeBlock_83 ?_
    refine lv_topi (fun z2 ez2 => ?_)
    have ez2 : z2 = nI (i0 + m9 - 1) := ez2.trans (pk_sub (by omega))
    subst ez2
    refine va_iald hx hb hK hP 1 0 rfl rfl (vp_in_nI (by omega) (by decide)) dX3_writeBlock_84 ?_
    refine lv_topi (fun z3 ez3 => ?_)
    have ez3 : z3 = kf (i0 + m9 - 1) := ez3.trans (congrArg kf (nI_clamp (by omega)))
    subst ez3
    refine lv_i2l (v := (kf (i0 + m9 - 1)).toInt64) hx hb dX3_writeBlock_85 (rfl) ?_
    refine lv_lsub hx hb dX3_writeBlock_86 ?_
    refine lv_lconst (v := 1) hx hb dX3_writeBlock_87 (by decide) ?_
    refine lv_lsub hx hb dX3_writeBlock_88 ?_
    refine lv_topl (fun z4 ez4 => ?_)
    have ez4 : z4 = pw_x kf i0 (i0 + m9) := ez4.trans (by unfold pw_x; rw [if_neg (by omega)])
    subst ez4
    refine xk_v (va_runV (As := [.long (pw_x kf i0 (i0 + m9))]) (rest := []) ⟨hx, hb, hml, hown, hts⟩ (cX2_appendNumber_m l dC dI ca ad kf vf bf (nI w9) op nx en ok ((pw_b kf vf i0 m9 sw).1) nb ef ff fi ek ev (pw_b kf vf i0 m9 sw).2 (pw_x kf i0 (i0 + m9)) (by omega) _) (cwV 1 hts (xg_V mb_methodLink_RX3_185 mb_instanceMethod_yX2_appendNumber mb_selects_yX2_appendNumber mb_initialized_RX2 mb_code_yX2_appendNumber) rfl rfl rfl ⟨rfl, by decide, by decide, by decide +kernel⟩ ⟨Nat.le_of_ble_eq_true rfl, Nat.le_of_ble_eq_true rfl⟩) (xpreV (va_recv (q0 := 4) hK hP rfl rfl) hK hP hD hS hA hE) rfl rfl hl.1 rfl (lv_room (Nat.le_of_ble_eq_true rfl)) dX3_writeBlock_89 ⟨Nat.le_of_ble_eq_true rfl, Nat.le_of_ble_eq_true rfl⟩) hD hS hA (fun u H locs hu hP hD hS => ?_)
    have hP : va_P (dC, dI) vwCl (xw ad ca kf vf bf (nI w9) op (nI (pw_n (pw_b kf vf i0 m9 sw) (pw_x kf i0 (i0 + m9))).2) nx en ok ((pw_n (pw_b kf vf i0 m9 sw) (pw_x kf i0 (i0 + m9))).1) nb ef ff fi ek ev) H := hP
    have hD : va_D A (xw ad ca kf vf bf (nI w9) op (nI (pw_n (pw_b kf vf i0 m9 sw) (pw_x kf i0 (i0 + m9))).2) nx en ok ((pw_n (pw_b kf vf i0 m9 sw) (pw_x kf i0 (i0 + m9))).1) nb ef ff fi ek ev) := hD
    have u4 : (pw_n (pw_b kf vf i0 m9 sw) (pw_x kf i0 (i0 + m9))).2 = (pw_b kf vf i0 m9 sw).2 + pl_n 9 (pw_x kf i0 (i0 + m9)).toBitVec.toNat := rfl
    refine lv_aload_n hx hb dX3_writeBlock_92 rfl (lv_at hl 1 rfl) ?_
    refine va_get (D := (dC, dI)) (ci := 3) (v := .ref (ad 4)) (C := RX3) (T := TX3) (N := 8) (ref := "SortedRun") hx hb hts (xg_u mb_uws_X3) hown hK hP 0 rfl rfl 3 (by decide) (xg_w hts mb_fieldLink_RX3_23) (fun _ h9 => h9) rfl dX3_writeBlock_93 ?_
    refine lv_aload_n hx hb dX3_writeBlock_96 rfl (lv_at hl 1 rfl) ?_
    refine va_get (D := (dC, dI)) (ci := 3) (v := .ref (ad 2)) (C := RX3) (T := TX3) (N := 8) (ref := "SortedRun") hx hb hts (xg_u mb_uws_X3) hown hK hP 0 rfl rfl 1 (by decide) (xg_w hts mb_fieldLink_RX3_13) (fun _ h9 => h9) rfl dX3_writeBlock_97 ?_
    refine lv_iload hx hb dX3_writeBlock_100 (lv_at hl 0 rfl) ?_
    refine va_lald hx hb hK hP 2 1 rfl rfl (vp_in_nI (by omega) (by decide)) dX3_writeBlock_102 ?_
    refine lv_topl (fun z5 ez5 => ?_)
    have ez5 : z5 = vf (i0 + m9) := ez5.trans (congrArg vf (nI_clamp (by omega)))
    subst ez5
    refine xk_l (va_runS (As := [.long (vf (i0 + m9))]) (rest := [.ref (ad 4)]) ⟨hx, hb, hml, hown, hts⟩ (cX3_fold_m l dC dI ca ad kf vf bf (nI w9) op (nI (pw_n (pw_b kf vf i0 m9 sw) (pw_x kf i0 (i0 + m9))).2) nx en ok ((pw_n (pw_b kf vf i0 m9 sw) (pw_x kf i0 (i0 + m9))).1) nb ef ff fi ek ev (vf (i0 + m9)) _) (cwS 1 hts (xg_S mb_methodLink_RX3_181 mb_static_yX3_fold mb_initialized_RX3 mb_code_yX3_fold) rfl rfl rfl ⟨rfl, by decide, by decide, by decide +kernel⟩ ⟨Nat.le_of_ble_eq_true rfl, Nat.le_of_ble_eq_true rfl⟩) (xpreS hK hP hD hS hA hE) rfl rfl hl.1 rfl (lv_room (Nat.le_of_ble_eq_true rfl)) dX3_writeBlock_103 ⟨Nat.le_of_ble_eq_true rfl, Nat.le_of_ble_eq_true rfl⟩) hD hS hA (fun r u H locs hu hP hD hS => ?_)
    subst hu
    have hP : va_P (dC, dI) vwCl (xw ad ca kf vf bf (nI w9) op (nI (pw_n (pw_b kf vf i0 m9 sw) (pw_x kf i0 (i0 + m9))).2) nx en ok ((pw_n (pw_b kf vf i0 m9 sw) (pw_x kf i0 (i0 + m9))).1) nb ef ff fi ek ev) H := hP
    have hD : va_D A (xw ad ca kf vf bf (nI w9) op (nI (pw_n (pw_b kf vf i0 m9 sw) (pw_x kf i0 (i0 + m9))).2) nx en ok ((pw_n (pw_b kf vf i0 m9 sw) (pw_x kf i0 (i0 + m9))).1) nb ef ff fi ek ev) := hD
    refine xk_v (va_runV (As := [.long (pu_f (vf (i0 + m9)))]) (rest := []) ⟨hx, hb, hml, hown, hts⟩ (cX2_appendNumber_m l dC dI ca ad kf vf bf (nI w9) op nx en ok ((pw_n (pw_b kf vf i0 m9 sw) (pw_x kf i0 (i0 + m9))).1) nb ef ff fi ek ev (pw_n (pw_b kf vf i0 m9 sw) (pw_x kf i0 (i0 + m9))).2 (pu_f (vf (i0 + m9))) (by omega) _) (cwV 1 hts (xg_V mb_methodLink_RX3_185 mb_instanceMethod_yX2_appendNumber mb_selects_yX2_appendNumber mb_initialized_RX2 mb_code_yX2_appendNumber) rfl rfl rfl ⟨rfl, by decide, by decide, by decide +kernel⟩ ⟨Nat.le_of_ble_eq_true rfl, Nat.le_of_ble_eq_true rfl⟩) (xpreV (va_recv (q0 := 4) hK hP rfl rfl) hK hP hD hS hA hE) rfl rfl hl.1 rfl (lv_room (Nat.le_of_ble_eq_true rfl)) dX3_writeBlock_106 ⟨Nat.le_of_ble_eq_true rfl, Nat.le_of_ble_eq_true rfl⟩) hD hS hA (fun u H locs hu hP hD hS => ?_)
    have hP : va_P (dC, dI) vwCl (xw ad ca kf vf bf (nI w9) op (nI (pw_b kf vf i0 (m9 + 1) sw).2) nx en ok ((pw_b kf vf i0 (m9 + 1) sw).1) nb ef ff fi ek ev) H := hP
    have hD : va_D A (xw ad ca kf vf bf (nI w9) op (nI (pw_b kf vf i0 (m9 + 1) sw).2) nx en ok ((pw_b kf vf i0 (m9 + 1) sw).1) nb ef ff fi ek ev) := hD
    refine lv_iinc (k := 0) (v := nI (i0 + (m9 + 1))) hx hb dX3_writeBlock_109 hl rfl (nI_1 (i0 + m9)) (by decide) rfl (fun ls hl => ?_)
    have hl : lv_has ls 5 [(4, .int (nI (i0 + (m9 + 1)))), (0, .ref (ad 0)), (2, .int (nI sw.2)), (3, .int (nI (i0 + n9)))] := hl
    refine lv_goto (tgt := 58) hx hb dX3_writeBlock_112 rfl ?_
    exact ih (m9 + 1) _ _ _ (by omega) (by omega) hl hP hD hS kg

set_option maxHeartbeats 4000000 in
set_option maxRecDepth 100000 in
theorem cX3_writeBlock_m (l : Launch) (dC : Nat → ClassId) (dI : Nat → Nat → Nat) (ca : Nat → ClassId) (ad : Nat → Nat) (kf : Nat → Int32) (vf : Nat → Int64) (bf : Nat → Int32) (op : Int32) (nx : Int32) (en : Int32) (ok : Int32) (nb : Int32) (ef : Nat → Int32) (ff : Nat → Int32) (fi : Int32) (ek : Int32) (ev : Int64) (i0 w9 : Nat) (sw : pw_P) (hw : w9 ≤ 300) (hup : pw_up kf w9) (hi : i0 < w9) (hL : sw.2 + 15 * min 8 (w9 - i0) + 4 ≤ 4889) : ∀ sz : Nat, Met l yX3_writeBlock wsX3_writeBlock ({ frames := 3, cells := 0, slots := 0, locals := 68 } : Room) (va_Pc [.ref (ad 0), .int (nI i0)] (xP (dC, dI) (xt ca) (xw ad ca kf vf bf (nI w9) op (nI sw.2) nx en ok sw.1 nb ef ff fi ek ev) sz)) (va_Qi (S := Unit) (fun r _ => r = nI ((pw_bl kf vf w9 i0 sw).2 - sw.2)) (fun u t => xB (dC, dI) (xt ca) (va_A (xw ad ca kf vf bf (nI w9) op (nI sw.2) nx en ok sw.1 nb ef ff fi ek ev) sz) (xw ad ca kf vf bf (nI w9) op (nI (pw_bl kf vf w9 i0 sw).2) nx en ok ((pw_bl kf vf w9 i0 sw).1) nb ef ff fi ek ev) t) (va_A (xw ad ca kf vf bf (nI w9) op (nI sw.2) nx en ok sw.1 nb ef ff fi ek ev) sz)) 0 0 (va_A (xw ad ca kf vf bf (nI w9) op (nI sw.2) nx en ok sw.1 nb ef ff fi ek ev) sz) := by
  intro sz
  refine Met.ofW (cc := cX3_writeBlock) (maxL := 5) (ret := (some .int)) (by decide) rfl ?_
  intro p e s m args below meth c s₁ B hml hv
  obtain ⟨rfl, hsz, hP, hK, hD0, hE⟩ := hv
  have hx := B.exec
  have hb := B.bytes
  have hr := B.returns
  have hts := atoms_spec (ws := wsX3_writeBlock) B.pre
  have hown : s.vm.findClass RX3 = some m.cls := findClass_of_methodNamed B.named
  have hlocks := B.notSynchronized
  subst hsz
  have hD := hD0.self (sz := s.heap.size)
  generalize hAe : va_A (xw ad ca kf vf bf (nI w9) op (nI sw.2) nx en ok sw.1 nb ef ff fi ek ev) s.heap.size = A at hD hE ⊢
  have hA : ∀ q : Nat, s.heap.size ≤ q → A q := fun q h => by rw [← hAe]; exact Or.inr h
  have hS : va_S A s.heap s.heap [] := va_S.rf
  have hl := lv_entry ([.ref (ad 0), .int (nI i0)]) (n := 5) (Nat.le_of_ble_eq_true rfl)
  rw [lg_entry_eq]
  generalize (lg_sl ([.ref (ad 0), .int (nI i0)]) ++ List.replicate (5 - (lg_sl ([.ref (ad 0), .int (nI i0)])).length) Slot.unset).toArray = ls at hl ⊢
  have hl : lv_has ls 5 [(0, .ref (ad 0)), (1, .int (nI i0))] := hl
  obtain ⟨n9, hn9⟩ : ∃ n9, n9 = min 8 (w9 - i0) := ⟨_, rfl⟩
  rw [← hn9] at hL
  have hn1 : 1 ≤ n9 ∧ i0 + n9 ≤ w9 := by omega
  have u2 := pl_n5 (pu_f_lt (kf i0))
  have u3 := pl_n_le 9 (pu_f (vf i0)).toBitVec.toNat
  refine lv_aload_n hx hb dX3_writeBlock_0 rfl (lv_at hl 0 rfl) ?_
  refine va_get (D := (dC, dI)) (ci := 3) (v := .ref (ad 4)) (C := RX3) (T := TX3) (N := 8) (ref := "SortedRun") hx hb hts (xg_u mb_uws_X3) hown hK hP 0 rfl rfl 3 (by decide) (xg_w hts mb_fieldLink_RX3_23) (fun _ h9 => h9) rfl dX3_writeBlock_1 ?_
  refine va_getN (host := "SortedRun") (D := (dC, dI)) (ci := 2) (v := .int (nI sw.2)) (C := RX2) (T := TX2) (N := 5) (ref := "SortedRun$Table") hx hb hts (xg_u mb_uws_X2) hown hK hP 4 rfl rfl 1 (by decide) (xn_w (w := .fieldLinkNest RX3 60 "SortedRun$Table" "length" "I" "SortedRun") (i := 32) hE rfl rfl rfl) (fun _ h9 => h9) rfl dX3_writeBlock_4 ?_
  refine lv_istore_n hx hb dX3_writeBlock_7 rfl hl (by decide) rfl (fun ls hl => ?_)
  have hl : lv_has ls 5 [(2, .int (nI sw.2)), (0, .ref (ad 0)), (1, .int (nI i0))] := hl
  refine lv_iload_n hx hb dX3_writeBlock_8 rfl (lv_at hl 2 rfl) ?_
  refine lv_bipush (v := nI 8) hx hb dX3_writeBlock_9 (by decide) ?_
  refine lv_iadd hx hb dX3_writeBlock_11 ?_
  refine lv_topi (fun z1 ez1 => ?_)
  have ez1 : z1 = nI (i0 + 8) := ez1.trans (nI_add i0 8)
  subst ez1
  refine lv_aload_n hx hb dX3_writeBlock_12 rfl (lv_at hl 1 rfl) ?_
  refine va_get (D := (dC, dI)) (ci := 3) (v := .int (nI w9)) (C := RX3) (T := TX3) (N := 8) (ref := "SortedRun") hx hb hts (xg_u mb_uws_X3) hown hK hP 0 rfl rfl 6 (by decide) (xg_w hts mb_fieldLink_RX3_44) (fun _ h9 => h9) rfl dX3_writeBlock_13 ?_
  refine va_mmin hx hb (hml.trans hl.1.symm) hown (xg_w hts mb_methodLink_RX3_175) (xg_w hts mb_min_static) (xg_w hts mb_min_ini) (xg_w hts mb_min_code) (Nat.le_of_ble_eq_true rfl) (Nat.le_of_ble_eq_true rfl) (Nat.zero_le _) (Nat.zero_le _) dX3_writeBlock_16 ?_
  refine lv_topi (fun z2 ez2 => ?_)
  have ez2 : z2 = nI (i0 + n9) := ez2.trans (by simp only [nI_ltI (show w9 < 2 ^ 31 by omega) (show i0 + 8 < 2 ^ 31 by omega)]; split <;> exact congrArg nI (by omega))
  subst ez2
  refine lv_istore_n hx hb dX3_writeBlock_19 rfl hl (by decide) rfl (fun ls hl => ?_)
  have hl : lv_has ls 5 [(3, .int (nI (i0 + n9))), (2, .int (nI sw.2)), (0, .ref (ad 0)), (1, .int (nI i0))] := hl
  refine lv_aload_n hx hb dX3_writeBlock_20 rfl (lv_at hl 2 rfl) ?_
  refine va_get (D := (dC, dI)) (ci := 3) (v := .ref (ad 4)) (C := RX3) (T := TX3) (N := 8) (ref := "SortedRun") hx hb hts (xg_u mb_uws_X3) hown hK hP 0 rfl rfl 3 (by decide) (xg_w hts mb_fieldLink_RX3_23) (fun _ h9 => h9) rfl dX3_writeBlock_21 ?_
  refine lv_aload_n hx hb dX3_writeBlock_24 rfl (lv_at hl 2 rfl) ?_
  refine va_get (D := (dC, dI)) (ci := 3) (v := .ref (ad 1)) (C := RX3) (T := TX3) (N := 8) (ref := "SortedRun") hx hb hts (xg_u mb_uws_X3) hown hK hP 0 rfl rfl 0 (by decide) (xg_w hts mb_fieldLink_RX3_9) (fun _ h9 => h9) rfl dX3_writeBlock_25 ?_
  refine lv_iload_n hx hb dX3_writeBlock_28 rfl (lv_at hl 3 rfl) ?_
  refine va_iald hx hb hK hP 1 0 rfl rfl (vp_in_nI (by omega) (by decide)) dX3_writeBlock_29 ?_
  refine lv_topi (fun z3 ez3 => ?_)
  have ez3 : z3 = kf i0 := ez3.trans (congrArg kf (nI_clamp (by omega)))
  subst ez3
  refine lv_i2l (v := (kf i0).toInt64) hx hb dX3_writeBlock_30 (rfl) ?_
  refine xk_l (va_runS (As := [.long ((kf i0).toInt64)]) (rest := [.ref (ad 4)]) ⟨hx, hb, hml, hown, hts⟩ (cX3_fold_m l dC dI ca ad kf vf bf (nI w9) op (nI sw.2) nx en ok sw.1 nb ef ff fi ek ev ((kf i0).toInt64) _) (cwS 1 hts (xg_S mb_methodLink_RX3_181 mb_static_yX3_fold mb_initialized_RX3 mb_code_yX3_fold) rfl rfl rfl ⟨rfl, by decide, by decide, by decide +kernel⟩ ⟨Nat.le_of_ble_eq_true rfl, Nat.le_of_ble_eq_true rfl⟩) (xpreS hK hP hD hS hA hE) rfl rfl hl.1 rfl (lv_room (Nat.le_of_ble_eq_true rfl)) dX3_writeBlock_31 ⟨Nat.le_of_ble_eq_true rfl, Nat.le_of_ble_eq_true rfl⟩) hD hS hA (fun r u H locs hu hP hD hS => ?_)
  subst hu
  have hP : va_P (dC, dI) vwCl (xw ad ca kf vf bf (nI w9) op (nI sw.2) nx en ok sw.1 nb ef ff fi ek ev) H := hP
  have hD : va_D A (xw ad ca kf vf bf (nI w9) op (nI sw.2) nx en ok sw.1 nb ef ff fi ek ev) := hD
  refine xk_v (va_runV (As := [.long (pu_f ((kf i0).toInt64))]) (rest := []) ⟨hx, hb, hml, hown, hts⟩ (cX2_appendNumber_m l dC dI ca ad kf vf bf (nI w9) op nx en ok sw.1 nb ef ff fi ek ev sw.2 (pu_f (kf i0).toInt64) (by omega) _) (cwV 1 hts (xg_V mb_methodLink_RX3_185 mb_instanceMethod_yX2_appendNumber mb_selects_yX2_appendNumber mb_initialized_RX2 mb_code_yX2_appendNumber) rfl rfl rfl ⟨rfl, by decide, by decide, by decide +kernel⟩ ⟨Nat.le_of_ble_eq_true rfl, Nat.le_of_ble_eq_true rfl⟩) (xpreV (va_recv (q0 := 4) hK hP rfl rfl) hK hP hD hS hA hE) rfl rfl hl.1 rfl (lv_room (Nat.le_of_ble_eq_true rfl)) dX3_writeBlock_34 ⟨Nat.le_of_ble_eq_true rfl, Nat.le_of_ble_eq_true rfl⟩) hD hS hA (fun u H locs hu hP hD hS => ?_)
  have hP : va_P (dC, dI) vwCl (xw ad ca kf vf bf (nI w9) op (nI (pw_n sw (pu_f (kf i0).toInt64)).2) nx en ok ((pw_n sw (pu_f (kf i0).toInt64)).1) nb ef ff fi ek ev) H := hP
  have hD : va_D A (xw ad ca kf vf bf (nI w9) op (nI (pw_n sw (pu_f (kf i0).toInt64)).2) nx en ok ((pw_n sw (pu_f (kf i0).toInt64)).1) nb ef ff fi ek ev) := hD
  have u4 : (pw_n sw (pu_f (kf i0).toInt64)).2 = sw.2 + pl_n 9 (pu_f (kf i0).toInt64).toBitVec.toNat := rfl
  refine lv_aload_n hx hb dX3_writeBlock_37 rfl (lv_at hl 2 rfl) ?_
  refine va_get (D := (dC, dI)) (ci := 3) (v := .ref (ad 4)) (C := RX3) (T := TX3) (N := 8) (ref := "SortedRun") hx hb hts (xg_u mb_uws_X3) hown hK hP 0 rfl rfl 3 (by decide) (xg_w hts mb_fieldLink_RX3_23) (fun _ h9 => h9) rfl dX3_writeBlock_38 ?_
  refine lv_aload_n hx hb dX3_writeBlock_41 rfl (lv_at hl 2 rfl) ?_
  refine va_get (D := (dC, dI)) (ci := 3) (v := .ref (ad 2)) (C := RX3) (T := TX3) (N := 8) (ref := "SortedRun") hx hb hts (xg_u mb_uws_X3) hown hK hP 0 rfl rfl 1 (by decide) (xg_w hts mb_fieldLink_RX3_13) (fun _ h9 => h9) rfl dX3_writeBlock_42 ?_
  refine lv_iload_n hx hb dX3_writeBlock_45 rfl (lv_at hl 3 rfl) ?_
  refine va_lald hx hb hK hP 2 1 rfl rfl (vp_in_nI (by omega) (by decide)) dX3_writeBlock_46 ?_
  refine lv_topl (fun z4 ez4 => ?_)
  have ez4 : z4 = vf i0 := ez4.trans (congrArg vf (nI_clamp (by omega)))
  subst ez4
  refine xk_l (va_runS (As := [.long (vf i0)]) (rest := [.ref (ad 4)]) ⟨hx, hb, hml, hown, hts⟩ (cX3_fold_m l dC dI ca ad kf vf bf (nI w9) op (nI (pw_n sw (pu_f (kf i0).toInt64)).2) nx en ok ((pw_n sw (pu_f (kf i0).toInt64)).1) nb ef ff fi ek ev (vf i0) _) (cwS 1 hts (xg_S mb_methodLink_RX3_181 mb_static_yX3_fold mb_initialized_RX3 mb_code_yX3_fold) rfl rfl rfl ⟨rfl, by decide, by decide, by decide +kernel⟩ ⟨Nat.le_of_ble_eq_true rfl, Nat.le_of_ble_eq_true rfl⟩) (xpreS hK hP hD hS hA hE) rfl rfl hl.1 rfl (lv_room (Nat.le_of_ble_eq_true rfl)) dX3_writeBlock_47 ⟨Nat.le_of_ble_eq_true rfl, Nat.le_of_ble_eq_true rfl⟩) hD hS hA (fun r u H locs hu hP hD hS => ?_)
  subst hu
  have hP : va_P (dC, dI) vwCl (xw ad ca kf vf bf (nI w9) op (nI (pw_n sw (pu_f (kf i0).toInt64)).2) nx en ok ((pw_n sw (pu_f (kf i0).toInt64)).1) nb ef ff fi ek ev) H := hP
  have hD : va_D A (xw ad ca kf vf bf (nI w9) op (nI (pw_n sw (pu_f (kf i0).toInt64)).2) nx en ok ((pw_n sw (pu_f (kf i0).toInt64)).1) nb ef ff fi ek ev) := hD
  refine xk_v (va_runV (As := [.long (pu_f (vf i0))]) (rest := []) ⟨hx, hb, hml, hown, hts⟩ (cX2_appendNumber_m l dC dI ca ad kf vf bf (nI w9) op nx en ok ((pw_n sw (pu_f (kf i0).toInt64)).1) nb ef ff fi ek ev (pw_n sw (pu_f (kf i0).toInt64)).2 (pu_f (vf i0)) (by omega) _) (cwV 1 hts (xg_V mb_methodLink_RX3_185 mb_instanceMethod_yX2_appendNumber mb_selects_yX2_appendNumber mb_initialized_RX2 mb_code_yX2_appendNumber) rfl rfl rfl ⟨rfl, by decide, by decide, by decide +kernel⟩ ⟨Nat.le_of_ble_eq_true rfl, Nat.le_of_ble_eq_true rfl⟩) (xpreV (va_recv (q0 := 4) hK hP rfl rfl) hK hP hD hS hA hE) rfl rfl hl.1 rfl (lv_room (Nat.le_of_ble_eq_true rfl)) dX3_writeBlock_50 ⟨Nat.le_of_ble_eq_true rfl, Nat.le_of_ble_eq_true rfl⟩) hD hS hA (fun u H locs hu hP hD hS => ?_)
  have hP : va_P (dC, dI) vwCl (xw ad ca kf vf bf (nI w9) op (nI (pw_n (pw_n sw (pu_f (kf i0).toInt64)) (pu_f (vf i0))).2) nx en ok ((pw_n (pw_n sw (pu_f (kf i0).toInt64)) (pu_f (vf i0))).1) nb ef ff fi ek ev) H := hP
  have hD : va_D A (xw ad ca kf vf bf (nI w9) op (nI (pw_n (pw_n sw (pu_f (kf i0).toInt64)) (pu_f (vf i0))).2) nx en ok ((pw_n (pw_n sw (pu_f (kf i0).toInt64)) (pu_f (vf i0))).1) nb ef ff fi ek ev) := hD
  have hb1 : pw_n (pw_n sw (pu_f (kf i0).toInt64)) (pu_f (vf i0)) = pw_b kf vf i0 1 sw := by
    show pw_n (pw_n sw (pu_f (kf i0).toInt64)) (pu_f (vf i0)) = pw_n (pw_n sw (pw_x kf i0 (i0 + 0))) (pu_f (vf (i0 + 0)))
    unfold pw_x; rw [Nat.add_zero, if_pos rfl]
  rw [hb1] at hP hD
  refine lv_iload_n hx hb dX3_writeBlock_53 rfl (lv_at hl 3 rfl) ?_
  refine lv_iconst (v := nI 1) hx hb dX3_writeBlock_54 (by decide) ?_
  refine lv_iadd hx hb dX3_writeBlock_55 ?_
  refine lv_topi (fun z5 ez5 => ?_)
  have ez5 : z5 = nI (i0 + 1) := ez5.trans (nI_add i0 1)
  subst ez5
  refine lv_istore hx hb dX3_writeBlock_56 hl (by decide) rfl (fun ls hl => ?_)
  have hl : lv_has ls 5 [(4, .int (nI (i0 + 1))), (3, .int (nI (i0 + n9))), (2, .int (nI sw.2)), (0, .ref (ad 0)), (1, .int (nI i0))] := hl
  refine lpX3_writeBlock_go hx hb hml hown hts hK hA hE (i0 := i0) (n9 := n9) (w9 := w9) (sw := sw) hw hn1.2 hup hL (n9 - 1) 1 _ _ _ (by omega) (by omega) (lv_sub hl [0, 3, 2, 1] rfl) hP hD hS ?_
  intro H locs ls hl hP hD hS
  have u5 := pw_b_up (vf := vf) (i := i0) hup n9 sw hn1.2
  have u6 := pw_b_le kf vf i0 n9 sw
  refine lv_aload_n hx hb dX3_writeBlock_115 rfl (lv_at hl 0 rfl) ?_
  refine va_get (D := (dC, dI)) (ci := 3) (v := .ref (ad 4)) (C := RX3) (T := TX3) (N := 8) (ref := "SortedRun") hx hb hts (xg_u mb_uws_X3) hown hK hP 0 rfl rfl 3 (by decide) (xg_w hts mb_fieldLink_RX3_23) (fun _ h9 => h9) rfl dX3_writeBlock_116 ?_
  refine lv_iload_n hx hb dX3_writeBlock_119 rfl (lv_at hl 1 rfl) ?_
  refine xk_v (va_runV (As := [.int (nI sw.2)]) (rest := []) ⟨hx, hb, hml, hown, hts⟩ (cX2_appendSum_m l dC dI ca ad kf vf bf (nI w9) op nx en ok ((pw_b kf vf i0 n9 sw).1) nb ef ff fi ek ev (pw_b kf vf i0 n9 sw).2 sw.2 (by omega) u6 _) (cwV 1 hts (xg_V mb_methodLink_RX3_189 mb_instanceMethod_yX2_appendSum mb_selects_yX2_appendSum mb_initialized_RX2 mb_code_yX2_appendSum) rfl rfl rfl ⟨rfl, by decide, by decide, by decide +kernel⟩ ⟨Nat.le_of_ble_eq_true rfl, Nat.le_of_ble_eq_true rfl⟩) (xpreV (va_recv (q0 := 4) hK hP rfl rfl) hK hP hD hS hA hE) rfl rfl hl.1 rfl (lv_room (Nat.le_of_ble_eq_true rfl)) dX3_writeBlock_120 ⟨Nat.le_of_ble_eq_true rfl, Nat.le_of_ble_eq_true rfl⟩) hD hS hA (fun u H locs hu hP hD hS => ?_)
  have hP : va_P (dC, dI) vwCl (xw ad ca kf vf bf (nI w9) op (nI (pw_s (pw_b kf vf i0 n9 sw) sw.2).2) nx en ok ((pw_s (pw_b kf vf i0 n9 sw) sw.2).1) nb ef ff fi ek ev) H := hP
  have hD : va_D A (xw ad ca kf vf bf (nI w9) op (nI (pw_s (pw_b kf vf i0 n9 sw) sw.2).2) nx en ok ((pw_s (pw_b kf vf i0 n9 sw) sw.2).1) nb ef ff fi ek ev) := hD
  have hbl : pw_s (pw_b kf vf i0 n9 sw) sw.2 = pw_bl kf vf w9 i0 sw := by unfold pw_bl; rw [hn9]
  rw [hbl] at hP hD
  have u7 := pw_bl_ge kf vf w9 i0 sw
  refine lv_aload_n hx hb dX3_writeBlock_123 rfl (lv_at hl 0 rfl) ?_
  refine va_get (D := (dC, dI)) (ci := 3) (v := .ref (ad 4)) (C := RX3) (T := TX3) (N := 8) (ref := "SortedRun") hx hb hts (xg_u mb_uws_X3) hown hK hP 0 rfl rfl 3 (by decide) (xg_w hts mb_fieldLink_RX3_23) (fun _ h9 => h9) rfl dX3_writeBlock_124 ?_
  refine va_getN (host := "SortedRun") (D := (dC, dI)) (ci := 2) (v := .int (nI (pw_bl kf vf w9 i0 sw).2)) (C := RX2) (T := TX2) (N := 5) (ref := "SortedRun$Table") hx hb hts (xg_u mb_uws_X2) hown hK hP 4 rfl rfl 1 (by decide) (xn_w (w := .fieldLinkNest RX3 60 "SortedRun$Table" "length" "I" "SortedRun") (i := 32) hE rfl rfl rfl) (fun _ h9 => h9) rfl dX3_writeBlock_127 ?_
  refine lv_iload_n hx hb dX3_writeBlock_130 rfl (lv_at hl 1 rfl) ?_
  refine lv_isub hx hb dX3_writeBlock_131 ?_
  refine lv_topi (fun z6 ez6 => ?_)
  have ez6 : z6 = nI ((pw_bl kf vf w9 i0 sw).2 - sw.2) := ez6.trans (pk_sub u7)
  subst ez6
  have hP9 := hP
  have hD9 := hD
  exact W.iret (v := nI ((pw_bl kf vf w9 i0 sw).2 - sw.2)) hx hb hr (fun t ht hW => ⟨⟨nI ((pw_bl kf vf w9 i0 sw).2 - sw.2), (), rfl, rfl, by rw [ht]; exact hP9, va_K.moved hW.alike hK, hD9⟩, hS.F ht⟩) hS.2.2 dX3_writeBlock_132

set_option maxHeartbeats 4000000 in
set_option maxRecDepth 100000 in
theorem lpX3_writeIndex_go {p : Program} {l : Launch} {e : Env} {s : State} {m : MethodId} {args : Array Value} {below : List Frame} {meth : Method} {c : Code} {Q : State → Prop} {A : Nat → Prop} {dC : Nat → ClassId} {dI : Nat → Nat → Nat} {ca : Nat → ClassId} {ad : Nat → Nat} (hx : p.tables.exec = Jvm.exec) (hb : c.code = cX3_writeIndex) (hml : c.maxLocals = 4) (hown : s.vm.findClass RX3 = some m.cls) (hts : ∀ w ∈ wsX3_writeIndex, w.before args s = true) (hK : va_K (dC, dI) vwCl (xt ca) s) (hA : ∀ q : Nat, s.heap.size ≤ q → A q) (hE : xn_E A s) {kf : Nat → Int32} {vf : Nat → Int64} {bf : Nat → Int32} {w : Int32} {op : Int32} {nx : Int32} {en : Int32} {ok : Int32} {nb : Int32} {ef : Nat → Int32} {ff : Nat → Int32} {fi : Int32} {ek : Int32} {ev : Int64} {n9 : Nat} {ln9 : Nat → Nat} {sw : pw_P} (hn : n9 ≤ 38) (hbf : ∀ j, j < n9 → bf j = nI (ln9 j)) (hln : ∀ j, ln9 j < 128) (hL : sw.2 + 1 + 6 * n9 + 8 ≤ 4889) : ∀ (k : Nat) (b9 : Nat) (H : Heap) (locs : List Loc) (ls : Array Slot), b9 + k = n9 → lv_has ls 4 [(3, .int (nI b9)), (0, .ref (ad 0)), (1, .int (nI n9)), (2, .int (nI sw.2))] → va_P (dC, dI) vwCl (xw ad ca kf vf bf w op (nI (pw_i kf ln9 b9 (pw_n sw (lN n9))).2) nx en ok ((pw_i kf ln9 b9 (pw_n sw (lN n9))).1) nb ef ff fi ek ev) H → va_D A (xw ad ca kf vf bf w op (nI (pw_i kf ln9 b9 (pw_n sw (lN n9))).2) nx en ok ((pw_i kf ln9 b9 (pw_n sw (lN n9))).1) nb ef ff fi ek ev) → va_S A s.heap H locs → (∀ (H : Heap) (locs : List Loc) (ls : Array Slot), lv_has ls 4 [(0, .ref (ad 0)), (2, .int (nI sw.2))] → va_P (dC, dI) vwCl (xw ad ca kf vf bf w op (nI (pw_i kf ln9 n9 (pw_n sw (lN n9))).2) nx en ok ((pw_i kf ln9 n9 (pw_n sw (lN n9))).1) nb ef ff fi ek ev) H → va_D A (xw ad ca kf vf bf w op (nI (pw_i kf ln9 n9 (pw_n sw (lN n9))).2) nx en ok ((pw_i kf ln9 n9 (pw_n sw (lN n9))).1) nb ef ff fi ek ev) → va_S A s.heap H locs → W p l e ({ frames := 3, cells := 0, slots := 0, locals := 68 } : Room) s m args below meth c H locs 0 0 Q (F0 m 64 ls [])) → W p l e ({ frames := 3, cells := 0, slots := 0, locals := 68 } : Room) s m args below meth c H locs 0 0 Q (F0 m 19 ls []) := by
  intro k
  induction k with
  | zero =>
    intro b9 H locs ls hm hl hP hD hS kg
    have hl : lv_has ls 4 [(3, .int (nI b9)), (0, .ref (ad 0)), (1, .int (nI n9)), (2, .int (nI sw.2))] := hl
    obtain rfl : b9 = n9 := by omega
    refine lv_iload_n hx hb dX3_writeIndex_19 rfl (lv_at hl 0 rfl) ?_
    refine lv_iload_n hx hb dX3_writeIndex_20 rfl (lv_at hl 2 rfl) ?_
    refine lv_icmp_ge (tgt := 64) hx hb dX3_writeIndex_21 rfl (fun hc => ?_) (fun hc => absurd hc (not_not_intro (Int32.le_refl _)))
    exact kg H locs ls (lv_sub hl [1, 3] rfl) hP hD hS
  | succ k ih =>
    intro b9 H locs ls hm hl hP hD hS kg
    have hl : lv_has ls 4 [(3, .int (nI b9)), (0, .ref (ad 0)), (1, .int (nI n9)), (2, .int (nI sw.2))] := hl
    refine lv_iload_n hx hb dX3_writeIndex_19 rfl (lv_at hl 0 rfl) ?_
    refine lv_iload_n hx hb dX3_writeIndex_20 rfl (lv_at hl 2 rfl) ?_
    refine lv_icmp_ge (tgt := 64) hx hb dX3_writeIndex_21 rfl (fun hc => absurd hc (by rw [nI_leI (by omega) (by omega)]; omega)) (fun hc => ?_)
    have u1 : pl_n 9 (lN n9).toBitVec.toNat = 1 := by rw [pz_lN (by omega)]; exact pl_n1 (by omega)
    have u2 : (pw_n sw (lN n9)).2 = sw.2 + pl_n 9 (lN n9).toBitVec.toNat := rfl
    have u3 := pw_i_up (kf := kf) hln b9 (pw_n sw (lN n9))
    have u4 : pl_n 9 (lN (ln9 b9)).toBitVec.toNat = 1 := by rw [pz_lN (Nat.lt_trans (hln b9) (by decide))]; exact pl_n1 (hln b9)
    have u5 := pl_n5 (pu_f_lt (kf (8 * b9)))
    refine lv_aload_n hx hb dX3_writeIndex_24 rfl (lv_at hl 1 rfl) ?_
    refine va_get (D := (dC, dI)) (ci := 3) (v := .ref (ad 4)) (C := RX3) (T := TX3) (N := 8) (ref := "SortedRun") hx hb hts (xg_u mb_uws_X3) hown hK hP 0 rfl rfl 3 (by decide) (xg_w hts mb_fieldLink_RX3_23) (fun _ h9 => h9) rfl dX3_writeIndex_25 ?_
    refine lv_aload_n hx hb dX3_writeIndex_28 rfl (lv_at hl 1 rfl) ?_
    refine va_get (D := (dC, dI)) (ci := 3) (v := .ref (ad 3)) (C := RX3) (T := TX3) (N := 8) (ref := "SortedRun") hx hb hts (xg_u mb_uws_X3) hown hK hP 0 rfl rfl 2 (by decide) (xg_w hts mb_fieldLink_RX3_17) (fun _ h9 => h9) rfl dX3_writeIndex_29 ?_
    refine lv_iload_n hx hb dX3_writeIndex_32 rfl (lv_at hl 0 rfl) ?_
    refine va_iald hx hb hK hP 3 0 rfl rfl (vp_in_nI (by omega) (by decide)) dX3_writeIndex_33 ?_
    refine lv_topi (fun z1 ez1 => ?_)
    have ez1 : z1 = nI (ln9 b9) := ez1.trans ((congrArg bf (nI_clamp (by omega))).trans (hbf b9 (by omega)))
    subst ez1
    refine lv_i2l (v := lN (ln9 b9)) hx hb dX3_writeIndex_34 (nI_l (Nat.lt_trans (hln b9) (by decide))) ?_
    refine xk_v (va_runV (As := [.long (lN (ln9 b9))]) (rest := []) ⟨hx, hb, hml, hown, hts⟩ (cX2_appendNumber_m l dC dI ca ad kf vf bf w op nx en ok ((pw_i kf ln9 b9 (pw_n sw (lN n9))).1) nb ef ff fi ek ev (pw_i kf ln9 b9 (pw_n sw (lN n9))).2 (lN (ln9 b9)) (by omega) _) (cwV 1 hts (xg_V mb_methodLink_RX3_185 mb_instanceMethod_yX2_appendNumber mb_selects_yX2_appendNumber mb_initialized_RX2 mb_code_yX2_appendNumber) rfl rfl rfl ⟨rfl, by decide, by decide, by decide +kernel⟩ ⟨Nat.le_of_ble_eq_true rfl, Nat.le_of_ble_eq_true rfl⟩) (xpreV (va_recv (q0 := 4) hK hP rfl rfl) hK hP hD hS hA hE) rfl rfl hl.1 rfl (lv_room (Nat.le_of_ble_eq_true rfl)) dX3_writeIndex_35 ⟨Nat.le_of_ble_eq_true rfl, Nat.le_of_ble_eq_true rfl⟩) hD hS hA (fun u H locs hu hP hD hS => ?_)
    have hP : va_P (dC, dI) vwCl (xw ad ca kf vf bf w op (nI (pw_n (pw_i kf ln9 b9 (pw_n sw (lN n9))) (lN (ln9 b9))).2) nx en ok ((pw_n (pw_i kf ln9 b9 (pw_n sw (lN n9))) (lN (ln9 b9))).1) nb ef ff fi ek ev) H := hP
    have hD : va_D A (xw ad ca kf vf bf w op (nI (pw_n (pw_i kf ln9 b9 (pw_n sw (lN n9))) (lN (ln9 b9))).2) nx en ok ((pw_n (pw_i kf ln9 b9 (pw_n sw (lN n9))) (lN (ln9 b9))).1) nb ef ff fi ek ev) := hD
    have u6 : (pw_n (pw_i kf ln9 b9 (pw_n sw (lN n9))) (lN (ln9 b9))).2 = (pw_i kf ln9 b9 (pw_n sw (lN n9))).2 + pl_n 9 (lN (ln9 b9)).toBitVec.toNat := rfl
    refine lv_aload_n hx hb dX3_writeIndex_38 rfl (lv_at hl 1 rfl) ?_
    refine va_get (D := (dC, dI)) (ci := 3) (v := .ref (ad 4)) (C := RX3) (T := TX3) (N := 8) (ref := "SortedRun") hx hb hts (xg_u mb_uws_X3) hown hK hP 0 rfl rfl 3 (by decide) (xg_w hts mb_fieldLink_RX3_23) (fun _ h9 => h9) rfl dX3_writeIndex_39 ?_
    refine lv_aload_n hx hb dX3_writeIndex_42 rfl (lv_at hl 1 rfl) ?_
    refine va_get (D := (dC, dI)) (ci := 3) (v := .ref (ad 1)) (C := RX3) (T := TX3) (N := 8) (ref := "SortedRun") hx hb hts (xg_u mb_uws_X3) hown hK hP 0 rfl rfl 0 (by decide) (xg_w hts mb_fieldLink_RX3_9) (fun _ h9 => h9) rfl dX3_writeIndex_43 ?_
    refine lv_iload_n hx hb dX3_writeIndex_46 rfl (lv_at hl 0 rfl) ?_
    refine lv_bipush (v := nI 8) hx hb dX3_writeIndex_47 (by decide) ?_
    refine lv_imul hx hb dX3_writeIndex_49 ?_
    refine lv_topi (fun z2 ez2 => ?_)
    have ez2 : z2 = nI (8 * b9) := ez2.trans (by rw [pk_mul, Nat.mul_comm])
    subst ez2
    refine va_iald hx hb hK hP 1 0 rfl rfl (vp_in_nI (by omega) (by decide)) dX3_writeIndex_50 ?_
    refine lv_topi (fun z3 ez3 => ?_)
    have ez3 : z3 = kf (8 * b9) := ez3.trans (congrArg kf (nI_clamp (by omega)))
    subst ez3
    refine lv_i2l (v := (kf (8 * b9)).toInt64) hx hb dX3_writeIndex_51 (rfl) ?_
    refine xk_l (va_runS (As := [.long ((kf (8 * b9)).toInt64)]) (rest := [.ref (ad 4)]) ⟨hx, hb, hml, hown, hts⟩ (cX3_fold_m l dC dI ca ad kf vf bf w op (nI (pw_n (pw_i kf ln9 b9 (pw_n sw (lN n9))) (lN (ln9 b9))).2) nx en ok ((pw_n (pw_i kf ln9 b9 (pw_n sw (lN n9))) (lN (ln9 b9))).1) nb ef ff fi ek ev ((kf (8 * b9)).toInt64) _) (cwS 1 hts (xg_S mb_methodLink_RX3_181 mb_static_yX3_fold mb_initialized_RX3 mb_code_yX3_fold) rfl rfl rfl ⟨rfl, by decide, by decide, by decide +kernel⟩ ⟨Nat.le_of_ble_eq_true rfl, Nat.le_of_ble_eq_true rfl⟩) (xpreS hK hP hD hS hA hE) rfl rfl hl.1 rfl (lv_room (Nat.le_of_ble_eq_true rfl)) dX3_writeIndex_52 ⟨Nat.le_of_ble_eq_true rfl, Nat.le_of_ble_eq_true rfl⟩) hD hS hA (fun r u H locs hu hP hD hS => ?_)
    subst hu
    have hP : va_P (dC, dI) vwCl (xw ad ca kf vf bf w op (nI (pw_n (pw_i kf ln9 b9 (pw_n sw (lN n9))) (lN (ln9 b9))).2) nx en ok ((pw_n (pw_i kf ln9 b9 (pw_n sw (lN n9))) (lN (ln9 b9))).1) nb ef ff fi ek ev) H := hP
    have hD : va_D A (xw ad ca kf vf bf w op (nI (pw_n (pw_i kf ln9 b9 (pw_n sw (lN n9))) (lN (ln9 b9))).2) nx en ok ((pw_n (pw_i kf ln9 b9 (pw_n sw (lN n9))) (lN (ln9 b9))).1) nb ef ff fi ek ev) := hD
    refine xk_v (va_runV (As := [.long (pu_f ((kf (8 * b9)).toInt64))]) (rest := []) ⟨hx, hb, hml, hown, hts⟩ (cX2_appendNumber_m l dC dI ca ad kf vf bf w op nx en ok ((pw_n (pw_i kf ln9 b9 (pw_n sw (lN n9))) (lN (ln9 b9))).1) nb ef ff fi ek ev (pw_n (pw_i kf ln9 b9 (pw_n sw (lN n9))) (lN (ln9 b9))).2 (pu_f (kf (8 * b9)).toInt64) (by omega) _) (cwV 1 hts (xg_V mb_methodLink_RX3_185 mb_instanceMethod_yX2_appendNumber mb_selects_yX2_appendNumber mb_initialized_RX2 mb_code_yX2_appendNumber) rfl rfl rfl ⟨rfl, by decide, by decide, by decide +kernel⟩ ⟨Nat.le_of_ble_eq_true rfl, Nat.le_of_ble_eq_true rfl⟩) (xpreV (va_recv (q0 := 4) hK hP rfl rfl) hK hP hD hS hA hE) rfl rfl hl.1 rfl (lv_room (Nat.le_of_ble_eq_true rfl)) dX3_writeIndex_55 ⟨Nat.le_of_ble_eq_true rfl, Nat.le_of_ble_eq_true rfl⟩) hD hS hA (fun u H locs hu hP hD hS => ?_)
    have hP : va_P (dC, dI) vwCl (xw ad ca kf vf bf w op (nI (pw_i kf ln9 (b9 + 1) (pw_n sw (lN n9))).2) nx en ok ((pw_i kf ln9 (b9 + 1) (pw_n sw (lN n9))).1) nb ef ff fi ek ev) H := hP
    have hD : va_D A (xw ad ca kf vf bf w op (nI (pw_i kf ln9 (b9 + 1) (pw_n sw (lN n9))).2) nx en ok ((pw_i kf ln9 (b9 + 1) (pw_n sw (lN n9))).1) nb ef ff fi ek ev) := hD
    refine lv_iinc (k := 0) (v := nI (b9 + 1)) hx hb dX3_writeIndex_58 hl rfl (nI_1 b9) (by decide) rfl (fun ls hl => ?_)
    have hl : lv_has ls 4 [(3, .int (nI (b9 + 1))), (0, .ref (ad 0)), (1, .int (nI n9)), (2, .int (nI sw.2))] := hl
    refine lv_goto (tgt := 19) hx hb dX3_writeIndex_61 rfl ?_
    exact ih (b9 + 1) _ _ _ (by omega) hl hP hD hS kg

set_option maxHeartbeats 4000000 in
set_option maxRecDepth 100000 in
theorem cX3_writeIndex_m (l : Launch) (dC : Nat → ClassId) (dI : Nat → Nat → Nat) (ca : Nat → ClassId) (ad : Nat → Nat) (kf : Nat → Int32) (vf : Nat → Int64) (bf : Nat → Int32) (w : Int32) (op : Int32) (nx : Int32) (en : Int32) (ok : Int32) (nb : Int32) (ef : Nat → Int32) (ff : Nat → Int32) (fi : Int32) (ek : Int32) (ev : Int64) (n9 : Nat) (ln9 : Nat → Nat) (sw : pw_P) (hn : n9 ≤ 38) (hbf : ∀ j, j < n9 → bf j = nI (ln9 j)) (hln : ∀ j, ln9 j < 128) (hL : sw.2 + 1 + 6 * n9 + 8 ≤ 4889) : ∀ sz : Nat, Met l yX3_writeIndex wsX3_writeIndex ({ frames := 3, cells := 0, slots := 0, locals := 68 } : Room) (va_Pc [.ref (ad 0), .int (nI n9)] (xP (dC, dI) (xt ca) (xw ad ca kf vf bf w op (nI sw.2) nx en ok sw.1 nb ef ff fi ek ev) sz)) (va_Qv (S := Unit) (fun _ => True) (fun u t => xB (dC, dI) (xt ca) (va_A (xw ad ca kf vf bf w op (nI sw.2) nx en ok sw.1 nb ef ff fi ek ev) sz) (xw ad ca kf vf bf w op (nI (pw_ix kf ln9 n9 sw).2) nx en ok ((pw_ix kf ln9 n9 sw).1) nb ef ff fi ek ev) t) (va_A (xw ad ca kf vf bf w op (nI sw.2) nx en ok sw.1 nb ef ff fi ek ev) sz)) 0 0 (va_A (xw ad ca kf vf bf w op (nI sw.2) nx en ok sw.1 nb ef ff fi ek ev) sz) := by
  intro sz
  refine Met.ofW (cc := cX3_writeIndex) (maxL := 4) (ret := none) (by decide) rfl ?_
  intro p e s m args below meth c s₁ B hml hv
  obtain ⟨rfl, hsz, hP, hK, hD0, hE⟩ := hv
  have hx := B.exec
  have hb := B.bytes
  have hr := B.returns
  have hts := atoms_spec (ws := wsX3_writeIndex) B.pre
  have hown : s.vm.findClass RX3 = some m.cls := findClass_of_methodNamed B.named
  have hlocks := B.notSynchronized
  subst hsz
  have hD := hD0.self (sz := s.heap.size)
  generalize hAe : va_A (xw ad ca kf vf bf w op (nI sw.2) nx en ok sw.1 nb ef ff fi ek ev) s.heap.size = A at hD hE ⊢
  have hA : ∀ q : Nat, s.heap.size ≤ q → A q := fun q h => by rw [← hAe]; exact Or.inr h
  have hS : va_S A s.heap s.heap [] := va_S.rf
  have hl := lv_entry ([.ref (ad 0), .int (nI n9)]) (n := 4) (Nat.le_of_ble_eq_true rfl)
  rw [lg_entry_eq]
  generalize (lg_sl ([.ref (ad 0), .int (nI n9)]) ++ List.replicate (4 - (lg_sl ([.ref (ad 0), .int (nI n9)])).length) Slot.unset).toArray = ls at hl ⊢
  have hl : lv_has ls 4 [(0, .ref (ad 0)), (1, .int (nI n9))] := hl
  have u1 : pl_n 9 (lN n9).toBitVec.toNat = 1 := by rw [pz_lN (by omega)]; exact pl_n1 (by omega)
  have u2 : (pw_n sw (lN n9)).2 = sw.2 + pl_n 9 (lN n9).toBitVec.toNat := rfl
  refine lv_aload_n hx hb dX3_writeIndex_0 rfl (lv_at hl 0 rfl) ?_
  refine va_get (D := (dC, dI)) (ci := 3) (v := .ref (ad 4)) (C := RX3) (T := TX3) (N := 8) (ref := "SortedRun") hx hb hts (xg_u mb_uws_X3) hown hK hP 0 rfl rfl 3 (by decide) (xg_w hts mb_fieldLink_RX3_23) (fun _ h9 => h9) rfl dX3_writeIndex_1 ?_
  refine va_getN (host := "SortedRun") (D := (dC, dI)) (ci := 2) (v := .int (nI sw.2)) (C := RX2) (T := TX2) (N := 5) (ref := "SortedRun$Table") hx hb hts (xg_u mb_uws_X2) hown hK hP 4 rfl rfl 1 (by decide) (xn_w (w := .fieldLinkNest RX3 60 "SortedRun$Table" "length" "I" "SortedRun") (i := 32) hE rfl rfl rfl) (fun _ h9 => h9) rfl dX3_writeIndex_4 ?_
  refine lv_istore_n hx hb dX3_writeIndex_7 rfl hl (by decide) rfl (fun ls hl => ?_)
  have hl : lv_has ls 4 [(2, .int (nI sw.2)), (0, .ref (ad 0)), (1, .int (nI n9))] := hl
  refine lv_aload_n hx hb dX3_writeIndex_8 rfl (lv_at hl 1 rfl) ?_
  refine va_get (D := (dC, dI)) (ci := 3) (v := .ref (ad 4)) (C := RX3) (T := TX3) (N := 8) (ref := "SortedRun") hx hb hts (xg_u mb_uws_X3) hown hK hP 0 rfl rfl 3 (by decide) (xg_w hts mb_fieldLink_RX3_23) (fun _ h9 => h9) rfl dX3_writeIndex_9 ?_
  refine lv_iload_n hx hb dX3_writeIndex_12 rfl (lv_at hl 2 rfl) ?_
  refine lv_i2l (v := lN n9) hx hb dX3_writeIndex_13 (nI_l (by omega)) ?_
  refine xk_v (va_runV (As := [.long (lN n9)]) (rest := []) ⟨hx, hb, hml, hown, hts⟩ (cX2_appendNumber_m l dC dI ca ad kf vf bf w op nx en ok sw.1 nb ef ff fi ek ev sw.2 (lN n9) (by omega) _) (cwV 1 hts (xg_V mb_methodLink_RX3_185 mb_instanceMethod_yX2_appendNumber mb_selects_yX2_appendNumber mb_initialized_RX2 mb_code_yX2_appendNumber) rfl rfl rfl ⟨rfl, by decide, by decide, by decide +kernel⟩ ⟨Nat.le_of_ble_eq_true rfl, Nat.le_of_ble_eq_true rfl⟩) (xpreV (va_recv (q0 := 4) hK hP rfl rfl) hK hP hD hS hA hE) rfl rfl hl.1 rfl (lv_room (Nat.le_of_ble_eq_true rfl)) dX3_writeIndex_14 ⟨Nat.le_of_ble_eq_true rfl, Nat.le_of_ble_eq_true rfl⟩) hD hS hA (fun u H locs hu hP hD hS => ?_)
  have hP : va_P (dC, dI) vwCl (xw ad ca kf vf bf w op (nI (pw_n sw (lN n9)).2) nx en ok ((pw_n sw (lN n9)).1) nb ef ff fi ek ev) H := hP
  have hD : va_D A (xw ad ca kf vf bf w op (nI (pw_n sw (lN n9)).2) nx en ok ((pw_n sw (lN n9)).1) nb ef ff fi ek ev) := hD
  refine lv_iconst (v := nI 0) hx hb dX3_writeIndex_17 (by decide) ?_
  refine lv_istore_n hx hb dX3_writeIndex_18 rfl hl (by decide) rfl (fun ls hl => ?_)
  have hl : lv_has ls 4 [(3, .int (nI 0)), (2, .int (nI sw.2)), (0, .ref (ad 0)), (1, .int (nI n9))] := hl
  refine lpX3_writeIndex_go hx hb hml hown hts hK hA hE (n9 := n9) (ln9 := ln9) (sw := sw) hn hbf hln hL n9 0 _ _ _ (by omega) (lv_sub hl [0, 2, 3, 1] rfl) hP hD hS ?_
  intro H locs ls hl hP hD hS
  have u3 := pw_i_up (kf := kf) hln n9 (pw_n sw (lN n9))
  have u4 := pw_i_le kf ln9 n9 (pw_n sw (lN n9))
  refine lv_aload_n hx hb dX3_writeIndex_64 rfl (lv_at hl 0 rfl) ?_
  refine va_get (D := (dC, dI)) (ci := 3) (v := .ref (ad 4)) (C := RX3) (T := TX3) (N := 8) (ref := "SortedRun") hx hb hts (xg_u mb_uws_X3) hown hK hP 0 rfl rfl 3 (by decide) (xg_w hts mb_fieldLink_RX3_23) (fun _ h9 => h9) rfl dX3_writeIndex_65 ?_
  refine va_getN (host := "SortedRun") (D := (dC, dI)) (ci := 2) (v := .int (nI (pw_i kf ln9 n9 (pw_n sw (lN n9))).2)) (C := RX2) (T := TX2) (N := 5) (ref := "SortedRun$Table") hx hb hts (xg_u mb_uws_X2) hown hK hP 4 rfl rfl 1 (by decide) (xn_w (w := .fieldLinkNest RX3 60 "SortedRun$Table" "length" "I" "SortedRun") (i := 32) hE rfl rfl rfl) (fun _ h9 => h9) rfl dX3_writeIndex_68 ?_
  refine lv_iload_n hx hb dX3_writeIndex_71 rfl (lv_at hl 1 rfl) ?_
  refine lv_isub hx hb dX3_writeIndex_72 ?_
  refine lv_topi (fun z1 ez1 => ?_)
  have ez1 : z1 = nI ((pw_i kf ln9 n9 (pw_n sw (lN n9))).2 - sw.2) := ez1.trans (pk_sub (by omega))
  subst ez1
  refine lv_istore_n hx hb dX3_writeIndex_73 rfl hl (by decide) rfl (fun ls hl => ?_)
  have hl : lv_has ls 4 [(3, .int (nI ((pw_i kf ln9 n9 (pw_n sw (lN n9))).2 - sw.2))), (0, .ref (ad 0)), (2, .int (nI sw.2))] := hl
  refine lv_aload_n hx hb dX3_writeIndex_74 rfl (lv_at hl 1 rfl) ?_
  refine va_get (D := (dC, dI)) (ci := 3) (v := .ref (ad 4)) (C := RX3) (T := TX3) (N := 8) (ref := "SortedRun") hx hb hts (xg_u mb_uws_X3) hown hK hP 0 rfl rfl 3 (by decide) (xg_w hts mb_fieldLink_RX3_23) (fun _ h9 => h9) rfl dX3_writeIndex_75 ?_
  refine lv_iload_n hx hb dX3_writeIndex_78 rfl (lv_at hl 2 rfl) ?_
  refine xk_v (va_runV (As := [.int (nI sw.2)]) (rest := []) ⟨hx, hb, hml, hown, hts⟩ (cX2_appendSum_m l dC dI ca ad kf vf bf w op nx en ok ((pw_i kf ln9 n9 (pw_n sw (lN n9))).1) nb ef ff fi ek ev (pw_i kf ln9 n9 (pw_n sw (lN n9))).2 sw.2 (by omega) (by omega) _) (cwV 1 hts (xg_V mb_methodLink_RX3_189 mb_instanceMethod_yX2_appendSum mb_selects_yX2_appendSum mb_initialized_RX2 mb_code_yX2_appendSum) rfl rfl rfl ⟨rfl, by decide, by decide, by decide +kernel⟩ ⟨Nat.le_of_ble_eq_true rfl, Nat.le_of_ble_eq_true rfl⟩) (xpreV (va_recv (q0 := 4) hK hP rfl rfl) hK hP hD hS hA hE) rfl rfl hl.1 rfl (lv_room (Nat.le_of_ble_eq_true rfl)) dX3_writeIndex_79 ⟨Nat.le_of_ble_eq_true rfl, Nat.le_of_ble_eq_true rfl⟩) hD hS hA (fun u H locs hu hP hD hS => ?_)
  have hP : va_P (dC, dI) vwCl (xw ad ca kf vf bf w op (nI (pw_s (pw_i kf ln9 n9 (pw_n sw (lN n9))) sw.2).2) nx en ok ((pw_s (pw_i kf ln9 n9 (pw_n sw (lN n9))) sw.2).1) nb ef ff fi ek ev) H := hP
  have hD : va_D A (xw ad ca kf vf bf w op (nI (pw_s (pw_i kf ln9 n9 (pw_n sw (lN n9))) sw.2).2) nx en ok ((pw_s (pw_i kf ln9 n9 (pw_n sw (lN n9))) sw.2).1) nb ef ff fi ek ev) := hD
  have u5 : (pw_s (pw_i kf ln9 n9 (pw_n sw (lN n9))) sw.2).2 = (pw_i kf ln9 n9 (pw_n sw (lN n9))).2 + 4 := rfl
  refine lv_aload_n hx hb dX3_writeIndex_82 rfl (lv_at hl 1 rfl) ?_
  refine va_get (D := (dC, dI)) (ci := 3) (v := .ref (ad 4)) (C := RX3) (T := TX3) (N := 8) (ref := "SortedRun") hx hb hts (xg_u mb_uws_X3) hown hK hP 0 rfl rfl 3 (by decide) (xg_w hts mb_fieldLink_RX3_23) (fun _ h9 => h9) rfl dX3_writeIndex_83 ?_
  refine lv_iload_n hx hb dX3_writeIndex_86 rfl (lv_at hl 0 rfl) ?_
  refine xk_v (va_runV (As := [.int (nI ((pw_i kf ln9 n9 (pw_n sw (lN n9))).2 - sw.2))]) (rest := []) ⟨hx, hb, hml, hown, hts⟩ (cX2_appendFoot_m l dC dI ca ad kf vf bf w op nx en ok ((pw_s (pw_i kf ln9 n9 (pw_n sw (lN n9))) sw.2).1) nb ef ff fi ek ev (pw_s (pw_i kf ln9 n9 (pw_n sw (lN n9))) sw.2).2 ((pw_i kf ln9 n9 (pw_n sw (lN n9))).2 - sw.2) (by omega) (by omega) _) (cwV 1 hts (xg_V mb_methodLink_RX3_192 mb_instanceMethod_yX2_appendFoot mb_selects_yX2_appendFoot mb_initialized_RX2 mb_code_yX2_appendFoot) rfl rfl rfl ⟨rfl, by decide, by decide, by decide +kernel⟩ ⟨Nat.le_of_ble_eq_true rfl, Nat.le_of_ble_eq_true rfl⟩) (xpreV (va_recv (q0 := 4) hK hP rfl rfl) hK hP hD hS hA hE) rfl rfl hl.1 rfl (lv_room (Nat.le_of_ble_eq_true rfl)) dX3_writeIndex_87 ⟨Nat.le_of_ble_eq_true rfl, Nat.le_of_ble_eq_true rfl⟩) hD hS hA (fun u H locs hu hP hD hS => ?_)
  have hP : va_P (dC, dI) vwCl (xw ad ca kf vf bf w op (nI (pw_ix kf ln9 n9 sw).2) nx en ok ((pw_ix kf ln9 n9 sw).1) nb ef ff fi ek ev) H := hP
  have hD : va_D A (xw ad ca kf vf bf w op (nI (pw_ix kf ln9 n9 sw).2) nx en ok ((pw_ix kf ln9 n9 sw).1) nb ef ff fi ek ev) := hD
  have hP9 := hP
  have hD9 := hD
  exact W.vret hx hb hr (fun t ht hW => ⟨⟨(), rfl, trivial, by rw [ht]; exact hP9, va_K.moved hW.alike hK, hD9⟩, hS.F ht⟩) hS.2.2 dX3_writeIndex_90

set_option maxHeartbeats 4000000 in
set_option maxRecDepth 100000 in
theorem lpX3_writeTable_go {p : Program} {l : Launch} {e : Env} {s : State} {m : MethodId} {args : Array Value} {below : List Frame} {meth : Method} {c : Code} {Q : State → Prop} {A : Nat → Prop} {dC : Nat → ClassId} {dI : Nat → Nat → Nat} {ca : Nat → ClassId} {ad : Nat → Nat} (hx : p.tables.exec = Jvm.exec) (hb : c.code = cX3_writeTable) (hml : c.maxLocals = 3) (hown : s.vm.findClass RX3 = some m.cls) (hts : ∀ w ∈ wsX3_writeTable, w.before args s = true) (hK : va_K (dC, dI) vwCl (xt ca) s) (hA : ∀ q : Nat, s.heap.size ≤ q → A q) (hE : xn_E A s) {kf : Nat → Int32} {vf : Nat → Int64} {op : Int32} {nx : Int32} {en : Int32} {ok : Int32} {nb : Int32} {ef : Nat → Int32} {ff : Nat → Int32} {fi : Int32} {ek : Int32} {ev : Int64} {w9 : Nat} {t0 : Nat → Int32} (hw : w9 ≤ 300) (hup : pw_up kf w9) : ∀ (k : Nat) (b9 : Nat) (bf : Nat → Int32) (H : Heap) (locs : List Loc) (ls : Array Slot), b9 + k = (w9 + 7) / 8 → (∀ j, j < b9 → bf j = nI (pw_len kf vf w9 (t0, 0) j)) → lv_has ls 3 [(1, .int (nI b9)), (0, .ref (ad 0)), (2, .int (nI (8 * b9)))] → va_P (dC, dI) vwCl (xw ad ca kf vf bf (nI w9) op (nI (pw_bs kf vf w9 b9 (t0, 0)).2) nx en ok ((pw_bs kf vf w9 b9 (t0, 0)).1) nb ef ff fi ek ev) H → va_D A (xw ad ca kf vf bf (nI w9) op (nI (pw_bs kf vf w9 b9 (t0, 0)).2) nx en ok ((pw_bs kf vf w9 b9 (t0, 0)).1) nb ef ff fi ek ev) → va_S A s.heap H locs → (∀ bf : Nat → Int32, (∀ j, j < (w9 + 7) / 8 → bf j = nI (pw_len kf vf w9 (t0, 0) j)) → ∀ (H : Heap) (locs : List Loc) (ls : Array Slot), lv_has ls 3 [(0, .ref (ad 0)), (1, .int (nI ((w9 + 7) / 8)))] → va_P (dC, dI) vwCl (xw ad ca kf vf bf (nI w9) op (nI (pw_bs kf vf w9 ((w9 + 7) / 8) (t0, 0)).2) nx en ok ((pw_bs kf vf w9 ((w9 + 7) / 8) (t0, 0)).1) nb ef ff fi ek ev) H → va_D A (xw ad ca kf vf bf (nI w9) op (nI (pw_bs kf vf w9 ((w9 + 7) / 8) (t0, 0)).2) nx en ok ((pw_bs kf vf w9 ((w9 + 7) / 8) (t0, 0)).1) nb ef ff fi ek ev) → va_S A s.heap H locs → W p l e ({ frames := 4, cells := 0, slots := 0, locals := 92 } : Room) s m args below meth c H locs 0 0 Q (F0 m 45 ls [])) → W p l e ({ frames := 4, cells := 0, slots := 0, locals := 92 } : Room) s m args below meth c H locs 0 0 Q (F0 m 17 ls []) := by
  intro k
  induction k with
  | zero =>
    intro b9 bf H locs ls hm hbf hl hP hD hS kg
    have hl : lv_has ls 3 [(1, .int (nI b9)), (0, .ref (ad 0)), (2, .int (nI (8 * b9)))] := hl
    obtain rfl : b9 = (w9 + 7) / 8 := by omega
    refine lv_iload_n hx hb dX3_writeTable_17 rfl (lv_at hl 2 rfl) ?_
    refine lv_aload_n hx hb dX3_writeTable_18 rfl (lv_at hl 1 rfl) ?_
    refine va_get (D := (dC, dI)) (ci := 3) (v := .int (nI w9)) (C := RX3) (T := TX3) (N := 8) (ref := "SortedRun") hx hb hts (xg_u mb_uws_X3) hown hK hP 0 rfl rfl 6 (by decide) (xg_w hts mb_fieldLink_RX3_44) (fun _ h9 => h9) rfl dX3_writeTable_19 ?_
    refine lv_icmp_ge (tgt := 45) hx hb dX3_writeTable_22 rfl (fun hc => ?_) (fun hc => absurd hc (not_not_intro (nI_le (by omega) (by omega))))
    exact kg bf hbf H locs ls (lv_sub hl [1, 0] rfl) hP hD hS
  | succ k ih =>
    intro b9 bf H locs ls hm hbf hl hP hD hS kg
    have hl : lv_has ls 3 [(1, .int (nI b9)), (0, .ref (ad 0)), (2, .int (nI (8 * b9)))] := hl
    refine lv_iload_n hx hb dX3_writeTable_17 rfl (lv_at hl 2 rfl) ?_
    refine lv_aload_n hx hb dX3_writeTable_18 rfl (lv_at hl 1 rfl) ?_
    refine va_get (D := (dC, dI)) (ci := 3) (v := .int (nI w9)) (C := RX3) (T := TX3) (N := 8) (ref := "SortedRun") hx hb hts (xg_u mb_uws_X3) hown hK hP 0 rfl rfl 6 (by decide) (xg_w hts mb_fieldLink_RX3_44) (fun _ h9 => h9) rfl dX3_writeTable_19 ?_
    refine lv_icmp_ge (tgt := 45) hx hb dX3_writeTable_22 rfl (fun hc => absurd hc (by rw [nI_leI (by omega) (by omega)]; omega)) (fun hc => ?_)
    have u1 := pw_bs_up (vf := vf) hup (t0, 0) b9 (by omega)
    simp only [Nat.zero_add] at u1
    refine lv_aload_n hx hb dX3_writeTable_25 rfl (lv_at hl 1 rfl) ?_
    refine va_get (D := (dC, dI)) (ci := 3) (v := .ref (ad 3)) (C := RX3) (T := TX3) (N := 8) (ref := "SortedRun") hx hb hts (xg_u mb_uws_X3) hown hK hP 0 rfl rfl 2 (by decide) (xg_w hts mb_fieldLink_RX3_17) (fun _ h9 => h9) rfl dX3_writeTable_26 ?_
    refine lv_iload_n hx hb dX3_writeTable_29 rfl (lv_at hl 0 rfl) ?_
    refine lv_aload_n hx hb dX3_writeTable_30 rfl (lv_at hl 1 rfl) ?_
    refine lv_iload_n hx hb dX3_writeTable_31 rfl (lv_at hl 2 rfl) ?_
    refine xk_i (va_runV (As := [.int (nI (8 * b9))]) (rest := [.int (nI b9), .ref (ad 3)]) ⟨hx, hb, hml, hown, hts⟩ (cX3_writeBlock_m l dC dI ca ad kf vf bf op nx en ok nb ef ff fi ek ev (8 * b9) w9 (pw_bs kf vf w9 b9 (t0, 0)) hw hup (by omega) (by omega) _) (cwV 1 hts (xg_V mb_methodLink_RX3_169 mb_instanceMethod_yX3_writeBlock mb_selects_yX3_writeBlock mb_initialized_RX3 mb_code_yX3_writeBlock) rfl rfl rfl ⟨rfl, by decide, by decide, by decide +kernel⟩ ⟨Nat.le_of_ble_eq_true rfl, Nat.le_of_ble_eq_true rfl⟩) (xpreV (va_recv (q0 := 0) hK hP rfl rfl) hK hP hD hS hA hE) rfl rfl hl.1 rfl (lv_room (Nat.le_of_ble_eq_true rfl)) dX3_writeTable_32 ⟨Nat.le_of_ble_eq_true rfl, Nat.le_of_ble_eq_true rfl⟩) hD hS hA (fun r u H locs hu hP hD hS => ?_)
    subst hu
    have hP : va_P (dC, dI) vwCl (xw ad ca kf vf bf (nI w9) op (nI (pw_bs kf vf w9 (b9 + 1) (t0, 0)).2) nx en ok ((pw_bs kf vf w9 (b9 + 1) (t0, 0)).1) nb ef ff fi ek ev) H := hP
    have hD : va_D A (xw ad ca kf vf bf (nI w9) op (nI (pw_bs kf vf w9 (b9 + 1) (t0, 0)).2) nx en ok ((pw_bs kf vf w9 (b9 + 1) (t0, 0)).1) nb ef ff fi ek ev) := hD
    refine lv_topi (fun z1 ez1 => ?_)
    have ez1 : z1 = nI (pw_len kf vf w9 (t0, 0) b9) := ez1.trans (rfl)
    subst ez1
    refine va_iast hx hb hK hP hD hS 3 0 rfl rfl (vp_in_nI (by omega) (by decide)) dX3_writeTable_35 (fun H locs hP hD hS => ?_)
    have e9 : upd bf (nI b9).toNatClampNeg (nI (pw_len kf vf w9 (t0, 0) b9)) = upd bf b9 (nI (pw_len kf vf w9 (t0, 0) b9)) := by rw [nI_clamp (by omega)]
    rw [e9] at hP hD
    clear e9
    have hP : va_P (dC, dI) vwCl (xw ad ca kf vf (upd bf b9 (nI (pw_len kf vf w9 (t0, 0) b9))) (nI w9) op (nI (pw_bs kf vf w9 (b9 + 1) (t0, 0)).2) nx en ok ((pw_bs kf vf w9 (b9 + 1) (t0, 0)).1) nb ef ff fi ek ev) H := hP
    have hD : va_D A (xw ad ca kf vf (upd bf b9 (nI (pw_len kf vf w9 (t0, 0) b9))) (nI w9) op (nI (pw_bs kf vf w9 (b9 + 1) (t0, 0)).2) nx en ok ((pw_bs kf vf w9 (b9 + 1) (t0, 0)).1) nb ef ff fi ek ev) := hD
    refine lv_iinc (k := 0) (v := nI (b9 + 1)) hx hb dX3_writeTable_36 hl rfl (nI_1 b9) (by decide) rfl (fun ls hl => ?_)
    have hl : lv_has ls 3 [(1, .int (nI (b9 + 1))), (0, .ref (ad 0)), (2, .int (nI (8 * b9)))] := hl
    refine lv_iinc (k := 2) (v := nI (8 * (b9 + 1))) hx hb dX3_writeTable_39 hl rfl (nI_add (8 * b9) 8) (by decide) rfl (fun ls hl => ?_)
    have hl : lv_has ls 3 [(2, .int (nI (8 * (b9 + 1)))), (1, .int (nI (b9 + 1))), (0, .ref (ad 0))] := hl
    refine lv_goto (tgt := 17) hx hb dX3_writeTable_42 rfl ?_
    refine ih (b9 + 1) _ _ _ _ (by omega) (fun j hj => ?_) (lv_sub hl [1, 2, 0] rfl) hP hD hS kg
    by_cases hjb : j = b9
    · subst hjb; exact pk_us
    · rw [pk_un hjb]; exact hbf j (by omega)

set_option maxHeartbeats 4000000 in
set_option maxRecDepth 100000 in
theorem cX3_writeTable_m (l : Launch) (dC : Nat → ClassId) (dI : Nat → Nat → Nat) (ca : Nat → ClassId) (ad : Nat → Nat) (kf : Nat → Int32) (vf : Nat → Int64) (bf : Nat → Int32) (op : Int32) (ln : Int32) (nx : Int32) (en : Int32) (ok : Int32) (tf : Nat → Int32) (nb : Int32) (ef : Nat → Int32) (ff : Nat → Int32) (fi : Int32) (ek : Int32) (ev : Int64) (w9 : Nat) (hw : w9 ≤ 300) (hup : pw_up kf w9) : ∀ sz : Nat, Met l yX3_writeTable wsX3_writeTable ({ frames := 4, cells := 0, slots := 0, locals := 92 } : Room) (va_Pc [.ref (ad 0)] (xP (dC, dI) (xt ca) (xw ad ca kf vf bf (nI w9) op ln nx en ok tf nb ef ff fi ek ev) sz)) (va_Qv (S := Nat → Int32) (fun _ => True) (fun u t => xB (dC, dI) (xt ca) (va_A (xw ad ca kf vf bf (nI w9) op ln nx en ok tf nb ef ff fi ek ev) sz) (xw ad ca kf vf u 0 0 (nI (pw_all kf vf w9 tf).2) nx en ok ((pw_all kf vf w9 tf).1) nb ef ff fi ek ev) t) (va_A (xw ad ca kf vf bf (nI w9) op ln nx en ok tf nb ef ff fi ek ev) sz)) 0 0 (va_A (xw ad ca kf vf bf (nI w9) op ln nx en ok tf nb ef ff fi ek ev) sz) := by
  intro sz
  refine Met.ofW (cc := cX3_writeTable) (maxL := 3) (ret := none) (by decide) rfl ?_
  intro p e s m args below meth c s₁ B hml hv
  obtain ⟨rfl, hsz, hP, hK, hD0, hE⟩ := hv
  have hx := B.exec
  have hb := B.bytes
  have hr := B.returns
  have hts := atoms_spec (ws := wsX3_writeTable) B.pre
  have hown : s.vm.findClass RX3 = some m.cls := findClass_of_methodNamed B.named
  have hlocks := B.notSynchronized
  subst hsz
  have hD := hD0.self (sz := s.heap.size)
  generalize hAe : va_A (xw ad ca kf vf bf (nI w9) op ln nx en ok tf nb ef ff fi ek ev) s.heap.size = A at hD hE ⊢
  have hA : ∀ q : Nat, s.heap.size ≤ q → A q := fun q h => by rw [← hAe]; exact Or.inr h
  have hS : va_S A s.heap s.heap [] := va_S.rf
  have hl := lv_entry ([.ref (ad 0)]) (n := 3) (Nat.le_of_ble_eq_true rfl)
  rw [lg_entry_eq]
  generalize (lg_sl ([.ref (ad 0)]) ++ List.replicate (3 - (lg_sl ([.ref (ad 0)])).length) Slot.unset).toArray = ls at hl ⊢
  have hl : lv_has ls 3 [(0, .ref (ad 0))] := hl
  refine lv_aload_n hx hb dX3_writeTable_0 rfl (lv_at hl 0 rfl) ?_
  refine lv_iconst (v := 0) hx hb dX3_writeTable_1 (by decide) ?_
  refine va_put (D := (dC, dI)) (ci := 3) (v := .int 0) (ty := .boolean) (C := RX3) (T := TX3) (N := 8) (ref := "SortedRun") hx hb hts (xg_u mb_uws_X3) tyX3 tyX3_ok nmX3 hown hK hP hD hS 0 rfl rfl 7 (by decide) (xg_w hts mb_fieldLink_RX3_75) (fun _ h9 => h9) rfl (by decide +kernel) rfl rfl (Nat.le_of_ble_eq_true rfl) dX3_writeTable_2 (fun H locs hP hD hS => ?_)
  have hP : va_P (dC, dI) vwCl (xw ad ca kf vf bf (nI w9) 0 ln nx en ok tf nb ef ff fi ek ev) H := hP
  have hD : va_D A (xw ad ca kf vf bf (nI w9) 0 ln nx en ok tf nb ef ff fi ek ev) := hD
  refine lv_aload_n hx hb dX3_writeTable_5 rfl (lv_at hl 0 rfl) ?_
  refine va_get (D := (dC, dI)) (ci := 3) (v := .ref (ad 4)) (C := RX3) (T := TX3) (N := 8) (ref := "SortedRun") hx hb hts (xg_u mb_uws_X3) hown hK hP 0 rfl rfl 3 (by decide) (xg_w hts mb_fieldLink_RX3_23) (fun _ h9 => h9) rfl dX3_writeTable_6 ?_
  refine lv_iconst (v := nI 0) hx hb dX3_writeTable_9 (by decide) ?_
  refine va_putN (host := "SortedRun") (D := (dC, dI)) (ci := 2) (v := .int (nI 0)) (ty := .int) (C := RX2) (T := TX2) (N := 5) (ref := "SortedRun$Table") hx hb hts (xg_u mb_uws_X2) tyX2 tyX2_ok nmX2 hown hK hP hD hS 4 rfl rfl 1 (by decide) (xn_w (w := .fieldLinkNest RX3 60 "SortedRun$Table" "length" "I" "SortedRun") (i := 32) hE rfl rfl rfl) (fun _ h9 => h9) rfl (by decide +kernel) rfl rfl (Nat.le_of_ble_eq_true rfl) dX3_writeTable_10 (fun H locs hP hD hS => ?_)
  have hP : va_P (dC, dI) vwCl (xw ad ca kf vf bf (nI w9) 0 (nI 0) nx en ok tf nb ef ff fi ek ev) H := hP
  have hD : va_D A (xw ad ca kf vf bf (nI w9) 0 (nI 0) nx en ok tf nb ef ff fi ek ev) := hD
  refine lv_iconst (v := nI 0) hx hb dX3_writeTable_13 (by decide) ?_
  refine lv_istore_n hx hb dX3_writeTable_14 rfl hl (by decide) rfl (fun ls hl => ?_)
  have hl : lv_has ls 3 [(1, .int (nI 0)), (0, .ref (ad 0))] := hl
  refine lv_iconst (v := nI 0) hx hb dX3_writeTable_15 (by decide) ?_
  refine lv_istore_n hx hb dX3_writeTable_16 rfl hl (by decide) rfl (fun ls hl => ?_)
  have hl : lv_has ls 3 [(2, .int (nI 0)), (1, .int (nI 0)), (0, .ref (ad 0))] := hl
  refine lpX3_writeTable_go hx hb hml hown hts hK hA hE (w9 := w9) (t0 := tf) hw hup ((w9 + 7) / 8) 0 bf _ _ _ (by omega) (fun j hj => absurd hj (Nat.not_lt_zero j)) (lv_sub hl [1, 2, 0] rfl) hP hD hS ?_
  intro bg hbg H locs ls hl hP hD hS
  have u1 := pw_bs_up (vf := vf) hup (tf, 0) ((w9 + 7) / 8) (by omega)
  simp only [Nat.zero_add] at u1
  refine lv_aload_n hx hb dX3_writeTable_45 rfl (lv_at hl 0 rfl) ?_
  refine lv_iload_n hx hb dX3_writeTable_46 rfl (lv_at hl 1 rfl) ?_
  refine xk_v (va_runV (As := [.int (nI ((w9 + 7) / 8))]) (rest := []) ⟨hx, hb, hml, hown, hts⟩ (cX3_writeIndex_m l dC dI ca ad kf vf bg (nI w9) 0 nx en ok nb ef ff fi ek ev ((w9 + 7) / 8) (pw_len kf vf w9 (tf, 0)) (pw_bs kf vf w9 ((w9 + 7) / 8) (tf, 0)) (by omega) hbg (pw_len_128 hup (tf, 0)) (by omega) _) (cwV 1 hts (xg_V mb_methodLink_RX3_172 mb_instanceMethod_yX3_writeIndex mb_selects_yX3_writeIndex mb_initialized_RX3 mb_code_yX3_writeIndex) rfl rfl rfl ⟨rfl, by decide, by decide, by decide +kernel⟩ ⟨Nat.le_of_ble_eq_true rfl, Nat.le_of_ble_eq_true rfl⟩) (xpreV (va_recv (q0 := 0) hK hP rfl rfl) hK hP hD hS hA hE) rfl rfl hl.1 rfl (lv_room (Nat.le_of_ble_eq_true rfl)) dX3_writeTable_47 ⟨Nat.le_of_ble_eq_true rfl, Nat.le_of_ble_eq_true rfl⟩) hD hS hA (fun u H locs hu hP hD hS => ?_)
  have hP : va_P (dC, dI) vwCl (xw ad ca kf vf bg (nI w9) 0 (nI (pw_all kf vf w9 tf).2) nx en ok ((pw_all kf vf w9 tf).1) nb ef ff fi ek ev) H := hP
  have hD : va_D A (xw ad ca kf vf bg (nI w9) 0 (nI (pw_all kf vf w9 tf).2) nx en ok ((pw_all kf vf w9 tf).1) nb ef ff fi ek ev) := hD
  refine lv_aload_n hx hb dX3_writeTable_50 rfl (lv_at hl 0 rfl) ?_
  refine lv_iconst (v := 0) hx hb dX3_writeTable_51 (by decide) ?_
  refine va_put (D := (dC, dI)) (ci := 3) (v := .int 0) (ty := .int) (C := RX3) (T := TX3) (N := 8) (ref := "SortedRun") hx hb hts (xg_u mb_uws_X3) tyX3 tyX3_ok nmX3 hown hK hP hD hS 0 rfl rfl 6 (by decide) (xg_w hts mb_fieldLink_RX3_44) (fun _ h9 => h9) rfl (by decide +kernel) rfl rfl (Nat.le_of_ble_eq_true rfl) dX3_writeTable_52 (fun H locs hP hD hS => ?_)
  have hP : va_P (dC, dI) vwCl (xw ad ca kf vf bg 0 0 (nI (pw_all kf vf w9 tf).2) nx en ok ((pw_all kf vf w9 tf).1) nb ef ff fi ek ev) H := hP
  have hD : va_D A (xw ad ca kf vf bg 0 0 (nI (pw_all kf vf w9 tf).2) nx en ok ((pw_all kf vf w9 tf).1) nb ef ff fi ek ev) := hD
  have hP9 := hP
  have hD9 := hD
  exact W.vret hx hb hr (fun t ht hW => ⟨⟨bg, rfl, trivial, by rw [ht]; exact hP9, va_K.moved hW.alike hK, hD9⟩, hS.F ht⟩) hS.2.2 dX3_writeTable_55

set_option maxHeartbeats 4000000 in
set_option maxRecDepth 100000 in
theorem cX3_write_m (l : Launch) (dC : Nat → ClassId) (dI : Nat → Nat → Nat) (ca : Nat → ClassId) (ad : Nat → Nat) (kf : Nat → Int32) (vf : Nat → Int64) (bf : Nat → Int32) (op : Int32) (ln : Int32) (nx : Int32) (en : Int32) (ok : Int32) (tf : Nat → Int32) (nb : Int32) (ef : Nat → Int32) (ff : Nat → Int32) (fi : Int32) (ek : Int32) (ev : Int64) (w9 : Nat) (hw : w9 ≤ 300) (hup : pw_up kf w9) : ∀ sz : Nat, Met l yX3_write wsX3_write ({ frames := 5, cells := 0, slots := 0, locals := 114 } : Room) (va_Pc [.ref (ad 0)] (xP (dC, dI) (xt ca) (xw ad ca kf vf bf (nI w9) op ln nx en ok tf nb ef ff fi ek ev) sz)) (va_Qi (S := Nat → Int32) (fun r _ => r = nI (pw_all kf vf w9 tf).2) (fun u t => xB (dC, dI) (xt ca) (va_A (xw ad ca kf vf bf (nI w9) op ln nx en ok tf nb ef ff fi ek ev) sz) (xw ad ca kf vf u 0 0 (nI (pw_all kf vf w9 tf).2) nx en ok ((pw_all kf vf w9 tf).1) nb ef ff fi ek ev) t) (va_A (xw ad ca kf vf bf (nI w9) op ln nx en ok tf nb ef ff fi ek ev) sz)) 0 0 (va_A (xw ad ca kf vf bf (nI w9) op ln nx en ok tf nb ef ff fi ek ev) sz) := by
  intro sz
  refine Met.ofW (cc := cX3_write) (maxL := 1) (ret := (some .int)) (by decide) rfl ?_
  intro p e s m args below meth c s₁ B hml hv
  obtain ⟨rfl, hsz, hP, hK, hD0, hE⟩ := hv
  have hx := B.exec
  have hb := B.bytes
  have hr := B.returns
  have hts := atoms_spec (ws := wsX3_write) B.pre
  have hown : s.vm.findClass RX3 = some m.cls := findClass_of_methodNamed B.named
  have hlocks := B.notSynchronized
  subst hsz
  have hD := hD0.self (sz := s.heap.size)
  generalize hAe : va_A (xw ad ca kf vf bf (nI w9) op ln nx en ok tf nb ef ff fi ek ev) s.heap.size = A at hD hE ⊢
  have hA : ∀ q : Nat, s.heap.size ≤ q → A q := fun q h => by rw [← hAe]; exact Or.inr h
  have hS : va_S A s.heap s.heap [] := va_S.rf
  have hl := lv_entry ([.ref (ad 0)]) (n := 1) (Nat.le_of_ble_eq_true rfl)
  rw [lg_entry_eq]
  generalize (lg_sl ([.ref (ad 0)]) ++ List.replicate (1 - (lg_sl ([.ref (ad 0)])).length) Slot.unset).toArray = ls at hl ⊢
  have hl : lv_has ls 1 [(0, .ref (ad 0))] := hl
  refine lv_aload_n hx hb dX3_write_0 rfl (lv_at hl 0 rfl) ?_
  refine xk_v (va_runV (As := []) (rest := []) ⟨hx, hb, hml, hown, hts⟩ (cX3_writeTable_m l dC dI ca ad kf vf bf op ln nx en ok tf nb ef ff fi ek ev w9 hw hup _) (cwV 0 hts (xg_V mb_methodLink_RX3_41 mb_instanceMethod_yX3_writeTable mb_selects_yX3_writeTable mb_initialized_RX3 mb_code_yX3_writeTable) rfl rfl rfl ⟨rfl, by decide, by decide, by decide +kernel⟩ ⟨Nat.le_of_ble_eq_true rfl, Nat.le_of_ble_eq_true rfl⟩) (xpreV (va_recv (q0 := 0) hK hP rfl rfl) hK hP hD hS hA hE) rfl rfl hl.1 rfl (lv_room (Nat.le_of_ble_eq_true rfl)) dX3_write_1 ⟨Nat.le_of_ble_eq_true rfl, Nat.le_of_ble_eq_true rfl⟩) hD hS hA (fun u H locs hu hP hD hS => ?_)
  have hP : va_P (dC, dI) vwCl (xw ad ca kf vf u 0 0 (nI (pw_all kf vf w9 tf).2) nx en ok ((pw_all kf vf w9 tf).1) nb ef ff fi ek ev) H := hP
  have hD : va_D A (xw ad ca kf vf u 0 0 (nI (pw_all kf vf w9 tf).2) nx en ok ((pw_all kf vf w9 tf).1) nb ef ff fi ek ev) := hD
  refine lv_aload_n hx hb dX3_write_4 rfl (lv_at hl 0 rfl) ?_
  refine va_get (D := (dC, dI)) (ci := 3) (v := .ref (ad 4)) (C := RX3) (T := TX3) (N := 8) (ref := "SortedRun") hx hb hts (xg_u mb_uws_X3) hown hK hP 0 rfl rfl 3 (by decide) (xg_w hts mb_fieldLink_RX3_23) (fun _ h9 => h9) rfl dX3_write_5 ?_
  refine va_getN (host := "SortedRun") (D := (dC, dI)) (ci := 2) (v := .int (nI (pw_all kf vf w9 tf).2)) (C := RX2) (T := TX2) (N := 5) (ref := "SortedRun$Table") hx hb hts (xg_u mb_uws_X2) hown hK hP 4 rfl rfl 1 (by decide) (xn_w (w := .fieldLinkNest RX3 60 "SortedRun$Table" "length" "I" "SortedRun") (i := 32) hE rfl rfl rfl) (fun _ h9 => h9) rfl dX3_write_8 ?_
  have hP9 := hP
  have hD9 := hD
  exact W.iret (v := nI (pw_all kf vf w9 tf).2) hx hb hr (fun t ht hW => ⟨⟨nI (pw_all kf vf w9 tf).2, u, rfl, rfl, by rw [ht]; exact hP9, va_K.moved hW.alike hK, hD9⟩, hS.F ht⟩) hS.2.2 dX3_write_11
end
section
/-! the bits of a byte as the model asks for them -/
theorem pm_or {a : Nat} (h : a < 128) : lN a ||| lN 128 = lN (a + 128) := g_or' (k := 7) (p := 128) (b := 1) rfl h (by omega)
theorem pm_t (x : Int32) (i : Nat) : bt x i = decide (x.toBitVec.toNat / 2 ^ i % 2 = 1) := by
  show x.toBitVec.getLsbD i = _
  rw [BitVec.getLsbD, Nat.testBit_eq_decide_div_mod_eq]
theorem pm_bit (x : Int32) (C : Nat) {k : Nat} (hk : k < 8) (hC : C < 2 ^ 32) : ((x >>> (nI k &&& 31)) ^^^ nI C) &&& 1 = nI ((x.toBitVec.toNat % 256 / 2 ^ k + C) % 2) := by
  rw [pk_and _ 1 (by decide)]
  refine congrArg nI ?_
  have e1 : (x >>> (nI k &&& 31) ^^^ nI C).toBitVec.toNat = (x >>> (nI k &&& 31)).toBitVec.toNat ^^^ C := by
    rw [Int32.toBitVec_xor, BitVec.toNat_xor, pk_tn hC]
  rw [e1]
  show (_ ^^^ _) % 2 = _
  rw [pb_xor_mod2]
  have h1 := b_sshr k (by omega) x (i := 0) (by decide)
  rw [Nat.add_zero, if_pos (by omega), pm_t, pm_t, Nat.pow_zero, Nat.div_one] at h1
  have h2 : x.toBitVec.toNat % 256 / 2 ^ k % 2 = x.toBitVec.toNat / 2 ^ k % 2 := by
    have h3 : x.toBitVec.toNat % 256 / 2 ^ k % 2 = 1 ↔ x.toBitVec.toNat / 2 ^ k % 2 = 1 := by
      have a1 := Nat.testBit_eq_decide_div_mod_eq (x := x.toBitVec.toNat % 256) (i := k)
      have a2 := Nat.testBit_eq_decide_div_mod_eq (x := x.toBitVec.toNat) (i := k)
      have a3 : (x.toBitVec.toNat % 2 ^ 8).testBit k = (decide (k < 8) && x.toBitVec.toNat.testBit k) := Nat.testBit_mod_two_pow _ _ _
      rw [decide_eq_true hk, Bool.true_and] at a3
      rw [show (256 : Nat) = 2 ^ 8 from rfl] at a1 ⊢
      rw [a1, a2] at a3
      exact decide_eq_decide.mp a3
    omega
  have h4 : (x >>> (nI k &&& 31)).toBitVec.toNat % 2 = x.toBitVec.toNat / 2 ^ k % 2 := by
    have := decide_eq_decide.mp h1
    omega
  omega
theorem pm_8 {x y : Int32} (h : x.toBitVec.toNat % 256 = y.toBitVec.toNat % 256) : x.toInt8 = y.toInt8 := by
  apply Int8.toBitVec_inj.mp
  rw [Int32.toBitVec_toInt8, Int32.toBitVec_toInt8, BitVec.signExtend_eq_setWidth_of_le _ (by decide), BitVec.signExtend_eq_setWidth_of_le _ (by decide)]
  apply BitVec.eq_of_toNat_eq
  rw [BitVec.toNat_setWidth, BitVec.toNat_setWidth]
  exact h
theorem pm_sb {w k : Nat} (hw : w < 2 ^ 32) (hk : k < 4) : (nI w >>> (nI (8 * k) &&& 31)).toInt8.toInt32 = sb_b (w / 2 ^ (8 * k)) := by
  unfold sb_b
  refine congrArg Int8.toInt32 (pm_8 ?_)
  have hq : w / 2 ^ (8 * k) < 2 ^ 32 := Nat.lt_of_le_of_lt (Nat.div_le_self _ _) hw
  rw [pk_tn hq]
  apply Nat.eq_of_testBit_eq
  intro i
  rw [show (256 : Nat) = 2 ^ 8 from rfl, Nat.testBit_mod_two_pow, Nat.testBit_mod_two_pow]
  by_cases hi : i < 8
  · rw [decide_eq_true hi, Bool.true_and, Bool.true_and, Nat.testBit_div_two_pow]
    have h1 := b_sshr (8 * k) (by omega) (nI w) (i := i) (by omega)
    rw [if_pos (by omega)] at h1
    have h2 : bt (nI w) (8 * k + i) = w.testBit (8 * k + i) := by
      show (nI w).toBitVec.getLsbD _ = _
      rw [BitVec.getLsbD, pk_tn hw]
    rw [h2] at h1
    rw [Nat.add_comm] 
    exact h1
  · rw [decide_eq_false hi, Bool.false_and, Bool.false_and]
theorem pm_in (x : Int32) : -128 ≤ x.toInt8.toInt32.toInt ∧ x.toInt8.toInt32.toInt < 128 := by
  rw [Int8.toInt_toInt32]
  have h1 := x.toInt8.le_toInt
  have h2 := x.toInt8.toInt_lt
  omega
theorem pm_sgn {f : Nat → Int32} {j : Nat} (h : pb_fit f) : f j < 0 ↔ 128 ≤ pb_ub f j := by
  obtain ⟨h1, h2⟩ := pm_in (f j)
  rw [h j] at h1 h2
  rw [Int32.lt_iff_toInt_lt]
  have c := BitVec.toInt_eq_toNat_cond (f j).toBitVec
  have e : (f j).toBitVec.toInt = (f j).toInt := rfl
  have hl := (f j).toBitVec.isLt
  have t0 : (0 : Int32).toInt = 0 := by decide
  unfold pb_ub
  rw [e] at c
  rw [t0]
  split at c <;> omega
theorem pm_ub_sb (n : Nat) : (sb_b n).toBitVec.toNat % 256 = n % 256 := by
  have h1 := bp_b (nI n)
  rw [pk_and _ 8 (by decide), pk_and _ 8 (by decide)] at h1
  have h2 := (nI_eq (Nat.lt_trans (Nat.mod_lt _ (by decide)) (by decide)) (Nat.lt_trans (Nat.mod_lt _ (by decide)) (by decide))).mp h1
  have h3 : (nI n).toBitVec.toNat = n % 2 ^ 32 := rfl
  rw [h3] at h2
  show (nI n).toInt8.toInt32.toBitVec.toNat % 2 ^ 8 = _
  rw [h2]
  omega
theorem pm_eqsb {f : Nat → Int32} {j n : Nat} (h : pb_fit f) : f j = sb_b n ↔ pb_ub f j = n % 256 := by
  constructor
  · intro e
    unfold pb_ub
    rw [e]
    exact pm_ub_sb n
  · intro e
    rw [← h j]
    unfold sb_b
    refine congrArg Int8.toInt32 (pm_8 ?_)
    show pb_ub f j = n % 2 ^ 32 % 256
    rw [e]
    omega
theorem pm_127 (f : Nat → Int32) (i : Nat) : f i &&& 127 = nI (pb_ub f i % 128) := by
  rw [pk_and (f i) 7 (by decide)]
  refine congrArg nI ?_
  unfold pb_ub
  omega
theorem pm_big {n : Nat} (h : n < 2 ^ 64) : (lN n < 0 ∨ lN 127 < lN n) ↔ 128 ≤ n := by
  have e1 := lN_ti h
  have e2 : (lN 127).toInt = 127 := by decide
  have e0 : (0 : Int64).toInt = 0 := by decide
  rw [Int64.lt_iff_toInt_lt, Int64.lt_iff_toInt_lt, e1, e2, e0]
  split <;> omega
end
section
/-! the model's world: the cells ad 0 .. ad 8 -/
abbrev xm (ad : Nat → Nat) (ca : Nat → ClassId) (kf : Nat → Int32) (vf : Nat → Int64) (tf fr sf fi bk : Nat → Int32) (bv : Nat → Int64) (w ny nb mn ai en th op wr : Int32) : va_W :=
  [(ad 0, .inr (4, [.ref (ad 1), .ref (ad 2), .ref (ad 3), .ref (ad 4), .ref (ad 5), .ref (ad 6), .ref (ad 7), .ref (ad 8), .int w, .int ny, .int nb, .int mn, .int ai, .int en, .int th, .int op, .int wr])),
   (ad 1, .inl (ca 0, 300, .inl kf)), (ad 2, .inl (ca 1, 300, .inr (.inl vf))), (ad 3, .inl (ca 2, 6000, .inl tf)), (ad 4, .inl (ca 0, 6000, .inl fr)), (ad 5, .inl (ca 0, 6000, .inl sf)), (ad 6, .inl (ca 0, 6000, .inl fi)), (ad 7, .inl (ca 0, 6000, .inl bk)), (ad 8, .inl (ca 1, 6000, .inr (.inl bv)))]
theorem pm_vb (n : Nat) : vp_nar .byte (sb_b n) = sb_b n := by unfold sb_b; rw [pk_vb]
theorem pm_M_lt (b : Nat) {c : Nat} (h : c < 2 ^ 32) : ∀ k, pb_M b k c < 2 ^ 32
  | 0 => h
  | k + 1 => by
    show (pb_M b k c / 2) ^^^ (if (b / 2 ^ k + pb_M b k c) % 2 = 1 then 3988292384 else 0) < 2 ^ 32
    apply Nat.xor_lt_two_pow
    · have := pm_M_lt b h k
      omega
    · split <;> decide
/-! SortedRunModel: numbers and sums (rows by wip/whole/wmod1.py) -/
set_option maxHeartbeats 4000000 in
set_option maxRecDepth 100000 in
theorem lpX4_number_lay {p : Program} {l : Launch} {e : Env} {s : State} {m : MethodId} {args : Array Value} {below : List Frame} {meth : Method} {c : Code} {Q : State → Prop} {A : Nat → Prop} {dC : Nat → ClassId} {dI : Nat → Nat → Nat} {ca : Nat → ClassId} {ad : Nat → Nat} (hx : p.tables.exec = Jvm.exec) (hb : c.code = cX4_number) (hml : c.maxLocals = 5) (hown : s.vm.findClass RX4 = some m.cls) (hts : ∀ w ∈ wsX4_number, w.before args s = true) (hK : va_K (dC, dI) vwCl (xt ca) s) (hA : ∀ q : Nat, s.heap.size ≤ q → A q) (hE : xn_E A s) {kf : Nat → Int32} {vf : Nat → Int64} {fr : Nat → Int32} {sf : Nat → Int32} {fi : Nat → Int32} {bk : Nat → Int32} {bv : Nat → Int64} {w : Int32} {nb : Int32} {mn : Int32} {ai : Int32} {en : Int32} {th : Int32} {op : Int32} {wr : Int32} : ∀ (k : Nat) (L n : Nat) (tf : Nat → Int32) (H : Heap) (locs : List Loc) (ls : Array Slot), n < 2 ^ (7 * (k + 1)) → n < 2 ^ 64 → L + pl_n k n ≤ 6000 → lv_has ls 5 [(3, .long (lN n)), (0, .ref (ad 0))] → va_P (dC, dI) vwCl (xm ad ca kf vf tf fr sf fi bk bv w (nI L) nb mn ai en th op wr) H → va_D A (xm ad ca kf vf tf fr sf fi bk bv w (nI L) nb mn ai en th op wr) → va_S A s.heap H locs → (∀ (H : Heap) (locs : List Loc) (ls : Array Slot), va_P (dC, dI) vwCl (xm ad ca kf vf (pl_f tf k L n) fr sf fi bk bv w (nI (L + pl_n k n)) nb mn ai en th op wr) H → va_D A (xm ad ca kf vf (pl_f tf k L n) fr sf fi bk bv w (nI (L + pl_n k n)) nb mn ai en th op wr) → va_S A s.heap H locs → W p l e ({ frames := 0, cells := 0, slots := 0, locals := 0 } : Room) s m args below meth c H locs 0 0 Q (F0 m 70 ls [])) → W p l e ({ frames := 0, cells := 0, slots := 0, locals := 0 } : Room) s m args below meth c H locs 0 0 Q (F0 m 2 ls []) := by
  intro k
  induction k with
  | zero =>
    intro L n tf H locs ls hk hn hL hl hP hD hS kk
    have hl : lv_has ls 5 [(3, .long (lN n)), (0, .ref (ad 0))] := hl
    have hL1 : L + 1 ≤ 6000 := hL
    have hn0 : n < 128 := hk
    have hsm : ¬ (lN n < 0 ∨ lN 127 < lN n) := fun z => absurd ((pm_big hn).mp z) (by omega)
    refine lv_lload_n hx hb dX4_number_2 rfl (lv_at hl 0 rfl) ?_
    refine lv_lconst (v := 0) hx hb dX4_number_3 (by decide) ?_
    refine W.lcmp hx hb dX4_number_4 ?_
    refine lv_if_lt (tgt := 16) hx hb dX4_number_5 rfl (fun hc => absurd hc (fun z => hsm (Or.inl (lc_lt.mp z)))) (fun hc => ?_)
    refine lv_lload_n hx hb dX4_number_8 rfl (lv_at hl 0 rfl) ?_
    refine lv_ldc2 (v := lN 127) hx hb hown (xg_w hts mb_constantLong_RX4_43) dX4_number_9 ?_
    refine W.lcmp hx hb dX4_number_12 ?_
    refine lv_if_le (tgt := 51) hx hb dX4_number_13 rfl (fun hc => ?_) (fun hc => absurd hc (not_not_intro (lc_le.mpr (Int64.not_lt.mp (fun z => hsm (Or.inr z))))))
    refine lv_aload_n hx hb dX4_number_51 rfl (lv_at hl 1 rfl) ?_
    refine va_get (D := (dC, dI)) (ci := 4) (v := .ref (ad 3)) (C := RX4) (T := TX4) (N := 17) (ref := "SortedRunModel") hx hb hts (xg_u mb_uws_X4) hown hK hP 0 rfl rfl 2 (by decide) (xg_w hts mb_fieldLink_RX4_17) (fun _ h9 => h9) rfl dX4_number_52 ?_
    refine lv_aload_n hx hb dX4_number_55 rfl (lv_at hl 1 rfl) ?_
    refine lv_dup hx hb dX4_number_56 rfl ?_
    refine va_get (D := (dC, dI)) (ci := 4) (v := .int (nI L)) (C := RX4) (T := TX4) (N := 17) (ref := "SortedRunModel") hx hb hts (xg_u mb_uws_X4) hown hK hP 0 rfl rfl 9 (by decide) (xg_w hts mb_fieldLink_RX4_45) (fun _ h9 => h9) rfl dX4_number_57 ?_
    refine lv_dup_x1 hx hb dX4_number_60 rfl rfl ?_
    refine lv_iconst (v := 1) hx hb dX4_number_61 (by decide) ?_
    refine lv_iadd hx hb dX4_number_62 ?_
    refine lv_topi (fun z1 ez1 => ?_)
    have ez1 : z1 = nI (L + 1) := ez1.trans (nI_1 (L))
    subst ez1
    refine va_put (D := (dC, dI)) (ci := 4) (v := .int (nI (L + 1))) (ty := .int) (C := RX4) (T := TX4) (N := 17) (ref := "SortedRunModel") hx hb hts (xg_u mb_uws_X4) tyX4 tyX4_ok nmX4 hown hK hP hD hS 0 rfl rfl 9 (by decide) (xg_w hts mb_fieldLink_RX4_45) (fun _ h9 => h9) rfl (by decide +kernel) rfl rfl (Nat.le_of_ble_eq_true rfl) dX4_number_63 (fun H locs hP hD hS => ?_)
    have hP : va_P (dC, dI) vwCl (xm ad ca kf vf tf fr sf fi bk bv w (nI (L + 1)) nb mn ai en th op wr) H := hP
    have hD : va_D A (xm ad ca kf vf tf fr sf fi bk bv w (nI (L + 1)) nb mn ai en th op wr) := hD
    refine lv_lload_n hx hb dX4_number_66 rfl (lv_at hl 0 rfl) ?_
    refine lv_l2i (v := nI n) hx hb dX4_number_67 (lN_i n) ?_
    refine lv_i2b (v := (nI n).toInt8.toInt32) hx hb dX4_number_68 (rfl) ?_
    refine va_bast hx hb hK hP hD hS 3 2 rfl rfl (vp_in_nI (by omega) (by decide)) dX4_number_69 (fun H locs hP hD hS => ?_)
    have e9 : upd tf (nI L).toNatClampNeg (vp_nar .byte ((nI n).toInt8.toInt32)) = upd tf L (sb_b n) := by rw [nI_clamp (by omega), pk_vb]; rfl
    rw [e9] at hP hD
    clear e9
    have hP : va_P (dC, dI) vwCl (xm ad ca kf vf (upd tf L (sb_b n)) fr sf fi bk bv w (nI (L + 1)) nb mn ai en th op wr) H := hP
    have hD : va_D A (xm ad ca kf vf (upd tf L (sb_b n)) fr sf fi bk bv w (nI (L + 1)) nb mn ai en th op wr) := hD
    have e1 : pl_n 0 n = 1 := rfl
    have e2 : pl_f tf 0 L n = upd tf L (sb_b n) := rfl
    rw [e1, e2] at kk
    exact kk H locs ls hP hD hS
  | succ k ih =>
    intro L n tf H locs ls hk hn hL hl hP hD hS kk
    have hl : lv_has ls 5 [(3, .long (lN n)), (0, .ref (ad 0))] := hl
    have hL1 : L + 1 ≤ 6000 := Nat.le_trans (Nat.add_le_add_left (pl_n_pos _ _) L) hL
    by_cases hq : 128 ≤ n
    · have hbg := (pm_big hn).mpr hq
      refine lv_lload_n hx hb dX4_number_2 rfl (lv_at hl 0 rfl) ?_
      refine lv_lconst (v := 0) hx hb dX4_number_3 (by decide) ?_
      refine W.lcmp hx hb dX4_number_4 ?_
      refine lv_if_lt (tgt := 16) hx hb dX4_number_5 rfl (fun hc => ?_) (fun hc => ?_)
      · have e1 : pl_n (k + 1) n = pl_n k (n / 128) + 1 := by conv => lhs; unfold pl_n; rw [if_pos (by omega : 128 ≤ n)]
        have e2 : pl_f tf (k + 1) L n = pl_f (upd tf L (sb_b (n % 128 + 128))) k (L + 1) (n / 128) := by conv => lhs; unfold pl_f; rw [if_pos (by omega : 128 ≤ n)]
        rw [e1] at hL
        rw [e1, e2] at kk
        have hk2 : n / 128 < 2 ^ (7 * (k + 1)) := by
          rw [show 2 ^ (7 * (k + 1 + 1)) = 128 * 2 ^ (7 * (k + 1)) by rw [Nat.mul_succ 7 (k + 1), Nat.pow_add, Nat.mul_comm]] at hk
          exact Nat.div_lt_of_lt_mul hk
        refine lv_aload_n hx hb dX4_number_16 rfl (lv_at hl 1 rfl) ?_
        refine va_get (D := (dC, dI)) (ci := 4) (v := .ref (ad 3)) (C := RX4) (T := TX4) (N := 17) (ref := "SortedRunModel") hx hb hts (xg_u mb_uws_X4) hown hK hP 0 rfl rfl 2 (by decide) (xg_w hts mb_fieldLink_RX4_17) (fun _ h9 => h9) rfl dX4_number_17 ?_
        refine lv_aload_n hx hb dX4_number_20 rfl (lv_at hl 1 rfl) ?_
        refine lv_dup hx hb dX4_number_21 rfl ?_
        refine va_get (D := (dC, dI)) (ci := 4) (v := .int (nI L)) (C := RX4) (T := TX4) (N := 17) (ref := "SortedRunModel") hx hb hts (xg_u mb_uws_X4) hown hK hP 0 rfl rfl 9 (by decide) (xg_w hts mb_fieldLink_RX4_45) (fun _ h9 => h9) rfl dX4_number_22 ?_
        refine lv_dup_x1 hx hb dX4_number_25 rfl rfl ?_
        refine lv_iconst (v := 1) hx hb dX4_number_26 (by decide) ?_
        refine lv_iadd hx hb dX4_number_27 ?_
        refine lv_topi (fun z1 ez1 => ?_)
        have ez1 : z1 = nI (L + 1) := ez1.trans (nI_1 (L))
        subst ez1
        refine va_put (D := (dC, dI)) (ci := 4) (v := .int (nI (L + 1))) (ty := .int) (C := RX4) (T := TX4) (N := 17) (ref := "SortedRunModel") hx hb hts (xg_u mb_uws_X4) tyX4 tyX4_ok nmX4 hown hK hP hD hS 0 rfl rfl 9 (by decide) (xg_w hts mb_fieldLink_RX4_45) (fun _ h9 => h9) rfl (by decide +kernel) rfl rfl (Nat.le_of_ble_eq_true rfl) dX4_number_28 (fun H locs hP hD hS => ?_)
        have hP : va_P (dC, dI) vwCl (xm ad ca kf vf tf fr sf fi bk bv w (nI (L + 1)) nb mn ai en th op wr) H := hP
        have hD : va_D A (xm ad ca kf vf tf fr sf fi bk bv w (nI (L + 1)) nb mn ai en th op wr) := hD
        refine lv_lload_n hx hb dX4_number_31 rfl (lv_at hl 0 rfl) ?_
        refine lv_ldc2 (v := lN 127) hx hb hown (xg_w hts mb_constantLong_RX4_43) dX4_number_32 ?_
        refine lv_land hx hb dX4_number_35 ?_
        refine lv_topl (fun z2 ez2 => ?_)
        have ez2 : z2 = lN (n % 128) := ez2.trans (wb_mask (k := 7) hn (by decide))
        subst ez2
        refine lv_ldc2 (v := lN 128) hx hb hown (xg_w hts mb_constantLong_RX4_48) dX4_number_36 ?_
        refine lv_lor hx hb dX4_number_39 ?_
        refine lv_topl (fun z3 ez3 => ?_)
        have ez3 : z3 = lN (n % 128 + 128) := ez3.trans (pm_or (Nat.mod_lt _ (by decide)))
        subst ez3
        refine lv_l2i (v := nI (n % 128 + 128)) hx hb dX4_number_40 (lN_i _) ?_
        refine lv_i2b (v := (nI (n % 128 + 128)).toInt8.toInt32) hx hb dX4_number_41 (rfl) ?_
        refine va_bast hx hb hK hP hD hS 3 2 rfl rfl (vp_in_nI (by omega) (by decide)) dX4_number_42 (fun H locs hP hD hS => ?_)
        have e9 : upd tf (nI L).toNatClampNeg (vp_nar .byte ((nI (n % 128 + 128)).toInt8.toInt32)) = upd tf L (sb_b (n % 128 + 128)) := by rw [nI_clamp (by omega), pk_vb]; rfl
        rw [e9] at hP hD
        clear e9
        have hP : va_P (dC, dI) vwCl (xm ad ca kf vf (upd tf L (sb_b (n % 128 + 128))) fr sf fi bk bv w (nI (L + 1)) nb mn ai en th op wr) H := hP
        have hD : va_D A (xm ad ca kf vf (upd tf L (sb_b (n % 128 + 128))) fr sf fi bk bv w (nI (L + 1)) nb mn ai en th op wr) := hD
        refine lv_lload_n hx hb dX4_number_43 rfl (lv_at hl 0 rfl) ?_
        refine lv_bipush (v := nI 7) hx hb dX4_number_44 (by decide) ?_
        refine lv_lushr (v := lN (n / 128)) hx hb dX4_number_46 (wb_shr (k := 7) hn (by decide)) ?_
        refine lv_lstore_n hx hb dX4_number_47 rfl hl (by decide) rfl (fun ls hl => ?_)
        have hl : lv_has ls 5 [(3, .long (lN (n / 128))), (0, .ref (ad 0))] := hl
        refine lv_goto (tgt := 2) hx hb dX4_number_48 rfl ?_
        refine ih (L + 1) (n / 128) _ _ _ _ hk2 (by omega) (by omega) hl hP hD hS (fun H locs ls hP hD hS => ?_)
        rw [Nat.add_assoc, Nat.add_comm 1] at hP hD
        exact kk H locs ls hP hD hS
      · refine lv_lload_n hx hb dX4_number_8 rfl (lv_at hl 0 rfl) ?_
        refine lv_ldc2 (v := lN 127) hx hb hown (xg_w hts mb_constantLong_RX4_43) dX4_number_9 ?_
        refine W.lcmp hx hb dX4_number_12 ?_
        refine lv_if_le (tgt := 51) hx hb dX4_number_13 rfl (fun hc2 => absurd hc2 (fun z => (hbg.elim (fun y => hc (lc_lt.mpr y)) (fun y => absurd (lc_le.mp z) (Int64.not_le.mpr y))))) (fun hc2 => ?_)
        have e1 : pl_n (k + 1) n = pl_n k (n / 128) + 1 := by conv => lhs; unfold pl_n; rw [if_pos (by omega : 128 ≤ n)]
        have e2 : pl_f tf (k + 1) L n = pl_f (upd tf L (sb_b (n % 128 + 128))) k (L + 1) (n / 128) := by conv => lhs; unfold pl_f; rw [if_pos (by omega : 128 ≤ n)]
        rw [e1] at hL
        rw [e1, e2] at kk
        have hk2 : n / 128 < 2 ^ (7 * (k + 1)) := by
          rw [show 2 ^ (7 * (k + 1 + 1)) = 128 * 2 ^ (7 * (k + 1)) by rw [Nat.mul_succ 7 (k + 1), Nat.pow_add, Nat.mul_comm]] at hk
          exact Nat.div_lt_of_lt_mul hk
        refine lv_aload_n hx hb dX4_number_16 rfl (lv_at hl 1 rfl) ?_
        refine va_get (D := (dC, dI)) (ci := 4) (v := .ref (ad 3)) (C := RX4) (T := TX4) (N := 17) (ref := "SortedRunModel") hx hb hts (xg_u mb_uws_X4) hown hK hP 0 rfl rfl 2 (by decide) (xg_w hts mb_fieldLink_RX4_17) (fun _ h9 => h9) rfl dX4_number_17 ?_
        refine lv_aload_n hx hb dX4_number_20 rfl (lv_at hl 1 rfl) ?_
        refine lv_dup hx hb dX4_number_21 rfl ?_
        refine va_get (D := (dC, dI)) (ci := 4) (v := .int (nI L)) (C := RX4) (T := TX4) (N := 17) (ref := "SortedRunModel") hx hb hts (xg_u mb_uws_X4) hown hK hP 0 rfl rfl 9 (by decide) (xg_w hts mb_fieldLink_RX4_45) (fun _ h9 => h9) rfl dX4_number_22 ?_
        refine lv_dup_x1 hx hb dX4_number_25 rfl rfl ?_
        refine lv_iconst (v := 1) hx hb dX4_number_26 (by decide) ?_
        refine lv_iadd hx hb dX4_number_27 ?_
        refine lv_topi (fun z1 ez1 => ?_)
        have ez1 : z1 = nI (L + 1) := ez1.trans (nI_1 (L))
        subst ez1
        refine va_put (D := (dC, dI)) (ci := 4) (v := .int (nI (L + 1))) (ty := .int) (C := RX4) (T := TX4) (N := 17) (ref := "SortedRunModel") hx hb hts (xg_u mb_uws_X4) tyX4 tyX4_ok nmX4 hown hK hP hD hS 0 rfl rfl 9 (by decide) (xg_w hts mb_fieldLink_RX4_45) (fun _ h9 => h9) rfl (by decide +kernel) rfl rfl (Nat.le_of_ble_eq_true rfl) dX4_number_28 (fun H locs hP hD hS => ?_)
        have hP : va_P (dC, dI) vwCl (xm ad ca kf vf tf fr sf fi bk bv w (nI (L + 1)) nb mn ai en th op wr) H := hP
        have hD : va_D A (xm ad ca kf vf tf fr sf fi bk bv w (nI (L + 1)) nb mn ai en th op wr) := hD
        refine lv_lload_n hx hb dX4_number_31 rfl (lv_at hl 0 rfl) ?_
        refine lv_ldc2 (v := lN 127) hx hb hown (xg_w hts mb_constantLong_RX4_43) dX4_number_32 ?_
        refine lv_land hx hb dX4_number_35 ?_
        refine lv_topl (fun z2 ez2 => ?_)
        have ez2 : z2 = lN (n % 128) := ez2.trans (wb_mask (k := 7) hn (by decide))
        subst ez2
        refine lv_ldc2 (v := lN 128) hx hb hown (xg_w hts mb_constantLong_RX4_48) dX4_number_36 ?_
        refine lv_lor hx hb dX4_number_39 ?_
        refine lv_topl (fun z3 ez3 => ?_)
        have ez3 : z3 = lN (n % 128 + 128) := ez3.trans (pm_or (Nat.mod_lt _ (by decide)))
        subst ez3
        refine lv_l2i (v := nI (n % 128 + 128)) hx hb dX4_number_40 (lN_i _) ?_
        refine lv_i2b (v := (nI (n % 128 + 128)).toInt8.toInt32) hx hb dX4_number_41 (rfl) ?_
        refine va_bast hx hb hK hP hD hS 3 2 rfl rfl (vp_in_nI (by omega) (by decide)) dX4_number_42 (fun H locs hP hD hS => ?_)
        have e9 : upd tf (nI L).toNatClampNeg (vp_nar .byte ((nI (n % 128 + 128)).toInt8.toInt32)) = upd tf L (sb_b (n % 128 + 128)) := by rw [nI_clamp (by omega), pk_vb]; rfl
        rw [e9] at hP hD
        clear e9
        have hP : va_P (dC, dI) vwCl (xm ad ca kf vf (upd tf L (sb_b (n % 128 + 128))) fr sf fi bk bv w (nI (L + 1)) nb mn ai en th op wr) H := hP
        have hD : va_D A (xm ad ca kf vf (upd tf L (sb_b (n % 128 + 128))) fr sf fi bk bv w (nI (L + 1)) nb mn ai en th op wr) := hD
        refine lv_lload_n hx hb dX4_number_43 rfl (lv_at hl 0 rfl) ?_
        refine lv_bipush (v := nI 7) hx hb dX4_number_44 (by decide) ?_
        refine lv_lushr (v := lN (n / 128)) hx hb dX4_number_46 (wb_shr (k := 7) hn (by decide)) ?_
        refine lv_lstore_n hx hb dX4_number_47 rfl hl (by decide) rfl (fun ls hl => ?_)
        have hl : lv_has ls 5 [(3, .long (lN (n / 128))), (0, .ref (ad 0))] := hl
        refine lv_goto (tgt := 2) hx hb dX4_number_48 rfl ?_
        refine ih (L + 1) (n / 128) _ _ _ _ hk2 (by omega) (by omega) hl hP hD hS (fun H locs ls hP hD hS => ?_)
        rw [Nat.add_assoc, Nat.add_comm 1] at hP hD
        exact kk H locs ls hP hD hS
    · have hsm : ¬ (lN n < 0 ∨ lN 127 < lN n) := fun z => absurd ((pm_big hn).mp z) (by omega)
      refine lv_lload_n hx hb dX4_number_2 rfl (lv_at hl 0 rfl) ?_
      refine lv_lconst (v := 0) hx hb dX4_number_3 (by decide) ?_
      refine W.lcmp hx hb dX4_number_4 ?_
      refine lv_if_lt (tgt := 16) hx hb dX4_number_5 rfl (fun hc => absurd hc (fun z => hsm (Or.inl (lc_lt.mp z)))) (fun hc => ?_)
      refine lv_lload_n hx hb dX4_number_8 rfl (lv_at hl 0 rfl) ?_
      refine lv_ldc2 (v := lN 127) hx hb hown (xg_w hts mb_constantLong_RX4_43) dX4_number_9 ?_
      refine W.lcmp hx hb dX4_number_12 ?_
      refine lv_if_le (tgt := 51) hx hb dX4_number_13 rfl (fun hc => ?_) (fun hc => absurd hc (not_not_intro (lc_le.mpr (Int64.not_lt.mp (fun z => hsm (Or.inr z))))))
      refine lv_aload_n hx hb dX4_number_51 rfl (lv_at hl 1 rfl) ?_
      refine va_get (D := (dC, dI)) (ci := 4) (v := .ref (ad 3)) (C := RX4) (T := TX4) (N := 17) (ref := "SortedRunModel") hx hb hts (xg_u mb_uws_X4) hown hK hP 0 rfl rfl 2 (by decide) (xg_w hts mb_fieldLink_RX4_17) (fun _ h9 => h9) rfl dX4_number_52 ?_
      refine lv_aload_n hx hb dX4_number_55 rfl (lv_at hl 1 rfl) ?_
      refine lv_dup hx hb dX4_number_56 rfl ?_
      refine va_get (D := (dC, dI)) (ci := 4) (v := .int (nI L)) (C := RX4) (T := TX4) (N := 17) (ref := "SortedRunModel") hx hb hts (xg_u mb_uws_X4) hown hK hP 0 rfl rfl 9 (by decide) (xg_w hts mb_fieldLink_RX4_45) (fun _ h9 => h9) rfl dX4_number_57 ?_
      refine lv_dup_x1 hx hb dX4_number_60 rfl rfl ?_
      refine lv_iconst (v := 1) hx hb dX4_number_61 (by decide) ?_
      refine lv_iadd hx hb dX4_number_62 ?_
      refine lv_topi (fun z1 ez1 => ?_)
      have ez1 : z1 = nI (L + 1) := ez1.trans (nI_1 (L))
      subst ez1
      refine va_put (D := (dC, dI)) (ci := 4) (v := .int (nI (L + 1))) (ty := .int) (C := RX4) (T := TX4) (N := 17) (ref := "SortedRunModel") hx hb hts (xg_u mb_uws_X4) tyX4 tyX4_ok nmX4 hown hK hP hD hS 0 rfl rfl 9 (by decide) (xg_w hts mb_fieldLink_RX4_45) (fun _ h9 => h9) rfl (by decide +kernel) rfl rfl (Nat.le_of_ble_eq_true rfl) dX4_number_63 (fun H locs hP hD hS => ?_)
      have hP : va_P (dC, dI) vwCl (xm ad ca kf vf tf fr sf fi bk bv w (nI (L + 1)) nb mn ai en th op wr) H := hP
      have hD : va_D A (xm ad ca kf vf tf fr sf fi bk bv w (nI (L + 1)) nb mn ai en th op wr) := hD
      refine lv_lload_n hx hb dX4_number_66 rfl (lv_at hl 0 rfl) ?_
      refine lv_l2i (v := nI n) hx hb dX4_number_67 (lN_i n) ?_
      refine lv_i2b (v := (nI n).toInt8.toInt32) hx hb dX4_number_68 (rfl) ?_
      refine va_bast hx hb hK hP hD hS 3 2 rfl rfl (vp_in_nI (by omega) (by decide)) dX4_number_69 (fun H locs hP hD hS => ?_)
      have e9 : upd tf (nI L).toNatClampNeg (vp_nar .byte ((nI n).toInt8.toInt32)) = upd tf L (sb_b n) := by rw [nI_clamp (by omega), pk_vb]; rfl
      rw [e9] at hP hD
      clear e9
      have hP : va_P (dC, dI) vwCl (xm ad ca kf vf (upd tf L (sb_b n)) fr sf fi bk bv w (nI (L + 1)) nb mn ai en th op wr) H := hP
      have hD : va_D A (xm ad ca kf vf (upd tf L (sb_b n)) fr sf fi bk bv w (nI (L + 1)) nb mn ai en th op wr) := hD
      have e1 : pl_n (k + 1) n = 1 := by unfold pl_n; rw [if_neg (by omega)]
      have e2 : pl_f tf (k + 1) L n = upd tf L (sb_b n) := by unfold pl_f; rw [if_neg (by omega)]
      rw [e1, e2] at kk
      exact kk H locs ls hP hD hS

set_option maxHeartbeats 4000000 in
set_option maxRecDepth 100000 in
theorem cX4_number_m (l : Launch) (dC : Nat → ClassId) (dI : Nat → Nat → Nat) (ca : Nat → ClassId) (ad : Nat → Nat) (kf : Nat → Int32) (vf : Nat → Int64) (tf : Nat → Int32) (fr : Nat → Int32) (sf : Nat → Int32) (fi : Nat → Int32) (bk : Nat → Int32) (bv : Nat → Int64) (w : Int32) (nb : Int32) (mn : Int32) (ai : Int32) (en : Int32) (th : Int32) (op : Int32) (wr : Int32) (L : Nat) (x : Int64) (hL : L + pl_n 9 x.toBitVec.toNat ≤ 6000) : ∀ sz : Nat, Met l yX4_number wsX4_number ({ frames := 0, cells := 0, slots := 0, locals := 0 } : Room) (va_Pc [.ref (ad 0), .long x] (xP (dC, dI) (xt ca) (xm ad ca kf vf tf fr sf fi bk bv w (nI L) nb mn ai en th op wr) sz)) (va_Qv (S := Unit) (fun _ => True) (fun u t => xB (dC, dI) (xt ca) (va_A (xm ad ca kf vf tf fr sf fi bk bv w (nI L) nb mn ai en th op wr) sz) (xm ad ca kf vf (pl_f tf 9 L x.toBitVec.toNat) fr sf fi bk bv w (nI (L + pl_n 9 x.toBitVec.toNat)) nb mn ai en th op wr) t) (va_A (xm ad ca kf vf tf fr sf fi bk bv w (nI L) nb mn ai en th op wr) sz)) 0 0 (va_A (xm ad ca kf vf tf fr sf fi bk bv w (nI L) nb mn ai en th op wr) sz) := by
  intro sz
  refine Met.ofW (cc := cX4_number) (maxL := 5) (ret := none) (by decide) rfl ?_
  intro p e s m args below meth c s₁ B hml hv
  obtain ⟨rfl, hsz, hP, hK, hD0, hE⟩ := hv
  have hx := B.exec
  have hb := B.bytes
  have hr := B.returns
  have hts := atoms_spec (ws := wsX4_number) B.pre
  have hown : s.vm.findClass RX4 = some m.cls := findClass_of_methodNamed B.named
  have hlocks := B.notSynchronized
  subst hsz
  have hD := hD0.self (sz := s.heap.size)
  generalize hAe : va_A (xm ad ca kf vf tf fr sf fi bk bv w (nI L) nb mn ai en th op wr) s.heap.size = A at hD hE ⊢
  have hA : ∀ q : Nat, s.heap.size ≤ q → A q := fun q h => by rw [← hAe]; exact Or.inr h
  have hS : va_S A s.heap s.heap [] := va_S.rf
  have hl := lv_entry ([.ref (ad 0), .long x]) (n := 5) (Nat.le_of_ble_eq_true rfl)
  rw [lg_entry_eq]
  generalize (lg_sl ([.ref (ad 0), .long x]) ++ List.replicate (5 - (lg_sl ([.ref (ad 0), .long x])).length) Slot.unset).toArray = ls at hl ⊢
  have hl : lv_has ls 5 [(0, .ref (ad 0)), (1, .long x)] := hl
  have ex : x = lN x.toBitVec.toNat := wb_inj (by rw [wb_tb]; simp)
  refine lv_lload_n hx hb dX4_number_0 rfl (lv_at hl 1 rfl) ?_
  refine lv_topl (fun z1 ez1 => ?_)
  have ez1 : z1 = lN x.toBitVec.toNat := ez1.trans (ex)
  subst ez1
  refine lv_lstore_n hx hb dX4_number_1 rfl hl (by decide) rfl (fun ls hl => ?_)
  have hl : lv_has ls 5 [(3, .long (lN x.toBitVec.toNat)), (0, .ref (ad 0)), (1, .long x)] := hl
  refine lpX4_number_lay hx hb hml hown hts hK hA hE 9 L x.toBitVec.toNat tf _ _ _ (Nat.lt_trans x.toBitVec.isLt (by decide)) x.toBitVec.isLt hL (lv_sub hl [0, 1] rfl) hP hD hS (fun H locs ls hP hD hS => ?_)
  have hP9 := hP
  have hD9 := hD
  exact W.vret hx hb hr (fun t ht hW => ⟨⟨(), rfl, trivial, by rw [ht]; exact hP9, va_K.moved hW.alike hK, hD9⟩, hS.F ht⟩) hS.2.2 dX4_number_70

set_option maxHeartbeats 4000000 in
set_option maxRecDepth 100000 in
theorem cX4_fold_m (l : Launch) (dC : Nat → ClassId) (dI : Nat → Nat → Nat) (ca : Nat → ClassId) (ad : Nat → Nat) (kf : Nat → Int32) (vf : Nat → Int64) (tf : Nat → Int32) (fr : Nat → Int32) (sf : Nat → Int32) (fi : Nat → Int32) (bk : Nat → Int32) (bv : Nat → Int64) (w : Int32) (ny : Int32) (nb : Int32) (mn : Int32) (ai : Int32) (en : Int32) (th : Int32) (op : Int32) (wr : Int32) (v : Int64) : ∀ sz : Nat, Met l yX4_fold wsX4_fold ({ frames := 0, cells := 0, slots := 0, locals := 0 } : Room) (va_Pc [.long v] (xP (dC, dI) (xt ca) (xm ad ca kf vf tf fr sf fi bk bv w ny nb mn ai en th op wr) sz)) (va_Ql (S := Unit) (fun r _ => r = pu_f v) (fun u t => xB (dC, dI) (xt ca) (va_A (xm ad ca kf vf tf fr sf fi bk bv w ny nb mn ai en th op wr) sz) (xm ad ca kf vf tf fr sf fi bk bv w ny nb mn ai en th op wr) t) (va_A (xm ad ca kf vf tf fr sf fi bk bv w ny nb mn ai en th op wr) sz)) 0 0 (va_A (xm ad ca kf vf tf fr sf fi bk bv w ny nb mn ai en th op wr) sz) := by
  intro sz
  refine Met.ofW (cc := cX4_fold) (maxL := 2) (ret := (some .long)) (by decide) rfl ?_
  intro p e s m args below meth c s₁ B hml hv
  obtain ⟨rfl, hsz, hP, hK, hD0, hE⟩ := hv
  have hx := B.exec
  have hb := B.bytes
  have hr := B.returns
  have hts := atoms_spec (ws := wsX4_fold) B.pre
  have hown : s.vm.findClass RX4 = some m.cls := findClass_of_methodNamed B.named
  have hlocks := B.notSynchronized
  subst hsz
  have hD := hD0.self (sz := s.heap.size)
  generalize hAe : va_A (xm ad ca kf vf tf fr sf fi bk bv w ny nb mn ai en th op wr) s.heap.size = A at hD hE ⊢
  have hA : ∀ q : Nat, s.heap.size ≤ q → A q := fun q h => by rw [← hAe]; exact Or.inr h
  have hS : va_S A s.heap s.heap [] := va_S.rf
  have hl := lv_entry ([.long v]) (n := 2) (Nat.le_of_ble_eq_true rfl)
  rw [lg_entry_eq]
  generalize (lg_sl ([.long v]) ++ List.replicate (2 - (lg_sl ([.long v])).length) Slot.unset).toArray = ls at hl ⊢
  have hl : lv_has ls 2 [(0, .long v)] := hl
  refine lv_lload_n hx hb dX4_fold_0 rfl (lv_at hl 0 rfl) ?_
  refine lv_lconst (v := 0) hx hb dX4_fold_1 (by decide) ?_
  refine W.lcmp hx hb dX4_fold_2 ?_
  refine lv_if_lt (tgt := 14) hx hb dX4_fold_3 rfl (fun hc => ?_) (fun hc => ?_)
  · have hc1 : v < 0 := lc_lt.mp hc
    refine lv_ldc2 (v := -2) hx hb hown (xg_w hts mb_constantLong_RX4_52) dX4_fold_14 ?_
    refine lv_lload_n hx hb dX4_fold_17 rfl (lv_at hl 0 rfl) ?_
    refine lv_lmul hx hb dX4_fold_18 ?_
    refine lv_lconst (v := 1) hx hb dX4_fold_19 (by decide) ?_
    refine lv_lsub hx hb dX4_fold_20 ?_
    have hP9 := hP
    have hD9 := hD
    exact W.lret (v := ((-2) * v) - 1) hx hb hr (fun t ht hW => ⟨⟨((-2) * v) - 1, (), rfl, by unfold pu_f; rw [if_pos hc1], by rw [ht]; exact hP9, va_K.moved hW.alike hK, hD9⟩, hS.F ht⟩) hS.2.2 dX4_fold_21
  · have hc1 : ¬ v < 0 := fun z => hc (lc_lt.mpr z)
    refine lv_ldc2 (v := 2) hx hb hown (xg_w hts mb_constantLong_RX4_50) dX4_fold_6 ?_
    refine lv_lload_n hx hb dX4_fold_9 rfl (lv_at hl 0 rfl) ?_
    refine lv_lmul hx hb dX4_fold_10 ?_
    refine lv_goto (tgt := 21) hx hb dX4_fold_11 rfl ?_
    have hP9 := hP
    have hD9 := hD
    exact W.lret (v := 2 * v) hx hb hr (fun t ht hW => ⟨⟨2 * v, (), rfl, by unfold pu_f; rw [if_neg hc1], by rw [ht]; exact hP9, va_K.moved hW.alike hK, hD9⟩, hS.F ht⟩) hS.2.2 dX4_fold_21

set_option maxHeartbeats 4000000 in
set_option maxRecDepth 100000 in
theorem cX4_unfold_m (l : Launch) (dC : Nat → ClassId) (dI : Nat → Nat → Nat) (ca : Nat → ClassId) (ad : Nat → Nat) (kf : Nat → Int32) (vf : Nat → Int64) (tf : Nat → Int32) (fr : Nat → Int32) (sf : Nat → Int32) (fi : Nat → Int32) (bk : Nat → Int32) (bv : Nat → Int64) (w : Int32) (ny : Int32) (nb : Int32) (mn : Int32) (ai : Int32) (en : Int32) (th : Int32) (op : Int32) (wr : Int32) (v : Int64) : ∀ sz : Nat, Met l yX4_unfold wsX4_unfold ({ frames := 0, cells := 0, slots := 0, locals := 0 } : Room) (va_Pc [.long v] (xP (dC, dI) (xt ca) (xm ad ca kf vf tf fr sf fi bk bv w ny nb mn ai en th op wr) sz)) (va_Ql (S := Unit) (fun r _ => r = pu_u v) (fun u t => xB (dC, dI) (xt ca) (va_A (xm ad ca kf vf tf fr sf fi bk bv w ny nb mn ai en th op wr) sz) (xm ad ca kf vf tf fr sf fi bk bv w ny nb mn ai en th op wr) t) (va_A (xm ad ca kf vf tf fr sf fi bk bv w ny nb mn ai en th op wr) sz)) 0 0 (va_A (xm ad ca kf vf tf fr sf fi bk bv w ny nb mn ai en th op wr) sz) := by
  intro sz
  refine Met.ofW (cc := cX4_unfold) (maxL := 2) (ret := (some .long)) (by decide) rfl ?_
  intro p e s m args below meth c s₁ B hml hv
  obtain ⟨rfl, hsz, hP, hK, hD0, hE⟩ := hv
  have hx := B.exec
  have hb := B.bytes
  have hr := B.returns
  have hts := atoms_spec (ws := wsX4_unfold) B.pre
  have hown : s.vm.findClass RX4 = some m.cls := findClass_of_methodNamed B.named
  have hlocks := B.notSynchronized
  subst hsz
  have hD := hD0.self (sz := s.heap.size)
  generalize hAe : va_A (xm ad ca kf vf tf fr sf fi bk bv w ny nb mn ai en th op wr) s.heap.size = A at hD hE ⊢
  have hA : ∀ q : Nat, s.heap.size ≤ q → A q := fun q h => by rw [← hAe]; exact Or.inr h
  have hS : va_S A s.heap s.heap [] := va_S.rf
  have hl := lv_entry ([.long v]) (n := 2) (Nat.le_of_ble_eq_true rfl)
  rw [lg_entry_eq]
  generalize (lg_sl ([.long v]) ++ List.replicate (2 - (lg_sl ([.long v])).length) Slot.unset).toArray = ls at hl ⊢
  have hl : lv_has ls 2 [(0, .long v)] := hl
  refine lv_lload_n hx hb dX4_unfold_0 rfl (lv_at hl 0 rfl) ?_
  refine lv_lconst (v := 1) hx hb dX4_unfold_1 (by decide) ?_
  refine lv_land hx hb dX4_unfold_2 ?_
  refine lv_lconst (v := 0) hx hb dX4_unfold_3 (by decide) ?_
  refine W.lcmp hx hb dX4_unfold_4 ?_
  refine lv_if_ne (tgt := 14) hx hb dX4_unfold_5 rfl (fun hc => ?_) (fun hc => ?_)
  · have hc1 : ¬ (v &&& 1) = 0 := fun z => hc (lc_eq.mpr z)
    refine lv_lload_n hx hb dX4_unfold_14 rfl (lv_at hl 0 rfl) ?_
    refine lv_iconst (v := 1) hx hb dX4_unfold_15 (by decide) ?_
    refine lv_lushr (v := pu_h v) hx hb dX4_unfold_16 (rfl) ?_
    refine lv_lneg hx hb dX4_unfold_17 ?_
    refine lv_lconst (v := 1) hx hb dX4_unfold_18 (by decide) ?_
    refine lv_lsub hx hb dX4_unfold_19 ?_
    have hP9 := hP
    have hD9 := hD
    exact W.lret (v := (-(pu_h v)) - 1) hx hb hr (fun t ht hW => ⟨⟨(-(pu_h v)) - 1, (), rfl, by unfold pu_u; rw [if_neg hc1], by rw [ht]; exact hP9, va_K.moved hW.alike hK, hD9⟩, hS.F ht⟩) hS.2.2 dX4_unfold_20
  · have hc1 : (v &&& 1) = 0 := lc_eq.mp hc
    refine lv_lload_n hx hb dX4_unfold_8 rfl (lv_at hl 0 rfl) ?_
    refine lv_iconst (v := 1) hx hb dX4_unfold_9 (by decide) ?_
    refine lv_lushr (v := pu_h v) hx hb dX4_unfold_10 (rfl) ?_
    refine lv_goto (tgt := 20) hx hb dX4_unfold_11 rfl ?_
    have hP9 := hP
    have hD9 := hD
    exact W.lret (v := pu_h v) hx hb hr (fun t ht hW => ⟨⟨pu_h v, (), rfl, by unfold pu_u; rw [if_pos hc1], by rw [ht]; exact hP9, va_K.moved hW.alike hK, hD9⟩, hS.F ht⟩) hS.2.2 dX4_unfold_20

set_option maxHeartbeats 4000000 in
set_option maxRecDepth 100000 in
theorem lpX4_sum_bits {p : Program} {l : Launch} {e : Env} {s : State} {m : MethodId} {args : Array Value} {below : List Frame} {meth : Method} {c : Code} {Q : State → Prop} {A : Nat → Prop} {dC : Nat → ClassId} {dI : Nat → Nat → Nat} {ca : Nat → ClassId} {ad : Nat → Nat} (hx : p.tables.exec = Jvm.exec) (hb : c.code = cX4_sum) (hml : c.maxLocals = 7) (hown : s.vm.findClass RX4 = some m.cls) (hts : ∀ w ∈ wsX4_sum, w.before args s = true) (hK : va_K (dC, dI) vwCl (xt ca) s) (hA : ∀ q : Nat, s.heap.size ≤ q → A q) (hE : xn_E A s) {kf : Nat → Int32} {vf : Nat → Int64} {tf : Nat → Int32} {fr : Nat → Int32} {sf : Nat → Int32} {fi : Nat → Int32} {bk : Nat → Int32} {bv : Nat → Int64} {w : Int32} {ny : Int32} {nb : Int32} {mn : Int32} {ai : Int32} {en : Int32} {th : Int32} {op : Int32} {wr : Int32} {j b C : Nat} (hj : j < 6000) (hC : C < 2 ^ 32) : ∀ (k : Nat)  (H : Heap) (locs : List Loc) (ls : Array Slot), k ≤ 8 → lv_has ls 7 [(5, .int (nI (8 - k))), (3, .int (nI (pb_M (pb_ub tf j) (8 - k) C))), (0, .ref (ad 0)), (4, .int (nI j)), (2, .int (nI b))] → va_P (dC, dI) vwCl (xm ad ca kf vf tf fr sf fi bk bv w ny nb mn ai en th op wr) H → va_D A (xm ad ca kf vf tf fr sf fi bk bv w ny nb mn ai en th op wr) → va_S A s.heap H locs → (∀ (H : Heap) (locs : List Loc) (ls : Array Slot), lv_has ls 7 [(3, .int (nI (pb_M (pb_ub tf j) 8 C))), (0, .ref (ad 0)), (4, .int (nI j)), (2, .int (nI b))] → va_P (dC, dI) vwCl (xm ad ca kf vf tf fr sf fi bk bv w ny nb mn ai en th op wr) H → va_D A (xm ad ca kf vf tf fr sf fi bk bv w ny nb mn ai en th op wr) → va_S A s.heap H locs → W p l e ({ frames := 0, cells := 0, slots := 0, locals := 0 } : Room) s m args below meth c H locs 0 0 Q (F0 m 60 ls [])) → W p l e ({ frames := 0, cells := 0, slots := 0, locals := 0 } : Room) s m args below meth c H locs 0 0 Q (F0 m 14 ls []) := by
  intro k
  induction k with
  | zero =>
    intro  H locs ls hk hl hP hD hS kk
    have hl : lv_has ls 7 [(5, .int (nI (8 - 0))), (3, .int (nI (pb_M (pb_ub tf j) (8 - 0) C))), (0, .ref (ad 0)), (4, .int (nI j)), (2, .int (nI b))] := hl
    refine lv_iload hx hb dX4_sum_14 (lv_at hl 0 rfl) ?_
    refine lv_bipush (v := nI 8) hx hb dX4_sum_16 (by decide) ?_
    refine lv_icmp_ge (tgt := 60) hx hb dX4_sum_18 rfl (fun hc => ?_) (fun hc => absurd hc (not_not_intro (by decide)))
    exact kk H locs ls (lv_sub hl [1, 2, 3, 4] rfl) hP hD hS
  | succ k ih =>
    intro  H locs ls hk hl hP hD hS kk
    have hl : lv_has ls 7 [(5, .int (nI (8 - (k + 1)))), (3, .int (nI (pb_M (pb_ub tf j) (8 - (k + 1)) C))), (0, .ref (ad 0)), (4, .int (nI j)), (2, .int (nI b))] := hl
    have hM : (pb_M (pb_ub tf j) (8 - (k + 1)) C) < 2 ^ 32 := pm_M_lt _ hC _
    refine lv_iload hx hb dX4_sum_14 (lv_at hl 0 rfl) ?_
    refine lv_bipush (v := nI 8) hx hb dX4_sum_16 (by decide) ?_
    refine lv_icmp_ge (tgt := 60) hx hb dX4_sum_18 rfl (fun hc => absurd hc (by rw [nI_leI (by decide) (by omega)]; omega)) (fun hc => ?_)
    refine lv_aload_n hx hb dX4_sum_21 rfl (lv_at hl 2 rfl) ?_
    refine va_get (D := (dC, dI)) (ci := 4) (v := .ref (ad 3)) (C := RX4) (T := TX4) (N := 17) (ref := "SortedRunModel") hx hb hts (xg_u mb_uws_X4) hown hK hP 0 rfl rfl 2 (by decide) (xg_w hts mb_fieldLink_RX4_17) (fun _ h9 => h9) rfl dX4_sum_22 ?_
    refine lv_iload hx hb dX4_sum_25 (lv_at hl 3 rfl) ?_
    refine va_bald hx hb hK hP 3 2 rfl rfl (vp_in_nI hj (by decide)) dX4_sum_27 ?_
    refine lv_topi (fun z1 ez1 => ?_)
    have ez1 : z1 = tf j := ez1.trans (congrArg tf (nI_clamp (by omega)))
    subst ez1
    refine lv_iload hx hb dX4_sum_28 (lv_at hl 0 rfl) ?_
    refine lv_ishr hx hb dX4_sum_30 ?_
    refine lv_iload_n hx hb dX4_sum_31 rfl (lv_at hl 1 rfl) ?_
    refine lv_ixor hx hb dX4_sum_32 ?_
    refine lv_iconst (v := 1) hx hb dX4_sum_33 (by decide) ?_
    refine lv_iand hx hb dX4_sum_34 ?_
    refine lv_topi (fun z2 ez2 => ?_)
    have ez2 : z2 = nI (((pb_ub tf j) / 2 ^ (8 - (k + 1)) + (pb_M (pb_ub tf j) (8 - (k + 1)) C)) % 2) := ez2.trans (pm_bit (tf j) (pb_M (pb_ub tf j) (8 - (k + 1)) C) (by omega) hM)
    subst ez2
    refine lv_istore hx hb dX4_sum_35 hl (by decide) rfl (fun ls hl => ?_)
    have hl : lv_has ls 7 [(6, .int (nI (((pb_ub tf j) / 2 ^ (8 - (k + 1)) + (pb_M (pb_ub tf j) (8 - (k + 1)) C)) % 2))), (5, .int (nI (8 - (k + 1)))), (3, .int (nI (pb_M (pb_ub tf j) (8 - (k + 1)) C))), (0, .ref (ad 0)), (4, .int (nI j)), (2, .int (nI b))] := hl
    refine lv_iload_n hx hb dX4_sum_37 rfl (lv_at hl 2 rfl) ?_
    refine lv_iconst (v := nI 1) hx hb dX4_sum_38 (by decide) ?_
    refine lv_iushr (v := nI ((pb_M (pb_ub tf j) (8 - (k + 1)) C) / 2)) hx hb dX4_sum_39 (pk_ushrN (n := (pb_M (pb_ub tf j) (8 - (k + 1)) C)) hM (nI 1) 1 (by decide)) ?_
    refine lv_iload hx hb dX4_sum_40 (lv_at hl 0 rfl) ?_
    refine lv_iconst (v := nI 1) hx hb dX4_sum_42 (by decide) ?_
    have e9 : pb_M (pb_ub tf j) (8 - k) C = ((pb_M (pb_ub tf j) (8 - (k + 1)) C) / 2) ^^^ (if ((pb_ub tf j) / 2 ^ (8 - (k + 1)) + (pb_M (pb_ub tf j) (8 - (k + 1)) C)) % 2 = 1 then 3988292384 else 0) := by
      rw [show 8 - k = 8 - (k + 1) + 1 by omega]; exact Eq.refl _
    refine lv_icmp_ne (tgt := 51) hx hb dX4_sum_43 rfl (fun hc => ?_) (fun hc => ?_)
    · refine lv_iconst (v := nI 0) hx hb dX4_sum_51 (by decide) ?_
      refine lv_ixor hx hb dX4_sum_52 ?_
      refine lv_topi (fun z3 ez3 => ?_)
      have ez3 : z3 = nI (pb_M (pb_ub tf j) (8 - k) C) := ez3.trans ((nx_xor _ _).trans (congrArg nI (by rw [e9, if_neg (fun z => hc (congrArg nI z))])))
      subst ez3
      refine lv_istore_n hx hb dX4_sum_53 rfl hl (by decide) rfl (fun ls hl => ?_)
      have hl : lv_has ls 7 [(3, .int (nI (pb_M (pb_ub tf j) (8 - k) C))), (6, .int (nI (((pb_ub tf j) / 2 ^ (8 - (k + 1)) + (pb_M (pb_ub tf j) (8 - (k + 1)) C)) % 2))), (5, .int (nI (8 - (k + 1)))), (0, .ref (ad 0)), (4, .int (nI j)), (2, .int (nI b))] := hl
      refine lv_iinc (k := 2) (v := nI (8 - k)) hx hb dX4_sum_54 hl rfl ((nI_1 _).trans (congrArg nI (by omega))) (by decide) rfl (fun ls hl => ?_)
      have hl : lv_has ls 7 [(5, .int (nI (8 - k))), (3, .int (nI (pb_M (pb_ub tf j) (8 - k) C))), (6, .int (nI (((pb_ub tf j) / 2 ^ (8 - (k + 1)) + (pb_M (pb_ub tf j) (8 - (k + 1)) C)) % 2))), (0, .ref (ad 0)), (4, .int (nI j)), (2, .int (nI b))] := hl
      refine lv_goto (tgt := 14) hx hb dX4_sum_57 rfl ?_
      exact ih _ _ _ (by omega) (lv_sub hl [0, 1, 3, 4, 5] rfl) hP hD hS kk
    · have hc1 := (nI_eq (b := 1) (Nat.lt_trans (Nat.mod_lt _ (by decide)) (by decide)) (by decide)).mp hc
      refine lv_ldc (v := nI 3988292384) hx hb hown (xg_w hts mb_constant_RX4_54) dX4_sum_46 ?_
      refine lv_goto (tgt := 52) hx hb dX4_sum_48 rfl ?_
      refine lv_ixor hx hb dX4_sum_52 ?_
      refine lv_topi (fun z3 ez3 => ?_)
      have ez3 : z3 = nI (pb_M (pb_ub tf j) (8 - k) C) := ez3.trans ((nx_xor _ _).trans (congrArg nI (by rw [e9, if_pos hc1])))
      subst ez3
      refine lv_istore_n hx hb dX4_sum_53 rfl hl (by decide) rfl (fun ls hl => ?_)
      have hl : lv_has ls 7 [(3, .int (nI (pb_M (pb_ub tf j) (8 - k) C))), (6, .int (nI (((pb_ub tf j) / 2 ^ (8 - (k + 1)) + (pb_M (pb_ub tf j) (8 - (k + 1)) C)) % 2))), (5, .int (nI (8 - (k + 1)))), (0, .ref (ad 0)), (4, .int (nI j)), (2, .int (nI b))] := hl
      refine lv_iinc (k := 2) (v := nI (8 - k)) hx hb dX4_sum_54 hl rfl ((nI_1 _).trans (congrArg nI (by omega))) (by decide) rfl (fun ls hl => ?_)
      have hl : lv_has ls 7 [(5, .int (nI (8 - k))), (3, .int (nI (pb_M (pb_ub tf j) (8 - k) C))), (6, .int (nI (((pb_ub tf j) / 2 ^ (8 - (k + 1)) + (pb_M (pb_ub tf j) (8 - (k + 1)) C)) % 2))), (0, .ref (ad 0)), (4, .int (nI j)), (2, .int (nI b))] := hl
      refine lv_goto (tgt := 14) hx hb dX4_sum_57 rfl ?_
      exact ih _ _ _ (by omega) (lv_sub hl [0, 1, 3, 4, 5] rfl) hP hD hS kk

set_option maxHeartbeats 4000000 in
set_option maxRecDepth 100000 in
theorem lpX4_sum_go {p : Program} {l : Launch} {e : Env} {s : State} {m : MethodId} {args : Array Value} {below : List Frame} {meth : Method} {c : Code} {Q : State → Prop} {A : Nat → Prop} {dC : Nat → ClassId} {dI : Nat → Nat → Nat} {ca : Nat → ClassId} {ad : Nat → Nat} (hx : p.tables.exec = Jvm.exec) (hb : c.code = cX4_sum) (hml : c.maxLocals = 7) (hown : s.vm.findClass RX4 = some m.cls) (hts : ∀ w ∈ wsX4_sum, w.before args s = true) (hK : va_K (dC, dI) vwCl (xt ca) s) (hA : ∀ q : Nat, s.heap.size ≤ q → A q) (hE : xn_E A s) {kf : Nat → Int32} {vf : Nat → Int64} {tf : Nat → Int32} {fr : Nat → Int32} {sf : Nat → Int32} {fi : Nat → Int32} {bk : Nat → Int32} {bv : Nat → Int64} {w : Int32} {ny : Int32} {nb : Int32} {mn : Int32} {ai : Int32} {en : Int32} {th : Int32} {op : Int32} {wr : Int32} {a b : Nat} (hab : a ≤ b) (hb9 : b ≤ 6000) : ∀ (k : Nat)  (H : Heap) (locs : List Loc) (ls : Array Slot), k ≤ b - a → lv_has ls 7 [(4, .int (nI (b - k))), (3, .int (nI (pb_crc tf a (b - k - a)))), (0, .ref (ad 0)), (2, .int (nI b))] → va_P (dC, dI) vwCl (xm ad ca kf vf tf fr sf fi bk bv w ny nb mn ai en th op wr) H → va_D A (xm ad ca kf vf tf fr sf fi bk bv w ny nb mn ai en th op wr) → va_S A s.heap H locs → (∀ (H : Heap) (locs : List Loc) (ls : Array Slot), lv_has ls 7 [(3, .int (nI (pb_crc tf a (b - a))))] → va_P (dC, dI) vwCl (xm ad ca kf vf tf fr sf fi bk bv w ny nb mn ai en th op wr) H → va_D A (xm ad ca kf vf tf fr sf fi bk bv w ny nb mn ai en th op wr) → va_S A s.heap H locs → W p l e ({ frames := 0, cells := 0, slots := 0, locals := 0 } : Room) s m args below meth c H locs 0 0 Q (F0 m 66 ls [])) → W p l e ({ frames := 0, cells := 0, slots := 0, locals := 0 } : Room) s m args below meth c H locs 0 0 Q (F0 m 5 ls []) := by
  intro k
  induction k with
  | zero =>
    intro  H locs ls hk hl hP hD hS kk
    have hl : lv_has ls 7 [(4, .int (nI (b - 0))), (3, .int (nI (pb_crc tf a (b - 0 - a)))), (0, .ref (ad 0)), (2, .int (nI b))] := hl
    refine lv_iload hx hb dX4_sum_5 (lv_at hl 0 rfl) ?_
    refine lv_iload_n hx hb dX4_sum_7 rfl (lv_at hl 3 rfl) ?_
    refine lv_icmp_ge (tgt := 66) hx hb dX4_sum_8 rfl (fun hc => ?_) (fun hc => absurd hc (not_not_intro (nI_le (by omega) (by omega))))
    exact kk H locs ls (lv_sub hl [1] rfl) hP hD hS
  | succ k ih =>
    intro  H locs ls hk hl hP hD hS kk
    have hl : lv_has ls 7 [(4, .int (nI (b - (k + 1)))), (3, .int (nI (pb_crc tf a (b - (k + 1) - a)))), (0, .ref (ad 0)), (2, .int (nI b))] := hl
    refine lv_iload hx hb dX4_sum_5 (lv_at hl 0 rfl) ?_
    refine lv_iload_n hx hb dX4_sum_7 rfl (lv_at hl 3 rfl) ?_
    refine lv_icmp_ge (tgt := 66) hx hb dX4_sum_8 rfl (fun hc => absurd hc (by rw [nI_leI (by omega) (by omega)]; omega)) (fun hc => ?_)
    refine lv_iconst (v := nI (8 - 8)) hx hb dX4_sum_11 (by decide) ?_
    refine lv_istore hx hb dX4_sum_12 hl (by decide) rfl (fun ls hl => ?_)
    have hl : lv_has ls 7 [(5, .int (nI (8 - 8))), (4, .int (nI (b - (k + 1)))), (3, .int (nI (pb_crc tf a (b - (k + 1) - a)))), (0, .ref (ad 0)), (2, .int (nI b))] := hl
    refine lpX4_sum_bits hx hb hml hown hts hK hA hE (j := b - (k + 1)) (b := b) (C := pb_crc tf a (b - (k + 1) - a)) (by omega) (pb_crc_lt tf a _) 8 _ _ _ (Nat.le_refl _) (lv_sub hl [0, 2, 3, 1, 4] rfl) hP hD hS (fun H locs ls hl hP hD hS => ?_)
    refine lv_iinc (k := 2) (v := nI (b - k)) hx hb dX4_sum_60 hl rfl ((nI_1 _).trans (congrArg nI (by omega))) (by decide) rfl (fun ls hl => ?_)
    have hl : lv_has ls 7 [(4, .int (nI (b - k))), (3, .int (nI (pb_M (pb_ub tf (b - (k + 1))) 8 (pb_crc tf a (b - (k + 1) - a))))), (0, .ref (ad 0)), (2, .int (nI b))] := hl
    refine lv_goto (tgt := 5) hx hb dX4_sum_63 rfl ?_
    have e9 : pb_M (pb_ub tf (b - (k + 1))) 8 (pb_crc tf a (b - (k + 1) - a)) = pb_crc tf a (b - k - a) := by
      rw [show b - k - a = b - (k + 1) - a + 1 by omega, pb_MB (pb_ub_lt tf _)]
      show _ = pb_B (pb_crc tf a (b - (k + 1) - a)) (pb_ub tf (a + (b - (k + 1) - a)))
      rw [show a + (b - (k + 1) - a) = b - (k + 1) by omega]
    rw [e9] at hl
    exact ih _ _ _ (by omega) hl hP hD hS kk

set_option maxHeartbeats 4000000 in
set_option maxRecDepth 100000 in
theorem cX4_sum_m (l : Launch) (dC : Nat → ClassId) (dI : Nat → Nat → Nat) (ca : Nat → ClassId) (ad : Nat → Nat) (kf : Nat → Int32) (vf : Nat → Int64) (tf : Nat → Int32) (fr : Nat → Int32) (sf : Nat → Int32) (fi : Nat → Int32) (bk : Nat → Int32) (bv : Nat → Int64) (w : Int32) (ny : Int32) (nb : Int32) (mn : Int32) (ai : Int32) (en : Int32) (th : Int32) (op : Int32) (wr : Int32) (a b : Nat) (hab : a ≤ b) (hb9 : b ≤ 6000) : ∀ sz : Nat, Met l yX4_sum wsX4_sum ({ frames := 0, cells := 0, slots := 0, locals := 0 } : Room) (va_Pc [.ref (ad 0), .int (nI a), .int (nI b)] (xP (dC, dI) (xt ca) (xm ad ca kf vf tf fr sf fi bk bv w ny nb mn ai en th op wr) sz)) (va_Qi (S := Unit) (fun r _ => r = nI (ps_w tf a b)) (fun u t => xB (dC, dI) (xt ca) (va_A (xm ad ca kf vf tf fr sf fi bk bv w ny nb mn ai en th op wr) sz) (xm ad ca kf vf tf fr sf fi bk bv w ny nb mn ai en th op wr) t) (va_A (xm ad ca kf vf tf fr sf fi bk bv w ny nb mn ai en th op wr) sz)) 0 0 (va_A (xm ad ca kf vf tf fr sf fi bk bv w ny nb mn ai en th op wr) sz) := by
  intro sz
  refine Met.ofW (cc := cX4_sum) (maxL := 7) (ret := (some .int)) (by decide) rfl ?_
  intro p e s m args below meth c s₁ B hml hv
  obtain ⟨rfl, hsz, hP, hK, hD0, hE⟩ := hv
  have hx := B.exec
  have hb := B.bytes
  have hr := B.returns
  have hts := atoms_spec (ws := wsX4_sum) B.pre
  have hown : s.vm.findClass RX4 = some m.cls := findClass_of_methodNamed B.named
  have hlocks := B.notSynchronized
  subst hsz
  have hD := hD0.self (sz := s.heap.size)
  generalize hAe : va_A (xm ad ca kf vf tf fr sf fi bk bv w ny nb mn ai en th op wr) s.heap.size = A at hD hE ⊢
  have hA : ∀ q : Nat, s.heap.size ≤ q → A q := fun q h => by rw [← hAe]; exact Or.inr h
  have hS : va_S A s.heap s.heap [] := va_S.rf
  have hl := lv_entry ([.ref (ad 0), .int (nI a), .int (nI b)]) (n := 7) (Nat.le_of_ble_eq_true rfl)
  rw [lg_entry_eq]
  generalize (lg_sl ([.ref (ad 0), .int (nI a), .int (nI b)]) ++ List.replicate (7 - (lg_sl ([.ref (ad 0), .int (nI a), .int (nI b)])).length) Slot.unset).toArray = ls at hl ⊢
  have hl : lv_has ls 7 [(0, .ref (ad 0)), (1, .int (nI a)), (2, .int (nI b))] := hl
  have e0 : pb_crc tf a (b - (b - a) - a) = 4294967295 := by rw [show b - (b - a) - a = 0 by omega]; rfl
  refine lv_iconst (v := nI (pb_crc tf a (b - (b - a) - a))) hx hb dX4_sum_0 (by rw [e0]; decide) ?_
  refine lv_istore_n hx hb dX4_sum_1 rfl hl (by decide) rfl (fun ls hl => ?_)
  have hl : lv_has ls 7 [(3, .int (nI (pb_crc tf a (b - (b - a) - a)))), (0, .ref (ad 0)), (1, .int (nI a)), (2, .int (nI b))] := hl
  refine lv_iload_n hx hb dX4_sum_2 rfl (lv_at hl 2 rfl) ?_
  refine lv_topi (fun z1 ez1 => ?_)
  have ez1 : z1 = nI (b - (b - a)) := ez1.trans (congrArg nI (by omega))
  subst ez1
  refine lv_istore hx hb dX4_sum_3 hl (by decide) rfl (fun ls hl => ?_)
  have hl : lv_has ls 7 [(4, .int (nI (b - (b - a)))), (3, .int (nI (pb_crc tf a (b - (b - a) - a)))), (0, .ref (ad 0)), (1, .int (nI a)), (2, .int (nI b))] := hl
  refine lpX4_sum_go hx hb hml hown hts hK hA hE hab hb9 (b - a) _ _ _ (Nat.le_refl _) (lv_sub hl [0, 1, 2, 4] rfl) hP hD hS (fun H locs ls hl hP hD hS => ?_)
  refine lv_iload_n hx hb dX4_sum_66 rfl (lv_at hl 0 rfl) ?_
  refine lv_iconst (v := nI 4294967295) hx hb dX4_sum_67 (by decide) ?_
  refine lv_ixor hx hb dX4_sum_68 ?_
  refine lv_topi (fun z2 ez2 => ?_)
  have ez2 : z2 = nI (ps_w tf a b) := ez2.trans (nx_xor _ _)
  subst ez2
  have hP9 := hP
  have hD9 := hD
  exact W.iret (v := nI (ps_w tf a b)) hx hb hr (fun t ht hW => ⟨⟨nI (ps_w tf a b), (), rfl, rfl, by rw [ht]; exact hP9, va_K.moved hW.alike hK, hD9⟩, hS.F ht⟩) hS.2.2 dX4_sum_69

set_option maxHeartbeats 4000000 in
set_option maxRecDepth 100000 in
theorem lpX4_seal_go {p : Program} {l : Launch} {e : Env} {s : State} {m : MethodId} {args : Array Value} {below : List Frame} {meth : Method} {c : Code} {Q : State → Prop} {A : Nat → Prop} {dC : Nat → ClassId} {dI : Nat → Nat → Nat} {ca : Nat → ClassId} {ad : Nat → Nat} (hx : p.tables.exec = Jvm.exec) (hb : c.code = cX4_seal) (hml : c.maxLocals = 4) (hown : s.vm.findClass RX4 = some m.cls) (hts : ∀ w ∈ wsX4_seal, w.before args s = true) (hK : va_K (dC, dI) vwCl (xt ca) s) (hA : ∀ q : Nat, s.heap.size ≤ q → A q) (hE : xn_E A s) {kf : Nat → Int32} {vf : Nat → Int64} {tf : Nat → Int32} {fr : Nat → Int32} {sf : Nat → Int32} {fi : Nat → Int32} {bk : Nat → Int32} {bv : Nat → Int64} {w : Int32} {nb : Int32} {mn : Int32} {ai : Int32} {en : Int32} {th : Int32} {op : Int32} {wr : Int32} {L v : Nat} (hL : L + 4 ≤ 6000) (hv : v < 2 ^ 32) : ∀ (k : Nat)  (H : Heap) (locs : List Loc) (ls : Array Slot), k ≤ 4 → lv_has ls 4 [(3, .int (nI (4 - k))), (2, .int (nI v)), (0, .ref (ad 0))] → va_P (dC, dI) vwCl (xm ad ca kf vf (ps_k tf L v (4 - k)) fr sf fi bk bv w (nI (L + (4 - k))) nb mn ai en th op wr) H → va_D A (xm ad ca kf vf (ps_k tf L v (4 - k)) fr sf fi bk bv w (nI (L + (4 - k))) nb mn ai en th op wr) → va_S A s.heap H locs → (∀ (H : Heap) (locs : List Loc) (ls : Array Slot), va_P (dC, dI) vwCl (xm ad ca kf vf (ps_k tf L v 4) fr sf fi bk bv w (nI (L + 4)) nb mn ai en th op wr) H → va_D A (xm ad ca kf vf (ps_k tf L v 4) fr sf fi bk bv w (nI (L + 4)) nb mn ai en th op wr) → va_S A s.heap H locs → W p l e ({ frames := 1, cells := 0, slots := 0, locals := 26 } : Room) s m args below meth c H locs 0 0 Q (F0 m 46 ls [])) → W p l e ({ frames := 1, cells := 0, slots := 0, locals := 26 } : Room) s m args below meth c H locs 0 0 Q (F0 m 12 ls []) := by
  intro k
  induction k with
  | zero =>
    intro  H locs ls hk hl hP hD hS kk
    have hl : lv_has ls 4 [(3, .int (nI (4 - 0))), (2, .int (nI v)), (0, .ref (ad 0))] := hl
    refine lv_iload_n hx hb dX4_seal_12 rfl (lv_at hl 0 rfl) ?_
    refine lv_iconst (v := nI 4) hx hb dX4_seal_13 (by decide) ?_
    refine lv_icmp_ge (tgt := 46) hx hb dX4_seal_14 rfl (fun hc => ?_) (fun hc => absurd hc (not_not_intro (by decide)))
    exact kk H locs ls hP hD hS
  | succ k ih =>
    intro  H locs ls hk hl hP hD hS kk
    have hl : lv_has ls 4 [(3, .int (nI (4 - (k + 1)))), (2, .int (nI v)), (0, .ref (ad 0))] := hl
    refine lv_iload_n hx hb dX4_seal_12 rfl (lv_at hl 0 rfl) ?_
    refine lv_iconst (v := nI 4) hx hb dX4_seal_13 (by decide) ?_
    refine lv_icmp_ge (tgt := 46) hx hb dX4_seal_14 rfl (fun hc => absurd hc (by rw [nI_leI (by decide) (by omega)]; omega)) (fun hc => ?_)
    refine lv_aload_n hx hb dX4_seal_17 rfl (lv_at hl 2 rfl) ?_
    refine va_get (D := (dC, dI)) (ci := 4) (v := .ref (ad 3)) (C := RX4) (T := TX4) (N := 17) (ref := "SortedRunModel") hx hb hts (xg_u mb_uws_X4) hown hK hP 0 rfl rfl 2 (by decide) (xg_w hts mb_fieldLink_RX4_17) (fun _ h9 => h9) rfl dX4_seal_18 ?_
    refine lv_aload_n hx hb dX4_seal_21 rfl (lv_at hl 2 rfl) ?_
    refine lv_dup hx hb dX4_seal_22 rfl ?_
    refine va_get (D := (dC, dI)) (ci := 4) (v := .int (nI (L + (4 - (k + 1))))) (C := RX4) (T := TX4) (N := 17) (ref := "SortedRunModel") hx hb hts (xg_u mb_uws_X4) hown hK hP 0 rfl rfl 9 (by decide) (xg_w hts mb_fieldLink_RX4_45) (fun _ h9 => h9) rfl dX4_seal_23 ?_
    refine lv_dup_x1 hx hb dX4_seal_26 rfl rfl ?_
    refine lv_iconst (v := 1) hx hb dX4_seal_27 (by decide) ?_
    refine lv_iadd hx hb dX4_seal_28 ?_
    refine lv_topi (fun z1 ez1 => ?_)
    have ez1 : z1 = nI (L + (4 - (k + 1)) + 1) := ez1.trans (nI_1 (L + (4 - (k + 1))))
    subst ez1
    refine va_put (D := (dC, dI)) (ci := 4) (v := .int (nI (L + (4 - (k + 1)) + 1))) (ty := .int) (C := RX4) (T := TX4) (N := 17) (ref := "SortedRunModel") hx hb hts (xg_u mb_uws_X4) tyX4 tyX4_ok nmX4 hown hK hP hD hS 0 rfl rfl 9 (by decide) (xg_w hts mb_fieldLink_RX4_45) (fun _ h9 => h9) rfl (by decide +kernel) rfl rfl (Nat.le_of_ble_eq_true rfl) dX4_seal_29 (fun H locs hP hD hS => ?_)
    have hP : va_P (dC, dI) vwCl (xm ad ca kf vf (ps_k tf L v (4 - (k + 1))) fr sf fi bk bv w (nI (L + (4 - (k + 1)) + 1)) nb mn ai en th op wr) H := hP
    have hD : va_D A (xm ad ca kf vf (ps_k tf L v (4 - (k + 1))) fr sf fi bk bv w (nI (L + (4 - (k + 1)) + 1)) nb mn ai en th op wr) := hD
    refine lv_iload_n hx hb dX4_seal_32 rfl (lv_at hl 1 rfl) ?_
    refine lv_bipush (v := nI 8) hx hb dX4_seal_33 (by decide) ?_
    refine lv_iload_n hx hb dX4_seal_35 rfl (lv_at hl 0 rfl) ?_
    refine lv_imul hx hb dX4_seal_36 ?_
    refine lv_topi (fun z2 ez2 => ?_)
    have ez2 : z2 = nI (8 * (4 - (k + 1))) := ez2.trans (pk_mul _ _)
    subst ez2
    refine lv_ishr hx hb dX4_seal_37 ?_
    refine lv_i2b (v := sb_b (v / 2 ^ (8 * (4 - (k + 1))))) hx hb dX4_seal_38 (pm_sb hv (by omega)) ?_
    refine va_bast hx hb hK hP hD hS 3 2 rfl rfl (vp_in_nI (by omega) (by decide)) dX4_seal_39 (fun H locs hP hD hS => ?_)
    have e9 : upd (ps_k tf L v (4 - (k + 1))) (nI (L + (4 - (k + 1)))).toNatClampNeg (vp_nar .byte (sb_b (v / 2 ^ (8 * (4 - (k + 1)))))) = upd (ps_k tf L v (4 - (k + 1))) (L + (4 - (k + 1))) (sb_b (v / 2 ^ (8 * (4 - (k + 1))))) := by rw [nI_clamp (by omega), pm_vb]
    rw [e9] at hP hD
    clear e9
    have hP : va_P (dC, dI) vwCl (xm ad ca kf vf (upd (ps_k tf L v (4 - (k + 1))) (L + (4 - (k + 1))) (sb_b (v / 2 ^ (8 * (4 - (k + 1)))))) fr sf fi bk bv w (nI (L + (4 - (k + 1)) + 1)) nb mn ai en th op wr) H := hP
    have hD : va_D A (xm ad ca kf vf (upd (ps_k tf L v (4 - (k + 1))) (L + (4 - (k + 1))) (sb_b (v / 2 ^ (8 * (4 - (k + 1)))))) fr sf fi bk bv w (nI (L + (4 - (k + 1)) + 1)) nb mn ai en th op wr) := hD
    have e1 : L + (4 - (k + 1)) + 1 = L + (4 - k) := by omega
    have e2 : upd (ps_k tf L v (4 - (k + 1))) (L + (4 - (k + 1))) (sb_b (v / 2 ^ (8 * (4 - (k + 1))))) = ps_k tf L v (4 - k) := by rw [show 4 - k = (4 - (k + 1)) + 1 by omega]; rfl
    rw [e1, e2] at hP hD
    refine lv_iinc (k := 0) (v := nI (4 - k)) hx hb dX4_seal_40 hl rfl ((nI_1 _).trans (congrArg nI (by omega))) (by decide) rfl (fun ls hl => ?_)
    have hl : lv_has ls 4 [(3, .int (nI (4 - k))), (2, .int (nI v)), (0, .ref (ad 0))] := hl
    refine lv_goto (tgt := 12) hx hb dX4_seal_43 rfl ?_
    exact ih _ _ _ (by omega) hl hP hD hS kk

set_option maxHeartbeats 4000000 in
set_option maxRecDepth 100000 in
theorem cX4_seal_m (l : Launch) (dC : Nat → ClassId) (dI : Nat → Nat → Nat) (ca : Nat → ClassId) (ad : Nat → Nat) (kf : Nat → Int32) (vf : Nat → Int64) (tf : Nat → Int32) (fr : Nat → Int32) (sf : Nat → Int32) (fi : Nat → Int32) (bk : Nat → Int32) (bv : Nat → Int64) (w : Int32) (nb : Int32) (mn : Int32) (ai : Int32) (en : Int32) (th : Int32) (op : Int32) (wr : Int32) (L a : Nat) (hL : L + 4 ≤ 6000) (ha : a ≤ L) : ∀ sz : Nat, Met l yX4_seal wsX4_seal ({ frames := 1, cells := 0, slots := 0, locals := 26 } : Room) (va_Pc [.ref (ad 0), .int (nI a)] (xP (dC, dI) (xt ca) (xm ad ca kf vf tf fr sf fi bk bv w (nI L) nb mn ai en th op wr) sz)) (va_Qv (S := Unit) (fun _ => True) (fun u t => xB (dC, dI) (xt ca) (va_A (xm ad ca kf vf tf fr sf fi bk bv w (nI L) nb mn ai en th op wr) sz) (xm ad ca kf vf (ps_k tf L (ps_w tf a L) 4) fr sf fi bk bv w (nI (L + 4)) nb mn ai en th op wr) t) (va_A (xm ad ca kf vf tf fr sf fi bk bv w (nI L) nb mn ai en th op wr) sz)) 0 0 (va_A (xm ad ca kf vf tf fr sf fi bk bv w (nI L) nb mn ai en th op wr) sz) := by
  intro sz
  refine Met.ofW (cc := cX4_seal) (maxL := 4) (ret := none) (by decide) rfl ?_
  intro p e s m args below meth c s₁ B hml hv
  obtain ⟨rfl, hsz, hP, hK, hD0, hE⟩ := hv
  have hx := B.exec
  have hb := B.bytes
  have hr := B.returns
  have hts := atoms_spec (ws := wsX4_seal) B.pre
  have hown : s.vm.findClass RX4 = some m.cls := findClass_of_methodNamed B.named
  have hlocks := B.notSynchronized
  subst hsz
  have hD := hD0.self (sz := s.heap.size)
  generalize hAe : va_A (xm ad ca kf vf tf fr sf fi bk bv w (nI L) nb mn ai en th op wr) s.heap.size = A at hD hE ⊢
  have hA : ∀ q : Nat, s.heap.size ≤ q → A q := fun q h => by rw [← hAe]; exact Or.inr h
  have hS : va_S A s.heap s.heap [] := va_S.rf
  have hl := lv_entry ([.ref (ad 0), .int (nI a)]) (n := 4) (Nat.le_of_ble_eq_true rfl)
  rw [lg_entry_eq]
  generalize (lg_sl ([.ref (ad 0), .int (nI a)]) ++ List.replicate (4 - (lg_sl ([.ref (ad 0), .int (nI a)])).length) Slot.unset).toArray = ls at hl ⊢
  have hl : lv_has ls 4 [(0, .ref (ad 0)), (1, .int (nI a))] := hl
  refine lv_aload_n hx hb dX4_seal_0 rfl (lv_at hl 0 rfl) ?_
  refine lv_iload_n hx hb dX4_seal_1 rfl (lv_at hl 1 rfl) ?_
  refine lv_aload_n hx hb dX4_seal_2 rfl (lv_at hl 0 rfl) ?_
  refine va_get (D := (dC, dI)) (ci := 4) (v := .int (nI L)) (C := RX4) (T := TX4) (N := 17) (ref := "SortedRunModel") hx hb hts (xg_u mb_uws_X4) hown hK hP 0 rfl rfl 9 (by decide) (xg_w hts mb_fieldLink_RX4_45) (fun _ h9 => h9) rfl dX4_seal_3 ?_
  refine xk_i (va_runV (As := [.int (nI a), .int (nI L)]) (rest := []) ⟨hx, hb, hml, hown, hts⟩ (cX4_sum_m l dC dI ca ad kf vf tf fr sf fi bk bv w (nI L) nb mn ai en th op wr a L ha (by omega) _) (cwV 2 hts (xg_V mb_methodLink_RX4_55 mb_instanceMethod_yX4_sum mb_selects_yX4_sum mb_initialized_RX4 mb_code_yX4_sum) rfl rfl rfl ⟨rfl, by decide, by decide, by decide +kernel⟩ ⟨Nat.le_of_ble_eq_true rfl, Nat.le_of_ble_eq_true rfl⟩) (xpreV (va_recv (q0 := 0) hK hP rfl rfl) hK hP hD hS hA hE) rfl rfl hl.1 rfl (lv_room (Nat.le_of_ble_eq_true rfl)) dX4_seal_6 ⟨Nat.le_of_ble_eq_true rfl, Nat.le_of_ble_eq_true rfl⟩) hD hS hA (fun r u H locs hu hP hD hS => ?_)
  subst hu
  have hP : va_P (dC, dI) vwCl (xm ad ca kf vf tf fr sf fi bk bv w (nI L) nb mn ai en th op wr) H := hP
  have hD : va_D A (xm ad ca kf vf tf fr sf fi bk bv w (nI L) nb mn ai en th op wr) := hD
  refine lv_istore_n hx hb dX4_seal_9 rfl hl (by decide) rfl (fun ls hl => ?_)
  have hl : lv_has ls 4 [(2, .int (nI (ps_w tf a L))), (0, .ref (ad 0)), (1, .int (nI a))] := hl
  refine lv_iconst (v := nI (4 - 4)) hx hb dX4_seal_10 (by decide) ?_
  refine lv_istore_n hx hb dX4_seal_11 rfl hl (by decide) rfl (fun ls hl => ?_)
  have hl : lv_has ls 4 [(3, .int (nI (4 - 4))), (2, .int (nI (ps_w tf a L))), (0, .ref (ad 0)), (1, .int (nI a))] := hl
  refine lpX4_seal_go hx hb hml hown hts hK hA hE (L := L) (v := ps_w tf a L) hL (ps_w_lt tf a L) 4 _ _ _ (Nat.le_refl _) (lv_sub hl [0, 1, 2] rfl) hP hD hS (fun H locs ls hP hD hS => ?_)
  have hP9 := hP
  have hD9 := hD
  exact W.vret hx hb hr (fun t ht hW => ⟨⟨(), rfl, trivial, by rw [ht]; exact hP9, va_K.moved hW.alike hK, hD9⟩, hS.F ht⟩) hS.2.2 dX4_seal_46

set_option maxHeartbeats 4000000 in
set_option maxRecDepth 100000 in
theorem lpX4_isSealed_go {p : Program} {l : Launch} {e : Env} {s : State} {m : MethodId} {args : Array Value} {below : List Frame} {meth : Method} {c : Code} {Q : State → Prop} {A : Nat → Prop} {dC : Nat → ClassId} {dI : Nat → Nat → Nat} {ca : Nat → ClassId} {ad : Nat → Nat} (hx : p.tables.exec = Jvm.exec) (hb : c.code = cX4_isSealed) (hml : c.maxLocals = 5) (hown : s.vm.findClass RX4 = some m.cls) (hts : ∀ w ∈ wsX4_isSealed, w.before args s = true) (hK : va_K (dC, dI) vwCl (xt ca) s) (hA : ∀ q : Nat, s.heap.size ≤ q → A q) (hE : xn_E A s) {kf : Nat → Int32} {vf : Nat → Int64} {tf : Nat → Int32} {fr : Nat → Int32} {sf : Nat → Int32} {fi : Nat → Int32} {bk : Nat → Int32} {bv : Nat → Int64} {w : Int32} {ny : Int32} {nb : Int32} {mn : Int32} {ai : Int32} {en : Int32} {th : Int32} {op : Int32} {wr : Int32} {a b : Nat} (hb9 : b + 4 ≤ 6000) (hf : pb_fit tf) : ∀ (k : Nat)  (H : Heap) (locs : List Loc) (ls : Array Slot), k ≤ 4 → (∀ j, j < 4 - k → pb_ub tf (b + j) = ps_w tf a b / 2 ^ (8 * j) % 256) → lv_has ls 5 [(4, .int (nI (4 - k))), (3, .int (nI (ps_w tf a b))), (0, .ref (ad 0)), (2, .int (nI b))] → va_P (dC, dI) vwCl (xm ad ca kf vf tf fr sf fi bk bv w ny nb mn ai en th op wr) H → va_D A (xm ad ca kf vf tf fr sf fi bk bv w ny nb mn ai en th op wr) → va_S A s.heap H locs → (ps_has tf a b → ∀ (H : Heap) (locs : List Loc) (ls : Array Slot), va_P (dC, dI) vwCl (xm ad ca kf vf tf fr sf fi bk bv w ny nb mn ai en th op wr) H → va_D A (xm ad ca kf vf tf fr sf fi bk bv w ny nb mn ai en th op wr) → va_S A s.heap H locs → W p l e ({ frames := 1, cells := 0, slots := 0, locals := 26 } : Room) s m args below meth c H locs 0 0 Q (F0 m 44 ls [])) → (¬ ps_has tf a b → ∀ (H : Heap) (locs : List Loc) (ls : Array Slot), va_P (dC, dI) vwCl (xm ad ca kf vf tf fr sf fi bk bv w ny nb mn ai en th op wr) H → va_D A (xm ad ca kf vf tf fr sf fi bk bv w ny nb mn ai en th op wr) → va_S A s.heap H locs → W p l e ({ frames := 1, cells := 0, slots := 0, locals := 26 } : Room) s m args below meth c H locs 0 0 Q (F0 m 36 ls [])) → W p l e ({ frames := 1, cells := 0, slots := 0, locals := 26 } : Room) s m args below meth c H locs 0 0 Q (F0 m 10 ls []) := by
  intro k
  induction k with
  | zero =>
    intro  H locs ls hk hq hl hP hD hS kk kn
    have hl : lv_has ls 5 [(4, .int (nI (4 - 0))), (3, .int (nI (ps_w tf a b))), (0, .ref (ad 0)), (2, .int (nI b))] := hl
    refine lv_iload hx hb dX4_isSealed_10 (lv_at hl 0 rfl) ?_
    refine lv_iconst (v := nI 4) hx hb dX4_isSealed_12 (by decide) ?_
    refine lv_icmp_ge (tgt := 44) hx hb dX4_isSealed_13 rfl (fun hc => ?_) (fun hc => absurd hc (not_not_intro (by decide)))
    exact kk hq H locs ls hP hD hS
  | succ k ih =>
    intro  H locs ls hk hq hl hP hD hS kk kn
    have hl : lv_has ls 5 [(4, .int (nI (4 - (k + 1)))), (3, .int (nI (ps_w tf a b))), (0, .ref (ad 0)), (2, .int (nI b))] := hl
    refine lv_iload hx hb dX4_isSealed_10 (lv_at hl 0 rfl) ?_
    refine lv_iconst (v := nI 4) hx hb dX4_isSealed_12 (by decide) ?_
    refine lv_icmp_ge (tgt := 44) hx hb dX4_isSealed_13 rfl (fun hc => absurd hc (by rw [nI_leI (by decide) (by omega)]; omega)) (fun hc => ?_)
    refine lv_aload_n hx hb dX4_isSealed_16 rfl (lv_at hl 2 rfl) ?_
    refine va_get (D := (dC, dI)) (ci := 4) (v := .ref (ad 3)) (C := RX4) (T := TX4) (N := 17) (ref := "SortedRunModel") hx hb hts (xg_u mb_uws_X4) hown hK hP 0 rfl rfl 2 (by decide) (xg_w hts mb_fieldLink_RX4_17) (fun _ h9 => h9) rfl dX4_isSealed_17 ?_
    refine lv_iload_n hx hb dX4_isSealed_20 rfl (lv_at hl 3 rfl) ?_
    refine lv_iload hx hb dX4_isSealed_21 (lv_at hl 0 rfl) ?_
    refine lv_iadd hx hb dX4_isSealed_23 ?_
    refine lv_topi (fun z1 ez1 => ?_)
    have ez1 : z1 = nI (b + (4 - (k + 1))) := ez1.trans (nI_add _ _)
    subst ez1
    refine va_bald hx hb hK hP 3 2 rfl rfl (vp_in_nI (by omega) (by decide)) dX4_isSealed_24 ?_
    refine lv_topi (fun z2 ez2 => ?_)
    have ez2 : z2 = tf (b + (4 - (k + 1))) := ez2.trans (congrArg tf (nI_clamp (by omega)))
    subst ez2
    refine lv_iload_n hx hb dX4_isSealed_25 rfl (lv_at hl 1 rfl) ?_
    refine lv_bipush (v := nI 8) hx hb dX4_isSealed_26 (by decide) ?_
    refine lv_iload hx hb dX4_isSealed_28 (lv_at hl 0 rfl) ?_
    refine lv_imul hx hb dX4_isSealed_30 ?_
    refine lv_topi (fun z3 ez3 => ?_)
    have ez3 : z3 = nI (8 * (4 - (k + 1))) := ez3.trans (pk_mul _ _)
    subst ez3
    refine lv_ishr hx hb dX4_isSealed_31 ?_
    refine lv_i2b (v := sb_b (ps_w tf a b / 2 ^ (8 * (4 - (k + 1))))) hx hb dX4_isSealed_32 (pm_sb (ps_w_lt tf a b) (by omega)) ?_
    refine lv_icmp_eq (tgt := 38) hx hb dX4_isSealed_33 rfl (fun hc => ?_) (fun hc => ?_)
    · have hc1 := (pm_eqsb hf).mp hc
      refine lv_iinc (k := 0) (v := nI (4 - k)) hx hb dX4_isSealed_38 hl rfl ((nI_1 _).trans (congrArg nI (by omega))) (by decide) rfl (fun ls hl => ?_)
      have hl : lv_has ls 5 [(4, .int (nI (4 - k))), (3, .int (nI (ps_w tf a b))), (0, .ref (ad 0)), (2, .int (nI b))] := hl
      refine lv_goto (tgt := 10) hx hb dX4_isSealed_41 rfl ?_
      refine ih _ _ _ (by omega) (fun j hj => ?_) hl hP hD hS kk kn
      by_cases e : j = (4 - (k + 1))
      · subst e; exact hc1
      · exact hq j (by omega)
    · exact kn (fun hh => hc ((pm_eqsb hf).mpr (hh (4 - (k + 1)) (by omega)))) H locs ls hP hD hS

set_option maxHeartbeats 4000000 in
set_option maxRecDepth 100000 in
theorem cX4_isSealed_m (l : Launch) (dC : Nat → ClassId) (dI : Nat → Nat → Nat) (ca : Nat → ClassId) (ad : Nat → Nat) (kf : Nat → Int32) (vf : Nat → Int64) (tf : Nat → Int32) (fr : Nat → Int32) (sf : Nat → Int32) (fi : Nat → Int32) (bk : Nat → Int32) (bv : Nat → Int64) (w : Int32) (ny : Int32) (nb : Int32) (mn : Int32) (ai : Int32) (en : Int32) (th : Int32) (op : Int32) (wr : Int32) (a b : Nat) (hab : a ≤ b) (hb9 : b + 4 ≤ 6000) (hf : pb_fit tf) : ∀ sz : Nat, Met l yX4_isSealed wsX4_isSealed ({ frames := 1, cells := 0, slots := 0, locals := 26 } : Room) (va_Pc [.ref (ad 0), .int (nI a), .int (nI b)] (xP (dC, dI) (xt ca) (xm ad ca kf vf tf fr sf fi bk bv w ny nb mn ai en th op wr) sz)) (va_Qi (S := Unit) (fun r _ => (r = 1 ∧ ps_has tf a b) ∨ (r = 0 ∧ ¬ ps_has tf a b)) (fun u t => xB (dC, dI) (xt ca) (va_A (xm ad ca kf vf tf fr sf fi bk bv w ny nb mn ai en th op wr) sz) (xm ad ca kf vf tf fr sf fi bk bv w ny nb mn ai en th op wr) t) (va_A (xm ad ca kf vf tf fr sf fi bk bv w ny nb mn ai en th op wr) sz)) 0 0 (va_A (xm ad ca kf vf tf fr sf fi bk bv w ny nb mn ai en th op wr) sz) := by
  intro sz
  refine Met.ofW (cc := cX4_isSealed) (maxL := 5) (ret := (some .boolean)) (by decide) rfl ?_
  intro p e s m args below meth c s₁ B hml hv
  obtain ⟨rfl, hsz, hP, hK, hD0, hE⟩ := hv
  have hx := B.exec
  have hb := B.bytes
  have hr := B.returns
  have hts := atoms_spec (ws := wsX4_isSealed) B.pre
  have hown : s.vm.findClass RX4 = some m.cls := findClass_of_methodNamed B.named
  have hlocks := B.notSynchronized
  subst hsz
  have hD := hD0.self (sz := s.heap.size)
  generalize hAe : va_A (xm ad ca kf vf tf fr sf fi bk bv w ny nb mn ai en th op wr) s.heap.size = A at hD hE ⊢
  have hA : ∀ q : Nat, s.heap.size ≤ q → A q := fun q h => by rw [← hAe]; exact Or.inr h
  have hS : va_S A s.heap s.heap [] := va_S.rf
  have hl := lv_entry ([.ref (ad 0), .int (nI a), .int (nI b)]) (n := 5) (Nat.le_of_ble_eq_true rfl)
  rw [lg_entry_eq]
  generalize (lg_sl ([.ref (ad 0), .int (nI a), .int (nI b)]) ++ List.replicate (5 - (lg_sl ([.ref (ad 0), .int (nI a), .int (nI b)])).length) Slot.unset).toArray = ls at hl ⊢
  have hl : lv_has ls 5 [(0, .ref (ad 0)), (1, .int (nI a)), (2, .int (nI b))] := hl
  refine lv_aload_n hx hb dX4_isSealed_0 rfl (lv_at hl 0 rfl) ?_
  refine lv_iload_n hx hb dX4_isSealed_1 rfl (lv_at hl 1 rfl) ?_
  refine lv_iload_n hx hb dX4_isSealed_2 rfl (lv_at hl 2 rfl) ?_
  refine xk_i (va_runV (As := [.int (nI a), .int (nI b)]) (rest := []) ⟨hx, hb, hml, hown, hts⟩ (cX4_sum_m l dC dI ca ad kf vf tf fr sf fi bk bv w ny nb mn ai en th op wr a b hab (by omega) _) (cwV 2 hts (xg_V mb_methodLink_RX4_55 mb_instanceMethod_yX4_sum mb_selects_yX4_sum mb_initialized_RX4 mb_code_yX4_sum) rfl rfl rfl ⟨rfl, by decide, by decide, by decide +kernel⟩ ⟨Nat.le_of_ble_eq_true rfl, Nat.le_of_ble_eq_true rfl⟩) (xpreV (va_recv (q0 := 0) hK hP rfl rfl) hK hP hD hS hA hE) rfl rfl hl.1 rfl (lv_room (Nat.le_of_ble_eq_true rfl)) dX4_isSealed_3 ⟨Nat.le_of_ble_eq_true rfl, Nat.le_of_ble_eq_true rfl⟩) hD hS hA (fun r u H locs hu hP hD hS => ?_)
  subst hu
  have hP : va_P (dC, dI) vwCl (xm ad ca kf vf tf fr sf fi bk bv w ny nb mn ai en th op wr) H := hP
  have hD : va_D A (xm ad ca kf vf tf fr sf fi bk bv w ny nb mn ai en th op wr) := hD
  refine lv_istore_n hx hb dX4_isSealed_6 rfl hl (by decide) rfl (fun ls hl => ?_)
  have hl : lv_has ls 5 [(3, .int (nI (ps_w tf a b))), (0, .ref (ad 0)), (1, .int (nI a)), (2, .int (nI b))] := hl
  refine lv_iconst (v := nI (4 - 4)) hx hb dX4_isSealed_7 (by decide) ?_
  refine lv_istore hx hb dX4_isSealed_8 hl (by decide) rfl (fun ls hl => ?_)
  have hl : lv_has ls 5 [(4, .int (nI (4 - 4))), (3, .int (nI (ps_w tf a b))), (0, .ref (ad 0)), (1, .int (nI a)), (2, .int (nI b))] := hl
  refine lpX4_isSealed_go hx hb hml hown hts hK hA hE (a := a) (b := b) hb9 hf 4 _ _ _ (Nat.le_refl _) (fun j hj => absurd hj (by omega)) (lv_sub hl [0, 1, 2, 4] rfl) hP hD hS (fun hh H locs ls hP hD hS => ?_) (fun hh H locs ls hP hD hS => ?_)
  · refine lv_iconst (v := 1) hx hb dX4_isSealed_44 (by decide) ?_
    have hP9 := hP
    have hD9 := hD
    exact W.zret (v := 1) hx hb hr (by rfl) (fun t ht hW => ⟨⟨1, (), rfl, Or.inl ⟨rfl, hh⟩, by rw [ht]; exact hP9, va_K.moved hW.alike hK, hD9⟩, hS.F ht⟩) hS.2.2 dX4_isSealed_45
  · refine lv_iconst (v := 0) hx hb dX4_isSealed_36 (by decide) ?_
    have hP9 := hP
    have hD9 := hD
    exact W.zret (v := 0) hx hb hr (by rfl) (fun t ht hW => ⟨⟨0, (), rfl, Or.inr ⟨rfl, hh⟩, by rw [ht]; exact hP9, va_K.moved hW.alike hK, hD9⟩, hS.F ht⟩) hS.2.2 dX4_isSealed_37
end
