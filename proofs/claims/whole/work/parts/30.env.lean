/-! the words that all methods take, and what holds of the start besides: links across the nest, Throwable's two statics, the text constants, the sum's table -/
def wsG : List Cond := lw_tbl.filter goodWord
theorem wsG_of {w : Cond} (h : w ∈ lw_tbl) (hg : goodWord w = true) : w ∈ wsG := List.mem_filter.mpr ⟨h, hg⟩
theorem wsG_t {w : Cond} {i : Nat} (h : tables_1[i]? = some w) (hg : goodWord w = true) : w ∈ wsG := wsG_of (List.mem_append_right _ (List.mem_of_getElem? h)) hg
theorem wsG_good {w : Cond} (h : w ∈ wsG) : (w.onTables && w.keeps) = true ∨ ∃ ty, w = .arrayClass ty := good_of_word (List.mem_filter.mp h).2
theorem xg_in {w0 : Cond} {L : List Cond} (h : ∀ w ∈ L, w ∈ wsG) : GoodIn (w0 :: wsG) L := fun w hw => ⟨List.mem_cons_of_mem _ (h w hw), wsG_good (h w hw)⟩
theorem xg_c {w : Cond} {L : List Cond} (h : w ∈ wsG) (t : ∀ w ∈ L, w ∈ wsG) : ∀ w' ∈ w :: L, w' ∈ wsG := fun w' h' => (List.mem_cons.mp h').elim (fun e => by rw [e]; exact h) (t w')
theorem xg_V {w0 : Cond} {own C : String} {idx : Nat} {y : MethodName} {c : Cond} (h1 : .methodLink own idx y ∈ wsG) (h2 : .instanceMethod y ∈ wsG) (h3 : .selects C y y ∈ wsG) (h4 : .initialized C ∈ wsG) (h5 : c ∈ wsG) : GoodIn (w0 :: wsG) (wsV own idx C y (c :: wsG)) :=
  xg_in (xg_c h1 (xg_c h2 (xg_c h3 (xg_c h4 (xg_c h5 (fun _ h => h))))))
theorem xg_S {w0 : Cond} {own : String} {idx : Nat} {y : MethodName} {c : Cond} (h1 : .methodLink own idx y ∈ wsG) (h2 : .static y ∈ wsG) (h3 : .initialized own ∈ wsG) (h5 : c ∈ wsG) : GoodIn (w0 :: wsG) (wsS own idx y (c :: wsG)) :=
  xg_in (xg_c h1 (xg_c h2 (xg_c h3 (xg_c h5 (fun _ h => h)))))
theorem xg_0 {w0 : Cond} {c : Cond} (h5 : c ∈ wsG) : GoodIn (w0 :: wsG) (c :: wsG) := xg_in (xg_c h5 (fun _ h => h))
theorem xg_w {w0 w : Cond} {args : Array Value} {s : State} (hts : ∀ w ∈ w0 :: wsG, w.before args s = true) (h : w ∈ wsG) : w.before args s = true := hts _ (List.mem_cons_of_mem _ h)
theorem xg_u {w0 : Cond} {L : List Cond} (h : ∀ w ∈ L, w ∈ wsG) : ∀ w ∈ L, w ∈ w0 :: wsG := fun w hw => List.mem_cons_of_mem _ (h w hw)
/-- words that stand on the tables and stay under warmer ones -/
def xn_ok : Cond → Bool
  | .fieldLinkNest .. => true
  | .methodLinkNest .. => true
  | .castable .. => true
  | .declares .. => true
  | w => goodWord w
theorem xn_warm {w : Cond} {s U : State} (hW : s.WarmedH U.vm) (hw : xn_ok w = true) (h : va_Nw w s) : va_Nw w U := by
  cases w
  case fieldLinkNest => exact va_Nw.warmF hW h
  case methodLinkNest => exact va_Nw.warmM hW h
  case castable => exact va_tabs rfl (rfl : (s.setVm U.vm).vm = U.vm) (Cond.before_warmed (args := #[]) hW _ trivial h)
  case declares => exact va_tabs rfl (rfl : (s.setVm U.vm).vm = U.vm) (Cond.before_warmed (args := #[]) hW _ trivial h)
  all_goals exact word_at hW (good_of_word hw) h
def xn_str : List (String × Nat × String) := [("SortedRun", 50, "300 entries wait already"), ("SortedRun", 57, "the key is not above the one before"), ("SortedRun", 131, "the table has no such byte"), ("SortedRun", 79, "the table has not so many bytes"), ("SortedRun", 87, "the foot or the index is not right"), ("SortedRun", 133, "the table is closed"), ("SortedRun", 101, "every block begins above the key"), ("SortedRun", 144, "the block is not right"), ("SortedRun", 121, "the block has not this key"), ("SortedRun", 135, "the table has no such block"), ("SortedRun", 128, "the block has no such entry")]
def xn_nc : List (String × String) := [("SortedRun", "java/lang/IllegalArgumentException"), ("SortedRun$Table", "java/lang/IllegalArgumentException"), ("SortedRun$Index", "java/lang/IllegalArgumentException"), ("SortedRun$Entry", "java/lang/IllegalArgumentException"), ("SortedRunModel", "java/lang/IllegalArgumentException"), ("java/lang/IllegalStateException", "java/lang/IllegalArgumentException"), ("java/lang/IndexOutOfBoundsException", "java/lang/IllegalArgumentException"), ("java/lang/ArithmeticException", "java/lang/IllegalArgumentException"), ("java/util/NoSuchElementException", "java/lang/IllegalArgumentException"), ("SortedRun", "java/lang/IllegalStateException"), ("SortedRun$Table", "java/lang/IllegalStateException"), ("SortedRun$Index", "java/lang/IllegalStateException"), ("SortedRun$Entry", "java/lang/IllegalStateException"), ("SortedRunModel", "java/lang/IllegalStateException"), ("java/lang/IllegalArgumentException", "java/lang/IllegalStateException"), ("java/lang/IndexOutOfBoundsException", "java/lang/IllegalStateException"), ("java/lang/ArithmeticException", "java/lang/IllegalStateException"), ("java/util/NoSuchElementException", "java/lang/IllegalStateException"), ("SortedRun", "java/lang/IndexOutOfBoundsException"), ("SortedRun$Table", "java/lang/IndexOutOfBoundsException"), ("SortedRun$Index", "java/lang/IndexOutOfBoundsException"), ("SortedRun$Entry", "java/lang/IndexOutOfBoundsException"), ("SortedRunModel", "java/lang/IndexOutOfBoundsException"), ("java/lang/IllegalStateException", "java/lang/IndexOutOfBoundsException"), ("java/lang/IllegalArgumentException", "java/lang/IndexOutOfBoundsException"), ("java/lang/ArithmeticException", "java/lang/IndexOutOfBoundsException"), ("java/util/NoSuchElementException", "java/lang/IndexOutOfBoundsException"), ("SortedRun", "java/lang/ArithmeticException"), ("SortedRun$Table", "java/lang/ArithmeticException"), ("SortedRun$Index", "java/lang/ArithmeticException"), ("SortedRun$Entry", "java/lang/ArithmeticException"), ("SortedRunModel", "java/lang/ArithmeticException"), ("java/lang/IllegalStateException", "java/lang/ArithmeticException"), ("java/lang/IllegalArgumentException", "java/lang/ArithmeticException"), ("java/lang/IndexOutOfBoundsException", "java/lang/ArithmeticException"), ("java/util/NoSuchElementException", "java/lang/ArithmeticException"), ("SortedRun", "java/util/NoSuchElementException"), ("SortedRun$Table", "java/util/NoSuchElementException"), ("SortedRun$Index", "java/util/NoSuchElementException"), ("SortedRun$Entry", "java/util/NoSuchElementException"), ("SortedRunModel", "java/util/NoSuchElementException"), ("java/lang/IllegalStateException", "java/util/NoSuchElementException"), ("java/lang/IllegalArgumentException", "java/util/NoSuchElementException"), ("java/lang/IndexOutOfBoundsException", "java/util/NoSuchElementException"), ("java/lang/ArithmeticException", "java/util/NoSuchElementException")]
def xn_E (A : Nat → Prop) (U : State) : Prop := (∀ w ∈ lw_tbl.filter xn_ok, va_Nw w U) ∧ vx_Zq Bundle.tN "UNASSIGNED_STACK" Bundle.steD A U U.heap ∧ vx_Zq Bundle.tN "SUPPRESSED_SENTINEL" Bundle.listD A U U.heap ∧ (∀ q ∈ xn_str, ∃ a, vk_R q.1 q.2.1 q.2.2 a U) ∧ (∀ q ∈ xn_nc, va_Nc q.1 q.2 U) ∧
  ∃ st : Nat, va_Z RX2 "SUM_STEPS" "[I" (.ref st) A U U.heap ∧ va_T .int st 16 (fun j => .int (nI (pb_T j))) A U U.heap
theorem xn_w {w : Cond} {i : Nat} {A : Nat → Prop} {U : State} {args : Array Value} (hE : xn_E A U) (h : tables_1[i]? = some w) (hg : xn_ok w = true) (ho : w.onTables = true) : w.before args U = true :=
  va_Nw.use ho (hE.1 w (List.mem_filter.mpr ⟨List.mem_append_right _ (List.mem_of_getElem? h), hg⟩))
theorem xn_nw {w : Cond} {i : Nat} {A : Nat → Prop} {U : State} (hE : xn_E A U) (h : tables_1[i]? = some w) (hg : xn_ok w = true) : va_Nw w U :=
  hE.1 w (List.mem_filter.mpr ⟨List.mem_append_right _ (List.mem_of_getElem? h), hg⟩)
theorem xn_move {A B : Nat → Prop} {s U : State} (hE : xn_E A s) (hW : s.WarmedH U.vm) (hk : ∀ a : Nat, a < s.heap.size → ¬ A a → U.heap[a]? = s.heap[a]?) (hAB : ∀ q, B q → A q) : xn_E B U := by
  obtain ⟨h1, h2, h3, h4, h5, st, h6, h7⟩ := hE
  refine ⟨fun w hw => xn_warm hW (List.mem_filter.mp hw).2 (h1 w hw), (vx_Zq.moved hW.alike (h2.kept hk)).narrow hAB, (vx_Zq.moved hW.alike (h3.kept hk)).narrow hAB, fun q hq => ?_, fun q hq => va_Nc.moved hW.alike (h5 q hq), st, (va_Z.moved hW.alike (h6.kept hk)).narrow hAB, (va_T.moved hW.alike (h7.kept hk)).narrow hAB⟩
  obtain ⟨a, ha⟩ := h4 q hq
  exact ⟨a, ha.warm hW⟩
theorem xn_go {A B : Nat → Prop} {s : State} {H : Heap} {locs : List Loc} (hE : xn_E A s) (hS : va_S A s.heap H locs) (hAB : ∀ q, B q → A q) : ∀ U : State, U.heap = H → s.WarmedH U.vm → xn_E B U :=
  fun U hU hW => xn_move hE hW (fun a h1 h2 => by rw [hU]; exact hS.2.1 a h1 h2) hAB
/-! contracts over one world, given whole: a call takes the world and gives the new one back -/
def xP (D : va_G) (tys : List (ClassId × FieldType)) (wd : va_W) (sz : Nat) (U : State) : Prop := U.heap.size = sz ∧ va_P D vwCl wd U.heap ∧ va_K D vwCl tys U ∧ va_D (fun _ => True) wd ∧ xn_E (va_A wd sz) U
def xB (D : va_G) (tys : List (ClassId × FieldType)) (A : Nat → Prop) (wd : va_W) (t : State) : Prop := va_P D vwCl wd t.heap ∧ va_K D vwCl tys t ∧ va_D A wd
theorem xP.blind {D : va_G} {tys : List (ClassId × FieldType)} {wd : va_W} {sz : Nat} {av : List Value} : FrameBlind (va_Pc av (xP D tys wd sz)) := by
  intro a U g mk q
  obtain ⟨q0, q1, qP, qK, qD, qE⟩ := q
  exact ⟨q0, q1, qP, va_K.moved (u := U) (U := U.calling g mk a) (Vm.Alike.refl U.vm) qK, qD, xn_move qE (State.WarmedH.refl U) (fun _ _ _ => rfl) (fun _ h => h)⟩
theorem xFc {A : Nat → Prop} {wd : va_W} {H0 H : Heap} {locs : List Loc} (hD : va_D A wd) (hS : va_S A H0 H locs) (hA : ∀ q, H0.size ≤ q → A q) : ∀ q, va_A wd H.size q → A q := by
  intro q h
  rcases h with ⟨k, e, hk⟩ | h
  · exact hD.2 k _ hk
  · exact hA q (Nat.le_trans hS.1 h)
section XK
variable {p : Program} {l : Launch} {e : Env} {R : Room} {s : State} {m : MethodId} {args : Array Value} {below : List Frame} {meth : Method} {c : Code} {H : Heap} {locs : List Loc} {cells slots mc ms pc : Nat} {Q : State → Prop} {ls : Array Slot} {st0 rest : List Value} {A : Nat → Prop} {a : Array Value} {D : va_G} {tys : List (ClassId × FieldType)} {wd : va_W} {av : List Value}
theorem xpreS (hK : va_K D vwCl tys s) (hP : va_P D vwCl wd H) (hD : va_D A wd) (hS : va_S A s.heap H locs) (hA : ∀ q, s.heap.size ≤ q → A q) (hE : xn_E A s) : PreS s H (va_Pc av (xP D tys wd H.size)) av :=
  ⟨xP.blind, fun U hU hW => ⟨rfl, by rw [hU], by rw [hU]; exact hP, va_K.moved hW.alike hK, hD.weaken (fun _ _ _ _ => trivial), xn_go hE hS (xFc hD hS hA) U hU hW⟩⟩
theorem xpreV {b : Addr} {As : List Value} {C : String} (hr : ∃ cell : Cell, H[b]? = some cell ∧ cell.vm.isStatics = false ∧ s.vm.findClass C = some cell.cls) (hK : va_K D vwCl tys s) (hP : va_P D vwCl wd H) (hD : va_D A wd) (hS : va_S A s.heap H locs) (hA : ∀ q, s.heap.size ≤ q → A q) (hE : xn_E A s) : PreV s H C b (va_Pc (Value.ref b :: As) (xP D tys wd H.size)) As :=
  ⟨xP.blind, hr, fun U hU hW => ⟨rfl, by rw [hU], by rw [hU]; exact hP, va_K.moved hW.alike hK, hD.weaken (fun _ _ _ _ => trivial), xn_go hE hS (xFc hD hS hA) U hU hW⟩⟩
theorem xk_i {S : Type} {post : Int32 → S → Prop} {wd' : S → va_W} (hr : va_Run p l e R s m args below meth c H locs cells slots mc ms (F0 m pc ls st0) rest (va_Qi post (fun u t => xB D tys (va_A wd H.size) (wd' u) t) (va_A wd H.size) a) (va_A wd H.size))
    (hD : va_D A wd) (hS : va_S A s.heap H locs) (hA : ∀ q, s.heap.size ≤ q → A q)
    (kk : ∀ (r : Int32) (u : S) (H1 : Heap) (locs1 : List Loc), post r u → va_P D vwCl (wd' u) H1 → va_D A (wd' u) → va_S A s.heap H1 locs1 → W p l e R s m args below meth c H1 locs1 (cells + mc) (slots + ms) Q (F0 m (pc + 3) ls (.int r :: rest))) : W p l e R s m args below meth c H locs cells slots Q (F0 m pc ls st0) :=
  have hFc := xFc hD hS hA
  va_calli hr hS (fun q _ h => hFc q h) hFc (fun r u t H1 locs1 ht _ hp hB _ _ hS1 => kk r u H1 locs1 hp (by rw [← ht]; exact hB.1) (hB.2.2.weaken (fun _ _ _ h => hFc _ h)) hS1)
theorem xk_l {S : Type} {post : Int64 → S → Prop} {wd' : S → va_W} (hr : va_Run p l e R s m args below meth c H locs cells slots mc ms (F0 m pc ls st0) rest (va_Ql post (fun u t => xB D tys (va_A wd H.size) (wd' u) t) (va_A wd H.size) a) (va_A wd H.size))
    (hD : va_D A wd) (hS : va_S A s.heap H locs) (hA : ∀ q, s.heap.size ≤ q → A q)
    (kk : ∀ (r : Int64) (u : S) (H1 : Heap) (locs1 : List Loc), post r u → va_P D vwCl (wd' u) H1 → va_D A (wd' u) → va_S A s.heap H1 locs1 → W p l e R s m args below meth c H1 locs1 (cells + mc) (slots + ms) Q (F0 m (pc + 3) ls (.long r :: rest))) : W p l e R s m args below meth c H locs cells slots Q (F0 m pc ls st0) :=
  have hFc := xFc hD hS hA
  va_calll hr hS (fun q _ h => hFc q h) hFc (fun r u t H1 locs1 ht _ hp hB _ _ hS1 => kk r u H1 locs1 hp (by rw [← ht]; exact hB.1) (hB.2.2.weaken (fun _ _ _ h => hFc _ h)) hS1)
theorem xk_v {S : Type} {post : S → Prop} {wd' : S → va_W} (hr : va_Run p l e R s m args below meth c H locs cells slots mc ms (F0 m pc ls st0) rest (va_Qv post (fun u t => xB D tys (va_A wd H.size) (wd' u) t) (va_A wd H.size) a) (va_A wd H.size))
    (hD : va_D A wd) (hS : va_S A s.heap H locs) (hA : ∀ q, s.heap.size ≤ q → A q)
    (kk : ∀ (u : S) (H1 : Heap) (locs1 : List Loc), post u → va_P D vwCl (wd' u) H1 → va_D A (wd' u) → va_S A s.heap H1 locs1 → W p l e R s m args below meth c H1 locs1 (cells + mc) (slots + ms) Q (F0 m (pc + 3) ls rest)) : W p l e R s m args below meth c H locs cells slots Q (F0 m pc ls st0) :=
  have hFc := xFc hD hS hA
  va_callv hr hS (fun q _ h => hFc q h) hFc (fun u t H1 locs1 ht _ hp hB _ _ hS1 => kk u H1 locs1 hp (by rw [← ht]; exact hB.1) (hB.2.2.weaken (fun _ _ _ h => hFc _ h)) hS1)
/-- where the heap hasn't grown, nothing counts as made -/
theorem x_tight {g : JFrame} (hz : H.size = s.heap.size) (kk : W p l e R s m args below meth c H locs 0 0 Q g) : W p l e R s m args below meth c H locs cells slots Q g := by
  intro T hT X
  obtain ⟨h1, h2, h3, h4, h5, h6⟩ := X.same
  have hsz : T.heap.size = s.heap.size := by rw [hT]; exact hz
  have hd : (T.setVm s.vm).heap.toList.drop s.heap.size = [] := by
    apply List.drop_eq_nil_of_le
    show T.heap.toList.length ≤ s.heap.size
    rw [Array.length_toList, hsz]
    exact Nat.le_refl _
  exact kk T hT { X with same := ⟨h1, h2, by show T.heap.size ≤ s.heap.size + 0; omega, h4, by rw [hd]; simp, h6⟩ }
/-- what a method leaves where it throws: which exception, the world -/
abbrev xX {S : Type} (D : va_G) (tys : List (ClassId × FieldType)) (A : Nat → Prop) (pX : String → S → Prop) (wx : S → va_W) : String → State → State → Prop := vx_X (fun _ => True) (fun E u t => pX E u ∧ xB D tys A (wx u) t) A
theorem xx_i {S SX : Type} {post : Int32 → S → Prop} {wd' : S → va_W} {pX : String → SX → Prop} {wx : SX → va_W} (hr : vx_Run p l e R s m args below meth c H locs cells slots mc ms (F0 m pc ls st0) rest (va_Qi post (fun u t => xB D tys (va_A wd H.size) (wd' u) t ∧ t.heap.size = H.size) (va_A wd H.size) a) (xX D tys (va_A wd H.size) pX wx) (va_A wd H.size))
    (hD : va_D A wd) (hS : va_S A s.heap H locs) (hA : ∀ q, s.heap.size ≤ q → A q) (hz : H.size = s.heap.size)
    (kx : ∀ (E : String) (ce : Cell) (q9 : Addr) (u : SX) (H1 : Heap) (locs1 : List Loc), pX E u → va_P D vwCl (wx u) H1 → va_D A (wx u) → va_S A s.heap H1 locs1 → H1[q9]? = some ce → ce.vm = .none → s.vm.findClass E = some ce.cls → vx_W p l e R s m args below meth c H1 locs1 (cells + mc) (slots + ms) Q (F0 m pc ls rest) q9)
    (kk : ∀ (r : Int32) (u : S) (H1 : Heap) (locs1 : List Loc), post r u → va_P D vwCl (wd' u) H1 → va_D A (wd' u) → va_S A s.heap H1 locs1 → H1.size = s.heap.size → W p l e R s m args below meth c H1 locs1 0 0 Q (F0 m (pc + 3) ls (.int r :: rest))) : W p l e R s m args below meth c H locs cells slots Q (F0 m pc ls st0) :=
  have hFc := xFc hD hS hA
  vx_calli hr hS (fun q _ h => hFc q h) hFc (fun q _ h => hFc q h)
    (fun E ce q9 u t H1 locs1 ht _ _ hB _ _ hS1 h1 h2 h3 => kx E ce q9 u H1 locs1 hB.1 (by rw [← ht]; exact hB.2.1) (hB.2.2.2.weaken (fun _ _ _ h => hFc _ h)) hS1 h1 h2 h3)
    (fun r u t H1 locs1 ht _ hp hB _ _ hS1 => x_tight (by rw [← ht, hB.2]; exact hz) (kk r u H1 locs1 hp (by rw [← ht]; exact hB.1.1) (hB.1.2.2.weaken (fun _ _ _ h => hFc _ h)) hS1 (by rw [← ht, hB.2]; exact hz)))
theorem xx_l {S SX : Type} {post : Int64 → S → Prop} {wd' : S → va_W} {pX : String → SX → Prop} {wx : SX → va_W} (hr : vx_Run p l e R s m args below meth c H locs cells slots mc ms (F0 m pc ls st0) rest (va_Ql post (fun u t => xB D tys (va_A wd H.size) (wd' u) t ∧ t.heap.size = H.size) (va_A wd H.size) a) (xX D tys (va_A wd H.size) pX wx) (va_A wd H.size))
    (hD : va_D A wd) (hS : va_S A s.heap H locs) (hA : ∀ q, s.heap.size ≤ q → A q) (hz : H.size = s.heap.size)
    (kx : ∀ (E : String) (ce : Cell) (q9 : Addr) (u : SX) (H1 : Heap) (locs1 : List Loc), pX E u → va_P D vwCl (wx u) H1 → va_D A (wx u) → va_S A s.heap H1 locs1 → H1[q9]? = some ce → ce.vm = .none → s.vm.findClass E = some ce.cls → vx_W p l e R s m args below meth c H1 locs1 (cells + mc) (slots + ms) Q (F0 m pc ls rest) q9)
    (kk : ∀ (r : Int64) (u : S) (H1 : Heap) (locs1 : List Loc), post r u → va_P D vwCl (wd' u) H1 → va_D A (wd' u) → va_S A s.heap H1 locs1 → H1.size = s.heap.size → W p l e R s m args below meth c H1 locs1 0 0 Q (F0 m (pc + 3) ls (.long r :: rest))) : W p l e R s m args below meth c H locs cells slots Q (F0 m pc ls st0) :=
  have hFc := xFc hD hS hA
  vx_calll hr hS (fun q _ h => hFc q h) hFc (fun q _ h => hFc q h)
    (fun E ce q9 u t H1 locs1 ht _ _ hB _ _ hS1 h1 h2 h3 => kx E ce q9 u H1 locs1 hB.1 (by rw [← ht]; exact hB.2.1) (hB.2.2.2.weaken (fun _ _ _ h => hFc _ h)) hS1 h1 h2 h3)
    (fun r u t H1 locs1 ht _ hp hB _ _ hS1 => x_tight (by rw [← ht, hB.2]; exact hz) (kk r u H1 locs1 hp (by rw [← ht]; exact hB.1.1) (hB.1.2.2.weaken (fun _ _ _ h => hFc _ h)) hS1 (by rw [← ht, hB.2]; exact hz)))
theorem xx_v {S SX : Type} {post : S → Prop} {wd' : S → va_W} {pX : String → SX → Prop} {wx : SX → va_W} (hr : vx_Run p l e R s m args below meth c H locs cells slots mc ms (F0 m pc ls st0) rest (va_Qv post (fun u t => xB D tys (va_A wd H.size) (wd' u) t ∧ t.heap.size = H.size) (va_A wd H.size) a) (xX D tys (va_A wd H.size) pX wx) (va_A wd H.size))
    (hD : va_D A wd) (hS : va_S A s.heap H locs) (hA : ∀ q, s.heap.size ≤ q → A q) (hz : H.size = s.heap.size)
    (kx : ∀ (E : String) (ce : Cell) (q9 : Addr) (u : SX) (H1 : Heap) (locs1 : List Loc), pX E u → va_P D vwCl (wx u) H1 → va_D A (wx u) → va_S A s.heap H1 locs1 → H1[q9]? = some ce → ce.vm = .none → s.vm.findClass E = some ce.cls → vx_W p l e R s m args below meth c H1 locs1 (cells + mc) (slots + ms) Q (F0 m pc ls rest) q9)
    (kk : ∀ (u : S) (H1 : Heap) (locs1 : List Loc), post u → va_P D vwCl (wd' u) H1 → va_D A (wd' u) → va_S A s.heap H1 locs1 → H1.size = s.heap.size → W p l e R s m args below meth c H1 locs1 0 0 Q (F0 m (pc + 3) ls rest)) : W p l e R s m args below meth c H locs cells slots Q (F0 m pc ls st0) :=
  have hFc := xFc hD hS hA
  vx_callv hr hS (fun q _ h => hFc q h) hFc (fun q _ h => hFc q h)
    (fun E ce q9 u t H1 locs1 ht _ _ hB _ _ hS1 h1 h2 h3 => kx E ce q9 u H1 locs1 hB.1 (by rw [← ht]; exact hB.2.1) (hB.2.2.2.weaken (fun _ _ _ h => hFc _ h)) hS1 h1 h2 h3)
    (fun u t H1 locs1 ht _ hp hB _ _ hS1 => x_tight (by rw [← ht, hB.2]; exact hz) (kk u H1 locs1 hp (by rw [← ht]; exact hB.1.1) (hB.1.2.2.weaken (fun _ _ _ h => hFc _ h)) hS1 (by rw [← ht, hB.2]; exact hz)))
/-- what a callee threw leaves the caller too -/
theorem xx_out {S : Type} {pX : String → S → Prop} {wx : S → va_W} {mc' ms' : Nat} {E : String} {q9 : Addr} {ce : Cell} {Qc : Array Value → State → Outcome → State → Prop} (u : S)
    (hno : ∀ x ∈ c.exceptionTable.toList, False) (hlocks : meth.locks = false) (hu : pX E u) (hc : H[q9]? = some ce) (hv : ce.vm = .none) (hcl : s.vm.findClass E = some ce.cls)
    (hK : va_K D vwCl tys s) (hP : va_P D vwCl (wx u) H) (hD : va_D A (wx u)) (hS : va_S A s.heap H locs) (h1 : cells ≤ mc') (h2 : slots ≤ ms') :
    vx_W p l e R s m args below meth c H locs cells slots (vx_MQ below Qc (xX D tys A pX wx) args s mc' ms' A) (F0 m pc ls rest) q9 :=
  vx_out (fun x hx => (hno x hx).elim) hlocks hc hv hcl (fun t ht ha => ⟨u, trivial, ⟨hu, by rw [ht]; exact hP, va_K.moved ha hK, hD⟩, hS.F ht⟩) hS.2.2 h1 h2
/-- throw new E("..") -/
theorem xx_throw {S : Type} {pX : String → S → Prop} {wx : S → va_W} {mc' ms' : Nat} {cc : ByteArray} {own cls text : String} {ik is ic sa : Nat} {Qc : Array Value → State → Outcome → State → Prop} (u : S) (hx : p.tables.exec = Jvm.exec) (hb : c.code = cc) (hnt : l.stackTraces = false)
    (hown : s.vm.findClass own = some m.cls) (hcls : Bundle.fit cls = true) (hk : (Cond.classLink own ik cls).before args s = true) (hini : (Cond.initialized cls).before args s = true) (hstr : vk_R own is text sa s)
    (hat : ∀ w ∈ vx_atS own ic cls ["java/lang/RuntimeException", "java/lang/Exception"], w ∈ lw_tbl.filter xn_ok) (hgood : ∀ w ∈ Cond.classLink own ik cls :: Cond.initialized cls :: vx_atS own ic cls ["java/lang/RuntimeException", "java/lang/Exception"], vx_ot w = true) (hon : ∀ w ∈ vx_atS own ic cls ["java/lang/RuntimeException", "java/lang/Exception"], w.onTables = true)
    (hE : xn_E A s) (hsize : ls.size = c.maxLocals)
    (d0 : decode cc pc = .ok (.new ik, 3)) (d3 : decode cc (pc + 3) = .ok (.dup, 1)) (d4 : decode cc (pc + 4) = .ok (.ldc is, 2)) (d6 : decode cc (pc + 6) = .ok (.invokespecial ic, 3)) (d9 : decode cc (pc + 9) = .ok (.athrow, 1))
    (hno : ∀ x ∈ c.exceptionTable.toList, False) (hR : 5 < R.frames ∧ 82 ≤ R.locals ∧ cells + 1 ≤ R.cells ∧ slots + 6 ≤ R.slots) (hlocks : meth.locks = false) (hu : pX cls u)
    (hK : va_K D vwCl tys s) (hP : va_P D vwCl (wx u) H) (hD : va_D A (wx u)) (hS : va_S A s.heap H locs) (h1 : cells + 1 ≤ mc') (h2 : slots + 6 ≤ ms') :
    W p l e R s m args below meth c H locs cells slots (vx_MQ below Qc (xX D tys A pX wx) args s mc' ms' A) (F0 m pc ls []) :=
  vx_throwS hx hb hnt hown hcls (fun n hn => by simp at hn; rcases hn with rfl | rfl <;> decide +kernel) hk hini hstr (fun w hw => va_Nw.use (hon w hw) (hE.1 w (hat w hw))) hgood hE.2.1 hE.2.2.1 hS hsize d0 d3 d4 d6 d9 (fun x hx => (hno x hx).elim) (by simpa using hR.1) (by simpa using hR.2.1) hR.2.2.1 hR.2.2.2 hlocks
    (fun t ha hz hq => ⟨u, trivial, ⟨hu, hP.kept (fun k q hk => hq _ (vx_lt hP hk)), va_K.moved ha hK, hD⟩, Nat.le_trans hS.1 hz, fun q h3 h4 => by rw [hq q (Nat.lt_of_lt_of_le h3 hS.1)]; exact hS.2.1 q h3 h4⟩) hS.2.2 h1 h2
end XK
