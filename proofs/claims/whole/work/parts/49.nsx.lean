/-! throw new NoSuchElementException("..") in the class's world -/
theorem xh_NSE_at : ∀ w ∈ ns_at RX3 103, w ∈ lw_tbl.filter xn_ok := by decide +kernel
theorem xh_NSE_good : ∀ w ∈ Cond.classLink RX3 99 nsE :: Cond.initialized nsE :: ns_at RX3 103, vx_ot w = true := by decide +kernel
theorem xh_NSE_on : ∀ w ∈ ns_at RX3 103, w.onTables = true := by decide +kernel
section NS3
variable {p : Program} {l : Launch} {e : Env} {R : Room} {s : State} {m : MethodId} {args : Array Value} {below : List Frame} {meth : Method} {c : Code} {H : Heap} {locs : List Loc} {cells slots pc : Nat} {ls : Array Slot} {A : Nat → Prop} {D : va_G} {tys : List (ClassId × FieldType)}
theorem xx_throwN {S : Type} {pX : String → S → Prop} {wx : S → va_W} {mc' ms' : Nat} {cc : ByteArray} {own text : String} {ik is ic sa : Nat} {Qc : Array Value → State → Outcome → State → Prop} (u : S) (hx : p.tables.exec = Jvm.exec) (hb : c.code = cc) (hnt : l.stackTraces = false)
    (hown : s.vm.findClass own = some m.cls) (_ : Bundle.fit nsE = true) (hk : (Cond.classLink own ik nsE).before args s = true) (hini : (Cond.initialized nsE).before args s = true) (hstr : vk_R own is text sa s)
    (hat : ∀ w ∈ ns_at own ic, w ∈ lw_tbl.filter xn_ok) (hgood : ∀ w ∈ Cond.classLink own ik nsE :: Cond.initialized nsE :: ns_at own ic, vx_ot w = true) (hon : ∀ w ∈ ns_at own ic, w.onTables = true)
    (hE : xn_E A s) (hsize : ls.size = c.maxLocals)
    (d0 : decode cc pc = .ok (.new ik, 3)) (d3 : decode cc (pc + 3) = .ok (.dup, 1)) (d4 : decode cc (pc + 4) = .ok (.ldc is, 2)) (d6 : decode cc (pc + 6) = .ok (.invokespecial ic, 3)) (d9 : decode cc (pc + 9) = .ok (.athrow, 1))
    (hno : ∀ x ∈ c.exceptionTable.toList, False) (hR : 5 < R.frames ∧ 82 ≤ R.locals ∧ cells + 1 ≤ R.cells ∧ slots + 6 ≤ R.slots) (hlocks : meth.locks = false) (hu : pX nsE u)
    (hK : va_K D vwCl tys s) (hP : va_P D vwCl (wx u) H) (hD : va_D A (wx u)) (hS : va_S A s.heap H locs) (h1 : cells + 1 ≤ mc') (h2 : slots + 6 ≤ ms') :
    W p l e R s m args below meth c H locs cells slots (vx_MQ below Qc (xX D tys A pX wx) args s mc' ms' A) (F0 m pc ls []) :=
  ns_throw hx hb hnt hown hk hini hstr (fun w hw => va_Nw.use (hon w hw) (hE.1 w (hat w hw))) hgood hE.2.1 hE.2.2.1 hS hsize d0 d3 d4 d6 d9 (fun x hx => (hno x hx).elim) hR.1 hR.2.1 hR.2.2.1 hR.2.2.2 hlocks
    (fun t ha hz hq => ⟨u, trivial, ⟨hu, hP.kept (fun k q hk => hq _ (vx_lt hP hk)), va_K.moved ha hK, hD⟩, Nat.le_trans hS.1 hz, fun q h3 h4 => by rw [hq q (Nat.lt_of_lt_of_le h3 hS.1)]; exact hS.2.1 q h3 h4⟩) hS.2.2 h1 h2
end NS3
