/-! the frame: a call over part of the cells leaves the rest as it was -/
theorem xf_l {A : Nat → Prop} {w1 w2 : va_W} (h : va_D A (w1 ++ w2)) : va_D A w1 := by
  have at1 : ∀ (i : Nat) (p : Nat × va_E), w1[i]? = some p → (w1 ++ w2)[i]? = some p := fun i p hp => by rw [List.getElem?_append_left (List.getElem?_eq_some_iff.mp hp).1]; exact hp
  exact ⟨fun i j p q hp hq e => h.1 i j p q (at1 i p hp) (at1 j q hq) e, fun k q hk => h.2 k q (at1 k q hk)⟩
theorem xf_at2 {w1 w2 : va_W} {i : Nat} {p : Nat × va_E} (hp : w2[i]? = some p) : (w1 ++ w2)[w1.length + i]? = some p := by
  rw [List.getElem?_append_right (Nat.le_add_right _ _), Nat.add_sub_cancel_left]
  exact hp
theorem xf_r {A : Nat → Prop} {w1 w2 : va_W} (h : va_D A (w1 ++ w2)) : va_D A w2 :=
  ⟨fun i j p q hp hq e => by have := h.1 _ _ p q (xf_at2 (w1 := w1) hp) (xf_at2 (w1 := w1) hq) e; omega, fun k q hk => h.2 _ q (xf_at2 (w1 := w1) hk)⟩
theorem xf_ne {A : Nat → Prop} {w1 w2 : va_W} (h : va_D A (w1 ++ w2)) {i j : Nat} {p q : Nat × va_E} (hp : w1[i]? = some p) (hq : w2[j]? = some q) : p.1 ≠ q.1 := by
  intro e
  have hi : i < w1.length := (List.getElem?_eq_some_iff.mp hp).1
  have := h.1 i (w1.length + j) p q (by rw [List.getElem?_append_left hi]; exact hp) (xf_at2 hq) e
  omega
theorem xf_c {A : Nat → Prop} {w1 w2 : va_W} (h : va_D A (w1 ++ w2)) : va_D A (w2 ++ w1) := (xf_r h).app (xf_l h) (fun _ _ _ _ hp hq e => xf_ne h hq hp e.symm)
theorem xf_out {A : Nat → Prop} {D : va_G} {cl : List vw_C} {wd wr : va_W} {H : Heap} (hD : va_D A (wd ++ wr)) (hPr : va_P D cl wr H) {k : Nat} {q : Nat × va_E} (hk : wr[k]? = some q) : ¬ va_A wd H.size q.1 := by
  intro h
  rcases h with ⟨j, e, hj⟩ | h
  · exact xf_ne hD hj hk rfl
  · have := vx_lt hPr hk
    omega
theorem xf_keep {A : Nat → Prop} {D : va_G} {cl : List vw_C} {wd wr : va_W} {H H1 : Heap} (hD : va_D A (wd ++ wr)) (hPr : va_P D cl wr H) (hk : ∀ q : Nat, q < H.size → ¬ va_A wd H.size q → H1[q]? = H[q]?) : va_P D cl wr H1 :=
  hPr.kept (fun _ q hq => hk q.1 (vx_lt hPr hq) (xf_out hD hPr hq))
theorem xf_dis {A : Nat → Prop} {D : va_G} {cl : List vw_C} {wd wr w1 : va_W} {H : Heap} (hD : va_D A (wd ++ wr)) (hPr : va_P D cl wr H) (hF : ∀ q, va_A wd H.size q → A q) (hD1 : va_D (va_A wd H.size) w1) : va_D A (w1 ++ wr) :=
  (hD1.weaken (fun _ _ _ h => hF _ h)).app (xf_r hD) (fun _ _ p q hp hq e => xf_out hD hPr hq (by rw [← e]; exact hD1.2 _ _ hp))
section XF
variable {p : Program} {l : Launch} {e : Env} {R : Room} {s : State} {m : MethodId} {args : Array Value} {below : List Frame} {meth : Method} {c : Code} {H : Heap} {locs : List Loc} {cells slots mc ms pc : Nat} {Q : State → Prop} {ls : Array Slot} {st0 rest : List Value} {A : Nat → Prop} {a : Array Value} {D : va_G} {wd wr : va_W}
theorem xf_v {S : Type} {post : S → Prop} {wd' : S → va_W} {ty' : S → List (ClassId × FieldType)} (hr : va_Run p l e R s m args below meth c H locs cells slots mc ms (F0 m pc ls st0) rest (va_Qv post (fun u t => xB D (ty' u) (va_A wd H.size) (wd' u) t) (va_A wd H.size) a) (va_A wd H.size))
    (hD : va_D A (wd ++ wr)) (hPr : va_P D vwCl wr H) (hS : va_S A s.heap H locs) (hA : ∀ q, s.heap.size ≤ q → A q)
    (kk : ∀ (u : S) (H1 : Heap) (locs1 : List Loc), post u → va_K D vwCl (ty' u) s → va_P D vwCl (wd' u ++ wr) H1 → va_D A (wd' u ++ wr) → va_S A s.heap H1 locs1 → W p l e R s m args below meth c H1 locs1 (cells + mc) (slots + ms) Q (F0 m (pc + 3) ls rest)) : W p l e R s m args below meth c H locs cells slots Q (F0 m pc ls st0) :=
  have hFc := xFc (xf_l hD) hS hA
  va_callv hr hS (fun q _ h => hFc q h) hFc (fun u t H1 locs1 ht hvm hp hB _ hk hS1 => kk u H1 locs1 hp (va_K.moved hvm.symm hB.2.1) (va_P.app (by rw [← ht]; exact hB.1) (xf_keep hD hPr hk)) (xf_dis hD hPr hFc hB.2.2) hS1)
theorem xf_i {S : Type} {post : Int32 → S → Prop} {wd' : S → va_W} {ty' : S → List (ClassId × FieldType)} (hr : va_Run p l e R s m args below meth c H locs cells slots mc ms (F0 m pc ls st0) rest (va_Qi post (fun u t => xB D (ty' u) (va_A wd H.size) (wd' u) t) (va_A wd H.size) a) (va_A wd H.size))
    (hD : va_D A (wd ++ wr)) (hPr : va_P D vwCl wr H) (hS : va_S A s.heap H locs) (hA : ∀ q, s.heap.size ≤ q → A q)
    (kk : ∀ (r : Int32) (u : S) (H1 : Heap) (locs1 : List Loc), post r u → va_K D vwCl (ty' u) s → va_P D vwCl (wd' u ++ wr) H1 → va_D A (wd' u ++ wr) → va_S A s.heap H1 locs1 → W p l e R s m args below meth c H1 locs1 (cells + mc) (slots + ms) Q (F0 m (pc + 3) ls (.int r :: rest))) : W p l e R s m args below meth c H locs cells slots Q (F0 m pc ls st0) :=
  have hFc := xFc (xf_l hD) hS hA
  va_calli hr hS (fun q _ h => hFc q h) hFc (fun r u t H1 locs1 ht hvm hp hB _ hk hS1 => kk r u H1 locs1 hp (va_K.moved hvm.symm hB.2.1) (va_P.app (by rw [← ht]; exact hB.1) (xf_keep hD hPr hk)) (xf_dis hD hPr hFc hB.2.2) hS1)
theorem xf_ll {S : Type} {post : Int64 → S → Prop} {wd' : S → va_W} {ty' : S → List (ClassId × FieldType)} (hr : va_Run p l e R s m args below meth c H locs cells slots mc ms (F0 m pc ls st0) rest (va_Ql post (fun u t => xB D (ty' u) (va_A wd H.size) (wd' u) t) (va_A wd H.size) a) (va_A wd H.size))
    (hD : va_D A (wd ++ wr)) (hPr : va_P D vwCl wr H) (hS : va_S A s.heap H locs) (hA : ∀ q, s.heap.size ≤ q → A q)
    (kk : ∀ (r : Int64) (u : S) (H1 : Heap) (locs1 : List Loc), post r u → va_K D vwCl (ty' u) s → va_P D vwCl (wd' u ++ wr) H1 → va_D A (wd' u ++ wr) → va_S A s.heap H1 locs1 → W p l e R s m args below meth c H1 locs1 (cells + mc) (slots + ms) Q (F0 m (pc + 3) ls (.long r :: rest))) : W p l e R s m args below meth c H locs cells slots Q (F0 m pc ls st0) :=
  have hFc := xFc (xf_l hD) hS hA
  va_calll hr hS (fun q _ h => hFc q h) hFc (fun r u t H1 locs1 ht hvm hp hB _ hk hS1 => kk r u H1 locs1 hp (va_K.moved hvm.symm hB.2.1) (va_P.app (by rw [← ht]; exact hB.1) (xf_keep hD hPr hk)) (xf_dis hD hPr hFc hB.2.2) hS1)
end XF
