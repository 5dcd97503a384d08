/-! the frame, for calls that may throw -/
theorem xf_pl {D : va_G} {cl : List vw_C} {w1 w2 : va_W} {H : Heap} (h : va_P D cl (w1 ++ w2) H) : va_P D cl w1 H := fun k q hk => h k q (by rw [List.getElem?_append_left (List.getElem?_eq_some_iff.mp hk).1]; exact hk)
theorem xf_pr {D : va_G} {cl : List vw_C} {w1 w2 : va_W} {H : Heap} (h : va_P D cl (w1 ++ w2) H) : va_P D cl w2 H := fun _ q hk => h _ q (xf_at2 hk)
section XFX
variable {p : Program} {l : Launch} {e : Env} {R : Room} {s : State} {m : MethodId} {args : Array Value} {below : List Frame} {meth : Method} {c : Code} {H : Heap} {locs : List Loc} {cells slots mc ms pc : Nat} {Q : State → Prop} {ls : Array Slot} {st0 rest : List Value} {A : Nat → Prop} {a : Array Value} {D : va_G} {tys : List (ClassId × FieldType)} {wd wr : va_W}
theorem xfx_i {S SX : Type} {post : Int32 → S → Prop} {wd' : S → va_W} {pX : String → SX → Prop} {wx : SX → va_W} (hr : vx_Run p l e R s m args below meth c H locs cells slots mc ms (F0 m pc ls st0) rest (va_Qi post (fun u t => xB D tys (va_A wd H.size) (wd' u) t ∧ t.heap.size = H.size) (va_A wd H.size) a) (xX D tys (va_A wd H.size) pX wx) (va_A wd H.size))
    (hD : va_D A (wd ++ wr)) (hPr : va_P D vwCl wr H) (hS : va_S A s.heap H locs) (hA : ∀ q, s.heap.size ≤ q → A q) (hz : H.size = s.heap.size)
    (kx : ∀ (E : String) (ce : Cell) (q9 : Addr) (u : SX) (H1 : Heap) (locs1 : List Loc), pX E u → va_P D vwCl (wx u ++ wr) H1 → va_D A (wx u ++ wr) → va_S A s.heap H1 locs1 → H1[q9]? = some ce → ce.vm = .none → s.vm.findClass E = some ce.cls → vx_W p l e R s m args below meth c H1 locs1 (cells + mc) (slots + ms) Q (F0 m pc ls rest) q9)
    (kk : ∀ (r : Int32) (u : S) (H1 : Heap) (locs1 : List Loc), post r u → va_P D vwCl (wd' u ++ wr) H1 → va_D A (wd' u ++ wr) → va_S A s.heap H1 locs1 → W p l e R s m args below meth c H1 locs1 0 0 Q (F0 m (pc + 3) ls (.int r :: rest))) : W p l e R s m args below meth c H locs cells slots Q (F0 m pc ls st0) :=
  have hFc := xFc (xf_l hD) hS hA
  vx_calli hr hS (fun q _ h => hFc q h) hFc (fun q _ h => hFc q h)
    (fun E ce q9 u t H1 locs1 ht _ _ hB _ hk hS1 h1 h2 h3 => kx E ce q9 u H1 locs1 hB.1 (va_P.app (by rw [← ht]; exact hB.2.1) (xf_keep hD hPr hk)) (xf_dis hD hPr hFc hB.2.2.2) hS1 h1 h2 h3)
    (fun r u t H1 locs1 ht _ hp hB _ hk hS1 => x_tight (by rw [← ht, hB.2]; exact hz) (kk r u H1 locs1 hp (va_P.app (by rw [← ht]; exact hB.1.1) (xf_keep hD hPr hk)) (xf_dis hD hPr hFc hB.1.2.2) hS1))
theorem xfx_l {S SX : Type} {post : Int64 → S → Prop} {wd' : S → va_W} {pX : String → SX → Prop} {wx : SX → va_W} (hr : vx_Run p l e R s m args below meth c H locs cells slots mc ms (F0 m pc ls st0) rest (va_Ql post (fun u t => xB D tys (va_A wd H.size) (wd' u) t ∧ t.heap.size = H.size) (va_A wd H.size) a) (xX D tys (va_A wd H.size) pX wx) (va_A wd H.size))
    (hD : va_D A (wd ++ wr)) (hPr : va_P D vwCl wr H) (hS : va_S A s.heap H locs) (hA : ∀ q, s.heap.size ≤ q → A q) (hz : H.size = s.heap.size)
    (kx : ∀ (E : String) (ce : Cell) (q9 : Addr) (u : SX) (H1 : Heap) (locs1 : List Loc), pX E u → va_P D vwCl (wx u ++ wr) H1 → va_D A (wx u ++ wr) → va_S A s.heap H1 locs1 → H1[q9]? = some ce → ce.vm = .none → s.vm.findClass E = some ce.cls → vx_W p l e R s m args below meth c H1 locs1 (cells + mc) (slots + ms) Q (F0 m pc ls rest) q9)
    (kk : ∀ (r : Int64) (u : S) (H1 : Heap) (locs1 : List Loc), post r u → va_P D vwCl (wd' u ++ wr) H1 → va_D A (wd' u ++ wr) → va_S A s.heap H1 locs1 → W p l e R s m args below meth c H1 locs1 0 0 Q (F0 m (pc + 3) ls (.long r :: rest))) : W p l e R s m args below meth c H locs cells slots Q (F0 m pc ls st0) :=
  have hFc := xFc (xf_l hD) hS hA
  vx_calll hr hS (fun q _ h => hFc q h) hFc (fun q _ h => hFc q h)
    (fun E ce q9 u t H1 locs1 ht _ _ hB _ hk hS1 h1 h2 h3 => kx E ce q9 u H1 locs1 hB.1 (va_P.app (by rw [← ht]; exact hB.2.1) (xf_keep hD hPr hk)) (xf_dis hD hPr hFc hB.2.2.2) hS1 h1 h2 h3)
    (fun r u t H1 locs1 ht _ hp hB _ hk hS1 => x_tight (by rw [← ht, hB.2]; exact hz) (kk r u H1 locs1 hp (va_P.app (by rw [← ht]; exact hB.1.1) (xf_keep hD hPr hk)) (xf_dis hD hPr hFc hB.1.2.2) hS1))
theorem xfx_v {S SX : Type} {post : S → Prop} {wd' : S → va_W} {pX : String → SX → Prop} {wx : SX → va_W} (hr : vx_Run p l e R s m args below meth c H locs cells slots mc ms (F0 m pc ls st0) rest (va_Qv post (fun u t => xB D tys (va_A wd H.size) (wd' u) t ∧ t.heap.size = H.size) (va_A wd H.size) a) (xX D tys (va_A wd H.size) pX wx) (va_A wd H.size))
    (hD : va_D A (wd ++ wr)) (hPr : va_P D vwCl wr H) (hS : va_S A s.heap H locs) (hA : ∀ q, s.heap.size ≤ q → A q) (hz : H.size = s.heap.size)
    (kx : ∀ (E : String) (ce : Cell) (q9 : Addr) (u : SX) (H1 : Heap) (locs1 : List Loc), pX E u → va_P D vwCl (wx u ++ wr) H1 → va_D A (wx u ++ wr) → va_S A s.heap H1 locs1 → H1[q9]? = some ce → ce.vm = .none → s.vm.findClass E = some ce.cls → vx_W p l e R s m args below meth c H1 locs1 (cells + mc) (slots + ms) Q (F0 m pc ls rest) q9)
    (kk : ∀ (u : S) (H1 : Heap) (locs1 : List Loc), post u → va_P D vwCl (wd' u ++ wr) H1 → va_D A (wd' u ++ wr) → va_S A s.heap H1 locs1 → W p l e R s m args below meth c H1 locs1 0 0 Q (F0 m (pc + 3) ls rest)) : W p l e R s m args below meth c H locs cells slots Q (F0 m pc ls st0) :=
  have hFc := xFc (xf_l hD) hS hA
  vx_callv hr hS (fun q _ h => hFc q h) hFc (fun q _ h => hFc q h)
    (fun E ce q9 u t H1 locs1 ht _ _ hB _ hk hS1 h1 h2 h3 => kx E ce q9 u H1 locs1 hB.1 (va_P.app (by rw [← ht]; exact hB.2.1) (xf_keep hD hPr hk)) (xf_dis hD hPr hFc hB.2.2.2) hS1 h1 h2 h3)
    (fun u t H1 locs1 ht _ hp hB _ hk hS1 => x_tight (by rw [← ht, hB.2]; exact hz) (kk u H1 locs1 hp (va_P.app (by rw [← ht]; exact hB.1.1) (xf_keep hD hPr hk)) (xf_dis hD hPr hFc hB.1.2.2) hS1))
end XFX
