/-! the law: rows -/
section LR
variable {p : Program} {l : Launch} {e : Env} {R : Room} {s : State} {m : MethodId} {args : Array Value} {below : List Frame} {meth : Method} {c : Code} {H : Heap} {locs : List Loc} {cells slots mc ms : Nat} {Q : State → Prop} {own nm : String} {cc : ByteArray} {maxL : Nat} {ret0 : Option FieldType} {wl : List Cond} {D : va_G} {k : Nat → ClassId} {t : Nat → Nat} {A : Nat → Prop} {ws wr wc : va_W} {pc a : Nat} {ls : Array Slot} {rest st0 : List Value}
theorem fw_iF {post : Int32 → va_W → Prop} {av : Array Value} (C : Cx own nm cc maxL ret0 wl D k t A p s m args meth c) (hP : va_P D vwCl (wr ++ wc) H) (hD : va_D A (wr ++ wc)) (hS : va_S A s.heap H locs)
    (hr : va_Run p l e R s m args below meth c H locs cells slots mc ms (F0 m pc ls st0) rest (va_Qi post (BcW D (va_A wc H.size)) (va_A wc H.size) av) (va_A wc H.size))
    (kk : ∀ (r : Int32) (w : va_W) (H1 : Heap) (locs1 : List Loc), post r w → va_P D vwCl (wr ++ w) H1 → va_D A (wr ++ w) → va_S A s.heap H1 locs1 → W p l e R s m args below meth c H1 locs1 (cells + mc) (slots + ms) Q (F0 m (pc + 3) ls (.int r :: rest))) : W p l e R s m args below meth c H locs cells slots Q (F0 m pc ls st0) := by
  have hF := fw_free C (dR hD) hS
  refine va_calli hr hS (fun q _ h => hF q h) hF (fun r u T H1 locs1 hT _ hw hB _ hk hS1 => ?_)
  subst hT
  obtain ⟨hP2, hD2⟩ := jn hP hD hk hF hB.1 hB.2
  exact kk r u _ locs1 hw hP2 hD2 hS1
/-- a call of an object's method, beside the other object's cells -/
theorem lw_c {post : Int32 → va_W → Prop} {y : MethodName} {bytes : ByteArray} {maxL2 n index : Nat} {ret2 : Option FieldType} {wl2 : List Cond} {rm : Room} {As : List Value} {C2 : String} (C : Cx own nm cc maxL ret0 wl D k t A p s m args meth c) (hP : va_P D vwCl (wr ++ wc) H) (hD : va_D A (wr ++ wc)) (hS : va_S A s.heap H locs) (hM : Ci D k t l y wl2 rm (.ref a :: As) wc post 0 0) (cw : CallW R s args own C2 index y bytes maxL2 ret2 wl2 rm 0 0 n)
    (ci : Nat) {q : vw_C} {fs : List Value} (hc : vwCl[ci]? = some q) (he : wc[0]? = some (a, .inr (ci, fs))) (hC2 : q.1 = C2) (hn : As.length = n) (hsz : ls.size = maxL) (hst : st0 = As.reverse ++ .ref a :: rest) (hW : (rest.map fun v => v.category).sum ≤ 8) (hdg : decode cc pc = .ok (.invokevirtual index, 3)) (hf : cells ≤ R.cells ∧ slots ≤ R.slots)
    (kk : ∀ (r : Int32) (w : va_W) (H1 : Heap) (locs1 : List Loc), post r w → va_P D vwCl (w ++ wr) H1 → va_D A (w ++ wr) → va_S A s.heap H1 locs1 → W p l e R s m args below meth c H1 locs1 cells slots Q (F0 m (pc + 3) ls (.int r :: rest))) : W p l e R s m args below meth c H locs cells slots Q (F0 m pc ls st0) :=
  fw_iF C hP hD hS (rn_V C (hM H.size) cw 0 ci hc he hC2 (pR hP) (dR hD) hS hn hsz hst hW hdg hf) (fun r u H1 locs1 h hP hD hS => kk r u H1 locs1 h (va_P.swap (a := []) hP) (va_D.swap (a := []) hD) hS)
/-- one int of the script -/
theorem lw_arg {b L i j : Nat} {xs : Nat → Int32} (hx : p.tables.exec = Jvm.exec) (hb : c.code = cc) (hX : va_X b L xs s s.heap) (hbl : b < s.heap.size) (hbA : ¬ A b) (hS : va_S A s.heap H locs) (hl0 : ls[0]? = some (.val (.ref b))) (hl3 : ls[3]? = some (.val (.int (nI i)))) (hij : i + j < L) (hL : L ≤ 3072) {jz : Int} (hj : Int32.ofInt jz = nI j)
    (d0 : decode cc pc = .ok (.aload_n 0, 1)) (d1 : decode cc (pc + 1) = .ok (.iload_n 3, 1)) (d2 : decode cc (pc + 1 + 1) = .ok (.iconst jz, 1)) (d3 : decode cc (pc + 1 + 1 + 1) = .ok (.iadd, 1)) (d4 : decode cc (pc + 1 + 1 + 1 + 1) = .ok (.iaload, 1))
    (kk : W p l e R s m args below meth c H locs cells slots Q (F0 m (pc + 1 + 1 + 1 + 1 + 1) ls (.int (xs (i + j)) :: rest))) : W p l e R s m args below meth c H locs cells slots Q (F0 m pc ls rest) := by
  refine lv_aload_n hx hb d0 rfl hl0 ?_
  refine lv_iload_n hx hb d1 rfl hl3 ?_
  refine lv_iconst hx hb d2 hj ?_
  refine lv_iadd hx hb d3 ?_
  refine tp_i (nI_add i j) ?_
  refine va_sld hx hb hX hbl hbA hS (vp_in_nI hij (by omega)) d4 ?_
  refine tp_i (congrArg xs (nI_clamp (by omega))) ?_
  exact kk
end LR
theorem RelW_1 {ad bd : Nat → Nat} {k : Nat → ClassId} {w1 w2 : va_W} (h : RelW ad bd k w1 w2) : ∃ fs, w1[0]? = some (ad 0, .inr (3, fs)) := by
  obtain ⟨N, S, Wt, L, T, G, E, su, pa, tr, sh, pv, st, wt, sm, nu, po, mh, up, lo, li, ro, so, un, to, it, nn, vv, qq, rfl, rfl, hR⟩ := h
  exact ⟨_, rfl⟩
theorem RelW_2 {ad bd : Nat → Nat} {k : Nat → ClassId} {w1 w2 : va_W} (h : RelW ad bd k w1 w2) : ∃ fs, w2[0]? = some (bd 0, .inr (4, fs)) := by
  obtain ⟨N, S, Wt, L, T, G, E, su, pa, tr, sh, pv, st, wt, sm, nu, po, mh, up, lo, li, ro, so, un, to, it, nn, vv, qq, rfl, rfl, hR⟩ := h
  exact ⟨_, rfl⟩
/-- what stands all through the law -/
def LX (p : Program) (s : State) (m : MethodId) (meth : Method) (c : Code) (D : va_G) (k : Nat → ClassId) (t : Nat → Nat) (b L : Nat) (xs : Nat → Int32) : Prop := Cx RL meth.name cL_law 4 ret wsL_law D k t (fun q : Nat => s.heap.size ≤ q) p s m #[Value.ref b] meth c ∧ va_X b L xs s s.heap ∧ b < s.heap.size ∧ L ≤ 3072
/-- the goal at a place of the law's body -/
abbrev LG (p : Program) (l : Launch) (e : Env) (s : State) (m : MethodId) (below : List Frame) (meth : Method) (c : Code) (b : Nat) (H : Heap) (locs : List Loc) (pc : Nat) (ls : Array Slot) (stk : List Value) : Prop := W p l e room_1 s m #[Value.ref b] below meth c H locs 600000 7302250 (lw_Z below #[Value.ref b] s) (F0 m pc ls stk)
/-- both worlds in the heap -/
def LB (s : State) (D : va_G) (k : Nat → ClassId) (ad bd : Nat → Nat) (w1 w2 : va_W) (H : Heap) (locs : List Loc) : Prop := RelW ad bd k w1 w2 ∧ va_P D vwCl (w2 ++ w1) H ∧ va_D (fun q : Nat => s.heap.size ≤ q) (w2 ++ w1) ∧ va_S (fun q : Nat => s.heap.size ≤ q) s.heap H locs
def LV (ls : Array Slot) (b x1 x2 i : Nat) : Prop := lv_has ls 4 [(0, .ref b), (1, .ref x1), (2, .ref x2), (3, .int (nI i))]
