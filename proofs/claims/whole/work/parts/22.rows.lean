/-! ROWS over the frame: a field, an array, a table, each in one row -/
section RW
variable {p : Program} {l : Launch} {e : Env} {R : Room} {s : State} {m : MethodId} {args : Array Value} {below : List Frame} {meth : Method} {c : Code} {H : Heap} {locs : List Loc} {cells slots : Nat} {Q : State → Prop} {own nm : String} {cc : ByteArray} {maxL : Nat} {ret : Option FieldType} {wl : List Cond} {D : va_G} {k : Nat → ClassId} {t : Nat → Nat} {A : Nat → Prop} {ws : va_W} {pc a : Nat} {ls : Array Slot} {rest : List Value}
theorem fg (C : Cx own nm cc maxL ret wl D k t A p s m args meth c) (hP : va_P D vwCl ws H) (q0 : Nat) {ci N index : Nat} {Cn : String} {T : u_T} {fs : List Value} (he : ws[q0]? = some (a, .inr (ci, fs))) (hc : vwCl[ci]? = some (Cn, T, N)) (kf : Nat) (hk : kf < N) (hin : ∀ w ∈ u_ws Cn T N, w ∈ wl) (hlk : Cond.fieldLink own index (T kf).1 (T kf).2.1 (T kf).2.2.1 ∈ wl) {v : Value} (hv : fs[kf]? = some v) (hd : decode cc pc = .ok (.getfield index, 3)) (kk : W p l e R s m args below meth c H locs cells slots Q (F0 m (pc + 3) ls (v :: rest))) : W p l e R s m args below meth c H locs cells slots Q (F0 m pc ls (.ref a :: rest)) :=
  va_get C.1 C.2.1 C.2.2.2.2.2.1 hin C.2.2.2.2.1 C.2.2.2.2.2.2.2.2.1 hP q0 he hc kf hk (C.2.2.2.2.2.1 _ hlk) (fun _ h => h) hv hd kk
theorem fg_N (C : Cx own nm cc maxL ret wl D k t A p s m args meth c) (hP : va_P D vwCl ws H) (q0 : Nat) {ci N index : Nat} {Cn : String} {T : u_T} {fs : List Value} (he : ws[q0]? = some (a, .inr (ci, fs))) (hc : vwCl[ci]? = some (Cn, T, N)) (kf : Nat) (hk : kf < N) (hin : ∀ w ∈ u_ws Cn T N, w ∈ wl) (hlk : va_Nw (.fieldLinkNest own index (T kf).1 (T kf).2.1 (T kf).2.2.1 RX3) s) {v : Value} (hv : fs[kf]? = some v) (hd : decode cc pc = .ok (.getfield index, 3)) (kk : W p l e R s m args below meth c H locs cells slots Q (F0 m (pc + 3) ls (v :: rest))) : W p l e R s m args below meth c H locs cells slots Q (F0 m pc ls (.ref a :: rest)) :=
  va_getN C.1 C.2.1 C.2.2.2.2.2.1 hin C.2.2.2.2.1 C.2.2.2.2.2.2.2.2.1 hP q0 he hc kf hk (va_Nw.use rfl hlk) (fun _ h => h) hv hd kk
theorem fp (C : Cx own nm cc maxL ret wl D k t A p s m args meth c) (hP : va_P D vwCl ws H) (hD : va_D A ws) (hS : va_S A s.heap H locs) {ci N index : Nat} {Cn : String} {T : u_T} {ty0 : Nat → FieldType} (hty : ∀ k, k < N → parseFieldDescriptor (T k).2.2.1 = some (ty0 k)) (hnm : ∀ a, a < N → ∀ b, b < N → a ≠ b → (T a).2.1 ≠ (T b).2.1) (q0 : Nat) {fs : List Value} (he : ws[q0]? = some (a, .inr (ci, fs))) (hc : vwCl[ci]? = some (Cn, T, N)) (kf : Nat) (hk : kf < N) (hin : ∀ w ∈ u_ws Cn T N, w ∈ wl) (hlk : Cond.fieldLink own index (T kf).1 (T kf).2.1 (T kf).2.2.1 ∈ wl) (hfin : (T kf).2.2.2 = false) {ty : FieldType} {v : Value} (hdd : parseFieldDescriptor (T kf).2.2.1 = some ty) (hn : narrow ty v = v) (hfit : fits ty v = true) (hl : kf < fs.length) {ws' : va_W} (hws : ws.set q0 (a, .inr (ci, fs.set kf v)) = ws') (hd : decode cc pc = .ok (.putfield index, 3))
    (kk : ∀ (H1 : Heap) (locs1 : List Loc), va_P D vwCl ws' H1 → va_D A ws' → va_S A s.heap H1 locs1 → W p l e R s m args below meth c H1 locs1 cells slots Q (F0 m (pc + 3) ls rest)) : W p l e R s m args below meth c H locs cells slots Q (F0 m pc ls (v :: .ref a :: rest)) :=
  va_put C.1 C.2.1 C.2.2.2.2.2.1 hin ty0 hty hnm C.2.2.2.2.1 C.2.2.2.2.2.2.2.2.1 hP hD hS q0 he hc kf hk (C.2.2.2.2.2.1 _ hlk) (fun _ h => h) hfin hdd hn hfit hl hd (fun H1 locs1 h1 h2 h3 => kk H1 locs1 (hws ▸ h1) (hws ▸ h2) h3)
theorem ar_i (C : Cx own nm cc maxL ret wl D k t A p s m args meth c) (hP : va_P D vwCl ws H) (q0 : Nat) {n : Nat} {f : Nat → Int32} (ha : ws[q0]? = some (a, .inl (k 0, n, .inl f))) {j : Nat} (hj : j < n) (hn : n < 2 ^ 31) (hd : decode cc pc = .ok (.iaload, 1)) (kk : W p l e R s m args below meth c H locs cells slots Q (F0 m (pc + 1) ls (.int (f j) :: rest))) : W p l e R s m args below meth c H locs cells slots Q (F0 m pc ls (.int (nI j) :: .ref a :: rest)) := by
  refine va_iald C.1 C.2.1 C.2.2.2.2.2.2.2.2.1 hP q0 0 ha rfl (vp_in_nI hj hn) hd ?_
  rw [nI_clamp (Nat.lt_trans hj hn)]
  exact kk
theorem as_i (C : Cx own nm cc maxL ret wl D k t A p s m args meth c) (hP : va_P D vwCl ws H) (hD : va_D A ws) (hS : va_S A s.heap H locs) (q0 : Nat) {n : Nat} {f : Nat → Int32} {x : Int32} (ha : ws[q0]? = some (a, .inl (k 0, n, .inl f))) {j : Nat} (hj : j < n) (hn : n < 2 ^ 31) {ws' : va_W} (hws : ws.set q0 (a, .inl (k 0, n, .inl (upd f j x))) = ws') (hd : decode cc pc = .ok (.iastore, 1)) (kk : ∀ (H1 : Heap) (locs1 : List Loc), va_P D vwCl ws' H1 → va_D A ws' → va_S A s.heap H1 locs1 → W p l e R s m args below meth c H1 locs1 cells slots Q (F0 m (pc + 1) ls rest)) : W p l e R s m args below meth c H locs cells slots Q (F0 m pc ls (.int x :: .int (nI j) :: .ref a :: rest)) := by
  refine va_iast C.1 C.2.1 C.2.2.2.2.2.2.2.2.1 hP hD hS q0 0 ha rfl (vp_in_nI hj hn) hd ?_
  rw [nI_clamp (Nat.lt_trans hj hn), hws]
  exact kk
theorem at_i (hexec : p.tables.exec = Jvm.exec) (hb : c.code = cc) {ta N : Nat} {f : Nat → Int32} (hT : va_T .int ta N (fun j => .int (f j)) A s s.heap) (hS : va_S A s.heap H locs) {j : Nat} (hj : j < N) (hn : N < 2 ^ 31) (hd : decode cc pc = .ok (.iaload, 1)) (kk : W p l e R s m args below meth c H locs cells slots Q (F0 m (pc + 1) ls (.int (f j) :: rest))) : W p l e R s m args below meth c H locs cells slots Q (F0 m pc ls (.int (nI j) :: .ref ta :: rest)) :=
  va_ti hexec hb hT hS (vp_in_nI hj hn) (v := .int (f j)) (by rw [nI_clamp (Nat.lt_trans hj hn)]) hd kk
theorem ar_j (C : Cx own nm cc maxL ret wl D k t A p s m args meth c) (hP : va_P D vwCl ws H) (q0 : Nat) {n : Nat} {f : Nat → Int64} (ha : ws[q0]? = some (a, .inl (k 1, n, .inr (.inl f)))) {j : Nat} (hj : j < n) (hn : n < 2 ^ 31) (hd : decode cc pc = .ok (.laload, 1)) (kk : W p l e R s m args below meth c H locs cells slots Q (F0 m (pc + 1) ls (.long (f j) :: rest))) : W p l e R s m args below meth c H locs cells slots Q (F0 m pc ls (.int (nI j) :: .ref a :: rest)) := by
  refine va_lald C.1 C.2.1 C.2.2.2.2.2.2.2.2.1 hP q0 1 ha rfl (vp_in_nI hj hn) hd ?_
  rw [nI_clamp (Nat.lt_trans hj hn)]
  exact kk
theorem as_j (C : Cx own nm cc maxL ret wl D k t A p s m args meth c) (hP : va_P D vwCl ws H) (hD : va_D A ws) (hS : va_S A s.heap H locs) (q0 : Nat) {n : Nat} {f : Nat → Int64} {x : Int64} (ha : ws[q0]? = some (a, .inl (k 1, n, .inr (.inl f)))) {j : Nat} (hj : j < n) (hn : n < 2 ^ 31) {ws' : va_W} (hws : ws.set q0 (a, .inl (k 1, n, .inr (.inl (vp_updL f j x)))) = ws') (hd : decode cc pc = .ok (.lastore, 1)) (kk : ∀ (H1 : Heap) (locs1 : List Loc), va_P D vwCl ws' H1 → va_D A ws' → va_S A s.heap H1 locs1 → W p l e R s m args below meth c H1 locs1 cells slots Q (F0 m (pc + 1) ls rest)) : W p l e R s m args below meth c H locs cells slots Q (F0 m pc ls (.long x :: .int (nI j) :: .ref a :: rest)) := by
  refine va_last C.1 C.2.1 C.2.2.2.2.2.2.2.2.1 hP hD hS q0 1 ha rfl (vp_in_nI hj hn) hd ?_
  rw [nI_clamp (Nat.lt_trans hj hn), hws]
  exact kk
theorem at_j (hexec : p.tables.exec = Jvm.exec) (hb : c.code = cc) {ta N : Nat} {f : Nat → Int64} (hT : va_T .long ta N (fun j => .long (f j)) A s s.heap) (hS : va_S A s.heap H locs) {j : Nat} (hj : j < N) (hn : N < 2 ^ 31) (hd : decode cc pc = .ok (.laload, 1)) (kk : W p l e R s m args below meth c H locs cells slots Q (F0 m (pc + 1) ls (.long (f j) :: rest))) : W p l e R s m args below meth c H locs cells slots Q (F0 m pc ls (.int (nI j) :: .ref ta :: rest)) :=
  va_tl hexec hb hT hS (vp_in_nI hj hn) (v := .long (f j)) (by rw [nI_clamp (Nat.lt_trans hj hn)]) hd kk
theorem ar_q (C : Cx own nm cc maxL ret wl D k t A p s m args meth c) (hP : va_P D vwCl ws H) (q0 : Nat) {n : Nat} {f : Nat → Option Nat} (ha : ws[q0]? = some (a, .inl (k 2, n, .inr (.inr (.inr (.inr f)))))) {j : Nat} {v : Value} (hv : va_rf (f j) = v) (hj : j < n) (hn : n < 2 ^ 31) (hd : decode cc pc = .ok (.aaload, 1)) (kk : W p l e R s m args below meth c H locs cells slots Q (F0 m (pc + 1) ls (v :: rest))) : W p l e R s m args below meth c H locs cells slots Q (F0 m pc ls (.int (nI j) :: .ref a :: rest)) := by
  refine va_aldq C.1 C.2.1 C.2.2.2.2.2.2.2.2.1 hP q0 2 ha rfl (vp_in_nI hj hn) hd ?_
  rw [nI_clamp (Nat.lt_trans hj hn), hv]
  exact kk
theorem ar_r (C : Cx own nm cc maxL ret wl D k t A p s m args meth c) (hP : va_P D vwCl ws H) (q0 : Nat) {n : Nat} {f : Nat → Option Nat} (ha : ws[q0]? = some (a, .inl (k 3, n, .inr (.inr (.inr (.inr f)))))) {j : Nat} {v : Value} (hv : va_rf (f j) = v) (hj : j < n) (hn : n < 2 ^ 31) (hd : decode cc pc = .ok (.aaload, 1)) (kk : W p l e R s m args below meth c H locs cells slots Q (F0 m (pc + 1) ls (v :: rest))) : W p l e R s m args below meth c H locs cells slots Q (F0 m pc ls (.int (nI j) :: .ref a :: rest)) := by
  refine fw_aldr C.1 C.2.1 C.2.2.2.2.2.2.2.2.1 hP q0 3 ha rfl (vp_in_nI hj hn) hd ?_
  rw [nI_clamp (Nat.lt_trans hj hn), hv]
  exact kk
end RW
theorem tb_w2 {ad : Nat → Nat} {k : Nat → ClassId} {N : Nat → Int32} {S Wt L : Nat → Nat → Int32} {T : Nat → Int32} {G : Nat → Nat → Int64} {E : Nat → Int32} {su pa tr sh : Nat → Int32} {pv : Int32} {g : Nat} {z : Int32} (h : g < 4) : (TBw ad k (upd N g z) S Wt L T G E su pa tr sh pv)[2 + 3 * g]? = some (ad (2 + 3 * g), .inr (2, [.ref (ad (3 + 3 * g)), .ref (ad (4 + 3 * g)), .int z])) := match g, h with
  | 0, _ => rfl
  | 1, _ => rfl
  | 2, _ => rfl
  | 3, _ => rfl
theorem tb_w2_st {ad : Nat → Nat} {k : Nat → ClassId} {N : Nat → Int32} {S Wt L : Nat → Nat → Int32} {T : Nat → Int32} {G : Nat → Nat → Int64} {E : Nat → Int32} {su pa tr sh : Nat → Int32} {pv : Int32} {g : Nat} {z : Int32} (h : g < 4) (x : Int32) : (TBw ad k (upd N g z) S Wt L T G E su pa tr sh pv).set (2 + 3 * g) (ad (2 + 3 * g), .inr (2, [.ref (ad (3 + 3 * g)), .ref (ad (4 + 3 * g)), .int x])) = TBw ad k (upd N g x) S Wt L T G E su pa tr sh pv := match g, h with
  | 0, _ => rfl
  | 1, _ => rfl
  | 2, _ => rfl
  | 3, _ => rfl
theorem tb_s2 {ad : Nat → Nat} {k : Nat → ClassId} {N : Nat → Int32} {S Wt L : Nat → Nat → Int32} {T : Nat → Int32} {G : Nat → Nat → Int64} {E : Nat → Int32} {su pa tr sh : Nat → Int32} {pv : Int32} {g : Nat} {z : Nat → Int32} (h : g < 4) : (TBw ad k N (va_up S g z) Wt L T G E su pa tr sh pv)[3 + 3 * g]? = some (ad (3 + 3 * g), .inl (k 0, 3, .inl z)) := match g, h with
  | 0, _ => rfl
  | 1, _ => rfl
  | 2, _ => rfl
  | 3, _ => rfl
theorem tb_s2_st {ad : Nat → Nat} {k : Nat → ClassId} {N : Nat → Int32} {S Wt L : Nat → Nat → Int32} {T : Nat → Int32} {G : Nat → Nat → Int64} {E : Nat → Int32} {su pa tr sh : Nat → Int32} {pv : Int32} {g : Nat} {z : Nat → Int32} (h : g < 4) (x : Nat → Int32) : (TBw ad k N (va_up S g z) Wt L T G E su pa tr sh pv).set (3 + 3 * g) (ad (3 + 3 * g), .inl (k 0, 3, .inl x)) = TBw ad k N (va_up S g x) Wt L T G E su pa tr sh pv := match g, h with
  | 0, _ => rfl
  | 1, _ => rfl
  | 2, _ => rfl
  | 3, _ => rfl
theorem tb_v2 {ad : Nat → Nat} {k : Nat → ClassId} {N : Nat → Int32} {S Wt L : Nat → Nat → Int32} {T : Nat → Int32} {G : Nat → Nat → Int64} {E : Nat → Int32} {su pa tr sh : Nat → Int32} {pv : Int32} {g : Nat} {z : Nat → Int32} (h : g < 4) : (TBw ad k N S (va_up Wt g z) L T G E su pa tr sh pv)[4 + 3 * g]? = some (ad (4 + 3 * g), .inl (k 0, 27, .inl z)) := match g, h with
  | 0, _ => rfl
  | 1, _ => rfl
  | 2, _ => rfl
  | 3, _ => rfl
theorem tb_v2_st {ad : Nat → Nat} {k : Nat → ClassId} {N : Nat → Int32} {S Wt L : Nat → Nat → Int32} {T : Nat → Int32} {G : Nat → Nat → Int64} {E : Nat → Int32} {su pa tr sh : Nat → Int32} {pv : Int32} {g : Nat} {z : Nat → Int32} (h : g < 4) (x : Nat → Int32) : (TBw ad k N S (va_up Wt g z) L T G E su pa tr sh pv).set (4 + 3 * g) (ad (4 + 3 * g), .inl (k 0, 27, .inl x)) = TBw ad k N S (va_up Wt g x) L T G E su pa tr sh pv := match g, h with
  | 0, _ => rfl
  | 1, _ => rfl
  | 2, _ => rfl
  | 3, _ => rfl
theorem tb_l2 {ad : Nat → Nat} {k : Nat → ClassId} {N : Nat → Int32} {S Wt L : Nat → Nat → Int32} {T : Nat → Int32} {G : Nat → Nat → Int64} {E : Nat → Int32} {su pa tr sh : Nat → Int32} {pv : Int32} {j : Nat} {z : Nat → Int32} (h : j < 10) : (TBw ad k N S Wt (va_up L j z) T G E su pa tr sh pv)[15 + j]? = some (ad (15 + j), .inl (k 0, 8, .inl z)) := match j, h with
  | 0, _ => rfl
  | 1, _ => rfl
  | 2, _ => rfl
  | 3, _ => rfl
  | 4, _ => rfl
  | 5, _ => rfl
  | 6, _ => rfl
  | 7, _ => rfl
  | 8, _ => rfl
  | 9, _ => rfl
theorem tb_l2_st {ad : Nat → Nat} {k : Nat → ClassId} {N : Nat → Int32} {S Wt L : Nat → Nat → Int32} {T : Nat → Int32} {G : Nat → Nat → Int64} {E : Nat → Int32} {su pa tr sh : Nat → Int32} {pv : Int32} {j : Nat} {z : Nat → Int32} (h : j < 10) (x : Nat → Int32) : (TBw ad k N S Wt (va_up L j z) T G E su pa tr sh pv).set (15 + j) (ad (15 + j), .inl (k 0, 8, .inl x)) = TBw ad k N S Wt (va_up L j x) T G E su pa tr sh pv := match j, h with
  | 0, _ => rfl
  | 1, _ => rfl
  | 2, _ => rfl
  | 3, _ => rfl
  | 4, _ => rfl
  | 5, _ => rfl
  | 6, _ => rfl
  | 7, _ => rfl
  | 8, _ => rfl
  | 9, _ => rfl
theorem tb_e2 {ad : Nat → Nat} {k : Nat → ClassId} {N : Nat → Int32} {S Wt L : Nat → Nat → Int32} {T : Nat → Int32} {G : Nat → Nat → Int64} {E : Nat → Int32} {su pa tr sh : Nat → Int32} {pv : Int32} {u : Nat} {z : Int32} (h : u < 2) : (TBw ad k N S Wt L T G (upd E u z) su pa tr sh pv)[27 + 2 * u]? = some (ad (27 + 2 * u), .inr (1, [.ref (ad (28 + 2 * u)), .int z])) := match u, h with
  | 0, _ => rfl
  | 1, _ => rfl
theorem tb_e2_st {ad : Nat → Nat} {k : Nat → ClassId} {N : Nat → Int32} {S Wt L : Nat → Nat → Int32} {T : Nat → Int32} {G : Nat → Nat → Int64} {E : Nat → Int32} {su pa tr sh : Nat → Int32} {pv : Int32} {u : Nat} {z : Int32} (h : u < 2) (x : Int32) : (TBw ad k N S Wt L T G (upd E u z) su pa tr sh pv).set (27 + 2 * u) (ad (27 + 2 * u), .inr (1, [.ref (ad (28 + 2 * u)), .int x])) = TBw ad k N S Wt L T G (upd E u x) su pa tr sh pv := match u, h with
  | 0, _ => rfl
  | 1, _ => rfl
theorem tb_d2 {ad : Nat → Nat} {k : Nat → ClassId} {N : Nat → Int32} {S Wt L : Nat → Nat → Int32} {T : Nat → Int32} {G : Nat → Nat → Int64} {E : Nat → Int32} {su pa tr sh : Nat → Int32} {pv : Int32} {u : Nat} {z : Nat → Int64} (h : u < 2) : (TBw ad k N S Wt L T (va_up G u z) E su pa tr sh pv)[28 + 2 * u]? = some (ad (28 + 2 * u), .inl (k 1, 1024, .inr (.inl z))) := match u, h with
  | 0, _ => rfl
  | 1, _ => rfl
theorem tb_d2_st {ad : Nat → Nat} {k : Nat → ClassId} {N : Nat → Int32} {S Wt L : Nat → Nat → Int32} {T : Nat → Int32} {G : Nat → Nat → Int64} {E : Nat → Int32} {su pa tr sh : Nat → Int32} {pv : Int32} {u : Nat} {z : Nat → Int64} (h : u < 2) (x : Nat → Int64) : (TBw ad k N S Wt L T (va_up G u z) E su pa tr sh pv).set (28 + 2 * u) (ad (28 + 2 * u), .inl (k 1, 1024, .inr (.inl x))) = TBw ad k N S Wt L T (va_up G u x) E su pa tr sh pv := match u, h with
  | 0, _ => rfl
  | 1, _ => rfl
theorem hdX0_init : yX0_init.cls ≠ "java/lang/invoke/MethodHandle" ∧ yX0_init.cls ≠ "java/lang/invoke/VarHandle" ∧ (parseMethodDescriptor yX0_init.desc).map (fun d => d.parameters.length) = some 0 := by decide +kernel
theorem hdX0_initC : yX0_init.cls = RX0 ∧ yX0_init.cls ≠ "java/lang/invoke/MethodHandle" ∧ yX0_init.cls ≠ "java/lang/invoke/VarHandle" ∧ (parseMethodDescriptor yX0_init.desc).map (fun d => d.parameters.length) = some 0 := ⟨rfl, hdX0_init⟩
theorem hdX0_clear : yX0_clear.cls ≠ "java/lang/invoke/MethodHandle" ∧ yX0_clear.cls ≠ "java/lang/invoke/VarHandle" ∧ (parseMethodDescriptor yX0_clear.desc).map (fun d => d.parameters.length) = some 0 := by decide +kernel
theorem hdX0_clearC : yX0_clear.cls = RX0 ∧ yX0_clear.cls ≠ "java/lang/invoke/MethodHandle" ∧ yX0_clear.cls ≠ "java/lang/invoke/VarHandle" ∧ (parseMethodDescriptor yX0_clear.desc).map (fun d => d.parameters.length) = some 0 := ⟨rfl, hdX0_clear⟩
theorem hdX0_addLog : yX0_addLog.cls ≠ "java/lang/invoke/MethodHandle" ∧ yX0_addLog.cls ≠ "java/lang/invoke/VarHandle" ∧ (parseMethodDescriptor yX0_addLog.desc).map (fun d => d.parameters.length) = some 2 := by decide +kernel
theorem hdX0_addLogC : yX0_addLog.cls = RX0 ∧ yX0_addLog.cls ≠ "java/lang/invoke/MethodHandle" ∧ yX0_addLog.cls ≠ "java/lang/invoke/VarHandle" ∧ (parseMethodDescriptor yX0_addLog.desc).map (fun d => d.parameters.length) = some 2 := ⟨rfl, hdX0_addLog⟩
theorem hdX0_isNought : yX0_isNought.cls ≠ "java/lang/invoke/MethodHandle" ∧ yX0_isNought.cls ≠ "java/lang/invoke/VarHandle" ∧ (parseMethodDescriptor yX0_isNought.desc).map (fun d => d.parameters.length) = some 0 := by decide +kernel
theorem hdX0_isNoughtC : yX0_isNought.cls = RX0 ∧ yX0_isNought.cls ≠ "java/lang/invoke/MethodHandle" ∧ yX0_isNought.cls ≠ "java/lang/invoke/VarHandle" ∧ (parseMethodDescriptor yX0_isNought.desc).map (fun d => d.parameters.length) = some 0 := ⟨rfl, hdX0_isNought⟩
theorem hdX0_signOfSum : yX0_signOfSum.cls ≠ "java/lang/invoke/MethodHandle" ∧ yX0_signOfSum.cls ≠ "java/lang/invoke/VarHandle" ∧ (parseMethodDescriptor yX0_signOfSum.desc).map (fun d => d.parameters.length) = some 0 := by decide +kernel
theorem hdX0_signOfSumC : yX0_signOfSum.cls = RX0 ∧ yX0_signOfSum.cls ≠ "java/lang/invoke/MethodHandle" ∧ yX0_signOfSum.cls ≠ "java/lang/invoke/VarHandle" ∧ (parseMethodDescriptor yX0_signOfSum.desc).map (fun d => d.parameters.length) = some 0 := ⟨rfl, hdX0_signOfSum⟩
theorem hdX0_signOfProducts : yX0_signOfProducts.cls ≠ "java/lang/invoke/MethodHandle" ∧ yX0_signOfProducts.cls ≠ "java/lang/invoke/VarHandle" ∧ (parseMethodDescriptor yX0_signOfProducts.desc).map (fun d => d.parameters.length) = some 0 := by decide +kernel
theorem hdX0_signOfProductsC : yX0_signOfProducts.cls = RX0 ∧ yX0_signOfProducts.cls ≠ "java/lang/invoke/MethodHandle" ∧ yX0_signOfProducts.cls ≠ "java/lang/invoke/VarHandle" ∧ (parseMethodDescriptor yX0_signOfProducts.desc).map (fun d => d.parameters.length) = some 0 := ⟨rfl, hdX0_signOfProducts⟩
theorem hdX1_init : yX1_init.cls ≠ "java/lang/invoke/MethodHandle" ∧ yX1_init.cls ≠ "java/lang/invoke/VarHandle" ∧ (parseMethodDescriptor yX1_init.desc).map (fun d => d.parameters.length) = some 0 := by decide +kernel
theorem hdX1_initC : yX1_init.cls = RX1 ∧ yX1_init.cls ≠ "java/lang/invoke/MethodHandle" ∧ yX1_init.cls ≠ "java/lang/invoke/VarHandle" ∧ (parseMethodDescriptor yX1_init.desc).map (fun d => d.parameters.length) = some 0 := ⟨rfl, hdX1_init⟩
theorem hdX1_becomeOne : yX1_becomeOne.cls ≠ "java/lang/invoke/MethodHandle" ∧ yX1_becomeOne.cls ≠ "java/lang/invoke/VarHandle" ∧ (parseMethodDescriptor yX1_becomeOne.desc).map (fun d => d.parameters.length) = some 0 := by decide +kernel
theorem hdX1_becomeOneC : yX1_becomeOne.cls = RX1 ∧ yX1_becomeOne.cls ≠ "java/lang/invoke/MethodHandle" ∧ yX1_becomeOne.cls ≠ "java/lang/invoke/VarHandle" ∧ (parseMethodDescriptor yX1_becomeOne.desc).map (fun d => d.parameters.length) = some 0 := ⟨rfl, hdX1_becomeOne⟩
theorem hdX1_multiplyByPower : yX1_multiplyByPower.cls ≠ "java/lang/invoke/MethodHandle" ∧ yX1_multiplyByPower.cls ≠ "java/lang/invoke/VarHandle" ∧ (parseMethodDescriptor yX1_multiplyByPower.desc).map (fun d => d.parameters.length) = some 2 := by decide +kernel
theorem hdX1_multiplyByPowerC : yX1_multiplyByPower.cls = RX1 ∧ yX1_multiplyByPower.cls ≠ "java/lang/invoke/MethodHandle" ∧ yX1_multiplyByPower.cls ≠ "java/lang/invoke/VarHandle" ∧ (parseMethodDescriptor yX1_multiplyByPower.desc).map (fun d => d.parameters.length) = some 2 := ⟨rfl, hdX1_multiplyByPower⟩
theorem hdX1_multiplyBy : yX1_multiplyBy.cls ≠ "java/lang/invoke/MethodHandle" ∧ yX1_multiplyBy.cls ≠ "java/lang/invoke/VarHandle" ∧ (parseMethodDescriptor yX1_multiplyBy.desc).map (fun d => d.parameters.length) = some 1 := by decide +kernel
theorem hdX1_multiplyByC : yX1_multiplyBy.cls = RX1 ∧ yX1_multiplyBy.cls ≠ "java/lang/invoke/MethodHandle" ∧ yX1_multiplyBy.cls ≠ "java/lang/invoke/VarHandle" ∧ (parseMethodDescriptor yX1_multiplyBy.desc).map (fun d => d.parameters.length) = some 1 := ⟨rfl, hdX1_multiplyBy⟩
theorem hdX1_against : yX1_against.cls ≠ "java/lang/invoke/MethodHandle" ∧ yX1_against.cls ≠ "java/lang/invoke/VarHandle" ∧ (parseMethodDescriptor yX1_against.desc).map (fun d => d.parameters.length) = some 1 := by decide +kernel
theorem hdX1_againstC : yX1_against.cls = RX1 ∧ yX1_against.cls ≠ "java/lang/invoke/MethodHandle" ∧ yX1_against.cls ≠ "java/lang/invoke/VarHandle" ∧ (parseMethodDescriptor yX1_against.desc).map (fun d => d.parameters.length) = some 1 := ⟨rfl, hdX1_against⟩
theorem hdX2_init : yX2_init.cls ≠ "java/lang/invoke/MethodHandle" ∧ yX2_init.cls ≠ "java/lang/invoke/VarHandle" ∧ (parseMethodDescriptor yX2_init.desc).map (fun d => d.parameters.length) = some 0 := by decide +kernel
theorem hdX2_initC : yX2_init.cls = RX2 ∧ yX2_init.cls ≠ "java/lang/invoke/MethodHandle" ∧ yX2_init.cls ≠ "java/lang/invoke/VarHandle" ∧ (parseMethodDescriptor yX2_init.desc).map (fun d => d.parameters.length) = some 0 := ⟨rfl, hdX2_init⟩
theorem hdX2_isMade : yX2_isMade.cls ≠ "java/lang/invoke/MethodHandle" ∧ yX2_isMade.cls ≠ "java/lang/invoke/VarHandle" ∧ (parseMethodDescriptor yX2_isMade.desc).map (fun d => d.parameters.length) = some 0 := by decide +kernel
theorem hdX2_isMadeC : yX2_isMade.cls = RX2 ∧ yX2_isMade.cls ≠ "java/lang/invoke/MethodHandle" ∧ yX2_isMade.cls ≠ "java/lang/invoke/VarHandle" ∧ (parseMethodDescriptor yX2_isMade.desc).map (fun d => d.parameters.length) = some 0 := ⟨rfl, hdX2_isMade⟩
theorem hdX2_begin : yX2_begin.cls ≠ "java/lang/invoke/MethodHandle" ∧ yX2_begin.cls ≠ "java/lang/invoke/VarHandle" ∧ (parseMethodDescriptor yX2_begin.desc).map (fun d => d.parameters.length) = some 3 := by decide +kernel
theorem hdX2_beginC : yX2_begin.cls = RX2 ∧ yX2_begin.cls ≠ "java/lang/invoke/MethodHandle" ∧ yX2_begin.cls ≠ "java/lang/invoke/VarHandle" ∧ (parseMethodDescriptor yX2_begin.desc).map (fun d => d.parameters.length) = some 3 := ⟨rfl, hdX2_begin⟩
theorem hdX2_hasSetting : yX2_hasSetting.cls ≠ "java/lang/invoke/MethodHandle" ∧ yX2_hasSetting.cls ≠ "java/lang/invoke/VarHandle" ∧ (parseMethodDescriptor yX2_hasSetting.desc).map (fun d => d.parameters.length) = some 3 := by decide +kernel
theorem hdX2_hasSettingC : yX2_hasSetting.cls = RX2 ∧ yX2_hasSetting.cls ≠ "java/lang/invoke/MethodHandle" ∧ yX2_hasSetting.cls ≠ "java/lang/invoke/VarHandle" ∧ (parseMethodDescriptor yX2_hasSetting.desc).map (fun d => d.parameters.length) = some 3 := ⟨rfl, hdX2_hasSetting⟩
theorem hdX2_weightOf : yX2_weightOf.cls ≠ "java/lang/invoke/MethodHandle" ∧ yX2_weightOf.cls ≠ "java/lang/invoke/VarHandle" ∧ (parseMethodDescriptor yX2_weightOf.desc).map (fun d => d.parameters.length) = some 1 := by decide +kernel
theorem hdX2_weightOfC : yX2_weightOf.cls = RX2 ∧ yX2_weightOf.cls ≠ "java/lang/invoke/MethodHandle" ∧ yX2_weightOf.cls ≠ "java/lang/invoke/VarHandle" ∧ (parseMethodDescriptor yX2_weightOf.desc).map (fun d => d.parameters.length) = some 1 := ⟨rfl, hdX2_weightOf⟩
theorem hdX2_hasStatesOf : yX2_hasStatesOf.cls ≠ "java/lang/invoke/MethodHandle" ∧ yX2_hasStatesOf.cls ≠ "java/lang/invoke/VarHandle" ∧ (parseMethodDescriptor yX2_hasStatesOf.desc).map (fun d => d.parameters.length) = some 1 := by decide +kernel
theorem hdX2_hasStatesOfC : yX2_hasStatesOf.cls = RX2 ∧ yX2_hasStatesOf.cls ≠ "java/lang/invoke/MethodHandle" ∧ yX2_hasStatesOf.cls ≠ "java/lang/invoke/VarHandle" ∧ (parseMethodDescriptor yX2_hasStatesOf.desc).map (fun d => d.parameters.length) = some 1 := ⟨rfl, hdX2_hasStatesOf⟩
theorem hdX2_put : yX2_put.cls ≠ "java/lang/invoke/MethodHandle" ∧ yX2_put.cls ≠ "java/lang/invoke/VarHandle" ∧ (parseMethodDescriptor yX2_put.desc).map (fun d => d.parameters.length) = some 2 := by decide +kernel
theorem hdX2_putC : yX2_put.cls = RX2 ∧ yX2_put.cls ≠ "java/lang/invoke/MethodHandle" ∧ yX2_put.cls ≠ "java/lang/invoke/VarHandle" ∧ (parseMethodDescriptor yX2_put.desc).map (fun d => d.parameters.length) = some 2 := ⟨rfl, hdX2_put⟩
theorem hdX2_becomeMixOf : yX2_becomeMixOf.cls ≠ "java/lang/invoke/MethodHandle" ∧ yX2_becomeMixOf.cls ≠ "java/lang/invoke/VarHandle" ∧ (parseMethodDescriptor yX2_becomeMixOf.desc).map (fun d => d.parameters.length) = some 2 := by decide +kernel
theorem hdX2_becomeMixOfC : yX2_becomeMixOf.cls = RX2 ∧ yX2_becomeMixOf.cls ≠ "java/lang/invoke/MethodHandle" ∧ yX2_becomeMixOf.cls ≠ "java/lang/invoke/VarHandle" ∧ (parseMethodDescriptor yX2_becomeMixOf.desc).map (fun d => d.parameters.length) = some 2 := ⟨rfl, hdX2_becomeMixOf⟩
theorem hdX2_gather : yX2_gather.cls ≠ "java/lang/invoke/MethodHandle" ∧ yX2_gather.cls ≠ "java/lang/invoke/VarHandle" ∧ (parseMethodDescriptor yX2_gather.desc).map (fun d => d.parameters.length) = some 2 := by decide +kernel
theorem hdX2_gatherC : yX2_gather.cls = RX2 ∧ yX2_gather.cls ≠ "java/lang/invoke/MethodHandle" ∧ yX2_gather.cls ≠ "java/lang/invoke/VarHandle" ∧ (parseMethodDescriptor yX2_gather.desc).map (fun d => d.parameters.length) = some 2 := ⟨rfl, hdX2_gather⟩
theorem hdX2_spreadByRule : yX2_spreadByRule.cls ≠ "java/lang/invoke/MethodHandle" ∧ yX2_spreadByRule.cls ≠ "java/lang/invoke/VarHandle" ∧ (parseMethodDescriptor yX2_spreadByRule.desc).map (fun d => d.parameters.length) = some 2 := by decide +kernel
theorem hdX2_spreadByRuleC : yX2_spreadByRule.cls = RX2 ∧ yX2_spreadByRule.cls ≠ "java/lang/invoke/MethodHandle" ∧ yX2_spreadByRule.cls ≠ "java/lang/invoke/VarHandle" ∧ (parseMethodDescriptor yX2_spreadByRule.desc).map (fun d => d.parameters.length) = some 2 := ⟨rfl, hdX2_spreadByRule⟩
theorem hdX3_init : yX3_init.cls ≠ "java/lang/invoke/MethodHandle" ∧ yX3_init.cls ≠ "java/lang/invoke/VarHandle" ∧ (parseMethodDescriptor yX3_init.desc).map (fun d => d.parameters.length) = some 0 := by decide +kernel
theorem hdX3_initC : yX3_init.cls = RX3 ∧ yX3_init.cls ≠ "java/lang/invoke/MethodHandle" ∧ yX3_init.cls ≠ "java/lang/invoke/VarHandle" ∧ (parseMethodDescriptor yX3_init.desc).map (fun d => d.parameters.length) = some 0 := ⟨rfl, hdX3_init⟩
theorem hdX3_world : yX3_world.cls ≠ "java/lang/invoke/MethodHandle" ∧ yX3_world.cls ≠ "java/lang/invoke/VarHandle" ∧ (parseMethodDescriptor yX3_world.desc).map (fun d => d.parameters.length) = some 4 := by decide +kernel
theorem hdX3_worldC : yX3_world.cls = RX3 ∧ yX3_world.cls ≠ "java/lang/invoke/MethodHandle" ∧ yX3_world.cls ≠ "java/lang/invoke/VarHandle" ∧ (parseMethodDescriptor yX3_world.desc).map (fun d => d.parameters.length) = some 4 := ⟨rfl, hdX3_world⟩
theorem hdX3_weight : yX3_weight.cls ≠ "java/lang/invoke/MethodHandle" ∧ yX3_weight.cls ≠ "java/lang/invoke/VarHandle" ∧ (parseMethodDescriptor yX3_weight.desc).map (fun d => d.parameters.length) = some 5 := by decide +kernel
theorem hdX3_weightC : yX3_weight.cls = RX3 ∧ yX3_weight.cls ≠ "java/lang/invoke/MethodHandle" ∧ yX3_weight.cls ≠ "java/lang/invoke/VarHandle" ∧ (parseMethodDescriptor yX3_weight.desc).map (fun d => d.parameters.length) = some 5 := ⟨rfl, hdX3_weight⟩
theorem hdX3_told : yX3_told.cls ≠ "java/lang/invoke/MethodHandle" ∧ yX3_told.cls ≠ "java/lang/invoke/VarHandle" ∧ (parseMethodDescriptor yX3_told.desc).map (fun d => d.parameters.length) = some 2 := by decide +kernel
theorem hdX3_toldC : yX3_told.cls = RX3 ∧ yX3_told.cls ≠ "java/lang/invoke/MethodHandle" ∧ yX3_told.cls ≠ "java/lang/invoke/VarHandle" ∧ (parseMethodDescriptor yX3_told.desc).map (fun d => d.parameters.length) = some 2 := ⟨rfl, hdX3_told⟩
theorem hdX3_mix : yX3_mix.cls ≠ "java/lang/invoke/MethodHandle" ∧ yX3_mix.cls ≠ "java/lang/invoke/VarHandle" ∧ (parseMethodDescriptor yX3_mix.desc).map (fun d => d.parameters.length) = some 3 := by decide +kernel
theorem hdX3_mixC : yX3_mix.cls = RX3 ∧ yX3_mix.cls ≠ "java/lang/invoke/MethodHandle" ∧ yX3_mix.cls ≠ "java/lang/invoke/VarHandle" ∧ (parseMethodDescriptor yX3_mix.desc).map (fun d => d.parameters.length) = some 3 := ⟨rfl, hdX3_mix⟩
theorem hdX3_tell : yX3_tell.cls ≠ "java/lang/invoke/MethodHandle" ∧ yX3_tell.cls ≠ "java/lang/invoke/VarHandle" ∧ (parseMethodDescriptor yX3_tell.desc).map (fun d => d.parameters.length) = some 2 := by decide +kernel
theorem hdX3_tellC : yX3_tell.cls = RX3 ∧ yX3_tell.cls ≠ "java/lang/invoke/MethodHandle" ∧ yX3_tell.cls ≠ "java/lang/invoke/VarHandle" ∧ (parseMethodDescriptor yX3_tell.desc).map (fun d => d.parameters.length) = some 2 := ⟨rfl, hdX3_tell⟩
theorem hdX3_law : yX3_law.cls ≠ "java/lang/invoke/MethodHandle" ∧ yX3_law.cls ≠ "java/lang/invoke/VarHandle" ∧ (parseMethodDescriptor yX3_law.desc).map (fun d => d.parameters.length) = some 3 := by decide +kernel
theorem hdX3_lawC : yX3_law.cls = RX3 ∧ yX3_law.cls ≠ "java/lang/invoke/MethodHandle" ∧ yX3_law.cls ≠ "java/lang/invoke/VarHandle" ∧ (parseMethodDescriptor yX3_law.desc).map (fun d => d.parameters.length) = some 3 := ⟨rfl, hdX3_law⟩
theorem hdX3_plain : yX3_plain.cls ≠ "java/lang/invoke/MethodHandle" ∧ yX3_plain.cls ≠ "java/lang/invoke/VarHandle" ∧ (parseMethodDescriptor yX3_plain.desc).map (fun d => d.parameters.length) = some 2 := by decide +kernel
theorem hdX3_plainC : yX3_plain.cls = RX3 ∧ yX3_plain.cls ≠ "java/lang/invoke/MethodHandle" ∧ yX3_plain.cls ≠ "java/lang/invoke/VarHandle" ∧ (parseMethodDescriptor yX3_plain.desc).map (fun d => d.parameters.length) = some 2 := ⟨rfl, hdX3_plain⟩
theorem hdX3_number : yX3_number.cls ≠ "java/lang/invoke/MethodHandle" ∧ yX3_number.cls ≠ "java/lang/invoke/VarHandle" ∧ (parseMethodDescriptor yX3_number.desc).map (fun d => d.parameters.length) = some 2 := by decide +kernel
theorem hdX3_numberC : yX3_number.cls = RX3 ∧ yX3_number.cls ≠ "java/lang/invoke/MethodHandle" ∧ yX3_number.cls ≠ "java/lang/invoke/VarHandle" ∧ (parseMethodDescriptor yX3_number.desc).map (fun d => d.parameters.length) = some 2 := ⟨rfl, hdX3_number⟩
theorem hdX3_sign : yX3_sign.cls ≠ "java/lang/invoke/MethodHandle" ∧ yX3_sign.cls ≠ "java/lang/invoke/VarHandle" ∧ (parseMethodDescriptor yX3_sign.desc).map (fun d => d.parameters.length) = some 2 := by decide +kernel
theorem hdX3_signC : yX3_sign.cls = RX3 ∧ yX3_sign.cls ≠ "java/lang/invoke/MethodHandle" ∧ yX3_sign.cls ≠ "java/lang/invoke/VarHandle" ∧ (parseMethodDescriptor yX3_sign.desc).map (fun d => d.parameters.length) = some 2 := ⟨rfl, hdX3_sign⟩
theorem hdX3_compare : yX3_compare.cls ≠ "java/lang/invoke/MethodHandle" ∧ yX3_compare.cls ≠ "java/lang/invoke/VarHandle" ∧ (parseMethodDescriptor yX3_compare.desc).map (fun d => d.parameters.length) = some 4 := by decide +kernel
theorem hdX3_compareC : yX3_compare.cls = RX3 ∧ yX3_compare.cls ≠ "java/lang/invoke/MethodHandle" ∧ yX3_compare.cls ≠ "java/lang/invoke/VarHandle" ∧ (parseMethodDescriptor yX3_compare.desc).map (fun d => d.parameters.length) = some 4 := ⟨rfl, hdX3_compare⟩
theorem hdX3_near : yX3_near.cls ≠ "java/lang/invoke/MethodHandle" ∧ yX3_near.cls ≠ "java/lang/invoke/VarHandle" ∧ (parseMethodDescriptor yX3_near.desc).map (fun d => d.parameters.length) = some 2 := by decide +kernel
theorem hdX3_nearC : yX3_near.cls = RX3 ∧ yX3_near.cls ≠ "java/lang/invoke/MethodHandle" ∧ yX3_near.cls ≠ "java/lang/invoke/VarHandle" ∧ (parseMethodDescriptor yX3_near.desc).map (fun d => d.parameters.length) = some 2 := ⟨rfl, hdX3_near⟩
theorem hdX3_always : yX3_always.cls ≠ "java/lang/invoke/MethodHandle" ∧ yX3_always.cls ≠ "java/lang/invoke/VarHandle" ∧ (parseMethodDescriptor yX3_always.desc).map (fun d => d.parameters.length) = some 2 := by decide +kernel
theorem hdX3_alwaysC : yX3_always.cls = RX3 ∧ yX3_always.cls ≠ "java/lang/invoke/MethodHandle" ∧ yX3_always.cls ≠ "java/lang/invoke/VarHandle" ∧ (parseMethodDescriptor yX3_always.desc).map (fun d => d.parameters.length) = some 2 := ⟨rfl, hdX3_always⟩
theorem hdX3_breaks : yX3_breaks.cls ≠ "java/lang/invoke/MethodHandle" ∧ yX3_breaks.cls ≠ "java/lang/invoke/VarHandle" ∧ (parseMethodDescriptor yX3_breaks.desc).map (fun d => d.parameters.length) = some 2 := by decide +kernel
theorem hdX3_breaksC : yX3_breaks.cls = RX3 ∧ yX3_breaks.cls ≠ "java/lang/invoke/MethodHandle" ∧ yX3_breaks.cls ≠ "java/lang/invoke/VarHandle" ∧ (parseMethodDescriptor yX3_breaks.desc).map (fun d => d.parameters.length) = some 2 := ⟨rfl, hdX3_breaks⟩
theorem hdX3_prove : yX3_prove.cls ≠ "java/lang/invoke/MethodHandle" ∧ yX3_prove.cls ≠ "java/lang/invoke/VarHandle" ∧ (parseMethodDescriptor yX3_prove.desc).map (fun d => d.parameters.length) = some 1 := by decide +kernel
theorem hdX3_proveC : yX3_prove.cls = RX3 ∧ yX3_prove.cls ≠ "java/lang/invoke/MethodHandle" ∧ yX3_prove.cls ≠ "java/lang/invoke/VarHandle" ∧ (parseMethodDescriptor yX3_prove.desc).map (fun d => d.parameters.length) = some 1 := ⟨rfl, hdX3_prove⟩
theorem hdX3_share : yX3_share.cls ≠ "java/lang/invoke/MethodHandle" ∧ yX3_share.cls ≠ "java/lang/invoke/VarHandle" ∧ (parseMethodDescriptor yX3_share.desc).map (fun d => d.parameters.length) = some 2 := by decide +kernel
theorem hdX3_shareC : yX3_share.cls = RX3 ∧ yX3_share.cls ≠ "java/lang/invoke/MethodHandle" ∧ yX3_share.cls ≠ "java/lang/invoke/VarHandle" ∧ (parseMethodDescriptor yX3_share.desc).map (fun d => d.parameters.length) = some 2 := ⟨rfl, hdX3_share⟩
theorem hdX3_mean : yX3_mean.cls ≠ "java/lang/invoke/MethodHandle" ∧ yX3_mean.cls ≠ "java/lang/invoke/VarHandle" ∧ (parseMethodDescriptor yX3_mean.desc).map (fun d => d.parameters.length) = some 2 := by decide +kernel
theorem hdX3_meanC : yX3_mean.cls = RX3 ∧ yX3_mean.cls ≠ "java/lang/invoke/MethodHandle" ∧ yX3_mean.cls ≠ "java/lang/invoke/VarHandle" ∧ (parseMethodDescriptor yX3_mean.desc).map (fun d => d.parameters.length) = some 2 := ⟨rfl, hdX3_mean⟩
theorem hdX3_words : yX3_words.cls ≠ "java/lang/invoke/MethodHandle" ∧ yX3_words.cls ≠ "java/lang/invoke/VarHandle" ∧ (parseMethodDescriptor yX3_words.desc).map (fun d => d.parameters.length) = some 2 := by decide +kernel
theorem hdX3_wordsC : yX3_words.cls = RX3 ∧ yX3_words.cls ≠ "java/lang/invoke/MethodHandle" ∧ yX3_words.cls ≠ "java/lang/invoke/VarHandle" ∧ (parseMethodDescriptor yX3_words.desc).map (fun d => d.parameters.length) = some 2 := ⟨rfl, hdX3_words⟩
theorem hdX3_secret : yX3_secret.cls ≠ "java/lang/invoke/MethodHandle" ∧ yX3_secret.cls ≠ "java/lang/invoke/VarHandle" ∧ (parseMethodDescriptor yX3_secret.desc).map (fun d => d.parameters.length) = some 2 := by decide +kernel
theorem hdX3_secretC : yX3_secret.cls = RX3 ∧ yX3_secret.cls ≠ "java/lang/invoke/MethodHandle" ∧ yX3_secret.cls ≠ "java/lang/invoke/VarHandle" ∧ (parseMethodDescriptor yX3_secret.desc).map (fun d => d.parameters.length) = some 2 := ⟨rfl, hdX3_secret⟩
theorem hdX3_isPlace : yX3_isPlace.cls ≠ "java/lang/invoke/MethodHandle" ∧ yX3_isPlace.cls ≠ "java/lang/invoke/VarHandle" ∧ (parseMethodDescriptor yX3_isPlace.desc).map (fun d => d.parameters.length) = some 1 := by decide +kernel
theorem hdX3_isPlaceC : yX3_isPlace.cls = RX3 ∧ yX3_isPlace.cls ≠ "java/lang/invoke/MethodHandle" ∧ yX3_isPlace.cls ≠ "java/lang/invoke/VarHandle" ∧ (parseMethodDescriptor yX3_isPlace.desc).map (fun d => d.parameters.length) = some 1 := ⟨rfl, hdX3_isPlace⟩
theorem hdX3_isMadePlace : yX3_isMadePlace.cls ≠ "java/lang/invoke/MethodHandle" ∧ yX3_isMadePlace.cls ≠ "java/lang/invoke/VarHandle" ∧ (parseMethodDescriptor yX3_isMadePlace.desc).map (fun d => d.parameters.length) = some 1 := by decide +kernel
theorem hdX3_isMadePlaceC : yX3_isMadePlace.cls = RX3 ∧ yX3_isMadePlace.cls ≠ "java/lang/invoke/MethodHandle" ∧ yX3_isMadePlace.cls ≠ "java/lang/invoke/VarHandle" ∧ (parseMethodDescriptor yX3_isMadePlace.desc).map (fun d => d.parameters.length) = some 1 := ⟨rfl, hdX3_isMadePlace⟩
theorem hdX3_isStateCount : yX3_isStateCount.cls ≠ "java/lang/invoke/MethodHandle" ∧ yX3_isStateCount.cls ≠ "java/lang/invoke/VarHandle" ∧ (parseMethodDescriptor yX3_isStateCount.desc).map (fun d => d.parameters.length) = some 1 := by decide +kernel
theorem hdX3_isStateCountC : yX3_isStateCount.cls = RX3 ∧ yX3_isStateCount.cls ≠ "java/lang/invoke/MethodHandle" ∧ yX3_isStateCount.cls ≠ "java/lang/invoke/VarHandle" ∧ (parseMethodDescriptor yX3_isStateCount.desc).map (fun d => d.parameters.length) = some 1 := ⟨rfl, hdX3_isStateCount⟩
theorem hdX3_isLaw : yX3_isLaw.cls ≠ "java/lang/invoke/MethodHandle" ∧ yX3_isLaw.cls ≠ "java/lang/invoke/VarHandle" ∧ (parseMethodDescriptor yX3_isLaw.desc).map (fun d => d.parameters.length) = some 1 := by decide +kernel
theorem hdX3_isLawC : yX3_isLaw.cls = RX3 ∧ yX3_isLaw.cls ≠ "java/lang/invoke/MethodHandle" ∧ yX3_isLaw.cls ≠ "java/lang/invoke/VarHandle" ∧ (parseMethodDescriptor yX3_isLaw.desc).map (fun d => d.parameters.length) = some 1 := ⟨rfl, hdX3_isLaw⟩
theorem hdX3_isSet : yX3_isSet.cls ≠ "java/lang/invoke/MethodHandle" ∧ yX3_isSet.cls ≠ "java/lang/invoke/VarHandle" ∧ (parseMethodDescriptor yX3_isSet.desc).map (fun d => d.parameters.length) = some 1 := by decide +kernel
theorem hdX3_isSetC : yX3_isSet.cls = RX3 ∧ yX3_isSet.cls ≠ "java/lang/invoke/MethodHandle" ∧ yX3_isSet.cls ≠ "java/lang/invoke/VarHandle" ∧ (parseMethodDescriptor yX3_isSet.desc).map (fun d => d.parameters.length) = some 1 := ⟨rfl, hdX3_isSet⟩
theorem hdX3_isGivens : yX3_isGivens.cls ≠ "java/lang/invoke/MethodHandle" ∧ yX3_isGivens.cls ≠ "java/lang/invoke/VarHandle" ∧ (parseMethodDescriptor yX3_isGivens.desc).map (fun d => d.parameters.length) = some 1 := by decide +kernel
theorem hdX3_isGivensC : yX3_isGivens.cls = RX3 ∧ yX3_isGivens.cls ≠ "java/lang/invoke/MethodHandle" ∧ yX3_isGivens.cls ≠ "java/lang/invoke/VarHandle" ∧ (parseMethodDescriptor yX3_isGivens.desc).map (fun d => d.parameters.length) = some 1 := ⟨rfl, hdX3_isGivens⟩
theorem hdX3_settingOf : yX3_settingOf.cls ≠ "java/lang/invoke/MethodHandle" ∧ yX3_settingOf.cls ≠ "java/lang/invoke/VarHandle" ∧ (parseMethodDescriptor yX3_settingOf.desc).map (fun d => d.parameters.length) = some 3 := by decide +kernel
theorem hdX3_settingOfC : yX3_settingOf.cls = RX3 ∧ yX3_settingOf.cls ≠ "java/lang/invoke/MethodHandle" ∧ yX3_settingOf.cls ≠ "java/lang/invoke/VarHandle" ∧ (parseMethodDescriptor yX3_settingOf.desc).map (fun d => d.parameters.length) = some 3 := ⟨rfl, hdX3_settingOf⟩
theorem hdX3_addLawSum : yX3_addLawSum.cls ≠ "java/lang/invoke/MethodHandle" ∧ yX3_addLawSum.cls ≠ "java/lang/invoke/VarHandle" ∧ (parseMethodDescriptor yX3_addLawSum.desc).map (fun d => d.parameters.length) = some 3 := by decide +kernel
theorem hdX3_addLawSumC : yX3_addLawSum.cls = RX3 ∧ yX3_addLawSum.cls ≠ "java/lang/invoke/MethodHandle" ∧ yX3_addLawSum.cls ≠ "java/lang/invoke/VarHandle" ∧ (parseMethodDescriptor yX3_addLawSum.desc).map (fun d => d.parameters.length) = some 3 := ⟨rfl, hdX3_addLawSum⟩
theorem hdX3_addDoubt : yX3_addDoubt.cls ≠ "java/lang/invoke/MethodHandle" ∧ yX3_addDoubt.cls ≠ "java/lang/invoke/VarHandle" ∧ (parseMethodDescriptor yX3_addDoubt.desc).map (fun d => d.parameters.length) = some 3 := by decide +kernel
theorem hdX3_addDoubtC : yX3_addDoubt.cls = RX3 ∧ yX3_addDoubt.cls ≠ "java/lang/invoke/MethodHandle" ∧ yX3_addDoubt.cls ≠ "java/lang/invoke/VarHandle" ∧ (parseMethodDescriptor yX3_addDoubt.desc).map (fun d => d.parameters.length) = some 3 := ⟨rfl, hdX3_addDoubt⟩
theorem hdX3_firstBreakingRow : yX3_firstBreakingRow.cls ≠ "java/lang/invoke/MethodHandle" ∧ yX3_firstBreakingRow.cls ≠ "java/lang/invoke/VarHandle" ∧ (parseMethodDescriptor yX3_firstBreakingRow.desc).map (fun d => d.parameters.length) = some 2 := by decide +kernel
theorem hdX3_firstBreakingRowC : yX3_firstBreakingRow.cls = RX3 ∧ yX3_firstBreakingRow.cls ≠ "java/lang/invoke/MethodHandle" ∧ yX3_firstBreakingRow.cls ≠ "java/lang/invoke/VarHandle" ∧ (parseMethodDescriptor yX3_firstBreakingRow.desc).map (fun d => d.parameters.length) = some 2 := ⟨rfl, hdX3_firstBreakingRow⟩
theorem hdX3_keepsGivens : yX3_keepsGivens.cls ≠ "java/lang/invoke/MethodHandle" ∧ yX3_keepsGivens.cls ≠ "java/lang/invoke/VarHandle" ∧ (parseMethodDescriptor yX3_keepsGivens.desc).map (fun d => d.parameters.length) = some 2 := by decide +kernel
theorem hdX3_keepsGivensC : yX3_keepsGivens.cls = RX3 ∧ yX3_keepsGivens.cls ≠ "java/lang/invoke/MethodHandle" ∧ yX3_keepsGivens.cls ≠ "java/lang/invoke/VarHandle" ∧ (parseMethodDescriptor yX3_keepsGivens.desc).map (fun d => d.parameters.length) = some 2 := ⟨rfl, hdX3_keepsGivens⟩
theorem hdX3_sumByRow : yX3_sumByRow.cls ≠ "java/lang/invoke/MethodHandle" ∧ yX3_sumByRow.cls ≠ "java/lang/invoke/VarHandle" ∧ (parseMethodDescriptor yX3_sumByRow.desc).map (fun d => d.parameters.length) = some 3 := by decide +kernel
theorem hdX3_sumByRowC : yX3_sumByRow.cls = RX3 ∧ yX3_sumByRow.cls ≠ "java/lang/invoke/MethodHandle" ∧ yX3_sumByRow.cls ≠ "java/lang/invoke/VarHandle" ∧ (parseMethodDescriptor yX3_sumByRow.desc).map (fun d => d.parameters.length) = some 3 := ⟨rfl, hdX3_sumByRow⟩
theorem hdX3_splitIntoParts : yX3_splitIntoParts.cls ≠ "java/lang/invoke/MethodHandle" ∧ yX3_splitIntoParts.cls ≠ "java/lang/invoke/VarHandle" ∧ (parseMethodDescriptor yX3_splitIntoParts.desc).map (fun d => d.parameters.length) = some 1 := by decide +kernel
theorem hdX3_splitIntoPartsC : yX3_splitIntoParts.cls = RX3 ∧ yX3_splitIntoParts.cls ≠ "java/lang/invoke/MethodHandle" ∧ yX3_splitIntoParts.cls ≠ "java/lang/invoke/VarHandle" ∧ (parseMethodDescriptor yX3_splitIntoParts.desc).map (fun d => d.parameters.length) = some 1 := ⟨rfl, hdX3_splitIntoParts⟩
theorem hdX3_leavesOneRow : yX3_leavesOneRow.cls ≠ "java/lang/invoke/MethodHandle" ∧ yX3_leavesOneRow.cls ≠ "java/lang/invoke/VarHandle" ∧ (parseMethodDescriptor yX3_leavesOneRow.desc).map (fun d => d.parameters.length) = some 2 := by decide +kernel
theorem hdX3_leavesOneRowC : yX3_leavesOneRow.cls = RX3 ∧ yX3_leavesOneRow.cls ≠ "java/lang/invoke/MethodHandle" ∧ yX3_leavesOneRow.cls ≠ "java/lang/invoke/VarHandle" ∧ (parseMethodDescriptor yX3_leavesOneRow.desc).map (fun d => d.parameters.length) = some 2 := ⟨rfl, hdX3_leavesOneRow⟩
theorem hdX3_tryWithout : yX3_tryWithout.cls ≠ "java/lang/invoke/MethodHandle" ∧ yX3_tryWithout.cls ≠ "java/lang/invoke/VarHandle" ∧ (parseMethodDescriptor yX3_tryWithout.desc).map (fun d => d.parameters.length) = some 2 := by decide +kernel
theorem hdX3_tryWithoutC : yX3_tryWithout.cls = RX3 ∧ yX3_tryWithout.cls ≠ "java/lang/invoke/MethodHandle" ∧ yX3_tryWithout.cls ≠ "java/lang/invoke/VarHandle" ∧ (parseMethodDescriptor yX3_tryWithout.desc).map (fun d => d.parameters.length) = some 2 := ⟨rfl, hdX3_tryWithout⟩
theorem hdX3_noneIsBelowNought : yX3_noneIsBelowNought.cls ≠ "java/lang/invoke/MethodHandle" ∧ yX3_noneIsBelowNought.cls ≠ "java/lang/invoke/VarHandle" ∧ (parseMethodDescriptor yX3_noneIsBelowNought.desc).map (fun d => d.parameters.length) = some 1 := by decide +kernel
theorem hdX3_noneIsBelowNoughtC : yX3_noneIsBelowNought.cls = RX3 ∧ yX3_noneIsBelowNought.cls ≠ "java/lang/invoke/MethodHandle" ∧ yX3_noneIsBelowNought.cls ≠ "java/lang/invoke/VarHandle" ∧ (parseMethodDescriptor yX3_noneIsBelowNought.desc).map (fun d => d.parameters.length) = some 1 := ⟨rfl, hdX3_noneIsBelowNought⟩
theorem hdX3_keepAboveNought : yX3_keepAboveNought.cls ≠ "java/lang/invoke/MethodHandle" ∧ yX3_keepAboveNought.cls ≠ "java/lang/invoke/VarHandle" ∧ (parseMethodDescriptor yX3_keepAboveNought.desc).map (fun d => d.parameters.length) = some 0 := by decide +kernel
theorem hdX3_keepAboveNoughtC : yX3_keepAboveNought.cls = RX3 ∧ yX3_keepAboveNought.cls ≠ "java/lang/invoke/MethodHandle" ∧ yX3_keepAboveNought.cls ≠ "java/lang/invoke/VarHandle" ∧ (parseMethodDescriptor yX3_keepAboveNought.desc).map (fun d => d.parameters.length) = some 0 := ⟨rfl, hdX3_keepAboveNought⟩
theorem hdX3_leastMean : yX3_leastMean.cls ≠ "java/lang/invoke/MethodHandle" ∧ yX3_leastMean.cls ≠ "java/lang/invoke/VarHandle" ∧ (parseMethodDescriptor yX3_leastMean.desc).map (fun d => d.parameters.length) = some 1 := by decide +kernel
theorem hdX3_leastMeanC : yX3_leastMean.cls = RX3 ∧ yX3_leastMean.cls ≠ "java/lang/invoke/MethodHandle" ∧ yX3_leastMean.cls ≠ "java/lang/invoke/VarHandle" ∧ (parseMethodDescriptor yX3_leastMean.desc).map (fun d => d.parameters.length) = some 1 := ⟨rfl, hdX3_leastMean⟩
theorem hdX3_moveLeastToEnd : yX3_moveLeastToEnd.cls ≠ "java/lang/invoke/MethodHandle" ∧ yX3_moveLeastToEnd.cls ≠ "java/lang/invoke/VarHandle" ∧ (parseMethodDescriptor yX3_moveLeastToEnd.desc).map (fun d => d.parameters.length) = some 1 := by decide +kernel
theorem hdX3_moveLeastToEndC : yX3_moveLeastToEnd.cls = RX3 ∧ yX3_moveLeastToEnd.cls ≠ "java/lang/invoke/MethodHandle" ∧ yX3_moveLeastToEnd.cls ≠ "java/lang/invoke/VarHandle" ∧ (parseMethodDescriptor yX3_moveLeastToEnd.desc).map (fun d => d.parameters.length) = some 1 := ⟨rfl, hdX3_moveLeastToEnd⟩
theorem hdX4_init : yX4_init.cls ≠ "java/lang/invoke/MethodHandle" ∧ yX4_init.cls ≠ "java/lang/invoke/VarHandle" ∧ (parseMethodDescriptor yX4_init.desc).map (fun d => d.parameters.length) = some 0 := by decide +kernel
theorem hdX4_initC : yX4_init.cls = RX4 ∧ yX4_init.cls ≠ "java/lang/invoke/MethodHandle" ∧ yX4_init.cls ≠ "java/lang/invoke/VarHandle" ∧ (parseMethodDescriptor yX4_init.desc).map (fun d => d.parameters.length) = some 0 := ⟨rfl, hdX4_init⟩
theorem hdX4_isIn : yX4_isIn.cls ≠ "java/lang/invoke/MethodHandle" ∧ yX4_isIn.cls ≠ "java/lang/invoke/VarHandle" ∧ (parseMethodDescriptor yX4_isIn.desc).map (fun d => d.parameters.length) = some 3 := by decide +kernel
theorem hdX4_isInC : yX4_isIn.cls = RX4 ∧ yX4_isIn.cls ≠ "java/lang/invoke/MethodHandle" ∧ yX4_isIn.cls ≠ "java/lang/invoke/VarHandle" ∧ (parseMethodDescriptor yX4_isIn.desc).map (fun d => d.parameters.length) = some 3 := ⟨rfl, hdX4_isIn⟩
theorem hdX4_isPlace : yX4_isPlace.cls ≠ "java/lang/invoke/MethodHandle" ∧ yX4_isPlace.cls ≠ "java/lang/invoke/VarHandle" ∧ (parseMethodDescriptor yX4_isPlace.desc).map (fun d => d.parameters.length) = some 1 := by decide +kernel
theorem hdX4_isPlaceC : yX4_isPlace.cls = RX4 ∧ yX4_isPlace.cls ≠ "java/lang/invoke/MethodHandle" ∧ yX4_isPlace.cls ≠ "java/lang/invoke/VarHandle" ∧ (parseMethodDescriptor yX4_isPlace.desc).map (fun d => d.parameters.length) = some 1 := ⟨rfl, hdX4_isPlace⟩
theorem hdX4_isMade : yX4_isMade.cls ≠ "java/lang/invoke/MethodHandle" ∧ yX4_isMade.cls ≠ "java/lang/invoke/VarHandle" ∧ (parseMethodDescriptor yX4_isMade.desc).map (fun d => d.parameters.length) = some 1 := by decide +kernel
theorem hdX4_isMadeC : yX4_isMade.cls = RX4 ∧ yX4_isMade.cls ≠ "java/lang/invoke/MethodHandle" ∧ yX4_isMade.cls ≠ "java/lang/invoke/VarHandle" ∧ (parseMethodDescriptor yX4_isMade.desc).map (fun d => d.parameters.length) = some 1 := ⟨rfl, hdX4_isMade⟩
theorem hdX4_isLaw : yX4_isLaw.cls ≠ "java/lang/invoke/MethodHandle" ∧ yX4_isLaw.cls ≠ "java/lang/invoke/VarHandle" ∧ (parseMethodDescriptor yX4_isLaw.desc).map (fun d => d.parameters.length) = some 1 := by decide +kernel
theorem hdX4_isLawC : yX4_isLaw.cls = RX4 ∧ yX4_isLaw.cls ≠ "java/lang/invoke/MethodHandle" ∧ yX4_isLaw.cls ≠ "java/lang/invoke/VarHandle" ∧ (parseMethodDescriptor yX4_isLaw.desc).map (fun d => d.parameters.length) = some 1 := ⟨rfl, hdX4_isLaw⟩
theorem hdX4_world : yX4_world.cls ≠ "java/lang/invoke/MethodHandle" ∧ yX4_world.cls ≠ "java/lang/invoke/VarHandle" ∧ (parseMethodDescriptor yX4_world.desc).map (fun d => d.parameters.length) = some 4 := by decide +kernel
theorem hdX4_worldC : yX4_world.cls = RX4 ∧ yX4_world.cls ≠ "java/lang/invoke/MethodHandle" ∧ yX4_world.cls ≠ "java/lang/invoke/VarHandle" ∧ (parseMethodDescriptor yX4_world.desc).map (fun d => d.parameters.length) = some 4 := ⟨rfl, hdX4_world⟩
theorem hdX4_isSetting : yX4_isSetting.cls ≠ "java/lang/invoke/MethodHandle" ∧ yX4_isSetting.cls ≠ "java/lang/invoke/VarHandle" ∧ (parseMethodDescriptor yX4_isSetting.desc).map (fun d => d.parameters.length) = some 4 := by decide +kernel
theorem hdX4_isSettingC : yX4_isSetting.cls = RX4 ∧ yX4_isSetting.cls ≠ "java/lang/invoke/MethodHandle" ∧ yX4_isSetting.cls ≠ "java/lang/invoke/VarHandle" ∧ (parseMethodDescriptor yX4_isSetting.desc).map (fun d => d.parameters.length) = some 4 := ⟨rfl, hdX4_isSetting⟩
theorem hdX4_weight : yX4_weight.cls ≠ "java/lang/invoke/MethodHandle" ∧ yX4_weight.cls ≠ "java/lang/invoke/VarHandle" ∧ (parseMethodDescriptor yX4_weight.desc).map (fun d => d.parameters.length) = some 5 := by decide +kernel
theorem hdX4_weightC : yX4_weight.cls = RX4 ∧ yX4_weight.cls ≠ "java/lang/invoke/MethodHandle" ∧ yX4_weight.cls ≠ "java/lang/invoke/VarHandle" ∧ (parseMethodDescriptor yX4_weight.desc).map (fun d => d.parameters.length) = some 5 := ⟨rfl, hdX4_weight⟩
theorem hdX4_told : yX4_told.cls ≠ "java/lang/invoke/MethodHandle" ∧ yX4_told.cls ≠ "java/lang/invoke/VarHandle" ∧ (parseMethodDescriptor yX4_told.desc).map (fun d => d.parameters.length) = some 2 := by decide +kernel
theorem hdX4_toldC : yX4_told.cls = RX4 ∧ yX4_told.cls ≠ "java/lang/invoke/MethodHandle" ∧ yX4_told.cls ≠ "java/lang/invoke/VarHandle" ∧ (parseMethodDescriptor yX4_told.desc).map (fun d => d.parameters.length) = some 2 := ⟨rfl, hdX4_told⟩
theorem hdX4_mix : yX4_mix.cls ≠ "java/lang/invoke/MethodHandle" ∧ yX4_mix.cls ≠ "java/lang/invoke/VarHandle" ∧ (parseMethodDescriptor yX4_mix.desc).map (fun d => d.parameters.length) = some 3 := by decide +kernel
theorem hdX4_mixC : yX4_mix.cls = RX4 ∧ yX4_mix.cls ≠ "java/lang/invoke/MethodHandle" ∧ yX4_mix.cls ≠ "java/lang/invoke/VarHandle" ∧ (parseMethodDescriptor yX4_mix.desc).map (fun d => d.parameters.length) = some 3 := ⟨rfl, hdX4_mix⟩
theorem hdX4_tell : yX4_tell.cls ≠ "java/lang/invoke/MethodHandle" ∧ yX4_tell.cls ≠ "java/lang/invoke/VarHandle" ∧ (parseMethodDescriptor yX4_tell.desc).map (fun d => d.parameters.length) = some 2 := by decide +kernel
theorem hdX4_tellC : yX4_tell.cls = RX4 ∧ yX4_tell.cls ≠ "java/lang/invoke/MethodHandle" ∧ yX4_tell.cls ≠ "java/lang/invoke/VarHandle" ∧ (parseMethodDescriptor yX4_tell.desc).map (fun d => d.parameters.length) = some 2 := ⟨rfl, hdX4_tell⟩
theorem hdX4_law : yX4_law.cls ≠ "java/lang/invoke/MethodHandle" ∧ yX4_law.cls ≠ "java/lang/invoke/VarHandle" ∧ (parseMethodDescriptor yX4_law.desc).map (fun d => d.parameters.length) = some 3 := by decide +kernel
theorem hdX4_lawC : yX4_law.cls = RX4 ∧ yX4_law.cls ≠ "java/lang/invoke/MethodHandle" ∧ yX4_law.cls ≠ "java/lang/invoke/VarHandle" ∧ (parseMethodDescriptor yX4_law.desc).map (fun d => d.parameters.length) = some 3 := ⟨rfl, hdX4_law⟩
theorem hdX4_bit : yX4_bit.cls ≠ "java/lang/invoke/MethodHandle" ∧ yX4_bit.cls ≠ "java/lang/invoke/VarHandle" ∧ (parseMethodDescriptor yX4_bit.desc).map (fun d => d.parameters.length) = some 2 := by decide +kernel
theorem hdX4_bitC : yX4_bit.cls = RX4 ∧ yX4_bit.cls ≠ "java/lang/invoke/MethodHandle" ∧ yX4_bit.cls ≠ "java/lang/invoke/VarHandle" ∧ (parseMethodDescriptor yX4_bit.desc).map (fun d => d.parameters.length) = some 2 := ⟨rfl, hdX4_bit⟩
theorem hdX4_plainOf : yX4_plainOf.cls ≠ "java/lang/invoke/MethodHandle" ∧ yX4_plainOf.cls ≠ "java/lang/invoke/VarHandle" ∧ (parseMethodDescriptor yX4_plainOf.desc).map (fun d => d.parameters.length) = some 2 := by decide +kernel
theorem hdX4_plainOfC : yX4_plainOf.cls = RX4 ∧ yX4_plainOf.cls ≠ "java/lang/invoke/MethodHandle" ∧ yX4_plainOf.cls ≠ "java/lang/invoke/VarHandle" ∧ (parseMethodDescriptor yX4_plainOf.desc).map (fun d => d.parameters.length) = some 2 := ⟨rfl, hdX4_plainOf⟩
theorem hdX4_plain : yX4_plain.cls ≠ "java/lang/invoke/MethodHandle" ∧ yX4_plain.cls ≠ "java/lang/invoke/VarHandle" ∧ (parseMethodDescriptor yX4_plain.desc).map (fun d => d.parameters.length) = some 2 := by decide +kernel
theorem hdX4_plainC : yX4_plain.cls = RX4 ∧ yX4_plain.cls ≠ "java/lang/invoke/MethodHandle" ∧ yX4_plain.cls ≠ "java/lang/invoke/VarHandle" ∧ (parseMethodDescriptor yX4_plain.desc).map (fun d => d.parameters.length) = some 2 := ⟨rfl, hdX4_plain⟩
theorem hdX4_number : yX4_number.cls ≠ "java/lang/invoke/MethodHandle" ∧ yX4_number.cls ≠ "java/lang/invoke/VarHandle" ∧ (parseMethodDescriptor yX4_number.desc).map (fun d => d.parameters.length) = some 2 := by decide +kernel
theorem hdX4_numberC : yX4_number.cls = RX4 ∧ yX4_number.cls ≠ "java/lang/invoke/MethodHandle" ∧ yX4_number.cls ≠ "java/lang/invoke/VarHandle" ∧ (parseMethodDescriptor yX4_number.desc).map (fun d => d.parameters.length) = some 2 := ⟨rfl, hdX4_number⟩
theorem hdX4_clear : yX4_clear.cls ≠ "java/lang/invoke/MethodHandle" ∧ yX4_clear.cls ≠ "java/lang/invoke/VarHandle" ∧ (parseMethodDescriptor yX4_clear.desc).map (fun d => d.parameters.length) = some 0 := by decide +kernel
theorem hdX4_clearC : yX4_clear.cls = RX4 ∧ yX4_clear.cls ≠ "java/lang/invoke/MethodHandle" ∧ yX4_clear.cls ≠ "java/lang/invoke/VarHandle" ∧ (parseMethodDescriptor yX4_clear.desc).map (fun d => d.parameters.length) = some 0 := ⟨rfl, hdX4_clear⟩
theorem hdX4_add : yX4_add.cls ≠ "java/lang/invoke/MethodHandle" ∧ yX4_add.cls ≠ "java/lang/invoke/VarHandle" ∧ (parseMethodDescriptor yX4_add.desc).map (fun d => d.parameters.length) = some 2 := by decide +kernel
theorem hdX4_addC : yX4_add.cls = RX4 ∧ yX4_add.cls ≠ "java/lang/invoke/MethodHandle" ∧ yX4_add.cls ≠ "java/lang/invoke/VarHandle" ∧ (parseMethodDescriptor yX4_add.desc).map (fun d => d.parameters.length) = some 2 := ⟨rfl, hdX4_add⟩
theorem hdX4_settings : yX4_settings.cls ≠ "java/lang/invoke/MethodHandle" ∧ yX4_settings.cls ≠ "java/lang/invoke/VarHandle" ∧ (parseMethodDescriptor yX4_settings.desc).map (fun d => d.parameters.length) = some 2 := by decide +kernel
theorem hdX4_settingsC : yX4_settings.cls = RX4 ∧ yX4_settings.cls ≠ "java/lang/invoke/MethodHandle" ∧ yX4_settings.cls ≠ "java/lang/invoke/VarHandle" ∧ (parseMethodDescriptor yX4_settings.desc).map (fun d => d.parameters.length) = some 2 := ⟨rfl, hdX4_settings⟩
theorem hdX4_doubt : yX4_doubt.cls ≠ "java/lang/invoke/MethodHandle" ∧ yX4_doubt.cls ≠ "java/lang/invoke/VarHandle" ∧ (parseMethodDescriptor yX4_doubt.desc).map (fun d => d.parameters.length) = some 3 := by decide +kernel
theorem hdX4_doubtC : yX4_doubt.cls = RX4 ∧ yX4_doubt.cls ≠ "java/lang/invoke/MethodHandle" ∧ yX4_doubt.cls ≠ "java/lang/invoke/VarHandle" ∧ (parseMethodDescriptor yX4_doubt.desc).map (fun d => d.parameters.length) = some 3 := ⟨rfl, hdX4_doubt⟩
theorem hdX4_lawIn : yX4_lawIn.cls ≠ "java/lang/invoke/MethodHandle" ∧ yX4_lawIn.cls ≠ "java/lang/invoke/VarHandle" ∧ (parseMethodDescriptor yX4_lawIn.desc).map (fun d => d.parameters.length) = some 3 := by decide +kernel
theorem hdX4_lawInC : yX4_lawIn.cls = RX4 ∧ yX4_lawIn.cls ≠ "java/lang/invoke/MethodHandle" ∧ yX4_lawIn.cls ≠ "java/lang/invoke/VarHandle" ∧ (parseMethodDescriptor yX4_lawIn.desc).map (fun d => d.parameters.length) = some 3 := ⟨rfl, hdX4_lawIn⟩
theorem hdX4_multiply : yX4_multiply.cls ≠ "java/lang/invoke/MethodHandle" ∧ yX4_multiply.cls ≠ "java/lang/invoke/VarHandle" ∧ (parseMethodDescriptor yX4_multiply.desc).map (fun d => d.parameters.length) = some 2 := by decide +kernel
theorem hdX4_multiplyC : yX4_multiply.cls = RX4 ∧ yX4_multiply.cls ≠ "java/lang/invoke/MethodHandle" ∧ yX4_multiply.cls ≠ "java/lang/invoke/VarHandle" ∧ (parseMethodDescriptor yX4_multiply.desc).map (fun d => d.parameters.length) = some 2 := ⟨rfl, hdX4_multiply⟩
theorem hdX4_times : yX4_times.cls ≠ "java/lang/invoke/MethodHandle" ∧ yX4_times.cls ≠ "java/lang/invoke/VarHandle" ∧ (parseMethodDescriptor yX4_times.desc).map (fun d => d.parameters.length) = some 2 := by decide +kernel
theorem hdX4_timesC : yX4_times.cls = RX4 ∧ yX4_times.cls ≠ "java/lang/invoke/MethodHandle" ∧ yX4_times.cls ≠ "java/lang/invoke/VarHandle" ∧ (parseMethodDescriptor yX4_times.desc).map (fun d => d.parameters.length) = some 2 := ⟨rfl, hdX4_times⟩
theorem hdX4_signOf : yX4_signOf.cls ≠ "java/lang/invoke/MethodHandle" ∧ yX4_signOf.cls ≠ "java/lang/invoke/VarHandle" ∧ (parseMethodDescriptor yX4_signOf.desc).map (fun d => d.parameters.length) = some 0 := by decide +kernel
theorem hdX4_signOfC : yX4_signOf.cls = RX4 ∧ yX4_signOf.cls ≠ "java/lang/invoke/MethodHandle" ∧ yX4_signOf.cls ≠ "java/lang/invoke/VarHandle" ∧ (parseMethodDescriptor yX4_signOf.desc).map (fun d => d.parameters.length) = some 0 := ⟨rfl, hdX4_signOf⟩
theorem hdX4_sign : yX4_sign.cls ≠ "java/lang/invoke/MethodHandle" ∧ yX4_sign.cls ≠ "java/lang/invoke/VarHandle" ∧ (parseMethodDescriptor yX4_sign.desc).map (fun d => d.parameters.length) = some 2 := by decide +kernel
theorem hdX4_signC : yX4_sign.cls = RX4 ∧ yX4_sign.cls ≠ "java/lang/invoke/MethodHandle" ∧ yX4_sign.cls ≠ "java/lang/invoke/VarHandle" ∧ (parseMethodDescriptor yX4_sign.desc).map (fun d => d.parameters.length) = some 2 := ⟨rfl, hdX4_sign⟩
theorem hdX4_compare : yX4_compare.cls ≠ "java/lang/invoke/MethodHandle" ∧ yX4_compare.cls ≠ "java/lang/invoke/VarHandle" ∧ (parseMethodDescriptor yX4_compare.desc).map (fun d => d.parameters.length) = some 4 := by decide +kernel
theorem hdX4_compareC : yX4_compare.cls = RX4 ∧ yX4_compare.cls ≠ "java/lang/invoke/MethodHandle" ∧ yX4_compare.cls ≠ "java/lang/invoke/VarHandle" ∧ (parseMethodDescriptor yX4_compare.desc).map (fun d => d.parameters.length) = some 4 := ⟨rfl, hdX4_compare⟩
theorem hdX4_near : yX4_near.cls ≠ "java/lang/invoke/MethodHandle" ∧ yX4_near.cls ≠ "java/lang/invoke/VarHandle" ∧ (parseMethodDescriptor yX4_near.desc).map (fun d => d.parameters.length) = some 2 := by decide +kernel
theorem hdX4_nearC : yX4_near.cls = RX4 ∧ yX4_near.cls ≠ "java/lang/invoke/MethodHandle" ∧ yX4_near.cls ≠ "java/lang/invoke/VarHandle" ∧ (parseMethodDescriptor yX4_near.desc).map (fun d => d.parameters.length) = some 2 := ⟨rfl, hdX4_near⟩
theorem hdX4_rowOf : yX4_rowOf.cls ≠ "java/lang/invoke/MethodHandle" ∧ yX4_rowOf.cls ≠ "java/lang/invoke/VarHandle" ∧ (parseMethodDescriptor yX4_rowOf.desc).map (fun d => d.parameters.length) = some 2 := by decide +kernel
theorem hdX4_rowOfC : yX4_rowOf.cls = RX4 ∧ yX4_rowOf.cls ≠ "java/lang/invoke/MethodHandle" ∧ yX4_rowOf.cls ≠ "java/lang/invoke/VarHandle" ∧ (parseMethodDescriptor yX4_rowOf.desc).map (fun d => d.parameters.length) = some 2 := ⟨rfl, hdX4_rowOf⟩
theorem hdX4_isGiven : yX4_isGiven.cls ≠ "java/lang/invoke/MethodHandle" ∧ yX4_isGiven.cls ≠ "java/lang/invoke/VarHandle" ∧ (parseMethodDescriptor yX4_isGiven.desc).map (fun d => d.parameters.length) = some 2 := by decide +kernel
theorem hdX4_isGivenC : yX4_isGiven.cls = RX4 ∧ yX4_isGiven.cls ≠ "java/lang/invoke/MethodHandle" ∧ yX4_isGiven.cls ≠ "java/lang/invoke/VarHandle" ∧ (parseMethodDescriptor yX4_isGiven.desc).map (fun d => d.parameters.length) = some 2 := ⟨rfl, hdX4_isGiven⟩
theorem hdX4_always : yX4_always.cls ≠ "java/lang/invoke/MethodHandle" ∧ yX4_always.cls ≠ "java/lang/invoke/VarHandle" ∧ (parseMethodDescriptor yX4_always.desc).map (fun d => d.parameters.length) = some 2 := by decide +kernel
theorem hdX4_alwaysC : yX4_always.cls = RX4 ∧ yX4_always.cls ≠ "java/lang/invoke/MethodHandle" ∧ yX4_always.cls ≠ "java/lang/invoke/VarHandle" ∧ (parseMethodDescriptor yX4_always.desc).map (fun d => d.parameters.length) = some 2 := ⟨rfl, hdX4_always⟩
theorem hdX4_breaks : yX4_breaks.cls ≠ "java/lang/invoke/MethodHandle" ∧ yX4_breaks.cls ≠ "java/lang/invoke/VarHandle" ∧ (parseMethodDescriptor yX4_breaks.desc).map (fun d => d.parameters.length) = some 2 := by decide +kernel
theorem hdX4_breaksC : yX4_breaks.cls = RX4 ∧ yX4_breaks.cls ≠ "java/lang/invoke/MethodHandle" ∧ yX4_breaks.cls ≠ "java/lang/invoke/VarHandle" ∧ (parseMethodDescriptor yX4_breaks.desc).map (fun d => d.parameters.length) = some 2 := ⟨rfl, hdX4_breaks⟩
theorem hdX4_common : yX4_common.cls ≠ "java/lang/invoke/MethodHandle" ∧ yX4_common.cls ≠ "java/lang/invoke/VarHandle" ∧ (parseMethodDescriptor yX4_common.desc).map (fun d => d.parameters.length) = some 2 := by decide +kernel
theorem hdX4_commonC : yX4_common.cls = RX4 ∧ yX4_common.cls ≠ "java/lang/invoke/MethodHandle" ∧ yX4_common.cls ≠ "java/lang/invoke/VarHandle" ∧ (parseMethodDescriptor yX4_common.desc).map (fun d => d.parameters.length) = some 2 := ⟨rfl, hdX4_common⟩
theorem hdX4_solve : yX4_solve.cls ≠ "java/lang/invoke/MethodHandle" ∧ yX4_solve.cls ≠ "java/lang/invoke/VarHandle" ∧ (parseMethodDescriptor yX4_solve.desc).map (fun d => d.parameters.length) = some 3 := by decide +kernel
theorem hdX4_solveC : yX4_solve.cls = RX4 ∧ yX4_solve.cls ≠ "java/lang/invoke/MethodHandle" ∧ yX4_solve.cls ≠ "java/lang/invoke/VarHandle" ∧ (parseMethodDescriptor yX4_solve.desc).map (fun d => d.parameters.length) = some 3 := ⟨rfl, hdX4_solve⟩
theorem hdX4_takeOff : yX4_takeOff.cls ≠ "java/lang/invoke/MethodHandle" ∧ yX4_takeOff.cls ≠ "java/lang/invoke/VarHandle" ∧ (parseMethodDescriptor yX4_takeOff.desc).map (fun d => d.parameters.length) = some 2 := by decide +kernel
theorem hdX4_takeOffC : yX4_takeOff.cls = RX4 ∧ yX4_takeOff.cls ≠ "java/lang/invoke/MethodHandle" ∧ yX4_takeOff.cls ≠ "java/lang/invoke/VarHandle" ∧ (parseMethodDescriptor yX4_takeOff.desc).map (fun d => d.parameters.length) = some 2 := ⟨rfl, hdX4_takeOff⟩
theorem hdX4_prove : yX4_prove.cls ≠ "java/lang/invoke/MethodHandle" ∧ yX4_prove.cls ≠ "java/lang/invoke/VarHandle" ∧ (parseMethodDescriptor yX4_prove.desc).map (fun d => d.parameters.length) = some 1 := by decide +kernel
theorem hdX4_proveC : yX4_prove.cls = RX4 ∧ yX4_prove.cls ≠ "java/lang/invoke/MethodHandle" ∧ yX4_prove.cls ≠ "java/lang/invoke/VarHandle" ∧ (parseMethodDescriptor yX4_prove.desc).map (fun d => d.parameters.length) = some 1 := ⟨rfl, hdX4_prove⟩
theorem hdX4_share : yX4_share.cls ≠ "java/lang/invoke/MethodHandle" ∧ yX4_share.cls ≠ "java/lang/invoke/VarHandle" ∧ (parseMethodDescriptor yX4_share.desc).map (fun d => d.parameters.length) = some 2 := by decide +kernel
theorem hdX4_shareC : yX4_share.cls = RX4 ∧ yX4_share.cls ≠ "java/lang/invoke/MethodHandle" ∧ yX4_share.cls ≠ "java/lang/invoke/VarHandle" ∧ (parseMethodDescriptor yX4_share.desc).map (fun d => d.parameters.length) = some 2 := ⟨rfl, hdX4_share⟩
theorem hdX4_mean : yX4_mean.cls ≠ "java/lang/invoke/MethodHandle" ∧ yX4_mean.cls ≠ "java/lang/invoke/VarHandle" ∧ (parseMethodDescriptor yX4_mean.desc).map (fun d => d.parameters.length) = some 2 := by decide +kernel
theorem hdX4_meanC : yX4_mean.cls = RX4 ∧ yX4_mean.cls ≠ "java/lang/invoke/MethodHandle" ∧ yX4_mean.cls ≠ "java/lang/invoke/VarHandle" ∧ (parseMethodDescriptor yX4_mean.desc).map (fun d => d.parameters.length) = some 2 := ⟨rfl, hdX4_mean⟩
theorem hdX4_leastOf : yX4_leastOf.cls ≠ "java/lang/invoke/MethodHandle" ∧ yX4_leastOf.cls ≠ "java/lang/invoke/VarHandle" ∧ (parseMethodDescriptor yX4_leastOf.desc).map (fun d => d.parameters.length) = some 0 := by decide +kernel
theorem hdX4_leastOfC : yX4_leastOf.cls = RX4 ∧ yX4_leastOf.cls ≠ "java/lang/invoke/MethodHandle" ∧ yX4_leastOf.cls ≠ "java/lang/invoke/VarHandle" ∧ (parseMethodDescriptor yX4_leastOf.desc).map (fun d => d.parameters.length) = some 0 := ⟨rfl, hdX4_leastOf⟩
theorem hdX4_secondOf : yX4_secondOf.cls ≠ "java/lang/invoke/MethodHandle" ∧ yX4_secondOf.cls ≠ "java/lang/invoke/VarHandle" ∧ (parseMethodDescriptor yX4_secondOf.desc).map (fun d => d.parameters.length) = some 1 := by decide +kernel
theorem hdX4_secondOfC : yX4_secondOf.cls = RX4 ∧ yX4_secondOf.cls ≠ "java/lang/invoke/MethodHandle" ∧ yX4_secondOf.cls ≠ "java/lang/invoke/VarHandle" ∧ (parseMethodDescriptor yX4_secondOf.desc).map (fun d => d.parameters.length) = some 1 := ⟨rfl, hdX4_secondOf⟩
theorem hdX4_words : yX4_words.cls ≠ "java/lang/invoke/MethodHandle" ∧ yX4_words.cls ≠ "java/lang/invoke/VarHandle" ∧ (parseMethodDescriptor yX4_words.desc).map (fun d => d.parameters.length) = some 2 := by decide +kernel
theorem hdX4_wordsC : yX4_words.cls = RX4 ∧ yX4_words.cls ≠ "java/lang/invoke/MethodHandle" ∧ yX4_words.cls ≠ "java/lang/invoke/VarHandle" ∧ (parseMethodDescriptor yX4_words.desc).map (fun d => d.parameters.length) = some 2 := ⟨rfl, hdX4_words⟩
theorem hdX4_secret : yX4_secret.cls ≠ "java/lang/invoke/MethodHandle" ∧ yX4_secret.cls ≠ "java/lang/invoke/VarHandle" ∧ (parseMethodDescriptor yX4_secret.desc).map (fun d => d.parameters.length) = some 2 := by decide +kernel
theorem hdX4_secretC : yX4_secret.cls = RX4 ∧ yX4_secret.cls ≠ "java/lang/invoke/MethodHandle" ∧ yX4_secret.cls ≠ "java/lang/invoke/VarHandle" ∧ (parseMethodDescriptor yX4_secret.desc).map (fun d => d.parameters.length) = some 2 := ⟨rfl, hdX4_secret⟩
theorem hdJ9_abs_0f7a4 : yJ9_abs_0f7a4.cls ≠ "java/lang/invoke/MethodHandle" ∧ yJ9_abs_0f7a4.cls ≠ "java/lang/invoke/VarHandle" ∧ (parseMethodDescriptor yJ9_abs_0f7a4.desc).map (fun d => d.parameters.length) = some 1 := by decide +kernel
theorem hdJ9_abs_067f4 : yJ9_abs_067f4.cls ≠ "java/lang/invoke/MethodHandle" ∧ yJ9_abs_067f4.cls ≠ "java/lang/invoke/VarHandle" ∧ (parseMethodDescriptor yJ9_abs_067f4.desc).map (fun d => d.parameters.length) = some 1 := by decide +kernel
theorem hdJ7_fill_53178 : yJ7_fill_53178.cls ≠ "java/lang/invoke/MethodHandle" ∧ yJ7_fill_53178.cls ≠ "java/lang/invoke/VarHandle" ∧ (parseMethodDescriptor yJ7_fill_53178.desc).map (fun d => d.parameters.length) = some 2 := by decide +kernel
theorem sg_lt {ws : va_W} {q : Nat} {y : Nat × va_E} (h : ws[q]? = some y) : q < ws.length := (List.getElem?_eq_some_iff.mp h).1
theorem sg_eq {ws : va_W} {q : Nat} {y x : Nat × va_E} (h : ws[q]? = some y) : (ws.set q x)[q]? = some x := by
  rw [List.getElem?_set, if_pos rfl, if_pos (sg_lt h)]
theorem sg_ss {ws : va_W} {q : Nat} {x y : Nat × va_E} : (ws.set q x).set q y = ws.set q y := by simp
theorem sg_self {ws : va_W} {q : Nat} {y : Nat × va_E} (h : ws[q]? = some y) : ws.set q y = ws := by
  refine List.ext_getElem? (fun i => ?_)
  rw [List.getElem?_set]
  by_cases e : q = i
  · subst e
    rw [if_pos rfl, if_pos (sg_lt h), h]
  · rw [if_neg e]
theorem arrV_cg {cA : ClassId} {n : Nat} {f g : Nat → Value} (h : ∀ j, j < n → f j = g j) : arrV cA n f = arrV cA n g := by
  unfold arrV
  congr 1
  first
    | exact congrArg Array.ofFn (funext (fun i => h i.1 i.2))
    | (apply Array.ext <;> simp; intro i hi; exact h i hi)
    | (refine congrArg List.toArray (List.map_congr_left (fun i hi => h i (List.mem_range.mp hi))))
theorem cg_i {D : va_G} {cl : List vw_C} {A : Nat → Prop} {ws ws' : va_W} {H : Heap} {q a n : Nat} {cA : ClassId} {f g : Nat → Int32} (hP : va_P D cl ws H) (hD : va_D A ws) (ha : ws[q]? = some (a, .inl (cA, n, .inl f))) (h : ∀ j, j < n → f j = g j) (hws : ws.set q (a, .inl (cA, n, .inl g)) = ws') : va_P D cl ws' H ∧ va_D A ws' := by
  subst hws
  refine ⟨hP.set hD ha ?_ (fun _ _ => rfl), hD.set ha⟩
  have h0 : H[a]? = some (vp_cell cA (n, .inl f)) := hP q _ ha
  show H[a]? = some (vp_cell cA (n, .inl g))
  rw [h0, vp_cell_i, vp_cell_i, arrV_cg (fun j hj => by rw [h j hj])]
theorem cg_j {D : va_G} {cl : List vw_C} {A : Nat → Prop} {ws ws' : va_W} {H : Heap} {q a n : Nat} {cA : ClassId} {f g : Nat → Int64} (hP : va_P D cl ws H) (hD : va_D A ws) (ha : ws[q]? = some (a, .inl (cA, n, .inr (.inl f)))) (h : ∀ j, j < n → f j = g j) (hws : ws.set q (a, .inl (cA, n, .inr (.inl g))) = ws') : va_P D cl ws' H ∧ va_D A ws' := by
  subst hws
  refine ⟨hP.set hD ha ?_ (fun _ _ => rfl), hD.set ha⟩
  have h0 : H[a]? = some (vp_cell cA (n, .inr (.inl f))) := hP q _ ha
  show H[a]? = some (vp_cell cA (n, .inr (.inl g)))
  rw [h0, vp_cell_l, vp_cell_l, arrV_cg (fun j hj => by rw [h j hj])]
theorem nI_z0 {a : Nat} (h : a < 2 ^ 31) (e : nI a = 0) : a = 0 := by
  rcases Nat.eq_zero_or_pos a with q | q
  · exact q
  · exact absurd e (nI_ne0 q h)
theorem nI_n0 {a : Nat} (e : ¬ nI a = 0) : a ≠ 0 := fun q => e (by rw [q]; rfl)
def fl (f : Nat → Int32) (x : Int32) (i : Nat) : Nat → Int32 := fun j => if j < i then x else f j
theorem fl_0 (f : Nat → Int32) (x : Int32) : fl f x 0 = f := by funext j; simp [fl]
theorem fl_s (f : Nat → Int32) (x : Int32) (i : Nat) : upd (fl f x i) i x = fl f x (i + 1) := by
  funext j
  by_cases h : j = i
  · subst h; simp [upd, fl]
  · have : (j < i + 1) = (j < i) := by simp; omega
    simp [upd, fl, h, this]
theorem ixN {x : Int32} {N : Nat} (hN : N < 2 ^ 31) (h0 : ¬ x < 0) (h : x < nI N) : ∃ j : Nat, j < N ∧ x = nI j := by
  obtain ⟨j, hj, rfl⟩ := nI_of h0
  exact ⟨j, (nI_ltI hj hN).mp h, rfl⟩
theorem ixL {x : Int32} {N : Nat} (hN : N < 2 ^ 31) (h0 : ¬ x < 0) (h : ¬ nI N ≤ x) : ∃ j : Nat, j < N ∧ x = nI j := by
  obtain ⟨j, hj, rfl⟩ := nI_of h0
  exact ⟨j, Nat.not_le.mp fun q => h (nI_le q hj), rfl⟩
theorem ixG {x : Int32} {N : Nat} (hN : N < 2 ^ 31) (h0 : ¬ x < 0) (h : ¬ nI N < x) : ∃ j : Nat, j ≤ N ∧ x = nI j := by
  obtain ⟨j, hj, rfl⟩ := nI_of h0
  exact ⟨j, Nat.not_lt.mp fun q => h (nI_lt q hj), rfl⟩
