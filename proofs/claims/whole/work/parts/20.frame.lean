/-! THE FRAME: one shape of contract for all methods (own rows) -/
def tb_primes : List Int32 := [2, 3, 5, 7, 11, 13]
def tb_powers : List Int32 := [0, 0, 0, 0, 0, 0, 0, 0, 0, 0, 0, 0, 1, 0, 0, 0, 0, 0, 0, 1, 0, 0, 0, 0, 2, 0, 0, 0, 0, 0, 0, 0, 1, 0, 0, 0, 1, 1, 0, 0, 0, 0, 0, 0, 0, 1, 0, 0, 3, 0, 0, 0, 0, 0, 0, 2, 0, 0, 0, 0, 1, 0, 1, 0, 0, 0, 0, 0, 0, 0, 1, 0, 2, 1, 0, 0, 0, 0, 0, 0, 0, 0, 0, 1, 1, 0, 0, 1, 0, 0, 0, 1, 1, 0, 0, 0, 4, 0, 0, 0, 0, 0]
def tb_pairs : List Int32 := [3, 5, 6]
def tb_plain : List Int32 := [0, 0, 0, 0, 0, 0, -1, 1, 0, 0, 0, 0, 0, -1, 0, 1, 0, 0, 0, -1, 0, 0, 0, 1, 0, 1, 1, -1, 0, 0, 0, 0, 0, 1, 0, 0, 1, -1, 0, 0, 0, 0, 1, 0, 1, 0, -1, 0, 0, 0, 0, 0, -1, 1, 1, -1, 0, 0, -1, 1, 0, 0, 1, -1, 0, -1, 0, 1, 0, 1, 0, -1]
def tb_rows : List Int32 := [0, 1, 0, 1, 0, 1, 0, 1, 0, 0, 1, 1, 0, 0, 1, 1, 0, 0, 0, 0, 1, 1, 1, 1, 0, 1, 1, 1, 0, 1, 1, 1, 0, 1, 0, 1, 1, 1, 1, 1, 0, 0, 1, 1, 1, 1, 1, 1, 0, 1, 1, 1, 1, 1, 1, 1, 0, 1, 1, 2, 1, 2, 2, 2]
def tb_logs : List Int64 := [1099511627776, 1742684699131, 2552986939188, 3086719380096, 3803685290187, 4068676497980]
/-- a static array of the class: the field holds it, and it holds its numbers -/
def st1 (nm d : String) (ty : FieldType) (N : Nat) (f : Nat → Value) (a : Nat) (A : Nat → Prop) (U : State) (H : Heap) : Prop := va_Z RX3 nm d (.ref a) A U H ∧ va_T ty a N f A U H
theorem st1.moved {nm d : String} {ty : FieldType} {N : Nat} {f : Nat → Value} {a : Nat} {A : Nat → Prop} {u U : State} {H : Heap} (hvm : u.vm.Alike U.vm) (h : st1 nm d ty N f a A u H) : st1 nm d ty N f a A U H := ⟨va_Z.moved hvm h.1, va_T.moved hvm h.2⟩
theorem st1.kept {nm d : String} {ty : FieldType} {N : Nat} {f : Nat → Value} {a : Nat} {A : Nat → Prop} {U : State} {H H1 : Heap} (h : st1 nm d ty N f a A U H) (hq : ∀ a : Nat, a < H.size → ¬ A a → H1[a]? = H[a]?) : st1 nm d ty N f a A U H1 := ⟨h.1.kept hq, h.2.kept hq⟩
theorem st1.narrow {nm d : String} {ty : FieldType} {N : Nat} {f : Nat → Value} {a : Nat} {A B : Nat → Prop} {U : State} {H : Heap} (h : st1 nm d ty N f a A U H) (hAB : ∀ q, B q → A q) : st1 nm d ty N f a B U H := ⟨h.1.narrow hAB, h.2.narrow hAB⟩
def Sta (t : Nat → Nat) (A : Nat → Prop) (U : State) (H : Heap) : Prop :=
  st1 "PRIMES" "[I" .int 6 (fun j => .int (tb_primes.getD j 0)) (t 0) A U H ∧ st1 "PRIME_POWERS" "[I" .int 102 (fun j => .int (tb_powers.getD j 0)) (t 1) A U H ∧ st1 "PAIRS" "[I" .int 3 (fun j => .int (tb_pairs.getD j 0)) (t 2) A U H ∧ st1 "PLAIN_NUMBERS" "[I" .int 72 (fun j => .int (tb_plain.getD j 0)) (t 3) A U H ∧ st1 "ROW_NUMBERS" "[I" .int 64 (fun j => .int (tb_rows.getD j 0)) (t 4) A U H ∧ st1 "LOGS_CUT" "[J" .long 6 (fun j => .long (tb_logs.getD j 0)) (t 5) A U H
theorem Sta.moved {t : Nat → Nat} {A : Nat → Prop} {u U : State} {H : Heap} (hvm : u.vm.Alike U.vm) (h : Sta t A u H) : Sta t A U H := by
  obtain ⟨h0, h1, h2, h3, h4, h5⟩ := h
  exact ⟨st1.moved hvm h0, st1.moved hvm h1, st1.moved hvm h2, st1.moved hvm h3, st1.moved hvm h4, st1.moved hvm h5⟩
theorem Sta.kept {t : Nat → Nat} {A : Nat → Prop} {U : State} {H H1 : Heap} (h : Sta t A U H) (hq : ∀ a : Nat, a < H.size → ¬ A a → H1[a]? = H[a]?) : Sta t A U H1 := by
  obtain ⟨h0, h1, h2, h3, h4, h5⟩ := h
  exact ⟨h0.kept hq, h1.kept hq, h2.kept hq, h3.kept hq, h4.kept hq, h5.kept hq⟩
theorem Sta.narrow {t : Nat → Nat} {A B : Nat → Prop} {U : State} {H : Heap} (h : Sta t A U H) (hAB : ∀ q, B q → A q) : Sta t B U H := by
  obtain ⟨h0, h1, h2, h3, h4, h5⟩ := h
  exact ⟨h0.narrow hAB, h1.narrow hAB, h2.narrow hAB, h3.narrow hAB, h4.narrow hAB, h5.narrow hAB⟩
/-- the nest mates' links -/
def nstM : List (String × Nat × MethodName) := [(RX3, 22, yX0_init), (RX0, 20, yX1_init), (RX3, 44, yX2_init), (RX3, 52, yX2_begin), (RX3, 56, yX2_hasSetting), (RX3, 64, yX2_put), (RX3, 68, yX2_isMade), (RX3, 79, yX2_weightOf), (RX3, 86, yX2_hasStatesOf), (RX3, 90, yX2_becomeMixOf), (RX3, 97, yX2_gather), (RX2, 32, yX3_settingOf), (RX3, 101, yX2_spreadByRule), (RX3, 120, yX0_clear), (RX3, 131, yX0_addLog), (RX3, 127, yX0_signOfSum), (RX0, 55, yX1_becomeOne), (RX0, 58, yX1_multiplyByPower), (RX0, 62, yX1_against), (RX3, 162, yX0_isNought)]
def nstF : List (String × Nat × String × String × String) := [(RX0, 9, RX3, "PRIMES", "[I"), (RX3, 72, RX2, "states", "[I"), (RX3, 75, RX2, "total", "I"), (RX0, 34, RX3, "PRIME_POWERS", "[I"), (RX0, 37, RX3, "LOGS_CUT", "[J")]
def Nst (U : State) : Prop := (∀ q ∈ nstM, va_Nw (.methodLinkNest q.1 q.2.1 q.2.2 RX3) U) ∧ (∀ q ∈ nstF, va_Nw (.fieldLinkNest q.1 q.2.1 q.2.2.1 q.2.2.2.1 q.2.2.2.2 RX3) U)
theorem Nst.warm {s U : State} (hW : s.WarmedH U.vm) (h : Nst s) : Nst U := ⟨fun q hq => va_Nw.warmM hW (h.1 q hq), fun q hq => va_Nw.warmF hW (h.2 q hq)⟩
theorem Nst.same {u U : State} (hv : u.vm = U.vm) (h : Nst u) : Nst U := ⟨fun q hq => va_Nw.same rfl hv (h.1 q hq), fun q hq => va_Nw.same rfl hv (h.2 q hq)⟩
def tysC (k : Nat → ClassId) : List (ClassId × FieldType) := [(k 0, .int), (k 1, .long), (k 2, .object RX2), (k 3, .array .int)]
/-- what holds of the machine all the while: the classes, the static arrays, the nest mates' links -/
def Ev (D : va_G) (k : Nat → ClassId) (t : Nat → Nat) (A : Nat → Prop) (U : State) (H : Heap) : Prop := va_K D vwCl (tysC k) U ∧ Sta t A U H ∧ Nst U
def PcW (D : va_G) (k : Nat → ClassId) (t : Nat → Nat) (ws : va_W) (sz : Nat) (U : State) : Prop := U.heap.size = sz ∧ va_P D vwCl ws U.heap ∧ va_D (fun _ => True) ws ∧ Ev D k t (va_A ws sz) U U.heap
def BcW (D : va_G) (A : Nat → Prop) (w : va_W) (T : State) : Prop := va_P D vwCl w T.heap ∧ va_D A w
/-- contracts: an int (or boolean), nothing, a long -/
def Ci (D : va_G) (k : Nat → ClassId) (t : Nat → Nat) (l : Launch) (y : MethodName) (wl : List Cond) (rm : Room) (av : List Value) (ws : va_W) (post : Int32 → va_W → Prop) (mc ms : Nat) : Prop := ∀ sz, Met l y wl rm (va_Pc av (PcW D k t ws sz)) (va_Qi post (BcW D (va_A ws sz)) (va_A ws sz)) mc ms (va_A ws sz)
def Cv (D : va_G) (k : Nat → ClassId) (t : Nat → Nat) (l : Launch) (y : MethodName) (wl : List Cond) (rm : Room) (av : List Value) (ws : va_W) (post : va_W → Prop) (mc ms : Nat) : Prop := ∀ sz, Met l y wl rm (va_Pc av (PcW D k t ws sz)) (va_Qv post (BcW D (va_A ws sz)) (va_A ws sz)) mc ms (va_A ws sz)
def Cj (D : va_G) (k : Nat → ClassId) (t : Nat → Nat) (l : Launch) (y : MethodName) (wl : List Cond) (rm : Room) (av : List Value) (ws : va_W) (post : Int64 → va_W → Prop) (mc ms : Nat) : Prop := ∀ sz, Met l y wl rm (va_Pc av (PcW D k t ws sz)) (va_Ql post (BcW D (va_A ws sz)) (va_A ws sz)) mc ms (va_A ws sz)
theorem PcW.blind {D : va_G} {k : Nat → ClassId} {t : Nat → Nat} {ws : va_W} {sz : Nat} (av : List Value) : FrameBlind (va_Pc av (PcW D k t ws sz)) := fun a U g mk q => by
  obtain ⟨q0, q1, qP, qD, qK, qS, qN⟩ := q
  exact ⟨q0, q1, qP, qD, va_K.moved (u := U) (U := U.calling g mk a) (Vm.Alike.refl U.vm) qK, Sta.moved (u := U) (U := U.calling g mk a) (Vm.Alike.refl U.vm) qS, Nst.same (u := U) (U := U.calling g mk a) rfl qN⟩
/-- what a walk stands on -/
def Cx (own nm : String) (cc : ByteArray) (maxL : Nat) (ret : Option FieldType) (wl : List Cond) (D : va_G) (k : Nat → ClassId) (t : Nat → Nat) (A : Nat → Prop) (p : Program) (s : State) (m : MethodId) (args : Array Value) (meth : Method) (c : Code) : Prop :=
  p.tables.exec = Jvm.exec ∧ c.code = cc ∧ meth.sig.returnType = ret ∧ c.maxLocals = maxL ∧ s.vm.findClass own = some m.cls ∧ (∀ w ∈ wl, w.before args s = true) ∧ (meth.name = nm ∧ meth.locks = false) ∧ (∀ q, s.heap.size ≤ q → A q) ∧ Ev D k t A s s.heap
section FWof
variable {D : va_G} {k : Nat → ClassId} {t : Nat → Nat} {l : Launch} {y : MethodName} {wl wl' : List Cond} {rm : Room} {av : List Value} {ws : va_W} {mc ms : Nat} {cc : ByteArray} {maxL : Nat} {ret : Option FieldType}
theorem fw_of {Qc : (Nat → Prop) → Array Value → State → Outcome → State → Prop} (hy : plainName y.cls = true) (hw : wl = Cond.code y cc maxL ret :: wl') (hle : (lg_sl av).length ≤ maxL)
    (body : ∀ (p : Program) (e : Env) (s : State) (m : MethodId) (below : List Frame) (meth : Method) (c : Code) (A : Nat → Prop) (ls : Array Slot), Cx y.cls y.name cc maxL ret wl D k t A p s m av.toArray meth c → va_P D vwCl ws s.heap → va_D A ws → lv_has ls maxL (lv_args 0 av) →
      W p l e rm s m av.toArray below meth c s.heap [] 0 0 (MQ below (Qc A) av.toArray s mc ms A) (F0 m 0 ls [])) (sz : Nat) : Met l y wl rm (va_Pc av (PcW D k t ws sz)) (Qc (va_A ws sz)) mc ms (va_A ws sz) := by
  refine Met.ofW (cc := cc) (maxL := maxL) (ret := ret) hy hw ?_
  intro p e s m args below meth c s₁ B hml hv
  obtain ⟨rfl, hsz, hP, hD0, hE⟩ := hv
  subst hsz
  have hl := lv_entry av (n := maxL) hle
  rw [lg_entry_eq]
  exact body p e s m below meth c (va_A ws s.heap.size) _ ⟨B.exec, B.bytes, B.returns, hml, findClass_of_methodNamed B.named, atoms_spec (ws := wl) B.pre, ⟨(name_of_methodNamed B.named B.method).1, B.notSynchronized⟩, fun q h => Or.inr h, hE⟩ hP (hD0.self (sz := s.heap.size)) hl
end FWof
section FWret
variable {p : Program} {l : Launch} {e : Env} {R : Room} {s : State} {m : MethodId} {args : Array Value} {below : List Frame} {meth : Method} {c : Code} {H : Heap} {locs : List Loc} {cells slots mc ms : Nat} {own nm : String} {cc : ByteArray} {maxL : Nat} {ret : Option FieldType} {wl : List Cond} {D : va_G} {k : Nat → ClassId} {t : Nat → Nat} {A : Nat → Prop} {w : va_W} {pc : Nat} {ls : Array Slot} {rest : List Value}
theorem Ri {v : Int32} {post : Int32 → va_W → Prop} (C : Cx own nm cc maxL (some .int) wl D k t A p s m args meth c) (hP : va_P D vwCl w H) (hD : va_D A w) (hS : va_S A s.heap H locs) (h1 : cells ≤ mc) (h2 : slots ≤ ms) (hd : decode cc pc = .ok (.ireturn, 1)) (hp : post v w) : W p l e R s m args below meth c H locs cells slots (MQ below (va_Qi post (BcW D A) A) args s mc ms A) (F0 m pc ls [.int v]) := by
  refine W.widen h1 h2 ?_
  have hlocks := C.2.2.2.2.2.2.1.2
  exact W.iret (Qc := va_Qi post (BcW D A) A) C.1 C.2.1 C.2.2.1 (fun t ht _ => ⟨⟨v, w, rfl, hp, by rw [ht]; exact hP, hD⟩, hS.F ht⟩) hS.2.2 hd
theorem Rz {v : Int32} {post : Int32 → va_W → Prop} (C : Cx own nm cc maxL (some .boolean) wl D k t A p s m args meth c) (hP : va_P D vwCl w H) (hD : va_D A w) (hS : va_S A s.heap H locs) (h1 : cells ≤ mc) (h2 : slots ≤ ms) (hn : narrow .boolean (.int v) = .int v) (hd : decode cc pc = .ok (.ireturn, 1)) (hp : post v w) : W p l e R s m args below meth c H locs cells slots (MQ below (va_Qi post (BcW D A) A) args s mc ms A) (F0 m pc ls [.int v]) := by
  refine W.widen h1 h2 ?_
  have hlocks := C.2.2.2.2.2.2.1.2
  exact W.zret (Qc := va_Qi post (BcW D A) A) C.1 C.2.1 C.2.2.1 hn (fun t ht _ => ⟨⟨v, w, rfl, hp, by rw [ht]; exact hP, hD⟩, hS.F ht⟩) hS.2.2 hd
theorem Rv {post : va_W → Prop} (C : Cx own nm cc maxL none wl D k t A p s m args meth c) (hP : va_P D vwCl w H) (hD : va_D A w) (hS : va_S A s.heap H locs) (h1 : cells ≤ mc) (h2 : slots ≤ ms) (hd : decode cc pc = .ok (.return_, 1)) (hp : post w) : W p l e R s m args below meth c H locs cells slots (MQ below (va_Qv post (BcW D A) A) args s mc ms A) (F0 m pc ls []) := by
  refine W.widen h1 h2 ?_
  have hlocks := C.2.2.2.2.2.2.1.2
  exact W.vret (Qc := va_Qv post (BcW D A) A) C.1 C.2.1 C.2.2.1 (fun t ht _ => ⟨⟨w, rfl, hp, by rw [ht]; exact hP, hD⟩, hS.F ht⟩) hS.2.2 hd
theorem Rj {v : Int64} {post : Int64 → va_W → Prop} (C : Cx own nm cc maxL (some .long) wl D k t A p s m args meth c) (hP : va_P D vwCl w H) (hD : va_D A w) (hS : va_S A s.heap H locs) (h1 : cells ≤ mc) (h2 : slots ≤ ms) (hd : decode cc pc = .ok (.lreturn, 1)) (hp : post v w) : W p l e R s m args below meth c H locs cells slots (MQ below (va_Ql post (BcW D A) A) args s mc ms A) (F0 m pc ls [.long v]) := by
  refine W.widen h1 h2 ?_
  have hlocks := C.2.2.2.2.2.2.1.2
  exact W.lret (Qc := va_Ql post (BcW D A) A) C.1 C.2.1 C.2.2.1 (fun t ht _ => ⟨⟨v, w, rfl, hp, by rw [ht]; exact hP, hD⟩, hS.F ht⟩) hS.2.2 hd
end FWret
section FWcall
variable {p : Program} {l : Launch} {e : Env} {R : Room} {s : State} {m : MethodId} {args : Array Value} {below : List Frame} {meth : Method} {c : Code} {H : Heap} {locs : List Loc} {cells slots mc ms : Nat} {own nm : String} {cc : ByteArray} {maxL : Nat} {ret : Option FieldType} {wl : List Cond} {D : va_G} {k : Nat → ClassId} {t : Nat → Nat} {A : Nat → Prop} {ws : va_W} {pc : Nat} {ls : Array Slot} {rest st0 : List Value} {Q : State → Prop}
  {y : MethodName} {bytes : ByteArray} {maxL2 n index : Nat} {ret2 : Option FieldType} {wl2 : List Cond} {rm : Room} {As : List Value} {b : Nat} {C2 host : String}
theorem fw_free (C : Cx own nm cc maxL ret wl D k t A p s m args meth c) (hD : va_D A ws) (hS : va_S A s.heap H locs) : ∀ q, va_A ws H.size q → A q := fun q h => by
  rcases h with ⟨i, e, h⟩ | h
  · exact hD.2 i _ h
  · exact C.2.2.2.2.2.2.2.1 q (Nat.le_trans hS.1 h)
theorem fw_pre (C : Cx own nm cc maxL ret wl D k t A p s m args meth c) (hP : va_P D vwCl ws H) (hD : va_D A ws) (hS : va_S A s.heap H locs) (av : List Value) : PreS s H (va_Pc av (PcW D k t ws H.size)) av := by
  refine ⟨PcW.blind av, fun U hU hW => ⟨rfl, by rw [hU], by rw [hU]; exact hP, hD.weaken (fun _ _ _ _ => trivial), ?_⟩⟩
  obtain ⟨hK, hZ, hN⟩ := C.2.2.2.2.2.2.2.2
  refine ⟨va_K.moved hW.alike hK, ?_, hN.warm hW⟩
  rw [hU]
  exact Sta.moved hW.alike ((hZ.kept hS.2.1).narrow (fw_free C hD hS))
theorem fw_fix (C : Cx own nm cc maxL ret wl D k t A p s m args meth c) : CallFix p m c cc maxL s args wl own := ⟨C.1, C.2.1, C.2.2.2.1, C.2.2.2.2.1, C.2.2.2.2.2.1⟩
theorem fw_i {post : Int32 → va_W → Prop} {a : Array Value} (C : Cx own nm cc maxL ret wl D k t A p s m args meth c) (hD : va_D A ws) (hS : va_S A s.heap H locs)
    (hr : va_Run p l e R s m args below meth c H locs cells slots mc ms (F0 m pc ls st0) rest (va_Qi post (BcW D (va_A ws H.size)) (va_A ws H.size) a) (va_A ws H.size))
    (kk : ∀ (r : Int32) (w : va_W) (H1 : Heap) (locs1 : List Loc), post r w → va_P D vwCl w H1 → va_D A w → va_S A s.heap H1 locs1 → W p l e R s m args below meth c H1 locs1 (cells + mc) (slots + ms) Q (F0 m (pc + 3) ls (.int r :: rest))) : W p l e R s m args below meth c H locs cells slots Q (F0 m pc ls st0) := by
  have hF := fw_free C hD hS
  refine va_calli hr hS (fun q _ h => hF q h) hF (fun r u T H1 locs1 hT _ hw hB _ _ hS1 => ?_)
  rw [← hT] at hS1 ⊢
  exact kk r u _ locs1 hw hB.1 (hB.2.weaken (fun _ _ _ h => hF _ h)) hS1
theorem fw_v {post : va_W → Prop} {a : Array Value} (C : Cx own nm cc maxL ret wl D k t A p s m args meth c) (hD : va_D A ws) (hS : va_S A s.heap H locs)
    (hr : va_Run p l e R s m args below meth c H locs cells slots mc ms (F0 m pc ls st0) rest (va_Qv post (BcW D (va_A ws H.size)) (va_A ws H.size) a) (va_A ws H.size))
    (kk : ∀ (w : va_W) (H1 : Heap) (locs1 : List Loc), post w → va_P D vwCl w H1 → va_D A w → va_S A s.heap H1 locs1 → W p l e R s m args below meth c H1 locs1 (cells + mc) (slots + ms) Q (F0 m (pc + 3) ls rest)) : W p l e R s m args below meth c H locs cells slots Q (F0 m pc ls st0) := by
  have hF := fw_free C hD hS
  refine va_callv hr hS (fun q _ h => hF q h) hF (fun u T H1 locs1 hT _ hw hB _ _ hS1 => ?_)
  rw [← hT] at hS1 ⊢
  exact kk u _ locs1 hw hB.1 (hB.2.weaken (fun _ _ _ h => hF _ h)) hS1
theorem fw_j {post : Int64 → va_W → Prop} {a : Array Value} (C : Cx own nm cc maxL ret wl D k t A p s m args meth c) (hD : va_D A ws) (hS : va_S A s.heap H locs)
    (hr : va_Run p l e R s m args below meth c H locs cells slots mc ms (F0 m pc ls st0) rest (va_Ql post (BcW D (va_A ws H.size)) (va_A ws H.size) a) (va_A ws H.size))
    (kk : ∀ (r : Int64) (w : va_W) (H1 : Heap) (locs1 : List Loc), post r w → va_P D vwCl w H1 → va_D A w → va_S A s.heap H1 locs1 → W p l e R s m args below meth c H1 locs1 (cells + mc) (slots + ms) Q (F0 m (pc + 3) ls (.long r :: rest))) : W p l e R s m args below meth c H locs cells slots Q (F0 m pc ls st0) := by
  have hF := fw_free C hD hS
  refine va_calll hr hS (fun q _ h => hF q h) hF (fun r u T H1 locs1 hT _ hw hB _ _ hS1 => ?_)
  rw [← hT] at hS1 ⊢
  exact kk r u _ locs1 hw hB.1 (hB.2.weaken (fun _ _ _ h => hF _ h)) hS1
/-- how a call runs: virtual (own class), nest mate's virtual, static, nest mate's static, constructor, nest mate's constructor -/
theorem rn_V {Qc : Array Value → State → Outcome → State → Prop} {free : Addr → Prop} (C : Cx own nm cc maxL ret wl D k t A p s m args meth c) (hM : Met l y wl2 rm (va_Pc (.ref b :: As) (PcW D k t ws H.size)) Qc mc ms free) (cw : CallW R s args own C2 index y bytes maxL2 ret2 wl2 rm mc ms n)
    (q0 ci : Nat) {q : vw_C} {fs : List Value} (hc : vwCl[ci]? = some q) (he : ws[q0]? = some (b, .inr (ci, fs))) (hC2 : q.1 = C2) (hP : va_P D vwCl ws H) (hD : va_D A ws) (hS : va_S A s.heap H locs)
    (hn : As.length = n) (hsz : ls.size = maxL) (hst : st0 = As.reverse ++ .ref b :: rest) (hW : (rest.map fun v => v.category).sum ≤ 8) (hdg : decode cc pc = .ok (.invokevirtual index, 3)) (hf : cells + mc ≤ R.cells ∧ slots + ms ≤ R.slots) :
    va_Run p l e R s m args below meth c H locs cells slots mc ms (F0 m pc ls st0) rest (Qc (Value.ref b :: As).toArray) free := by
  have hp := fw_pre C hP hD hS (.ref b :: As)
  have hr := va_recv C.2.2.2.2.2.2.2.2.1 hP hc he
  rw [hC2] at hr
  exact va_runV (fw_fix C) hM cw ⟨hp.1, hr, hp.2⟩ rfl hn hsz hst (lv_room hW) hdg hf
theorem rn_VN {Qc : Array Value → State → Outcome → State → Prop} {free : Addr → Prop} (C : Cx own nm cc maxL ret wl D k t A p s m args meth c) (hM : Met l y wl2 rm (va_Pc (.ref b :: As) (PcW D k t ws H.size)) Qc mc ms free) (cw : va_CN R s args own index y host bytes maxL2 ret2 wl2 rm mc ms n) (h1 : (Cond.instanceMethod y).before args s = true) (h2 : (Cond.selects C2 y y).before args s = true)
    (q0 ci : Nat) {q : vw_C} {fs : List Value} (hc : vwCl[ci]? = some q) (he : ws[q0]? = some (b, .inr (ci, fs))) (hC2 : q.1 = C2) (hP : va_P D vwCl ws H) (hD : va_D A ws) (hS : va_S A s.heap H locs)
    (hn : As.length = n) (hsz : ls.size = maxL) (hst : st0 = As.reverse ++ .ref b :: rest) (hW : (rest.map fun v => v.category).sum ≤ 8) (hdg : decode cc pc = .ok (.invokevirtual index, 3)) (hf : cells + mc ≤ R.cells ∧ slots + ms ≤ R.slots) :
    va_Run p l e R s m args below meth c H locs cells slots mc ms (F0 m pc ls st0) rest (Qc (Value.ref b :: As).toArray) free := by
  have hp := fw_pre C hP hD hS (.ref b :: As)
  have hr := va_recv C.2.2.2.2.2.2.2.2.1 hP hc he
  rw [hC2] at hr
  exact va_runVN (fw_fix C) hM ⟨cw, h1, h2⟩ ⟨hp.1, hr, hp.2⟩ rfl hn hsz hst (lv_room hW) hdg hf
theorem rn_S {Qc : Array Value → State → Outcome → State → Prop} {free : Addr → Prop} (C : Cx own nm cc maxL ret wl D k t A p s m args meth c) (hM : Met l y wl2 rm (va_Pc As (PcW D k t ws H.size)) Qc mc ms free) (cw : CallB R s args own index y bytes maxL2 ret2 wl2 rm mc ms n ∧ (Cond.static y).before args s = true) (hP : va_P D vwCl ws H) (hD : va_D A ws) (hS : va_S A s.heap H locs)
    (hn : As.length = n) (hsz : ls.size = maxL) (hst : st0 = As.reverse ++ rest) (hW : (rest.map fun v => v.category).sum ≤ 8) (hdg : decode cc pc = .ok (.invokestatic index, 3)) (hf : cells + mc ≤ R.cells ∧ slots + ms ≤ R.slots) :
    va_Run p l e R s m args below meth c H locs cells slots mc ms (F0 m pc ls st0) rest (Qc As.toArray) free := va_runS (fw_fix C) hM cw (fw_pre C hP hD hS As) rfl hn hsz hst (lv_room hW) hdg hf
theorem rn_SN {Qc : Array Value → State → Outcome → State → Prop} {free : Addr → Prop} (C : Cx own nm cc maxL ret wl D k t A p s m args meth c) (hM : Met l y wl2 rm (va_Pc As (PcW D k t ws H.size)) Qc mc ms free) (cw : va_CN R s args own index y host bytes maxL2 ret2 wl2 rm mc ms n) (h1 : (Cond.static y).before args s = true) (hP : va_P D vwCl ws H) (hD : va_D A ws) (hS : va_S A s.heap H locs)
    (hn : As.length = n) (hsz : ls.size = maxL) (hst : st0 = As.reverse ++ rest) (hW : (rest.map fun v => v.category).sum ≤ 8) (hdg : decode cc pc = .ok (.invokestatic index, 3)) (hf : cells + mc ≤ R.cells ∧ slots + ms ≤ R.slots) :
    va_Run p l e R s m args below meth c H locs cells slots mc ms (F0 m pc ls st0) rest (Qc As.toArray) free := va_runSN (fw_fix C) hM ⟨cw, h1, trivial⟩ (fw_pre C hP hD hS As) rfl hn hsz hst (lv_room hW) hdg hf
theorem rn_I {Qc : Array Value → State → Outcome → State → Prop} {free : Addr → Prop} (C : Cx own nm cc maxL ret wl D k t A p s m args meth c) (hM : Met l y wl2 rm (va_Pc (.ref b :: As) (PcW D k t ws H.size)) Qc mc ms free) (cw : CallB R s args own index y bytes maxL2 none wl2 rm mc ms n ∧ y.name = "<init>" ∧ (Cond.instanceMethod y).before args s = true) (hP : va_P D vwCl ws H) (hD : va_D A ws) (hS : va_S A s.heap H locs)
    (hn : As.length = n) (hsz : ls.size = maxL) (hst : st0 = As.reverse ++ .ref b :: rest) (hW : (rest.map fun v => v.category).sum ≤ 8) (hdg : decode cc pc = .ok (.invokespecial index, 3)) (hf : cells + mc ≤ R.cells ∧ slots + ms ≤ R.slots) :
    va_Run p l e R s m args below meth c H locs cells slots mc ms (F0 m pc ls st0) rest (Qc (Value.ref b :: As).toArray) free := va_runI (fw_fix C) hM cw (fw_pre C hP hD hS (.ref b :: As)) rfl hn hsz hst (lv_room hW) hdg hf
theorem rn_IN {Qc : Array Value → State → Outcome → State → Prop} {free : Addr → Prop} (C : Cx own nm cc maxL ret wl D k t A p s m args meth c) (hM : Met l y wl2 rm (va_Pc (.ref b :: As) (PcW D k t ws H.size)) Qc mc ms free) (cw : va_CN R s args own index y host bytes maxL2 none wl2 rm mc ms n) (h1 : y.name = "<init>") (h2 : (Cond.instanceMethod y).before args s = true) (hP : va_P D vwCl ws H) (hD : va_D A ws) (hS : va_S A s.heap H locs)
    (hn : As.length = n) (hsz : ls.size = maxL) (hst : st0 = As.reverse ++ .ref b :: rest) (hW : (rest.map fun v => v.category).sum ≤ 8) (hdg : decode cc pc = .ok (.invokespecial index, 3)) (hf : cells + mc ≤ R.cells ∧ slots + ms ≤ R.slots) :
    va_Run p l e R s m args below meth c H locs cells slots mc ms (F0 m pc ls st0) rest (Qc (Value.ref b :: As).toArray) free := va_runIN (fw_fix C) hM ⟨cw, h1, h2⟩ (fw_pre C hP hD hS (.ref b :: As)) rfl hn hsz hst (lv_room hW) hdg hf
/-- the top of the stack, said otherwise -/
theorem tp_i {x y : Int32} (h : x = y) (kk : W p l e R s m args below meth c H locs cells slots Q (F0 m pc ls (.int y :: rest))) : W p l e R s m args below meth c H locs cells slots Q (F0 m pc ls (.int x :: rest)) := by rw [h]; exact kk
theorem tp_j {x y : Int64} (h : x = y) (kk : W p l e R s m args below meth c H locs cells slots Q (F0 m pc ls (.long y :: rest))) : W p l e R s m args below meth c H locs cells slots Q (F0 m pc ls (.long x :: rest)) := by rw [h]; exact kk
/-- an array of arrays is read -/
theorem fw_aldr (hexec : p.tables.exec = Jvm.exec) (hb : c.code = cc) {cl : List vw_C} {tys : List (ClassId × FieldType)} {a : Nat} (hK : va_K D cl tys s) (hP : va_P D cl ws H) (q0 t0 : Nat) {cA : ClassId} {n : Nat} {f : Nat → Option Nat} (ha : ws[q0]? = some (a, .inl (cA, n, .inr (.inr (.inr (.inr f)))))) (ht : tys[t0]? = some (cA, .array .int)) {i : Int32} (hin : vp_in i n) (hdg : decode cc pc = .ok (.aaload, 1))
    (kk : W p l e R s m args below meth c H locs cells slots Q (F0 m (pc + 1) ls (va_rf (f i.toNatClampNeg) :: rest))) : W p l e R s m args below meth c H locs cells slots Q (F0 m pc ls (.int i :: .ref a :: rest)) := by
  have hlt : i.toNatClampNeg < n := Nat.not_le.mp fun q => hin (Or.inr q)
  exact W.aald (v := va_rf (f i.toNatClampNeg)) (ty := .array .int) hexec hb (hP q0 _ ha) ((hK.2 t0 _ ht).1 n (fun j => va_rf (f j))) rfl (fun q => by cases q) (by show ¬ (i < 0 ∨ (arrV _ _ _).slots.size ≤ _); rw [arrV_size]; exact hin) (by show (arrV _ _ _).slots[_]? = _; rw [arrV_read _ _ hlt]) rfl rfl hdg kk
end FWcall
