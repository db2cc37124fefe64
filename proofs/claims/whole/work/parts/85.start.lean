/-! the law's entry: what the Statement gives, as the frame wants it -/
theorem AOs.moved {u U : State} (hvm : u.vm.Alike U.vm) (h : AOs u) : AOs U := by
  refine ⟨va_AO.moved hvm h.1, ?_⟩
  obtain ⟨comp, c, k, h1, h2, h3, h4, h5⟩ := arrayOver_specB h.2
  obtain ⟨k', hk', he⟩ := hvm.2.2 _ _ h3
  have hi : (U.vm.classes.findIdx? fun (x : Class) => match x.kind with | .array component _ => component == comp | _ => false) = some c := by
    have e1 := va_idx_bare U.vm comp
    have e2 := va_idx_bare u.vm comp
    first | rw [hvm.bare_eq] at e1 | rw [← hvm.bare_eq] at e1
    exact e1.symm.trans (e2.trans h2)
  have hkind : k'.kind = .array comp (.array .int) := by rw [he]; exact h4
  have f1 : U.vm.findClass (FieldType.array .int).toString = some comp := by rw [hvm.findClass]; exact h1
  have f2 : U.vm.findClass ("[" ++ (FieldType.array .int).toString) = some c := by rw [hvm.findClass]; exact h5
  unfold Cond.before Cond.holds
  simp only [Cond.value]
  rw [f1, Option.bind_some]
  refine (congrArg (fun o : Option Nat => (o.bind (fun c => (U.vm.classes[c]?).map fun (k : Class) => match k.kind with | .array _ ty => decide (ty = FieldType.array .int) && decide (U.vm.findClass ("[" ++ (FieldType.array .int).toString) = some c) | _ => false) == some true)) hi).trans ?_
  simp [hk', hkind, f2]
/-- a static table out of the Statement's parts -/
theorem st1_i {args : Array Value} {s : State} {nm : String} {N : Nat} {tb : List Int32} {A : Nat → Prop} (hl : (Cond.laysStatic RX3 nm "[I").before args s = true) (hini : (Cond.initialized RX3).before args s = true) (hN : N < 2 ^ 31) (harr : (Cond.arrayOf (.static RX3 nm "[I") .int).before args s = true) (hlen : (Cond.eq (.length (.static RX3 nm "[I")) (.int (Int32.ofNat N))).before args s = true) (hel : ∀ j : Nat, j < N → (Cond.eq (.elem (.static RX3 nm "[I") (.int (Int32.ofNat j))) (.int (tb.getD j 0))).before args s = true) (hA : ∀ a : Nat, a < s.heap.size → ¬ A a) : ∃ t : Nat, st1 nm "[I" .int N (fun j => .int (tb.getD j 0)) t A s s.heap := by
  obtain ⟨t, h1, h2⟩ := va_Tof (f := fun j => .int (tb.getD j 0)) hN harr (va_eqt hlen) (fun j hj => va_eqt (hel j hj)) hA
  exact ⟨t, va_Zref hl hini h1 hA, h2⟩
theorem st1_j {args : Array Value} {s : State} {nm : String} {N : Nat} {tb : List Int64} {A : Nat → Prop} (hl : (Cond.laysStatic RX3 nm "[J").before args s = true) (hini : (Cond.initialized RX3).before args s = true) (hN : N < 2 ^ 31) (harr : (Cond.arrayOf (.static RX3 nm "[J") .long).before args s = true) (hlen : (Cond.eq (.length (.static RX3 nm "[J")) (.int (Int32.ofNat N))).before args s = true) (hel : ∀ j : Nat, j < N → (Cond.eq (.elem (.static RX3 nm "[J") (.int (Int32.ofNat j))) (.long (tb.getD j 0))).before args s = true) (hA : ∀ a : Nat, a < s.heap.size → ¬ A a) : ∃ t : Nat, st1 nm "[J" .long N (fun j => .long (tb.getD j 0)) t A s s.heap := by
  obtain ⟨t, h1, h2⟩ := va_Tof (f := fun j => .long (tb.getD j 0)) hN harr (va_eqt hlen) (fun j hj => va_eqtl (hel j hj)) hA
  exact ⟨t, va_Zref hl hini h1 hA, h2⟩
abbrev fG : List Cond := flatC (Jvm.Cond.and given_1 narrow_1)
/-- places that follow one another -/
theorem at_of_run {T : List Cond} {n p0 : Nat} (f : Nat → Cond) (h : (List.range n).map (fun j => some (f j)) = (List.range n).map (fun j => T[p0 + j]?)) : ∀ j : Nat, j < n → f j ∈ T := fun j hj => by
  have h1 := congrArg (fun l => l[j]?) h
  simp only [List.getElem?_map, List.getElem?_range hj, Option.map_some, Option.some.injEq] at h1
  exact List.mem_of_getElem? h1.symm
set_option maxRecDepth 100000 in
theorem g_0 : ∀ j : Nat, j < 6 → Cond.eq (.elem (.static RX3 "PRIMES" "[I") (.int (Int32.ofNat j))) (.int (tb_primes.getD j 0)) ∈ fG := at_of_run (p0 := 7) (fun j => Cond.eq (.elem (.static RX3 "PRIMES" "[I") (.int (Int32.ofNat j))) (.int (tb_primes.getD j 0))) (by decide +kernel)
set_option maxRecDepth 100000 in
theorem g_1 : ∀ j : Nat, j < 102 → Cond.eq (.elem (.static RX3 "PRIME_POWERS" "[I") (.int (Int32.ofNat j))) (.int (tb_powers.getD j 0)) ∈ fG := at_of_run (p0 := 97) (fun j => Cond.eq (.elem (.static RX3 "PRIME_POWERS" "[I") (.int (Int32.ofNat j))) (.int (tb_powers.getD j 0))) (by decide +kernel)
set_option maxRecDepth 100000 in
theorem g_2 : ∀ j : Nat, j < 3 → Cond.eq (.elem (.static RX3 "PAIRS" "[I") (.int (Int32.ofNat j))) (.int (tb_pairs.getD j 0)) ∈ fG := at_of_run (p0 := 16) (fun j => Cond.eq (.elem (.static RX3 "PAIRS" "[I") (.int (Int32.ofNat j))) (.int (tb_pairs.getD j 0))) (by decide +kernel)
set_option maxRecDepth 100000 in
theorem g_3 : ∀ j : Nat, j < 72 → Cond.eq (.elem (.static RX3 "PLAIN_NUMBERS" "[I") (.int (Int32.ofNat j))) (.int (tb_plain.getD j 0)) ∈ fG := at_of_run (p0 := 22) (fun j => Cond.eq (.elem (.static RX3 "PLAIN_NUMBERS" "[I") (.int (Int32.ofNat j))) (.int (tb_plain.getD j 0))) (by decide +kernel)
set_option maxRecDepth 100000 in
theorem g_4 : ∀ j : Nat, j < 64 → Cond.eq (.elem (.static RX3 "ROW_NUMBERS" "[I") (.int (Int32.ofNat j))) (.int (tb_rows.getD j 0)) ∈ fG := at_of_run (p0 := 211) (fun j => Cond.eq (.elem (.static RX3 "ROW_NUMBERS" "[I") (.int (Int32.ofNat j))) (.int (tb_rows.getD j 0))) (by decide +kernel)
set_option maxRecDepth 100000 in
theorem g_5 : ∀ j : Nat, j < 6 → Cond.eq (.elem (.static RX3 "LOGS_CUT" "[J") (.int (Int32.ofNat j))) (.long (tb_logs.getD j 0)) ∈ fG := at_of_run (p0 := 202) (fun j => Cond.eq (.elem (.static RX3 "LOGS_CUT" "[J") (.int (Int32.ofNat j))) (.long (tb_logs.getD j 0))) (by decide +kernel)
def gI : List (String × Nat) := [("PRIMES", 6), ("PRIME_POWERS", 102), ("PAIRS", 3), ("PLAIN_NUMBERS", 72), ("ROW_NUMBERS", 64)]
theorem g_La : ∀ w ∈ gI.map (fun q => Cond.arrayOf (.static RX3 q.1 "[I") .int), w ∈ fG := in_of_pos [5, 95, 14, 20, 209] (by decide +kernel)
theorem g_Lb : ∀ w ∈ gI.map (fun q => Cond.eq (.length (.static RX3 q.1 "[I")) (.int (Int32.ofNat q.2))), w ∈ fG := in_of_pos [6, 96, 15, 21, 210] (by decide +kernel)
theorem g_Lc : ∀ w ∈ gI.map (fun q => Cond.laysStatic RX3 q.1 "[I"), w ∈ lw_tbl := in_of_pos [69, 258, 203, 228, 319] (by decide +kernel)
theorem g_L : ∀ q ∈ gI, Cond.arrayOf (.static RX3 q.1 "[I") .int ∈ fG ∧ Cond.eq (.length (.static RX3 q.1 "[I")) (.int (Int32.ofNat q.2)) ∈ fG ∧ Cond.laysStatic RX3 q.1 "[I" ∈ lw_tbl := fun q hq => ⟨g_La _ (List.mem_map.mpr ⟨q, hq, rfl⟩), g_Lb _ (List.mem_map.mpr ⟨q, hq, rfl⟩), g_Lc _ (List.mem_map.mpr ⟨q, hq, rfl⟩)⟩
theorem g_J : Cond.arrayOf (.static RX3 "LOGS_CUT" "[J") .long ∈ fG ∧ Cond.eq (.length (.static RX3 "LOGS_CUT" "[J")) (.int (Int32.ofNat 6)) ∈ fG ∧ Cond.laysStatic RX3 "LOGS_CUT" "[J" ∈ lw_tbl := ⟨List.mem_of_getElem? (i := 200) (by decide +kernel), List.mem_of_getElem? (i := 201) (by decide +kernel), List.mem_of_getElem? (i := 264) (by decide +kernel)⟩
theorem g_W : Cond.initialized RX3 ∈ lw_tbl ∧ Cond.arrayClass .int ∈ lw_tbl ∧ Cond.arrayClass .long ∈ lw_tbl ∧ Cond.arrayOver (.object RX2) ∈ lw_tbl ∧ Cond.arrayOver (.array .int) ∈ lw_tbl ∧ Cond.instantiable RX0 3 ∈ lw_tbl ∧ Cond.instantiable RX1 2 ∈ lw_tbl ∧ Cond.instantiable RX2 3 ∈ lw_tbl ∧ Cond.instantiable RX3 8 ∈ lw_tbl ∧ Cond.instantiable RX4 15 ∈ lw_tbl := ⟨List.mem_of_getElem? (i := 42) (by decide +kernel), List.mem_of_getElem? (i := 83) (by decide +kernel), List.mem_of_getElem? (i := 84) (by decide +kernel), List.mem_of_getElem? (i := 59) (by decide +kernel), List.mem_of_getElem? (i := 61) (by decide +kernel), List.mem_of_getElem? (i := 63) (by decide +kernel), List.mem_of_getElem? (i := 71) (by decide +kernel), List.mem_of_getElem? (i := 95) (by decide +kernel), List.mem_of_getElem? (i := 51) (by decide +kernel), List.mem_of_getElem? (i := 372) (by decide +kernel)⟩
theorem g_Na : ∀ w ∈ nstM.map (fun q => Cond.methodLinkNest q.1 q.2.1 q.2.2 RX3), w ∈ lw_tbl := in_of_pos [64, 72, 96, 147, 158, 165, 173, 177, 190, 194, 204, 208, 209, 240, 253, 259, 276, 280, 290, 370] (by decide +kernel)
theorem g_Nb : ∀ w ∈ nstF.map (fun q => Cond.fieldLinkNest q.1 q.2.1 q.2.2.1 q.2.2.2.1 q.2.2.2.2 RX3), w ∈ lw_tbl := in_of_pos [68, 101, 104, 257, 263] (by decide +kernel)
theorem g_N : (∀ q ∈ nstM, Cond.methodLinkNest q.1 q.2.1 q.2.2 RX3 ∈ lw_tbl) ∧ ∀ q ∈ nstF, Cond.fieldLinkNest q.1 q.2.1 q.2.2.1 q.2.2.2.1 q.2.2.2.2 RX3 ∈ lw_tbl := ⟨fun q hq => g_Na _ (List.mem_map.mpr ⟨q, hq, rfl⟩), fun q hq => g_Nb _ (List.mem_map.mpr ⟨q, hq, rfl⟩)⟩
theorem law_Ev {args : Array Value} {s : State} (hts : ∀ w ∈ lw_tbl, w.before args s = true) (hgv : (Jvm.Cond.and given_1 narrow_1).before args s = true) : ∃ (D : va_G) (k : Nat → ClassId) (t : Nat → Nat), Ev D k t (fun q : Nat => s.heap.size ≤ q) s s.heap ∧ AOs s := by
  have hs := flat_of_before _ hgv
  obtain ⟨w1, w2, w3, w4, w5, w6, w7, w8, w9, w10⟩ := g_W
  have hA : ∀ a : Nat, a < s.heap.size → ¬ (fun q : Nat => s.heap.size ≤ q) a := fun a h => Nat.not_le.mpr h
  obtain ⟨c0, i0, K0⟩ := u_known (C := RX0) (T := TX0) (N := 3) (n := 3) hts inX0 (hts _ w6)
  obtain ⟨c1, i1, K1⟩ := u_known (C := RX1) (T := TX1) (N := 2) (n := 2) hts inX1 (hts _ w7)
  obtain ⟨c2, i2, K2⟩ := u_known (C := RX2) (T := TX2) (N := 3) (n := 3) hts inX2 (hts _ w8)
  obtain ⟨c3, i3, K3⟩ := u_known (C := RX3) (T := TX3) (N := 8) (n := 8) hts inX3 (hts _ w9)
  obtain ⟨c4, i4, K4⟩ := u_known (C := RX4) (T := TX4) (N := 15) (n := 15) hts inX4 (hts _ w10)
  obtain ⟨a0, ka0, p0, e0, f0, h0⟩ := Cond.arrayClass_spec (hts _ w2)
  obtain ⟨a1, ka1, p1, e1, f1, h1⟩ := Cond.arrayClass_spec (hts _ w3)
  obtain ⟨p2, a2, ka2, e2, -, f2, h2, g2⟩ := Cond.arrayOver_spec (hts _ w4)
  obtain ⟨p3, a3, ka3, e3, -, f3, h3, g3⟩ := arrayOver_specB (hts _ w5)
  have hL : ∀ q ∈ gI, (Cond.arrayOf (.static RX3 q.1 "[I") .int).before args s = true ∧ (Cond.eq (.length (.static RX3 q.1 "[I")) (.int (Int32.ofNat q.2))).before args s = true ∧ (Cond.laysStatic RX3 q.1 "[I").before args s = true := fun q hq => ⟨hs _ (g_L q hq).1, hs _ (g_L q hq).2.1, hts _ (g_L q hq).2.2⟩
  have hi := hts _ w1
  have L0 := hL ("PRIMES", 6) (by simp [gI])
  have L1 := hL ("PRIME_POWERS", 102) (by simp [gI])
  have L2 := hL ("PAIRS", 3) (by simp [gI])
  have L3 := hL ("PLAIN_NUMBERS", 72) (by simp [gI])
  have L4 := hL ("ROW_NUMBERS", 64) (by simp [gI])
  obtain ⟨t0, T0⟩ := st1_i (tb := tb_primes) L0.2.2 hi (by decide) L0.1 L0.2.1 (fun j hj => hs _ (g_0 j hj)) hA
  obtain ⟨t1, T1⟩ := st1_i (tb := tb_powers) L1.2.2 hi (by decide) L1.1 L1.2.1 (fun j hj => hs _ (g_1 j hj)) hA
  obtain ⟨t2, T2⟩ := st1_i (tb := tb_pairs) L2.2.2 hi (by decide) L2.1 L2.2.1 (fun j hj => hs _ (g_2 j hj)) hA
  obtain ⟨t3, T3⟩ := st1_i (tb := tb_plain) L3.2.2 hi (by decide) L3.1 L3.2.1 (fun j hj => hs _ (g_3 j hj)) hA
  obtain ⟨t4, T4⟩ := st1_i (tb := tb_rows) L4.2.2 hi (by decide) L4.1 L4.2.1 (fun j hj => hs _ (g_4 j hj)) hA
  obtain ⟨t5, T5⟩ := st1_j (tb := tb_logs) (hts _ g_J.2.2) hi (by decide) (hs _ g_J.1) (hs _ g_J.2.1) (fun j hj => hs _ (g_5 j hj)) hA
  refine ⟨(fun i => if i = 0 then c0 else if i = 1 then c1 else if i = 2 then c2 else if i = 3 then c3 else c4, fun i => if i = 0 then i0 else if i = 1 then i1 else if i = 2 then i2 else if i = 3 then i3 else i4), (fun i => if i = 0 then a0 else if i = 1 then a1 else if i = 2 then a2 else a3), (fun i => if i = 0 then t0 else if i = 1 then t1 else if i = 2 then t2 else if i = 3 then t3 else if i = 4 then t4 else t5), ⟨⟨?_, ?_⟩, ⟨T0, T1, T2, T3, T4, T5⟩, ⟨fun q hq => va_Nw.of rfl (hts _ (g_N.1 q hq)), fun q hq => va_Nw.of rfl (hts _ (g_N.2 q hq))⟩⟩, va_AO.of (hts _ w4), hts _ w5⟩
  · intro c q hq
    match c, hq with
    | 0, hq => cases hq; exact K0
    | 1, hq => cases hq; exact K1
    | 2, hq => cases hq; exact K2
    | 3, hq => cases hq; exact K3
    | 4, hq => cases hq; exact K4
    | c + 5, hq => cases hq
  · intro c q hq
    match c, hq with
    | 0, hq => cases hq; exact ⟨fun N z => ⟨(fun k h => by cases h), ka0, f0, p0, h0⟩, e0⟩
    | 1, hq => cases hq; exact ⟨fun N z => ⟨(fun k h => by cases h), ka1, f1, p1, h1⟩, e1⟩
    | 2, hq => cases hq; exact ⟨fun N z => ⟨(fun k h => by cases h), ka2, f2, p2, h2⟩, ka2, p2, f2, h2, e2, g2⟩
    | 3, hq => cases hq; exact ⟨fun N z => ⟨(fun k h => by cases h), ka3, f3, p3, h3⟩, g3⟩
    | c + 4, hq => cases hq
