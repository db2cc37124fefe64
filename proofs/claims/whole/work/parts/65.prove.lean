/-! copies, and the class's prove and plain -/
section CP
variable {p : Program} {l : Launch} {e : Env} {R : Room} {s : State} {m : MethodId} {args : Array Value} {below : List Frame} {meth : Method} {c : Code} {H : Heap} {locs : List Loc} {cells slots : Nat} {Q : State → Prop} {own nm : String} {cc : ByteArray} {maxL : Nat} {ret : Option FieldType} {wl : List Cond} {D : va_G} {k : Nat → ClassId} {t : Nat → Nat} {A : Nat → Prop} {ws : va_W} {pc a : Nat} {ls : Array Slot} {rest : List Value}
theorem nI_nn {n : Nat} (h : n < 2 ^ 31) : ¬ nI n < 0 := fun q => by
  have := nI_pos' h
  exact absurd q (Int32.not_lt.mpr this)
theorem cp_i (C : Cx own nm cc maxL ret wl D k t A p s m args meth c) (hP : va_P D vwCl ws H) (hD : va_D A ws) (hS : va_S A s.heap H locs) (hml : c.maxLocals = ls.size) {index : Nat} (hlink : (Cond.methodLink own index arraycopyName).before args s = true) (hnat : (Cond.native arraycopyName).before args s = true) (hstat : (Cond.static arraycopyName).before args s = true) (hini : (Cond.initialized "java/lang/System").before args s = true)
    (q0 q1 : Nat) {a0 n0 n1 : Nat} {f g : Nat → Int32} (ha0 : ws[q0]? = some (a0, .inl (k 0, n0, .inl f))) (ha1 : ws[q1]? = some (a, .inl (k 0, n1, .inl g))) {sp dp n : Nat} (h4 : sp + n ≤ n0) (h5 : dp + n ≤ n1) (hn0 : n0 < 2 ^ 31) (hn1 : n1 < 2 ^ 31) (_ : True ∨ n = 0) {ws' : va_W} (hws : ws.set q1 (a, .inl (k 0, n1, .inl (va_cpy f g sp dp n))) = ws')
    (hframes : 1 ≤ R.frames) (hlocals : (rest.map fun v => v.category).sum + (nativeFrameWords "java/lang/System" "arraycopy" 5 + 11) ≤ R.locals) (hd : decode cc pc = .ok (.invokestatic index, 3))
    (kk : ∀ (H1 : Heap) (locs1 : List Loc), va_P D vwCl ws' H1 → va_D A ws' → va_S A s.heap H1 locs1 → W p l e R s m args below meth c H1 locs1 cells slots Q (F0 m (pc + 3) ls rest)) : W p l e R s m args below meth c H locs cells slots Q (F0 m pc ls (.int (nI n) :: .int (nI dp) :: .ref a :: .int (nI sp) :: .ref a0 :: rest)) := by
  have c1 := nI_clamp (n := sp) (by omega)
  have c2 := nI_clamp (n := dp) (by omega)
  have c3 := nI_clamp (n := n) (by omega)
  refine va_copyi C.1 C.2.1 hml C.2.2.2.2.1 hlink hnat hstat hini C.2.2.2.2.2.2.2.2.1 hP hD hS q0 q1 0 0 ha0 ha1 rfl rfl rfl (nI_nn (by omega)) (nI_nn (by omega)) (nI_nn (by omega)) (by rw [c1, c3]; exact h4) (by rw [c2, c3]; exact h5) (fun _ _ => rfl) hframes hlocals hd ?_
  rw [c1, c2, c3, hws]
  exact kk
theorem cp_T (C : Cx own nm cc maxL ret wl D k t A p s m args meth c) (hP : va_P D vwCl ws H) (hD : va_D A ws) (hS : va_S A s.heap H locs) (hml : c.maxLocals = ls.size) {index : Nat} (hlink : (Cond.methodLink own index arraycopyName).before args s = true) (hnat : (Cond.native arraycopyName).before args s = true) (hstat : (Cond.static arraycopyName).before args s = true) (hini : (Cond.initialized "java/lang/System").before args s = true)
    {b0 n0 n1 : Nat} {f g : Nat → Int32} (hT : va_T .int b0 n0 (fun j => .int (f j)) A s s.heap) (q1 : Nat) (ha1 : ws[q1]? = some (a, .inl (k 0, n1, .inl g))) {sp dp n : Nat} (h4 : sp + n ≤ n0) (h5 : dp + n ≤ n1) (hn0 : n0 < 2 ^ 31) (hn1 : n1 < 2 ^ 31) (_ : True ∨ n = 0) {ws' : va_W} (hws : ws.set q1 (a, .inl (k 0, n1, .inl (va_cpy f g sp dp n))) = ws')
    (hframes : 1 ≤ R.frames) (hlocals : (rest.map fun v => v.category).sum + (nativeFrameWords "java/lang/System" "arraycopy" 5 + 11) ≤ R.locals) (hd : decode cc pc = .ok (.invokestatic index, 3))
    (kk : ∀ (H1 : Heap) (locs1 : List Loc), va_P D vwCl ws' H1 → va_D A ws' → va_S A s.heap H1 locs1 → W p l e R s m args below meth c H1 locs1 cells slots Q (F0 m (pc + 3) ls rest)) : W p l e R s m args below meth c H locs cells slots Q (F0 m pc ls (.int (nI n) :: .int (nI dp) :: .ref a :: .int (nI sp) :: .ref b0 :: rest)) := by
  have c1 := nI_clamp (n := sp) (by omega)
  have c2 := nI_clamp (n := dp) (by omega)
  have c3 := nI_clamp (n := n) (by omega)
  have t1 := nI_toInt (n := sp) (by omega)
  have t2 := nI_toInt (n := dp) (by omega)
  have t3 := nI_toInt (n := n) (by omega)
  subst hws
  intro T hT2 X
  obtain ⟨sc, s1, s2, s3, s4, -, s5, s6⟩ := hT
  obtain ⟨s7, k0, hk0, cm0, hkk0⟩ := s2
  obtain ⟨-, k1, hk1, cm1, hkk1⟩ := (C.2.2.2.2.2.2.2.2.1.2 0 _ rfl).1 n1 (fun j => .int (g j))
  have hc1 : H[a]? = some (vp_cell (k 0) (n1, .inl g)) := hP q1 _ ha1
  obtain ⟨vm', X', step⟩ := X.arraycopy C.1 C.2.2.2.2.1 hlink hnat hstat hini (src := b0) (dst := a) (cs := sc) (cd := vp_cell (k 0) (n1, .inl g)) (srcPos := nI sp) (destPos := nI dp) (n := nI n) (by rw [hT2, hS.2.1 b0 (Array.getElem?_eq_some_iff.mp s1).1 s6]; exact s1) (by rw [hT2]; exact hc1) s7 (fun _ h => by cases h) s3 (fun h => by cases h) hk0 hk1 hkk0 hkk1 (by simp [refKind]) (nI_nn (by omega)) (nI_nn (by omega)) (nI_nn (by omega))
    (by rw [t1, t3]; omega) (by rw [t2, t3]; show ¬ _ > ((arrV (k 0) n1 (fun j => .int (g j))).slots.size : Int); rw [arrV_size]; omega)
    (fun vm₁ _ i hi => by
      rw [c3] at hi
      have e2 : sc.slots.getD ((nI sp).toNatClampNeg + i) .null = .int (f (sp + i)) := by
        rw [c1, Array.getD_eq_getD_getElem?, s5 _ (by omega)]; rfl
      rw [e2]
      exact ⟨rfl, trivial⟩)
    (g := F0 m pc ls (.int (nI n) :: .int (nI dp) :: .ref a :: .int (nI sp) :: .ref b0 :: rest)) rfl (by rw [hml]) (rest := rest) rfl (by rw [C.2.1]; exact hd) hframes (by show 2 * 0 + _ + _ ≤ _; omega)
  have e1 : copied sc (vp_cell (k 0) (n1, .inl g)) (nI sp) (nI dp) (nI n) = vp_cell (k 0) (n1, .inl (va_cpy f g sp dp n)) := by
    have := va_copiedX (fun z => Value.int z) sc (k 0) (n1 := n1) (dp := dp) f g s5 h4
    unfold copied
    rw [c1, c2, c3]
    exact this
  rw [e1] at X' step
  have hl : a < H.size := (Array.getElem?_eq_some_iff.mp hc1).1
  have oq : ∀ q : Nat, q ≠ a → (H.setIfInBounds a (vp_cell (k 0) (n1, .inl (va_cpy f g sp dp n))))[q]? = H[q]? := fun q hq => by simp [Array.getElem?_setIfInBounds, Ne.symm hq]
  obtain ⟨t9, a1, b1⟩ := kk _ _ (hP.set hD ha1 (show (H.setIfInBounds a _)[a]? = some _ by simp [Array.getElem?_setIfInBounds, hl]) oq) (hD.set ha1) ⟨by simp; exact hS.1, fun q g1 g2 => (oq q (fun z => g2 (by rw [z]; exact hD.2 q1 _ ha1))).trans (hS.2.1 q g1 g2), fun q hq => (List.mem_append.mp hq).elim (hS.2.2 q) (fun h => by
      obtain ⟨z, -, hz⟩ := List.mem_map.mp h
      rw [← hz]
      exact hD.2 q1 _ ha1)⟩ _ (by rw [← hT2]; rfl) X'
  exact ⟨t9, step t9 a1, b1⟩
end CP
set_option maxRecDepth 20000 in
theorem in_X3_plain_X3 : ∀ w ∈ u_ws RX3 TX3 8, w ∈ wsX3_plain := by decide +kernel
set_option maxRecDepth 20000 in
theorem lk_X3_plain_17 : Cond.fieldLink RX3 17 (TX3 1).1 (TX3 1).2.1 (TX3 1).2.2.1 ∈ wsX3_plain := by decide +kernel
set_option maxHeartbeats 4000000 in
set_option maxRecDepth 100000 in
theorem c_X3_plain (D : va_G) (k : Nat → ClassId) (t : Nat → Nat) (l : Launch) {ad : Nat → Nat} {N : Nat → Int32} {S Wt L : Nat → Nat → Int32} {T : Nat → Int32} {G : Nat → Nat → Int64} {E : Nat → Int32} {su pa tr sh : Nat → Int32} {pv : Int32} (x1 x2 : Int32) : Ci D k t l yX3_plain wsX3_plain ({ frames := 1, cells := 0, slots := 0, locals := 60 }) [.ref (ad 0), .int x1, .int x2] (TBw ad k N S Wt L T G E su pa tr sh pv) (fun r w => (∃ ja qa : Nat, (ja < 10 ∧ x1 = nI ja ∧ qa < 9 ∧ x2 = nI qa) ∧ r = nI 1 ∧ w = TBw ad k N S Wt (va_up L ja (va_cpy (fun j => tb_plain.getD j 0) (L ja) (qa * 8) 0 8)) T G E su pa tr sh pv) ∨ ((∀ ja qa : Nat, ¬ (ja < 10 ∧ x1 = nI ja ∧ qa < 9 ∧ x2 = nI qa)) ∧ r = nI 0 ∧ w = TBw ad k N S Wt L T G E su pa tr sh pv)) 0 0 := by
  refine fw_of (cc := cX3_plain) (maxL := 3) (ret := (some .boolean)) (Qc := fun A => va_Qi (fun r w => (∃ ja qa : Nat, (ja < 10 ∧ x1 = nI ja ∧ qa < 9 ∧ x2 = nI qa) ∧ r = nI 1 ∧ w = TBw ad k N S Wt (va_up L ja (va_cpy (fun j => tb_plain.getD j 0) (L ja) (qa * 8) 0 8)) T G E su pa tr sh pv) ∨ ((∀ ja qa : Nat, ¬ (ja < 10 ∧ x1 = nI ja ∧ qa < 9 ∧ x2 = nI qa)) ∧ r = nI 0 ∧ w = TBw ad k N S Wt L T G E su pa tr sh pv)) (BcW D A) A) (by decide) rfl (Nat.le_of_ble_eq_true rfl) ?_
  intro p e s m below meth c A ls C hP hD hl
  have C : Cx RX3 "plain" cX3_plain 3 (some .boolean) wsX3_plain D k t A p s m ([.ref (ad 0), .int x1, .int x2] : List Value).toArray meth c := C
  have hl : lv_has ls 3 [(0, .ref (ad 0)), (1, .int x1), (2, .int x2)] := hl
  have hx := C.1
  have hb := C.2.1
  have hown := C.2.2.2.2.1
  have hts := C.2.2.2.2.2.1
  have hK := C.2.2.2.2.2.2.2.2.1
  have hZ := C.2.2.2.2.2.2.2.2.2.1
  have hN := C.2.2.2.2.2.2.2.2.2.2
  have hS : va_S A s.heap s.heap [] := va_S.rf
  refine lv_iload_n hx hb dX3_plain_0 rfl (lv_at hl 1 rfl) ?_
  refine fw_i C hD hS (rn_S (As := [.int x1]) (rest := []) C (c_X3_isLaw D k t l x1 _) (va_cwS 1 hts gX3_plain_X3_isLaw rfl rfl rfl hdX3_isLaw ⟨Nat.le_of_ble_eq_true rfl, Nat.le_of_ble_eq_true rfl⟩) hP hD hS rfl hl.1 rfl (Nat.le_of_ble_eq_true rfl) dX3_plain_1 ⟨Nat.zero_le _, Nat.zero_le _⟩) (fun r1 wr1 H locs h2 hP hD hS => ?_)
  obtain ⟨rfl, rfl⟩ := h2
  refine lv_if_eq (tgt := 17) hx hb dX3_plain_4 (by decide) (fun c3 => ?_) (fun c3 => ?_)
  · have c3 := pb_z c3
    refine lv_iconst (v := nI 0) hx hb dX3_plain_17 (by decide) ?_
    exact Rz C hP hD hS (Nat.zero_le _) (Nat.zero_le _) rfl dX3_plain_18 (Or.inr ⟨fun j _ z => c3 ⟨j, Nat.zero_le _, z.1, z.2.1⟩, rfl, rfl⟩)
  · have c3 := pb_nz c3
    obtain ⟨j, h0j, hj, rfl⟩ := id c3
    refine lv_iload_n hx hb dX3_plain_7 rfl (lv_at hl 2 rfl) ?_
    refine lv_if_lt (tgt := 17) hx hb dX3_plain_8 (by decide) (fun c4 => ?_) (fun c4 => ?_)
    · refine lv_iconst (v := nI 0) hx hb dX3_plain_17 (by decide) ?_
      exact Rz C hP hD hS (Nat.zero_le _) (Nat.zero_le _) rfl dX3_plain_18 (Or.inr ⟨fun _ q z => by rw [z.2.2.2] at c4; exact nI_nn (by omega) c4, rfl, rfl⟩)
    · refine lv_iload_n hx hb dX3_plain_11 rfl (lv_at hl 2 rfl) ?_
      refine lv_bipush (v := nI 9) hx hb dX3_plain_12 (by decide) ?_
      refine lv_icmp_lt (tgt := 19) hx hb dX3_plain_14 (by decide) (fun c5 => ?_) (fun c5 => ?_)
      · obtain ⟨q0, hq0, rfl⟩ := ixL (N := 9) (by decide) c4 (Int32.not_le.mpr c5)
        refine va_gets hx hb (hZ.2.2.2.1.1) hS hown (hts (.fieldLink RX3 111 "TellingBench" "PLAIN_NUMBERS" "[I") (by decide +kernel)) (fun _ h9 => h9) dX3_plain_19 ?_
        refine lv_iload_n hx hb dX3_plain_22 rfl (lv_at hl 2 rfl) ?_
        refine lv_bipush (v := nI 8) hx hb dX3_plain_23 (by decide) ?_
        refine lv_imul hx hb dX3_plain_25 ?_
        refine tp_i (y := nI (q0 * 8)) (pk_mul _ _) ?_
        refine lv_aload_n hx hb dX3_plain_26 rfl (lv_at hl 0 rfl) ?_
        refine fg C hP 0 tb_o (ci := 3) rfl 1 (by decide) in_X3_plain_X3 lk_X3_plain_17 (v := .ref (ad 14)) rfl dX3_plain_27 ?_
        refine lv_iload_n hx hb dX3_plain_30 rfl (lv_at hl 1 rfl) ?_
        refine ar_r C hP 14 tb_ls (j := j) (v := .ref (ad (15 + j))) rfl (by omega) (by decide) dX3_plain_31 ?_
        refine lv_iconst (v := nI 0) hx hb dX3_plain_32 (by decide) ?_
        refine lv_bipush (v := nI 8) hx hb dX3_plain_33 (by decide) ?_
        refine cp_T C hP hD hS (C.2.2.2.1.trans hl.1.symm) (hts (.methodLink RX3 114 arraycopyName) (by decide +kernel)) (hts (.native arraycopyName) (by decide +kernel)) (hts (.static arraycopyName) (by decide +kernel)) (hts (.initialized "java/lang/System") (by decide +kernel)) (hZ.2.2.2.1.2) (15 + j) (tb_l hj) (sp := (q0 * 8)) (dp := 0) (n := 8) (by omega) (by omega) (by decide) (by decide) (Or.inl trivial) (tb_l_st hj _) (Nat.le_of_ble_eq_true rfl) (Nat.le_of_ble_eq_true rfl) dX3_plain_35 (fun H locs hP hD hS => ?_)
        refine lv_iconst (v := nI 1) hx hb dX3_plain_38 (by decide) ?_
        exact Rz C hP hD hS (Nat.zero_le _) (Nat.zero_le _) rfl dX3_plain_39 (Or.inl ⟨j, q0, ⟨hj, rfl, hq0, rfl⟩, rfl, rfl⟩)
      · refine lv_iconst (v := nI 0) hx hb dX3_plain_17 (by decide) ?_
        exact Rz C hP hD hS (Nat.zero_le _) (Nat.zero_le _) rfl dX3_plain_18 (Or.inr ⟨fun _ q z => by rw [z.2.2.2] at c5; exact c5 (nI_lt z.2.2.1 (by decide)), rfl, rfl⟩)

theorem tB_q {tr tr2 pa : Nat → Int32} {i j : Nat} (h : ∀ q, q < 9 → tB tr pa i j 3 q = tB tr2 pa i j 3 q) : True := trivial
/-- the shares that are tried, whatever stood there before -/
def shV (pa : Nat → Int32) (i j : Nat) : Nat → Int32 := tB (fun _ => 0) pa i j 3
theorem tA_in {tr tr2 pa : Nat → Int32} {i j : Nat} : ∀ h, h ≤ 3 → ∀ q, (q < h ∨ (3 ≤ q ∧ q < 3 + h)) → tA tr pa i j h q = tA tr2 pa i j h q
  | 0, _, q, hq => by omega
  | h + 1, hh, q, hq => by
    have ih := tA_in (tr := tr) (tr2 := tr2) (pa := pa) (i := i) (j := j) h (by omega)
    rw [tA, tA]
    split
    · by_cases e1 : q = 3 + h
      · subst e1; simp [upd]
      · by_cases e2 : q = h
        · subst e2; simp [upd]
        · simp only [upd, e1, e2, ↓reduceIte]; exact ih q (by omega)
    · by_cases e1 : q = 3 + h
      · subst e1; simp [upd]
      · by_cases e2 : q = h
        · subst e2; simp [upd]
        · simp only [upd, e1, e2, ↓reduceIte]; exact ih q (by omega)
theorem tM_in {tr tr2 pa : Nat → Int32} {i j : Nat} : ∀ h, h ≤ 3 → tM tr pa i j h = tM tr2 pa i j h
  | 0, _ => rfl
  | h + 1, hh => by
    rw [tM, tM, tM_in (tr2 := tr2) h (by omega), tA_in (tr2 := tr2) (h + 1) hh (3 + h) (by omega)]
theorem tB_in {tr tr2 pa : Nat → Int32} {i j : Nat} : ∀ h, h ≤ 3 → ∀ q, (q < 6 + h) → tB tr pa i j h q = tB tr2 pa i j h q
  | 0, _, q, hq => by
    rw [tB, tB, tM_in (tr2 := tr2) 3 (by omega)]
    unfold upd
    split
    · rfl
    · exact tA_in 3 (by omega) q (by omega)
  | h + 1, hh, q, hq => by
    have ih := tB_in (tr := tr) (tr2 := tr2) (pa := pa) (i := i) (j := j) h (by omega)
    rw [tB, tB]
    unfold upd
    split
    · rw [ih (3 + h) (by omega)]
    · exact ih q (by omega)
theorem tB_V {tr pa : Nat → Int32} {i j q : Nat} (hq : q < 9) : tB tr pa i j 3 q = shV pa i j q := tB_in 3 (by omega) q (by omega)
def OKC (pa : Nat → Int32) (i j : Nat) : Prop := LO i j ∧ ∀ q, q < 9 → ¬ shV pa i j q < 0
theorem okc_t {tr pa : Nat → Int32} {i j : Nat} (h : ∀ q, q < 9 → ¬ tB tr pa i j 3 q < 0) : ∀ q, q < 9 → ¬ shV pa i j q < 0 := fun q hq => by rw [← tB_V (tr := tr) hq]; exact h q hq
theorem okc_f {tr pa : Nat → Int32} {i j : Nat} (h : ¬ ∀ q, q < 9 → ¬ tB tr pa i j 3 q < 0) : ¬ OKC pa i j := fun z => h (fun q hq => by rw [tB_V hq]; exact z.2 q hq)
set_option maxRecDepth 20000 in
theorem in_X3_prove_X3 : ∀ w ∈ u_ws RX3 TX3 8, w ∈ wsX3_prove := by decide +kernel
set_option maxRecDepth 20000 in
theorem lk_X3_prove_17 : Cond.fieldLink RX3 17 (TX3 1).1 (TX3 1).2.1 (TX3 1).2.2.1 ∈ wsX3_prove := by decide +kernel
set_option maxRecDepth 20000 in
theorem lk_X3_prove_34 : Cond.fieldLink RX3 34 (TX3 5).1 (TX3 5).2.1 (TX3 5).2.2.1 ∈ wsX3_prove := by decide +kernel
set_option maxRecDepth 20000 in
theorem lk_X3_prove_37 : Cond.fieldLink RX3 37 (TX3 6).1 (TX3 6).2.1 (TX3 6).2.2.1 ∈ wsX3_prove := by decide +kernel
set_option maxRecDepth 20000 in
theorem lk_X3_prove_40 : Cond.fieldLink RX3 40 (TX3 7).1 (TX3 7).2.1 (TX3 7).2.2.1 ∈ wsX3_prove := by decide +kernel
set_option maxHeartbeats 4000000 in
set_option maxRecDepth 100000 in
theorem c_X3_prove (D : va_G) (k : Nat → ClassId) (t : Nat → Nat) (l : Launch) {ad : Nat → Nat} {N : Nat → Int32} {S Wt L : Nat → Nat → Int32} {T : Nat → Int32} {G : Nat → Nat → Int64} {E : Nat → Int32} {su pa tr sh : Nat → Int32} {pv : Int32} (x1 : Int32) : Ci D k t l yX3_prove wsX3_prove ({ frames := 2, cells := 0, slots := 0, locals := 70 }) [.ref (ad 0), .int x1] (TBw ad k N S Wt L T G E su pa tr sh pv) (fun r w => (∃ ja, (ja < 10 ∧ x1 = nI ja) ∧ ((∃ ia jb, ia < jb ∧ jb < 9 ∧ (∀ a b, a < b → b < 9 → (a < ia ∨ a = ia ∧ b < jb) → ¬ OKC (pts (L ja) pa 7) a b) ∧ OKC (pts (L ja) pa 7) ia jb ∧ r = nI 1 ∧ ∃ tr3 : Nat → Int32, w = TBw ad k N S Wt L T G E su (pts (L ja) pa 7) tr3 (shV (pts (L ja) pa 7) ia jb) (nI 1)) ∨ ((∀ a b, a < b → b < 9 → ¬ OKC (pts (L ja) pa 7) a b) ∧ r = nI 0 ∧ ∃ tr3 : Nat → Int32, w = TBw ad k N S Wt L T G E su (pts (L ja) pa 7) tr3 sh pv))) ∨ ((∀ ja, ¬ (ja < 10 ∧ x1 = nI ja)) ∧ r = nI 0 ∧ w = TBw ad k N S Wt L T G E su pa tr sh pv)) 0 0 := by
  refine fw_of (cc := cX3_prove) (maxL := 4) (ret := (some .boolean)) (Qc := fun A => va_Qi (fun r w => (∃ ja, (ja < 10 ∧ x1 = nI ja) ∧ ((∃ ia jb, ia < jb ∧ jb < 9 ∧ (∀ a b, a < b → b < 9 → (a < ia ∨ a = ia ∧ b < jb) → ¬ OKC (pts (L ja) pa 7) a b) ∧ OKC (pts (L ja) pa 7) ia jb ∧ r = nI 1 ∧ ∃ tr3 : Nat → Int32, w = TBw ad k N S Wt L T G E su (pts (L ja) pa 7) tr3 (shV (pts (L ja) pa 7) ia jb) (nI 1)) ∨ ((∀ a b, a < b → b < 9 → ¬ OKC (pts (L ja) pa 7) a b) ∧ r = nI 0 ∧ ∃ tr3 : Nat → Int32, w = TBw ad k N S Wt L T G E su (pts (L ja) pa 7) tr3 sh pv))) ∨ ((∀ ja, ¬ (ja < 10 ∧ x1 = nI ja)) ∧ r = nI 0 ∧ w = TBw ad k N S Wt L T G E su pa tr sh pv)) (BcW D A) A) (by decide) rfl (Nat.le_of_ble_eq_true rfl) ?_
  intro p e s m below meth c A ls C hP hD hl
  have C : Cx RX3 "prove" cX3_prove 4 (some .boolean) wsX3_prove D k t A p s m ([.ref (ad 0), .int x1] : List Value).toArray meth c := C
  have hl : lv_has ls 4 [(0, .ref (ad 0)), (1, .int x1)] := hl
  have hx := C.1
  have hb := C.2.1
  have hown := C.2.2.2.2.1
  have hts := C.2.2.2.2.2.1
  have hK := C.2.2.2.2.2.2.2.2.1
  have hZ := C.2.2.2.2.2.2.2.2.2.1
  have hN := C.2.2.2.2.2.2.2.2.2.2
  have hS : va_S A s.heap s.heap [] := va_S.rf
  refine lv_iload_n hx hb dX3_prove_0 rfl (lv_at hl 1 rfl) ?_
  refine fw_i C hD hS (rn_S (As := [.int x1]) (rest := []) C (c_X3_isLaw D k t l x1 _) (va_cwS 1 hts gX3_prove_X3_isLaw rfl rfl rfl hdX3_isLaw ⟨Nat.le_of_ble_eq_true rfl, Nat.le_of_ble_eq_true rfl⟩) hP hD hS rfl hl.1 rfl (Nat.le_of_ble_eq_true rfl) dX3_prove_1 ⟨Nat.zero_le _, Nat.zero_le _⟩) (fun r1 wr1 H locs h2 hP hD hS => ?_)
  obtain ⟨rfl, rfl⟩ := h2
  refine lv_if_ne (tgt := 9) hx hb dX3_prove_4 (by decide) (fun c3 => ?_) (fun c3 => ?_)
  · have c3 := pb_nz c3
    obtain ⟨j, h0j, hj, rfl⟩ := id c3
    refine lv_aload_n hx hb dX3_prove_9 rfl (lv_at hl 0 rfl) ?_
    refine lv_aload_n hx hb dX3_prove_10 rfl (lv_at hl 0 rfl) ?_
    refine fg C hP 0 tb_o (ci := 3) rfl 1 (by decide) in_X3_prove_X3 lk_X3_prove_17 (v := .ref (ad 14)) rfl dX3_prove_11 ?_
    refine lv_iload_n hx hb dX3_prove_14 rfl (lv_at hl 1 rfl) ?_
    refine ar_r C hP 14 tb_ls (j := j) (v := .ref (ad (15 + j))) rfl (by omega) (by decide) dX3_prove_15 ?_
    refine fw_v C hD hS (rn_V (As := [.ref (ad (15 + j))]) (rest := []) C (c_X3_splitIntoParts D k t l (j := j) hj _) (cwV 1 hts gX3_prove_X3_splitIntoParts rfl rfl rfl hdX3_splitIntoPartsC ⟨Nat.le_of_ble_eq_true rfl, Nat.le_of_ble_eq_true rfl⟩) 0 3 rfl tb_o rfl hP hD hS rfl hl.1 rfl (Nat.le_of_ble_eq_true rfl) dX3_prove_16 ⟨Nat.zero_le _, Nat.zero_le _⟩) (fun wr4 H locs h5 hP hD hS => ?_)
    obtain rfl := h5
    refine lv_iconst (v := nI 0) hx hb dX3_prove_19 (by decide) ?_
    refine lv_istore_n (lv' := [(2, .int (nI 0)), (0, .ref (ad 0)), (1, .int (nI j))]) hx hb dX3_prove_20 rfl hl (by decide) rfl (fun ls hl => ?_)
    have L6 : ∀ (r i0 : Nat), i0 + r = 9 → ∀ (tr1 : Nat → Int32), (∀ a b, a < i0 → a < b → b < 9 → ¬ OKC (pts (L j) pa 7) a b) → ∀ (H : Heap) (locs : List Loc) (ls : Array Slot), va_P D vwCl (TBw ad k N S Wt L T G E su (pts (L j) pa 7) tr1 sh pv) H → va_D A (TBw ad k N S Wt L T G E su (pts (L j) pa 7) tr1 sh pv) → va_S A s.heap H locs → lv_has ls 4 [(0, .ref (ad 0)), (1, .int (nI j)), (2, .int (nI i0))] → W p l e ({ frames := 2, cells := 0, slots := 0, locals := 70 }) s m ([.ref (ad 0), .int (nI j)] : List Value).toArray below meth c H locs 0 0 (MQ below (va_Qi (fun r w => (∃ ja, (ja < 10 ∧ (nI j) = nI ja) ∧ ((∃ ia jb, ia < jb ∧ jb < 9 ∧ (∀ a b, a < b → b < 9 → (a < ia ∨ a = ia ∧ b < jb) → ¬ OKC (pts (L ja) pa 7) a b) ∧ OKC (pts (L ja) pa 7) ia jb ∧ r = nI 1 ∧ ∃ tr3 : Nat → Int32, w = TBw ad k N S Wt L T G E su (pts (L ja) pa 7) tr3 (shV (pts (L ja) pa 7) ia jb) (nI 1)) ∨ ((∀ a b, a < b → b < 9 → ¬ OKC (pts (L ja) pa 7) a b) ∧ r = nI 0 ∧ ∃ tr3 : Nat → Int32, w = TBw ad k N S Wt L T G E su (pts (L ja) pa 7) tr3 sh pv))) ∨ ((∀ ja, ¬ (ja < 10 ∧ (nI j) = nI ja)) ∧ r = nI 0 ∧ w = TBw ad k N S Wt L T G E su pa tr sh pv)) (BcW D A) A) ([.ref (ad 0), .int (nI j)] : List Value).toArray s 0 0 A) (F0 m 21 ls []) := by
      intro r
      induction r with
      | zero =>
        intro i0 hr tr1 hia H locs ls hP hD hS hl
        obtain rfl : 9 = i0 := by omega
        refine lv_iload_n hx hb dX3_prove_21 rfl (lv_at hl 2 rfl) ?_
        refine lv_bipush (v := nI 9) hx hb dX3_prove_22 (by decide) ?_
        refine lv_icmp_ge (tgt := 88) hx hb dX3_prove_24 (by decide) (fun c7 => ?_) (fun c7 => absurd (nI_le (by omega) (by decide)) c7)
        refine lv_iconst (v := nI 0) hx hb dX3_prove_88 (by decide) ?_
        exact Rz C hP hD hS (Nat.zero_le _) (Nat.zero_le _) rfl dX3_prove_89 (Or.inl ⟨j, ⟨hj, rfl⟩, Or.inr ⟨fun a b h1 h2 => hia a b (by omega) h1 h2, rfl, _, rfl⟩⟩)
      | succ r ihL6 =>
        intro i0 hr tr1 hia H locs ls hP hD hS hl
        refine lv_iload_n hx hb dX3_prove_21 rfl (lv_at hl 2 rfl) ?_
        refine lv_bipush (v := nI 9) hx hb dX3_prove_22 (by decide) ?_
        refine lv_icmp_ge (tgt := 88) hx hb dX3_prove_24 (by decide) (fun c8 => absurd c8 (nI_ge (by omega) (by decide))) (fun c8 => ?_)
        refine lv_iload_n hx hb dX3_prove_27 rfl (lv_at hl 2 rfl) ?_
        refine lv_iconst (v := nI 1) hx hb dX3_prove_28 (by decide) ?_
        refine lv_iadd hx hb dX3_prove_29 ?_
        refine tp_i (y := nI (i0 + 1)) (nI_add _ _) ?_
        refine lv_istore_n (lv' := [(3, .int (nI (i0 + 1))), (0, .ref (ad 0)), (1, .int (nI j)), (2, .int (nI i0))]) hx hb dX3_prove_30 rfl hl (by decide) rfl (fun ls hl => ?_)
        have L9 : ∀ (r j0 : Nat), j0 + r = 9 → ∀ (tr1 : Nat → Int32), i0 < j0 → (∀ b, i0 < b → b < j0 → ¬ OKC (pts (L j) pa 7) i0 b) → ∀ (H : Heap) (locs : List Loc) (ls : Array Slot), va_P D vwCl (TBw ad k N S Wt L T G E su (pts (L j) pa 7) tr1 sh pv) H → va_D A (TBw ad k N S Wt L T G E su (pts (L j) pa 7) tr1 sh pv) → va_S A s.heap H locs → lv_has ls 4 [(0, .ref (ad 0)), (1, .int (nI j)), (2, .int (nI i0)), (3, .int (nI j0))] → W p l e ({ frames := 2, cells := 0, slots := 0, locals := 70 }) s m ([.ref (ad 0), .int (nI j)] : List Value).toArray below meth c H locs 0 0 (MQ below (va_Qi (fun r w => (∃ ja, (ja < 10 ∧ (nI j) = nI ja) ∧ ((∃ ia jb, ia < jb ∧ jb < 9 ∧ (∀ a b, a < b → b < 9 → (a < ia ∨ a = ia ∧ b < jb) → ¬ OKC (pts (L ja) pa 7) a b) ∧ OKC (pts (L ja) pa 7) ia jb ∧ r = nI 1 ∧ ∃ tr3 : Nat → Int32, w = TBw ad k N S Wt L T G E su (pts (L ja) pa 7) tr3 (shV (pts (L ja) pa 7) ia jb) (nI 1)) ∨ ((∀ a b, a < b → b < 9 → ¬ OKC (pts (L ja) pa 7) a b) ∧ r = nI 0 ∧ ∃ tr3 : Nat → Int32, w = TBw ad k N S Wt L T G E su (pts (L ja) pa 7) tr3 sh pv))) ∨ ((∀ ja, ¬ (ja < 10 ∧ (nI j) = nI ja)) ∧ r = nI 0 ∧ w = TBw ad k N S Wt L T G E su pa tr sh pv)) (BcW D A) A) ([.ref (ad 0), .int (nI j)] : List Value).toArray s 0 0 A) (F0 m 31 ls []) := by
          intro r
          induction r with
          | zero =>
            intro j0 hr tr1 hij hib H locs ls hP hD hS hl
            obtain rfl : 9 = j0 := by omega
            refine lv_iload_n hx hb dX3_prove_31 rfl (lv_at hl 3 rfl) ?_
            refine lv_bipush (v := nI 9) hx hb dX3_prove_32 (by decide) ?_
            refine lv_icmp_ge (tgt := 82) hx hb dX3_prove_34 (by decide) (fun c10 => ?_) (fun c10 => absurd (nI_le (by omega) (by decide)) c10)
            refine lv_iinc (v := nI (i0 + 1)) (lv' := [(2, .int (nI (i0 + 1))), (0, .ref (ad 0)), (1, .int (nI j)), (3, .int (nI 9))]) hx hb dX3_prove_82 hl (k := 2) rfl (by rw [← nI_add i0 1]; rfl) (by decide) rfl (fun ls hl => ?_)
            refine lv_goto (tgt := 21) hx hb dX3_prove_85 (by decide) ?_
            exact ihL6 (i0 + 1) (by omega) _ (fun a b h1 h2 h3 => if e : a = i0 then by subst e; exact hib b h2 h3 else hia a b (by omega) h2 h3) _ _ _ hP hD hS (lv_sub hl [1, 2, 0] rfl)
          | succ r ihL9 =>
            intro j0 hr tr1 hij hib H locs ls hP hD hS hl
            refine lv_iload_n hx hb dX3_prove_31 rfl (lv_at hl 3 rfl) ?_
            refine lv_bipush (v := nI 9) hx hb dX3_prove_32 (by decide) ?_
            refine lv_icmp_ge (tgt := 82) hx hb dX3_prove_34 (by decide) (fun c11 => absurd c11 (nI_ge (by omega) (by decide))) (fun c11 => ?_)
            refine lv_iload_n hx hb dX3_prove_37 rfl (lv_at hl 2 rfl) ?_
            refine lv_iload_n hx hb dX3_prove_38 rfl (lv_at hl 3 rfl) ?_
            refine fw_i C hD hS (rn_S (As := [.int (nI i0), .int (nI j0)]) (rest := []) C (c_X3_leavesOneRow D k t l (i0 := i0) (j0 := j0) (by omega) (by omega) _) (va_cwS 2 hts gX3_prove_X3_leavesOneRow rfl rfl rfl hdX3_leavesOneRow ⟨Nat.le_of_ble_eq_true rfl, Nat.le_of_ble_eq_true rfl⟩) hP hD hS rfl hl.1 rfl (Nat.le_of_ble_eq_true rfl) dX3_prove_39 ⟨Nat.zero_le _, Nat.zero_le _⟩) (fun r12 wr12 H locs h13 hP hD hS => ?_)
            obtain ⟨rfl, rfl⟩ := h13
            refine lv_if_eq (tgt := 76) hx hb dX3_prove_42 (by decide) (fun c14 => ?_) (fun c14 => ?_)
            · have c14 := pb_z c14
              refine lv_iinc (v := nI (j0 + 1)) (lv' := [(3, .int (nI (j0 + 1))), (0, .ref (ad 0)), (1, .int (nI j)), (2, .int (nI i0))]) hx hb dX3_prove_76 hl (k := 3) rfl (by rw [← nI_add j0 1]; rfl) (by decide) rfl (fun ls hl => ?_)
              refine lv_goto (tgt := 31) hx hb dX3_prove_79 (by decide) ?_
              exact ihL9 (j0 + 1) (by omega) _ (by omega) (fun b h1 h2 => if e : b = j0 then by rw [e]; exact fun z => c14 z.1 else hib b h1 (by omega)) _ _ _ hP hD hS (lv_sub hl [1, 2, 3, 0] rfl)
            · have c14 := pb_nz c14
              refine lv_aload_n hx hb dX3_prove_45 rfl (lv_at hl 0 rfl) ?_
              refine lv_iload_n hx hb dX3_prove_46 rfl (lv_at hl 2 rfl) ?_
              refine lv_iload_n hx hb dX3_prove_47 rfl (lv_at hl 3 rfl) ?_
              refine fw_i C hD hS (rn_V (As := [.int (nI i0), .int (nI j0)]) (rest := []) C (c_X3_tryWithout D k t l (pa := pts (L j) pa 7) (tr := tr1) (i0 := i0) (j0 := j0) (by omega) (by omega) _) (cwV 2 hts gX3_prove_X3_tryWithout rfl rfl rfl hdX3_tryWithoutC ⟨Nat.le_of_ble_eq_true rfl, Nat.le_of_ble_eq_true rfl⟩) 0 3 rfl tb_o rfl hP hD hS rfl hl.1 rfl (Nat.le_of_ble_eq_true rfl) dX3_prove_48 ⟨Nat.zero_le _, Nat.zero_le _⟩) (fun r15 wr15 H locs h16 hP hD hS => ?_)
              obtain ⟨rfl, rfl⟩ := h16
              refine lv_if_eq (tgt := 76) hx hb dX3_prove_51 (by decide) (fun c17 => ?_) (fun c17 => ?_)
              · have c17 := pb_z c17
                refine lv_iinc (v := nI (j0 + 1)) (lv' := [(3, .int (nI (j0 + 1))), (0, .ref (ad 0)), (1, .int (nI j)), (2, .int (nI i0))]) hx hb dX3_prove_76 hl (k := 3) rfl (by rw [← nI_add j0 1]; rfl) (by decide) rfl (fun ls hl => ?_)
                refine lv_goto (tgt := 31) hx hb dX3_prove_79 (by decide) ?_
                exact ihL9 (j0 + 1) (by omega) _ (by omega) (fun b h1 h2 => if e : b = j0 then by rw [e]; exact okc_f c17 else hib b h1 (by omega)) _ _ _ hP hD hS (lv_sub hl [1, 2, 3, 0] rfl)
              · have c17 := pb_nz c17
                refine lv_aload_n hx hb dX3_prove_54 rfl (lv_at hl 0 rfl) ?_
                refine fg C hP 0 tb_o (ci := 3) rfl 5 (by decide) in_X3_prove_X3 lk_X3_prove_34 (v := .ref (ad 33)) rfl dX3_prove_55 ?_
                refine lv_iconst (v := nI 0) hx hb dX3_prove_58 (by decide) ?_
                refine lv_aload_n hx hb dX3_prove_59 rfl (lv_at hl 0 rfl) ?_
                refine fg C hP 0 tb_o (ci := 3) rfl 6 (by decide) in_X3_prove_X3 lk_X3_prove_37 (v := .ref (ad 34)) rfl dX3_prove_60 ?_
                refine lv_iconst (v := nI 0) hx hb dX3_prove_63 (by decide) ?_
                refine lv_bipush (v := nI 9) hx hb dX3_prove_64 (by decide) ?_
                refine cp_i C hP hD hS (C.2.2.2.1.trans hl.1.symm) (hts (.methodLink RX3 114 arraycopyName) (by decide +kernel)) (hts (.native arraycopyName) (by decide +kernel)) (hts (.static arraycopyName) (by decide +kernel)) (hts (.initialized "java/lang/System") (by decide +kernel)) 33 34 tb_tr tb_sh (sp := 0) (dp := 0) (n := 9) (by omega) (by omega) (by decide) (by decide) (Or.inl trivial) (tb_sh_st _) (Nat.le_of_ble_eq_true rfl) (Nat.le_of_ble_eq_true rfl) dX3_prove_66 (fun H locs hP hD hS => ?_)
                obtain ⟨hP, hD⟩ := cg_i hP hD tb_sh (g := shV (pts (L j) pa 7) i0 j0) (fun q hq => (if_pos (by omega)).trans (by rw [show 0 + (q - 0) = q by omega]; exact tB_V hq)) (tb_sh_st _)
                refine lv_aload_n hx hb dX3_prove_69 rfl (lv_at hl 0 rfl) ?_
                refine lv_iconst (v := nI 1) hx hb dX3_prove_70 (by decide) ?_
                refine fp C hP hD hS tyX3_ok nmX3 0 tb_o (ci := 3) rfl 7 (by decide) in_X3_prove_X3 lk_X3_prove_40 rfl (ty := .boolean) (v := .int (nI 1)) (by decide +kernel) rfl rfl (Nat.le_of_ble_eq_true rfl) (tb_o_st _) dX3_prove_71 (fun H locs hP hD hS => ?_)
                refine lv_iconst (v := nI 1) hx hb dX3_prove_74 (by decide) ?_
                exact Rz C hP hD hS (Nat.zero_le _) (Nat.zero_le _) rfl dX3_prove_75 (Or.inl ⟨j, ⟨hj, rfl⟩, Or.inl ⟨i0, j0, by omega, by omega, fun a b h1 h2 h3 => h3.elim (fun h => hia a b h h1 h2) (fun h => by obtain ⟨rfl, h⟩ := h; exact hib b h1 h), ⟨c14, okc_t c17⟩, rfl, _, rfl⟩⟩)
        exact L9 (9 - (i0 + 1)) (i0 + 1) (by omega) _ (by omega) (fun b h1 h2 => absurd h1 (by omega)) _ _ _ hP hD hS (lv_sub hl [1, 2, 3, 0] rfl)
    exact L6 (9 - 0) 0 (by omega) _ (fun a b h => absurd h (Nat.not_lt_zero _)) _ _ _ hP hD hS (lv_sub hl [1, 2, 0] rfl)
  · have c3 := pb_z c3
    refine lv_iconst (v := nI 0) hx hb dX3_prove_7 (by decide) ?_
    exact Rz C hP hD hS (Nat.zero_le _) (Nat.zero_le _) rfl dX3_prove_8 (Or.inr ⟨fun ja q => c3 ⟨ja, Nat.zero_le _, q.1, q.2⟩, rfl, rfl⟩)

