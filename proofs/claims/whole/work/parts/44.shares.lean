/-! shares -/
def sp (f : Nat → Int32) (q : Nat) : Nat → Int32
  | 0 => nI 0
  | i + 1 => if nI (i + 1) &&& nI q = 0 then sp f q i else sp f q i + f (i + 1)
def pts (f pa : Nat → Int32) : Nat → Nat → Int32
  | 0 => pa
  | i + 1 => upd (pts f pa i) (i + 1) (sp f (i + 1) 7)
def LO (i j : Nat) : Prop := 3 ≤ i ∧ 3 ≤ j ∧ i % 3 ≠ j % 3
set_option maxRecDepth 20000 in
theorem in_X3_splitIntoParts_X3 : ∀ w ∈ u_ws RX3 TX3 8, w ∈ wsX3_splitIntoParts := by decide +kernel
set_option maxRecDepth 20000 in
theorem lk_X3_splitIntoParts_31 : Cond.fieldLink RX3 31 (TX3 4).1 (TX3 4).2.1 (TX3 4).2.2.1 ∈ wsX3_splitIntoParts := by decide +kernel
set_option maxHeartbeats 4000000 in
set_option maxRecDepth 100000 in
theorem c_X3_splitIntoParts (D : va_G) (k : Nat → ClassId) (t : Nat → Nat) (l : Launch) {ad : Nat → Nat} {N : Nat → Int32} {S Wt L : Nat → Nat → Int32} {T : Nat → Int32} {G : Nat → Nat → Int64} {E : Nat → Int32} {su pa tr sh : Nat → Int32} {pv : Int32} {j : Nat} (hj : j < 10) : Cv D k t l yX3_splitIntoParts wsX3_splitIntoParts ({ frames := 0, cells := 0, slots := 0, locals := 0 }) [.ref (ad 0), .ref (ad (15 + j))] (TBw ad k N S Wt L T G E su pa tr sh pv) (fun w => w = TBw ad k N S Wt L T G E su (pts (L j) pa 7) tr sh pv) 0 0 := by
  refine fw_of (cc := cX3_splitIntoParts) (maxL := 5) (ret := none) (Qc := fun A => va_Qv (fun w => w = TBw ad k N S Wt L T G E su (pts (L j) pa 7) tr sh pv) (BcW D A) A) (by decide) rfl (Nat.le_of_ble_eq_true rfl) ?_
  intro p e s m below meth c A ls C hP hD hl
  have C : Cx RX3 "splitIntoParts" cX3_splitIntoParts 5 none wsX3_splitIntoParts D k t A p s m ([.ref (ad 0), .ref (ad (15 + j))] : List Value).toArray meth c := C
  have hl : lv_has ls 5 [(0, .ref (ad 0)), (1, .ref (ad (15 + j)))] := hl
  have hx := C.1
  have hb := C.2.1
  have hown := C.2.2.2.2.1
  have hts := C.2.2.2.2.2.1
  have hK := C.2.2.2.2.2.2.2.2.1
  have hZ := C.2.2.2.2.2.2.2.2.2.1
  have hN := C.2.2.2.2.2.2.2.2.2.2
  have hS : va_S A s.heap s.heap [] := va_S.rf
  refine lv_iconst (v := nI 1) hx hb dX3_splitIntoParts_0 (by decide) ?_
  refine tp_i (y := nI (0 + 1)) (rfl) ?_
  refine lv_istore_n (lv' := [(2, .int (nI (0 + 1))), (0, .ref (ad 0)), (1, .ref (ad (15 + j)))]) hx hb dX3_splitIntoParts_1 rfl hl (by decide) rfl (fun ls hl => ?_)
  have L1 : ∀ (r i : Nat), i + r = 7 → ∀ (H : Heap) (locs : List Loc) (ls : Array Slot), va_P D vwCl (TBw ad k N S Wt L T G E su (pts (L j) pa i) tr sh pv) H → va_D A (TBw ad k N S Wt L T G E su (pts (L j) pa i) tr sh pv) → va_S A s.heap H locs → lv_has ls 5 [(0, .ref (ad 0)), (1, .ref (ad (15 + j))), (2, .int (nI (i + 1)))] → W p l e ({ frames := 0, cells := 0, slots := 0, locals := 0 }) s m ([.ref (ad 0), .ref (ad (15 + j))] : List Value).toArray below meth c H locs 0 0 (MQ below (va_Qv (fun w => w = TBw ad k N S Wt L T G E su (pts (L j) pa 7) tr sh pv) (BcW D A) A) ([.ref (ad 0), .ref (ad (15 + j))] : List Value).toArray s 0 0 A) (F0 m 2 ls []) := by
    intro r
    induction r with
    | zero =>
      intro i hr H locs ls hP hD hS hl
      obtain rfl : 7 = i := by omega
      refine lv_iload_n hx hb dX3_splitIntoParts_2 rfl (lv_at hl 2 rfl) ?_
      refine lv_bipush (v := nI 8) hx hb dX3_splitIntoParts_3 (by decide) ?_
      refine lv_icmp_ge (tgt := 53) hx hb dX3_splitIntoParts_5 (by decide) (fun c2 => ?_) (fun c2 => absurd (nI_le (by omega) (by decide)) c2)
      exact Rv C hP hD hS (Nat.zero_le _) (Nat.zero_le _) dX3_splitIntoParts_53 rfl
    | succ r ihL1 =>
      intro i hr H locs ls hP hD hS hl
      refine lv_iload_n hx hb dX3_splitIntoParts_2 rfl (lv_at hl 2 rfl) ?_
      refine lv_bipush (v := nI 8) hx hb dX3_splitIntoParts_3 (by decide) ?_
      refine lv_icmp_ge (tgt := 53) hx hb dX3_splitIntoParts_5 (by decide) (fun c3 => absurd c3 (nI_ge (by omega) (by decide))) (fun c3 => ?_)
      refine lv_iconst (v := nI 0) hx hb dX3_splitIntoParts_8 (by decide) ?_
      refine tp_i (y := sp (L j) (i + 1) 0) (rfl) ?_
      refine lv_istore_n (lv' := [(3, .int (sp (L j) (i + 1) 0)), (0, .ref (ad 0)), (1, .ref (ad (15 + j))), (2, .int (nI (i + 1)))]) hx hb dX3_splitIntoParts_9 rfl hl (by decide) rfl (fun ls hl => ?_)
      refine lv_iconst (v := nI 1) hx hb dX3_splitIntoParts_10 (by decide) ?_
      refine tp_i (y := nI (0 + 1)) (rfl) ?_
      refine lv_istore (lv' := [(4, .int (nI (0 + 1))), (3, .int (sp (L j) (i + 1) 0)), (0, .ref (ad 0)), (1, .ref (ad (15 + j))), (2, .int (nI (i + 1)))]) hx hb dX3_splitIntoParts_11 hl (by decide) rfl (fun ls hl => ?_)
      have L4 : ∀ (r h : Nat), h + r = 7 → ∀ (H : Heap) (locs : List Loc) (ls : Array Slot), va_P D vwCl (TBw ad k N S Wt L T G E su (pts (L j) pa i) tr sh pv) H → va_D A (TBw ad k N S Wt L T G E su (pts (L j) pa i) tr sh pv) → va_S A s.heap H locs → lv_has ls 5 [(0, .ref (ad 0)), (1, .ref (ad (15 + j))), (2, .int (nI (i + 1))), (3, .int (sp (L j) (i + 1) h)), (4, .int (nI (h + 1)))] → W p l e ({ frames := 0, cells := 0, slots := 0, locals := 0 }) s m ([.ref (ad 0), .ref (ad (15 + j))] : List Value).toArray below meth c H locs 0 0 (MQ below (va_Qv (fun w => w = TBw ad k N S Wt L T G E su (pts (L j) pa 7) tr sh pv) (BcW D A) A) ([.ref (ad 0), .ref (ad (15 + j))] : List Value).toArray s 0 0 A) (F0 m 13 ls []) := by
        intro r
        induction r with
        | zero =>
          intro h hr H locs ls hP hD hS hl
          obtain rfl : 7 = h := by omega
          refine lv_iload hx hb dX3_splitIntoParts_13 (lv_at hl 4 rfl) ?_
          refine lv_bipush (v := nI 8) hx hb dX3_splitIntoParts_15 (by decide) ?_
          refine lv_icmp_ge (tgt := 40) hx hb dX3_splitIntoParts_17 (by decide) (fun c5 => ?_) (fun c5 => absurd (nI_le (by omega) (by decide)) c5)
          refine lv_aload_n hx hb dX3_splitIntoParts_40 rfl (lv_at hl 0 rfl) ?_
          refine fg C hP 0 tb_o (ci := 3) rfl 4 (by decide) in_X3_splitIntoParts_X3 lk_X3_splitIntoParts_31 (v := .ref (ad 32)) rfl dX3_splitIntoParts_41 ?_
          refine lv_iload_n hx hb dX3_splitIntoParts_44 rfl (lv_at hl 2 rfl) ?_
          refine lv_iload_n hx hb dX3_splitIntoParts_45 rfl (lv_at hl 3 rfl) ?_
          refine as_i C hP hD hS 32 tb_pa (j := (i + 1)) (by omega) (by decide) (tb_pa_st _) dX3_splitIntoParts_46 (fun H locs hP hD hS => ?_)
          refine lv_iinc (v := nI ((i + 1) + 1)) (lv' := [(2, .int (nI ((i + 1) + 1))), (0, .ref (ad 0)), (1, .ref (ad (15 + j))), (3, .int (sp (L j) (i + 1) 7)), (4, .int (nI (7 + 1)))]) hx hb dX3_splitIntoParts_47 hl (k := 2) rfl (by rw [← nI_add (i + 1) 1]; rfl) (by decide) rfl (fun ls hl => ?_)
          refine lv_goto (tgt := 2) hx hb dX3_splitIntoParts_50 (by decide) ?_
          exact ihL1 (i + 1) (by omega) _ _ _ hP hD hS (lv_sub hl [1, 2, 0] rfl)
        | succ r ihL4 =>
          intro h hr H locs ls hP hD hS hl
          refine lv_iload hx hb dX3_splitIntoParts_13 (lv_at hl 4 rfl) ?_
          refine lv_bipush (v := nI 8) hx hb dX3_splitIntoParts_15 (by decide) ?_
          refine lv_icmp_ge (tgt := 40) hx hb dX3_splitIntoParts_17 (by decide) (fun c6 => absurd c6 (nI_ge (by omega) (by decide))) (fun c6 => ?_)
          refine lv_iload hx hb dX3_splitIntoParts_20 (lv_at hl 4 rfl) ?_
          refine lv_iload_n hx hb dX3_splitIntoParts_22 rfl (lv_at hl 2 rfl) ?_
          refine lv_iand hx hb dX3_splitIntoParts_23 ?_
          refine lv_if_eq (tgt := 34) hx hb dX3_splitIntoParts_24 (by decide) (fun c7 => ?_) (fun c7 => ?_)
          · refine lv_iinc (v := nI ((h + 1) + 1)) (lv' := [(4, .int (nI ((h + 1) + 1))), (0, .ref (ad 0)), (1, .ref (ad (15 + j))), (2, .int (nI (i + 1))), (3, .int (sp (L j) (i + 1) h))]) hx hb dX3_splitIntoParts_34 hl (k := 4) rfl (by rw [← nI_add (h + 1) 1]; rfl) (by decide) rfl (fun ls hl => ?_)
            refine lv_goto (tgt := 13) hx hb dX3_splitIntoParts_37 (by decide) ?_
            rw [show sp (L j) (i + 1) h = sp (L j) (i + 1) (h + 1) from (if_pos c7).symm] at hl
            exact ihL4 (h + 1) (by omega) _ _ _ hP hD hS (lv_sub hl [1, 2, 3, 4, 0] rfl)
          · refine lv_iload_n hx hb dX3_splitIntoParts_27 rfl (lv_at hl 3 rfl) ?_
            refine lv_aload_n hx hb dX3_splitIntoParts_28 rfl (lv_at hl 1 rfl) ?_
            refine lv_iload hx hb dX3_splitIntoParts_29 (lv_at hl 4 rfl) ?_
            refine ar_i C hP (15 + j) (tb_l hj) (j := (h + 1)) (by omega) (by decide) dX3_splitIntoParts_31 ?_
            refine lv_iadd hx hb dX3_splitIntoParts_32 ?_
            refine tp_i (y := sp (L j) (i + 1) (h + 1)) ((if_neg c7).symm) ?_
            refine lv_istore_n (lv' := [(3, .int (sp (L j) (i + 1) (h + 1))), (0, .ref (ad 0)), (1, .ref (ad (15 + j))), (2, .int (nI (i + 1))), (4, .int (nI (h + 1)))]) hx hb dX3_splitIntoParts_33 rfl hl (by decide) rfl (fun ls hl => ?_)
            refine lv_iinc (v := nI ((h + 1) + 1)) (lv' := [(4, .int (nI ((h + 1) + 1))), (3, .int (sp (L j) (i + 1) (h + 1))), (0, .ref (ad 0)), (1, .ref (ad (15 + j))), (2, .int (nI (i + 1)))]) hx hb dX3_splitIntoParts_34 hl (k := 4) rfl (by rw [← nI_add (h + 1) 1]; rfl) (by decide) rfl (fun ls hl => ?_)
            refine lv_goto (tgt := 13) hx hb dX3_splitIntoParts_37 (by decide) ?_
            exact ihL4 (h + 1) (by omega) _ _ _ hP hD hS (lv_sub hl [2, 3, 4, 1, 0] rfl)
      exact L4 (7 - 0) 0 (by omega) _ _ _ hP hD hS (lv_sub hl [2, 3, 4, 1, 0] rfl)
  exact L1 (7 - 0) 0 (by omega) _ _ _ hP hD hS (lv_sub hl [1, 2, 0] rfl)

set_option maxHeartbeats 4000000 in
set_option maxRecDepth 100000 in
theorem c_X3_leavesOneRow (D : va_G) (k : Nat → ClassId) (t : Nat → Nat) (l : Launch) {ws : va_W} {i0 j0 : Nat} (hi0 : i0 < 9) (hj0 : j0 < 9) : Ci D k t l yX3_leavesOneRow wsX3_leavesOneRow ({ frames := 0, cells := 0, slots := 0, locals := 0 }) [.int (nI i0), .int (nI j0)] (ws) (fun r w => r = pb (LO i0 j0) ∧ w = ws) 0 0 := by
  refine fw_of (cc := cX3_leavesOneRow) (maxL := 2) (ret := (some .boolean)) (Qc := fun A => va_Qi (fun r w => r = pb (LO i0 j0) ∧ w = ws) (BcW D A) A) (by decide) rfl (Nat.le_of_ble_eq_true rfl) ?_
  intro p e s m below meth c A ls C hP hD hl
  have C : Cx RX3 "leavesOneRow" cX3_leavesOneRow 2 (some .boolean) wsX3_leavesOneRow D k t A p s m ([.int (nI i0), .int (nI j0)] : List Value).toArray meth c := C
  have hl : lv_has ls 2 [(0, .int (nI i0)), (1, .int (nI j0))] := hl
  have hx := C.1
  have hb := C.2.1
  have hown := C.2.2.2.2.1
  have hts := C.2.2.2.2.2.1
  have hK := C.2.2.2.2.2.2.2.2.1
  have hZ := C.2.2.2.2.2.2.2.2.2.1
  have hN := C.2.2.2.2.2.2.2.2.2.2
  have hS : va_S A s.heap s.heap [] := va_S.rf
  refine lv_iload_n hx hb dX3_leavesOneRow_0 rfl (lv_at hl 0 rfl) ?_
  refine lv_iconst (v := nI 3) hx hb dX3_leavesOneRow_1 (by decide) ?_
  refine lv_icmp_lt (tgt := 23) hx hb dX3_leavesOneRow_2 (by decide) (fun c1 => ?_) (fun c1 => ?_)
  · refine lv_iconst (v := nI 0) hx hb dX3_leavesOneRow_23 (by decide) ?_
    exact Rz C hP hD hS (Nat.zero_le _) (Nat.zero_le _) rfl dX3_leavesOneRow_24 (⟨(pb_f (fun h => nI_nlt h.1 (by omega) c1)).symm, rfl⟩)
  · refine lv_iload_n hx hb dX3_leavesOneRow_5 rfl (lv_at hl 1 rfl) ?_
    refine lv_iconst (v := nI 3) hx hb dX3_leavesOneRow_6 (by decide) ?_
    refine lv_icmp_lt (tgt := 23) hx hb dX3_leavesOneRow_7 (by decide) (fun c2 => ?_) (fun c2 => ?_)
    · refine lv_iconst (v := nI 0) hx hb dX3_leavesOneRow_23 (by decide) ?_
      exact Rz C hP hD hS (Nat.zero_le _) (Nat.zero_le _) rfl dX3_leavesOneRow_24 (⟨(pb_f (fun h => nI_nlt h.2.1 (by omega) c2)).symm, rfl⟩)
    · refine lv_iload_n hx hb dX3_leavesOneRow_10 rfl (lv_at hl 0 rfl) ?_
      refine lv_iconst (v := nI 3) hx hb dX3_leavesOneRow_11 (by decide) ?_
      refine lv_irem hx hb dX3_leavesOneRow_12 (by decide) ?_
      refine tp_i (y := nI (i0 % 3)) (pk_rem (by omega) (by omega) (by omega)) ?_
      refine lv_iload_n hx hb dX3_leavesOneRow_13 rfl (lv_at hl 1 rfl) ?_
      refine lv_iconst (v := nI 3) hx hb dX3_leavesOneRow_14 (by decide) ?_
      refine lv_irem hx hb dX3_leavesOneRow_15 (by decide) ?_
      refine tp_i (y := nI (j0 % 3)) (pk_rem (by omega) (by omega) (by omega)) ?_
      refine lv_icmp_eq (tgt := 23) hx hb dX3_leavesOneRow_16 (by decide) (fun c3 => ?_) (fun c3 => ?_)
      · refine lv_iconst (v := nI 0) hx hb dX3_leavesOneRow_23 (by decide) ?_
        exact Rz C hP hD hS (Nat.zero_le _) (Nat.zero_le _) rfl dX3_leavesOneRow_24 (⟨(pb_f (fun h => h.2.2 (nI_inj (by omega) (by omega) c3))).symm, rfl⟩)
      · refine lv_iconst (v := nI 1) hx hb dX3_leavesOneRow_19 (by decide) ?_
        refine lv_goto (tgt := 24) hx hb dX3_leavesOneRow_20 (by decide) ?_
        exact Rz C hP hD hS (Nat.zero_le _) (Nat.zero_le _) rfl dX3_leavesOneRow_24 (⟨(pb_t ⟨Nat.not_lt.mp fun q => c1 (nI_lt q (by omega)), Nat.not_lt.mp fun q => c2 (nI_lt q (by omega)), fun q => c3 (by rw [q])⟩).symm, rfl⟩)

set_option maxHeartbeats 4000000 in
set_option maxRecDepth 100000 in
theorem c_X3_noneIsBelowNought (D : va_G) (k : Nat → ClassId) (t : Nat → Nat) (l : Launch) {ad : Nat → Nat} {N : Nat → Int32} {S Wt L : Nat → Nat → Int32} {T : Nat → Int32} {G : Nat → Nat → Int64} {E : Nat → Int32} {su pa tr sh : Nat → Int32} {pv : Int32} : Ci D k t l yX3_noneIsBelowNought wsX3_noneIsBelowNought ({ frames := 0, cells := 0, slots := 0, locals := 0 }) [.ref (ad 33)] (TBw ad k N S Wt L T G E su pa tr sh pv) (fun r w => r = pb (∀ q, q < 9 → ¬ tr q < 0) ∧ w = TBw ad k N S Wt L T G E su pa tr sh pv) 0 0 := by
  refine fw_of (cc := cX3_noneIsBelowNought) (maxL := 2) (ret := (some .boolean)) (Qc := fun A => va_Qi (fun r w => r = pb (∀ q, q < 9 → ¬ tr q < 0) ∧ w = TBw ad k N S Wt L T G E su pa tr sh pv) (BcW D A) A) (by decide) rfl (Nat.le_of_ble_eq_true rfl) ?_
  intro p e s m below meth c A ls C hP hD hl
  have C : Cx RX3 "noneIsBelowNought" cX3_noneIsBelowNought 2 (some .boolean) wsX3_noneIsBelowNought D k t A p s m ([.ref (ad 33)] : List Value).toArray meth c := C
  have hl : lv_has ls 2 [(0, .ref (ad 33))] := hl
  have hx := C.1
  have hb := C.2.1
  have hown := C.2.2.2.2.1
  have hts := C.2.2.2.2.2.1
  have hK := C.2.2.2.2.2.2.2.2.1
  have hZ := C.2.2.2.2.2.2.2.2.2.1
  have hN := C.2.2.2.2.2.2.2.2.2.2
  have hS : va_S A s.heap s.heap [] := va_S.rf
  refine lv_iconst (v := nI 0) hx hb dX3_noneIsBelowNought_0 (by decide) ?_
  refine lv_istore_n (lv' := [(1, .int (nI 0)), (0, .ref (ad 33))]) hx hb dX3_noneIsBelowNought_1 rfl hl (by decide) rfl (fun ls hl => ?_)
  have L1 : ∀ (r i : Nat), i + r = 9 → (∀ q, q < i → ¬ tr q < 0) → ∀ (H : Heap) (locs : List Loc) (ls : Array Slot), va_P D vwCl (TBw ad k N S Wt L T G E su pa tr sh pv) H → va_D A (TBw ad k N S Wt L T G E su pa tr sh pv) → va_S A s.heap H locs → lv_has ls 2 [(0, .ref (ad 33)), (1, .int (nI i))] → W p l e ({ frames := 0, cells := 0, slots := 0, locals := 0 }) s m ([.ref (ad 33)] : List Value).toArray below meth c H locs 0 0 (MQ below (va_Qi (fun r w => r = pb (∀ q, q < 9 → ¬ tr q < 0) ∧ w = TBw ad k N S Wt L T G E su pa tr sh pv) (BcW D A) A) ([.ref (ad 33)] : List Value).toArray s 0 0 A) (F0 m 2 ls []) := by
    intro r
    induction r with
    | zero =>
      intro i hr hv H locs ls hP hD hS hl
      obtain rfl : 9 = i := by omega
      refine lv_iload_n hx hb dX3_noneIsBelowNought_2 rfl (lv_at hl 1 rfl) ?_
      refine lv_aload_n hx hb dX3_noneIsBelowNought_3 rfl (lv_at hl 0 rfl) ?_
      refine va_alen (v := nI 9) hx hb hK hP 33 0 tb_tr rfl rfl dX3_noneIsBelowNought_4 ?_
      refine lv_icmp_ge (tgt := 22) hx hb dX3_noneIsBelowNought_5 (by decide) (fun c2 => ?_) (fun c2 => absurd (nI_le (by omega) (by decide)) c2)
      refine lv_iconst (v := nI 1) hx hb dX3_noneIsBelowNought_22 (by decide) ?_
      exact Rz C hP hD hS (Nat.zero_le _) (Nat.zero_le _) rfl dX3_noneIsBelowNought_23 (⟨(pb_t hv).symm, rfl⟩)
    | succ r ihL1 =>
      intro i hr hv H locs ls hP hD hS hl
      refine lv_iload_n hx hb dX3_noneIsBelowNought_2 rfl (lv_at hl 1 rfl) ?_
      refine lv_aload_n hx hb dX3_noneIsBelowNought_3 rfl (lv_at hl 0 rfl) ?_
      refine va_alen (v := nI 9) hx hb hK hP 33 0 tb_tr rfl rfl dX3_noneIsBelowNought_4 ?_
      refine lv_icmp_ge (tgt := 22) hx hb dX3_noneIsBelowNought_5 (by decide) (fun c3 => absurd c3 (nI_ge (by omega) (by decide))) (fun c3 => ?_)
      refine lv_aload_n hx hb dX3_noneIsBelowNought_8 rfl (lv_at hl 0 rfl) ?_
      refine lv_iload_n hx hb dX3_noneIsBelowNought_9 rfl (lv_at hl 1 rfl) ?_
      refine ar_i C hP 33 tb_tr (j := i) (by omega) (by decide) dX3_noneIsBelowNought_10 ?_
      refine lv_if_ge (tgt := 16) hx hb dX3_noneIsBelowNought_11 (by decide) (fun c4 => ?_) (fun c4 => ?_)
      · refine lv_iinc (v := nI (i + 1)) (lv' := [(1, .int (nI (i + 1))), (0, .ref (ad 33))]) hx hb dX3_noneIsBelowNought_16 hl (k := 1) rfl (by rw [← nI_add i 1]; rfl) (by decide) rfl (fun ls hl => ?_)
        refine lv_goto (tgt := 2) hx hb dX3_noneIsBelowNought_19 (by decide) ?_
        exact ihL1 (i + 1) (by omega) (lt_s hv (Int32.not_lt.mpr c4)) _ _ _ hP hD hS (lv_sub hl [1, 0] rfl)
      · refine lv_iconst (v := nI 0) hx hb dX3_noneIsBelowNought_14 (by decide) ?_
        exact Rz C hP hD hS (Nat.zero_le _) (Nat.zero_le _) rfl dX3_noneIsBelowNought_15 (⟨(pb_f (fun h => h i (by omega) (Int32.not_le.mp c4))).symm, rfl⟩)
  exact L1 (9 - 0) 0 (by omega) (fun j hj => absurd hj (Nat.not_lt_zero _)) _ _ _ hP hD hS (lv_sub hl [1, 0] rfl)

