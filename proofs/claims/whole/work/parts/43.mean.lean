/-! least means -/
def kA (A : Nat → Int32) : Nat → Nat × (Nat → Int32)
  | 0 => (0, A)
  | i + 1 => if (kA A i).2 i ≤ 0 then kA A i else ((kA A i).1 + 1, upd (kA A i).2 (kA A i).1 ((kA A i).2 i))
theorem kA_le (A : Nat → Int32) : ∀ i, (kA A i).1 ≤ i
  | 0 => Nat.le_refl _
  | i + 1 => by
    have h := kA_le A i
    rw [kA]
    split
    · omega
    · exact Nat.succ_le_succ h
theorem kA_f {A : Nat → Int32} {i : Nat} (h : (kA A i).2 i ≤ 0) : kA A (i + 1) = kA A i := if_pos h
theorem kA_t {A : Nat → Int32} {i : Nat} (h : ¬ (kA A i).2 i ≤ 0) : kA A (i + 1) = ((kA A i).1 + 1, upd (kA A i).2 (kA A i).1 ((kA A i).2 i)) := if_neg h
def lsI (A : Nat → Int32) : Nat → Nat
  | 0 => 0
  | i + 1 => if A (lsI A i) ≤ A (i + 1) then lsI A i else i + 1
theorem lsI_le (A : Nat → Int32) : ∀ i, lsI A i ≤ i
  | 0 => Nat.le_refl _
  | i + 1 => by
    have h := lsI_le A i
    rw [lsI]
    split
    · omega
    · omega
def mv (A : Nat → Int32) (c : Nat) : Nat → Int32 := upd (upd A (lsI A (c - 1)) (A (c - 1))) (c - 1) (A (lsI A (c - 1)))
def lmA (A : Nat → Int32) (c : Nat) : Nat → Int32 := upd (mv (mv A c) (c - 1)) (c - 2) (mv (mv A c) (c - 1) (c - 2) + mv (mv A c) (c - 1) (c - 1))
def lmB : Nat → (Nat → Int32) → Int32 → Int32
  | 0, _, b => b
  | 1, _, b => b
  | n + 2, A, b => lmB (n + 1) (lmA A (n + 2)) (b + lmA A (n + 2) n)
set_option maxRecDepth 20000 in
theorem in_X3_keepAboveNought_X3 : ∀ w ∈ u_ws RX3 TX3 8, w ∈ wsX3_keepAboveNought := by decide +kernel
set_option maxRecDepth 20000 in
theorem lk_X3_keepAboveNought_27 : Cond.fieldLink RX3 27 (TX3 3).1 (TX3 3).2.1 (TX3 3).2.2.1 ∈ wsX3_keepAboveNought := by decide +kernel
set_option maxHeartbeats 4000000 in
set_option maxRecDepth 100000 in
theorem c_X3_keepAboveNought (D : va_G) (k : Nat → ClassId) (t : Nat → Nat) (l : Launch) {ad : Nat → Nat} {N : Nat → Int32} {S Wt L : Nat → Nat → Int32} {T : Nat → Int32} {G : Nat → Nat → Int64} {E : Nat → Int32} {su pa tr sh : Nat → Int32} {pv : Int32} : Ci D k t l yX3_keepAboveNought wsX3_keepAboveNought ({ frames := 0, cells := 0, slots := 0, locals := 0 }) [.ref (ad 0)] (TBw ad k N S Wt L T G E su pa tr sh pv) (fun r w => r = nI (kA su 27).1 ∧ w = TBw ad k N S Wt L T G E ((kA su 27).2) pa tr sh pv) 0 0 := by
  refine fw_of (cc := cX3_keepAboveNought) (maxL := 3) (ret := (some .int)) (Qc := fun A => va_Qi (fun r w => r = nI (kA su 27).1 ∧ w = TBw ad k N S Wt L T G E ((kA su 27).2) pa tr sh pv) (BcW D A) A) (by decide) rfl (Nat.le_of_ble_eq_true rfl) ?_
  intro p e s m below meth c A ls C hP hD hl
  have C : Cx RX3 "keepAboveNought" cX3_keepAboveNought 3 (some .int) wsX3_keepAboveNought D k t A p s m ([.ref (ad 0)] : List Value).toArray meth c := C
  have hl : lv_has ls 3 [(0, .ref (ad 0))] := hl
  have hx := C.1
  have hb := C.2.1
  have hown := C.2.2.2.2.1
  have hts := C.2.2.2.2.2.1
  have hK := C.2.2.2.2.2.2.2.2.1
  have hZ := C.2.2.2.2.2.2.2.2.2.1
  have hN := C.2.2.2.2.2.2.2.2.2.2
  have hS : va_S A s.heap s.heap [] := va_S.rf
  refine lv_iconst (v := nI 0) hx hb dX3_keepAboveNought_0 (by decide) ?_
  refine tp_i (y := nI (kA su 0).1) (rfl) ?_
  refine lv_istore_n (lv' := [(1, .int (nI (kA su 0).1)), (0, .ref (ad 0))]) hx hb dX3_keepAboveNought_1 rfl hl (by decide) rfl (fun ls hl => ?_)
  refine lv_iconst (v := nI 0) hx hb dX3_keepAboveNought_2 (by decide) ?_
  refine lv_istore_n (lv' := [(2, .int (nI 0)), (1, .int (nI (kA su 0).1)), (0, .ref (ad 0))]) hx hb dX3_keepAboveNought_3 rfl hl (by decide) rfl (fun ls hl => ?_)
  have L1 : ∀ (r i : Nat), i + r = 27 → ∀ (H : Heap) (locs : List Loc) (ls : Array Slot), va_P D vwCl (TBw ad k N S Wt L T G E ((kA su i).2) pa tr sh pv) H → va_D A (TBw ad k N S Wt L T G E ((kA su i).2) pa tr sh pv) → va_S A s.heap H locs → lv_has ls 3 [(0, .ref (ad 0)), (1, .int (nI (kA su i).1)), (2, .int (nI i))] → W p l e ({ frames := 0, cells := 0, slots := 0, locals := 0 }) s m ([.ref (ad 0)] : List Value).toArray below meth c H locs 0 0 (MQ below (va_Qi (fun r w => r = nI (kA su 27).1 ∧ w = TBw ad k N S Wt L T G E ((kA su 27).2) pa tr sh pv) (BcW D A) A) ([.ref (ad 0)] : List Value).toArray s 0 0 A) (F0 m 4 ls []) := by
    intro r
    induction r with
    | zero =>
      intro i hr H locs ls hP hD hS hl
      obtain rfl : 27 = i := by omega
      refine lv_iload_n hx hb dX3_keepAboveNought_4 rfl (lv_at hl 2 rfl) ?_
      refine lv_bipush (v := nI 27) hx hb dX3_keepAboveNought_5 (by decide) ?_
      refine lv_icmp_ge (tgt := 40) hx hb dX3_keepAboveNought_7 (by decide) (fun c2 => ?_) (fun c2 => absurd (nI_le (by omega) (by decide)) c2)
      refine lv_iload_n hx hb dX3_keepAboveNought_40 rfl (lv_at hl 1 rfl) ?_
      exact Ri C hP hD hS (Nat.zero_le _) (Nat.zero_le _) dX3_keepAboveNought_41 (⟨rfl, rfl⟩)
    | succ r ihL1 =>
      intro i hr H locs ls hP hD hS hl
      refine lv_iload_n hx hb dX3_keepAboveNought_4 rfl (lv_at hl 2 rfl) ?_
      refine lv_bipush (v := nI 27) hx hb dX3_keepAboveNought_5 (by decide) ?_
      refine lv_icmp_ge (tgt := 40) hx hb dX3_keepAboveNought_7 (by decide) (fun c3 => absurd c3 (nI_ge (by omega) (by decide))) (fun c3 => ?_)
      refine lv_aload_n hx hb dX3_keepAboveNought_10 rfl (lv_at hl 0 rfl) ?_
      refine fg C hP 0 tb_o (ci := 3) rfl 3 (by decide) in_X3_keepAboveNought_X3 lk_X3_keepAboveNought_27 (v := .ref (ad 31)) rfl dX3_keepAboveNought_11 ?_
      refine lv_iload_n hx hb dX3_keepAboveNought_14 rfl (lv_at hl 2 rfl) ?_
      refine ar_i C hP 31 tb_su (j := i) (by omega) (by decide) dX3_keepAboveNought_15 ?_
      refine lv_if_le (tgt := 34) hx hb dX3_keepAboveNought_16 (by decide) (fun c4 => ?_) (fun c4 => ?_)
      · refine lv_iinc (v := nI (i + 1)) (lv' := [(2, .int (nI (i + 1))), (0, .ref (ad 0)), (1, .int (nI (kA su i).1))]) hx hb dX3_keepAboveNought_34 hl (k := 2) rfl (by rw [← nI_add i 1]; rfl) (by decide) rfl (fun ls hl => ?_)
        refine lv_goto (tgt := 4) hx hb dX3_keepAboveNought_37 (by decide) ?_
        rw [← kA_f c4] at hP hD hl
        exact ihL1 (i + 1) (by omega) _ _ _ hP hD hS (lv_sub hl [1, 2, 0] rfl)
      · refine lv_aload_n hx hb dX3_keepAboveNought_19 rfl (lv_at hl 0 rfl) ?_
        refine fg C hP 0 tb_o (ci := 3) rfl 3 (by decide) in_X3_keepAboveNought_X3 lk_X3_keepAboveNought_27 (v := .ref (ad 31)) rfl dX3_keepAboveNought_20 ?_
        refine lv_iload_n hx hb dX3_keepAboveNought_23 rfl (lv_at hl 1 rfl) ?_
        refine lv_aload_n hx hb dX3_keepAboveNought_24 rfl (lv_at hl 0 rfl) ?_
        refine fg C hP 0 tb_o (ci := 3) rfl 3 (by decide) in_X3_keepAboveNought_X3 lk_X3_keepAboveNought_27 (v := .ref (ad 31)) rfl dX3_keepAboveNought_25 ?_
        refine lv_iload_n hx hb dX3_keepAboveNought_28 rfl (lv_at hl 2 rfl) ?_
        refine ar_i C hP 31 tb_su (j := i) (by omega) (by decide) dX3_keepAboveNought_29 ?_
        refine as_i C hP hD hS 31 tb_su (j := (kA su i).1) (by have := kA_le su i; omega) (by decide) (tb_su_st _) dX3_keepAboveNought_30 (fun H locs hP hD hS => ?_)
        refine lv_iinc (v := nI ((kA su i).1 + 1)) (lv' := [(1, .int (nI ((kA su i).1 + 1))), (0, .ref (ad 0)), (2, .int (nI i))]) hx hb dX3_keepAboveNought_31 hl (k := 1) rfl (by rw [← nI_add ((kA su i).1) 1]; rfl) (by decide) rfl (fun ls hl => ?_)
        refine lv_iinc (v := nI (i + 1)) (lv' := [(2, .int (nI (i + 1))), (1, .int (nI ((kA su i).1 + 1))), (0, .ref (ad 0))]) hx hb dX3_keepAboveNought_34 hl (k := 2) rfl (by rw [← nI_add i 1]; rfl) (by decide) rfl (fun ls hl => ?_)
        refine lv_goto (tgt := 4) hx hb dX3_keepAboveNought_37 (by decide) ?_
        have ek := kA_t c4
        rw [show upd (kA su i).2 (kA su i).1 ((kA su i).2 i) = (kA su (i + 1)).2 from by rw [ek]] at hP hD
        rw [show (kA su i).1 + 1 = (kA su (i + 1)).1 from by rw [ek]] at hl
        exact ihL1 (i + 1) (by omega) _ _ _ hP hD hS (lv_sub hl [2, 1, 0] rfl)
  exact L1 (27 - 0) 0 (by omega) _ _ _ hP hD hS (lv_sub hl [2, 1, 0] rfl)

set_option maxRecDepth 20000 in
theorem in_X3_moveLeastToEnd_X3 : ∀ w ∈ u_ws RX3 TX3 8, w ∈ wsX3_moveLeastToEnd := by decide +kernel
set_option maxRecDepth 20000 in
theorem lk_X3_moveLeastToEnd_27 : Cond.fieldLink RX3 27 (TX3 3).1 (TX3 3).2.1 (TX3 3).2.2.1 ∈ wsX3_moveLeastToEnd := by decide +kernel
set_option maxHeartbeats 4000000 in
set_option maxRecDepth 100000 in
theorem c_X3_moveLeastToEnd (D : va_G) (k : Nat → ClassId) (t : Nat → Nat) (l : Launch) {ad : Nat → Nat} {N : Nat → Int32} {S Wt L : Nat → Nat → Int32} {T : Nat → Int32} {G : Nat → Nat → Int64} {E : Nat → Int32} {su pa tr sh : Nat → Int32} {pv : Int32} {c0 : Nat} (hc : 1 ≤ c0) (hc2 : c0 ≤ 27) : Cv D k t l yX3_moveLeastToEnd wsX3_moveLeastToEnd ({ frames := 0, cells := 0, slots := 0, locals := 0 }) [.ref (ad 0), .int (nI c0)] (TBw ad k N S Wt L T G E su pa tr sh pv) (fun w => w = TBw ad k N S Wt L T G E (mv su c0) pa tr sh pv) 0 0 := by
  refine fw_of (cc := cX3_moveLeastToEnd) (maxL := 4) (ret := none) (Qc := fun A => va_Qv (fun w => w = TBw ad k N S Wt L T G E (mv su c0) pa tr sh pv) (BcW D A) A) (by decide) rfl (Nat.le_of_ble_eq_true rfl) ?_
  intro p e s m below meth c A ls C hP hD hl
  have C : Cx RX3 "moveLeastToEnd" cX3_moveLeastToEnd 4 none wsX3_moveLeastToEnd D k t A p s m ([.ref (ad 0), .int (nI c0)] : List Value).toArray meth c := C
  have hl : lv_has ls 4 [(0, .ref (ad 0)), (1, .int (nI c0))] := hl
  have hx := C.1
  have hb := C.2.1
  have hown := C.2.2.2.2.1
  have hts := C.2.2.2.2.2.1
  have hK := C.2.2.2.2.2.2.2.2.1
  have hZ := C.2.2.2.2.2.2.2.2.2.1
  have hN := C.2.2.2.2.2.2.2.2.2.2
  have hS : va_S A s.heap s.heap [] := va_S.rf
  refine lv_iconst (v := nI 0) hx hb dX3_moveLeastToEnd_0 (by decide) ?_
  refine tp_i (y := nI (lsI su 0)) (rfl) ?_
  refine lv_istore_n (lv' := [(2, .int (nI (lsI su 0))), (0, .ref (ad 0)), (1, .int (nI c0))]) hx hb dX3_moveLeastToEnd_1 rfl hl (by decide) rfl (fun ls hl => ?_)
  refine lv_iconst (v := nI 1) hx hb dX3_moveLeastToEnd_2 (by decide) ?_
  refine tp_i (y := nI (0 + 1)) (rfl) ?_
  refine lv_istore_n (lv' := [(3, .int (nI (0 + 1))), (2, .int (nI (lsI su 0))), (0, .ref (ad 0)), (1, .int (nI c0))]) hx hb dX3_moveLeastToEnd_3 rfl hl (by decide) rfl (fun ls hl => ?_)
  have L1 : ∀ (r i : Nat), i + r = c0 - 1 → ∀ (H : Heap) (locs : List Loc) (ls : Array Slot), va_P D vwCl (TBw ad k N S Wt L T G E su pa tr sh pv) H → va_D A (TBw ad k N S Wt L T G E su pa tr sh pv) → va_S A s.heap H locs → lv_has ls 4 [(0, .ref (ad 0)), (1, .int (nI c0)), (2, .int (nI (lsI su i))), (3, .int (nI (i + 1)))] → W p l e ({ frames := 0, cells := 0, slots := 0, locals := 0 }) s m ([.ref (ad 0), .int (nI c0)] : List Value).toArray below meth c H locs 0 0 (MQ below (va_Qv (fun w => w = TBw ad k N S Wt L T G E (mv su c0) pa tr sh pv) (BcW D A) A) ([.ref (ad 0), .int (nI c0)] : List Value).toArray s 0 0 A) (F0 m 4 ls []) := by
    intro r
    induction r with
    | zero =>
      intro i hr H locs ls hP hD hS hl
      obtain rfl : c0 - 1 = i := by omega
      refine lv_iload_n hx hb dX3_moveLeastToEnd_4 rfl (lv_at hl 3 rfl) ?_
      refine lv_iload_n hx hb dX3_moveLeastToEnd_5 rfl (lv_at hl 1 rfl) ?_
      refine lv_icmp_ge (tgt := 32) hx hb dX3_moveLeastToEnd_6 (by decide) (fun c2 => ?_) (fun c2 => absurd (nI_le (by omega) (by omega)) c2)
      refine lv_aload_n hx hb dX3_moveLeastToEnd_32 rfl (lv_at hl 0 rfl) ?_
      refine fg C hP 0 tb_o (ci := 3) rfl 3 (by decide) in_X3_moveLeastToEnd_X3 lk_X3_moveLeastToEnd_27 (v := .ref (ad 31)) rfl dX3_moveLeastToEnd_33 ?_
      refine lv_iload_n hx hb dX3_moveLeastToEnd_36 rfl (lv_at hl 2 rfl) ?_
      refine ar_i C hP 31 tb_su (j := (lsI su (c0 - 1))) (by have := lsI_le su (c0 - 1); omega) (by decide) dX3_moveLeastToEnd_37 ?_
      refine lv_istore_n (lv' := [(3, .int (su (lsI su (c0 - 1)))), (0, .ref (ad 0)), (1, .int (nI c0)), (2, .int (nI (lsI su (c0 - 1))))]) hx hb dX3_moveLeastToEnd_38 rfl hl (by decide) rfl (fun ls hl => ?_)
      refine lv_aload_n hx hb dX3_moveLeastToEnd_39 rfl (lv_at hl 1 rfl) ?_
      refine fg C hP 0 tb_o (ci := 3) rfl 3 (by decide) in_X3_moveLeastToEnd_X3 lk_X3_moveLeastToEnd_27 (v := .ref (ad 31)) rfl dX3_moveLeastToEnd_40 ?_
      refine lv_iload_n hx hb dX3_moveLeastToEnd_43 rfl (lv_at hl 3 rfl) ?_
      refine lv_aload_n hx hb dX3_moveLeastToEnd_44 rfl (lv_at hl 1 rfl) ?_
      refine fg C hP 0 tb_o (ci := 3) rfl 3 (by decide) in_X3_moveLeastToEnd_X3 lk_X3_moveLeastToEnd_27 (v := .ref (ad 31)) rfl dX3_moveLeastToEnd_45 ?_
      refine lv_iload_n hx hb dX3_moveLeastToEnd_48 rfl (lv_at hl 2 rfl) ?_
      refine lv_iconst (v := nI 1) hx hb dX3_moveLeastToEnd_49 (by decide) ?_
      refine lv_isub hx hb dX3_moveLeastToEnd_50 ?_
      refine tp_i (y := nI (c0 - 1)) (pk_sub (by omega)) ?_
      refine ar_i C hP 31 tb_su (j := (c0 - 1)) (by omega) (by decide) dX3_moveLeastToEnd_51 ?_
      refine as_i C hP hD hS 31 tb_su (j := (lsI su (c0 - 1))) (by have := lsI_le su (c0 - 1); omega) (by decide) (tb_su_st _) dX3_moveLeastToEnd_52 (fun H locs hP hD hS => ?_)
      refine lv_aload_n hx hb dX3_moveLeastToEnd_53 rfl (lv_at hl 1 rfl) ?_
      refine fg C hP 0 tb_o (ci := 3) rfl 3 (by decide) in_X3_moveLeastToEnd_X3 lk_X3_moveLeastToEnd_27 (v := .ref (ad 31)) rfl dX3_moveLeastToEnd_54 ?_
      refine lv_iload_n hx hb dX3_moveLeastToEnd_57 rfl (lv_at hl 2 rfl) ?_
      refine lv_iconst (v := nI 1) hx hb dX3_moveLeastToEnd_58 (by decide) ?_
      refine lv_isub hx hb dX3_moveLeastToEnd_59 ?_
      refine tp_i (y := nI (c0 - 1)) (pk_sub (by omega)) ?_
      refine lv_iload_n hx hb dX3_moveLeastToEnd_60 rfl (lv_at hl 0 rfl) ?_
      refine as_i C hP hD hS 31 tb_su (j := (c0 - 1)) (by omega) (by decide) (tb_su_st _) dX3_moveLeastToEnd_61 (fun H locs hP hD hS => ?_)
      exact Rv C hP hD hS (Nat.zero_le _) (Nat.zero_le _) dX3_moveLeastToEnd_62 rfl
    | succ r ihL1 =>
      intro i hr H locs ls hP hD hS hl
      refine lv_iload_n hx hb dX3_moveLeastToEnd_4 rfl (lv_at hl 3 rfl) ?_
      refine lv_iload_n hx hb dX3_moveLeastToEnd_5 rfl (lv_at hl 1 rfl) ?_
      refine lv_icmp_ge (tgt := 32) hx hb dX3_moveLeastToEnd_6 (by decide) (fun c3 => absurd c3 (nI_ge (by omega) (by omega))) (fun c3 => ?_)
      refine lv_aload_n hx hb dX3_moveLeastToEnd_9 rfl (lv_at hl 0 rfl) ?_
      refine fg C hP 0 tb_o (ci := 3) rfl 3 (by decide) in_X3_moveLeastToEnd_X3 lk_X3_moveLeastToEnd_27 (v := .ref (ad 31)) rfl dX3_moveLeastToEnd_10 ?_
      refine lv_iload_n hx hb dX3_moveLeastToEnd_13 rfl (lv_at hl 3 rfl) ?_
      refine ar_i C hP 31 tb_su (j := (i + 1)) (by omega) (by decide) dX3_moveLeastToEnd_14 ?_
      refine lv_aload_n hx hb dX3_moveLeastToEnd_15 rfl (lv_at hl 0 rfl) ?_
      refine fg C hP 0 tb_o (ci := 3) rfl 3 (by decide) in_X3_moveLeastToEnd_X3 lk_X3_moveLeastToEnd_27 (v := .ref (ad 31)) rfl dX3_moveLeastToEnd_16 ?_
      refine lv_iload_n hx hb dX3_moveLeastToEnd_19 rfl (lv_at hl 2 rfl) ?_
      refine ar_i C hP 31 tb_su (j := (lsI su i)) (by have := lsI_le su i; omega) (by decide) dX3_moveLeastToEnd_20 ?_
      refine lv_icmp_ge (tgt := 26) hx hb dX3_moveLeastToEnd_21 (by decide) (fun c4 => ?_) (fun c4 => ?_)
      · refine lv_iinc (v := nI ((i + 1) + 1)) (lv' := [(3, .int (nI ((i + 1) + 1))), (0, .ref (ad 0)), (1, .int (nI c0)), (2, .int (nI (lsI su i)))]) hx hb dX3_moveLeastToEnd_26 hl (k := 3) rfl (by rw [← nI_add (i + 1) 1]; rfl) (by decide) rfl (fun ls hl => ?_)
        refine lv_goto (tgt := 4) hx hb dX3_moveLeastToEnd_29 (by decide) ?_
        rw [show lsI su i = lsI su (i + 1) from (if_pos c4).symm] at hl
        exact ihL1 (i + 1) (by omega) _ _ _ hP hD hS (lv_sub hl [1, 2, 3, 0] rfl)
      · refine lv_iload_n hx hb dX3_moveLeastToEnd_24 rfl (lv_at hl 3 rfl) ?_
        refine tp_i (y := nI (lsI su (i + 1))) (congrArg nI (if_neg c4).symm) ?_
        refine lv_istore_n (lv' := [(2, .int (nI (lsI su (i + 1)))), (0, .ref (ad 0)), (1, .int (nI c0)), (3, .int (nI (i + 1)))]) hx hb dX3_moveLeastToEnd_25 rfl hl (by decide) rfl (fun ls hl => ?_)
        refine lv_iinc (v := nI ((i + 1) + 1)) (lv' := [(3, .int (nI ((i + 1) + 1))), (2, .int (nI (lsI su (i + 1)))), (0, .ref (ad 0)), (1, .int (nI c0))]) hx hb dX3_moveLeastToEnd_26 hl (k := 3) rfl (by rw [← nI_add (i + 1) 1]; rfl) (by decide) rfl (fun ls hl => ?_)
        refine lv_goto (tgt := 4) hx hb dX3_moveLeastToEnd_29 (by decide) ?_
        exact ihL1 (i + 1) (by omega) _ _ _ hP hD hS (lv_sub hl [2, 3, 1, 0] rfl)
  exact L1 (c0 - 1 - 0) 0 (by omega) _ _ _ hP hD hS (lv_sub hl [2, 3, 1, 0] rfl)

set_option maxRecDepth 20000 in
theorem in_X3_leastMean_X3 : ∀ w ∈ u_ws RX3 TX3 8, w ∈ wsX3_leastMean := by decide +kernel
set_option maxRecDepth 20000 in
theorem lk_X3_leastMean_27 : Cond.fieldLink RX3 27 (TX3 3).1 (TX3 3).2.1 (TX3 3).2.2.1 ∈ wsX3_leastMean := by decide +kernel
set_option maxHeartbeats 4000000 in
set_option maxRecDepth 100000 in
theorem c_X3_leastMean (D : va_G) (k : Nat → ClassId) (t : Nat → Nat) (l : Launch) {ad : Nat → Nat} {N : Nat → Int32} {S Wt L : Nat → Nat → Int32} {T : Nat → Int32} {G : Nat → Nat → Int64} {E : Nat → Int32} {su pa tr sh : Nat → Int32} {pv : Int32} {c0 : Nat} (hc : 1 ≤ c0) (hc2 : c0 ≤ 27) : Ci D k t l yX3_leastMean wsX3_leastMean ({ frames := 1, cells := 0, slots := 0, locals := 30 }) [.ref (ad 0), .int (nI c0)] (TBw ad k N S Wt L T G E su pa tr sh pv) (fun r w => r = lmB c0 su (nI 0) ∧ ∃ su2 : Nat → Int32, w = TBw ad k N S Wt L T G E su2 pa tr sh pv) 0 0 := by
  refine fw_of (cc := cX3_leastMean) (maxL := 4) (ret := (some .int)) (Qc := fun A => va_Qi (fun r w => r = lmB c0 su (nI 0) ∧ ∃ su2 : Nat → Int32, w = TBw ad k N S Wt L T G E su2 pa tr sh pv) (BcW D A) A) (by decide) rfl (Nat.le_of_ble_eq_true rfl) ?_
  intro p e s m below meth c A ls C hP hD hl
  have C : Cx RX3 "leastMean" cX3_leastMean 4 (some .int) wsX3_leastMean D k t A p s m ([.ref (ad 0), .int (nI c0)] : List Value).toArray meth c := C
  have hl : lv_has ls 4 [(0, .ref (ad 0)), (1, .int (nI c0))] := hl
  have hx := C.1
  have hb := C.2.1
  have hown := C.2.2.2.2.1
  have hts := C.2.2.2.2.2.1
  have hK := C.2.2.2.2.2.2.2.2.1
  have hZ := C.2.2.2.2.2.2.2.2.2.1
  have hN := C.2.2.2.2.2.2.2.2.2.2
  have hS : va_S A s.heap s.heap [] := va_S.rf
  refine lv_iconst (v := nI 0) hx hb dX3_leastMean_0 (by decide) ?_
  refine lv_istore_n (lv' := [(2, .int (nI 0)), (0, .ref (ad 0)), (1, .int (nI c0))]) hx hb dX3_leastMean_1 rfl hl (by decide) rfl (fun ls hl => ?_)
  refine lv_iload_n hx hb dX3_leastMean_2 rfl (lv_at hl 2 rfl) ?_
  refine lv_istore_n (lv' := [(3, .int (nI c0)), (2, .int (nI 0)), (0, .ref (ad 0)), (1, .int (nI c0))]) hx hb dX3_leastMean_3 rfl hl (by decide) rfl (fun ls hl => ?_)
  have L1 : ∀ (r : Nat) (A1 : Nat → Int32) (b1 : Int32) (h0 : r + 1 ≤ 27) (h1 : lmB (r + 1) A1 b1 = lmB c0 su (nI 0)), ∀ (H : Heap) (locs : List Loc) (ls : Array Slot), va_P D vwCl (TBw ad k N S Wt L T G E A1 pa tr sh pv) H → va_D A (TBw ad k N S Wt L T G E A1 pa tr sh pv) → va_S A s.heap H locs → lv_has ls 4 [(0, .ref (ad 0)), (2, .int b1), (3, .int (nI (r + 1)))] → W p l e ({ frames := 1, cells := 0, slots := 0, locals := 30 }) s m ([.ref (ad 0), .int (nI c0)] : List Value).toArray below meth c H locs 0 0 (MQ below (va_Qi (fun r w => r = lmB c0 su (nI 0) ∧ ∃ su2 : Nat → Int32, w = TBw ad k N S Wt L T G E su2 pa tr sh pv) (BcW D A) A) ([.ref (ad 0), .int (nI c0)] : List Value).toArray s 0 0 A) (F0 m 4 ls []) := by
    intro r
    induction r with
    | zero =>
      intro A1 b1 h0 h1 H locs ls hP hD hS hl
      refine lv_iload_n hx hb dX3_leastMean_4 rfl (lv_at hl 2 rfl) ?_
      refine lv_iconst (v := nI 1) hx hb dX3_leastMean_5 (by decide) ?_
      refine lv_icmp_le (tgt := 57) hx hb dX3_leastMean_6 (by decide) (fun c2 => ?_) (fun c2 => absurd (nI_le (by omega) (by decide)) c2)
      refine lv_iload_n hx hb dX3_leastMean_57 rfl (lv_at hl 1 rfl) ?_
      exact Ri C hP hD hS (Nat.zero_le _) (Nat.zero_le _) dX3_leastMean_58 (⟨h1, _, rfl⟩)
    | succ r ihL1 =>
      intro A1 b1 h0 h1 H locs ls hP hD hS hl
      refine lv_iload_n hx hb dX3_leastMean_4 rfl (lv_at hl 2 rfl) ?_
      refine lv_iconst (v := nI 1) hx hb dX3_leastMean_5 (by decide) ?_
      refine lv_icmp_le (tgt := 57) hx hb dX3_leastMean_6 (by decide) (fun c3 => absurd c3 (nI_ge (by omega) (by omega))) (fun c3 => ?_)
      refine lv_aload_n hx hb dX3_leastMean_9 rfl (lv_at hl 0 rfl) ?_
      refine lv_iload_n hx hb dX3_leastMean_10 rfl (lv_at hl 2 rfl) ?_
      refine fw_v C hD hS (rn_V (As := [.int (nI (r + 1 + 1))]) (rest := []) C (c_X3_moveLeastToEnd D k t l (c0 := (r + 1 + 1)) (by omega) (by omega) _) (cwV 1 hts gX3_leastMean_X3_moveLeastToEnd rfl rfl rfl hdX3_moveLeastToEndC ⟨Nat.le_of_ble_eq_true rfl, Nat.le_of_ble_eq_true rfl⟩) 0 3 rfl tb_o rfl hP hD hS rfl hl.1 rfl (Nat.le_of_ble_eq_true rfl) dX3_leastMean_11 ⟨Nat.zero_le _, Nat.zero_le _⟩) (fun wr4 H locs h5 hP hD hS => ?_)
      obtain rfl := h5
      refine lv_aload_n hx hb dX3_leastMean_14 rfl (lv_at hl 0 rfl) ?_
      refine lv_iload_n hx hb dX3_leastMean_15 rfl (lv_at hl 2 rfl) ?_
      refine lv_iconst (v := nI 1) hx hb dX3_leastMean_16 (by decide) ?_
      refine lv_isub hx hb dX3_leastMean_17 ?_
      refine tp_i (y := nI ((r + 1 + 1) - 1)) (pk_sub (by omega)) ?_
      refine fw_v C hD hS (rn_V (As := [.int (nI ((r + 1 + 1) - 1))]) (rest := []) C (c_X3_moveLeastToEnd D k t l (c0 := ((r + 1 + 1) - 1)) (by omega) (by omega) _) (cwV 1 hts gX3_leastMean_X3_moveLeastToEnd rfl rfl rfl hdX3_moveLeastToEndC ⟨Nat.le_of_ble_eq_true rfl, Nat.le_of_ble_eq_true rfl⟩) 0 3 rfl tb_o rfl hP hD hS rfl hl.1 rfl (Nat.le_of_ble_eq_true rfl) dX3_leastMean_18 ⟨Nat.zero_le _, Nat.zero_le _⟩) (fun wr6 H locs h7 hP hD hS => ?_)
      obtain rfl := h7
      refine lv_aload_n hx hb dX3_leastMean_21 rfl (lv_at hl 0 rfl) ?_
      refine fg C hP 0 tb_o (ci := 3) rfl 3 (by decide) in_X3_leastMean_X3 lk_X3_leastMean_27 (v := .ref (ad 31)) rfl dX3_leastMean_22 ?_
      refine lv_iload_n hx hb dX3_leastMean_25 rfl (lv_at hl 2 rfl) ?_
      refine lv_iconst (v := nI 2) hx hb dX3_leastMean_26 (by decide) ?_
      refine lv_isub hx hb dX3_leastMean_27 ?_
      refine tp_i (y := nI ((r + 1 + 1) - 2)) (pk_sub (by omega)) ?_
      refine lv_dup2_11 hx hb dX3_leastMean_28 rfl rfl ?_
      refine ar_i C hP 31 tb_su (j := ((r + 1 + 1) - 2)) (by omega) (by decide) dX3_leastMean_29 ?_
      refine lv_aload_n hx hb dX3_leastMean_30 rfl (lv_at hl 0 rfl) ?_
      refine fg C hP 0 tb_o (ci := 3) rfl 3 (by decide) in_X3_leastMean_X3 lk_X3_leastMean_27 (v := .ref (ad 31)) rfl dX3_leastMean_31 ?_
      refine lv_iload_n hx hb dX3_leastMean_34 rfl (lv_at hl 2 rfl) ?_
      refine lv_iconst (v := nI 1) hx hb dX3_leastMean_35 (by decide) ?_
      refine lv_isub hx hb dX3_leastMean_36 ?_
      refine tp_i (y := nI ((r + 1 + 1) - 1)) (pk_sub (by omega)) ?_
      refine ar_i C hP 31 tb_su (j := ((r + 1 + 1) - 1)) (by omega) (by decide) dX3_leastMean_37 ?_
      refine lv_iadd hx hb dX3_leastMean_38 ?_
      refine as_i C hP hD hS 31 tb_su (j := ((r + 1 + 1) - 2)) (by omega) (by decide) (tb_su_st _) dX3_leastMean_39 (fun H locs hP hD hS => ?_)
      refine lv_iload_n hx hb dX3_leastMean_40 rfl (lv_at hl 1 rfl) ?_
      refine lv_aload_n hx hb dX3_leastMean_41 rfl (lv_at hl 0 rfl) ?_
      refine fg C hP 0 tb_o (ci := 3) rfl 3 (by decide) in_X3_leastMean_X3 lk_X3_leastMean_27 (v := .ref (ad 31)) rfl dX3_leastMean_42 ?_
      refine lv_iload_n hx hb dX3_leastMean_45 rfl (lv_at hl 2 rfl) ?_
      refine lv_iconst (v := nI 2) hx hb dX3_leastMean_46 (by decide) ?_
      refine lv_isub hx hb dX3_leastMean_47 ?_
      refine tp_i (y := nI ((r + 1 + 1) - 2)) (pk_sub (by omega)) ?_
      refine ar_i C hP 31 tb_su (j := ((r + 1 + 1) - 2)) (by omega) (by decide) dX3_leastMean_48 ?_
      refine lv_iadd hx hb dX3_leastMean_49 ?_
      refine lv_istore_n (lv' := [(2, .int (b1 + ((upd (mv (mv A1 (r + 1 + 1)) ((r + 1 + 1) - 1)) ((r + 1 + 1) - 2) (((mv (mv A1 (r + 1 + 1)) ((r + 1 + 1) - 1)) ((r + 1 + 1) - 2)) + ((mv (mv A1 (r + 1 + 1)) ((r + 1 + 1) - 1)) ((r + 1 + 1) - 1)))) ((r + 1 + 1) - 2)))), (0, .ref (ad 0)), (3, .int (nI (r + 1 + 1)))]) hx hb dX3_leastMean_50 rfl hl (by decide) rfl (fun ls hl => ?_)
      refine lv_iinc (v := nI (r + 1)) (lv' := [(3, .int (nI (r + 1))), (2, .int (b1 + ((upd (mv (mv A1 (r + 1 + 1)) ((r + 1 + 1) - 1)) ((r + 1 + 1) - 2) (((mv (mv A1 (r + 1 + 1)) ((r + 1 + 1) - 1)) ((r + 1 + 1) - 2)) + ((mv (mv A1 (r + 1 + 1)) ((r + 1 + 1) - 1)) ((r + 1 + 1) - 1)))) ((r + 1 + 1) - 2)))), (0, .ref (ad 0))]) hx hb dX3_leastMean_51 hl (k := 2) rfl (by rw [← pk_m1 (r + 1)]; rfl) (by decide) rfl (fun ls hl => ?_)
      refine lv_goto (tgt := 4) hx hb dX3_leastMean_54 (by decide) ?_
      exact ihL1 _ _ (by omega) (by rw [← h1]; rfl) _ _ _ hP hD hS (lv_sub hl [2, 1, 0] rfl)
  exact L1 (c0 - 1) su (nI 0) (by omega) (by rw [show c0 - 1 + 1 = c0 by omega]) _ _ _ hP hD hS (by rw [show c0 - 1 + 1 = c0 by omega]; exact lv_sub hl [2, 1, 0] rfl)

set_option maxRecDepth 20000 in
theorem in_X3_mean_X3 : ∀ w ∈ u_ws RX3 TX3 8, w ∈ wsX3_mean := by decide +kernel
set_option maxRecDepth 20000 in
theorem lk_X3_mean_11 : Cond.fieldLink RX3 11 (TX3 0).1 (TX3 0).2.1 (TX3 0).2.2.1 ∈ wsX3_mean := by decide +kernel
set_option maxRecDepth 20000 in
theorem lk_X3_mean_27 : Cond.fieldLink RX3 27 (TX3 3).1 (TX3 3).2.1 (TX3 3).2.2.1 ∈ wsX3_mean := by decide +kernel
set_option maxHeartbeats 4000000 in
set_option maxRecDepth 100000 in
theorem c_X3_mean (D : va_G) (k : Nat → ClassId) (t : Nat → Nat) (l : Launch) {ad : Nat → Nat} {N : Nat → Int32} {S Wt L : Nat → Nat → Int32} {T : Nat → Int32} {G : Nat → Nat → Int64} {E : Nat → Int32} {su pa tr sh : Nat → Int32} {pv : Int32} (hk1 : ∀ g, g < 4 → ¬ N g ≤ 0 → ∀ z, z < 8 → 1 ≤ (kA (gs (Wt g) z 27) 27).1) (x1 x2 : Int32) : Ci D k t l yX3_mean wsX3_mean ({ frames := 2, cells := 0, slots := 0, locals := 60 }) [.ref (ad 0), .int x1, .int x2] (TBw ad k N S Wt L T G E su pa tr sh pv) (fun r w => (∃ g z : Nat, (g < 4 ∧ x1 = nI g ∧ ¬ N g ≤ 0 ∧ 1 ≤ z ∧ z < 8 ∧ x2 = nI z) ∧ r = lmB (kA (gs (Wt g) z 27) 27).1 (kA (gs (Wt g) z 27) 27).2 (nI 0) ∧ ∃ su2 : Nat → Int32, w = TBw ad k N S Wt L T G E su2 pa tr sh pv) ∨ ((∀ g z : Nat, ¬ (g < 4 ∧ x1 = nI g ∧ ¬ N g ≤ 0 ∧ 1 ≤ z ∧ z < 8 ∧ x2 = nI z)) ∧ r = -1 ∧ w = TBw ad k N S Wt L T G E su pa tr sh pv)) 0 0 := by
  refine fw_of (cc := cX3_mean) (maxL := 3) (ret := (some .int)) (Qc := fun A => va_Qi (fun r w => (∃ g z : Nat, (g < 4 ∧ x1 = nI g ∧ ¬ N g ≤ 0 ∧ 1 ≤ z ∧ z < 8 ∧ x2 = nI z) ∧ r = lmB (kA (gs (Wt g) z 27) 27).1 (kA (gs (Wt g) z 27) 27).2 (nI 0) ∧ ∃ su2 : Nat → Int32, w = TBw ad k N S Wt L T G E su2 pa tr sh pv) ∨ ((∀ g z : Nat, ¬ (g < 4 ∧ x1 = nI g ∧ ¬ N g ≤ 0 ∧ 1 ≤ z ∧ z < 8 ∧ x2 = nI z)) ∧ r = -1 ∧ w = TBw ad k N S Wt L T G E su pa tr sh pv)) (BcW D A) A) (by decide) rfl (Nat.le_of_ble_eq_true rfl) ?_
  intro p e s m below meth c A ls C hP hD hl
  have C : Cx RX3 "mean" cX3_mean 3 (some .int) wsX3_mean D k t A p s m ([.ref (ad 0), .int x1, .int x2] : List Value).toArray meth c := C
  have hl : lv_has ls 3 [(0, .ref (ad 0)), (1, .int x1), (2, .int x2)] := hl
  have hx := C.1
  have hb := C.2.1
  have hown := C.2.2.2.2.1
  have hts := C.2.2.2.2.2.1
  have hK := C.2.2.2.2.2.2.2.2.1
  have hZ := C.2.2.2.2.2.2.2.2.2.1
  have hN := C.2.2.2.2.2.2.2.2.2.2
  have hS : va_S A s.heap s.heap [] := va_S.rf
  refine lv_aload_n hx hb dX3_mean_0 rfl (lv_at hl 0 rfl) ?_
  refine lv_iload_n hx hb dX3_mean_1 rfl (lv_at hl 1 rfl) ?_
  refine fw_i C hD hS (rn_V (As := [.int x1]) (rest := []) C (c_X3_isMadePlace D k t l x1 _) (cwV 1 hts gX3_mean_X3_isMadePlace rfl rfl rfl hdX3_isMadePlaceC ⟨Nat.le_of_ble_eq_true rfl, Nat.le_of_ble_eq_true rfl⟩) 0 3 rfl tb_o rfl hP hD hS rfl hl.1 rfl (Nat.le_of_ble_eq_true rfl) dX3_mean_2 ⟨Nat.zero_le _, Nat.zero_le _⟩) (fun r1 wr1 H locs h2 hP hD hS => ?_)
  obtain ⟨rfl, rfl⟩ := h2
  refine lv_if_eq (tgt := 15) hx hb dX3_mean_5 (by decide) (fun c3 => ?_) (fun c3 => ?_)
  · have c3 := pb_z c3
    refine lv_iconst (v := (-1)) hx hb dX3_mean_15 (by decide) ?_
    exact Ri C hP hD hS (Nat.zero_le _) (Nat.zero_le _) dX3_mean_16 (Or.inr ⟨fun g _ z => c3 ⟨g, z.1, z.2.1, z.2.2.1⟩, rfl, rfl⟩)
  · have c3 := pb_nz c3
    obtain ⟨g, hg, rfl, hmg⟩ := id c3
    refine lv_iload_n hx hb dX3_mean_8 rfl (lv_at hl 2 rfl) ?_
    refine fw_i C hD hS (rn_S (As := [.int x2]) (rest := []) C (c_X3_isSet D k t l x2 _) (va_cwS 1 hts gX3_mean_X3_isSet rfl rfl rfl hdX3_isSet ⟨Nat.le_of_ble_eq_true rfl, Nat.le_of_ble_eq_true rfl⟩) hP hD hS rfl hl.1 rfl (Nat.le_of_ble_eq_true rfl) dX3_mean_9 ⟨Nat.zero_le _, Nat.zero_le _⟩) (fun r4 wr4 H locs h5 hP hD hS => ?_)
    obtain ⟨rfl, rfl⟩ := h5
    refine lv_if_ne (tgt := 17) hx hb dX3_mean_12 (by decide) (fun c6 => ?_) (fun c6 => ?_)
    · have c6 := pb_nz c6
      obtain ⟨z, h0z, hz, rfl⟩ := id c6
      refine lv_aload_n hx hb dX3_mean_17 rfl (lv_at hl 0 rfl) ?_
      refine fg C hP 0 tb_o (ci := 3) rfl 0 (by decide) in_X3_mean_X3 lk_X3_mean_11 (v := .ref (ad 1)) rfl dX3_mean_18 ?_
      refine lv_iload_n hx hb dX3_mean_21 rfl (lv_at hl 1 rfl) ?_
      refine ar_q C hP 1 tb_ws (j := g) (v := .ref (ad (2 + 3 * g))) rfl (by omega) (by decide) dX3_mean_22 ?_
      refine lv_iload_n hx hb dX3_mean_23 rfl (lv_at hl 2 rfl) ?_
      refine lv_aload_n hx hb dX3_mean_24 rfl (lv_at hl 0 rfl) ?_
      refine fg C hP 0 tb_o (ci := 3) rfl 3 (by decide) in_X3_mean_X3 lk_X3_mean_27 (v := .ref (ad 31)) rfl dX3_mean_25 ?_
      refine fw_v C hD hS (rn_VN (As := [.int (nI z), .ref (ad 31)]) (rest := []) (host := RX3) (C2 := RX2) C (c_X2_gather D k t l hg hz _) (va_cnB 2 hts gX3_mean_X2_gather_n97 rfl rfl rfl (hN.1 (RX3, 97, yX2_gather) (List.mem_of_getElem? (i := 10) rfl)) (hts (.initialized RX2) (by decide +kernel)) hdX2_gather ⟨Nat.le_of_ble_eq_true rfl, Nat.le_of_ble_eq_true rfl⟩) (hts (.instanceMethod yX2_gather) (by decide +kernel)) (hts (.selects RX2 yX2_gather yX2_gather) (by decide +kernel)) (2 + 3 * g) 2 rfl (tb_w hg) rfl hP hD hS rfl hl.1 rfl (Nat.le_of_ble_eq_true rfl) dX3_mean_28 ⟨Nat.zero_le _, Nat.zero_le _⟩) (fun wr7 H locs h8 hP hD hS => ?_)
      obtain rfl := h8
      refine lv_aload_n hx hb dX3_mean_31 rfl (lv_at hl 0 rfl) ?_
      refine lv_aload_n hx hb dX3_mean_32 rfl (lv_at hl 0 rfl) ?_
      obtain ⟨m0, hm0⟩ : ∃ m0, m0 = (kA (gs (Wt g) z 27) 27).1 := ⟨_, rfl⟩
      obtain ⟨B0, hB0⟩ : ∃ B0, B0 = (kA (gs (Wt g) z 27) 27).2 := ⟨_, rfl⟩
      refine fw_i C hD hS (rn_V (As := []) (rest := [.ref (ad 0)]) C (c_X3_keepAboveNought D k t l _) (cwV 0 hts gX3_mean_X3_keepAboveNought rfl rfl rfl hdX3_keepAboveNoughtC ⟨Nat.le_of_ble_eq_true rfl, Nat.le_of_ble_eq_true rfl⟩) 0 3 rfl tb_o rfl hP hD hS rfl hl.1 rfl (Nat.le_of_ble_eq_true rfl) dX3_mean_33 ⟨Nat.zero_le _, Nat.zero_le _⟩) (fun r9 wr9 H locs h10 hP hD hS => ?_)
      rw [← hm0, ← hB0] at h10
      obtain ⟨rfl, rfl⟩ := h10
      refine fw_i C hD hS (rn_V (As := [.int (nI m0)]) (rest := []) C (c_X3_leastMean D k t l (c0 := m0) (by rw [hm0]; exact hk1 g hg hmg z hz) (by rw [hm0]; exact kA_le _ 27) _) (cwV 1 hts gX3_mean_X3_leastMean rfl rfl rfl hdX3_leastMeanC ⟨Nat.le_of_ble_eq_true rfl, Nat.le_of_ble_eq_true rfl⟩) 0 3 rfl tb_o rfl hP hD hS rfl hl.1 rfl (Nat.le_of_ble_eq_true rfl) dX3_mean_36 ⟨Nat.zero_le _, Nat.zero_le _⟩) (fun r11 wr11 H locs h12 hP hD hS => ?_)
      obtain ⟨rfl, su9, rfl⟩ := h12
      exact Ri C hP hD hS (Nat.zero_le _) (Nat.zero_le _) dX3_mean_39 (Or.inl ⟨g, z, ⟨hg, rfl, hmg, h0z, hz, rfl⟩, by rw [← hm0, ← hB0], _, rfl⟩)
    · have c6 := pb_z c6
      refine lv_iconst (v := (-1)) hx hb dX3_mean_15 (by decide) ?_
      exact Ri C hP hD hS (Nat.zero_le _) (Nat.zero_le _) dX3_mean_16 (Or.inr ⟨fun _ z q => c6 ⟨z, q.2.2.2.1, q.2.2.2.2.1, q.2.2.2.2.2⟩, rfl, rfl⟩)

