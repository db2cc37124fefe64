/-! rows of doubts, and what is given -/
def srw (f : Nat → Int32) (r0 : Nat) : Nat → Int32
  | 0 => 0
  | i + 1 => srw f r0 i + f (i + 1) * tb_rows.getD (r0 * 8 + (i + 1)) 0
abbrev plr (p0 : Nat) : Nat → Int32 := fun s => tb_plain.getD (p0 * 8 + s) 0
def KG (r0 v : Nat) : Prop := ∀ p0, p0 < 9 → v / 2 ^ p0 % 2 = 1 → srw (plr p0) r0 7 = 0
def BR (f : Nat → Int32) (v r0 : Nat) : Prop := KG r0 v ∧ srw f r0 7 < 0
theorem s_l9 : ∀ n, n < 32 → ((nI n &&& 31).toBitVec.smod 32).toNat = n := by decide +kernel
theorem shrp {v p0 : Nat} (hv : v < 2 ^ 31) (hp : p0 < 32) : nI v >>> (nI p0 &&& 31) = nI (v / 2 ^ p0) := pk_shrN hv _ p0 (s_l9 p0 hp)
theorem an1' {n : Nat} (h : n < 2 ^ 32) : nI n &&& nI 1 = nI (n % 2) := pk_andN h 1 rfl
theorem dv2 {v : Nat} (h : v < 512) (p0 : Nat) : v / 2 ^ p0 < 512 := Nat.lt_of_le_of_lt (Nat.div_le_self _ _) h
set_option maxHeartbeats 4000000 in
set_option maxRecDepth 100000 in
theorem c_sumL (D : va_G) (k : Nat → ClassId) (t : Nat → Nat) (l : Launch) {ad : Nat → Nat} {N : Nat → Int32} {S Wt L : Nat → Nat → Int32} {T : Nat → Int32} {G : Nat → Nat → Int64} {E : Nat → Int32} {su pa tr sh : Nat → Int32} {pv : Int32} {j r0 : Nat} (hj : j < 10) (hr8 : r0 < 8) : Ci D k t l yX3_sumByRow wsX3_sumByRow ({ frames := 0, cells := 0, slots := 0, locals := 0 }) [.int (nI r0), .ref (ad (15 + j)), .int (nI 0)] (TBw ad k N S Wt L T G E su pa tr sh pv) (fun r w => r = srw (L j) r0 7 ∧ w = TBw ad k N S Wt L T G E su pa tr sh pv) 0 0 := by
  refine fw_of (cc := cX3_sumByRow) (maxL := 5) (ret := (some .int)) (Qc := fun A => va_Qi (fun r w => r = srw (L j) r0 7 ∧ w = TBw ad k N S Wt L T G E su pa tr sh pv) (BcW D A) A) (by decide) rfl (Nat.le_of_ble_eq_true rfl) ?_
  intro p e s m below meth c A ls C hP hD hl
  have C : Cx RX3 "sumByRow" cX3_sumByRow 5 (some .int) wsX3_sumByRow D k t A p s m ([.int (nI r0), .ref (ad (15 + j)), .int (nI 0)] : List Value).toArray meth c := C
  have hl : lv_has ls 5 [(0, .int (nI r0)), (1, .ref (ad (15 + j))), (2, .int (nI 0))] := hl
  have hx := C.1
  have hb := C.2.1
  have hown := C.2.2.2.2.1
  have hts := C.2.2.2.2.2.1
  have hK := C.2.2.2.2.2.2.2.2.1
  have hZ := C.2.2.2.2.2.2.2.2.2.1
  have hN := C.2.2.2.2.2.2.2.2.2.2
  have hS : va_S A s.heap s.heap [] := va_S.rf
  refine lv_iconst (v := nI 0) hx hb dX3_sumByRow_0 (by decide) ?_
  refine tp_i (y := srw (L j) r0 0) (rfl) ?_
  refine lv_istore_n (lv' := [(3, .int (srw (L j) r0 0)), (0, .int (nI r0)), (1, .ref (ad (15 + j))), (2, .int (nI 0))]) hx hb dX3_sumByRow_1 rfl hl (by decide) rfl (fun ls hl => ?_)
  refine lv_iconst (v := nI 1) hx hb dX3_sumByRow_2 (by decide) ?_
  refine tp_i (y := nI (0 + 1)) (rfl) ?_
  refine lv_istore (lv' := [(4, .int (nI (0 + 1))), (3, .int (srw (L j) r0 0)), (0, .int (nI r0)), (1, .ref (ad (15 + j))), (2, .int (nI 0))]) hx hb dX3_sumByRow_3 hl (by decide) rfl (fun ls hl => ?_)
  have L1 : ∀ (r i : Nat), i + r = 7 → ∀ (H : Heap) (locs : List Loc) (ls : Array Slot), va_P D vwCl (TBw ad k N S Wt L T G E su pa tr sh pv) H → va_D A (TBw ad k N S Wt L T G E su pa tr sh pv) → va_S A s.heap H locs → lv_has ls 5 [(0, .int (nI r0)), (1, .ref (ad (15 + j))), (2, .int (nI 0)), (3, .int (srw (L j) r0 i)), (4, .int (nI (i + 1)))] → W p l e ({ frames := 0, cells := 0, slots := 0, locals := 0 }) s m ([.int (nI r0), .ref (ad (15 + j)), .int (nI 0)] : List Value).toArray below meth c H locs 0 0 (MQ below (va_Qi (fun r w => r = srw (L j) r0 7 ∧ w = TBw ad k N S Wt L T G E su pa tr sh pv) (BcW D A) A) ([.int (nI r0), .ref (ad (15 + j)), .int (nI 0)] : List Value).toArray s 0 0 A) (F0 m 5 ls []) := by
    intro r
    induction r with
    | zero =>
      intro i hr H locs ls hP hD hS hl
      obtain rfl : 7 = i := by omega
      refine lv_iload hx hb dX3_sumByRow_5 (lv_at hl 4 rfl) ?_
      refine lv_bipush (v := nI 8) hx hb dX3_sumByRow_7 (by decide) ?_
      refine lv_icmp_ge (tgt := 39) hx hb dX3_sumByRow_9 (by decide) (fun c2 => ?_) (fun c2 => absurd (nI_le (by omega) (by decide)) c2)
      refine lv_iload_n hx hb dX3_sumByRow_39 rfl (lv_at hl 3 rfl) ?_
      exact Ri C hP hD hS (Nat.zero_le _) (Nat.zero_le _) dX3_sumByRow_40 (⟨rfl, rfl⟩)
    | succ r ihL1 =>
      intro i hr H locs ls hP hD hS hl
      refine lv_iload hx hb dX3_sumByRow_5 (lv_at hl 4 rfl) ?_
      refine lv_bipush (v := nI 8) hx hb dX3_sumByRow_7 (by decide) ?_
      refine lv_icmp_ge (tgt := 39) hx hb dX3_sumByRow_9 (by decide) (fun c3 => absurd c3 (nI_ge (by omega) (by decide))) (fun c3 => ?_)
      refine lv_iload_n hx hb dX3_sumByRow_12 rfl (lv_at hl 3 rfl) ?_
      refine lv_aload_n hx hb dX3_sumByRow_13 rfl (lv_at hl 1 rfl) ?_
      refine lv_iload_n hx hb dX3_sumByRow_14 rfl (lv_at hl 2 rfl) ?_
      refine lv_iload hx hb dX3_sumByRow_15 (lv_at hl 4 rfl) ?_
      refine lv_iadd hx hb dX3_sumByRow_17 ?_
      refine tp_i (y := nI (i + 1)) ((nI_add 0 (i + 1)).trans (by rw [Nat.zero_add])) ?_
      refine ar_i C hP (15 + j) (tb_l hj) (j := (i + 1)) (by omega) (by decide) dX3_sumByRow_18 ?_
      refine va_gets hx hb (hZ.2.2.2.2.1.1) hS hown (hts (.fieldLink RX3 172 "TellingBench" "ROW_NUMBERS" "[I") (by decide +kernel)) (fun _ h9 => h9) dX3_sumByRow_19 ?_
      refine lv_iload_n hx hb dX3_sumByRow_22 rfl (lv_at hl 0 rfl) ?_
      refine lv_bipush (v := nI 8) hx hb dX3_sumByRow_23 (by decide) ?_
      refine lv_imul hx hb dX3_sumByRow_25 ?_
      refine tp_i (y := nI (r0 * 8)) (pk_mul _ _) ?_
      refine lv_iload hx hb dX3_sumByRow_26 (lv_at hl 4 rfl) ?_
      refine lv_iadd hx hb dX3_sumByRow_28 ?_
      refine tp_i (y := nI ((r0 * 8) + (i + 1))) (nI_add _ _) ?_
      refine at_i hx hb (hZ.2.2.2.2.1.2) hS (j := ((r0 * 8) + (i + 1))) (by omega) (by decide) dX3_sumByRow_29 ?_
      refine lv_imul hx hb dX3_sumByRow_30 ?_
      refine lv_iadd hx hb dX3_sumByRow_31 ?_
      refine tp_i (y := srw (L j) r0 (i + 1)) (rfl) ?_
      refine lv_istore_n (lv' := [(3, .int (srw (L j) r0 (i + 1))), (0, .int (nI r0)), (1, .ref (ad (15 + j))), (2, .int (nI 0)), (4, .int (nI (i + 1)))]) hx hb dX3_sumByRow_32 rfl hl (by decide) rfl (fun ls hl => ?_)
      refine lv_iinc (v := nI ((i + 1) + 1)) (lv' := [(4, .int (nI ((i + 1) + 1))), (3, .int (srw (L j) r0 (i + 1))), (0, .int (nI r0)), (1, .ref (ad (15 + j))), (2, .int (nI 0))]) hx hb dX3_sumByRow_33 hl (k := 4) rfl (by rw [← nI_add (i + 1) 1]; rfl) (by decide) rfl (fun ls hl => ?_)
      refine lv_goto (tgt := 5) hx hb dX3_sumByRow_36 (by decide) ?_
      exact ihL1 (i + 1) (by omega) _ _ _ hP hD hS (lv_sub hl [2, 3, 4, 1, 0] rfl)
  exact L1 (7 - 0) 0 (by omega) _ _ _ hP hD hS (lv_sub hl [2, 3, 4, 1, 0] rfl)

set_option maxHeartbeats 4000000 in
set_option maxRecDepth 100000 in
theorem c_sumP (D : va_G) (k : Nat → ClassId) (t : Nat → Nat) (l : Launch) {ws : va_W} {p0 r0 : Nat} (hp : p0 < 9) (hr8 : r0 < 8) : Ci D k t l yX3_sumByRow wsX3_sumByRow ({ frames := 0, cells := 0, slots := 0, locals := 0 }) [.int (nI r0), .ref (t 3), .int (nI (p0 * 8))] (ws) (fun r w => r = srw (plr p0) r0 7 ∧ w = ws) 0 0 := by
  refine fw_of (cc := cX3_sumByRow) (maxL := 5) (ret := (some .int)) (Qc := fun A => va_Qi (fun r w => r = srw (plr p0) r0 7 ∧ w = ws) (BcW D A) A) (by decide) rfl (Nat.le_of_ble_eq_true rfl) ?_
  intro p e s m below meth c A ls C hP hD hl
  have C : Cx RX3 "sumByRow" cX3_sumByRow 5 (some .int) wsX3_sumByRow D k t A p s m ([.int (nI r0), .ref (t 3), .int (nI (p0 * 8))] : List Value).toArray meth c := C
  have hl : lv_has ls 5 [(0, .int (nI r0)), (1, .ref (t 3)), (2, .int (nI (p0 * 8)))] := hl
  have hx := C.1
  have hb := C.2.1
  have hown := C.2.2.2.2.1
  have hts := C.2.2.2.2.2.1
  have hK := C.2.2.2.2.2.2.2.2.1
  have hZ := C.2.2.2.2.2.2.2.2.2.1
  have hN := C.2.2.2.2.2.2.2.2.2.2
  have hS : va_S A s.heap s.heap [] := va_S.rf
  refine lv_iconst (v := nI 0) hx hb dX3_sumByRow_0 (by decide) ?_
  refine tp_i (y := srw (plr p0) r0 0) (rfl) ?_
  refine lv_istore_n (lv' := [(3, .int (srw (plr p0) r0 0)), (0, .int (nI r0)), (1, .ref (t 3)), (2, .int (nI (p0 * 8)))]) hx hb dX3_sumByRow_1 rfl hl (by decide) rfl (fun ls hl => ?_)
  refine lv_iconst (v := nI 1) hx hb dX3_sumByRow_2 (by decide) ?_
  refine tp_i (y := nI (0 + 1)) (rfl) ?_
  refine lv_istore (lv' := [(4, .int (nI (0 + 1))), (3, .int (srw (plr p0) r0 0)), (0, .int (nI r0)), (1, .ref (t 3)), (2, .int (nI (p0 * 8)))]) hx hb dX3_sumByRow_3 hl (by decide) rfl (fun ls hl => ?_)
  have L1 : ∀ (r i : Nat), i + r = 7 → ∀ (H : Heap) (locs : List Loc) (ls : Array Slot), va_P D vwCl (ws) H → va_D A (ws) → va_S A s.heap H locs → lv_has ls 5 [(0, .int (nI r0)), (1, .ref (t 3)), (2, .int (nI (p0 * 8))), (3, .int (srw (plr p0) r0 i)), (4, .int (nI (i + 1)))] → W p l e ({ frames := 0, cells := 0, slots := 0, locals := 0 }) s m ([.int (nI r0), .ref (t 3), .int (nI (p0 * 8))] : List Value).toArray below meth c H locs 0 0 (MQ below (va_Qi (fun r w => r = srw (plr p0) r0 7 ∧ w = ws) (BcW D A) A) ([.int (nI r0), .ref (t 3), .int (nI (p0 * 8))] : List Value).toArray s 0 0 A) (F0 m 5 ls []) := by
    intro r
    induction r with
    | zero =>
      intro i hr H locs ls hP hD hS hl
      obtain rfl : 7 = i := by omega
      refine lv_iload hx hb dX3_sumByRow_5 (lv_at hl 4 rfl) ?_
      refine lv_bipush (v := nI 8) hx hb dX3_sumByRow_7 (by decide) ?_
      refine lv_icmp_ge (tgt := 39) hx hb dX3_sumByRow_9 (by decide) (fun c2 => ?_) (fun c2 => absurd (nI_le (by omega) (by decide)) c2)
      refine lv_iload_n hx hb dX3_sumByRow_39 rfl (lv_at hl 3 rfl) ?_
      exact Ri C hP hD hS (Nat.zero_le _) (Nat.zero_le _) dX3_sumByRow_40 (⟨rfl, rfl⟩)
    | succ r ihL1 =>
      intro i hr H locs ls hP hD hS hl
      refine lv_iload hx hb dX3_sumByRow_5 (lv_at hl 4 rfl) ?_
      refine lv_bipush (v := nI 8) hx hb dX3_sumByRow_7 (by decide) ?_
      refine lv_icmp_ge (tgt := 39) hx hb dX3_sumByRow_9 (by decide) (fun c3 => absurd c3 (nI_ge (by omega) (by decide))) (fun c3 => ?_)
      refine lv_iload_n hx hb dX3_sumByRow_12 rfl (lv_at hl 3 rfl) ?_
      refine lv_aload_n hx hb dX3_sumByRow_13 rfl (lv_at hl 1 rfl) ?_
      refine lv_iload_n hx hb dX3_sumByRow_14 rfl (lv_at hl 2 rfl) ?_
      refine lv_iload hx hb dX3_sumByRow_15 (lv_at hl 4 rfl) ?_
      refine lv_iadd hx hb dX3_sumByRow_17 ?_
      refine tp_i (y := nI ((p0 * 8) + (i + 1))) (nI_add _ _) ?_
      refine at_i hx hb (hZ.2.2.2.1.2) hS (j := ((p0 * 8) + (i + 1))) (by omega) (by decide) dX3_sumByRow_18 ?_
      refine va_gets hx hb (hZ.2.2.2.2.1.1) hS hown (hts (.fieldLink RX3 172 "TellingBench" "ROW_NUMBERS" "[I") (by decide +kernel)) (fun _ h9 => h9) dX3_sumByRow_19 ?_
      refine lv_iload_n hx hb dX3_sumByRow_22 rfl (lv_at hl 0 rfl) ?_
      refine lv_bipush (v := nI 8) hx hb dX3_sumByRow_23 (by decide) ?_
      refine lv_imul hx hb dX3_sumByRow_25 ?_
      refine tp_i (y := nI (r0 * 8)) (pk_mul _ _) ?_
      refine lv_iload hx hb dX3_sumByRow_26 (lv_at hl 4 rfl) ?_
      refine lv_iadd hx hb dX3_sumByRow_28 ?_
      refine tp_i (y := nI ((r0 * 8) + (i + 1))) (nI_add _ _) ?_
      refine at_i hx hb (hZ.2.2.2.2.1.2) hS (j := ((r0 * 8) + (i + 1))) (by omega) (by decide) dX3_sumByRow_29 ?_
      refine lv_imul hx hb dX3_sumByRow_30 ?_
      refine lv_iadd hx hb dX3_sumByRow_31 ?_
      refine tp_i (y := srw (plr p0) r0 (i + 1)) (rfl) ?_
      refine lv_istore_n (lv' := [(3, .int (srw (plr p0) r0 (i + 1))), (0, .int (nI r0)), (1, .ref (t 3)), (2, .int (nI (p0 * 8))), (4, .int (nI (i + 1)))]) hx hb dX3_sumByRow_32 rfl hl (by decide) rfl (fun ls hl => ?_)
      refine lv_iinc (v := nI ((i + 1) + 1)) (lv' := [(4, .int (nI ((i + 1) + 1))), (3, .int (srw (plr p0) r0 (i + 1))), (0, .int (nI r0)), (1, .ref (t 3)), (2, .int (nI (p0 * 8)))]) hx hb dX3_sumByRow_33 hl (k := 4) rfl (by rw [← nI_add (i + 1) 1]; rfl) (by decide) rfl (fun ls hl => ?_)
      refine lv_goto (tgt := 5) hx hb dX3_sumByRow_36 (by decide) ?_
      exact ihL1 (i + 1) (by omega) _ _ _ hP hD hS (lv_sub hl [2, 3, 4, 1, 0] rfl)
  exact L1 (7 - 0) 0 (by omega) _ _ _ hP hD hS (lv_sub hl [2, 3, 4, 1, 0] rfl)

set_option maxHeartbeats 4000000 in
set_option maxRecDepth 100000 in
theorem c_X3_keepsGivens (D : va_G) (k : Nat → ClassId) (t : Nat → Nat) (l : Launch) {ws : va_W} {r0 v : Nat} (hr8 : r0 < 8) (hv : v < 512) : Ci D k t l yX3_keepsGivens wsX3_keepsGivens ({ frames := 1, cells := 0, slots := 0, locals := 30 }) [.int (nI r0), .int (nI v)] (ws) (fun r w => r = pb (KG r0 v) ∧ w = ws) 0 0 := by
  refine fw_of (cc := cX3_keepsGivens) (maxL := 4) (ret := (some .boolean)) (Qc := fun A => va_Qi (fun r w => r = pb (KG r0 v) ∧ w = ws) (BcW D A) A) (by decide) rfl (Nat.le_of_ble_eq_true rfl) ?_
  intro p e s m below meth c A ls C hP hD hl
  have C : Cx RX3 "keepsGivens" cX3_keepsGivens 4 (some .boolean) wsX3_keepsGivens D k t A p s m ([.int (nI r0), .int (nI v)] : List Value).toArray meth c := C
  have hl : lv_has ls 4 [(0, .int (nI r0)), (1, .int (nI v))] := hl
  have hx := C.1
  have hb := C.2.1
  have hown := C.2.2.2.2.1
  have hts := C.2.2.2.2.2.1
  have hK := C.2.2.2.2.2.2.2.2.1
  have hZ := C.2.2.2.2.2.2.2.2.2.1
  have hN := C.2.2.2.2.2.2.2.2.2.2
  have hS : va_S A s.heap s.heap [] := va_S.rf
  refine lv_iconst (v := nI 0) hx hb dX3_keepsGivens_0 (by decide) ?_
  refine lv_istore_n (lv' := [(2, .int (nI 0)), (0, .int (nI r0)), (1, .int (nI v))]) hx hb dX3_keepsGivens_1 rfl hl (by decide) rfl (fun ls hl => ?_)
  have L1 : ∀ (r i : Nat), i + r = 9 → (∀ p0, p0 < i → v / 2 ^ p0 % 2 = 1 → srw (plr p0) r0 7 = 0) → ∀ (H : Heap) (locs : List Loc) (ls : Array Slot), va_P D vwCl (ws) H → va_D A (ws) → va_S A s.heap H locs → lv_has ls 4 [(0, .int (nI r0)), (1, .int (nI v)), (2, .int (nI i))] → W p l e ({ frames := 1, cells := 0, slots := 0, locals := 30 }) s m ([.int (nI r0), .int (nI v)] : List Value).toArray below meth c H locs 0 0 (MQ below (va_Qi (fun r w => r = pb (KG r0 v) ∧ w = ws) (BcW D A) A) ([.int (nI r0), .int (nI v)] : List Value).toArray s 0 0 A) (F0 m 2 ls []) := by
    intro r
    induction r with
    | zero =>
      intro i hr hv0 H locs ls hP hD hS hl
      obtain rfl : 9 = i := by omega
      refine lv_iload_n hx hb dX3_keepsGivens_2 rfl (lv_at hl 2 rfl) ?_
      refine lv_bipush (v := nI 9) hx hb dX3_keepsGivens_3 (by decide) ?_
      refine lv_icmp_ge (tgt := 49) hx hb dX3_keepsGivens_5 (by decide) (fun c2 => ?_) (fun c2 => absurd (nI_le (by omega) (by decide)) c2)
      refine lv_iconst (v := nI 1) hx hb dX3_keepsGivens_49 (by decide) ?_
      exact Rz C hP hD hS (Nat.zero_le _) (Nat.zero_le _) rfl dX3_keepsGivens_50 (⟨(pb_t hv0).symm, rfl⟩)
    | succ r ihL1 =>
      intro i hr hv0 H locs ls hP hD hS hl
      refine lv_iload_n hx hb dX3_keepsGivens_2 rfl (lv_at hl 2 rfl) ?_
      refine lv_bipush (v := nI 9) hx hb dX3_keepsGivens_3 (by decide) ?_
      refine lv_icmp_ge (tgt := 49) hx hb dX3_keepsGivens_5 (by decide) (fun c3 => absurd c3 (nI_ge (by omega) (by decide))) (fun c3 => ?_)
      refine lv_iload_n hx hb dX3_keepsGivens_8 rfl (lv_at hl 1 rfl) ?_
      refine lv_iload_n hx hb dX3_keepsGivens_9 rfl (lv_at hl 2 rfl) ?_
      refine lv_ishr hx hb dX3_keepsGivens_10 ?_
      refine tp_i (y := nI (v / 2 ^ i)) (shrp (by omega) (by omega)) ?_
      refine lv_iconst (v := nI 1) hx hb dX3_keepsGivens_11 (by decide) ?_
      refine lv_iand hx hb dX3_keepsGivens_12 ?_
      refine tp_i (y := nI (v / 2 ^ i % 2)) (an1' (by have := dv2 hv i; omega)) ?_
      refine lv_iconst (v := nI 1) hx hb dX3_keepsGivens_13 (by decide) ?_
      refine lv_icmp_ne (tgt := 21) hx hb dX3_keepsGivens_14 (by decide) (fun c4 => ?_) (fun c4 => ?_)
      · refine lv_iconst (v := nI 0) hx hb dX3_keepsGivens_21 (by decide) ?_
        refine lv_istore_n (lv' := [(3, .int (nI 0)), (0, .int (nI r0)), (1, .int (nI v)), (2, .int (nI i))]) hx hb dX3_keepsGivens_22 rfl hl (by decide) rfl (fun ls hl => ?_)
        refine lv_iload_n hx hb dX3_keepsGivens_23 rfl (lv_at hl 0 rfl) ?_
        refine lv_if_eq (tgt := 43) hx hb dX3_keepsGivens_24 (by decide) (fun c5 => ?_) (fun c5 => absurd (by decide) c5)
        refine lv_iinc (v := nI (i + 1)) (lv' := [(2, .int (nI (i + 1))), (3, .int (nI 0)), (0, .int (nI r0)), (1, .int (nI v))]) hx hb dX3_keepsGivens_43 hl (k := 3) rfl (by rw [← nI_add i 1]; rfl) (by decide) rfl (fun ls hl => ?_)
        refine lv_goto (tgt := 2) hx hb dX3_keepsGivens_46 (by decide) ?_
        exact ihL1 (i + 1) (by omega) (lt_s hv0 (fun q => absurd (by rw [q]) c4)) _ _ _ hP hD hS (lv_sub hl [2, 3, 0] rfl)
      · refine lv_iconst (v := nI 1) hx hb dX3_keepsGivens_17 (by decide) ?_
        refine lv_goto (tgt := 22) hx hb dX3_keepsGivens_18 (by decide) ?_
        refine lv_istore_n (lv' := [(3, .int (nI 1)), (0, .int (nI r0)), (1, .int (nI v)), (2, .int (nI i))]) hx hb dX3_keepsGivens_22 rfl hl (by decide) rfl (fun ls hl => ?_)
        refine lv_iload_n hx hb dX3_keepsGivens_23 rfl (lv_at hl 0 rfl) ?_
        refine lv_if_eq (tgt := 43) hx hb dX3_keepsGivens_24 (by decide) (fun c6 => absurd c6 (by decide)) (fun c6 => ?_)
        refine lv_iload_n hx hb dX3_keepsGivens_27 rfl (lv_at hl 1 rfl) ?_
        refine va_gets hx hb (hZ.2.2.2.1.1) hS hown (hts (.fieldLink RX3 111 "TellingBench" "PLAIN_NUMBERS" "[I") (by decide +kernel)) (fun _ h9 => h9) dX3_keepsGivens_28 ?_
        refine lv_iload_n hx hb dX3_keepsGivens_31 rfl (lv_at hl 3 rfl) ?_
        refine lv_bipush (v := nI 8) hx hb dX3_keepsGivens_32 (by decide) ?_
        refine lv_imul hx hb dX3_keepsGivens_34 ?_
        refine tp_i (y := nI (i * 8)) (pk_mul _ _) ?_
        refine fw_i C hD hS (rn_S (As := [.int (nI r0), .ref (t 3), .int (nI (i * 8))]) (rest := []) C (c_sumP D k t l (p0 := i) (r0 := r0) (by omega) hr8 _) (va_cwS 3 hts gX3_keepsGivens_X3_sumByRow rfl rfl rfl hdX3_sumByRow ⟨Nat.le_of_ble_eq_true rfl, Nat.le_of_ble_eq_true rfl⟩) hP hD hS rfl hl.1 rfl (Nat.le_of_ble_eq_true rfl) dX3_keepsGivens_35 ⟨Nat.zero_le _, Nat.zero_le _⟩) (fun r7 wr7 H locs h8 hP hD hS => ?_)
        obtain ⟨rfl, hw0⟩ := h8
        obtain rfl := hw0.symm
        refine lv_if_eq (tgt := 43) hx hb dX3_keepsGivens_38 (by decide) (fun c9 => ?_) (fun c9 => ?_)
        · refine lv_iinc (v := nI (i + 1)) (lv' := [(2, .int (nI (i + 1))), (3, .int (nI 1)), (0, .int (nI r0)), (1, .int (nI v))]) hx hb dX3_keepsGivens_43 hl (k := 3) rfl (by rw [← nI_add i 1]; rfl) (by decide) rfl (fun ls hl => ?_)
          refine lv_goto (tgt := 2) hx hb dX3_keepsGivens_46 (by decide) ?_
          exact ihL1 (i + 1) (by omega) (lt_s hv0 (fun _ => c9)) _ _ _ hP hD hS (lv_sub hl [2, 3, 0] rfl)
        · refine lv_iconst (v := nI 0) hx hb dX3_keepsGivens_41 (by decide) ?_
          exact Rz C hP hD hS (Nat.zero_le _) (Nat.zero_le _) rfl dX3_keepsGivens_42 (⟨(pb_f (fun h => c9 (h i (by omega) (nI_inj (by omega) (by decide) c4)))).symm, rfl⟩)
  exact L1 (9 - 0) 0 (by omega) (fun p0 h => absurd h (Nat.not_lt_zero _)) _ _ _ hP hD hS (lv_sub hl [1, 2, 0] rfl)

set_option maxHeartbeats 4000000 in
set_option maxRecDepth 100000 in
theorem c_X3_firstBreakingRow (D : va_G) (k : Nat → ClassId) (t : Nat → Nat) (l : Launch) {ad : Nat → Nat} {N : Nat → Int32} {S Wt L : Nat → Nat → Int32} {T : Nat → Int32} {G : Nat → Nat → Int64} {E : Nat → Int32} {su pa tr sh : Nat → Int32} {pv : Int32} {j v : Nat} (hj : j < 10) (hv : v < 512) : Ci D k t l yX3_firstBreakingRow wsX3_firstBreakingRow ({ frames := 2, cells := 0, slots := 0, locals := 60 }) [.ref (ad (15 + j)), .int (nI v)] (TBw ad k N S Wt L T G E su pa tr sh pv) (fun r w => ((∃ r0, r0 < 8 ∧ BR (L j) v r0 ∧ (∀ q, q < r0 → ¬ BR (L j) v q) ∧ r = nI r0) ∨ ((∀ q, q < 8 → ¬ BR (L j) v q) ∧ r = -1)) ∧ w = TBw ad k N S Wt L T G E su pa tr sh pv) 0 0 := by
  refine fw_of (cc := cX3_firstBreakingRow) (maxL := 3) (ret := (some .int)) (Qc := fun A => va_Qi (fun r w => ((∃ r0, r0 < 8 ∧ BR (L j) v r0 ∧ (∀ q, q < r0 → ¬ BR (L j) v q) ∧ r = nI r0) ∨ ((∀ q, q < 8 → ¬ BR (L j) v q) ∧ r = -1)) ∧ w = TBw ad k N S Wt L T G E su pa tr sh pv) (BcW D A) A) (by decide) rfl (Nat.le_of_ble_eq_true rfl) ?_
  intro p e s m below meth c A ls C hP hD hl
  have C : Cx RX3 "firstBreakingRow" cX3_firstBreakingRow 3 (some .int) wsX3_firstBreakingRow D k t A p s m ([.ref (ad (15 + j)), .int (nI v)] : List Value).toArray meth c := C
  have hl : lv_has ls 3 [(0, .ref (ad (15 + j))), (1, .int (nI v))] := hl
  have hx := C.1
  have hb := C.2.1
  have hown := C.2.2.2.2.1
  have hts := C.2.2.2.2.2.1
  have hK := C.2.2.2.2.2.2.2.2.1
  have hZ := C.2.2.2.2.2.2.2.2.2.1
  have hN := C.2.2.2.2.2.2.2.2.2.2
  have hS : va_S A s.heap s.heap [] := va_S.rf
  refine lv_iconst (v := nI 0) hx hb dX3_firstBreakingRow_0 (by decide) ?_
  refine lv_istore_n (lv' := [(2, .int (nI 0)), (0, .ref (ad (15 + j))), (1, .int (nI v))]) hx hb dX3_firstBreakingRow_1 rfl hl (by decide) rfl (fun ls hl => ?_)
  have L1 : ∀ (r i : Nat), i + r = 8 → (∀ q, q < i → ¬ BR (L j) v q) → ∀ (H : Heap) (locs : List Loc) (ls : Array Slot), va_P D vwCl (TBw ad k N S Wt L T G E su pa tr sh pv) H → va_D A (TBw ad k N S Wt L T G E su pa tr sh pv) → va_S A s.heap H locs → lv_has ls 3 [(0, .ref (ad (15 + j))), (1, .int (nI v)), (2, .int (nI i))] → W p l e ({ frames := 2, cells := 0, slots := 0, locals := 60 }) s m ([.ref (ad (15 + j)), .int (nI v)] : List Value).toArray below meth c H locs 0 0 (MQ below (va_Qi (fun r w => ((∃ r0, r0 < 8 ∧ BR (L j) v r0 ∧ (∀ q, q < r0 → ¬ BR (L j) v q) ∧ r = nI r0) ∨ ((∀ q, q < 8 → ¬ BR (L j) v q) ∧ r = -1)) ∧ w = TBw ad k N S Wt L T G E su pa tr sh pv) (BcW D A) A) ([.ref (ad (15 + j)), .int (nI v)] : List Value).toArray s 0 0 A) (F0 m 2 ls []) := by
    intro r
    induction r with
    | zero =>
      intro i hr hv0 H locs ls hP hD hS hl
      obtain rfl : 8 = i := by omega
      refine lv_iload_n hx hb dX3_firstBreakingRow_2 rfl (lv_at hl 2 rfl) ?_
      refine lv_bipush (v := nI 8) hx hb dX3_firstBreakingRow_3 (by decide) ?_
      refine lv_icmp_ge (tgt := 33) hx hb dX3_firstBreakingRow_5 (by decide) (fun c2 => ?_) (fun c2 => absurd (nI_le (by omega) (by decide)) c2)
      refine lv_iconst (v := (-1)) hx hb dX3_firstBreakingRow_33 (by decide) ?_
      exact Ri C hP hD hS (Nat.zero_le _) (Nat.zero_le _) dX3_firstBreakingRow_34 (⟨Or.inr ⟨hv0, rfl⟩, rfl⟩)
    | succ r ihL1 =>
      intro i hr hv0 H locs ls hP hD hS hl
      refine lv_iload_n hx hb dX3_firstBreakingRow_2 rfl (lv_at hl 2 rfl) ?_
      refine lv_bipush (v := nI 8) hx hb dX3_firstBreakingRow_3 (by decide) ?_
      refine lv_icmp_ge (tgt := 33) hx hb dX3_firstBreakingRow_5 (by decide) (fun c3 => absurd c3 (nI_ge (by omega) (by decide))) (fun c3 => ?_)
      refine lv_iload_n hx hb dX3_firstBreakingRow_8 rfl (lv_at hl 2 rfl) ?_
      refine lv_iload_n hx hb dX3_firstBreakingRow_9 rfl (lv_at hl 1 rfl) ?_
      refine fw_i C hD hS (rn_S (As := [.int (nI i), .int (nI v)]) (rest := []) C (c_X3_keepsGivens D k t l (r0 := i) (v := v) (by omega) hv _) (va_cwS 2 hts gX3_firstBreakingRow_X3_keepsGivens rfl rfl rfl hdX3_keepsGivens ⟨Nat.le_of_ble_eq_true rfl, Nat.le_of_ble_eq_true rfl⟩) hP hD hS rfl hl.1 rfl (Nat.le_of_ble_eq_true rfl) dX3_firstBreakingRow_10 ⟨Nat.zero_le _, Nat.zero_le _⟩) (fun r4 wr4 H locs h5 hP hD hS => ?_)
      obtain ⟨rfl, rfl⟩ := h5
      refine lv_if_eq (tgt := 27) hx hb dX3_firstBreakingRow_13 (by decide) (fun c6 => ?_) (fun c6 => ?_)
      · have c6 := pb_z c6
        refine lv_iinc (v := nI (i + 1)) (lv' := [(2, .int (nI (i + 1))), (0, .ref (ad (15 + j))), (1, .int (nI v))]) hx hb dX3_firstBreakingRow_27 hl (k := 2) rfl (by rw [← nI_add i 1]; rfl) (by decide) rfl (fun ls hl => ?_)
        refine lv_goto (tgt := 2) hx hb dX3_firstBreakingRow_30 (by decide) ?_
        exact ihL1 (i + 1) (by omega) (lt_s hv0 (fun q => c6 q.1)) _ _ _ hP hD hS (lv_sub hl [1, 2, 0] rfl)
      · have c6 := pb_nz c6
        refine lv_iload_n hx hb dX3_firstBreakingRow_16 rfl (lv_at hl 2 rfl) ?_
        refine lv_aload_n hx hb dX3_firstBreakingRow_17 rfl (lv_at hl 0 rfl) ?_
        refine lv_iconst (v := nI 0) hx hb dX3_firstBreakingRow_18 (by decide) ?_
        refine fw_i C hD hS (rn_S (As := [.int (nI i), .ref (ad (15 + j)), .int (nI 0)]) (rest := []) C (c_sumL D k t l (j := j) (r0 := i) hj (by omega) _) (va_cwS 3 hts gX3_firstBreakingRow_X3_sumByRow rfl rfl rfl hdX3_sumByRow ⟨Nat.le_of_ble_eq_true rfl, Nat.le_of_ble_eq_true rfl⟩) hP hD hS rfl hl.1 rfl (Nat.le_of_ble_eq_true rfl) dX3_firstBreakingRow_19 ⟨Nat.zero_le _, Nat.zero_le _⟩) (fun r7 wr7 H locs h8 hP hD hS => ?_)
        obtain ⟨rfl, rfl⟩ := h8
        refine lv_if_ge (tgt := 27) hx hb dX3_firstBreakingRow_22 (by decide) (fun c9 => ?_) (fun c9 => ?_)
        · refine lv_iinc (v := nI (i + 1)) (lv' := [(2, .int (nI (i + 1))), (0, .ref (ad (15 + j))), (1, .int (nI v))]) hx hb dX3_firstBreakingRow_27 hl (k := 2) rfl (by rw [← nI_add i 1]; rfl) (by decide) rfl (fun ls hl => ?_)
          refine lv_goto (tgt := 2) hx hb dX3_firstBreakingRow_30 (by decide) ?_
          exact ihL1 (i + 1) (by omega) (lt_s hv0 (fun q => absurd q.2 (Int32.not_lt.mpr c9))) _ _ _ hP hD hS (lv_sub hl [1, 2, 0] rfl)
        · refine lv_iload_n hx hb dX3_firstBreakingRow_25 rfl (lv_at hl 2 rfl) ?_
          exact Ri C hP hD hS (Nat.zero_le _) (Nat.zero_le _) dX3_firstBreakingRow_26 (⟨Or.inl ⟨i, by omega, ⟨c6, Int32.not_le.mp c9⟩, hv0, rfl⟩, rfl⟩)
  exact L1 (8 - 0) 0 (by omega) (fun q h => absurd h (Nat.not_lt_zero _)) _ _ _ hP hD hS (lv_sub hl [1, 2, 0] rfl)

set_option maxRecDepth 20000 in
theorem in_X3_breaks_X3 : ∀ w ∈ u_ws RX3 TX3 8, w ∈ wsX3_breaks := by decide +kernel
set_option maxRecDepth 20000 in
theorem lk_X3_breaks_17 : Cond.fieldLink RX3 17 (TX3 1).1 (TX3 1).2.1 (TX3 1).2.2.1 ∈ wsX3_breaks := by decide +kernel
set_option maxHeartbeats 4000000 in
set_option maxRecDepth 100000 in
theorem c_X3_breaks (D : va_G) (k : Nat → ClassId) (t : Nat → Nat) (l : Launch) {ad : Nat → Nat} {N : Nat → Int32} {S Wt L : Nat → Nat → Int32} {T : Nat → Int32} {G : Nat → Nat → Int64} {E : Nat → Int32} {su pa tr sh : Nat → Int32} {pv : Int32} (x1 x2 : Int32) : Ci D k t l yX3_breaks wsX3_breaks ({ frames := 3, cells := 0, slots := 0, locals := 90 }) [.ref (ad 0), .int x1, .int x2] (TBw ad k N S Wt L T G E su pa tr sh pv) (fun r w => (∃ j v : Nat, (j < 10 ∧ x1 = nI j ∧ v < 512 ∧ x2 = nI v) ∧ ((∃ r0, r0 < 8 ∧ BR (L j) v r0 ∧ (∀ q, q < r0 → ¬ BR (L j) v q) ∧ r = nI r0) ∨ ((∀ q, q < 8 → ¬ BR (L j) v q) ∧ r = -1)) ∧ w = TBw ad k N S Wt L T G E su pa tr sh pv) ∨ ((∀ j v : Nat, ¬ (j < 10 ∧ x1 = nI j ∧ v < 512 ∧ x2 = nI v)) ∧ r = -1 ∧ w = TBw ad k N S Wt L T G E su pa tr sh pv)) 0 0 := by
  refine fw_of (cc := cX3_breaks) (maxL := 3) (ret := (some .int)) (Qc := fun A => va_Qi (fun r w => (∃ j v : Nat, (j < 10 ∧ x1 = nI j ∧ v < 512 ∧ x2 = nI v) ∧ ((∃ r0, r0 < 8 ∧ BR (L j) v r0 ∧ (∀ q, q < r0 → ¬ BR (L j) v q) ∧ r = nI r0) ∨ ((∀ q, q < 8 → ¬ BR (L j) v q) ∧ r = -1)) ∧ w = TBw ad k N S Wt L T G E su pa tr sh pv) ∨ ((∀ j v : Nat, ¬ (j < 10 ∧ x1 = nI j ∧ v < 512 ∧ x2 = nI v)) ∧ r = -1 ∧ w = TBw ad k N S Wt L T G E su pa tr sh pv)) (BcW D A) A) (by decide) rfl (Nat.le_of_ble_eq_true rfl) ?_
  intro p e s m below meth c A ls C hP hD hl
  have C : Cx RX3 "breaks" cX3_breaks 3 (some .int) wsX3_breaks D k t A p s m ([.ref (ad 0), .int x1, .int x2] : List Value).toArray meth c := C
  have hl : lv_has ls 3 [(0, .ref (ad 0)), (1, .int x1), (2, .int x2)] := hl
  have hx := C.1
  have hb := C.2.1
  have hown := C.2.2.2.2.1
  have hts := C.2.2.2.2.2.1
  have hK := C.2.2.2.2.2.2.2.2.1
  have hZ := C.2.2.2.2.2.2.2.2.2.1
  have hN := C.2.2.2.2.2.2.2.2.2.2
  have hS : va_S A s.heap s.heap [] := va_S.rf
  refine lv_iload_n hx hb dX3_breaks_0 rfl (lv_at hl 1 rfl) ?_
  refine fw_i C hD hS (rn_S (As := [.int x1]) (rest := []) C (c_X3_isLaw D k t l x1 _) (va_cwS 1 hts gX3_breaks_X3_isLaw rfl rfl rfl hdX3_isLaw ⟨Nat.le_of_ble_eq_true rfl, Nat.le_of_ble_eq_true rfl⟩) hP hD hS rfl hl.1 rfl (Nat.le_of_ble_eq_true rfl) dX3_breaks_1 ⟨Nat.zero_le _, Nat.zero_le _⟩) (fun r1 wr1 H locs h2 hP hD hS => ?_)
  obtain ⟨rfl, rfl⟩ := h2
  refine lv_if_eq (tgt := 27) hx hb dX3_breaks_4 (by decide) (fun c3 => ?_) (fun c3 => ?_)
  · have c3 := pb_z c3
    refine lv_iconst (v := (-1)) hx hb dX3_breaks_27 (by decide) ?_
    exact Ri C hP hD hS (Nat.zero_le _) (Nat.zero_le _) dX3_breaks_28 (Or.inr ⟨fun j _ q => c3 ⟨j, Nat.zero_le _, q.1, q.2.1⟩, rfl, rfl⟩)
  · have c3 := pb_nz c3
    obtain ⟨j, h0j, hj, rfl⟩ := id c3
    refine lv_iload_n hx hb dX3_breaks_7 rfl (lv_at hl 2 rfl) ?_
    refine fw_i C hD hS (rn_S (As := [.int x2]) (rest := []) C (c_X3_isGivens D k t l x2 _) (va_cwS 1 hts gX3_breaks_X3_isGivens rfl rfl rfl hdX3_isGivens ⟨Nat.le_of_ble_eq_true rfl, Nat.le_of_ble_eq_true rfl⟩) hP hD hS rfl hl.1 rfl (Nat.le_of_ble_eq_true rfl) dX3_breaks_8 ⟨Nat.zero_le _, Nat.zero_le _⟩) (fun r4 wr4 H locs h5 hP hD hS => ?_)
    obtain ⟨rfl, rfl⟩ := h5
    refine lv_if_eq (tgt := 27) hx hb dX3_breaks_11 (by decide) (fun c6 => ?_) (fun c6 => ?_)
    · have c6 := pb_z c6
      refine lv_iconst (v := (-1)) hx hb dX3_breaks_27 (by decide) ?_
      exact Ri C hP hD hS (Nat.zero_le _) (Nat.zero_le _) dX3_breaks_28 (Or.inr ⟨fun _ v q => c6 ⟨v, Nat.zero_le _, q.2.2.1, q.2.2.2⟩, rfl, rfl⟩)
    · have c6 := pb_nz c6
      obtain ⟨v, h0v, hv, rfl⟩ := id c6
      refine lv_aload_n hx hb dX3_breaks_14 rfl (lv_at hl 0 rfl) ?_
      refine fg C hP 0 tb_o (ci := 3) rfl 1 (by decide) in_X3_breaks_X3 lk_X3_breaks_17 (v := .ref (ad 14)) rfl dX3_breaks_15 ?_
      refine lv_iload_n hx hb dX3_breaks_18 rfl (lv_at hl 1 rfl) ?_
      refine ar_r C hP 14 tb_ls (j := j) (v := .ref (ad (15 + j))) rfl (by omega) (by decide) dX3_breaks_19 ?_
      refine lv_iload_n hx hb dX3_breaks_20 rfl (lv_at hl 2 rfl) ?_
      refine fw_i C hD hS (rn_S (As := [.ref (ad (15 + j)), .int (nI v)]) (rest := []) C (c_X3_firstBreakingRow D k t l hj hv _) (va_cwS 2 hts gX3_breaks_X3_firstBreakingRow rfl rfl rfl hdX3_firstBreakingRow ⟨Nat.le_of_ble_eq_true rfl, Nat.le_of_ble_eq_true rfl⟩) hP hD hS rfl hl.1 rfl (Nat.le_of_ble_eq_true rfl) dX3_breaks_21 ⟨Nat.zero_le _, Nat.zero_le _⟩) (fun r7 wr7 H locs h8 hP hD hS => ?_)
      obtain ⟨hfb, rfl⟩ := h8
      refine lv_goto (tgt := 28) hx hb dX3_breaks_24 (by decide) ?_
      exact Ri C hP hD hS (Nat.zero_le _) (Nat.zero_le _) dX3_breaks_28 (Or.inl ⟨j, v, ⟨hj, rfl, hv, rfl⟩, hfb, rfl⟩)

theorem alw_f {f : Nat → Int32} {v : Nat} {r : Int32} (h : (∃ r0, r0 < 8 ∧ BR f v r0 ∧ (∀ q, q < r0 → ¬ BR f v q) ∧ r = nI r0) ∨ ((∀ q, q < 8 → ¬ BR f v q) ∧ r = -1)) (c : ¬ r = -1) : nI 0 = pb (∀ q, q < 8 → ¬ BR f v q) := by
  rcases h with ⟨r0, h1, h2, _, _⟩ | ⟨_, h⟩
  · exact (pb_f (fun z => z r0 h1 h2)).symm
  · exact absurd h c
theorem alw_t {f : Nat → Int32} {v : Nat} {r : Int32} (h : (∃ r0, r0 < 8 ∧ BR f v r0 ∧ (∀ q, q < r0 → ¬ BR f v q) ∧ r = nI r0) ∨ ((∀ q, q < 8 → ¬ BR f v q) ∧ r = -1)) (c : r = -1) : nI 1 = pb (∀ q, q < 8 → ¬ BR f v q) := by
  rcases h with ⟨r0, h1, h2, _, e⟩ | ⟨h, _⟩
  · rw [e] at c
    have h3 := nI_pos (n := r0) (by omega)
    rw [c] at h3
    exact absurd (by decide) h3
  · exact (pb_t h).symm
set_option maxRecDepth 20000 in
theorem in_X3_always_X3 : ∀ w ∈ u_ws RX3 TX3 8, w ∈ wsX3_always := by decide +kernel
set_option maxRecDepth 20000 in
theorem lk_X3_always_17 : Cond.fieldLink RX3 17 (TX3 1).1 (TX3 1).2.1 (TX3 1).2.2.1 ∈ wsX3_always := by decide +kernel
set_option maxHeartbeats 4000000 in
set_option maxRecDepth 100000 in
theorem c_X3_always (D : va_G) (k : Nat → ClassId) (t : Nat → Nat) (l : Launch) {ad : Nat → Nat} {N : Nat → Int32} {S Wt L : Nat → Nat → Int32} {T : Nat → Int32} {G : Nat → Nat → Int64} {E : Nat → Int32} {su pa tr sh : Nat → Int32} {pv : Int32} (x1 x2 : Int32) : Ci D k t l yX3_always wsX3_always ({ frames := 3, cells := 0, slots := 0, locals := 90 }) [.ref (ad 0), .int x1, .int x2] (TBw ad k N S Wt L T G E su pa tr sh pv) (fun r w => (∃ j v : Nat, (j < 10 ∧ x1 = nI j ∧ v < 512 ∧ x2 = nI v) ∧ r = pb (∀ q, q < 8 → ¬ BR (L j) v q) ∧ w = TBw ad k N S Wt L T G E su pa tr sh pv) ∨ ((∀ j v : Nat, ¬ (j < 10 ∧ x1 = nI j ∧ v < 512 ∧ x2 = nI v)) ∧ r = -1 ∧ w = TBw ad k N S Wt L T G E su pa tr sh pv)) 0 0 := by
  refine fw_of (cc := cX3_always) (maxL := 3) (ret := (some .int)) (Qc := fun A => va_Qi (fun r w => (∃ j v : Nat, (j < 10 ∧ x1 = nI j ∧ v < 512 ∧ x2 = nI v) ∧ r = pb (∀ q, q < 8 → ¬ BR (L j) v q) ∧ w = TBw ad k N S Wt L T G E su pa tr sh pv) ∨ ((∀ j v : Nat, ¬ (j < 10 ∧ x1 = nI j ∧ v < 512 ∧ x2 = nI v)) ∧ r = -1 ∧ w = TBw ad k N S Wt L T G E su pa tr sh pv)) (BcW D A) A) (by decide) rfl (Nat.le_of_ble_eq_true rfl) ?_
  intro p e s m below meth c A ls C hP hD hl
  have C : Cx RX3 "always" cX3_always 3 (some .int) wsX3_always D k t A p s m ([.ref (ad 0), .int x1, .int x2] : List Value).toArray meth c := C
  have hl : lv_has ls 3 [(0, .ref (ad 0)), (1, .int x1), (2, .int x2)] := hl
  have hx := C.1
  have hb := C.2.1
  have hown := C.2.2.2.2.1
  have hts := C.2.2.2.2.2.1
  have hK := C.2.2.2.2.2.2.2.2.1
  have hZ := C.2.2.2.2.2.2.2.2.2.1
  have hN := C.2.2.2.2.2.2.2.2.2.2
  have hS : va_S A s.heap s.heap [] := va_S.rf
  refine lv_iload_n hx hb dX3_always_0 rfl (lv_at hl 1 rfl) ?_
  refine fw_i C hD hS (rn_S (As := [.int x1]) (rest := []) C (c_X3_isLaw D k t l x1 _) (va_cwS 1 hts gX3_always_X3_isLaw rfl rfl rfl hdX3_isLaw ⟨Nat.le_of_ble_eq_true rfl, Nat.le_of_ble_eq_true rfl⟩) hP hD hS rfl hl.1 rfl (Nat.le_of_ble_eq_true rfl) dX3_always_1 ⟨Nat.zero_le _, Nat.zero_le _⟩) (fun r1 wr1 H locs h2 hP hD hS => ?_)
  obtain ⟨rfl, rfl⟩ := h2
  refine lv_if_eq (tgt := 14) hx hb dX3_always_4 (by decide) (fun c3 => ?_) (fun c3 => ?_)
  · have c3 := pb_z c3
    refine lv_iconst (v := (-1)) hx hb dX3_always_14 (by decide) ?_
    exact Ri C hP hD hS (Nat.zero_le _) (Nat.zero_le _) dX3_always_15 (Or.inr ⟨fun j _ q => c3 ⟨j, Nat.zero_le _, q.1, q.2.1⟩, rfl, rfl⟩)
  · have c3 := pb_nz c3
    obtain ⟨j, h0j, hj, rfl⟩ := id c3
    refine lv_iload_n hx hb dX3_always_7 rfl (lv_at hl 2 rfl) ?_
    refine fw_i C hD hS (rn_S (As := [.int x2]) (rest := []) C (c_X3_isGivens D k t l x2 _) (va_cwS 1 hts gX3_always_X3_isGivens rfl rfl rfl hdX3_isGivens ⟨Nat.le_of_ble_eq_true rfl, Nat.le_of_ble_eq_true rfl⟩) hP hD hS rfl hl.1 rfl (Nat.le_of_ble_eq_true rfl) dX3_always_8 ⟨Nat.zero_le _, Nat.zero_le _⟩) (fun r4 wr4 H locs h5 hP hD hS => ?_)
    obtain ⟨rfl, rfl⟩ := h5
    refine lv_if_ne (tgt := 16) hx hb dX3_always_11 (by decide) (fun c6 => ?_) (fun c6 => ?_)
    · have c6 := pb_nz c6
      obtain ⟨v, h0v, hv, rfl⟩ := id c6
      refine lv_aload_n hx hb dX3_always_16 rfl (lv_at hl 0 rfl) ?_
      refine fg C hP 0 tb_o (ci := 3) rfl 1 (by decide) in_X3_always_X3 lk_X3_always_17 (v := .ref (ad 14)) rfl dX3_always_17 ?_
      refine lv_iload_n hx hb dX3_always_20 rfl (lv_at hl 1 rfl) ?_
      refine ar_r C hP 14 tb_ls (j := j) (v := .ref (ad (15 + j))) rfl (by omega) (by decide) dX3_always_21 ?_
      refine lv_iload_n hx hb dX3_always_22 rfl (lv_at hl 2 rfl) ?_
      refine fw_i C hD hS (rn_S (As := [.ref (ad (15 + j)), .int (nI v)]) (rest := []) C (c_X3_firstBreakingRow D k t l hj hv _) (va_cwS 2 hts gX3_always_X3_firstBreakingRow rfl rfl rfl hdX3_firstBreakingRow ⟨Nat.le_of_ble_eq_true rfl, Nat.le_of_ble_eq_true rfl⟩) hP hD hS rfl hl.1 rfl (Nat.le_of_ble_eq_true rfl) dX3_always_23 ⟨Nat.zero_le _, Nat.zero_le _⟩) (fun r7 wr7 H locs h8 hP hD hS => ?_)
      obtain ⟨hfb, rfl⟩ := h8
      refine lv_iconst (v := (-1)) hx hb dX3_always_26 (by decide) ?_
      refine lv_icmp_ne (tgt := 34) hx hb dX3_always_27 (by decide) (fun c9 => ?_) (fun c9 => ?_)
      · refine lv_iconst (v := nI 0) hx hb dX3_always_34 (by decide) ?_
        exact Ri C hP hD hS (Nat.zero_le _) (Nat.zero_le _) dX3_always_35 (Or.inl ⟨j, v, ⟨hj, rfl, hv, rfl⟩, alw_f hfb c9, rfl⟩)
      · refine lv_iconst (v := nI 1) hx hb dX3_always_30 (by decide) ?_
        refine lv_goto (tgt := 35) hx hb dX3_always_31 (by decide) ?_
        exact Ri C hP hD hS (Nat.zero_le _) (Nat.zero_le _) dX3_always_35 (Or.inl ⟨j, v, ⟨hj, rfl, hv, rfl⟩, alw_t hfb c9, rfl⟩)
    · have c6 := pb_z c6
      refine lv_iconst (v := (-1)) hx hb dX3_always_14 (by decide) ?_
      exact Ri C hP hD hS (Nat.zero_le _) (Nat.zero_le _) dX3_always_15 (Or.inr ⟨fun _ v q => c6 ⟨v, Nat.zero_le _, q.2.2.1, q.2.2.2⟩, rfl, rfl⟩)

