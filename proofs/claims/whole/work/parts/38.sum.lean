def cs (T : Nat → Int32) : Nat → Int64
  | 0 => 0
  | i + 1 => cs T i + (T i).toInt64 * tb_logs.getD i 0
def ca (T : Nat → Int32) : Nat → Int64
  | 0 => 0
  | i + 1 => ca T i + (if 0 ≤ T i then T i else 0 - T i).toInt64
/-- the sign as the class finds it -/
noncomputable def f_sgs (T : Nat → Int32) (e : Nat → Int) : Int32 := if ca T 6 < cs T 6 then nI 1 else if cs T 6 < -ca T 6 then -1 else @ite _ (∀ j, j < 6 → T j = 0) (Classical.propDecidable _) (nI 0) (f_cmp (upv e 6) (upv (ng e) 6))
set_option maxRecDepth 20000 in
theorem in_X0_signOfSum_X0 : ∀ w ∈ u_ws RX0 TX0 3, w ∈ wsX0_signOfSum := by decide +kernel
set_option maxRecDepth 20000 in
theorem lk_X0_signOfSum_13 : Cond.fieldLink RX0 13 (TX0 0).1 (TX0 0).2.1 (TX0 0).2.2.1 ∈ wsX0_signOfSum := by decide +kernel
set_option maxHeartbeats 4000000 in
set_option maxRecDepth 100000 in
theorem c_X0_signOfSum (D : va_G) (k : Nat → ClassId) (t : Nat → Nat) (l : Launch) {ad : Nat → Nat} {N : Nat → Int32} {S Wt L : Nat → Nat → Int32} {T : Nat → Int32} {G : Nat → Nat → Int64} {E : Nat → Int32} {su pa tr sh : Nat → Int32} {pv : Int32} {ee : Nat → Int} (hT : ZT T ee) (hb0 : upv ee 6 < 4294967296 ^ 1024) (hb1 : upv (ng ee) 6 < 4294967296 ^ 1024) : Ci D k t l yX0_signOfSum wsX0_signOfSum ({ frames := 3, cells := 0, slots := 0, locals := 120 }) [.ref (ad 25)] (TBw ad k N S Wt L T G E su pa tr sh pv) (fun r w => ∃ (G2 : Nat → Nat → Int64) (E2 : Nat → Int32), r = f_sgs T ee ∧ w = TBw ad k N S Wt L T G2 E2 su pa tr sh pv) 0 0 := by
  refine fw_of (cc := cX0_signOfSum) (maxL := 6) (ret := (some .int)) (Qc := fun A => va_Qi (fun r w => ∃ (G2 : Nat → Nat → Int64) (E2 : Nat → Int32), r = f_sgs T ee ∧ w = TBw ad k N S Wt L T G2 E2 su pa tr sh pv) (BcW D A) A) (by decide) rfl (Nat.le_of_ble_eq_true rfl) ?_
  intro p e s m below meth c A ls C hP hD hl
  have C : Cx RX0 "signOfSum" cX0_signOfSum 6 (some .int) wsX0_signOfSum D k t A p s m ([.ref (ad 25)] : List Value).toArray meth c := C
  have hl : lv_has ls 6 [(0, .ref (ad 25))] := hl
  have hx := C.1
  have hb := C.2.1
  have hown := C.2.2.2.2.1
  have hts := C.2.2.2.2.2.1
  have hK := C.2.2.2.2.2.2.2.2.1
  have hZ := C.2.2.2.2.2.2.2.2.2.1
  have hN := C.2.2.2.2.2.2.2.2.2.2
  have hS : va_S A s.heap s.heap [] := va_S.rf
  refine lv_lconst (v := 0) hx hb dX0_signOfSum_0 (by decide) ?_
  refine tp_j (y := cs T 0) (rfl) ?_
  refine lv_lstore_n (lv' := [(1, .long (cs T 0)), (0, .ref (ad 25))]) hx hb dX0_signOfSum_1 rfl hl (by decide) rfl (fun ls hl => ?_)
  refine lv_lconst (v := 0) hx hb dX0_signOfSum_2 (by decide) ?_
  refine tp_j (y := ca T 0) (rfl) ?_
  refine lv_lstore_n (lv' := [(3, .long (ca T 0)), (1, .long (cs T 0)), (0, .ref (ad 25))]) hx hb dX0_signOfSum_3 rfl hl (by decide) rfl (fun ls hl => ?_)
  refine lv_iconst (v := nI 0) hx hb dX0_signOfSum_4 (by decide) ?_
  refine lv_istore (lv' := [(5, .int (nI 0)), (3, .long (ca T 0)), (1, .long (cs T 0)), (0, .ref (ad 25))]) hx hb dX0_signOfSum_5 hl (by decide) rfl (fun ls hl => ?_)
  have L1 : ∀ (r i : Nat), i + r = 6 → ∀ (H : Heap) (locs : List Loc) (ls : Array Slot), va_P D vwCl (TBw ad k N S Wt L T G E su pa tr sh pv) H → va_D A (TBw ad k N S Wt L T G E su pa tr sh pv) → va_S A s.heap H locs → lv_has ls 6 [(0, .ref (ad 25)), (1, .long (cs T i)), (3, .long (ca T i)), (5, .int (nI i))] → W p l e ({ frames := 3, cells := 0, slots := 0, locals := 120 }) s m ([.ref (ad 25)] : List Value).toArray below meth c H locs 0 0 (MQ below (va_Qi (fun r w => ∃ (G2 : Nat → Nat → Int64) (E2 : Nat → Int32), r = f_sgs T ee ∧ w = TBw ad k N S Wt L T G2 E2 su pa tr sh pv) (BcW D A) A) ([.ref (ad 25)] : List Value).toArray s 0 0 A) (F0 m 7 ls []) := by
    intro r
    induction r with
    | zero =>
      intro i hr H locs ls hP hD hS hl
      obtain rfl : 6 = i := by omega
      refine lv_iload hx hb dX0_signOfSum_7 (lv_at hl 3 rfl) ?_
      refine va_getsN hx hb (hZ.1.1) hS hown (va_Nw.use rfl (hN.2 (RX0, 9, RX3, "PRIMES", "[I") (List.mem_of_getElem? (i := 0) rfl))) (fun _ h9 => h9) dX0_signOfSum_9 ?_
      refine va_tlen (v := nI 6) hx hb (hZ.1.2) hS rfl dX0_signOfSum_12 ?_
      refine lv_icmp_ge (tgt := 54) hx hb dX0_signOfSum_13 (by decide) (fun c2 => ?_) (fun c2 => absurd (nI_le (by omega) (by decide)) c2)
      refine lv_lload_n hx hb dX0_signOfSum_54 rfl (lv_at hl 1 rfl) ?_
      refine lv_lload_n hx hb dX0_signOfSum_55 rfl (lv_at hl 2 rfl) ?_
      refine W.lcmp hx hb dX0_signOfSum_56 ?_
      refine lv_if_le (tgt := 62) hx hb dX0_signOfSum_57 (by decide) (fun c3 => ?_) (fun c3 => ?_)
      · refine lv_lload_n hx hb dX0_signOfSum_62 rfl (lv_at hl 1 rfl) ?_
        refine lv_lload_n hx hb dX0_signOfSum_63 rfl (lv_at hl 2 rfl) ?_
        refine lv_lneg hx hb dX0_signOfSum_64 ?_
        refine W.lcmp hx hb dX0_signOfSum_65 ?_
        refine lv_if_ge (tgt := 71) hx hb dX0_signOfSum_66 (by decide) (fun c4 => ?_) (fun c4 => ?_)
        · refine lv_aload_n hx hb dX0_signOfSum_71 rfl (lv_at hl 0 rfl) ?_
          refine fw_i C hD hS (rn_V (As := []) (rest := []) C (c_X0_isNought D k t l _) (cwV 0 hts gX0_signOfSum_X0_isNought rfl rfl rfl hdX0_isNoughtC ⟨Nat.le_of_ble_eq_true rfl, Nat.le_of_ble_eq_true rfl⟩) 25 0 rfl tb_g rfl hP hD hS rfl hl.1 rfl (Nat.le_of_ble_eq_true rfl) dX0_signOfSum_72 ⟨Nat.zero_le _, Nat.zero_le _⟩) (fun r5 wr5 H locs h6 hP hD hS => ?_)
          obtain ⟨rfl, rfl⟩ := h6
          refine lv_if_eq (tgt := 82) hx hb dX0_signOfSum_75 (by decide) (fun c7 => ?_) (fun c7 => ?_)
          · have c7 := pb_z c7
            refine lv_aload_n hx hb dX0_signOfSum_82 rfl (lv_at hl 0 rfl) ?_
            refine fw_i C hD hS (rn_V (As := []) (rest := []) C (c_X0_signOfProducts D k t l hT hb0 hb1 _) (cwV 0 hts gX0_signOfSum_X0_signOfProducts rfl rfl rfl hdX0_signOfProductsC ⟨Nat.le_of_ble_eq_true rfl, Nat.le_of_ble_eq_true rfl⟩) 25 0 rfl tb_g rfl hP hD hS rfl hl.1 rfl (Nat.le_of_ble_eq_true rfl) dX0_signOfSum_83 ⟨Nat.zero_le _, Nat.zero_le _⟩) (fun r8 wr8 H locs h9 hP hD hS => ?_)
            obtain ⟨G2, E2, rfl, rfl⟩ := h9
            exact Ri C hP hD hS (Nat.zero_le _) (Nat.zero_le _) dX0_signOfSum_86 (⟨_, _, by rw [f_sgs, if_neg (fun q => absurd ((lg_cmp_gt _ _).mpr q) (Int32.not_lt.mpr c3)), if_neg (fun q => absurd ((lg_cmp_lt _ _).mpr q) (Int32.not_lt.mpr c4)), if_neg c7], rfl⟩)
          · have c7 := pb_nz c7
            refine lv_iconst (v := nI 0) hx hb dX0_signOfSum_78 (by decide) ?_
            refine lv_goto (tgt := 86) hx hb dX0_signOfSum_79 (by decide) ?_
            exact Ri C hP hD hS (Nat.zero_le _) (Nat.zero_le _) dX0_signOfSum_86 (⟨G, E, by rw [f_sgs, if_neg (fun q => absurd ((lg_cmp_gt _ _).mpr q) (Int32.not_lt.mpr c3)), if_neg (fun q => absurd ((lg_cmp_lt _ _).mpr q) (Int32.not_lt.mpr c4)), if_pos c7], rfl⟩)
        · refine lv_iconst (v := (-1)) hx hb dX0_signOfSum_69 (by decide) ?_
          exact Ri C hP hD hS (Nat.zero_le _) (Nat.zero_le _) dX0_signOfSum_70 (⟨G, E, by rw [f_sgs, if_neg (fun q => absurd ((lg_cmp_gt _ _).mpr q) (Int32.not_lt.mpr c3)), if_pos ((lg_cmp_lt _ _).mp (Int32.not_le.mp c4))], rfl⟩)
      · refine lv_iconst (v := nI 1) hx hb dX0_signOfSum_60 (by decide) ?_
        exact Ri C hP hD hS (Nat.zero_le _) (Nat.zero_le _) dX0_signOfSum_61 (⟨G, E, by rw [f_sgs, if_pos ((lg_cmp_gt _ _).mp (Int32.not_le.mp c3))], rfl⟩)
    | succ r ihL1 =>
      intro i hr H locs ls hP hD hS hl
      refine lv_iload hx hb dX0_signOfSum_7 (lv_at hl 3 rfl) ?_
      refine va_getsN hx hb (hZ.1.1) hS hown (va_Nw.use rfl (hN.2 (RX0, 9, RX3, "PRIMES", "[I") (List.mem_of_getElem? (i := 0) rfl))) (fun _ h9 => h9) dX0_signOfSum_9 ?_
      refine va_tlen (v := nI 6) hx hb (hZ.1.2) hS rfl dX0_signOfSum_12 ?_
      refine lv_icmp_ge (tgt := 54) hx hb dX0_signOfSum_13 (by decide) (fun c10 => absurd c10 (nI_ge (by omega) (by decide))) (fun c10 => ?_)
      refine lv_lload_n hx hb dX0_signOfSum_16 rfl (lv_at hl 1 rfl) ?_
      refine lv_aload_n hx hb dX0_signOfSum_17 rfl (lv_at hl 0 rfl) ?_
      refine fg C hP 25 tb_g (ci := 0) rfl 0 (by decide) in_X0_signOfSum_X0 lk_X0_signOfSum_13 (v := .ref (ad 26)) rfl dX0_signOfSum_18 ?_
      refine lv_iload hx hb dX0_signOfSum_21 (lv_at hl 3 rfl) ?_
      refine ar_i C hP 26 tb_t (j := i) (by omega) (by decide) dX0_signOfSum_23 ?_
      refine lv_i2l (v := (T i).toInt64) hx hb dX0_signOfSum_24 rfl ?_
      refine va_getsN hx hb (hZ.2.2.2.2.2.1) hS hown (va_Nw.use rfl (hN.2 (RX0, 37, RX3, "LOGS_CUT", "[J") (List.mem_of_getElem? (i := 4) rfl))) (fun _ h9 => h9) dX0_signOfSum_25 ?_
      refine lv_iload hx hb dX0_signOfSum_28 (lv_at hl 3 rfl) ?_
      refine at_j hx hb (hZ.2.2.2.2.2.2) hS (j := i) (by omega) (by decide) dX0_signOfSum_30 ?_
      refine lv_lmul hx hb dX0_signOfSum_31 ?_
      refine lv_ladd hx hb dX0_signOfSum_32 ?_
      refine tp_j (y := cs T (i + 1)) (rfl) ?_
      refine lv_lstore_n (lv' := [(1, .long (cs T (i + 1))), (0, .ref (ad 25)), (3, .long (ca T i)), (5, .int (nI i))]) hx hb dX0_signOfSum_33 rfl hl (by decide) rfl (fun ls hl => ?_)
      refine lv_lload_n hx hb dX0_signOfSum_34 rfl (lv_at hl 2 rfl) ?_
      refine lv_aload_n hx hb dX0_signOfSum_35 rfl (lv_at hl 1 rfl) ?_
      refine fg C hP 25 tb_g (ci := 0) rfl 0 (by decide) in_X0_signOfSum_X0 lk_X0_signOfSum_13 (v := .ref (ad 26)) rfl dX0_signOfSum_36 ?_
      refine lv_iload hx hb dX0_signOfSum_39 (lv_at hl 3 rfl) ?_
      refine ar_i C hP 26 tb_t (j := i) (by omega) (by decide) dX0_signOfSum_41 ?_
      refine va_mabs hx hb (C.2.2.2.1.trans hl.1.symm) hown (hts (.methodLink RX0 41 Lib.Math.abs.name) (by decide +kernel)) (hts (.static Lib.Math.abs.name) (by decide +kernel)) (hts (.initialized "java/lang/Math") (by decide +kernel)) (hts (.code Lib.Math.abs.name Lib.Math.abs.code 1 (some .int)) (by decide +kernel)) (Nat.le_of_ble_eq_true rfl) (Nat.le_of_ble_eq_true rfl) (Nat.zero_le _) (Nat.zero_le _) dX0_signOfSum_42 ?_
      refine lv_i2l (v := (if 0 ≤ (T i) then (T i) else 0 - (T i)).toInt64) hx hb dX0_signOfSum_45 rfl ?_
      refine lv_ladd hx hb dX0_signOfSum_46 ?_
      refine tp_j (y := ca T (i + 1)) (rfl) ?_
      refine lv_lstore_n (lv' := [(3, .long (ca T (i + 1))), (1, .long (cs T (i + 1))), (0, .ref (ad 25)), (5, .int (nI i))]) hx hb dX0_signOfSum_47 rfl hl (by decide) rfl (fun ls hl => ?_)
      refine lv_iinc (v := nI (i + 1)) (lv' := [(5, .int (nI (i + 1))), (3, .long (ca T (i + 1))), (1, .long (cs T (i + 1))), (0, .ref (ad 25))]) hx hb dX0_signOfSum_48 hl (k := 3) rfl (by rw [← nI_add i 1]; rfl) (by decide) rfl (fun ls hl => ?_)
      refine lv_goto (tgt := 7) hx hb dX0_signOfSum_51 (by decide) ?_
      exact ihL1 (i + 1) (by omega) _ _ _ hP hD hS (lv_sub hl [3, 2, 1, 0] rfl)
  exact L1 (6 - 0) 0 (by omega) _ _ _ hP hD hS (lv_sub hl [3, 2, 1, 0] rfl)

