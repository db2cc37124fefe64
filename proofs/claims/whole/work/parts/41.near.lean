/-! near -/
def stp (i : Nat) : Nat := 1024 / 2 ^ i
theorem stp_s (i : Nat) : stp (i + 1) = stp i / 2 := by unfold stp; rw [Nat.pow_succ, Nat.div_div_eq_div_mul]
def nr (b : Nat → Int) (n : Nat) (f : Int) : Nat → Int := adl b (-f * (n : Int)) 2
theorem nr_add (b : Nat → Int) (n : Nat) (f s : Int) : adl (nr b n f) (-s * (n : Int)) 2 = nr b n (f + s) := by
  funext j
  simp only [nr, adl]
  rw [Int.add_assoc, ← Int.add_mul, ← Int.add_mul, Int.neg_add]
theorem nr_sub (b : Nat → Int) (n : Nat) (f s : Int) : adl (nr b n (f + s)) (s * (n : Int)) 2 = nr b n f := by
  have h := nr_add b n (f + s) (-s)
  rw [Int.neg_neg] at h
  rw [h]
  congr 1
  omega
def nB (vv : Nat → Nat → Nat) (nn : Nat → Nat) (qq : Nat → Nat → Int) (g j : Nat) : Nat → Int := lxp z0 (vv g) (nn g) (qq j) 16 7
/-- what near has found after i steps -/
noncomputable def fd (b : Nat → Int) (n : Nat) : Nat → Int
  | 0 => -1024
  | i + 1 => if f_sgs (zT (nr b n (fd b n i + (stp i : Nat)))) (nr b n (fd b n i + (stp i : Nat))) < 0 then fd b n i else fd b n i + (stp i : Nat)
theorem fd_lo (b : Nat → Int) (n : Nat) : ∀ i, -1024 ≤ fd b n i
  | 0 => Int.le_refl _
  | i + 1 => by
    have h := fd_lo b n i
    rw [fd]
    split
    · exact h
    · omega
theorem fd_hi (b : Nat → Int) (n : Nat) : ∀ i, fd b n i + 2 * (stp i : Nat) ≤ 1024
  | 0 => by rw [fd]; decide
  | i + 1 => by
    have h := fd_hi b n i
    rw [fd, stp_s]
    split
    · omega
    · omega
theorem st_pos : ∀ i, i < 11 → ¬ nI (stp i) ≤ 0 := by decide +kernel
theorem st_lt (i : Nat) : stp i < 2 ^ 31 := Nat.lt_of_le_of_lt (Nat.div_le_self _ _) (by decide)
set_option maxRecDepth 20000 in
theorem in_X3_near_X3 : ∀ w ∈ u_ws RX3 TX3 8, w ∈ wsX3_near := by decide +kernel
set_option maxRecDepth 20000 in
theorem lk_X3_near_11 : Cond.fieldLink RX3 11 (TX3 0).1 (TX3 0).2.1 (TX3 0).2.2.1 ∈ wsX3_near := by decide +kernel
set_option maxRecDepth 20000 in
theorem in_X3_near_X2 : ∀ w ∈ u_ws RX2 TX2 3, w ∈ wsX3_near := by decide +kernel
set_option maxRecDepth 20000 in
theorem lk_X3_near_23 : Cond.fieldLink RX3 23 (TX3 2).1 (TX3 2).2.1 (TX3 2).2.2.1 ∈ wsX3_near := by decide +kernel
set_option maxRecDepth 20000 in
theorem lk_X3_near_17 : Cond.fieldLink RX3 17 (TX3 1).1 (TX3 1).2.1 (TX3 1).2.2.1 ∈ wsX3_near := by decide +kernel
set_option maxHeartbeats 4000000 in
set_option maxRecDepth 100000 in
theorem c_X3_near (D : va_G) (k : Nat → ClassId) (t : Nat → Nat) (l : Launch) {ad : Nat → Nat} {N : Nat → Int32} {S Wt L : Nat → Nat → Int32} {T : Nat → Int32} {G : Nat → Nat → Int64} {E : Nat → Int32} {su pa tr sh : Nat → Int32} {pv : Int32} {nn : Nat → Nat} {vv : Nat → Nat → Nat} {qq : Nat → Nat → Int} (hW : WI N Wt nn vv) (hLI : LI L qq) (hB : ∀ g j c, g < 4 → j < 10 → 1 ≤ nn g → -1024 ≤ c → c ≤ 1024 → BE (nr (nB vv nn qq g j) (nn g) c)) (x1 x2 : Int32) : Ci D k t l yX3_near wsX3_near ({ frames := 4, cells := 0, slots := 0, locals := 170 }) [.ref (ad 0), .int x1, .int x2] (TBw ad k N S Wt L T G E su pa tr sh pv) (fun r w => (∃ ga ja : Nat, (ga < 4 ∧ x1 = nI ga ∧ ¬ N ga ≤ 0 ∧ ja < 10 ∧ x2 = nI ja) ∧ r = zI (fd (nB vv nn qq ga ja) (nn ga) 11) ∧ ∃ (T2 : Nat → Int32) (G2 : Nat → Nat → Int64) (E2 su2 : Nat → Int32), w = TBw ad k N S Wt L T2 G2 E2 su2 pa tr sh pv) ∨ ((∀ ga ja : Nat, ¬ (ga < 4 ∧ x1 = nI ga ∧ ¬ N ga ≤ 0 ∧ ja < 10 ∧ x2 = nI ja)) ∧ r = -10000 ∧ w = TBw ad k N S Wt L T G E su pa tr sh pv)) 0 0 := by
  refine fw_of (cc := cX3_near) (maxL := 6) (ret := (some .int)) (Qc := fun A => va_Qi (fun r w => (∃ ga ja : Nat, (ga < 4 ∧ x1 = nI ga ∧ ¬ N ga ≤ 0 ∧ ja < 10 ∧ x2 = nI ja) ∧ r = zI (fd (nB vv nn qq ga ja) (nn ga) 11) ∧ ∃ (T2 : Nat → Int32) (G2 : Nat → Nat → Int64) (E2 su2 : Nat → Int32), w = TBw ad k N S Wt L T2 G2 E2 su2 pa tr sh pv) ∨ ((∀ ga ja : Nat, ¬ (ga < 4 ∧ x1 = nI ga ∧ ¬ N ga ≤ 0 ∧ ja < 10 ∧ x2 = nI ja)) ∧ r = -10000 ∧ w = TBw ad k N S Wt L T G E su pa tr sh pv)) (BcW D A) A) (by decide) rfl (Nat.le_of_ble_eq_true rfl) ?_
  intro p e s m below meth c A ls C hP hD hl
  have C : Cx RX3 "near" cX3_near 6 (some .int) wsX3_near D k t A p s m ([.ref (ad 0), .int x1, .int x2] : List Value).toArray meth c := C
  have hl : lv_has ls 6 [(0, .ref (ad 0)), (1, .int x1), (2, .int x2)] := hl
  have hx := C.1
  have hb := C.2.1
  have hown := C.2.2.2.2.1
  have hts := C.2.2.2.2.2.1
  have hK := C.2.2.2.2.2.2.2.2.1
  have hZ := C.2.2.2.2.2.2.2.2.2.1
  have hN := C.2.2.2.2.2.2.2.2.2.2
  have hS : va_S A s.heap s.heap [] := va_S.rf
  refine lv_aload_n hx hb dX3_near_0 rfl (lv_at hl 0 rfl) ?_
  refine lv_iload_n hx hb dX3_near_1 rfl (lv_at hl 1 rfl) ?_
  refine fw_i C hD hS (rn_V (As := [.int x1]) (rest := []) C (c_X3_isMadePlace D k t l x1 _) (cwV 1 hts gX3_near_X3_isMadePlace rfl rfl rfl hdX3_isMadePlaceC ⟨Nat.le_of_ble_eq_true rfl, Nat.le_of_ble_eq_true rfl⟩) 0 3 rfl tb_o rfl hP hD hS rfl hl.1 rfl (Nat.le_of_ble_eq_true rfl) dX3_near_2 ⟨Nat.zero_le _, Nat.zero_le _⟩) (fun r1 wr1 H locs h2 hP hD hS => ?_)
  obtain ⟨rfl, rfl⟩ := h2
  refine lv_if_eq (tgt := 15) hx hb dX3_near_5 (by decide) (fun c3 => ?_) (fun c3 => ?_)
  · have c3 := pb_z c3
    refine lv_sipush (v := (-10000)) hx hb dX3_near_15 (by decide) ?_
    exact Ri C hP hD hS (Nat.zero_le _) (Nat.zero_le _) dX3_near_18 (Or.inr ⟨fun g _ z => c3 ⟨g, z.1, z.2.1, z.2.2.1⟩, rfl, rfl⟩)
  · have c3 := pb_nz c3
    obtain ⟨g, hg, rfl, hmg⟩ := id c3
    refine lv_iload_n hx hb dX3_near_8 rfl (lv_at hl 2 rfl) ?_
    refine fw_i C hD hS (rn_S (As := [.int x2]) (rest := []) C (c_X3_isLaw D k t l x2 _) (va_cwS 1 hts gX3_near_X3_isLaw rfl rfl rfl hdX3_isLaw ⟨Nat.le_of_ble_eq_true rfl, Nat.le_of_ble_eq_true rfl⟩) hP hD hS rfl hl.1 rfl (Nat.le_of_ble_eq_true rfl) dX3_near_9 ⟨Nat.zero_le _, Nat.zero_le _⟩) (fun r4 wr4 H locs h5 hP hD hS => ?_)
    obtain ⟨rfl, rfl⟩ := h5
    refine lv_if_ne (tgt := 19) hx hb dX3_near_12 (by decide) (fun c6 => ?_) (fun c6 => ?_)
    · have c6 := pb_nz c6
      obtain ⟨j, h0j, hj, rfl⟩ := id c6
      have hng := hW.pos hg hmg
      refine lv_aload_n hx hb dX3_near_19 rfl (lv_at hl 0 rfl) ?_
      refine fg C hP 0 tb_o (ci := 3) rfl 0 (by decide) in_X3_near_X3 lk_X3_near_11 (v := .ref (ad 1)) rfl dX3_near_20 ?_
      refine lv_iload_n hx hb dX3_near_23 rfl (lv_at hl 1 rfl) ?_
      refine ar_q C hP 1 tb_ws (j := g) (v := .ref (ad (2 + 3 * g))) rfl (by omega) (by decide) dX3_near_24 ?_
      refine fg_N C hP (2 + 3 * g) (tb_w hg) (ci := 2) rfl 2 (by decide) in_X3_near_X2 (hN.2 (RX3, 75, RX2, "total", "I") (List.mem_of_getElem? (i := 2) rfl)) (v := .int (N g)) rfl dX3_near_25 ?_
      refine tp_i (y := nI (nn g)) ((hW g hg).1) ?_
      refine lv_istore_n (lv' := [(3, .int (nI (nn g))), (0, .ref (ad 0)), (1, .int (nI g)), (2, .int (nI j))]) hx hb dX3_near_28 rfl hl (by decide) rfl (fun ls hl => ?_)
      refine lv_sipush (v := (-1024)) hx hb dX3_near_29 (by decide) ?_
      refine tp_i (y := zI (-1024)) (rfl) ?_
      refine lv_istore (lv' := [(4, .int (zI (-1024))), (3, .int (nI (nn g))), (0, .ref (ad 0)), (1, .int (nI g)), (2, .int (nI j))]) hx hb dX3_near_32 hl (by decide) rfl (fun ls hl => ?_)
      refine lv_aload_n hx hb dX3_near_34 rfl (lv_at hl 2 rfl) ?_
      refine fg C hP 0 tb_o (ci := 3) rfl 2 (by decide) in_X3_near_X3 lk_X3_near_23 (v := .ref (ad 25)) rfl dX3_near_35 ?_
      refine fw_v C hD hS (rn_VN (As := []) (rest := []) (host := RX3) (C2 := RX0) C (c_X0_clear D k t l _) (va_cnB 0 hts gX3_near_X0_clear_n120 rfl rfl rfl (hN.1 (RX3, 120, yX0_clear) (List.mem_of_getElem? (i := 13) rfl)) (hts (.initialized RX0) (by decide +kernel)) hdX0_clear ⟨Nat.le_of_ble_eq_true rfl, Nat.le_of_ble_eq_true rfl⟩) (hts (.instanceMethod yX0_clear) (by decide +kernel)) (hts (.selects RX0 yX0_clear yX0_clear) (by decide +kernel)) 25 0 rfl tb_g rfl hP hD hS rfl hl.1 rfl (Nat.le_of_ble_eq_true rfl) dX3_near_38 ⟨Nat.zero_le _, Nat.zero_le _⟩) (fun wr7 H locs h8 hP hD hS => ?_)
      rw [zT_0] at h8
      obtain rfl := h8
      refine lv_aload_n hx hb dX3_near_41 rfl (lv_at hl 2 rfl) ?_
      refine lv_aload_n hx hb dX3_near_42 rfl (lv_at hl 2 rfl) ?_
      refine fg C hP 0 tb_o (ci := 3) rfl 0 (by decide) in_X3_near_X3 lk_X3_near_11 (v := .ref (ad 1)) rfl dX3_near_43 ?_
      refine lv_iload_n hx hb dX3_near_46 rfl (lv_at hl 3 rfl) ?_
      refine ar_q C hP 1 tb_ws (j := g) (v := .ref (ad (2 + 3 * g))) rfl (by omega) (by decide) dX3_near_47 ?_
      refine lv_aload_n hx hb dX3_near_48 rfl (lv_at hl 2 rfl) ?_
      refine fg C hP 0 tb_o (ci := 3) rfl 1 (by decide) in_X3_near_X3 lk_X3_near_17 (v := .ref (ad 14)) rfl dX3_near_49 ?_
      refine lv_iload_n hx hb dX3_near_52 rfl (lv_at hl 4 rfl) ?_
      refine ar_r C hP 14 tb_ls (j := j) (v := .ref (ad (15 + j))) rfl (by omega) (by decide) dX3_near_53 ?_
      refine lv_bipush (v := nI 16) hx hb dX3_near_54 (by decide) ?_
      refine tp_i (y := zI 16) (rfl) ?_
      refine fw_v C hD hS (rn_V (As := [.ref (ad (2 + 3 * g)), .ref (ad (15 + j)), .int (zI 16)]) (rest := []) C (c_X3_addLawSum D k t l (qs := qq j) (vt := vv g) (n := nn g) (tm := 16) hg hj (hW g hg).1 hng (hW g hg).2.1 (hW g hg).2.2.1 (hW g hg).2.2.2 (fun z hz => (hLI j hj z hz).1) (fun z hz => (hLI j hj z hz).2) _) (cwV 3 hts gX3_near_X3_addLawSum rfl rfl rfl hdX3_addLawSumC ⟨Nat.le_of_ble_eq_true rfl, Nat.le_of_ble_eq_true rfl⟩) 0 3 rfl tb_o rfl hP hD hS rfl hl.1 rfl (Nat.le_of_ble_eq_true rfl) dX3_near_56 ⟨Nat.zero_le _, Nat.zero_le _⟩) (fun wr9 H locs h10 hP hD hS => ?_)
      obtain ⟨su11, rfl⟩ := h10
      refine lv_aload_n hx hb dX3_near_59 rfl (lv_at hl 2 rfl) ?_
      refine fg C hP 0 tb_o (ci := 3) rfl 2 (by decide) in_X3_near_X3 lk_X3_near_23 (v := .ref (ad 25)) rfl dX3_near_60 ?_
      refine lv_iconst (v := nI 2) hx hb dX3_near_63 (by decide) ?_
      refine lv_iload hx hb dX3_near_64 (lv_at hl 0 rfl) ?_
      refine lv_ineg hx hb dX3_near_66 ?_
      refine tp_i (y := zI (-(-1024))) (zI_neg _) ?_
      refine lv_iload_n hx hb dX3_near_67 rfl (lv_at hl 1 rfl) ?_
      refine lv_imul hx hb dX3_near_68 ?_
      refine tp_i (y := zI (-(-1024) * (nn g : Int))) (by rw [nz, zI_mul]) ?_
      refine fw_v C hD hS (rn_VN (As := [.int (nI 2), .int (zI (-(-1024) * (nn g : Int)))]) (rest := []) (host := RX3) (C2 := RX0) C (c_addLogZ D k t l (a := 2) (-(-1024) * (nn g : Int)) (by decide) (by decide) _) (va_cnB 2 hts gX3_near_X0_addLog_n131 rfl rfl rfl (hN.1 (RX3, 131, yX0_addLog) (List.mem_of_getElem? (i := 14) rfl)) (hts (.initialized RX0) (by decide +kernel)) hdX0_addLog ⟨Nat.le_of_ble_eq_true rfl, Nat.le_of_ble_eq_true rfl⟩) (hts (.instanceMethod yX0_addLog) (by decide +kernel)) (hts (.selects RX0 yX0_addLog yX0_addLog) (by decide +kernel)) 25 0 rfl tb_g rfl hP hD hS rfl hl.1 rfl (Nat.le_of_ble_eq_true rfl) dX3_near_69 ⟨Nat.zero_le _, Nat.zero_le _⟩) (fun wr12 H locs h13 hP hD hS => ?_)
      obtain rfl := h13
      refine lv_sipush (v := nI 1024) hx hb dX3_near_72 (by decide) ?_
      refine tp_i (y := nI (stp 0)) (rfl) ?_
      refine lv_istore (lv' := [(5, .int (nI (stp 0))), (4, .int (zI (-1024))), (3, .int (nI (nn g))), (0, .ref (ad 0)), (1, .int (nI g)), (2, .int (nI j))]) hx hb dX3_near_75 hl (by decide) rfl (fun ls hl => ?_)
      have L14 : ∀ (r i : Nat), i + r = 11 → ∀ (G1 : Nat → Nat → Int64) (E1 su1 : Nat → Int32), ∀ (H : Heap) (locs : List Loc) (ls : Array Slot), va_P D vwCl (TBw ad k N S Wt L (zT (nr (nB vv nn qq g j) (nn g) (fd (nB vv nn qq g j) (nn g) i))) G1 E1 su1 pa tr sh pv) H → va_D A (TBw ad k N S Wt L (zT (nr (nB vv nn qq g j) (nn g) (fd (nB vv nn qq g j) (nn g) i))) G1 E1 su1 pa tr sh pv) → va_S A s.heap H locs → lv_has ls 6 [(0, .ref (ad 0)), (1, .int (nI g)), (2, .int (nI j)), (3, .int (nI (nn g))), (4, .int (zI (fd (nB vv nn qq g j) (nn g) i))), (5, .int (nI (stp i)))] → W p l e ({ frames := 4, cells := 0, slots := 0, locals := 170 }) s m ([.ref (ad 0), .int (nI g), .int (nI j)] : List Value).toArray below meth c H locs 0 0 (MQ below (va_Qi (fun r w => (∃ ga ja : Nat, (ga < 4 ∧ (nI g) = nI ga ∧ ¬ N ga ≤ 0 ∧ ja < 10 ∧ (nI j) = nI ja) ∧ r = zI (fd (nB vv nn qq ga ja) (nn ga) 11) ∧ ∃ (T2 : Nat → Int32) (G2 : Nat → Nat → Int64) (E2 su2 : Nat → Int32), w = TBw ad k N S Wt L T2 G2 E2 su2 pa tr sh pv) ∨ ((∀ ga ja : Nat, ¬ (ga < 4 ∧ (nI g) = nI ga ∧ ¬ N ga ≤ 0 ∧ ja < 10 ∧ (nI j) = nI ja)) ∧ r = -10000 ∧ w = TBw ad k N S Wt L T G E su pa tr sh pv)) (BcW D A) A) ([.ref (ad 0), .int (nI g), .int (nI j)] : List Value).toArray s 0 0 A) (F0 m 77 ls []) := by
        intro r
        induction r with
        | zero =>
          intro i hr G1 E1 su1 H locs ls hP hD hS hl
          obtain rfl : 11 = i := by omega
          refine lv_iload hx hb dX3_near_77 (lv_at hl 5 rfl) ?_
          refine lv_if_le (tgt := 136) hx hb dX3_near_79 (by decide) (fun c15 => ?_) (fun c15 => absurd (by decide) c15)
          refine lv_iload hx hb dX3_near_136 (lv_at hl 4 rfl) ?_
          exact Ri C hP hD hS (Nat.zero_le _) (Nat.zero_le _) dX3_near_138 (Or.inl ⟨g, j, ⟨hg, rfl, hmg, hj, rfl⟩, rfl, _, _, _, _, rfl⟩)
        | succ r ihL14 =>
          intro i hr G1 E1 su1 H locs ls hP hD hS hl
          refine lv_iload hx hb dX3_near_77 (lv_at hl 5 rfl) ?_
          refine lv_if_le (tgt := 136) hx hb dX3_near_79 (by decide) (fun c16 => absurd c16 (st_pos i (by omega))) (fun c16 => ?_)
          refine lv_aload_n hx hb dX3_near_82 rfl (lv_at hl 0 rfl) ?_
          refine fg C hP 0 tb_o (ci := 3) rfl 2 (by decide) in_X3_near_X3 lk_X3_near_23 (v := .ref (ad 25)) rfl dX3_near_83 ?_
          refine lv_iconst (v := nI 2) hx hb dX3_near_86 (by decide) ?_
          refine lv_iload hx hb dX3_near_87 (lv_at hl 5 rfl) ?_
          refine lv_ineg hx hb dX3_near_89 ?_
          refine tp_i (y := zI (-((stp i : Nat) : Int))) (by rw [nz, zI_neg]) ?_
          refine lv_iload_n hx hb dX3_near_90 rfl (lv_at hl 3 rfl) ?_
          refine lv_imul hx hb dX3_near_91 ?_
          refine tp_i (y := zI (-((stp i : Nat) : Int) * (nn g : Int))) (by rw [nz (nn g), zI_mul]) ?_
          refine fw_v C hD hS (rn_VN (As := [.int (nI 2), .int (zI (-((stp i : Nat) : Int) * (nn g : Int)))]) (rest := []) (host := RX3) (C2 := RX0) C (c_addLogZ D k t l (a := 2) (-((stp i : Nat) : Int) * (nn g : Int)) (by decide) (by decide) _) (va_cnB 2 hts gX3_near_X0_addLog_n131 rfl rfl rfl (hN.1 (RX3, 131, yX0_addLog) (List.mem_of_getElem? (i := 14) rfl)) (hts (.initialized RX0) (by decide +kernel)) hdX0_addLog ⟨Nat.le_of_ble_eq_true rfl, Nat.le_of_ble_eq_true rfl⟩) (hts (.instanceMethod yX0_addLog) (by decide +kernel)) (hts (.selects RX0 yX0_addLog yX0_addLog) (by decide +kernel)) 25 0 rfl tb_g rfl hP hD hS rfl hl.1 rfl (Nat.le_of_ble_eq_true rfl) dX3_near_92 ⟨Nat.zero_le _, Nat.zero_le _⟩) (fun wr17 H locs h18 hP hD hS => ?_)
          obtain rfl := h18
          rw [nr_add] at hP hD
          refine lv_aload_n hx hb dX3_near_95 rfl (lv_at hl 0 rfl) ?_
          refine fg C hP 0 tb_o (ci := 3) rfl 2 (by decide) in_X3_near_X3 lk_X3_near_23 (v := .ref (ad 25)) rfl dX3_near_96 ?_
          refine fw_i C hD hS (rn_VN (As := []) (rest := []) (host := RX3) (C2 := RX0) C (c_X0_signOfSum D k t l (ee := (nr (nB vv nn qq g j) (nn g) (fd (nB vv nn qq g j) (nn g) i + (stp i : Nat)))) (hB g j _ hg hj hng (by have := fd_lo (nB vv nn qq g j) (nn g) i; omega) (by have := fd_hi (nB vv nn qq g j) (nn g) i; omega)).zt (hB g j _ hg hj hng (by have := fd_lo (nB vv nn qq g j) (nn g) i; omega) (by have := fd_hi (nB vv nn qq g j) (nn g) i; omega)).2.1 (hB g j _ hg hj hng (by have := fd_lo (nB vv nn qq g j) (nn g) i; omega) (by have := fd_hi (nB vv nn qq g j) (nn g) i; omega)).2.2 _) (va_cnB 0 hts gX3_near_X0_signOfSum_n127 rfl rfl rfl (hN.1 (RX3, 127, yX0_signOfSum) (List.mem_of_getElem? (i := 15) rfl)) (hts (.initialized RX0) (by decide +kernel)) hdX0_signOfSum ⟨Nat.le_of_ble_eq_true rfl, Nat.le_of_ble_eq_true rfl⟩) (hts (.instanceMethod yX0_signOfSum) (by decide +kernel)) (hts (.selects RX0 yX0_signOfSum yX0_signOfSum) (by decide +kernel)) 25 0 rfl tb_g rfl hP hD hS rfl hl.1 rfl (Nat.le_of_ble_eq_true rfl) dX3_near_99 ⟨Nat.zero_le _, Nat.zero_le _⟩) (fun r19 wr19 H locs h20 hP hD hS => ?_)
          obtain ⟨G21, E22, rfl, rfl⟩ := h20
          refine lv_if_lt (tgt := 115) hx hb dX3_near_102 (by decide) (fun c23 => ?_) (fun c23 => ?_)
          · refine lv_aload_n hx hb dX3_near_115 rfl (lv_at hl 0 rfl) ?_
            refine fg C hP 0 tb_o (ci := 3) rfl 2 (by decide) in_X3_near_X3 lk_X3_near_23 (v := .ref (ad 25)) rfl dX3_near_116 ?_
            refine lv_iconst (v := nI 2) hx hb dX3_near_119 (by decide) ?_
            refine lv_iload hx hb dX3_near_120 (lv_at hl 5 rfl) ?_
            refine lv_iload_n hx hb dX3_near_122 rfl (lv_at hl 3 rfl) ?_
            refine lv_imul hx hb dX3_near_123 ?_
            refine tp_i (y := zI (((stp i : Nat) : Int) * (nn g : Int))) (by rw [nz, nz, zI_mul]) ?_
            refine fw_v C hD hS (rn_VN (As := [.int (nI 2), .int (zI (((stp i : Nat) : Int) * (nn g : Int)))]) (rest := []) (host := RX3) (C2 := RX0) C (c_addLogZ D k t l (a := 2) (((stp i : Nat) : Int) * (nn g : Int)) (by decide) (by decide) _) (va_cnB 2 hts gX3_near_X0_addLog_n131 rfl rfl rfl (hN.1 (RX3, 131, yX0_addLog) (List.mem_of_getElem? (i := 14) rfl)) (hts (.initialized RX0) (by decide +kernel)) hdX0_addLog ⟨Nat.le_of_ble_eq_true rfl, Nat.le_of_ble_eq_true rfl⟩) (hts (.instanceMethod yX0_addLog) (by decide +kernel)) (hts (.selects RX0 yX0_addLog yX0_addLog) (by decide +kernel)) 25 0 rfl tb_g rfl hP hD hS rfl hl.1 rfl (Nat.le_of_ble_eq_true rfl) dX3_near_124 ⟨Nat.zero_le _, Nat.zero_le _⟩) (fun wr24 H locs h25 hP hD hS => ?_)
            obtain rfl := h25
            rw [nr_sub, show fd (nB vv nn qq g j) (nn g) i = fd (nB vv nn qq g j) (nn g) (i + 1) from (if_pos c23).symm] at hP hD
            rw [show fd (nB vv nn qq g j) (nn g) i = fd (nB vv nn qq g j) (nn g) (i + 1) from (if_pos c23).symm] at hl
            refine lv_iload hx hb dX3_near_127 (lv_at hl 5 rfl) ?_
            refine lv_iconst (v := nI 2) hx hb dX3_near_129 (by decide) ?_
            refine lv_idiv hx hb dX3_near_130 (by decide) ?_
            refine tp_i (y := nI (stp (i + 1))) (by rw [pk_div (st_lt i) (by decide) (by decide), ← stp_s]) ?_
            refine lv_istore (lv' := [(5, .int (nI (stp (i + 1)))), (0, .ref (ad 0)), (1, .int (nI g)), (2, .int (nI j)), (3, .int (nI (nn g))), (4, .int (zI (fd (nB vv nn qq g j) (nn g) (i + 1))))]) hx hb dX3_near_131 hl (by decide) rfl (fun ls hl => ?_)
            refine lv_goto (tgt := 77) hx hb dX3_near_133 (by decide) ?_
            exact ihL14 (i + 1) (by omega) _ _ _ _ _ _ hP hD hS (lv_sub hl [1, 2, 3, 4, 5, 0] rfl)
          · refine lv_iload hx hb dX3_near_105 (lv_at hl 4 rfl) ?_
            refine lv_iload hx hb dX3_near_107 (lv_at hl 5 rfl) ?_
            refine lv_iadd hx hb dX3_near_109 ?_
            refine tp_i (y := zI (fd (nB vv nn qq g j) (nn g) (i + 1))) (by rw [nz, zI_add]; exact congrArg zI (if_neg c23).symm) ?_
            refine lv_istore (lv' := [(4, .int (zI (fd (nB vv nn qq g j) (nn g) (i + 1)))), (0, .ref (ad 0)), (1, .int (nI g)), (2, .int (nI j)), (3, .int (nI (nn g))), (5, .int (nI (stp i)))]) hx hb dX3_near_110 hl (by decide) rfl (fun ls hl => ?_)
            refine lv_goto (tgt := 127) hx hb dX3_near_112 (by decide) ?_
            rw [show fd (nB vv nn qq g j) (nn g) i + (stp i : Nat) = fd (nB vv nn qq g j) (nn g) (i + 1) from (if_neg c23).symm] at hP hD
            refine lv_iload hx hb dX3_near_127 (lv_at hl 5 rfl) ?_
            refine lv_iconst (v := nI 2) hx hb dX3_near_129 (by decide) ?_
            refine lv_idiv hx hb dX3_near_130 (by decide) ?_
            refine tp_i (y := nI (stp (i + 1))) (by rw [pk_div (st_lt i) (by decide) (by decide), ← stp_s]) ?_
            refine lv_istore (lv' := [(5, .int (nI (stp (i + 1)))), (4, .int (zI (fd (nB vv nn qq g j) (nn g) (i + 1)))), (0, .ref (ad 0)), (1, .int (nI g)), (2, .int (nI j)), (3, .int (nI (nn g)))]) hx hb dX3_near_131 hl (by decide) rfl (fun ls hl => ?_)
            refine lv_goto (tgt := 77) hx hb dX3_near_133 (by decide) ?_
            exact ihL14 (i + 1) (by omega) _ _ _ _ _ _ hP hD hS (lv_sub hl [2, 3, 4, 5, 1, 0] rfl)
      have eT : zT (adl (lxp z0 (vv g) (nn g) (qq j) 16 7) (-(-1024) * (nn g : Int)) 2) = zT (nr (nB vv nn qq g j) (nn g) (fd (nB vv nn qq g j) (nn g) 0)) := rfl
      rw [eT] at hP hD
      exact L14 (11 - 0) 0 (by omega) _ _ _ _ _ _ hP hD hS (lv_sub hl [3, 4, 5, 2, 1, 0] rfl)
    · have c6 := pb_z c6
      refine lv_sipush (v := (-10000)) hx hb dX3_near_15 (by decide) ?_
      exact Ri C hP hD hS (Nat.zero_le _) (Nat.zero_le _) dX3_near_18 (Or.inr ⟨fun _ j z => c6 ⟨j, Nat.zero_le _, z.2.2.2.1, z.2.2.2.2⟩, rfl, rfl⟩)

