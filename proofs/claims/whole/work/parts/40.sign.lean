/-- what the worlds and the laws hold, as plain numbers -/
def WI (N : Nat → Int32) (Wt : Nat → Nat → Int32) (nn : Nat → Nat) (vv : Nat → Nat → Nat) : Prop := ∀ g, g < 4 → N g = nI (nn g) ∧ nn g ≤ 16 ∧ (∀ j, j < 27 → Wt g j = nI (vv g j)) ∧ ∀ z j, gsN (vv g) z 27 j ≤ 16
def LI (L : Nat → Nat → Int32) (qq : Nat → Nat → Int) : Prop := ∀ j, j < 10 → ∀ z, z < 8 → L j z = zI (qq j z) ∧ -2 ≤ qq j z ∧ qq j z ≤ 2
/-- exponents small enough for the class's rows -/
def BE (e : Nat → Int) : Prop := (∀ j, j < 6 → -100000 ≤ e j ∧ e j ≤ 100000) ∧ upv e 6 < 4294967296 ^ 1024 ∧ upv (ng e) 6 < 4294967296 ^ 1024
theorem BE.zt {e : Nat → Int} (h : BE e) : ZT (zT e) e := fun j hj => ⟨rfl, by have := h.1 j hj; omega, by have := h.1 j hj; omega⟩
abbrev z0 : Nat → Int := fun _ => 0
theorem zT_0 : (fun _ => nI 0) = zT z0 := rfl
theorem WI.pos {N : Nat → Int32} {Wt : Nat → Nat → Int32} {nn : Nat → Nat} {vv : Nat → Nat → Nat} (h : WI N Wt nn vv) {g : Nat} (hg : g < 4) (hm : ¬ N g ≤ 0) : 1 ≤ nn g := by rw [(h g hg).1] at hm; exact nI_p hm
set_option maxRecDepth 20000 in
theorem in_X3_sign_X3 : ∀ w ∈ u_ws RX3 TX3 8, w ∈ wsX3_sign := by decide +kernel
set_option maxRecDepth 20000 in
theorem lk_X3_sign_23 : Cond.fieldLink RX3 23 (TX3 2).1 (TX3 2).2.1 (TX3 2).2.2.1 ∈ wsX3_sign := by decide +kernel
set_option maxRecDepth 20000 in
theorem lk_X3_sign_11 : Cond.fieldLink RX3 11 (TX3 0).1 (TX3 0).2.1 (TX3 0).2.2.1 ∈ wsX3_sign := by decide +kernel
set_option maxRecDepth 20000 in
theorem lk_X3_sign_17 : Cond.fieldLink RX3 17 (TX3 1).1 (TX3 1).2.1 (TX3 1).2.2.1 ∈ wsX3_sign := by decide +kernel
set_option maxHeartbeats 4000000 in
set_option maxRecDepth 100000 in
theorem c_X3_sign (D : va_G) (k : Nat → ClassId) (t : Nat → Nat) (l : Launch) {ad : Nat → Nat} {N : Nat → Int32} {S Wt L : Nat → Nat → Int32} {T : Nat → Int32} {G : Nat → Nat → Int64} {E : Nat → Int32} {su pa tr sh : Nat → Int32} {pv : Int32} {nn : Nat → Nat} {vv : Nat → Nat → Nat} {qq : Nat → Nat → Int} (hW : WI N Wt nn vv) (hLI : LI L qq) (hB : ∀ g j, g < 4 → j < 10 → 1 ≤ nn g → BE (lxp z0 (vv g) (nn g) (qq j) 1 7)) (x1 x2 : Int32) : Ci D k t l yX3_sign wsX3_sign ({ frames := 4, cells := 0, slots := 0, locals := 170 }) [.ref (ad 0), .int x1, .int x2] (TBw ad k N S Wt L T G E su pa tr sh pv) (fun r w => (∃ g j : Nat, (g < 4 ∧ x1 = nI g ∧ ¬ N g ≤ 0 ∧ j < 10 ∧ x2 = nI j) ∧ r = f_sgs (zT (lxp z0 (vv g) (nn g) (qq j) 1 7)) (lxp z0 (vv g) (nn g) (qq j) 1 7) ∧ ∃ (T2 : Nat → Int32) (G2 : Nat → Nat → Int64) (E2 su2 : Nat → Int32), w = TBw ad k N S Wt L T2 G2 E2 su2 pa tr sh pv) ∨ ((∀ g j : Nat, ¬ (g < 4 ∧ x1 = nI g ∧ ¬ N g ≤ 0 ∧ j < 10 ∧ x2 = nI j)) ∧ r = -2 ∧ w = TBw ad k N S Wt L T G E su pa tr sh pv)) 0 0 := by
  refine fw_of (cc := cX3_sign) (maxL := 3) (ret := (some .int)) (Qc := fun A => va_Qi (fun r w => (∃ g j : Nat, (g < 4 ∧ x1 = nI g ∧ ¬ N g ≤ 0 ∧ j < 10 ∧ x2 = nI j) ∧ r = f_sgs (zT (lxp z0 (vv g) (nn g) (qq j) 1 7)) (lxp z0 (vv g) (nn g) (qq j) 1 7) ∧ ∃ (T2 : Nat → Int32) (G2 : Nat → Nat → Int64) (E2 su2 : Nat → Int32), w = TBw ad k N S Wt L T2 G2 E2 su2 pa tr sh pv) ∨ ((∀ g j : Nat, ¬ (g < 4 ∧ x1 = nI g ∧ ¬ N g ≤ 0 ∧ j < 10 ∧ x2 = nI j)) ∧ r = -2 ∧ w = TBw ad k N S Wt L T G E su pa tr sh pv)) (BcW D A) A) (by decide) rfl (Nat.le_of_ble_eq_true rfl) ?_
  intro p e s m below meth c A ls C hP hD hl
  have C : Cx RX3 "sign" cX3_sign 3 (some .int) wsX3_sign D k t A p s m ([.ref (ad 0), .int x1, .int x2] : List Value).toArray meth c := C
  have hl : lv_has ls 3 [(0, .ref (ad 0)), (1, .int x1), (2, .int x2)] := hl
  have hx := C.1
  have hb := C.2.1
  have hown := C.2.2.2.2.1
  have hts := C.2.2.2.2.2.1
  have hK := C.2.2.2.2.2.2.2.2.1
  have hZ := C.2.2.2.2.2.2.2.2.2.1
  have hN := C.2.2.2.2.2.2.2.2.2.2
  have hS : va_S A s.heap s.heap [] := va_S.rf
  refine lv_aload_n hx hb dX3_sign_0 rfl (lv_at hl 0 rfl) ?_
  refine lv_iload_n hx hb dX3_sign_1 rfl (lv_at hl 1 rfl) ?_
  refine fw_i C hD hS (rn_V (As := [.int x1]) (rest := []) C (c_X3_isMadePlace D k t l x1 _) (cwV 1 hts gX3_sign_X3_isMadePlace rfl rfl rfl hdX3_isMadePlaceC ⟨Nat.le_of_ble_eq_true rfl, Nat.le_of_ble_eq_true rfl⟩) 0 3 rfl tb_o rfl hP hD hS rfl hl.1 rfl (Nat.le_of_ble_eq_true rfl) dX3_sign_2 ⟨Nat.zero_le _, Nat.zero_le _⟩) (fun r1 wr1 H locs h2 hP hD hS => ?_)
  obtain ⟨rfl, rfl⟩ := h2
  refine lv_if_eq (tgt := 15) hx hb dX3_sign_5 (by decide) (fun c3 => ?_) (fun c3 => ?_)
  · have c3 := pb_z c3
    refine lv_bipush (v := (-2)) hx hb dX3_sign_15 (by decide) ?_
    exact Ri C hP hD hS (Nat.zero_le _) (Nat.zero_le _) dX3_sign_17 (Or.inr ⟨fun g _ z => c3 ⟨g, z.1, z.2.1, z.2.2.1⟩, rfl, rfl⟩)
  · have c3 := pb_nz c3
    obtain ⟨g, hg, rfl, hmg⟩ := id c3
    refine lv_iload_n hx hb dX3_sign_8 rfl (lv_at hl 2 rfl) ?_
    refine fw_i C hD hS (rn_S (As := [.int x2]) (rest := []) C (c_X3_isLaw D k t l x2 _) (va_cwS 1 hts gX3_sign_X3_isLaw rfl rfl rfl hdX3_isLaw ⟨Nat.le_of_ble_eq_true rfl, Nat.le_of_ble_eq_true rfl⟩) hP hD hS rfl hl.1 rfl (Nat.le_of_ble_eq_true rfl) dX3_sign_9 ⟨Nat.zero_le _, Nat.zero_le _⟩) (fun r4 wr4 H locs h5 hP hD hS => ?_)
    obtain ⟨rfl, rfl⟩ := h5
    refine lv_if_ne (tgt := 18) hx hb dX3_sign_12 (by decide) (fun c6 => ?_) (fun c6 => ?_)
    · have c6 := pb_nz c6
      obtain ⟨j, h0j, hj, rfl⟩ := id c6
      have hng := hW.pos hg hmg
      refine lv_aload_n hx hb dX3_sign_18 rfl (lv_at hl 0 rfl) ?_
      refine fg C hP 0 tb_o (ci := 3) rfl 2 (by decide) in_X3_sign_X3 lk_X3_sign_23 (v := .ref (ad 25)) rfl dX3_sign_19 ?_
      refine fw_v C hD hS (rn_VN (As := []) (rest := []) (host := RX3) (C2 := RX0) C (c_X0_clear D k t l _) (va_cnB 0 hts gX3_sign_X0_clear_n120 rfl rfl rfl (hN.1 (RX3, 120, yX0_clear) (List.mem_of_getElem? (i := 13) rfl)) (hts (.initialized RX0) (by decide +kernel)) hdX0_clear ⟨Nat.le_of_ble_eq_true rfl, Nat.le_of_ble_eq_true rfl⟩) (hts (.instanceMethod yX0_clear) (by decide +kernel)) (hts (.selects RX0 yX0_clear yX0_clear) (by decide +kernel)) 25 0 rfl tb_g rfl hP hD hS rfl hl.1 rfl (Nat.le_of_ble_eq_true rfl) dX3_sign_22 ⟨Nat.zero_le _, Nat.zero_le _⟩) (fun wr7 H locs h8 hP hD hS => ?_)
      rw [zT_0] at h8
      obtain rfl := h8
      refine lv_aload_n hx hb dX3_sign_25 rfl (lv_at hl 0 rfl) ?_
      refine lv_aload_n hx hb dX3_sign_26 rfl (lv_at hl 0 rfl) ?_
      refine fg C hP 0 tb_o (ci := 3) rfl 0 (by decide) in_X3_sign_X3 lk_X3_sign_11 (v := .ref (ad 1)) rfl dX3_sign_27 ?_
      refine lv_iload_n hx hb dX3_sign_30 rfl (lv_at hl 1 rfl) ?_
      refine ar_q C hP 1 tb_ws (j := g) (v := .ref (ad (2 + 3 * g))) rfl (by omega) (by decide) dX3_sign_31 ?_
      refine lv_aload_n hx hb dX3_sign_32 rfl (lv_at hl 0 rfl) ?_
      refine fg C hP 0 tb_o (ci := 3) rfl 1 (by decide) in_X3_sign_X3 lk_X3_sign_17 (v := .ref (ad 14)) rfl dX3_sign_33 ?_
      refine lv_iload_n hx hb dX3_sign_36 rfl (lv_at hl 2 rfl) ?_
      refine ar_r C hP 14 tb_ls (j := j) (v := .ref (ad (15 + j))) rfl (by omega) (by decide) dX3_sign_37 ?_
      refine lv_iconst (v := nI 1) hx hb dX3_sign_38 (by decide) ?_
      refine tp_i (y := zI 1) (rfl) ?_
      refine fw_v C hD hS (rn_V (As := [.ref (ad (2 + 3 * g)), .ref (ad (15 + j)), .int (zI 1)]) (rest := []) C (c_X3_addLawSum D k t l (qs := qq j) (vt := vv g) (n := nn g) (tm := 1) hg hj (hW g hg).1 hng (hW g hg).2.1 (hW g hg).2.2.1 (hW g hg).2.2.2 (fun z hz => (hLI j hj z hz).1) (fun z hz => (hLI j hj z hz).2) _) (cwV 3 hts gX3_sign_X3_addLawSum rfl rfl rfl hdX3_addLawSumC ⟨Nat.le_of_ble_eq_true rfl, Nat.le_of_ble_eq_true rfl⟩) 0 3 rfl tb_o rfl hP hD hS rfl hl.1 rfl (Nat.le_of_ble_eq_true rfl) dX3_sign_39 ⟨Nat.zero_le _, Nat.zero_le _⟩) (fun wr9 H locs h10 hP hD hS => ?_)
      obtain ⟨su11, rfl⟩ := h10
      refine lv_aload_n hx hb dX3_sign_42 rfl (lv_at hl 0 rfl) ?_
      refine fg C hP 0 tb_o (ci := 3) rfl 2 (by decide) in_X3_sign_X3 lk_X3_sign_23 (v := .ref (ad 25)) rfl dX3_sign_43 ?_
      refine fw_i C hD hS (rn_VN (As := []) (rest := []) (host := RX3) (C2 := RX0) C (c_X0_signOfSum D k t l (ee := (lxp z0 (vv g) (nn g) (qq j) 1 7)) (hB g j hg hj hng).zt (hB g j hg hj hng).2.1 (hB g j hg hj hng).2.2 _) (va_cnB 0 hts gX3_sign_X0_signOfSum_n127 rfl rfl rfl (hN.1 (RX3, 127, yX0_signOfSum) (List.mem_of_getElem? (i := 15) rfl)) (hts (.initialized RX0) (by decide +kernel)) hdX0_signOfSum ⟨Nat.le_of_ble_eq_true rfl, Nat.le_of_ble_eq_true rfl⟩) (hts (.instanceMethod yX0_signOfSum) (by decide +kernel)) (hts (.selects RX0 yX0_signOfSum yX0_signOfSum) (by decide +kernel)) 25 0 rfl tb_g rfl hP hD hS rfl hl.1 rfl (Nat.le_of_ble_eq_true rfl) dX3_sign_46 ⟨Nat.zero_le _, Nat.zero_le _⟩) (fun r12 wr12 H locs h13 hP hD hS => ?_)
      obtain ⟨G14, E15, rfl, rfl⟩ := h13
      exact Ri C hP hD hS (Nat.zero_le _) (Nat.zero_le _) dX3_sign_49 (Or.inl ⟨g, j, ⟨hg, rfl, hmg, hj, rfl⟩, rfl, _, _, _, _, rfl⟩)
    · have c6 := pb_z c6
      refine lv_bipush (v := (-2)) hx hb dX3_sign_15 (by decide) ?_
      exact Ri C hP hD hS (Nat.zero_le _) (Nat.zero_le _) dX3_sign_17 (Or.inr ⟨fun _ j z => c6 ⟨j, Nat.zero_le _, z.2.2.2.1, z.2.2.2.2⟩, rfl, rfl⟩)

set_option maxRecDepth 20000 in
theorem in_X3_compare_X3 : ∀ w ∈ u_ws RX3 TX3 8, w ∈ wsX3_compare := by decide +kernel
set_option maxRecDepth 20000 in
theorem lk_X3_compare_11 : Cond.fieldLink RX3 11 (TX3 0).1 (TX3 0).2.1 (TX3 0).2.2.1 ∈ wsX3_compare := by decide +kernel
set_option maxRecDepth 20000 in
theorem lk_X3_compare_23 : Cond.fieldLink RX3 23 (TX3 2).1 (TX3 2).2.1 (TX3 2).2.2.1 ∈ wsX3_compare := by decide +kernel
set_option maxRecDepth 20000 in
theorem lk_X3_compare_17 : Cond.fieldLink RX3 17 (TX3 1).1 (TX3 1).2.1 (TX3 1).2.2.1 ∈ wsX3_compare := by decide +kernel
set_option maxRecDepth 20000 in
theorem in_X3_compare_X2 : ∀ w ∈ u_ws RX2 TX2 3, w ∈ wsX3_compare := by decide +kernel
set_option maxHeartbeats 4000000 in
set_option maxRecDepth 100000 in
theorem c_X3_compare (D : va_G) (k : Nat → ClassId) (t : Nat → Nat) (l : Launch) {ad : Nat → Nat} {N : Nat → Int32} {S Wt L : Nat → Nat → Int32} {T : Nat → Int32} {G : Nat → Nat → Int64} {E : Nat → Int32} {su pa tr sh : Nat → Int32} {pv : Int32} {nn : Nat → Nat} {vv : Nat → Nat → Nat} {qq : Nat → Nat → Int} (hW : WI N Wt nn vv) (hLI : LI L qq) (hB : ∀ g j h i, g < 4 → j < 10 → h < 4 → i < 10 → 1 ≤ nn g → 1 ≤ nn h → BE (lxp (lxp z0 (vv g) (nn g) (qq j) (nn h) 7) (vv h) (nn h) (qq i) (-(nn g : Int)) 7)) (x1 x2 x3 x4 : Int32) : Ci D k t l yX3_compare wsX3_compare ({ frames := 4, cells := 0, slots := 0, locals := 170 }) [.ref (ad 0), .int x1, .int x2, .int x3, .int x4] (TBw ad k N S Wt L T G E su pa tr sh pv) (fun r w => (∃ g j h i : Nat, (g < 4 ∧ x1 = nI g ∧ ¬ N g ≤ 0 ∧ j < 10 ∧ x2 = nI j ∧ h < 4 ∧ x3 = nI h ∧ ¬ N h ≤ 0 ∧ i < 10 ∧ x4 = nI i) ∧ r = f_sgs (zT (lxp (lxp z0 (vv g) (nn g) (qq j) (nn h) 7) (vv h) (nn h) (qq i) (-(nn g : Int)) 7)) (lxp (lxp z0 (vv g) (nn g) (qq j) (nn h) 7) (vv h) (nn h) (qq i) (-(nn g : Int)) 7) ∧ ∃ (T2 : Nat → Int32) (G2 : Nat → Nat → Int64) (E2 su2 : Nat → Int32), w = TBw ad k N S Wt L T2 G2 E2 su2 pa tr sh pv) ∨ ((∀ g j h i : Nat, ¬ (g < 4 ∧ x1 = nI g ∧ ¬ N g ≤ 0 ∧ j < 10 ∧ x2 = nI j ∧ h < 4 ∧ x3 = nI h ∧ ¬ N h ≤ 0 ∧ i < 10 ∧ x4 = nI i)) ∧ r = -2 ∧ w = TBw ad k N S Wt L T G E su pa tr sh pv)) 0 0 := by
  refine fw_of (cc := cX3_compare) (maxL := 7) (ret := (some .int)) (Qc := fun A => va_Qi (fun r w => (∃ g j h i : Nat, (g < 4 ∧ x1 = nI g ∧ ¬ N g ≤ 0 ∧ j < 10 ∧ x2 = nI j ∧ h < 4 ∧ x3 = nI h ∧ ¬ N h ≤ 0 ∧ i < 10 ∧ x4 = nI i) ∧ r = f_sgs (zT (lxp (lxp z0 (vv g) (nn g) (qq j) (nn h) 7) (vv h) (nn h) (qq i) (-(nn g : Int)) 7)) (lxp (lxp z0 (vv g) (nn g) (qq j) (nn h) 7) (vv h) (nn h) (qq i) (-(nn g : Int)) 7) ∧ ∃ (T2 : Nat → Int32) (G2 : Nat → Nat → Int64) (E2 su2 : Nat → Int32), w = TBw ad k N S Wt L T2 G2 E2 su2 pa tr sh pv) ∨ ((∀ g j h i : Nat, ¬ (g < 4 ∧ x1 = nI g ∧ ¬ N g ≤ 0 ∧ j < 10 ∧ x2 = nI j ∧ h < 4 ∧ x3 = nI h ∧ ¬ N h ≤ 0 ∧ i < 10 ∧ x4 = nI i)) ∧ r = -2 ∧ w = TBw ad k N S Wt L T G E su pa tr sh pv)) (BcW D A) A) (by decide) rfl (Nat.le_of_ble_eq_true rfl) ?_
  intro p e s m below meth c A ls C hP hD hl
  have C : Cx RX3 "compare" cX3_compare 7 (some .int) wsX3_compare D k t A p s m ([.ref (ad 0), .int x1, .int x2, .int x3, .int x4] : List Value).toArray meth c := C
  have hl : lv_has ls 7 [(0, .ref (ad 0)), (1, .int x1), (2, .int x2), (3, .int x3), (4, .int x4)] := hl
  have hx := C.1
  have hb := C.2.1
  have hown := C.2.2.2.2.1
  have hts := C.2.2.2.2.2.1
  have hK := C.2.2.2.2.2.2.2.2.1
  have hZ := C.2.2.2.2.2.2.2.2.2.1
  have hN := C.2.2.2.2.2.2.2.2.2.2
  have hS : va_S A s.heap s.heap [] := va_S.rf
  refine lv_aload_n hx hb dX3_compare_0 rfl (lv_at hl 0 rfl) ?_
  refine lv_iload_n hx hb dX3_compare_1 rfl (lv_at hl 1 rfl) ?_
  refine fw_i C hD hS (rn_V (As := [.int x1]) (rest := []) C (c_X3_isMadePlace D k t l x1 _) (cwV 1 hts gX3_compare_X3_isMadePlace rfl rfl rfl hdX3_isMadePlaceC ⟨Nat.le_of_ble_eq_true rfl, Nat.le_of_ble_eq_true rfl⟩) 0 3 rfl tb_o rfl hP hD hS rfl hl.1 rfl (Nat.le_of_ble_eq_true rfl) dX3_compare_2 ⟨Nat.zero_le _, Nat.zero_le _⟩) (fun r1 wr1 H locs h2 hP hD hS => ?_)
  obtain ⟨rfl, rfl⟩ := h2
  refine lv_if_eq (tgt := 31) hx hb dX3_compare_5 (by decide) (fun c3 => ?_) (fun c3 => ?_)
  · have c3 := pb_z c3
    refine lv_bipush (v := (-2)) hx hb dX3_compare_31 (by decide) ?_
    exact Ri C hP hD hS (Nat.zero_le _) (Nat.zero_le _) dX3_compare_33 (Or.inr ⟨fun g _ _ _ z => c3 ⟨g, z.1, z.2.1, z.2.2.1⟩, rfl, rfl⟩)
  · have c3 := pb_nz c3
    obtain ⟨g, hg, rfl, hmg⟩ := id c3
    refine lv_iload_n hx hb dX3_compare_8 rfl (lv_at hl 2 rfl) ?_
    refine fw_i C hD hS (rn_S (As := [.int x2]) (rest := []) C (c_X3_isLaw D k t l x2 _) (va_cwS 1 hts gX3_compare_X3_isLaw rfl rfl rfl hdX3_isLaw ⟨Nat.le_of_ble_eq_true rfl, Nat.le_of_ble_eq_true rfl⟩) hP hD hS rfl hl.1 rfl (Nat.le_of_ble_eq_true rfl) dX3_compare_9 ⟨Nat.zero_le _, Nat.zero_le _⟩) (fun r4 wr4 H locs h5 hP hD hS => ?_)
    obtain ⟨rfl, rfl⟩ := h5
    refine lv_if_eq (tgt := 31) hx hb dX3_compare_12 (by decide) (fun c6 => ?_) (fun c6 => ?_)
    · have c6 := pb_z c6
      refine lv_bipush (v := (-2)) hx hb dX3_compare_31 (by decide) ?_
      exact Ri C hP hD hS (Nat.zero_le _) (Nat.zero_le _) dX3_compare_33 (Or.inr ⟨fun _ j _ _ z => c6 ⟨j, Nat.zero_le _, z.2.2.2.1, z.2.2.2.2.1⟩, rfl, rfl⟩)
    · have c6 := pb_nz c6
      obtain ⟨j, h0j, hj, rfl⟩ := id c6
      refine lv_aload_n hx hb dX3_compare_15 rfl (lv_at hl 0 rfl) ?_
      refine lv_iload_n hx hb dX3_compare_16 rfl (lv_at hl 3 rfl) ?_
      refine fw_i C hD hS (rn_V (As := [.int x3]) (rest := []) C (c_X3_isMadePlace D k t l x3 _) (cwV 1 hts gX3_compare_X3_isMadePlace rfl rfl rfl hdX3_isMadePlaceC ⟨Nat.le_of_ble_eq_true rfl, Nat.le_of_ble_eq_true rfl⟩) 0 3 rfl tb_o rfl hP hD hS rfl hl.1 rfl (Nat.le_of_ble_eq_true rfl) dX3_compare_17 ⟨Nat.zero_le _, Nat.zero_le _⟩) (fun r7 wr7 H locs h8 hP hD hS => ?_)
      obtain ⟨rfl, rfl⟩ := h8
      refine lv_if_eq (tgt := 31) hx hb dX3_compare_20 (by decide) (fun c9 => ?_) (fun c9 => ?_)
      · have c9 := pb_z c9
        refine lv_bipush (v := (-2)) hx hb dX3_compare_31 (by decide) ?_
        exact Ri C hP hD hS (Nat.zero_le _) (Nat.zero_le _) dX3_compare_33 (Or.inr ⟨fun _ _ h _ z => c9 ⟨h, z.2.2.2.2.2.1, z.2.2.2.2.2.2.1, z.2.2.2.2.2.2.2.1⟩, rfl, rfl⟩)
      · have c9 := pb_nz c9
        obtain ⟨h, hh, rfl, hmh⟩ := id c9
        refine lv_iload hx hb dX3_compare_23 (lv_at hl 4 rfl) ?_
        refine fw_i C hD hS (rn_S (As := [.int x4]) (rest := []) C (c_X3_isLaw D k t l x4 _) (va_cwS 1 hts gX3_compare_X3_isLaw rfl rfl rfl hdX3_isLaw ⟨Nat.le_of_ble_eq_true rfl, Nat.le_of_ble_eq_true rfl⟩) hP hD hS rfl hl.1 rfl (Nat.le_of_ble_eq_true rfl) dX3_compare_25 ⟨Nat.zero_le _, Nat.zero_le _⟩) (fun r10 wr10 H locs h11 hP hD hS => ?_)
        obtain ⟨rfl, rfl⟩ := h11
        refine lv_if_ne (tgt := 34) hx hb dX3_compare_28 (by decide) (fun c12 => ?_) (fun c12 => ?_)
        · have c12 := pb_nz c12
          obtain ⟨i, h0i, hi, rfl⟩ := id c12
          have hng := hW.pos hg hmg
          have hnh := hW.pos hh hmh
          refine lv_aload_n hx hb dX3_compare_34 rfl (lv_at hl 0 rfl) ?_
          refine fg C hP 0 tb_o (ci := 3) rfl 0 (by decide) in_X3_compare_X3 lk_X3_compare_11 (v := .ref (ad 1)) rfl dX3_compare_35 ?_
          refine lv_iload_n hx hb dX3_compare_38 rfl (lv_at hl 1 rfl) ?_
          refine ar_q C hP 1 tb_ws (j := g) (v := .ref (ad (2 + 3 * g))) rfl (by omega) (by decide) dX3_compare_39 ?_
          refine lv_astore (lv' := [(5, .ref (ad (2 + 3 * g))), (0, .ref (ad 0)), (1, .int (nI g)), (2, .int (nI j)), (3, .int (nI h)), (4, .int (nI i))]) hx hb dX3_compare_40 hl (by decide) rfl (fun ls hl => ?_)
          refine lv_aload_n hx hb dX3_compare_42 rfl (lv_at hl 1 rfl) ?_
          refine fg C hP 0 tb_o (ci := 3) rfl 0 (by decide) in_X3_compare_X3 lk_X3_compare_11 (v := .ref (ad 1)) rfl dX3_compare_43 ?_
          refine lv_iload_n hx hb dX3_compare_46 rfl (lv_at hl 4 rfl) ?_
          refine ar_q C hP 1 tb_ws (j := h) (v := .ref (ad (2 + 3 * h))) rfl (by omega) (by decide) dX3_compare_47 ?_
          refine lv_astore (lv' := [(6, .ref (ad (2 + 3 * h))), (5, .ref (ad (2 + 3 * g))), (0, .ref (ad 0)), (1, .int (nI g)), (2, .int (nI j)), (3, .int (nI h)), (4, .int (nI i))]) hx hb dX3_compare_48 hl (by decide) rfl (fun ls hl => ?_)
          refine lv_aload_n hx hb dX3_compare_50 rfl (lv_at hl 2 rfl) ?_
          refine fg C hP 0 tb_o (ci := 3) rfl 2 (by decide) in_X3_compare_X3 lk_X3_compare_23 (v := .ref (ad 25)) rfl dX3_compare_51 ?_
          refine fw_v C hD hS (rn_VN (As := []) (rest := []) (host := RX3) (C2 := RX0) C (c_X0_clear D k t l _) (va_cnB 0 hts gX3_compare_X0_clear_n120 rfl rfl rfl (hN.1 (RX3, 120, yX0_clear) (List.mem_of_getElem? (i := 13) rfl)) (hts (.initialized RX0) (by decide +kernel)) hdX0_clear ⟨Nat.le_of_ble_eq_true rfl, Nat.le_of_ble_eq_true rfl⟩) (hts (.instanceMethod yX0_clear) (by decide +kernel)) (hts (.selects RX0 yX0_clear yX0_clear) (by decide +kernel)) 25 0 rfl tb_g rfl hP hD hS rfl hl.1 rfl (Nat.le_of_ble_eq_true rfl) dX3_compare_54 ⟨Nat.zero_le _, Nat.zero_le _⟩) (fun wr13 H locs h14 hP hD hS => ?_)
          rw [zT_0] at h14
          obtain rfl := h14
          refine lv_aload_n hx hb dX3_compare_57 rfl (lv_at hl 2 rfl) ?_
          refine lv_aload hx hb dX3_compare_58 (lv_at hl 1 rfl) ?_
          refine lv_aload_n hx hb dX3_compare_60 rfl (lv_at hl 2 rfl) ?_
          refine fg C hP 0 tb_o (ci := 3) rfl 1 (by decide) in_X3_compare_X3 lk_X3_compare_17 (v := .ref (ad 14)) rfl dX3_compare_61 ?_
          refine lv_iload_n hx hb dX3_compare_64 rfl (lv_at hl 4 rfl) ?_
          refine ar_r C hP 14 tb_ls (j := j) (v := .ref (ad (15 + j))) rfl (by omega) (by decide) dX3_compare_65 ?_
          refine lv_aload hx hb dX3_compare_66 (lv_at hl 0 rfl) ?_
          refine fg_N C hP (2 + 3 * h) (tb_w hh) (ci := 2) rfl 2 (by decide) in_X3_compare_X2 (hN.2 (RX3, 75, RX2, "total", "I") (List.mem_of_getElem? (i := 2) rfl)) (v := .int (N h)) rfl dX3_compare_68 ?_
          refine tp_i (y := zI (nn h : Int)) ((hW h hh).1) ?_
          refine fw_v C hD hS (rn_V (As := [.ref (ad (2 + 3 * g)), .ref (ad (15 + j)), .int (zI (nn h : Int))]) (rest := []) C (c_X3_addLawSum D k t l (qs := qq j) (vt := vv g) (n := nn g) (tm := (nn h : Int)) hg hj (hW g hg).1 hng (hW g hg).2.1 (hW g hg).2.2.1 (hW g hg).2.2.2 (fun z hz => (hLI j hj z hz).1) (fun z hz => (hLI j hj z hz).2) _) (cwV 3 hts gX3_compare_X3_addLawSum rfl rfl rfl hdX3_addLawSumC ⟨Nat.le_of_ble_eq_true rfl, Nat.le_of_ble_eq_true rfl⟩) 0 3 rfl tb_o rfl hP hD hS rfl hl.1 rfl (Nat.le_of_ble_eq_true rfl) dX3_compare_71 ⟨Nat.zero_le _, Nat.zero_le _⟩) (fun wr15 H locs h16 hP hD hS => ?_)
          obtain ⟨su17, rfl⟩ := h16
          refine lv_aload_n hx hb dX3_compare_74 rfl (lv_at hl 2 rfl) ?_
          refine lv_aload hx hb dX3_compare_75 (lv_at hl 0 rfl) ?_
          refine lv_aload_n hx hb dX3_compare_77 rfl (lv_at hl 2 rfl) ?_
          refine fg C hP 0 tb_o (ci := 3) rfl 1 (by decide) in_X3_compare_X3 lk_X3_compare_17 (v := .ref (ad 14)) rfl dX3_compare_78 ?_
          refine lv_iload hx hb dX3_compare_81 (lv_at hl 6 rfl) ?_
          refine ar_r C hP 14 tb_ls (j := i) (v := .ref (ad (15 + i))) rfl (by omega) (by decide) dX3_compare_83 ?_
          refine lv_aload hx hb dX3_compare_84 (lv_at hl 1 rfl) ?_
          refine fg_N C hP (2 + 3 * g) (tb_w hg) (ci := 2) rfl 2 (by decide) in_X3_compare_X2 (hN.2 (RX3, 75, RX2, "total", "I") (List.mem_of_getElem? (i := 2) rfl)) (v := .int (N g)) rfl dX3_compare_86 ?_
          refine tp_i (y := zI (nn g : Int)) ((hW g hg).1) ?_
          refine lv_ineg hx hb dX3_compare_89 ?_
          refine tp_i (y := zI (-(nn g : Int))) (zI_neg _) ?_
          refine fw_v C hD hS (rn_V (As := [.ref (ad (2 + 3 * h)), .ref (ad (15 + i)), .int (zI (-(nn g : Int)))]) (rest := []) C (c_X3_addLawSum D k t l (qs := qq i) (vt := vv h) (n := nn h) (tm := (-(nn g : Int))) hh hi (hW h hh).1 hnh (hW h hh).2.1 (hW h hh).2.2.1 (hW h hh).2.2.2 (fun z hz => (hLI i hi z hz).1) (fun z hz => (hLI i hi z hz).2) _) (cwV 3 hts gX3_compare_X3_addLawSum rfl rfl rfl hdX3_addLawSumC ⟨Nat.le_of_ble_eq_true rfl, Nat.le_of_ble_eq_true rfl⟩) 0 3 rfl tb_o rfl hP hD hS rfl hl.1 rfl (Nat.le_of_ble_eq_true rfl) dX3_compare_90 ⟨Nat.zero_le _, Nat.zero_le _⟩) (fun wr18 H locs h19 hP hD hS => ?_)
          obtain ⟨su20, rfl⟩ := h19
          refine lv_aload_n hx hb dX3_compare_93 rfl (lv_at hl 2 rfl) ?_
          refine fg C hP 0 tb_o (ci := 3) rfl 2 (by decide) in_X3_compare_X3 lk_X3_compare_23 (v := .ref (ad 25)) rfl dX3_compare_94 ?_
          refine fw_i C hD hS (rn_VN (As := []) (rest := []) (host := RX3) (C2 := RX0) C (c_X0_signOfSum D k t l (ee := (lxp (lxp z0 (vv g) (nn g) (qq j) (nn h : Int) 7) (vv h) (nn h) (qq i) (-(nn g : Int)) 7)) (hB g j h i hg hj hh hi hng hnh).zt (hB g j h i hg hj hh hi hng hnh).2.1 (hB g j h i hg hj hh hi hng hnh).2.2 _) (va_cnB 0 hts gX3_compare_X0_signOfSum_n127 rfl rfl rfl (hN.1 (RX3, 127, yX0_signOfSum) (List.mem_of_getElem? (i := 15) rfl)) (hts (.initialized RX0) (by decide +kernel)) hdX0_signOfSum ⟨Nat.le_of_ble_eq_true rfl, Nat.le_of_ble_eq_true rfl⟩) (hts (.instanceMethod yX0_signOfSum) (by decide +kernel)) (hts (.selects RX0 yX0_signOfSum yX0_signOfSum) (by decide +kernel)) 25 0 rfl tb_g rfl hP hD hS rfl hl.1 rfl (Nat.le_of_ble_eq_true rfl) dX3_compare_97 ⟨Nat.zero_le _, Nat.zero_le _⟩) (fun r21 wr21 H locs h22 hP hD hS => ?_)
          obtain ⟨G23, E24, rfl, rfl⟩ := h22
          exact Ri C hP hD hS (Nat.zero_le _) (Nat.zero_le _) dX3_compare_100 (Or.inl ⟨g, j, h, i, ⟨hg, rfl, hmg, hj, rfl, hh, rfl, hmh, hi, rfl⟩, rfl, _, _, _, _, rfl⟩)
        · have c12 := pb_z c12
          refine lv_bipush (v := (-2)) hx hb dX3_compare_31 (by decide) ?_
          exact Ri C hP hD hS (Nat.zero_le _) (Nat.zero_le _) dX3_compare_33 (Or.inr ⟨fun _ _ _ i z => c12 ⟨i, Nat.zero_le _, z.2.2.2.2.2.2.2.2.1, z.2.2.2.2.2.2.2.2.2⟩, rfl, rfl⟩)

noncomputable def f_sec (a b : Nat → Int32) : Int32 := @ite _ (∀ j, j < 6 → a j = 0) (Classical.propDecidable _) (nI 1) (@ite _ (∀ j, j < 6 → b j = 0) (Classical.propDecidable _) (nI 0) (nI 2))
theorem or1 : ∀ z, z = 2 ∨ z = 4 ∨ z = 6 → nI z ||| nI 1 = nI (z + 1) := by
  intro z h
  rcases h with rfl | rfl | rfl <;> decide
theorem sec_no {N : Nat → Int32} {x1 x2 : Int32} (h1 : ¬ x2 = nI 2) (h2 : ¬ x2 = nI 4) (h3 : ¬ x2 = nI 6) : ∀ g z : Nat, ¬ (g < 4 ∧ x1 = nI g ∧ ¬ N g ≤ 0 ∧ (z = 2 ∨ z = 4 ∨ z = 6) ∧ x2 = nI z) := by
  intro g z q
  obtain ⟨_, _, _, q4, rfl⟩ := q
  rcases q4 with rfl | rfl | rfl
  · exact h1 rfl
  · exact h2 rfl
  · exact h3 rfl
set_option maxRecDepth 20000 in
theorem in_X3_secret_X3 : ∀ w ∈ u_ws RX3 TX3 8, w ∈ wsX3_secret := by decide +kernel
set_option maxRecDepth 20000 in
theorem lk_X3_secret_11 : Cond.fieldLink RX3 11 (TX3 0).1 (TX3 0).2.1 (TX3 0).2.2.1 ∈ wsX3_secret := by decide +kernel
set_option maxRecDepth 20000 in
theorem lk_X3_secret_23 : Cond.fieldLink RX3 23 (TX3 2).1 (TX3 2).2.1 (TX3 2).2.2.1 ∈ wsX3_secret := by decide +kernel
set_option maxHeartbeats 4000000 in
set_option maxRecDepth 100000 in
theorem c_X3_secret (D : va_G) (k : Nat → ClassId) (t : Nat → Nat) (l : Launch) {ad : Nat → Nat} {N : Nat → Int32} {S Wt L : Nat → Nat → Int32} {T : Nat → Int32} {G : Nat → Nat → Int64} {E : Nat → Int32} {su pa tr sh : Nat → Int32} {pv : Int32} {nn : Nat → Nat} {vv : Nat → Nat → Nat} {qq : Nat → Nat → Int} (hW : WI N Wt nn vv) (x1 x2 : Int32) : Ci D k t l yX3_secret wsX3_secret ({ frames := 3, cells := 0, slots := 0, locals := 90 }) [.ref (ad 0), .int x1, .int x2] (TBw ad k N S Wt L T G E su pa tr sh pv) (fun r w => (∃ g z : Nat, (g < 4 ∧ x1 = nI g ∧ ¬ N g ≤ 0 ∧ (z = 2 ∨ z = 4 ∨ z = 6) ∧ x2 = nI z) ∧ r = f_sec (zT (dxq (dxq z0 1 (vv g) (nn g) (z + 1)) (-1) (vv g) (nn g) z)) (zT (dxq (dxq (dxq z0 1 (vv g) (nn g) (z + 1)) (-1) (vv g) (nn g) z) (-1) (vv g) (nn g) 1)) ∧ ∃ (T2 su2 : Nat → Int32), w = TBw ad k N S Wt L T2 G E su2 pa tr sh pv) ∨ ((∀ g z : Nat, ¬ (g < 4 ∧ x1 = nI g ∧ ¬ N g ≤ 0 ∧ (z = 2 ∨ z = 4 ∨ z = 6) ∧ x2 = nI z)) ∧ r = -1 ∧ w = TBw ad k N S Wt L T G E su pa tr sh pv)) 0 0 := by
  refine fw_of (cc := cX3_secret) (maxL := 4) (ret := (some .int)) (Qc := fun A => va_Qi (fun r w => (∃ g z : Nat, (g < 4 ∧ x1 = nI g ∧ ¬ N g ≤ 0 ∧ (z = 2 ∨ z = 4 ∨ z = 6) ∧ x2 = nI z) ∧ r = f_sec (zT (dxq (dxq z0 1 (vv g) (nn g) (z + 1)) (-1) (vv g) (nn g) z)) (zT (dxq (dxq (dxq z0 1 (vv g) (nn g) (z + 1)) (-1) (vv g) (nn g) z) (-1) (vv g) (nn g) 1)) ∧ ∃ (T2 su2 : Nat → Int32), w = TBw ad k N S Wt L T2 G E su2 pa tr sh pv) ∨ ((∀ g z : Nat, ¬ (g < 4 ∧ x1 = nI g ∧ ¬ N g ≤ 0 ∧ (z = 2 ∨ z = 4 ∨ z = 6) ∧ x2 = nI z)) ∧ r = -1 ∧ w = TBw ad k N S Wt L T G E su pa tr sh pv)) (BcW D A) A) (by decide) rfl (Nat.le_of_ble_eq_true rfl) ?_
  intro p e s m below meth c A ls C hP hD hl
  have C : Cx RX3 "secret" cX3_secret 4 (some .int) wsX3_secret D k t A p s m ([.ref (ad 0), .int x1, .int x2] : List Value).toArray meth c := C
  have hl : lv_has ls 4 [(0, .ref (ad 0)), (1, .int x1), (2, .int x2)] := hl
  have hx := C.1
  have hb := C.2.1
  have hown := C.2.2.2.2.1
  have hts := C.2.2.2.2.2.1
  have hK := C.2.2.2.2.2.2.2.2.1
  have hZ := C.2.2.2.2.2.2.2.2.2.1
  have hN := C.2.2.2.2.2.2.2.2.2.2
  have hS : va_S A s.heap s.heap [] := va_S.rf
  refine lv_aload_n hx hb dX3_secret_0 rfl (lv_at hl 0 rfl) ?_
  refine lv_iload_n hx hb dX3_secret_1 rfl (lv_at hl 1 rfl) ?_
  refine fw_i C hD hS (rn_V (As := [.int x1]) (rest := []) C (c_X3_isMadePlace D k t l x1 _) (cwV 1 hts gX3_secret_X3_isMadePlace rfl rfl rfl hdX3_isMadePlaceC ⟨Nat.le_of_ble_eq_true rfl, Nat.le_of_ble_eq_true rfl⟩) 0 3 rfl tb_o rfl hP hD hS rfl hl.1 rfl (Nat.le_of_ble_eq_true rfl) dX3_secret_2 ⟨Nat.zero_le _, Nat.zero_le _⟩) (fun r1 wr1 H locs h2 hP hD hS => ?_)
  obtain ⟨rfl, rfl⟩ := h2
  refine lv_if_eq (tgt := 24) hx hb dX3_secret_5 (by decide) (fun c3 => ?_) (fun c3 => ?_)
  · have c3 := pb_z c3
    refine lv_iconst (v := (-1)) hx hb dX3_secret_24 (by decide) ?_
    exact Ri C hP hD hS (Nat.zero_le _) (Nat.zero_le _) dX3_secret_25 (Or.inr ⟨fun g _ z => c3 ⟨g, z.1, z.2.1, z.2.2.1⟩, rfl, rfl⟩)
  · have c3 := pb_nz c3
    obtain ⟨g, hg, rfl, hmg⟩ := id c3
    refine lv_iload_n hx hb dX3_secret_8 rfl (lv_at hl 2 rfl) ?_
    refine lv_iconst (v := nI 2) hx hb dX3_secret_9 (by decide) ?_
    refine lv_icmp_eq (tgt := 26) hx hb dX3_secret_10 (by decide) (fun c4 => ?_) (fun c4 => ?_)
    · obtain ⟨z, hz, rfl⟩ : ∃ z : Nat, (z = 2 ∨ z = 4 ∨ z = 6) ∧ x2 = nI z := ⟨2, by omega, c4⟩
      have hng := hW.pos hg hmg
      refine lv_aload_n hx hb dX3_secret_26 rfl (lv_at hl 0 rfl) ?_
      refine fg C hP 0 tb_o (ci := 3) rfl 0 (by decide) in_X3_secret_X3 lk_X3_secret_11 (v := .ref (ad 1)) rfl dX3_secret_27 ?_
      refine lv_iload_n hx hb dX3_secret_30 rfl (lv_at hl 1 rfl) ?_
      refine ar_q C hP 1 tb_ws (j := g) (v := .ref (ad (2 + 3 * g))) rfl (by omega) (by decide) dX3_secret_31 ?_
      refine lv_astore_n (lv' := [(3, .ref (ad (2 + 3 * g))), (0, .ref (ad 0)), (1, .int (nI g)), (2, .int (nI z))]) hx hb dX3_secret_32 rfl hl (by decide) rfl (fun ls hl => ?_)
      refine lv_aload_n hx hb dX3_secret_33 rfl (lv_at hl 1 rfl) ?_
      refine fg C hP 0 tb_o (ci := 3) rfl 2 (by decide) in_X3_secret_X3 lk_X3_secret_23 (v := .ref (ad 25)) rfl dX3_secret_34 ?_
      refine fw_v C hD hS (rn_VN (As := []) (rest := []) (host := RX3) (C2 := RX0) C (c_X0_clear D k t l _) (va_cnB 0 hts gX3_secret_X0_clear_n120 rfl rfl rfl (hN.1 (RX3, 120, yX0_clear) (List.mem_of_getElem? (i := 13) rfl)) (hts (.initialized RX0) (by decide +kernel)) hdX0_clear ⟨Nat.le_of_ble_eq_true rfl, Nat.le_of_ble_eq_true rfl⟩) (hts (.instanceMethod yX0_clear) (by decide +kernel)) (hts (.selects RX0 yX0_clear yX0_clear) (by decide +kernel)) 25 0 rfl tb_g rfl hP hD hS rfl hl.1 rfl (Nat.le_of_ble_eq_true rfl) dX3_secret_37 ⟨Nat.zero_le _, Nat.zero_le _⟩) (fun wr5 H locs h6 hP hD hS => ?_)
      rw [zT_0] at h6
      obtain rfl := h6
      refine lv_aload_n hx hb dX3_secret_40 rfl (lv_at hl 1 rfl) ?_
      refine lv_aload_n hx hb dX3_secret_41 rfl (lv_at hl 0 rfl) ?_
      refine lv_iload_n hx hb dX3_secret_42 rfl (lv_at hl 3 rfl) ?_
      refine lv_iconst (v := nI 1) hx hb dX3_secret_43 (by decide) ?_
      refine lv_ior hx hb dX3_secret_44 ?_
      refine tp_i (y := nI (z + 1)) (or1 z hz) ?_
      refine lv_iconst (v := nI 1) hx hb dX3_secret_45 (by decide) ?_
      refine tp_i (y := zI 1) (rfl) ?_
      refine fw_v C hD hS (rn_V (As := [.ref (ad (2 + 3 * g)), .int (nI (z + 1)), .int (zI 1)]) (rest := []) C (c_X3_addDoubt D k t l (z := (z + 1)) (tm := 1) hg (by omega) (hW g hg).1 hng (hW g hg).2.1 (hW g hg).2.2.1 ((hW g hg).2.2.2 _) _) (cwV 3 hts gX3_secret_X3_addDoubt rfl rfl rfl hdX3_addDoubtC ⟨Nat.le_of_ble_eq_true rfl, Nat.le_of_ble_eq_true rfl⟩) 0 3 rfl tb_o rfl hP hD hS rfl hl.1 rfl (Nat.le_of_ble_eq_true rfl) dX3_secret_46 ⟨Nat.zero_le _, Nat.zero_le _⟩) (fun wr7 H locs h8 hP hD hS => ?_)
      obtain rfl := h8
      refine lv_aload_n hx hb dX3_secret_49 rfl (lv_at hl 1 rfl) ?_
      refine lv_aload_n hx hb dX3_secret_50 rfl (lv_at hl 0 rfl) ?_
      refine lv_iload_n hx hb dX3_secret_51 rfl (lv_at hl 3 rfl) ?_
      refine lv_iconst (v := (-1)) hx hb dX3_secret_52 (by decide) ?_
      refine tp_i (y := zI (-1)) (rfl) ?_
      refine fw_v C hD hS (rn_V (As := [.ref (ad (2 + 3 * g)), .int (nI z), .int (zI (-1))]) (rest := []) C (c_X3_addDoubt D k t l (z := z) (tm := (-1)) hg (by omega) (hW g hg).1 hng (hW g hg).2.1 (hW g hg).2.2.1 ((hW g hg).2.2.2 _) _) (cwV 3 hts gX3_secret_X3_addDoubt rfl rfl rfl hdX3_addDoubtC ⟨Nat.le_of_ble_eq_true rfl, Nat.le_of_ble_eq_true rfl⟩) 0 3 rfl tb_o rfl hP hD hS rfl hl.1 rfl (Nat.le_of_ble_eq_true rfl) dX3_secret_53 ⟨Nat.zero_le _, Nat.zero_le _⟩) (fun wr9 H locs h10 hP hD hS => ?_)
      obtain rfl := h10
      refine lv_aload_n hx hb dX3_secret_56 rfl (lv_at hl 1 rfl) ?_
      refine fg C hP 0 tb_o (ci := 3) rfl 2 (by decide) in_X3_secret_X3 lk_X3_secret_23 (v := .ref (ad 25)) rfl dX3_secret_57 ?_
      refine fw_i C hD hS (rn_VN (As := []) (rest := []) (host := RX3) (C2 := RX0) C (c_X0_isNought D k t l _) (va_cnB 0 hts gX3_secret_X0_isNought_n162 rfl rfl rfl (hN.1 (RX3, 162, yX0_isNought) (List.mem_of_getElem? (i := 19) rfl)) (hts (.initialized RX0) (by decide +kernel)) hdX0_isNought ⟨Nat.le_of_ble_eq_true rfl, Nat.le_of_ble_eq_true rfl⟩) (hts (.instanceMethod yX0_isNought) (by decide +kernel)) (hts (.selects RX0 yX0_isNought yX0_isNought) (by decide +kernel)) 25 0 rfl tb_g rfl hP hD hS rfl hl.1 rfl (Nat.le_of_ble_eq_true rfl) dX3_secret_60 ⟨Nat.zero_le _, Nat.zero_le _⟩) (fun r11 wr11 H locs h12 hP hD hS => ?_)
      obtain ⟨rfl, rfl⟩ := h12
      refine lv_if_eq (tgt := 68) hx hb dX3_secret_63 (by decide) (fun c13 => ?_) (fun c13 => ?_)
      · have c13 := pb_z c13
        refine lv_aload_n hx hb dX3_secret_68 rfl (lv_at hl 1 rfl) ?_
        refine lv_aload_n hx hb dX3_secret_69 rfl (lv_at hl 0 rfl) ?_
        refine lv_iconst (v := nI 1) hx hb dX3_secret_70 (by decide) ?_
        refine lv_iconst (v := (-1)) hx hb dX3_secret_71 (by decide) ?_
        refine tp_i (y := zI (-1)) (rfl) ?_
        refine fw_v C hD hS (rn_V (As := [.ref (ad (2 + 3 * g)), .int (nI 1), .int (zI (-1))]) (rest := []) C (c_X3_addDoubt D k t l (z := 1) (tm := (-1)) hg (by omega) (hW g hg).1 hng (hW g hg).2.1 (hW g hg).2.2.1 ((hW g hg).2.2.2 _) _) (cwV 3 hts gX3_secret_X3_addDoubt rfl rfl rfl hdX3_addDoubtC ⟨Nat.le_of_ble_eq_true rfl, Nat.le_of_ble_eq_true rfl⟩) 0 3 rfl tb_o rfl hP hD hS rfl hl.1 rfl (Nat.le_of_ble_eq_true rfl) dX3_secret_72 ⟨Nat.zero_le _, Nat.zero_le _⟩) (fun wr14 H locs h15 hP hD hS => ?_)
        obtain rfl := h15
        refine lv_aload_n hx hb dX3_secret_75 rfl (lv_at hl 1 rfl) ?_
        refine fg C hP 0 tb_o (ci := 3) rfl 2 (by decide) in_X3_secret_X3 lk_X3_secret_23 (v := .ref (ad 25)) rfl dX3_secret_76 ?_
        refine fw_i C hD hS (rn_VN (As := []) (rest := []) (host := RX3) (C2 := RX0) C (c_X0_isNought D k t l _) (va_cnB 0 hts gX3_secret_X0_isNought_n162 rfl rfl rfl (hN.1 (RX3, 162, yX0_isNought) (List.mem_of_getElem? (i := 19) rfl)) (hts (.initialized RX0) (by decide +kernel)) hdX0_isNought ⟨Nat.le_of_ble_eq_true rfl, Nat.le_of_ble_eq_true rfl⟩) (hts (.instanceMethod yX0_isNought) (by decide +kernel)) (hts (.selects RX0 yX0_isNought yX0_isNought) (by decide +kernel)) 25 0 rfl tb_g rfl hP hD hS rfl hl.1 rfl (Nat.le_of_ble_eq_true rfl) dX3_secret_79 ⟨Nat.zero_le _, Nat.zero_le _⟩) (fun r16 wr16 H locs h17 hP hD hS => ?_)
        obtain ⟨rfl, rfl⟩ := h17
        refine lv_if_eq (tgt := 89) hx hb dX3_secret_82 (by decide) (fun c18 => ?_) (fun c18 => ?_)
        · have c18 := pb_z c18
          refine lv_iconst (v := nI 2) hx hb dX3_secret_89 (by decide) ?_
          exact Ri C hP hD hS (Nat.zero_le _) (Nat.zero_le _) dX3_secret_90 (Or.inl ⟨g, z, ⟨hg, rfl, hmg, hz, rfl⟩, by rw [f_sec, if_neg c13, if_neg c18], _, _, rfl⟩)
        · have c18 := pb_nz c18
          refine lv_iconst (v := nI 0) hx hb dX3_secret_85 (by decide) ?_
          refine lv_goto (tgt := 90) hx hb dX3_secret_86 (by decide) ?_
          exact Ri C hP hD hS (Nat.zero_le _) (Nat.zero_le _) dX3_secret_90 (Or.inl ⟨g, z, ⟨hg, rfl, hmg, hz, rfl⟩, by rw [f_sec, if_neg c13, if_pos c18], _, _, rfl⟩)
      · have c13 := pb_nz c13
        refine lv_iconst (v := nI 1) hx hb dX3_secret_66 (by decide) ?_
        exact Ri C hP hD hS (Nat.zero_le _) (Nat.zero_le _) dX3_secret_67 (Or.inl ⟨g, z, ⟨hg, rfl, hmg, hz, rfl⟩, by rw [f_sec, if_pos c13], _, _, rfl⟩)
    · refine lv_iload_n hx hb dX3_secret_13 rfl (lv_at hl 2 rfl) ?_
      refine lv_iconst (v := nI 4) hx hb dX3_secret_14 (by decide) ?_
      refine lv_icmp_eq (tgt := 26) hx hb dX3_secret_15 (by decide) (fun c19 => ?_) (fun c19 => ?_)
      · obtain ⟨z, hz, rfl⟩ : ∃ z : Nat, (z = 2 ∨ z = 4 ∨ z = 6) ∧ x2 = nI z := ⟨4, by omega, c19⟩
        have hng := hW.pos hg hmg
        refine lv_aload_n hx hb dX3_secret_26 rfl (lv_at hl 0 rfl) ?_
        refine fg C hP 0 tb_o (ci := 3) rfl 0 (by decide) in_X3_secret_X3 lk_X3_secret_11 (v := .ref (ad 1)) rfl dX3_secret_27 ?_
        refine lv_iload_n hx hb dX3_secret_30 rfl (lv_at hl 1 rfl) ?_
        refine ar_q C hP 1 tb_ws (j := g) (v := .ref (ad (2 + 3 * g))) rfl (by omega) (by decide) dX3_secret_31 ?_
        refine lv_astore_n (lv' := [(3, .ref (ad (2 + 3 * g))), (0, .ref (ad 0)), (1, .int (nI g)), (2, .int (nI z))]) hx hb dX3_secret_32 rfl hl (by decide) rfl (fun ls hl => ?_)
        refine lv_aload_n hx hb dX3_secret_33 rfl (lv_at hl 1 rfl) ?_
        refine fg C hP 0 tb_o (ci := 3) rfl 2 (by decide) in_X3_secret_X3 lk_X3_secret_23 (v := .ref (ad 25)) rfl dX3_secret_34 ?_
        refine fw_v C hD hS (rn_VN (As := []) (rest := []) (host := RX3) (C2 := RX0) C (c_X0_clear D k t l _) (va_cnB 0 hts gX3_secret_X0_clear_n120 rfl rfl rfl (hN.1 (RX3, 120, yX0_clear) (List.mem_of_getElem? (i := 13) rfl)) (hts (.initialized RX0) (by decide +kernel)) hdX0_clear ⟨Nat.le_of_ble_eq_true rfl, Nat.le_of_ble_eq_true rfl⟩) (hts (.instanceMethod yX0_clear) (by decide +kernel)) (hts (.selects RX0 yX0_clear yX0_clear) (by decide +kernel)) 25 0 rfl tb_g rfl hP hD hS rfl hl.1 rfl (Nat.le_of_ble_eq_true rfl) dX3_secret_37 ⟨Nat.zero_le _, Nat.zero_le _⟩) (fun wr20 H locs h21 hP hD hS => ?_)
        rw [zT_0] at h21
        obtain rfl := h21
        refine lv_aload_n hx hb dX3_secret_40 rfl (lv_at hl 1 rfl) ?_
        refine lv_aload_n hx hb dX3_secret_41 rfl (lv_at hl 0 rfl) ?_
        refine lv_iload_n hx hb dX3_secret_42 rfl (lv_at hl 3 rfl) ?_
        refine lv_iconst (v := nI 1) hx hb dX3_secret_43 (by decide) ?_
        refine lv_ior hx hb dX3_secret_44 ?_
        refine tp_i (y := nI (z + 1)) (or1 z hz) ?_
        refine lv_iconst (v := nI 1) hx hb dX3_secret_45 (by decide) ?_
        refine tp_i (y := zI 1) (rfl) ?_
        refine fw_v C hD hS (rn_V (As := [.ref (ad (2 + 3 * g)), .int (nI (z + 1)), .int (zI 1)]) (rest := []) C (c_X3_addDoubt D k t l (z := (z + 1)) (tm := 1) hg (by omega) (hW g hg).1 hng (hW g hg).2.1 (hW g hg).2.2.1 ((hW g hg).2.2.2 _) _) (cwV 3 hts gX3_secret_X3_addDoubt rfl rfl rfl hdX3_addDoubtC ⟨Nat.le_of_ble_eq_true rfl, Nat.le_of_ble_eq_true rfl⟩) 0 3 rfl tb_o rfl hP hD hS rfl hl.1 rfl (Nat.le_of_ble_eq_true rfl) dX3_secret_46 ⟨Nat.zero_le _, Nat.zero_le _⟩) (fun wr22 H locs h23 hP hD hS => ?_)
        obtain rfl := h23
        refine lv_aload_n hx hb dX3_secret_49 rfl (lv_at hl 1 rfl) ?_
        refine lv_aload_n hx hb dX3_secret_50 rfl (lv_at hl 0 rfl) ?_
        refine lv_iload_n hx hb dX3_secret_51 rfl (lv_at hl 3 rfl) ?_
        refine lv_iconst (v := (-1)) hx hb dX3_secret_52 (by decide) ?_
        refine tp_i (y := zI (-1)) (rfl) ?_
        refine fw_v C hD hS (rn_V (As := [.ref (ad (2 + 3 * g)), .int (nI z), .int (zI (-1))]) (rest := []) C (c_X3_addDoubt D k t l (z := z) (tm := (-1)) hg (by omega) (hW g hg).1 hng (hW g hg).2.1 (hW g hg).2.2.1 ((hW g hg).2.2.2 _) _) (cwV 3 hts gX3_secret_X3_addDoubt rfl rfl rfl hdX3_addDoubtC ⟨Nat.le_of_ble_eq_true rfl, Nat.le_of_ble_eq_true rfl⟩) 0 3 rfl tb_o rfl hP hD hS rfl hl.1 rfl (Nat.le_of_ble_eq_true rfl) dX3_secret_53 ⟨Nat.zero_le _, Nat.zero_le _⟩) (fun wr24 H locs h25 hP hD hS => ?_)
        obtain rfl := h25
        refine lv_aload_n hx hb dX3_secret_56 rfl (lv_at hl 1 rfl) ?_
        refine fg C hP 0 tb_o (ci := 3) rfl 2 (by decide) in_X3_secret_X3 lk_X3_secret_23 (v := .ref (ad 25)) rfl dX3_secret_57 ?_
        refine fw_i C hD hS (rn_VN (As := []) (rest := []) (host := RX3) (C2 := RX0) C (c_X0_isNought D k t l _) (va_cnB 0 hts gX3_secret_X0_isNought_n162 rfl rfl rfl (hN.1 (RX3, 162, yX0_isNought) (List.mem_of_getElem? (i := 19) rfl)) (hts (.initialized RX0) (by decide +kernel)) hdX0_isNought ⟨Nat.le_of_ble_eq_true rfl, Nat.le_of_ble_eq_true rfl⟩) (hts (.instanceMethod yX0_isNought) (by decide +kernel)) (hts (.selects RX0 yX0_isNought yX0_isNought) (by decide +kernel)) 25 0 rfl tb_g rfl hP hD hS rfl hl.1 rfl (Nat.le_of_ble_eq_true rfl) dX3_secret_60 ⟨Nat.zero_le _, Nat.zero_le _⟩) (fun r26 wr26 H locs h27 hP hD hS => ?_)
        obtain ⟨rfl, rfl⟩ := h27
        refine lv_if_eq (tgt := 68) hx hb dX3_secret_63 (by decide) (fun c28 => ?_) (fun c28 => ?_)
        · have c28 := pb_z c28
          refine lv_aload_n hx hb dX3_secret_68 rfl (lv_at hl 1 rfl) ?_
          refine lv_aload_n hx hb dX3_secret_69 rfl (lv_at hl 0 rfl) ?_
          refine lv_iconst (v := nI 1) hx hb dX3_secret_70 (by decide) ?_
          refine lv_iconst (v := (-1)) hx hb dX3_secret_71 (by decide) ?_
          refine tp_i (y := zI (-1)) (rfl) ?_
          refine fw_v C hD hS (rn_V (As := [.ref (ad (2 + 3 * g)), .int (nI 1), .int (zI (-1))]) (rest := []) C (c_X3_addDoubt D k t l (z := 1) (tm := (-1)) hg (by omega) (hW g hg).1 hng (hW g hg).2.1 (hW g hg).2.2.1 ((hW g hg).2.2.2 _) _) (cwV 3 hts gX3_secret_X3_addDoubt rfl rfl rfl hdX3_addDoubtC ⟨Nat.le_of_ble_eq_true rfl, Nat.le_of_ble_eq_true rfl⟩) 0 3 rfl tb_o rfl hP hD hS rfl hl.1 rfl (Nat.le_of_ble_eq_true rfl) dX3_secret_72 ⟨Nat.zero_le _, Nat.zero_le _⟩) (fun wr29 H locs h30 hP hD hS => ?_)
          obtain rfl := h30
          refine lv_aload_n hx hb dX3_secret_75 rfl (lv_at hl 1 rfl) ?_
          refine fg C hP 0 tb_o (ci := 3) rfl 2 (by decide) in_X3_secret_X3 lk_X3_secret_23 (v := .ref (ad 25)) rfl dX3_secret_76 ?_
          refine fw_i C hD hS (rn_VN (As := []) (rest := []) (host := RX3) (C2 := RX0) C (c_X0_isNought D k t l _) (va_cnB 0 hts gX3_secret_X0_isNought_n162 rfl rfl rfl (hN.1 (RX3, 162, yX0_isNought) (List.mem_of_getElem? (i := 19) rfl)) (hts (.initialized RX0) (by decide +kernel)) hdX0_isNought ⟨Nat.le_of_ble_eq_true rfl, Nat.le_of_ble_eq_true rfl⟩) (hts (.instanceMethod yX0_isNought) (by decide +kernel)) (hts (.selects RX0 yX0_isNought yX0_isNought) (by decide +kernel)) 25 0 rfl tb_g rfl hP hD hS rfl hl.1 rfl (Nat.le_of_ble_eq_true rfl) dX3_secret_79 ⟨Nat.zero_le _, Nat.zero_le _⟩) (fun r31 wr31 H locs h32 hP hD hS => ?_)
          obtain ⟨rfl, rfl⟩ := h32
          refine lv_if_eq (tgt := 89) hx hb dX3_secret_82 (by decide) (fun c33 => ?_) (fun c33 => ?_)
          · have c33 := pb_z c33
            refine lv_iconst (v := nI 2) hx hb dX3_secret_89 (by decide) ?_
            exact Ri C hP hD hS (Nat.zero_le _) (Nat.zero_le _) dX3_secret_90 (Or.inl ⟨g, z, ⟨hg, rfl, hmg, hz, rfl⟩, by rw [f_sec, if_neg c28, if_neg c33], _, _, rfl⟩)
          · have c33 := pb_nz c33
            refine lv_iconst (v := nI 0) hx hb dX3_secret_85 (by decide) ?_
            refine lv_goto (tgt := 90) hx hb dX3_secret_86 (by decide) ?_
            exact Ri C hP hD hS (Nat.zero_le _) (Nat.zero_le _) dX3_secret_90 (Or.inl ⟨g, z, ⟨hg, rfl, hmg, hz, rfl⟩, by rw [f_sec, if_neg c28, if_pos c33], _, _, rfl⟩)
        · have c28 := pb_nz c28
          refine lv_iconst (v := nI 1) hx hb dX3_secret_66 (by decide) ?_
          exact Ri C hP hD hS (Nat.zero_le _) (Nat.zero_le _) dX3_secret_67 (Or.inl ⟨g, z, ⟨hg, rfl, hmg, hz, rfl⟩, by rw [f_sec, if_pos c28], _, _, rfl⟩)
      · refine lv_iload_n hx hb dX3_secret_18 rfl (lv_at hl 2 rfl) ?_
        refine lv_bipush (v := nI 6) hx hb dX3_secret_19 (by decide) ?_
        refine lv_icmp_eq (tgt := 26) hx hb dX3_secret_21 (by decide) (fun c34 => ?_) (fun c34 => ?_)
        · obtain ⟨z, hz, rfl⟩ : ∃ z : Nat, (z = 2 ∨ z = 4 ∨ z = 6) ∧ x2 = nI z := ⟨6, by omega, c34⟩
          have hng := hW.pos hg hmg
          refine lv_aload_n hx hb dX3_secret_26 rfl (lv_at hl 0 rfl) ?_
          refine fg C hP 0 tb_o (ci := 3) rfl 0 (by decide) in_X3_secret_X3 lk_X3_secret_11 (v := .ref (ad 1)) rfl dX3_secret_27 ?_
          refine lv_iload_n hx hb dX3_secret_30 rfl (lv_at hl 1 rfl) ?_
          refine ar_q C hP 1 tb_ws (j := g) (v := .ref (ad (2 + 3 * g))) rfl (by omega) (by decide) dX3_secret_31 ?_
          refine lv_astore_n (lv' := [(3, .ref (ad (2 + 3 * g))), (0, .ref (ad 0)), (1, .int (nI g)), (2, .int (nI z))]) hx hb dX3_secret_32 rfl hl (by decide) rfl (fun ls hl => ?_)
          refine lv_aload_n hx hb dX3_secret_33 rfl (lv_at hl 1 rfl) ?_
          refine fg C hP 0 tb_o (ci := 3) rfl 2 (by decide) in_X3_secret_X3 lk_X3_secret_23 (v := .ref (ad 25)) rfl dX3_secret_34 ?_
          refine fw_v C hD hS (rn_VN (As := []) (rest := []) (host := RX3) (C2 := RX0) C (c_X0_clear D k t l _) (va_cnB 0 hts gX3_secret_X0_clear_n120 rfl rfl rfl (hN.1 (RX3, 120, yX0_clear) (List.mem_of_getElem? (i := 13) rfl)) (hts (.initialized RX0) (by decide +kernel)) hdX0_clear ⟨Nat.le_of_ble_eq_true rfl, Nat.le_of_ble_eq_true rfl⟩) (hts (.instanceMethod yX0_clear) (by decide +kernel)) (hts (.selects RX0 yX0_clear yX0_clear) (by decide +kernel)) 25 0 rfl tb_g rfl hP hD hS rfl hl.1 rfl (Nat.le_of_ble_eq_true rfl) dX3_secret_37 ⟨Nat.zero_le _, Nat.zero_le _⟩) (fun wr35 H locs h36 hP hD hS => ?_)
          rw [zT_0] at h36
          obtain rfl := h36
          refine lv_aload_n hx hb dX3_secret_40 rfl (lv_at hl 1 rfl) ?_
          refine lv_aload_n hx hb dX3_secret_41 rfl (lv_at hl 0 rfl) ?_
          refine lv_iload_n hx hb dX3_secret_42 rfl (lv_at hl 3 rfl) ?_
          refine lv_iconst (v := nI 1) hx hb dX3_secret_43 (by decide) ?_
          refine lv_ior hx hb dX3_secret_44 ?_
          refine tp_i (y := nI (z + 1)) (or1 z hz) ?_
          refine lv_iconst (v := nI 1) hx hb dX3_secret_45 (by decide) ?_
          refine tp_i (y := zI 1) (rfl) ?_
          refine fw_v C hD hS (rn_V (As := [.ref (ad (2 + 3 * g)), .int (nI (z + 1)), .int (zI 1)]) (rest := []) C (c_X3_addDoubt D k t l (z := (z + 1)) (tm := 1) hg (by omega) (hW g hg).1 hng (hW g hg).2.1 (hW g hg).2.2.1 ((hW g hg).2.2.2 _) _) (cwV 3 hts gX3_secret_X3_addDoubt rfl rfl rfl hdX3_addDoubtC ⟨Nat.le_of_ble_eq_true rfl, Nat.le_of_ble_eq_true rfl⟩) 0 3 rfl tb_o rfl hP hD hS rfl hl.1 rfl (Nat.le_of_ble_eq_true rfl) dX3_secret_46 ⟨Nat.zero_le _, Nat.zero_le _⟩) (fun wr37 H locs h38 hP hD hS => ?_)
          obtain rfl := h38
          refine lv_aload_n hx hb dX3_secret_49 rfl (lv_at hl 1 rfl) ?_
          refine lv_aload_n hx hb dX3_secret_50 rfl (lv_at hl 0 rfl) ?_
          refine lv_iload_n hx hb dX3_secret_51 rfl (lv_at hl 3 rfl) ?_
          refine lv_iconst (v := (-1)) hx hb dX3_secret_52 (by decide) ?_
          refine tp_i (y := zI (-1)) (rfl) ?_
          refine fw_v C hD hS (rn_V (As := [.ref (ad (2 + 3 * g)), .int (nI z), .int (zI (-1))]) (rest := []) C (c_X3_addDoubt D k t l (z := z) (tm := (-1)) hg (by omega) (hW g hg).1 hng (hW g hg).2.1 (hW g hg).2.2.1 ((hW g hg).2.2.2 _) _) (cwV 3 hts gX3_secret_X3_addDoubt rfl rfl rfl hdX3_addDoubtC ⟨Nat.le_of_ble_eq_true rfl, Nat.le_of_ble_eq_true rfl⟩) 0 3 rfl tb_o rfl hP hD hS rfl hl.1 rfl (Nat.le_of_ble_eq_true rfl) dX3_secret_53 ⟨Nat.zero_le _, Nat.zero_le _⟩) (fun wr39 H locs h40 hP hD hS => ?_)
          obtain rfl := h40
          refine lv_aload_n hx hb dX3_secret_56 rfl (lv_at hl 1 rfl) ?_
          refine fg C hP 0 tb_o (ci := 3) rfl 2 (by decide) in_X3_secret_X3 lk_X3_secret_23 (v := .ref (ad 25)) rfl dX3_secret_57 ?_
          refine fw_i C hD hS (rn_VN (As := []) (rest := []) (host := RX3) (C2 := RX0) C (c_X0_isNought D k t l _) (va_cnB 0 hts gX3_secret_X0_isNought_n162 rfl rfl rfl (hN.1 (RX3, 162, yX0_isNought) (List.mem_of_getElem? (i := 19) rfl)) (hts (.initialized RX0) (by decide +kernel)) hdX0_isNought ⟨Nat.le_of_ble_eq_true rfl, Nat.le_of_ble_eq_true rfl⟩) (hts (.instanceMethod yX0_isNought) (by decide +kernel)) (hts (.selects RX0 yX0_isNought yX0_isNought) (by decide +kernel)) 25 0 rfl tb_g rfl hP hD hS rfl hl.1 rfl (Nat.le_of_ble_eq_true rfl) dX3_secret_60 ⟨Nat.zero_le _, Nat.zero_le _⟩) (fun r41 wr41 H locs h42 hP hD hS => ?_)
          obtain ⟨rfl, rfl⟩ := h42
          refine lv_if_eq (tgt := 68) hx hb dX3_secret_63 (by decide) (fun c43 => ?_) (fun c43 => ?_)
          · have c43 := pb_z c43
            refine lv_aload_n hx hb dX3_secret_68 rfl (lv_at hl 1 rfl) ?_
            refine lv_aload_n hx hb dX3_secret_69 rfl (lv_at hl 0 rfl) ?_
            refine lv_iconst (v := nI 1) hx hb dX3_secret_70 (by decide) ?_
            refine lv_iconst (v := (-1)) hx hb dX3_secret_71 (by decide) ?_
            refine tp_i (y := zI (-1)) (rfl) ?_
            refine fw_v C hD hS (rn_V (As := [.ref (ad (2 + 3 * g)), .int (nI 1), .int (zI (-1))]) (rest := []) C (c_X3_addDoubt D k t l (z := 1) (tm := (-1)) hg (by omega) (hW g hg).1 hng (hW g hg).2.1 (hW g hg).2.2.1 ((hW g hg).2.2.2 _) _) (cwV 3 hts gX3_secret_X3_addDoubt rfl rfl rfl hdX3_addDoubtC ⟨Nat.le_of_ble_eq_true rfl, Nat.le_of_ble_eq_true rfl⟩) 0 3 rfl tb_o rfl hP hD hS rfl hl.1 rfl (Nat.le_of_ble_eq_true rfl) dX3_secret_72 ⟨Nat.zero_le _, Nat.zero_le _⟩) (fun wr44 H locs h45 hP hD hS => ?_)
            obtain rfl := h45
            refine lv_aload_n hx hb dX3_secret_75 rfl (lv_at hl 1 rfl) ?_
            refine fg C hP 0 tb_o (ci := 3) rfl 2 (by decide) in_X3_secret_X3 lk_X3_secret_23 (v := .ref (ad 25)) rfl dX3_secret_76 ?_
            refine fw_i C hD hS (rn_VN (As := []) (rest := []) (host := RX3) (C2 := RX0) C (c_X0_isNought D k t l _) (va_cnB 0 hts gX3_secret_X0_isNought_n162 rfl rfl rfl (hN.1 (RX3, 162, yX0_isNought) (List.mem_of_getElem? (i := 19) rfl)) (hts (.initialized RX0) (by decide +kernel)) hdX0_isNought ⟨Nat.le_of_ble_eq_true rfl, Nat.le_of_ble_eq_true rfl⟩) (hts (.instanceMethod yX0_isNought) (by decide +kernel)) (hts (.selects RX0 yX0_isNought yX0_isNought) (by decide +kernel)) 25 0 rfl tb_g rfl hP hD hS rfl hl.1 rfl (Nat.le_of_ble_eq_true rfl) dX3_secret_79 ⟨Nat.zero_le _, Nat.zero_le _⟩) (fun r46 wr46 H locs h47 hP hD hS => ?_)
            obtain ⟨rfl, rfl⟩ := h47
            refine lv_if_eq (tgt := 89) hx hb dX3_secret_82 (by decide) (fun c48 => ?_) (fun c48 => ?_)
            · have c48 := pb_z c48
              refine lv_iconst (v := nI 2) hx hb dX3_secret_89 (by decide) ?_
              exact Ri C hP hD hS (Nat.zero_le _) (Nat.zero_le _) dX3_secret_90 (Or.inl ⟨g, z, ⟨hg, rfl, hmg, hz, rfl⟩, by rw [f_sec, if_neg c43, if_neg c48], _, _, rfl⟩)
            · have c48 := pb_nz c48
              refine lv_iconst (v := nI 0) hx hb dX3_secret_85 (by decide) ?_
              refine lv_goto (tgt := 90) hx hb dX3_secret_86 (by decide) ?_
              exact Ri C hP hD hS (Nat.zero_le _) (Nat.zero_le _) dX3_secret_90 (Or.inl ⟨g, z, ⟨hg, rfl, hmg, hz, rfl⟩, by rw [f_sec, if_neg c43, if_pos c48], _, _, rfl⟩)
          · have c43 := pb_nz c43
            refine lv_iconst (v := nI 1) hx hb dX3_secret_66 (by decide) ?_
            exact Ri C hP hD hS (Nat.zero_le _) (Nat.zero_le _) dX3_secret_67 (Or.inl ⟨g, z, ⟨hg, rfl, hmg, hz, rfl⟩, by rw [f_sec, if_pos c43], _, _, rfl⟩)
        · refine lv_iconst (v := (-1)) hx hb dX3_secret_24 (by decide) ?_
          exact Ri C hP hD hS (Nat.zero_le _) (Nat.zero_le _) dX3_secret_25 (Or.inr ⟨sec_no c4 c19 c34, rfl, rfl⟩)

