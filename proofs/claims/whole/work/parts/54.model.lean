def WIm (sm wt : Nat → Int32) (nn : Nat → Nat) (vv : Nat → Nat → Nat) : Prop := ∀ g, g < 4 → sm g = nI (nn g) ∧ nn g ≤ 16 ∧ (∀ j, j < 27 → wt (27 * g + j) = nI (vv g j)) ∧ ∀ z j, gsN (vv g) z 27 j ≤ 16
def LIm (nu : Nat → Int32) (qq : Nat → Nat → Int) : Prop := ∀ j, j < 10 → (∀ z, 1 ≤ z → z < 8 → nu (8 * j + z) = zI (qq j z)) ∧ ∀ z, z < 8 → -2 ≤ qq j z ∧ qq j z ≤ 2
theorem WIm.pos {sm wt : Nat → Int32} {nn : Nat → Nat} {vv : Nat → Nat → Nat} (h : WIm sm wt nn vv) {g : Nat} (hg : g < 4) (hm : ¬ sm g ≤ 0) : 1 ≤ nn g := by rw [(h g hg).1] at hm; exact nI_p hm
theorem big_le : 4294967296 ^ 1024 ≤ mbig := by
  unfold mbig
  rw [show (4294967296 : Nat) = 65536 ^ 2 from rfl, ← Nat.pow_mul]
  exact Nat.pow_le_pow_right (by decide) (by decide)
theorem BE.m0 {e : Nat → Int} (h : BE e) : upv e 6 < mbig := Nat.lt_of_lt_of_le h.2.1 big_le
theorem BE.m1 {e : Nat → Int} (h : BE e) : upv (ng e) 6 < mbig := Nat.lt_of_lt_of_le h.2.2 big_le
set_option maxHeartbeats 4000000 in
set_option maxRecDepth 100000 in
theorem c_X4_sign (D : va_G) (k : Nat → ClassId) (t : Nat → Nat) (l : Launch) {bd : Nat → Nat} {st wt sm nu po sh up lo : Nat → Int32} {li : Int32} {ro so un to : Nat → Int64} {it : Int32} {nn : Nat → Nat} {vv : Nat → Nat → Nat} {qq : Nat → Nat → Int} (hW : WIm sm wt nn vv) (hLI : LIm nu qq) (hB : ∀ g j, g < 4 → j < 10 → 1 ≤ nn g → BE (lxp z0 (vv g) (nn g) (qq j) 1 7)) (x1 x2 : Int32) : Ci D k t l yX4_sign wsX4_sign ({ frames := 3, cells := 0, slots := 0, locals := 120 }) [.ref (bd 0), .int x1, .int x2] (MWw bd k st wt sm nu po sh up lo li ro so un to it) (fun r w => (∃ g j : Nat, (g < 4 ∧ x1 = nI g ∧ ¬ sm g ≤ 0 ∧ j < 10 ∧ x2 = nI j) ∧ r = f_cmp (upv (lxp z0 (vv g) (nn g) (qq j) 1 7) 6) (upv (ng (lxp z0 (vv g) (nn g) (qq j) 1 7)) 6) ∧ ∃ (p2 s2 u2 l2 : Nat → Int32) (i2 : Int32), w = MWw bd k st wt sm nu p2 s2 u2 l2 i2 ro so un to it) ∨ ((∀ g j : Nat, ¬ (g < 4 ∧ x1 = nI g ∧ ¬ sm g ≤ 0 ∧ j < 10 ∧ x2 = nI j)) ∧ r = -2 ∧ w = MWw bd k st wt sm nu po sh up lo li ro so un to it)) 0 0 := by
  refine fw_of (cc := cX4_sign) (maxL := 3) (ret := (some .int)) (Qc := fun A => va_Qi (fun r w => (∃ g j : Nat, (g < 4 ∧ x1 = nI g ∧ ¬ sm g ≤ 0 ∧ j < 10 ∧ x2 = nI j) ∧ r = f_cmp (upv (lxp z0 (vv g) (nn g) (qq j) 1 7) 6) (upv (ng (lxp z0 (vv g) (nn g) (qq j) 1 7)) 6) ∧ ∃ (p2 s2 u2 l2 : Nat → Int32) (i2 : Int32), w = MWw bd k st wt sm nu p2 s2 u2 l2 i2 ro so un to it) ∨ ((∀ g j : Nat, ¬ (g < 4 ∧ x1 = nI g ∧ ¬ sm g ≤ 0 ∧ j < 10 ∧ x2 = nI j)) ∧ r = -2 ∧ w = MWw bd k st wt sm nu po sh up lo li ro so un to it)) (BcW D A) A) (by decide) rfl (Nat.le_of_ble_eq_true rfl) ?_
  intro p e s m below meth c A ls C hP hD hl
  have C : Cx RX4 "sign" cX4_sign 3 (some .int) wsX4_sign D k t A p s m ([.ref (bd 0), .int x1, .int x2] : List Value).toArray meth c := C
  have hl : lv_has ls 3 [(0, .ref (bd 0)), (1, .int x1), (2, .int x2)] := hl
  have hx := C.1
  have hb := C.2.1
  have hown := C.2.2.2.2.1
  have hts := C.2.2.2.2.2.1
  have hK := C.2.2.2.2.2.2.2.2.1
  have hZ := C.2.2.2.2.2.2.2.2.2.1
  have hN := C.2.2.2.2.2.2.2.2.2.2
  have hS : va_S A s.heap s.heap [] := va_S.rf
  refine lv_aload_n hx hb dX4_sign_0 rfl (lv_at hl 0 rfl) ?_
  refine lv_iload_n hx hb dX4_sign_1 rfl (lv_at hl 1 rfl) ?_
  refine fw_i C hD hS (rn_V (As := [.int x1]) (rest := []) C (c_X4_isMade D k t l x1 _) (cwV 1 hts gX4_sign_X4_isMade rfl rfl rfl hdX4_isMadeC ⟨Nat.le_of_ble_eq_true rfl, Nat.le_of_ble_eq_true rfl⟩) 0 4 rfl mw_o rfl hP hD hS rfl hl.1 rfl (Nat.le_of_ble_eq_true rfl) dX4_sign_2 ⟨Nat.zero_le _, Nat.zero_le _⟩) (fun r1 wr1 H locs h2 hP hD hS => ?_)
  obtain ⟨rfl, rfl⟩ := h2
  refine lv_if_eq (tgt := 15) hx hb dX4_sign_5 (by decide) (fun c3 => ?_) (fun c3 => ?_)
  · have c3 := pb_z c3
    refine lv_bipush (v := (-2)) hx hb dX4_sign_15 (by decide) ?_
    exact Ri C hP hD hS (Nat.zero_le _) (Nat.zero_le _) dX4_sign_17 (Or.inr ⟨fun g _ z => c3 ⟨g, z.1, z.2.1, z.2.2.1⟩, rfl, rfl⟩)
  · have c3 := pb_nz c3
    obtain ⟨g, hg, rfl, hmg⟩ := id c3
    refine lv_iload_n hx hb dX4_sign_8 rfl (lv_at hl 2 rfl) ?_
    refine fw_i C hD hS (rn_S (As := [.int x2]) (rest := []) C (c_X4_isLaw D k t l x2 _) (va_cwS 1 hts gX4_sign_X4_isLaw rfl rfl rfl hdX4_isLaw ⟨Nat.le_of_ble_eq_true rfl, Nat.le_of_ble_eq_true rfl⟩) hP hD hS rfl hl.1 rfl (Nat.le_of_ble_eq_true rfl) dX4_sign_9 ⟨Nat.zero_le _, Nat.zero_le _⟩) (fun r4 wr4 H locs h5 hP hD hS => ?_)
    obtain ⟨rfl, rfl⟩ := h5
    refine lv_if_ne (tgt := 18) hx hb dX4_sign_12 (by decide) (fun c6 => ?_) (fun c6 => ?_)
    · have c6 := pb_nz c6
      obtain ⟨j, h0j, hj, rfl⟩ := id c6
      have hng := hW.pos hg hmg
      refine lv_aload_n hx hb dX4_sign_18 rfl (lv_at hl 0 rfl) ?_
      refine fw_v C hD hS (rn_V (As := []) (rest := []) C (c_X4_clear D k t l _) (cwV 0 hts gX4_sign_X4_clear rfl rfl rfl hdX4_clearC ⟨Nat.le_of_ble_eq_true rfl, Nat.le_of_ble_eq_true rfl⟩) 0 4 rfl mw_o rfl hP hD hS rfl hl.1 rfl (Nat.le_of_ble_eq_true rfl) dX4_sign_19 ⟨Nat.zero_le _, Nat.zero_le _⟩) (fun wr7 H locs h8 hP hD hS => ?_)
      rw [zT_0] at h8
      obtain rfl := h8
      refine lv_aload_n hx hb dX4_sign_22 rfl (lv_at hl 0 rfl) ?_
      refine lv_iload_n hx hb dX4_sign_23 rfl (lv_at hl 1 rfl) ?_
      refine lv_iload_n hx hb dX4_sign_24 rfl (lv_at hl 2 rfl) ?_
      refine lv_iconst (v := nI 1) hx hb dX4_sign_25 (by decide) ?_
      refine tp_i (y := zI 1) (rfl) ?_
      refine fw_v C hD hS (rn_V (As := [.int (nI g), .int (nI j), .int (zI 1)]) (rest := []) C (c_X4_lawIn D k t l (qs := qq j) (vt := vv g) (n := nn g) (tm := 1) hg hj (hW g hg).1 hng (hW g hg).2.1 (hW g hg).2.2.1 (hW g hg).2.2.2 (hLI j hj).1 (hLI j hj).2 (by decide) _) (cwV 3 hts gX4_sign_X4_lawIn rfl rfl rfl hdX4_lawInC ⟨Nat.le_of_ble_eq_true rfl, Nat.le_of_ble_eq_true rfl⟩) 0 4 rfl mw_o rfl hP hD hS rfl hl.1 rfl (Nat.le_of_ble_eq_true rfl) dX4_sign_26 ⟨Nat.zero_le _, Nat.zero_le _⟩) (fun wr9 H locs h10 hP hD hS => ?_)
      obtain ⟨sh11, rfl⟩ := h10
      refine lv_aload_n hx hb dX4_sign_29 rfl (lv_at hl 0 rfl) ?_
      refine fw_i C hD hS (rn_V (As := []) (rest := []) C (c_X4_signOf D k t l (ee := (lxp z0 (vv g) (nn g) (qq j) 1 7)) (hB g j hg hj hng).zt (hB g j hg hj hng).m0 (hB g j hg hj hng).m1 _) (cwV 0 hts gX4_sign_X4_signOf rfl rfl rfl hdX4_signOfC ⟨Nat.le_of_ble_eq_true rfl, Nat.le_of_ble_eq_true rfl⟩) 0 4 rfl mw_o rfl hP hD hS rfl hl.1 rfl (Nat.le_of_ble_eq_true rfl) dX4_sign_30 ⟨Nat.zero_le _, Nat.zero_le _⟩) (fun r12 wr12 H locs h13 hP hD hS => ?_)
      obtain ⟨u14, w15, i16, rfl, rfl⟩ := h13
      exact Ri C hP hD hS (Nat.zero_le _) (Nat.zero_le _) dX4_sign_33 (Or.inl ⟨g, j, ⟨hg, rfl, hmg, hj, rfl⟩, rfl, _, _, _, _, _, rfl⟩)
    · have c6 := pb_z c6
      refine lv_bipush (v := (-2)) hx hb dX4_sign_15 (by decide) ?_
      exact Ri C hP hD hS (Nat.zero_le _) (Nat.zero_le _) dX4_sign_17 (Or.inr ⟨fun _ j z => c6 ⟨j, Nat.zero_le _, z.2.2.2.1, z.2.2.2.2⟩, rfl, rfl⟩)

set_option maxRecDepth 20000 in
theorem in_X4_compare_X4 : ∀ w ∈ u_ws RX4 TX4 15, w ∈ wsX4_compare := by decide +kernel
set_option maxRecDepth 20000 in
theorem lk_X4_compare_16 : Cond.fieldLink RX4 16 (TX4 2).1 (TX4 2).2.1 (TX4 2).2.2.1 ∈ wsX4_compare := by decide +kernel
set_option maxHeartbeats 4000000 in
set_option maxRecDepth 100000 in
theorem c_X4_compare (D : va_G) (k : Nat → ClassId) (t : Nat → Nat) (l : Launch) {bd : Nat → Nat} {st wt sm nu po sh up lo : Nat → Int32} {li : Int32} {ro so un to : Nat → Int64} {it : Int32} {nn : Nat → Nat} {vv : Nat → Nat → Nat} {qq : Nat → Nat → Int} (hW : WIm sm wt nn vv) (hLI : LIm nu qq) (hB : ∀ g j h i, g < 4 → j < 10 → h < 4 → i < 10 → 1 ≤ nn g → 1 ≤ nn h → BE (lxp (lxp z0 (vv g) (nn g) (qq j) (nn h) 7) (vv h) (nn h) (qq i) (-(nn g : Int)) 7)) (x1 x2 x3 x4 : Int32) : Ci D k t l yX4_compare wsX4_compare ({ frames := 3, cells := 0, slots := 0, locals := 120 }) [.ref (bd 0), .int x1, .int x2, .int x3, .int x4] (MWw bd k st wt sm nu po sh up lo li ro so un to it) (fun r w => (∃ g j h i : Nat, (g < 4 ∧ x1 = nI g ∧ ¬ sm g ≤ 0 ∧ j < 10 ∧ x2 = nI j ∧ h < 4 ∧ x3 = nI h ∧ ¬ sm h ≤ 0 ∧ i < 10 ∧ x4 = nI i) ∧ r = f_cmp (upv (lxp (lxp z0 (vv g) (nn g) (qq j) (nn h) 7) (vv h) (nn h) (qq i) (-(nn g : Int)) 7) 6) (upv (ng (lxp (lxp z0 (vv g) (nn g) (qq j) (nn h) 7) (vv h) (nn h) (qq i) (-(nn g : Int)) 7)) 6) ∧ ∃ (p2 s2 u2 l2 : Nat → Int32) (i2 : Int32), w = MWw bd k st wt sm nu p2 s2 u2 l2 i2 ro so un to it) ∨ ((∀ g j h i : Nat, ¬ (g < 4 ∧ x1 = nI g ∧ ¬ sm g ≤ 0 ∧ j < 10 ∧ x2 = nI j ∧ h < 4 ∧ x3 = nI h ∧ ¬ sm h ≤ 0 ∧ i < 10 ∧ x4 = nI i)) ∧ r = -2 ∧ w = MWw bd k st wt sm nu po sh up lo li ro so un to it)) 0 0 := by
  refine fw_of (cc := cX4_compare) (maxL := 5) (ret := (some .int)) (Qc := fun A => va_Qi (fun r w => (∃ g j h i : Nat, (g < 4 ∧ x1 = nI g ∧ ¬ sm g ≤ 0 ∧ j < 10 ∧ x2 = nI j ∧ h < 4 ∧ x3 = nI h ∧ ¬ sm h ≤ 0 ∧ i < 10 ∧ x4 = nI i) ∧ r = f_cmp (upv (lxp (lxp z0 (vv g) (nn g) (qq j) (nn h) 7) (vv h) (nn h) (qq i) (-(nn g : Int)) 7) 6) (upv (ng (lxp (lxp z0 (vv g) (nn g) (qq j) (nn h) 7) (vv h) (nn h) (qq i) (-(nn g : Int)) 7)) 6) ∧ ∃ (p2 s2 u2 l2 : Nat → Int32) (i2 : Int32), w = MWw bd k st wt sm nu p2 s2 u2 l2 i2 ro so un to it) ∨ ((∀ g j h i : Nat, ¬ (g < 4 ∧ x1 = nI g ∧ ¬ sm g ≤ 0 ∧ j < 10 ∧ x2 = nI j ∧ h < 4 ∧ x3 = nI h ∧ ¬ sm h ≤ 0 ∧ i < 10 ∧ x4 = nI i)) ∧ r = -2 ∧ w = MWw bd k st wt sm nu po sh up lo li ro so un to it)) (BcW D A) A) (by decide) rfl (Nat.le_of_ble_eq_true rfl) ?_
  intro p e s m below meth c A ls C hP hD hl
  have C : Cx RX4 "compare" cX4_compare 5 (some .int) wsX4_compare D k t A p s m ([.ref (bd 0), .int x1, .int x2, .int x3, .int x4] : List Value).toArray meth c := C
  have hl : lv_has ls 5 [(0, .ref (bd 0)), (1, .int x1), (2, .int x2), (3, .int x3), (4, .int x4)] := hl
  have hx := C.1
  have hb := C.2.1
  have hown := C.2.2.2.2.1
  have hts := C.2.2.2.2.2.1
  have hK := C.2.2.2.2.2.2.2.2.1
  have hZ := C.2.2.2.2.2.2.2.2.2.1
  have hN := C.2.2.2.2.2.2.2.2.2.2
  have hS : va_S A s.heap s.heap [] := va_S.rf
  refine lv_aload_n hx hb dX4_compare_0 rfl (lv_at hl 0 rfl) ?_
  refine lv_iload_n hx hb dX4_compare_1 rfl (lv_at hl 1 rfl) ?_
  refine fw_i C hD hS (rn_V (As := [.int x1]) (rest := []) C (c_X4_isMade D k t l x1 _) (cwV 1 hts gX4_compare_X4_isMade rfl rfl rfl hdX4_isMadeC ⟨Nat.le_of_ble_eq_true rfl, Nat.le_of_ble_eq_true rfl⟩) 0 4 rfl mw_o rfl hP hD hS rfl hl.1 rfl (Nat.le_of_ble_eq_true rfl) dX4_compare_2 ⟨Nat.zero_le _, Nat.zero_le _⟩) (fun r1 wr1 H locs h2 hP hD hS => ?_)
  obtain ⟨rfl, rfl⟩ := h2
  refine lv_if_eq (tgt := 31) hx hb dX4_compare_5 (by decide) (fun c3 => ?_) (fun c3 => ?_)
  · have c3 := pb_z c3
    refine lv_bipush (v := (-2)) hx hb dX4_compare_31 (by decide) ?_
    exact Ri C hP hD hS (Nat.zero_le _) (Nat.zero_le _) dX4_compare_33 (Or.inr ⟨fun g _ _ _ z => c3 ⟨g, z.1, z.2.1, z.2.2.1⟩, rfl, rfl⟩)
  · have c3 := pb_nz c3
    obtain ⟨g, hg, rfl, hmg⟩ := id c3
    refine lv_iload_n hx hb dX4_compare_8 rfl (lv_at hl 2 rfl) ?_
    refine fw_i C hD hS (rn_S (As := [.int x2]) (rest := []) C (c_X4_isLaw D k t l x2 _) (va_cwS 1 hts gX4_compare_X4_isLaw rfl rfl rfl hdX4_isLaw ⟨Nat.le_of_ble_eq_true rfl, Nat.le_of_ble_eq_true rfl⟩) hP hD hS rfl hl.1 rfl (Nat.le_of_ble_eq_true rfl) dX4_compare_9 ⟨Nat.zero_le _, Nat.zero_le _⟩) (fun r4 wr4 H locs h5 hP hD hS => ?_)
    obtain ⟨rfl, rfl⟩ := h5
    refine lv_if_eq (tgt := 31) hx hb dX4_compare_12 (by decide) (fun c6 => ?_) (fun c6 => ?_)
    · have c6 := pb_z c6
      refine lv_bipush (v := (-2)) hx hb dX4_compare_31 (by decide) ?_
      exact Ri C hP hD hS (Nat.zero_le _) (Nat.zero_le _) dX4_compare_33 (Or.inr ⟨fun _ j _ _ z => c6 ⟨j, Nat.zero_le _, z.2.2.2.1, z.2.2.2.2.1⟩, rfl, rfl⟩)
    · have c6 := pb_nz c6
      obtain ⟨j, h0j, hj, rfl⟩ := id c6
      refine lv_aload_n hx hb dX4_compare_15 rfl (lv_at hl 0 rfl) ?_
      refine lv_iload_n hx hb dX4_compare_16 rfl (lv_at hl 3 rfl) ?_
      refine fw_i C hD hS (rn_V (As := [.int x3]) (rest := []) C (c_X4_isMade D k t l x3 _) (cwV 1 hts gX4_compare_X4_isMade rfl rfl rfl hdX4_isMadeC ⟨Nat.le_of_ble_eq_true rfl, Nat.le_of_ble_eq_true rfl⟩) 0 4 rfl mw_o rfl hP hD hS rfl hl.1 rfl (Nat.le_of_ble_eq_true rfl) dX4_compare_17 ⟨Nat.zero_le _, Nat.zero_le _⟩) (fun r7 wr7 H locs h8 hP hD hS => ?_)
      obtain ⟨rfl, rfl⟩ := h8
      refine lv_if_eq (tgt := 31) hx hb dX4_compare_20 (by decide) (fun c9 => ?_) (fun c9 => ?_)
      · have c9 := pb_z c9
        refine lv_bipush (v := (-2)) hx hb dX4_compare_31 (by decide) ?_
        exact Ri C hP hD hS (Nat.zero_le _) (Nat.zero_le _) dX4_compare_33 (Or.inr ⟨fun _ _ h _ z => c9 ⟨h, z.2.2.2.2.2.1, z.2.2.2.2.2.2.1, z.2.2.2.2.2.2.2.1⟩, rfl, rfl⟩)
      · have c9 := pb_nz c9
        obtain ⟨h, hh, rfl, hmh⟩ := id c9
        refine lv_iload hx hb dX4_compare_23 (lv_at hl 4 rfl) ?_
        refine fw_i C hD hS (rn_S (As := [.int x4]) (rest := []) C (c_X4_isLaw D k t l x4 _) (va_cwS 1 hts gX4_compare_X4_isLaw rfl rfl rfl hdX4_isLaw ⟨Nat.le_of_ble_eq_true rfl, Nat.le_of_ble_eq_true rfl⟩) hP hD hS rfl hl.1 rfl (Nat.le_of_ble_eq_true rfl) dX4_compare_25 ⟨Nat.zero_le _, Nat.zero_le _⟩) (fun r10 wr10 H locs h11 hP hD hS => ?_)
        obtain ⟨rfl, rfl⟩ := h11
        refine lv_if_ne (tgt := 34) hx hb dX4_compare_28 (by decide) (fun c12 => ?_) (fun c12 => ?_)
        · have c12 := pb_nz c12
          obtain ⟨i, h0i, hi, rfl⟩ := id c12
          have hng := hW.pos hg hmg
          have hnh := hW.pos hh hmh
          refine lv_aload_n hx hb dX4_compare_34 rfl (lv_at hl 0 rfl) ?_
          refine fw_v C hD hS (rn_V (As := []) (rest := []) C (c_X4_clear D k t l _) (cwV 0 hts gX4_compare_X4_clear rfl rfl rfl hdX4_clearC ⟨Nat.le_of_ble_eq_true rfl, Nat.le_of_ble_eq_true rfl⟩) 0 4 rfl mw_o rfl hP hD hS rfl hl.1 rfl (Nat.le_of_ble_eq_true rfl) dX4_compare_35 ⟨Nat.zero_le _, Nat.zero_le _⟩) (fun wr13 H locs h14 hP hD hS => ?_)
          rw [zT_0] at h14
          obtain rfl := h14
          refine lv_aload_n hx hb dX4_compare_38 rfl (lv_at hl 0 rfl) ?_
          refine lv_iload_n hx hb dX4_compare_39 rfl (lv_at hl 1 rfl) ?_
          refine lv_iload_n hx hb dX4_compare_40 rfl (lv_at hl 2 rfl) ?_
          refine lv_aload_n hx hb dX4_compare_41 rfl (lv_at hl 0 rfl) ?_
          refine fg C hP 0 mw_o (ci := 4) rfl 2 (by decide) in_X4_compare_X4 lk_X4_compare_16 (v := .ref (bd 3)) rfl dX4_compare_42 ?_
          refine lv_iload_n hx hb dX4_compare_45 rfl (lv_at hl 3 rfl) ?_
          refine ar_i C hP 3 mw_sm (j := h) (by omega) (by decide) dX4_compare_46 ?_
          refine tp_i (y := zI (nn h : Int)) ((hW h hh).1) ?_
          refine fw_v C hD hS (rn_V (As := [.int (nI g), .int (nI j), .int (zI (nn h : Int))]) (rest := []) C (c_X4_lawIn D k t l (qs := qq j) (vt := vv g) (n := nn g) (tm := (nn h : Int)) hg hj (hW g hg).1 hng (hW g hg).2.1 (hW g hg).2.2.1 (hW g hg).2.2.2 (hLI j hj).1 (hLI j hj).2 (by have := (hW h hh).2.1; omega) _) (cwV 3 hts gX4_compare_X4_lawIn rfl rfl rfl hdX4_lawInC ⟨Nat.le_of_ble_eq_true rfl, Nat.le_of_ble_eq_true rfl⟩) 0 4 rfl mw_o rfl hP hD hS rfl hl.1 rfl (Nat.le_of_ble_eq_true rfl) dX4_compare_47 ⟨Nat.zero_le _, Nat.zero_le _⟩) (fun wr15 H locs h16 hP hD hS => ?_)
          obtain ⟨sh17, rfl⟩ := h16
          refine lv_aload_n hx hb dX4_compare_50 rfl (lv_at hl 0 rfl) ?_
          refine lv_iload_n hx hb dX4_compare_51 rfl (lv_at hl 3 rfl) ?_
          refine lv_iload hx hb dX4_compare_52 (lv_at hl 4 rfl) ?_
          refine lv_aload_n hx hb dX4_compare_54 rfl (lv_at hl 0 rfl) ?_
          refine fg C hP 0 mw_o (ci := 4) rfl 2 (by decide) in_X4_compare_X4 lk_X4_compare_16 (v := .ref (bd 3)) rfl dX4_compare_55 ?_
          refine lv_iload_n hx hb dX4_compare_58 rfl (lv_at hl 1 rfl) ?_
          refine ar_i C hP 3 mw_sm (j := g) (by omega) (by decide) dX4_compare_59 ?_
          refine tp_i (y := zI (nn g : Int)) ((hW g hg).1) ?_
          refine lv_ineg hx hb dX4_compare_60 ?_
          refine tp_i (y := zI (-(nn g : Int))) (zI_neg _) ?_
          refine fw_v C hD hS (rn_V (As := [.int (nI h), .int (nI i), .int (zI (-(nn g : Int)))]) (rest := []) C (c_X4_lawIn D k t l (qs := qq i) (vt := vv h) (n := nn h) (tm := (-(nn g : Int))) hh hi (hW h hh).1 hnh (hW h hh).2.1 (hW h hh).2.2.1 (hW h hh).2.2.2 (hLI i hi).1 (hLI i hi).2 (by have := (hW g hg).2.1; omega) _) (cwV 3 hts gX4_compare_X4_lawIn rfl rfl rfl hdX4_lawInC ⟨Nat.le_of_ble_eq_true rfl, Nat.le_of_ble_eq_true rfl⟩) 0 4 rfl mw_o rfl hP hD hS rfl hl.1 rfl (Nat.le_of_ble_eq_true rfl) dX4_compare_61 ⟨Nat.zero_le _, Nat.zero_le _⟩) (fun wr18 H locs h19 hP hD hS => ?_)
          obtain ⟨sh20, rfl⟩ := h19
          refine lv_aload_n hx hb dX4_compare_64 rfl (lv_at hl 0 rfl) ?_
          refine fw_i C hD hS (rn_V (As := []) (rest := []) C (c_X4_signOf D k t l (ee := (lxp (lxp z0 (vv g) (nn g) (qq j) (nn h : Int) 7) (vv h) (nn h) (qq i) (-(nn g : Int)) 7)) (hB g j h i hg hj hh hi hng hnh).zt (hB g j h i hg hj hh hi hng hnh).m0 (hB g j h i hg hj hh hi hng hnh).m1 _) (cwV 0 hts gX4_compare_X4_signOf rfl rfl rfl hdX4_signOfC ⟨Nat.le_of_ble_eq_true rfl, Nat.le_of_ble_eq_true rfl⟩) 0 4 rfl mw_o rfl hP hD hS rfl hl.1 rfl (Nat.le_of_ble_eq_true rfl) dX4_compare_65 ⟨Nat.zero_le _, Nat.zero_le _⟩) (fun r21 wr21 H locs h22 hP hD hS => ?_)
          obtain ⟨u23, w24, i25, rfl, rfl⟩ := h22
          exact Ri C hP hD hS (Nat.zero_le _) (Nat.zero_le _) dX4_compare_68 (Or.inl ⟨g, j, h, i, ⟨hg, rfl, hmg, hj, rfl, hh, rfl, hmh, hi, rfl⟩, rfl, _, _, _, _, _, rfl⟩)
        · have c12 := pb_z c12
          refine lv_bipush (v := (-2)) hx hb dX4_compare_31 (by decide) ?_
          exact Ri C hP hD hS (Nat.zero_le _) (Nat.zero_le _) dX4_compare_33 (Or.inr ⟨fun _ _ _ i z => c12 ⟨i, Nat.zero_le _, z.2.2.2.2.2.2.2.2.1, z.2.2.2.2.2.2.2.2.2⟩, rfl, rfl⟩)

def m_sec (a b : Int32) : Int32 := if a = 0 then nI 1 else if b = 0 then nI 0 else nI 2
set_option maxHeartbeats 4000000 in
set_option maxRecDepth 100000 in
theorem c_X4_secret (D : va_G) (k : Nat → ClassId) (t : Nat → Nat) (l : Launch) {bd : Nat → Nat} {st wt sm nu po sh up lo : Nat → Int32} {li : Int32} {ro so un to : Nat → Int64} {it : Int32} {nn : Nat → Nat} {vv : Nat → Nat → Nat} {qq : Nat → Nat → Int} (hW : WIm sm wt nn vv) (hBa : ∀ g z, g < 4 → (z = 2 ∨ z = 4 ∨ z = 6) → 1 ≤ nn g → BE (dxq (dxq z0 1 (vv g) (nn g) (z + 1)) (-1) (vv g) (nn g) z)) (hBb : ∀ g z, g < 4 → (z = 2 ∨ z = 4 ∨ z = 6) → 1 ≤ nn g → BE (dxq (dxq (dxq z0 1 (vv g) (nn g) 1) 1 (vv g) (nn g) z) (-1) (vv g) (nn g) (z + 1))) (x1 x2 : Int32) : Ci D k t l yX4_secret wsX4_secret ({ frames := 3, cells := 0, slots := 0, locals := 120 }) [.ref (bd 0), .int x1, .int x2] (MWw bd k st wt sm nu po sh up lo li ro so un to it) (fun r w => (∃ g z : Nat, (g < 4 ∧ x1 = nI g ∧ ¬ sm g ≤ 0 ∧ (z = 2 ∨ z = 4 ∨ z = 6) ∧ x2 = nI z) ∧ r = m_sec (f_cmp (upv (dxq (dxq z0 1 (vv g) (nn g) (z + 1)) (-1) (vv g) (nn g) z) 6) (upv (ng (dxq (dxq z0 1 (vv g) (nn g) (z + 1)) (-1) (vv g) (nn g) z)) 6)) (f_cmp (upv (dxq (dxq (dxq z0 1 (vv g) (nn g) 1) 1 (vv g) (nn g) z) (-1) (vv g) (nn g) (z + 1)) 6) (upv (ng (dxq (dxq (dxq z0 1 (vv g) (nn g) 1) 1 (vv g) (nn g) z) (-1) (vv g) (nn g) (z + 1))) 6)) ∧ ∃ (p2 s2 u2 l2 : Nat → Int32) (i2 : Int32), w = MWw bd k st wt sm nu p2 s2 u2 l2 i2 ro so un to it) ∨ ((∀ g z : Nat, ¬ (g < 4 ∧ x1 = nI g ∧ ¬ sm g ≤ 0 ∧ (z = 2 ∨ z = 4 ∨ z = 6) ∧ x2 = nI z)) ∧ r = -1 ∧ w = MWw bd k st wt sm nu po sh up lo li ro so un to it)) 0 0 := by
  refine fw_of (cc := cX4_secret) (maxL := 3) (ret := (some .int)) (Qc := fun A => va_Qi (fun r w => (∃ g z : Nat, (g < 4 ∧ x1 = nI g ∧ ¬ sm g ≤ 0 ∧ (z = 2 ∨ z = 4 ∨ z = 6) ∧ x2 = nI z) ∧ r = m_sec (f_cmp (upv (dxq (dxq z0 1 (vv g) (nn g) (z + 1)) (-1) (vv g) (nn g) z) 6) (upv (ng (dxq (dxq z0 1 (vv g) (nn g) (z + 1)) (-1) (vv g) (nn g) z)) 6)) (f_cmp (upv (dxq (dxq (dxq z0 1 (vv g) (nn g) 1) 1 (vv g) (nn g) z) (-1) (vv g) (nn g) (z + 1)) 6) (upv (ng (dxq (dxq (dxq z0 1 (vv g) (nn g) 1) 1 (vv g) (nn g) z) (-1) (vv g) (nn g) (z + 1))) 6)) ∧ ∃ (p2 s2 u2 l2 : Nat → Int32) (i2 : Int32), w = MWw bd k st wt sm nu p2 s2 u2 l2 i2 ro so un to it) ∨ ((∀ g z : Nat, ¬ (g < 4 ∧ x1 = nI g ∧ ¬ sm g ≤ 0 ∧ (z = 2 ∨ z = 4 ∨ z = 6) ∧ x2 = nI z)) ∧ r = -1 ∧ w = MWw bd k st wt sm nu po sh up lo li ro so un to it)) (BcW D A) A) (by decide) rfl (Nat.le_of_ble_eq_true rfl) ?_
  intro p e s m below meth c A ls C hP hD hl
  have C : Cx RX4 "secret" cX4_secret 3 (some .int) wsX4_secret D k t A p s m ([.ref (bd 0), .int x1, .int x2] : List Value).toArray meth c := C
  have hl : lv_has ls 3 [(0, .ref (bd 0)), (1, .int x1), (2, .int x2)] := hl
  have hx := C.1
  have hb := C.2.1
  have hown := C.2.2.2.2.1
  have hts := C.2.2.2.2.2.1
  have hK := C.2.2.2.2.2.2.2.2.1
  have hZ := C.2.2.2.2.2.2.2.2.2.1
  have hN := C.2.2.2.2.2.2.2.2.2.2
  have hS : va_S A s.heap s.heap [] := va_S.rf
  refine lv_aload_n hx hb dX4_secret_0 rfl (lv_at hl 0 rfl) ?_
  refine lv_iload_n hx hb dX4_secret_1 rfl (lv_at hl 1 rfl) ?_
  refine fw_i C hD hS (rn_V (As := [.int x1]) (rest := []) C (c_X4_isMade D k t l x1 _) (cwV 1 hts gX4_secret_X4_isMade rfl rfl rfl hdX4_isMadeC ⟨Nat.le_of_ble_eq_true rfl, Nat.le_of_ble_eq_true rfl⟩) 0 4 rfl mw_o rfl hP hD hS rfl hl.1 rfl (Nat.le_of_ble_eq_true rfl) dX4_secret_2 ⟨Nat.zero_le _, Nat.zero_le _⟩) (fun r1 wr1 H locs h2 hP hD hS => ?_)
  obtain ⟨rfl, rfl⟩ := h2
  refine lv_if_eq (tgt := 24) hx hb dX4_secret_5 (by decide) (fun c3 => ?_) (fun c3 => ?_)
  · have c3 := pb_z c3
    refine lv_iconst (v := (-1)) hx hb dX4_secret_24 (by decide) ?_
    exact Ri C hP hD hS (Nat.zero_le _) (Nat.zero_le _) dX4_secret_25 (Or.inr ⟨fun g _ z => c3 ⟨g, z.1, z.2.1, z.2.2.1⟩, rfl, rfl⟩)
  · have c3 := pb_nz c3
    obtain ⟨g, hg, rfl, hmg⟩ := id c3
    refine lv_iload_n hx hb dX4_secret_8 rfl (lv_at hl 2 rfl) ?_
    refine lv_iconst (v := nI 2) hx hb dX4_secret_9 (by decide) ?_
    refine lv_icmp_eq (tgt := 26) hx hb dX4_secret_10 (by decide) (fun c4 => ?_) (fun c4 => ?_)
    · obtain ⟨z, hz, rfl⟩ : ∃ z : Nat, (z = 2 ∨ z = 4 ∨ z = 6) ∧ x2 = nI z := ⟨2, by omega, c4⟩
      have hng := hW.pos hg hmg
      refine lv_aload_n hx hb dX4_secret_26 rfl (lv_at hl 0 rfl) ?_
      refine fw_v C hD hS (rn_V (As := []) (rest := []) C (c_X4_clear D k t l _) (cwV 0 hts gX4_secret_X4_clear rfl rfl rfl hdX4_clearC ⟨Nat.le_of_ble_eq_true rfl, Nat.le_of_ble_eq_true rfl⟩) 0 4 rfl mw_o rfl hP hD hS rfl hl.1 rfl (Nat.le_of_ble_eq_true rfl) dX4_secret_27 ⟨Nat.zero_le _, Nat.zero_le _⟩) (fun wr5 H locs h6 hP hD hS => ?_)
      rw [zT_0] at h6
      obtain rfl := h6
      refine lv_aload_n hx hb dX4_secret_30 rfl (lv_at hl 0 rfl) ?_
      refine lv_iload_n hx hb dX4_secret_31 rfl (lv_at hl 1 rfl) ?_
      refine lv_iload_n hx hb dX4_secret_32 rfl (lv_at hl 2 rfl) ?_
      refine lv_iconst (v := nI 1) hx hb dX4_secret_33 (by decide) ?_
      refine lv_iadd hx hb dX4_secret_34 ?_
      refine tp_i (y := nI (z + 1)) (nI_add _ _) ?_
      refine lv_iconst (v := nI 1) hx hb dX4_secret_35 (by decide) ?_
      refine tp_i (y := zI 1) (rfl) ?_
      refine fw_v C hD hS (rn_V (As := [.int (nI g), .int (nI (z + 1)), .int (zI 1)]) (rest := []) C (c_X4_doubt D k t l (z := (z + 1)) (tm := 1) (vt := vv g) (n := nn g) hg (by omega) (hW g hg).1 hng (hW g hg).2.1 (hW g hg).2.2.1 ((hW g hg).2.2.2 _) (by decide) _) (cwV 3 hts gX4_secret_X4_doubt rfl rfl rfl hdX4_doubtC ⟨Nat.le_of_ble_eq_true rfl, Nat.le_of_ble_eq_true rfl⟩) 0 4 rfl mw_o rfl hP hD hS rfl hl.1 rfl (Nat.le_of_ble_eq_true rfl) dX4_secret_36 ⟨Nat.zero_le _, Nat.zero_le _⟩) (fun wr7 H locs h8 hP hD hS => ?_)
      obtain ⟨sh9, rfl⟩ := h8
      refine lv_aload_n hx hb dX4_secret_39 rfl (lv_at hl 0 rfl) ?_
      refine lv_iload_n hx hb dX4_secret_40 rfl (lv_at hl 1 rfl) ?_
      refine lv_iload_n hx hb dX4_secret_41 rfl (lv_at hl 2 rfl) ?_
      refine lv_iconst (v := (-1)) hx hb dX4_secret_42 (by decide) ?_
      refine tp_i (y := zI (-1)) (rfl) ?_
      refine fw_v C hD hS (rn_V (As := [.int (nI g), .int (nI z), .int (zI (-1))]) (rest := []) C (c_X4_doubt D k t l (z := z) (tm := (-1)) (vt := vv g) (n := nn g) hg (by omega) (hW g hg).1 hng (hW g hg).2.1 (hW g hg).2.2.1 ((hW g hg).2.2.2 _) (by decide) _) (cwV 3 hts gX4_secret_X4_doubt rfl rfl rfl hdX4_doubtC ⟨Nat.le_of_ble_eq_true rfl, Nat.le_of_ble_eq_true rfl⟩) 0 4 rfl mw_o rfl hP hD hS rfl hl.1 rfl (Nat.le_of_ble_eq_true rfl) dX4_secret_43 ⟨Nat.zero_le _, Nat.zero_le _⟩) (fun wr10 H locs h11 hP hD hS => ?_)
      obtain ⟨sh12, rfl⟩ := h11
      refine lv_aload_n hx hb dX4_secret_46 rfl (lv_at hl 0 rfl) ?_
      refine fw_i C hD hS (rn_V (As := []) (rest := []) C (c_X4_signOf D k t l (ee := (dxq (dxq z0 1 (vv g) (nn g) (z + 1)) (-1) (vv g) (nn g) z)) (hBa g z hg hz hng).zt (hBa g z hg hz hng).m0 (hBa g z hg hz hng).m1 _) (cwV 0 hts gX4_secret_X4_signOf rfl rfl rfl hdX4_signOfC ⟨Nat.le_of_ble_eq_true rfl, Nat.le_of_ble_eq_true rfl⟩) 0 4 rfl mw_o rfl hP hD hS rfl hl.1 rfl (Nat.le_of_ble_eq_true rfl) dX4_secret_47 ⟨Nat.zero_le _, Nat.zero_le _⟩) (fun r13 wr13 H locs h14 hP hD hS => ?_)
      obtain ⟨u15, w16, i17, rfl, rfl⟩ := h14
      refine lv_if_ne (tgt := 55) hx hb dX4_secret_50 (by decide) (fun c18 => ?_) (fun c18 => ?_)
      · refine lv_aload_n hx hb dX4_secret_55 rfl (lv_at hl 0 rfl) ?_
        refine fw_v C hD hS (rn_V (As := []) (rest := []) C (c_X4_clear D k t l _) (cwV 0 hts gX4_secret_X4_clear rfl rfl rfl hdX4_clearC ⟨Nat.le_of_ble_eq_true rfl, Nat.le_of_ble_eq_true rfl⟩) 0 4 rfl mw_o rfl hP hD hS rfl hl.1 rfl (Nat.le_of_ble_eq_true rfl) dX4_secret_56 ⟨Nat.zero_le _, Nat.zero_le _⟩) (fun wr19 H locs h20 hP hD hS => ?_)
        rw [zT_0] at h20
        obtain rfl := h20
        refine lv_aload_n hx hb dX4_secret_59 rfl (lv_at hl 0 rfl) ?_
        refine lv_iload_n hx hb dX4_secret_60 rfl (lv_at hl 1 rfl) ?_
        refine lv_iconst (v := nI 1) hx hb dX4_secret_61 (by decide) ?_
        refine lv_iconst (v := nI 1) hx hb dX4_secret_62 (by decide) ?_
        refine tp_i (y := zI 1) (rfl) ?_
        refine fw_v C hD hS (rn_V (As := [.int (nI g), .int (nI 1), .int (zI 1)]) (rest := []) C (c_X4_doubt D k t l (z := 1) (tm := 1) (vt := vv g) (n := nn g) hg (by omega) (hW g hg).1 hng (hW g hg).2.1 (hW g hg).2.2.1 ((hW g hg).2.2.2 _) (by decide) _) (cwV 3 hts gX4_secret_X4_doubt rfl rfl rfl hdX4_doubtC ⟨Nat.le_of_ble_eq_true rfl, Nat.le_of_ble_eq_true rfl⟩) 0 4 rfl mw_o rfl hP hD hS rfl hl.1 rfl (Nat.le_of_ble_eq_true rfl) dX4_secret_63 ⟨Nat.zero_le _, Nat.zero_le _⟩) (fun wr21 H locs h22 hP hD hS => ?_)
        obtain ⟨sh23, rfl⟩ := h22
        refine lv_aload_n hx hb dX4_secret_66 rfl (lv_at hl 0 rfl) ?_
        refine lv_iload_n hx hb dX4_secret_67 rfl (lv_at hl 1 rfl) ?_
        refine lv_iload_n hx hb dX4_secret_68 rfl (lv_at hl 2 rfl) ?_
        refine lv_iconst (v := nI 1) hx hb dX4_secret_69 (by decide) ?_
        refine tp_i (y := zI 1) (rfl) ?_
        refine fw_v C hD hS (rn_V (As := [.int (nI g), .int (nI z), .int (zI 1)]) (rest := []) C (c_X4_doubt D k t l (z := z) (tm := 1) (vt := vv g) (n := nn g) hg (by omega) (hW g hg).1 hng (hW g hg).2.1 (hW g hg).2.2.1 ((hW g hg).2.2.2 _) (by decide) _) (cwV 3 hts gX4_secret_X4_doubt rfl rfl rfl hdX4_doubtC ⟨Nat.le_of_ble_eq_true rfl, Nat.le_of_ble_eq_true rfl⟩) 0 4 rfl mw_o rfl hP hD hS rfl hl.1 rfl (Nat.le_of_ble_eq_true rfl) dX4_secret_70 ⟨Nat.zero_le _, Nat.zero_le _⟩) (fun wr24 H locs h25 hP hD hS => ?_)
        obtain ⟨sh26, rfl⟩ := h25
        refine lv_aload_n hx hb dX4_secret_73 rfl (lv_at hl 0 rfl) ?_
        refine lv_iload_n hx hb dX4_secret_74 rfl (lv_at hl 1 rfl) ?_
        refine lv_iload_n hx hb dX4_secret_75 rfl (lv_at hl 2 rfl) ?_
        refine lv_iconst (v := nI 1) hx hb dX4_secret_76 (by decide) ?_
        refine lv_iadd hx hb dX4_secret_77 ?_
        refine tp_i (y := nI (z + 1)) (nI_add _ _) ?_
        refine lv_iconst (v := (-1)) hx hb dX4_secret_78 (by decide) ?_
        refine tp_i (y := zI (-1)) (rfl) ?_
        refine fw_v C hD hS (rn_V (As := [.int (nI g), .int (nI (z + 1)), .int (zI (-1))]) (rest := []) C (c_X4_doubt D k t l (z := (z + 1)) (tm := (-1)) (vt := vv g) (n := nn g) hg (by omega) (hW g hg).1 hng (hW g hg).2.1 (hW g hg).2.2.1 ((hW g hg).2.2.2 _) (by decide) _) (cwV 3 hts gX4_secret_X4_doubt rfl rfl rfl hdX4_doubtC ⟨Nat.le_of_ble_eq_true rfl, Nat.le_of_ble_eq_true rfl⟩) 0 4 rfl mw_o rfl hP hD hS rfl hl.1 rfl (Nat.le_of_ble_eq_true rfl) dX4_secret_79 ⟨Nat.zero_le _, Nat.zero_le _⟩) (fun wr27 H locs h28 hP hD hS => ?_)
        obtain ⟨sh29, rfl⟩ := h28
        refine lv_aload_n hx hb dX4_secret_82 rfl (lv_at hl 0 rfl) ?_
        refine fw_i C hD hS (rn_V (As := []) (rest := []) C (c_X4_signOf D k t l (ee := (dxq (dxq (dxq z0 1 (vv g) (nn g) 1) 1 (vv g) (nn g) z) (-1) (vv g) (nn g) (z + 1))) (hBb g z hg hz hng).zt (hBb g z hg hz hng).m0 (hBb g z hg hz hng).m1 _) (cwV 0 hts gX4_secret_X4_signOf rfl rfl rfl hdX4_signOfC ⟨Nat.le_of_ble_eq_true rfl, Nat.le_of_ble_eq_true rfl⟩) 0 4 rfl mw_o rfl hP hD hS rfl hl.1 rfl (Nat.le_of_ble_eq_true rfl) dX4_secret_83 ⟨Nat.zero_le _, Nat.zero_le _⟩) (fun r30 wr30 H locs h31 hP hD hS => ?_)
        obtain ⟨u32, w33, i34, rfl, rfl⟩ := h31
        refine lv_if_ne (tgt := 93) hx hb dX4_secret_86 (by decide) (fun c35 => ?_) (fun c35 => ?_)
        · refine lv_iconst (v := nI 2) hx hb dX4_secret_93 (by decide) ?_
          exact Ri C hP hD hS (Nat.zero_le _) (Nat.zero_le _) dX4_secret_94 (Or.inl ⟨g, z, ⟨hg, rfl, hmg, hz, rfl⟩, by rw [m_sec, if_neg c18, if_neg c35], _, _, _, _, _, rfl⟩)
        · refine lv_iconst (v := nI 0) hx hb dX4_secret_89 (by decide) ?_
          refine lv_goto (tgt := 94) hx hb dX4_secret_90 (by decide) ?_
          exact Ri C hP hD hS (Nat.zero_le _) (Nat.zero_le _) dX4_secret_94 (Or.inl ⟨g, z, ⟨hg, rfl, hmg, hz, rfl⟩, by rw [m_sec, if_neg c18, if_pos c35], _, _, _, _, _, rfl⟩)
      · refine lv_iconst (v := nI 1) hx hb dX4_secret_53 (by decide) ?_
        exact Ri C hP hD hS (Nat.zero_le _) (Nat.zero_le _) dX4_secret_54 (Or.inl ⟨g, z, ⟨hg, rfl, hmg, hz, rfl⟩, by rw [m_sec, if_pos c18], _, _, _, _, _, rfl⟩)
    · refine lv_iload_n hx hb dX4_secret_13 rfl (lv_at hl 2 rfl) ?_
      refine lv_iconst (v := nI 4) hx hb dX4_secret_14 (by decide) ?_
      refine lv_icmp_eq (tgt := 26) hx hb dX4_secret_15 (by decide) (fun c36 => ?_) (fun c36 => ?_)
      · obtain ⟨z, hz, rfl⟩ : ∃ z : Nat, (z = 2 ∨ z = 4 ∨ z = 6) ∧ x2 = nI z := ⟨4, by omega, c36⟩
        have hng := hW.pos hg hmg
        refine lv_aload_n hx hb dX4_secret_26 rfl (lv_at hl 0 rfl) ?_
        refine fw_v C hD hS (rn_V (As := []) (rest := []) C (c_X4_clear D k t l _) (cwV 0 hts gX4_secret_X4_clear rfl rfl rfl hdX4_clearC ⟨Nat.le_of_ble_eq_true rfl, Nat.le_of_ble_eq_true rfl⟩) 0 4 rfl mw_o rfl hP hD hS rfl hl.1 rfl (Nat.le_of_ble_eq_true rfl) dX4_secret_27 ⟨Nat.zero_le _, Nat.zero_le _⟩) (fun wr37 H locs h38 hP hD hS => ?_)
        rw [zT_0] at h38
        obtain rfl := h38
        refine lv_aload_n hx hb dX4_secret_30 rfl (lv_at hl 0 rfl) ?_
        refine lv_iload_n hx hb dX4_secret_31 rfl (lv_at hl 1 rfl) ?_
        refine lv_iload_n hx hb dX4_secret_32 rfl (lv_at hl 2 rfl) ?_
        refine lv_iconst (v := nI 1) hx hb dX4_secret_33 (by decide) ?_
        refine lv_iadd hx hb dX4_secret_34 ?_
        refine tp_i (y := nI (z + 1)) (nI_add _ _) ?_
        refine lv_iconst (v := nI 1) hx hb dX4_secret_35 (by decide) ?_
        refine tp_i (y := zI 1) (rfl) ?_
        refine fw_v C hD hS (rn_V (As := [.int (nI g), .int (nI (z + 1)), .int (zI 1)]) (rest := []) C (c_X4_doubt D k t l (z := (z + 1)) (tm := 1) (vt := vv g) (n := nn g) hg (by omega) (hW g hg).1 hng (hW g hg).2.1 (hW g hg).2.2.1 ((hW g hg).2.2.2 _) (by decide) _) (cwV 3 hts gX4_secret_X4_doubt rfl rfl rfl hdX4_doubtC ⟨Nat.le_of_ble_eq_true rfl, Nat.le_of_ble_eq_true rfl⟩) 0 4 rfl mw_o rfl hP hD hS rfl hl.1 rfl (Nat.le_of_ble_eq_true rfl) dX4_secret_36 ⟨Nat.zero_le _, Nat.zero_le _⟩) (fun wr39 H locs h40 hP hD hS => ?_)
        obtain ⟨sh41, rfl⟩ := h40
        refine lv_aload_n hx hb dX4_secret_39 rfl (lv_at hl 0 rfl) ?_
        refine lv_iload_n hx hb dX4_secret_40 rfl (lv_at hl 1 rfl) ?_
        refine lv_iload_n hx hb dX4_secret_41 rfl (lv_at hl 2 rfl) ?_
        refine lv_iconst (v := (-1)) hx hb dX4_secret_42 (by decide) ?_
        refine tp_i (y := zI (-1)) (rfl) ?_
        refine fw_v C hD hS (rn_V (As := [.int (nI g), .int (nI z), .int (zI (-1))]) (rest := []) C (c_X4_doubt D k t l (z := z) (tm := (-1)) (vt := vv g) (n := nn g) hg (by omega) (hW g hg).1 hng (hW g hg).2.1 (hW g hg).2.2.1 ((hW g hg).2.2.2 _) (by decide) _) (cwV 3 hts gX4_secret_X4_doubt rfl rfl rfl hdX4_doubtC ⟨Nat.le_of_ble_eq_true rfl, Nat.le_of_ble_eq_true rfl⟩) 0 4 rfl mw_o rfl hP hD hS rfl hl.1 rfl (Nat.le_of_ble_eq_true rfl) dX4_secret_43 ⟨Nat.zero_le _, Nat.zero_le _⟩) (fun wr42 H locs h43 hP hD hS => ?_)
        obtain ⟨sh44, rfl⟩ := h43
        refine lv_aload_n hx hb dX4_secret_46 rfl (lv_at hl 0 rfl) ?_
        refine fw_i C hD hS (rn_V (As := []) (rest := []) C (c_X4_signOf D k t l (ee := (dxq (dxq z0 1 (vv g) (nn g) (z + 1)) (-1) (vv g) (nn g) z)) (hBa g z hg hz hng).zt (hBa g z hg hz hng).m0 (hBa g z hg hz hng).m1 _) (cwV 0 hts gX4_secret_X4_signOf rfl rfl rfl hdX4_signOfC ⟨Nat.le_of_ble_eq_true rfl, Nat.le_of_ble_eq_true rfl⟩) 0 4 rfl mw_o rfl hP hD hS rfl hl.1 rfl (Nat.le_of_ble_eq_true rfl) dX4_secret_47 ⟨Nat.zero_le _, Nat.zero_le _⟩) (fun r45 wr45 H locs h46 hP hD hS => ?_)
        obtain ⟨u47, w48, i49, rfl, rfl⟩ := h46
        refine lv_if_ne (tgt := 55) hx hb dX4_secret_50 (by decide) (fun c50 => ?_) (fun c50 => ?_)
        · refine lv_aload_n hx hb dX4_secret_55 rfl (lv_at hl 0 rfl) ?_
          refine fw_v C hD hS (rn_V (As := []) (rest := []) C (c_X4_clear D k t l _) (cwV 0 hts gX4_secret_X4_clear rfl rfl rfl hdX4_clearC ⟨Nat.le_of_ble_eq_true rfl, Nat.le_of_ble_eq_true rfl⟩) 0 4 rfl mw_o rfl hP hD hS rfl hl.1 rfl (Nat.le_of_ble_eq_true rfl) dX4_secret_56 ⟨Nat.zero_le _, Nat.zero_le _⟩) (fun wr51 H locs h52 hP hD hS => ?_)
          rw [zT_0] at h52
          obtain rfl := h52
          refine lv_aload_n hx hb dX4_secret_59 rfl (lv_at hl 0 rfl) ?_
          refine lv_iload_n hx hb dX4_secret_60 rfl (lv_at hl 1 rfl) ?_
          refine lv_iconst (v := nI 1) hx hb dX4_secret_61 (by decide) ?_
          refine lv_iconst (v := nI 1) hx hb dX4_secret_62 (by decide) ?_
          refine tp_i (y := zI 1) (rfl) ?_
          refine fw_v C hD hS (rn_V (As := [.int (nI g), .int (nI 1), .int (zI 1)]) (rest := []) C (c_X4_doubt D k t l (z := 1) (tm := 1) (vt := vv g) (n := nn g) hg (by omega) (hW g hg).1 hng (hW g hg).2.1 (hW g hg).2.2.1 ((hW g hg).2.2.2 _) (by decide) _) (cwV 3 hts gX4_secret_X4_doubt rfl rfl rfl hdX4_doubtC ⟨Nat.le_of_ble_eq_true rfl, Nat.le_of_ble_eq_true rfl⟩) 0 4 rfl mw_o rfl hP hD hS rfl hl.1 rfl (Nat.le_of_ble_eq_true rfl) dX4_secret_63 ⟨Nat.zero_le _, Nat.zero_le _⟩) (fun wr53 H locs h54 hP hD hS => ?_)
          obtain ⟨sh55, rfl⟩ := h54
          refine lv_aload_n hx hb dX4_secret_66 rfl (lv_at hl 0 rfl) ?_
          refine lv_iload_n hx hb dX4_secret_67 rfl (lv_at hl 1 rfl) ?_
          refine lv_iload_n hx hb dX4_secret_68 rfl (lv_at hl 2 rfl) ?_
          refine lv_iconst (v := nI 1) hx hb dX4_secret_69 (by decide) ?_
          refine tp_i (y := zI 1) (rfl) ?_
          refine fw_v C hD hS (rn_V (As := [.int (nI g), .int (nI z), .int (zI 1)]) (rest := []) C (c_X4_doubt D k t l (z := z) (tm := 1) (vt := vv g) (n := nn g) hg (by omega) (hW g hg).1 hng (hW g hg).2.1 (hW g hg).2.2.1 ((hW g hg).2.2.2 _) (by decide) _) (cwV 3 hts gX4_secret_X4_doubt rfl rfl rfl hdX4_doubtC ⟨Nat.le_of_ble_eq_true rfl, Nat.le_of_ble_eq_true rfl⟩) 0 4 rfl mw_o rfl hP hD hS rfl hl.1 rfl (Nat.le_of_ble_eq_true rfl) dX4_secret_70 ⟨Nat.zero_le _, Nat.zero_le _⟩) (fun wr56 H locs h57 hP hD hS => ?_)
          obtain ⟨sh58, rfl⟩ := h57
          refine lv_aload_n hx hb dX4_secret_73 rfl (lv_at hl 0 rfl) ?_
          refine lv_iload_n hx hb dX4_secret_74 rfl (lv_at hl 1 rfl) ?_
          refine lv_iload_n hx hb dX4_secret_75 rfl (lv_at hl 2 rfl) ?_
          refine lv_iconst (v := nI 1) hx hb dX4_secret_76 (by decide) ?_
          refine lv_iadd hx hb dX4_secret_77 ?_
          refine tp_i (y := nI (z + 1)) (nI_add _ _) ?_
          refine lv_iconst (v := (-1)) hx hb dX4_secret_78 (by decide) ?_
          refine tp_i (y := zI (-1)) (rfl) ?_
          refine fw_v C hD hS (rn_V (As := [.int (nI g), .int (nI (z + 1)), .int (zI (-1))]) (rest := []) C (c_X4_doubt D k t l (z := (z + 1)) (tm := (-1)) (vt := vv g) (n := nn g) hg (by omega) (hW g hg).1 hng (hW g hg).2.1 (hW g hg).2.2.1 ((hW g hg).2.2.2 _) (by decide) _) (cwV 3 hts gX4_secret_X4_doubt rfl rfl rfl hdX4_doubtC ⟨Nat.le_of_ble_eq_true rfl, Nat.le_of_ble_eq_true rfl⟩) 0 4 rfl mw_o rfl hP hD hS rfl hl.1 rfl (Nat.le_of_ble_eq_true rfl) dX4_secret_79 ⟨Nat.zero_le _, Nat.zero_le _⟩) (fun wr59 H locs h60 hP hD hS => ?_)
          obtain ⟨sh61, rfl⟩ := h60
          refine lv_aload_n hx hb dX4_secret_82 rfl (lv_at hl 0 rfl) ?_
          refine fw_i C hD hS (rn_V (As := []) (rest := []) C (c_X4_signOf D k t l (ee := (dxq (dxq (dxq z0 1 (vv g) (nn g) 1) 1 (vv g) (nn g) z) (-1) (vv g) (nn g) (z + 1))) (hBb g z hg hz hng).zt (hBb g z hg hz hng).m0 (hBb g z hg hz hng).m1 _) (cwV 0 hts gX4_secret_X4_signOf rfl rfl rfl hdX4_signOfC ⟨Nat.le_of_ble_eq_true rfl, Nat.le_of_ble_eq_true rfl⟩) 0 4 rfl mw_o rfl hP hD hS rfl hl.1 rfl (Nat.le_of_ble_eq_true rfl) dX4_secret_83 ⟨Nat.zero_le _, Nat.zero_le _⟩) (fun r62 wr62 H locs h63 hP hD hS => ?_)
          obtain ⟨u64, w65, i66, rfl, rfl⟩ := h63
          refine lv_if_ne (tgt := 93) hx hb dX4_secret_86 (by decide) (fun c67 => ?_) (fun c67 => ?_)
          · refine lv_iconst (v := nI 2) hx hb dX4_secret_93 (by decide) ?_
            exact Ri C hP hD hS (Nat.zero_le _) (Nat.zero_le _) dX4_secret_94 (Or.inl ⟨g, z, ⟨hg, rfl, hmg, hz, rfl⟩, by rw [m_sec, if_neg c50, if_neg c67], _, _, _, _, _, rfl⟩)
          · refine lv_iconst (v := nI 0) hx hb dX4_secret_89 (by decide) ?_
            refine lv_goto (tgt := 94) hx hb dX4_secret_90 (by decide) ?_
            exact Ri C hP hD hS (Nat.zero_le _) (Nat.zero_le _) dX4_secret_94 (Or.inl ⟨g, z, ⟨hg, rfl, hmg, hz, rfl⟩, by rw [m_sec, if_neg c50, if_pos c67], _, _, _, _, _, rfl⟩)
        · refine lv_iconst (v := nI 1) hx hb dX4_secret_53 (by decide) ?_
          exact Ri C hP hD hS (Nat.zero_le _) (Nat.zero_le _) dX4_secret_54 (Or.inl ⟨g, z, ⟨hg, rfl, hmg, hz, rfl⟩, by rw [m_sec, if_pos c50], _, _, _, _, _, rfl⟩)
      · refine lv_iload_n hx hb dX4_secret_18 rfl (lv_at hl 2 rfl) ?_
        refine lv_bipush (v := nI 6) hx hb dX4_secret_19 (by decide) ?_
        refine lv_icmp_eq (tgt := 26) hx hb dX4_secret_21 (by decide) (fun c68 => ?_) (fun c68 => ?_)
        · obtain ⟨z, hz, rfl⟩ : ∃ z : Nat, (z = 2 ∨ z = 4 ∨ z = 6) ∧ x2 = nI z := ⟨6, by omega, c68⟩
          have hng := hW.pos hg hmg
          refine lv_aload_n hx hb dX4_secret_26 rfl (lv_at hl 0 rfl) ?_
          refine fw_v C hD hS (rn_V (As := []) (rest := []) C (c_X4_clear D k t l _) (cwV 0 hts gX4_secret_X4_clear rfl rfl rfl hdX4_clearC ⟨Nat.le_of_ble_eq_true rfl, Nat.le_of_ble_eq_true rfl⟩) 0 4 rfl mw_o rfl hP hD hS rfl hl.1 rfl (Nat.le_of_ble_eq_true rfl) dX4_secret_27 ⟨Nat.zero_le _, Nat.zero_le _⟩) (fun wr69 H locs h70 hP hD hS => ?_)
          rw [zT_0] at h70
          obtain rfl := h70
          refine lv_aload_n hx hb dX4_secret_30 rfl (lv_at hl 0 rfl) ?_
          refine lv_iload_n hx hb dX4_secret_31 rfl (lv_at hl 1 rfl) ?_
          refine lv_iload_n hx hb dX4_secret_32 rfl (lv_at hl 2 rfl) ?_
          refine lv_iconst (v := nI 1) hx hb dX4_secret_33 (by decide) ?_
          refine lv_iadd hx hb dX4_secret_34 ?_
          refine tp_i (y := nI (z + 1)) (nI_add _ _) ?_
          refine lv_iconst (v := nI 1) hx hb dX4_secret_35 (by decide) ?_
          refine tp_i (y := zI 1) (rfl) ?_
          refine fw_v C hD hS (rn_V (As := [.int (nI g), .int (nI (z + 1)), .int (zI 1)]) (rest := []) C (c_X4_doubt D k t l (z := (z + 1)) (tm := 1) (vt := vv g) (n := nn g) hg (by omega) (hW g hg).1 hng (hW g hg).2.1 (hW g hg).2.2.1 ((hW g hg).2.2.2 _) (by decide) _) (cwV 3 hts gX4_secret_X4_doubt rfl rfl rfl hdX4_doubtC ⟨Nat.le_of_ble_eq_true rfl, Nat.le_of_ble_eq_true rfl⟩) 0 4 rfl mw_o rfl hP hD hS rfl hl.1 rfl (Nat.le_of_ble_eq_true rfl) dX4_secret_36 ⟨Nat.zero_le _, Nat.zero_le _⟩) (fun wr71 H locs h72 hP hD hS => ?_)
          obtain ⟨sh73, rfl⟩ := h72
          refine lv_aload_n hx hb dX4_secret_39 rfl (lv_at hl 0 rfl) ?_
          refine lv_iload_n hx hb dX4_secret_40 rfl (lv_at hl 1 rfl) ?_
          refine lv_iload_n hx hb dX4_secret_41 rfl (lv_at hl 2 rfl) ?_
          refine lv_iconst (v := (-1)) hx hb dX4_secret_42 (by decide) ?_
          refine tp_i (y := zI (-1)) (rfl) ?_
          refine fw_v C hD hS (rn_V (As := [.int (nI g), .int (nI z), .int (zI (-1))]) (rest := []) C (c_X4_doubt D k t l (z := z) (tm := (-1)) (vt := vv g) (n := nn g) hg (by omega) (hW g hg).1 hng (hW g hg).2.1 (hW g hg).2.2.1 ((hW g hg).2.2.2 _) (by decide) _) (cwV 3 hts gX4_secret_X4_doubt rfl rfl rfl hdX4_doubtC ⟨Nat.le_of_ble_eq_true rfl, Nat.le_of_ble_eq_true rfl⟩) 0 4 rfl mw_o rfl hP hD hS rfl hl.1 rfl (Nat.le_of_ble_eq_true rfl) dX4_secret_43 ⟨Nat.zero_le _, Nat.zero_le _⟩) (fun wr74 H locs h75 hP hD hS => ?_)
          obtain ⟨sh76, rfl⟩ := h75
          refine lv_aload_n hx hb dX4_secret_46 rfl (lv_at hl 0 rfl) ?_
          refine fw_i C hD hS (rn_V (As := []) (rest := []) C (c_X4_signOf D k t l (ee := (dxq (dxq z0 1 (vv g) (nn g) (z + 1)) (-1) (vv g) (nn g) z)) (hBa g z hg hz hng).zt (hBa g z hg hz hng).m0 (hBa g z hg hz hng).m1 _) (cwV 0 hts gX4_secret_X4_signOf rfl rfl rfl hdX4_signOfC ⟨Nat.le_of_ble_eq_true rfl, Nat.le_of_ble_eq_true rfl⟩) 0 4 rfl mw_o rfl hP hD hS rfl hl.1 rfl (Nat.le_of_ble_eq_true rfl) dX4_secret_47 ⟨Nat.zero_le _, Nat.zero_le _⟩) (fun r77 wr77 H locs h78 hP hD hS => ?_)
          obtain ⟨u79, w80, i81, rfl, rfl⟩ := h78
          refine lv_if_ne (tgt := 55) hx hb dX4_secret_50 (by decide) (fun c82 => ?_) (fun c82 => ?_)
          · refine lv_aload_n hx hb dX4_secret_55 rfl (lv_at hl 0 rfl) ?_
            refine fw_v C hD hS (rn_V (As := []) (rest := []) C (c_X4_clear D k t l _) (cwV 0 hts gX4_secret_X4_clear rfl rfl rfl hdX4_clearC ⟨Nat.le_of_ble_eq_true rfl, Nat.le_of_ble_eq_true rfl⟩) 0 4 rfl mw_o rfl hP hD hS rfl hl.1 rfl (Nat.le_of_ble_eq_true rfl) dX4_secret_56 ⟨Nat.zero_le _, Nat.zero_le _⟩) (fun wr83 H locs h84 hP hD hS => ?_)
            rw [zT_0] at h84
            obtain rfl := h84
            refine lv_aload_n hx hb dX4_secret_59 rfl (lv_at hl 0 rfl) ?_
            refine lv_iload_n hx hb dX4_secret_60 rfl (lv_at hl 1 rfl) ?_
            refine lv_iconst (v := nI 1) hx hb dX4_secret_61 (by decide) ?_
            refine lv_iconst (v := nI 1) hx hb dX4_secret_62 (by decide) ?_
            refine tp_i (y := zI 1) (rfl) ?_
            refine fw_v C hD hS (rn_V (As := [.int (nI g), .int (nI 1), .int (zI 1)]) (rest := []) C (c_X4_doubt D k t l (z := 1) (tm := 1) (vt := vv g) (n := nn g) hg (by omega) (hW g hg).1 hng (hW g hg).2.1 (hW g hg).2.2.1 ((hW g hg).2.2.2 _) (by decide) _) (cwV 3 hts gX4_secret_X4_doubt rfl rfl rfl hdX4_doubtC ⟨Nat.le_of_ble_eq_true rfl, Nat.le_of_ble_eq_true rfl⟩) 0 4 rfl mw_o rfl hP hD hS rfl hl.1 rfl (Nat.le_of_ble_eq_true rfl) dX4_secret_63 ⟨Nat.zero_le _, Nat.zero_le _⟩) (fun wr85 H locs h86 hP hD hS => ?_)
            obtain ⟨sh87, rfl⟩ := h86
            refine lv_aload_n hx hb dX4_secret_66 rfl (lv_at hl 0 rfl) ?_
            refine lv_iload_n hx hb dX4_secret_67 rfl (lv_at hl 1 rfl) ?_
            refine lv_iload_n hx hb dX4_secret_68 rfl (lv_at hl 2 rfl) ?_
            refine lv_iconst (v := nI 1) hx hb dX4_secret_69 (by decide) ?_
            refine tp_i (y := zI 1) (rfl) ?_
            refine fw_v C hD hS (rn_V (As := [.int (nI g), .int (nI z), .int (zI 1)]) (rest := []) C (c_X4_doubt D k t l (z := z) (tm := 1) (vt := vv g) (n := nn g) hg (by omega) (hW g hg).1 hng (hW g hg).2.1 (hW g hg).2.2.1 ((hW g hg).2.2.2 _) (by decide) _) (cwV 3 hts gX4_secret_X4_doubt rfl rfl rfl hdX4_doubtC ⟨Nat.le_of_ble_eq_true rfl, Nat.le_of_ble_eq_true rfl⟩) 0 4 rfl mw_o rfl hP hD hS rfl hl.1 rfl (Nat.le_of_ble_eq_true rfl) dX4_secret_70 ⟨Nat.zero_le _, Nat.zero_le _⟩) (fun wr88 H locs h89 hP hD hS => ?_)
            obtain ⟨sh90, rfl⟩ := h89
            refine lv_aload_n hx hb dX4_secret_73 rfl (lv_at hl 0 rfl) ?_
            refine lv_iload_n hx hb dX4_secret_74 rfl (lv_at hl 1 rfl) ?_
            refine lv_iload_n hx hb dX4_secret_75 rfl (lv_at hl 2 rfl) ?_
            refine lv_iconst (v := nI 1) hx hb dX4_secret_76 (by decide) ?_
            refine lv_iadd hx hb dX4_secret_77 ?_
            refine tp_i (y := nI (z + 1)) (nI_add _ _) ?_
            refine lv_iconst (v := (-1)) hx hb dX4_secret_78 (by decide) ?_
            refine tp_i (y := zI (-1)) (rfl) ?_
            refine fw_v C hD hS (rn_V (As := [.int (nI g), .int (nI (z + 1)), .int (zI (-1))]) (rest := []) C (c_X4_doubt D k t l (z := (z + 1)) (tm := (-1)) (vt := vv g) (n := nn g) hg (by omega) (hW g hg).1 hng (hW g hg).2.1 (hW g hg).2.2.1 ((hW g hg).2.2.2 _) (by decide) _) (cwV 3 hts gX4_secret_X4_doubt rfl rfl rfl hdX4_doubtC ⟨Nat.le_of_ble_eq_true rfl, Nat.le_of_ble_eq_true rfl⟩) 0 4 rfl mw_o rfl hP hD hS rfl hl.1 rfl (Nat.le_of_ble_eq_true rfl) dX4_secret_79 ⟨Nat.zero_le _, Nat.zero_le _⟩) (fun wr91 H locs h92 hP hD hS => ?_)
            obtain ⟨sh93, rfl⟩ := h92
            refine lv_aload_n hx hb dX4_secret_82 rfl (lv_at hl 0 rfl) ?_
            refine fw_i C hD hS (rn_V (As := []) (rest := []) C (c_X4_signOf D k t l (ee := (dxq (dxq (dxq z0 1 (vv g) (nn g) 1) 1 (vv g) (nn g) z) (-1) (vv g) (nn g) (z + 1))) (hBb g z hg hz hng).zt (hBb g z hg hz hng).m0 (hBb g z hg hz hng).m1 _) (cwV 0 hts gX4_secret_X4_signOf rfl rfl rfl hdX4_signOfC ⟨Nat.le_of_ble_eq_true rfl, Nat.le_of_ble_eq_true rfl⟩) 0 4 rfl mw_o rfl hP hD hS rfl hl.1 rfl (Nat.le_of_ble_eq_true rfl) dX4_secret_83 ⟨Nat.zero_le _, Nat.zero_le _⟩) (fun r94 wr94 H locs h95 hP hD hS => ?_)
            obtain ⟨u96, w97, i98, rfl, rfl⟩ := h95
            refine lv_if_ne (tgt := 93) hx hb dX4_secret_86 (by decide) (fun c99 => ?_) (fun c99 => ?_)
            · refine lv_iconst (v := nI 2) hx hb dX4_secret_93 (by decide) ?_
              exact Ri C hP hD hS (Nat.zero_le _) (Nat.zero_le _) dX4_secret_94 (Or.inl ⟨g, z, ⟨hg, rfl, hmg, hz, rfl⟩, by rw [m_sec, if_neg c82, if_neg c99], _, _, _, _, _, rfl⟩)
            · refine lv_iconst (v := nI 0) hx hb dX4_secret_89 (by decide) ?_
              refine lv_goto (tgt := 94) hx hb dX4_secret_90 (by decide) ?_
              exact Ri C hP hD hS (Nat.zero_le _) (Nat.zero_le _) dX4_secret_94 (Or.inl ⟨g, z, ⟨hg, rfl, hmg, hz, rfl⟩, by rw [m_sec, if_neg c82, if_pos c99], _, _, _, _, _, rfl⟩)
          · refine lv_iconst (v := nI 1) hx hb dX4_secret_53 (by decide) ?_
            exact Ri C hP hD hS (Nat.zero_le _) (Nat.zero_le _) dX4_secret_54 (Or.inl ⟨g, z, ⟨hg, rfl, hmg, hz, rfl⟩, by rw [m_sec, if_pos c82], _, _, _, _, _, rfl⟩)
        · refine lv_iconst (v := (-1)) hx hb dX4_secret_24 (by decide) ?_
          exact Ri C hP hD hS (Nat.zero_le _) (Nat.zero_le _) dX4_secret_25 (Or.inr ⟨sec_no c4 c36 c68, rfl, rfl⟩)

