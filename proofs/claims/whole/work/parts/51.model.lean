set_option maxRecDepth 20000 in
theorem in_X4_law_X4 : ∀ w ∈ u_ws RX4 TX4 15, w ∈ wsX4_law := by decide +kernel
set_option maxRecDepth 20000 in
theorem lk_X4_law_19 : Cond.fieldLink RX4 19 (TX4 3).1 (TX4 3).2.1 (TX4 3).2.2.1 ∈ wsX4_law := by decide +kernel
set_option maxHeartbeats 4000000 in
set_option maxRecDepth 100000 in
theorem c_X4_law (D : va_G) (k : Nat → ClassId) (t : Nat → Nat) (l : Launch) {bd : Nat → Nat} {st wt sm nu po sh up lo : Nat → Int32} {li : Int32} {ro so un to : Nat → Int64} {it : Int32} (x1 x2 x3 : Int32) : Ci D k t l yX4_law wsX4_law ({ frames := 2, cells := 0, slots := 0, locals := 60 }) [.ref (bd 0), .int x1, .int x2, .int x3] (MWw bd k st wt sm nu po sh up lo li ro so un to it) (fun r w => (∃ j z : Nat, (j < 10 ∧ x1 = nI j ∧ 1 ≤ z ∧ z < 8 ∧ x2 = nI z ∧ ¬ x3 < (-2) ∧ ¬ nI 2 < x3) ∧ r = nI 1 ∧ w = MWw bd k st wt sm (upd nu (8 * j + z) x3) po sh up lo li ro so un to it) ∨ ((∀ j z : Nat, ¬ (j < 10 ∧ x1 = nI j ∧ 1 ≤ z ∧ z < 8 ∧ x2 = nI z ∧ ¬ x3 < (-2) ∧ ¬ nI 2 < x3)) ∧ r = nI 0 ∧ w = MWw bd k st wt sm nu po sh up lo li ro so un to it)) 0 0 := by
  refine fw_of (cc := cX4_law) (maxL := 4) (ret := (some .boolean)) (Qc := fun A => va_Qi (fun r w => (∃ j z : Nat, (j < 10 ∧ x1 = nI j ∧ 1 ≤ z ∧ z < 8 ∧ x2 = nI z ∧ ¬ x3 < (-2) ∧ ¬ nI 2 < x3) ∧ r = nI 1 ∧ w = MWw bd k st wt sm (upd nu (8 * j + z) x3) po sh up lo li ro so un to it) ∨ ((∀ j z : Nat, ¬ (j < 10 ∧ x1 = nI j ∧ 1 ≤ z ∧ z < 8 ∧ x2 = nI z ∧ ¬ x3 < (-2) ∧ ¬ nI 2 < x3)) ∧ r = nI 0 ∧ w = MWw bd k st wt sm nu po sh up lo li ro so un to it)) (BcW D A) A) (by decide) rfl (Nat.le_of_ble_eq_true rfl) ?_
  intro p e s m below meth c A ls C hP hD hl
  have C : Cx RX4 "law" cX4_law 4 (some .boolean) wsX4_law D k t A p s m ([.ref (bd 0), .int x1, .int x2, .int x3] : List Value).toArray meth c := C
  have hl : lv_has ls 4 [(0, .ref (bd 0)), (1, .int x1), (2, .int x2), (3, .int x3)] := hl
  have hx := C.1
  have hb := C.2.1
  have hown := C.2.2.2.2.1
  have hts := C.2.2.2.2.2.1
  have hK := C.2.2.2.2.2.2.2.2.1
  have hZ := C.2.2.2.2.2.2.2.2.2.1
  have hN := C.2.2.2.2.2.2.2.2.2.2
  have hS : va_S A s.heap s.heap [] := va_S.rf
  refine lv_iload_n hx hb dX4_law_0 rfl (lv_at hl 1 rfl) ?_
  refine fw_i C hD hS (rn_S (As := [.int x1]) (rest := []) C (c_X4_isLaw D k t l x1 _) (va_cwS 1 hts gX4_law_X4_isLaw rfl rfl rfl hdX4_isLaw ⟨Nat.le_of_ble_eq_true rfl, Nat.le_of_ble_eq_true rfl⟩) hP hD hS rfl hl.1 rfl (Nat.le_of_ble_eq_true rfl) dX4_law_1 ⟨Nat.zero_le _, Nat.zero_le _⟩) (fun r1 wr1 H locs h2 hP hD hS => ?_)
  obtain ⟨rfl, rfl⟩ := h2
  refine lv_if_eq (tgt := 27) hx hb dX4_law_4 (by decide) (fun c3 => ?_) (fun c3 => ?_)
  · have c3 := pb_z c3
    refine lv_iconst (v := nI 0) hx hb dX4_law_27 (by decide) ?_
    exact Rz C hP hD hS (Nat.zero_le _) (Nat.zero_le _) rfl dX4_law_28 (Or.inr ⟨fun j _ q => c3 ⟨j, Nat.zero_le _, q.1, q.2.1⟩, rfl, rfl⟩)
  · have c3 := pb_nz c3
    obtain ⟨j, h0j, hj, rfl⟩ := id c3
    refine lv_iload_n hx hb dX4_law_7 rfl (lv_at hl 2 rfl) ?_
    refine lv_iconst (v := nI 1) hx hb dX4_law_8 (by decide) ?_
    refine lv_bipush (v := nI 7) hx hb dX4_law_9 (by decide) ?_
    refine fw_i C hD hS (rn_S (As := [.int x2, .int (nI 1), .int (nI 7)]) (rest := []) C (c_isInR D k t l (lo := 1) (hi := 7) x2 (by decide) (by decide) _) (va_cwS 3 hts gX4_law_X4_isIn rfl rfl rfl hdX4_isIn ⟨Nat.le_of_ble_eq_true rfl, Nat.le_of_ble_eq_true rfl⟩) hP hD hS rfl hl.1 rfl (Nat.le_of_ble_eq_true rfl) dX4_law_11 ⟨Nat.zero_le _, Nat.zero_le _⟩) (fun r4 wr4 H locs h5 hP hD hS => ?_)
    obtain ⟨rfl, rfl⟩ := h5
    refine lv_if_eq (tgt := 27) hx hb dX4_law_14 (by decide) (fun c6 => ?_) (fun c6 => ?_)
    · have c6 := pb_z c6
      refine lv_iconst (v := nI 0) hx hb dX4_law_27 (by decide) ?_
      exact Rz C hP hD hS (Nat.zero_le _) (Nat.zero_le _) rfl dX4_law_28 (Or.inr ⟨fun _ z q => c6 ⟨z, q.2.2.1, q.2.2.2.1, q.2.2.2.2.1⟩, rfl, rfl⟩)
    · have c6 := pb_nz c6
      obtain ⟨z, h0z, hz, rfl⟩ := id c6
      refine lv_iload_n hx hb dX4_law_17 rfl (lv_at hl 3 rfl) ?_
      refine lv_bipush (v := (-2)) hx hb dX4_law_18 (by decide) ?_
      refine lv_iconst (v := nI 2) hx hb dX4_law_20 (by decide) ?_
      refine fw_i C hD hS (rn_S (As := [.int x3, .int (-2), .int (nI 2)]) (rest := []) C (c_X4_isIn D k t l x3 (-2) (nI 2) _) (va_cwS 3 hts gX4_law_X4_isIn rfl rfl rfl hdX4_isIn ⟨Nat.le_of_ble_eq_true rfl, Nat.le_of_ble_eq_true rfl⟩) hP hD hS rfl hl.1 rfl (Nat.le_of_ble_eq_true rfl) dX4_law_21 ⟨Nat.zero_le _, Nat.zero_le _⟩) (fun r7 wr7 H locs h8 hP hD hS => ?_)
      obtain ⟨rfl, rfl⟩ := h8
      refine lv_if_ne (tgt := 29) hx hb dX4_law_24 (by decide) (fun c9 => ?_) (fun c9 => ?_)
      · have c9 := pb_nz c9
        refine lv_aload_n hx hb dX4_law_29 rfl (lv_at hl 0 rfl) ?_
        refine fg C hP 0 mw_o (ci := 4) rfl 3 (by decide) in_X4_law_X4 lk_X4_law_19 (v := .ref (bd 4)) rfl dX4_law_30 ?_
        refine lv_bipush (v := nI 8) hx hb dX4_law_33 (by decide) ?_
        refine lv_iload_n hx hb dX4_law_35 rfl (lv_at hl 1 rfl) ?_
        refine lv_imul hx hb dX4_law_36 ?_
        refine tp_i (y := nI (8 * j)) (pk_mul _ _) ?_
        refine lv_iload_n hx hb dX4_law_37 rfl (lv_at hl 2 rfl) ?_
        refine lv_iadd hx hb dX4_law_38 ?_
        refine tp_i (y := nI ((8 * j) + z)) (nI_add _ _) ?_
        refine lv_iload_n hx hb dX4_law_39 rfl (lv_at hl 3 rfl) ?_
        refine as_i C hP hD hS 4 mw_nu (j := ((8 * j) + z)) (by omega) (by decide) (mw_nu_st _) dX4_law_40 (fun H locs hP hD hS => ?_)
        refine lv_iconst (v := nI 1) hx hb dX4_law_41 (by decide) ?_
        exact Rz C hP hD hS (Nat.zero_le _) (Nat.zero_le _) rfl dX4_law_42 (Or.inl ⟨j, z, ⟨hj, rfl, h0z, hz, rfl, c9.1, c9.2⟩, rfl, rfl⟩)
      · have c9 := pb_z c9
        refine lv_iconst (v := nI 0) hx hb dX4_law_27 (by decide) ?_
        exact Rz C hP hD hS (Nat.zero_le _) (Nat.zero_le _) rfl dX4_law_28 (Or.inr ⟨fun _ _ q => c9 ⟨q.2.2.2.2.2.1, q.2.2.2.2.2.2⟩, rfl, rfl⟩)

set_option maxRecDepth 20000 in
theorem in_X4_number_X4 : ∀ w ∈ u_ws RX4 TX4 15, w ∈ wsX4_number := by decide +kernel
set_option maxRecDepth 20000 in
theorem lk_X4_number_19 : Cond.fieldLink RX4 19 (TX4 3).1 (TX4 3).2.1 (TX4 3).2.2.1 ∈ wsX4_number := by decide +kernel
set_option maxHeartbeats 4000000 in
set_option maxRecDepth 100000 in
theorem c_X4_number (D : va_G) (k : Nat → ClassId) (t : Nat → Nat) (l : Launch) {bd : Nat → Nat} {st wt sm nu po sh up lo : Nat → Int32} {li : Int32} {ro so un to : Nat → Int64} {it : Int32} (x1 x2 : Int32) : Ci D k t l yX4_number wsX4_number ({ frames := 2, cells := 0, slots := 0, locals := 60 }) [.ref (bd 0), .int x1, .int x2] (MWw bd k st wt sm nu po sh up lo li ro so un to it) (fun r w => (∃ j z : Nat, (j < 10 ∧ x1 = nI j ∧ 1 ≤ z ∧ z < 8 ∧ x2 = nI z) ∧ r = nu (8 * j + z) ∧ w = MWw bd k st wt sm nu po sh up lo li ro so un to it) ∨ ((∀ j z : Nat, ¬ (j < 10 ∧ x1 = nI j ∧ 1 ≤ z ∧ z < 8 ∧ x2 = nI z)) ∧ r = (-11) ∧ w = MWw bd k st wt sm nu po sh up lo li ro so un to it)) 0 0 := by
  refine fw_of (cc := cX4_number) (maxL := 3) (ret := (some .int)) (Qc := fun A => va_Qi (fun r w => (∃ j z : Nat, (j < 10 ∧ x1 = nI j ∧ 1 ≤ z ∧ z < 8 ∧ x2 = nI z) ∧ r = nu (8 * j + z) ∧ w = MWw bd k st wt sm nu po sh up lo li ro so un to it) ∨ ((∀ j z : Nat, ¬ (j < 10 ∧ x1 = nI j ∧ 1 ≤ z ∧ z < 8 ∧ x2 = nI z)) ∧ r = (-11) ∧ w = MWw bd k st wt sm nu po sh up lo li ro so un to it)) (BcW D A) A) (by decide) rfl (Nat.le_of_ble_eq_true rfl) ?_
  intro p e s m below meth c A ls C hP hD hl
  have C : Cx RX4 "number" cX4_number 3 (some .int) wsX4_number D k t A p s m ([.ref (bd 0), .int x1, .int x2] : List Value).toArray meth c := C
  have hl : lv_has ls 3 [(0, .ref (bd 0)), (1, .int x1), (2, .int x2)] := hl
  have hx := C.1
  have hb := C.2.1
  have hown := C.2.2.2.2.1
  have hts := C.2.2.2.2.2.1
  have hK := C.2.2.2.2.2.2.2.2.1
  have hZ := C.2.2.2.2.2.2.2.2.2.1
  have hN := C.2.2.2.2.2.2.2.2.2.2
  have hS : va_S A s.heap s.heap [] := va_S.rf
  refine lv_iload_n hx hb dX4_number_0 rfl (lv_at hl 1 rfl) ?_
  refine fw_i C hD hS (rn_S (As := [.int x1]) (rest := []) C (c_X4_isLaw D k t l x1 _) (va_cwS 1 hts gX4_number_X4_isLaw rfl rfl rfl hdX4_isLaw ⟨Nat.le_of_ble_eq_true rfl, Nat.le_of_ble_eq_true rfl⟩) hP hD hS rfl hl.1 rfl (Nat.le_of_ble_eq_true rfl) dX4_number_1 ⟨Nat.zero_le _, Nat.zero_le _⟩) (fun r1 wr1 H locs h2 hP hD hS => ?_)
  obtain ⟨rfl, rfl⟩ := h2
  refine lv_if_eq (tgt := 31) hx hb dX4_number_4 (by decide) (fun c3 => ?_) (fun c3 => ?_)
  · have c3 := pb_z c3
    refine lv_bipush (v := (-11)) hx hb dX4_number_31 (by decide) ?_
    exact Ri C hP hD hS (Nat.zero_le _) (Nat.zero_le _) dX4_number_33 (Or.inr ⟨fun j _ q => c3 ⟨j, Nat.zero_le _, q.1, q.2.1⟩, rfl, rfl⟩)
  · have c3 := pb_nz c3
    obtain ⟨j, h0j, hj, rfl⟩ := id c3
    refine lv_iload_n hx hb dX4_number_7 rfl (lv_at hl 2 rfl) ?_
    refine lv_iconst (v := nI 1) hx hb dX4_number_8 (by decide) ?_
    refine lv_bipush (v := nI 7) hx hb dX4_number_9 (by decide) ?_
    refine fw_i C hD hS (rn_S (As := [.int x2, .int (nI 1), .int (nI 7)]) (rest := []) C (c_isInR D k t l (lo := 1) (hi := 7) x2 (by decide) (by decide) _) (va_cwS 3 hts gX4_number_X4_isIn rfl rfl rfl hdX4_isIn ⟨Nat.le_of_ble_eq_true rfl, Nat.le_of_ble_eq_true rfl⟩) hP hD hS rfl hl.1 rfl (Nat.le_of_ble_eq_true rfl) dX4_number_11 ⟨Nat.zero_le _, Nat.zero_le _⟩) (fun r4 wr4 H locs h5 hP hD hS => ?_)
    obtain ⟨rfl, rfl⟩ := h5
    refine lv_if_eq (tgt := 31) hx hb dX4_number_14 (by decide) (fun c6 => ?_) (fun c6 => ?_)
    · have c6 := pb_z c6
      refine lv_bipush (v := (-11)) hx hb dX4_number_31 (by decide) ?_
      exact Ri C hP hD hS (Nat.zero_le _) (Nat.zero_le _) dX4_number_33 (Or.inr ⟨fun _ z q => c6 ⟨z, q.2.2.1, q.2.2.2.1, q.2.2.2.2⟩, rfl, rfl⟩)
    · have c6 := pb_nz c6
      obtain ⟨z, h0z, hz, rfl⟩ := id c6
      refine lv_aload_n hx hb dX4_number_17 rfl (lv_at hl 0 rfl) ?_
      refine fg C hP 0 mw_o (ci := 4) rfl 3 (by decide) in_X4_number_X4 lk_X4_number_19 (v := .ref (bd 4)) rfl dX4_number_18 ?_
      refine lv_bipush (v := nI 8) hx hb dX4_number_21 (by decide) ?_
      refine lv_iload_n hx hb dX4_number_23 rfl (lv_at hl 1 rfl) ?_
      refine lv_imul hx hb dX4_number_24 ?_
      refine tp_i (y := nI (8 * j)) (pk_mul _ _) ?_
      refine lv_iload_n hx hb dX4_number_25 rfl (lv_at hl 2 rfl) ?_
      refine lv_iadd hx hb dX4_number_26 ?_
      refine tp_i (y := nI ((8 * j) + z)) (nI_add _ _) ?_
      refine ar_i C hP 4 mw_nu (j := ((8 * j) + z)) (by omega) (by decide) dX4_number_27 ?_
      refine lv_goto (tgt := 33) hx hb dX4_number_28 (by decide) ?_
      exact Ri C hP hD hS (Nat.zero_le _) (Nat.zero_le _) dX4_number_33 (Or.inl ⟨j, z, ⟨hj, rfl, h0z, hz, rfl⟩, rfl, rfl⟩)

set_option maxRecDepth 20000 in
theorem in_X4_clear_X4 : ∀ w ∈ u_ws RX4 TX4 15, w ∈ wsX4_clear := by decide +kernel
set_option maxRecDepth 20000 in
theorem lk_X4_clear_25 : Cond.fieldLink RX4 25 (TX4 5).1 (TX4 5).2.1 (TX4 5).2.2.1 ∈ wsX4_clear := by decide +kernel
set_option maxHeartbeats 4000000 in
set_option maxRecDepth 100000 in
theorem c_X4_clear (D : va_G) (k : Nat → ClassId) (t : Nat → Nat) (l : Launch) {bd : Nat → Nat} {st wt sm nu po sh up lo : Nat → Int32} {li : Int32} {ro so un to : Nat → Int64} {it : Int32} : Cv D k t l yX4_clear wsX4_clear ({ frames := 0, cells := 0, slots := 0, locals := 0 }) [.ref (bd 0)] (MWw bd k st wt sm nu po sh up lo li ro so un to it) (fun w => w = MWw bd k st wt sm nu (fun _ => nI 0) sh up lo li ro so un to it) 0 0 := by
  refine fw_of (cc := cX4_clear) (maxL := 2) (ret := none) (Qc := fun A => va_Qv (fun w => w = MWw bd k st wt sm nu (fun _ => nI 0) sh up lo li ro so un to it) (BcW D A) A) (by decide) rfl (Nat.le_of_ble_eq_true rfl) ?_
  intro p e s m below meth c A ls C hP hD hl
  have C : Cx RX4 "clear" cX4_clear 2 none wsX4_clear D k t A p s m ([.ref (bd 0)] : List Value).toArray meth c := C
  have hl : lv_has ls 2 [(0, .ref (bd 0))] := hl
  have hx := C.1
  have hb := C.2.1
  have hown := C.2.2.2.2.1
  have hts := C.2.2.2.2.2.1
  have hK := C.2.2.2.2.2.2.2.2.1
  have hZ := C.2.2.2.2.2.2.2.2.2.1
  have hN := C.2.2.2.2.2.2.2.2.2.2
  have hS : va_S A s.heap s.heap [] := va_S.rf
  refine lv_iconst (v := nI 0) hx hb dX4_clear_0 (by decide) ?_
  refine lv_istore_n (lv' := [(1, .int (nI 0)), (0, .ref (bd 0))]) hx hb dX4_clear_1 rfl hl (by decide) rfl (fun ls hl => ?_)
  have L1 : ∀ (r i : Nat), i + r = 6 → ∀ (H : Heap) (locs : List Loc) (ls : Array Slot), va_P D vwCl (MWw bd k st wt sm nu (fl po (nI 0) i) sh up lo li ro so un to it) H → va_D A (MWw bd k st wt sm nu (fl po (nI 0) i) sh up lo li ro so un to it) → va_S A s.heap H locs → lv_has ls 2 [(0, .ref (bd 0)), (1, .int (nI i))] → W p l e ({ frames := 0, cells := 0, slots := 0, locals := 0 }) s m ([.ref (bd 0)] : List Value).toArray below meth c H locs 0 0 (MQ below (va_Qv (fun w => w = MWw bd k st wt sm nu (fun _ => nI 0) sh up lo li ro so un to it) (BcW D A) A) ([.ref (bd 0)] : List Value).toArray s 0 0 A) (F0 m 2 ls []) := by
    intro r
    induction r with
    | zero =>
      intro i hr H locs ls hP hD hS hl
      obtain rfl : 6 = i := by omega
      refine lv_iload_n hx hb dX4_clear_2 rfl (lv_at hl 1 rfl) ?_
      refine lv_bipush (v := nI 6) hx hb dX4_clear_3 (by decide) ?_
      refine lv_icmp_ge (tgt := 21) hx hb dX4_clear_5 (by decide) (fun c2 => ?_) (fun c2 => absurd (nI_le (by omega) (by decide)) c2)
      obtain ⟨hP, hD⟩ := cg_i hP hD mw_po (g := fun _ => nI 0) (fun j hj => if_pos hj) (mw_po_st _)
      exact Rv C hP hD hS (Nat.zero_le _) (Nat.zero_le _) dX4_clear_21 rfl
    | succ r ihL1 =>
      intro i hr H locs ls hP hD hS hl
      refine lv_iload_n hx hb dX4_clear_2 rfl (lv_at hl 1 rfl) ?_
      refine lv_bipush (v := nI 6) hx hb dX4_clear_3 (by decide) ?_
      refine lv_icmp_ge (tgt := 21) hx hb dX4_clear_5 (by decide) (fun c3 => absurd c3 (nI_ge (by omega) (by decide))) (fun c3 => ?_)
      refine lv_aload_n hx hb dX4_clear_8 rfl (lv_at hl 0 rfl) ?_
      refine fg C hP 0 mw_o (ci := 4) rfl 5 (by decide) in_X4_clear_X4 lk_X4_clear_25 (v := .ref (bd 6)) rfl dX4_clear_9 ?_
      refine lv_iload_n hx hb dX4_clear_12 rfl (lv_at hl 1 rfl) ?_
      refine lv_iconst (v := nI 0) hx hb dX4_clear_13 (by decide) ?_
      refine as_i C hP hD hS 6 mw_po (j := i) (by omega) (by decide) (mw_po_st _) dX4_clear_14 (fun H locs hP hD hS => ?_)
      refine lv_iinc (v := nI (i + 1)) (lv' := [(1, .int (nI (i + 1))), (0, .ref (bd 0))]) hx hb dX4_clear_15 hl (k := 1) rfl (by rw [← nI_add i 1]; rfl) (by decide) rfl (fun ls hl => ?_)
      refine lv_goto (tgt := 2) hx hb dX4_clear_18 (by decide) ?_
      rw [fl_s] at hP hD
      exact ihL1 (i + 1) (by omega) _ _ _ hP hD hS (lv_sub hl [1, 0] rfl)
  rw [← fl_0 po (nI 0)] at hP hD
  exact L1 (6 - 0) 0 (by omega) _ _ _ hP hD hS (lv_sub hl [1, 0] rfl)

theorem sr1 : ∀ {z : Nat}, z < 8 → nI z >>> (nI 1 &&& 31) = nI (z / 2) := by
  have h : ∀ z, z < 8 → nI z >>> (nI 1 &&& 31) = nI (z / 2) := by decide +kernel
  exact fun {z} hz => h z hz
theorem sr2 : ∀ {z : Nat}, z < 8 → nI z >>> (nI 2 &&& 31) = nI (z / 4) := by
  have h : ∀ z, z < 8 → nI z >>> (nI 2 &&& 31) = nI (z / 4) := by decide +kernel
  exact fun {z} hz => h z hz
theorem gi_m : ∀ {z i : Nat}, z < 8 → i < 27 → z % 2 * (i % 3) + z / 2 % 2 * 3 * (i / 3 % 3) + z / 4 * 9 * (i / 9) = gi z i := by
  have h : ∀ z, z < 8 → ∀ i, i < 27 → z % 2 * (i % 3) + z / 2 % 2 * 3 * (i / 3 % 3) + z / 4 * 9 * (i / 9) = gi z i := by decide +kernel
  exact fun {z i} hz hi => h z hz i hi
set_option maxRecDepth 20000 in
theorem in_X4_settings_X4 : ∀ w ∈ u_ws RX4 TX4 15, w ∈ wsX4_settings := by decide +kernel
set_option maxRecDepth 20000 in
theorem lk_X4_settings_28 : Cond.fieldLink RX4 28 (TX4 6).1 (TX4 6).2.1 (TX4 6).2.2.1 ∈ wsX4_settings := by decide +kernel
set_option maxRecDepth 20000 in
theorem lk_X4_settings_13 : Cond.fieldLink RX4 13 (TX4 1).1 (TX4 1).2.1 (TX4 1).2.2.1 ∈ wsX4_settings := by decide +kernel
set_option maxHeartbeats 4000000 in
set_option maxRecDepth 100000 in
theorem c_X4_settings (D : va_G) (k : Nat → ClassId) (t : Nat → Nat) (l : Launch) {bd : Nat → Nat} {st wt sm nu po sh up lo : Nat → Int32} {li : Int32} {ro so un to : Nat → Int64} {it : Int32} {g z : Nat} (hg : g < 4) (hz : z < 8) : Cv D k t l yX4_settings wsX4_settings ({ frames := 0, cells := 0, slots := 0, locals := 0 }) [.ref (bd 0), .int (nI g), .int (nI z)] (MWw bd k st wt sm nu po sh up lo li ro so un to it) (fun w => w = MWw bd k st wt sm nu po (gs (fun j => wt (27 * g + j)) z 27) up lo li ro so un to it) 0 0 := by
  refine fw_of (cc := cX4_settings) (maxL := 4) (ret := none) (Qc := fun A => va_Qv (fun w => w = MWw bd k st wt sm nu po (gs (fun j => wt (27 * g + j)) z 27) up lo li ro so un to it) (BcW D A) A) (by decide) rfl (Nat.le_of_ble_eq_true rfl) ?_
  intro p e s m below meth c A ls C hP hD hl
  have C : Cx RX4 "settings" cX4_settings 4 none wsX4_settings D k t A p s m ([.ref (bd 0), .int (nI g), .int (nI z)] : List Value).toArray meth c := C
  have hl : lv_has ls 4 [(0, .ref (bd 0)), (1, .int (nI g)), (2, .int (nI z))] := hl
  have hx := C.1
  have hb := C.2.1
  have hown := C.2.2.2.2.1
  have hts := C.2.2.2.2.2.1
  have hK := C.2.2.2.2.2.2.2.2.1
  have hZ := C.2.2.2.2.2.2.2.2.2.1
  have hN := C.2.2.2.2.2.2.2.2.2.2
  have hS : va_S A s.heap s.heap [] := va_S.rf
  refine lv_iconst (v := nI 0) hx hb dX4_settings_0 (by decide) ?_
  refine lv_istore_n (lv' := [(3, .int (nI 0)), (0, .ref (bd 0)), (1, .int (nI g)), (2, .int (nI z))]) hx hb dX4_settings_1 rfl hl (by decide) rfl (fun ls hl => ?_)
  have L1 : ∀ (r i : Nat), i + r = 27 → ∀ (H : Heap) (locs : List Loc) (ls : Array Slot), va_P D vwCl (MWw bd k st wt sm nu po (fl sh (nI 0) i) up lo li ro so un to it) H → va_D A (MWw bd k st wt sm nu po (fl sh (nI 0) i) up lo li ro so un to it) → va_S A s.heap H locs → lv_has ls 4 [(0, .ref (bd 0)), (1, .int (nI g)), (2, .int (nI z)), (3, .int (nI i))] → W p l e ({ frames := 0, cells := 0, slots := 0, locals := 0 }) s m ([.ref (bd 0), .int (nI g), .int (nI z)] : List Value).toArray below meth c H locs 0 0 (MQ below (va_Qv (fun w => w = MWw bd k st wt sm nu po (gs (fun j => wt (27 * g + j)) z 27) up lo li ro so un to it) (BcW D A) A) ([.ref (bd 0), .int (nI g), .int (nI z)] : List Value).toArray s 0 0 A) (F0 m 2 ls []) := by
    intro r
    induction r with
    | zero =>
      intro i hr H locs ls hP hD hS hl
      obtain rfl : 27 = i := by omega
      refine lv_iload_n hx hb dX4_settings_2 rfl (lv_at hl 3 rfl) ?_
      refine lv_bipush (v := nI 27) hx hb dX4_settings_3 (by decide) ?_
      refine lv_icmp_ge (tgt := 21) hx hb dX4_settings_5 (by decide) (fun c2 => ?_) (fun c2 => absurd (nI_le (by omega) (by decide)) c2)
      obtain ⟨hP, hD⟩ := cg_i hP hD mw_sh (g := fun _ => nI 0) (fun j hj => if_pos hj) (mw_sh_st _)
      refine lv_iconst (v := nI 0) hx hb dX4_settings_21 (by decide) ?_
      refine lv_istore_n (lv' := [(3, .int (nI 0)), (0, .ref (bd 0)), (1, .int (nI g)), (2, .int (nI z))]) hx hb dX4_settings_22 rfl hl (by decide) rfl (fun ls hl => ?_)
      have L3 : ∀ (r i : Nat), i + r = 27 → ∀ (H : Heap) (locs : List Loc) (ls : Array Slot), va_P D vwCl (MWw bd k st wt sm nu po (gs (fun j => wt (27 * g + j)) z i) up lo li ro so un to it) H → va_D A (MWw bd k st wt sm nu po (gs (fun j => wt (27 * g + j)) z i) up lo li ro so un to it) → va_S A s.heap H locs → lv_has ls 4 [(0, .ref (bd 0)), (1, .int (nI g)), (2, .int (nI z)), (3, .int (nI i))] → W p l e ({ frames := 0, cells := 0, slots := 0, locals := 0 }) s m ([.ref (bd 0), .int (nI g), .int (nI z)] : List Value).toArray below meth c H locs 0 0 (MQ below (va_Qv (fun w => w = MWw bd k st wt sm nu po (gs (fun j => wt (27 * g + j)) z 27) up lo li ro so un to it) (BcW D A) A) ([.ref (bd 0), .int (nI g), .int (nI z)] : List Value).toArray s 0 0 A) (F0 m 23 ls []) := by
        intro r
        induction r with
        | zero =>
          intro i hr H locs ls hP hD hS hl
          obtain rfl : 27 = i := by omega
          refine lv_iload_n hx hb dX4_settings_23 rfl (lv_at hl 3 rfl) ?_
          refine lv_bipush (v := nI 27) hx hb dX4_settings_24 (by decide) ?_
          refine lv_icmp_ge (tgt := 87) hx hb dX4_settings_26 (by decide) (fun c4 => ?_) (fun c4 => absurd (nI_le (by omega) (by decide)) c4)
          exact Rv C hP hD hS (Nat.zero_le _) (Nat.zero_le _) dX4_settings_87 rfl
        | succ r ihL3 =>
          intro i hr H locs ls hP hD hS hl
          refine lv_iload_n hx hb dX4_settings_23 rfl (lv_at hl 3 rfl) ?_
          refine lv_bipush (v := nI 27) hx hb dX4_settings_24 (by decide) ?_
          refine lv_icmp_ge (tgt := 87) hx hb dX4_settings_26 (by decide) (fun c5 => absurd c5 (nI_ge (by omega) (by decide))) (fun c5 => ?_)
          refine lv_aload_n hx hb dX4_settings_29 rfl (lv_at hl 0 rfl) ?_
          refine fg C hP 0 mw_o (ci := 4) rfl 6 (by decide) in_X4_settings_X4 lk_X4_settings_28 (v := .ref (bd 7)) rfl dX4_settings_30 ?_
          refine lv_iload_n hx hb dX4_settings_33 rfl (lv_at hl 2 rfl) ?_
          refine lv_iconst (v := nI 1) hx hb dX4_settings_34 (by decide) ?_
          refine lv_iand hx hb dX4_settings_35 ?_
          refine tp_i (y := nI (z % 2)) (an1 hz) ?_
          refine lv_iload_n hx hb dX4_settings_36 rfl (lv_at hl 3 rfl) ?_
          refine lv_iconst (v := nI 3) hx hb dX4_settings_37 (by decide) ?_
          refine lv_irem hx hb dX4_settings_38 (by decide) ?_
          refine tp_i (y := nI (i % 3)) (pk_rem (by omega) (by omega) (by omega)) ?_
          refine lv_imul hx hb dX4_settings_39 ?_
          refine tp_i (y := nI ((z % 2) * (i % 3))) (pk_mul _ _) ?_
          refine lv_iload_n hx hb dX4_settings_40 rfl (lv_at hl 2 rfl) ?_
          refine lv_iconst (v := nI 1) hx hb dX4_settings_41 (by decide) ?_
          refine lv_ishr hx hb dX4_settings_42 ?_
          refine tp_i (y := nI (z / 2)) (sr1 hz) ?_
          refine lv_iconst (v := nI 1) hx hb dX4_settings_43 (by decide) ?_
          refine lv_iand hx hb dX4_settings_44 ?_
          refine tp_i (y := nI (z / 2 % 2)) (an1' (by omega)) ?_
          refine lv_iconst (v := nI 3) hx hb dX4_settings_45 (by decide) ?_
          refine lv_imul hx hb dX4_settings_46 ?_
          refine tp_i (y := nI ((z / 2 % 2) * 3)) (pk_mul _ _) ?_
          refine lv_iload_n hx hb dX4_settings_47 rfl (lv_at hl 3 rfl) ?_
          refine lv_iconst (v := nI 3) hx hb dX4_settings_48 (by decide) ?_
          refine lv_idiv hx hb dX4_settings_49 (by decide) ?_
          refine tp_i (y := nI (i / 3)) (pk_div (by omega) (by omega) (by omega)) ?_
          refine lv_iconst (v := nI 3) hx hb dX4_settings_50 (by decide) ?_
          refine lv_irem hx hb dX4_settings_51 (by decide) ?_
          refine tp_i (y := nI ((i / 3) % 3)) (pk_rem (by omega) (by omega) (by omega)) ?_
          refine lv_imul hx hb dX4_settings_52 ?_
          refine tp_i (y := nI (((z / 2 % 2) * 3) * ((i / 3) % 3))) (pk_mul _ _) ?_
          refine lv_iadd hx hb dX4_settings_53 ?_
          refine tp_i (y := nI (((z % 2) * (i % 3)) + (((z / 2 % 2) * 3) * ((i / 3) % 3)))) (nI_add _ _) ?_
          refine lv_iload_n hx hb dX4_settings_54 rfl (lv_at hl 2 rfl) ?_
          refine lv_iconst (v := nI 2) hx hb dX4_settings_55 (by decide) ?_
          refine lv_ishr hx hb dX4_settings_56 ?_
          refine tp_i (y := nI (z / 4)) (sr2 hz) ?_
          refine lv_bipush (v := nI 9) hx hb dX4_settings_57 (by decide) ?_
          refine lv_imul hx hb dX4_settings_59 ?_
          refine tp_i (y := nI ((z / 4) * 9)) (pk_mul _ _) ?_
          refine lv_iload_n hx hb dX4_settings_60 rfl (lv_at hl 3 rfl) ?_
          refine lv_bipush (v := nI 9) hx hb dX4_settings_61 (by decide) ?_
          refine lv_idiv hx hb dX4_settings_63 (by decide) ?_
          refine tp_i (y := nI (i / 9)) (pk_div (by omega) (by omega) (by omega)) ?_
          refine lv_imul hx hb dX4_settings_64 ?_
          refine tp_i (y := nI (((z / 4) * 9) * (i / 9))) (pk_mul _ _) ?_
          refine lv_iadd hx hb dX4_settings_65 ?_
          refine tp_i (y := nI (gi z i)) ((nI_add _ _).trans (congrArg nI (gi_m hz (by omega)))) ?_
          refine lv_dup2_11 hx hb dX4_settings_66 rfl rfl ?_
          refine ar_i C hP 7 mw_sh (j := (gi z i)) (gi_lt hz (by omega)) (by decide) dX4_settings_67 ?_
          refine lv_aload_n hx hb dX4_settings_68 rfl (lv_at hl 0 rfl) ?_
          refine fg C hP 0 mw_o (ci := 4) rfl 1 (by decide) in_X4_settings_X4 lk_X4_settings_13 (v := .ref (bd 2)) rfl dX4_settings_69 ?_
          refine lv_bipush (v := nI 27) hx hb dX4_settings_72 (by decide) ?_
          refine lv_iload_n hx hb dX4_settings_74 rfl (lv_at hl 1 rfl) ?_
          refine lv_imul hx hb dX4_settings_75 ?_
          refine tp_i (y := nI (27 * g)) (pk_mul _ _) ?_
          refine lv_iload_n hx hb dX4_settings_76 rfl (lv_at hl 3 rfl) ?_
          refine lv_iadd hx hb dX4_settings_77 ?_
          refine tp_i (y := nI ((27 * g) + i)) (nI_add _ _) ?_
          refine ar_i C hP 2 mw_wt (j := ((27 * g) + i)) (by omega) (by decide) dX4_settings_78 ?_
          refine lv_iadd hx hb dX4_settings_79 ?_
          refine as_i C hP hD hS 7 mw_sh (j := (gi z i)) (gi_lt hz (by omega)) (by decide) (mw_sh_st _) dX4_settings_80 (fun H locs hP hD hS => ?_)
          refine lv_iinc (v := nI (i + 1)) (lv' := [(3, .int (nI (i + 1))), (0, .ref (bd 0)), (1, .int (nI g)), (2, .int (nI z))]) hx hb dX4_settings_81 hl (k := 3) rfl (by rw [← nI_add i 1]; rfl) (by decide) rfl (fun ls hl => ?_)
          refine lv_goto (tgt := 23) hx hb dX4_settings_84 (by decide) ?_
          rw [gs_s (fun j => wt (27 * g + j))] at hP hD
          exact ihL3 (i + 1) (by omega) _ _ _ hP hD hS (lv_sub hl [1, 2, 3, 0] rfl)
      rw [gs_0 (fun j => wt (27 * g + j)) z] at hP hD
      exact L3 (27 - 0) 0 (by omega) _ _ _ hP hD hS (lv_sub hl [1, 2, 3, 0] rfl)
    | succ r ihL1 =>
      intro i hr H locs ls hP hD hS hl
      refine lv_iload_n hx hb dX4_settings_2 rfl (lv_at hl 3 rfl) ?_
      refine lv_bipush (v := nI 27) hx hb dX4_settings_3 (by decide) ?_
      refine lv_icmp_ge (tgt := 21) hx hb dX4_settings_5 (by decide) (fun c6 => absurd c6 (nI_ge (by omega) (by decide))) (fun c6 => ?_)
      refine lv_aload_n hx hb dX4_settings_8 rfl (lv_at hl 0 rfl) ?_
      refine fg C hP 0 mw_o (ci := 4) rfl 6 (by decide) in_X4_settings_X4 lk_X4_settings_28 (v := .ref (bd 7)) rfl dX4_settings_9 ?_
      refine lv_iload_n hx hb dX4_settings_12 rfl (lv_at hl 3 rfl) ?_
      refine lv_iconst (v := nI 0) hx hb dX4_settings_13 (by decide) ?_
      refine as_i C hP hD hS 7 mw_sh (j := i) (by omega) (by decide) (mw_sh_st _) dX4_settings_14 (fun H locs hP hD hS => ?_)
      refine lv_iinc (v := nI (i + 1)) (lv' := [(3, .int (nI (i + 1))), (0, .ref (bd 0)), (1, .int (nI g)), (2, .int (nI z))]) hx hb dX4_settings_15 hl (k := 3) rfl (by rw [← nI_add i 1]; rfl) (by decide) rfl (fun ls hl => ?_)
      refine lv_goto (tgt := 2) hx hb dX4_settings_18 (by decide) ?_
      rw [fl_s] at hP hD
      exact ihL1 (i + 1) (by omega) _ _ _ hP hD hS (lv_sub hl [1, 2, 3, 0] rfl)
  rw [← fl_0 sh (nI 0)] at hP hD
  exact L1 (27 - 0) 0 (by omega) _ _ _ hP hD hS (lv_sub hl [1, 2, 3, 0] rfl)

def f_bit (a b : Int32) : Int32 := if a = b then nI 1 else nI 0
set_option maxHeartbeats 4000000 in
set_option maxRecDepth 100000 in
theorem c_X4_bit (D : va_G) (k : Nat → ClassId) (t : Nat → Nat) (l : Launch) {ws : va_W} (x1 x2 : Int32) : Ci D k t l yX4_bit wsX4_bit ({ frames := 0, cells := 0, slots := 0, locals := 0 }) [.int x1, .int x2] (ws) (fun r w => r = f_bit x1 x2 ∧ w = ws) 0 0 := by
  refine fw_of (cc := cX4_bit) (maxL := 2) (ret := (some .int)) (Qc := fun A => va_Qi (fun r w => r = f_bit x1 x2 ∧ w = ws) (BcW D A) A) (by decide) rfl (Nat.le_of_ble_eq_true rfl) ?_
  intro p e s m below meth c A ls C hP hD hl
  have C : Cx RX4 "bit" cX4_bit 2 (some .int) wsX4_bit D k t A p s m ([.int x1, .int x2] : List Value).toArray meth c := C
  have hl : lv_has ls 2 [(0, .int x1), (1, .int x2)] := hl
  have hx := C.1
  have hb := C.2.1
  have hown := C.2.2.2.2.1
  have hts := C.2.2.2.2.2.1
  have hK := C.2.2.2.2.2.2.2.2.1
  have hZ := C.2.2.2.2.2.2.2.2.2.1
  have hN := C.2.2.2.2.2.2.2.2.2.2
  have hS : va_S A s.heap s.heap [] := va_S.rf
  refine lv_iload_n hx hb dX4_bit_0 rfl (lv_at hl 0 rfl) ?_
  refine lv_iload_n hx hb dX4_bit_1 rfl (lv_at hl 1 rfl) ?_
  refine lv_icmp_ne (tgt := 9) hx hb dX4_bit_2 (by decide) (fun c1 => ?_) (fun c1 => ?_)
  · refine lv_iconst (v := nI 0) hx hb dX4_bit_9 (by decide) ?_
    exact Ri C hP hD hS (Nat.zero_le _) (Nat.zero_le _) dX4_bit_10 (⟨(if_neg c1).symm, rfl⟩)
  · refine lv_iconst (v := nI 1) hx hb dX4_bit_5 (by decide) ?_
    refine lv_goto (tgt := 10) hx hb dX4_bit_6 (by decide) ?_
    exact Ri C hP hD hS (Nat.zero_le _) (Nat.zero_le _) dX4_bit_10 (⟨(if_pos c1).symm, rfl⟩)

