theorem plain_0 : ∀ z, z < 8 → (f_bit (nI z) (nI 7)) - (f_bit (nI z) (nI 6)) = plr 0 z := by decide +kernel
set_option maxHeartbeats 4000000 in
set_option maxRecDepth 100000 in
theorem c_plainOf_0 (D : va_G) (k : Nat → ClassId) (t : Nat → Nat) (l : Launch) {ws : va_W} {z : Nat} (hz : z < 8) : Ci D k t l yX4_plainOf wsX4_plainOf ({ frames := 1, cells := 0, slots := 0, locals := 30 }) [.int (nI 0), .int (nI z)] (ws) (fun r w => r = plr 0 z ∧ w = ws) 0 0 := by
  refine fw_of (cc := cX4_plainOf) (maxL := 5) (ret := (some .int)) (Qc := fun A => va_Qi (fun r w => r = plr 0 z ∧ w = ws) (BcW D A) A) (by decide) rfl (Nat.le_of_ble_eq_true rfl) ?_
  intro p e s m below meth c A ls C hP hD hl
  have C : Cx RX4 "plainOf" cX4_plainOf 5 (some .int) wsX4_plainOf D k t A p s m ([.int (nI 0), .int (nI z)] : List Value).toArray meth c := C
  have hl : lv_has ls 5 [(0, .int (nI 0)), (1, .int (nI z))] := hl
  have hx := C.1
  have hb := C.2.1
  have hown := C.2.2.2.2.1
  have hts := C.2.2.2.2.2.1
  have hK := C.2.2.2.2.2.2.2.2.1
  have hZ := C.2.2.2.2.2.2.2.2.2.1
  have hN := C.2.2.2.2.2.2.2.2.2.2
  have hS : va_S A s.heap s.heap [] := va_S.rf
  refine lv_iload_n hx hb dX4_plainOf_0 rfl (lv_at hl 0 rfl) ?_
  refine lv_iconst (v := nI 3) hx hb dX4_plainOf_1 (by decide) ?_
  refine lv_icmp_ge (tgt := 23) hx hb dX4_plainOf_2 (by decide) (fun c1 => absurd c1 (by decide)) (fun c1 => ?_)
  refine lv_iload_n hx hb dX4_plainOf_5 rfl (lv_at hl 1 rfl) ?_
  refine lv_bipush (v := nI 7) hx hb dX4_plainOf_6 (by decide) ?_
  refine fw_i C hD hS (rn_S (As := [.int (nI z), .int (nI 7)]) (rest := []) C (c_X4_bit D k t l (nI z) (nI 7) _) (va_cwS 2 hts gX4_plainOf_X4_bit rfl rfl rfl hdX4_bit ⟨Nat.le_of_ble_eq_true rfl, Nat.le_of_ble_eq_true rfl⟩) hP hD hS rfl hl.1 rfl (Nat.le_of_ble_eq_true rfl) dX4_plainOf_8 ⟨Nat.zero_le _, Nat.zero_le _⟩) (fun r2 wr2 H locs h3 hP hD hS => ?_)
  obtain ⟨rfl, hw0⟩ := h3
  obtain rfl := hw0.symm
  refine lv_iload_n hx hb dX4_plainOf_11 rfl (lv_at hl 1 rfl) ?_
  refine lv_bipush (v := nI 7) hx hb dX4_plainOf_12 (by decide) ?_
  refine lv_iconst (v := nI 1) hx hb dX4_plainOf_14 (by decide) ?_
  refine lv_iload_n hx hb dX4_plainOf_15 rfl (lv_at hl 0 rfl) ?_
  refine lv_ishl hx hb dX4_plainOf_16 ?_
  refine tp_i (y := nI 1) (by decide) ?_
  refine lv_isub hx hb dX4_plainOf_17 ?_
  refine tp_i (y := nI 6) (by decide) ?_
  refine fw_i C hD hS (rn_S (As := [.int (nI z), .int (nI 6)]) (rest := [.int (f_bit (nI z) (nI 7))]) C (c_X4_bit D k t l (nI z) (nI 6) _) (va_cwS 2 hts gX4_plainOf_X4_bit rfl rfl rfl hdX4_bit ⟨Nat.le_of_ble_eq_true rfl, Nat.le_of_ble_eq_true rfl⟩) hP hD hS rfl hl.1 rfl (Nat.le_of_ble_eq_true rfl) dX4_plainOf_18 ⟨Nat.zero_le _, Nat.zero_le _⟩) (fun r4 wr4 H locs h5 hP hD hS => ?_)
  obtain ⟨rfl, hw0⟩ := h5
  obtain rfl := hw0.symm
  refine lv_isub hx hb dX4_plainOf_21 ?_
  exact Ri C hP hD hS (Nat.zero_le _) (Nat.zero_le _) dX4_plainOf_22 (⟨plain_0 z hz, rfl⟩)

theorem plain_1 : ∀ z, z < 8 → (f_bit (nI z) (nI 7)) - (f_bit (nI z) (nI 5)) = plr 1 z := by decide +kernel
set_option maxHeartbeats 4000000 in
set_option maxRecDepth 100000 in
theorem c_plainOf_1 (D : va_G) (k : Nat → ClassId) (t : Nat → Nat) (l : Launch) {ws : va_W} {z : Nat} (hz : z < 8) : Ci D k t l yX4_plainOf wsX4_plainOf ({ frames := 1, cells := 0, slots := 0, locals := 30 }) [.int (nI 1), .int (nI z)] (ws) (fun r w => r = plr 1 z ∧ w = ws) 0 0 := by
  refine fw_of (cc := cX4_plainOf) (maxL := 5) (ret := (some .int)) (Qc := fun A => va_Qi (fun r w => r = plr 1 z ∧ w = ws) (BcW D A) A) (by decide) rfl (Nat.le_of_ble_eq_true rfl) ?_
  intro p e s m below meth c A ls C hP hD hl
  have C : Cx RX4 "plainOf" cX4_plainOf 5 (some .int) wsX4_plainOf D k t A p s m ([.int (nI 1), .int (nI z)] : List Value).toArray meth c := C
  have hl : lv_has ls 5 [(0, .int (nI 1)), (1, .int (nI z))] := hl
  have hx := C.1
  have hb := C.2.1
  have hown := C.2.2.2.2.1
  have hts := C.2.2.2.2.2.1
  have hK := C.2.2.2.2.2.2.2.2.1
  have hZ := C.2.2.2.2.2.2.2.2.2.1
  have hN := C.2.2.2.2.2.2.2.2.2.2
  have hS : va_S A s.heap s.heap [] := va_S.rf
  refine lv_iload_n hx hb dX4_plainOf_0 rfl (lv_at hl 0 rfl) ?_
  refine lv_iconst (v := nI 3) hx hb dX4_plainOf_1 (by decide) ?_
  refine lv_icmp_ge (tgt := 23) hx hb dX4_plainOf_2 (by decide) (fun c1 => absurd c1 (by decide)) (fun c1 => ?_)
  refine lv_iload_n hx hb dX4_plainOf_5 rfl (lv_at hl 1 rfl) ?_
  refine lv_bipush (v := nI 7) hx hb dX4_plainOf_6 (by decide) ?_
  refine fw_i C hD hS (rn_S (As := [.int (nI z), .int (nI 7)]) (rest := []) C (c_X4_bit D k t l (nI z) (nI 7) _) (va_cwS 2 hts gX4_plainOf_X4_bit rfl rfl rfl hdX4_bit ⟨Nat.le_of_ble_eq_true rfl, Nat.le_of_ble_eq_true rfl⟩) hP hD hS rfl hl.1 rfl (Nat.le_of_ble_eq_true rfl) dX4_plainOf_8 ⟨Nat.zero_le _, Nat.zero_le _⟩) (fun r2 wr2 H locs h3 hP hD hS => ?_)
  obtain ⟨rfl, hw0⟩ := h3
  obtain rfl := hw0.symm
  refine lv_iload_n hx hb dX4_plainOf_11 rfl (lv_at hl 1 rfl) ?_
  refine lv_bipush (v := nI 7) hx hb dX4_plainOf_12 (by decide) ?_
  refine lv_iconst (v := nI 1) hx hb dX4_plainOf_14 (by decide) ?_
  refine lv_iload_n hx hb dX4_plainOf_15 rfl (lv_at hl 0 rfl) ?_
  refine lv_ishl hx hb dX4_plainOf_16 ?_
  refine tp_i (y := nI 2) (by decide) ?_
  refine lv_isub hx hb dX4_plainOf_17 ?_
  refine tp_i (y := nI 5) (by decide) ?_
  refine fw_i C hD hS (rn_S (As := [.int (nI z), .int (nI 5)]) (rest := [.int (f_bit (nI z) (nI 7))]) C (c_X4_bit D k t l (nI z) (nI 5) _) (va_cwS 2 hts gX4_plainOf_X4_bit rfl rfl rfl hdX4_bit ⟨Nat.le_of_ble_eq_true rfl, Nat.le_of_ble_eq_true rfl⟩) hP hD hS rfl hl.1 rfl (Nat.le_of_ble_eq_true rfl) dX4_plainOf_18 ⟨Nat.zero_le _, Nat.zero_le _⟩) (fun r4 wr4 H locs h5 hP hD hS => ?_)
  obtain ⟨rfl, hw0⟩ := h5
  obtain rfl := hw0.symm
  refine lv_isub hx hb dX4_plainOf_21 ?_
  exact Ri C hP hD hS (Nat.zero_le _) (Nat.zero_le _) dX4_plainOf_22 (⟨plain_1 z hz, rfl⟩)

theorem plain_2 : ∀ z, z < 8 → (f_bit (nI z) (nI 7)) - (f_bit (nI z) (nI 3)) = plr 2 z := by decide +kernel
set_option maxHeartbeats 4000000 in
set_option maxRecDepth 100000 in
theorem c_plainOf_2 (D : va_G) (k : Nat → ClassId) (t : Nat → Nat) (l : Launch) {ws : va_W} {z : Nat} (hz : z < 8) : Ci D k t l yX4_plainOf wsX4_plainOf ({ frames := 1, cells := 0, slots := 0, locals := 30 }) [.int (nI 2), .int (nI z)] (ws) (fun r w => r = plr 2 z ∧ w = ws) 0 0 := by
  refine fw_of (cc := cX4_plainOf) (maxL := 5) (ret := (some .int)) (Qc := fun A => va_Qi (fun r w => r = plr 2 z ∧ w = ws) (BcW D A) A) (by decide) rfl (Nat.le_of_ble_eq_true rfl) ?_
  intro p e s m below meth c A ls C hP hD hl
  have C : Cx RX4 "plainOf" cX4_plainOf 5 (some .int) wsX4_plainOf D k t A p s m ([.int (nI 2), .int (nI z)] : List Value).toArray meth c := C
  have hl : lv_has ls 5 [(0, .int (nI 2)), (1, .int (nI z))] := hl
  have hx := C.1
  have hb := C.2.1
  have hown := C.2.2.2.2.1
  have hts := C.2.2.2.2.2.1
  have hK := C.2.2.2.2.2.2.2.2.1
  have hZ := C.2.2.2.2.2.2.2.2.2.1
  have hN := C.2.2.2.2.2.2.2.2.2.2
  have hS : va_S A s.heap s.heap [] := va_S.rf
  refine lv_iload_n hx hb dX4_plainOf_0 rfl (lv_at hl 0 rfl) ?_
  refine lv_iconst (v := nI 3) hx hb dX4_plainOf_1 (by decide) ?_
  refine lv_icmp_ge (tgt := 23) hx hb dX4_plainOf_2 (by decide) (fun c1 => absurd c1 (by decide)) (fun c1 => ?_)
  refine lv_iload_n hx hb dX4_plainOf_5 rfl (lv_at hl 1 rfl) ?_
  refine lv_bipush (v := nI 7) hx hb dX4_plainOf_6 (by decide) ?_
  refine fw_i C hD hS (rn_S (As := [.int (nI z), .int (nI 7)]) (rest := []) C (c_X4_bit D k t l (nI z) (nI 7) _) (va_cwS 2 hts gX4_plainOf_X4_bit rfl rfl rfl hdX4_bit ⟨Nat.le_of_ble_eq_true rfl, Nat.le_of_ble_eq_true rfl⟩) hP hD hS rfl hl.1 rfl (Nat.le_of_ble_eq_true rfl) dX4_plainOf_8 ⟨Nat.zero_le _, Nat.zero_le _⟩) (fun r2 wr2 H locs h3 hP hD hS => ?_)
  obtain ⟨rfl, hw0⟩ := h3
  obtain rfl := hw0.symm
  refine lv_iload_n hx hb dX4_plainOf_11 rfl (lv_at hl 1 rfl) ?_
  refine lv_bipush (v := nI 7) hx hb dX4_plainOf_12 (by decide) ?_
  refine lv_iconst (v := nI 1) hx hb dX4_plainOf_14 (by decide) ?_
  refine lv_iload_n hx hb dX4_plainOf_15 rfl (lv_at hl 0 rfl) ?_
  refine lv_ishl hx hb dX4_plainOf_16 ?_
  refine tp_i (y := nI 4) (by decide) ?_
  refine lv_isub hx hb dX4_plainOf_17 ?_
  refine tp_i (y := nI 3) (by decide) ?_
  refine fw_i C hD hS (rn_S (As := [.int (nI z), .int (nI 3)]) (rest := [.int (f_bit (nI z) (nI 7))]) C (c_X4_bit D k t l (nI z) (nI 3) _) (va_cwS 2 hts gX4_plainOf_X4_bit rfl rfl rfl hdX4_bit ⟨Nat.le_of_ble_eq_true rfl, Nat.le_of_ble_eq_true rfl⟩) hP hD hS rfl hl.1 rfl (Nat.le_of_ble_eq_true rfl) dX4_plainOf_18 ⟨Nat.zero_le _, Nat.zero_le _⟩) (fun r4 wr4 H locs h5 hP hD hS => ?_)
  obtain ⟨rfl, hw0⟩ := h5
  obtain rfl := hw0.symm
  refine lv_isub hx hb dX4_plainOf_21 ?_
  exact Ri C hP hD hS (Nat.zero_le _) (Nat.zero_le _) dX4_plainOf_22 (⟨plain_2 z hz, rfl⟩)

theorem plain_3 : ∀ z, z < 8 → ((f_bit (nI z) (nI 1)) + (f_bit (nI z) (nI 2))) - (f_bit (nI z) (nI 3)) = plr 3 z := by decide +kernel
set_option maxHeartbeats 4000000 in
set_option maxRecDepth 100000 in
theorem c_plainOf_3 (D : va_G) (k : Nat → ClassId) (t : Nat → Nat) (l : Launch) {ws : va_W} {z : Nat} (hz : z < 8) : Ci D k t l yX4_plainOf wsX4_plainOf ({ frames := 1, cells := 0, slots := 0, locals := 30 }) [.int (nI 3), .int (nI z)] (ws) (fun r w => r = plr 3 z ∧ w = ws) 0 0 := by
  refine fw_of (cc := cX4_plainOf) (maxL := 5) (ret := (some .int)) (Qc := fun A => va_Qi (fun r w => r = plr 3 z ∧ w = ws) (BcW D A) A) (by decide) rfl (Nat.le_of_ble_eq_true rfl) ?_
  intro p e s m below meth c A ls C hP hD hl
  have C : Cx RX4 "plainOf" cX4_plainOf 5 (some .int) wsX4_plainOf D k t A p s m ([.int (nI 3), .int (nI z)] : List Value).toArray meth c := C
  have hl : lv_has ls 5 [(0, .int (nI 3)), (1, .int (nI z))] := hl
  have hx := C.1
  have hb := C.2.1
  have hown := C.2.2.2.2.1
  have hts := C.2.2.2.2.2.1
  have hK := C.2.2.2.2.2.2.2.2.1
  have hZ := C.2.2.2.2.2.2.2.2.2.1
  have hN := C.2.2.2.2.2.2.2.2.2.2
  have hS : va_S A s.heap s.heap [] := va_S.rf
  refine lv_iload_n hx hb dX4_plainOf_0 rfl (lv_at hl 0 rfl) ?_
  refine lv_iconst (v := nI 3) hx hb dX4_plainOf_1 (by decide) ?_
  refine lv_icmp_ge (tgt := 23) hx hb dX4_plainOf_2 (by decide) (fun c1 => ?_) (fun c1 => absurd (by decide) c1)
  refine lv_iload_n hx hb dX4_plainOf_23 rfl (lv_at hl 0 rfl) ?_
  refine lv_iconst (v := nI 3) hx hb dX4_plainOf_24 (by decide) ?_
  refine lv_irem hx hb dX4_plainOf_25 (by decide) ?_
  refine tp_i (y := nI 0) (by decide) ?_
  refine lv_if_ne (tgt := 33) hx hb dX4_plainOf_26 (by decide) (fun c2 => absurd (by decide) c2) (fun c2 => ?_)
  refine lv_iconst (v := nI 4) hx hb dX4_plainOf_29 (by decide) ?_
  refine lv_goto (tgt := 45) hx hb dX4_plainOf_30 (by decide) ?_
  refine lv_istore_n (lv' := [(2, .int (nI 4)), (0, .int (nI 3)), (1, .int (nI z))]) hx hb dX4_plainOf_45 rfl hl (by decide) rfl (fun ls hl => ?_)
  refine lv_iload_n hx hb dX4_plainOf_46 rfl (lv_at hl 0 rfl) ?_
  refine lv_iconst (v := nI 1) hx hb dX4_plainOf_47 (by decide) ?_
  refine lv_icmp_ne (tgt := 55) hx hb dX4_plainOf_48 (by decide) (fun c3 => ?_) (fun c3 => absurd c3 (by decide))
  refine lv_iconst (v := nI 1) hx hb dX4_plainOf_55 (by decide) ?_
  refine lv_istore_n (lv' := [(3, .int (nI 1)), (2, .int (nI 4)), (0, .int (nI 3)), (1, .int (nI z))]) hx hb dX4_plainOf_56 rfl hl (by decide) rfl (fun ls hl => ?_)
  refine lv_bipush (v := nI 7) hx hb dX4_plainOf_57 (by decide) ?_
  refine lv_iload_n hx hb dX4_plainOf_59 rfl (lv_at hl 1 rfl) ?_
  refine lv_isub hx hb dX4_plainOf_60 ?_
  refine tp_i (y := nI 3) (by decide) ?_
  refine lv_iload_n hx hb dX4_plainOf_61 rfl (lv_at hl 0 rfl) ?_
  refine lv_isub hx hb dX4_plainOf_62 ?_
  refine tp_i (y := nI 2) (by decide) ?_
  refine lv_istore (lv' := [(4, .int (nI 2)), (3, .int (nI 1)), (2, .int (nI 4)), (0, .int (nI 3)), (1, .int (nI z))]) hx hb dX4_plainOf_63 hl (by decide) rfl (fun ls hl => ?_)
  refine lv_iload_n hx hb dX4_plainOf_65 rfl (lv_at hl 3 rfl) ?_
  refine lv_bipush (v := nI 6) hx hb dX4_plainOf_66 (by decide) ?_
  refine lv_icmp_ge (tgt := 93) hx hb dX4_plainOf_68 (by decide) (fun c4 => absurd c4 (by decide)) (fun c4 => ?_)
  refine lv_iload_n hx hb dX4_plainOf_71 rfl (lv_at hl 4 rfl) ?_
  refine lv_iload_n hx hb dX4_plainOf_72 rfl (lv_at hl 1 rfl) ?_
  refine fw_i C hD hS (rn_S (As := [.int (nI z), .int (nI 1)]) (rest := []) C (c_X4_bit D k t l (nI z) (nI 1) _) (va_cwS 2 hts gX4_plainOf_X4_bit rfl rfl rfl hdX4_bit ⟨Nat.le_of_ble_eq_true rfl, Nat.le_of_ble_eq_true rfl⟩) hP hD hS rfl hl.1 rfl (Nat.le_of_ble_eq_true rfl) dX4_plainOf_73 ⟨Nat.zero_le _, Nat.zero_le _⟩) (fun r5 wr5 H locs h6 hP hD hS => ?_)
  obtain ⟨rfl, hw0⟩ := h6
  obtain rfl := hw0.symm
  refine lv_iload_n hx hb dX4_plainOf_76 rfl (lv_at hl 4 rfl) ?_
  refine lv_iload hx hb dX4_plainOf_77 (lv_at hl 0 rfl) ?_
  refine fw_i C hD hS (rn_S (As := [.int (nI z), .int (nI 2)]) (rest := [.int (f_bit (nI z) (nI 1))]) C (c_X4_bit D k t l (nI z) (nI 2) _) (va_cwS 2 hts gX4_plainOf_X4_bit rfl rfl rfl hdX4_bit ⟨Nat.le_of_ble_eq_true rfl, Nat.le_of_ble_eq_true rfl⟩) hP hD hS rfl hl.1 rfl (Nat.le_of_ble_eq_true rfl) dX4_plainOf_79 ⟨Nat.zero_le _, Nat.zero_le _⟩) (fun r7 wr7 H locs h8 hP hD hS => ?_)
  obtain ⟨rfl, hw0⟩ := h8
  obtain rfl := hw0.symm
  refine lv_iadd hx hb dX4_plainOf_82 ?_
  refine lv_iload_n hx hb dX4_plainOf_83 rfl (lv_at hl 4 rfl) ?_
  refine lv_iload_n hx hb dX4_plainOf_84 rfl (lv_at hl 1 rfl) ?_
  refine lv_iload hx hb dX4_plainOf_85 (lv_at hl 0 rfl) ?_
  refine lv_iadd hx hb dX4_plainOf_87 ?_
  refine tp_i (y := nI 3) (by decide) ?_
  refine fw_i C hD hS (rn_S (As := [.int (nI z), .int (nI 3)]) (rest := [.int ((f_bit (nI z) (nI 1)) + (f_bit (nI z) (nI 2)))]) C (c_X4_bit D k t l (nI z) (nI 3) _) (va_cwS 2 hts gX4_plainOf_X4_bit rfl rfl rfl hdX4_bit ⟨Nat.le_of_ble_eq_true rfl, Nat.le_of_ble_eq_true rfl⟩) hP hD hS rfl hl.1 rfl (Nat.le_of_ble_eq_true rfl) dX4_plainOf_88 ⟨Nat.zero_le _, Nat.zero_le _⟩) (fun r9 wr9 H locs h10 hP hD hS => ?_)
  obtain ⟨rfl, hw0⟩ := h10
  obtain rfl := hw0.symm
  refine lv_isub hx hb dX4_plainOf_91 ?_
  exact Ri C hP hD hS (Nat.zero_le _) (Nat.zero_le _) dX4_plainOf_92 (⟨plain_3 z hz, rfl⟩)

theorem plain_4 : ∀ z, z < 8 → ((f_bit (nI z) (nI 1)) + (f_bit (nI z) (nI 4))) - (f_bit (nI z) (nI 5)) = plr 4 z := by decide +kernel
set_option maxHeartbeats 4000000 in
set_option maxRecDepth 100000 in
theorem c_plainOf_4 (D : va_G) (k : Nat → ClassId) (t : Nat → Nat) (l : Launch) {ws : va_W} {z : Nat} (hz : z < 8) : Ci D k t l yX4_plainOf wsX4_plainOf ({ frames := 1, cells := 0, slots := 0, locals := 30 }) [.int (nI 4), .int (nI z)] (ws) (fun r w => r = plr 4 z ∧ w = ws) 0 0 := by
  refine fw_of (cc := cX4_plainOf) (maxL := 5) (ret := (some .int)) (Qc := fun A => va_Qi (fun r w => r = plr 4 z ∧ w = ws) (BcW D A) A) (by decide) rfl (Nat.le_of_ble_eq_true rfl) ?_
  intro p e s m below meth c A ls C hP hD hl
  have C : Cx RX4 "plainOf" cX4_plainOf 5 (some .int) wsX4_plainOf D k t A p s m ([.int (nI 4), .int (nI z)] : List Value).toArray meth c := C
  have hl : lv_has ls 5 [(0, .int (nI 4)), (1, .int (nI z))] := hl
  have hx := C.1
  have hb := C.2.1
  have hown := C.2.2.2.2.1
  have hts := C.2.2.2.2.2.1
  have hK := C.2.2.2.2.2.2.2.2.1
  have hZ := C.2.2.2.2.2.2.2.2.2.1
  have hN := C.2.2.2.2.2.2.2.2.2.2
  have hS : va_S A s.heap s.heap [] := va_S.rf
  refine lv_iload_n hx hb dX4_plainOf_0 rfl (lv_at hl 0 rfl) ?_
  refine lv_iconst (v := nI 3) hx hb dX4_plainOf_1 (by decide) ?_
  refine lv_icmp_ge (tgt := 23) hx hb dX4_plainOf_2 (by decide) (fun c1 => ?_) (fun c1 => absurd (by decide) c1)
  refine lv_iload_n hx hb dX4_plainOf_23 rfl (lv_at hl 0 rfl) ?_
  refine lv_iconst (v := nI 3) hx hb dX4_plainOf_24 (by decide) ?_
  refine lv_irem hx hb dX4_plainOf_25 (by decide) ?_
  refine tp_i (y := nI 1) (by decide) ?_
  refine lv_if_ne (tgt := 33) hx hb dX4_plainOf_26 (by decide) (fun c2 => ?_) (fun c2 => absurd c2 (by decide))
  refine lv_iload_n hx hb dX4_plainOf_33 rfl (lv_at hl 0 rfl) ?_
  refine lv_iconst (v := nI 3) hx hb dX4_plainOf_34 (by decide) ?_
  refine lv_irem hx hb dX4_plainOf_35 (by decide) ?_
  refine tp_i (y := nI 1) (by decide) ?_
  refine lv_iconst (v := nI 1) hx hb dX4_plainOf_36 (by decide) ?_
  refine lv_icmp_ne (tgt := 44) hx hb dX4_plainOf_37 (by decide) (fun c3 => absurd (by decide) c3) (fun c3 => ?_)
  refine lv_iconst (v := nI 2) hx hb dX4_plainOf_40 (by decide) ?_
  refine lv_goto (tgt := 45) hx hb dX4_plainOf_41 (by decide) ?_
  refine lv_istore_n (lv' := [(2, .int (nI 2)), (0, .int (nI 4)), (1, .int (nI z))]) hx hb dX4_plainOf_45 rfl hl (by decide) rfl (fun ls hl => ?_)
  refine lv_iload_n hx hb dX4_plainOf_46 rfl (lv_at hl 0 rfl) ?_
  refine lv_iconst (v := nI 1) hx hb dX4_plainOf_47 (by decide) ?_
  refine lv_icmp_ne (tgt := 55) hx hb dX4_plainOf_48 (by decide) (fun c4 => ?_) (fun c4 => absurd c4 (by decide))
  refine lv_iconst (v := nI 1) hx hb dX4_plainOf_55 (by decide) ?_
  refine lv_istore_n (lv' := [(3, .int (nI 1)), (2, .int (nI 2)), (0, .int (nI 4)), (1, .int (nI z))]) hx hb dX4_plainOf_56 rfl hl (by decide) rfl (fun ls hl => ?_)
  refine lv_bipush (v := nI 7) hx hb dX4_plainOf_57 (by decide) ?_
  refine lv_iload_n hx hb dX4_plainOf_59 rfl (lv_at hl 1 rfl) ?_
  refine lv_isub hx hb dX4_plainOf_60 ?_
  refine tp_i (y := nI 5) (by decide) ?_
  refine lv_iload_n hx hb dX4_plainOf_61 rfl (lv_at hl 0 rfl) ?_
  refine lv_isub hx hb dX4_plainOf_62 ?_
  refine tp_i (y := nI 4) (by decide) ?_
  refine lv_istore (lv' := [(4, .int (nI 4)), (3, .int (nI 1)), (2, .int (nI 2)), (0, .int (nI 4)), (1, .int (nI z))]) hx hb dX4_plainOf_63 hl (by decide) rfl (fun ls hl => ?_)
  refine lv_iload_n hx hb dX4_plainOf_65 rfl (lv_at hl 3 rfl) ?_
  refine lv_bipush (v := nI 6) hx hb dX4_plainOf_66 (by decide) ?_
  refine lv_icmp_ge (tgt := 93) hx hb dX4_plainOf_68 (by decide) (fun c5 => absurd c5 (by decide)) (fun c5 => ?_)
  refine lv_iload_n hx hb dX4_plainOf_71 rfl (lv_at hl 4 rfl) ?_
  refine lv_iload_n hx hb dX4_plainOf_72 rfl (lv_at hl 1 rfl) ?_
  refine fw_i C hD hS (rn_S (As := [.int (nI z), .int (nI 1)]) (rest := []) C (c_X4_bit D k t l (nI z) (nI 1) _) (va_cwS 2 hts gX4_plainOf_X4_bit rfl rfl rfl hdX4_bit ⟨Nat.le_of_ble_eq_true rfl, Nat.le_of_ble_eq_true rfl⟩) hP hD hS rfl hl.1 rfl (Nat.le_of_ble_eq_true rfl) dX4_plainOf_73 ⟨Nat.zero_le _, Nat.zero_le _⟩) (fun r6 wr6 H locs h7 hP hD hS => ?_)
  obtain ⟨rfl, hw0⟩ := h7
  obtain rfl := hw0.symm
  refine lv_iload_n hx hb dX4_plainOf_76 rfl (lv_at hl 4 rfl) ?_
  refine lv_iload hx hb dX4_plainOf_77 (lv_at hl 0 rfl) ?_
  refine fw_i C hD hS (rn_S (As := [.int (nI z), .int (nI 4)]) (rest := [.int (f_bit (nI z) (nI 1))]) C (c_X4_bit D k t l (nI z) (nI 4) _) (va_cwS 2 hts gX4_plainOf_X4_bit rfl rfl rfl hdX4_bit ⟨Nat.le_of_ble_eq_true rfl, Nat.le_of_ble_eq_true rfl⟩) hP hD hS rfl hl.1 rfl (Nat.le_of_ble_eq_true rfl) dX4_plainOf_79 ⟨Nat.zero_le _, Nat.zero_le _⟩) (fun r8 wr8 H locs h9 hP hD hS => ?_)
  obtain ⟨rfl, hw0⟩ := h9
  obtain rfl := hw0.symm
  refine lv_iadd hx hb dX4_plainOf_82 ?_
  refine lv_iload_n hx hb dX4_plainOf_83 rfl (lv_at hl 4 rfl) ?_
  refine lv_iload_n hx hb dX4_plainOf_84 rfl (lv_at hl 1 rfl) ?_
  refine lv_iload hx hb dX4_plainOf_85 (lv_at hl 0 rfl) ?_
  refine lv_iadd hx hb dX4_plainOf_87 ?_
  refine tp_i (y := nI 5) (by decide) ?_
  refine fw_i C hD hS (rn_S (As := [.int (nI z), .int (nI 5)]) (rest := [.int ((f_bit (nI z) (nI 1)) + (f_bit (nI z) (nI 4)))]) C (c_X4_bit D k t l (nI z) (nI 5) _) (va_cwS 2 hts gX4_plainOf_X4_bit rfl rfl rfl hdX4_bit ⟨Nat.le_of_ble_eq_true rfl, Nat.le_of_ble_eq_true rfl⟩) hP hD hS rfl hl.1 rfl (Nat.le_of_ble_eq_true rfl) dX4_plainOf_88 ⟨Nat.zero_le _, Nat.zero_le _⟩) (fun r10 wr10 H locs h11 hP hD hS => ?_)
  obtain ⟨rfl, hw0⟩ := h11
  obtain rfl := hw0.symm
  refine lv_isub hx hb dX4_plainOf_91 ?_
  exact Ri C hP hD hS (Nat.zero_le _) (Nat.zero_le _) dX4_plainOf_92 (⟨plain_4 z hz, rfl⟩)

theorem plain_5 : ∀ z, z < 8 → ((f_bit (nI z) (nI 2)) + (f_bit (nI z) (nI 4))) - (f_bit (nI z) (nI 6)) = plr 5 z := by decide +kernel
set_option maxHeartbeats 4000000 in
set_option maxRecDepth 100000 in
theorem c_plainOf_5 (D : va_G) (k : Nat → ClassId) (t : Nat → Nat) (l : Launch) {ws : va_W} {z : Nat} (hz : z < 8) : Ci D k t l yX4_plainOf wsX4_plainOf ({ frames := 1, cells := 0, slots := 0, locals := 30 }) [.int (nI 5), .int (nI z)] (ws) (fun r w => r = plr 5 z ∧ w = ws) 0 0 := by
  refine fw_of (cc := cX4_plainOf) (maxL := 5) (ret := (some .int)) (Qc := fun A => va_Qi (fun r w => r = plr 5 z ∧ w = ws) (BcW D A) A) (by decide) rfl (Nat.le_of_ble_eq_true rfl) ?_
  intro p e s m below meth c A ls C hP hD hl
  have C : Cx RX4 "plainOf" cX4_plainOf 5 (some .int) wsX4_plainOf D k t A p s m ([.int (nI 5), .int (nI z)] : List Value).toArray meth c := C
  have hl : lv_has ls 5 [(0, .int (nI 5)), (1, .int (nI z))] := hl
  have hx := C.1
  have hb := C.2.1
  have hown := C.2.2.2.2.1
  have hts := C.2.2.2.2.2.1
  have hK := C.2.2.2.2.2.2.2.2.1
  have hZ := C.2.2.2.2.2.2.2.2.2.1
  have hN := C.2.2.2.2.2.2.2.2.2.2
  have hS : va_S A s.heap s.heap [] := va_S.rf
  refine lv_iload_n hx hb dX4_plainOf_0 rfl (lv_at hl 0 rfl) ?_
  refine lv_iconst (v := nI 3) hx hb dX4_plainOf_1 (by decide) ?_
  refine lv_icmp_ge (tgt := 23) hx hb dX4_plainOf_2 (by decide) (fun c1 => ?_) (fun c1 => absurd (by decide) c1)
  refine lv_iload_n hx hb dX4_plainOf_23 rfl (lv_at hl 0 rfl) ?_
  refine lv_iconst (v := nI 3) hx hb dX4_plainOf_24 (by decide) ?_
  refine lv_irem hx hb dX4_plainOf_25 (by decide) ?_
  refine tp_i (y := nI 2) (by decide) ?_
  refine lv_if_ne (tgt := 33) hx hb dX4_plainOf_26 (by decide) (fun c2 => ?_) (fun c2 => absurd c2 (by decide))
  refine lv_iload_n hx hb dX4_plainOf_33 rfl (lv_at hl 0 rfl) ?_
  refine lv_iconst (v := nI 3) hx hb dX4_plainOf_34 (by decide) ?_
  refine lv_irem hx hb dX4_plainOf_35 (by decide) ?_
  refine tp_i (y := nI 2) (by decide) ?_
  refine lv_iconst (v := nI 1) hx hb dX4_plainOf_36 (by decide) ?_
  refine lv_icmp_ne (tgt := 44) hx hb dX4_plainOf_37 (by decide) (fun c3 => ?_) (fun c3 => absurd c3 (by decide))
  refine lv_iconst (v := nI 1) hx hb dX4_plainOf_44 (by decide) ?_
  refine lv_istore_n (lv' := [(2, .int (nI 1)), (0, .int (nI 5)), (1, .int (nI z))]) hx hb dX4_plainOf_45 rfl hl (by decide) rfl (fun ls hl => ?_)
  refine lv_iload_n hx hb dX4_plainOf_46 rfl (lv_at hl 0 rfl) ?_
  refine lv_iconst (v := nI 1) hx hb dX4_plainOf_47 (by decide) ?_
  refine lv_icmp_ne (tgt := 55) hx hb dX4_plainOf_48 (by decide) (fun c4 => absurd (by decide) c4) (fun c4 => ?_)
  refine lv_iconst (v := nI 2) hx hb dX4_plainOf_51 (by decide) ?_
  refine lv_goto (tgt := 56) hx hb dX4_plainOf_52 (by decide) ?_
  refine lv_istore_n (lv' := [(3, .int (nI 2)), (2, .int (nI 1)), (0, .int (nI 5)), (1, .int (nI z))]) hx hb dX4_plainOf_56 rfl hl (by decide) rfl (fun ls hl => ?_)
  refine lv_bipush (v := nI 7) hx hb dX4_plainOf_57 (by decide) ?_
  refine lv_iload_n hx hb dX4_plainOf_59 rfl (lv_at hl 1 rfl) ?_
  refine lv_isub hx hb dX4_plainOf_60 ?_
  refine tp_i (y := nI 6) (by decide) ?_
  refine lv_iload_n hx hb dX4_plainOf_61 rfl (lv_at hl 0 rfl) ?_
  refine lv_isub hx hb dX4_plainOf_62 ?_
  refine tp_i (y := nI 4) (by decide) ?_
  refine lv_istore (lv' := [(4, .int (nI 4)), (3, .int (nI 2)), (2, .int (nI 1)), (0, .int (nI 5)), (1, .int (nI z))]) hx hb dX4_plainOf_63 hl (by decide) rfl (fun ls hl => ?_)
  refine lv_iload_n hx hb dX4_plainOf_65 rfl (lv_at hl 3 rfl) ?_
  refine lv_bipush (v := nI 6) hx hb dX4_plainOf_66 (by decide) ?_
  refine lv_icmp_ge (tgt := 93) hx hb dX4_plainOf_68 (by decide) (fun c5 => absurd c5 (by decide)) (fun c5 => ?_)
  refine lv_iload_n hx hb dX4_plainOf_71 rfl (lv_at hl 4 rfl) ?_
  refine lv_iload_n hx hb dX4_plainOf_72 rfl (lv_at hl 1 rfl) ?_
  refine fw_i C hD hS (rn_S (As := [.int (nI z), .int (nI 2)]) (rest := []) C (c_X4_bit D k t l (nI z) (nI 2) _) (va_cwS 2 hts gX4_plainOf_X4_bit rfl rfl rfl hdX4_bit ⟨Nat.le_of_ble_eq_true rfl, Nat.le_of_ble_eq_true rfl⟩) hP hD hS rfl hl.1 rfl (Nat.le_of_ble_eq_true rfl) dX4_plainOf_73 ⟨Nat.zero_le _, Nat.zero_le _⟩) (fun r6 wr6 H locs h7 hP hD hS => ?_)
  obtain ⟨rfl, hw0⟩ := h7
  obtain rfl := hw0.symm
  refine lv_iload_n hx hb dX4_plainOf_76 rfl (lv_at hl 4 rfl) ?_
  refine lv_iload hx hb dX4_plainOf_77 (lv_at hl 0 rfl) ?_
  refine fw_i C hD hS (rn_S (As := [.int (nI z), .int (nI 4)]) (rest := [.int (f_bit (nI z) (nI 2))]) C (c_X4_bit D k t l (nI z) (nI 4) _) (va_cwS 2 hts gX4_plainOf_X4_bit rfl rfl rfl hdX4_bit ⟨Nat.le_of_ble_eq_true rfl, Nat.le_of_ble_eq_true rfl⟩) hP hD hS rfl hl.1 rfl (Nat.le_of_ble_eq_true rfl) dX4_plainOf_79 ⟨Nat.zero_le _, Nat.zero_le _⟩) (fun r8 wr8 H locs h9 hP hD hS => ?_)
  obtain ⟨rfl, hw0⟩ := h9
  obtain rfl := hw0.symm
  refine lv_iadd hx hb dX4_plainOf_82 ?_
  refine lv_iload_n hx hb dX4_plainOf_83 rfl (lv_at hl 4 rfl) ?_
  refine lv_iload_n hx hb dX4_plainOf_84 rfl (lv_at hl 1 rfl) ?_
  refine lv_iload hx hb dX4_plainOf_85 (lv_at hl 0 rfl) ?_
  refine lv_iadd hx hb dX4_plainOf_87 ?_
  refine tp_i (y := nI 6) (by decide) ?_
  refine fw_i C hD hS (rn_S (As := [.int (nI z), .int (nI 6)]) (rest := [.int ((f_bit (nI z) (nI 2)) + (f_bit (nI z) (nI 4)))]) C (c_X4_bit D k t l (nI z) (nI 6) _) (va_cwS 2 hts gX4_plainOf_X4_bit rfl rfl rfl hdX4_bit ⟨Nat.le_of_ble_eq_true rfl, Nat.le_of_ble_eq_true rfl⟩) hP hD hS rfl hl.1 rfl (Nat.le_of_ble_eq_true rfl) dX4_plainOf_88 ⟨Nat.zero_le _, Nat.zero_le _⟩) (fun r10 wr10 H locs h11 hP hD hS => ?_)
  obtain ⟨rfl, hw0⟩ := h11
  obtain rfl := hw0.symm
  refine lv_isub hx hb dX4_plainOf_91 ?_
  exact Ri C hP hD hS (Nat.zero_le _) (Nat.zero_le _) dX4_plainOf_92 (⟨plain_5 z hz, rfl⟩)

theorem plain_6 : ∀ z, z < 8 → (((f_bit (nI z) (nI 5)) + (f_bit (nI z) (nI 6))) - (f_bit (nI z) (nI 7))) - (f_bit (nI z) (nI 4)) = plr 6 z := by decide +kernel
set_option maxHeartbeats 4000000 in
set_option maxRecDepth 100000 in
theorem c_plainOf_6 (D : va_G) (k : Nat → ClassId) (t : Nat → Nat) (l : Launch) {ws : va_W} {z : Nat} (hz : z < 8) : Ci D k t l yX4_plainOf wsX4_plainOf ({ frames := 1, cells := 0, slots := 0, locals := 30 }) [.int (nI 6), .int (nI z)] (ws) (fun r w => r = plr 6 z ∧ w = ws) 0 0 := by
  refine fw_of (cc := cX4_plainOf) (maxL := 5) (ret := (some .int)) (Qc := fun A => va_Qi (fun r w => r = plr 6 z ∧ w = ws) (BcW D A) A) (by decide) rfl (Nat.le_of_ble_eq_true rfl) ?_
  intro p e s m below meth c A ls C hP hD hl
  have C : Cx RX4 "plainOf" cX4_plainOf 5 (some .int) wsX4_plainOf D k t A p s m ([.int (nI 6), .int (nI z)] : List Value).toArray meth c := C
  have hl : lv_has ls 5 [(0, .int (nI 6)), (1, .int (nI z))] := hl
  have hx := C.1
  have hb := C.2.1
  have hown := C.2.2.2.2.1
  have hts := C.2.2.2.2.2.1
  have hK := C.2.2.2.2.2.2.2.2.1
  have hZ := C.2.2.2.2.2.2.2.2.2.1
  have hN := C.2.2.2.2.2.2.2.2.2.2
  have hS : va_S A s.heap s.heap [] := va_S.rf
  refine lv_iload_n hx hb dX4_plainOf_0 rfl (lv_at hl 0 rfl) ?_
  refine lv_iconst (v := nI 3) hx hb dX4_plainOf_1 (by decide) ?_
  refine lv_icmp_ge (tgt := 23) hx hb dX4_plainOf_2 (by decide) (fun c1 => ?_) (fun c1 => absurd (by decide) c1)
  refine lv_iload_n hx hb dX4_plainOf_23 rfl (lv_at hl 0 rfl) ?_
  refine lv_iconst (v := nI 3) hx hb dX4_plainOf_24 (by decide) ?_
  refine lv_irem hx hb dX4_plainOf_25 (by decide) ?_
  refine tp_i (y := nI 0) (by decide) ?_
  refine lv_if_ne (tgt := 33) hx hb dX4_plainOf_26 (by decide) (fun c2 => absurd (by decide) c2) (fun c2 => ?_)
  refine lv_iconst (v := nI 4) hx hb dX4_plainOf_29 (by decide) ?_
  refine lv_goto (tgt := 45) hx hb dX4_plainOf_30 (by decide) ?_
  refine lv_istore_n (lv' := [(2, .int (nI 4)), (0, .int (nI 6)), (1, .int (nI z))]) hx hb dX4_plainOf_45 rfl hl (by decide) rfl (fun ls hl => ?_)
  refine lv_iload_n hx hb dX4_plainOf_46 rfl (lv_at hl 0 rfl) ?_
  refine lv_iconst (v := nI 1) hx hb dX4_plainOf_47 (by decide) ?_
  refine lv_icmp_ne (tgt := 55) hx hb dX4_plainOf_48 (by decide) (fun c3 => ?_) (fun c3 => absurd c3 (by decide))
  refine lv_iconst (v := nI 1) hx hb dX4_plainOf_55 (by decide) ?_
  refine lv_istore_n (lv' := [(3, .int (nI 1)), (2, .int (nI 4)), (0, .int (nI 6)), (1, .int (nI z))]) hx hb dX4_plainOf_56 rfl hl (by decide) rfl (fun ls hl => ?_)
  refine lv_bipush (v := nI 7) hx hb dX4_plainOf_57 (by decide) ?_
  refine lv_iload_n hx hb dX4_plainOf_59 rfl (lv_at hl 1 rfl) ?_
  refine lv_isub hx hb dX4_plainOf_60 ?_
  refine tp_i (y := nI 3) (by decide) ?_
  refine lv_iload_n hx hb dX4_plainOf_61 rfl (lv_at hl 0 rfl) ?_
  refine lv_isub hx hb dX4_plainOf_62 ?_
  refine tp_i (y := nI 2) (by decide) ?_
  refine lv_istore (lv' := [(4, .int (nI 2)), (3, .int (nI 1)), (2, .int (nI 4)), (0, .int (nI 6)), (1, .int (nI z))]) hx hb dX4_plainOf_63 hl (by decide) rfl (fun ls hl => ?_)
  refine lv_iload_n hx hb dX4_plainOf_65 rfl (lv_at hl 3 rfl) ?_
  refine lv_bipush (v := nI 6) hx hb dX4_plainOf_66 (by decide) ?_
  refine lv_icmp_ge (tgt := 93) hx hb dX4_plainOf_68 (by decide) (fun c4 => ?_) (fun c4 => absurd (by decide) c4)
  refine lv_iload_n hx hb dX4_plainOf_93 rfl (lv_at hl 4 rfl) ?_
  refine lv_iload_n hx hb dX4_plainOf_94 rfl (lv_at hl 1 rfl) ?_
  refine lv_iload_n hx hb dX4_plainOf_95 rfl (lv_at hl 2 rfl) ?_
  refine lv_iadd hx hb dX4_plainOf_96 ?_
  refine tp_i (y := nI 5) (by decide) ?_
  refine fw_i C hD hS (rn_S (As := [.int (nI z), .int (nI 5)]) (rest := []) C (c_X4_bit D k t l (nI z) (nI 5) _) (va_cwS 2 hts gX4_plainOf_X4_bit rfl rfl rfl hdX4_bit ⟨Nat.le_of_ble_eq_true rfl, Nat.le_of_ble_eq_true rfl⟩) hP hD hS rfl hl.1 rfl (Nat.le_of_ble_eq_true rfl) dX4_plainOf_97 ⟨Nat.zero_le _, Nat.zero_le _⟩) (fun r5 wr5 H locs h6 hP hD hS => ?_)
  obtain ⟨rfl, hw0⟩ := h6
  obtain rfl := hw0.symm
  refine lv_iload_n hx hb dX4_plainOf_100 rfl (lv_at hl 4 rfl) ?_
  refine lv_iload hx hb dX4_plainOf_101 (lv_at hl 0 rfl) ?_
  refine lv_iload_n hx hb dX4_plainOf_103 rfl (lv_at hl 2 rfl) ?_
  refine lv_iadd hx hb dX4_plainOf_104 ?_
  refine tp_i (y := nI 6) (by decide) ?_
  refine fw_i C hD hS (rn_S (As := [.int (nI z), .int (nI 6)]) (rest := [.int (f_bit (nI z) (nI 5))]) C (c_X4_bit D k t l (nI z) (nI 6) _) (va_cwS 2 hts gX4_plainOf_X4_bit rfl rfl rfl hdX4_bit ⟨Nat.le_of_ble_eq_true rfl, Nat.le_of_ble_eq_true rfl⟩) hP hD hS rfl hl.1 rfl (Nat.le_of_ble_eq_true rfl) dX4_plainOf_105 ⟨Nat.zero_le _, Nat.zero_le _⟩) (fun r7 wr7 H locs h8 hP hD hS => ?_)
  obtain ⟨rfl, hw0⟩ := h8
  obtain rfl := hw0.symm
  refine lv_iadd hx hb dX4_plainOf_108 ?_
  refine lv_iload_n hx hb dX4_plainOf_109 rfl (lv_at hl 4 rfl) ?_
  refine lv_bipush (v := nI 7) hx hb dX4_plainOf_110 (by decide) ?_
  refine fw_i C hD hS (rn_S (As := [.int (nI z), .int (nI 7)]) (rest := [.int ((f_bit (nI z) (nI 5)) + (f_bit (nI z) (nI 6)))]) C (c_X4_bit D k t l (nI z) (nI 7) _) (va_cwS 2 hts gX4_plainOf_X4_bit rfl rfl rfl hdX4_bit ⟨Nat.le_of_ble_eq_true rfl, Nat.le_of_ble_eq_true rfl⟩) hP hD hS rfl hl.1 rfl (Nat.le_of_ble_eq_true rfl) dX4_plainOf_112 ⟨Nat.zero_le _, Nat.zero_le _⟩) (fun r9 wr9 H locs h10 hP hD hS => ?_)
  obtain ⟨rfl, hw0⟩ := h10
  obtain rfl := hw0.symm
  refine lv_isub hx hb dX4_plainOf_115 ?_
  refine lv_iload_n hx hb dX4_plainOf_116 rfl (lv_at hl 4 rfl) ?_
  refine lv_iload_n hx hb dX4_plainOf_117 rfl (lv_at hl 2 rfl) ?_
  refine fw_i C hD hS (rn_S (As := [.int (nI z), .int (nI 4)]) (rest := [.int (((f_bit (nI z) (nI 5)) + (f_bit (nI z) (nI 6))) - (f_bit (nI z) (nI 7)))]) C (c_X4_bit D k t l (nI z) (nI 4) _) (va_cwS 2 hts gX4_plainOf_X4_bit rfl rfl rfl hdX4_bit ⟨Nat.le_of_ble_eq_true rfl, Nat.le_of_ble_eq_true rfl⟩) hP hD hS rfl hl.1 rfl (Nat.le_of_ble_eq_true rfl) dX4_plainOf_118 ⟨Nat.zero_le _, Nat.zero_le _⟩) (fun r11 wr11 H locs h12 hP hD hS => ?_)
  obtain ⟨rfl, hw0⟩ := h12
  obtain rfl := hw0.symm
  refine lv_isub hx hb dX4_plainOf_121 ?_
  exact Ri C hP hD hS (Nat.zero_le _) (Nat.zero_le _) dX4_plainOf_122 (⟨plain_6 z hz, rfl⟩)

theorem plain_7 : ∀ z, z < 8 → (((f_bit (nI z) (nI 3)) + (f_bit (nI z) (nI 6))) - (f_bit (nI z) (nI 7))) - (f_bit (nI z) (nI 2)) = plr 7 z := by decide +kernel
set_option maxHeartbeats 4000000 in
set_option maxRecDepth 100000 in
theorem c_plainOf_7 (D : va_G) (k : Nat → ClassId) (t : Nat → Nat) (l : Launch) {ws : va_W} {z : Nat} (hz : z < 8) : Ci D k t l yX4_plainOf wsX4_plainOf ({ frames := 1, cells := 0, slots := 0, locals := 30 }) [.int (nI 7), .int (nI z)] (ws) (fun r w => r = plr 7 z ∧ w = ws) 0 0 := by
  refine fw_of (cc := cX4_plainOf) (maxL := 5) (ret := (some .int)) (Qc := fun A => va_Qi (fun r w => r = plr 7 z ∧ w = ws) (BcW D A) A) (by decide) rfl (Nat.le_of_ble_eq_true rfl) ?_
  intro p e s m below meth c A ls C hP hD hl
  have C : Cx RX4 "plainOf" cX4_plainOf 5 (some .int) wsX4_plainOf D k t A p s m ([.int (nI 7), .int (nI z)] : List Value).toArray meth c := C
  have hl : lv_has ls 5 [(0, .int (nI 7)), (1, .int (nI z))] := hl
  have hx := C.1
  have hb := C.2.1
  have hown := C.2.2.2.2.1
  have hts := C.2.2.2.2.2.1
  have hK := C.2.2.2.2.2.2.2.2.1
  have hZ := C.2.2.2.2.2.2.2.2.2.1
  have hN := C.2.2.2.2.2.2.2.2.2.2
  have hS : va_S A s.heap s.heap [] := va_S.rf
  refine lv_iload_n hx hb dX4_plainOf_0 rfl (lv_at hl 0 rfl) ?_
  refine lv_iconst (v := nI 3) hx hb dX4_plainOf_1 (by decide) ?_
  refine lv_icmp_ge (tgt := 23) hx hb dX4_plainOf_2 (by decide) (fun c1 => ?_) (fun c1 => absurd (by decide) c1)
  refine lv_iload_n hx hb dX4_plainOf_23 rfl (lv_at hl 0 rfl) ?_
  refine lv_iconst (v := nI 3) hx hb dX4_plainOf_24 (by decide) ?_
  refine lv_irem hx hb dX4_plainOf_25 (by decide) ?_
  refine tp_i (y := nI 1) (by decide) ?_
  refine lv_if_ne (tgt := 33) hx hb dX4_plainOf_26 (by decide) (fun c2 => ?_) (fun c2 => absurd c2 (by decide))
  refine lv_iload_n hx hb dX4_plainOf_33 rfl (lv_at hl 0 rfl) ?_
  refine lv_iconst (v := nI 3) hx hb dX4_plainOf_34 (by decide) ?_
  refine lv_irem hx hb dX4_plainOf_35 (by decide) ?_
  refine tp_i (y := nI 1) (by decide) ?_
  refine lv_iconst (v := nI 1) hx hb dX4_plainOf_36 (by decide) ?_
  refine lv_icmp_ne (tgt := 44) hx hb dX4_plainOf_37 (by decide) (fun c3 => absurd (by decide) c3) (fun c3 => ?_)
  refine lv_iconst (v := nI 2) hx hb dX4_plainOf_40 (by decide) ?_
  refine lv_goto (tgt := 45) hx hb dX4_plainOf_41 (by decide) ?_
  refine lv_istore_n (lv' := [(2, .int (nI 2)), (0, .int (nI 7)), (1, .int (nI z))]) hx hb dX4_plainOf_45 rfl hl (by decide) rfl (fun ls hl => ?_)
  refine lv_iload_n hx hb dX4_plainOf_46 rfl (lv_at hl 0 rfl) ?_
  refine lv_iconst (v := nI 1) hx hb dX4_plainOf_47 (by decide) ?_
  refine lv_icmp_ne (tgt := 55) hx hb dX4_plainOf_48 (by decide) (fun c4 => ?_) (fun c4 => absurd c4 (by decide))
  refine lv_iconst (v := nI 1) hx hb dX4_plainOf_55 (by decide) ?_
  refine lv_istore_n (lv' := [(3, .int (nI 1)), (2, .int (nI 2)), (0, .int (nI 7)), (1, .int (nI z))]) hx hb dX4_plainOf_56 rfl hl (by decide) rfl (fun ls hl => ?_)
  refine lv_bipush (v := nI 7) hx hb dX4_plainOf_57 (by decide) ?_
  refine lv_iload_n hx hb dX4_plainOf_59 rfl (lv_at hl 1 rfl) ?_
  refine lv_isub hx hb dX4_plainOf_60 ?_
  refine tp_i (y := nI 5) (by decide) ?_
  refine lv_iload_n hx hb dX4_plainOf_61 rfl (lv_at hl 0 rfl) ?_
  refine lv_isub hx hb dX4_plainOf_62 ?_
  refine tp_i (y := nI 4) (by decide) ?_
  refine lv_istore (lv' := [(4, .int (nI 4)), (3, .int (nI 1)), (2, .int (nI 2)), (0, .int (nI 7)), (1, .int (nI z))]) hx hb dX4_plainOf_63 hl (by decide) rfl (fun ls hl => ?_)
  refine lv_iload_n hx hb dX4_plainOf_65 rfl (lv_at hl 3 rfl) ?_
  refine lv_bipush (v := nI 6) hx hb dX4_plainOf_66 (by decide) ?_
  refine lv_icmp_ge (tgt := 93) hx hb dX4_plainOf_68 (by decide) (fun c5 => ?_) (fun c5 => absurd (by decide) c5)
  refine lv_iload_n hx hb dX4_plainOf_93 rfl (lv_at hl 4 rfl) ?_
  refine lv_iload_n hx hb dX4_plainOf_94 rfl (lv_at hl 1 rfl) ?_
  refine lv_iload_n hx hb dX4_plainOf_95 rfl (lv_at hl 2 rfl) ?_
  refine lv_iadd hx hb dX4_plainOf_96 ?_
  refine tp_i (y := nI 3) (by decide) ?_
  refine fw_i C hD hS (rn_S (As := [.int (nI z), .int (nI 3)]) (rest := []) C (c_X4_bit D k t l (nI z) (nI 3) _) (va_cwS 2 hts gX4_plainOf_X4_bit rfl rfl rfl hdX4_bit ⟨Nat.le_of_ble_eq_true rfl, Nat.le_of_ble_eq_true rfl⟩) hP hD hS rfl hl.1 rfl (Nat.le_of_ble_eq_true rfl) dX4_plainOf_97 ⟨Nat.zero_le _, Nat.zero_le _⟩) (fun r6 wr6 H locs h7 hP hD hS => ?_)
  obtain ⟨rfl, hw0⟩ := h7
  obtain rfl := hw0.symm
  refine lv_iload_n hx hb dX4_plainOf_100 rfl (lv_at hl 4 rfl) ?_
  refine lv_iload hx hb dX4_plainOf_101 (lv_at hl 0 rfl) ?_
  refine lv_iload_n hx hb dX4_plainOf_103 rfl (lv_at hl 2 rfl) ?_
  refine lv_iadd hx hb dX4_plainOf_104 ?_
  refine tp_i (y := nI 6) (by decide) ?_
  refine fw_i C hD hS (rn_S (As := [.int (nI z), .int (nI 6)]) (rest := [.int (f_bit (nI z) (nI 3))]) C (c_X4_bit D k t l (nI z) (nI 6) _) (va_cwS 2 hts gX4_plainOf_X4_bit rfl rfl rfl hdX4_bit ⟨Nat.le_of_ble_eq_true rfl, Nat.le_of_ble_eq_true rfl⟩) hP hD hS rfl hl.1 rfl (Nat.le_of_ble_eq_true rfl) dX4_plainOf_105 ⟨Nat.zero_le _, Nat.zero_le _⟩) (fun r8 wr8 H locs h9 hP hD hS => ?_)
  obtain ⟨rfl, hw0⟩ := h9
  obtain rfl := hw0.symm
  refine lv_iadd hx hb dX4_plainOf_108 ?_
  refine lv_iload_n hx hb dX4_plainOf_109 rfl (lv_at hl 4 rfl) ?_
  refine lv_bipush (v := nI 7) hx hb dX4_plainOf_110 (by decide) ?_
  refine fw_i C hD hS (rn_S (As := [.int (nI z), .int (nI 7)]) (rest := [.int ((f_bit (nI z) (nI 3)) + (f_bit (nI z) (nI 6)))]) C (c_X4_bit D k t l (nI z) (nI 7) _) (va_cwS 2 hts gX4_plainOf_X4_bit rfl rfl rfl hdX4_bit ⟨Nat.le_of_ble_eq_true rfl, Nat.le_of_ble_eq_true rfl⟩) hP hD hS rfl hl.1 rfl (Nat.le_of_ble_eq_true rfl) dX4_plainOf_112 ⟨Nat.zero_le _, Nat.zero_le _⟩) (fun r10 wr10 H locs h11 hP hD hS => ?_)
  obtain ⟨rfl, hw0⟩ := h11
  obtain rfl := hw0.symm
  refine lv_isub hx hb dX4_plainOf_115 ?_
  refine lv_iload_n hx hb dX4_plainOf_116 rfl (lv_at hl 4 rfl) ?_
  refine lv_iload_n hx hb dX4_plainOf_117 rfl (lv_at hl 2 rfl) ?_
  refine fw_i C hD hS (rn_S (As := [.int (nI z), .int (nI 2)]) (rest := [.int (((f_bit (nI z) (nI 3)) + (f_bit (nI z) (nI 6))) - (f_bit (nI z) (nI 7)))]) C (c_X4_bit D k t l (nI z) (nI 2) _) (va_cwS 2 hts gX4_plainOf_X4_bit rfl rfl rfl hdX4_bit ⟨Nat.le_of_ble_eq_true rfl, Nat.le_of_ble_eq_true rfl⟩) hP hD hS rfl hl.1 rfl (Nat.le_of_ble_eq_true rfl) dX4_plainOf_118 ⟨Nat.zero_le _, Nat.zero_le _⟩) (fun r12 wr12 H locs h13 hP hD hS => ?_)
  obtain ⟨rfl, hw0⟩ := h13
  obtain rfl := hw0.symm
  refine lv_isub hx hb dX4_plainOf_121 ?_
  exact Ri C hP hD hS (Nat.zero_le _) (Nat.zero_le _) dX4_plainOf_122 (⟨plain_7 z hz, rfl⟩)

theorem plain_8 : ∀ z, z < 8 → (((f_bit (nI z) (nI 3)) + (f_bit (nI z) (nI 5))) - (f_bit (nI z) (nI 7))) - (f_bit (nI z) (nI 1)) = plr 8 z := by decide +kernel
set_option maxHeartbeats 4000000 in
set_option maxRecDepth 100000 in
theorem c_plainOf_8 (D : va_G) (k : Nat → ClassId) (t : Nat → Nat) (l : Launch) {ws : va_W} {z : Nat} (hz : z < 8) : Ci D k t l yX4_plainOf wsX4_plainOf ({ frames := 1, cells := 0, slots := 0, locals := 30 }) [.int (nI 8), .int (nI z)] (ws) (fun r w => r = plr 8 z ∧ w = ws) 0 0 := by
  refine fw_of (cc := cX4_plainOf) (maxL := 5) (ret := (some .int)) (Qc := fun A => va_Qi (fun r w => r = plr 8 z ∧ w = ws) (BcW D A) A) (by decide) rfl (Nat.le_of_ble_eq_true rfl) ?_
  intro p e s m below meth c A ls C hP hD hl
  have C : Cx RX4 "plainOf" cX4_plainOf 5 (some .int) wsX4_plainOf D k t A p s m ([.int (nI 8), .int (nI z)] : List Value).toArray meth c := C
  have hl : lv_has ls 5 [(0, .int (nI 8)), (1, .int (nI z))] := hl
  have hx := C.1
  have hb := C.2.1
  have hown := C.2.2.2.2.1
  have hts := C.2.2.2.2.2.1
  have hK := C.2.2.2.2.2.2.2.2.1
  have hZ := C.2.2.2.2.2.2.2.2.2.1
  have hN := C.2.2.2.2.2.2.2.2.2.2
  have hS : va_S A s.heap s.heap [] := va_S.rf
  refine lv_iload_n hx hb dX4_plainOf_0 rfl (lv_at hl 0 rfl) ?_
  refine lv_iconst (v := nI 3) hx hb dX4_plainOf_1 (by decide) ?_
  refine lv_icmp_ge (tgt := 23) hx hb dX4_plainOf_2 (by decide) (fun c1 => ?_) (fun c1 => absurd (by decide) c1)
  refine lv_iload_n hx hb dX4_plainOf_23 rfl (lv_at hl 0 rfl) ?_
  refine lv_iconst (v := nI 3) hx hb dX4_plainOf_24 (by decide) ?_
  refine lv_irem hx hb dX4_plainOf_25 (by decide) ?_
  refine tp_i (y := nI 2) (by decide) ?_
  refine lv_if_ne (tgt := 33) hx hb dX4_plainOf_26 (by decide) (fun c2 => ?_) (fun c2 => absurd c2 (by decide))
  refine lv_iload_n hx hb dX4_plainOf_33 rfl (lv_at hl 0 rfl) ?_
  refine lv_iconst (v := nI 3) hx hb dX4_plainOf_34 (by decide) ?_
  refine lv_irem hx hb dX4_plainOf_35 (by decide) ?_
  refine tp_i (y := nI 2) (by decide) ?_
  refine lv_iconst (v := nI 1) hx hb dX4_plainOf_36 (by decide) ?_
  refine lv_icmp_ne (tgt := 44) hx hb dX4_plainOf_37 (by decide) (fun c3 => ?_) (fun c3 => absurd c3 (by decide))
  refine lv_iconst (v := nI 1) hx hb dX4_plainOf_44 (by decide) ?_
  refine lv_istore_n (lv' := [(2, .int (nI 1)), (0, .int (nI 8)), (1, .int (nI z))]) hx hb dX4_plainOf_45 rfl hl (by decide) rfl (fun ls hl => ?_)
  refine lv_iload_n hx hb dX4_plainOf_46 rfl (lv_at hl 0 rfl) ?_
  refine lv_iconst (v := nI 1) hx hb dX4_plainOf_47 (by decide) ?_
  refine lv_icmp_ne (tgt := 55) hx hb dX4_plainOf_48 (by decide) (fun c4 => absurd (by decide) c4) (fun c4 => ?_)
  refine lv_iconst (v := nI 2) hx hb dX4_plainOf_51 (by decide) ?_
  refine lv_goto (tgt := 56) hx hb dX4_plainOf_52 (by decide) ?_
  refine lv_istore_n (lv' := [(3, .int (nI 2)), (2, .int (nI 1)), (0, .int (nI 8)), (1, .int (nI z))]) hx hb dX4_plainOf_56 rfl hl (by decide) rfl (fun ls hl => ?_)
  refine lv_bipush (v := nI 7) hx hb dX4_plainOf_57 (by decide) ?_
  refine lv_iload_n hx hb dX4_plainOf_59 rfl (lv_at hl 1 rfl) ?_
  refine lv_isub hx hb dX4_plainOf_60 ?_
  refine tp_i (y := nI 6) (by decide) ?_
  refine lv_iload_n hx hb dX4_plainOf_61 rfl (lv_at hl 0 rfl) ?_
  refine lv_isub hx hb dX4_plainOf_62 ?_
  refine tp_i (y := nI 4) (by decide) ?_
  refine lv_istore (lv' := [(4, .int (nI 4)), (3, .int (nI 2)), (2, .int (nI 1)), (0, .int (nI 8)), (1, .int (nI z))]) hx hb dX4_plainOf_63 hl (by decide) rfl (fun ls hl => ?_)
  refine lv_iload_n hx hb dX4_plainOf_65 rfl (lv_at hl 3 rfl) ?_
  refine lv_bipush (v := nI 6) hx hb dX4_plainOf_66 (by decide) ?_
  refine lv_icmp_ge (tgt := 93) hx hb dX4_plainOf_68 (by decide) (fun c5 => ?_) (fun c5 => absurd (by decide) c5)
  refine lv_iload_n hx hb dX4_plainOf_93 rfl (lv_at hl 4 rfl) ?_
  refine lv_iload_n hx hb dX4_plainOf_94 rfl (lv_at hl 1 rfl) ?_
  refine lv_iload_n hx hb dX4_plainOf_95 rfl (lv_at hl 2 rfl) ?_
  refine lv_iadd hx hb dX4_plainOf_96 ?_
  refine tp_i (y := nI 3) (by decide) ?_
  refine fw_i C hD hS (rn_S (As := [.int (nI z), .int (nI 3)]) (rest := []) C (c_X4_bit D k t l (nI z) (nI 3) _) (va_cwS 2 hts gX4_plainOf_X4_bit rfl rfl rfl hdX4_bit ⟨Nat.le_of_ble_eq_true rfl, Nat.le_of_ble_eq_true rfl⟩) hP hD hS rfl hl.1 rfl (Nat.le_of_ble_eq_true rfl) dX4_plainOf_97 ⟨Nat.zero_le _, Nat.zero_le _⟩) (fun r6 wr6 H locs h7 hP hD hS => ?_)
  obtain ⟨rfl, hw0⟩ := h7
  obtain rfl := hw0.symm
  refine lv_iload_n hx hb dX4_plainOf_100 rfl (lv_at hl 4 rfl) ?_
  refine lv_iload hx hb dX4_plainOf_101 (lv_at hl 0 rfl) ?_
  refine lv_iload_n hx hb dX4_plainOf_103 rfl (lv_at hl 2 rfl) ?_
  refine lv_iadd hx hb dX4_plainOf_104 ?_
  refine tp_i (y := nI 5) (by decide) ?_
  refine fw_i C hD hS (rn_S (As := [.int (nI z), .int (nI 5)]) (rest := [.int (f_bit (nI z) (nI 3))]) C (c_X4_bit D k t l (nI z) (nI 5) _) (va_cwS 2 hts gX4_plainOf_X4_bit rfl rfl rfl hdX4_bit ⟨Nat.le_of_ble_eq_true rfl, Nat.le_of_ble_eq_true rfl⟩) hP hD hS rfl hl.1 rfl (Nat.le_of_ble_eq_true rfl) dX4_plainOf_105 ⟨Nat.zero_le _, Nat.zero_le _⟩) (fun r8 wr8 H locs h9 hP hD hS => ?_)
  obtain ⟨rfl, hw0⟩ := h9
  obtain rfl := hw0.symm
  refine lv_iadd hx hb dX4_plainOf_108 ?_
  refine lv_iload_n hx hb dX4_plainOf_109 rfl (lv_at hl 4 rfl) ?_
  refine lv_bipush (v := nI 7) hx hb dX4_plainOf_110 (by decide) ?_
  refine fw_i C hD hS (rn_S (As := [.int (nI z), .int (nI 7)]) (rest := [.int ((f_bit (nI z) (nI 3)) + (f_bit (nI z) (nI 5)))]) C (c_X4_bit D k t l (nI z) (nI 7) _) (va_cwS 2 hts gX4_plainOf_X4_bit rfl rfl rfl hdX4_bit ⟨Nat.le_of_ble_eq_true rfl, Nat.le_of_ble_eq_true rfl⟩) hP hD hS rfl hl.1 rfl (Nat.le_of_ble_eq_true rfl) dX4_plainOf_112 ⟨Nat.zero_le _, Nat.zero_le _⟩) (fun r10 wr10 H locs h11 hP hD hS => ?_)
  obtain ⟨rfl, hw0⟩ := h11
  obtain rfl := hw0.symm
  refine lv_isub hx hb dX4_plainOf_115 ?_
  refine lv_iload_n hx hb dX4_plainOf_116 rfl (lv_at hl 4 rfl) ?_
  refine lv_iload_n hx hb dX4_plainOf_117 rfl (lv_at hl 2 rfl) ?_
  refine fw_i C hD hS (rn_S (As := [.int (nI z), .int (nI 1)]) (rest := [.int (((f_bit (nI z) (nI 3)) + (f_bit (nI z) (nI 5))) - (f_bit (nI z) (nI 7)))]) C (c_X4_bit D k t l (nI z) (nI 1) _) (va_cwS 2 hts gX4_plainOf_X4_bit rfl rfl rfl hdX4_bit ⟨Nat.le_of_ble_eq_true rfl, Nat.le_of_ble_eq_true rfl⟩) hP hD hS rfl hl.1 rfl (Nat.le_of_ble_eq_true rfl) dX4_plainOf_118 ⟨Nat.zero_le _, Nat.zero_le _⟩) (fun r12 wr12 H locs h13 hP hD hS => ?_)
  obtain ⟨rfl, hw0⟩ := h13
  obtain rfl := hw0.symm
  refine lv_isub hx hb dX4_plainOf_121 ?_
  exact Ri C hP hD hS (Nat.zero_le _) (Nat.zero_le _) dX4_plainOf_122 (⟨plain_8 z hz, rfl⟩)

theorem c_plainOf (D : va_G) (k : Nat → ClassId) (t : Nat → Nat) (l : Launch) {ws : va_W} {z p0 : Nat} (hp : p0 < 9) (hz : z < 8) : Ci D k t l yX4_plainOf wsX4_plainOf ({ frames := 1, cells := 0, slots := 0, locals := 30 }) [.int (nI p0), .int (nI z)] ws (fun r w => r = plr p0 z ∧ w = ws) 0 0 := match p0, hp with
  | 0, _ => c_plainOf_0 D k t l hz
  | 1, _ => c_plainOf_1 D k t l hz
  | 2, _ => c_plainOf_2 D k t l hz
  | 3, _ => c_plainOf_3 D k t l hz
  | 4, _ => c_plainOf_4 D k t l hz
  | 5, _ => c_plainOf_5 D k t l hz
  | 6, _ => c_plainOf_6 D k t l hz
  | 7, _ => c_plainOf_7 D k t l hz
  | 8, _ => c_plainOf_8 D k t l hz
theorem row_0_1 : ∀ z, z < 8 → 1 ≤ z → ((nI z) >>> ((nI 0) &&& 31)) &&& (nI 1) = tb_rows.getD (0 * 8 + z) 0 := by decide +kernel
set_option maxHeartbeats 4000000 in
set_option maxRecDepth 100000 in
theorem c_rowOf_0 (D : va_G) (k : Nat → ClassId) (t : Nat → Nat) (l : Launch) {ws : va_W} {z : Nat} (hz : z < 8) (h1z : 1 ≤ z) : Ci D k t l yX4_rowOf wsX4_rowOf ({ frames := 0, cells := 0, slots := 0, locals := 0 }) [.int (nI 0), .int (nI z)] (ws) (fun r w => r = tb_rows.getD (0 * 8 + z) 0 ∧ w = ws) 0 0 := by
  refine fw_of (cc := cX4_rowOf) (maxL := 3) (ret := (some .int)) (Qc := fun A => va_Qi (fun r w => r = tb_rows.getD (0 * 8 + z) 0 ∧ w = ws) (BcW D A) A) (by decide) rfl (Nat.le_of_ble_eq_true rfl) ?_
  intro p e s m below meth c A ls C hP hD hl
  have C : Cx RX4 "rowOf" cX4_rowOf 3 (some .int) wsX4_rowOf D k t A p s m ([.int (nI 0), .int (nI z)] : List Value).toArray meth c := C
  have hl : lv_has ls 3 [(0, .int (nI 0)), (1, .int (nI z))] := hl
  have hx := C.1
  have hb := C.2.1
  have hown := C.2.2.2.2.1
  have hts := C.2.2.2.2.2.1
  have hK := C.2.2.2.2.2.2.2.2.1
  have hZ := C.2.2.2.2.2.2.2.2.2.1
  have hN := C.2.2.2.2.2.2.2.2.2.2
  have hS : va_S A s.heap s.heap [] := va_S.rf
  refine lv_iload_n hx hb dX4_rowOf_0 rfl (lv_at hl 0 rfl) ?_
  refine lv_iconst (v := nI 3) hx hb dX4_rowOf_1 (by decide) ?_
  refine lv_icmp_ge (tgt := 11) hx hb dX4_rowOf_2 (by decide) (fun c1 => absurd c1 (by decide)) (fun c1 => ?_)
  refine lv_iload_n hx hb dX4_rowOf_5 rfl (lv_at hl 1 rfl) ?_
  refine lv_iload_n hx hb dX4_rowOf_6 rfl (lv_at hl 0 rfl) ?_
  refine lv_ishr hx hb dX4_rowOf_7 ?_
  refine lv_iconst (v := nI 1) hx hb dX4_rowOf_8 (by decide) ?_
  refine lv_iand hx hb dX4_rowOf_9 ?_
  exact Ri C hP hD hS (Nat.zero_le _) (Nat.zero_le _) dX4_rowOf_10 (⟨row_0_1 z hz h1z , rfl⟩)

theorem row_1_1 : ∀ z, z < 8 → 1 ≤ z → ((nI z) >>> ((nI 1) &&& 31)) &&& (nI 1) = tb_rows.getD (1 * 8 + z) 0 := by decide +kernel
set_option maxHeartbeats 4000000 in
set_option maxRecDepth 100000 in
theorem c_rowOf_1 (D : va_G) (k : Nat → ClassId) (t : Nat → Nat) (l : Launch) {ws : va_W} {z : Nat} (hz : z < 8) (h1z : 1 ≤ z) : Ci D k t l yX4_rowOf wsX4_rowOf ({ frames := 0, cells := 0, slots := 0, locals := 0 }) [.int (nI 1), .int (nI z)] (ws) (fun r w => r = tb_rows.getD (1 * 8 + z) 0 ∧ w = ws) 0 0 := by
  refine fw_of (cc := cX4_rowOf) (maxL := 3) (ret := (some .int)) (Qc := fun A => va_Qi (fun r w => r = tb_rows.getD (1 * 8 + z) 0 ∧ w = ws) (BcW D A) A) (by decide) rfl (Nat.le_of_ble_eq_true rfl) ?_
  intro p e s m below meth c A ls C hP hD hl
  have C : Cx RX4 "rowOf" cX4_rowOf 3 (some .int) wsX4_rowOf D k t A p s m ([.int (nI 1), .int (nI z)] : List Value).toArray meth c := C
  have hl : lv_has ls 3 [(0, .int (nI 1)), (1, .int (nI z))] := hl
  have hx := C.1
  have hb := C.2.1
  have hown := C.2.2.2.2.1
  have hts := C.2.2.2.2.2.1
  have hK := C.2.2.2.2.2.2.2.2.1
  have hZ := C.2.2.2.2.2.2.2.2.2.1
  have hN := C.2.2.2.2.2.2.2.2.2.2
  have hS : va_S A s.heap s.heap [] := va_S.rf
  refine lv_iload_n hx hb dX4_rowOf_0 rfl (lv_at hl 0 rfl) ?_
  refine lv_iconst (v := nI 3) hx hb dX4_rowOf_1 (by decide) ?_
  refine lv_icmp_ge (tgt := 11) hx hb dX4_rowOf_2 (by decide) (fun c1 => absurd c1 (by decide)) (fun c1 => ?_)
  refine lv_iload_n hx hb dX4_rowOf_5 rfl (lv_at hl 1 rfl) ?_
  refine lv_iload_n hx hb dX4_rowOf_6 rfl (lv_at hl 0 rfl) ?_
  refine lv_ishr hx hb dX4_rowOf_7 ?_
  refine lv_iconst (v := nI 1) hx hb dX4_rowOf_8 (by decide) ?_
  refine lv_iand hx hb dX4_rowOf_9 ?_
  exact Ri C hP hD hS (Nat.zero_le _) (Nat.zero_le _) dX4_rowOf_10 (⟨row_1_1 z hz h1z , rfl⟩)

theorem row_2_1 : ∀ z, z < 8 → 1 ≤ z → ((nI z) >>> ((nI 2) &&& 31)) &&& (nI 1) = tb_rows.getD (2 * 8 + z) 0 := by decide +kernel
set_option maxHeartbeats 4000000 in
set_option maxRecDepth 100000 in
theorem c_rowOf_2 (D : va_G) (k : Nat → ClassId) (t : Nat → Nat) (l : Launch) {ws : va_W} {z : Nat} (hz : z < 8) (h1z : 1 ≤ z) : Ci D k t l yX4_rowOf wsX4_rowOf ({ frames := 0, cells := 0, slots := 0, locals := 0 }) [.int (nI 2), .int (nI z)] (ws) (fun r w => r = tb_rows.getD (2 * 8 + z) 0 ∧ w = ws) 0 0 := by
  refine fw_of (cc := cX4_rowOf) (maxL := 3) (ret := (some .int)) (Qc := fun A => va_Qi (fun r w => r = tb_rows.getD (2 * 8 + z) 0 ∧ w = ws) (BcW D A) A) (by decide) rfl (Nat.le_of_ble_eq_true rfl) ?_
  intro p e s m below meth c A ls C hP hD hl
  have C : Cx RX4 "rowOf" cX4_rowOf 3 (some .int) wsX4_rowOf D k t A p s m ([.int (nI 2), .int (nI z)] : List Value).toArray meth c := C
  have hl : lv_has ls 3 [(0, .int (nI 2)), (1, .int (nI z))] := hl
  have hx := C.1
  have hb := C.2.1
  have hown := C.2.2.2.2.1
  have hts := C.2.2.2.2.2.1
  have hK := C.2.2.2.2.2.2.2.2.1
  have hZ := C.2.2.2.2.2.2.2.2.2.1
  have hN := C.2.2.2.2.2.2.2.2.2.2
  have hS : va_S A s.heap s.heap [] := va_S.rf
  refine lv_iload_n hx hb dX4_rowOf_0 rfl (lv_at hl 0 rfl) ?_
  refine lv_iconst (v := nI 3) hx hb dX4_rowOf_1 (by decide) ?_
  refine lv_icmp_ge (tgt := 11) hx hb dX4_rowOf_2 (by decide) (fun c1 => absurd c1 (by decide)) (fun c1 => ?_)
  refine lv_iload_n hx hb dX4_rowOf_5 rfl (lv_at hl 1 rfl) ?_
  refine lv_iload_n hx hb dX4_rowOf_6 rfl (lv_at hl 0 rfl) ?_
  refine lv_ishr hx hb dX4_rowOf_7 ?_
  refine lv_iconst (v := nI 1) hx hb dX4_rowOf_8 (by decide) ?_
  refine lv_iand hx hb dX4_rowOf_9 ?_
  exact Ri C hP hD hS (Nat.zero_le _) (Nat.zero_le _) dX4_rowOf_10 (⟨row_2_1 z hz h1z , rfl⟩)

theorem row_3_1 : ∀ z, z < 8 → 1 ≤ z → (nI z &&& nI 3 = 0) → nI 0 = tb_rows.getD (3 * 8 + z) 0 := by decide +kernel
theorem row_3_2 : ∀ z, z < 8 → 1 ≤ z → (¬ (nI z &&& nI 3 = 0)) → nI 1 = tb_rows.getD (3 * 8 + z) 0 := by decide +kernel
set_option maxHeartbeats 4000000 in
set_option maxRecDepth 100000 in
theorem c_rowOf_3 (D : va_G) (k : Nat → ClassId) (t : Nat → Nat) (l : Launch) {ws : va_W} {z : Nat} (hz : z < 8) (h1z : 1 ≤ z) : Ci D k t l yX4_rowOf wsX4_rowOf ({ frames := 0, cells := 0, slots := 0, locals := 0 }) [.int (nI 3), .int (nI z)] (ws) (fun r w => r = tb_rows.getD (3 * 8 + z) 0 ∧ w = ws) 0 0 := by
  refine fw_of (cc := cX4_rowOf) (maxL := 3) (ret := (some .int)) (Qc := fun A => va_Qi (fun r w => r = tb_rows.getD (3 * 8 + z) 0 ∧ w = ws) (BcW D A) A) (by decide) rfl (Nat.le_of_ble_eq_true rfl) ?_
  intro p e s m below meth c A ls C hP hD hl
  have C : Cx RX4 "rowOf" cX4_rowOf 3 (some .int) wsX4_rowOf D k t A p s m ([.int (nI 3), .int (nI z)] : List Value).toArray meth c := C
  have hl : lv_has ls 3 [(0, .int (nI 3)), (1, .int (nI z))] := hl
  have hx := C.1
  have hb := C.2.1
  have hown := C.2.2.2.2.1
  have hts := C.2.2.2.2.2.1
  have hK := C.2.2.2.2.2.2.2.2.1
  have hZ := C.2.2.2.2.2.2.2.2.2.1
  have hN := C.2.2.2.2.2.2.2.2.2.2
  have hS : va_S A s.heap s.heap [] := va_S.rf
  refine lv_iload_n hx hb dX4_rowOf_0 rfl (lv_at hl 0 rfl) ?_
  refine lv_iconst (v := nI 3) hx hb dX4_rowOf_1 (by decide) ?_
  refine lv_icmp_ge (tgt := 11) hx hb dX4_rowOf_2 (by decide) (fun c1 => ?_) (fun c1 => absurd (by decide) c1)
  refine lv_iload_n hx hb dX4_rowOf_11 rfl (lv_at hl 0 rfl) ?_
  refine lv_iconst (v := nI 3) hx hb dX4_rowOf_12 (by decide) ?_
  refine lv_icmp_ne (tgt := 20) hx hb dX4_rowOf_13 (by decide) (fun c2 => absurd (by decide) c2) (fun c2 => ?_)
  refine lv_iconst (v := nI 3) hx hb dX4_rowOf_16 (by decide) ?_
  refine lv_goto (tgt := 31) hx hb dX4_rowOf_17 (by decide) ?_
  refine lv_istore_n (lv' := [(2, .int (nI 3)), (0, .int (nI 3)), (1, .int (nI z))]) hx hb dX4_rowOf_31 rfl hl (by decide) rfl (fun ls hl => ?_)
  refine lv_iload_n hx hb dX4_rowOf_32 rfl (lv_at hl 1 rfl) ?_
  refine lv_bipush (v := nI 6) hx hb dX4_rowOf_33 (by decide) ?_
  refine lv_icmp_ge (tgt := 50) hx hb dX4_rowOf_35 (by decide) (fun c3 => absurd c3 (by decide)) (fun c3 => ?_)
  refine lv_iload_n hx hb dX4_rowOf_38 rfl (lv_at hl 2 rfl) ?_
  refine lv_iload_n hx hb dX4_rowOf_39 rfl (lv_at hl 0 rfl) ?_
  refine lv_iand hx hb dX4_rowOf_40 ?_
  refine lv_if_eq (tgt := 48) hx hb dX4_rowOf_41 (by decide) (fun c4 => ?_) (fun c4 => ?_)
  · refine lv_iconst (v := nI 0) hx hb dX4_rowOf_48 (by decide) ?_
    exact Ri C hP hD hS (Nat.zero_le _) (Nat.zero_le _) dX4_rowOf_49 (⟨row_3_1 z hz h1z c4, rfl⟩)
  · refine lv_iconst (v := nI 1) hx hb dX4_rowOf_44 (by decide) ?_
    refine lv_goto (tgt := 49) hx hb dX4_rowOf_45 (by decide) ?_
    exact Ri C hP hD hS (Nat.zero_le _) (Nat.zero_le _) dX4_rowOf_49 (⟨row_3_2 z hz h1z c4, rfl⟩)

theorem row_4_1 : ∀ z, z < 8 → 1 ≤ z → (nI z &&& nI 5 = 0) → nI 0 = tb_rows.getD (4 * 8 + z) 0 := by decide +kernel
theorem row_4_2 : ∀ z, z < 8 → 1 ≤ z → (¬ (nI z &&& nI 5 = 0)) → nI 1 = tb_rows.getD (4 * 8 + z) 0 := by decide +kernel
set_option maxHeartbeats 4000000 in
set_option maxRecDepth 100000 in
theorem c_rowOf_4 (D : va_G) (k : Nat → ClassId) (t : Nat → Nat) (l : Launch) {ws : va_W} {z : Nat} (hz : z < 8) (h1z : 1 ≤ z) : Ci D k t l yX4_rowOf wsX4_rowOf ({ frames := 0, cells := 0, slots := 0, locals := 0 }) [.int (nI 4), .int (nI z)] (ws) (fun r w => r = tb_rows.getD (4 * 8 + z) 0 ∧ w = ws) 0 0 := by
  refine fw_of (cc := cX4_rowOf) (maxL := 3) (ret := (some .int)) (Qc := fun A => va_Qi (fun r w => r = tb_rows.getD (4 * 8 + z) 0 ∧ w = ws) (BcW D A) A) (by decide) rfl (Nat.le_of_ble_eq_true rfl) ?_
  intro p e s m below meth c A ls C hP hD hl
  have C : Cx RX4 "rowOf" cX4_rowOf 3 (some .int) wsX4_rowOf D k t A p s m ([.int (nI 4), .int (nI z)] : List Value).toArray meth c := C
  have hl : lv_has ls 3 [(0, .int (nI 4)), (1, .int (nI z))] := hl
  have hx := C.1
  have hb := C.2.1
  have hown := C.2.2.2.2.1
  have hts := C.2.2.2.2.2.1
  have hK := C.2.2.2.2.2.2.2.2.1
  have hZ := C.2.2.2.2.2.2.2.2.2.1
  have hN := C.2.2.2.2.2.2.2.2.2.2
  have hS : va_S A s.heap s.heap [] := va_S.rf
  refine lv_iload_n hx hb dX4_rowOf_0 rfl (lv_at hl 0 rfl) ?_
  refine lv_iconst (v := nI 3) hx hb dX4_rowOf_1 (by decide) ?_
  refine lv_icmp_ge (tgt := 11) hx hb dX4_rowOf_2 (by decide) (fun c1 => ?_) (fun c1 => absurd (by decide) c1)
  refine lv_iload_n hx hb dX4_rowOf_11 rfl (lv_at hl 0 rfl) ?_
  refine lv_iconst (v := nI 3) hx hb dX4_rowOf_12 (by decide) ?_
  refine lv_icmp_ne (tgt := 20) hx hb dX4_rowOf_13 (by decide) (fun c2 => ?_) (fun c2 => absurd c2 (by decide))
  refine lv_iload_n hx hb dX4_rowOf_20 rfl (lv_at hl 0 rfl) ?_
  refine lv_iconst (v := nI 4) hx hb dX4_rowOf_21 (by decide) ?_
  refine lv_icmp_ne (tgt := 29) hx hb dX4_rowOf_22 (by decide) (fun c3 => absurd (by decide) c3) (fun c3 => ?_)
  refine lv_iconst (v := nI 5) hx hb dX4_rowOf_25 (by decide) ?_
  refine lv_goto (tgt := 31) hx hb dX4_rowOf_26 (by decide) ?_
  refine lv_istore_n (lv' := [(2, .int (nI 5)), (0, .int (nI 4)), (1, .int (nI z))]) hx hb dX4_rowOf_31 rfl hl (by decide) rfl (fun ls hl => ?_)
  refine lv_iload_n hx hb dX4_rowOf_32 rfl (lv_at hl 1 rfl) ?_
  refine lv_bipush (v := nI 6) hx hb dX4_rowOf_33 (by decide) ?_
  refine lv_icmp_ge (tgt := 50) hx hb dX4_rowOf_35 (by decide) (fun c4 => absurd c4 (by decide)) (fun c4 => ?_)
  refine lv_iload_n hx hb dX4_rowOf_38 rfl (lv_at hl 2 rfl) ?_
  refine lv_iload_n hx hb dX4_rowOf_39 rfl (lv_at hl 0 rfl) ?_
  refine lv_iand hx hb dX4_rowOf_40 ?_
  refine lv_if_eq (tgt := 48) hx hb dX4_rowOf_41 (by decide) (fun c5 => ?_) (fun c5 => ?_)
  · refine lv_iconst (v := nI 0) hx hb dX4_rowOf_48 (by decide) ?_
    exact Ri C hP hD hS (Nat.zero_le _) (Nat.zero_le _) dX4_rowOf_49 (⟨row_4_1 z hz h1z c5, rfl⟩)
  · refine lv_iconst (v := nI 1) hx hb dX4_rowOf_44 (by decide) ?_
    refine lv_goto (tgt := 49) hx hb dX4_rowOf_45 (by decide) ?_
    exact Ri C hP hD hS (Nat.zero_le _) (Nat.zero_le _) dX4_rowOf_49 (⟨row_4_2 z hz h1z c5, rfl⟩)

theorem row_5_1 : ∀ z, z < 8 → 1 ≤ z → (nI z &&& nI 6 = 0) → nI 0 = tb_rows.getD (5 * 8 + z) 0 := by decide +kernel
theorem row_5_2 : ∀ z, z < 8 → 1 ≤ z → (¬ (nI z &&& nI 6 = 0)) → nI 1 = tb_rows.getD (5 * 8 + z) 0 := by decide +kernel
set_option maxHeartbeats 4000000 in
set_option maxRecDepth 100000 in
theorem c_rowOf_5 (D : va_G) (k : Nat → ClassId) (t : Nat → Nat) (l : Launch) {ws : va_W} {z : Nat} (hz : z < 8) (h1z : 1 ≤ z) : Ci D k t l yX4_rowOf wsX4_rowOf ({ frames := 0, cells := 0, slots := 0, locals := 0 }) [.int (nI 5), .int (nI z)] (ws) (fun r w => r = tb_rows.getD (5 * 8 + z) 0 ∧ w = ws) 0 0 := by
  refine fw_of (cc := cX4_rowOf) (maxL := 3) (ret := (some .int)) (Qc := fun A => va_Qi (fun r w => r = tb_rows.getD (5 * 8 + z) 0 ∧ w = ws) (BcW D A) A) (by decide) rfl (Nat.le_of_ble_eq_true rfl) ?_
  intro p e s m below meth c A ls C hP hD hl
  have C : Cx RX4 "rowOf" cX4_rowOf 3 (some .int) wsX4_rowOf D k t A p s m ([.int (nI 5), .int (nI z)] : List Value).toArray meth c := C
  have hl : lv_has ls 3 [(0, .int (nI 5)), (1, .int (nI z))] := hl
  have hx := C.1
  have hb := C.2.1
  have hown := C.2.2.2.2.1
  have hts := C.2.2.2.2.2.1
  have hK := C.2.2.2.2.2.2.2.2.1
  have hZ := C.2.2.2.2.2.2.2.2.2.1
  have hN := C.2.2.2.2.2.2.2.2.2.2
  have hS : va_S A s.heap s.heap [] := va_S.rf
  refine lv_iload_n hx hb dX4_rowOf_0 rfl (lv_at hl 0 rfl) ?_
  refine lv_iconst (v := nI 3) hx hb dX4_rowOf_1 (by decide) ?_
  refine lv_icmp_ge (tgt := 11) hx hb dX4_rowOf_2 (by decide) (fun c1 => ?_) (fun c1 => absurd (by decide) c1)
  refine lv_iload_n hx hb dX4_rowOf_11 rfl (lv_at hl 0 rfl) ?_
  refine lv_iconst (v := nI 3) hx hb dX4_rowOf_12 (by decide) ?_
  refine lv_icmp_ne (tgt := 20) hx hb dX4_rowOf_13 (by decide) (fun c2 => ?_) (fun c2 => absurd c2 (by decide))
  refine lv_iload_n hx hb dX4_rowOf_20 rfl (lv_at hl 0 rfl) ?_
  refine lv_iconst (v := nI 4) hx hb dX4_rowOf_21 (by decide) ?_
  refine lv_icmp_ne (tgt := 29) hx hb dX4_rowOf_22 (by decide) (fun c3 => ?_) (fun c3 => absurd c3 (by decide))
  refine lv_bipush (v := nI 6) hx hb dX4_rowOf_29 (by decide) ?_
  refine lv_istore_n (lv' := [(2, .int (nI 6)), (0, .int (nI 5)), (1, .int (nI z))]) hx hb dX4_rowOf_31 rfl hl (by decide) rfl (fun ls hl => ?_)
  refine lv_iload_n hx hb dX4_rowOf_32 rfl (lv_at hl 1 rfl) ?_
  refine lv_bipush (v := nI 6) hx hb dX4_rowOf_33 (by decide) ?_
  refine lv_icmp_ge (tgt := 50) hx hb dX4_rowOf_35 (by decide) (fun c4 => absurd c4 (by decide)) (fun c4 => ?_)
  refine lv_iload_n hx hb dX4_rowOf_38 rfl (lv_at hl 2 rfl) ?_
  refine lv_iload_n hx hb dX4_rowOf_39 rfl (lv_at hl 0 rfl) ?_
  refine lv_iand hx hb dX4_rowOf_40 ?_
  refine lv_if_eq (tgt := 48) hx hb dX4_rowOf_41 (by decide) (fun c5 => ?_) (fun c5 => ?_)
  · refine lv_iconst (v := nI 0) hx hb dX4_rowOf_48 (by decide) ?_
    exact Ri C hP hD hS (Nat.zero_le _) (Nat.zero_le _) dX4_rowOf_49 (⟨row_5_1 z hz h1z c5, rfl⟩)
  · refine lv_iconst (v := nI 1) hx hb dX4_rowOf_44 (by decide) ?_
    refine lv_goto (tgt := 49) hx hb dX4_rowOf_45 (by decide) ?_
    exact Ri C hP hD hS (Nat.zero_le _) (Nat.zero_le _) dX4_rowOf_49 (⟨row_5_2 z hz h1z c5, rfl⟩)

theorem row_6_1 : ∀ z, z < 8 → 1 ≤ z → nI 1 = tb_rows.getD (6 * 8 + z) 0 := by decide +kernel
set_option maxHeartbeats 4000000 in
set_option maxRecDepth 100000 in
theorem c_rowOf_6 (D : va_G) (k : Nat → ClassId) (t : Nat → Nat) (l : Launch) {ws : va_W} {z : Nat} (hz : z < 8) (h1z : 1 ≤ z) : Ci D k t l yX4_rowOf wsX4_rowOf ({ frames := 0, cells := 0, slots := 0, locals := 0 }) [.int (nI 6), .int (nI z)] (ws) (fun r w => r = tb_rows.getD (6 * 8 + z) 0 ∧ w = ws) 0 0 := by
  refine fw_of (cc := cX4_rowOf) (maxL := 3) (ret := (some .int)) (Qc := fun A => va_Qi (fun r w => r = tb_rows.getD (6 * 8 + z) 0 ∧ w = ws) (BcW D A) A) (by decide) rfl (Nat.le_of_ble_eq_true rfl) ?_
  intro p e s m below meth c A ls C hP hD hl
  have C : Cx RX4 "rowOf" cX4_rowOf 3 (some .int) wsX4_rowOf D k t A p s m ([.int (nI 6), .int (nI z)] : List Value).toArray meth c := C
  have hl : lv_has ls 3 [(0, .int (nI 6)), (1, .int (nI z))] := hl
  have hx := C.1
  have hb := C.2.1
  have hown := C.2.2.2.2.1
  have hts := C.2.2.2.2.2.1
  have hK := C.2.2.2.2.2.2.2.2.1
  have hZ := C.2.2.2.2.2.2.2.2.2.1
  have hN := C.2.2.2.2.2.2.2.2.2.2
  have hS : va_S A s.heap s.heap [] := va_S.rf
  refine lv_iload_n hx hb dX4_rowOf_0 rfl (lv_at hl 0 rfl) ?_
  refine lv_iconst (v := nI 3) hx hb dX4_rowOf_1 (by decide) ?_
  refine lv_icmp_ge (tgt := 11) hx hb dX4_rowOf_2 (by decide) (fun c1 => ?_) (fun c1 => absurd (by decide) c1)
  refine lv_iload_n hx hb dX4_rowOf_11 rfl (lv_at hl 0 rfl) ?_
  refine lv_iconst (v := nI 3) hx hb dX4_rowOf_12 (by decide) ?_
  refine lv_icmp_ne (tgt := 20) hx hb dX4_rowOf_13 (by decide) (fun c2 => ?_) (fun c2 => absurd c2 (by decide))
  refine lv_iload_n hx hb dX4_rowOf_20 rfl (lv_at hl 0 rfl) ?_
  refine lv_iconst (v := nI 4) hx hb dX4_rowOf_21 (by decide) ?_
  refine lv_icmp_ne (tgt := 29) hx hb dX4_rowOf_22 (by decide) (fun c3 => ?_) (fun c3 => absurd c3 (by decide))
  refine lv_bipush (v := nI 6) hx hb dX4_rowOf_29 (by decide) ?_
  refine lv_istore_n (lv' := [(2, .int (nI 6)), (0, .int (nI 6)), (1, .int (nI z))]) hx hb dX4_rowOf_31 rfl hl (by decide) rfl (fun ls hl => ?_)
  refine lv_iload_n hx hb dX4_rowOf_32 rfl (lv_at hl 1 rfl) ?_
  refine lv_bipush (v := nI 6) hx hb dX4_rowOf_33 (by decide) ?_
  refine lv_icmp_ge (tgt := 50) hx hb dX4_rowOf_35 (by decide) (fun c4 => ?_) (fun c4 => absurd (by decide) c4)
  refine lv_iload_n hx hb dX4_rowOf_50 rfl (lv_at hl 1 rfl) ?_
  refine lv_bipush (v := nI 6) hx hb dX4_rowOf_51 (by decide) ?_
  refine lv_icmp_eq (tgt := 71) hx hb dX4_rowOf_53 (by decide) (fun c5 => ?_) (fun c5 => absurd (by decide) c5)
  refine lv_iconst (v := nI 1) hx hb dX4_rowOf_71 (by decide) ?_
  refine lv_goto (tgt := 76) hx hb dX4_rowOf_72 (by decide) ?_
  exact Ri C hP hD hS (Nat.zero_le _) (Nat.zero_le _) dX4_rowOf_76 (⟨row_6_1 z hz h1z , rfl⟩)

theorem row_7_1 : ∀ z, z < 8 → 1 ≤ z → (nI z = nI 1) → nI 1 = tb_rows.getD (7 * 8 + z) 0 := by decide +kernel
theorem row_7_2 : ∀ z, z < 8 → 1 ≤ z → (¬ nI z = nI 1) → (nI z = nI 2) → nI 1 = tb_rows.getD (7 * 8 + z) 0 := by decide +kernel
theorem row_7_3 : ∀ z, z < 8 → 1 ≤ z → (¬ nI z = nI 1) → (¬ nI z = nI 2) → (¬ nI z = nI 4) → nI 2 = tb_rows.getD (7 * 8 + z) 0 := by decide +kernel
theorem row_7_4 : ∀ z, z < 8 → 1 ≤ z → (¬ nI z = nI 1) → (¬ nI z = nI 2) → (nI z = nI 4) → nI 1 = tb_rows.getD (7 * 8 + z) 0 := by decide +kernel
set_option maxHeartbeats 4000000 in
set_option maxRecDepth 100000 in
theorem c_rowOf_7 (D : va_G) (k : Nat → ClassId) (t : Nat → Nat) (l : Launch) {ws : va_W} {z : Nat} (hz : z < 8) (h1z : 1 ≤ z) : Ci D k t l yX4_rowOf wsX4_rowOf ({ frames := 0, cells := 0, slots := 0, locals := 0 }) [.int (nI 7), .int (nI z)] (ws) (fun r w => r = tb_rows.getD (7 * 8 + z) 0 ∧ w = ws) 0 0 := by
  refine fw_of (cc := cX4_rowOf) (maxL := 3) (ret := (some .int)) (Qc := fun A => va_Qi (fun r w => r = tb_rows.getD (7 * 8 + z) 0 ∧ w = ws) (BcW D A) A) (by decide) rfl (Nat.le_of_ble_eq_true rfl) ?_
  intro p e s m below meth c A ls C hP hD hl
  have C : Cx RX4 "rowOf" cX4_rowOf 3 (some .int) wsX4_rowOf D k t A p s m ([.int (nI 7), .int (nI z)] : List Value).toArray meth c := C
  have hl : lv_has ls 3 [(0, .int (nI 7)), (1, .int (nI z))] := hl
  have hx := C.1
  have hb := C.2.1
  have hown := C.2.2.2.2.1
  have hts := C.2.2.2.2.2.1
  have hK := C.2.2.2.2.2.2.2.2.1
  have hZ := C.2.2.2.2.2.2.2.2.2.1
  have hN := C.2.2.2.2.2.2.2.2.2.2
  have hS : va_S A s.heap s.heap [] := va_S.rf
  refine lv_iload_n hx hb dX4_rowOf_0 rfl (lv_at hl 0 rfl) ?_
  refine lv_iconst (v := nI 3) hx hb dX4_rowOf_1 (by decide) ?_
  refine lv_icmp_ge (tgt := 11) hx hb dX4_rowOf_2 (by decide) (fun c1 => ?_) (fun c1 => absurd (by decide) c1)
  refine lv_iload_n hx hb dX4_rowOf_11 rfl (lv_at hl 0 rfl) ?_
  refine lv_iconst (v := nI 3) hx hb dX4_rowOf_12 (by decide) ?_
  refine lv_icmp_ne (tgt := 20) hx hb dX4_rowOf_13 (by decide) (fun c2 => ?_) (fun c2 => absurd c2 (by decide))
  refine lv_iload_n hx hb dX4_rowOf_20 rfl (lv_at hl 0 rfl) ?_
  refine lv_iconst (v := nI 4) hx hb dX4_rowOf_21 (by decide) ?_
  refine lv_icmp_ne (tgt := 29) hx hb dX4_rowOf_22 (by decide) (fun c3 => ?_) (fun c3 => absurd c3 (by decide))
  refine lv_bipush (v := nI 6) hx hb dX4_rowOf_29 (by decide) ?_
  refine lv_istore_n (lv' := [(2, .int (nI 6)), (0, .int (nI 7)), (1, .int (nI z))]) hx hb dX4_rowOf_31 rfl hl (by decide) rfl (fun ls hl => ?_)
  refine lv_iload_n hx hb dX4_rowOf_32 rfl (lv_at hl 1 rfl) ?_
  refine lv_bipush (v := nI 6) hx hb dX4_rowOf_33 (by decide) ?_
  refine lv_icmp_ge (tgt := 50) hx hb dX4_rowOf_35 (by decide) (fun c4 => ?_) (fun c4 => absurd (by decide) c4)
  refine lv_iload_n hx hb dX4_rowOf_50 rfl (lv_at hl 1 rfl) ?_
  refine lv_bipush (v := nI 6) hx hb dX4_rowOf_51 (by decide) ?_
  refine lv_icmp_eq (tgt := 71) hx hb dX4_rowOf_53 (by decide) (fun c5 => absurd c5 (by decide)) (fun c5 => ?_)
  refine lv_iload_n hx hb dX4_rowOf_56 rfl (lv_at hl 2 rfl) ?_
  refine lv_iconst (v := nI 1) hx hb dX4_rowOf_57 (by decide) ?_
  refine lv_icmp_eq (tgt := 71) hx hb dX4_rowOf_58 (by decide) (fun c6 => ?_) (fun c6 => ?_)
  · refine lv_iconst (v := nI 1) hx hb dX4_rowOf_71 (by decide) ?_
    refine lv_goto (tgt := 76) hx hb dX4_rowOf_72 (by decide) ?_
    exact Ri C hP hD hS (Nat.zero_le _) (Nat.zero_le _) dX4_rowOf_76 (⟨row_7_1 z hz h1z c6, rfl⟩)
  · refine lv_iload_n hx hb dX4_rowOf_61 rfl (lv_at hl 2 rfl) ?_
    refine lv_iconst (v := nI 2) hx hb dX4_rowOf_62 (by decide) ?_
    refine lv_icmp_eq (tgt := 71) hx hb dX4_rowOf_63 (by decide) (fun c7 => ?_) (fun c7 => ?_)
    · refine lv_iconst (v := nI 1) hx hb dX4_rowOf_71 (by decide) ?_
      refine lv_goto (tgt := 76) hx hb dX4_rowOf_72 (by decide) ?_
      exact Ri C hP hD hS (Nat.zero_le _) (Nat.zero_le _) dX4_rowOf_76 (⟨row_7_2 z hz h1z c6 c7, rfl⟩)
    · refine lv_iload_n hx hb dX4_rowOf_66 rfl (lv_at hl 2 rfl) ?_
      refine lv_iconst (v := nI 4) hx hb dX4_rowOf_67 (by decide) ?_
      refine lv_icmp_ne (tgt := 75) hx hb dX4_rowOf_68 (by decide) (fun c8 => ?_) (fun c8 => ?_)
      · refine lv_iconst (v := nI 2) hx hb dX4_rowOf_75 (by decide) ?_
        exact Ri C hP hD hS (Nat.zero_le _) (Nat.zero_le _) dX4_rowOf_76 (⟨row_7_3 z hz h1z c6 c7 c8, rfl⟩)
      · refine lv_iconst (v := nI 1) hx hb dX4_rowOf_71 (by decide) ?_
        refine lv_goto (tgt := 76) hx hb dX4_rowOf_72 (by decide) ?_
        exact Ri C hP hD hS (Nat.zero_le _) (Nat.zero_le _) dX4_rowOf_76 (⟨row_7_4 z hz h1z c6 c7 c8, rfl⟩)

theorem c_rowOf (D : va_G) (k : Nat → ClassId) (t : Nat → Nat) (l : Launch) {ws : va_W} {z r0 : Nat} (hr : r0 < 8) (hz : z < 8) (h1z : 1 ≤ z) : Ci D k t l yX4_rowOf wsX4_rowOf ({ frames := 0, cells := 0, slots := 0, locals := 0 }) [.int (nI r0), .int (nI z)] ws (fun r w => r = tb_rows.getD (r0 * 8 + z) 0 ∧ w = ws) 0 0 := match r0, hr with
  | 0, _ => c_rowOf_0 D k t l hz h1z
  | 1, _ => c_rowOf_1 D k t l hz h1z
  | 2, _ => c_rowOf_2 D k t l hz h1z
  | 3, _ => c_rowOf_3 D k t l hz h1z
  | 4, _ => c_rowOf_4 D k t l hz h1z
  | 5, _ => c_rowOf_5 D k t l hz h1z
  | 6, _ => c_rowOf_6 D k t l hz h1z
  | 7, _ => c_rowOf_7 D k t l hz h1z
set_option maxHeartbeats 4000000 in
set_option maxRecDepth 100000 in
theorem c_X4_isGiven (D : va_G) (k : Nat → ClassId) (t : Nat → Nat) (l : Launch) {bd : Nat → Nat} {st wt sm nu po sh up lo : Nat → Int32} {li : Int32} {ro so un to : Nat → Int64} {it : Int32} {r0 v : Nat} (hr8 : r0 < 8) (hv : v < 512) : Ci D k t l yX4_isGiven wsX4_isGiven ({ frames := 2, cells := 0, slots := 0, locals := 60 }) [.ref (bd 0), .int (nI r0), .int (nI v)] (MWw bd k st wt sm nu po sh up lo li ro so un to it) (fun r w => r = pb (KG r0 v) ∧ w = MWw bd k st wt sm nu po sh up lo li ro so un to it) 0 0 := by
  refine fw_of (cc := cX4_isGiven) (maxL := 7) (ret := (some .boolean)) (Qc := fun A => va_Qi (fun r w => r = pb (KG r0 v) ∧ w = MWw bd k st wt sm nu po sh up lo li ro so un to it) (BcW D A) A) (by decide) rfl (Nat.le_of_ble_eq_true rfl) ?_
  intro p e s m below meth c A ls C hP hD hl
  have C : Cx RX4 "isGiven" cX4_isGiven 7 (some .boolean) wsX4_isGiven D k t A p s m ([.ref (bd 0), .int (nI r0), .int (nI v)] : List Value).toArray meth c := C
  have hl : lv_has ls 7 [(0, .ref (bd 0)), (1, .int (nI r0)), (2, .int (nI v))] := hl
  have hx := C.1
  have hb := C.2.1
  have hown := C.2.2.2.2.1
  have hts := C.2.2.2.2.2.1
  have hK := C.2.2.2.2.2.2.2.2.1
  have hZ := C.2.2.2.2.2.2.2.2.2.1
  have hN := C.2.2.2.2.2.2.2.2.2.2
  have hS : va_S A s.heap s.heap [] := va_S.rf
  refine lv_iconst (v := nI 1) hx hb dX4_isGiven_0 (by decide) ?_
  refine tp_i (y := pb (∀ p0, p0 < 0 → v / 2 ^ p0 % 2 = 1 → srw (plr p0) r0 7 = 0)) ((pb_t (fun p0 h => absurd h (Nat.not_lt_zero _))).symm) ?_
  refine lv_istore_n (lv' := [(3, .int (pb (∀ p0, p0 < 0 → v / 2 ^ p0 % 2 = 1 → srw (plr p0) r0 7 = 0))), (0, .ref (bd 0)), (1, .int (nI r0)), (2, .int (nI v))]) hx hb dX4_isGiven_1 rfl hl (by decide) rfl (fun ls hl => ?_)
  refine lv_iconst (v := nI 0) hx hb dX4_isGiven_2 (by decide) ?_
  refine lv_istore (lv' := [(4, .int (nI 0)), (3, .int (pb (∀ p0, p0 < 0 → v / 2 ^ p0 % 2 = 1 → srw (plr p0) r0 7 = 0))), (0, .ref (bd 0)), (1, .int (nI r0)), (2, .int (nI v))]) hx hb dX4_isGiven_3 hl (by decide) rfl (fun ls hl => ?_)
  have L1 : ∀ (r i : Nat), i + r = 9 → ∀ (H : Heap) (locs : List Loc) (ls : Array Slot), va_P D vwCl (MWw bd k st wt sm nu po sh up lo li ro so un to it) H → va_D A (MWw bd k st wt sm nu po sh up lo li ro so un to it) → va_S A s.heap H locs → lv_has ls 7 [(0, .ref (bd 0)), (1, .int (nI r0)), (2, .int (nI v)), (3, .int (pb (∀ p0, p0 < i → v / 2 ^ p0 % 2 = 1 → srw (plr p0) r0 7 = 0))), (4, .int (nI i))] → W p l e ({ frames := 2, cells := 0, slots := 0, locals := 60 }) s m ([.ref (bd 0), .int (nI r0), .int (nI v)] : List Value).toArray below meth c H locs 0 0 (MQ below (va_Qi (fun r w => r = pb (KG r0 v) ∧ w = MWw bd k st wt sm nu po sh up lo li ro so un to it) (BcW D A) A) ([.ref (bd 0), .int (nI r0), .int (nI v)] : List Value).toArray s 0 0 A) (F0 m 5 ls []) := by
    intro r
    induction r with
    | zero =>
      intro i hr H locs ls hP hD hS hl
      obtain rfl : 9 = i := by omega
      refine lv_iload hx hb dX4_isGiven_5 (lv_at hl 4 rfl) ?_
      refine lv_bipush (v := nI 9) hx hb dX4_isGiven_7 (by decide) ?_
      refine lv_icmp_ge (tgt := 80) hx hb dX4_isGiven_9 (by decide) (fun c2 => ?_) (fun c2 => absurd (nI_le (by omega) (by decide)) c2)
      refine lv_iload_n hx hb dX4_isGiven_80 rfl (lv_at hl 3 rfl) ?_
      exact Rz C hP hD hS (Nat.zero_le _) (Nat.zero_le _) (pb_nar _) dX4_isGiven_81 (⟨rfl, rfl⟩)
    | succ r ihL1 =>
      intro i hr H locs ls hP hD hS hl
      refine lv_iload hx hb dX4_isGiven_5 (lv_at hl 4 rfl) ?_
      refine lv_bipush (v := nI 9) hx hb dX4_isGiven_7 (by decide) ?_
      refine lv_icmp_ge (tgt := 80) hx hb dX4_isGiven_9 (by decide) (fun c3 => absurd c3 (nI_ge (by omega) (by decide))) (fun c3 => ?_)
      refine lv_iconst (v := nI 0) hx hb dX4_isGiven_12 (by decide) ?_
      refine tp_i (y := srw (plr i) r0 0) (rfl) ?_
      refine lv_istore (lv' := [(5, .int (srw (plr i) r0 0)), (0, .ref (bd 0)), (1, .int (nI r0)), (2, .int (nI v)), (3, .int (pb (∀ p0, p0 < i → v / 2 ^ p0 % 2 = 1 → srw (plr p0) r0 7 = 0))), (4, .int (nI i))]) hx hb dX4_isGiven_13 hl (by decide) rfl (fun ls hl => ?_)
      refine lv_iconst (v := nI 1) hx hb dX4_isGiven_15 (by decide) ?_
      refine tp_i (y := nI (0 + 1)) (rfl) ?_
      refine lv_istore (lv' := [(6, .int (nI (0 + 1))), (5, .int (srw (plr i) r0 0)), (0, .ref (bd 0)), (1, .int (nI r0)), (2, .int (nI v)), (3, .int (pb (∀ p0, p0 < i → v / 2 ^ p0 % 2 = 1 → srw (plr p0) r0 7 = 0))), (4, .int (nI i))]) hx hb dX4_isGiven_16 hl (by decide) rfl (fun ls hl => ?_)
      have L4 : ∀ (r h : Nat), h + r = 7 → ∀ (H : Heap) (locs : List Loc) (ls : Array Slot), va_P D vwCl (MWw bd k st wt sm nu po sh up lo li ro so un to it) H → va_D A (MWw bd k st wt sm nu po sh up lo li ro so un to it) → va_S A s.heap H locs → lv_has ls 7 [(0, .ref (bd 0)), (1, .int (nI r0)), (2, .int (nI v)), (3, .int (pb (∀ p0, p0 < i → v / 2 ^ p0 % 2 = 1 → srw (plr p0) r0 7 = 0))), (4, .int (nI i)), (5, .int (srw (plr i) r0 h)), (6, .int (nI (h + 1)))] → W p l e ({ frames := 2, cells := 0, slots := 0, locals := 60 }) s m ([.ref (bd 0), .int (nI r0), .int (nI v)] : List Value).toArray below meth c H locs 0 0 (MQ below (va_Qi (fun r w => r = pb (KG r0 v) ∧ w = MWw bd k st wt sm nu po sh up lo li ro so un to it) (BcW D A) A) ([.ref (bd 0), .int (nI r0), .int (nI v)] : List Value).toArray s 0 0 A) (F0 m 18 ls []) := by
        intro r
        induction r with
        | zero =>
          intro h hr H locs ls hP hD hS hl
          obtain rfl : 7 = h := by omega
          refine lv_iload hx hb dX4_isGiven_18 (lv_at hl 6 rfl) ?_
          refine lv_bipush (v := nI 8) hx hb dX4_isGiven_20 (by decide) ?_
          refine lv_icmp_ge (tgt := 50) hx hb dX4_isGiven_22 (by decide) (fun c5 => ?_) (fun c5 => absurd (nI_le (by omega) (by decide)) c5)
          refine lv_iload_n hx hb dX4_isGiven_50 rfl (lv_at hl 3 rfl) ?_
          have J7 : ∀ (ls : Array Slot), lv_has ls 7 [(0, .ref (bd 0)), (1, .int (nI r0)), (2, .int (nI v)), (3, .int (pb (∀ p0, p0 < i → v / 2 ^ p0 % 2 = 1 → srw (plr p0) r0 7 = 0))), (4, .int (nI i)), (5, .int (srw (plr i) r0 7)), (6, .int (nI (7 + 1)))] → W p l e ({ frames := 2, cells := 0, slots := 0, locals := 60 }) s m ([.ref (bd 0), .int (nI r0), .int (nI v)] : List Value).toArray below meth c H locs 0 0 (MQ below (va_Qi (fun r w => r = pb (KG r0 v) ∧ w = MWw bd k st wt sm nu po sh up lo li ro so un to it) (BcW D A) A) ([.ref (bd 0), .int (nI r0), .int (nI v)] : List Value).toArray s 0 0 A) (F0 m 73 ls [.int (pb (∀ p0, p0 < (i + 1) → v / 2 ^ p0 % 2 = 1 → srw (plr p0) r0 7 = 0))]) := by
            intro ls hl
            refine lv_istore_n (lv' := [(3, .int (pb (∀ p0, p0 < (i + 1) → v / 2 ^ p0 % 2 = 1 → srw (plr p0) r0 7 = 0))), (0, .ref (bd 0)), (1, .int (nI r0)), (2, .int (nI v)), (4, .int (nI i)), (5, .int (srw (plr i) r0 7)), (6, .int (nI (7 + 1)))]) hx hb dX4_isGiven_73 rfl hl (by decide) rfl (fun ls hl => ?_)
            refine lv_iinc (v := nI (i + 1)) (lv' := [(4, .int (nI (i + 1))), (3, .int (pb (∀ p0, p0 < (i + 1) → v / 2 ^ p0 % 2 = 1 → srw (plr p0) r0 7 = 0))), (0, .ref (bd 0)), (1, .int (nI r0)), (2, .int (nI v)), (5, .int (srw (plr i) r0 7)), (6, .int (nI (7 + 1)))]) hx hb dX4_isGiven_74 hl (k := 4) rfl (by rw [← nI_add i 1]; rfl) (by decide) rfl (fun ls hl => ?_)
            refine lv_goto (tgt := 5) hx hb dX4_isGiven_77 (by decide) ?_
            exact ihL1 (i + 1) (by omega) _ _ _ hP hD hS (lv_sub hl [2, 3, 4, 1, 0] rfl)
          refine lv_if_eq (tgt := 72) hx hb dX4_isGiven_51 (by decide) (fun c6 => ?_) (fun c6 => ?_)
          · have c6 := pb_z c6
            refine lv_iconst (v := nI 0) hx hb dX4_isGiven_72 (by decide) ?_
            refine tp_i (y := pb (∀ p0, p0 < (i + 1) → v / 2 ^ p0 % 2 = 1 → srw (plr p0) r0 7 = 0)) ((pb_f (fun h => c6 (fun p0 hp0 => h p0 (by omega)))).symm) ?_
            exact J7 ls (lv_sub hl [0, 1, 2, 3, 4, 5, 6] rfl)
          · have c6 := pb_nz c6
            refine lv_iload_n hx hb dX4_isGiven_54 rfl (lv_at hl 2 rfl) ?_
            refine lv_iload hx hb dX4_isGiven_55 (lv_at hl 4 rfl) ?_
            refine lv_ishr hx hb dX4_isGiven_57 ?_
            refine tp_i (y := nI (v / 2 ^ i)) (shrp (by omega) (by omega)) ?_
            refine lv_iconst (v := nI 1) hx hb dX4_isGiven_58 (by decide) ?_
            refine lv_iand hx hb dX4_isGiven_59 ?_
            refine tp_i (y := nI (v / 2 ^ i % 2)) (an1' (by have := dv2 hv i; omega)) ?_
            refine lv_if_eq (tgt := 68) hx hb dX4_isGiven_60 (by decide) (fun c8 => ?_) (fun c8 => ?_)
            · refine lv_iconst (v := nI 1) hx hb dX4_isGiven_68 (by decide) ?_
              refine lv_goto (tgt := 73) hx hb dX4_isGiven_69 (by decide) ?_
              refine tp_i (y := pb (∀ p0, p0 < (i + 1) → v / 2 ^ p0 % 2 = 1 → srw (plr p0) r0 7 = 0)) ((pb_t (lt_s c6 (fun q => absurd q (by have := nI_z0 (by omega) c8; omega)))).symm) ?_
              exact J7 ls (lv_sub hl [0, 1, 2, 3, 4, 5, 6] rfl)
            · refine lv_iload hx hb dX4_isGiven_63 (lv_at hl 5 rfl) ?_
              refine lv_if_ne (tgt := 72) hx hb dX4_isGiven_65 (by decide) (fun c9 => ?_) (fun c9 => ?_)
              · refine lv_iconst (v := nI 0) hx hb dX4_isGiven_72 (by decide) ?_
                refine tp_i (y := pb (∀ p0, p0 < (i + 1) → v / 2 ^ p0 % 2 = 1 → srw (plr p0) r0 7 = 0)) ((pb_f (fun h => c9 (h i (by omega) (by have := nI_n0 c8; omega)))).symm) ?_
                exact J7 ls (lv_sub hl [0, 1, 2, 3, 4, 5, 6] rfl)
              · refine lv_iconst (v := nI 1) hx hb dX4_isGiven_68 (by decide) ?_
                refine lv_goto (tgt := 73) hx hb dX4_isGiven_69 (by decide) ?_
                refine tp_i (y := pb (∀ p0, p0 < (i + 1) → v / 2 ^ p0 % 2 = 1 → srw (plr p0) r0 7 = 0)) ((pb_t (lt_s c6 (fun _ => c9))).symm) ?_
                exact J7 ls (lv_sub hl [0, 1, 2, 3, 4, 5, 6] rfl)
        | succ r ihL4 =>
          intro h hr H locs ls hP hD hS hl
          refine lv_iload hx hb dX4_isGiven_18 (lv_at hl 6 rfl) ?_
          refine lv_bipush (v := nI 8) hx hb dX4_isGiven_20 (by decide) ?_
          refine lv_icmp_ge (tgt := 50) hx hb dX4_isGiven_22 (by decide) (fun c10 => absurd c10 (nI_ge (by omega) (by decide))) (fun c10 => ?_)
          refine lv_iload hx hb dX4_isGiven_25 (lv_at hl 5 rfl) ?_
          refine lv_iload hx hb dX4_isGiven_27 (lv_at hl 4 rfl) ?_
          refine lv_iload hx hb dX4_isGiven_29 (lv_at hl 6 rfl) ?_
          refine fw_i C hD hS (rn_S (As := [.int (nI i), .int (nI (h + 1))]) (rest := [.int (srw (plr i) r0 h)]) C (c_plainOf D k t l (p0 := i) (z := (h + 1)) (by omega) (by omega) _) (va_cwS 2 hts gX4_isGiven_X4_plainOf rfl rfl rfl hdX4_plainOf ⟨Nat.le_of_ble_eq_true rfl, Nat.le_of_ble_eq_true rfl⟩) hP hD hS rfl hl.1 rfl (Nat.le_of_ble_eq_true rfl) dX4_isGiven_31 ⟨Nat.zero_le _, Nat.zero_le _⟩) (fun r11 wr11 H locs h12 hP hD hS => ?_)
          obtain ⟨rfl, rfl⟩ := h12
          refine lv_iload_n hx hb dX4_isGiven_34 rfl (lv_at hl 1 rfl) ?_
          refine lv_iload hx hb dX4_isGiven_35 (lv_at hl 6 rfl) ?_
          refine fw_i C hD hS (rn_S (As := [.int (nI r0), .int (nI (h + 1))]) (rest := [.int (plr i (h + 1)), .int (srw (plr i) r0 h)]) C (c_rowOf D k t l (r0 := r0) (z := (h + 1)) (by omega) (by omega) (by omega) _) (va_cwS 2 hts gX4_isGiven_X4_rowOf rfl rfl rfl hdX4_rowOf ⟨Nat.le_of_ble_eq_true rfl, Nat.le_of_ble_eq_true rfl⟩) hP hD hS rfl hl.1 rfl (Nat.le_of_ble_eq_true rfl) dX4_isGiven_37 ⟨Nat.zero_le _, Nat.zero_le _⟩) (fun r13 wr13 H locs h14 hP hD hS => ?_)
          obtain ⟨rfl, rfl⟩ := h14
          refine lv_imul hx hb dX4_isGiven_40 ?_
          refine lv_iadd hx hb dX4_isGiven_41 ?_
          refine tp_i (y := srw (plr i) r0 (h + 1)) (rfl) ?_
          refine lv_istore (lv' := [(5, .int (srw (plr i) r0 (h + 1))), (0, .ref (bd 0)), (1, .int (nI r0)), (2, .int (nI v)), (3, .int (pb (∀ p0, p0 < i → v / 2 ^ p0 % 2 = 1 → srw (plr p0) r0 7 = 0))), (4, .int (nI i)), (6, .int (nI (h + 1)))]) hx hb dX4_isGiven_42 hl (by decide) rfl (fun ls hl => ?_)
          refine lv_iinc (v := nI ((h + 1) + 1)) (lv' := [(6, .int (nI ((h + 1) + 1))), (5, .int (srw (plr i) r0 (h + 1))), (0, .ref (bd 0)), (1, .int (nI r0)), (2, .int (nI v)), (3, .int (pb (∀ p0, p0 < i → v / 2 ^ p0 % 2 = 1 → srw (plr p0) r0 7 = 0))), (4, .int (nI i))]) hx hb dX4_isGiven_44 hl (k := 6) rfl (by rw [← nI_add (h + 1) 1]; rfl) (by decide) rfl (fun ls hl => ?_)
          refine lv_goto (tgt := 18) hx hb dX4_isGiven_47 (by decide) ?_
          exact ihL4 (h + 1) (by omega) _ _ _ hP hD hS (lv_sub hl [2, 3, 4, 5, 6, 1, 0] rfl)
      exact L4 (7 - 0) 0 (by omega) _ _ _ hP hD hS (lv_sub hl [2, 3, 4, 5, 6, 1, 0] rfl)
  exact L1 (9 - 0) 0 (by omega) _ _ _ hP hD hS (lv_sub hl [2, 3, 4, 1, 0] rfl)

set_option maxRecDepth 20000 in
theorem in_X4_breaks_X4 : ∀ w ∈ u_ws RX4 TX4 15, w ∈ wsX4_breaks := by decide +kernel
set_option maxRecDepth 20000 in
theorem lk_X4_breaks_19 : Cond.fieldLink RX4 19 (TX4 3).1 (TX4 3).2.1 (TX4 3).2.2.1 ∈ wsX4_breaks := by decide +kernel
set_option maxHeartbeats 4000000 in
set_option maxRecDepth 100000 in
theorem c_X4_breaks (D : va_G) (k : Nat → ClassId) (t : Nat → Nat) (l : Launch) {bd : Nat → Nat} {st wt sm nu po sh up lo : Nat → Int32} {li : Int32} {ro so un to : Nat → Int64} {it : Int32} (x1 x2 : Int32) : Ci D k t l yX4_breaks wsX4_breaks ({ frames := 3, cells := 0, slots := 0, locals := 90 }) [.ref (bd 0), .int x1, .int x2] (MWw bd k st wt sm nu po sh up lo li ro so un to it) (fun r w => (∃ ja va : Nat, (ja < 10 ∧ x1 = nI ja ∧ va < 512 ∧ x2 = nI va) ∧ ((∃ r0, r0 < 8 ∧ BR (fun z => nu (8 * ja + z)) va r0 ∧ (∀ q, q < r0 → ¬ BR (fun z => nu (8 * ja + z)) va q) ∧ r = nI r0) ∨ ((∀ q, q < 8 → ¬ BR (fun z => nu (8 * ja + z)) va q) ∧ r = -1)) ∧ w = MWw bd k st wt sm nu po sh up lo li ro so un to it) ∨ ((∀ ja va : Nat, ¬ (ja < 10 ∧ x1 = nI ja ∧ va < 512 ∧ x2 = nI va)) ∧ r = -1 ∧ w = MWw bd k st wt sm nu po sh up lo li ro so un to it)) 0 0 := by
  refine fw_of (cc := cX4_breaks) (maxL := 6) (ret := (some .int)) (Qc := fun A => va_Qi (fun r w => (∃ ja va : Nat, (ja < 10 ∧ x1 = nI ja ∧ va < 512 ∧ x2 = nI va) ∧ ((∃ r0, r0 < 8 ∧ BR (fun z => nu (8 * ja + z)) va r0 ∧ (∀ q, q < r0 → ¬ BR (fun z => nu (8 * ja + z)) va q) ∧ r = nI r0) ∨ ((∀ q, q < 8 → ¬ BR (fun z => nu (8 * ja + z)) va q) ∧ r = -1)) ∧ w = MWw bd k st wt sm nu po sh up lo li ro so un to it) ∨ ((∀ ja va : Nat, ¬ (ja < 10 ∧ x1 = nI ja ∧ va < 512 ∧ x2 = nI va)) ∧ r = -1 ∧ w = MWw bd k st wt sm nu po sh up lo li ro so un to it)) (BcW D A) A) (by decide) rfl (Nat.le_of_ble_eq_true rfl) ?_
  intro p e s m below meth c A ls C hP hD hl
  have C : Cx RX4 "breaks" cX4_breaks 6 (some .int) wsX4_breaks D k t A p s m ([.ref (bd 0), .int x1, .int x2] : List Value).toArray meth c := C
  have hl : lv_has ls 6 [(0, .ref (bd 0)), (1, .int x1), (2, .int x2)] := hl
  have hx := C.1
  have hb := C.2.1
  have hown := C.2.2.2.2.1
  have hts := C.2.2.2.2.2.1
  have hK := C.2.2.2.2.2.2.2.2.1
  have hZ := C.2.2.2.2.2.2.2.2.2.1
  have hN := C.2.2.2.2.2.2.2.2.2.2
  have hS : va_S A s.heap s.heap [] := va_S.rf
  refine lv_iload_n hx hb dX4_breaks_0 rfl (lv_at hl 1 rfl) ?_
  refine fw_i C hD hS (rn_S (As := [.int x1]) (rest := []) C (c_X4_isLaw D k t l x1 _) (va_cwS 1 hts gX4_breaks_X4_isLaw rfl rfl rfl hdX4_isLaw ⟨Nat.le_of_ble_eq_true rfl, Nat.le_of_ble_eq_true rfl⟩) hP hD hS rfl hl.1 rfl (Nat.le_of_ble_eq_true rfl) dX4_breaks_1 ⟨Nat.zero_le _, Nat.zero_le _⟩) (fun r1 wr1 H locs h2 hP hD hS => ?_)
  obtain ⟨rfl, rfl⟩ := h2
  refine lv_if_eq (tgt := 18) hx hb dX4_breaks_4 (by decide) (fun c3 => ?_) (fun c3 => ?_)
  · have c3 := pb_z c3
    refine lv_iconst (v := (-1)) hx hb dX4_breaks_18 (by decide) ?_
    exact Ri C hP hD hS (Nat.zero_le _) (Nat.zero_le _) dX4_breaks_19 (Or.inr ⟨fun j _ q => c3 ⟨j, Nat.zero_le _, q.1, q.2.1⟩, rfl, rfl⟩)
  · have c3 := pb_nz c3
    obtain ⟨j, h0j, hj, rfl⟩ := id c3
    refine lv_iload_n hx hb dX4_breaks_7 rfl (lv_at hl 2 rfl) ?_
    refine lv_iconst (v := nI 0) hx hb dX4_breaks_8 (by decide) ?_
    refine lv_sipush (v := nI 511) hx hb dX4_breaks_9 (by decide) ?_
    refine fw_i C hD hS (rn_S (As := [.int x2, .int (nI 0), .int (nI 511)]) (rest := []) C (c_isInR D k t l (lo := 0) (hi := 511) x2 (by decide) (by decide) _) (va_cwS 3 hts gX4_breaks_X4_isIn rfl rfl rfl hdX4_isIn ⟨Nat.le_of_ble_eq_true rfl, Nat.le_of_ble_eq_true rfl⟩) hP hD hS rfl hl.1 rfl (Nat.le_of_ble_eq_true rfl) dX4_breaks_12 ⟨Nat.zero_le _, Nat.zero_le _⟩) (fun r4 wr4 H locs h5 hP hD hS => ?_)
    obtain ⟨rfl, rfl⟩ := h5
    refine lv_if_ne (tgt := 20) hx hb dX4_breaks_15 (by decide) (fun c6 => ?_) (fun c6 => ?_)
    · have c6 := pb_nz c6
      obtain ⟨v, h0v, hv, rfl⟩ := id c6
      refine lv_iconst (v := nI 0) hx hb dX4_breaks_20 (by decide) ?_
      refine lv_istore_n (lv' := [(3, .int (nI 0)), (0, .ref (bd 0)), (1, .int (nI j)), (2, .int (nI v))]) hx hb dX4_breaks_21 rfl hl (by decide) rfl (fun ls hl => ?_)
      have L7 : ∀ (r i : Nat), i + r = 8 → (∀ q, q < i → ¬ BR (fun z => nu (8 * j + z)) v q) → ∀ (H : Heap) (locs : List Loc) (ls : Array Slot), va_P D vwCl (MWw bd k st wt sm nu po sh up lo li ro so un to it) H → va_D A (MWw bd k st wt sm nu po sh up lo li ro so un to it) → va_S A s.heap H locs → lv_has ls 6 [(0, .ref (bd 0)), (1, .int (nI j)), (2, .int (nI v)), (3, .int (nI i))] → W p l e ({ frames := 3, cells := 0, slots := 0, locals := 90 }) s m ([.ref (bd 0), .int (nI j), .int (nI v)] : List Value).toArray below meth c H locs 0 0 (MQ below (va_Qi (fun r w => (∃ ja va : Nat, (ja < 10 ∧ (nI j) = nI ja ∧ va < 512 ∧ (nI v) = nI va) ∧ ((∃ r0, r0 < 8 ∧ BR (fun z => nu (8 * ja + z)) va r0 ∧ (∀ q, q < r0 → ¬ BR (fun z => nu (8 * ja + z)) va q) ∧ r = nI r0) ∨ ((∀ q, q < 8 → ¬ BR (fun z => nu (8 * ja + z)) va q) ∧ r = -1)) ∧ w = MWw bd k st wt sm nu po sh up lo li ro so un to it) ∨ ((∀ ja va : Nat, ¬ (ja < 10 ∧ (nI j) = nI ja ∧ va < 512 ∧ (nI v) = nI va)) ∧ r = -1 ∧ w = MWw bd k st wt sm nu po sh up lo li ro so un to it)) (BcW D A) A) ([.ref (bd 0), .int (nI j), .int (nI v)] : List Value).toArray s 0 0 A) (F0 m 22 ls []) := by
        intro r
        induction r with
        | zero =>
          intro i hr hv0 H locs ls hP hD hS hl
          obtain rfl : 8 = i := by omega
          refine lv_iload_n hx hb dX4_breaks_22 rfl (lv_at hl 3 rfl) ?_
          refine lv_bipush (v := nI 8) hx hb dX4_breaks_23 (by decide) ?_
          refine lv_icmp_ge (tgt := 93) hx hb dX4_breaks_25 (by decide) (fun c8 => ?_) (fun c8 => absurd (nI_le (by omega) (by decide)) c8)
          refine lv_iconst (v := (-1)) hx hb dX4_breaks_93 (by decide) ?_
          exact Ri C hP hD hS (Nat.zero_le _) (Nat.zero_le _) dX4_breaks_94 (Or.inl ⟨j, v, ⟨hj, rfl, hv, rfl⟩, Or.inr ⟨hv0, rfl⟩, rfl⟩)
        | succ r ihL7 =>
          intro i hr hv0 H locs ls hP hD hS hl
          refine lv_iload_n hx hb dX4_breaks_22 rfl (lv_at hl 3 rfl) ?_
          refine lv_bipush (v := nI 8) hx hb dX4_breaks_23 (by decide) ?_
          refine lv_icmp_ge (tgt := 93) hx hb dX4_breaks_25 (by decide) (fun c9 => absurd c9 (nI_ge (by omega) (by decide))) (fun c9 => ?_)
          refine lv_iconst (v := nI 0) hx hb dX4_breaks_28 (by decide) ?_
          refine tp_i (y := srw (fun z => nu (8 * j + z)) i 0) (rfl) ?_
          refine lv_istore (lv' := [(4, .int (srw (fun z => nu (8 * j + z)) i 0)), (0, .ref (bd 0)), (1, .int (nI j)), (2, .int (nI v)), (3, .int (nI i))]) hx hb dX4_breaks_29 hl (by decide) rfl (fun ls hl => ?_)
          refine lv_iconst (v := nI 1) hx hb dX4_breaks_31 (by decide) ?_
          refine tp_i (y := nI (0 + 1)) (rfl) ?_
          refine lv_istore (lv' := [(5, .int (nI (0 + 1))), (4, .int (srw (fun z => nu (8 * j + z)) i 0)), (0, .ref (bd 0)), (1, .int (nI j)), (2, .int (nI v)), (3, .int (nI i))]) hx hb dX4_breaks_32 hl (by decide) rfl (fun ls hl => ?_)
          have L10 : ∀ (r h : Nat), h + r = 7 → ∀ (H : Heap) (locs : List Loc) (ls : Array Slot), va_P D vwCl (MWw bd k st wt sm nu po sh up lo li ro so un to it) H → va_D A (MWw bd k st wt sm nu po sh up lo li ro so un to it) → va_S A s.heap H locs → lv_has ls 6 [(0, .ref (bd 0)), (1, .int (nI j)), (2, .int (nI v)), (3, .int (nI i)), (4, .int (srw (fun z => nu (8 * j + z)) i h)), (5, .int (nI (h + 1)))] → W p l e ({ frames := 3, cells := 0, slots := 0, locals := 90 }) s m ([.ref (bd 0), .int (nI j), .int (nI v)] : List Value).toArray below meth c H locs 0 0 (MQ below (va_Qi (fun r w => (∃ ja va : Nat, (ja < 10 ∧ (nI j) = nI ja ∧ va < 512 ∧ (nI v) = nI va) ∧ ((∃ r0, r0 < 8 ∧ BR (fun z => nu (8 * ja + z)) va r0 ∧ (∀ q, q < r0 → ¬ BR (fun z => nu (8 * ja + z)) va q) ∧ r = nI r0) ∨ ((∀ q, q < 8 → ¬ BR (fun z => nu (8 * ja + z)) va q) ∧ r = -1)) ∧ w = MWw bd k st wt sm nu po sh up lo li ro so un to it) ∨ ((∀ ja va : Nat, ¬ (ja < 10 ∧ (nI j) = nI ja ∧ va < 512 ∧ (nI v) = nI va)) ∧ r = -1 ∧ w = MWw bd k st wt sm nu po sh up lo li ro so un to it)) (BcW D A) A) ([.ref (bd 0), .int (nI j), .int (nI v)] : List Value).toArray s 0 0 A) (F0 m 34 ls []) := by
            intro r
            induction r with
            | zero =>
              intro h hr H locs ls hP hD hS hl
              obtain rfl : 7 = h := by omega
              refine lv_iload hx hb dX4_breaks_34 (lv_at hl 5 rfl) ?_
              refine lv_bipush (v := nI 8) hx hb dX4_breaks_36 (by decide) ?_
              refine lv_icmp_ge (tgt := 71) hx hb dX4_breaks_38 (by decide) (fun c11 => ?_) (fun c11 => absurd (nI_le (by omega) (by decide)) c11)
              refine lv_iload hx hb dX4_breaks_71 (lv_at hl 4 rfl) ?_
              refine lv_if_ge (tgt := 87) hx hb dX4_breaks_73 (by decide) (fun c12 => ?_) (fun c12 => ?_)
              · refine lv_iinc (v := nI (i + 1)) (lv' := [(3, .int (nI (i + 1))), (0, .ref (bd 0)), (1, .int (nI j)), (2, .int (nI v)), (4, .int (srw (fun z => nu (8 * j + z)) i 7)), (5, .int (nI (7 + 1)))]) hx hb dX4_breaks_87 hl (k := 3) rfl (by rw [← nI_add i 1]; rfl) (by decide) rfl (fun ls hl => ?_)
                refine lv_goto (tgt := 22) hx hb dX4_breaks_90 (by decide) ?_
                exact ihL7 (i + 1) (by omega) (lt_s hv0 (fun q => absurd q.2 (Int32.not_lt.mpr c12))) _ _ _ hP hD hS (lv_sub hl [1, 2, 3, 0] rfl)
              · refine lv_aload_n hx hb dX4_breaks_76 rfl (lv_at hl 0 rfl) ?_
                refine lv_iload_n hx hb dX4_breaks_77 rfl (lv_at hl 3 rfl) ?_
                refine lv_iload_n hx hb dX4_breaks_78 rfl (lv_at hl 2 rfl) ?_
                refine fw_i C hD hS (rn_V (As := [.int (nI i), .int (nI v)]) (rest := []) C (c_X4_isGiven D k t l (r0 := i) (v := v) (by omega) hv _) (cwV 2 hts gX4_breaks_X4_isGiven rfl rfl rfl hdX4_isGivenC ⟨Nat.le_of_ble_eq_true rfl, Nat.le_of_ble_eq_true rfl⟩) 0 4 rfl mw_o rfl hP hD hS rfl hl.1 rfl (Nat.le_of_ble_eq_true rfl) dX4_breaks_79 ⟨Nat.zero_le _, Nat.zero_le _⟩) (fun r13 wr13 H locs h14 hP hD hS => ?_)
                obtain ⟨rfl, rfl⟩ := h14
                refine lv_if_eq (tgt := 87) hx hb dX4_breaks_82 (by decide) (fun c15 => ?_) (fun c15 => ?_)
                · have c15 := pb_z c15
                  refine lv_iinc (v := nI (i + 1)) (lv' := [(3, .int (nI (i + 1))), (0, .ref (bd 0)), (1, .int (nI j)), (2, .int (nI v)), (4, .int (srw (fun z => nu (8 * j + z)) i 7)), (5, .int (nI (7 + 1)))]) hx hb dX4_breaks_87 hl (k := 3) rfl (by rw [← nI_add i 1]; rfl) (by decide) rfl (fun ls hl => ?_)
                  refine lv_goto (tgt := 22) hx hb dX4_breaks_90 (by decide) ?_
                  exact ihL7 (i + 1) (by omega) (lt_s hv0 (fun q => c15 q.1)) _ _ _ hP hD hS (lv_sub hl [1, 2, 3, 0] rfl)
                · have c15 := pb_nz c15
                  refine lv_iload_n hx hb dX4_breaks_85 rfl (lv_at hl 3 rfl) ?_
                  exact Ri C hP hD hS (Nat.zero_le _) (Nat.zero_le _) dX4_breaks_86 (Or.inl ⟨j, v, ⟨hj, rfl, hv, rfl⟩, Or.inl ⟨i, by omega, ⟨c15, Int32.not_le.mp c12⟩, hv0, rfl⟩, rfl⟩)
            | succ r ihL10 =>
              intro h hr H locs ls hP hD hS hl
              refine lv_iload hx hb dX4_breaks_34 (lv_at hl 5 rfl) ?_
              refine lv_bipush (v := nI 8) hx hb dX4_breaks_36 (by decide) ?_
              refine lv_icmp_ge (tgt := 71) hx hb dX4_breaks_38 (by decide) (fun c16 => absurd c16 (nI_ge (by omega) (by decide))) (fun c16 => ?_)
              refine lv_iload hx hb dX4_breaks_41 (lv_at hl 4 rfl) ?_
              refine lv_aload_n hx hb dX4_breaks_43 rfl (lv_at hl 0 rfl) ?_
              refine fg C hP 0 mw_o (ci := 4) rfl 3 (by decide) in_X4_breaks_X4 lk_X4_breaks_19 (v := .ref (bd 4)) rfl dX4_breaks_44 ?_
              refine lv_bipush (v := nI 8) hx hb dX4_breaks_47 (by decide) ?_
              refine lv_iload_n hx hb dX4_breaks_49 rfl (lv_at hl 1 rfl) ?_
              refine lv_imul hx hb dX4_breaks_50 ?_
              refine tp_i (y := nI (8 * j)) (pk_mul _ _) ?_
              refine lv_iload hx hb dX4_breaks_51 (lv_at hl 5 rfl) ?_
              refine lv_iadd hx hb dX4_breaks_53 ?_
              refine tp_i (y := nI ((8 * j) + (h + 1))) (nI_add _ _) ?_
              refine ar_i C hP 4 mw_nu (j := ((8 * j) + (h + 1))) (by omega) (by decide) dX4_breaks_54 ?_
              refine lv_iload_n hx hb dX4_breaks_55 rfl (lv_at hl 3 rfl) ?_
              refine lv_iload hx hb dX4_breaks_56 (lv_at hl 5 rfl) ?_
              refine fw_i C hD hS (rn_S (As := [.int (nI i), .int (nI (h + 1))]) (rest := [.int (nu ((8 * j) + (h + 1))), .int (srw (fun z => nu (8 * j + z)) i h)]) C (c_rowOf D k t l (r0 := i) (z := (h + 1)) (by omega) (by omega) (by omega) _) (va_cwS 2 hts gX4_breaks_X4_rowOf rfl rfl rfl hdX4_rowOf ⟨Nat.le_of_ble_eq_true rfl, Nat.le_of_ble_eq_true rfl⟩) hP hD hS rfl hl.1 rfl (Nat.le_of_ble_eq_true rfl) dX4_breaks_58 ⟨Nat.zero_le _, Nat.zero_le _⟩) (fun r17 wr17 H locs h18 hP hD hS => ?_)
              obtain ⟨rfl, rfl⟩ := h18
              refine lv_imul hx hb dX4_breaks_61 ?_
              refine lv_iadd hx hb dX4_breaks_62 ?_
              refine tp_i (y := srw (fun z => nu (8 * j + z)) i (h + 1)) (rfl) ?_
              refine lv_istore (lv' := [(4, .int (srw (fun z => nu (8 * j + z)) i (h + 1))), (0, .ref (bd 0)), (1, .int (nI j)), (2, .int (nI v)), (3, .int (nI i)), (5, .int (nI (h + 1)))]) hx hb dX4_breaks_63 hl (by decide) rfl (fun ls hl => ?_)
              refine lv_iinc (v := nI ((h + 1) + 1)) (lv' := [(5, .int (nI ((h + 1) + 1))), (4, .int (srw (fun z => nu (8 * j + z)) i (h + 1))), (0, .ref (bd 0)), (1, .int (nI j)), (2, .int (nI v)), (3, .int (nI i))]) hx hb dX4_breaks_65 hl (k := 5) rfl (by rw [← nI_add (h + 1) 1]; rfl) (by decide) rfl (fun ls hl => ?_)
              refine lv_goto (tgt := 34) hx hb dX4_breaks_68 (by decide) ?_
              exact ihL10 (h + 1) (by omega) _ _ _ hP hD hS (lv_sub hl [2, 3, 4, 5, 1, 0] rfl)
          exact L10 (7 - 0) 0 (by omega) _ _ _ hP hD hS (lv_sub hl [2, 3, 4, 5, 1, 0] rfl)
      exact L7 (8 - 0) 0 (by omega) (fun q h => absurd h (Nat.not_lt_zero _)) _ _ _ hP hD hS (lv_sub hl [1, 2, 3, 0] rfl)
    · have c6 := pb_z c6
      refine lv_iconst (v := (-1)) hx hb dX4_breaks_18 (by decide) ?_
      exact Ri C hP hD hS (Nat.zero_le _) (Nat.zero_le _) dX4_breaks_19 (Or.inr ⟨fun _ v q => c6 ⟨v, Nat.zero_le _, q.2.2.1, q.2.2.2⟩, rfl, rfl⟩)

set_option maxHeartbeats 4000000 in
set_option maxRecDepth 100000 in
theorem c_X4_always (D : va_G) (k : Nat → ClassId) (t : Nat → Nat) (l : Launch) {bd : Nat → Nat} {st wt sm nu po sh up lo : Nat → Int32} {li : Int32} {ro so un to : Nat → Int64} {it : Int32} (x1 x2 : Int32) : Ci D k t l yX4_always wsX4_always ({ frames := 4, cells := 0, slots := 0, locals := 120 }) [.ref (bd 0), .int x1, .int x2] (MWw bd k st wt sm nu po sh up lo li ro so un to it) (fun r w => (∃ j v : Nat, (j < 10 ∧ x1 = nI j ∧ v < 512 ∧ x2 = nI v) ∧ r = pb (∀ q, q < 8 → ¬ BR (fun z => nu (8 * j + z)) v q) ∧ w = MWw bd k st wt sm nu po sh up lo li ro so un to it) ∨ ((∀ j v : Nat, ¬ (j < 10 ∧ x1 = nI j ∧ v < 512 ∧ x2 = nI v)) ∧ r = -1 ∧ w = MWw bd k st wt sm nu po sh up lo li ro so un to it)) 0 0 := by
  refine fw_of (cc := cX4_always) (maxL := 3) (ret := (some .int)) (Qc := fun A => va_Qi (fun r w => (∃ j v : Nat, (j < 10 ∧ x1 = nI j ∧ v < 512 ∧ x2 = nI v) ∧ r = pb (∀ q, q < 8 → ¬ BR (fun z => nu (8 * j + z)) v q) ∧ w = MWw bd k st wt sm nu po sh up lo li ro so un to it) ∨ ((∀ j v : Nat, ¬ (j < 10 ∧ x1 = nI j ∧ v < 512 ∧ x2 = nI v)) ∧ r = -1 ∧ w = MWw bd k st wt sm nu po sh up lo li ro so un to it)) (BcW D A) A) (by decide) rfl (Nat.le_of_ble_eq_true rfl) ?_
  intro p e s m below meth c A ls C hP hD hl
  have C : Cx RX4 "always" cX4_always 3 (some .int) wsX4_always D k t A p s m ([.ref (bd 0), .int x1, .int x2] : List Value).toArray meth c := C
  have hl : lv_has ls 3 [(0, .ref (bd 0)), (1, .int x1), (2, .int x2)] := hl
  have hx := C.1
  have hb := C.2.1
  have hown := C.2.2.2.2.1
  have hts := C.2.2.2.2.2.1
  have hK := C.2.2.2.2.2.2.2.2.1
  have hZ := C.2.2.2.2.2.2.2.2.2.1
  have hN := C.2.2.2.2.2.2.2.2.2.2
  have hS : va_S A s.heap s.heap [] := va_S.rf
  refine lv_iload_n hx hb dX4_always_0 rfl (lv_at hl 1 rfl) ?_
  refine fw_i C hD hS (rn_S (As := [.int x1]) (rest := []) C (c_X4_isLaw D k t l x1 _) (va_cwS 1 hts gX4_always_X4_isLaw rfl rfl rfl hdX4_isLaw ⟨Nat.le_of_ble_eq_true rfl, Nat.le_of_ble_eq_true rfl⟩) hP hD hS rfl hl.1 rfl (Nat.le_of_ble_eq_true rfl) dX4_always_1 ⟨Nat.zero_le _, Nat.zero_le _⟩) (fun r1 wr1 H locs h2 hP hD hS => ?_)
  obtain ⟨rfl, rfl⟩ := h2
  refine lv_if_eq (tgt := 18) hx hb dX4_always_4 (by decide) (fun c3 => ?_) (fun c3 => ?_)
  · have c3 := pb_z c3
    refine lv_iconst (v := (-1)) hx hb dX4_always_18 (by decide) ?_
    refine lv_goto (tgt := 37) hx hb dX4_always_19 (by decide) ?_
    exact Ri C hP hD hS (Nat.zero_le _) (Nat.zero_le _) dX4_always_37 (Or.inr ⟨fun j _ q => c3 ⟨j, Nat.zero_le _, q.1, q.2.1⟩, rfl, rfl⟩)
  · have c3 := pb_nz c3
    obtain ⟨j, h0j, hj, rfl⟩ := id c3
    refine lv_iload_n hx hb dX4_always_7 rfl (lv_at hl 2 rfl) ?_
    refine lv_iconst (v := nI 0) hx hb dX4_always_8 (by decide) ?_
    refine lv_sipush (v := nI 511) hx hb dX4_always_9 (by decide) ?_
    refine fw_i C hD hS (rn_S (As := [.int x2, .int (nI 0), .int (nI 511)]) (rest := []) C (c_isInR D k t l (lo := 0) (hi := 511) x2 (by decide) (by decide) _) (va_cwS 3 hts gX4_always_X4_isIn rfl rfl rfl hdX4_isIn ⟨Nat.le_of_ble_eq_true rfl, Nat.le_of_ble_eq_true rfl⟩) hP hD hS rfl hl.1 rfl (Nat.le_of_ble_eq_true rfl) dX4_always_12 ⟨Nat.zero_le _, Nat.zero_le _⟩) (fun r4 wr4 H locs h5 hP hD hS => ?_)
    obtain ⟨rfl, rfl⟩ := h5
    refine lv_if_ne (tgt := 22) hx hb dX4_always_15 (by decide) (fun c6 => ?_) (fun c6 => ?_)
    · have c6 := pb_nz c6
      obtain ⟨v, h0v, hv, rfl⟩ := id c6
      refine lv_aload_n hx hb dX4_always_22 rfl (lv_at hl 0 rfl) ?_
      refine lv_iload_n hx hb dX4_always_23 rfl (lv_at hl 1 rfl) ?_
      refine lv_iload_n hx hb dX4_always_24 rfl (lv_at hl 2 rfl) ?_
      refine fw_i C hD hS (rn_V (As := [.int (nI j), .int (nI v)]) (rest := []) C (c_X4_breaks D k t l (nI j) (nI v) _) (cwV 2 hts gX4_always_X4_breaks rfl rfl rfl hdX4_breaksC ⟨Nat.le_of_ble_eq_true rfl, Nat.le_of_ble_eq_true rfl⟩) 0 4 rfl mw_o rfl hP hD hS rfl hl.1 rfl (Nat.le_of_ble_eq_true rfl) dX4_always_25 ⟨Nat.zero_le _, Nat.zero_le _⟩) (fun r7 wr7 H locs h8 hP hD hS => ?_)
      have h8 := h8.resolve_right (fun z => z.1 j v ⟨hj, rfl, hv, rfl⟩)
      obtain ⟨ja, va, ⟨_, eja, _, eva⟩, hfb, rfl⟩ := h8
      obtain rfl := nI_inj (by omega) (by omega) eja
      obtain rfl := nI_inj (by omega) (by omega) eva
      refine lv_iconst (v := (-1)) hx hb dX4_always_28 (by decide) ?_
      refine lv_icmp_ne (tgt := 36) hx hb dX4_always_29 (by decide) (fun c9 => ?_) (fun c9 => ?_)
      · refine lv_iconst (v := nI 0) hx hb dX4_always_36 (by decide) ?_
        exact Ri C hP hD hS (Nat.zero_le _) (Nat.zero_le _) dX4_always_37 (Or.inl ⟨j, v, ⟨hj, rfl, hv, rfl⟩, alw_f hfb c9, rfl⟩)
      · refine lv_iconst (v := nI 1) hx hb dX4_always_32 (by decide) ?_
        refine lv_goto (tgt := 37) hx hb dX4_always_33 (by decide) ?_
        exact Ri C hP hD hS (Nat.zero_le _) (Nat.zero_le _) dX4_always_37 (Or.inl ⟨j, v, ⟨hj, rfl, hv, rfl⟩, alw_t hfb c9, rfl⟩)
    · have c6 := pb_z c6
      refine lv_iconst (v := (-1)) hx hb dX4_always_18 (by decide) ?_
      refine lv_goto (tgt := 37) hx hb dX4_always_19 (by decide) ?_
      exact Ri C hP hD hS (Nat.zero_le _) (Nat.zero_le _) dX4_always_37 (Or.inr ⟨fun _ v q => c6 ⟨v, Nat.zero_le _, q.2.2.1, q.2.2.2⟩, rfl, rfl⟩)

def plA (nu : Nat → Int32) (j p0 : Nat) : Nat → Nat → Int32
  | 0 => nu
  | i + 1 => upd (plA nu j p0 i) (8 * j + (i + 1)) (plr p0 (i + 1))
set_option maxRecDepth 20000 in
theorem in_X4_plain_X4 : ∀ w ∈ u_ws RX4 TX4 15, w ∈ wsX4_plain := by decide +kernel
set_option maxRecDepth 20000 in
theorem lk_X4_plain_19 : Cond.fieldLink RX4 19 (TX4 3).1 (TX4 3).2.1 (TX4 3).2.2.1 ∈ wsX4_plain := by decide +kernel
set_option maxHeartbeats 4000000 in
set_option maxRecDepth 100000 in
theorem c_X4_plain (D : va_G) (k : Nat → ClassId) (t : Nat → Nat) (l : Launch) {bd : Nat → Nat} {st wt sm nu po sh up lo : Nat → Int32} {li : Int32} {ro so un to : Nat → Int64} {it : Int32} (x1 x2 : Int32) : Ci D k t l yX4_plain wsX4_plain ({ frames := 2, cells := 0, slots := 0, locals := 60 }) [.ref (bd 0), .int x1, .int x2] (MWw bd k st wt sm nu po sh up lo li ro so un to it) (fun r w => (∃ ja pa : Nat, (ja < 10 ∧ x1 = nI ja ∧ pa < 9 ∧ x2 = nI pa) ∧ r = nI 1 ∧ w = MWw bd k st wt sm (plA nu ja pa 7) po sh up lo li ro so un to it) ∨ ((∀ ja pa : Nat, ¬ (ja < 10 ∧ x1 = nI ja ∧ pa < 9 ∧ x2 = nI pa)) ∧ r = nI 0 ∧ w = MWw bd k st wt sm nu po sh up lo li ro so un to it)) 0 0 := by
  refine fw_of (cc := cX4_plain) (maxL := 4) (ret := (some .boolean)) (Qc := fun A => va_Qi (fun r w => (∃ ja pa : Nat, (ja < 10 ∧ x1 = nI ja ∧ pa < 9 ∧ x2 = nI pa) ∧ r = nI 1 ∧ w = MWw bd k st wt sm (plA nu ja pa 7) po sh up lo li ro so un to it) ∨ ((∀ ja pa : Nat, ¬ (ja < 10 ∧ x1 = nI ja ∧ pa < 9 ∧ x2 = nI pa)) ∧ r = nI 0 ∧ w = MWw bd k st wt sm nu po sh up lo li ro so un to it)) (BcW D A) A) (by decide) rfl (Nat.le_of_ble_eq_true rfl) ?_
  intro p e s m below meth c A ls C hP hD hl
  have C : Cx RX4 "plain" cX4_plain 4 (some .boolean) wsX4_plain D k t A p s m ([.ref (bd 0), .int x1, .int x2] : List Value).toArray meth c := C
  have hl : lv_has ls 4 [(0, .ref (bd 0)), (1, .int x1), (2, .int x2)] := hl
  have hx := C.1
  have hb := C.2.1
  have hown := C.2.2.2.2.1
  have hts := C.2.2.2.2.2.1
  have hK := C.2.2.2.2.2.2.2.2.1
  have hZ := C.2.2.2.2.2.2.2.2.2.1
  have hN := C.2.2.2.2.2.2.2.2.2.2
  have hS : va_S A s.heap s.heap [] := va_S.rf
  refine lv_iload_n hx hb dX4_plain_0 rfl (lv_at hl 1 rfl) ?_
  refine fw_i C hD hS (rn_S (As := [.int x1]) (rest := []) C (c_X4_isLaw D k t l x1 _) (va_cwS 1 hts gX4_plain_X4_isLaw rfl rfl rfl hdX4_isLaw ⟨Nat.le_of_ble_eq_true rfl, Nat.le_of_ble_eq_true rfl⟩) hP hD hS rfl hl.1 rfl (Nat.le_of_ble_eq_true rfl) dX4_plain_1 ⟨Nat.zero_le _, Nat.zero_le _⟩) (fun r1 wr1 H locs h2 hP hD hS => ?_)
  obtain ⟨rfl, rfl⟩ := h2
  refine lv_if_eq (tgt := 17) hx hb dX4_plain_4 (by decide) (fun c3 => ?_) (fun c3 => ?_)
  · have c3 := pb_z c3
    refine lv_iconst (v := nI 0) hx hb dX4_plain_17 (by decide) ?_
    exact Rz C hP hD hS (Nat.zero_le _) (Nat.zero_le _) rfl dX4_plain_18 (Or.inr ⟨fun j _ q => c3 ⟨j, Nat.zero_le _, q.1, q.2.1⟩, rfl, rfl⟩)
  · have c3 := pb_nz c3
    obtain ⟨j, h0j, hj, rfl⟩ := id c3
    refine lv_iload_n hx hb dX4_plain_7 rfl (lv_at hl 2 rfl) ?_
    refine lv_iconst (v := nI 0) hx hb dX4_plain_8 (by decide) ?_
    refine lv_bipush (v := nI 8) hx hb dX4_plain_9 (by decide) ?_
    refine fw_i C hD hS (rn_S (As := [.int x2, .int (nI 0), .int (nI 8)]) (rest := []) C (c_isInR D k t l (lo := 0) (hi := 8) x2 (by decide) (by decide) _) (va_cwS 3 hts gX4_plain_X4_isIn rfl rfl rfl hdX4_isIn ⟨Nat.le_of_ble_eq_true rfl, Nat.le_of_ble_eq_true rfl⟩) hP hD hS rfl hl.1 rfl (Nat.le_of_ble_eq_true rfl) dX4_plain_11 ⟨Nat.zero_le _, Nat.zero_le _⟩) (fun r4 wr4 H locs h5 hP hD hS => ?_)
    obtain ⟨rfl, rfl⟩ := h5
    refine lv_if_ne (tgt := 19) hx hb dX4_plain_14 (by decide) (fun c6 => ?_) (fun c6 => ?_)
    · have c6 := pb_nz c6
      obtain ⟨p0, h0p0, hp0, rfl⟩ := id c6
      refine lv_iconst (v := nI 1) hx hb dX4_plain_19 (by decide) ?_
      refine tp_i (y := nI (0 + 1)) (rfl) ?_
      refine lv_istore_n (lv' := [(3, .int (nI (0 + 1))), (0, .ref (bd 0)), (1, .int (nI j)), (2, .int (nI p0))]) hx hb dX4_plain_20 rfl hl (by decide) rfl (fun ls hl => ?_)
      have L7 : ∀ (r i : Nat), i + r = 7 → ∀ (H : Heap) (locs : List Loc) (ls : Array Slot), va_P D vwCl (MWw bd k st wt sm (plA nu j p0 i) po sh up lo li ro so un to it) H → va_D A (MWw bd k st wt sm (plA nu j p0 i) po sh up lo li ro so un to it) → va_S A s.heap H locs → lv_has ls 4 [(0, .ref (bd 0)), (1, .int (nI j)), (2, .int (nI p0)), (3, .int (nI (i + 1)))] → W p l e ({ frames := 2, cells := 0, slots := 0, locals := 60 }) s m ([.ref (bd 0), .int (nI j), .int (nI p0)] : List Value).toArray below meth c H locs 0 0 (MQ below (va_Qi (fun r w => (∃ ja pa : Nat, (ja < 10 ∧ (nI j) = nI ja ∧ pa < 9 ∧ (nI p0) = nI pa) ∧ r = nI 1 ∧ w = MWw bd k st wt sm (plA nu ja pa 7) po sh up lo li ro so un to it) ∨ ((∀ ja pa : Nat, ¬ (ja < 10 ∧ (nI j) = nI ja ∧ pa < 9 ∧ (nI p0) = nI pa)) ∧ r = nI 0 ∧ w = MWw bd k st wt sm nu po sh up lo li ro so un to it)) (BcW D A) A) ([.ref (bd 0), .int (nI j), .int (nI p0)] : List Value).toArray s 0 0 A) (F0 m 21 ls []) := by
        intro r
        induction r with
        | zero =>
          intro i hr H locs ls hP hD hS hl
          obtain rfl : 7 = i := by omega
          refine lv_iload_n hx hb dX4_plain_21 rfl (lv_at hl 3 rfl) ?_
          refine lv_bipush (v := nI 8) hx hb dX4_plain_22 (by decide) ?_
          refine lv_icmp_ge (tgt := 49) hx hb dX4_plain_24 (by decide) (fun c8 => ?_) (fun c8 => absurd (nI_le (by omega) (by decide)) c8)
          refine lv_iconst (v := nI 1) hx hb dX4_plain_49 (by decide) ?_
          exact Rz C hP hD hS (Nat.zero_le _) (Nat.zero_le _) rfl dX4_plain_50 (Or.inl ⟨j, p0, ⟨hj, rfl, hp0, rfl⟩, rfl, rfl⟩)
        | succ r ihL7 =>
          intro i hr H locs ls hP hD hS hl
          refine lv_iload_n hx hb dX4_plain_21 rfl (lv_at hl 3 rfl) ?_
          refine lv_bipush (v := nI 8) hx hb dX4_plain_22 (by decide) ?_
          refine lv_icmp_ge (tgt := 49) hx hb dX4_plain_24 (by decide) (fun c9 => absurd c9 (nI_ge (by omega) (by decide))) (fun c9 => ?_)
          refine lv_aload_n hx hb dX4_plain_27 rfl (lv_at hl 0 rfl) ?_
          refine fg C hP 0 mw_o (ci := 4) rfl 3 (by decide) in_X4_plain_X4 lk_X4_plain_19 (v := .ref (bd 4)) rfl dX4_plain_28 ?_
          refine lv_bipush (v := nI 8) hx hb dX4_plain_31 (by decide) ?_
          refine lv_iload_n hx hb dX4_plain_33 rfl (lv_at hl 1 rfl) ?_
          refine lv_imul hx hb dX4_plain_34 ?_
          refine tp_i (y := nI (8 * j)) (pk_mul _ _) ?_
          refine lv_iload_n hx hb dX4_plain_35 rfl (lv_at hl 3 rfl) ?_
          refine lv_iadd hx hb dX4_plain_36 ?_
          refine tp_i (y := nI ((8 * j) + (i + 1))) (nI_add _ _) ?_
          refine lv_iload_n hx hb dX4_plain_37 rfl (lv_at hl 2 rfl) ?_
          refine lv_iload_n hx hb dX4_plain_38 rfl (lv_at hl 3 rfl) ?_
          refine fw_i C hD hS (rn_S (As := [.int (nI p0), .int (nI (i + 1))]) (rest := [.int (nI ((8 * j) + (i + 1))), .ref (bd 4)]) C (c_plainOf D k t l (p0 := p0) (z := (i + 1)) (by omega) (by omega) _) (va_cwS 2 hts gX4_plain_X4_plainOf rfl rfl rfl hdX4_plainOf ⟨Nat.le_of_ble_eq_true rfl, Nat.le_of_ble_eq_true rfl⟩) hP hD hS rfl hl.1 rfl (Nat.le_of_ble_eq_true rfl) dX4_plain_39 ⟨Nat.zero_le _, Nat.zero_le _⟩) (fun r10 wr10 H locs h11 hP hD hS => ?_)
          obtain ⟨rfl, rfl⟩ := h11
          refine as_i C hP hD hS 4 mw_nu (j := ((8 * j) + (i + 1))) (by omega) (by decide) (mw_nu_st _) dX4_plain_42 (fun H locs hP hD hS => ?_)
          refine lv_iinc (v := nI ((i + 1) + 1)) (lv' := [(3, .int (nI ((i + 1) + 1))), (0, .ref (bd 0)), (1, .int (nI j)), (2, .int (nI p0))]) hx hb dX4_plain_43 hl (k := 3) rfl (by rw [← nI_add (i + 1) 1]; rfl) (by decide) rfl (fun ls hl => ?_)
          refine lv_goto (tgt := 21) hx hb dX4_plain_46 (by decide) ?_
          exact ihL7 (i + 1) (by omega) _ _ _ hP hD hS (lv_sub hl [1, 2, 3, 0] rfl)
      exact L7 (7 - 0) 0 (by omega) _ _ _ hP hD hS (lv_sub hl [1, 2, 3, 0] rfl)
    · have c6 := pb_z c6
      refine lv_iconst (v := nI 0) hx hb dX4_plain_17 (by decide) ?_
      exact Rz C hP hD hS (Nat.zero_le _) (Nat.zero_le _) rfl dX4_plain_18 (Or.inr ⟨fun _ v q => c6 ⟨v, Nat.zero_le _, q.2.2.1, q.2.2.2⟩, rfl, rfl⟩)

