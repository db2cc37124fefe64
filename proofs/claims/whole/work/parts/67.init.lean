theorem ws_obj_X1_init : Cond.code objectInit ⟨#[0xb1]⟩ 1 none ∈ wsX1_init := List.mem_cons_of_mem _ (List.mem_append_left _ (List.mem_of_getElem? (i := 2) rfl))
set_option maxRecDepth 20000 in
theorem in_X1_init_X1 : ∀ w ∈ u_ws RX1 TX1 2, w ∈ wsX1_init := by decide +kernel
set_option maxRecDepth 20000 in
theorem lk_X1_init_9 : Cond.fieldLink RX1 9 (TX1 0).1 (TX1 0).2.1 (TX1 0).2.2.1 ∈ wsX1_init := by decide +kernel
set_option maxRecDepth 20000 in
theorem lk_X1_init_13 : Cond.fieldLink RX1 13 (TX1 1).1 (TX1 1).2.1 (TX1 1).2.2.1 ∈ wsX1_init := by decide +kernel
set_option maxHeartbeats 4000000 in
set_option maxRecDepth 100000 in
theorem c_X1_init (D : va_G) (k : Nat → ClassId) (t : Nat → Nat) (l : Launch) {b : Nat} : Cv D k t l yX1_init wsX1_init ({ frames := 1, cells := 1, slots := 1024, locals := 30 }) [.ref b] ([(b, .inr (1, [.null, .int 0]))]) (fun (w : va_W) => ∃ qa : Nat, w = [(b, .inr (1, [.ref qa, .int (nI 0)])), (qa, .inl (k 1, 1024, .inr (.inl (fun _ => 0))))]) 1 1024 := by
  refine fw_of (cc := cX1_init) (maxL := 1) (ret := none) (Qc := fun A => va_Qv (fun (w : va_W) => ∃ qa : Nat, w = [(b, .inr (1, [.ref qa, .int (nI 0)])), (qa, .inl (k 1, 1024, .inr (.inl (fun _ => 0))))]) (BcW D A) A) (by decide) rfl (Nat.le_of_ble_eq_true rfl) ?_
  intro p e s m below meth c A ls C hP hD hl
  have C : Cx RX1 "<init>" cX1_init 1 none wsX1_init D k t A p s m ([.ref b] : List Value).toArray meth c := C
  have hl : lv_has ls 1 [(0, .ref b)] := hl
  have hx := C.1
  have hb := C.2.1
  have hown := C.2.2.2.2.1
  have hts := C.2.2.2.2.2.1
  have hK := C.2.2.2.2.2.2.2.2.1
  have hZ := C.2.2.2.2.2.2.2.2.2.1
  have hN := C.2.2.2.2.2.2.2.2.2.2
  have hS : va_S A s.heap s.heap [] := va_S.rf
  refine lv_aload_n hx hb dX1_init_0 rfl (lv_at hl 0 rfl) ?_
  refine ob C (idx := 1) (by decide +kernel) (by decide +kernel) (ws_obj_X1_init) hl.1 dX1_init_1 (Nat.le_of_ble_eq_true rfl) (Nat.le_of_ble_eq_true rfl) ?_
  refine lv_aload_n hx hb dX1_init_4 rfl (lv_at hl 0 rfl) ?_
  refine lv_sipush (v := nI 1024) hx hb dX1_init_5 (by decide) ?_
  refine nw_j C hP hD hS (hts (.arrayClass .long) (by decide +kernel)) (n := 1024) (by decide) (Nat.le_of_ble_eq_true rfl) (Nat.le_of_ble_eq_true rfl) dX1_init_8 (fun q1 H hP hD hS => ?_)
  have hP : va_P D vwCl ([(b, .inr (1, [.null, .int 0])), (q1, .inl (k 1, 1024, .inr (.inl (fun _ => 0))))]) H := hP
  have hD : va_D A ([(b, .inr (1, [.null, .int 0])), (q1, .inl (k 1, 1024, .inr (.inl (fun _ => 0))))]) := hD
  refine fpF C hP hD hS tyX1_ok nmX1 0 rfl (ci := 1) rfl 0 (by decide) in_X1_init_X1 lk_X1_init_9 rfl rfl (ty := .array .long) (v := .ref q1) (by decide +kernel) rfl rfl (Nat.le_of_ble_eq_true rfl) (ws' := [(b, .inr (1, [.ref q1, .int 0])), (q1, .inl (k 1, 1024, .inr (.inl (fun _ => 0))))]) rfl dX1_init_10 (fun H locs hP hD hS => ?_)
  refine lv_aload_n hx hb dX1_init_13 rfl (lv_at hl 0 rfl) ?_
  refine lv_iconst (v := nI 0) hx hb dX1_init_14 (by decide) ?_
  refine fp C hP hD hS tyX1_ok nmX1 0 rfl (ci := 1) rfl 1 (by decide) in_X1_init_X1 lk_X1_init_13 rfl (ty := .int) (v := .int (nI 0)) (by decide +kernel) rfl rfl (Nat.le_of_ble_eq_true rfl) (ws' := [(b, .inr (1, [.ref q1, .int (nI 0)])), (q1, .inl (k 1, 1024, .inr (.inl (fun _ => 0))))]) rfl dX1_init_15 (fun H locs hP hD hS => ?_)
  exact Rv C hP hD hS (by omega) (by omega) dX1_init_18 (⟨_, rfl⟩)

theorem ws_obj_X2_init : Cond.code objectInit ⟨#[0xb1]⟩ 1 none ∈ wsX2_init := List.mem_cons_of_mem _ (List.mem_append_left _ (List.mem_of_getElem? (i := 2) rfl))
set_option maxRecDepth 20000 in
theorem in_X2_init_X2 : ∀ w ∈ u_ws RX2 TX2 3, w ∈ wsX2_init := by decide +kernel
set_option maxRecDepth 20000 in
theorem lk_X2_init_9 : Cond.fieldLink RX2 9 (TX2 0).1 (TX2 0).2.1 (TX2 0).2.2.1 ∈ wsX2_init := by decide +kernel
set_option maxRecDepth 20000 in
theorem lk_X2_init_15 : Cond.fieldLink RX2 15 (TX2 1).1 (TX2 1).2.1 (TX2 1).2.2.1 ∈ wsX2_init := by decide +kernel
set_option maxRecDepth 20000 in
theorem lk_X2_init_18 : Cond.fieldLink RX2 18 (TX2 2).1 (TX2 2).2.1 (TX2 2).2.2.1 ∈ wsX2_init := by decide +kernel
set_option maxHeartbeats 4000000 in
set_option maxRecDepth 100000 in
theorem c_X2_init (D : va_G) (k : Nat → ClassId) (t : Nat → Nat) (l : Launch) {b : Nat} : Cv D k t l yX2_init wsX2_init ({ frames := 1, cells := 2, slots := 30, locals := 30 }) [.ref b] ([(b, .inr (2, [.null, .null, .int 0]))]) (fun (w : va_W) => ∃ qa qb : Nat, w = [(b, .inr (2, [.ref qa, .ref qb, .int (nI 0)])), (qa, .inl (k 0, 3, .inl (fun _ => nI 0))), (qb, .inl (k 0, 27, .inl (fun _ => nI 0)))]) 2 30 := by
  refine fw_of (cc := cX2_init) (maxL := 1) (ret := none) (Qc := fun A => va_Qv (fun (w : va_W) => ∃ qa qb : Nat, w = [(b, .inr (2, [.ref qa, .ref qb, .int (nI 0)])), (qa, .inl (k 0, 3, .inl (fun _ => nI 0))), (qb, .inl (k 0, 27, .inl (fun _ => nI 0)))]) (BcW D A) A) (by decide) rfl (Nat.le_of_ble_eq_true rfl) ?_
  intro p e s m below meth c A ls C hP hD hl
  have C : Cx RX2 "<init>" cX2_init 1 none wsX2_init D k t A p s m ([.ref b] : List Value).toArray meth c := C
  have hl : lv_has ls 1 [(0, .ref b)] := hl
  have hx := C.1
  have hb := C.2.1
  have hown := C.2.2.2.2.1
  have hts := C.2.2.2.2.2.1
  have hK := C.2.2.2.2.2.2.2.2.1
  have hZ := C.2.2.2.2.2.2.2.2.2.1
  have hN := C.2.2.2.2.2.2.2.2.2.2
  have hS : va_S A s.heap s.heap [] := va_S.rf
  refine lv_aload_n hx hb dX2_init_0 rfl (lv_at hl 0 rfl) ?_
  refine ob C (idx := 3) (by decide +kernel) (by decide +kernel) (ws_obj_X2_init) hl.1 dX2_init_1 (Nat.le_of_ble_eq_true rfl) (Nat.le_of_ble_eq_true rfl) ?_
  refine lv_aload_n hx hb dX2_init_4 rfl (lv_at hl 0 rfl) ?_
  refine lv_iconst (v := nI 3) hx hb dX2_init_5 (by decide) ?_
  refine nw_i C hP hD hS (hts (.arrayClass .int) (by decide +kernel)) (n := 3) (by decide) (Nat.le_of_ble_eq_true rfl) (Nat.le_of_ble_eq_true rfl) dX2_init_6 (fun q1 H hP hD hS => ?_)
  have hP : va_P D vwCl ([(b, .inr (2, [.null, .null, .int 0])), (q1, .inl (k 0, 3, .inl (fun _ => nI 0)))]) H := hP
  have hD : va_D A ([(b, .inr (2, [.null, .null, .int 0])), (q1, .inl (k 0, 3, .inl (fun _ => nI 0)))]) := hD
  refine fpF C hP hD hS tyX2_ok nmX2 0 rfl (ci := 2) rfl 0 (by decide) in_X2_init_X2 lk_X2_init_9 rfl rfl (ty := .array .int) (v := .ref q1) (by decide +kernel) rfl rfl (Nat.le_of_ble_eq_true rfl) (ws' := [(b, .inr (2, [.ref q1, .null, .int 0])), (q1, .inl (k 0, 3, .inl (fun _ => nI 0)))]) rfl dX2_init_8 (fun H locs hP hD hS => ?_)
  refine lv_aload_n hx hb dX2_init_11 rfl (lv_at hl 0 rfl) ?_
  refine lv_bipush (v := nI 27) hx hb dX2_init_12 (by decide) ?_
  refine nw_i C hP hD hS (hts (.arrayClass .int) (by decide +kernel)) (n := 27) (by decide) (Nat.le_of_ble_eq_true rfl) (Nat.le_of_ble_eq_true rfl) dX2_init_14 (fun q2 H hP hD hS => ?_)
  have hP : va_P D vwCl ([(b, .inr (2, [.ref q1, .null, .int 0])), (q1, .inl (k 0, 3, .inl (fun _ => nI 0))), (q2, .inl (k 0, 27, .inl (fun _ => nI 0)))]) H := hP
  have hD : va_D A ([(b, .inr (2, [.ref q1, .null, .int 0])), (q1, .inl (k 0, 3, .inl (fun _ => nI 0))), (q2, .inl (k 0, 27, .inl (fun _ => nI 0)))]) := hD
  refine fpF C hP hD hS tyX2_ok nmX2 0 rfl (ci := 2) rfl 1 (by decide) in_X2_init_X2 lk_X2_init_15 rfl rfl (ty := .array .int) (v := .ref q2) (by decide +kernel) rfl rfl (Nat.le_of_ble_eq_true rfl) (ws' := [(b, .inr (2, [.ref q1, .ref q2, .int 0])), (q1, .inl (k 0, 3, .inl (fun _ => nI 0))), (q2, .inl (k 0, 27, .inl (fun _ => nI 0)))]) rfl dX2_init_16 (fun H locs hP hD hS => ?_)
  refine lv_aload_n hx hb dX2_init_19 rfl (lv_at hl 0 rfl) ?_
  refine lv_iconst (v := nI 0) hx hb dX2_init_20 (by decide) ?_
  refine fp C hP hD hS tyX2_ok nmX2 0 rfl (ci := 2) rfl 2 (by decide) in_X2_init_X2 lk_X2_init_18 rfl (ty := .int) (v := .int (nI 0)) (by decide +kernel) rfl rfl (Nat.le_of_ble_eq_true rfl) (ws' := [(b, .inr (2, [.ref q1, .ref q2, .int (nI 0)])), (q1, .inl (k 0, 3, .inl (fun _ => nI 0))), (q2, .inl (k 0, 27, .inl (fun _ => nI 0)))]) rfl dX2_init_21 (fun H locs hP hD hS => ?_)
  exact Rv C hP hD hS (by omega) (by omega) dX2_init_24 (⟨_, _, rfl⟩)

theorem ws_obj_X0_init : Cond.code objectInit ⟨#[0xb1]⟩ 1 none ∈ wsX0_init := List.mem_cons_of_mem _ (List.mem_append_left _ (List.mem_of_getElem? (i := 2) rfl))
set_option maxRecDepth 20000 in
theorem in_X0_init_X0 : ∀ w ∈ u_ws RX0 TX0 3, w ∈ wsX0_init := by decide +kernel
set_option maxRecDepth 20000 in
theorem lk_X0_init_13 : Cond.fieldLink RX0 13 (TX0 0).1 (TX0 0).2.1 (TX0 0).2.2.1 ∈ wsX0_init := by decide +kernel
set_option maxRecDepth 20000 in
theorem lk_X0_init_21 : Cond.fieldLink RX0 21 (TX0 1).1 (TX0 1).2.1 (TX0 1).2.2.1 ∈ wsX0_init := by decide +kernel
set_option maxRecDepth 20000 in
theorem lk_X0_init_25 : Cond.fieldLink RX0 25 (TX0 2).1 (TX0 2).2.1 (TX0 2).2.2.1 ∈ wsX0_init := by decide +kernel
set_option maxHeartbeats 4000000 in
set_option maxRecDepth 100000 in
theorem c_X0_init (D : va_G) (k : Nat → ClassId) (t : Nat → Nat) (l : Launch) {b : Nat} : Cv D k t l yX0_init wsX0_init ({ frames := 2, cells := 5, slots := 2058, locals := 70 }) [.ref b] ([(b, .inr (0, [.null, .null, .null]))]) (fun (w : va_W) => ∃ q1 q2 q3 q4 q5 : Nat, w = [(b, .inr (0, [.ref q1, .ref q2, .ref q4])), (q1, .inl (k 0, 6, .inl (fun _ => nI 0))), (q2, .inr (1, [.ref q3, .int (nI 0)])), (q3, .inl (k 1, 1024, .inr (.inl (fun _ => 0)))), (q4, .inr (1, [.ref q5, .int (nI 0)])), (q5, .inl (k 1, 1024, .inr (.inl (fun _ => 0))))]) 5 2058 := by
  refine fw_of (cc := cX0_init) (maxL := 1) (ret := none) (Qc := fun A => va_Qv (fun (w : va_W) => ∃ q1 q2 q3 q4 q5 : Nat, w = [(b, .inr (0, [.ref q1, .ref q2, .ref q4])), (q1, .inl (k 0, 6, .inl (fun _ => nI 0))), (q2, .inr (1, [.ref q3, .int (nI 0)])), (q3, .inl (k 1, 1024, .inr (.inl (fun _ => 0)))), (q4, .inr (1, [.ref q5, .int (nI 0)])), (q5, .inl (k 1, 1024, .inr (.inl (fun _ => 0))))]) (BcW D A) A) (by decide) rfl (Nat.le_of_ble_eq_true rfl) ?_
  intro p e s m below meth c A ls C hP hD hl
  have C : Cx RX0 "<init>" cX0_init 1 none wsX0_init D k t A p s m ([.ref b] : List Value).toArray meth c := C
  have hl : lv_has ls 1 [(0, .ref b)] := hl
  have hx := C.1
  have hb := C.2.1
  have hown := C.2.2.2.2.1
  have hts := C.2.2.2.2.2.1
  have hK := C.2.2.2.2.2.2.2.2.1
  have hZ := C.2.2.2.2.2.2.2.2.2.1
  have hN := C.2.2.2.2.2.2.2.2.2.2
  have hS : va_S A s.heap s.heap [] := va_S.rf
  refine lv_aload_n hx hb dX0_init_0 rfl (lv_at hl 0 rfl) ?_
  refine ob C (idx := 3) (by decide +kernel) (by decide +kernel) (ws_obj_X0_init) hl.1 dX0_init_1 (Nat.le_of_ble_eq_true rfl) (Nat.le_of_ble_eq_true rfl) ?_
  refine lv_aload_n hx hb dX0_init_4 rfl (lv_at hl 0 rfl) ?_
  refine va_getsN hx hb (hZ.1.1) hS hown (va_Nw.use rfl (hN.2 (RX0, 9, RX3, "PRIMES", "[I") (List.mem_of_getElem? (i := 0) rfl))) (fun _ h9 => h9) dX0_init_5 ?_
  refine va_tlen (v := nI 6) hx hb (hZ.1.2) hS rfl dX0_init_8 ?_
  refine nw_i C hP hD hS (hts (.arrayClass .int) (by decide +kernel)) (n := 6) (by decide) (Nat.le_of_ble_eq_true rfl) (Nat.le_of_ble_eq_true rfl) dX0_init_9 (fun q1 H hP hD hS => ?_)
  have hP : va_P D vwCl ([(b, .inr (0, [.null, .null, .null])), (q1, .inl (k 0, 6, .inl (fun _ => nI 0)))]) H := hP
  have hD : va_D A ([(b, .inr (0, [.null, .null, .null])), (q1, .inl (k 0, 6, .inl (fun _ => nI 0)))]) := hD
  refine fpF C hP hD hS tyX0_ok nmX0 0 rfl (ci := 0) rfl 0 (by decide) in_X0_init_X0 lk_X0_init_13 rfl rfl (ty := .array .int) (v := .ref q1) (by decide +kernel) rfl rfl (Nat.le_of_ble_eq_true rfl) (ws' := [(b, .inr (0, [.ref q1, .null, .null])), (q1, .inl (k 0, 6, .inl (fun _ => nI 0)))]) rfl dX0_init_11 (fun H locs hP hD hS => ?_)
  refine lv_aload_n hx hb dX0_init_14 rfl (lv_at hl 0 rfl) ?_
  refine nw_o C hP hD hS (ci := 1) (fs := [.null, .int 0]) (by decide +kernel : ∀ w ∈ u_ws RX1 TX1 2, w ∈ wsX0_init) tyX1_ok (by decide +kernel) (by decide +kernel) (by decide +kernel) rfl (fun j hj => by rcases (show j = 0 ∨ j = 1 by omega) with rfl | rfl <;> rfl) (Nat.le_of_ble_eq_true rfl) (Nat.le_of_ble_eq_true rfl) dX0_init_15 (fun q2 H hP hD hS => ?_)
  have hP : va_P D vwCl ([(b, .inr (0, [.ref q1, .null, .null])), (q1, .inl (k 0, 6, .inl (fun _ => nI 0))), (q2, .inr (1, [.null, .int 0]))]) H := hP
  have hD : va_D A ([(b, .inr (0, [.ref q1, .null, .null])), (q1, .inl (k 0, 6, .inl (fun _ => nI 0))), (q2, .inr (1, [.null, .int 0]))]) := hD
  refine lv_dup hx hb dX0_init_18 rfl ?_
  refine fw_vF (wr := [(b, .inr (0, [.ref q1, .null, .null])), (q1, .inl (k 0, 6, .inl (fun _ => nI 0)))]) (wc := [(q2, .inr (1, [.null, .int 0]))]) C hP hD hS (rn_IN (host := RX3) (As := []) (rest := [.ref q2, .ref b]) C (c_X1_init D k t l (b := q2) _) (va_cnB 0 hts gX0_init_X1_init_n20 rfl rfl rfl (hN.1 (RX0, 20, yX1_init) (List.mem_of_getElem? (i := 1) rfl)) (hts (.initialized RX1) (by decide +kernel)) hdX1_init ⟨Nat.le_of_ble_eq_true rfl, Nat.le_of_ble_eq_true rfl⟩) rfl (hts (.instanceMethod yX1_init) (by decide +kernel)) (pR (wr := [(b, .inr (0, [.ref q1, .null, .null])), (q1, .inl (k 0, 6, .inl (fun _ => nI 0)))]) hP) (dR (wr := [(b, .inr (0, [.ref q1, .null, .null])), (q1, .inl (k 0, 6, .inl (fun _ => nI 0)))]) hD) hS rfl hl.1 rfl (Nat.le_of_ble_eq_true rfl) dX0_init_19 ⟨Nat.le_of_ble_eq_true rfl, Nat.le_of_ble_eq_true rfl⟩) (fun w9 H locs hw9 hP hD hS => ?_)
  obtain ⟨q3, rfl⟩ := hw9
  have hP : va_P D vwCl ([(b, .inr (0, [.ref q1, .null, .null])), (q1, .inl (k 0, 6, .inl (fun _ => nI 0))), (q2, .inr (1, [.ref q3, .int (nI 0)])), (q3, .inl (k 1, 1024, .inr (.inl (fun _ => 0))))]) H := hP
  have hD : va_D A ([(b, .inr (0, [.ref q1, .null, .null])), (q1, .inl (k 0, 6, .inl (fun _ => nI 0))), (q2, .inr (1, [.ref q3, .int (nI 0)])), (q3, .inl (k 1, 1024, .inr (.inl (fun _ => 0))))]) := hD
  refine fpF C hP hD hS tyX0_ok nmX0 0 rfl (ci := 0) rfl 1 (by decide) in_X0_init_X0 lk_X0_init_21 rfl rfl (ty := .object RX1) (v := .ref q2) (by decide +kernel) rfl rfl (Nat.le_of_ble_eq_true rfl) (ws' := [(b, .inr (0, [.ref q1, .ref q2, .null])), (q1, .inl (k 0, 6, .inl (fun _ => nI 0))), (q2, .inr (1, [.ref q3, .int (nI 0)])), (q3, .inl (k 1, 1024, .inr (.inl (fun _ => 0))))]) rfl dX0_init_22 (fun H locs hP hD hS => ?_)
  refine lv_aload_n hx hb dX0_init_25 rfl (lv_at hl 0 rfl) ?_
  refine nw_o C hP hD hS (ci := 1) (fs := [.null, .int 0]) (by decide +kernel : ∀ w ∈ u_ws RX1 TX1 2, w ∈ wsX0_init) tyX1_ok (by decide +kernel) (by decide +kernel) (by decide +kernel) rfl (fun j hj => by rcases (show j = 0 ∨ j = 1 by omega) with rfl | rfl <;> rfl) (Nat.le_of_ble_eq_true rfl) (Nat.le_of_ble_eq_true rfl) dX0_init_26 (fun q4 H hP hD hS => ?_)
  have hP : va_P D vwCl ([(b, .inr (0, [.ref q1, .ref q2, .null])), (q1, .inl (k 0, 6, .inl (fun _ => nI 0))), (q2, .inr (1, [.ref q3, .int (nI 0)])), (q3, .inl (k 1, 1024, .inr (.inl (fun _ => 0)))), (q4, .inr (1, [.null, .int 0]))]) H := hP
  have hD : va_D A ([(b, .inr (0, [.ref q1, .ref q2, .null])), (q1, .inl (k 0, 6, .inl (fun _ => nI 0))), (q2, .inr (1, [.ref q3, .int (nI 0)])), (q3, .inl (k 1, 1024, .inr (.inl (fun _ => 0)))), (q4, .inr (1, [.null, .int 0]))]) := hD
  refine lv_dup hx hb dX0_init_29 rfl ?_
  refine fw_vF (wr := [(b, .inr (0, [.ref q1, .ref q2, .null])), (q1, .inl (k 0, 6, .inl (fun _ => nI 0))), (q2, .inr (1, [.ref q3, .int (nI 0)])), (q3, .inl (k 1, 1024, .inr (.inl (fun _ => 0))))]) (wc := [(q4, .inr (1, [.null, .int 0]))]) C hP hD hS (rn_IN (host := RX3) (As := []) (rest := [.ref q4, .ref b]) C (c_X1_init D k t l (b := q4) _) (va_cnB 0 hts gX0_init_X1_init_n20 rfl rfl rfl (hN.1 (RX0, 20, yX1_init) (List.mem_of_getElem? (i := 1) rfl)) (hts (.initialized RX1) (by decide +kernel)) hdX1_init ⟨Nat.le_of_ble_eq_true rfl, Nat.le_of_ble_eq_true rfl⟩) rfl (hts (.instanceMethod yX1_init) (by decide +kernel)) (pR (wr := [(b, .inr (0, [.ref q1, .ref q2, .null])), (q1, .inl (k 0, 6, .inl (fun _ => nI 0))), (q2, .inr (1, [.ref q3, .int (nI 0)])), (q3, .inl (k 1, 1024, .inr (.inl (fun _ => 0))))]) hP) (dR (wr := [(b, .inr (0, [.ref q1, .ref q2, .null])), (q1, .inl (k 0, 6, .inl (fun _ => nI 0))), (q2, .inr (1, [.ref q3, .int (nI 0)])), (q3, .inl (k 1, 1024, .inr (.inl (fun _ => 0))))]) hD) hS rfl hl.1 rfl (Nat.le_of_ble_eq_true rfl) dX0_init_30 ⟨Nat.le_of_ble_eq_true rfl, Nat.le_of_ble_eq_true rfl⟩) (fun w9 H locs hw9 hP hD hS => ?_)
  obtain ⟨q5, rfl⟩ := hw9
  have hP : va_P D vwCl ([(b, .inr (0, [.ref q1, .ref q2, .null])), (q1, .inl (k 0, 6, .inl (fun _ => nI 0))), (q2, .inr (1, [.ref q3, .int (nI 0)])), (q3, .inl (k 1, 1024, .inr (.inl (fun _ => 0)))), (q4, .inr (1, [.ref q5, .int (nI 0)])), (q5, .inl (k 1, 1024, .inr (.inl (fun _ => 0))))]) H := hP
  have hD : va_D A ([(b, .inr (0, [.ref q1, .ref q2, .null])), (q1, .inl (k 0, 6, .inl (fun _ => nI 0))), (q2, .inr (1, [.ref q3, .int (nI 0)])), (q3, .inl (k 1, 1024, .inr (.inl (fun _ => 0)))), (q4, .inr (1, [.ref q5, .int (nI 0)])), (q5, .inl (k 1, 1024, .inr (.inl (fun _ => 0))))]) := hD
  refine fpF C hP hD hS tyX0_ok nmX0 0 rfl (ci := 0) rfl 2 (by decide) in_X0_init_X0 lk_X0_init_25 rfl rfl (ty := .object RX1) (v := .ref q4) (by decide +kernel) rfl rfl (Nat.le_of_ble_eq_true rfl) (ws' := [(b, .inr (0, [.ref q1, .ref q2, .ref q4])), (q1, .inl (k 0, 6, .inl (fun _ => nI 0))), (q2, .inr (1, [.ref q3, .int (nI 0)])), (q3, .inl (k 1, 1024, .inr (.inl (fun _ => 0)))), (q4, .inr (1, [.ref q5, .int (nI 0)])), (q5, .inl (k 1, 1024, .inr (.inl (fun _ => 0))))]) rfl dX0_init_33 (fun H locs hP hD hS => ?_)
  exact Rv C hP hD hS (by omega) (by omega) dX0_init_36 (⟨_, _, _, _, _, rfl⟩)

