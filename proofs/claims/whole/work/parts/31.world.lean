set_option maxHeartbeats 4000000 in
set_option maxRecDepth 100000 in
theorem c_fill (D : va_G) (k : Nat → ClassId) (t : Nat → Nat) (l : Launch) {ws : va_W} {q a n : Nat} {f : Nat → Int32} (hq : ws[q]? = some (a, .inl (k 0, n, .inl f))) (hn : n < 2 ^ 31) (x1 : Int32) : Cv D k t l yJ7_fill_53178 wsJ7_fill_53178 ({ frames := 0, cells := 0, slots := 0, locals := 0 }) [.ref a, .int x1] (ws) (fun w => w = ws.set q (a, .inl (k 0, n, .inl (fun _ => x1)))) 0 0 := by
  refine fw_of (cc := cJ7_fill_53178) (maxL := 4) (ret := none) (Qc := fun A => va_Qv (fun w => w = ws.set q (a, .inl (k 0, n, .inl (fun _ => x1)))) (BcW D A) A) (by decide) rfl (Nat.le_of_ble_eq_true rfl) ?_
  intro p e s m below meth c A ls C hP hD hl
  have C : Cx RJ7 "fill" cJ7_fill_53178 4 none wsJ7_fill_53178 D k t A p s m ([.ref a, .int x1] : List Value).toArray meth c := C
  have hl : lv_has ls 4 [(0, .ref a), (1, .int x1)] := hl
  have hx := C.1
  have hb := C.2.1
  have hown := C.2.2.2.2.1
  have hts := C.2.2.2.2.2.1
  have hK := C.2.2.2.2.2.2.2.2.1
  have hZ := C.2.2.2.2.2.2.2.2.2.1
  have hN := C.2.2.2.2.2.2.2.2.2.2
  have hS : va_S A s.heap s.heap [] := va_S.rf
  refine lv_iconst (v := nI 0) hx hb dJ7_fill_53178_0 (by decide) ?_
  refine lv_istore_n (lv' := [(2, .int (nI 0)), (0, .ref a), (1, .int x1)]) hx hb dJ7_fill_53178_1 rfl hl (by decide) rfl (fun ls hl => ?_)
  refine lv_aload_n hx hb dJ7_fill_53178_2 rfl (lv_at hl 1 rfl) ?_
  refine va_alen (v := nI n) hx hb hK hP q 0 hq rfl rfl dJ7_fill_53178_3 ?_
  refine lv_istore_n (lv' := [(3, .int (nI n)), (2, .int (nI 0)), (0, .ref a), (1, .int x1)]) hx hb dJ7_fill_53178_4 rfl hl (by decide) rfl (fun ls hl => ?_)
  have L1 : ∀ (r i : Nat), i + r = n → ∀ (H : Heap) (locs : List Loc) (ls : Array Slot), va_P D vwCl (ws.set q (a, .inl (k 0, n, .inl (fl f x1 i)))) H → va_D A (ws.set q (a, .inl (k 0, n, .inl (fl f x1 i)))) → va_S A s.heap H locs → lv_has ls 4 [(0, .ref a), (1, .int x1), (2, .int (nI i)), (3, .int (nI n))] → W p l e ({ frames := 0, cells := 0, slots := 0, locals := 0 }) s m ([.ref a, .int x1] : List Value).toArray below meth c H locs 0 0 (MQ below (va_Qv (fun w => w = ws.set q (a, .inl (k 0, n, .inl (fun _ => x1)))) (BcW D A) A) ([.ref a, .int x1] : List Value).toArray s 0 0 A) (F0 m 5 ls []) := by
    intro r
    induction r with
    | zero =>
      intro i hr H locs ls hP hD hS hl
      obtain rfl : i = n := by omega
      refine lv_iload_n hx hb dJ7_fill_53178_5 rfl (lv_at hl 2 rfl) ?_
      refine lv_iload_n hx hb dJ7_fill_53178_6 rfl (lv_at hl 3 rfl) ?_
      refine lv_icmp_ge (tgt := 20) hx hb dJ7_fill_53178_7 (by decide) (fun c2 => ?_) (fun c2 => absurd (nI_le (Nat.le_refl _) hn) c2)
      obtain ⟨hP, hD⟩ := cg_i hP hD (sg_eq hq) (g := fun _ => x1) (fun j hj => if_pos hj) sg_ss
      exact Rv C hP hD hS (Nat.zero_le _) (Nat.zero_le _) dJ7_fill_53178_20 rfl
    | succ r ihL1 =>
      intro i hr H locs ls hP hD hS hl
      refine lv_iload_n hx hb dJ7_fill_53178_5 rfl (lv_at hl 2 rfl) ?_
      refine lv_iload_n hx hb dJ7_fill_53178_6 rfl (lv_at hl 3 rfl) ?_
      refine lv_icmp_ge (tgt := 20) hx hb dJ7_fill_53178_7 (by decide) (fun c3 => absurd c3 (nI_ge (by omega) hn)) (fun c3 => ?_)
      refine lv_aload_n hx hb dJ7_fill_53178_10 rfl (lv_at hl 0 rfl) ?_
      refine lv_iload_n hx hb dJ7_fill_53178_11 rfl (lv_at hl 2 rfl) ?_
      refine lv_iload_n hx hb dJ7_fill_53178_12 rfl (lv_at hl 1 rfl) ?_
      refine as_i C hP hD hS q (sg_eq hq) (j := i) (by omega) hn sg_ss dJ7_fill_53178_13 (fun H locs hP hD hS => ?_)
      refine lv_iinc (v := nI (i + 1)) (lv' := [(2, .int (nI (i + 1))), (0, .ref a), (1, .int x1), (3, .int (nI n))]) hx hb dJ7_fill_53178_14 hl (k := 2) rfl (by rw [← nI_add]; rfl) (by decide) rfl (fun ls hl => ?_)
      refine lv_goto (tgt := 5) hx hb dJ7_fill_53178_17 (by decide) ?_
      rw [fl_s] at hP hD
      exact ihL1 (i + 1) (by omega) _ _ _ hP hD hS (lv_sub hl [1, 2, 0, 3] rfl)
  have e0 : ws = ws.set q (a, .inl (k 0, n, .inl (fl f x1 0))) := by rw [fl_0]; exact (sg_self hq).symm
  rw [e0] at hP hD
  exact L1 (n - 0) 0 (by omega) _ _ _ hP hD hS (lv_sub hl [2, 3, 1, 0] rfl)

set_option maxHeartbeats 4000000 in
set_option maxRecDepth 100000 in
theorem c_settingOf (D : va_G) (k : Nat → ClassId) (t : Nat → Nat) (l : Launch) {ws : va_W} (a1 a2 a3 : Nat) : Ci D k t l yX3_settingOf wsX3_settingOf ({ frames := 0, cells := 0, slots := 0, locals := 0 }) [.int (nI a1), .int (nI a2), .int (nI a3)] (ws) (fun r w => r = nI (a1 + 3 * a2 + 9 * a3) ∧ w = ws) 0 0 := by
  refine fw_of (cc := cX3_settingOf) (maxL := 3) (ret := (some .int)) (Qc := fun A => va_Qi (fun r w => r = nI (a1 + 3 * a2 + 9 * a3) ∧ w = ws) (BcW D A) A) (by decide) rfl (Nat.le_of_ble_eq_true rfl) ?_
  intro p e s m below meth c A ls C hP hD hl
  have C : Cx RX3 "settingOf" cX3_settingOf 3 (some .int) wsX3_settingOf D k t A p s m ([.int (nI a1), .int (nI a2), .int (nI a3)] : List Value).toArray meth c := C
  have hl : lv_has ls 3 [(0, .int (nI a1)), (1, .int (nI a2)), (2, .int (nI a3))] := hl
  have hx := C.1
  have hb := C.2.1
  have hown := C.2.2.2.2.1
  have hts := C.2.2.2.2.2.1
  have hK := C.2.2.2.2.2.2.2.2.1
  have hZ := C.2.2.2.2.2.2.2.2.2.1
  have hN := C.2.2.2.2.2.2.2.2.2.2
  have hS : va_S A s.heap s.heap [] := va_S.rf
  refine lv_iload_n hx hb dX3_settingOf_0 rfl (lv_at hl 0 rfl) ?_
  refine lv_iconst (v := nI 3) hx hb dX3_settingOf_1 (by decide) ?_
  refine lv_iload_n hx hb dX3_settingOf_2 rfl (lv_at hl 1 rfl) ?_
  refine lv_imul hx hb dX3_settingOf_3 ?_
  refine tp_i (y := nI (3 * a2)) (pk_mul _ _) ?_
  refine lv_iadd hx hb dX3_settingOf_4 ?_
  refine tp_i (y := nI (a1 + (3 * a2))) (nI_add _ _) ?_
  refine lv_bipush (v := nI 9) hx hb dX3_settingOf_5 (by decide) ?_
  refine lv_iload_n hx hb dX3_settingOf_7 rfl (lv_at hl 2 rfl) ?_
  refine lv_imul hx hb dX3_settingOf_8 ?_
  refine tp_i (y := nI (9 * a3)) (pk_mul _ _) ?_
  refine lv_iadd hx hb dX3_settingOf_9 ?_
  refine tp_i (y := nI ((a1 + (3 * a2)) + (9 * a3))) (nI_add _ _) ?_
  exact Ri C hP hD hS (Nat.zero_le _) (Nat.zero_le _) dX3_settingOf_10 (⟨rfl, rfl⟩)

set_option maxRecDepth 20000 in
theorem in_X2_begin_X2 : ∀ w ∈ u_ws RX2 TX2 3, w ∈ wsX2_begin := by decide +kernel
set_option maxRecDepth 20000 in
theorem lk_X2_begin_9 : Cond.fieldLink RX2 9 (TX2 0).1 (TX2 0).2.1 (TX2 0).2.2.1 ∈ wsX2_begin := by decide +kernel
set_option maxRecDepth 20000 in
theorem lk_X2_begin_15 : Cond.fieldLink RX2 15 (TX2 1).1 (TX2 1).2.1 (TX2 1).2.2.1 ∈ wsX2_begin := by decide +kernel
set_option maxRecDepth 20000 in
theorem lk_X2_begin_18 : Cond.fieldLink RX2 18 (TX2 2).1 (TX2 2).2.1 (TX2 2).2.2.1 ∈ wsX2_begin := by decide +kernel
set_option maxHeartbeats 4000000 in
set_option maxRecDepth 100000 in
theorem c_X2_begin (D : va_G) (k : Nat → ClassId) (t : Nat → Nat) (l : Launch) {ad : Nat → Nat} {N : Nat → Int32} {S Wt L : Nat → Nat → Int32} {T : Nat → Int32} {G : Nat → Nat → Int64} {E : Nat → Int32} {su pa tr sh : Nat → Int32} {pv : Int32} {g : Nat} (hg : g < 4) (x1 x2 x3 : Int32) : Cv D k t l yX2_begin wsX2_begin ({ frames := 1, cells := 0, slots := 0, locals := 30 }) [.ref (ad (2 + 3 * g)), .int x1, .int x2, .int x3] (TBw ad k N S Wt L T G E su pa tr sh pv) (fun w => w = TBw ad k (upd N g (nI 0)) (va_up S g (upd (upd (upd (S g) 0 x1) 1 x2) 2 x3)) (va_up Wt g (fun _ => nI 0)) L T G E su pa tr sh pv) 0 0 := by
  refine fw_of (cc := cX2_begin) (maxL := 4) (ret := none) (Qc := fun A => va_Qv (fun w => w = TBw ad k (upd N g (nI 0)) (va_up S g (upd (upd (upd (S g) 0 x1) 1 x2) 2 x3)) (va_up Wt g (fun _ => nI 0)) L T G E su pa tr sh pv) (BcW D A) A) (by decide) rfl (Nat.le_of_ble_eq_true rfl) ?_
  intro p e s m below meth c A ls C hP hD hl
  have C : Cx RX2 "begin" cX2_begin 4 none wsX2_begin D k t A p s m ([.ref (ad (2 + 3 * g)), .int x1, .int x2, .int x3] : List Value).toArray meth c := C
  have hl : lv_has ls 4 [(0, .ref (ad (2 + 3 * g))), (1, .int x1), (2, .int x2), (3, .int x3)] := hl
  have hx := C.1
  have hb := C.2.1
  have hown := C.2.2.2.2.1
  have hts := C.2.2.2.2.2.1
  have hK := C.2.2.2.2.2.2.2.2.1
  have hZ := C.2.2.2.2.2.2.2.2.2.1
  have hN := C.2.2.2.2.2.2.2.2.2.2
  have hS : va_S A s.heap s.heap [] := va_S.rf
  refine lv_aload_n hx hb dX2_begin_0 rfl (lv_at hl 0 rfl) ?_
  refine fg C hP (2 + 3 * g) (tb_w hg) (ci := 2) rfl 0 (by decide) in_X2_begin_X2 lk_X2_begin_9 (v := .ref (ad (3 + 3 * g))) rfl dX2_begin_1 ?_
  refine lv_iconst (v := nI 0) hx hb dX2_begin_4 (by decide) ?_
  refine lv_iload_n hx hb dX2_begin_5 rfl (lv_at hl 1 rfl) ?_
  refine as_i C hP hD hS (3 + 3 * g) (tb_s hg) (j := 0) (by decide) (by decide) (tb_s_st hg _) dX2_begin_6 (fun H locs hP hD hS => ?_)
  refine lv_aload_n hx hb dX2_begin_7 rfl (lv_at hl 0 rfl) ?_
  refine fg C hP (2 + 3 * g) (tb_w hg) (ci := 2) rfl 0 (by decide) in_X2_begin_X2 lk_X2_begin_9 (v := .ref (ad (3 + 3 * g))) rfl dX2_begin_8 ?_
  refine lv_iconst (v := nI 1) hx hb dX2_begin_11 (by decide) ?_
  refine lv_iload_n hx hb dX2_begin_12 rfl (lv_at hl 2 rfl) ?_
  refine as_i C hP hD hS (3 + 3 * g) (tb_s2 hg) (j := 1) (by decide) (by decide) (tb_s2_st hg _) dX2_begin_13 (fun H locs hP hD hS => ?_)
  refine lv_aload_n hx hb dX2_begin_14 rfl (lv_at hl 0 rfl) ?_
  refine fg C hP (2 + 3 * g) (tb_w hg) (ci := 2) rfl 0 (by decide) in_X2_begin_X2 lk_X2_begin_9 (v := .ref (ad (3 + 3 * g))) rfl dX2_begin_15 ?_
  refine lv_iconst (v := nI 2) hx hb dX2_begin_18 (by decide) ?_
  refine lv_iload_n hx hb dX2_begin_19 rfl (lv_at hl 3 rfl) ?_
  refine as_i C hP hD hS (3 + 3 * g) (tb_s2 hg) (j := 2) (by decide) (by decide) (tb_s2_st hg _) dX2_begin_20 (fun H locs hP hD hS => ?_)
  refine lv_aload_n hx hb dX2_begin_21 rfl (lv_at hl 0 rfl) ?_
  refine fg C hP (2 + 3 * g) (tb_w hg) (ci := 2) rfl 1 (by decide) in_X2_begin_X2 lk_X2_begin_15 (v := .ref (ad (4 + 3 * g))) rfl dX2_begin_22 ?_
  refine lv_iconst (v := nI 0) hx hb dX2_begin_25 (by decide) ?_
  refine fw_v C hD hS (rn_S (As := [.ref (ad (4 + 3 * g)), .int (nI 0)]) (rest := []) C (c_fill D k t l (tb_v hg) (by decide) (nI 0) _) (va_cwS 2 hts gX2_begin_J7_fill_53178 rfl rfl rfl hdJ7_fill_53178 ⟨Nat.le_of_ble_eq_true rfl, Nat.le_of_ble_eq_true rfl⟩) hP hD hS rfl hl.1 rfl (Nat.le_of_ble_eq_true rfl) dX2_begin_26 ⟨Nat.zero_le _, Nat.zero_le _⟩) (fun wr1 H locs h2 hP hD hS => ?_)
  rw [(tb_v_st hg _)] at h2
  obtain rfl := h2
  refine lv_aload_n hx hb dX2_begin_29 rfl (lv_at hl 0 rfl) ?_
  refine lv_iconst (v := nI 0) hx hb dX2_begin_30 (by decide) ?_
  refine fp C hP hD hS tyX2_ok nmX2 (2 + 3 * g) (tb_w hg) (ci := 2) rfl 2 (by decide) in_X2_begin_X2 lk_X2_begin_18 rfl (ty := .int) (v := .int (nI 0)) (by decide +kernel) rfl rfl (Nat.le_of_ble_eq_true rfl) (tb_w_st hg _) dX2_begin_31 (fun H locs hP hD hS => ?_)
  exact Rv C hP hD hS (Nat.zero_le _) (Nat.zero_le _) dX2_begin_34 rfl

def f_put (n o w : Int32) : Int32 := if n - o + w ≤ 16 then 1 else 0
set_option maxRecDepth 20000 in
theorem in_X2_put_X2 : ∀ w ∈ u_ws RX2 TX2 3, w ∈ wsX2_put := by decide +kernel
set_option maxRecDepth 20000 in
theorem lk_X2_put_18 : Cond.fieldLink RX2 18 (TX2 2).1 (TX2 2).2.1 (TX2 2).2.2.1 ∈ wsX2_put := by decide +kernel
set_option maxRecDepth 20000 in
theorem lk_X2_put_15 : Cond.fieldLink RX2 15 (TX2 1).1 (TX2 1).2.1 (TX2 1).2.2.1 ∈ wsX2_put := by decide +kernel
set_option maxHeartbeats 4000000 in
set_option maxRecDepth 100000 in
theorem c_X2_put (D : va_G) (k : Nat → ClassId) (t : Nat → Nat) (l : Launch) {ad : Nat → Nat} {N : Nat → Int32} {S Wt L : Nat → Nat → Int32} {T : Nat → Int32} {G : Nat → Nat → Int64} {E : Nat → Int32} {su pa tr sh : Nat → Int32} {pv : Int32} {g j : Nat} (hg : g < 4) (hj : j < 27) (x2 : Int32) : Ci D k t l yX2_put wsX2_put ({ frames := 0, cells := 0, slots := 0, locals := 0 }) [.ref (ad (2 + 3 * g)), .int (nI j), .int x2] (TBw ad k N S Wt L T G E su pa tr sh pv) (fun r w => r = f_put (N g) (Wt g j) x2 ∧ w = if N g - Wt g j + x2 ≤ 16 then TBw ad k (upd N g (N g - Wt g j + x2)) S (va_up Wt g (upd (Wt g) j x2)) L T G E su pa tr sh pv else TBw ad k N S Wt L T G E su pa tr sh pv) 0 0 := by
  refine fw_of (cc := cX2_put) (maxL := 4) (ret := (some .boolean)) (Qc := fun A => va_Qi (fun r w => r = f_put (N g) (Wt g j) x2 ∧ w = if N g - Wt g j + x2 ≤ 16 then TBw ad k (upd N g (N g - Wt g j + x2)) S (va_up Wt g (upd (Wt g) j x2)) L T G E su pa tr sh pv else TBw ad k N S Wt L T G E su pa tr sh pv) (BcW D A) A) (by decide) rfl (Nat.le_of_ble_eq_true rfl) ?_
  intro p e s m below meth c A ls C hP hD hl
  have C : Cx RX2 "put" cX2_put 4 (some .boolean) wsX2_put D k t A p s m ([.ref (ad (2 + 3 * g)), .int (nI j), .int x2] : List Value).toArray meth c := C
  have hl : lv_has ls 4 [(0, .ref (ad (2 + 3 * g))), (1, .int (nI j)), (2, .int x2)] := hl
  have hx := C.1
  have hb := C.2.1
  have hown := C.2.2.2.2.1
  have hts := C.2.2.2.2.2.1
  have hK := C.2.2.2.2.2.2.2.2.1
  have hZ := C.2.2.2.2.2.2.2.2.2.1
  have hN := C.2.2.2.2.2.2.2.2.2.2
  have hS : va_S A s.heap s.heap [] := va_S.rf
  refine lv_aload_n hx hb dX2_put_0 rfl (lv_at hl 0 rfl) ?_
  refine fg C hP (2 + 3 * g) (tb_w hg) (ci := 2) rfl 2 (by decide) in_X2_put_X2 lk_X2_put_18 (v := .int (N g)) rfl dX2_put_1 ?_
  refine lv_aload_n hx hb dX2_put_4 rfl (lv_at hl 0 rfl) ?_
  refine fg C hP (2 + 3 * g) (tb_w hg) (ci := 2) rfl 1 (by decide) in_X2_put_X2 lk_X2_put_15 (v := .ref (ad (4 + 3 * g))) rfl dX2_put_5 ?_
  refine lv_iload_n hx hb dX2_put_8 rfl (lv_at hl 1 rfl) ?_
  refine ar_i C hP (4 + 3 * g) (tb_v hg) (j := j) (by omega) (by decide) dX2_put_9 ?_
  refine lv_isub hx hb dX2_put_10 ?_
  refine lv_iload_n hx hb dX2_put_11 rfl (lv_at hl 2 rfl) ?_
  refine lv_iadd hx hb dX2_put_12 ?_
  refine lv_istore_n (lv' := [(3, .int (((N g) - ((Wt g) j)) + x2)), (0, .ref (ad (2 + 3 * g))), (1, .int (nI j)), (2, .int x2)]) hx hb dX2_put_13 rfl hl (by decide) rfl (fun ls hl => ?_)
  refine lv_iload_n hx hb dX2_put_14 rfl (lv_at hl 0 rfl) ?_
  refine lv_bipush (v := nI 16) hx hb dX2_put_15 (by decide) ?_
  refine lv_icmp_le (tgt := 22) hx hb dX2_put_17 (by decide) (fun c1 => ?_) (fun c1 => ?_)
  · refine lv_aload_n hx hb dX2_put_22 rfl (lv_at hl 1 rfl) ?_
    refine fg C hP (2 + 3 * g) (tb_w hg) (ci := 2) rfl 1 (by decide) in_X2_put_X2 lk_X2_put_15 (v := .ref (ad (4 + 3 * g))) rfl dX2_put_23 ?_
    refine lv_iload_n hx hb dX2_put_26 rfl (lv_at hl 2 rfl) ?_
    refine lv_iload_n hx hb dX2_put_27 rfl (lv_at hl 3 rfl) ?_
    refine as_i C hP hD hS (4 + 3 * g) (tb_v hg) (j := j) (by omega) (by decide) (tb_v_st hg _) dX2_put_28 (fun H locs hP hD hS => ?_)
    refine lv_aload_n hx hb dX2_put_29 rfl (lv_at hl 1 rfl) ?_
    refine lv_iload_n hx hb dX2_put_30 rfl (lv_at hl 0 rfl) ?_
    refine fp C hP hD hS tyX2_ok nmX2 (2 + 3 * g) (tb_w hg) (ci := 2) rfl 2 (by decide) in_X2_put_X2 lk_X2_put_18 rfl (ty := .int) (v := .int (((N g) - ((Wt g) j)) + x2)) (by decide +kernel) rfl rfl (Nat.le_of_ble_eq_true rfl) (tb_w_st hg _) dX2_put_31 (fun H locs hP hD hS => ?_)
    refine lv_iconst (v := nI 1) hx hb dX2_put_34 (by decide) ?_
    exact Rz C hP hD hS (Nat.zero_le _) (Nat.zero_le _) rfl dX2_put_35 (⟨by simp only [f_put, show N g - Wt g j + x2 ≤ 16 from c1, ↓reduceIte]; rfl, (if_pos c1).symm⟩)
  · refine lv_iconst (v := nI 0) hx hb dX2_put_20 (by decide) ?_
    exact Rz C hP hD hS (Nat.zero_le _) (Nat.zero_le _) rfl dX2_put_21 (⟨by simp only [f_put, show ¬ N g - Wt g j + x2 ≤ 16 from c1, ↓reduceIte]; rfl, (if_neg c1).symm⟩)

def f_same (s r : Nat → Int32) : Int32 := if ¬ s 0 = r 0 then 0 else if ¬ s 1 = r 1 then 0 else if ¬ s 2 = r 2 then 0 else 1
set_option maxRecDepth 20000 in
theorem in_X2_hasStatesOf_X2 : ∀ w ∈ u_ws RX2 TX2 3, w ∈ wsX2_hasStatesOf := by decide +kernel
set_option maxRecDepth 20000 in
theorem lk_X2_hasStatesOf_9 : Cond.fieldLink RX2 9 (TX2 0).1 (TX2 0).2.1 (TX2 0).2.2.1 ∈ wsX2_hasStatesOf := by decide +kernel
set_option maxHeartbeats 4000000 in
set_option maxRecDepth 100000 in
theorem c_X2_hasStatesOf (D : va_G) (k : Nat → ClassId) (t : Nat → Nat) (l : Launch) {ad : Nat → Nat} {N : Nat → Int32} {S Wt L : Nat → Nat → Int32} {T : Nat → Int32} {G : Nat → Nat → Int64} {E : Nat → Int32} {su pa tr sh : Nat → Int32} {pv : Int32} {g f : Nat} (hg : g < 4) (hf : f < 4) : Ci D k t l yX2_hasStatesOf wsX2_hasStatesOf ({ frames := 0, cells := 0, slots := 0, locals := 0 }) [.ref (ad (2 + 3 * g)), .ref (ad (2 + 3 * f))] (TBw ad k N S Wt L T G E su pa tr sh pv) (fun r w => r = f_same (S g) (S f) ∧ w = TBw ad k N S Wt L T G E su pa tr sh pv) 0 0 := by
  refine fw_of (cc := cX2_hasStatesOf) (maxL := 2) (ret := (some .boolean)) (Qc := fun A => va_Qi (fun r w => r = f_same (S g) (S f) ∧ w = TBw ad k N S Wt L T G E su pa tr sh pv) (BcW D A) A) (by decide) rfl (Nat.le_of_ble_eq_true rfl) ?_
  intro p e s m below meth c A ls C hP hD hl
  have C : Cx RX2 "hasStatesOf" cX2_hasStatesOf 2 (some .boolean) wsX2_hasStatesOf D k t A p s m ([.ref (ad (2 + 3 * g)), .ref (ad (2 + 3 * f))] : List Value).toArray meth c := C
  have hl : lv_has ls 2 [(0, .ref (ad (2 + 3 * g))), (1, .ref (ad (2 + 3 * f)))] := hl
  have hx := C.1
  have hb := C.2.1
  have hown := C.2.2.2.2.1
  have hts := C.2.2.2.2.2.1
  have hK := C.2.2.2.2.2.2.2.2.1
  have hZ := C.2.2.2.2.2.2.2.2.2.1
  have hN := C.2.2.2.2.2.2.2.2.2.2
  have hS : va_S A s.heap s.heap [] := va_S.rf
  refine lv_aload_n hx hb dX2_hasStatesOf_0 rfl (lv_at hl 0 rfl) ?_
  refine fg C hP (2 + 3 * g) (tb_w hg) (ci := 2) rfl 0 (by decide) in_X2_hasStatesOf_X2 lk_X2_hasStatesOf_9 (v := .ref (ad (3 + 3 * g))) rfl dX2_hasStatesOf_1 ?_
  refine lv_iconst (v := nI 0) hx hb dX2_hasStatesOf_4 (by decide) ?_
  refine ar_i C hP (3 + 3 * g) (tb_s hg) (j := 0) (by decide) (by decide) dX2_hasStatesOf_5 ?_
  refine lv_aload_n hx hb dX2_hasStatesOf_6 rfl (lv_at hl 1 rfl) ?_
  refine fg C hP (2 + 3 * f) (tb_w hf) (ci := 2) rfl 0 (by decide) in_X2_hasStatesOf_X2 lk_X2_hasStatesOf_9 (v := .ref (ad (3 + 3 * f))) rfl dX2_hasStatesOf_7 ?_
  refine lv_iconst (v := nI 0) hx hb dX2_hasStatesOf_10 (by decide) ?_
  refine ar_i C hP (3 + 3 * f) (tb_s hf) (j := 0) (by decide) (by decide) dX2_hasStatesOf_11 ?_
  refine lv_icmp_ne (tgt := 49) hx hb dX2_hasStatesOf_12 (by decide) (fun c1 => ?_) (fun c1 => ?_)
  · refine lv_iconst (v := nI 0) hx hb dX2_hasStatesOf_49 (by decide) ?_
    exact Rz C hP hD hS (Nat.zero_le _) (Nat.zero_le _) rfl dX2_hasStatesOf_50 (⟨by simp only [f_same, c1, ↓reduceIte, not_true_eq_false, not_false_eq_true]; rfl, rfl⟩)
  · refine lv_aload_n hx hb dX2_hasStatesOf_15 rfl (lv_at hl 0 rfl) ?_
    refine fg C hP (2 + 3 * g) (tb_w hg) (ci := 2) rfl 0 (by decide) in_X2_hasStatesOf_X2 lk_X2_hasStatesOf_9 (v := .ref (ad (3 + 3 * g))) rfl dX2_hasStatesOf_16 ?_
    refine lv_iconst (v := nI 1) hx hb dX2_hasStatesOf_19 (by decide) ?_
    refine ar_i C hP (3 + 3 * g) (tb_s hg) (j := 1) (by decide) (by decide) dX2_hasStatesOf_20 ?_
    refine lv_aload_n hx hb dX2_hasStatesOf_21 rfl (lv_at hl 1 rfl) ?_
    refine fg C hP (2 + 3 * f) (tb_w hf) (ci := 2) rfl 0 (by decide) in_X2_hasStatesOf_X2 lk_X2_hasStatesOf_9 (v := .ref (ad (3 + 3 * f))) rfl dX2_hasStatesOf_22 ?_
    refine lv_iconst (v := nI 1) hx hb dX2_hasStatesOf_25 (by decide) ?_
    refine ar_i C hP (3 + 3 * f) (tb_s hf) (j := 1) (by decide) (by decide) dX2_hasStatesOf_26 ?_
    refine lv_icmp_ne (tgt := 49) hx hb dX2_hasStatesOf_27 (by decide) (fun c2 => ?_) (fun c2 => ?_)
    · refine lv_iconst (v := nI 0) hx hb dX2_hasStatesOf_49 (by decide) ?_
      exact Rz C hP hD hS (Nat.zero_le _) (Nat.zero_le _) rfl dX2_hasStatesOf_50 (⟨by simp only [f_same, c1, c2, ↓reduceIte, not_true_eq_false, not_false_eq_true]; rfl, rfl⟩)
    · refine lv_aload_n hx hb dX2_hasStatesOf_30 rfl (lv_at hl 0 rfl) ?_
      refine fg C hP (2 + 3 * g) (tb_w hg) (ci := 2) rfl 0 (by decide) in_X2_hasStatesOf_X2 lk_X2_hasStatesOf_9 (v := .ref (ad (3 + 3 * g))) rfl dX2_hasStatesOf_31 ?_
      refine lv_iconst (v := nI 2) hx hb dX2_hasStatesOf_34 (by decide) ?_
      refine ar_i C hP (3 + 3 * g) (tb_s hg) (j := 2) (by decide) (by decide) dX2_hasStatesOf_35 ?_
      refine lv_aload_n hx hb dX2_hasStatesOf_36 rfl (lv_at hl 1 rfl) ?_
      refine fg C hP (2 + 3 * f) (tb_w hf) (ci := 2) rfl 0 (by decide) in_X2_hasStatesOf_X2 lk_X2_hasStatesOf_9 (v := .ref (ad (3 + 3 * f))) rfl dX2_hasStatesOf_37 ?_
      refine lv_iconst (v := nI 2) hx hb dX2_hasStatesOf_40 (by decide) ?_
      refine ar_i C hP (3 + 3 * f) (tb_s hf) (j := 2) (by decide) (by decide) dX2_hasStatesOf_41 ?_
      refine lv_icmp_ne (tgt := 49) hx hb dX2_hasStatesOf_42 (by decide) (fun c3 => ?_) (fun c3 => ?_)
      · refine lv_iconst (v := nI 0) hx hb dX2_hasStatesOf_49 (by decide) ?_
        exact Rz C hP hD hS (Nat.zero_le _) (Nat.zero_le _) rfl dX2_hasStatesOf_50 (⟨by simp only [f_same, c1, c2, c3, ↓reduceIte, not_true_eq_false, not_false_eq_true]; rfl, rfl⟩)
      · refine lv_iconst (v := nI 1) hx hb dX2_hasStatesOf_45 (by decide) ?_
        refine lv_goto (tgt := 50) hx hb dX2_hasStatesOf_46 (by decide) ?_
        exact Rz C hP hD hS (Nat.zero_le _) (Nat.zero_le _) rfl dX2_hasStatesOf_50 (⟨by simp only [f_same, c1, c2, c3, ↓reduceIte, not_true_eq_false, not_false_eq_true]; rfl, rfl⟩)

def f_wof (s v : Nat → Int32) (j : Nat) : Int32 := if f_hasS s (nI (j % 3)) (nI (j / 3 % 3)) (nI (j / 9)) = 0 then -1 else v j
def f_wofx (s v : Nat → Int32) (x : Int32) : Int32 := if x < 0 then -1 else if x < nI 27 then f_wof s v x.toNatClampNeg else -1
set_option maxRecDepth 20000 in
theorem in_X2_weightOf_X2 : ∀ w ∈ u_ws RX2 TX2 3, w ∈ wsX2_weightOf := by decide +kernel
set_option maxRecDepth 20000 in
theorem lk_X2_weightOf_15 : Cond.fieldLink RX2 15 (TX2 1).1 (TX2 1).2.1 (TX2 1).2.2.1 ∈ wsX2_weightOf := by decide +kernel
set_option maxHeartbeats 4000000 in
set_option maxRecDepth 100000 in
theorem c_X2_weightOf (D : va_G) (k : Nat → ClassId) (t : Nat → Nat) (l : Launch) {ad : Nat → Nat} {N : Nat → Int32} {S Wt L : Nat → Nat → Int32} {T : Nat → Int32} {G : Nat → Nat → Int64} {E : Nat → Int32} {su pa tr sh : Nat → Int32} {pv : Int32} {g : Nat} (x1 : Int32) (hg : g < 4) : Ci D k t l yX2_weightOf wsX2_weightOf ({ frames := 1, cells := 0, slots := 0, locals := 30 }) [.ref (ad (2 + 3 * g)), .int x1] (TBw ad k N S Wt L T G E su pa tr sh pv) (fun r w => r = f_wofx (S g) (Wt g) x1 ∧ w = TBw ad k N S Wt L T G E su pa tr sh pv) 0 0 := by
  refine fw_of (cc := cX2_weightOf) (maxL := 2) (ret := (some .int)) (Qc := fun A => va_Qi (fun r w => r = f_wofx (S g) (Wt g) x1 ∧ w = TBw ad k N S Wt L T G E su pa tr sh pv) (BcW D A) A) (by decide) rfl (Nat.le_of_ble_eq_true rfl) ?_
  intro p e s m below meth c A ls C hP hD hl
  have C : Cx RX2 "weightOf" cX2_weightOf 2 (some .int) wsX2_weightOf D k t A p s m ([.ref (ad (2 + 3 * g)), .int x1] : List Value).toArray meth c := C
  have hl : lv_has ls 2 [(0, .ref (ad (2 + 3 * g))), (1, .int x1)] := hl
  have hx := C.1
  have hb := C.2.1
  have hown := C.2.2.2.2.1
  have hts := C.2.2.2.2.2.1
  have hK := C.2.2.2.2.2.2.2.2.1
  have hZ := C.2.2.2.2.2.2.2.2.2.1
  have hN := C.2.2.2.2.2.2.2.2.2.2
  have hS : va_S A s.heap s.heap [] := va_S.rf
  refine lv_iload_n hx hb dX2_weightOf_0 rfl (lv_at hl 1 rfl) ?_
  refine lv_if_lt (tgt := 10) hx hb dX2_weightOf_1 (by decide) (fun c1 => ?_) (fun c1 => ?_)
  · refine lv_iconst (v := (-1)) hx hb dX2_weightOf_10 (by decide) ?_
    exact Ri C hP hD hS (Nat.zero_le _) (Nat.zero_le _) dX2_weightOf_11 (⟨by simp only [f_wofx, c1, ↓reduceIte], rfl⟩)
  · refine lv_iload_n hx hb dX2_weightOf_4 rfl (lv_at hl 1 rfl) ?_
    refine lv_bipush (v := nI 27) hx hb dX2_weightOf_5 (by decide) ?_
    refine lv_icmp_lt (tgt := 12) hx hb dX2_weightOf_7 (by decide) (fun c2 => ?_) (fun c2 => ?_)
    · obtain ⟨j, hj, rfl⟩ := ixN (by decide) c1 c2
      refine lv_aload_n hx hb dX2_weightOf_12 rfl (lv_at hl 0 rfl) ?_
      refine lv_iload_n hx hb dX2_weightOf_13 rfl (lv_at hl 1 rfl) ?_
      refine lv_iconst (v := nI 3) hx hb dX2_weightOf_14 (by decide) ?_
      refine lv_irem hx hb dX2_weightOf_15 (by decide) ?_
      refine tp_i (y := nI (j % 3)) (pk_rem (by omega) (by omega) (by omega)) ?_
      refine lv_iload_n hx hb dX2_weightOf_16 rfl (lv_at hl 1 rfl) ?_
      refine lv_iconst (v := nI 3) hx hb dX2_weightOf_17 (by decide) ?_
      refine lv_idiv hx hb dX2_weightOf_18 (by decide) ?_
      refine tp_i (y := nI (j / 3)) (pk_div (by omega) (by omega) (by omega)) ?_
      refine lv_iconst (v := nI 3) hx hb dX2_weightOf_19 (by decide) ?_
      refine lv_irem hx hb dX2_weightOf_20 (by decide) ?_
      refine tp_i (y := nI ((j / 3) % 3)) (pk_rem (by omega) (by omega) (by omega)) ?_
      refine lv_iload_n hx hb dX2_weightOf_21 rfl (lv_at hl 1 rfl) ?_
      refine lv_bipush (v := nI 9) hx hb dX2_weightOf_22 (by decide) ?_
      refine lv_idiv hx hb dX2_weightOf_24 (by decide) ?_
      refine tp_i (y := nI (j / 9)) (pk_div (by omega) (by omega) (by omega)) ?_
      refine fw_i C hD hS (rn_V (As := [.int (nI (j % 3)), .int (nI ((j / 3) % 3)), .int (nI (j / 9))]) (rest := []) C (c_X2_hasSetting D k t l (nI (j % 3)) (nI ((j / 3) % 3)) (nI (j / 9)) hg _) (cwV 3 hts gX2_weightOf_X2_hasSetting rfl rfl rfl hdX2_hasSettingC ⟨Nat.le_of_ble_eq_true rfl, Nat.le_of_ble_eq_true rfl⟩) (2 + 3 * g) 2 rfl (tb_w hg) rfl hP hD hS rfl hl.1 rfl (Nat.le_of_ble_eq_true rfl) dX2_weightOf_25 ⟨Nat.zero_le _, Nat.zero_le _⟩) (fun r3 wr3 H locs h4 hP hD hS => ?_)
      obtain ⟨rfl, rfl⟩ := h4
      refine lv_if_eq (tgt := 40) hx hb dX2_weightOf_28 (by decide) (fun c5 => ?_) (fun c5 => ?_)
      · refine lv_iconst (v := (-1)) hx hb dX2_weightOf_40 (by decide) ?_
        exact Ri C hP hD hS (Nat.zero_le _) (Nat.zero_le _) dX2_weightOf_41 (⟨by simp only [f_wofx, f_wof, c1, c2, c5, ↓reduceIte, nI_clamp (show j < 2 ^ 31 by omega)], rfl⟩)
      · refine lv_aload_n hx hb dX2_weightOf_31 rfl (lv_at hl 0 rfl) ?_
        refine fg C hP (2 + 3 * g) (tb_w hg) (ci := 2) rfl 1 (by decide) in_X2_weightOf_X2 lk_X2_weightOf_15 (v := .ref (ad (4 + 3 * g))) rfl dX2_weightOf_32 ?_
        refine lv_iload_n hx hb dX2_weightOf_35 rfl (lv_at hl 1 rfl) ?_
        refine ar_i C hP (4 + 3 * g) (tb_v hg) (j := j) (by omega) (by decide) dX2_weightOf_36 ?_
        refine lv_goto (tgt := 41) hx hb dX2_weightOf_37 (by decide) ?_
        exact Ri C hP hD hS (Nat.zero_le _) (Nat.zero_le _) dX2_weightOf_41 (⟨by simp only [f_wofx, f_wof, c1, c2, c5, ↓reduceIte, nI_clamp (show j < 2 ^ 31 by omega)], rfl⟩)
    · refine lv_iconst (v := (-1)) hx hb dX2_weightOf_10 (by decide) ?_
      exact Ri C hP hD hS (Nat.zero_le _) (Nat.zero_le _) dX2_weightOf_11 (⟨by simp only [f_wofx, c1, c2, ↓reduceIte], rfl⟩)

def gi (z i : Nat) : Nat := z % 2 * (i % 3) + 3 * (z / 2 % 2 * (i / 3 % 3)) + 9 * (z / 4 * (i / 9))
def gs (f : Nat → Int32) (z : Nat) : Nat → Nat → Int32
  | 0, _ => 0
  | i + 1, j => if j = gi z i then gs f z i j + f i else gs f z i j
theorem gi_lt : ∀ {z i : Nat}, z < 8 → i < 27 → gi z i < 27 := by
  have h : ∀ z, z < 8 → ∀ i, i < 27 → gi z i < 27 := by decide +kernel
  exact fun {z i} hz hi => h z hz i hi
theorem gs_0 (f : Nat → Int32) (z : Nat) : (fun _ => nI 0) = gs f z 0 := rfl
theorem gs_s (f : Nat → Int32) (z i : Nat) : upd (gs f z i) (gi z i) (gs f z i (gi z i) + f i) = gs f z (i + 1) := by
  funext j
  by_cases h : j = gi z i
  · subst h; simp [upd, gs]
  · simp [upd, gs, h]
theorem an1 : ∀ {z : Nat}, z < 8 → nI z &&& nI 1 = nI (z % 2) := by
  have h : ∀ z, z < 8 → nI z &&& nI 1 = nI (z % 2) := by decide +kernel
  exact fun {z} hz => h z hz
theorem an2 : ∀ {z : Nat}, z < 8 → nI z &&& nI 2 = nI (2 * (z / 2 % 2)) := by
  have h : ∀ z, z < 8 → nI z &&& nI 2 = nI (2 * (z / 2 % 2)) := by decide +kernel
  exact fun {z} hz => h z hz
theorem an4 : ∀ {z : Nat}, z < 8 → nI z &&& nI 4 = nI (4 * (z / 4)) := by
  have h : ∀ z, z < 8 → nI z &&& nI 4 = nI (4 * (z / 4)) := by decide +kernel
  exact fun {z} hz => h z hz
set_option maxRecDepth 20000 in
theorem in_X2_gather_X2 : ∀ w ∈ u_ws RX2 TX2 3, w ∈ wsX2_gather := by decide +kernel
set_option maxRecDepth 20000 in
theorem lk_X2_gather_15 : Cond.fieldLink RX2 15 (TX2 1).1 (TX2 1).2.1 (TX2 1).2.2.1 ∈ wsX2_gather := by decide +kernel
set_option maxHeartbeats 4000000 in
set_option maxRecDepth 100000 in
theorem c_X2_gather (D : va_G) (k : Nat → ClassId) (t : Nat → Nat) (l : Launch) {ad : Nat → Nat} {N : Nat → Int32} {S Wt L : Nat → Nat → Int32} {T : Nat → Int32} {G : Nat → Nat → Int64} {E : Nat → Int32} {su pa tr sh : Nat → Int32} {pv : Int32} {g z : Nat} (hg : g < 4) (hz : z < 8) : Cv D k t l yX2_gather wsX2_gather ({ frames := 1, cells := 0, slots := 0, locals := 30 }) [.ref (ad (2 + 3 * g)), .int (nI z), .ref (ad 31)] (TBw ad k N S Wt L T G E su pa tr sh pv) (fun w => w = TBw ad k N S Wt L T G E (gs (Wt g) z 27) pa tr sh pv) 0 0 := by
  refine fw_of (cc := cX2_gather) (maxL := 7) (ret := none) (Qc := fun A => va_Qv (fun w => w = TBw ad k N S Wt L T G E (gs (Wt g) z 27) pa tr sh pv) (BcW D A) A) (by decide) rfl (Nat.le_of_ble_eq_true rfl) ?_
  intro p e s m below meth c A ls C hP hD hl
  have C : Cx RX2 "gather" cX2_gather 7 none wsX2_gather D k t A p s m ([.ref (ad (2 + 3 * g)), .int (nI z), .ref (ad 31)] : List Value).toArray meth c := C
  have hl : lv_has ls 7 [(0, .ref (ad (2 + 3 * g))), (1, .int (nI z)), (2, .ref (ad 31))] := hl
  have hx := C.1
  have hb := C.2.1
  have hown := C.2.2.2.2.1
  have hts := C.2.2.2.2.2.1
  have hK := C.2.2.2.2.2.2.2.2.1
  have hZ := C.2.2.2.2.2.2.2.2.2.1
  have hN := C.2.2.2.2.2.2.2.2.2.2
  have hS : va_S A s.heap s.heap [] := va_S.rf
  refine lv_aload_n hx hb dX2_gather_0 rfl (lv_at hl 2 rfl) ?_
  refine lv_iconst (v := nI 0) hx hb dX2_gather_1 (by decide) ?_
  refine fw_v C hD hS (rn_S (As := [.ref (ad 31), .int (nI 0)]) (rest := []) C (c_fill D k t l tb_su (by decide) (nI 0) _) (va_cwS 2 hts gX2_gather_J7_fill_53178 rfl rfl rfl hdJ7_fill_53178 ⟨Nat.le_of_ble_eq_true rfl, Nat.le_of_ble_eq_true rfl⟩) hP hD hS rfl hl.1 rfl (Nat.le_of_ble_eq_true rfl) dX2_gather_2 ⟨Nat.zero_le _, Nat.zero_le _⟩) (fun wr1 H locs h2 hP hD hS => ?_)
  rw [(tb_su_st _)] at h2
  obtain rfl := h2
  refine lv_iconst (v := nI 0) hx hb dX2_gather_5 (by decide) ?_
  refine lv_istore_n (lv' := [(3, .int (nI 0)), (0, .ref (ad (2 + 3 * g))), (1, .int (nI z)), (2, .ref (ad 31))]) hx hb dX2_gather_6 rfl hl (by decide) rfl (fun ls hl => ?_)
  have L3 : ∀ (r i : Nat), i + r = 27 → ∀ (H : Heap) (locs : List Loc) (ls : Array Slot), va_P D vwCl (TBw ad k N S Wt L T G E (gs (Wt g) z i) pa tr sh pv) H → va_D A (TBw ad k N S Wt L T G E (gs (Wt g) z i) pa tr sh pv) → va_S A s.heap H locs → lv_has ls 7 [(0, .ref (ad (2 + 3 * g))), (1, .int (nI z)), (2, .ref (ad 31)), (3, .int (nI i))] → W p l e ({ frames := 1, cells := 0, slots := 0, locals := 30 }) s m ([.ref (ad (2 + 3 * g)), .int (nI z), .ref (ad 31)] : List Value).toArray below meth c H locs 0 0 (MQ below (va_Qv (fun w => w = TBw ad k N S Wt L T G E (gs (Wt g) z 27) pa tr sh pv) (BcW D A) A) ([.ref (ad (2 + 3 * g)), .int (nI z), .ref (ad 31)] : List Value).toArray s 0 0 A) (F0 m 7 ls []) := by
    intro r
    induction r with
    | zero =>
      intro i hr H locs ls hP hD hS hl
      obtain rfl : i = 27 := by omega
      refine lv_iload_n hx hb dX2_gather_7 rfl (lv_at hl 3 rfl) ?_
      refine lv_bipush (v := nI 27) hx hb dX2_gather_8 (by decide) ?_
      refine lv_icmp_ge (tgt := 87) hx hb dX2_gather_10 (by decide) (fun c4 => ?_) (fun c4 => absurd (nI_le (by omega) (by decide)) c4)
      exact Rv C hP hD hS (Nat.zero_le _) (Nat.zero_le _) dX2_gather_87 rfl
    | succ r ihL3 =>
      intro i hr H locs ls hP hD hS hl
      refine lv_iload_n hx hb dX2_gather_7 rfl (lv_at hl 3 rfl) ?_
      refine lv_bipush (v := nI 27) hx hb dX2_gather_8 (by decide) ?_
      refine lv_icmp_ge (tgt := 87) hx hb dX2_gather_10 (by decide) (fun c5 => absurd c5 (nI_ge (by omega) (by decide))) (fun c5 => ?_)
      refine lv_iload_n hx hb dX2_gather_13 rfl (lv_at hl 1 rfl) ?_
      refine lv_iconst (v := nI 1) hx hb dX2_gather_14 (by decide) ?_
      refine lv_iand hx hb dX2_gather_15 ?_
      refine tp_i (y := nI (z % 2)) (an1 hz) ?_
      have J7 : ∀ (ls : Array Slot), lv_has ls 7 [(0, .ref (ad (2 + 3 * g))), (1, .int (nI z)), (2, .ref (ad 31)), (3, .int (nI i))] → W p l e ({ frames := 1, cells := 0, slots := 0, locals := 30 }) s m ([.ref (ad (2 + 3 * g)), .int (nI z), .ref (ad 31)] : List Value).toArray below meth c H locs 0 0 (MQ below (va_Qv (fun w => w = TBw ad k N S Wt L T G E (gs (Wt g) z 27) pa tr sh pv) (BcW D A) A) ([.ref (ad (2 + 3 * g)), .int (nI z), .ref (ad 31)] : List Value).toArray s 0 0 A) (F0 m 26 ls [.int (nI (z % 2 * (i % 3)))]) := by
        intro ls hl
        refine lv_istore (lv' := [(4, .int (nI (z % 2 * (i % 3)))), (0, .ref (ad (2 + 3 * g))), (1, .int (nI z)), (2, .ref (ad 31)), (3, .int (nI i))]) hx hb dX2_gather_26 hl (by decide) rfl (fun ls hl => ?_)
        refine lv_iload_n hx hb dX2_gather_28 rfl (lv_at hl 2 rfl) ?_
        refine lv_iconst (v := nI 2) hx hb dX2_gather_29 (by decide) ?_
        refine lv_iand hx hb dX2_gather_30 ?_
        refine tp_i (y := nI (2 * (z / 2 % 2))) (an2 hz) ?_
        have J9 : ∀ (ls : Array Slot), lv_has ls 7 [(4, .int (nI (z % 2 * (i % 3)))), (0, .ref (ad (2 + 3 * g))), (1, .int (nI z)), (2, .ref (ad 31)), (3, .int (nI i))] → W p l e ({ frames := 1, cells := 0, slots := 0, locals := 30 }) s m ([.ref (ad (2 + 3 * g)), .int (nI z), .ref (ad 31)] : List Value).toArray below meth c H locs 0 0 (MQ below (va_Qv (fun w => w = TBw ad k N S Wt L T G E (gs (Wt g) z 27) pa tr sh pv) (BcW D A) A) ([.ref (ad (2 + 3 * g)), .int (nI z), .ref (ad 31)] : List Value).toArray s 0 0 A) (F0 m 43 ls [.int (nI (z / 2 % 2 * (i / 3 % 3)))]) := by
          intro ls hl
          refine lv_istore (lv' := [(5, .int (nI (z / 2 % 2 * (i / 3 % 3)))), (4, .int (nI (z % 2 * (i % 3)))), (0, .ref (ad (2 + 3 * g))), (1, .int (nI z)), (2, .ref (ad 31)), (3, .int (nI i))]) hx hb dX2_gather_43 hl (by decide) rfl (fun ls hl => ?_)
          refine lv_iload_n hx hb dX2_gather_45 rfl (lv_at hl 3 rfl) ?_
          refine lv_iconst (v := nI 4) hx hb dX2_gather_46 (by decide) ?_
          refine lv_iand hx hb dX2_gather_47 ?_
          refine tp_i (y := nI (4 * (z / 4))) (an4 hz) ?_
          have J11 : ∀ (ls : Array Slot), lv_has ls 7 [(5, .int (nI (z / 2 % 2 * (i / 3 % 3)))), (4, .int (nI (z % 2 * (i % 3)))), (0, .ref (ad (2 + 3 * g))), (1, .int (nI z)), (2, .ref (ad 31)), (3, .int (nI i))] → W p l e ({ frames := 1, cells := 0, slots := 0, locals := 30 }) s m ([.ref (ad (2 + 3 * g)), .int (nI z), .ref (ad 31)] : List Value).toArray below meth c H locs 0 0 (MQ below (va_Qv (fun w => w = TBw ad k N S Wt L T G E (gs (Wt g) z 27) pa tr sh pv) (BcW D A) A) ([.ref (ad (2 + 3 * g)), .int (nI z), .ref (ad 31)] : List Value).toArray s 0 0 A) (F0 m 59 ls [.int (nI (z / 4 * (i / 9)))]) := by
            intro ls hl
            refine lv_istore (lv' := [(6, .int (nI (z / 4 * (i / 9)))), (5, .int (nI (z / 2 % 2 * (i / 3 % 3)))), (4, .int (nI (z % 2 * (i % 3)))), (0, .ref (ad (2 + 3 * g))), (1, .int (nI z)), (2, .ref (ad 31)), (3, .int (nI i))]) hx hb dX2_gather_59 hl (by decide) rfl (fun ls hl => ?_)
            refine lv_aload_n hx hb dX2_gather_61 rfl (lv_at hl 5 rfl) ?_
            refine lv_iload hx hb dX2_gather_62 (lv_at hl 2 rfl) ?_
            refine lv_iload hx hb dX2_gather_64 (lv_at hl 1 rfl) ?_
            refine lv_iload hx hb dX2_gather_66 (lv_at hl 0 rfl) ?_
            refine fw_i C hD hS (rn_SN (As := [.int (nI (z % 2 * (i % 3))), .int (nI (z / 2 % 2 * (i / 3 % 3))), .int (nI (z / 4 * (i / 9)))]) (rest := [.ref (ad 31)]) (host := RX3) C (c_settingOf D k t l (z % 2 * (i % 3)) (z / 2 % 2 * (i / 3 % 3)) (z / 4 * (i / 9)) _) (va_cnB 3 hts gX2_gather_X3_settingOf_n32 rfl rfl rfl (hN.1 (RX2, 32, yX3_settingOf) (List.mem_of_getElem? (i := 11) rfl)) (hts (.initialized RX3) (by decide +kernel)) hdX3_settingOf ⟨Nat.le_of_ble_eq_true rfl, Nat.le_of_ble_eq_true rfl⟩) (hts (.static yX3_settingOf) (by decide +kernel)) hP hD hS rfl hl.1 rfl (Nat.le_of_ble_eq_true rfl) dX2_gather_68 ⟨Nat.zero_le _, Nat.zero_le _⟩) (fun r12 wr12 H locs h13 hP hD hS => ?_)
            obtain ⟨rfl, rfl⟩ := h13
            refine tp_i (y := nI (gi z i)) (rfl) ?_
            refine lv_dup2_11 hx hb dX2_gather_71 rfl rfl ?_
            refine ar_i C hP 31 tb_su (j := (gi z i)) (gi_lt hz (by omega)) (by decide) dX2_gather_72 ?_
            refine lv_aload_n hx hb dX2_gather_73 rfl (lv_at hl 3 rfl) ?_
            refine fg C hP (2 + 3 * g) (tb_w hg) (ci := 2) rfl 1 (by decide) in_X2_gather_X2 lk_X2_gather_15 (v := .ref (ad (4 + 3 * g))) rfl dX2_gather_74 ?_
            refine lv_iload_n hx hb dX2_gather_77 rfl (lv_at hl 6 rfl) ?_
            refine ar_i C hP (4 + 3 * g) (tb_v hg) (j := i) (by omega) (by decide) dX2_gather_78 ?_
            refine lv_iadd hx hb dX2_gather_79 ?_
            refine as_i C hP hD hS 31 tb_su (j := (gi z i)) (gi_lt hz (by omega)) (by decide) (tb_su_st _) dX2_gather_80 (fun H locs hP hD hS => ?_)
            refine lv_iinc (v := nI (i + 1)) (lv' := [(3, .int (nI (i + 1))), (6, .int (nI (z / 4 * (i / 9)))), (5, .int (nI (z / 2 % 2 * (i / 3 % 3)))), (4, .int (nI (z % 2 * (i % 3)))), (0, .ref (ad (2 + 3 * g))), (1, .int (nI z)), (2, .ref (ad 31))]) hx hb dX2_gather_81 hl (k := 6) rfl (by rw [← nI_add]; rfl) (by decide) rfl (fun ls hl => ?_)
            refine lv_goto (tgt := 7) hx hb dX2_gather_84 (by decide) ?_
            rw [gs_s] at hP hD
            exact ihL3 (i + 1) (by omega) _ _ _ hP hD hS (lv_sub hl [4, 5, 6, 0] rfl)
          refine lv_if_eq (tgt := 58) hx hb dX2_gather_48 (by decide) (fun c10 => ?_) (fun c10 => ?_)
          · refine lv_iconst (v := nI 0) hx hb dX2_gather_58 (by decide) ?_
            refine tp_i (y := nI (z / 4 * (i / 9))) (by rw [show z / 4 = 0 from by have := nI_z0 (by omega) c10; omega, Nat.zero_mul]) ?_
            exact J11 ls (lv_sub hl [0, 1, 2, 3, 4, 5] rfl)
          · refine lv_iload_n hx hb dX2_gather_51 rfl (lv_at hl 5 rfl) ?_
            refine lv_bipush (v := nI 9) hx hb dX2_gather_52 (by decide) ?_
            refine lv_idiv hx hb dX2_gather_54 (by decide) ?_
            refine tp_i (y := nI (i / 9)) (pk_div (by omega) (by omega) (by omega)) ?_
            refine lv_goto (tgt := 59) hx hb dX2_gather_55 (by decide) ?_
            refine tp_i (y := nI (z / 4 * (i / 9))) (by rw [show z / 4 = 1 from by have := nI_n0 c10; omega, Nat.one_mul]) ?_
            exact J11 ls (lv_sub hl [0, 1, 2, 3, 4, 5] rfl)
        refine lv_if_eq (tgt := 42) hx hb dX2_gather_31 (by decide) (fun c8 => ?_) (fun c8 => ?_)
        · refine lv_iconst (v := nI 0) hx hb dX2_gather_42 (by decide) ?_
          refine tp_i (y := nI (z / 2 % 2 * (i / 3 % 3))) (by rw [show z / 2 % 2 = 0 from by have := nI_z0 (by omega) c8; omega, Nat.zero_mul]) ?_
          exact J9 ls (lv_sub hl [0, 1, 2, 3, 4] rfl)
        · refine lv_iload_n hx hb dX2_gather_34 rfl (lv_at hl 4 rfl) ?_
          refine lv_iconst (v := nI 3) hx hb dX2_gather_35 (by decide) ?_
          refine lv_idiv hx hb dX2_gather_36 (by decide) ?_
          refine tp_i (y := nI (i / 3)) (pk_div (by omega) (by omega) (by omega)) ?_
          refine lv_iconst (v := nI 3) hx hb dX2_gather_37 (by decide) ?_
          refine lv_irem hx hb dX2_gather_38 (by decide) ?_
          refine tp_i (y := nI ((i / 3) % 3)) (pk_rem (by omega) (by omega) (by omega)) ?_
          refine lv_goto (tgt := 43) hx hb dX2_gather_39 (by decide) ?_
          refine tp_i (y := nI (z / 2 % 2 * (i / 3 % 3))) (by rw [show z / 2 % 2 = 1 from by have := nI_n0 c8; omega, Nat.one_mul]) ?_
          exact J9 ls (lv_sub hl [0, 1, 2, 3, 4] rfl)
      refine lv_if_eq (tgt := 25) hx hb dX2_gather_16 (by decide) (fun c6 => ?_) (fun c6 => ?_)
      · refine lv_iconst (v := nI 0) hx hb dX2_gather_25 (by decide) ?_
        refine tp_i (y := nI (z % 2 * (i % 3))) (by rw [show z % 2 = 0 from by have := nI_z0 (by omega) c6; omega, Nat.zero_mul]) ?_
        exact J7 ls (lv_sub hl [0, 1, 2, 3] rfl)
      · refine lv_iload_n hx hb dX2_gather_19 rfl (lv_at hl 3 rfl) ?_
        refine lv_iconst (v := nI 3) hx hb dX2_gather_20 (by decide) ?_
        refine lv_irem hx hb dX2_gather_21 (by decide) ?_
        refine tp_i (y := nI (i % 3)) (pk_rem (by omega) (by omega) (by omega)) ?_
        refine lv_goto (tgt := 26) hx hb dX2_gather_22 (by decide) ?_
        refine tp_i (y := nI (z % 2 * (i % 3))) (by rw [show z % 2 = 1 from by have := nI_n0 c6; omega, Nat.one_mul]) ?_
        exact J7 ls (lv_sub hl [0, 1, 2, 3] rfl)
  rw [gs_0 (Wt g) z] at hP hD
  exact L3 (27 - 0) 0 (by omega) _ _ _ hP hD hS (lv_sub hl [1, 2, 3, 0] rfl)

def spr (f : Nat → Int32) (d : Nat) : Nat → Nat → Int32
  | 0, _ => 0
  | i + 1, j => if j = i + 9 * (d / 3 ^ i % 3) then f i else spr f d i j
theorem dlt {d : Nat} (h : d < 19683) (i : Nat) : d / 3 ^ i < 2 ^ 31 := Nat.lt_of_le_of_lt (Nat.div_le_self _ _) (by omega)
theorem spr_0 (f : Nat → Int32) (d : Nat) : (fun _ => nI 0) = spr f d 0 := rfl
theorem spr_s (f : Nat → Int32) (d i : Nat) : upd (spr f d i) (i + 9 * (d / 3 ^ i % 3)) (f i) = spr f d (i + 1) := by
  funext j
  by_cases h : j = i + 9 * (d / 3 ^ i % 3)
  · subst h; simp [upd, spr]
  · simp [upd, spr, h]
set_option maxRecDepth 20000 in
theorem in_X2_spreadByRule_X2 : ∀ w ∈ u_ws RX2 TX2 3, w ∈ wsX2_spreadByRule := by decide +kernel
set_option maxRecDepth 20000 in
theorem lk_X2_spreadByRule_15 : Cond.fieldLink RX2 15 (TX2 1).1 (TX2 1).2.1 (TX2 1).2.2.1 ∈ wsX2_spreadByRule := by decide +kernel
set_option maxRecDepth 20000 in
theorem lk_X2_spreadByRule_9 : Cond.fieldLink RX2 9 (TX2 0).1 (TX2 0).2.1 (TX2 0).2.2.1 ∈ wsX2_spreadByRule := by decide +kernel
set_option maxHeartbeats 4000000 in
set_option maxRecDepth 100000 in
theorem c_X2_spreadByRule (D : va_G) (k : Nat → ClassId) (t : Nat → Nat) (l : Launch) {ad : Nat → Nat} {N : Nat → Int32} {S Wt L : Nat → Nat → Int32} {T : Nat → Int32} {G : Nat → Nat → Int64} {E : Nat → Int32} {su pa tr sh : Nat → Int32} {pv : Int32} {g d : Nat} (hg : g < 4) (hd : d < 19683) : Cv D k t l yX2_spreadByRule wsX2_spreadByRule ({ frames := 1, cells := 0, slots := 0, locals := 30 }) [.ref (ad (2 + 3 * g)), .ref (ad 31), .int (nI d)] (TBw ad k N S Wt L T G E su pa tr sh pv) (fun w => w = TBw ad k N (va_up S g (upd (S g) 2 (nI 3))) (va_up Wt g (spr su d 9)) L T G E su pa tr sh pv) 0 0 := by
  refine fw_of (cc := cX2_spreadByRule) (maxL := 5) (ret := none) (Qc := fun A => va_Qv (fun w => w = TBw ad k N (va_up S g (upd (S g) 2 (nI 3))) (va_up Wt g (spr su d 9)) L T G E su pa tr sh pv) (BcW D A) A) (by decide) rfl (Nat.le_of_ble_eq_true rfl) ?_
  intro p e s m below meth c A ls C hP hD hl
  have C : Cx RX2 "spreadByRule" cX2_spreadByRule 5 none wsX2_spreadByRule D k t A p s m ([.ref (ad (2 + 3 * g)), .ref (ad 31), .int (nI d)] : List Value).toArray meth c := C
  have hl : lv_has ls 5 [(0, .ref (ad (2 + 3 * g))), (1, .ref (ad 31)), (2, .int (nI d))] := hl
  have hx := C.1
  have hb := C.2.1
  have hown := C.2.2.2.2.1
  have hts := C.2.2.2.2.2.1
  have hK := C.2.2.2.2.2.2.2.2.1
  have hZ := C.2.2.2.2.2.2.2.2.2.1
  have hN := C.2.2.2.2.2.2.2.2.2.2
  have hS : va_S A s.heap s.heap [] := va_S.rf
  refine lv_aload_n hx hb dX2_spreadByRule_0 rfl (lv_at hl 0 rfl) ?_
  refine fg C hP (2 + 3 * g) (tb_w hg) (ci := 2) rfl 1 (by decide) in_X2_spreadByRule_X2 lk_X2_spreadByRule_15 (v := .ref (ad (4 + 3 * g))) rfl dX2_spreadByRule_1 ?_
  refine lv_iconst (v := nI 0) hx hb dX2_spreadByRule_4 (by decide) ?_
  refine fw_v C hD hS (rn_S (As := [.ref (ad (4 + 3 * g)), .int (nI 0)]) (rest := []) C (c_fill D k t l (tb_v hg) (by decide) (nI 0) _) (va_cwS 2 hts gX2_spreadByRule_J7_fill_53178 rfl rfl rfl hdJ7_fill_53178 ⟨Nat.le_of_ble_eq_true rfl, Nat.le_of_ble_eq_true rfl⟩) hP hD hS rfl hl.1 rfl (Nat.le_of_ble_eq_true rfl) dX2_spreadByRule_5 ⟨Nat.zero_le _, Nat.zero_le _⟩) (fun wr1 H locs h2 hP hD hS => ?_)
  rw [(tb_v_st hg _)] at h2
  obtain rfl := h2
  refine lv_iload_n hx hb dX2_spreadByRule_8 rfl (lv_at hl 2 rfl) ?_
  refine tp_i (y := nI (d / 3 ^ 0)) (by rw [Nat.pow_zero, Nat.div_one]) ?_
  refine lv_istore_n (lv' := [(3, .int (nI (d / 3 ^ 0))), (0, .ref (ad (2 + 3 * g))), (1, .ref (ad 31)), (2, .int (nI d))]) hx hb dX2_spreadByRule_9 rfl hl (by decide) rfl (fun ls hl => ?_)
  refine lv_iconst (v := nI 0) hx hb dX2_spreadByRule_10 (by decide) ?_
  refine lv_istore (lv' := [(4, .int (nI 0)), (3, .int (nI (d / 3 ^ 0))), (0, .ref (ad (2 + 3 * g))), (1, .ref (ad 31)), (2, .int (nI d))]) hx hb dX2_spreadByRule_11 hl (by decide) rfl (fun ls hl => ?_)
  have L3 : ∀ (r i : Nat), i + r = 9 → ∀ (H : Heap) (locs : List Loc) (ls : Array Slot), va_P D vwCl (TBw ad k N S (va_up Wt g (spr su d i)) L T G E su pa tr sh pv) H → va_D A (TBw ad k N S (va_up Wt g (spr su d i)) L T G E su pa tr sh pv) → va_S A s.heap H locs → lv_has ls 5 [(0, .ref (ad (2 + 3 * g))), (1, .ref (ad 31)), (3, .int (nI (d / 3 ^ i))), (4, .int (nI i))] → W p l e ({ frames := 1, cells := 0, slots := 0, locals := 30 }) s m ([.ref (ad (2 + 3 * g)), .ref (ad 31), .int (nI d)] : List Value).toArray below meth c H locs 0 0 (MQ below (va_Qv (fun w => w = TBw ad k N (va_up S g (upd (S g) 2 (nI 3))) (va_up Wt g (spr su d 9)) L T G E su pa tr sh pv) (BcW D A) A) ([.ref (ad (2 + 3 * g)), .ref (ad 31), .int (nI d)] : List Value).toArray s 0 0 A) (F0 m 13 ls []) := by
    intro r
    induction r with
    | zero =>
      intro i hr H locs ls hP hD hS hl
      obtain rfl : i = 9 := by omega
      refine lv_iload hx hb dX2_spreadByRule_13 (lv_at hl 3 rfl) ?_
      refine lv_bipush (v := nI 9) hx hb dX2_spreadByRule_15 (by decide) ?_
      refine lv_icmp_ge (tgt := 48) hx hb dX2_spreadByRule_17 (by decide) (fun c4 => ?_) (fun c4 => absurd (nI_le (by omega) (by decide)) c4)
      refine lv_aload_n hx hb dX2_spreadByRule_48 rfl (lv_at hl 0 rfl) ?_
      refine fg C hP (2 + 3 * g) (tb_w hg) (ci := 2) rfl 0 (by decide) in_X2_spreadByRule_X2 lk_X2_spreadByRule_9 (v := .ref (ad (3 + 3 * g))) rfl dX2_spreadByRule_49 ?_
      refine lv_iconst (v := nI 2) hx hb dX2_spreadByRule_52 (by decide) ?_
      refine lv_iconst (v := nI 3) hx hb dX2_spreadByRule_53 (by decide) ?_
      refine as_i C hP hD hS (3 + 3 * g) (tb_s hg) (j := 2) (by decide) (by decide) (tb_s_st hg _) dX2_spreadByRule_54 (fun H locs hP hD hS => ?_)
      exact Rv C hP hD hS (Nat.zero_le _) (Nat.zero_le _) dX2_spreadByRule_55 rfl
    | succ r ihL3 =>
      intro i hr H locs ls hP hD hS hl
      refine lv_iload hx hb dX2_spreadByRule_13 (lv_at hl 3 rfl) ?_
      refine lv_bipush (v := nI 9) hx hb dX2_spreadByRule_15 (by decide) ?_
      refine lv_icmp_ge (tgt := 48) hx hb dX2_spreadByRule_17 (by decide) (fun c5 => absurd c5 (nI_ge (by omega) (by decide))) (fun c5 => ?_)
      refine lv_aload_n hx hb dX2_spreadByRule_20 rfl (lv_at hl 0 rfl) ?_
      refine fg C hP (2 + 3 * g) (tb_w hg) (ci := 2) rfl 1 (by decide) in_X2_spreadByRule_X2 lk_X2_spreadByRule_15 (v := .ref (ad (4 + 3 * g))) rfl dX2_spreadByRule_21 ?_
      refine lv_iload hx hb dX2_spreadByRule_24 (lv_at hl 3 rfl) ?_
      refine lv_bipush (v := nI 9) hx hb dX2_spreadByRule_26 (by decide) ?_
      refine lv_iload_n hx hb dX2_spreadByRule_28 rfl (lv_at hl 2 rfl) ?_
      refine lv_iconst (v := nI 3) hx hb dX2_spreadByRule_29 (by decide) ?_
      refine lv_irem hx hb dX2_spreadByRule_30 (by decide) ?_
      refine tp_i (y := nI (d / 3 ^ i % 3)) (pk_rem (dlt hd i) (by decide) (by decide)) ?_
      refine lv_imul hx hb dX2_spreadByRule_31 ?_
      refine tp_i (y := nI (9 * (d / 3 ^ i % 3))) (pk_mul _ _) ?_
      refine lv_iadd hx hb dX2_spreadByRule_32 ?_
      refine tp_i (y := nI (i + (9 * (d / 3 ^ i % 3)))) (nI_add _ _) ?_
      refine lv_aload_n hx hb dX2_spreadByRule_33 rfl (lv_at hl 1 rfl) ?_
      refine lv_iload hx hb dX2_spreadByRule_34 (lv_at hl 3 rfl) ?_
      refine ar_i C hP 31 tb_su (j := i) (by omega) (by decide) dX2_spreadByRule_36 ?_
      refine as_i C hP hD hS (4 + 3 * g) (tb_v2 hg) (j := (i + (9 * (d / 3 ^ i % 3)))) (by omega) (by decide) (tb_v2_st hg _) dX2_spreadByRule_37 (fun H locs hP hD hS => ?_)
      refine lv_iload_n hx hb dX2_spreadByRule_38 rfl (lv_at hl 2 rfl) ?_
      refine lv_iconst (v := nI 3) hx hb dX2_spreadByRule_39 (by decide) ?_
      refine lv_idiv hx hb dX2_spreadByRule_40 (by decide) ?_
      refine tp_i (y := nI (d / 3 ^ (i + 1))) (by rw [pk_div (dlt hd i) (by decide) (by decide), Nat.div_div_eq_div_mul, ← Nat.pow_succ]) ?_
      refine lv_istore_n (lv' := [(3, .int (nI (d / 3 ^ (i + 1)))), (0, .ref (ad (2 + 3 * g))), (1, .ref (ad 31)), (4, .int (nI i))]) hx hb dX2_spreadByRule_41 rfl hl (by decide) rfl (fun ls hl => ?_)
      refine lv_iinc (v := nI (i + 1)) (lv' := [(4, .int (nI (i + 1))), (3, .int (nI (d / 3 ^ (i + 1)))), (0, .ref (ad (2 + 3 * g))), (1, .ref (ad 31))]) hx hb dX2_spreadByRule_42 hl (k := 3) rfl (by rw [← nI_add]; rfl) (by decide) rfl (fun ls hl => ?_)
      refine lv_goto (tgt := 13) hx hb dX2_spreadByRule_45 (by decide) ?_
      rw [spr_s] at hP hD
      exact ihL3 (i + 1) (by omega) _ _ _ hP hD hS (lv_sub hl [2, 3, 1, 0] rfl)
  rw [spr_0 su d] at hP hD
  exact L3 (9 - 0) 0 (by omega) _ _ _ hP hD hS (lv_sub hl [2, 3, 1, 0] rfl)

