/-! the class's prove -/
def pr3 (h : Nat) : Nat := ([3, 5, 6] : List Nat).getD h 0
theorem pr3_at : ∀ h, h < 3 → tb_pairs.getD h 0 = nI (pr3 h) ∧ pr3 h < 8 := by decide +kernel
theorem shl_at : ∀ h, h < 3 → nI 1 <<< (nI h &&& 31) = nI (2 ^ h) ∧ 2 ^ h < 8 := by decide +kernel
def tA (tr pa : Nat → Int32) (i j : Nat) : Nat → Nat → Int32
  | 0 => tr
  | h + 1 => if i = 6 + h ∨ j = 6 + h then upd (upd (upd (tA tr pa i j h) h (pa (2 ^ h))) (3 + h) (nI 0)) (3 + h) (pa (pr3 h)) else upd (upd (tA tr pa i j h) h (pa (2 ^ h))) (3 + h) (nI 0)
def tO (i j : Nat) : Nat → Nat
  | 0 => 0
  | h + 1 => if i = 6 + h ∨ j = 6 + h then tO i j h else if i = 3 + h ∨ j = 3 + h then tO i j h else h
def tM (tr pa : Nat → Int32) (i j : Nat) : Nat → Int32
  | 0 => pa 7
  | h + 1 => tM tr pa i j h - tA tr pa i j (h + 1) (3 + h)
theorem tO_le (i j : Nat) : ∀ h, tO i j h ≤ h - 1
  | 0 => Nat.le_refl _
  | h + 1 => by
    have := tO_le i j h
    rw [tO]
    split
    · omega
    · split <;> omega
def tB (tr pa : Nat → Int32) (i j : Nat) : Nat → Nat → Int32
  | 0 => upd (tA tr pa i j 3) (3 + tO i j 3) (tM tr pa i j 3)
  | h + 1 => upd (tB tr pa i j h) (6 + h) (pa (pr3 h) - tB tr pa i j h (3 + h))
set_option maxRecDepth 20000 in
theorem in_X3_tryWithout_X3 : ∀ w ∈ u_ws RX3 TX3 8, w ∈ wsX3_tryWithout := by decide +kernel
set_option maxRecDepth 20000 in
theorem lk_X3_tryWithout_31 : Cond.fieldLink RX3 31 (TX3 4).1 (TX3 4).2.1 (TX3 4).2.2.1 ∈ wsX3_tryWithout := by decide +kernel
set_option maxRecDepth 20000 in
theorem lk_X3_tryWithout_34 : Cond.fieldLink RX3 34 (TX3 5).1 (TX3 5).2.1 (TX3 5).2.2.1 ∈ wsX3_tryWithout := by decide +kernel
set_option maxHeartbeats 4000000 in
set_option maxRecDepth 100000 in
theorem c_X3_tryWithout (D : va_G) (k : Nat → ClassId) (t : Nat → Nat) (l : Launch) {ad : Nat → Nat} {N : Nat → Int32} {S Wt L : Nat → Nat → Int32} {T : Nat → Int32} {G : Nat → Nat → Int64} {E : Nat → Int32} {su pa tr sh : Nat → Int32} {pv : Int32} {i0 j0 : Nat} (hi0 : i0 < 9) (hj0 : j0 < 9) : Ci D k t l yX3_tryWithout wsX3_tryWithout ({ frames := 1, cells := 0, slots := 0, locals := 30 }) [.ref (ad 0), .int (nI i0), .int (nI j0)] (TBw ad k N S Wt L T G E su pa tr sh pv) (fun r w => r = pb (∀ q, q < 9 → ¬ tB tr pa i0 j0 3 q < 0) ∧ w = TBw ad k N S Wt L T G E su pa (tB tr pa i0 j0 3) sh pv) 0 0 := by
  refine fw_of (cc := cX3_tryWithout) (maxL := 6) (ret := (some .boolean)) (Qc := fun A => va_Qi (fun r w => r = pb (∀ q, q < 9 → ¬ tB tr pa i0 j0 3 q < 0) ∧ w = TBw ad k N S Wt L T G E su pa (tB tr pa i0 j0 3) sh pv) (BcW D A) A) (by decide) rfl (Nat.le_of_ble_eq_true rfl) ?_
  intro p e s m below meth c A ls C hP hD hl
  have C : Cx RX3 "tryWithout" cX3_tryWithout 6 (some .boolean) wsX3_tryWithout D k t A p s m ([.ref (ad 0), .int (nI i0), .int (nI j0)] : List Value).toArray meth c := C
  have hl : lv_has ls 6 [(0, .ref (ad 0)), (1, .int (nI i0)), (2, .int (nI j0))] := hl
  have hx := C.1
  have hb := C.2.1
  have hown := C.2.2.2.2.1
  have hts := C.2.2.2.2.2.1
  have hK := C.2.2.2.2.2.2.2.2.1
  have hZ := C.2.2.2.2.2.2.2.2.2.1
  have hN := C.2.2.2.2.2.2.2.2.2.2
  have hS : va_S A s.heap s.heap [] := va_S.rf
  refine lv_aload_n hx hb dX3_tryWithout_0 rfl (lv_at hl 0 rfl) ?_
  refine fg C hP 0 tb_o (ci := 3) rfl 4 (by decide) in_X3_tryWithout_X3 lk_X3_tryWithout_31 (v := .ref (ad 32)) rfl dX3_tryWithout_1 ?_
  refine lv_bipush (v := nI 7) hx hb dX3_tryWithout_4 (by decide) ?_
  refine ar_i C hP 32 tb_pa (j := 7) (by decide) (by decide) dX3_tryWithout_6 ?_
  refine tp_i (y := tM tr pa i0 j0 0) (rfl) ?_
  refine lv_istore_n (lv' := [(3, .int (tM tr pa i0 j0 0)), (0, .ref (ad 0)), (1, .int (nI i0)), (2, .int (nI j0))]) hx hb dX3_tryWithout_7 rfl hl (by decide) rfl (fun ls hl => ?_)
  refine lv_iconst (v := nI 0) hx hb dX3_tryWithout_8 (by decide) ?_
  refine tp_i (y := nI (tO i0 j0 0)) (rfl) ?_
  refine lv_istore (lv' := [(4, .int (nI (tO i0 j0 0))), (3, .int (tM tr pa i0 j0 0)), (0, .ref (ad 0)), (1, .int (nI i0)), (2, .int (nI j0))]) hx hb dX3_tryWithout_9 hl (by decide) rfl (fun ls hl => ?_)
  refine lv_iconst (v := nI 0) hx hb dX3_tryWithout_11 (by decide) ?_
  refine lv_istore (lv' := [(5, .int (nI 0)), (4, .int (nI (tO i0 j0 0))), (3, .int (tM tr pa i0 j0 0)), (0, .ref (ad 0)), (1, .int (nI i0)), (2, .int (nI j0))]) hx hb dX3_tryWithout_12 hl (by decide) rfl (fun ls hl => ?_)
  have L1 : ∀ (r h : Nat), h + r = 3 → ∀ (H : Heap) (locs : List Loc) (ls : Array Slot), va_P D vwCl (TBw ad k N S Wt L T G E su pa (tA tr pa i0 j0 h) sh pv) H → va_D A (TBw ad k N S Wt L T G E su pa (tA tr pa i0 j0 h) sh pv) → va_S A s.heap H locs → lv_has ls 6 [(0, .ref (ad 0)), (1, .int (nI i0)), (2, .int (nI j0)), (3, .int (tM tr pa i0 j0 h)), (4, .int (nI (tO i0 j0 h))), (5, .int (nI h))] → W p l e ({ frames := 1, cells := 0, slots := 0, locals := 30 }) s m ([.ref (ad 0), .int (nI i0), .int (nI j0)] : List Value).toArray below meth c H locs 0 0 (MQ below (va_Qi (fun r w => r = pb (∀ q, q < 9 → ¬ tB tr pa i0 j0 3 q < 0) ∧ w = TBw ad k N S Wt L T G E su pa (tB tr pa i0 j0 3) sh pv) (BcW D A) A) ([.ref (ad 0), .int (nI i0), .int (nI j0)] : List Value).toArray s 0 0 A) (F0 m 14 ls []) := by
    intro r
    induction r with
    | zero =>
      intro h hr H locs ls hP hD hS hl
      obtain rfl : 3 = h := by omega
      refine lv_iload hx hb dX3_tryWithout_14 (lv_at hl 5 rfl) ?_
      refine lv_iconst (v := nI 3) hx hb dX3_tryWithout_16 (by decide) ?_
      refine lv_icmp_ge (tgt := 125) hx hb dX3_tryWithout_17 (by decide) (fun c2 => ?_) (fun c2 => absurd (nI_le (by omega) (by decide)) c2)
      refine lv_aload_n hx hb dX3_tryWithout_125 rfl (lv_at hl 0 rfl) ?_
      refine fg C hP 0 tb_o (ci := 3) rfl 5 (by decide) in_X3_tryWithout_X3 lk_X3_tryWithout_34 (v := .ref (ad 33)) rfl dX3_tryWithout_126 ?_
      refine lv_iconst (v := nI 3) hx hb dX3_tryWithout_129 (by decide) ?_
      refine lv_iload hx hb dX3_tryWithout_130 (lv_at hl 4 rfl) ?_
      refine lv_iadd hx hb dX3_tryWithout_132 ?_
      refine tp_i (y := nI (3 + (tO i0 j0 3))) (nI_add _ _) ?_
      refine lv_iload_n hx hb dX3_tryWithout_133 rfl (lv_at hl 3 rfl) ?_
      refine as_i C hP hD hS 33 tb_tr (j := (3 + (tO i0 j0 3))) (by have := tO_le i0 j0 3; omega) (by decide) (tb_tr_st _) dX3_tryWithout_134 (fun H locs hP hD hS => ?_)
      refine lv_iconst (v := nI 0) hx hb dX3_tryWithout_135 (by decide) ?_
      refine lv_istore (lv' := [(5, .int (nI 0)), (0, .ref (ad 0)), (1, .int (nI i0)), (2, .int (nI j0)), (3, .int (tM tr pa i0 j0 3)), (4, .int (nI (tO i0 j0 3)))]) hx hb dX3_tryWithout_136 hl (by decide) rfl (fun ls hl => ?_)
      have L3 : ∀ (r h : Nat), h + r = 3 → ∀ (H : Heap) (locs : List Loc) (ls : Array Slot), va_P D vwCl (TBw ad k N S Wt L T G E su pa (tB tr pa i0 j0 h) sh pv) H → va_D A (TBw ad k N S Wt L T G E su pa (tB tr pa i0 j0 h) sh pv) → va_S A s.heap H locs → lv_has ls 6 [(0, .ref (ad 0)), (5, .int (nI h))] → W p l e ({ frames := 1, cells := 0, slots := 0, locals := 30 }) s m ([.ref (ad 0), .int (nI i0), .int (nI j0)] : List Value).toArray below meth c H locs 0 0 (MQ below (va_Qi (fun r w => r = pb (∀ q, q < 9 → ¬ tB tr pa i0 j0 3 q < 0) ∧ w = TBw ad k N S Wt L T G E su pa (tB tr pa i0 j0 3) sh pv) (BcW D A) A) ([.ref (ad 0), .int (nI i0), .int (nI j0)] : List Value).toArray s 0 0 A) (F0 m 138 ls []) := by
        intro r
        induction r with
        | zero =>
          intro h hr H locs ls hP hD hS hl
          obtain rfl : 3 = h := by omega
          refine lv_iload hx hb dX3_tryWithout_138 (lv_at hl 1 rfl) ?_
          refine lv_iconst (v := nI 3) hx hb dX3_tryWithout_140 (by decide) ?_
          refine lv_icmp_ge (tgt := 181) hx hb dX3_tryWithout_141 (by decide) (fun c4 => ?_) (fun c4 => absurd (nI_le (by omega) (by decide)) c4)
          refine lv_aload_n hx hb dX3_tryWithout_181 rfl (lv_at hl 0 rfl) ?_
          refine fg C hP 0 tb_o (ci := 3) rfl 5 (by decide) in_X3_tryWithout_X3 lk_X3_tryWithout_34 (v := .ref (ad 33)) rfl dX3_tryWithout_182 ?_
          refine fw_i C hD hS (rn_S (As := [.ref (ad 33)]) (rest := []) C (c_X3_noneIsBelowNought D k t l (tr := tB tr pa i0 j0 3) _) (va_cwS 1 hts gX3_tryWithout_X3_noneIsBelowNought rfl rfl rfl hdX3_noneIsBelowNought ⟨Nat.le_of_ble_eq_true rfl, Nat.le_of_ble_eq_true rfl⟩) hP hD hS rfl hl.1 rfl (Nat.le_of_ble_eq_true rfl) dX3_tryWithout_185 ⟨Nat.zero_le _, Nat.zero_le _⟩) (fun r5 wr5 H locs h6 hP hD hS => ?_)
          obtain ⟨rfl, rfl⟩ := h6
          exact Rz C hP hD hS (Nat.zero_le _) (Nat.zero_le _) (pb_nar _) dX3_tryWithout_188 (⟨rfl, rfl⟩)
        | succ r ihL3 =>
          intro h hr H locs ls hP hD hS hl
          refine lv_iload hx hb dX3_tryWithout_138 (lv_at hl 1 rfl) ?_
          refine lv_iconst (v := nI 3) hx hb dX3_tryWithout_140 (by decide) ?_
          refine lv_icmp_ge (tgt := 181) hx hb dX3_tryWithout_141 (by decide) (fun c7 => absurd c7 (nI_ge (by omega) (by decide))) (fun c7 => ?_)
          refine lv_aload_n hx hb dX3_tryWithout_144 rfl (lv_at hl 0 rfl) ?_
          refine fg C hP 0 tb_o (ci := 3) rfl 5 (by decide) in_X3_tryWithout_X3 lk_X3_tryWithout_34 (v := .ref (ad 33)) rfl dX3_tryWithout_145 ?_
          refine lv_bipush (v := nI 6) hx hb dX3_tryWithout_148 (by decide) ?_
          refine lv_iload hx hb dX3_tryWithout_150 (lv_at hl 1 rfl) ?_
          refine lv_iadd hx hb dX3_tryWithout_152 ?_
          refine tp_i (y := nI (6 + h)) (nI_add _ _) ?_
          refine lv_aload_n hx hb dX3_tryWithout_153 rfl (lv_at hl 0 rfl) ?_
          refine fg C hP 0 tb_o (ci := 3) rfl 4 (by decide) in_X3_tryWithout_X3 lk_X3_tryWithout_31 (v := .ref (ad 32)) rfl dX3_tryWithout_154 ?_
          refine va_gets hx hb (hZ.2.2.1.1) hS hown (hts (.fieldLink RX3 94 "TellingBench" "PAIRS" "[I") (by decide +kernel)) (fun _ h9 => h9) dX3_tryWithout_157 ?_
          refine lv_iload hx hb dX3_tryWithout_160 (lv_at hl 1 rfl) ?_
          refine at_i hx hb (hZ.2.2.1.2) hS (j := h) (by omega) (by decide) dX3_tryWithout_162 ?_
          refine tp_i (y := nI (pr3 h)) ((pr3_at h (by omega)).1) ?_
          refine ar_i C hP 32 tb_pa (j := (pr3 h)) (pr3_at h (by omega)).2 (by decide) dX3_tryWithout_163 ?_
          refine lv_aload_n hx hb dX3_tryWithout_164 rfl (lv_at hl 0 rfl) ?_
          refine fg C hP 0 tb_o (ci := 3) rfl 5 (by decide) in_X3_tryWithout_X3 lk_X3_tryWithout_34 (v := .ref (ad 33)) rfl dX3_tryWithout_165 ?_
          refine lv_iconst (v := nI 3) hx hb dX3_tryWithout_168 (by decide) ?_
          refine lv_iload hx hb dX3_tryWithout_169 (lv_at hl 1 rfl) ?_
          refine lv_iadd hx hb dX3_tryWithout_171 ?_
          refine tp_i (y := nI (3 + h)) (nI_add _ _) ?_
          refine ar_i C hP 33 tb_tr (j := (3 + h)) (by omega) (by decide) dX3_tryWithout_172 ?_
          refine lv_isub hx hb dX3_tryWithout_173 ?_
          refine as_i C hP hD hS 33 tb_tr (j := (6 + h)) (by omega) (by decide) (tb_tr_st _) dX3_tryWithout_174 (fun H locs hP hD hS => ?_)
          refine lv_iinc (v := nI (h + 1)) (lv' := [(5, .int (nI (h + 1))), (0, .ref (ad 0))]) hx hb dX3_tryWithout_175 hl (k := 1) rfl (by rw [← nI_add h 1]; rfl) (by decide) rfl (fun ls hl => ?_)
          refine lv_goto (tgt := 138) hx hb dX3_tryWithout_178 (by decide) ?_
          exact ihL3 (h + 1) (by omega) _ _ _ hP hD hS (lv_sub hl [1, 0] rfl)
      exact L3 (3 - 0) 0 (by omega) _ _ _ hP hD hS (lv_sub hl [1, 0] rfl)
    | succ r ihL1 =>
      intro h hr H locs ls hP hD hS hl
      refine lv_iload hx hb dX3_tryWithout_14 (lv_at hl 5 rfl) ?_
      refine lv_iconst (v := nI 3) hx hb dX3_tryWithout_16 (by decide) ?_
      refine lv_icmp_ge (tgt := 125) hx hb dX3_tryWithout_17 (by decide) (fun c8 => absurd c8 (nI_ge (by omega) (by decide))) (fun c8 => ?_)
      refine lv_aload_n hx hb dX3_tryWithout_20 rfl (lv_at hl 0 rfl) ?_
      refine fg C hP 0 tb_o (ci := 3) rfl 5 (by decide) in_X3_tryWithout_X3 lk_X3_tryWithout_34 (v := .ref (ad 33)) rfl dX3_tryWithout_21 ?_
      refine lv_iload hx hb dX3_tryWithout_24 (lv_at hl 5 rfl) ?_
      refine lv_aload_n hx hb dX3_tryWithout_26 rfl (lv_at hl 0 rfl) ?_
      refine fg C hP 0 tb_o (ci := 3) rfl 4 (by decide) in_X3_tryWithout_X3 lk_X3_tryWithout_31 (v := .ref (ad 32)) rfl dX3_tryWithout_27 ?_
      refine lv_iconst (v := nI 1) hx hb dX3_tryWithout_30 (by decide) ?_
      refine lv_iload hx hb dX3_tryWithout_31 (lv_at hl 5 rfl) ?_
      refine lv_ishl hx hb dX3_tryWithout_33 ?_
      refine tp_i (y := nI (2 ^ h)) ((shl_at h (by omega)).1) ?_
      refine ar_i C hP 32 tb_pa (j := (2 ^ h)) (shl_at h (by omega)).2 (by decide) dX3_tryWithout_34 ?_
      refine as_i C hP hD hS 33 tb_tr (j := h) (by omega) (by decide) (tb_tr_st _) dX3_tryWithout_35 (fun H locs hP hD hS => ?_)
      refine lv_aload_n hx hb dX3_tryWithout_36 rfl (lv_at hl 0 rfl) ?_
      refine fg C hP 0 tb_o (ci := 3) rfl 5 (by decide) in_X3_tryWithout_X3 lk_X3_tryWithout_34 (v := .ref (ad 33)) rfl dX3_tryWithout_37 ?_
      refine lv_iconst (v := nI 3) hx hb dX3_tryWithout_40 (by decide) ?_
      refine lv_iload hx hb dX3_tryWithout_41 (lv_at hl 5 rfl) ?_
      refine lv_iadd hx hb dX3_tryWithout_43 ?_
      refine tp_i (y := nI (3 + h)) (nI_add _ _) ?_
      refine lv_iconst (v := nI 0) hx hb dX3_tryWithout_44 (by decide) ?_
      refine as_i C hP hD hS 33 tb_tr (j := (3 + h)) (by omega) (by decide) (tb_tr_st _) dX3_tryWithout_45 (fun H locs hP hD hS => ?_)
      refine lv_iload_n hx hb dX3_tryWithout_46 rfl (lv_at hl 1 rfl) ?_
      refine lv_bipush (v := nI 6) hx hb dX3_tryWithout_47 (by decide) ?_
      refine lv_iload hx hb dX3_tryWithout_49 (lv_at hl 5 rfl) ?_
      refine lv_iadd hx hb dX3_tryWithout_51 ?_
      refine tp_i (y := nI (6 + h)) (nI_add _ _) ?_
      refine lv_icmp_eq (tgt := 64) hx hb dX3_tryWithout_52 (by decide) (fun c9 => ?_) (fun c9 => ?_)
      · refine lv_aload_n hx hb dX3_tryWithout_64 rfl (lv_at hl 0 rfl) ?_
        refine fg C hP 0 tb_o (ci := 3) rfl 5 (by decide) in_X3_tryWithout_X3 lk_X3_tryWithout_34 (v := .ref (ad 33)) rfl dX3_tryWithout_65 ?_
        refine lv_iconst (v := nI 3) hx hb dX3_tryWithout_68 (by decide) ?_
        refine lv_iload hx hb dX3_tryWithout_69 (lv_at hl 5 rfl) ?_
        refine lv_iadd hx hb dX3_tryWithout_71 ?_
        refine tp_i (y := nI (3 + h)) (nI_add _ _) ?_
        refine lv_aload_n hx hb dX3_tryWithout_72 rfl (lv_at hl 0 rfl) ?_
        refine fg C hP 0 tb_o (ci := 3) rfl 4 (by decide) in_X3_tryWithout_X3 lk_X3_tryWithout_31 (v := .ref (ad 32)) rfl dX3_tryWithout_73 ?_
        refine va_gets hx hb (hZ.2.2.1.1) hS hown (hts (.fieldLink RX3 94 "TellingBench" "PAIRS" "[I") (by decide +kernel)) (fun _ h9 => h9) dX3_tryWithout_76 ?_
        refine lv_iload hx hb dX3_tryWithout_79 (lv_at hl 5 rfl) ?_
        refine at_i hx hb (hZ.2.2.1.2) hS (j := h) (by omega) (by decide) dX3_tryWithout_81 ?_
        refine tp_i (y := nI (pr3 h)) ((pr3_at h (by omega)).1) ?_
        refine ar_i C hP 32 tb_pa (j := (pr3 h)) (pr3_at h (by omega)).2 (by decide) dX3_tryWithout_82 ?_
        refine as_i C hP hD hS 33 tb_tr (j := (3 + h)) (by omega) (by decide) (tb_tr_st _) dX3_tryWithout_83 (fun H locs hP hD hS => ?_)
        refine lv_goto (tgt := 107) hx hb dX3_tryWithout_84 (by decide) ?_
        have ho1 : i0 = 6 + h ∨ j0 = 6 + h := Or.inl (nI_inj (by omega) (by omega) c9)
        rw [show upd (upd (upd (tA tr pa i0 j0 h) h (pa (2 ^ h))) (3 + h) (nI 0)) (3 + h) (pa (pr3 h)) = tA tr pa i0 j0 (h + 1) from (if_pos ho1).symm] at hP hD
        rw [show tO i0 j0 h = tO i0 j0 (h + 1) from (if_pos ho1).symm] at hl
        refine lv_iload_n hx hb dX3_tryWithout_107 rfl (lv_at hl 3 rfl) ?_
        refine lv_aload_n hx hb dX3_tryWithout_108 rfl (lv_at hl 0 rfl) ?_
        refine fg C hP 0 tb_o (ci := 3) rfl 5 (by decide) in_X3_tryWithout_X3 lk_X3_tryWithout_34 (v := .ref (ad 33)) rfl dX3_tryWithout_109 ?_
        refine lv_iconst (v := nI 3) hx hb dX3_tryWithout_112 (by decide) ?_
        refine lv_iload hx hb dX3_tryWithout_113 (lv_at hl 5 rfl) ?_
        refine lv_iadd hx hb dX3_tryWithout_115 ?_
        refine tp_i (y := nI (3 + h)) (nI_add _ _) ?_
        refine ar_i C hP 33 tb_tr (j := (3 + h)) (by omega) (by decide) dX3_tryWithout_116 ?_
        refine lv_isub hx hb dX3_tryWithout_117 ?_
        refine tp_i (y := tM tr pa i0 j0 (h + 1)) (rfl) ?_
        refine lv_istore_n (lv' := [(3, .int (tM tr pa i0 j0 (h + 1))), (0, .ref (ad 0)), (1, .int (nI i0)), (2, .int (nI j0)), (4, .int (nI (tO i0 j0 (h + 1)))), (5, .int (nI h))]) hx hb dX3_tryWithout_118 rfl hl (by decide) rfl (fun ls hl => ?_)
        refine lv_iinc (v := nI (h + 1)) (lv' := [(5, .int (nI (h + 1))), (3, .int (tM tr pa i0 j0 (h + 1))), (0, .ref (ad 0)), (1, .int (nI i0)), (2, .int (nI j0)), (4, .int (nI (tO i0 j0 (h + 1))))]) hx hb dX3_tryWithout_119 hl (k := 5) rfl (by rw [← nI_add h 1]; rfl) (by decide) rfl (fun ls hl => ?_)
        refine lv_goto (tgt := 14) hx hb dX3_tryWithout_122 (by decide) ?_
        exact ihL1 (h + 1) (by omega) _ _ _ hP hD hS (lv_sub hl [2, 3, 4, 1, 5, 0] rfl)
      · refine lv_iload_n hx hb dX3_tryWithout_55 rfl (lv_at hl 2 rfl) ?_
        refine lv_bipush (v := nI 6) hx hb dX3_tryWithout_56 (by decide) ?_
        refine lv_iload hx hb dX3_tryWithout_58 (lv_at hl 5 rfl) ?_
        refine lv_iadd hx hb dX3_tryWithout_60 ?_
        refine tp_i (y := nI (6 + h)) (nI_add _ _) ?_
        refine lv_icmp_ne (tgt := 87) hx hb dX3_tryWithout_61 (by decide) (fun c10 => ?_) (fun c10 => ?_)
        · refine lv_iload_n hx hb dX3_tryWithout_87 rfl (lv_at hl 1 rfl) ?_
          refine lv_iconst (v := nI 3) hx hb dX3_tryWithout_88 (by decide) ?_
          refine lv_iload hx hb dX3_tryWithout_89 (lv_at hl 5 rfl) ?_
          refine lv_iadd hx hb dX3_tryWithout_91 ?_
          refine tp_i (y := nI (3 + h)) (nI_add _ _) ?_
          refine lv_icmp_eq (tgt := 107) hx hb dX3_tryWithout_92 (by decide) (fun c11 => ?_) (fun c11 => ?_)
          · have ho1 : ¬ (i0 = 6 + h ∨ j0 = 6 + h) := fun o => o.elim (fun z => c9 (by rw [z])) (fun z => c10 (by rw [z]))
            have ho2 : i0 = 3 + h ∨ j0 = 3 + h := Or.inl (nI_inj (by omega) (by omega) c11)
            rw [show upd (upd (tA tr pa i0 j0 h) h (pa (2 ^ h))) (3 + h) (nI 0) = tA tr pa i0 j0 (h + 1) from (if_neg ho1).symm] at hP hD
            rw [show tO i0 j0 h = tO i0 j0 (h + 1) from ((if_neg ho1).trans (if_pos ho2)).symm] at hl
            refine lv_iload_n hx hb dX3_tryWithout_107 rfl (lv_at hl 3 rfl) ?_
            refine lv_aload_n hx hb dX3_tryWithout_108 rfl (lv_at hl 0 rfl) ?_
            refine fg C hP 0 tb_o (ci := 3) rfl 5 (by decide) in_X3_tryWithout_X3 lk_X3_tryWithout_34 (v := .ref (ad 33)) rfl dX3_tryWithout_109 ?_
            refine lv_iconst (v := nI 3) hx hb dX3_tryWithout_112 (by decide) ?_
            refine lv_iload hx hb dX3_tryWithout_113 (lv_at hl 5 rfl) ?_
            refine lv_iadd hx hb dX3_tryWithout_115 ?_
            refine tp_i (y := nI (3 + h)) (nI_add _ _) ?_
            refine ar_i C hP 33 tb_tr (j := (3 + h)) (by omega) (by decide) dX3_tryWithout_116 ?_
            refine lv_isub hx hb dX3_tryWithout_117 ?_
            refine tp_i (y := tM tr pa i0 j0 (h + 1)) (rfl) ?_
            refine lv_istore_n (lv' := [(3, .int (tM tr pa i0 j0 (h + 1))), (0, .ref (ad 0)), (1, .int (nI i0)), (2, .int (nI j0)), (4, .int (nI (tO i0 j0 (h + 1)))), (5, .int (nI h))]) hx hb dX3_tryWithout_118 rfl hl (by decide) rfl (fun ls hl => ?_)
            refine lv_iinc (v := nI (h + 1)) (lv' := [(5, .int (nI (h + 1))), (3, .int (tM tr pa i0 j0 (h + 1))), (0, .ref (ad 0)), (1, .int (nI i0)), (2, .int (nI j0)), (4, .int (nI (tO i0 j0 (h + 1))))]) hx hb dX3_tryWithout_119 hl (k := 5) rfl (by rw [← nI_add h 1]; rfl) (by decide) rfl (fun ls hl => ?_)
            refine lv_goto (tgt := 14) hx hb dX3_tryWithout_122 (by decide) ?_
            exact ihL1 (h + 1) (by omega) _ _ _ hP hD hS (lv_sub hl [2, 3, 4, 1, 5, 0] rfl)
          · refine lv_iload_n hx hb dX3_tryWithout_95 rfl (lv_at hl 2 rfl) ?_
            refine lv_iconst (v := nI 3) hx hb dX3_tryWithout_96 (by decide) ?_
            refine lv_iload hx hb dX3_tryWithout_97 (lv_at hl 5 rfl) ?_
            refine lv_iadd hx hb dX3_tryWithout_99 ?_
            refine tp_i (y := nI (3 + h)) (nI_add _ _) ?_
            refine lv_icmp_eq (tgt := 107) hx hb dX3_tryWithout_100 (by decide) (fun c12 => ?_) (fun c12 => ?_)
            · have ho1 : ¬ (i0 = 6 + h ∨ j0 = 6 + h) := fun o => o.elim (fun z => c9 (by rw [z])) (fun z => c10 (by rw [z]))
              have ho2 : i0 = 3 + h ∨ j0 = 3 + h := Or.inr (nI_inj (by omega) (by omega) c12)
              rw [show upd (upd (tA tr pa i0 j0 h) h (pa (2 ^ h))) (3 + h) (nI 0) = tA tr pa i0 j0 (h + 1) from (if_neg ho1).symm] at hP hD
              rw [show tO i0 j0 h = tO i0 j0 (h + 1) from ((if_neg ho1).trans (if_pos ho2)).symm] at hl
              refine lv_iload_n hx hb dX3_tryWithout_107 rfl (lv_at hl 3 rfl) ?_
              refine lv_aload_n hx hb dX3_tryWithout_108 rfl (lv_at hl 0 rfl) ?_
              refine fg C hP 0 tb_o (ci := 3) rfl 5 (by decide) in_X3_tryWithout_X3 lk_X3_tryWithout_34 (v := .ref (ad 33)) rfl dX3_tryWithout_109 ?_
              refine lv_iconst (v := nI 3) hx hb dX3_tryWithout_112 (by decide) ?_
              refine lv_iload hx hb dX3_tryWithout_113 (lv_at hl 5 rfl) ?_
              refine lv_iadd hx hb dX3_tryWithout_115 ?_
              refine tp_i (y := nI (3 + h)) (nI_add _ _) ?_
              refine ar_i C hP 33 tb_tr (j := (3 + h)) (by omega) (by decide) dX3_tryWithout_116 ?_
              refine lv_isub hx hb dX3_tryWithout_117 ?_
              refine tp_i (y := tM tr pa i0 j0 (h + 1)) (rfl) ?_
              refine lv_istore_n (lv' := [(3, .int (tM tr pa i0 j0 (h + 1))), (0, .ref (ad 0)), (1, .int (nI i0)), (2, .int (nI j0)), (4, .int (nI (tO i0 j0 (h + 1)))), (5, .int (nI h))]) hx hb dX3_tryWithout_118 rfl hl (by decide) rfl (fun ls hl => ?_)
              refine lv_iinc (v := nI (h + 1)) (lv' := [(5, .int (nI (h + 1))), (3, .int (tM tr pa i0 j0 (h + 1))), (0, .ref (ad 0)), (1, .int (nI i0)), (2, .int (nI j0)), (4, .int (nI (tO i0 j0 (h + 1))))]) hx hb dX3_tryWithout_119 hl (k := 5) rfl (by rw [← nI_add h 1]; rfl) (by decide) rfl (fun ls hl => ?_)
              refine lv_goto (tgt := 14) hx hb dX3_tryWithout_122 (by decide) ?_
              exact ihL1 (h + 1) (by omega) _ _ _ hP hD hS (lv_sub hl [2, 3, 4, 1, 5, 0] rfl)
            · refine lv_iload hx hb dX3_tryWithout_103 (lv_at hl 5 rfl) ?_
              refine lv_istore (lv' := [(4, .int (nI h)), (0, .ref (ad 0)), (1, .int (nI i0)), (2, .int (nI j0)), (3, .int (tM tr pa i0 j0 h)), (5, .int (nI h))]) hx hb dX3_tryWithout_105 hl (by decide) rfl (fun ls hl => ?_)
              have ho1 : ¬ (i0 = 6 + h ∨ j0 = 6 + h) := fun o => o.elim (fun z => c9 (by rw [z])) (fun z => c10 (by rw [z]))
              have ho2 : ¬ (i0 = 3 + h ∨ j0 = 3 + h) := fun o => o.elim (fun z => c11 (by rw [z])) (fun z => c12 (by rw [z]))
              rw [show upd (upd (tA tr pa i0 j0 h) h (pa (2 ^ h))) (3 + h) (nI 0) = tA tr pa i0 j0 (h + 1) from (if_neg ho1).symm] at hP hD
              have e4 : nI h = nI (tO i0 j0 (h + 1)) := congrArg nI ((if_neg ho1).trans (if_neg ho2)).symm
              have hl := hl
              have hl : lv_has ls 6 [(4, .int (nI (tO i0 j0 (h + 1)))), (0, .ref (ad 0)), (1, .int (nI i0)), (2, .int (nI j0)), (3, .int (tM tr pa i0 j0 h)), (5, .int (nI h))] := by rw [← e4]; exact hl
              refine lv_iload_n hx hb dX3_tryWithout_107 rfl (lv_at hl 4 rfl) ?_
              refine lv_aload_n hx hb dX3_tryWithout_108 rfl (lv_at hl 1 rfl) ?_
              refine fg C hP 0 tb_o (ci := 3) rfl 5 (by decide) in_X3_tryWithout_X3 lk_X3_tryWithout_34 (v := .ref (ad 33)) rfl dX3_tryWithout_109 ?_
              refine lv_iconst (v := nI 3) hx hb dX3_tryWithout_112 (by decide) ?_
              refine lv_iload hx hb dX3_tryWithout_113 (lv_at hl 5 rfl) ?_
              refine lv_iadd hx hb dX3_tryWithout_115 ?_
              refine tp_i (y := nI (3 + h)) (nI_add _ _) ?_
              refine ar_i C hP 33 tb_tr (j := (3 + h)) (by omega) (by decide) dX3_tryWithout_116 ?_
              refine lv_isub hx hb dX3_tryWithout_117 ?_
              refine tp_i (y := tM tr pa i0 j0 (h + 1)) (rfl) ?_
              refine lv_istore_n (lv' := [(3, .int (tM tr pa i0 j0 (h + 1))), (4, .int (nI (tO i0 j0 (h + 1)))), (0, .ref (ad 0)), (1, .int (nI i0)), (2, .int (nI j0)), (5, .int (nI h))]) hx hb dX3_tryWithout_118 rfl hl (by decide) rfl (fun ls hl => ?_)
              refine lv_iinc (v := nI (h + 1)) (lv' := [(5, .int (nI (h + 1))), (3, .int (tM tr pa i0 j0 (h + 1))), (4, .int (nI (tO i0 j0 (h + 1)))), (0, .ref (ad 0)), (1, .int (nI i0)), (2, .int (nI j0))]) hx hb dX3_tryWithout_119 hl (k := 5) rfl (by rw [← nI_add h 1]; rfl) (by decide) rfl (fun ls hl => ?_)
              refine lv_goto (tgt := 14) hx hb dX3_tryWithout_122 (by decide) ?_
              exact ihL1 (h + 1) (by omega) _ _ _ hP hD hS (lv_sub hl [3, 4, 5, 1, 2, 0] rfl)
        · refine lv_aload_n hx hb dX3_tryWithout_64 rfl (lv_at hl 0 rfl) ?_
          refine fg C hP 0 tb_o (ci := 3) rfl 5 (by decide) in_X3_tryWithout_X3 lk_X3_tryWithout_34 (v := .ref (ad 33)) rfl dX3_tryWithout_65 ?_
          refine lv_iconst (v := nI 3) hx hb dX3_tryWithout_68 (by decide) ?_
          refine lv_iload hx hb dX3_tryWithout_69 (lv_at hl 5 rfl) ?_
          refine lv_iadd hx hb dX3_tryWithout_71 ?_
          refine tp_i (y := nI (3 + h)) (nI_add _ _) ?_
          refine lv_aload_n hx hb dX3_tryWithout_72 rfl (lv_at hl 0 rfl) ?_
          refine fg C hP 0 tb_o (ci := 3) rfl 4 (by decide) in_X3_tryWithout_X3 lk_X3_tryWithout_31 (v := .ref (ad 32)) rfl dX3_tryWithout_73 ?_
          refine va_gets hx hb (hZ.2.2.1.1) hS hown (hts (.fieldLink RX3 94 "TellingBench" "PAIRS" "[I") (by decide +kernel)) (fun _ h9 => h9) dX3_tryWithout_76 ?_
          refine lv_iload hx hb dX3_tryWithout_79 (lv_at hl 5 rfl) ?_
          refine at_i hx hb (hZ.2.2.1.2) hS (j := h) (by omega) (by decide) dX3_tryWithout_81 ?_
          refine tp_i (y := nI (pr3 h)) ((pr3_at h (by omega)).1) ?_
          refine ar_i C hP 32 tb_pa (j := (pr3 h)) (pr3_at h (by omega)).2 (by decide) dX3_tryWithout_82 ?_
          refine as_i C hP hD hS 33 tb_tr (j := (3 + h)) (by omega) (by decide) (tb_tr_st _) dX3_tryWithout_83 (fun H locs hP hD hS => ?_)
          refine lv_goto (tgt := 107) hx hb dX3_tryWithout_84 (by decide) ?_
          have ho1 : i0 = 6 + h ∨ j0 = 6 + h := Or.inr (nI_inj (by omega) (by omega) c10)
          rw [show upd (upd (upd (tA tr pa i0 j0 h) h (pa (2 ^ h))) (3 + h) (nI 0)) (3 + h) (pa (pr3 h)) = tA tr pa i0 j0 (h + 1) from (if_pos ho1).symm] at hP hD
          rw [show tO i0 j0 h = tO i0 j0 (h + 1) from (if_pos ho1).symm] at hl
          refine lv_iload_n hx hb dX3_tryWithout_107 rfl (lv_at hl 3 rfl) ?_
          refine lv_aload_n hx hb dX3_tryWithout_108 rfl (lv_at hl 0 rfl) ?_
          refine fg C hP 0 tb_o (ci := 3) rfl 5 (by decide) in_X3_tryWithout_X3 lk_X3_tryWithout_34 (v := .ref (ad 33)) rfl dX3_tryWithout_109 ?_
          refine lv_iconst (v := nI 3) hx hb dX3_tryWithout_112 (by decide) ?_
          refine lv_iload hx hb dX3_tryWithout_113 (lv_at hl 5 rfl) ?_
          refine lv_iadd hx hb dX3_tryWithout_115 ?_
          refine tp_i (y := nI (3 + h)) (nI_add _ _) ?_
          refine ar_i C hP 33 tb_tr (j := (3 + h)) (by omega) (by decide) dX3_tryWithout_116 ?_
          refine lv_isub hx hb dX3_tryWithout_117 ?_
          refine tp_i (y := tM tr pa i0 j0 (h + 1)) (rfl) ?_
          refine lv_istore_n (lv' := [(3, .int (tM tr pa i0 j0 (h + 1))), (0, .ref (ad 0)), (1, .int (nI i0)), (2, .int (nI j0)), (4, .int (nI (tO i0 j0 (h + 1)))), (5, .int (nI h))]) hx hb dX3_tryWithout_118 rfl hl (by decide) rfl (fun ls hl => ?_)
          refine lv_iinc (v := nI (h + 1)) (lv' := [(5, .int (nI (h + 1))), (3, .int (tM tr pa i0 j0 (h + 1))), (0, .ref (ad 0)), (1, .int (nI i0)), (2, .int (nI j0)), (4, .int (nI (tO i0 j0 (h + 1))))]) hx hb dX3_tryWithout_119 hl (k := 5) rfl (by rw [← nI_add h 1]; rfl) (by decide) rfl (fun ls hl => ?_)
          refine lv_goto (tgt := 14) hx hb dX3_tryWithout_122 (by decide) ?_
          exact ihL1 (h + 1) (by omega) _ _ _ hP hD hS (lv_sub hl [2, 3, 4, 1, 5, 0] rfl)
  exact L1 (3 - 0) 0 (by omega) _ _ _ hP hD hS (lv_sub hl [3, 4, 5, 2, 1, 0] rfl)

