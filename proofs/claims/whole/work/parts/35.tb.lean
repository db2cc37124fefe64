set_option maxRecDepth 20000 in
theorem in_X3_share_X3 : ∀ w ∈ u_ws RX3 TX3 8, w ∈ wsX3_share := by decide +kernel
set_option maxRecDepth 20000 in
theorem lk_X3_share_40 : Cond.fieldLink RX3 40 (TX3 7).1 (TX3 7).2.1 (TX3 7).2.2.1 ∈ wsX3_share := by decide +kernel
set_option maxRecDepth 20000 in
theorem lk_X3_share_37 : Cond.fieldLink RX3 37 (TX3 6).1 (TX3 6).2.1 (TX3 6).2.2.1 ∈ wsX3_share := by decide +kernel
set_option maxHeartbeats 4000000 in
set_option maxRecDepth 100000 in
theorem c_X3_share (D : va_G) (k : Nat → ClassId) (t : Nat → Nat) (l : Launch) {ad : Nat → Nat} {N : Nat → Int32} {S Wt L : Nat → Nat → Int32} {T : Nat → Int32} {G : Nat → Nat → Int64} {E : Nat → Int32} {su pa tr sh : Nat → Int32} {pv : Int32} (x1 x2 : Int32) : Ci D k t l yX3_share wsX3_share ({ frames := 0, cells := 0, slots := 0, locals := 0 }) [.ref (ad 0), .int x1, .int x2] (TBw ad k N S Wt L T G E su pa tr sh pv) (fun r w => (∃ j : Nat, (¬ pv = 0 ∧ j < 9 ∧ x1 = nI j ∧ ¬ x2 < 0 ∧ x2 ≤ nI 1) ∧ r = (if x2 = 0 then sh j else 1) ∧ w = TBw ad k N S Wt L T G E su pa tr sh pv) ∨ ((∀ j : Nat, ¬ (¬ pv = 0 ∧ j < 9 ∧ x1 = nI j ∧ ¬ x2 < 0 ∧ x2 ≤ nI 1)) ∧ r = (-1) ∧ w = TBw ad k N S Wt L T G E su pa tr sh pv)) 0 0 := by
  refine fw_of (cc := cX3_share) (maxL := 3) (ret := (some .int)) (Qc := fun A => va_Qi (fun r w => (∃ j : Nat, (¬ pv = 0 ∧ j < 9 ∧ x1 = nI j ∧ ¬ x2 < 0 ∧ x2 ≤ nI 1) ∧ r = (if x2 = 0 then sh j else 1) ∧ w = TBw ad k N S Wt L T G E su pa tr sh pv) ∨ ((∀ j : Nat, ¬ (¬ pv = 0 ∧ j < 9 ∧ x1 = nI j ∧ ¬ x2 < 0 ∧ x2 ≤ nI 1)) ∧ r = (-1) ∧ w = TBw ad k N S Wt L T G E su pa tr sh pv)) (BcW D A) A) (by decide) rfl (Nat.le_of_ble_eq_true rfl) ?_
  intro p e s m below meth c A ls C hP hD hl
  have C : Cx RX3 "share" cX3_share 3 (some .int) wsX3_share D k t A p s m ([.ref (ad 0), .int x1, .int x2] : List Value).toArray meth c := C
  have hl : lv_has ls 3 [(0, .ref (ad 0)), (1, .int x1), (2, .int x2)] := hl
  have hx := C.1
  have hb := C.2.1
  have hown := C.2.2.2.2.1
  have hts := C.2.2.2.2.2.1
  have hK := C.2.2.2.2.2.2.2.2.1
  have hZ := C.2.2.2.2.2.2.2.2.2.1
  have hN := C.2.2.2.2.2.2.2.2.2.2
  have hS : va_S A s.heap s.heap [] := va_S.rf
  refine lv_aload_n hx hb dX3_share_0 rfl (lv_at hl 0 rfl) ?_
  refine fg C hP 0 tb_o (ci := 3) rfl 7 (by decide) in_X3_share_X3 lk_X3_share_40 (v := .int pv) rfl dX3_share_1 ?_
  refine lv_if_eq (tgt := 26) hx hb dX3_share_4 (by decide) (fun c1 => ?_) (fun c1 => ?_)
  · refine lv_iconst (v := (-1)) hx hb dX3_share_26 (by decide) ?_
    exact Ri C hP hD hS (Nat.zero_le _) (Nat.zero_le _) dX3_share_27 (Or.inr ⟨fun _ z => z.1 c1, rfl, rfl⟩)
  · refine lv_iload_n hx hb dX3_share_7 rfl (lv_at hl 1 rfl) ?_
    refine lv_if_lt (tgt := 26) hx hb dX3_share_8 (by decide) (fun c2 => ?_) (fun c2 => ?_)
    · refine lv_iconst (v := (-1)) hx hb dX3_share_26 (by decide) ?_
      exact Ri C hP hD hS (Nat.zero_le _) (Nat.zero_le _) dX3_share_27 (Or.inr ⟨fun j z => by obtain ⟨_, z2, rfl, _⟩ := z; exact nI_pos (by omega) c2, rfl, rfl⟩)
    · refine lv_iload_n hx hb dX3_share_11 rfl (lv_at hl 1 rfl) ?_
      refine lv_bipush (v := nI 9) hx hb dX3_share_12 (by decide) ?_
      refine lv_icmp_ge (tgt := 26) hx hb dX3_share_14 (by decide) (fun c3 => ?_) (fun c3 => ?_)
      · refine lv_iconst (v := (-1)) hx hb dX3_share_26 (by decide) ?_
        exact Ri C hP hD hS (Nat.zero_le _) (Nat.zero_le _) dX3_share_27 (Or.inr ⟨fun j z => by obtain ⟨_, z2, rfl, _⟩ := z; exact nI_ge z2 (by decide) c3, rfl, rfl⟩)
      · obtain ⟨j, hj, rfl⟩ := ixL (by decide) c2 c3
        refine lv_iload_n hx hb dX3_share_17 rfl (lv_at hl 2 rfl) ?_
        refine lv_if_lt (tgt := 26) hx hb dX3_share_18 (by decide) (fun c4 => ?_) (fun c4 => ?_)
        · refine lv_iconst (v := (-1)) hx hb dX3_share_26 (by decide) ?_
          exact Ri C hP hD hS (Nat.zero_le _) (Nat.zero_le _) dX3_share_27 (Or.inr ⟨fun _ z => z.2.2.2.1 c4, rfl, rfl⟩)
        · refine lv_iload_n hx hb dX3_share_21 rfl (lv_at hl 2 rfl) ?_
          refine lv_iconst (v := nI 1) hx hb dX3_share_22 (by decide) ?_
          refine lv_icmp_le (tgt := 28) hx hb dX3_share_23 (by decide) (fun c5 => ?_) (fun c5 => ?_)
          · refine lv_iload_n hx hb dX3_share_28 rfl (lv_at hl 2 rfl) ?_
            refine lv_if_ne (tgt := 41) hx hb dX3_share_29 (by decide) (fun c6 => ?_) (fun c6 => ?_)
            · refine lv_iconst (v := nI 1) hx hb dX3_share_41 (by decide) ?_
              exact Ri C hP hD hS (Nat.zero_le _) (Nat.zero_le _) dX3_share_42 (Or.inl ⟨j, ⟨c1, hj, rfl, c4, c5⟩, by rw [if_neg c6]; rfl, rfl⟩)
            · refine lv_aload_n hx hb dX3_share_32 rfl (lv_at hl 0 rfl) ?_
              refine fg C hP 0 tb_o (ci := 3) rfl 6 (by decide) in_X3_share_X3 lk_X3_share_37 (v := .ref (ad 34)) rfl dX3_share_33 ?_
              refine lv_iload_n hx hb dX3_share_36 rfl (lv_at hl 1 rfl) ?_
              refine ar_i C hP 34 tb_sh (j := j) (by omega) (by decide) dX3_share_37 ?_
              refine lv_goto (tgt := 42) hx hb dX3_share_38 (by decide) ?_
              exact Ri C hP hD hS (Nat.zero_le _) (Nat.zero_le _) dX3_share_42 (Or.inl ⟨j, ⟨c1, hj, rfl, c4, c5⟩, by rw [if_pos c6], rfl⟩)
          · refine lv_iconst (v := (-1)) hx hb dX3_share_26 (by decide) ?_
            exact Ri C hP hD hS (Nat.zero_le _) (Nat.zero_le _) dX3_share_27 (Or.inr ⟨fun _ z => c5 z.2.2.2.2, rfl, rfl⟩)

def wsum (d : Nat) : Nat → Nat
  | 0 => 0
  | i + 1 => wsum d i + 512 / 2 ^ (d / 10 ^ i % 10)
theorem wsum_le (d : Nat) : ∀ i, wsum d i ≤ 512 * i
  | 0 => Nat.le_refl _
  | i + 1 => by
    have h := wsum_le d i
    have h2 : 512 / 2 ^ (d / 10 ^ i % 10) ≤ 512 := Nat.div_le_self _ _
    rw [wsum]; omega
theorem sh512 : ∀ e, e < 10 → nI 512 >>> (nI e &&& 31) = nI (512 / 2 ^ e) := by decide +kernel
theorem dl10 {d : Nat} (h : d < 2 ^ 31) (i : Nat) : d / 10 ^ i < 2 ^ 31 := Nat.lt_of_le_of_lt (Nat.div_le_self _ _) h
set_option maxHeartbeats 4000000 in
set_option maxRecDepth 100000 in
theorem c_X3_words (D : va_G) (k : Nat → ClassId) (t : Nat → Nat) (l : Launch) {ad : Nat → Nat} {N : Nat → Int32} {S Wt L : Nat → Nat → Int32} {T : Nat → Int32} {G : Nat → Nat → Int64} {E : Nat → Int32} {su pa tr sh : Nat → Int32} {pv : Int32} (x1 x2 : Int32) : Ci D k t l yX3_words wsX3_words ({ frames := 0, cells := 0, slots := 0, locals := 0 }) [.ref (ad 0), .int x1, .int x2] (TBw ad k N S Wt L T G E su pa tr sh pv) (fun r w => (∃ a1 d : Nat, (1 ≤ a1 ∧ a1 < 9 ∧ x1 = nI a1 ∧ d < 2 ^ 31 ∧ x2 = nI d) ∧ r = pb (wsum d a1 ≤ 512) ∧ w = TBw ad k N S Wt L T G E su pa tr sh pv) ∨ ((∀ a1 d : Nat, ¬ (1 ≤ a1 ∧ a1 < 9 ∧ x1 = nI a1 ∧ d < 2 ^ 31 ∧ x2 = nI d)) ∧ r = nI 0 ∧ w = TBw ad k N S Wt L T G E su pa tr sh pv)) 0 0 := by
  refine fw_of (cc := cX3_words) (maxL := 6) (ret := (some .boolean)) (Qc := fun A => va_Qi (fun r w => (∃ a1 d : Nat, (1 ≤ a1 ∧ a1 < 9 ∧ x1 = nI a1 ∧ d < 2 ^ 31 ∧ x2 = nI d) ∧ r = pb (wsum d a1 ≤ 512) ∧ w = TBw ad k N S Wt L T G E su pa tr sh pv) ∨ ((∀ a1 d : Nat, ¬ (1 ≤ a1 ∧ a1 < 9 ∧ x1 = nI a1 ∧ d < 2 ^ 31 ∧ x2 = nI d)) ∧ r = nI 0 ∧ w = TBw ad k N S Wt L T G E su pa tr sh pv)) (BcW D A) A) (by decide) rfl (Nat.le_of_ble_eq_true rfl) ?_
  intro p e s m below meth c A ls C hP hD hl
  have C : Cx RX3 "words" cX3_words 6 (some .boolean) wsX3_words D k t A p s m ([.ref (ad 0), .int x1, .int x2] : List Value).toArray meth c := C
  have hl : lv_has ls 6 [(0, .ref (ad 0)), (1, .int x1), (2, .int x2)] := hl
  have hx := C.1
  have hb := C.2.1
  have hown := C.2.2.2.2.1
  have hts := C.2.2.2.2.2.1
  have hK := C.2.2.2.2.2.2.2.2.1
  have hZ := C.2.2.2.2.2.2.2.2.2.1
  have hN := C.2.2.2.2.2.2.2.2.2.2
  have hS : va_S A s.heap s.heap [] := va_S.rf
  refine lv_iload_n hx hb dX3_words_0 rfl (lv_at hl 1 rfl) ?_
  refine lv_iconst (v := nI 1) hx hb dX3_words_1 (by decide) ?_
  refine lv_icmp_lt (tgt := 15) hx hb dX3_words_2 (by decide) (fun c1 => ?_) (fun c1 => ?_)
  · refine lv_iconst (v := nI 0) hx hb dX3_words_15 (by decide) ?_
    exact Rz C hP hD hS (Nat.zero_le _) (Nat.zero_le _) rfl dX3_words_16 (Or.inr ⟨fun a1 _ z => by obtain ⟨z1, z2, rfl, _⟩ := z; exact nI_nlt z1 (by omega) c1, rfl, rfl⟩)
  · refine lv_iload_n hx hb dX3_words_5 rfl (lv_at hl 1 rfl) ?_
    refine lv_bipush (v := nI 8) hx hb dX3_words_6 (by decide) ?_
    refine lv_icmp_gt (tgt := 15) hx hb dX3_words_8 (by decide) (fun c2 => ?_) (fun c2 => ?_)
    · refine lv_iconst (v := nI 0) hx hb dX3_words_15 (by decide) ?_
      exact Rz C hP hD hS (Nat.zero_le _) (Nat.zero_le _) rfl dX3_words_16 (Or.inr ⟨fun a1 _ z => by obtain ⟨z1, z2, rfl, _⟩ := z; exact nI_nlt (show a1 ≤ 8 by omega) (by decide) c2, rfl, rfl⟩)
    · refine lv_iload_n hx hb dX3_words_11 rfl (lv_at hl 2 rfl) ?_
      refine lv_if_ge (tgt := 17) hx hb dX3_words_12 (by decide) (fun c3 => ?_) (fun c3 => ?_)
      · obtain ⟨b1, ha0, ha1, rfl⟩ := rg_in' (by decide) (by decide) c1 c2
        obtain ⟨e1, hd, rfl⟩ := nI_of (show ¬ x2 < 0 from Int32.not_lt.mpr c3)
        refine lv_iconst (v := nI 0) hx hb dX3_words_17 (by decide) ?_
        refine tp_i (y := nI (wsum e1 0)) (rfl) ?_
        refine lv_istore_n (lv' := [(3, .int (nI (wsum e1 0))), (0, .ref (ad 0)), (1, .int (nI b1)), (2, .int (nI e1))]) hx hb dX3_words_18 rfl hl (by decide) rfl (fun ls hl => ?_)
        refine lv_iload_n hx hb dX3_words_19 rfl (lv_at hl 3 rfl) ?_
        refine tp_i (y := nI (e1 / 10 ^ 0)) (by rw [Nat.pow_zero, Nat.div_one]) ?_
        refine lv_istore (lv' := [(4, .int (nI (e1 / 10 ^ 0))), (3, .int (nI (wsum e1 0))), (0, .ref (ad 0)), (1, .int (nI b1)), (2, .int (nI e1))]) hx hb dX3_words_20 hl (by decide) rfl (fun ls hl => ?_)
        refine lv_iconst (v := nI 0) hx hb dX3_words_22 (by decide) ?_
        refine lv_istore (lv' := [(5, .int (nI 0)), (4, .int (nI (e1 / 10 ^ 0))), (3, .int (nI (wsum e1 0))), (0, .ref (ad 0)), (1, .int (nI b1)), (2, .int (nI e1))]) hx hb dX3_words_23 hl (by decide) rfl (fun ls hl => ?_)
        have L4 : ∀ (r i : Nat), i + r = b1 → ∀ (H : Heap) (locs : List Loc) (ls : Array Slot), va_P D vwCl (TBw ad k N S Wt L T G E su pa tr sh pv) H → va_D A (TBw ad k N S Wt L T G E su pa tr sh pv) → va_S A s.heap H locs → lv_has ls 6 [(0, .ref (ad 0)), (1, .int (nI b1)), (2, .int (nI e1)), (3, .int (nI (wsum e1 i))), (4, .int (nI (e1 / 10 ^ i))), (5, .int (nI i))] → W p l e ({ frames := 0, cells := 0, slots := 0, locals := 0 }) s m ([.ref (ad 0), .int (nI b1), .int (nI e1)] : List Value).toArray below meth c H locs 0 0 (MQ below (va_Qi (fun r w => (∃ a1 d : Nat, (1 ≤ a1 ∧ a1 < 9 ∧ (nI b1) = nI a1 ∧ d < 2 ^ 31 ∧ (nI e1) = nI d) ∧ r = pb (wsum d a1 ≤ 512) ∧ w = TBw ad k N S Wt L T G E su pa tr sh pv) ∨ ((∀ a1 d : Nat, ¬ (1 ≤ a1 ∧ a1 < 9 ∧ (nI b1) = nI a1 ∧ d < 2 ^ 31 ∧ (nI e1) = nI d)) ∧ r = nI 0 ∧ w = TBw ad k N S Wt L T G E su pa tr sh pv)) (BcW D A) A) ([.ref (ad 0), .int (nI b1), .int (nI e1)] : List Value).toArray s 0 0 A) (F0 m 25 ls []) := by
          intro r
          induction r with
          | zero =>
            intro i hr H locs ls hP hD hS hl
            obtain rfl : b1 = i := by omega
            refine lv_iload hx hb dX3_words_25 (lv_at hl 5 rfl) ?_
            refine lv_iload_n hx hb dX3_words_27 rfl (lv_at hl 1 rfl) ?_
            refine lv_icmp_ge (tgt := 56) hx hb dX3_words_28 (by decide) (fun c5 => ?_) (fun c5 => absurd (nI_le (by omega) (by omega)) c5)
            refine lv_iload_n hx hb dX3_words_56 rfl (lv_at hl 3 rfl) ?_
            refine lv_sipush (v := nI 512) hx hb dX3_words_57 (by decide) ?_
            refine lv_icmp_gt (tgt := 67) hx hb dX3_words_60 (by decide) (fun c6 => ?_) (fun c6 => ?_)
            · refine lv_iconst (v := nI 0) hx hb dX3_words_67 (by decide) ?_
              exact Rz C hP hD hS (Nat.zero_le _) (Nat.zero_le _) rfl dX3_words_68 (Or.inl ⟨b1, e1, ⟨ha0, ha1, rfl, hd, rfl⟩, (pb_f (fun q => nI_nlt q (by have := wsum_le e1 b1; omega) c6)).symm, rfl⟩)
            · refine lv_iconst (v := nI 1) hx hb dX3_words_63 (by decide) ?_
              refine lv_goto (tgt := 68) hx hb dX3_words_64 (by decide) ?_
              exact Rz C hP hD hS (Nat.zero_le _) (Nat.zero_le _) rfl dX3_words_68 (Or.inl ⟨b1, e1, ⟨ha0, ha1, rfl, hd, rfl⟩, (pb_t (Nat.not_lt.mp fun q => c6 (nI_lt q (by have := wsum_le e1 b1; omega)))).symm, rfl⟩)
          | succ r ihL4 =>
            intro i hr H locs ls hP hD hS hl
            refine lv_iload hx hb dX3_words_25 (lv_at hl 5 rfl) ?_
            refine lv_iload_n hx hb dX3_words_27 rfl (lv_at hl 1 rfl) ?_
            refine lv_icmp_ge (tgt := 56) hx hb dX3_words_28 (by decide) (fun c7 => absurd c7 (nI_ge (by omega) (by omega))) (fun c7 => ?_)
            refine lv_iload_n hx hb dX3_words_31 rfl (lv_at hl 3 rfl) ?_
            refine lv_sipush (v := nI 512) hx hb dX3_words_32 (by decide) ?_
            refine lv_iload hx hb dX3_words_35 (lv_at hl 4 rfl) ?_
            refine lv_bipush (v := nI 10) hx hb dX3_words_37 (by decide) ?_
            refine lv_irem hx hb dX3_words_39 (by decide) ?_
            refine tp_i (y := nI (e1 / 10 ^ i % 10)) (pk_rem (dl10 hd i) (by decide) (by decide)) ?_
            refine lv_ishr hx hb dX3_words_40 ?_
            refine tp_i (y := nI (512 / 2 ^ (e1 / 10 ^ i % 10))) (sh512 _ (Nat.mod_lt _ (by decide))) ?_
            refine lv_iadd hx hb dX3_words_41 ?_
            refine tp_i (y := nI (wsum e1 (i + 1))) (nI_add _ _) ?_
            refine lv_istore_n (lv' := [(3, .int (nI (wsum e1 (i + 1)))), (0, .ref (ad 0)), (1, .int (nI b1)), (2, .int (nI e1)), (4, .int (nI (e1 / 10 ^ i))), (5, .int (nI i))]) hx hb dX3_words_42 rfl hl (by decide) rfl (fun ls hl => ?_)
            refine lv_iload hx hb dX3_words_43 (lv_at hl 4 rfl) ?_
            refine lv_bipush (v := nI 10) hx hb dX3_words_45 (by decide) ?_
            refine lv_idiv hx hb dX3_words_47 (by decide) ?_
            refine tp_i (y := nI (e1 / 10 ^ (i + 1))) (by rw [pk_div (dl10 hd i) (by decide) (by decide), Nat.div_div_eq_div_mul, ← Nat.pow_succ]) ?_
            refine lv_istore (lv' := [(4, .int (nI (e1 / 10 ^ (i + 1)))), (3, .int (nI (wsum e1 (i + 1)))), (0, .ref (ad 0)), (1, .int (nI b1)), (2, .int (nI e1)), (5, .int (nI i))]) hx hb dX3_words_48 hl (by decide) rfl (fun ls hl => ?_)
            refine lv_iinc (v := nI (i + 1)) (lv' := [(5, .int (nI (i + 1))), (4, .int (nI (e1 / 10 ^ (i + 1)))), (3, .int (nI (wsum e1 (i + 1)))), (0, .ref (ad 0)), (1, .int (nI b1)), (2, .int (nI e1))]) hx hb dX3_words_50 hl (k := 5) rfl (by rw [← nI_add i 1]; rfl) (by decide) rfl (fun ls hl => ?_)
            refine lv_goto (tgt := 25) hx hb dX3_words_53 (by decide) ?_
            exact ihL4 (i + 1) (by omega) _ _ _ hP hD hS (lv_sub hl [3, 4, 5, 2, 1, 0] rfl)
        exact L4 (b1 - 0) 0 (by omega) _ _ _ hP hD hS (lv_sub hl [3, 4, 5, 2, 1, 0] rfl)
      · refine lv_iconst (v := nI 0) hx hb dX3_words_15 (by decide) ?_
        exact Rz C hP hD hS (Nat.zero_le _) (Nat.zero_le _) rfl dX3_words_16 (Or.inr ⟨fun _ d z => by obtain ⟨_, _, _, z4, rfl⟩ := z; exact c3 (nI_pos' z4), rfl, rfl⟩)

