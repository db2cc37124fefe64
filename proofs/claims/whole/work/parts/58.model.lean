/-- the reference's search for the least: none, or the place -/
def bO (A : Nat → Int32) (b : Int32) : Nat → Option Nat
  | 0 => none
  | i + 1 => if nI i = b then bO A b i else if A i ≤ 0 then bO A b i else match bO A b i with
    | none => some i
    | some k => if A k ≤ A i then some k else some i
def oI : Option Nat → Int32
  | none => -1
  | some k => nI k
theorem bO_1 {A : Nat → Int32} {b : Int32} {i : Nat} (h : nI i = b) : bO A b i = bO A b (i + 1) := (if_pos h).symm
theorem bO_2 {A : Nat → Int32} {b : Int32} {i : Nat} (h : ¬ nI i = b) (h2 : A i ≤ 0) : bO A b i = bO A b (i + 1) := by rw [bO, if_neg h, if_pos h2]
theorem bO_3 {A : Nat → Int32} {b : Int32} {i : Nat} (h : ¬ nI i = b) (h2 : ¬ A i ≤ 0) (h3 : bO A b i = none) : some i = bO A b (i + 1) := by rw [bO, if_neg h, if_neg h2, h3]
theorem bO_4 {A : Nat → Int32} {b : Int32} {i k : Nat} (h : ¬ nI i = b) (h2 : ¬ A i ≤ 0) (h3 : bO A b i = some k) (h4 : A k ≤ A i) : bO A b i = bO A b (i + 1) := by
  rw [bO, if_neg h, if_neg h2, h3]
  exact (if_pos h4).symm
theorem bO_5 {A : Nat → Int32} {b : Int32} {i k : Nat} (h : ¬ nI i = b) (h2 : ¬ A i ≤ 0) (h3 : bO A b i = some k) (h4 : ¬ A k ≤ A i) : some i = bO A b (i + 1) := by
  rw [bO, if_neg h, if_neg h2, h3]
  exact (if_neg h4).symm
theorem bO_lt {A : Nat → Int32} {b : Int32} : ∀ {i k : Nat}, bO A b i = some k → k < i
  | 0, k, h => by cases h
  | i + 1, k, h => by
    rw [bO] at h
    split at h
    · have := bO_lt h; omega
    · split at h
      · have := bO_lt h; omega
      · split at h
        · cases h; omega
        · split at h
          · cases h; rename_i h5 _; have := bO_lt h5; omega
          · cases h; omega
theorem oI_n {o : Option Nat} {i : Nat} (hb : ∀ k, o = some k → k < i) (hi : i ≤ 27) (h : oI o = -1) : o = none := by
  cases o with
  | none => rfl
  | some k =>
    have h1 := hb k rfl
    have h2 := nI_pos (n := k) (by omega)
    have h3 : nI k = -1 := h
    rw [h3] at h2
    exact absurd (by decide) h2
theorem oI_s {o : Option Nat} (h : ¬ oI o = -1) : ∃ k, o = some k := by
  cases o with
  | none => exact absurd rfl h
  | some k => exact ⟨k, rfl⟩
set_option maxRecDepth 20000 in
theorem in_X4_secondOf_X4 : ∀ w ∈ u_ws RX4 TX4 15, w ∈ wsX4_secondOf := by decide +kernel
set_option maxRecDepth 20000 in
theorem lk_X4_secondOf_28 : Cond.fieldLink RX4 28 (TX4 6).1 (TX4 6).2.1 (TX4 6).2.2.1 ∈ wsX4_secondOf := by decide +kernel
set_option maxHeartbeats 4000000 in
set_option maxRecDepth 100000 in
theorem c_X4_secondOf (D : va_G) (k : Nat → ClassId) (t : Nat → Nat) (l : Launch) {bd : Nat → Nat} {st wt sm nu po sh up lo : Nat → Int32} {li : Int32} {ro so un to : Nat → Int64} {it : Int32} (x1 : Int32) : Ci D k t l yX4_secondOf wsX4_secondOf ({ frames := 0, cells := 0, slots := 0, locals := 0 }) [.ref (bd 0), .int x1] (MWw bd k st wt sm nu po sh up lo li ro so un to it) (fun r w => r = oI (bO sh x1 27) ∧ w = MWw bd k st wt sm nu po sh up lo li ro so un to it) 0 0 := by
  refine fw_of (cc := cX4_secondOf) (maxL := 4) (ret := (some .int)) (Qc := fun A => va_Qi (fun r w => r = oI (bO sh x1 27) ∧ w = MWw bd k st wt sm nu po sh up lo li ro so un to it) (BcW D A) A) (by decide) rfl (Nat.le_of_ble_eq_true rfl) ?_
  intro p e s m below meth c A ls C hP hD hl
  have C : Cx RX4 "secondOf" cX4_secondOf 4 (some .int) wsX4_secondOf D k t A p s m ([.ref (bd 0), .int x1] : List Value).toArray meth c := C
  have hl : lv_has ls 4 [(0, .ref (bd 0)), (1, .int x1)] := hl
  have hx := C.1
  have hb := C.2.1
  have hown := C.2.2.2.2.1
  have hts := C.2.2.2.2.2.1
  have hK := C.2.2.2.2.2.2.2.2.1
  have hZ := C.2.2.2.2.2.2.2.2.2.1
  have hN := C.2.2.2.2.2.2.2.2.2.2
  have hS : va_S A s.heap s.heap [] := va_S.rf
  refine lv_iconst (v := (-1)) hx hb dX4_secondOf_0 (by decide) ?_
  refine tp_i (y := oI (bO sh x1 0)) (rfl) ?_
  refine lv_istore_n (lv' := [(2, .int (oI (bO sh x1 0))), (0, .ref (bd 0)), (1, .int x1)]) hx hb dX4_secondOf_1 rfl hl (by decide) rfl (fun ls hl => ?_)
  refine lv_iconst (v := nI 0) hx hb dX4_secondOf_2 (by decide) ?_
  refine lv_istore_n (lv' := [(3, .int (nI 0)), (2, .int (oI (bO sh x1 0))), (0, .ref (bd 0)), (1, .int x1)]) hx hb dX4_secondOf_3 rfl hl (by decide) rfl (fun ls hl => ?_)
  have L1 : ∀ (r i : Nat), i + r = 27 → ∀ (H : Heap) (locs : List Loc) (ls : Array Slot), va_P D vwCl (MWw bd k st wt sm nu po sh up lo li ro so un to it) H → va_D A (MWw bd k st wt sm nu po sh up lo li ro so un to it) → va_S A s.heap H locs → lv_has ls 4 [(0, .ref (bd 0)), (1, .int x1), (2, .int (oI (bO sh x1 i))), (3, .int (nI i))] → W p l e ({ frames := 0, cells := 0, slots := 0, locals := 0 }) s m ([.ref (bd 0), .int x1] : List Value).toArray below meth c H locs 0 0 (MQ below (va_Qi (fun r w => r = oI (bO sh x1 27) ∧ w = MWw bd k st wt sm nu po sh up lo li ro so un to it) (BcW D A) A) ([.ref (bd 0), .int x1] : List Value).toArray s 0 0 A) (F0 m 4 ls []) := by
    intro r
    induction r with
    | zero =>
      intro i hr H locs ls hP hD hS hl
      obtain rfl : 27 = i := by omega
      refine lv_iload_n hx hb dX4_secondOf_4 rfl (lv_at hl 3 rfl) ?_
      refine lv_bipush (v := nI 27) hx hb dX4_secondOf_5 (by decide) ?_
      refine lv_icmp_ge (tgt := 52) hx hb dX4_secondOf_7 (by decide) (fun c2 => ?_) (fun c2 => absurd (nI_le (by omega) (by decide)) c2)
      refine lv_iload_n hx hb dX4_secondOf_52 rfl (lv_at hl 2 rfl) ?_
      exact Ri C hP hD hS (Nat.zero_le _) (Nat.zero_le _) dX4_secondOf_53 (⟨rfl, rfl⟩)
    | succ r ihL1 =>
      intro i hr H locs ls hP hD hS hl
      refine lv_iload_n hx hb dX4_secondOf_4 rfl (lv_at hl 3 rfl) ?_
      refine lv_bipush (v := nI 27) hx hb dX4_secondOf_5 (by decide) ?_
      refine lv_icmp_ge (tgt := 52) hx hb dX4_secondOf_7 (by decide) (fun c3 => absurd c3 (nI_ge (by omega) (by decide))) (fun c3 => ?_)
      refine lv_iload_n hx hb dX4_secondOf_10 rfl (lv_at hl 3 rfl) ?_
      refine lv_iload_n hx hb dX4_secondOf_11 rfl (lv_at hl 1 rfl) ?_
      refine lv_icmp_eq (tgt := 46) hx hb dX4_secondOf_12 (by decide) (fun c4 => ?_) (fun c4 => ?_)
      · refine lv_iinc (v := nI (i + 1)) (lv' := [(3, .int (nI (i + 1))), (0, .ref (bd 0)), (1, .int x1), (2, .int (oI (bO sh x1 i)))]) hx hb dX4_secondOf_46 hl (k := 3) rfl (by rw [← nI_add i 1]; rfl) (by decide) rfl (fun ls hl => ?_)
        refine lv_goto (tgt := 4) hx hb dX4_secondOf_49 (by decide) ?_
        rw [show bO sh x1 i = bO sh x1 (i + 1) from bO_1 c4] at hl
        exact ihL1 (i + 1) (by omega) _ _ _ hP hD hS (lv_sub hl [1, 2, 3, 0] rfl)
      · refine lv_aload_n hx hb dX4_secondOf_15 rfl (lv_at hl 0 rfl) ?_
        refine fg C hP 0 mw_o (ci := 4) rfl 6 (by decide) in_X4_secondOf_X4 lk_X4_secondOf_28 (v := .ref (bd 7)) rfl dX4_secondOf_16 ?_
        refine lv_iload_n hx hb dX4_secondOf_19 rfl (lv_at hl 3 rfl) ?_
        refine ar_i C hP 7 mw_sh (j := i) (by omega) (by decide) dX4_secondOf_20 ?_
        refine lv_if_le (tgt := 46) hx hb dX4_secondOf_21 (by decide) (fun c5 => ?_) (fun c5 => ?_)
        · refine lv_iinc (v := nI (i + 1)) (lv' := [(3, .int (nI (i + 1))), (0, .ref (bd 0)), (1, .int x1), (2, .int (oI (bO sh x1 i)))]) hx hb dX4_secondOf_46 hl (k := 3) rfl (by rw [← nI_add i 1]; rfl) (by decide) rfl (fun ls hl => ?_)
          refine lv_goto (tgt := 4) hx hb dX4_secondOf_49 (by decide) ?_
          rw [show bO sh x1 i = bO sh x1 (i + 1) from bO_2 c4 c5] at hl
          exact ihL1 (i + 1) (by omega) _ _ _ hP hD hS (lv_sub hl [1, 2, 3, 0] rfl)
        · refine lv_iload_n hx hb dX4_secondOf_24 rfl (lv_at hl 2 rfl) ?_
          refine lv_iconst (v := (-1)) hx hb dX4_secondOf_25 (by decide) ?_
          refine lv_icmp_eq (tgt := 44) hx hb dX4_secondOf_26 (by decide) (fun c6 => ?_) (fun c6 => ?_)
          · refine lv_iload_n hx hb dX4_secondOf_44 rfl (lv_at hl 3 rfl) ?_
            refine tp_i (y := oI (bO sh x1 (i + 1))) (congrArg oI (bO_3 c4 c5 (oI_n (fun k h => bO_lt h) (by omega) c6))) ?_
            refine lv_istore_n (lv' := [(2, .int (oI (bO sh x1 (i + 1)))), (0, .ref (bd 0)), (1, .int x1), (3, .int (nI i))]) hx hb dX4_secondOf_45 rfl hl (by decide) rfl (fun ls hl => ?_)
            refine lv_iinc (v := nI (i + 1)) (lv' := [(3, .int (nI (i + 1))), (2, .int (oI (bO sh x1 (i + 1)))), (0, .ref (bd 0)), (1, .int x1)]) hx hb dX4_secondOf_46 hl (k := 3) rfl (by rw [← nI_add i 1]; rfl) (by decide) rfl (fun ls hl => ?_)
            refine lv_goto (tgt := 4) hx hb dX4_secondOf_49 (by decide) ?_
            exact ihL1 (i + 1) (by omega) _ _ _ hP hD hS (lv_sub hl [2, 3, 1, 0] rfl)
          · obtain ⟨k1, hk1⟩ := oI_s c6
            have hk2 := bO_lt hk1
            refine lv_aload_n hx hb dX4_secondOf_29 rfl (lv_at hl 0 rfl) ?_
            refine fg C hP 0 mw_o (ci := 4) rfl 6 (by decide) in_X4_secondOf_X4 lk_X4_secondOf_28 (v := .ref (bd 7)) rfl dX4_secondOf_30 ?_
            refine lv_iload_n hx hb dX4_secondOf_33 rfl (lv_at hl 3 rfl) ?_
            refine ar_i C hP 7 mw_sh (j := i) (by omega) (by decide) dX4_secondOf_34 ?_
            refine lv_aload_n hx hb dX4_secondOf_35 rfl (lv_at hl 0 rfl) ?_
            refine fg C hP 0 mw_o (ci := 4) rfl 6 (by decide) in_X4_secondOf_X4 lk_X4_secondOf_28 (v := .ref (bd 7)) rfl dX4_secondOf_36 ?_
            refine lv_iload_n hx hb dX4_secondOf_39 rfl (lv_at hl 2 rfl) ?_
            refine tp_i (y := nI k1) (by rw [hk1]; rfl) ?_
            refine ar_i C hP 7 mw_sh (j := k1) (by omega) (by decide) dX4_secondOf_40 ?_
            refine lv_icmp_ge (tgt := 46) hx hb dX4_secondOf_41 (by decide) (fun c7 => ?_) (fun c7 => ?_)
            · refine lv_iinc (v := nI (i + 1)) (lv' := [(3, .int (nI (i + 1))), (0, .ref (bd 0)), (1, .int x1), (2, .int (oI (bO sh x1 i)))]) hx hb dX4_secondOf_46 hl (k := 3) rfl (by rw [← nI_add i 1]; rfl) (by decide) rfl (fun ls hl => ?_)
              refine lv_goto (tgt := 4) hx hb dX4_secondOf_49 (by decide) ?_
              rw [show bO sh x1 i = bO sh x1 (i + 1) from bO_4 c4 c5 hk1 c7] at hl
              exact ihL1 (i + 1) (by omega) _ _ _ hP hD hS (lv_sub hl [1, 2, 3, 0] rfl)
            · refine lv_iload_n hx hb dX4_secondOf_44 rfl (lv_at hl 3 rfl) ?_
              refine tp_i (y := oI (bO sh x1 (i + 1))) (congrArg oI (bO_5 c4 c5 hk1 c7)) ?_
              refine lv_istore_n (lv' := [(2, .int (oI (bO sh x1 (i + 1)))), (0, .ref (bd 0)), (1, .int x1), (3, .int (nI i))]) hx hb dX4_secondOf_45 rfl hl (by decide) rfl (fun ls hl => ?_)
              refine lv_iinc (v := nI (i + 1)) (lv' := [(3, .int (nI (i + 1))), (2, .int (oI (bO sh x1 (i + 1)))), (0, .ref (bd 0)), (1, .int x1)]) hx hb dX4_secondOf_46 hl (k := 3) rfl (by rw [← nI_add i 1]; rfl) (by decide) rfl (fun ls hl => ?_)
              refine lv_goto (tgt := 4) hx hb dX4_secondOf_49 (by decide) ?_
              exact ihL1 (i + 1) (by omega) _ _ _ hP hD hS (lv_sub hl [2, 3, 1, 0] rfl)
  exact L1 (27 - 0) 0 (by omega) _ _ _ hP hD hS (lv_sub hl [2, 3, 1, 0] rfl)

set_option maxHeartbeats 4000000 in
set_option maxRecDepth 100000 in
theorem c_X4_leastOf (D : va_G) (k : Nat → ClassId) (t : Nat → Nat) (l : Launch) {bd : Nat → Nat} {st wt sm nu po sh up lo : Nat → Int32} {li : Int32} {ro so un to : Nat → Int64} {it : Int32} : Ci D k t l yX4_leastOf wsX4_leastOf ({ frames := 1, cells := 0, slots := 0, locals := 30 }) [.ref (bd 0)] (MWw bd k st wt sm nu po sh up lo li ro so un to it) (fun r w => r = oI (bO sh (-1) 27) ∧ w = MWw bd k st wt sm nu po sh up lo li ro so un to it) 0 0 := by
  refine fw_of (cc := cX4_leastOf) (maxL := 1) (ret := (some .int)) (Qc := fun A => va_Qi (fun r w => r = oI (bO sh (-1) 27) ∧ w = MWw bd k st wt sm nu po sh up lo li ro so un to it) (BcW D A) A) (by decide) rfl (Nat.le_of_ble_eq_true rfl) ?_
  intro p e s m below meth c A ls C hP hD hl
  have C : Cx RX4 "leastOf" cX4_leastOf 1 (some .int) wsX4_leastOf D k t A p s m ([.ref (bd 0)] : List Value).toArray meth c := C
  have hl : lv_has ls 1 [(0, .ref (bd 0))] := hl
  have hx := C.1
  have hb := C.2.1
  have hown := C.2.2.2.2.1
  have hts := C.2.2.2.2.2.1
  have hK := C.2.2.2.2.2.2.2.2.1
  have hZ := C.2.2.2.2.2.2.2.2.2.1
  have hN := C.2.2.2.2.2.2.2.2.2.2
  have hS : va_S A s.heap s.heap [] := va_S.rf
  refine lv_aload_n hx hb dX4_leastOf_0 rfl (lv_at hl 0 rfl) ?_
  refine lv_iconst (v := (-1)) hx hb dX4_leastOf_1 (by decide) ?_
  refine fw_i C hD hS (rn_V (As := [.int (-1)]) (rest := []) C (c_X4_secondOf D k t l (-1) _) (cwV 1 hts gX4_leastOf_X4_secondOf rfl rfl rfl hdX4_secondOfC ⟨Nat.le_of_ble_eq_true rfl, Nat.le_of_ble_eq_true rfl⟩) 0 4 rfl mw_o rfl hP hD hS rfl hl.1 rfl (Nat.le_of_ble_eq_true rfl) dX4_leastOf_2 ⟨Nat.zero_le _, Nat.zero_le _⟩) (fun r1 wr1 H locs h2 hP hD hS => ?_)
  obtain ⟨rfl, rfl⟩ := h2
  exact Ri C hP hD hS (Nat.zero_le _) (Nat.zero_le _) dX4_leastOf_5 (⟨rfl, rfl⟩)

