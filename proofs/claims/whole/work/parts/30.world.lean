def bI (b : Bool) : Int32 := if b then 1 else 0
def f_made (n : Int32) : Int32 := if n ≤ 0 then 0 else 1
set_option maxRecDepth 20000 in
theorem in_X2_isMade_X2 : ∀ w ∈ u_ws RX2 TX2 3, w ∈ wsX2_isMade := by decide +kernel
set_option maxRecDepth 20000 in
theorem lk_X2_isMade_18 : Cond.fieldLink RX2 18 (TX2 2).1 (TX2 2).2.1 (TX2 2).2.2.1 ∈ wsX2_isMade := by decide +kernel
set_option maxHeartbeats 4000000 in
set_option maxRecDepth 100000 in
theorem c_X2_isMade (D : va_G) (k : Nat → ClassId) (t : Nat → Nat) (l : Launch) {ad : Nat → Nat} {N : Nat → Int32} {S Wt L : Nat → Nat → Int32} {T : Nat → Int32} {G : Nat → Nat → Int64} {E : Nat → Int32} {su pa tr sh : Nat → Int32} {pv : Int32} {g : Nat} (hg : g < 4) : Ci D k t l yX2_isMade wsX2_isMade ({ frames := 0, cells := 0, slots := 0, locals := 0 }) [.ref (ad (2 + 3 * g))] (TBw ad k N S Wt L T G E su pa tr sh pv) (fun r w => r = f_made (N g) ∧ w = TBw ad k N S Wt L T G E su pa tr sh pv) 0 0 := by
  refine fw_of (cc := cX2_isMade) (maxL := 1) (ret := (some .boolean)) (Qc := fun A => va_Qi (fun r w => r = f_made (N g) ∧ w = TBw ad k N S Wt L T G E su pa tr sh pv) (BcW D A) A) (by decide) rfl (Nat.le_of_ble_eq_true rfl) ?_
  intro p e s m below meth c A ls C hP hD hl
  have C : Cx RX2 "isMade" cX2_isMade 1 (some .boolean) wsX2_isMade D k t A p s m ([.ref (ad (2 + 3 * g))] : List Value).toArray meth c := C
  have hl : lv_has ls 1 [(0, .ref (ad (2 + 3 * g)))] := hl
  have hx := C.1
  have hb := C.2.1
  have hown := C.2.2.2.2.1
  have hts := C.2.2.2.2.2.1
  have hK := C.2.2.2.2.2.2.2.2.1
  have hZ := C.2.2.2.2.2.2.2.2.2.1
  have hN := C.2.2.2.2.2.2.2.2.2.2
  have hS : va_S A s.heap s.heap [] := va_S.rf
  refine lv_aload_n hx hb dX2_isMade_0 rfl (lv_at hl 0 rfl) ?_
  refine fg C hP (2 + 3 * g) (tb_w hg) (ci := 2) rfl 2 (by decide) in_X2_isMade_X2 lk_X2_isMade_18 (v := .int (N g)) rfl dX2_isMade_1 ?_
  refine lv_if_le (tgt := 11) hx hb dX2_isMade_4 (by decide) (fun c1 => ?_) (fun c1 => ?_)
  · refine lv_iconst (v := nI 0) hx hb dX2_isMade_11 (by decide) ?_
    exact Rz C hP hD hS (Nat.zero_le _) (Nat.zero_le _) rfl dX2_isMade_12 (⟨by simp only [f_made, c1, ↓reduceIte]; rfl, rfl⟩)
  · refine lv_iconst (v := nI 1) hx hb dX2_isMade_7 (by decide) ?_
    refine lv_goto (tgt := 12) hx hb dX2_isMade_8 (by decide) ?_
    exact Rz C hP hD hS (Nat.zero_le _) (Nat.zero_le _) rfl dX2_isMade_12 (⟨by simp only [f_made, c1, ↓reduceIte]; rfl, rfl⟩)

def f_hasS (s : Nat → Int32) (a b c : Int32) : Int32 := if a < 0 then 0 else if s 0 ≤ a then 0 else if b < 0 then 0 else if s 1 ≤ b then 0 else if c < 0 then 0 else if s 2 ≤ c then 0 else 1
set_option maxRecDepth 20000 in
theorem in_X2_hasSetting_X2 : ∀ w ∈ u_ws RX2 TX2 3, w ∈ wsX2_hasSetting := by decide +kernel
set_option maxRecDepth 20000 in
theorem lk_X2_hasSetting_9 : Cond.fieldLink RX2 9 (TX2 0).1 (TX2 0).2.1 (TX2 0).2.2.1 ∈ wsX2_hasSetting := by decide +kernel
set_option maxHeartbeats 4000000 in
set_option maxRecDepth 100000 in
theorem c_X2_hasSetting (D : va_G) (k : Nat → ClassId) (t : Nat → Nat) (l : Launch) {ad : Nat → Nat} {N : Nat → Int32} {S Wt L : Nat → Nat → Int32} {T : Nat → Int32} {G : Nat → Nat → Int64} {E : Nat → Int32} {su pa tr sh : Nat → Int32} {pv : Int32} {g : Nat} (x1 x2 x3 : Int32) (hg : g < 4) : Ci D k t l yX2_hasSetting wsX2_hasSetting ({ frames := 0, cells := 0, slots := 0, locals := 0 }) [.ref (ad (2 + 3 * g)), .int x1, .int x2, .int x3] (TBw ad k N S Wt L T G E su pa tr sh pv) (fun r w => r = f_hasS (S g) x1 x2 x3 ∧ w = TBw ad k N S Wt L T G E su pa tr sh pv) 0 0 := by
  refine fw_of (cc := cX2_hasSetting) (maxL := 4) (ret := (some .boolean)) (Qc := fun A => va_Qi (fun r w => r = f_hasS (S g) x1 x2 x3 ∧ w = TBw ad k N S Wt L T G E su pa tr sh pv) (BcW D A) A) (by decide) rfl (Nat.le_of_ble_eq_true rfl) ?_
  intro p e s m below meth c A ls C hP hD hl
  have C : Cx RX2 "hasSetting" cX2_hasSetting 4 (some .boolean) wsX2_hasSetting D k t A p s m ([.ref (ad (2 + 3 * g)), .int x1, .int x2, .int x3] : List Value).toArray meth c := C
  have hl : lv_has ls 4 [(0, .ref (ad (2 + 3 * g))), (1, .int x1), (2, .int x2), (3, .int x3)] := hl
  have hx := C.1
  have hb := C.2.1
  have hown := C.2.2.2.2.1
  have hts := C.2.2.2.2.2.1
  have hK := C.2.2.2.2.2.2.2.2.1
  have hZ := C.2.2.2.2.2.2.2.2.2.1
  have hN := C.2.2.2.2.2.2.2.2.2.2
  have hS : va_S A s.heap s.heap [] := va_S.rf
  refine lv_iload_n hx hb dX2_hasSetting_0 rfl (lv_at hl 1 rfl) ?_
  refine lv_if_lt (tgt := 46) hx hb dX2_hasSetting_1 (by decide) (fun c1 => ?_) (fun c1 => ?_)
  · refine lv_iconst (v := nI 0) hx hb dX2_hasSetting_46 (by decide) ?_
    exact Rz C hP hD hS (Nat.zero_le _) (Nat.zero_le _) rfl dX2_hasSetting_47 (⟨by simp only [f_hasS, c1, ↓reduceIte]; rfl, rfl⟩)
  · refine lv_iload_n hx hb dX2_hasSetting_4 rfl (lv_at hl 1 rfl) ?_
    refine lv_aload_n hx hb dX2_hasSetting_5 rfl (lv_at hl 0 rfl) ?_
    refine fg C hP (2 + 3 * g) (tb_w hg) (ci := 2) rfl 0 (by decide) in_X2_hasSetting_X2 lk_X2_hasSetting_9 (v := .ref (ad (3 + 3 * g))) rfl dX2_hasSetting_6 ?_
    refine lv_iconst (v := nI 0) hx hb dX2_hasSetting_9 (by decide) ?_
    refine ar_i C hP (3 + 3 * g) (tb_s hg) (j := 0) (by decide) (by decide) dX2_hasSetting_10 ?_
    refine lv_icmp_ge (tgt := 46) hx hb dX2_hasSetting_11 (by decide) (fun c2 => ?_) (fun c2 => ?_)
    · refine lv_iconst (v := nI 0) hx hb dX2_hasSetting_46 (by decide) ?_
      exact Rz C hP hD hS (Nat.zero_le _) (Nat.zero_le _) rfl dX2_hasSetting_47 (⟨by simp only [f_hasS, c1, c2, ↓reduceIte]; rfl, rfl⟩)
    · refine lv_iload_n hx hb dX2_hasSetting_14 rfl (lv_at hl 2 rfl) ?_
      refine lv_if_lt (tgt := 46) hx hb dX2_hasSetting_15 (by decide) (fun c3 => ?_) (fun c3 => ?_)
      · refine lv_iconst (v := nI 0) hx hb dX2_hasSetting_46 (by decide) ?_
        exact Rz C hP hD hS (Nat.zero_le _) (Nat.zero_le _) rfl dX2_hasSetting_47 (⟨by simp only [f_hasS, c1, c2, c3, ↓reduceIte]; rfl, rfl⟩)
      · refine lv_iload_n hx hb dX2_hasSetting_18 rfl (lv_at hl 2 rfl) ?_
        refine lv_aload_n hx hb dX2_hasSetting_19 rfl (lv_at hl 0 rfl) ?_
        refine fg C hP (2 + 3 * g) (tb_w hg) (ci := 2) rfl 0 (by decide) in_X2_hasSetting_X2 lk_X2_hasSetting_9 (v := .ref (ad (3 + 3 * g))) rfl dX2_hasSetting_20 ?_
        refine lv_iconst (v := nI 1) hx hb dX2_hasSetting_23 (by decide) ?_
        refine ar_i C hP (3 + 3 * g) (tb_s hg) (j := 1) (by decide) (by decide) dX2_hasSetting_24 ?_
        refine lv_icmp_ge (tgt := 46) hx hb dX2_hasSetting_25 (by decide) (fun c4 => ?_) (fun c4 => ?_)
        · refine lv_iconst (v := nI 0) hx hb dX2_hasSetting_46 (by decide) ?_
          exact Rz C hP hD hS (Nat.zero_le _) (Nat.zero_le _) rfl dX2_hasSetting_47 (⟨by simp only [f_hasS, c1, c2, c3, c4, ↓reduceIte]; rfl, rfl⟩)
        · refine lv_iload_n hx hb dX2_hasSetting_28 rfl (lv_at hl 3 rfl) ?_
          refine lv_if_lt (tgt := 46) hx hb dX2_hasSetting_29 (by decide) (fun c5 => ?_) (fun c5 => ?_)
          · refine lv_iconst (v := nI 0) hx hb dX2_hasSetting_46 (by decide) ?_
            exact Rz C hP hD hS (Nat.zero_le _) (Nat.zero_le _) rfl dX2_hasSetting_47 (⟨by simp only [f_hasS, c1, c2, c3, c4, c5, ↓reduceIte]; rfl, rfl⟩)
          · refine lv_iload_n hx hb dX2_hasSetting_32 rfl (lv_at hl 3 rfl) ?_
            refine lv_aload_n hx hb dX2_hasSetting_33 rfl (lv_at hl 0 rfl) ?_
            refine fg C hP (2 + 3 * g) (tb_w hg) (ci := 2) rfl 0 (by decide) in_X2_hasSetting_X2 lk_X2_hasSetting_9 (v := .ref (ad (3 + 3 * g))) rfl dX2_hasSetting_34 ?_
            refine lv_iconst (v := nI 2) hx hb dX2_hasSetting_37 (by decide) ?_
            refine ar_i C hP (3 + 3 * g) (tb_s hg) (j := 2) (by decide) (by decide) dX2_hasSetting_38 ?_
            refine lv_icmp_ge (tgt := 46) hx hb dX2_hasSetting_39 (by decide) (fun c6 => ?_) (fun c6 => ?_)
            · refine lv_iconst (v := nI 0) hx hb dX2_hasSetting_46 (by decide) ?_
              exact Rz C hP hD hS (Nat.zero_le _) (Nat.zero_le _) rfl dX2_hasSetting_47 (⟨by simp only [f_hasS, c1, c2, c3, c4, c5, c6, ↓reduceIte]; rfl, rfl⟩)
            · refine lv_iconst (v := nI 1) hx hb dX2_hasSetting_42 (by decide) ?_
              refine lv_goto (tgt := 47) hx hb dX2_hasSetting_43 (by decide) ?_
              exact Rz C hP hD hS (Nat.zero_le _) (Nat.zero_le _) rfl dX2_hasSetting_47 (⟨by simp only [f_hasS, c1, c2, c3, c4, c5, c6, ↓reduceIte]; rfl, rfl⟩)

