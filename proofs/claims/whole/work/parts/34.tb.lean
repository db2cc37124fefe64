noncomputable def f_told (n : Int32) (s v : Nat → Int32) (x : Int32) : Int32 := if x = 0 then pb (¬ n ≤ 0) else if x < nI 1 then (if x = nI 4 then n else if x < nI 10 then -1 else f_wofx s v (x - nI 10)) else if nI 3 < x then (if x = nI 4 then n else if x < nI 10 then -1 else f_wofx s v (x - nI 10)) else s (x.toNatClampNeg - 1)
set_option maxRecDepth 20000 in
theorem in_X3_told_X3 : ∀ w ∈ u_ws RX3 TX3 8, w ∈ wsX3_told := by decide +kernel
set_option maxRecDepth 20000 in
theorem lk_X3_told_11 : Cond.fieldLink RX3 11 (TX3 0).1 (TX3 0).2.1 (TX3 0).2.2.1 ∈ wsX3_told := by decide +kernel
set_option maxRecDepth 20000 in
theorem in_X3_told_X2 : ∀ w ∈ u_ws RX2 TX2 3, w ∈ wsX3_told := by decide +kernel
set_option maxHeartbeats 4000000 in
set_option maxRecDepth 100000 in
theorem c_X3_told (D : va_G) (k : Nat → ClassId) (t : Nat → Nat) (l : Launch) {ad : Nat → Nat} {N : Nat → Int32} {S Wt L : Nat → Nat → Int32} {T : Nat → Int32} {G : Nat → Nat → Int64} {E : Nat → Int32} {su pa tr sh : Nat → Int32} {pv : Int32} (x1 x2 : Int32) : Ci D k t l yX3_told wsX3_told ({ frames := 2, cells := 0, slots := 0, locals := 60 }) [.ref (ad 0), .int x1, .int x2] (TBw ad k N S Wt L T G E su pa tr sh pv) (fun r w => (∃ g : Nat, (g < 4 ∧ x1 = nI g) ∧ r = f_told (N g) (S g) (Wt g) x2 ∧ w = TBw ad k N S Wt L T G E su pa tr sh pv) ∨ ((∀ g : Nat, ¬ (g < 4 ∧ x1 = nI g)) ∧ r = -1 ∧ w = TBw ad k N S Wt L T G E su pa tr sh pv)) 0 0 := by
  refine fw_of (cc := cX3_told) (maxL := 4) (ret := (some .int)) (Qc := fun A => va_Qi (fun r w => (∃ g : Nat, (g < 4 ∧ x1 = nI g) ∧ r = f_told (N g) (S g) (Wt g) x2 ∧ w = TBw ad k N S Wt L T G E su pa tr sh pv) ∨ ((∀ g : Nat, ¬ (g < 4 ∧ x1 = nI g)) ∧ r = -1 ∧ w = TBw ad k N S Wt L T G E su pa tr sh pv)) (BcW D A) A) (by decide) rfl (Nat.le_of_ble_eq_true rfl) ?_
  intro p e s m below meth c A ls C hP hD hl
  have C : Cx RX3 "told" cX3_told 4 (some .int) wsX3_told D k t A p s m ([.ref (ad 0), .int x1, .int x2] : List Value).toArray meth c := C
  have hl : lv_has ls 4 [(0, .ref (ad 0)), (1, .int x1), (2, .int x2)] := hl
  have hx := C.1
  have hb := C.2.1
  have hown := C.2.2.2.2.1
  have hts := C.2.2.2.2.2.1
  have hK := C.2.2.2.2.2.2.2.2.1
  have hZ := C.2.2.2.2.2.2.2.2.2.1
  have hN := C.2.2.2.2.2.2.2.2.2.2
  have hS : va_S A s.heap s.heap [] := va_S.rf
  refine lv_iload_n hx hb dX3_told_0 rfl (lv_at hl 1 rfl) ?_
  refine fw_i C hD hS (rn_S (As := [.int x1]) (rest := []) C (c_X3_isPlace D k t l x1 _) (va_cwS 1 hts gX3_told_X3_isPlace rfl rfl rfl hdX3_isPlace ⟨Nat.le_of_ble_eq_true rfl, Nat.le_of_ble_eq_true rfl⟩) hP hD hS rfl hl.1 rfl (Nat.le_of_ble_eq_true rfl) dX3_told_1 ⟨Nat.zero_le _, Nat.zero_le _⟩) (fun r1 wr1 H locs h2 hP hD hS => ?_)
  obtain ⟨rfl, rfl⟩ := h2
  refine lv_if_ne (tgt := 9) hx hb dX3_told_4 (by decide) (fun c3 => ?_) (fun c3 => ?_)
  · have c3 := pb_nz c3
    obtain ⟨g, h0g, hg, rfl⟩ := id c3
    refine lv_aload_n hx hb dX3_told_9 rfl (lv_at hl 0 rfl) ?_
    refine fg C hP 0 tb_o (ci := 3) rfl 0 (by decide) in_X3_told_X3 lk_X3_told_11 (v := .ref (ad 1)) rfl dX3_told_10 ?_
    refine lv_iload_n hx hb dX3_told_13 rfl (lv_at hl 1 rfl) ?_
    refine ar_q C hP 1 tb_ws (j := g) (v := .ref (ad (2 + 3 * g))) rfl (by omega) (by decide) dX3_told_14 ?_
    refine lv_astore_n (lv' := [(3, .ref (ad (2 + 3 * g))), (0, .ref (ad 0)), (1, .int (nI g)), (2, .int x2)]) hx hb dX3_told_15 rfl hl (by decide) rfl (fun ls hl => ?_)
    refine lv_iload_n hx hb dX3_told_16 rfl (lv_at hl 3 rfl) ?_
    refine lv_if_ne (tgt := 33) hx hb dX3_told_17 (by decide) (fun c4 => ?_) (fun c4 => ?_)
    · refine lv_iload_n hx hb dX3_told_33 rfl (lv_at hl 3 rfl) ?_
      refine lv_iconst (v := nI 1) hx hb dX3_told_34 (by decide) ?_
      refine lv_icmp_lt (tgt := 52) hx hb dX3_told_35 (by decide) (fun c5 => ?_) (fun c5 => ?_)
      · refine lv_iload_n hx hb dX3_told_52 rfl (lv_at hl 3 rfl) ?_
        refine lv_iconst (v := nI 4) hx hb dX3_told_53 (by decide) ?_
        refine lv_icmp_ne (tgt := 62) hx hb dX3_told_54 (by decide) (fun c6 => ?_) (fun c6 => ?_)
        · refine lv_iload_n hx hb dX3_told_62 rfl (lv_at hl 3 rfl) ?_
          refine lv_bipush (v := nI 10) hx hb dX3_told_63 (by decide) ?_
          refine lv_icmp_lt (tgt := 79) hx hb dX3_told_65 (by decide) (fun c7 => ?_) (fun c7 => ?_)
          · refine lv_iconst (v := (-1)) hx hb dX3_told_79 (by decide) ?_
            exact Ri C hP hD hS (Nat.zero_le _) (Nat.zero_le _) dX3_told_80 (Or.inl ⟨g, ⟨hg, rfl⟩, by rw [f_told, if_neg c4, if_pos c5, if_neg c6, if_pos c7], rfl⟩)
          · refine lv_aload_n hx hb dX3_told_68 rfl (lv_at hl 0 rfl) ?_
            refine lv_iload_n hx hb dX3_told_69 rfl (lv_at hl 3 rfl) ?_
            refine lv_bipush (v := nI 10) hx hb dX3_told_70 (by decide) ?_
            refine lv_isub hx hb dX3_told_72 ?_
            refine fw_i C hD hS (rn_VN (As := [.int (x2 - (nI 10))]) (rest := []) (host := RX3) (C2 := RX2) C (c_X2_weightOf D k t l (x2 - (nI 10)) hg _) (va_cnB 1 hts gX3_told_X2_weightOf_n79 rfl rfl rfl (hN.1 (RX3, 79, yX2_weightOf) (List.mem_of_getElem? (i := 7) rfl)) (hts (.initialized RX2) (by decide +kernel)) hdX2_weightOf ⟨Nat.le_of_ble_eq_true rfl, Nat.le_of_ble_eq_true rfl⟩) (hts (.instanceMethod yX2_weightOf) (by decide +kernel)) (hts (.selects RX2 yX2_weightOf yX2_weightOf) (by decide +kernel)) (2 + 3 * g) 2 rfl (tb_w hg) rfl hP hD hS rfl hl.1 rfl (Nat.le_of_ble_eq_true rfl) dX3_told_73 ⟨Nat.zero_le _, Nat.zero_le _⟩) (fun r8 wr8 H locs h9 hP hD hS => ?_)
            obtain ⟨rfl, rfl⟩ := h9
            refine lv_goto (tgt := 80) hx hb dX3_told_76 (by decide) ?_
            exact Ri C hP hD hS (Nat.zero_le _) (Nat.zero_le _) dX3_told_80 (Or.inl ⟨g, ⟨hg, rfl⟩, by rw [f_told, if_neg c4, if_pos c5, if_neg c6, if_neg c7], rfl⟩)
        · refine lv_aload_n hx hb dX3_told_57 rfl (lv_at hl 0 rfl) ?_
          refine fg_N C hP (2 + 3 * g) (tb_w hg) (ci := 2) rfl 2 (by decide) in_X3_told_X2 (hN.2 (RX3, 75, RX2, "total", "I") (List.mem_of_getElem? (i := 2) rfl)) (v := .int (N g)) rfl dX3_told_58 ?_
          exact Ri C hP hD hS (Nat.zero_le _) (Nat.zero_le _) dX3_told_61 (Or.inl ⟨g, ⟨hg, rfl⟩, by rw [f_told, if_neg c4, if_pos c5, if_pos c6], rfl⟩)
      · refine lv_iload_n hx hb dX3_told_38 rfl (lv_at hl 3 rfl) ?_
        refine lv_iconst (v := nI 3) hx hb dX3_told_39 (by decide) ?_
        refine lv_icmp_gt (tgt := 52) hx hb dX3_told_40 (by decide) (fun c10 => ?_) (fun c10 => ?_)
        · refine lv_iload_n hx hb dX3_told_52 rfl (lv_at hl 3 rfl) ?_
          refine lv_iconst (v := nI 4) hx hb dX3_told_53 (by decide) ?_
          refine lv_icmp_ne (tgt := 62) hx hb dX3_told_54 (by decide) (fun c11 => ?_) (fun c11 => ?_)
          · refine lv_iload_n hx hb dX3_told_62 rfl (lv_at hl 3 rfl) ?_
            refine lv_bipush (v := nI 10) hx hb dX3_told_63 (by decide) ?_
            refine lv_icmp_lt (tgt := 79) hx hb dX3_told_65 (by decide) (fun c12 => ?_) (fun c12 => ?_)
            · refine lv_iconst (v := (-1)) hx hb dX3_told_79 (by decide) ?_
              exact Ri C hP hD hS (Nat.zero_le _) (Nat.zero_le _) dX3_told_80 (Or.inl ⟨g, ⟨hg, rfl⟩, by rw [f_told, if_neg c4, if_neg c5, if_pos c10, if_neg c11, if_pos c12], rfl⟩)
            · refine lv_aload_n hx hb dX3_told_68 rfl (lv_at hl 0 rfl) ?_
              refine lv_iload_n hx hb dX3_told_69 rfl (lv_at hl 3 rfl) ?_
              refine lv_bipush (v := nI 10) hx hb dX3_told_70 (by decide) ?_
              refine lv_isub hx hb dX3_told_72 ?_
              refine fw_i C hD hS (rn_VN (As := [.int (x2 - (nI 10))]) (rest := []) (host := RX3) (C2 := RX2) C (c_X2_weightOf D k t l (x2 - (nI 10)) hg _) (va_cnB 1 hts gX3_told_X2_weightOf_n79 rfl rfl rfl (hN.1 (RX3, 79, yX2_weightOf) (List.mem_of_getElem? (i := 7) rfl)) (hts (.initialized RX2) (by decide +kernel)) hdX2_weightOf ⟨Nat.le_of_ble_eq_true rfl, Nat.le_of_ble_eq_true rfl⟩) (hts (.instanceMethod yX2_weightOf) (by decide +kernel)) (hts (.selects RX2 yX2_weightOf yX2_weightOf) (by decide +kernel)) (2 + 3 * g) 2 rfl (tb_w hg) rfl hP hD hS rfl hl.1 rfl (Nat.le_of_ble_eq_true rfl) dX3_told_73 ⟨Nat.zero_le _, Nat.zero_le _⟩) (fun r13 wr13 H locs h14 hP hD hS => ?_)
              obtain ⟨rfl, rfl⟩ := h14
              refine lv_goto (tgt := 80) hx hb dX3_told_76 (by decide) ?_
              exact Ri C hP hD hS (Nat.zero_le _) (Nat.zero_le _) dX3_told_80 (Or.inl ⟨g, ⟨hg, rfl⟩, by rw [f_told, if_neg c4, if_neg c5, if_pos c10, if_neg c11, if_neg c12], rfl⟩)
          · refine lv_aload_n hx hb dX3_told_57 rfl (lv_at hl 0 rfl) ?_
            refine fg_N C hP (2 + 3 * g) (tb_w hg) (ci := 2) rfl 2 (by decide) in_X3_told_X2 (hN.2 (RX3, 75, RX2, "total", "I") (List.mem_of_getElem? (i := 2) rfl)) (v := .int (N g)) rfl dX3_told_58 ?_
            exact Ri C hP hD hS (Nat.zero_le _) (Nat.zero_le _) dX3_told_61 (Or.inl ⟨g, ⟨hg, rfl⟩, by rw [f_told, if_neg c4, if_neg c5, if_pos c10, if_pos c11], rfl⟩)
        · obtain ⟨z, hz0, hz, rfl⟩ := rg_in' (by decide) (by decide) c5 c10
          refine lv_aload_n hx hb dX3_told_43 rfl (lv_at hl 0 rfl) ?_
          refine fg_N C hP (2 + 3 * g) (tb_w hg) (ci := 2) rfl 0 (by decide) in_X3_told_X2 (hN.2 (RX3, 72, RX2, "states", "[I") (List.mem_of_getElem? (i := 1) rfl)) (v := .ref (ad (3 + 3 * g))) rfl dX3_told_44 ?_
          refine lv_iload_n hx hb dX3_told_47 rfl (lv_at hl 3 rfl) ?_
          refine lv_iconst (v := nI 1) hx hb dX3_told_48 (by decide) ?_
          refine lv_isub hx hb dX3_told_49 ?_
          refine tp_i (y := nI (z - 1)) (pk_sub (by omega)) ?_
          refine ar_i C hP (3 + 3 * g) (tb_s hg) (j := (z - 1)) (by omega) (by decide) dX3_told_50 ?_
          exact Ri C hP hD hS (Nat.zero_le _) (Nat.zero_le _) dX3_told_51 (Or.inl ⟨g, ⟨hg, rfl⟩, by rw [f_told, if_neg c4, if_neg c5, if_neg c10]; rw [nI_clamp (show z < 2 ^ 31 by omega)], rfl⟩)
    · refine lv_aload_n hx hb dX3_told_20 rfl (lv_at hl 0 rfl) ?_
      refine fw_i C hD hS (rn_VN (As := []) (rest := []) (host := RX3) (C2 := RX2) C (c_isMadeP D k t l hg _) (va_cnB 0 hts gX3_told_X2_isMade_n68 rfl rfl rfl (hN.1 (RX3, 68, yX2_isMade) (List.mem_of_getElem? (i := 6) rfl)) (hts (.initialized RX2) (by decide +kernel)) hdX2_isMade ⟨Nat.le_of_ble_eq_true rfl, Nat.le_of_ble_eq_true rfl⟩) (hts (.instanceMethod yX2_isMade) (by decide +kernel)) (hts (.selects RX2 yX2_isMade yX2_isMade) (by decide +kernel)) (2 + 3 * g) 2 rfl (tb_w hg) rfl hP hD hS rfl hl.1 rfl (Nat.le_of_ble_eq_true rfl) dX3_told_21 ⟨Nat.zero_le _, Nat.zero_le _⟩) (fun r15 wr15 H locs h16 hP hD hS => ?_)
      obtain ⟨rfl, rfl⟩ := h16
      refine lv_if_eq (tgt := 31) hx hb dX3_told_24 (by decide) (fun c17 => ?_) (fun c17 => ?_)
      · have c17 := pb_z c17
        refine lv_iconst (v := nI 0) hx hb dX3_told_31 (by decide) ?_
        exact Ri C hP hD hS (Nat.zero_le _) (Nat.zero_le _) dX3_told_32 (Or.inl ⟨g, ⟨hg, rfl⟩, by rw [f_told, if_pos c4]; exact (pb_f c17).symm, rfl⟩)
      · have c17 := pb_nz c17
        refine lv_iconst (v := nI 1) hx hb dX3_told_27 (by decide) ?_
        refine lv_goto (tgt := 32) hx hb dX3_told_28 (by decide) ?_
        exact Ri C hP hD hS (Nat.zero_le _) (Nat.zero_le _) dX3_told_32 (Or.inl ⟨g, ⟨hg, rfl⟩, by rw [f_told, if_pos c4]; exact (pb_t c17).symm, rfl⟩)
  · have c3 := pb_z c3
    refine lv_iconst (v := (-1)) hx hb dX3_told_7 (by decide) ?_
    exact Ri C hP hD hS (Nat.zero_le _) (Nat.zero_le _) dX3_told_8 (Or.inr ⟨fun g z => c3 ⟨g, Nat.zero_le _, z.1, z.2⟩, rfl, rfl⟩)

def mx (a b : Nat → Int32) (i : Nat) : Nat → Int32 := fun j => if j < i then a j else b j
theorem mx_s (a b : Nat → Int32) (i : Nat) : upd (mx a b i) i (a i) = mx a b (i + 1) := by
  funext j
  by_cases h : j = i
  · subst h; simp [upd, mx]
  · have : (j < i + 1) = (j < i) := by simp; omega
    simp [upd, mx, h, this]
theorem mx_0 (S : Nat → Nat → Int32) (a : Nat → Int32) (g : Nat) : va_up S g (mx a (S g) 0) = S := by
  funext x j
  by_cases h : x = g
  · subst h; simp [va_up, mx]
  · simp [va_up, h]
theorem mx_at (S : Nat → Nat → Int32) (a : Nat → Int32) (f g i : Nat) : va_up S g (mx a (S g) i) f i = S f i := by
  by_cases h : f = g
  · subst h; simp [va_up, mx]
  · simp [va_up, h]
set_option maxRecDepth 20000 in
theorem in_X2_becomeMixOf_X2 : ∀ w ∈ u_ws RX2 TX2 3, w ∈ wsX2_becomeMixOf := by decide +kernel
set_option maxRecDepth 20000 in
theorem lk_X2_becomeMixOf_18 : Cond.fieldLink RX2 18 (TX2 2).1 (TX2 2).2.1 (TX2 2).2.2.1 ∈ wsX2_becomeMixOf := by decide +kernel
set_option maxRecDepth 20000 in
theorem lk_X2_becomeMixOf_15 : Cond.fieldLink RX2 15 (TX2 1).1 (TX2 1).2.1 (TX2 1).2.2.1 ∈ wsX2_becomeMixOf := by decide +kernel
set_option maxRecDepth 20000 in
theorem lk_X2_becomeMixOf_9 : Cond.fieldLink RX2 9 (TX2 0).1 (TX2 0).2.1 (TX2 0).2.2.1 ∈ wsX2_becomeMixOf := by decide +kernel
set_option maxHeartbeats 4000000 in
set_option maxRecDepth 100000 in
theorem c_X2_becomeMixOf (D : va_G) (k : Nat → ClassId) (t : Nat → Nat) (l : Launch) {ad : Nat → Nat} {N : Nat → Int32} {S Wt L : Nat → Nat → Int32} {T : Nat → Int32} {G : Nat → Nat → Int64} {E : Nat → Int32} {su pa tr sh : Nat → Int32} {pv : Int32} {g f h : Nat} (hg : g < 4) (hf : f < 4) (hh : h < 4) : Cv D k t l yX2_becomeMixOf wsX2_becomeMixOf ({ frames := 0, cells := 0, slots := 0, locals := 0 }) [.ref (ad (2 + 3 * g)), .ref (ad (2 + 3 * f)), .ref (ad (2 + 3 * h))] (TBw ad k N S Wt L T G E su pa tr sh pv) (fun w => w = TBw ad k (upd N g (N f + N h)) (va_up S g (S f)) (va_up Wt g (fun j => Wt f j + Wt h j)) L T G E su pa tr sh pv) 0 0 := by
  refine fw_of (cc := cX2_becomeMixOf) (maxL := 5) (ret := none) (Qc := fun A => va_Qv (fun w => w = TBw ad k (upd N g (N f + N h)) (va_up S g (S f)) (va_up Wt g (fun j => Wt f j + Wt h j)) L T G E su pa tr sh pv) (BcW D A) A) (by decide) rfl (Nat.le_of_ble_eq_true rfl) ?_
  intro p e s m below meth c A ls C hP hD hl
  have C : Cx RX2 "becomeMixOf" cX2_becomeMixOf 5 none wsX2_becomeMixOf D k t A p s m ([.ref (ad (2 + 3 * g)), .ref (ad (2 + 3 * f)), .ref (ad (2 + 3 * h))] : List Value).toArray meth c := C
  have hl : lv_has ls 5 [(0, .ref (ad (2 + 3 * g))), (1, .ref (ad (2 + 3 * f))), (2, .ref (ad (2 + 3 * h)))] := hl
  have hx := C.1
  have hb := C.2.1
  have hown := C.2.2.2.2.1
  have hts := C.2.2.2.2.2.1
  have hK := C.2.2.2.2.2.2.2.2.1
  have hZ := C.2.2.2.2.2.2.2.2.2.1
  have hN := C.2.2.2.2.2.2.2.2.2.2
  have hS : va_S A s.heap s.heap [] := va_S.rf
  refine lv_aload_n hx hb dX2_becomeMixOf_0 rfl (lv_at hl 1 rfl) ?_
  refine fg C hP (2 + 3 * f) (tb_w hf) (ci := 2) rfl 2 (by decide) in_X2_becomeMixOf_X2 lk_X2_becomeMixOf_18 (v := .int (N f)) rfl dX2_becomeMixOf_1 ?_
  refine lv_aload_n hx hb dX2_becomeMixOf_4 rfl (lv_at hl 2 rfl) ?_
  refine fg C hP (2 + 3 * h) (tb_w hh) (ci := 2) rfl 2 (by decide) in_X2_becomeMixOf_X2 lk_X2_becomeMixOf_18 (v := .int (N h)) rfl dX2_becomeMixOf_5 ?_
  refine lv_iadd hx hb dX2_becomeMixOf_8 ?_
  refine lv_istore_n (lv' := [(3, .int ((N f) + (N h))), (0, .ref (ad (2 + 3 * g))), (1, .ref (ad (2 + 3 * f))), (2, .ref (ad (2 + 3 * h)))]) hx hb dX2_becomeMixOf_9 rfl hl (by decide) rfl (fun ls hl => ?_)
  refine lv_iconst (v := nI 0) hx hb dX2_becomeMixOf_10 (by decide) ?_
  refine lv_istore (lv' := [(4, .int (nI 0)), (3, .int ((N f) + (N h))), (0, .ref (ad (2 + 3 * g))), (1, .ref (ad (2 + 3 * f))), (2, .ref (ad (2 + 3 * h)))]) hx hb dX2_becomeMixOf_11 hl (by decide) rfl (fun ls hl => ?_)
  have L1 : ∀ (r i : Nat), i + r = 3 → ∀ (H : Heap) (locs : List Loc) (ls : Array Slot), va_P D vwCl (TBw ad k N (va_up S g (mx (S f) (S g) i)) Wt L T G E su pa tr sh pv) H → va_D A (TBw ad k N (va_up S g (mx (S f) (S g) i)) Wt L T G E su pa tr sh pv) → va_S A s.heap H locs → lv_has ls 5 [(0, .ref (ad (2 + 3 * g))), (1, .ref (ad (2 + 3 * f))), (2, .ref (ad (2 + 3 * h))), (3, .int (N f + N h)), (4, .int (nI i))] → W p l e ({ frames := 0, cells := 0, slots := 0, locals := 0 }) s m ([.ref (ad (2 + 3 * g)), .ref (ad (2 + 3 * f)), .ref (ad (2 + 3 * h))] : List Value).toArray below meth c H locs 0 0 (MQ below (va_Qv (fun w => w = TBw ad k (upd N g (N f + N h)) (va_up S g (S f)) (va_up Wt g (fun j => Wt f j + Wt h j)) L T G E su pa tr sh pv) (BcW D A) A) ([.ref (ad (2 + 3 * g)), .ref (ad (2 + 3 * f)), .ref (ad (2 + 3 * h))] : List Value).toArray s 0 0 A) (F0 m 13 ls []) := by
    intro r
    induction r with
    | zero =>
      intro i hr H locs ls hP hD hS hl
      obtain rfl : 3 = i := by omega
      refine lv_iload hx hb dX2_becomeMixOf_13 (lv_at hl 4 rfl) ?_
      refine lv_iconst (v := nI 3) hx hb dX2_becomeMixOf_15 (by decide) ?_
      refine lv_icmp_ge (tgt := 39) hx hb dX2_becomeMixOf_16 (by decide) (fun c2 => ?_) (fun c2 => absurd (nI_le (by omega) (by decide)) c2)
      obtain ⟨hP, hD⟩ := cg_i hP hD (tb_s2 hg) (g := S f) (fun j hj => if_pos hj) (tb_s2_st hg _)
      refine lv_iconst (v := nI 0) hx hb dX2_becomeMixOf_39 (by decide) ?_
      refine lv_istore (lv' := [(4, .int (nI 0)), (0, .ref (ad (2 + 3 * g))), (1, .ref (ad (2 + 3 * f))), (2, .ref (ad (2 + 3 * h))), (3, .int (N f + N h))]) hx hb dX2_becomeMixOf_40 hl (by decide) rfl (fun ls hl => ?_)
      have L3 : ∀ (r i : Nat), i + r = 27 → ∀ (H : Heap) (locs : List Loc) (ls : Array Slot), va_P D vwCl (TBw ad k N (va_up S g (S f)) (va_up Wt g (mx (fun j => Wt f j + Wt h j) (Wt g) i)) L T G E su pa tr sh pv) H → va_D A (TBw ad k N (va_up S g (S f)) (va_up Wt g (mx (fun j => Wt f j + Wt h j) (Wt g) i)) L T G E su pa tr sh pv) → va_S A s.heap H locs → lv_has ls 5 [(0, .ref (ad (2 + 3 * g))), (1, .ref (ad (2 + 3 * f))), (2, .ref (ad (2 + 3 * h))), (3, .int (N f + N h)), (4, .int (nI i))] → W p l e ({ frames := 0, cells := 0, slots := 0, locals := 0 }) s m ([.ref (ad (2 + 3 * g)), .ref (ad (2 + 3 * f)), .ref (ad (2 + 3 * h))] : List Value).toArray below meth c H locs 0 0 (MQ below (va_Qv (fun w => w = TBw ad k (upd N g (N f + N h)) (va_up S g (S f)) (va_up Wt g (fun j => Wt f j + Wt h j)) L T G E su pa tr sh pv) (BcW D A) A) ([.ref (ad (2 + 3 * g)), .ref (ad (2 + 3 * f)), .ref (ad (2 + 3 * h))] : List Value).toArray s 0 0 A) (F0 m 42 ls []) := by
        intro r
        induction r with
        | zero =>
          intro i hr H locs ls hP hD hS hl
          obtain rfl : 27 = i := by omega
          refine lv_iload hx hb dX2_becomeMixOf_42 (lv_at hl 4 rfl) ?_
          refine lv_bipush (v := nI 27) hx hb dX2_becomeMixOf_44 (by decide) ?_
          refine lv_icmp_ge (tgt := 77) hx hb dX2_becomeMixOf_46 (by decide) (fun c4 => ?_) (fun c4 => absurd (nI_le (by omega) (by decide)) c4)
          obtain ⟨hP, hD⟩ := cg_i hP hD (tb_v2 hg) (g := fun j => Wt f j + Wt h j) (fun j hj => if_pos hj) (tb_v2_st hg _)
          refine lv_aload_n hx hb dX2_becomeMixOf_77 rfl (lv_at hl 0 rfl) ?_
          refine lv_iload_n hx hb dX2_becomeMixOf_78 rfl (lv_at hl 3 rfl) ?_
          refine fp C hP hD hS tyX2_ok nmX2 (2 + 3 * g) (tb_w hg) (ci := 2) rfl 2 (by decide) in_X2_becomeMixOf_X2 lk_X2_becomeMixOf_18 rfl (ty := .int) (v := .int (N f + N h)) (by decide +kernel) rfl rfl (Nat.le_of_ble_eq_true rfl) (tb_w_st hg _) dX2_becomeMixOf_79 (fun H locs hP hD hS => ?_)
          exact Rv C hP hD hS (Nat.zero_le _) (Nat.zero_le _) dX2_becomeMixOf_82 rfl
        | succ r ihL3 =>
          intro i hr H locs ls hP hD hS hl
          refine lv_iload hx hb dX2_becomeMixOf_42 (lv_at hl 4 rfl) ?_
          refine lv_bipush (v := nI 27) hx hb dX2_becomeMixOf_44 (by decide) ?_
          refine lv_icmp_ge (tgt := 77) hx hb dX2_becomeMixOf_46 (by decide) (fun c5 => absurd c5 (nI_ge (by omega) (by decide))) (fun c5 => ?_)
          refine lv_aload_n hx hb dX2_becomeMixOf_49 rfl (lv_at hl 0 rfl) ?_
          refine fg C hP (2 + 3 * g) (tb_w hg) (ci := 2) rfl 1 (by decide) in_X2_becomeMixOf_X2 lk_X2_becomeMixOf_15 (v := .ref (ad (4 + 3 * g))) rfl dX2_becomeMixOf_50 ?_
          refine lv_iload hx hb dX2_becomeMixOf_53 (lv_at hl 4 rfl) ?_
          refine lv_aload_n hx hb dX2_becomeMixOf_55 rfl (lv_at hl 1 rfl) ?_
          refine fg C hP (2 + 3 * f) (tb_w hf) (ci := 2) rfl 1 (by decide) in_X2_becomeMixOf_X2 lk_X2_becomeMixOf_15 (v := .ref (ad (4 + 3 * f))) rfl dX2_becomeMixOf_56 ?_
          refine lv_iload hx hb dX2_becomeMixOf_59 (lv_at hl 4 rfl) ?_
          refine ar_i C hP (4 + 3 * f) (tb_v hf) (j := i) (by omega) (by decide) dX2_becomeMixOf_61 ?_
          refine tp_i (y := Wt f i) (mx_at _ _ _ _ _) ?_
          refine lv_aload_n hx hb dX2_becomeMixOf_62 rfl (lv_at hl 2 rfl) ?_
          refine fg C hP (2 + 3 * h) (tb_w hh) (ci := 2) rfl 1 (by decide) in_X2_becomeMixOf_X2 lk_X2_becomeMixOf_15 (v := .ref (ad (4 + 3 * h))) rfl dX2_becomeMixOf_63 ?_
          refine lv_iload hx hb dX2_becomeMixOf_66 (lv_at hl 4 rfl) ?_
          refine ar_i C hP (4 + 3 * h) (tb_v hh) (j := i) (by omega) (by decide) dX2_becomeMixOf_68 ?_
          refine tp_i (y := Wt h i) (mx_at _ _ _ _ _) ?_
          refine lv_iadd hx hb dX2_becomeMixOf_69 ?_
          refine as_i C hP hD hS (4 + 3 * g) (tb_v2 hg) (j := i) (by omega) (by decide) (tb_v2_st hg _) dX2_becomeMixOf_70 (fun H locs hP hD hS => ?_)
          refine lv_iinc (v := nI (i + 1)) (lv' := [(4, .int (nI (i + 1))), (0, .ref (ad (2 + 3 * g))), (1, .ref (ad (2 + 3 * f))), (2, .ref (ad (2 + 3 * h))), (3, .int (N f + N h))]) hx hb dX2_becomeMixOf_71 hl (k := 4) rfl (by rw [← nI_add i 1]; rfl) (by decide) rfl (fun ls hl => ?_)
          refine lv_goto (tgt := 42) hx hb dX2_becomeMixOf_74 (by decide) ?_
          rw [mx_s (fun j => Wt f j + Wt h j)] at hP hD
          exact ihL3 (i + 1) (by omega) _ _ _ hP hD hS (lv_sub hl [1, 2, 3, 4, 0] rfl)
      rw [← mx_0 Wt (fun j => Wt f j + Wt h j) g] at hP hD
      exact L3 (27 - 0) 0 (by omega) _ _ _ hP hD hS (lv_sub hl [1, 2, 3, 4, 0] rfl)
    | succ r ihL1 =>
      intro i hr H locs ls hP hD hS hl
      refine lv_iload hx hb dX2_becomeMixOf_13 (lv_at hl 4 rfl) ?_
      refine lv_iconst (v := nI 3) hx hb dX2_becomeMixOf_15 (by decide) ?_
      refine lv_icmp_ge (tgt := 39) hx hb dX2_becomeMixOf_16 (by decide) (fun c6 => absurd c6 (nI_ge (by omega) (by decide))) (fun c6 => ?_)
      refine lv_aload_n hx hb dX2_becomeMixOf_19 rfl (lv_at hl 0 rfl) ?_
      refine fg C hP (2 + 3 * g) (tb_w hg) (ci := 2) rfl 0 (by decide) in_X2_becomeMixOf_X2 lk_X2_becomeMixOf_9 (v := .ref (ad (3 + 3 * g))) rfl dX2_becomeMixOf_20 ?_
      refine lv_iload hx hb dX2_becomeMixOf_23 (lv_at hl 4 rfl) ?_
      refine lv_aload_n hx hb dX2_becomeMixOf_25 rfl (lv_at hl 1 rfl) ?_
      refine fg C hP (2 + 3 * f) (tb_w hf) (ci := 2) rfl 0 (by decide) in_X2_becomeMixOf_X2 lk_X2_becomeMixOf_9 (v := .ref (ad (3 + 3 * f))) rfl dX2_becomeMixOf_26 ?_
      refine lv_iload hx hb dX2_becomeMixOf_29 (lv_at hl 4 rfl) ?_
      refine ar_i C hP (3 + 3 * f) (tb_s hf) (j := i) (by omega) (by decide) dX2_becomeMixOf_31 ?_
      refine tp_i (y := S f i) (mx_at _ _ _ _ _) ?_
      refine as_i C hP hD hS (3 + 3 * g) (tb_s2 hg) (j := i) (by omega) (by decide) (tb_s2_st hg _) dX2_becomeMixOf_32 (fun H locs hP hD hS => ?_)
      refine lv_iinc (v := nI (i + 1)) (lv' := [(4, .int (nI (i + 1))), (0, .ref (ad (2 + 3 * g))), (1, .ref (ad (2 + 3 * f))), (2, .ref (ad (2 + 3 * h))), (3, .int (N f + N h))]) hx hb dX2_becomeMixOf_33 hl (k := 4) rfl (by rw [← nI_add i 1]; rfl) (by decide) rfl (fun ls hl => ?_)
      refine lv_goto (tgt := 13) hx hb dX2_becomeMixOf_36 (by decide) ?_
      rw [mx_s] at hP hD
      exact ihL1 (i + 1) (by omega) _ _ _ hP hD hS (lv_sub hl [1, 2, 3, 4, 0] rfl)
  rw [← mx_0 S (S f) g] at hP hD
  exact L1 (3 - 0) 0 (by omega) _ _ _ hP hD hS (lv_sub hl [2, 3, 4, 1, 0] rfl)

set_option maxRecDepth 20000 in
theorem in_X3_mix_X3 : ∀ w ∈ u_ws RX3 TX3 8, w ∈ wsX3_mix := by decide +kernel
set_option maxRecDepth 20000 in
theorem lk_X3_mix_11 : Cond.fieldLink RX3 11 (TX3 0).1 (TX3 0).2.1 (TX3 0).2.2.1 ∈ wsX3_mix := by decide +kernel
set_option maxRecDepth 20000 in
theorem in_X3_mix_X2 : ∀ w ∈ u_ws RX2 TX2 3, w ∈ wsX3_mix := by decide +kernel
set_option maxHeartbeats 4000000 in
set_option maxRecDepth 100000 in
theorem c_X3_mix (D : va_G) (k : Nat → ClassId) (t : Nat → Nat) (l : Launch) {ad : Nat → Nat} {N : Nat → Int32} {S Wt L : Nat → Nat → Int32} {T : Nat → Int32} {G : Nat → Nat → Int64} {E : Nat → Int32} {su pa tr sh : Nat → Int32} {pv : Int32} (x1 x2 x3 : Int32) : Ci D k t l yX3_mix wsX3_mix ({ frames := 2, cells := 0, slots := 0, locals := 60 }) [.ref (ad 0), .int x1, .int x2, .int x3] (TBw ad k N S Wt L T G E su pa tr sh pv) (fun r w => (∃ f h g : Nat, (f < 4 ∧ x1 = nI f ∧ ¬ N f ≤ 0 ∧ h < 4 ∧ x2 = nI h ∧ ¬ N h ≤ 0 ∧ g < 4 ∧ x3 = nI g ∧ SM (S f) (S h) ∧ N f + N h ≤ nI 16) ∧ r = nI 1 ∧ w = TBw ad k (upd N g (N f + N h)) (va_up S g (S f)) (va_up Wt g (fun j => Wt f j + Wt h j)) L T G E su pa tr sh pv) ∨ ((∀ f h g : Nat, ¬ (f < 4 ∧ x1 = nI f ∧ ¬ N f ≤ 0 ∧ h < 4 ∧ x2 = nI h ∧ ¬ N h ≤ 0 ∧ g < 4 ∧ x3 = nI g ∧ SM (S f) (S h) ∧ N f + N h ≤ nI 16)) ∧ r = nI 0 ∧ w = TBw ad k N S Wt L T G E su pa tr sh pv)) 0 0 := by
  refine fw_of (cc := cX3_mix) (maxL := 6) (ret := (some .boolean)) (Qc := fun A => va_Qi (fun r w => (∃ f h g : Nat, (f < 4 ∧ x1 = nI f ∧ ¬ N f ≤ 0 ∧ h < 4 ∧ x2 = nI h ∧ ¬ N h ≤ 0 ∧ g < 4 ∧ x3 = nI g ∧ SM (S f) (S h) ∧ N f + N h ≤ nI 16) ∧ r = nI 1 ∧ w = TBw ad k (upd N g (N f + N h)) (va_up S g (S f)) (va_up Wt g (fun j => Wt f j + Wt h j)) L T G E su pa tr sh pv) ∨ ((∀ f h g : Nat, ¬ (f < 4 ∧ x1 = nI f ∧ ¬ N f ≤ 0 ∧ h < 4 ∧ x2 = nI h ∧ ¬ N h ≤ 0 ∧ g < 4 ∧ x3 = nI g ∧ SM (S f) (S h) ∧ N f + N h ≤ nI 16)) ∧ r = nI 0 ∧ w = TBw ad k N S Wt L T G E su pa tr sh pv)) (BcW D A) A) (by decide) rfl (Nat.le_of_ble_eq_true rfl) ?_
  intro p e s m below meth c A ls C hP hD hl
  have C : Cx RX3 "mix" cX3_mix 6 (some .boolean) wsX3_mix D k t A p s m ([.ref (ad 0), .int x1, .int x2, .int x3] : List Value).toArray meth c := C
  have hl : lv_has ls 6 [(0, .ref (ad 0)), (1, .int x1), (2, .int x2), (3, .int x3)] := hl
  have hx := C.1
  have hb := C.2.1
  have hown := C.2.2.2.2.1
  have hts := C.2.2.2.2.2.1
  have hK := C.2.2.2.2.2.2.2.2.1
  have hZ := C.2.2.2.2.2.2.2.2.2.1
  have hN := C.2.2.2.2.2.2.2.2.2.2
  have hS : va_S A s.heap s.heap [] := va_S.rf
  refine lv_aload_n hx hb dX3_mix_0 rfl (lv_at hl 0 rfl) ?_
  refine lv_iload_n hx hb dX3_mix_1 rfl (lv_at hl 1 rfl) ?_
  refine fw_i C hD hS (rn_V (As := [.int x1]) (rest := []) C (c_X3_isMadePlace D k t l x1 _) (cwV 1 hts gX3_mix_X3_isMadePlace rfl rfl rfl hdX3_isMadePlaceC ⟨Nat.le_of_ble_eq_true rfl, Nat.le_of_ble_eq_true rfl⟩) 0 3 rfl tb_o rfl hP hD hS rfl hl.1 rfl (Nat.le_of_ble_eq_true rfl) dX3_mix_2 ⟨Nat.zero_le _, Nat.zero_le _⟩) (fun r1 wr1 H locs h2 hP hD hS => ?_)
  obtain ⟨rfl, rfl⟩ := h2
  refine lv_if_eq (tgt := 23) hx hb dX3_mix_5 (by decide) (fun c3 => ?_) (fun c3 => ?_)
  · have c3 := pb_z c3
    refine lv_iconst (v := nI 0) hx hb dX3_mix_23 (by decide) ?_
    exact Rz C hP hD hS (Nat.zero_le _) (Nat.zero_le _) rfl dX3_mix_24 (Or.inr ⟨fun f _ _ z => c3 ⟨f, z.1, z.2.1, z.2.2.1⟩, rfl, rfl⟩)
  · have c3 := pb_nz c3
    obtain ⟨f, hf, rfl, hmf⟩ := id c3
    refine lv_aload_n hx hb dX3_mix_8 rfl (lv_at hl 0 rfl) ?_
    refine lv_iload_n hx hb dX3_mix_9 rfl (lv_at hl 2 rfl) ?_
    refine fw_i C hD hS (rn_V (As := [.int x2]) (rest := []) C (c_X3_isMadePlace D k t l x2 _) (cwV 1 hts gX3_mix_X3_isMadePlace rfl rfl rfl hdX3_isMadePlaceC ⟨Nat.le_of_ble_eq_true rfl, Nat.le_of_ble_eq_true rfl⟩) 0 3 rfl tb_o rfl hP hD hS rfl hl.1 rfl (Nat.le_of_ble_eq_true rfl) dX3_mix_10 ⟨Nat.zero_le _, Nat.zero_le _⟩) (fun r4 wr4 H locs h5 hP hD hS => ?_)
    obtain ⟨rfl, rfl⟩ := h5
    refine lv_if_eq (tgt := 23) hx hb dX3_mix_13 (by decide) (fun c6 => ?_) (fun c6 => ?_)
    · have c6 := pb_z c6
      refine lv_iconst (v := nI 0) hx hb dX3_mix_23 (by decide) ?_
      exact Rz C hP hD hS (Nat.zero_le _) (Nat.zero_le _) rfl dX3_mix_24 (Or.inr ⟨fun _ h _ z => c6 ⟨h, z.2.2.2.1, z.2.2.2.2.1, z.2.2.2.2.2.1⟩, rfl, rfl⟩)
    · have c6 := pb_nz c6
      obtain ⟨h, hh, rfl, hmh⟩ := id c6
      refine lv_iload_n hx hb dX3_mix_16 rfl (lv_at hl 3 rfl) ?_
      refine fw_i C hD hS (rn_S (As := [.int x3]) (rest := []) C (c_X3_isPlace D k t l x3 _) (va_cwS 1 hts gX3_mix_X3_isPlace rfl rfl rfl hdX3_isPlace ⟨Nat.le_of_ble_eq_true rfl, Nat.le_of_ble_eq_true rfl⟩) hP hD hS rfl hl.1 rfl (Nat.le_of_ble_eq_true rfl) dX3_mix_17 ⟨Nat.zero_le _, Nat.zero_le _⟩) (fun r7 wr7 H locs h8 hP hD hS => ?_)
      obtain ⟨rfl, rfl⟩ := h8
      refine lv_if_ne (tgt := 25) hx hb dX3_mix_20 (by decide) (fun c9 => ?_) (fun c9 => ?_)
      · have c9 := pb_nz c9
        obtain ⟨g, h0g, hg, rfl⟩ := id c9
        refine lv_aload_n hx hb dX3_mix_25 rfl (lv_at hl 0 rfl) ?_
        refine fg C hP 0 tb_o (ci := 3) rfl 0 (by decide) in_X3_mix_X3 lk_X3_mix_11 (v := .ref (ad 1)) rfl dX3_mix_26 ?_
        refine lv_iload_n hx hb dX3_mix_29 rfl (lv_at hl 1 rfl) ?_
        refine ar_q C hP 1 tb_ws (j := f) (v := .ref (ad (2 + 3 * f))) rfl (by omega) (by decide) dX3_mix_30 ?_
        refine lv_astore (lv' := [(4, .ref (ad (2 + 3 * f))), (0, .ref (ad 0)), (1, .int (nI f)), (2, .int (nI h)), (3, .int (nI g))]) hx hb dX3_mix_31 hl (by decide) rfl (fun ls hl => ?_)
        refine lv_aload_n hx hb dX3_mix_33 rfl (lv_at hl 1 rfl) ?_
        refine fg C hP 0 tb_o (ci := 3) rfl 0 (by decide) in_X3_mix_X3 lk_X3_mix_11 (v := .ref (ad 1)) rfl dX3_mix_34 ?_
        refine lv_iload_n hx hb dX3_mix_37 rfl (lv_at hl 3 rfl) ?_
        refine ar_q C hP 1 tb_ws (j := h) (v := .ref (ad (2 + 3 * h))) rfl (by omega) (by decide) dX3_mix_38 ?_
        refine lv_astore (lv' := [(5, .ref (ad (2 + 3 * h))), (4, .ref (ad (2 + 3 * f))), (0, .ref (ad 0)), (1, .int (nI f)), (2, .int (nI h)), (3, .int (nI g))]) hx hb dX3_mix_39 hl (by decide) rfl (fun ls hl => ?_)
        refine lv_aload hx hb dX3_mix_41 (lv_at hl 1 rfl) ?_
        refine lv_aload hx hb dX3_mix_43 (lv_at hl 0 rfl) ?_
        refine fw_i C hD hS (rn_VN (As := [.ref (ad (2 + 3 * h))]) (rest := []) (host := RX3) (C2 := RX2) C (c_sameP D k t l hf hh _) (va_cnB 1 hts gX3_mix_X2_hasStatesOf_n86 rfl rfl rfl (hN.1 (RX3, 86, yX2_hasStatesOf) (List.mem_of_getElem? (i := 8) rfl)) (hts (.initialized RX2) (by decide +kernel)) hdX2_hasStatesOf ⟨Nat.le_of_ble_eq_true rfl, Nat.le_of_ble_eq_true rfl⟩) (hts (.instanceMethod yX2_hasStatesOf) (by decide +kernel)) (hts (.selects RX2 yX2_hasStatesOf yX2_hasStatesOf) (by decide +kernel)) (2 + 3 * f) 2 rfl (tb_w hf) rfl hP hD hS rfl hl.1 rfl (Nat.le_of_ble_eq_true rfl) dX3_mix_45 ⟨Nat.zero_le _, Nat.zero_le _⟩) (fun r10 wr10 H locs h11 hP hD hS => ?_)
        obtain ⟨rfl, rfl⟩ := h11
        refine lv_if_eq (tgt := 67) hx hb dX3_mix_48 (by decide) (fun c12 => ?_) (fun c12 => ?_)
        · have c12 := pb_z c12
          refine lv_iconst (v := nI 0) hx hb dX3_mix_67 (by decide) ?_
          exact Rz C hP hD hS (Nat.zero_le _) (Nat.zero_le _) rfl dX3_mix_68 (Or.inr ⟨fun f2 h2 g2 z => by obtain ⟨z1, z2, z3, z4, z5, z6, z7, z8, z9, z10⟩ := z; obtain rfl := nI_inj (by omega) (by omega) z2; obtain rfl := nI_inj (by omega) (by omega) z5; exact c12 z9, rfl, rfl⟩)
        · have c12 := pb_nz c12
          refine lv_aload hx hb dX3_mix_51 (lv_at hl 1 rfl) ?_
          refine fg_N C hP (2 + 3 * f) (tb_w hf) (ci := 2) rfl 2 (by decide) in_X3_mix_X2 (hN.2 (RX3, 75, RX2, "total", "I") (List.mem_of_getElem? (i := 2) rfl)) (v := .int (N f)) rfl dX3_mix_53 ?_
          refine lv_aload hx hb dX3_mix_56 (lv_at hl 0 rfl) ?_
          refine fg_N C hP (2 + 3 * h) (tb_w hh) (ci := 2) rfl 2 (by decide) in_X3_mix_X2 (hN.2 (RX3, 75, RX2, "total", "I") (List.mem_of_getElem? (i := 2) rfl)) (v := .int (N h)) rfl dX3_mix_58 ?_
          refine lv_iadd hx hb dX3_mix_61 ?_
          refine lv_bipush (v := nI 16) hx hb dX3_mix_62 (by decide) ?_
          refine lv_icmp_le (tgt := 69) hx hb dX3_mix_64 (by decide) (fun c13 => ?_) (fun c13 => ?_)
          · refine lv_aload_n hx hb dX3_mix_69 rfl (lv_at hl 2 rfl) ?_
            refine fg C hP 0 tb_o (ci := 3) rfl 0 (by decide) in_X3_mix_X3 lk_X3_mix_11 (v := .ref (ad 1)) rfl dX3_mix_70 ?_
            refine lv_iload_n hx hb dX3_mix_73 rfl (lv_at hl 5 rfl) ?_
            refine ar_q C hP 1 tb_ws (j := g) (v := .ref (ad (2 + 3 * g))) rfl (by omega) (by decide) dX3_mix_74 ?_
            refine lv_aload hx hb dX3_mix_75 (lv_at hl 1 rfl) ?_
            refine lv_aload hx hb dX3_mix_77 (lv_at hl 0 rfl) ?_
            refine fw_v C hD hS (rn_VN (As := [.ref (ad (2 + 3 * f)), .ref (ad (2 + 3 * h))]) (rest := []) (host := RX3) (C2 := RX2) C (c_X2_becomeMixOf D k t l hg hf hh _) (va_cnB 2 hts gX3_mix_X2_becomeMixOf_n90 rfl rfl rfl (hN.1 (RX3, 90, yX2_becomeMixOf) (List.mem_of_getElem? (i := 9) rfl)) (hts (.initialized RX2) (by decide +kernel)) hdX2_becomeMixOf ⟨Nat.le_of_ble_eq_true rfl, Nat.le_of_ble_eq_true rfl⟩) (hts (.instanceMethod yX2_becomeMixOf) (by decide +kernel)) (hts (.selects RX2 yX2_becomeMixOf yX2_becomeMixOf) (by decide +kernel)) (2 + 3 * g) 2 rfl (tb_w hg) rfl hP hD hS rfl hl.1 rfl (Nat.le_of_ble_eq_true rfl) dX3_mix_79 ⟨Nat.zero_le _, Nat.zero_le _⟩) (fun wr14 H locs h15 hP hD hS => ?_)
            obtain rfl := h15
            refine lv_iconst (v := nI 1) hx hb dX3_mix_82 (by decide) ?_
            exact Rz C hP hD hS (Nat.zero_le _) (Nat.zero_le _) rfl dX3_mix_83 (Or.inl ⟨f, h, g, ⟨hf, rfl, hmf, hh, rfl, hmh, hg, rfl, c12, c13⟩, rfl, rfl⟩)
          · refine lv_iconst (v := nI 0) hx hb dX3_mix_67 (by decide) ?_
            exact Rz C hP hD hS (Nat.zero_le _) (Nat.zero_le _) rfl dX3_mix_68 (Or.inr ⟨fun f2 h2 g2 z => by obtain ⟨z1, z2, z3, z4, z5, z6, z7, z8, z9, z10⟩ := z; obtain rfl := nI_inj (by omega) (by omega) z2; obtain rfl := nI_inj (by omega) (by omega) z5; exact c13 z10, rfl, rfl⟩)
      · have c9 := pb_z c9
        refine lv_iconst (v := nI 0) hx hb dX3_mix_23 (by decide) ?_
        exact Rz C hP hD hS (Nat.zero_le _) (Nat.zero_le _) rfl dX3_mix_24 (Or.inr ⟨fun _ _ g z => c9 ⟨g, Nat.zero_le _, z.2.2.2.2.2.2.1, z.2.2.2.2.2.2.2.1⟩, rfl, rfl⟩)

set_option maxRecDepth 20000 in
theorem in_X3_tell_X3 : ∀ w ∈ u_ws RX3 TX3 8, w ∈ wsX3_tell := by decide +kernel
set_option maxRecDepth 20000 in
theorem lk_X3_tell_11 : Cond.fieldLink RX3 11 (TX3 0).1 (TX3 0).2.1 (TX3 0).2.2.1 ∈ wsX3_tell := by decide +kernel
set_option maxRecDepth 20000 in
theorem lk_X3_tell_27 : Cond.fieldLink RX3 27 (TX3 3).1 (TX3 3).2.1 (TX3 3).2.2.1 ∈ wsX3_tell := by decide +kernel
set_option maxHeartbeats 4000000 in
set_option maxRecDepth 100000 in
theorem c_X3_tell (D : va_G) (k : Nat → ClassId) (t : Nat → Nat) (l : Launch) {ad : Nat → Nat} {N : Nat → Int32} {S Wt L : Nat → Nat → Int32} {T : Nat → Int32} {G : Nat → Nat → Int64} {E : Nat → Int32} {su pa tr sh : Nat → Int32} {pv : Int32} (x1 x2 : Int32) : Ci D k t l yX3_tell wsX3_tell ({ frames := 2, cells := 0, slots := 0, locals := 60 }) [.ref (ad 0), .int x1, .int x2] (TBw ad k N S Wt L T G E su pa tr sh pv) (fun r w => (∃ g d : Nat, (g < 4 ∧ x1 = nI g ∧ ¬ N g ≤ 0 ∧ d < 19683 ∧ x2 = nI d) ∧ r = nI 1 ∧ w = TBw ad k N (va_up S g (upd (S g) 2 (nI 3))) (va_up Wt g (spr (gs (Wt g) 3 27) d 9)) L T G E (gs (Wt g) 3 27) pa tr sh pv) ∨ ((∀ g d : Nat, ¬ (g < 4 ∧ x1 = nI g ∧ ¬ N g ≤ 0 ∧ d < 19683 ∧ x2 = nI d)) ∧ r = nI 0 ∧ w = TBw ad k N S Wt L T G E su pa tr sh pv)) 0 0 := by
  refine fw_of (cc := cX3_tell) (maxL := 3) (ret := (some .boolean)) (Qc := fun A => va_Qi (fun r w => (∃ g d : Nat, (g < 4 ∧ x1 = nI g ∧ ¬ N g ≤ 0 ∧ d < 19683 ∧ x2 = nI d) ∧ r = nI 1 ∧ w = TBw ad k N (va_up S g (upd (S g) 2 (nI 3))) (va_up Wt g (spr (gs (Wt g) 3 27) d 9)) L T G E (gs (Wt g) 3 27) pa tr sh pv) ∨ ((∀ g d : Nat, ¬ (g < 4 ∧ x1 = nI g ∧ ¬ N g ≤ 0 ∧ d < 19683 ∧ x2 = nI d)) ∧ r = nI 0 ∧ w = TBw ad k N S Wt L T G E su pa tr sh pv)) (BcW D A) A) (by decide) rfl (Nat.le_of_ble_eq_true rfl) ?_
  intro p e s m below meth c A ls C hP hD hl
  have C : Cx RX3 "tell" cX3_tell 3 (some .boolean) wsX3_tell D k t A p s m ([.ref (ad 0), .int x1, .int x2] : List Value).toArray meth c := C
  have hl : lv_has ls 3 [(0, .ref (ad 0)), (1, .int x1), (2, .int x2)] := hl
  have hx := C.1
  have hb := C.2.1
  have hown := C.2.2.2.2.1
  have hts := C.2.2.2.2.2.1
  have hK := C.2.2.2.2.2.2.2.2.1
  have hZ := C.2.2.2.2.2.2.2.2.2.1
  have hN := C.2.2.2.2.2.2.2.2.2.2
  have hS : va_S A s.heap s.heap [] := va_S.rf
  refine lv_aload_n hx hb dX3_tell_0 rfl (lv_at hl 0 rfl) ?_
  refine lv_iload_n hx hb dX3_tell_1 rfl (lv_at hl 1 rfl) ?_
  refine fw_i C hD hS (rn_V (As := [.int x1]) (rest := []) C (c_X3_isMadePlace D k t l x1 _) (cwV 1 hts gX3_tell_X3_isMadePlace rfl rfl rfl hdX3_isMadePlaceC ⟨Nat.le_of_ble_eq_true rfl, Nat.le_of_ble_eq_true rfl⟩) 0 3 rfl tb_o rfl hP hD hS rfl hl.1 rfl (Nat.le_of_ble_eq_true rfl) dX3_tell_2 ⟨Nat.zero_le _, Nat.zero_le _⟩) (fun r1 wr1 H locs h2 hP hD hS => ?_)
  obtain ⟨rfl, rfl⟩ := h2
  refine lv_if_eq (tgt := 19) hx hb dX3_tell_5 (by decide) (fun c3 => ?_) (fun c3 => ?_)
  · have c3 := pb_z c3
    refine lv_iconst (v := nI 0) hx hb dX3_tell_19 (by decide) ?_
    exact Rz C hP hD hS (Nat.zero_le _) (Nat.zero_le _) rfl dX3_tell_20 (Or.inr ⟨fun g _ z => c3 ⟨g, z.1, z.2.1, z.2.2.1⟩, rfl, rfl⟩)
  · have c3 := pb_nz c3
    obtain ⟨g, hg, rfl, hmg⟩ := id c3
    refine lv_iload_n hx hb dX3_tell_8 rfl (lv_at hl 2 rfl) ?_
    refine lv_if_lt (tgt := 19) hx hb dX3_tell_9 (by decide) (fun c4 => ?_) (fun c4 => ?_)
    · refine lv_iconst (v := nI 0) hx hb dX3_tell_19 (by decide) ?_
      exact Rz C hP hD hS (Nat.zero_le _) (Nat.zero_le _) rfl dX3_tell_20 (Or.inr ⟨fun _ d z => by obtain ⟨_, _, _, z4, rfl⟩ := z; exact nI_pos (by omega) c4, rfl, rfl⟩)
    · refine lv_iload_n hx hb dX3_tell_12 rfl (lv_at hl 2 rfl) ?_
      refine lv_sipush (v := nI 19683) hx hb dX3_tell_13 (by decide) ?_
      refine lv_icmp_lt (tgt := 21) hx hb dX3_tell_16 (by decide) (fun c5 => ?_) (fun c5 => ?_)
      · obtain ⟨d, hd, rfl⟩ := ixN (by decide) c4 c5
        refine lv_aload_n hx hb dX3_tell_21 rfl (lv_at hl 0 rfl) ?_
        refine fg C hP 0 tb_o (ci := 3) rfl 0 (by decide) in_X3_tell_X3 lk_X3_tell_11 (v := .ref (ad 1)) rfl dX3_tell_22 ?_
        refine lv_iload_n hx hb dX3_tell_25 rfl (lv_at hl 1 rfl) ?_
        refine ar_q C hP 1 tb_ws (j := g) (v := .ref (ad (2 + 3 * g))) rfl (by omega) (by decide) dX3_tell_26 ?_
        refine va_gets hx hb (hZ.2.2.1.1) hS hown (hts (.fieldLink RX3 94 "TellingBench" "PAIRS" "[I") (by decide +kernel)) (fun _ h9 => h9) dX3_tell_27 ?_
        refine lv_iconst (v := nI 0) hx hb dX3_tell_30 (by decide) ?_
        refine at_i hx hb (hZ.2.2.1.2) hS (j := 0) (by decide) (by decide) dX3_tell_31 ?_
        refine tp_i (y := nI 3) (rfl) ?_
        refine lv_aload_n hx hb dX3_tell_32 rfl (lv_at hl 0 rfl) ?_
        refine fg C hP 0 tb_o (ci := 3) rfl 3 (by decide) in_X3_tell_X3 lk_X3_tell_27 (v := .ref (ad 31)) rfl dX3_tell_33 ?_
        refine fw_v C hD hS (rn_VN (As := [.int (nI 3), .ref (ad 31)]) (rest := []) (host := RX3) (C2 := RX2) C (c_X2_gather D k t l hg (by decide) _) (va_cnB 2 hts gX3_tell_X2_gather_n97 rfl rfl rfl (hN.1 (RX3, 97, yX2_gather) (List.mem_of_getElem? (i := 10) rfl)) (hts (.initialized RX2) (by decide +kernel)) hdX2_gather ⟨Nat.le_of_ble_eq_true rfl, Nat.le_of_ble_eq_true rfl⟩) (hts (.instanceMethod yX2_gather) (by decide +kernel)) (hts (.selects RX2 yX2_gather yX2_gather) (by decide +kernel)) (2 + 3 * g) 2 rfl (tb_w hg) rfl hP hD hS rfl hl.1 rfl (Nat.le_of_ble_eq_true rfl) dX3_tell_36 ⟨Nat.zero_le _, Nat.zero_le _⟩) (fun wr6 H locs h7 hP hD hS => ?_)
        obtain rfl := h7
        refine lv_aload_n hx hb dX3_tell_39 rfl (lv_at hl 0 rfl) ?_
        refine fg C hP 0 tb_o (ci := 3) rfl 0 (by decide) in_X3_tell_X3 lk_X3_tell_11 (v := .ref (ad 1)) rfl dX3_tell_40 ?_
        refine lv_iload_n hx hb dX3_tell_43 rfl (lv_at hl 1 rfl) ?_
        refine ar_q C hP 1 tb_ws (j := g) (v := .ref (ad (2 + 3 * g))) rfl (by omega) (by decide) dX3_tell_44 ?_
        refine lv_aload_n hx hb dX3_tell_45 rfl (lv_at hl 0 rfl) ?_
        refine fg C hP 0 tb_o (ci := 3) rfl 3 (by decide) in_X3_tell_X3 lk_X3_tell_27 (v := .ref (ad 31)) rfl dX3_tell_46 ?_
        refine lv_iload_n hx hb dX3_tell_49 rfl (lv_at hl 2 rfl) ?_
        refine fw_v C hD hS (rn_VN (As := [.ref (ad 31), .int (nI d)]) (rest := []) (host := RX3) (C2 := RX2) C (c_X2_spreadByRule D k t l hg hd _) (va_cnB 2 hts gX3_tell_X2_spreadByRule_n101 rfl rfl rfl (hN.1 (RX3, 101, yX2_spreadByRule) (List.mem_of_getElem? (i := 12) rfl)) (hts (.initialized RX2) (by decide +kernel)) hdX2_spreadByRule ⟨Nat.le_of_ble_eq_true rfl, Nat.le_of_ble_eq_true rfl⟩) (hts (.instanceMethod yX2_spreadByRule) (by decide +kernel)) (hts (.selects RX2 yX2_spreadByRule yX2_spreadByRule) (by decide +kernel)) (2 + 3 * g) 2 rfl (tb_w hg) rfl hP hD hS rfl hl.1 rfl (Nat.le_of_ble_eq_true rfl) dX3_tell_50 ⟨Nat.zero_le _, Nat.zero_le _⟩) (fun wr8 H locs h9 hP hD hS => ?_)
        obtain rfl := h9
        refine lv_iconst (v := nI 1) hx hb dX3_tell_53 (by decide) ?_
        exact Rz C hP hD hS (Nat.zero_le _) (Nat.zero_le _) rfl dX3_tell_54 (Or.inl ⟨g, d, ⟨hg, rfl, hmg, hd, rfl⟩, rfl, rfl⟩)
      · refine lv_iconst (v := nI 0) hx hb dX3_tell_19 (by decide) ?_
        exact Rz C hP hD hS (Nat.zero_le _) (Nat.zero_le _) rfl dX3_tell_20 (Or.inr ⟨fun _ d z => by obtain ⟨_, _, _, z4, rfl⟩ := z; exact c5 (nI_lt z4 (by decide)), rfl, rfl⟩)

set_option maxRecDepth 20000 in
theorem in_X3_law_X3 : ∀ w ∈ u_ws RX3 TX3 8, w ∈ wsX3_law := by decide +kernel
set_option maxRecDepth 20000 in
theorem lk_X3_law_17 : Cond.fieldLink RX3 17 (TX3 1).1 (TX3 1).2.1 (TX3 1).2.2.1 ∈ wsX3_law := by decide +kernel
set_option maxHeartbeats 4000000 in
set_option maxRecDepth 100000 in
theorem c_X3_law (D : va_G) (k : Nat → ClassId) (t : Nat → Nat) (l : Launch) {ad : Nat → Nat} {N : Nat → Int32} {S Wt L : Nat → Nat → Int32} {T : Nat → Int32} {G : Nat → Nat → Int64} {E : Nat → Int32} {su pa tr sh : Nat → Int32} {pv : Int32} (x1 x2 x3 : Int32) : Ci D k t l yX3_law wsX3_law ({ frames := 1, cells := 0, slots := 0, locals := 30 }) [.ref (ad 0), .int x1, .int x2, .int x3] (TBw ad k N S Wt L T G E su pa tr sh pv) (fun r w => (∃ j z : Nat, (j < 10 ∧ x1 = nI j ∧ 1 ≤ z ∧ z < 8 ∧ x2 = nI z ∧ ¬ x3 < (-2) ∧ x3 ≤ nI 2) ∧ r = nI 1 ∧ w = TBw ad k N S Wt (va_up L j (upd (L j) z x3)) T G E su pa tr sh pv) ∨ ((∀ j z : Nat, ¬ (j < 10 ∧ x1 = nI j ∧ 1 ≤ z ∧ z < 8 ∧ x2 = nI z ∧ ¬ x3 < (-2) ∧ x3 ≤ nI 2)) ∧ r = nI 0 ∧ w = TBw ad k N S Wt L T G E su pa tr sh pv)) 0 0 := by
  refine fw_of (cc := cX3_law) (maxL := 4) (ret := (some .boolean)) (Qc := fun A => va_Qi (fun r w => (∃ j z : Nat, (j < 10 ∧ x1 = nI j ∧ 1 ≤ z ∧ z < 8 ∧ x2 = nI z ∧ ¬ x3 < (-2) ∧ x3 ≤ nI 2) ∧ r = nI 1 ∧ w = TBw ad k N S Wt (va_up L j (upd (L j) z x3)) T G E su pa tr sh pv) ∨ ((∀ j z : Nat, ¬ (j < 10 ∧ x1 = nI j ∧ 1 ≤ z ∧ z < 8 ∧ x2 = nI z ∧ ¬ x3 < (-2) ∧ x3 ≤ nI 2)) ∧ r = nI 0 ∧ w = TBw ad k N S Wt L T G E su pa tr sh pv)) (BcW D A) A) (by decide) rfl (Nat.le_of_ble_eq_true rfl) ?_
  intro p e s m below meth c A ls C hP hD hl
  have C : Cx RX3 "law" cX3_law 4 (some .boolean) wsX3_law D k t A p s m ([.ref (ad 0), .int x1, .int x2, .int x3] : List Value).toArray meth c := C
  have hl : lv_has ls 4 [(0, .ref (ad 0)), (1, .int x1), (2, .int x2), (3, .int x3)] := hl
  have hx := C.1
  have hb := C.2.1
  have hown := C.2.2.2.2.1
  have hts := C.2.2.2.2.2.1
  have hK := C.2.2.2.2.2.2.2.2.1
  have hZ := C.2.2.2.2.2.2.2.2.2.1
  have hN := C.2.2.2.2.2.2.2.2.2.2
  have hS : va_S A s.heap s.heap [] := va_S.rf
  refine lv_iload_n hx hb dX3_law_0 rfl (lv_at hl 1 rfl) ?_
  refine fw_i C hD hS (rn_S (As := [.int x1]) (rest := []) C (c_X3_isLaw D k t l x1 _) (va_cwS 1 hts gX3_law_X3_isLaw rfl rfl rfl hdX3_isLaw ⟨Nat.le_of_ble_eq_true rfl, Nat.le_of_ble_eq_true rfl⟩) hP hD hS rfl hl.1 rfl (Nat.le_of_ble_eq_true rfl) dX3_law_1 ⟨Nat.zero_le _, Nat.zero_le _⟩) (fun r1 wr1 H locs h2 hP hD hS => ?_)
  obtain ⟨rfl, rfl⟩ := h2
  refine lv_if_eq (tgt := 25) hx hb dX3_law_4 (by decide) (fun c3 => ?_) (fun c3 => ?_)
  · have c3 := pb_z c3
    refine lv_iconst (v := nI 0) hx hb dX3_law_25 (by decide) ?_
    exact Rz C hP hD hS (Nat.zero_le _) (Nat.zero_le _) rfl dX3_law_26 (Or.inr ⟨fun j _ q => c3 ⟨j, Nat.zero_le _, q.1, q.2.1⟩, rfl, rfl⟩)
  · have c3 := pb_nz c3
    obtain ⟨j, h0j, hj, rfl⟩ := id c3
    refine lv_iload_n hx hb dX3_law_7 rfl (lv_at hl 2 rfl) ?_
    refine fw_i C hD hS (rn_S (As := [.int x2]) (rest := []) C (c_X3_isSet D k t l x2 _) (va_cwS 1 hts gX3_law_X3_isSet rfl rfl rfl hdX3_isSet ⟨Nat.le_of_ble_eq_true rfl, Nat.le_of_ble_eq_true rfl⟩) hP hD hS rfl hl.1 rfl (Nat.le_of_ble_eq_true rfl) dX3_law_8 ⟨Nat.zero_le _, Nat.zero_le _⟩) (fun r4 wr4 H locs h5 hP hD hS => ?_)
    obtain ⟨rfl, rfl⟩ := h5
    refine lv_if_eq (tgt := 25) hx hb dX3_law_11 (by decide) (fun c6 => ?_) (fun c6 => ?_)
    · have c6 := pb_z c6
      refine lv_iconst (v := nI 0) hx hb dX3_law_25 (by decide) ?_
      exact Rz C hP hD hS (Nat.zero_le _) (Nat.zero_le _) rfl dX3_law_26 (Or.inr ⟨fun _ z q => c6 ⟨z, q.2.2.1, q.2.2.2.1, q.2.2.2.2.1⟩, rfl, rfl⟩)
    · have c6 := pb_nz c6
      obtain ⟨z, h0z, hz, rfl⟩ := id c6
      refine lv_iload_n hx hb dX3_law_14 rfl (lv_at hl 3 rfl) ?_
      refine lv_bipush (v := (-2)) hx hb dX3_law_15 (by decide) ?_
      refine lv_icmp_lt (tgt := 25) hx hb dX3_law_17 (by decide) (fun c7 => ?_) (fun c7 => ?_)
      · refine lv_iconst (v := nI 0) hx hb dX3_law_25 (by decide) ?_
        exact Rz C hP hD hS (Nat.zero_le _) (Nat.zero_le _) rfl dX3_law_26 (Or.inr ⟨fun _ _ q => q.2.2.2.2.2.1 c7, rfl, rfl⟩)
      · refine lv_iload_n hx hb dX3_law_20 rfl (lv_at hl 3 rfl) ?_
        refine lv_iconst (v := nI 2) hx hb dX3_law_21 (by decide) ?_
        refine lv_icmp_le (tgt := 27) hx hb dX3_law_22 (by decide) (fun c8 => ?_) (fun c8 => ?_)
        · refine lv_aload_n hx hb dX3_law_27 rfl (lv_at hl 0 rfl) ?_
          refine fg C hP 0 tb_o (ci := 3) rfl 1 (by decide) in_X3_law_X3 lk_X3_law_17 (v := .ref (ad 14)) rfl dX3_law_28 ?_
          refine lv_iload_n hx hb dX3_law_31 rfl (lv_at hl 1 rfl) ?_
          refine ar_r C hP 14 tb_ls (j := j) (v := .ref (ad (15 + j))) rfl (by omega) (by decide) dX3_law_32 ?_
          refine lv_iload_n hx hb dX3_law_33 rfl (lv_at hl 2 rfl) ?_
          refine lv_iload_n hx hb dX3_law_34 rfl (lv_at hl 3 rfl) ?_
          refine as_i C hP hD hS (15 + j) (tb_l hj) (j := z) (by omega) (by decide) (tb_l_st hj _) dX3_law_35 (fun H locs hP hD hS => ?_)
          refine lv_iconst (v := nI 1) hx hb dX3_law_36 (by decide) ?_
          exact Rz C hP hD hS (Nat.zero_le _) (Nat.zero_le _) rfl dX3_law_37 (Or.inl ⟨j, z, ⟨hj, rfl, h0z, hz, rfl, c7, c8⟩, rfl, rfl⟩)
        · refine lv_iconst (v := nI 0) hx hb dX3_law_25 (by decide) ?_
          exact Rz C hP hD hS (Nat.zero_le _) (Nat.zero_le _) rfl dX3_law_26 (Or.inr ⟨fun _ _ q => c8 q.2.2.2.2.2.2, rfl, rfl⟩)

set_option maxRecDepth 20000 in
theorem in_X3_number_X3 : ∀ w ∈ u_ws RX3 TX3 8, w ∈ wsX3_number := by decide +kernel
set_option maxRecDepth 20000 in
theorem lk_X3_number_17 : Cond.fieldLink RX3 17 (TX3 1).1 (TX3 1).2.1 (TX3 1).2.2.1 ∈ wsX3_number := by decide +kernel
set_option maxHeartbeats 4000000 in
set_option maxRecDepth 100000 in
theorem c_X3_number (D : va_G) (k : Nat → ClassId) (t : Nat → Nat) (l : Launch) {ad : Nat → Nat} {N : Nat → Int32} {S Wt L : Nat → Nat → Int32} {T : Nat → Int32} {G : Nat → Nat → Int64} {E : Nat → Int32} {su pa tr sh : Nat → Int32} {pv : Int32} (x1 x2 : Int32) : Ci D k t l yX3_number wsX3_number ({ frames := 1, cells := 0, slots := 0, locals := 30 }) [.ref (ad 0), .int x1, .int x2] (TBw ad k N S Wt L T G E su pa tr sh pv) (fun r w => (∃ j z : Nat, (j < 10 ∧ x1 = nI j ∧ 1 ≤ z ∧ z < 8 ∧ x2 = nI z) ∧ r = L j z ∧ w = TBw ad k N S Wt L T G E su pa tr sh pv) ∨ ((∀ j z : Nat, ¬ (j < 10 ∧ x1 = nI j ∧ 1 ≤ z ∧ z < 8 ∧ x2 = nI z)) ∧ r = (-11) ∧ w = TBw ad k N S Wt L T G E su pa tr sh pv)) 0 0 := by
  refine fw_of (cc := cX3_number) (maxL := 3) (ret := (some .int)) (Qc := fun A => va_Qi (fun r w => (∃ j z : Nat, (j < 10 ∧ x1 = nI j ∧ 1 ≤ z ∧ z < 8 ∧ x2 = nI z) ∧ r = L j z ∧ w = TBw ad k N S Wt L T G E su pa tr sh pv) ∨ ((∀ j z : Nat, ¬ (j < 10 ∧ x1 = nI j ∧ 1 ≤ z ∧ z < 8 ∧ x2 = nI z)) ∧ r = (-11) ∧ w = TBw ad k N S Wt L T G E su pa tr sh pv)) (BcW D A) A) (by decide) rfl (Nat.le_of_ble_eq_true rfl) ?_
  intro p e s m below meth c A ls C hP hD hl
  have C : Cx RX3 "number" cX3_number 3 (some .int) wsX3_number D k t A p s m ([.ref (ad 0), .int x1, .int x2] : List Value).toArray meth c := C
  have hl : lv_has ls 3 [(0, .ref (ad 0)), (1, .int x1), (2, .int x2)] := hl
  have hx := C.1
  have hb := C.2.1
  have hown := C.2.2.2.2.1
  have hts := C.2.2.2.2.2.1
  have hK := C.2.2.2.2.2.2.2.2.1
  have hZ := C.2.2.2.2.2.2.2.2.2.1
  have hN := C.2.2.2.2.2.2.2.2.2.2
  have hS : va_S A s.heap s.heap [] := va_S.rf
  refine lv_iload_n hx hb dX3_number_0 rfl (lv_at hl 1 rfl) ?_
  refine fw_i C hD hS (rn_S (As := [.int x1]) (rest := []) C (c_X3_isLaw D k t l x1 _) (va_cwS 1 hts gX3_number_X3_isLaw rfl rfl rfl hdX3_isLaw ⟨Nat.le_of_ble_eq_true rfl, Nat.le_of_ble_eq_true rfl⟩) hP hD hS rfl hl.1 rfl (Nat.le_of_ble_eq_true rfl) dX3_number_1 ⟨Nat.zero_le _, Nat.zero_le _⟩) (fun r1 wr1 H locs h2 hP hD hS => ?_)
  obtain ⟨rfl, rfl⟩ := h2
  refine lv_if_eq (tgt := 25) hx hb dX3_number_4 (by decide) (fun c3 => ?_) (fun c3 => ?_)
  · have c3 := pb_z c3
    refine lv_bipush (v := (-11)) hx hb dX3_number_25 (by decide) ?_
    exact Ri C hP hD hS (Nat.zero_le _) (Nat.zero_le _) dX3_number_27 (Or.inr ⟨fun j _ q => c3 ⟨j, Nat.zero_le _, q.1, q.2.1⟩, rfl, rfl⟩)
  · have c3 := pb_nz c3
    obtain ⟨j, h0j, hj, rfl⟩ := id c3
    refine lv_iload_n hx hb dX3_number_7 rfl (lv_at hl 2 rfl) ?_
    refine fw_i C hD hS (rn_S (As := [.int x2]) (rest := []) C (c_X3_isSet D k t l x2 _) (va_cwS 1 hts gX3_number_X3_isSet rfl rfl rfl hdX3_isSet ⟨Nat.le_of_ble_eq_true rfl, Nat.le_of_ble_eq_true rfl⟩) hP hD hS rfl hl.1 rfl (Nat.le_of_ble_eq_true rfl) dX3_number_8 ⟨Nat.zero_le _, Nat.zero_le _⟩) (fun r4 wr4 H locs h5 hP hD hS => ?_)
    obtain ⟨rfl, rfl⟩ := h5
    refine lv_if_eq (tgt := 25) hx hb dX3_number_11 (by decide) (fun c6 => ?_) (fun c6 => ?_)
    · have c6 := pb_z c6
      refine lv_bipush (v := (-11)) hx hb dX3_number_25 (by decide) ?_
      exact Ri C hP hD hS (Nat.zero_le _) (Nat.zero_le _) dX3_number_27 (Or.inr ⟨fun _ z q => c6 ⟨z, q.2.2.1, q.2.2.2.1, q.2.2.2.2⟩, rfl, rfl⟩)
    · have c6 := pb_nz c6
      obtain ⟨z, h0z, hz, rfl⟩ := id c6
      refine lv_aload_n hx hb dX3_number_14 rfl (lv_at hl 0 rfl) ?_
      refine fg C hP 0 tb_o (ci := 3) rfl 1 (by decide) in_X3_number_X3 lk_X3_number_17 (v := .ref (ad 14)) rfl dX3_number_15 ?_
      refine lv_iload_n hx hb dX3_number_18 rfl (lv_at hl 1 rfl) ?_
      refine ar_r C hP 14 tb_ls (j := j) (v := .ref (ad (15 + j))) rfl (by omega) (by decide) dX3_number_19 ?_
      refine lv_iload_n hx hb dX3_number_20 rfl (lv_at hl 2 rfl) ?_
      refine ar_i C hP (15 + j) (tb_l hj) (j := z) (by omega) (by decide) dX3_number_21 ?_
      refine lv_goto (tgt := 27) hx hb dX3_number_22 (by decide) ?_
      exact Ri C hP hD hS (Nat.zero_le _) (Nat.zero_le _) dX3_number_27 (Or.inl ⟨j, z, ⟨hj, rfl, h0z, hz, rfl⟩, rfl, rfl⟩)

