theorem c_isMadeP (D : va_G) (k : Nat → ClassId) (t : Nat → Nat) (l : Launch) {ad : Nat → Nat} {N : Nat → Int32} {S Wt L : Nat → Nat → Int32} {T : Nat → Int32} {G : Nat → Nat → Int64} {E : Nat → Int32} {su pa tr sh : Nat → Int32} {pv : Int32} {g : Nat} (hg : g < 4) : Ci D k t l yX2_isMade wsX2_isMade ({ frames := 0, cells := 0, slots := 0, locals := 0 }) [.ref (ad (2 + 3 * g))] (TBw ad k N S Wt L T G E su pa tr sh pv) (fun r w => r = pb (¬ N g ≤ 0) ∧ w = TBw ad k N S Wt L T G E su pa tr sh pv) 0 0 := by
  have h := c_X2_isMade D k t l (ad := ad) (N := N) (S := S) (Wt := Wt) (L := L) (T := T) (G := G) (E := E) (su := su) (pa := pa) (tr := tr) (sh := sh) (pv := pv) hg
  rw [made_pb] at h
  exact h
theorem c_hasSP (D : va_G) (k : Nat → ClassId) (t : Nat → Nat) (l : Launch) {ad : Nat → Nat} {N : Nat → Int32} {S Wt L : Nat → Nat → Int32} {T : Nat → Int32} {G : Nat → Nat → Int64} {E : Nat → Int32} {su pa tr sh : Nat → Int32} {pv : Int32} {g : Nat} (x1 x2 x3 : Int32) (hg : g < 4) : Ci D k t l yX2_hasSetting wsX2_hasSetting ({ frames := 0, cells := 0, slots := 0, locals := 0 }) [.ref (ad (2 + 3 * g)), .int x1, .int x2, .int x3] (TBw ad k N S Wt L T G E su pa tr sh pv) (fun r w => r = pb (HS (S g) x1 x2 x3) ∧ w = TBw ad k N S Wt L T G E su pa tr sh pv) 0 0 := by
  have h := c_X2_hasSetting D k t l (ad := ad) (N := N) (S := S) (Wt := Wt) (L := L) (T := T) (G := G) (E := E) (su := su) (pa := pa) (tr := tr) (sh := sh) (pv := pv) x1 x2 x3 hg
  rw [hasS_pb] at h
  exact h
def SM (s r : Nat → Int32) : Prop := s 0 = r 0 ∧ s 1 = r 1 ∧ s 2 = r 2
theorem same_pb (s r : Nat → Int32) : f_same s r = pb (SM s r) := by
  unfold f_same
  repeat' split
  all_goals first
    | (rw [pb_f]; rfl; unfold SM; simp [*]; done)
    | (rw [pb_t]; rfl; unfold SM; simp_all; done)
theorem c_sameP (D : va_G) (k : Nat → ClassId) (t : Nat → Nat) (l : Launch) {ad : Nat → Nat} {N : Nat → Int32} {S Wt L : Nat → Nat → Int32} {T : Nat → Int32} {G : Nat → Nat → Int64} {E : Nat → Int32} {su pa tr sh : Nat → Int32} {pv : Int32} {g f : Nat} (hg : g < 4) (hf : f < 4) : Ci D k t l yX2_hasStatesOf wsX2_hasStatesOf ({ frames := 0, cells := 0, slots := 0, locals := 0 }) [.ref (ad (2 + 3 * g)), .ref (ad (2 + 3 * f))] (TBw ad k N S Wt L T G E su pa tr sh pv) (fun r w => r = pb (SM (S g) (S f)) ∧ w = TBw ad k N S Wt L T G E su pa tr sh pv) 0 0 := by
  have h := c_X2_hasStatesOf D k t l (ad := ad) (N := N) (S := S) (Wt := Wt) (L := L) (T := T) (G := G) (E := E) (su := su) (pa := pa) (tr := tr) (sh := sh) (pv := pv) hg hf
  rw [same_pb] at h
  exact h
def MP (N : Nat → Int32) (x : Int32) : Prop := ∃ g, g < 4 ∧ x = nI g ∧ ¬ N g ≤ 0
set_option maxRecDepth 20000 in
theorem in_X3_isMadePlace_X3 : ∀ w ∈ u_ws RX3 TX3 8, w ∈ wsX3_isMadePlace := by decide +kernel
set_option maxRecDepth 20000 in
theorem lk_X3_isMadePlace_11 : Cond.fieldLink RX3 11 (TX3 0).1 (TX3 0).2.1 (TX3 0).2.2.1 ∈ wsX3_isMadePlace := by decide +kernel
set_option maxHeartbeats 4000000 in
set_option maxRecDepth 100000 in
theorem c_X3_isMadePlace (D : va_G) (k : Nat → ClassId) (t : Nat → Nat) (l : Launch) {ad : Nat → Nat} {N : Nat → Int32} {S Wt L : Nat → Nat → Int32} {T : Nat → Int32} {G : Nat → Nat → Int64} {E : Nat → Int32} {su pa tr sh : Nat → Int32} {pv : Int32} (x1 : Int32) : Ci D k t l yX3_isMadePlace wsX3_isMadePlace ({ frames := 1, cells := 0, slots := 0, locals := 30 }) [.ref (ad 0), .int x1] (TBw ad k N S Wt L T G E su pa tr sh pv) (fun r w => r = pb (MP N x1) ∧ w = TBw ad k N S Wt L T G E su pa tr sh pv) 0 0 := by
  refine fw_of (cc := cX3_isMadePlace) (maxL := 2) (ret := (some .boolean)) (Qc := fun A => va_Qi (fun r w => r = pb (MP N x1) ∧ w = TBw ad k N S Wt L T G E su pa tr sh pv) (BcW D A) A) (by decide) rfl (Nat.le_of_ble_eq_true rfl) ?_
  intro p e s m below meth c A ls C hP hD hl
  have C : Cx RX3 "isMadePlace" cX3_isMadePlace 2 (some .boolean) wsX3_isMadePlace D k t A p s m ([.ref (ad 0), .int x1] : List Value).toArray meth c := C
  have hl : lv_has ls 2 [(0, .ref (ad 0)), (1, .int x1)] := hl
  have hx := C.1
  have hb := C.2.1
  have hown := C.2.2.2.2.1
  have hts := C.2.2.2.2.2.1
  have hK := C.2.2.2.2.2.2.2.2.1
  have hZ := C.2.2.2.2.2.2.2.2.2.1
  have hN := C.2.2.2.2.2.2.2.2.2.2
  have hS : va_S A s.heap s.heap [] := va_S.rf
  refine lv_iload_n hx hb dX3_isMadePlace_0 rfl (lv_at hl 1 rfl) ?_
  refine fw_i C hD hS (rn_S (As := [.int x1]) (rest := []) C (c_X3_isPlace D k t l x1 _) (va_cwS 1 hts gX3_isMadePlace_X3_isPlace rfl rfl rfl hdX3_isPlace ⟨Nat.le_of_ble_eq_true rfl, Nat.le_of_ble_eq_true rfl⟩) hP hD hS rfl hl.1 rfl (Nat.le_of_ble_eq_true rfl) dX3_isMadePlace_1 ⟨Nat.zero_le _, Nat.zero_le _⟩) (fun r1 wr1 H locs h2 hP hD hS => ?_)
  obtain ⟨rfl, rfl⟩ := h2
  refine lv_if_eq (tgt := 23) hx hb dX3_isMadePlace_4 (by decide) (fun c3 => ?_) (fun c3 => ?_)
  · have c3 := pb_z c3
    refine lv_iconst (v := nI 0) hx hb dX3_isMadePlace_23 (by decide) ?_
    exact Rz C hP hD hS (Nat.zero_le _) (Nat.zero_le _) rfl dX3_isMadePlace_24 (⟨(pb_f (fun ⟨g, h1, h2, _⟩ => c3 ⟨g, Nat.zero_le _, h1, h2⟩)).symm, rfl⟩)
  · have c3 := pb_nz c3
    obtain ⟨g, h0g, hg, rfl⟩ := id c3
    refine lv_aload_n hx hb dX3_isMadePlace_7 rfl (lv_at hl 0 rfl) ?_
    refine fg C hP 0 tb_o (ci := 3) rfl 0 (by decide) in_X3_isMadePlace_X3 lk_X3_isMadePlace_11 (v := .ref (ad 1)) rfl dX3_isMadePlace_8 ?_
    refine lv_iload_n hx hb dX3_isMadePlace_11 rfl (lv_at hl 1 rfl) ?_
    refine ar_q C hP 1 tb_ws (j := g) (v := .ref (ad (2 + 3 * g))) rfl (by omega) (by decide) dX3_isMadePlace_12 ?_
    refine fw_i C hD hS (rn_VN (As := []) (rest := []) (host := RX3) (C2 := RX2) C (c_isMadeP D k t l hg _) (va_cnB 0 hts gX3_isMadePlace_X2_isMade_n68 rfl rfl rfl (hN.1 (RX3, 68, yX2_isMade) (List.mem_of_getElem? (i := 6) rfl)) (hts (.initialized RX2) (by decide +kernel)) hdX2_isMade ⟨Nat.le_of_ble_eq_true rfl, Nat.le_of_ble_eq_true rfl⟩) (hts (.instanceMethod yX2_isMade) (by decide +kernel)) (hts (.selects RX2 yX2_isMade yX2_isMade) (by decide +kernel)) (2 + 3 * g) 2 rfl (tb_w hg) rfl hP hD hS rfl hl.1 rfl (Nat.le_of_ble_eq_true rfl) dX3_isMadePlace_13 ⟨Nat.zero_le _, Nat.zero_le _⟩) (fun r4 wr4 H locs h5 hP hD hS => ?_)
    obtain ⟨rfl, rfl⟩ := h5
    refine lv_if_eq (tgt := 23) hx hb dX3_isMadePlace_16 (by decide) (fun c6 => ?_) (fun c6 => ?_)
    · have c6 := pb_z c6
      refine lv_iconst (v := nI 0) hx hb dX3_isMadePlace_23 (by decide) ?_
      exact Rz C hP hD hS (Nat.zero_le _) (Nat.zero_le _) rfl dX3_isMadePlace_24 (⟨(pb_f (fun ⟨g2, h1, h2, h3⟩ => by obtain rfl := nI_inj (by omega) (by omega) h2; exact c6 h3)).symm, rfl⟩)
    · have c6 := pb_nz c6
      refine lv_iconst (v := nI 1) hx hb dX3_isMadePlace_19 (by decide) ?_
      refine lv_goto (tgt := 24) hx hb dX3_isMadePlace_20 (by decide) ?_
      exact Rz C hP hD hS (Nat.zero_le _) (Nat.zero_le _) rfl dX3_isMadePlace_24 (⟨(pb_t ⟨g, hg, rfl, c6⟩).symm, rfl⟩)

set_option maxRecDepth 20000 in
theorem in_X3_weight_X3 : ∀ w ∈ u_ws RX3 TX3 8, w ∈ wsX3_weight := by decide +kernel
set_option maxRecDepth 20000 in
theorem lk_X3_weight_11 : Cond.fieldLink RX3 11 (TX3 0).1 (TX3 0).2.1 (TX3 0).2.2.1 ∈ wsX3_weight := by decide +kernel
set_option maxHeartbeats 4000000 in
set_option maxRecDepth 100000 in
theorem c_X3_weight (D : va_G) (k : Nat → ClassId) (t : Nat → Nat) (l : Launch) {ad : Nat → Nat} {N : Nat → Int32} {S Wt L : Nat → Nat → Int32} {T : Nat → Int32} {G : Nat → Nat → Int64} {E : Nat → Int32} {su pa tr sh : Nat → Int32} {pv : Int32} (hI : I3 S) (x1 x2 x3 x4 x5 : Int32) : Ci D k t l yX3_weight wsX3_weight ({ frames := 1, cells := 0, slots := 0, locals := 30 }) [.ref (ad 0), .int x1, .int x2, .int x3, .int x4, .int x5] (TBw ad k N S Wt L T G E su pa tr sh pv) (fun r w => (∃ g a1 a2 a3 : Nat, (g < 4 ∧ x1 = nI g ∧ RG 0 17 x5 ∧ a1 < 3 ∧ a2 < 3 ∧ a3 < 3 ∧ x2 = nI a1 ∧ x3 = nI a2 ∧ x4 = nI a3 ∧ HS (S g) x2 x3 x4 ∧ N g - Wt g (a1 + 3 * a2 + 9 * a3) + x5 ≤ 16) ∧ r = 1 ∧ w = TBw ad k (upd N g (N g - Wt g (a1 + 3 * a2 + 9 * a3) + x5)) S (va_up Wt g (upd (Wt g) (a1 + 3 * a2 + 9 * a3) x5)) L T G E su pa tr sh pv) ∨ ((∀ g a1 a2 a3 : Nat, ¬ (g < 4 ∧ x1 = nI g ∧ RG 0 17 x5 ∧ a1 < 3 ∧ a2 < 3 ∧ a3 < 3 ∧ x2 = nI a1 ∧ x3 = nI a2 ∧ x4 = nI a3 ∧ HS (S g) x2 x3 x4 ∧ N g - Wt g (a1 + 3 * a2 + 9 * a3) + x5 ≤ 16)) ∧ r = nI 0 ∧ w = TBw ad k N S Wt L T G E su pa tr sh pv)) 0 0 := by
  refine fw_of (cc := cX3_weight) (maxL := 6) (ret := (some .boolean)) (Qc := fun A => va_Qi (fun r w => (∃ g a1 a2 a3 : Nat, (g < 4 ∧ x1 = nI g ∧ RG 0 17 x5 ∧ a1 < 3 ∧ a2 < 3 ∧ a3 < 3 ∧ x2 = nI a1 ∧ x3 = nI a2 ∧ x4 = nI a3 ∧ HS (S g) x2 x3 x4 ∧ N g - Wt g (a1 + 3 * a2 + 9 * a3) + x5 ≤ 16) ∧ r = 1 ∧ w = TBw ad k (upd N g (N g - Wt g (a1 + 3 * a2 + 9 * a3) + x5)) S (va_up Wt g (upd (Wt g) (a1 + 3 * a2 + 9 * a3) x5)) L T G E su pa tr sh pv) ∨ ((∀ g a1 a2 a3 : Nat, ¬ (g < 4 ∧ x1 = nI g ∧ RG 0 17 x5 ∧ a1 < 3 ∧ a2 < 3 ∧ a3 < 3 ∧ x2 = nI a1 ∧ x3 = nI a2 ∧ x4 = nI a3 ∧ HS (S g) x2 x3 x4 ∧ N g - Wt g (a1 + 3 * a2 + 9 * a3) + x5 ≤ 16)) ∧ r = nI 0 ∧ w = TBw ad k N S Wt L T G E su pa tr sh pv)) (BcW D A) A) (by decide) rfl (Nat.le_of_ble_eq_true rfl) ?_
  intro p e s m below meth c A ls C hP hD hl
  have C : Cx RX3 "weight" cX3_weight 6 (some .boolean) wsX3_weight D k t A p s m ([.ref (ad 0), .int x1, .int x2, .int x3, .int x4, .int x5] : List Value).toArray meth c := C
  have hl : lv_has ls 6 [(0, .ref (ad 0)), (1, .int x1), (2, .int x2), (3, .int x3), (4, .int x4), (5, .int x5)] := hl
  have hx := C.1
  have hb := C.2.1
  have hown := C.2.2.2.2.1
  have hts := C.2.2.2.2.2.1
  have hK := C.2.2.2.2.2.2.2.2.1
  have hZ := C.2.2.2.2.2.2.2.2.2.1
  have hN := C.2.2.2.2.2.2.2.2.2.2
  have hS : va_S A s.heap s.heap [] := va_S.rf
  refine lv_iload_n hx hb dX3_weight_0 rfl (lv_at hl 1 rfl) ?_
  refine fw_i C hD hS (rn_S (As := [.int x1]) (rest := []) C (c_X3_isPlace D k t l x1 _) (va_cwS 1 hts gX3_weight_X3_isPlace rfl rfl rfl hdX3_isPlace ⟨Nat.le_of_ble_eq_true rfl, Nat.le_of_ble_eq_true rfl⟩) hP hD hS rfl hl.1 rfl (Nat.le_of_ble_eq_true rfl) dX3_weight_1 ⟨Nat.zero_le _, Nat.zero_le _⟩) (fun r1 wr1 H locs h2 hP hD hS => ?_)
  obtain ⟨rfl, rfl⟩ := h2
  refine lv_if_eq (tgt := 35) hx hb dX3_weight_4 (by decide) (fun c3 => ?_) (fun c3 => ?_)
  · have c3 := pb_z c3
    refine lv_iconst (v := nI 0) hx hb dX3_weight_35 (by decide) ?_
    exact Rz C hP hD hS (Nat.zero_le _) (Nat.zero_le _) rfl dX3_weight_36 (Or.inr ⟨fun g _ _ _ z => c3 ⟨g, Nat.zero_le _, z.1, z.2.1⟩, rfl, rfl⟩)
  · have c3 := pb_nz c3
    obtain ⟨g, h0g, hg, rfl⟩ := id c3
    refine lv_iload hx hb dX3_weight_7 (lv_at hl 5 rfl) ?_
    refine lv_if_lt (tgt := 35) hx hb dX3_weight_9 (by decide) (fun c4 => ?_) (fun c4 => ?_)
    · refine lv_iconst (v := nI 0) hx hb dX3_weight_35 (by decide) ?_
      exact Rz C hP hD hS (Nat.zero_le _) (Nat.zero_le _) rfl dX3_weight_36 (Or.inr ⟨fun g _ _ _ z => rg_lo (by decide) c4 z.2.2.1, rfl, rfl⟩)
    · refine lv_iload hx hb dX3_weight_12 (lv_at hl 5 rfl) ?_
      refine lv_bipush (v := nI 16) hx hb dX3_weight_14 (by decide) ?_
      refine lv_icmp_gt (tgt := 35) hx hb dX3_weight_16 (by decide) (fun c5 => ?_) (fun c5 => ?_)
      · refine lv_iconst (v := nI 0) hx hb dX3_weight_35 (by decide) ?_
        exact Rz C hP hD hS (Nat.zero_le _) (Nat.zero_le _) rfl dX3_weight_36 (Or.inr ⟨fun g _ _ _ z => rg_hi' (by decide) c5 z.2.2.1, rfl, rfl⟩)
      · refine lv_aload_n hx hb dX3_weight_19 rfl (lv_at hl 0 rfl) ?_
        refine fg C hP 0 tb_o (ci := 3) rfl 0 (by decide) in_X3_weight_X3 lk_X3_weight_11 (v := .ref (ad 1)) rfl dX3_weight_20 ?_
        refine lv_iload_n hx hb dX3_weight_23 rfl (lv_at hl 1 rfl) ?_
        refine ar_q C hP 1 tb_ws (j := g) (v := .ref (ad (2 + 3 * g))) rfl (by omega) (by decide) dX3_weight_24 ?_
        refine lv_iload_n hx hb dX3_weight_25 rfl (lv_at hl 2 rfl) ?_
        refine lv_iload_n hx hb dX3_weight_26 rfl (lv_at hl 3 rfl) ?_
        refine lv_iload hx hb dX3_weight_27 (lv_at hl 4 rfl) ?_
        refine fw_i C hD hS (rn_VN (As := [.int x2, .int x3, .int x4]) (rest := []) (host := RX3) (C2 := RX2) C (c_hasSP D k t l x2 x3 x4 hg _) (va_cnB 3 hts gX3_weight_X2_hasSetting_n56 rfl rfl rfl (hN.1 (RX3, 56, yX2_hasSetting) (List.mem_of_getElem? (i := 4) rfl)) (hts (.initialized RX2) (by decide +kernel)) hdX2_hasSetting ⟨Nat.le_of_ble_eq_true rfl, Nat.le_of_ble_eq_true rfl⟩) (hts (.instanceMethod yX2_hasSetting) (by decide +kernel)) (hts (.selects RX2 yX2_hasSetting yX2_hasSetting) (by decide +kernel)) (2 + 3 * g) 2 rfl (tb_w hg) rfl hP hD hS rfl hl.1 rfl (Nat.le_of_ble_eq_true rfl) dX3_weight_29 ⟨Nat.zero_le _, Nat.zero_le _⟩) (fun r6 wr6 H locs h7 hP hD hS => ?_)
        obtain ⟨rfl, rfl⟩ := h7
        refine lv_if_ne (tgt := 37) hx hb dX3_weight_32 (by decide) (fun c8 => ?_) (fun c8 => ?_)
        · have c8 := pb_nz c8
          obtain ⟨a1, a2, a3, ha1, ha2, ha3, rfl, rfl, rfl⟩ := HS_n hI hg c8
          refine lv_aload_n hx hb dX3_weight_37 rfl (lv_at hl 0 rfl) ?_
          refine fg C hP 0 tb_o (ci := 3) rfl 0 (by decide) in_X3_weight_X3 lk_X3_weight_11 (v := .ref (ad 1)) rfl dX3_weight_38 ?_
          refine lv_iload_n hx hb dX3_weight_41 rfl (lv_at hl 1 rfl) ?_
          refine ar_q C hP 1 tb_ws (j := g) (v := .ref (ad (2 + 3 * g))) rfl (by omega) (by decide) dX3_weight_42 ?_
          refine lv_iload_n hx hb dX3_weight_43 rfl (lv_at hl 2 rfl) ?_
          refine lv_iload_n hx hb dX3_weight_44 rfl (lv_at hl 3 rfl) ?_
          refine lv_iload hx hb dX3_weight_45 (lv_at hl 4 rfl) ?_
          refine fw_i C hD hS (rn_S (As := [.int (nI a1), .int (nI a2), .int (nI a3)]) (rest := [.ref (ad (2 + 3 * g))]) C (c_settingOf D k t l a1 a2 a3 _) (va_cwS 3 hts gX3_weight_X3_settingOf rfl rfl rfl hdX3_settingOf ⟨Nat.le_of_ble_eq_true rfl, Nat.le_of_ble_eq_true rfl⟩) hP hD hS rfl hl.1 rfl (Nat.le_of_ble_eq_true rfl) dX3_weight_47 ⟨Nat.zero_le _, Nat.zero_le _⟩) (fun r9 wr9 H locs h10 hP hD hS => ?_)
          obtain ⟨rfl, rfl⟩ := h10
          refine lv_iload hx hb dX3_weight_50 (lv_at hl 5 rfl) ?_
          have hpt := c_X2_put D k t l (ad := ad) (N := N) (S := S) (Wt := Wt) (L := L) (T := T) (G := G) (E := E) (su := su) (pa := pa) (tr := tr) (sh := sh) (pv := pv) hg (show (a1 + 3 * a2 + 9 * a3) < 27 by omega) x5
          by_cases hq : N g - Wt g (a1 + 3 * a2 + 9 * a3) + x5 ≤ 16
          · rw [f_put, if_pos hq, if_pos hq] at hpt
            refine fw_i C hD hS (rn_VN (As := [.int (nI (a1 + 3 * a2 + 9 * a3)), .int x5]) (rest := []) (host := RX3) (C2 := RX2) C (hpt _) (va_cnB 2 hts gX3_weight_X2_put_n64 rfl rfl rfl (hN.1 (RX3, 64, yX2_put) (List.mem_of_getElem? (i := 5) rfl)) (hts (.initialized RX2) (by decide +kernel)) hdX2_put ⟨Nat.le_of_ble_eq_true rfl, Nat.le_of_ble_eq_true rfl⟩) (hts (.instanceMethod yX2_put) (by decide +kernel)) (hts (.selects RX2 yX2_put yX2_put) (by decide +kernel)) (2 + 3 * g) 2 rfl (tb_w hg) rfl hP hD hS rfl hl.1 rfl (Nat.le_of_ble_eq_true rfl) dX3_weight_52 ⟨Nat.zero_le _, Nat.zero_le _⟩) (fun r11 wr11 H locs h12 hP hD hS => ?_)
            obtain ⟨rfl, rfl⟩ := h12
            exact Rz C hP hD hS (Nat.zero_le _) (Nat.zero_le _) rfl dX3_weight_55 (Or.inl ⟨g, a1, a2, a3, ⟨hg, rfl, rg_in' (by decide) (by decide) c4 c5, ha1, ha2, ha3, rfl, rfl, rfl, c8, hq⟩, rfl, rfl⟩)
          · rw [f_put, if_neg hq, if_neg hq] at hpt
            refine fw_i C hD hS (rn_VN (As := [.int (nI (a1 + 3 * a2 + 9 * a3)), .int x5]) (rest := []) (host := RX3) (C2 := RX2) C (hpt _) (va_cnB 2 hts gX3_weight_X2_put_n64 rfl rfl rfl (hN.1 (RX3, 64, yX2_put) (List.mem_of_getElem? (i := 5) rfl)) (hts (.initialized RX2) (by decide +kernel)) hdX2_put ⟨Nat.le_of_ble_eq_true rfl, Nat.le_of_ble_eq_true rfl⟩) (hts (.instanceMethod yX2_put) (by decide +kernel)) (hts (.selects RX2 yX2_put yX2_put) (by decide +kernel)) (2 + 3 * g) 2 rfl (tb_w hg) rfl hP hD hS rfl hl.1 rfl (Nat.le_of_ble_eq_true rfl) dX3_weight_52 ⟨Nat.zero_le _, Nat.zero_le _⟩) (fun r13 wr13 H locs h14 hP hD hS => ?_)
            obtain ⟨rfl, rfl⟩ := h14
            exact Rz C hP hD hS (Nat.zero_le _) (Nat.zero_le _) rfl dX3_weight_55 (Or.inr ⟨fun g2 b1 b2 b3 z => by obtain ⟨z1, z2, z3, z4, z5, z6, z7, z8, z9, z10, z11⟩ := z; obtain rfl := nI_inj (by omega) (by omega) z2; obtain rfl := nI_inj (by omega) (by omega) z7; obtain rfl := nI_inj (by omega) (by omega) z8; obtain rfl := nI_inj (by omega) (by omega) z9; exact hq z11, rfl, rfl⟩)
        · have c8 := pb_z c8
          refine lv_iconst (v := nI 0) hx hb dX3_weight_35 (by decide) ?_
          exact Rz C hP hD hS (Nat.zero_le _) (Nat.zero_le _) rfl dX3_weight_36 (Or.inr ⟨fun g2 b1 b2 b3 z => by obtain ⟨z1, z2, z3, z4, z5, z6, z7, z8, z9, z10, z11⟩ := z; obtain rfl := nI_inj (by omega) (by omega) z2; exact c8 z10, rfl, rfl⟩)

