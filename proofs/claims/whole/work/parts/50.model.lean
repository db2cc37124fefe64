/-! the reference -/
theorem in_rg {lo hi : Nat} {x : Int32} (hl : lo < 2 ^ 31) (hh : hi + 1 < 2 ^ 31) : (¬ x < nI lo ∧ ¬ nI hi < x) ↔ RG lo (hi + 1) x :=
  ⟨fun h => rg_in' hl hh h.1 h.2, fun h => ⟨fun q => rg_lo hh q h, fun q => rg_hi' hh q h⟩⟩
set_option maxHeartbeats 4000000 in
set_option maxRecDepth 100000 in
theorem c_X4_isIn (D : va_G) (k : Nat → ClassId) (t : Nat → Nat) (l : Launch) {ws : va_W} (x1 x2 x3 : Int32) : Ci D k t l yX4_isIn wsX4_isIn ({ frames := 0, cells := 0, slots := 0, locals := 0 }) [.int x1, .int x2, .int x3] (ws) (fun r w => r = pb (¬ x1 < x2 ∧ ¬ x3 < x1) ∧ w = ws) 0 0 := by
  refine fw_of (cc := cX4_isIn) (maxL := 3) (ret := (some .boolean)) (Qc := fun A => va_Qi (fun r w => r = pb (¬ x1 < x2 ∧ ¬ x3 < x1) ∧ w = ws) (BcW D A) A) (by decide) rfl (Nat.le_of_ble_eq_true rfl) ?_
  intro p e s m below meth c A ls C hP hD hl
  have C : Cx RX4 "isIn" cX4_isIn 3 (some .boolean) wsX4_isIn D k t A p s m ([.int x1, .int x2, .int x3] : List Value).toArray meth c := C
  have hl : lv_has ls 3 [(0, .int x1), (1, .int x2), (2, .int x3)] := hl
  have hx := C.1
  have hb := C.2.1
  have hown := C.2.2.2.2.1
  have hts := C.2.2.2.2.2.1
  have hK := C.2.2.2.2.2.2.2.2.1
  have hZ := C.2.2.2.2.2.2.2.2.2.1
  have hN := C.2.2.2.2.2.2.2.2.2.2
  have hS : va_S A s.heap s.heap [] := va_S.rf
  refine lv_iload_n hx hb dX4_isIn_0 rfl (lv_at hl 0 rfl) ?_
  refine lv_iload_n hx hb dX4_isIn_1 rfl (lv_at hl 1 rfl) ?_
  refine lv_icmp_lt (tgt := 14) hx hb dX4_isIn_2 (by decide) (fun c1 => ?_) (fun c1 => ?_)
  · refine lv_iconst (v := nI 0) hx hb dX4_isIn_14 (by decide) ?_
    exact Rz C hP hD hS (Nat.zero_le _) (Nat.zero_le _) rfl dX4_isIn_15 (⟨(pb_f (fun h => h.1 c1)).symm, rfl⟩)
  · refine lv_iload_n hx hb dX4_isIn_5 rfl (lv_at hl 0 rfl) ?_
    refine lv_iload_n hx hb dX4_isIn_6 rfl (lv_at hl 2 rfl) ?_
    refine lv_icmp_gt (tgt := 14) hx hb dX4_isIn_7 (by decide) (fun c2 => ?_) (fun c2 => ?_)
    · refine lv_iconst (v := nI 0) hx hb dX4_isIn_14 (by decide) ?_
      exact Rz C hP hD hS (Nat.zero_le _) (Nat.zero_le _) rfl dX4_isIn_15 (⟨(pb_f (fun h => h.2 c2)).symm, rfl⟩)
    · refine lv_iconst (v := nI 1) hx hb dX4_isIn_10 (by decide) ?_
      refine lv_goto (tgt := 15) hx hb dX4_isIn_11 (by decide) ?_
      exact Rz C hP hD hS (Nat.zero_le _) (Nat.zero_le _) rfl dX4_isIn_15 (⟨(pb_t ⟨c1, c2⟩).symm, rfl⟩)

theorem c_isInR (D : va_G) (k : Nat → ClassId) (t : Nat → Nat) (l : Launch) {ws : va_W} {lo hi : Nat} (x1 : Int32) (hl : lo < 2 ^ 31) (hh : hi + 1 < 2 ^ 31) : Ci D k t l yX4_isIn wsX4_isIn ({ frames := 0, cells := 0, slots := 0, locals := 0 }) [.int x1, .int (nI lo), .int (nI hi)] ws (fun r w => r = pb (RG lo (hi + 1) x1) ∧ w = ws) 0 0 := by
  have h := c_X4_isIn D k t l (ws := ws) x1 (nI lo) (nI hi)
  rw [pb_iff (in_rg hl hh)] at h
  exact h
set_option maxHeartbeats 4000000 in
set_option maxRecDepth 100000 in
theorem c_X4_isPlace (D : va_G) (k : Nat → ClassId) (t : Nat → Nat) (l : Launch) {ws : va_W} (x1 : Int32) : Ci D k t l yX4_isPlace wsX4_isPlace ({ frames := 1, cells := 0, slots := 0, locals := 30 }) [.int x1] (ws) (fun r w => r = pb (RG 0 4 x1) ∧ w = ws) 0 0 := by
  refine fw_of (cc := cX4_isPlace) (maxL := 1) (ret := (some .boolean)) (Qc := fun A => va_Qi (fun r w => r = pb (RG 0 4 x1) ∧ w = ws) (BcW D A) A) (by decide) rfl (Nat.le_of_ble_eq_true rfl) ?_
  intro p e s m below meth c A ls C hP hD hl
  have C : Cx RX4 "isPlace" cX4_isPlace 1 (some .boolean) wsX4_isPlace D k t A p s m ([.int x1] : List Value).toArray meth c := C
  have hl : lv_has ls 1 [(0, .int x1)] := hl
  have hx := C.1
  have hb := C.2.1
  have hown := C.2.2.2.2.1
  have hts := C.2.2.2.2.2.1
  have hK := C.2.2.2.2.2.2.2.2.1
  have hZ := C.2.2.2.2.2.2.2.2.2.1
  have hN := C.2.2.2.2.2.2.2.2.2.2
  have hS : va_S A s.heap s.heap [] := va_S.rf
  refine lv_iload_n hx hb dX4_isPlace_0 rfl (lv_at hl 0 rfl) ?_
  refine lv_iconst (v := nI 0) hx hb dX4_isPlace_1 (by decide) ?_
  refine lv_iconst (v := nI 3) hx hb dX4_isPlace_2 (by decide) ?_
  refine fw_i C hD hS (rn_S (As := [.int x1, .int (nI 0), .int (nI 3)]) (rest := []) C (c_isInR D k t l (lo := 0) (hi := 3) x1 (by decide) (by decide) _) (va_cwS 3 hts gX4_isPlace_X4_isIn rfl rfl rfl hdX4_isIn ⟨Nat.le_of_ble_eq_true rfl, Nat.le_of_ble_eq_true rfl⟩) hP hD hS rfl hl.1 rfl (Nat.le_of_ble_eq_true rfl) dX4_isPlace_3 ⟨Nat.zero_le _, Nat.zero_le _⟩) (fun r1 wr1 H locs h2 hP hD hS => ?_)
  obtain ⟨rfl, hw0⟩ := h2
  obtain rfl := hw0.symm
  exact Rz C hP hD hS (Nat.zero_le _) (Nat.zero_le _) (pb_nar _) dX4_isPlace_6 (⟨rfl, rfl⟩)

set_option maxHeartbeats 4000000 in
set_option maxRecDepth 100000 in
theorem c_X4_isLaw (D : va_G) (k : Nat → ClassId) (t : Nat → Nat) (l : Launch) {ws : va_W} (x1 : Int32) : Ci D k t l yX4_isLaw wsX4_isLaw ({ frames := 1, cells := 0, slots := 0, locals := 30 }) [.int x1] (ws) (fun r w => r = pb (RG 0 10 x1) ∧ w = ws) 0 0 := by
  refine fw_of (cc := cX4_isLaw) (maxL := 1) (ret := (some .boolean)) (Qc := fun A => va_Qi (fun r w => r = pb (RG 0 10 x1) ∧ w = ws) (BcW D A) A) (by decide) rfl (Nat.le_of_ble_eq_true rfl) ?_
  intro p e s m below meth c A ls C hP hD hl
  have C : Cx RX4 "isLaw" cX4_isLaw 1 (some .boolean) wsX4_isLaw D k t A p s m ([.int x1] : List Value).toArray meth c := C
  have hl : lv_has ls 1 [(0, .int x1)] := hl
  have hx := C.1
  have hb := C.2.1
  have hown := C.2.2.2.2.1
  have hts := C.2.2.2.2.2.1
  have hK := C.2.2.2.2.2.2.2.2.1
  have hZ := C.2.2.2.2.2.2.2.2.2.1
  have hN := C.2.2.2.2.2.2.2.2.2.2
  have hS : va_S A s.heap s.heap [] := va_S.rf
  refine lv_iload_n hx hb dX4_isLaw_0 rfl (lv_at hl 0 rfl) ?_
  refine lv_iconst (v := nI 0) hx hb dX4_isLaw_1 (by decide) ?_
  refine lv_bipush (v := nI 9) hx hb dX4_isLaw_2 (by decide) ?_
  refine fw_i C hD hS (rn_S (As := [.int x1, .int (nI 0), .int (nI 9)]) (rest := []) C (c_isInR D k t l (lo := 0) (hi := 9) x1 (by decide) (by decide) _) (va_cwS 3 hts gX4_isLaw_X4_isIn rfl rfl rfl hdX4_isIn ⟨Nat.le_of_ble_eq_true rfl, Nat.le_of_ble_eq_true rfl⟩) hP hD hS rfl hl.1 rfl (Nat.le_of_ble_eq_true rfl) dX4_isLaw_4 ⟨Nat.zero_le _, Nat.zero_le _⟩) (fun r1 wr1 H locs h2 hP hD hS => ?_)
  obtain ⟨rfl, hw0⟩ := h2
  obtain rfl := hw0.symm
  exact Rz C hP hD hS (Nat.zero_le _) (Nat.zero_le _) (pb_nar _) dX4_isLaw_7 (⟨rfl, rfl⟩)

set_option maxRecDepth 20000 in
theorem in_X4_isMade_X4 : ∀ w ∈ u_ws RX4 TX4 15, w ∈ wsX4_isMade := by decide +kernel
set_option maxRecDepth 20000 in
theorem lk_X4_isMade_16 : Cond.fieldLink RX4 16 (TX4 2).1 (TX4 2).2.1 (TX4 2).2.2.1 ∈ wsX4_isMade := by decide +kernel
set_option maxHeartbeats 4000000 in
set_option maxRecDepth 100000 in
theorem c_X4_isMade (D : va_G) (k : Nat → ClassId) (t : Nat → Nat) (l : Launch) {bd : Nat → Nat} {st wt sm nu po sh up lo : Nat → Int32} {li : Int32} {ro so un to : Nat → Int64} {it : Int32} (x1 : Int32) : Ci D k t l yX4_isMade wsX4_isMade ({ frames := 2, cells := 0, slots := 0, locals := 60 }) [.ref (bd 0), .int x1] (MWw bd k st wt sm nu po sh up lo li ro so un to it) (fun r w => r = pb (MP sm x1) ∧ w = MWw bd k st wt sm nu po sh up lo li ro so un to it) 0 0 := by
  refine fw_of (cc := cX4_isMade) (maxL := 2) (ret := (some .boolean)) (Qc := fun A => va_Qi (fun r w => r = pb (MP sm x1) ∧ w = MWw bd k st wt sm nu po sh up lo li ro so un to it) (BcW D A) A) (by decide) rfl (Nat.le_of_ble_eq_true rfl) ?_
  intro p e s m below meth c A ls C hP hD hl
  have C : Cx RX4 "isMade" cX4_isMade 2 (some .boolean) wsX4_isMade D k t A p s m ([.ref (bd 0), .int x1] : List Value).toArray meth c := C
  have hl : lv_has ls 2 [(0, .ref (bd 0)), (1, .int x1)] := hl
  have hx := C.1
  have hb := C.2.1
  have hown := C.2.2.2.2.1
  have hts := C.2.2.2.2.2.1
  have hK := C.2.2.2.2.2.2.2.2.1
  have hZ := C.2.2.2.2.2.2.2.2.2.1
  have hN := C.2.2.2.2.2.2.2.2.2.2
  have hS : va_S A s.heap s.heap [] := va_S.rf
  refine lv_iload_n hx hb dX4_isMade_0 rfl (lv_at hl 1 rfl) ?_
  refine fw_i C hD hS (rn_S (As := [.int x1]) (rest := []) C (c_X4_isPlace D k t l x1 _) (va_cwS 1 hts gX4_isMade_X4_isPlace rfl rfl rfl hdX4_isPlace ⟨Nat.le_of_ble_eq_true rfl, Nat.le_of_ble_eq_true rfl⟩) hP hD hS rfl hl.1 rfl (Nat.le_of_ble_eq_true rfl) dX4_isMade_1 ⟨Nat.zero_le _, Nat.zero_le _⟩) (fun r1 wr1 H locs h2 hP hD hS => ?_)
  obtain ⟨rfl, rfl⟩ := h2
  refine lv_if_eq (tgt := 20) hx hb dX4_isMade_4 (by decide) (fun c3 => ?_) (fun c3 => ?_)
  · have c3 := pb_z c3
    refine lv_iconst (v := nI 0) hx hb dX4_isMade_20 (by decide) ?_
    exact Rz C hP hD hS (Nat.zero_le _) (Nat.zero_le _) rfl dX4_isMade_21 (⟨(pb_f (fun ⟨g, h1, h2, _⟩ => c3 ⟨g, Nat.zero_le _, h1, h2⟩)).symm, rfl⟩)
  · have c3 := pb_nz c3
    obtain ⟨g, h0g, hg, rfl⟩ := id c3
    refine lv_aload_n hx hb dX4_isMade_7 rfl (lv_at hl 0 rfl) ?_
    refine fg C hP 0 mw_o (ci := 4) rfl 2 (by decide) in_X4_isMade_X4 lk_X4_isMade_16 (v := .ref (bd 3)) rfl dX4_isMade_8 ?_
    refine lv_iload_n hx hb dX4_isMade_11 rfl (lv_at hl 1 rfl) ?_
    refine ar_i C hP 3 mw_sm (j := g) (by omega) (by decide) dX4_isMade_12 ?_
    refine lv_if_le (tgt := 20) hx hb dX4_isMade_13 (by decide) (fun c4 => ?_) (fun c4 => ?_)
    · refine lv_iconst (v := nI 0) hx hb dX4_isMade_20 (by decide) ?_
      exact Rz C hP hD hS (Nat.zero_le _) (Nat.zero_le _) rfl dX4_isMade_21 (⟨(pb_f (fun ⟨g2, h1, h2, h3⟩ => by obtain rfl := nI_inj (by omega) (by omega) h2; exact h3 c4)).symm, rfl⟩)
    · refine lv_iconst (v := nI 1) hx hb dX4_isMade_16 (by decide) ?_
      refine lv_goto (tgt := 21) hx hb dX4_isMade_17 (by decide) ?_
      exact Rz C hP hD hS (Nat.zero_le _) (Nat.zero_le _) rfl dX4_isMade_21 (⟨(pb_t ⟨g, hg, rfl, c4⟩).symm, rfl⟩)

def wz (w : Nat → Int32) (g i : Nat) : Nat → Int32 := fun q => if 27 * g ≤ q ∧ q < 27 * g + i then nI 0 else w q
theorem wz_0 (w : Nat → Int32) (g : Nat) : wz w g 0 = w := by
  funext q
  have : ¬ (27 * g ≤ q ∧ q < 27 * g + 0) := by omega
  exact if_neg this
theorem wz_s (w : Nat → Int32) (g i : Nat) : upd (wz w g i) (27 * g + i) (nI 0) = wz w g (i + 1) := by
  funext q
  by_cases h : q = 27 * g + i
  · subst h
    have : 27 * g ≤ 27 * g + i ∧ 27 * g + i < 27 * g + (i + 1) := by omega
    simp [upd, wz, this]
  · have : (27 * g ≤ q ∧ q < 27 * g + (i + 1)) = (27 * g ≤ q ∧ q < 27 * g + i) := by apply propext; omega
    simp [upd, wz, h, this]
set_option maxRecDepth 20000 in
theorem in_X4_world_X4 : ∀ w ∈ u_ws RX4 TX4 15, w ∈ wsX4_world := by decide +kernel
set_option maxRecDepth 20000 in
theorem lk_X4_world_7 : Cond.fieldLink RX4 7 (TX4 0).1 (TX4 0).2.1 (TX4 0).2.2.1 ∈ wsX4_world := by decide +kernel
set_option maxRecDepth 20000 in
theorem lk_X4_world_16 : Cond.fieldLink RX4 16 (TX4 2).1 (TX4 2).2.1 (TX4 2).2.2.1 ∈ wsX4_world := by decide +kernel
set_option maxRecDepth 20000 in
theorem lk_X4_world_13 : Cond.fieldLink RX4 13 (TX4 1).1 (TX4 1).2.1 (TX4 1).2.2.1 ∈ wsX4_world := by decide +kernel
set_option maxHeartbeats 4000000 in
set_option maxRecDepth 100000 in
theorem c_X4_world (D : va_G) (k : Nat → ClassId) (t : Nat → Nat) (l : Launch) {bd : Nat → Nat} {st wt sm nu po sh up lo : Nat → Int32} {li : Int32} {ro so un to : Nat → Int64} {it : Int32} (x1 x2 x3 x4 : Int32) : Ci D k t l yX4_world wsX4_world ({ frames := 2, cells := 0, slots := 0, locals := 60 }) [.ref (bd 0), .int x1, .int x2, .int x3, .int x4] (MWw bd k st wt sm nu po sh up lo li ro so un to it) (fun r w => (∃ ga : Nat, (ga < 4 ∧ x1 = nI ga ∧ RG 1 4 x2 ∧ RG 1 4 x3 ∧ RG 1 4 x4) ∧ r = nI 1 ∧ w = MWw bd k (upd (upd (upd st (3 * ga) x2) (3 * ga + 1) x3) (3 * ga + 2) x4) (wz wt ga 27) (upd sm ga (nI 0)) nu po sh up lo li ro so un to it) ∨ ((∀ ga : Nat, ¬ (ga < 4 ∧ x1 = nI ga ∧ RG 1 4 x2 ∧ RG 1 4 x3 ∧ RG 1 4 x4)) ∧ r = nI 0 ∧ w = MWw bd k st wt sm nu po sh up lo li ro so un to it)) 0 0 := by
  refine fw_of (cc := cX4_world) (maxL := 6) (ret := (some .boolean)) (Qc := fun A => va_Qi (fun r w => (∃ ga : Nat, (ga < 4 ∧ x1 = nI ga ∧ RG 1 4 x2 ∧ RG 1 4 x3 ∧ RG 1 4 x4) ∧ r = nI 1 ∧ w = MWw bd k (upd (upd (upd st (3 * ga) x2) (3 * ga + 1) x3) (3 * ga + 2) x4) (wz wt ga 27) (upd sm ga (nI 0)) nu po sh up lo li ro so un to it) ∨ ((∀ ga : Nat, ¬ (ga < 4 ∧ x1 = nI ga ∧ RG 1 4 x2 ∧ RG 1 4 x3 ∧ RG 1 4 x4)) ∧ r = nI 0 ∧ w = MWw bd k st wt sm nu po sh up lo li ro so un to it)) (BcW D A) A) (by decide) rfl (Nat.le_of_ble_eq_true rfl) ?_
  intro p e s m below meth c A ls C hP hD hl
  have C : Cx RX4 "world" cX4_world 6 (some .boolean) wsX4_world D k t A p s m ([.ref (bd 0), .int x1, .int x2, .int x3, .int x4] : List Value).toArray meth c := C
  have hl : lv_has ls 6 [(0, .ref (bd 0)), (1, .int x1), (2, .int x2), (3, .int x3), (4, .int x4)] := hl
  have hx := C.1
  have hb := C.2.1
  have hown := C.2.2.2.2.1
  have hts := C.2.2.2.2.2.1
  have hK := C.2.2.2.2.2.2.2.2.1
  have hZ := C.2.2.2.2.2.2.2.2.2.1
  have hN := C.2.2.2.2.2.2.2.2.2.2
  have hS : va_S A s.heap s.heap [] := va_S.rf
  refine lv_iload_n hx hb dX4_world_0 rfl (lv_at hl 1 rfl) ?_
  refine fw_i C hD hS (rn_S (As := [.int x1]) (rest := []) C (c_X4_isPlace D k t l x1 _) (va_cwS 1 hts gX4_world_X4_isPlace rfl rfl rfl hdX4_isPlace ⟨Nat.le_of_ble_eq_true rfl, Nat.le_of_ble_eq_true rfl⟩) hP hD hS rfl hl.1 rfl (Nat.le_of_ble_eq_true rfl) dX4_world_1 ⟨Nat.zero_le _, Nat.zero_le _⟩) (fun r1 wr1 H locs h2 hP hD hS => ?_)
  obtain ⟨rfl, rfl⟩ := h2
  refine lv_if_eq (tgt := 35) hx hb dX4_world_4 (by decide) (fun c3 => ?_) (fun c3 => ?_)
  · have c3 := pb_z c3
    refine lv_iconst (v := nI 0) hx hb dX4_world_35 (by decide) ?_
    exact Rz C hP hD hS (Nat.zero_le _) (Nat.zero_le _) rfl dX4_world_36 (Or.inr ⟨fun g h => c3 ⟨g, Nat.zero_le _, h.1, h.2.1⟩, rfl, rfl⟩)
  · have c3 := pb_nz c3
    obtain ⟨g, h0g, hg, rfl⟩ := id c3
    refine lv_iload_n hx hb dX4_world_7 rfl (lv_at hl 2 rfl) ?_
    refine lv_iconst (v := nI 1) hx hb dX4_world_8 (by decide) ?_
    refine lv_iconst (v := nI 3) hx hb dX4_world_9 (by decide) ?_
    refine fw_i C hD hS (rn_S (As := [.int x2, .int (nI 1), .int (nI 3)]) (rest := []) C (c_isInR D k t l (lo := 1) (hi := 3) x2 (by decide) (by decide) _) (va_cwS 3 hts gX4_world_X4_isIn rfl rfl rfl hdX4_isIn ⟨Nat.le_of_ble_eq_true rfl, Nat.le_of_ble_eq_true rfl⟩) hP hD hS rfl hl.1 rfl (Nat.le_of_ble_eq_true rfl) dX4_world_10 ⟨Nat.zero_le _, Nat.zero_le _⟩) (fun r4 wr4 H locs h5 hP hD hS => ?_)
    obtain ⟨rfl, rfl⟩ := h5
    refine lv_if_eq (tgt := 35) hx hb dX4_world_13 (by decide) (fun c6 => ?_) (fun c6 => ?_)
    · have c6 := pb_z c6
      refine lv_iconst (v := nI 0) hx hb dX4_world_35 (by decide) ?_
      exact Rz C hP hD hS (Nat.zero_le _) (Nat.zero_le _) rfl dX4_world_36 (Or.inr ⟨fun _ h => c6 h.2.2.1, rfl, rfl⟩)
    · have c6 := pb_nz c6
      refine lv_iload_n hx hb dX4_world_16 rfl (lv_at hl 3 rfl) ?_
      refine lv_iconst (v := nI 1) hx hb dX4_world_17 (by decide) ?_
      refine lv_iconst (v := nI 3) hx hb dX4_world_18 (by decide) ?_
      refine fw_i C hD hS (rn_S (As := [.int x3, .int (nI 1), .int (nI 3)]) (rest := []) C (c_isInR D k t l (lo := 1) (hi := 3) x3 (by decide) (by decide) _) (va_cwS 3 hts gX4_world_X4_isIn rfl rfl rfl hdX4_isIn ⟨Nat.le_of_ble_eq_true rfl, Nat.le_of_ble_eq_true rfl⟩) hP hD hS rfl hl.1 rfl (Nat.le_of_ble_eq_true rfl) dX4_world_19 ⟨Nat.zero_le _, Nat.zero_le _⟩) (fun r7 wr7 H locs h8 hP hD hS => ?_)
      obtain ⟨rfl, rfl⟩ := h8
      refine lv_if_eq (tgt := 35) hx hb dX4_world_22 (by decide) (fun c9 => ?_) (fun c9 => ?_)
      · have c9 := pb_z c9
        refine lv_iconst (v := nI 0) hx hb dX4_world_35 (by decide) ?_
        exact Rz C hP hD hS (Nat.zero_le _) (Nat.zero_le _) rfl dX4_world_36 (Or.inr ⟨fun _ h => c9 h.2.2.2.1, rfl, rfl⟩)
      · have c9 := pb_nz c9
        refine lv_iload hx hb dX4_world_25 (lv_at hl 4 rfl) ?_
        refine lv_iconst (v := nI 1) hx hb dX4_world_27 (by decide) ?_
        refine lv_iconst (v := nI 3) hx hb dX4_world_28 (by decide) ?_
        refine fw_i C hD hS (rn_S (As := [.int x4, .int (nI 1), .int (nI 3)]) (rest := []) C (c_isInR D k t l (lo := 1) (hi := 3) x4 (by decide) (by decide) _) (va_cwS 3 hts gX4_world_X4_isIn rfl rfl rfl hdX4_isIn ⟨Nat.le_of_ble_eq_true rfl, Nat.le_of_ble_eq_true rfl⟩) hP hD hS rfl hl.1 rfl (Nat.le_of_ble_eq_true rfl) dX4_world_29 ⟨Nat.zero_le _, Nat.zero_le _⟩) (fun r10 wr10 H locs h11 hP hD hS => ?_)
        obtain ⟨rfl, rfl⟩ := h11
        refine lv_if_ne (tgt := 37) hx hb dX4_world_32 (by decide) (fun c12 => ?_) (fun c12 => ?_)
        · have c12 := pb_nz c12
          refine lv_aload_n hx hb dX4_world_37 rfl (lv_at hl 0 rfl) ?_
          refine fg C hP 0 mw_o (ci := 4) rfl 0 (by decide) in_X4_world_X4 lk_X4_world_7 (v := .ref (bd 1)) rfl dX4_world_38 ?_
          refine lv_iconst (v := nI 3) hx hb dX4_world_41 (by decide) ?_
          refine lv_iload_n hx hb dX4_world_42 rfl (lv_at hl 1 rfl) ?_
          refine lv_imul hx hb dX4_world_43 ?_
          refine tp_i (y := nI (3 * g)) (pk_mul _ _) ?_
          refine lv_iload_n hx hb dX4_world_44 rfl (lv_at hl 2 rfl) ?_
          refine as_i C hP hD hS 1 mw_st (j := (3 * g)) (by omega) (by decide) (mw_st_st _) dX4_world_45 (fun H locs hP hD hS => ?_)
          refine lv_aload_n hx hb dX4_world_46 rfl (lv_at hl 0 rfl) ?_
          refine fg C hP 0 mw_o (ci := 4) rfl 0 (by decide) in_X4_world_X4 lk_X4_world_7 (v := .ref (bd 1)) rfl dX4_world_47 ?_
          refine lv_iconst (v := nI 3) hx hb dX4_world_50 (by decide) ?_
          refine lv_iload_n hx hb dX4_world_51 rfl (lv_at hl 1 rfl) ?_
          refine lv_imul hx hb dX4_world_52 ?_
          refine tp_i (y := nI (3 * g)) (pk_mul _ _) ?_
          refine lv_iconst (v := nI 1) hx hb dX4_world_53 (by decide) ?_
          refine lv_iadd hx hb dX4_world_54 ?_
          refine tp_i (y := nI ((3 * g) + 1)) (nI_add _ _) ?_
          refine lv_iload_n hx hb dX4_world_55 rfl (lv_at hl 3 rfl) ?_
          refine as_i C hP hD hS 1 mw_st (j := ((3 * g) + 1)) (by omega) (by decide) (mw_st_st _) dX4_world_56 (fun H locs hP hD hS => ?_)
          refine lv_aload_n hx hb dX4_world_57 rfl (lv_at hl 0 rfl) ?_
          refine fg C hP 0 mw_o (ci := 4) rfl 0 (by decide) in_X4_world_X4 lk_X4_world_7 (v := .ref (bd 1)) rfl dX4_world_58 ?_
          refine lv_iconst (v := nI 3) hx hb dX4_world_61 (by decide) ?_
          refine lv_iload_n hx hb dX4_world_62 rfl (lv_at hl 1 rfl) ?_
          refine lv_imul hx hb dX4_world_63 ?_
          refine tp_i (y := nI (3 * g)) (pk_mul _ _) ?_
          refine lv_iconst (v := nI 2) hx hb dX4_world_64 (by decide) ?_
          refine lv_iadd hx hb dX4_world_65 ?_
          refine tp_i (y := nI ((3 * g) + 2)) (nI_add _ _) ?_
          refine lv_iload hx hb dX4_world_66 (lv_at hl 4 rfl) ?_
          refine as_i C hP hD hS 1 mw_st (j := ((3 * g) + 2)) (by omega) (by decide) (mw_st_st _) dX4_world_68 (fun H locs hP hD hS => ?_)
          refine lv_iconst (v := nI 0) hx hb dX4_world_69 (by decide) ?_
          refine lv_istore (lv' := [(5, .int (nI 0)), (0, .ref (bd 0)), (1, .int (nI g)), (2, .int x2), (3, .int x3), (4, .int x4)]) hx hb dX4_world_70 hl (by decide) rfl (fun ls hl => ?_)
          have L13 : ∀ (r i : Nat), i + r = 27 → ∀ (H : Heap) (locs : List Loc) (ls : Array Slot), va_P D vwCl (MWw bd k (upd (upd (upd st (3 * g) x2) (3 * g + 1) x3) (3 * g + 2) x4) (wz wt g i) sm nu po sh up lo li ro so un to it) H → va_D A (MWw bd k (upd (upd (upd st (3 * g) x2) (3 * g + 1) x3) (3 * g + 2) x4) (wz wt g i) sm nu po sh up lo li ro so un to it) → va_S A s.heap H locs → lv_has ls 6 [(0, .ref (bd 0)), (1, .int (nI g)), (5, .int (nI i))] → W p l e ({ frames := 2, cells := 0, slots := 0, locals := 60 }) s m ([.ref (bd 0), .int (nI g), .int x2, .int x3, .int x4] : List Value).toArray below meth c H locs 0 0 (MQ below (va_Qi (fun r w => (∃ ga : Nat, (ga < 4 ∧ (nI g) = nI ga ∧ RG 1 4 x2 ∧ RG 1 4 x3 ∧ RG 1 4 x4) ∧ r = nI 1 ∧ w = MWw bd k (upd (upd (upd st (3 * ga) x2) (3 * ga + 1) x3) (3 * ga + 2) x4) (wz wt ga 27) (upd sm ga (nI 0)) nu po sh up lo li ro so un to it) ∨ ((∀ ga : Nat, ¬ (ga < 4 ∧ (nI g) = nI ga ∧ RG 1 4 x2 ∧ RG 1 4 x3 ∧ RG 1 4 x4)) ∧ r = nI 0 ∧ w = MWw bd k st wt sm nu po sh up lo li ro so un to it)) (BcW D A) A) ([.ref (bd 0), .int (nI g), .int x2, .int x3, .int x4] : List Value).toArray s 0 0 A) (F0 m 72 ls []) := by
            intro r
            induction r with
            | zero =>
              intro i hr H locs ls hP hD hS hl
              obtain rfl : 27 = i := by omega
              refine lv_iload hx hb dX4_world_72 (lv_at hl 2 rfl) ?_
              refine lv_bipush (v := nI 27) hx hb dX4_world_74 (by decide) ?_
              refine lv_icmp_ge (tgt := 98) hx hb dX4_world_76 (by decide) (fun c14 => ?_) (fun c14 => absurd (nI_le (by omega) (by decide)) c14)
              refine lv_aload_n hx hb dX4_world_98 rfl (lv_at hl 0 rfl) ?_
              refine fg C hP 0 mw_o (ci := 4) rfl 2 (by decide) in_X4_world_X4 lk_X4_world_16 (v := .ref (bd 3)) rfl dX4_world_99 ?_
              refine lv_iload_n hx hb dX4_world_102 rfl (lv_at hl 1 rfl) ?_
              refine lv_iconst (v := nI 0) hx hb dX4_world_103 (by decide) ?_
              refine as_i C hP hD hS 3 mw_sm (j := g) (by omega) (by decide) (mw_sm_st _) dX4_world_104 (fun H locs hP hD hS => ?_)
              refine lv_iconst (v := nI 1) hx hb dX4_world_105 (by decide) ?_
              exact Rz C hP hD hS (Nat.zero_le _) (Nat.zero_le _) rfl dX4_world_106 (Or.inl ⟨g, ⟨hg, rfl, c6, c9, c12⟩, rfl, rfl⟩)
            | succ r ihL13 =>
              intro i hr H locs ls hP hD hS hl
              refine lv_iload hx hb dX4_world_72 (lv_at hl 2 rfl) ?_
              refine lv_bipush (v := nI 27) hx hb dX4_world_74 (by decide) ?_
              refine lv_icmp_ge (tgt := 98) hx hb dX4_world_76 (by decide) (fun c15 => absurd c15 (nI_ge (by omega) (by decide))) (fun c15 => ?_)
              refine lv_aload_n hx hb dX4_world_79 rfl (lv_at hl 0 rfl) ?_
              refine fg C hP 0 mw_o (ci := 4) rfl 1 (by decide) in_X4_world_X4 lk_X4_world_13 (v := .ref (bd 2)) rfl dX4_world_80 ?_
              refine lv_bipush (v := nI 27) hx hb dX4_world_83 (by decide) ?_
              refine lv_iload_n hx hb dX4_world_85 rfl (lv_at hl 1 rfl) ?_
              refine lv_imul hx hb dX4_world_86 ?_
              refine tp_i (y := nI (27 * g)) (pk_mul _ _) ?_
              refine lv_iload hx hb dX4_world_87 (lv_at hl 2 rfl) ?_
              refine lv_iadd hx hb dX4_world_89 ?_
              refine tp_i (y := nI ((27 * g) + i)) (nI_add _ _) ?_
              refine lv_iconst (v := nI 0) hx hb dX4_world_90 (by decide) ?_
              refine as_i C hP hD hS 2 mw_wt (j := ((27 * g) + i)) (by omega) (by decide) (mw_wt_st _) dX4_world_91 (fun H locs hP hD hS => ?_)
              refine lv_iinc (v := nI (i + 1)) (lv' := [(5, .int (nI (i + 1))), (0, .ref (bd 0)), (1, .int (nI g))]) hx hb dX4_world_92 hl (k := 2) rfl (by rw [← nI_add i 1]; rfl) (by decide) rfl (fun ls hl => ?_)
              refine lv_goto (tgt := 72) hx hb dX4_world_95 (by decide) ?_
              rw [wz_s] at hP hD
              exact ihL13 (i + 1) (by omega) _ _ _ hP hD hS (lv_sub hl [1, 2, 0] rfl)
          rw [← wz_0 wt g] at hP hD
          exact L13 (27 - 0) 0 (by omega) _ _ _ hP hD hS (lv_sub hl [1, 2, 0] rfl)
        · have c12 := pb_z c12
          refine lv_iconst (v := nI 0) hx hb dX4_world_35 (by decide) ?_
          exact Rz C hP hD hS (Nat.zero_le _) (Nat.zero_le _) rfl dX4_world_36 (Or.inr ⟨fun _ h => c12 h.2.2.2.2, rfl, rfl⟩)

def st3 (st : Nat → Int32) (g : Nat) : Nat → Int32 := fun j => st (3 * g + j)
def HSM (st : Nat → Int32) (x a b c : Int32) : Prop := ∃ g, g < 4 ∧ x = nI g ∧ HS (st3 st g) a b c
set_option maxRecDepth 20000 in
theorem in_X4_isSetting_X4 : ∀ w ∈ u_ws RX4 TX4 15, w ∈ wsX4_isSetting := by decide +kernel
set_option maxRecDepth 20000 in
theorem lk_X4_isSetting_7 : Cond.fieldLink RX4 7 (TX4 0).1 (TX4 0).2.1 (TX4 0).2.2.1 ∈ wsX4_isSetting := by decide +kernel
set_option maxHeartbeats 4000000 in
set_option maxRecDepth 100000 in
theorem c_X4_isSetting (D : va_G) (k : Nat → ClassId) (t : Nat → Nat) (l : Launch) {bd : Nat → Nat} {st wt sm nu po sh up lo : Nat → Int32} {li : Int32} {ro so un to : Nat → Int64} {it : Int32} (x1 x2 x3 x4 : Int32) : Ci D k t l yX4_isSetting wsX4_isSetting ({ frames := 2, cells := 0, slots := 0, locals := 60 }) [.ref (bd 0), .int x1, .int x2, .int x3, .int x4] (MWw bd k st wt sm nu po sh up lo li ro so un to it) (fun r w => r = pb (HSM st x1 x2 x3 x4) ∧ w = MWw bd k st wt sm nu po sh up lo li ro so un to it) 0 0 := by
  refine fw_of (cc := cX4_isSetting) (maxL := 5) (ret := (some .boolean)) (Qc := fun A => va_Qi (fun r w => r = pb (HSM st x1 x2 x3 x4) ∧ w = MWw bd k st wt sm nu po sh up lo li ro so un to it) (BcW D A) A) (by decide) rfl (Nat.le_of_ble_eq_true rfl) ?_
  intro p e s m below meth c A ls C hP hD hl
  have C : Cx RX4 "isSetting" cX4_isSetting 5 (some .boolean) wsX4_isSetting D k t A p s m ([.ref (bd 0), .int x1, .int x2, .int x3, .int x4] : List Value).toArray meth c := C
  have hl : lv_has ls 5 [(0, .ref (bd 0)), (1, .int x1), (2, .int x2), (3, .int x3), (4, .int x4)] := hl
  have hx := C.1
  have hb := C.2.1
  have hown := C.2.2.2.2.1
  have hts := C.2.2.2.2.2.1
  have hK := C.2.2.2.2.2.2.2.2.1
  have hZ := C.2.2.2.2.2.2.2.2.2.1
  have hN := C.2.2.2.2.2.2.2.2.2.2
  have hS : va_S A s.heap s.heap [] := va_S.rf
  refine lv_iload_n hx hb dX4_isSetting_0 rfl (lv_at hl 1 rfl) ?_
  refine fw_i C hD hS (rn_S (As := [.int x1]) (rest := []) C (c_X4_isPlace D k t l x1 _) (va_cwS 1 hts gX4_isSetting_X4_isPlace rfl rfl rfl hdX4_isPlace ⟨Nat.le_of_ble_eq_true rfl, Nat.le_of_ble_eq_true rfl⟩) hP hD hS rfl hl.1 rfl (Nat.le_of_ble_eq_true rfl) dX4_isSetting_1 ⟨Nat.zero_le _, Nat.zero_le _⟩) (fun r1 wr1 H locs h2 hP hD hS => ?_)
  obtain ⟨rfl, rfl⟩ := h2
  refine lv_if_eq (tgt := 65) hx hb dX4_isSetting_4 (by decide) (fun c3 => ?_) (fun c3 => ?_)
  · have c3 := pb_z c3
    refine lv_iconst (v := nI 0) hx hb dX4_isSetting_65 (by decide) ?_
    exact Rz C hP hD hS (Nat.zero_le _) (Nat.zero_le _) rfl dX4_isSetting_66 (⟨(pb_f (fun ⟨g, h1, h2, _⟩ => c3 ⟨g, Nat.zero_le _, h1, h2⟩)).symm, rfl⟩)
  · have c3 := pb_nz c3
    obtain ⟨g, h0g, hg, rfl⟩ := id c3
    refine lv_iload_n hx hb dX4_isSetting_7 rfl (lv_at hl 2 rfl) ?_
    refine lv_if_lt (tgt := 65) hx hb dX4_isSetting_8 (by decide) (fun c4 => ?_) (fun c4 => ?_)
    · refine lv_iconst (v := nI 0) hx hb dX4_isSetting_65 (by decide) ?_
      exact Rz C hP hD hS (Nat.zero_le _) (Nat.zero_le _) rfl dX4_isSetting_66 (⟨(pb_f (fun ⟨g2, h1, h2, h3⟩ => by obtain rfl := nI_inj (by omega) (by omega) h2; exact h3.1.1 c4)).symm, rfl⟩)
    · refine lv_iload_n hx hb dX4_isSetting_11 rfl (lv_at hl 3 rfl) ?_
      refine lv_if_lt (tgt := 65) hx hb dX4_isSetting_12 (by decide) (fun c5 => ?_) (fun c5 => ?_)
      · refine lv_iconst (v := nI 0) hx hb dX4_isSetting_65 (by decide) ?_
        exact Rz C hP hD hS (Nat.zero_le _) (Nat.zero_le _) rfl dX4_isSetting_66 (⟨(pb_f (fun ⟨g2, h1, h2, h3⟩ => by obtain rfl := nI_inj (by omega) (by omega) h2; exact h3.2.1.1 c5)).symm, rfl⟩)
      · refine lv_iload hx hb dX4_isSetting_15 (lv_at hl 4 rfl) ?_
        refine lv_if_lt (tgt := 65) hx hb dX4_isSetting_17 (by decide) (fun c6 => ?_) (fun c6 => ?_)
        · refine lv_iconst (v := nI 0) hx hb dX4_isSetting_65 (by decide) ?_
          exact Rz C hP hD hS (Nat.zero_le _) (Nat.zero_le _) rfl dX4_isSetting_66 (⟨(pb_f (fun ⟨g2, h1, h2, h3⟩ => by obtain rfl := nI_inj (by omega) (by omega) h2; exact h3.2.2.1 c6)).symm, rfl⟩)
        · refine lv_iload_n hx hb dX4_isSetting_20 rfl (lv_at hl 2 rfl) ?_
          refine lv_aload_n hx hb dX4_isSetting_21 rfl (lv_at hl 0 rfl) ?_
          refine fg C hP 0 mw_o (ci := 4) rfl 0 (by decide) in_X4_isSetting_X4 lk_X4_isSetting_7 (v := .ref (bd 1)) rfl dX4_isSetting_22 ?_
          refine lv_iconst (v := nI 3) hx hb dX4_isSetting_25 (by decide) ?_
          refine lv_iload_n hx hb dX4_isSetting_26 rfl (lv_at hl 1 rfl) ?_
          refine lv_imul hx hb dX4_isSetting_27 ?_
          refine tp_i (y := nI (3 * g)) (pk_mul _ _) ?_
          refine ar_i C hP 1 mw_st (j := (3 * g)) (by omega) (by decide) dX4_isSetting_28 ?_
          refine lv_icmp_ge (tgt := 65) hx hb dX4_isSetting_29 (by decide) (fun c7 => ?_) (fun c7 => ?_)
          · refine lv_iconst (v := nI 0) hx hb dX4_isSetting_65 (by decide) ?_
            exact Rz C hP hD hS (Nat.zero_le _) (Nat.zero_le _) rfl dX4_isSetting_66 (⟨(pb_f (fun ⟨g2, h1, h2, h3⟩ => by obtain rfl := nI_inj (by omega) (by omega) h2; exact h3.1.2 c7)).symm, rfl⟩)
          · refine lv_iload_n hx hb dX4_isSetting_32 rfl (lv_at hl 3 rfl) ?_
            refine lv_aload_n hx hb dX4_isSetting_33 rfl (lv_at hl 0 rfl) ?_
            refine fg C hP 0 mw_o (ci := 4) rfl 0 (by decide) in_X4_isSetting_X4 lk_X4_isSetting_7 (v := .ref (bd 1)) rfl dX4_isSetting_34 ?_
            refine lv_iconst (v := nI 3) hx hb dX4_isSetting_37 (by decide) ?_
            refine lv_iload_n hx hb dX4_isSetting_38 rfl (lv_at hl 1 rfl) ?_
            refine lv_imul hx hb dX4_isSetting_39 ?_
            refine tp_i (y := nI (3 * g)) (pk_mul _ _) ?_
            refine lv_iconst (v := nI 1) hx hb dX4_isSetting_40 (by decide) ?_
            refine lv_iadd hx hb dX4_isSetting_41 ?_
            refine tp_i (y := nI ((3 * g) + 1)) (nI_add _ _) ?_
            refine ar_i C hP 1 mw_st (j := ((3 * g) + 1)) (by omega) (by decide) dX4_isSetting_42 ?_
            refine lv_icmp_ge (tgt := 65) hx hb dX4_isSetting_43 (by decide) (fun c8 => ?_) (fun c8 => ?_)
            · refine lv_iconst (v := nI 0) hx hb dX4_isSetting_65 (by decide) ?_
              exact Rz C hP hD hS (Nat.zero_le _) (Nat.zero_le _) rfl dX4_isSetting_66 (⟨(pb_f (fun ⟨g2, h1, h2, h3⟩ => by obtain rfl := nI_inj (by omega) (by omega) h2; exact h3.2.1.2 c8)).symm, rfl⟩)
            · refine lv_iload hx hb dX4_isSetting_46 (lv_at hl 4 rfl) ?_
              refine lv_aload_n hx hb dX4_isSetting_48 rfl (lv_at hl 0 rfl) ?_
              refine fg C hP 0 mw_o (ci := 4) rfl 0 (by decide) in_X4_isSetting_X4 lk_X4_isSetting_7 (v := .ref (bd 1)) rfl dX4_isSetting_49 ?_
              refine lv_iconst (v := nI 3) hx hb dX4_isSetting_52 (by decide) ?_
              refine lv_iload_n hx hb dX4_isSetting_53 rfl (lv_at hl 1 rfl) ?_
              refine lv_imul hx hb dX4_isSetting_54 ?_
              refine tp_i (y := nI (3 * g)) (pk_mul _ _) ?_
              refine lv_iconst (v := nI 2) hx hb dX4_isSetting_55 (by decide) ?_
              refine lv_iadd hx hb dX4_isSetting_56 ?_
              refine tp_i (y := nI ((3 * g) + 2)) (nI_add _ _) ?_
              refine ar_i C hP 1 mw_st (j := ((3 * g) + 2)) (by omega) (by decide) dX4_isSetting_57 ?_
              refine lv_icmp_ge (tgt := 65) hx hb dX4_isSetting_58 (by decide) (fun c9 => ?_) (fun c9 => ?_)
              · refine lv_iconst (v := nI 0) hx hb dX4_isSetting_65 (by decide) ?_
                exact Rz C hP hD hS (Nat.zero_le _) (Nat.zero_le _) rfl dX4_isSetting_66 (⟨(pb_f (fun ⟨g2, h1, h2, h3⟩ => by obtain rfl := nI_inj (by omega) (by omega) h2; exact h3.2.2.2 c9)).symm, rfl⟩)
              · refine lv_iconst (v := nI 1) hx hb dX4_isSetting_61 (by decide) ?_
                refine lv_goto (tgt := 66) hx hb dX4_isSetting_62 (by decide) ?_
                exact Rz C hP hD hS (Nat.zero_le _) (Nat.zero_le _) rfl dX4_isSetting_66 (⟨(pb_t ⟨g, hg, rfl, ⟨c4, c7⟩, ⟨c5, c8⟩, c6, c9⟩).symm, rfl⟩)

def I3m (st : Nat → Int32) : Prop := ∀ g, g < 4 → ∀ j, j < 3 → ∃ n, n ≤ 3 ∧ st (3 * g + j) = nI n
theorem HSM_n {st : Nat → Int32} {x a b c : Int32} (hI : I3m st) (h : HSM st x a b c) : ∃ g a1 a2 a3 : Nat, g < 4 ∧ a1 < 3 ∧ a2 < 3 ∧ a3 < 3 ∧ x = nI g ∧ a = nI a1 ∧ b = nI a2 ∧ c = nI a3 ∧ HS (st3 st g) (nI a1) (nI a2) (nI a3) := by
  obtain ⟨g, hg, rfl, h⟩ := h
  obtain ⟨a1, a2, a3, h1, h2, h3, rfl, rfl, rfl⟩ := HS_n (S := fun g j => st (3 * g + j)) hI hg h
  exact ⟨g, a1, a2, a3, hg, h1, h2, h3, rfl, rfl, rfl, rfl, h⟩
set_option maxRecDepth 20000 in
theorem in_X4_weight_X4 : ∀ w ∈ u_ws RX4 TX4 15, w ∈ wsX4_weight := by decide +kernel
set_option maxRecDepth 20000 in
theorem lk_X4_weight_16 : Cond.fieldLink RX4 16 (TX4 2).1 (TX4 2).2.1 (TX4 2).2.2.1 ∈ wsX4_weight := by decide +kernel
set_option maxRecDepth 20000 in
theorem lk_X4_weight_13 : Cond.fieldLink RX4 13 (TX4 1).1 (TX4 1).2.1 (TX4 1).2.2.1 ∈ wsX4_weight := by decide +kernel
set_option maxHeartbeats 4000000 in
set_option maxRecDepth 100000 in
theorem c_X4_weight (D : va_G) (k : Nat → ClassId) (t : Nat → Nat) (l : Launch) {bd : Nat → Nat} {st wt sm nu po sh up lo : Nat → Int32} {li : Int32} {ro so un to : Nat → Int64} {it : Int32} (hI : I3m st) (x1 x2 x3 x4 x5 : Int32) : Ci D k t l yX4_weight wsX4_weight ({ frames := 3, cells := 0, slots := 0, locals := 90 }) [.ref (bd 0), .int x1, .int x2, .int x3, .int x4, .int x5] (MWw bd k st wt sm nu po sh up lo li ro so un to it) (fun r w => (∃ g a1 a2 a3 : Nat, (g < 4 ∧ x1 = nI g ∧ RG 0 17 x5 ∧ a1 < 3 ∧ a2 < 3 ∧ a3 < 3 ∧ x2 = nI a1 ∧ x3 = nI a2 ∧ x4 = nI a3 ∧ HS (st3 st g) x2 x3 x4 ∧ sm g - wt (27 * g + a1 + 3 * a2 + 9 * a3) + x5 ≤ 16) ∧ r = nI 1 ∧ w = MWw bd k st (upd wt (27 * g + a1 + 3 * a2 + 9 * a3) x5) (upd sm g (sm g - wt (27 * g + a1 + 3 * a2 + 9 * a3) + x5)) nu po sh up lo li ro so un to it) ∨ ((∀ g a1 a2 a3 : Nat, ¬ (g < 4 ∧ x1 = nI g ∧ RG 0 17 x5 ∧ a1 < 3 ∧ a2 < 3 ∧ a3 < 3 ∧ x2 = nI a1 ∧ x3 = nI a2 ∧ x4 = nI a3 ∧ HS (st3 st g) x2 x3 x4 ∧ sm g - wt (27 * g + a1 + 3 * a2 + 9 * a3) + x5 ≤ 16)) ∧ r = nI 0 ∧ w = MWw bd k st wt sm nu po sh up lo li ro so un to it)) 0 0 := by
  refine fw_of (cc := cX4_weight) (maxL := 8) (ret := (some .boolean)) (Qc := fun A => va_Qi (fun r w => (∃ g a1 a2 a3 : Nat, (g < 4 ∧ x1 = nI g ∧ RG 0 17 x5 ∧ a1 < 3 ∧ a2 < 3 ∧ a3 < 3 ∧ x2 = nI a1 ∧ x3 = nI a2 ∧ x4 = nI a3 ∧ HS (st3 st g) x2 x3 x4 ∧ sm g - wt (27 * g + a1 + 3 * a2 + 9 * a3) + x5 ≤ 16) ∧ r = nI 1 ∧ w = MWw bd k st (upd wt (27 * g + a1 + 3 * a2 + 9 * a3) x5) (upd sm g (sm g - wt (27 * g + a1 + 3 * a2 + 9 * a3) + x5)) nu po sh up lo li ro so un to it) ∨ ((∀ g a1 a2 a3 : Nat, ¬ (g < 4 ∧ x1 = nI g ∧ RG 0 17 x5 ∧ a1 < 3 ∧ a2 < 3 ∧ a3 < 3 ∧ x2 = nI a1 ∧ x3 = nI a2 ∧ x4 = nI a3 ∧ HS (st3 st g) x2 x3 x4 ∧ sm g - wt (27 * g + a1 + 3 * a2 + 9 * a3) + x5 ≤ 16)) ∧ r = nI 0 ∧ w = MWw bd k st wt sm nu po sh up lo li ro so un to it)) (BcW D A) A) (by decide) rfl (Nat.le_of_ble_eq_true rfl) ?_
  intro p e s m below meth c A ls C hP hD hl
  have C : Cx RX4 "weight" cX4_weight 8 (some .boolean) wsX4_weight D k t A p s m ([.ref (bd 0), .int x1, .int x2, .int x3, .int x4, .int x5] : List Value).toArray meth c := C
  have hl : lv_has ls 8 [(0, .ref (bd 0)), (1, .int x1), (2, .int x2), (3, .int x3), (4, .int x4), (5, .int x5)] := hl
  have hx := C.1
  have hb := C.2.1
  have hown := C.2.2.2.2.1
  have hts := C.2.2.2.2.2.1
  have hK := C.2.2.2.2.2.2.2.2.1
  have hZ := C.2.2.2.2.2.2.2.2.2.1
  have hN := C.2.2.2.2.2.2.2.2.2.2
  have hS : va_S A s.heap s.heap [] := va_S.rf
  refine lv_aload_n hx hb dX4_weight_0 rfl (lv_at hl 0 rfl) ?_
  refine lv_iload_n hx hb dX4_weight_1 rfl (lv_at hl 1 rfl) ?_
  refine lv_iload_n hx hb dX4_weight_2 rfl (lv_at hl 2 rfl) ?_
  refine lv_iload_n hx hb dX4_weight_3 rfl (lv_at hl 3 rfl) ?_
  refine lv_iload hx hb dX4_weight_4 (lv_at hl 4 rfl) ?_
  refine fw_i C hD hS (rn_V (As := [.int x1, .int x2, .int x3, .int x4]) (rest := []) C (c_X4_isSetting D k t l x1 x2 x3 x4 _) (cwV 4 hts gX4_weight_X4_isSetting rfl rfl rfl hdX4_isSettingC ⟨Nat.le_of_ble_eq_true rfl, Nat.le_of_ble_eq_true rfl⟩) 0 4 rfl mw_o rfl hP hD hS rfl hl.1 rfl (Nat.le_of_ble_eq_true rfl) dX4_weight_6 ⟨Nat.zero_le _, Nat.zero_le _⟩) (fun r1 wr1 H locs h2 hP hD hS => ?_)
  obtain ⟨rfl, rfl⟩ := h2
  refine lv_if_eq (tgt := 23) hx hb dX4_weight_9 (by decide) (fun c3 => ?_) (fun c3 => ?_)
  · have c3 := pb_z c3
    refine lv_iconst (v := nI 0) hx hb dX4_weight_23 (by decide) ?_
    exact Rz C hP hD hS (Nat.zero_le _) (Nat.zero_le _) rfl dX4_weight_24 (Or.inr ⟨fun g _ _ _ z => c3 ⟨g, z.1, z.2.1, z.2.2.2.2.2.2.2.2.2.1⟩, rfl, rfl⟩)
  · have c3 := pb_nz c3
    obtain ⟨g, a1, a2, a3, hg, ha1, ha2, ha3, rfl, rfl, rfl, rfl, hHS⟩ := HSM_n hI c3
    refine lv_iload hx hb dX4_weight_12 (lv_at hl 5 rfl) ?_
    refine lv_iconst (v := nI 0) hx hb dX4_weight_14 (by decide) ?_
    refine lv_bipush (v := nI 16) hx hb dX4_weight_15 (by decide) ?_
    refine fw_i C hD hS (rn_S (As := [.int x5, .int (nI 0), .int (nI 16)]) (rest := []) C (c_isInR D k t l (lo := 0) (hi := 16) x5 (by decide) (by decide) _) (va_cwS 3 hts gX4_weight_X4_isIn rfl rfl rfl hdX4_isIn ⟨Nat.le_of_ble_eq_true rfl, Nat.le_of_ble_eq_true rfl⟩) hP hD hS rfl hl.1 rfl (Nat.le_of_ble_eq_true rfl) dX4_weight_17 ⟨Nat.zero_le _, Nat.zero_le _⟩) (fun r4 wr4 H locs h5 hP hD hS => ?_)
    obtain ⟨rfl, rfl⟩ := h5
    refine lv_if_ne (tgt := 25) hx hb dX4_weight_20 (by decide) (fun c6 => ?_) (fun c6 => ?_)
    · have c6 := pb_nz c6
      refine lv_bipush (v := nI 27) hx hb dX4_weight_25 (by decide) ?_
      refine lv_iload_n hx hb dX4_weight_27 rfl (lv_at hl 1 rfl) ?_
      refine lv_imul hx hb dX4_weight_28 ?_
      refine tp_i (y := nI (27 * g)) (pk_mul _ _) ?_
      refine lv_iload_n hx hb dX4_weight_29 rfl (lv_at hl 2 rfl) ?_
      refine lv_iadd hx hb dX4_weight_30 ?_
      refine tp_i (y := nI ((27 * g) + a1)) (nI_add _ _) ?_
      refine lv_iconst (v := nI 3) hx hb dX4_weight_31 (by decide) ?_
      refine lv_iload_n hx hb dX4_weight_32 rfl (lv_at hl 3 rfl) ?_
      refine lv_imul hx hb dX4_weight_33 ?_
      refine tp_i (y := nI (3 * a2)) (pk_mul _ _) ?_
      refine lv_iadd hx hb dX4_weight_34 ?_
      refine tp_i (y := nI (((27 * g) + a1) + (3 * a2))) (nI_add _ _) ?_
      refine lv_bipush (v := nI 9) hx hb dX4_weight_35 (by decide) ?_
      refine lv_iload hx hb dX4_weight_37 (lv_at hl 4 rfl) ?_
      refine lv_imul hx hb dX4_weight_39 ?_
      refine tp_i (y := nI (9 * a3)) (pk_mul _ _) ?_
      refine lv_iadd hx hb dX4_weight_40 ?_
      refine tp_i (y := nI ((((27 * g) + a1) + (3 * a2)) + (9 * a3))) (nI_add _ _) ?_
      refine lv_istore (lv' := [(6, .int (nI ((((27 * g) + a1) + (3 * a2)) + (9 * a3)))), (0, .ref (bd 0)), (1, .int (nI g)), (2, .int (nI a1)), (3, .int (nI a2)), (4, .int (nI a3)), (5, .int x5)]) hx hb dX4_weight_41 hl (by decide) rfl (fun ls hl => ?_)
      refine lv_aload_n hx hb dX4_weight_43 rfl (lv_at hl 1 rfl) ?_
      refine fg C hP 0 mw_o (ci := 4) rfl 2 (by decide) in_X4_weight_X4 lk_X4_weight_16 (v := .ref (bd 3)) rfl dX4_weight_44 ?_
      refine lv_iload_n hx hb dX4_weight_47 rfl (lv_at hl 2 rfl) ?_
      refine ar_i C hP 3 mw_sm (j := g) (by omega) (by decide) dX4_weight_48 ?_
      refine lv_aload_n hx hb dX4_weight_49 rfl (lv_at hl 1 rfl) ?_
      refine fg C hP 0 mw_o (ci := 4) rfl 1 (by decide) in_X4_weight_X4 lk_X4_weight_13 (v := .ref (bd 2)) rfl dX4_weight_50 ?_
      refine lv_iload hx hb dX4_weight_53 (lv_at hl 0 rfl) ?_
      refine ar_i C hP 2 mw_wt (j := ((((27 * g) + a1) + (3 * a2)) + (9 * a3))) (by omega) (by decide) dX4_weight_55 ?_
      refine lv_isub hx hb dX4_weight_56 ?_
      refine lv_iload hx hb dX4_weight_57 (lv_at hl 6 rfl) ?_
      refine lv_iadd hx hb dX4_weight_59 ?_
      refine lv_istore (lv' := [(7, .int (((sm g) - (wt ((((27 * g) + a1) + (3 * a2)) + (9 * a3)))) + x5)), (6, .int (nI ((((27 * g) + a1) + (3 * a2)) + (9 * a3)))), (0, .ref (bd 0)), (1, .int (nI g)), (2, .int (nI a1)), (3, .int (nI a2)), (4, .int (nI a3)), (5, .int x5)]) hx hb dX4_weight_60 hl (by decide) rfl (fun ls hl => ?_)
      refine lv_iload hx hb dX4_weight_62 (lv_at hl 0 rfl) ?_
      refine lv_bipush (v := nI 16) hx hb dX4_weight_64 (by decide) ?_
      refine lv_icmp_le (tgt := 71) hx hb dX4_weight_66 (by decide) (fun c7 => ?_) (fun c7 => ?_)
      · refine lv_aload_n hx hb dX4_weight_71 rfl (lv_at hl 2 rfl) ?_
        refine fg C hP 0 mw_o (ci := 4) rfl 1 (by decide) in_X4_weight_X4 lk_X4_weight_13 (v := .ref (bd 2)) rfl dX4_weight_72 ?_
        refine lv_iload hx hb dX4_weight_75 (lv_at hl 1 rfl) ?_
        refine lv_iload hx hb dX4_weight_77 (lv_at hl 7 rfl) ?_
        refine as_i C hP hD hS 2 mw_wt (j := ((((27 * g) + a1) + (3 * a2)) + (9 * a3))) (by omega) (by decide) (mw_wt_st _) dX4_weight_79 (fun H locs hP hD hS => ?_)
        refine lv_aload_n hx hb dX4_weight_80 rfl (lv_at hl 2 rfl) ?_
        refine fg C hP 0 mw_o (ci := 4) rfl 2 (by decide) in_X4_weight_X4 lk_X4_weight_16 (v := .ref (bd 3)) rfl dX4_weight_81 ?_
        refine lv_iload_n hx hb dX4_weight_84 rfl (lv_at hl 3 rfl) ?_
        refine lv_iload hx hb dX4_weight_85 (lv_at hl 0 rfl) ?_
        refine as_i C hP hD hS 3 mw_sm (j := g) (by omega) (by decide) (mw_sm_st _) dX4_weight_87 (fun H locs hP hD hS => ?_)
        refine lv_iconst (v := nI 1) hx hb dX4_weight_88 (by decide) ?_
        exact Rz C hP hD hS (Nat.zero_le _) (Nat.zero_le _) rfl dX4_weight_89 (Or.inl ⟨g, a1, a2, a3, ⟨hg, rfl, c6, ha1, ha2, ha3, rfl, rfl, rfl, hHS, c7⟩, rfl, rfl⟩)
      · refine lv_iconst (v := nI 0) hx hb dX4_weight_69 (by decide) ?_
        exact Rz C hP hD hS (Nat.zero_le _) (Nat.zero_le _) rfl dX4_weight_70 (Or.inr ⟨fun g2 b1 b2 b3 z => by obtain ⟨z1, z2, z3, z4, z5, z6, z7, z8, z9, z10, z11⟩ := z; obtain rfl := nI_inj (by omega) (by omega) z2; obtain rfl := nI_inj (by omega) (by omega) z7; obtain rfl := nI_inj (by omega) (by omega) z8; obtain rfl := nI_inj (by omega) (by omega) z9; exact c7 z11, rfl, rfl⟩)
    · have c6 := pb_z c6
      refine lv_iconst (v := nI 0) hx hb dX4_weight_23 (by decide) ?_
      exact Rz C hP hD hS (Nat.zero_le _) (Nat.zero_le _) rfl dX4_weight_24 (Or.inr ⟨fun _ _ _ _ z => c6 z.2.2.1, rfl, rfl⟩)

noncomputable def m_told (st wt sm : Nat → Int32) (g : Nat) (x : Int32) : Int32 := if x = 0 then pb (¬ sm g ≤ 0) else @ite _ (RG 1 4 x) (Classical.propDecidable _) (st (3 * g + x.toNatClampNeg - 1)) (if x = nI 4 then sm g else @ite _ (RG 10 37 x) (Classical.propDecidable _) (@ite _ (HSM st (nI g) (nI ((x.toNatClampNeg - 10) % 3)) (nI ((x.toNatClampNeg - 10) / 3 % 3)) (nI ((x.toNatClampNeg - 10) / 9))) (Classical.propDecidable _) (wt (27 * g + (x.toNatClampNeg - 10))) (-1)) (-1))
set_option maxRecDepth 20000 in
theorem in_X4_told_X4 : ∀ w ∈ u_ws RX4 TX4 15, w ∈ wsX4_told := by decide +kernel
set_option maxRecDepth 20000 in
theorem lk_X4_told_13 : Cond.fieldLink RX4 13 (TX4 1).1 (TX4 1).2.1 (TX4 1).2.2.1 ∈ wsX4_told := by decide +kernel
set_option maxRecDepth 20000 in
theorem lk_X4_told_16 : Cond.fieldLink RX4 16 (TX4 2).1 (TX4 2).2.1 (TX4 2).2.2.1 ∈ wsX4_told := by decide +kernel
set_option maxRecDepth 20000 in
theorem lk_X4_told_7 : Cond.fieldLink RX4 7 (TX4 0).1 (TX4 0).2.1 (TX4 0).2.2.1 ∈ wsX4_told := by decide +kernel
set_option maxHeartbeats 4000000 in
set_option maxRecDepth 100000 in
theorem c_X4_told (D : va_G) (k : Nat → ClassId) (t : Nat → Nat) (l : Launch) {bd : Nat → Nat} {st wt sm nu po sh up lo : Nat → Int32} {li : Int32} {ro so un to : Nat → Int64} {it : Int32} (x1 x2 : Int32) : Ci D k t l yX4_told wsX4_told ({ frames := 3, cells := 0, slots := 0, locals := 90 }) [.ref (bd 0), .int x1, .int x2] (MWw bd k st wt sm nu po sh up lo li ro so un to it) (fun r w => (∃ g : Nat, (g < 4 ∧ x1 = nI g) ∧ r = m_told st wt sm g x2 ∧ w = MWw bd k st wt sm nu po sh up lo li ro so un to it) ∨ ((∀ g : Nat, ¬ (g < 4 ∧ x1 = nI g)) ∧ r = -1 ∧ w = MWw bd k st wt sm nu po sh up lo li ro so un to it)) 0 0 := by
  refine fw_of (cc := cX4_told) (maxL := 4) (ret := (some .int)) (Qc := fun A => va_Qi (fun r w => (∃ g : Nat, (g < 4 ∧ x1 = nI g) ∧ r = m_told st wt sm g x2 ∧ w = MWw bd k st wt sm nu po sh up lo li ro so un to it) ∨ ((∀ g : Nat, ¬ (g < 4 ∧ x1 = nI g)) ∧ r = -1 ∧ w = MWw bd k st wt sm nu po sh up lo li ro so un to it)) (BcW D A) A) (by decide) rfl (Nat.le_of_ble_eq_true rfl) ?_
  intro p e s m below meth c A ls C hP hD hl
  have C : Cx RX4 "told" cX4_told 4 (some .int) wsX4_told D k t A p s m ([.ref (bd 0), .int x1, .int x2] : List Value).toArray meth c := C
  have hl : lv_has ls 4 [(0, .ref (bd 0)), (1, .int x1), (2, .int x2)] := hl
  have hx := C.1
  have hb := C.2.1
  have hown := C.2.2.2.2.1
  have hts := C.2.2.2.2.2.1
  have hK := C.2.2.2.2.2.2.2.2.1
  have hZ := C.2.2.2.2.2.2.2.2.2.1
  have hN := C.2.2.2.2.2.2.2.2.2.2
  have hS : va_S A s.heap s.heap [] := va_S.rf
  refine lv_iload_n hx hb dX4_told_0 rfl (lv_at hl 1 rfl) ?_
  refine fw_i C hD hS (rn_S (As := [.int x1]) (rest := []) C (c_X4_isPlace D k t l x1 _) (va_cwS 1 hts gX4_told_X4_isPlace rfl rfl rfl hdX4_isPlace ⟨Nat.le_of_ble_eq_true rfl, Nat.le_of_ble_eq_true rfl⟩) hP hD hS rfl hl.1 rfl (Nat.le_of_ble_eq_true rfl) dX4_told_1 ⟨Nat.zero_le _, Nat.zero_le _⟩) (fun r1 wr1 H locs h2 hP hD hS => ?_)
  obtain ⟨rfl, rfl⟩ := h2
  refine lv_if_ne (tgt := 9) hx hb dX4_told_4 (by decide) (fun c3 => ?_) (fun c3 => ?_)
  · have c3 := pb_nz c3
    obtain ⟨g, h0g, hg, rfl⟩ := id c3
    refine lv_iload_n hx hb dX4_told_9 rfl (lv_at hl 2 rfl) ?_
    refine lv_if_ne (tgt := 28) hx hb dX4_told_10 (by decide) (fun c4 => ?_) (fun c4 => ?_)
    · refine lv_iload_n hx hb dX4_told_28 rfl (lv_at hl 2 rfl) ?_
      refine lv_iconst (v := nI 1) hx hb dX4_told_29 (by decide) ?_
      refine lv_iconst (v := nI 3) hx hb dX4_told_30 (by decide) ?_
      refine fw_i C hD hS (rn_S (As := [.int x2, .int (nI 1), .int (nI 3)]) (rest := []) C (c_isInR D k t l (lo := 1) (hi := 3) x2 (by decide) (by decide) _) (va_cwS 3 hts gX4_told_X4_isIn rfl rfl rfl hdX4_isIn ⟨Nat.le_of_ble_eq_true rfl, Nat.le_of_ble_eq_true rfl⟩) hP hD hS rfl hl.1 rfl (Nat.le_of_ble_eq_true rfl) dX4_told_31 ⟨Nat.zero_le _, Nat.zero_le _⟩) (fun r5 wr5 H locs h6 hP hD hS => ?_)
      obtain ⟨rfl, rfl⟩ := h6
      refine lv_if_eq (tgt := 50) hx hb dX4_told_34 (by decide) (fun c7 => ?_) (fun c7 => ?_)
      · have c7 := pb_z c7
        refine lv_iload_n hx hb dX4_told_50 rfl (lv_at hl 2 rfl) ?_
        refine lv_iconst (v := nI 4) hx hb dX4_told_51 (by decide) ?_
        refine lv_icmp_ne (tgt := 62) hx hb dX4_told_52 (by decide) (fun c8 => ?_) (fun c8 => ?_)
        · refine lv_iload_n hx hb dX4_told_62 rfl (lv_at hl 2 rfl) ?_
          refine lv_bipush (v := nI 10) hx hb dX4_told_63 (by decide) ?_
          refine lv_bipush (v := nI 36) hx hb dX4_told_65 (by decide) ?_
          refine fw_i C hD hS (rn_S (As := [.int x2, .int (nI 10), .int (nI 36)]) (rest := []) C (c_isInR D k t l (lo := 10) (hi := 36) x2 (by decide) (by decide) _) (va_cwS 3 hts gX4_told_X4_isIn rfl rfl rfl hdX4_isIn ⟨Nat.le_of_ble_eq_true rfl, Nat.le_of_ble_eq_true rfl⟩) hP hD hS rfl hl.1 rfl (Nat.le_of_ble_eq_true rfl) dX4_told_67 ⟨Nat.zero_le _, Nat.zero_le _⟩) (fun r9 wr9 H locs h10 hP hD hS => ?_)
          obtain ⟨rfl, rfl⟩ := h10
          refine lv_if_ne (tgt := 75) hx hb dX4_told_70 (by decide) (fun c11 => ?_) (fun c11 => ?_)
          · have c11 := pb_nz c11
            obtain ⟨z, h0z, hz, rfl⟩ := id c11
            refine lv_iload_n hx hb dX4_told_75 rfl (lv_at hl 2 rfl) ?_
            refine lv_bipush (v := nI 10) hx hb dX4_told_76 (by decide) ?_
            refine lv_isub hx hb dX4_told_78 ?_
            refine tp_i (y := nI (z - 10)) (pk_sub (by omega)) ?_
            refine lv_istore_n (lv' := [(3, .int (nI (z - 10))), (0, .ref (bd 0)), (1, .int (nI g)), (2, .int (nI z))]) hx hb dX4_told_79 rfl hl (by decide) rfl (fun ls hl => ?_)
            refine lv_aload_n hx hb dX4_told_80 rfl (lv_at hl 1 rfl) ?_
            refine lv_iload_n hx hb dX4_told_81 rfl (lv_at hl 2 rfl) ?_
            refine lv_iload_n hx hb dX4_told_82 rfl (lv_at hl 0 rfl) ?_
            refine lv_iconst (v := nI 3) hx hb dX4_told_83 (by decide) ?_
            refine lv_irem hx hb dX4_told_84 (by decide) ?_
            refine tp_i (y := nI ((z - 10) % 3)) (pk_rem (by omega) (by omega) (by omega)) ?_
            refine lv_iload_n hx hb dX4_told_85 rfl (lv_at hl 0 rfl) ?_
            refine lv_iconst (v := nI 3) hx hb dX4_told_86 (by decide) ?_
            refine lv_idiv hx hb dX4_told_87 (by decide) ?_
            refine tp_i (y := nI ((z - 10) / 3)) (pk_div (by omega) (by omega) (by omega)) ?_
            refine lv_iconst (v := nI 3) hx hb dX4_told_88 (by decide) ?_
            refine lv_irem hx hb dX4_told_89 (by decide) ?_
            refine tp_i (y := nI (((z - 10) / 3) % 3)) (pk_rem (by omega) (by omega) (by omega)) ?_
            refine lv_iload_n hx hb dX4_told_90 rfl (lv_at hl 0 rfl) ?_
            refine lv_bipush (v := nI 9) hx hb dX4_told_91 (by decide) ?_
            refine lv_idiv hx hb dX4_told_93 (by decide) ?_
            refine tp_i (y := nI ((z - 10) / 9)) (pk_div (by omega) (by omega) (by omega)) ?_
            refine fw_i C hD hS (rn_V (As := [.int (nI g), .int (nI ((z - 10) % 3)), .int (nI (((z - 10) / 3) % 3)), .int (nI ((z - 10) / 9))]) (rest := []) C (c_X4_isSetting D k t l (nI g) (nI ((z - 10) % 3)) (nI (((z - 10) / 3) % 3)) (nI ((z - 10) / 9)) _) (cwV 4 hts gX4_told_X4_isSetting rfl rfl rfl hdX4_isSettingC ⟨Nat.le_of_ble_eq_true rfl, Nat.le_of_ble_eq_true rfl⟩) 0 4 rfl mw_o rfl hP hD hS rfl hl.1 rfl (Nat.le_of_ble_eq_true rfl) dX4_told_94 ⟨Nat.zero_le _, Nat.zero_le _⟩) (fun r12 wr12 H locs h13 hP hD hS => ?_)
            obtain ⟨rfl, rfl⟩ := h13
            refine lv_if_eq (tgt := 114) hx hb dX4_told_97 (by decide) (fun c14 => ?_) (fun c14 => ?_)
            · have c14 := pb_z c14
              refine lv_iconst (v := (-1)) hx hb dX4_told_114 (by decide) ?_
              exact Ri C hP hD hS (Nat.zero_le _) (Nat.zero_le _) dX4_told_115 (Or.inl ⟨g, ⟨hg, rfl⟩, by rw [m_told, if_neg c4, if_neg c7, if_neg c8, if_pos c11, nI_clamp (show z < 2 ^ 31 by omega), if_neg c14], rfl⟩)
            · have c14 := pb_nz c14
              refine lv_aload_n hx hb dX4_told_100 rfl (lv_at hl 1 rfl) ?_
              refine fg C hP 0 mw_o (ci := 4) rfl 1 (by decide) in_X4_told_X4 lk_X4_told_13 (v := .ref (bd 2)) rfl dX4_told_101 ?_
              refine lv_bipush (v := nI 27) hx hb dX4_told_104 (by decide) ?_
              refine lv_iload_n hx hb dX4_told_106 rfl (lv_at hl 2 rfl) ?_
              refine lv_imul hx hb dX4_told_107 ?_
              refine tp_i (y := nI (27 * g)) (pk_mul _ _) ?_
              refine lv_iload_n hx hb dX4_told_108 rfl (lv_at hl 0 rfl) ?_
              refine lv_iadd hx hb dX4_told_109 ?_
              refine tp_i (y := nI ((27 * g) + (z - 10))) (nI_add _ _) ?_
              refine ar_i C hP 2 mw_wt (j := ((27 * g) + (z - 10))) (by omega) (by decide) dX4_told_110 ?_
              refine lv_goto (tgt := 115) hx hb dX4_told_111 (by decide) ?_
              exact Ri C hP hD hS (Nat.zero_le _) (Nat.zero_le _) dX4_told_115 (Or.inl ⟨g, ⟨hg, rfl⟩, by rw [m_told, if_neg c4, if_neg c7, if_neg c8, if_pos c11, nI_clamp (show z < 2 ^ 31 by omega), if_pos c14], rfl⟩)
          · have c11 := pb_z c11
            refine lv_iconst (v := (-1)) hx hb dX4_told_73 (by decide) ?_
            exact Ri C hP hD hS (Nat.zero_le _) (Nat.zero_le _) dX4_told_74 (Or.inl ⟨g, ⟨hg, rfl⟩, by rw [m_told, if_neg c4, if_neg c7, if_neg c8, if_neg c11], rfl⟩)
        · refine lv_aload_n hx hb dX4_told_55 rfl (lv_at hl 0 rfl) ?_
          refine fg C hP 0 mw_o (ci := 4) rfl 2 (by decide) in_X4_told_X4 lk_X4_told_16 (v := .ref (bd 3)) rfl dX4_told_56 ?_
          refine lv_iload_n hx hb dX4_told_59 rfl (lv_at hl 1 rfl) ?_
          refine ar_i C hP 3 mw_sm (j := g) (by omega) (by decide) dX4_told_60 ?_
          exact Ri C hP hD hS (Nat.zero_le _) (Nat.zero_le _) dX4_told_61 (Or.inl ⟨g, ⟨hg, rfl⟩, by rw [m_told, if_neg c4, if_neg c7, if_pos c8], rfl⟩)
      · have c7 := pb_nz c7
        obtain ⟨z, h0z, hz, rfl⟩ := id c7
        refine lv_aload_n hx hb dX4_told_37 rfl (lv_at hl 0 rfl) ?_
        refine fg C hP 0 mw_o (ci := 4) rfl 0 (by decide) in_X4_told_X4 lk_X4_told_7 (v := .ref (bd 1)) rfl dX4_told_38 ?_
        refine lv_iconst (v := nI 3) hx hb dX4_told_41 (by decide) ?_
        refine lv_iload_n hx hb dX4_told_42 rfl (lv_at hl 1 rfl) ?_
        refine lv_imul hx hb dX4_told_43 ?_
        refine tp_i (y := nI (3 * g)) (pk_mul _ _) ?_
        refine lv_iload_n hx hb dX4_told_44 rfl (lv_at hl 2 rfl) ?_
        refine lv_iadd hx hb dX4_told_45 ?_
        refine tp_i (y := nI ((3 * g) + z)) (nI_add _ _) ?_
        refine lv_iconst (v := nI 1) hx hb dX4_told_46 (by decide) ?_
        refine lv_isub hx hb dX4_told_47 ?_
        refine tp_i (y := nI (((3 * g) + z) - 1)) (pk_sub (by omega)) ?_
        refine ar_i C hP 1 mw_st (j := (((3 * g) + z) - 1)) (by omega) (by decide) dX4_told_48 ?_
        exact Ri C hP hD hS (Nat.zero_le _) (Nat.zero_le _) dX4_told_49 (Or.inl ⟨g, ⟨hg, rfl⟩, by rw [m_told, if_neg c4, if_pos c7, nI_clamp (show z < 2 ^ 31 by omega)], rfl⟩)
    · refine lv_aload_n hx hb dX4_told_13 rfl (lv_at hl 0 rfl) ?_
      refine fg C hP 0 mw_o (ci := 4) rfl 2 (by decide) in_X4_told_X4 lk_X4_told_16 (v := .ref (bd 3)) rfl dX4_told_14 ?_
      refine lv_iload_n hx hb dX4_told_17 rfl (lv_at hl 1 rfl) ?_
      refine ar_i C hP 3 mw_sm (j := g) (by omega) (by decide) dX4_told_18 ?_
      refine lv_if_le (tgt := 26) hx hb dX4_told_19 (by decide) (fun c15 => ?_) (fun c15 => ?_)
      · refine lv_iconst (v := nI 0) hx hb dX4_told_26 (by decide) ?_
        exact Ri C hP hD hS (Nat.zero_le _) (Nat.zero_le _) dX4_told_27 (Or.inl ⟨g, ⟨hg, rfl⟩, by rw [m_told, if_pos c4]; exact (pb_f (fun q => q c15)).symm, rfl⟩)
      · refine lv_iconst (v := nI 1) hx hb dX4_told_22 (by decide) ?_
        refine lv_goto (tgt := 27) hx hb dX4_told_23 (by decide) ?_
        exact Ri C hP hD hS (Nat.zero_le _) (Nat.zero_le _) dX4_told_27 (Or.inl ⟨g, ⟨hg, rfl⟩, by rw [m_told, if_pos c4]; exact (pb_t c15).symm, rfl⟩)
  · have c3 := pb_z c3
    refine lv_iconst (v := (-1)) hx hb dX4_told_7 (by decide) ?_
    exact Ri C hP hD hS (Nat.zero_le _) (Nat.zero_le _) dX4_told_8 (Or.inr ⟨fun g z => c3 ⟨g, Nat.zero_le _, z.1, z.2⟩, rfl, rfl⟩)

