/-! the class's own methods: what they ask first -/
noncomputable def pb (P : Prop) : Int32 := @ite _ P (Classical.propDecidable P) 1 0
theorem pb_t {P : Prop} (h : P) : pb P = nI 1 := by unfold pb; rw [if_pos h]; rfl
theorem pb_f {P : Prop} (h : ¬ P) : pb P = nI 0 := by unfold pb; rw [if_neg h]; rfl
theorem pb_z {P : Prop} (h : pb P = 0) : ¬ P := fun q => by rw [pb_t q] at h; exact absurd h (by decide)
theorem pb_nz {P : Prop} (h : ¬ pb P = 0) : P := Classical.byContradiction fun q => h (by rw [pb_f q]; rfl)
theorem pb_nar (P : Prop) : narrow .boolean (.int (pb P)) = .int (pb P) := by
  by_cases h : P
  · rw [pb_t h]; rfl
  · rw [pb_f h]; rfl
theorem pb_iff {P Q : Prop} (h : P ↔ Q) : pb P = pb Q := by rw [propext h]
def RG (lo hi : Nat) (x : Int32) : Prop := ∃ n, lo ≤ n ∧ n < hi ∧ x = nI n
theorem rg_lo {lo hi : Nat} {x : Int32} (hh : hi < 2 ^ 31) (h : x < nI lo) : ¬ RG lo hi x := fun ⟨n, h1, h2, e⟩ => by rw [e] at h; exact nI_nlt h1 (by omega) h
theorem rg_hi {lo hi : Nat} {x : Int32} (hh : hi < 2 ^ 31) (h : nI hi ≤ x) : ¬ RG lo hi x := fun ⟨n, h1, h2, e⟩ => by rw [e] at h; exact nI_ge h2 hh h
theorem rg_hi' {lo hi : Nat} {x : Int32} (hh : hi + 1 < 2 ^ 31) (h : nI hi < x) : ¬ RG lo (hi + 1) x := fun ⟨n, h1, h2, e⟩ => by rw [e] at h; exact nI_nlt (by omega) (by omega) h
theorem rg_in {lo hi : Nat} {x : Int32} (hl : lo < 2 ^ 31) (hh : hi < 2 ^ 31) (h1 : ¬ x < nI lo) (h2 : ¬ nI hi ≤ x) : RG lo hi x := by
  have h0 : ¬ x < 0 := fun q => h1 (Int32.lt_of_lt_of_le q (nI_pos' hl))
  obtain ⟨j, hj, rfl⟩ := ixL hh h0 h2
  exact ⟨j, Nat.not_lt.mp fun q => h1 (nI_lt q hl), hj, rfl⟩
theorem rg_in' {lo hi : Nat} {x : Int32} (hl : lo < 2 ^ 31) (hh : hi + 1 < 2 ^ 31) (h1 : ¬ x < nI lo) (h2 : ¬ nI hi < x) : RG lo (hi + 1) x := by
  have h0 : ¬ x < 0 := fun q => h1 (Int32.lt_of_lt_of_le q (nI_pos' hl))
  obtain ⟨j, hj, rfl⟩ := ixG (by omega) h0 h2
  exact ⟨j, Nat.not_lt.mp fun q => h1 (nI_lt q hl), by omega, rfl⟩
theorem nI_inj {a b : Nat} (ha : a < 2 ^ 31) (hb : b < 2 ^ 31) (e : nI a = nI b) : a = b := (nI_eq ha hb).mp e
def HS (s : Nat → Int32) (a b c : Int32) : Prop := (¬ a < 0 ∧ ¬ s 0 ≤ a) ∧ (¬ b < 0 ∧ ¬ s 1 ≤ b) ∧ ¬ c < 0 ∧ ¬ s 2 ≤ c
theorem hasS_pb (s : Nat → Int32) (a b c : Int32) : f_hasS s a b c = pb (HS s a b c) := by
  unfold f_hasS
  repeat' split
  all_goals first
    | (rw [pb_f]; rfl; unfold HS; simp [*]; done)
    | (rw [pb_t]; rfl; exact ⟨⟨by assumption, by assumption⟩, ⟨by assumption, by assumption⟩, by assumption, by assumption⟩)
theorem made_pb (n : Int32) : f_made n = pb (¬ n ≤ 0) := by
  unfold f_made
  split
  · rw [pb_f]; rfl; simp [*]
  · rw [pb_t]; rfl; assumption
/-- what the states' rows hold: 0 to 3 -/
def I3 (S : Nat → Nat → Int32) : Prop := ∀ g, g < 4 → ∀ j, j < 3 → ∃ n, n ≤ 3 ∧ S g j = nI n
theorem HS_n {S : Nat → Nat → Int32} {g : Nat} {a b c : Int32} (hI : I3 S) (hg : g < 4) (h : HS (S g) a b c) : ∃ a1 a2 a3 : Nat, a1 < 3 ∧ a2 < 3 ∧ a3 < 3 ∧ a = nI a1 ∧ b = nI a2 ∧ c = nI a3 := by
  obtain ⟨⟨h1, h2⟩, ⟨h3, h4⟩, h5, h6⟩ := h
  obtain ⟨n0, l0, e0⟩ := hI g hg 0 (by omega)
  obtain ⟨n1, l1, e1⟩ := hI g hg 1 (by omega)
  obtain ⟨n2, l2, e2⟩ := hI g hg 2 (by omega)
  rw [e0] at h2; rw [e1] at h4; rw [e2] at h6
  obtain ⟨a1, q1, rfl⟩ := ixL (by omega) h1 h2
  obtain ⟨a2, q2, rfl⟩ := ixL (by omega) h3 h4
  obtain ⟨a3, q3, rfl⟩ := ixL (by omega) h5 h6
  exact ⟨a1, a2, a3, by omega, by omega, by omega, rfl, rfl, rfl⟩
set_option maxHeartbeats 4000000 in
set_option maxRecDepth 100000 in
theorem c_X3_isPlace (D : va_G) (k : Nat → ClassId) (t : Nat → Nat) (l : Launch) {ws : va_W} (x1 : Int32) : Ci D k t l yX3_isPlace wsX3_isPlace ({ frames := 0, cells := 0, slots := 0, locals := 0 }) [.int x1] (ws) (fun r w => r = pb (RG 0 4 x1) ∧ w = ws) 0 0 := by
  refine fw_of (cc := cX3_isPlace) (maxL := 1) (ret := (some .boolean)) (Qc := fun A => va_Qi (fun r w => r = pb (RG 0 4 x1) ∧ w = ws) (BcW D A) A) (by decide) rfl (Nat.le_of_ble_eq_true rfl) ?_
  intro p e s m below meth c A ls C hP hD hl
  have C : Cx RX3 "isPlace" cX3_isPlace 1 (some .boolean) wsX3_isPlace D k t A p s m ([.int x1] : List Value).toArray meth c := C
  have hl : lv_has ls 1 [(0, .int x1)] := hl
  have hx := C.1
  have hb := C.2.1
  have hown := C.2.2.2.2.1
  have hts := C.2.2.2.2.2.1
  have hK := C.2.2.2.2.2.2.2.2.1
  have hZ := C.2.2.2.2.2.2.2.2.2.1
  have hN := C.2.2.2.2.2.2.2.2.2.2
  have hS : va_S A s.heap s.heap [] := va_S.rf
  refine lv_iload_n hx hb dX3_isPlace_0 rfl (lv_at hl 0 rfl) ?_
  refine lv_if_lt (tgt := 13) hx hb dX3_isPlace_1 (by decide) (fun c1 => ?_) (fun c1 => ?_)
  · refine lv_iconst (v := nI 0) hx hb dX3_isPlace_13 (by decide) ?_
    exact Rz C hP hD hS (Nat.zero_le _) (Nat.zero_le _) rfl dX3_isPlace_14 (⟨(pb_f (rg_lo (by decide) c1)).symm, rfl⟩)
  · refine lv_iload_n hx hb dX3_isPlace_4 rfl (lv_at hl 0 rfl) ?_
    refine lv_iconst (v := nI 4) hx hb dX3_isPlace_5 (by decide) ?_
    refine lv_icmp_ge (tgt := 13) hx hb dX3_isPlace_6 (by decide) (fun c2 => ?_) (fun c2 => ?_)
    · refine lv_iconst (v := nI 0) hx hb dX3_isPlace_13 (by decide) ?_
      exact Rz C hP hD hS (Nat.zero_le _) (Nat.zero_le _) rfl dX3_isPlace_14 (⟨(pb_f (rg_hi (by decide) c2)).symm, rfl⟩)
    · refine lv_iconst (v := nI 1) hx hb dX3_isPlace_9 (by decide) ?_
      refine lv_goto (tgt := 14) hx hb dX3_isPlace_10 (by decide) ?_
      exact Rz C hP hD hS (Nat.zero_le _) (Nat.zero_le _) rfl dX3_isPlace_14 (⟨(pb_t (rg_in (by decide) (by decide) c1 c2)).symm, rfl⟩)

set_option maxHeartbeats 4000000 in
set_option maxRecDepth 100000 in
theorem c_X3_isStateCount (D : va_G) (k : Nat → ClassId) (t : Nat → Nat) (l : Launch) {ws : va_W} (x1 : Int32) : Ci D k t l yX3_isStateCount wsX3_isStateCount ({ frames := 0, cells := 0, slots := 0, locals := 0 }) [.int x1] (ws) (fun r w => r = pb (RG 1 4 x1) ∧ w = ws) 0 0 := by
  refine fw_of (cc := cX3_isStateCount) (maxL := 1) (ret := (some .boolean)) (Qc := fun A => va_Qi (fun r w => r = pb (RG 1 4 x1) ∧ w = ws) (BcW D A) A) (by decide) rfl (Nat.le_of_ble_eq_true rfl) ?_
  intro p e s m below meth c A ls C hP hD hl
  have C : Cx RX3 "isStateCount" cX3_isStateCount 1 (some .boolean) wsX3_isStateCount D k t A p s m ([.int x1] : List Value).toArray meth c := C
  have hl : lv_has ls 1 [(0, .int x1)] := hl
  have hx := C.1
  have hb := C.2.1
  have hown := C.2.2.2.2.1
  have hts := C.2.2.2.2.2.1
  have hK := C.2.2.2.2.2.2.2.2.1
  have hZ := C.2.2.2.2.2.2.2.2.2.1
  have hN := C.2.2.2.2.2.2.2.2.2.2
  have hS : va_S A s.heap s.heap [] := va_S.rf
  refine lv_iload_n hx hb dX3_isStateCount_0 rfl (lv_at hl 0 rfl) ?_
  refine lv_iconst (v := nI 1) hx hb dX3_isStateCount_1 (by decide) ?_
  refine lv_icmp_lt (tgt := 14) hx hb dX3_isStateCount_2 (by decide) (fun c1 => ?_) (fun c1 => ?_)
  · refine lv_iconst (v := nI 0) hx hb dX3_isStateCount_14 (by decide) ?_
    exact Rz C hP hD hS (Nat.zero_le _) (Nat.zero_le _) rfl dX3_isStateCount_15 (⟨(pb_f (rg_lo (by decide) c1)).symm, rfl⟩)
  · refine lv_iload_n hx hb dX3_isStateCount_5 rfl (lv_at hl 0 rfl) ?_
    refine lv_iconst (v := nI 3) hx hb dX3_isStateCount_6 (by decide) ?_
    refine lv_icmp_gt (tgt := 14) hx hb dX3_isStateCount_7 (by decide) (fun c2 => ?_) (fun c2 => ?_)
    · refine lv_iconst (v := nI 0) hx hb dX3_isStateCount_14 (by decide) ?_
      exact Rz C hP hD hS (Nat.zero_le _) (Nat.zero_le _) rfl dX3_isStateCount_15 (⟨(pb_f (rg_hi' (by decide) c2)).symm, rfl⟩)
    · refine lv_iconst (v := nI 1) hx hb dX3_isStateCount_10 (by decide) ?_
      refine lv_goto (tgt := 15) hx hb dX3_isStateCount_11 (by decide) ?_
      exact Rz C hP hD hS (Nat.zero_le _) (Nat.zero_le _) rfl dX3_isStateCount_15 (⟨(pb_t (rg_in' (by decide) (by decide) c1 c2)).symm, rfl⟩)

set_option maxHeartbeats 4000000 in
set_option maxRecDepth 100000 in
theorem c_X3_isLaw (D : va_G) (k : Nat → ClassId) (t : Nat → Nat) (l : Launch) {ws : va_W} (x1 : Int32) : Ci D k t l yX3_isLaw wsX3_isLaw ({ frames := 0, cells := 0, slots := 0, locals := 0 }) [.int x1] (ws) (fun r w => r = pb (RG 0 10 x1) ∧ w = ws) 0 0 := by
  refine fw_of (cc := cX3_isLaw) (maxL := 1) (ret := (some .boolean)) (Qc := fun A => va_Qi (fun r w => r = pb (RG 0 10 x1) ∧ w = ws) (BcW D A) A) (by decide) rfl (Nat.le_of_ble_eq_true rfl) ?_
  intro p e s m below meth c A ls C hP hD hl
  have C : Cx RX3 "isLaw" cX3_isLaw 1 (some .boolean) wsX3_isLaw D k t A p s m ([.int x1] : List Value).toArray meth c := C
  have hl : lv_has ls 1 [(0, .int x1)] := hl
  have hx := C.1
  have hb := C.2.1
  have hown := C.2.2.2.2.1
  have hts := C.2.2.2.2.2.1
  have hK := C.2.2.2.2.2.2.2.2.1
  have hZ := C.2.2.2.2.2.2.2.2.2.1
  have hN := C.2.2.2.2.2.2.2.2.2.2
  have hS : va_S A s.heap s.heap [] := va_S.rf
  refine lv_iload_n hx hb dX3_isLaw_0 rfl (lv_at hl 0 rfl) ?_
  refine lv_if_lt (tgt := 14) hx hb dX3_isLaw_1 (by decide) (fun c1 => ?_) (fun c1 => ?_)
  · refine lv_iconst (v := nI 0) hx hb dX3_isLaw_14 (by decide) ?_
    exact Rz C hP hD hS (Nat.zero_le _) (Nat.zero_le _) rfl dX3_isLaw_15 (⟨(pb_f (rg_lo (by decide) c1)).symm, rfl⟩)
  · refine lv_iload_n hx hb dX3_isLaw_4 rfl (lv_at hl 0 rfl) ?_
    refine lv_bipush (v := nI 10) hx hb dX3_isLaw_5 (by decide) ?_
    refine lv_icmp_ge (tgt := 14) hx hb dX3_isLaw_7 (by decide) (fun c2 => ?_) (fun c2 => ?_)
    · refine lv_iconst (v := nI 0) hx hb dX3_isLaw_14 (by decide) ?_
      exact Rz C hP hD hS (Nat.zero_le _) (Nat.zero_le _) rfl dX3_isLaw_15 (⟨(pb_f (rg_hi (by decide) c2)).symm, rfl⟩)
    · refine lv_iconst (v := nI 1) hx hb dX3_isLaw_10 (by decide) ?_
      refine lv_goto (tgt := 15) hx hb dX3_isLaw_11 (by decide) ?_
      exact Rz C hP hD hS (Nat.zero_le _) (Nat.zero_le _) rfl dX3_isLaw_15 (⟨(pb_t (rg_in (by decide) (by decide) c1 c2)).symm, rfl⟩)

set_option maxHeartbeats 4000000 in
set_option maxRecDepth 100000 in
theorem c_X3_isSet (D : va_G) (k : Nat → ClassId) (t : Nat → Nat) (l : Launch) {ws : va_W} (x1 : Int32) : Ci D k t l yX3_isSet wsX3_isSet ({ frames := 0, cells := 0, slots := 0, locals := 0 }) [.int x1] (ws) (fun r w => r = pb (RG 1 8 x1) ∧ w = ws) 0 0 := by
  refine fw_of (cc := cX3_isSet) (maxL := 1) (ret := (some .boolean)) (Qc := fun A => va_Qi (fun r w => r = pb (RG 1 8 x1) ∧ w = ws) (BcW D A) A) (by decide) rfl (Nat.le_of_ble_eq_true rfl) ?_
  intro p e s m below meth c A ls C hP hD hl
  have C : Cx RX3 "isSet" cX3_isSet 1 (some .boolean) wsX3_isSet D k t A p s m ([.int x1] : List Value).toArray meth c := C
  have hl : lv_has ls 1 [(0, .int x1)] := hl
  have hx := C.1
  have hb := C.2.1
  have hown := C.2.2.2.2.1
  have hts := C.2.2.2.2.2.1
  have hK := C.2.2.2.2.2.2.2.2.1
  have hZ := C.2.2.2.2.2.2.2.2.2.1
  have hN := C.2.2.2.2.2.2.2.2.2.2
  have hS : va_S A s.heap s.heap [] := va_S.rf
  refine lv_iload_n hx hb dX3_isSet_0 rfl (lv_at hl 0 rfl) ?_
  refine lv_iconst (v := nI 1) hx hb dX3_isSet_1 (by decide) ?_
  refine lv_icmp_lt (tgt := 15) hx hb dX3_isSet_2 (by decide) (fun c1 => ?_) (fun c1 => ?_)
  · refine lv_iconst (v := nI 0) hx hb dX3_isSet_15 (by decide) ?_
    exact Rz C hP hD hS (Nat.zero_le _) (Nat.zero_le _) rfl dX3_isSet_16 (⟨(pb_f (rg_lo (by decide) c1)).symm, rfl⟩)
  · refine lv_iload_n hx hb dX3_isSet_5 rfl (lv_at hl 0 rfl) ?_
    refine lv_bipush (v := nI 8) hx hb dX3_isSet_6 (by decide) ?_
    refine lv_icmp_ge (tgt := 15) hx hb dX3_isSet_8 (by decide) (fun c2 => ?_) (fun c2 => ?_)
    · refine lv_iconst (v := nI 0) hx hb dX3_isSet_15 (by decide) ?_
      exact Rz C hP hD hS (Nat.zero_le _) (Nat.zero_le _) rfl dX3_isSet_16 (⟨(pb_f (rg_hi (by decide) c2)).symm, rfl⟩)
    · refine lv_iconst (v := nI 1) hx hb dX3_isSet_11 (by decide) ?_
      refine lv_goto (tgt := 16) hx hb dX3_isSet_12 (by decide) ?_
      exact Rz C hP hD hS (Nat.zero_le _) (Nat.zero_le _) rfl dX3_isSet_16 (⟨(pb_t (rg_in (by decide) (by decide) c1 c2)).symm, rfl⟩)

set_option maxHeartbeats 4000000 in
set_option maxRecDepth 100000 in
theorem c_X3_isGivens (D : va_G) (k : Nat → ClassId) (t : Nat → Nat) (l : Launch) {ws : va_W} (x1 : Int32) : Ci D k t l yX3_isGivens wsX3_isGivens ({ frames := 0, cells := 0, slots := 0, locals := 0 }) [.int x1] (ws) (fun r w => r = pb (RG 0 512 x1) ∧ w = ws) 0 0 := by
  refine fw_of (cc := cX3_isGivens) (maxL := 1) (ret := (some .boolean)) (Qc := fun A => va_Qi (fun r w => r = pb (RG 0 512 x1) ∧ w = ws) (BcW D A) A) (by decide) rfl (Nat.le_of_ble_eq_true rfl) ?_
  intro p e s m below meth c A ls C hP hD hl
  have C : Cx RX3 "isGivens" cX3_isGivens 1 (some .boolean) wsX3_isGivens D k t A p s m ([.int x1] : List Value).toArray meth c := C
  have hl : lv_has ls 1 [(0, .int x1)] := hl
  have hx := C.1
  have hb := C.2.1
  have hown := C.2.2.2.2.1
  have hts := C.2.2.2.2.2.1
  have hK := C.2.2.2.2.2.2.2.2.1
  have hZ := C.2.2.2.2.2.2.2.2.2.1
  have hN := C.2.2.2.2.2.2.2.2.2.2
  have hS : va_S A s.heap s.heap [] := va_S.rf
  refine lv_iload_n hx hb dX3_isGivens_0 rfl (lv_at hl 0 rfl) ?_
  refine lv_if_lt (tgt := 15) hx hb dX3_isGivens_1 (by decide) (fun c1 => ?_) (fun c1 => ?_)
  · refine lv_iconst (v := nI 0) hx hb dX3_isGivens_15 (by decide) ?_
    exact Rz C hP hD hS (Nat.zero_le _) (Nat.zero_le _) rfl dX3_isGivens_16 (⟨(pb_f (rg_lo (by decide) c1)).symm, rfl⟩)
  · refine lv_iload_n hx hb dX3_isGivens_4 rfl (lv_at hl 0 rfl) ?_
    refine lv_sipush (v := nI 512) hx hb dX3_isGivens_5 (by decide) ?_
    refine lv_icmp_ge (tgt := 15) hx hb dX3_isGivens_8 (by decide) (fun c2 => ?_) (fun c2 => ?_)
    · refine lv_iconst (v := nI 0) hx hb dX3_isGivens_15 (by decide) ?_
      exact Rz C hP hD hS (Nat.zero_le _) (Nat.zero_le _) rfl dX3_isGivens_16 (⟨(pb_f (rg_hi (by decide) c2)).symm, rfl⟩)
    · refine lv_iconst (v := nI 1) hx hb dX3_isGivens_11 (by decide) ?_
      refine lv_goto (tgt := 16) hx hb dX3_isGivens_12 (by decide) ?_
      exact Rz C hP hD hS (Nat.zero_le _) (Nat.zero_le _) rfl dX3_isGivens_16 (⟨(pb_t (rg_in (by decide) (by decide) c1 c2)).symm, rfl⟩)

set_option maxRecDepth 20000 in
theorem in_X3_world_X3 : ∀ w ∈ u_ws RX3 TX3 8, w ∈ wsX3_world := by decide +kernel
set_option maxRecDepth 20000 in
theorem lk_X3_world_11 : Cond.fieldLink RX3 11 (TX3 0).1 (TX3 0).2.1 (TX3 0).2.2.1 ∈ wsX3_world := by decide +kernel
set_option maxHeartbeats 4000000 in
set_option maxRecDepth 100000 in
theorem c_X3_world (D : va_G) (k : Nat → ClassId) (t : Nat → Nat) (l : Launch) {ad : Nat → Nat} {N : Nat → Int32} {S Wt L : Nat → Nat → Int32} {T : Nat → Int32} {G : Nat → Nat → Int64} {E : Nat → Int32} {su pa tr sh : Nat → Int32} {pv : Int32} (x1 x2 x3 x4 : Int32) : Ci D k t l yX3_world wsX3_world ({ frames := 2, cells := 0, slots := 0, locals := 60 }) [.ref (ad 0), .int x1, .int x2, .int x3, .int x4] (TBw ad k N S Wt L T G E su pa tr sh pv) (fun r w => (∃ g : Nat, (g < 4 ∧ x1 = nI g ∧ RG 1 4 x2 ∧ RG 1 4 x3 ∧ RG 1 4 x4) ∧ r = nI 1 ∧ w = TBw ad k (upd N g (nI 0)) (va_up S g (upd (upd (upd (S g) 0 x2) 1 x3) 2 x4)) (va_up Wt g (fun _ => nI 0)) L T G E su pa tr sh pv) ∨ ((∀ g : Nat, ¬ (g < 4 ∧ x1 = nI g ∧ RG 1 4 x2 ∧ RG 1 4 x3 ∧ RG 1 4 x4)) ∧ r = nI 0 ∧ w = TBw ad k N S Wt L T G E su pa tr sh pv)) 0 0 := by
  refine fw_of (cc := cX3_world) (maxL := 5) (ret := (some .boolean)) (Qc := fun A => va_Qi (fun r w => (∃ g : Nat, (g < 4 ∧ x1 = nI g ∧ RG 1 4 x2 ∧ RG 1 4 x3 ∧ RG 1 4 x4) ∧ r = nI 1 ∧ w = TBw ad k (upd N g (nI 0)) (va_up S g (upd (upd (upd (S g) 0 x2) 1 x3) 2 x4)) (va_up Wt g (fun _ => nI 0)) L T G E su pa tr sh pv) ∨ ((∀ g : Nat, ¬ (g < 4 ∧ x1 = nI g ∧ RG 1 4 x2 ∧ RG 1 4 x3 ∧ RG 1 4 x4)) ∧ r = nI 0 ∧ w = TBw ad k N S Wt L T G E su pa tr sh pv)) (BcW D A) A) (by decide) rfl (Nat.le_of_ble_eq_true rfl) ?_
  intro p e s m below meth c A ls C hP hD hl
  have C : Cx RX3 "world" cX3_world 5 (some .boolean) wsX3_world D k t A p s m ([.ref (ad 0), .int x1, .int x2, .int x3, .int x4] : List Value).toArray meth c := C
  have hl : lv_has ls 5 [(0, .ref (ad 0)), (1, .int x1), (2, .int x2), (3, .int x3), (4, .int x4)] := hl
  have hx := C.1
  have hb := C.2.1
  have hown := C.2.2.2.2.1
  have hts := C.2.2.2.2.2.1
  have hK := C.2.2.2.2.2.2.2.2.1
  have hZ := C.2.2.2.2.2.2.2.2.2.1
  have hN := C.2.2.2.2.2.2.2.2.2.2
  have hS : va_S A s.heap s.heap [] := va_S.rf
  refine lv_iload_n hx hb dX3_world_0 rfl (lv_at hl 1 rfl) ?_
  refine fw_i C hD hS (rn_S (As := [.int x1]) (rest := []) C (c_X3_isPlace D k t l x1 _) (va_cwS 1 hts gX3_world_X3_isPlace rfl rfl rfl hdX3_isPlace ⟨Nat.le_of_ble_eq_true rfl, Nat.le_of_ble_eq_true rfl⟩) hP hD hS rfl hl.1 rfl (Nat.le_of_ble_eq_true rfl) dX3_world_1 ⟨Nat.zero_le _, Nat.zero_le _⟩) (fun r1 wr1 H locs h2 hP hD hS => ?_)
  obtain ⟨rfl, rfl⟩ := h2
  refine lv_if_eq (tgt := 29) hx hb dX3_world_4 (by decide) (fun c3 => ?_) (fun c3 => ?_)
  · have c3 := pb_z c3
    refine lv_iconst (v := nI 0) hx hb dX3_world_29 (by decide) ?_
    exact Rz C hP hD hS (Nat.zero_le _) (Nat.zero_le _) rfl dX3_world_30 (Or.inr ⟨fun g h => c3 ⟨g, Nat.zero_le _, h.1, h.2.1⟩, rfl, rfl⟩)
  · have c3 := pb_nz c3
    obtain ⟨g, h0g, hg, rfl⟩ := id c3
    refine lv_iload_n hx hb dX3_world_7 rfl (lv_at hl 2 rfl) ?_
    refine fw_i C hD hS (rn_S (As := [.int x2]) (rest := []) C (c_X3_isStateCount D k t l x2 _) (va_cwS 1 hts gX3_world_X3_isStateCount rfl rfl rfl hdX3_isStateCount ⟨Nat.le_of_ble_eq_true rfl, Nat.le_of_ble_eq_true rfl⟩) hP hD hS rfl hl.1 rfl (Nat.le_of_ble_eq_true rfl) dX3_world_8 ⟨Nat.zero_le _, Nat.zero_le _⟩) (fun r4 wr4 H locs h5 hP hD hS => ?_)
    obtain ⟨rfl, rfl⟩ := h5
    refine lv_if_eq (tgt := 29) hx hb dX3_world_11 (by decide) (fun c6 => ?_) (fun c6 => ?_)
    · have c6 := pb_z c6
      refine lv_iconst (v := nI 0) hx hb dX3_world_29 (by decide) ?_
      exact Rz C hP hD hS (Nat.zero_le _) (Nat.zero_le _) rfl dX3_world_30 (Or.inr ⟨fun _ h => c6 h.2.2.1, rfl, rfl⟩)
    · have c6 := pb_nz c6
      refine lv_iload_n hx hb dX3_world_14 rfl (lv_at hl 3 rfl) ?_
      refine fw_i C hD hS (rn_S (As := [.int x3]) (rest := []) C (c_X3_isStateCount D k t l x3 _) (va_cwS 1 hts gX3_world_X3_isStateCount rfl rfl rfl hdX3_isStateCount ⟨Nat.le_of_ble_eq_true rfl, Nat.le_of_ble_eq_true rfl⟩) hP hD hS rfl hl.1 rfl (Nat.le_of_ble_eq_true rfl) dX3_world_15 ⟨Nat.zero_le _, Nat.zero_le _⟩) (fun r7 wr7 H locs h8 hP hD hS => ?_)
      obtain ⟨rfl, rfl⟩ := h8
      refine lv_if_eq (tgt := 29) hx hb dX3_world_18 (by decide) (fun c9 => ?_) (fun c9 => ?_)
      · have c9 := pb_z c9
        refine lv_iconst (v := nI 0) hx hb dX3_world_29 (by decide) ?_
        exact Rz C hP hD hS (Nat.zero_le _) (Nat.zero_le _) rfl dX3_world_30 (Or.inr ⟨fun _ h => c9 h.2.2.2.1, rfl, rfl⟩)
      · have c9 := pb_nz c9
        refine lv_iload hx hb dX3_world_21 (lv_at hl 4 rfl) ?_
        refine fw_i C hD hS (rn_S (As := [.int x4]) (rest := []) C (c_X3_isStateCount D k t l x4 _) (va_cwS 1 hts gX3_world_X3_isStateCount rfl rfl rfl hdX3_isStateCount ⟨Nat.le_of_ble_eq_true rfl, Nat.le_of_ble_eq_true rfl⟩) hP hD hS rfl hl.1 rfl (Nat.le_of_ble_eq_true rfl) dX3_world_23 ⟨Nat.zero_le _, Nat.zero_le _⟩) (fun r10 wr10 H locs h11 hP hD hS => ?_)
        obtain ⟨rfl, rfl⟩ := h11
        refine lv_if_ne (tgt := 31) hx hb dX3_world_26 (by decide) (fun c12 => ?_) (fun c12 => ?_)
        · have c12 := pb_nz c12
          refine lv_aload_n hx hb dX3_world_31 rfl (lv_at hl 0 rfl) ?_
          refine fg C hP 0 tb_o (ci := 3) rfl 0 (by decide) in_X3_world_X3 lk_X3_world_11 (v := .ref (ad 1)) rfl dX3_world_32 ?_
          refine lv_iload_n hx hb dX3_world_35 rfl (lv_at hl 1 rfl) ?_
          refine ar_q C hP 1 tb_ws (j := g) (v := .ref (ad (2 + 3 * g))) rfl (by omega) (by decide) dX3_world_36 ?_
          refine lv_iload_n hx hb dX3_world_37 rfl (lv_at hl 2 rfl) ?_
          refine lv_iload_n hx hb dX3_world_38 rfl (lv_at hl 3 rfl) ?_
          refine lv_iload hx hb dX3_world_39 (lv_at hl 4 rfl) ?_
          refine fw_v C hD hS (rn_VN (As := [.int x2, .int x3, .int x4]) (rest := []) (host := RX3) (C2 := RX2) C (c_X2_begin D k t l hg x2 x3 x4 _) (va_cnB 3 hts gX3_world_X2_begin_n52 rfl rfl rfl (hN.1 (RX3, 52, yX2_begin) (List.mem_of_getElem? (i := 3) rfl)) (hts (.initialized RX2) (by decide +kernel)) hdX2_begin ⟨Nat.le_of_ble_eq_true rfl, Nat.le_of_ble_eq_true rfl⟩) (hts (.instanceMethod yX2_begin) (by decide +kernel)) (hts (.selects RX2 yX2_begin yX2_begin) (by decide +kernel)) (2 + 3 * g) 2 rfl (tb_w hg) rfl hP hD hS rfl hl.1 rfl (Nat.le_of_ble_eq_true rfl) dX3_world_41 ⟨Nat.zero_le _, Nat.zero_le _⟩) (fun wr13 H locs h14 hP hD hS => ?_)
          obtain rfl := h14
          refine lv_iconst (v := nI 1) hx hb dX3_world_44 (by decide) ?_
          exact Rz C hP hD hS (Nat.zero_le _) (Nat.zero_le _) rfl dX3_world_45 (Or.inl ⟨g, ⟨hg, rfl, c6, c9, c12⟩, rfl, rfl⟩)
        · have c12 := pb_z c12
          refine lv_iconst (v := nI 0) hx hb dX3_world_29 (by decide) ?_
          exact Rz C hP hD hS (Nat.zero_le _) (Nat.zero_le _) rfl dX3_world_30 (Or.inr ⟨fun _ h => c12 h.2.2.2.2, rfl, rfl⟩)

