def nmf (b : Nat → Int) (n : Nat) : Nat → Int → Int → Int
  | 0, lo, _ => lo
  | r + 1, lo, hi => if hi - lo ≤ 1 then lo else if f_cmp (upv (nr b n (lo + (hi - lo) / 2)) 6) (upv (ng (nr b n (lo + (hi - lo) / 2))) 6) < 0 then nmf b n r lo (lo + (hi - lo) / 2) else nmf b n r (lo + (hi - lo) / 2) hi
theorem zI_sub (a b : Int) : zI a - zI b = zI (a - b) := by unfold zI; rw [Int32.ofInt_sub]
theorem zI_half {d : Int} (h : 0 ≤ d) (h2 : d < 2147483648) : zI d / nI 2 = zI (d / 2) := by
  rw [zI_nat h h2, pk_div (by omega) (by decide) (by decide), zI_nat (by omega) (by omega)]
  congr 1
  omega
theorem zI_le1 {d : Int} (h : 0 ≤ d) (h2 : d < 2147483648) : zI d ≤ nI 1 ↔ d ≤ 1 := by
  rw [zI_nat h h2, nI_leI (by omega) (by decide)]
  omega
theorem upd_nr (b : Nat → Int) (n : Nat) (f : Int) : ∀ j, j < 6 → upd (zT b) 0 (zI (b 0 - f * (n : Int))) j = zT (nr b n f) j := by
  intro j hj
  have h0 : pwI 2 0 = 1 := by decide
  have hp : ∀ j, j < 6 → j ≠ 0 → pwI 2 j = 0 := by decide +kernel
  by_cases q : j = 0
  · subst q
    simp only [upd, ↓reduceIte, zT, nr, adl, h0]
    congr 1
    rw [Int.mul_one, Int.neg_mul]
    omega
  · simp only [upd, q, ↓reduceIte, zT, nr, adl, hp j hj q, Int.mul_zero, Int.add_zero]
set_option maxRecDepth 20000 in
theorem in_X4_near_X4 : ∀ w ∈ u_ws RX4 TX4 15, w ∈ wsX4_near := by decide +kernel
set_option maxRecDepth 20000 in
theorem lk_X4_near_25 : Cond.fieldLink RX4 25 (TX4 5).1 (TX4 5).2.1 (TX4 5).2.2.1 ∈ wsX4_near := by decide +kernel
set_option maxRecDepth 20000 in
theorem lk_X4_near_16 : Cond.fieldLink RX4 16 (TX4 2).1 (TX4 2).2.1 (TX4 2).2.2.1 ∈ wsX4_near := by decide +kernel
set_option maxHeartbeats 4000000 in
set_option maxRecDepth 100000 in
theorem c_X4_near (D : va_G) (k : Nat → ClassId) (t : Nat → Nat) (l : Launch) {bd : Nat → Nat} {st wt sm nu po sh up lo : Nat → Int32} {li : Int32} {ro so un to : Nat → Int64} {it : Int32} {nn : Nat → Nat} {vv : Nat → Nat → Nat} {qq : Nat → Nat → Int} (hW : WIm sm wt nn vv) (hLI : LIm nu qq) (hB : ∀ g j c, g < 4 → j < 10 → 1 ≤ nn g → -1024 ≤ c → c ≤ 1024 → BE (nr (nB vv nn qq g j) (nn g) c)) (x1 x2 : Int32) : Ci D k t l yX4_near wsX4_near ({ frames := 3, cells := 0, slots := 0, locals := 120 }) [.ref (bd 0), .int x1, .int x2] (MWw bd k st wt sm nu po sh up lo li ro so un to it) (fun r w => (∃ ga ja : Nat, (ga < 4 ∧ x1 = nI ga ∧ ¬ sm ga ≤ 0 ∧ ja < 10 ∧ x2 = nI ja) ∧ r = zI (nmf (nB vv nn qq ga ja) (nn ga) 2000 (-1000) 1000) ∧ ∃ (p2 s2 u2 l2 : Nat → Int32) (i2 : Int32), w = MWw bd k st wt sm nu p2 s2 u2 l2 i2 ro so un to it) ∨ ((∀ ga ja : Nat, ¬ (ga < 4 ∧ x1 = nI ga ∧ ¬ sm ga ≤ 0 ∧ ja < 10 ∧ x2 = nI ja)) ∧ r = -10000 ∧ w = MWw bd k st wt sm nu po sh up lo li ro so un to it)) 0 0 := by
  refine fw_of (cc := cX4_near) (maxL := 6) (ret := (some .int)) (Qc := fun A => va_Qi (fun r w => (∃ ga ja : Nat, (ga < 4 ∧ x1 = nI ga ∧ ¬ sm ga ≤ 0 ∧ ja < 10 ∧ x2 = nI ja) ∧ r = zI (nmf (nB vv nn qq ga ja) (nn ga) 2000 (-1000) 1000) ∧ ∃ (p2 s2 u2 l2 : Nat → Int32) (i2 : Int32), w = MWw bd k st wt sm nu p2 s2 u2 l2 i2 ro so un to it) ∨ ((∀ ga ja : Nat, ¬ (ga < 4 ∧ x1 = nI ga ∧ ¬ sm ga ≤ 0 ∧ ja < 10 ∧ x2 = nI ja)) ∧ r = -10000 ∧ w = MWw bd k st wt sm nu po sh up lo li ro so un to it)) (BcW D A) A) (by decide) rfl (Nat.le_of_ble_eq_true rfl) ?_
  intro p e s m below meth c A ls C hP hD hl
  have C : Cx RX4 "near" cX4_near 6 (some .int) wsX4_near D k t A p s m ([.ref (bd 0), .int x1, .int x2] : List Value).toArray meth c := C
  have hl : lv_has ls 6 [(0, .ref (bd 0)), (1, .int x1), (2, .int x2)] := hl
  have hx := C.1
  have hb := C.2.1
  have hown := C.2.2.2.2.1
  have hts := C.2.2.2.2.2.1
  have hK := C.2.2.2.2.2.2.2.2.1
  have hZ := C.2.2.2.2.2.2.2.2.2.1
  have hN := C.2.2.2.2.2.2.2.2.2.2
  have hS : va_S A s.heap s.heap [] := va_S.rf
  refine lv_aload_n hx hb dX4_near_0 rfl (lv_at hl 0 rfl) ?_
  refine lv_iload_n hx hb dX4_near_1 rfl (lv_at hl 1 rfl) ?_
  refine fw_i C hD hS (rn_V (As := [.int x1]) (rest := []) C (c_X4_isMade D k t l x1 _) (cwV 1 hts gX4_near_X4_isMade rfl rfl rfl hdX4_isMadeC ⟨Nat.le_of_ble_eq_true rfl, Nat.le_of_ble_eq_true rfl⟩) 0 4 rfl mw_o rfl hP hD hS rfl hl.1 rfl (Nat.le_of_ble_eq_true rfl) dX4_near_2 ⟨Nat.zero_le _, Nat.zero_le _⟩) (fun r1 wr1 H locs h2 hP hD hS => ?_)
  obtain ⟨rfl, rfl⟩ := h2
  refine lv_if_eq (tgt := 15) hx hb dX4_near_5 (by decide) (fun c3 => ?_) (fun c3 => ?_)
  · have c3 := pb_z c3
    refine lv_sipush (v := (-10000)) hx hb dX4_near_15 (by decide) ?_
    exact Ri C hP hD hS (Nat.zero_le _) (Nat.zero_le _) dX4_near_18 (Or.inr ⟨fun g _ z => c3 ⟨g, z.1, z.2.1, z.2.2.1⟩, rfl, rfl⟩)
  · have c3 := pb_nz c3
    obtain ⟨g, hg, rfl, hmg⟩ := id c3
    refine lv_iload_n hx hb dX4_near_8 rfl (lv_at hl 2 rfl) ?_
    refine fw_i C hD hS (rn_S (As := [.int x2]) (rest := []) C (c_X4_isLaw D k t l x2 _) (va_cwS 1 hts gX4_near_X4_isLaw rfl rfl rfl hdX4_isLaw ⟨Nat.le_of_ble_eq_true rfl, Nat.le_of_ble_eq_true rfl⟩) hP hD hS rfl hl.1 rfl (Nat.le_of_ble_eq_true rfl) dX4_near_9 ⟨Nat.zero_le _, Nat.zero_le _⟩) (fun r4 wr4 H locs h5 hP hD hS => ?_)
    obtain ⟨rfl, rfl⟩ := h5
    refine lv_if_ne (tgt := 19) hx hb dX4_near_12 (by decide) (fun c6 => ?_) (fun c6 => ?_)
    · have c6 := pb_nz c6
      obtain ⟨j, h0j, hj, rfl⟩ := id c6
      have hng := hW.pos hg hmg
      refine lv_sipush (v := (-1000)) hx hb dX4_near_19 (by decide) ?_
      refine tp_i (y := zI (-1000)) (rfl) ?_
      refine lv_istore_n (lv' := [(3, .int (zI (-1000))), (0, .ref (bd 0)), (1, .int (nI g)), (2, .int (nI j))]) hx hb dX4_near_22 rfl hl (by decide) rfl (fun ls hl => ?_)
      refine lv_sipush (v := nI 1000) hx hb dX4_near_23 (by decide) ?_
      refine tp_i (y := zI 1000) (rfl) ?_
      refine lv_istore (lv' := [(4, .int (zI 1000)), (3, .int (zI (-1000))), (0, .ref (bd 0)), (1, .int (nI g)), (2, .int (nI j))]) hx hb dX4_near_26 hl (by decide) rfl (fun ls hl => ?_)
      have L7 : ∀ (r : Nat) (lo1 hi1 : Int) (p1 s1 u1 w1 : Nat → Int32) (i1 : Int32) (h1 : -1000 ≤ lo1) (h2 : hi1 ≤ 1000) (h3 : lo1 ≤ hi1) (h4 : hi1 - lo1 ≤ r) (h5 : nmf (nB vv nn qq g j) (nn g) r lo1 hi1 = nmf (nB vv nn qq g j) (nn g) 2000 (-1000) 1000), ∀ (H : Heap) (locs : List Loc) (ls : Array Slot), va_P D vwCl (MWw bd k st wt sm nu p1 s1 u1 w1 i1 ro so un to it) H → va_D A (MWw bd k st wt sm nu p1 s1 u1 w1 i1 ro so un to it) → va_S A s.heap H locs → lv_has ls 6 [(0, .ref (bd 0)), (1, .int (nI g)), (2, .int (nI j)), (3, .int (zI lo1)), (4, .int (zI hi1))] → W p l e ({ frames := 3, cells := 0, slots := 0, locals := 120 }) s m ([.ref (bd 0), .int (nI g), .int (nI j)] : List Value).toArray below meth c H locs 0 0 (MQ below (va_Qi (fun r w => (∃ ga ja : Nat, (ga < 4 ∧ (nI g) = nI ga ∧ ¬ sm ga ≤ 0 ∧ ja < 10 ∧ (nI j) = nI ja) ∧ r = zI (nmf (nB vv nn qq ga ja) (nn ga) 2000 (-1000) 1000) ∧ ∃ (p2 s2 u2 l2 : Nat → Int32) (i2 : Int32), w = MWw bd k st wt sm nu p2 s2 u2 l2 i2 ro so un to it) ∨ ((∀ ga ja : Nat, ¬ (ga < 4 ∧ (nI g) = nI ga ∧ ¬ sm ga ≤ 0 ∧ ja < 10 ∧ (nI j) = nI ja)) ∧ r = -10000 ∧ w = MWw bd k st wt sm nu po sh up lo li ro so un to it)) (BcW D A) A) ([.ref (bd 0), .int (nI g), .int (nI j)] : List Value).toArray s 0 0 A) (F0 m 28 ls []) := by
        intro r
        induction r with
        | zero =>
          intro lo1 hi1 p1 s1 u1 w1 i1 h1 h2 h3 h4 h5 H locs ls hP hD hS hl
          refine lv_iload hx hb dX4_near_28 (lv_at hl 4 rfl) ?_
          refine lv_iload_n hx hb dX4_near_30 rfl (lv_at hl 3 rfl) ?_
          refine lv_isub hx hb dX4_near_31 ?_
          refine tp_i (y := zI (hi1 - lo1)) (zI_sub _ _) ?_
          refine lv_iconst (v := nI 1) hx hb dX4_near_32 (by decide) ?_
          refine lv_icmp_le (tgt := 96) hx hb dX4_near_33 (by decide) (fun c8 => ?_) (fun c8 => absurd ((zI_le1 (by omega) (by omega)).mpr (by omega)) c8)
          refine lv_iload_n hx hb dX4_near_96 rfl (lv_at hl 3 rfl) ?_
          exact Ri C hP hD hS (Nat.zero_le _) (Nat.zero_le _) dX4_near_97 (Or.inl ⟨g, j, ⟨hg, rfl, hmg, hj, rfl⟩, by rw [← h5]; rfl, _, _, _, _, _, rfl⟩)
        | succ r ihL7 =>
          intro lo1 hi1 p1 s1 u1 w1 i1 h1 h2 h3 h4 h5 H locs ls hP hD hS hl
          refine lv_iload hx hb dX4_near_28 (lv_at hl 4 rfl) ?_
          refine lv_iload_n hx hb dX4_near_30 rfl (lv_at hl 3 rfl) ?_
          refine lv_isub hx hb dX4_near_31 ?_
          refine tp_i (y := zI (hi1 - lo1)) (zI_sub _ _) ?_
          refine lv_iconst (v := nI 1) hx hb dX4_near_32 (by decide) ?_
          refine lv_icmp_le (tgt := 96) hx hb dX4_near_33 (by decide) (fun c9 => ?_) (fun c9 => ?_)
          · refine lv_iload_n hx hb dX4_near_96 rfl (lv_at hl 3 rfl) ?_
            exact Ri C hP hD hS (Nat.zero_le _) (Nat.zero_le _) dX4_near_97 (Or.inl ⟨g, j, ⟨hg, rfl, hmg, hj, rfl⟩, by rw [← h5, nmf, if_pos ((zI_le1 (by omega) (by omega)).mp c9)], _, _, _, _, _, rfl⟩)
          · refine lv_iload_n hx hb dX4_near_36 rfl (lv_at hl 3 rfl) ?_
            refine lv_iload hx hb dX4_near_37 (lv_at hl 4 rfl) ?_
            refine lv_iload_n hx hb dX4_near_39 rfl (lv_at hl 3 rfl) ?_
            refine lv_isub hx hb dX4_near_40 ?_
            refine tp_i (y := zI (hi1 - lo1)) (zI_sub _ _) ?_
            refine lv_iconst (v := nI 2) hx hb dX4_near_41 (by decide) ?_
            refine lv_idiv hx hb dX4_near_42 (by decide) ?_
            refine tp_i (y := zI ((hi1 - lo1) / 2)) (zI_half (by omega) (by omega)) ?_
            refine lv_iadd hx hb dX4_near_43 ?_
            refine tp_i (y := zI (lo1 + (hi1 - lo1) / 2)) (zI_add _ _) ?_
            refine lv_istore (lv' := [(5, .int (zI (lo1 + (hi1 - lo1) / 2))), (0, .ref (bd 0)), (1, .int (nI g)), (2, .int (nI j)), (3, .int (zI lo1)), (4, .int (zI hi1))]) hx hb dX4_near_44 hl (by decide) rfl (fun ls hl => ?_)
            refine lv_aload_n hx hb dX4_near_46 rfl (lv_at hl 1 rfl) ?_
            refine fw_v C hD hS (rn_V (As := []) (rest := []) C (c_X4_clear D k t l _) (cwV 0 hts gX4_near_X4_clear rfl rfl rfl hdX4_clearC ⟨Nat.le_of_ble_eq_true rfl, Nat.le_of_ble_eq_true rfl⟩) 0 4 rfl mw_o rfl hP hD hS rfl hl.1 rfl (Nat.le_of_ble_eq_true rfl) dX4_near_47 ⟨Nat.zero_le _, Nat.zero_le _⟩) (fun wr10 H locs h11 hP hD hS => ?_)
            rw [zT_0] at h11
            obtain rfl := h11
            refine lv_aload_n hx hb dX4_near_50 rfl (lv_at hl 1 rfl) ?_
            refine lv_iload_n hx hb dX4_near_51 rfl (lv_at hl 2 rfl) ?_
            refine lv_iload_n hx hb dX4_near_52 rfl (lv_at hl 3 rfl) ?_
            refine lv_bipush (v := nI 16) hx hb dX4_near_53 (by decide) ?_
            refine tp_i (y := zI 16) (rfl) ?_
            refine fw_v C hD hS (rn_V (As := [.int (nI g), .int (nI j), .int (zI 16)]) (rest := []) C (c_X4_lawIn D k t l (qs := qq j) (vt := vv g) (n := nn g) (tm := 16) hg hj (hW g hg).1 hng (hW g hg).2.1 (hW g hg).2.2.1 (hW g hg).2.2.2 (hLI j hj).1 (hLI j hj).2 (by decide) _) (cwV 3 hts gX4_near_X4_lawIn rfl rfl rfl hdX4_lawInC ⟨Nat.le_of_ble_eq_true rfl, Nat.le_of_ble_eq_true rfl⟩) 0 4 rfl mw_o rfl hP hD hS rfl hl.1 rfl (Nat.le_of_ble_eq_true rfl) dX4_near_55 ⟨Nat.zero_le _, Nat.zero_le _⟩) (fun wr12 H locs h13 hP hD hS => ?_)
            obtain ⟨sh14, rfl⟩ := h13
            rw [show zT (lxp z0 (vv g) (nn g) (qq j) 16 7) = zT (nB vv nn qq g j) from rfl] at hP hD
            refine lv_aload_n hx hb dX4_near_58 rfl (lv_at hl 1 rfl) ?_
            refine fg C hP 0 mw_o (ci := 4) rfl 5 (by decide) in_X4_near_X4 lk_X4_near_25 (v := .ref (bd 6)) rfl dX4_near_59 ?_
            refine lv_iconst (v := nI 0) hx hb dX4_near_62 (by decide) ?_
            refine lv_dup2_11 hx hb dX4_near_63 rfl rfl ?_
            refine ar_i C hP 6 mw_po (j := 0) (by decide) (by decide) dX4_near_64 ?_
            refine tp_i (y := zI (nB vv nn qq g j 0)) (rfl) ?_
            refine lv_iload hx hb dX4_near_65 (lv_at hl 0 rfl) ?_
            refine lv_aload_n hx hb dX4_near_67 rfl (lv_at hl 1 rfl) ?_
            refine fg C hP 0 mw_o (ci := 4) rfl 2 (by decide) in_X4_near_X4 lk_X4_near_16 (v := .ref (bd 3)) rfl dX4_near_68 ?_
            refine lv_iload_n hx hb dX4_near_71 rfl (lv_at hl 2 rfl) ?_
            refine ar_i C hP 3 mw_sm (j := g) (by omega) (by decide) dX4_near_72 ?_
            refine tp_i (y := nI (nn g)) ((hW g hg).1) ?_
            refine lv_imul hx hb dX4_near_73 ?_
            refine tp_i (y := zI ((lo1 + (hi1 - lo1) / 2) * (nn g : Int))) (by rw [nz, zI_mul]) ?_
            refine lv_isub hx hb dX4_near_74 ?_
            refine tp_i (y := zI (nB vv nn qq g j 0 - (lo1 + (hi1 - lo1) / 2) * (nn g : Int))) (zI_sub _ _) ?_
            refine as_i C hP hD hS 6 mw_po (j := 0) (by decide) (by decide) (mw_po_st _) dX4_near_75 (fun H locs hP hD hS => ?_)
            obtain ⟨hP, hD⟩ := cg_i hP hD mw_po (g := zT (nr (nB vv nn qq g j) (nn g) (lo1 + (hi1 - lo1) / 2))) (upd_nr _ _ _) (mw_po_st _)
            refine lv_aload_n hx hb dX4_near_76 rfl (lv_at hl 1 rfl) ?_
            refine fw_i C hD hS (rn_V (As := []) (rest := []) C (c_X4_signOf D k t l (ee := (nr (nB vv nn qq g j) (nn g) (lo1 + (hi1 - lo1) / 2))) (hB g j (lo1 + (hi1 - lo1) / 2) hg hj hng (by omega) (by omega)).zt (hB g j (lo1 + (hi1 - lo1) / 2) hg hj hng (by omega) (by omega)).m0 (hB g j (lo1 + (hi1 - lo1) / 2) hg hj hng (by omega) (by omega)).m1 _) (cwV 0 hts gX4_near_X4_signOf rfl rfl rfl hdX4_signOfC ⟨Nat.le_of_ble_eq_true rfl, Nat.le_of_ble_eq_true rfl⟩) 0 4 rfl mw_o rfl hP hD hS rfl hl.1 rfl (Nat.le_of_ble_eq_true rfl) dX4_near_77 ⟨Nat.zero_le _, Nat.zero_le _⟩) (fun r15 wr15 H locs h16 hP hD hS => ?_)
            obtain ⟨u17, w18, i19, rfl, rfl⟩ := h16
            refine lv_if_lt (tgt := 89) hx hb dX4_near_80 (by decide) (fun c20 => ?_) (fun c20 => ?_)
            · refine lv_iload hx hb dX4_near_89 (lv_at hl 0 rfl) ?_
              refine lv_istore (lv' := [(4, .int (zI (lo1 + (hi1 - lo1) / 2))), (5, .int (zI (lo1 + (hi1 - lo1) / 2))), (0, .ref (bd 0)), (1, .int (nI g)), (2, .int (nI j)), (3, .int (zI lo1))]) hx hb dX4_near_91 hl (by decide) rfl (fun ls hl => ?_)
              refine lv_goto (tgt := 28) hx hb dX4_near_93 (by decide) ?_
              have hg2 : ¬ hi1 - lo1 ≤ 1 := (fun q => c9 ((zI_le1 (by omega) (by omega)).mpr q))
              exact ihL7 lo1 (lo1 + (hi1 - lo1) / 2) _ _ _ _ _ (by omega) (by omega) (by omega) (by omega) (by rw [← h5, nmf, if_neg hg2, if_pos c20]) _ _ _ hP hD hS (lv_sub hl [2, 3, 4, 5, 0] rfl)
            · refine lv_iload hx hb dX4_near_83 (lv_at hl 0 rfl) ?_
              refine lv_istore_n (lv' := [(3, .int (zI (lo1 + (hi1 - lo1) / 2))), (5, .int (zI (lo1 + (hi1 - lo1) / 2))), (0, .ref (bd 0)), (1, .int (nI g)), (2, .int (nI j)), (4, .int (zI hi1))]) hx hb dX4_near_85 rfl hl (by decide) rfl (fun ls hl => ?_)
              refine lv_goto (tgt := 93) hx hb dX4_near_86 (by decide) ?_
              refine lv_goto (tgt := 28) hx hb dX4_near_93 (by decide) ?_
              have hg2 : ¬ hi1 - lo1 ≤ 1 := (fun q => c9 ((zI_le1 (by omega) (by omega)).mpr q))
              exact ihL7 (lo1 + (hi1 - lo1) / 2) hi1 _ _ _ _ _ (by omega) (by omega) (by omega) (by omega) (by rw [← h5, nmf, if_neg hg2, if_neg c20]) _ _ _ hP hD hS (lv_sub hl [2, 3, 4, 0, 5] rfl)
      exact L7 2000 (-1000) 1000 _ _ _ _ _ (by decide) (by decide) (by decide) (by decide) rfl _ _ _ hP hD hS (lv_sub hl [2, 3, 4, 1, 0] rfl)
    · have c6 := pb_z c6
      refine lv_sipush (v := (-10000)) hx hb dX4_near_15 (by decide) ?_
      exact Ri C hP hD hS (Nat.zero_le _) (Nat.zero_le _) dX4_near_18 (Or.inr ⟨fun _ j z => c6 ⟨j, Nat.zero_le _, z.2.2.2.1, z.2.2.2.2⟩, rfl, rfl⟩)

