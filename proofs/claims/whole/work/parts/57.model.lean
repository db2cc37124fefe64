def blk (w : Nat → Int32) (f : Nat → Int32) (b i : Nat) : Nat → Int32 := fun q => if b ≤ q ∧ q < b + i then f (q - b) else w q
theorem blk_0 (w f : Nat → Int32) (b : Nat) : blk w f b 0 = w := by
  funext q
  exact if_neg (by omega)
theorem blk_s (w f : Nat → Int32) (b i : Nat) : upd (blk w f b i) (b + i) (f i) = blk w f b (i + 1) := by
  funext q
  by_cases h : q = b + i
  · subst h
    have h1 : b ≤ b + i ∧ b + i < b + (i + 1) := by omega
    simp only [upd, blk, ↓reduceIte, h1, and_self, Nat.add_sub_cancel_left]
  · by_cases h2 : b ≤ q ∧ q < b + i
    · have h3 : b ≤ q ∧ q < b + (i + 1) := by omega
      simp only [upd, blk, h, ↓reduceIte, h2, h3, and_self]
    · have h3 : ¬ (b ≤ q ∧ q < b + (i + 1)) := by omega
      simp only [upd, blk, h, ↓reduceIte, h2, h3]
theorem blk_o {w f : Nat → Int32} {b i q : Nat} (h : q < b ∨ b + i ≤ q) : blk w f b i q = w q := if_neg (by omega)
theorem sm_no {s r : Nat → Int32} (h : SM s r) {i : Nat} (hi : i < 3) (c : ¬ s i = r i) : False := by
  obtain ⟨h0, h1, h2⟩ := h
  match i, hi with
  | 0, _ => exact c h0
  | 1, _ => exact c h1
  | 2, _ => exact c h2
set_option maxRecDepth 20000 in
theorem in_X4_mix_X4 : ∀ w ∈ u_ws RX4 TX4 15, w ∈ wsX4_mix := by decide +kernel
set_option maxRecDepth 20000 in
theorem lk_X4_mix_16 : Cond.fieldLink RX4 16 (TX4 2).1 (TX4 2).2.1 (TX4 2).2.2.1 ∈ wsX4_mix := by decide +kernel
set_option maxRecDepth 20000 in
theorem lk_X4_mix_7 : Cond.fieldLink RX4 7 (TX4 0).1 (TX4 0).2.1 (TX4 0).2.2.1 ∈ wsX4_mix := by decide +kernel
set_option maxRecDepth 20000 in
theorem lk_X4_mix_13 : Cond.fieldLink RX4 13 (TX4 1).1 (TX4 1).2.1 (TX4 1).2.2.1 ∈ wsX4_mix := by decide +kernel
set_option maxHeartbeats 4000000 in
set_option maxRecDepth 100000 in
theorem c_X4_mix (D : va_G) (k : Nat → ClassId) (t : Nat → Nat) (l : Launch) {bd : Nat → Nat} {st wt sm nu po sh up lo : Nat → Int32} {li : Int32} {ro so un to : Nat → Int64} {it : Int32} (x1 x2 x3 : Int32) : Ci D k t l yX4_mix wsX4_mix ({ frames := 3, cells := 0, slots := 0, locals := 90 }) [.ref (bd 0), .int x1, .int x2, .int x3] (MWw bd k st wt sm nu po sh up lo li ro so un to it) (fun r w => (∃ fa ha ga : Nat, (fa < 4 ∧ x1 = nI fa ∧ ¬ sm fa ≤ 0 ∧ ha < 4 ∧ x2 = nI ha ∧ ¬ sm ha ≤ 0 ∧ ga < 4 ∧ x3 = nI ga ∧ SM (st3 st fa) (st3 st ha) ∧ sm fa + sm ha ≤ nI 16) ∧ r = nI 1 ∧ w = MWw bd k (blk st (fun q => st (3 * fa + q)) (3 * ga) 3) (blk wt (fun q => wt (27 * fa + q) + wt (27 * ha + q)) (27 * ga) 27) (upd sm ga (sm fa + sm ha)) nu po sh up lo li ro so un to it) ∨ ((∀ fa ha ga : Nat, ¬ (fa < 4 ∧ x1 = nI fa ∧ ¬ sm fa ≤ 0 ∧ ha < 4 ∧ x2 = nI ha ∧ ¬ sm ha ≤ 0 ∧ ga < 4 ∧ x3 = nI ga ∧ SM (st3 st fa) (st3 st ha) ∧ sm fa + sm ha ≤ nI 16)) ∧ r = nI 0 ∧ w = MWw bd k st wt sm nu po sh up lo li ro so un to it)) 0 0 := by
  refine fw_of (cc := cX4_mix) (maxL := 6) (ret := (some .boolean)) (Qc := fun A => va_Qi (fun r w => (∃ fa ha ga : Nat, (fa < 4 ∧ x1 = nI fa ∧ ¬ sm fa ≤ 0 ∧ ha < 4 ∧ x2 = nI ha ∧ ¬ sm ha ≤ 0 ∧ ga < 4 ∧ x3 = nI ga ∧ SM (st3 st fa) (st3 st ha) ∧ sm fa + sm ha ≤ nI 16) ∧ r = nI 1 ∧ w = MWw bd k (blk st (fun q => st (3 * fa + q)) (3 * ga) 3) (blk wt (fun q => wt (27 * fa + q) + wt (27 * ha + q)) (27 * ga) 27) (upd sm ga (sm fa + sm ha)) nu po sh up lo li ro so un to it) ∨ ((∀ fa ha ga : Nat, ¬ (fa < 4 ∧ x1 = nI fa ∧ ¬ sm fa ≤ 0 ∧ ha < 4 ∧ x2 = nI ha ∧ ¬ sm ha ≤ 0 ∧ ga < 4 ∧ x3 = nI ga ∧ SM (st3 st fa) (st3 st ha) ∧ sm fa + sm ha ≤ nI 16)) ∧ r = nI 0 ∧ w = MWw bd k st wt sm nu po sh up lo li ro so un to it)) (BcW D A) A) (by decide) rfl (Nat.le_of_ble_eq_true rfl) ?_
  intro p e s m below meth c A ls C hP hD hl
  have C : Cx RX4 "mix" cX4_mix 6 (some .boolean) wsX4_mix D k t A p s m ([.ref (bd 0), .int x1, .int x2, .int x3] : List Value).toArray meth c := C
  have hl : lv_has ls 6 [(0, .ref (bd 0)), (1, .int x1), (2, .int x2), (3, .int x3)] := hl
  have hx := C.1
  have hb := C.2.1
  have hown := C.2.2.2.2.1
  have hts := C.2.2.2.2.2.1
  have hK := C.2.2.2.2.2.2.2.2.1
  have hZ := C.2.2.2.2.2.2.2.2.2.1
  have hN := C.2.2.2.2.2.2.2.2.2.2
  have hS : va_S A s.heap s.heap [] := va_S.rf
  refine lv_aload_n hx hb dX4_mix_0 rfl (lv_at hl 0 rfl) ?_
  refine lv_iload_n hx hb dX4_mix_1 rfl (lv_at hl 1 rfl) ?_
  refine fw_i C hD hS (rn_V (As := [.int x1]) (rest := []) C (c_X4_isMade D k t l x1 _) (cwV 1 hts gX4_mix_X4_isMade rfl rfl rfl hdX4_isMadeC ⟨Nat.le_of_ble_eq_true rfl, Nat.le_of_ble_eq_true rfl⟩) 0 4 rfl mw_o rfl hP hD hS rfl hl.1 rfl (Nat.le_of_ble_eq_true rfl) dX4_mix_2 ⟨Nat.zero_le _, Nat.zero_le _⟩) (fun r1 wr1 H locs h2 hP hD hS => ?_)
  obtain ⟨rfl, rfl⟩ := h2
  refine lv_if_eq (tgt := 41) hx hb dX4_mix_5 (by decide) (fun c3 => ?_) (fun c3 => ?_)
  · have c3 := pb_z c3
    refine lv_iconst (v := nI 0) hx hb dX4_mix_41 (by decide) ?_
    exact Rz C hP hD hS (Nat.zero_le _) (Nat.zero_le _) rfl dX4_mix_42 (Or.inr ⟨fun f _ _ z => c3 ⟨f, z.1, z.2.1, z.2.2.1⟩, rfl, rfl⟩)
  · have c3 := pb_nz c3
    obtain ⟨f, hf, rfl, hmf⟩ := id c3
    refine lv_aload_n hx hb dX4_mix_8 rfl (lv_at hl 0 rfl) ?_
    refine lv_iload_n hx hb dX4_mix_9 rfl (lv_at hl 2 rfl) ?_
    refine fw_i C hD hS (rn_V (As := [.int x2]) (rest := []) C (c_X4_isMade D k t l x2 _) (cwV 1 hts gX4_mix_X4_isMade rfl rfl rfl hdX4_isMadeC ⟨Nat.le_of_ble_eq_true rfl, Nat.le_of_ble_eq_true rfl⟩) 0 4 rfl mw_o rfl hP hD hS rfl hl.1 rfl (Nat.le_of_ble_eq_true rfl) dX4_mix_10 ⟨Nat.zero_le _, Nat.zero_le _⟩) (fun r4 wr4 H locs h5 hP hD hS => ?_)
    obtain ⟨rfl, rfl⟩ := h5
    refine lv_if_eq (tgt := 41) hx hb dX4_mix_13 (by decide) (fun c6 => ?_) (fun c6 => ?_)
    · have c6 := pb_z c6
      refine lv_iconst (v := nI 0) hx hb dX4_mix_41 (by decide) ?_
      exact Rz C hP hD hS (Nat.zero_le _) (Nat.zero_le _) rfl dX4_mix_42 (Or.inr ⟨fun _ h _ z => c6 ⟨h, z.2.2.2.1, z.2.2.2.2.1, z.2.2.2.2.2.1⟩, rfl, rfl⟩)
    · have c6 := pb_nz c6
      obtain ⟨h, hh, rfl, hmh⟩ := id c6
      refine lv_iload_n hx hb dX4_mix_16 rfl (lv_at hl 3 rfl) ?_
      refine fw_i C hD hS (rn_S (As := [.int x3]) (rest := []) C (c_X4_isPlace D k t l x3 _) (va_cwS 1 hts gX4_mix_X4_isPlace rfl rfl rfl hdX4_isPlace ⟨Nat.le_of_ble_eq_true rfl, Nat.le_of_ble_eq_true rfl⟩) hP hD hS rfl hl.1 rfl (Nat.le_of_ble_eq_true rfl) dX4_mix_17 ⟨Nat.zero_le _, Nat.zero_le _⟩) (fun r7 wr7 H locs h8 hP hD hS => ?_)
      obtain ⟨rfl, rfl⟩ := h8
      refine lv_if_eq (tgt := 41) hx hb dX4_mix_20 (by decide) (fun c9 => ?_) (fun c9 => ?_)
      · have c9 := pb_z c9
        refine lv_iconst (v := nI 0) hx hb dX4_mix_41 (by decide) ?_
        exact Rz C hP hD hS (Nat.zero_le _) (Nat.zero_le _) rfl dX4_mix_42 (Or.inr ⟨fun _ _ g z => c9 ⟨g, Nat.zero_le _, z.2.2.2.2.2.2.1, z.2.2.2.2.2.2.2.1⟩, rfl, rfl⟩)
      · have c9 := pb_nz c9
        obtain ⟨g, h0g, hg, rfl⟩ := id c9
        refine lv_aload_n hx hb dX4_mix_23 rfl (lv_at hl 0 rfl) ?_
        refine fg C hP 0 mw_o (ci := 4) rfl 2 (by decide) in_X4_mix_X4 lk_X4_mix_16 (v := .ref (bd 3)) rfl dX4_mix_24 ?_
        refine lv_iload_n hx hb dX4_mix_27 rfl (lv_at hl 1 rfl) ?_
        refine ar_i C hP 3 mw_sm (j := f) (by omega) (by decide) dX4_mix_28 ?_
        refine lv_aload_n hx hb dX4_mix_29 rfl (lv_at hl 0 rfl) ?_
        refine fg C hP 0 mw_o (ci := 4) rfl 2 (by decide) in_X4_mix_X4 lk_X4_mix_16 (v := .ref (bd 3)) rfl dX4_mix_30 ?_
        refine lv_iload_n hx hb dX4_mix_33 rfl (lv_at hl 2 rfl) ?_
        refine ar_i C hP 3 mw_sm (j := h) (by omega) (by decide) dX4_mix_34 ?_
        refine lv_iadd hx hb dX4_mix_35 ?_
        refine lv_bipush (v := nI 16) hx hb dX4_mix_36 (by decide) ?_
        refine lv_icmp_le (tgt := 43) hx hb dX4_mix_38 (by decide) (fun c10 => ?_) (fun c10 => ?_)
        · refine lv_iconst (v := nI 0) hx hb dX4_mix_43 (by decide) ?_
          refine lv_istore (lv' := [(4, .int (nI 0)), (0, .ref (bd 0)), (1, .int (nI f)), (2, .int (nI h)), (3, .int (nI g))]) hx hb dX4_mix_44 hl (by decide) rfl (fun ls hl => ?_)
          have L11 : ∀ (r i : Nat), i + r = 3 → (∀ q, q < i → st (3 * f + q) = st (3 * h + q)) → ∀ (H : Heap) (locs : List Loc) (ls : Array Slot), va_P D vwCl (MWw bd k st wt sm nu po sh up lo li ro so un to it) H → va_D A (MWw bd k st wt sm nu po sh up lo li ro so un to it) → va_S A s.heap H locs → lv_has ls 6 [(0, .ref (bd 0)), (1, .int (nI f)), (2, .int (nI h)), (3, .int (nI g)), (4, .int (nI i))] → W p l e ({ frames := 3, cells := 0, slots := 0, locals := 90 }) s m ([.ref (bd 0), .int (nI f), .int (nI h), .int (nI g)] : List Value).toArray below meth c H locs 0 0 (MQ below (va_Qi (fun r w => (∃ fa ha ga : Nat, (fa < 4 ∧ (nI f) = nI fa ∧ ¬ sm fa ≤ 0 ∧ ha < 4 ∧ (nI h) = nI ha ∧ ¬ sm ha ≤ 0 ∧ ga < 4 ∧ (nI g) = nI ga ∧ SM (st3 st fa) (st3 st ha) ∧ sm fa + sm ha ≤ nI 16) ∧ r = nI 1 ∧ w = MWw bd k (blk st (fun q => st (3 * fa + q)) (3 * ga) 3) (blk wt (fun q => wt (27 * fa + q) + wt (27 * ha + q)) (27 * ga) 27) (upd sm ga (sm fa + sm ha)) nu po sh up lo li ro so un to it) ∨ ((∀ fa ha ga : Nat, ¬ (fa < 4 ∧ (nI f) = nI fa ∧ ¬ sm fa ≤ 0 ∧ ha < 4 ∧ (nI h) = nI ha ∧ ¬ sm ha ≤ 0 ∧ ga < 4 ∧ (nI g) = nI ga ∧ SM (st3 st fa) (st3 st ha) ∧ sm fa + sm ha ≤ nI 16)) ∧ r = nI 0 ∧ w = MWw bd k st wt sm nu po sh up lo li ro so un to it)) (BcW D A) A) ([.ref (bd 0), .int (nI f), .int (nI h), .int (nI g)] : List Value).toArray s 0 0 A) (F0 m 46 ls []) := by
            intro r
            induction r with
            | zero =>
              intro i hr hs0 H locs ls hP hD hS hl
              obtain rfl : 3 = i := by omega
              refine lv_iload hx hb dX4_mix_46 (lv_at hl 4 rfl) ?_
              refine lv_iconst (v := nI 3) hx hb dX4_mix_48 (by decide) ?_
              refine lv_icmp_ge (tgt := 85) hx hb dX4_mix_49 (by decide) (fun c12 => ?_) (fun c12 => absurd (nI_le (by omega) (by decide)) c12)
              have hSM : SM (st3 st f) (st3 st h) := ⟨hs0 0 (by decide), hs0 1 (by decide), hs0 2 (by decide)⟩
              refine lv_aload_n hx hb dX4_mix_85 rfl (lv_at hl 0 rfl) ?_
              refine fg C hP 0 mw_o (ci := 4) rfl 2 (by decide) in_X4_mix_X4 lk_X4_mix_16 (v := .ref (bd 3)) rfl dX4_mix_86 ?_
              refine lv_iload_n hx hb dX4_mix_89 rfl (lv_at hl 1 rfl) ?_
              refine ar_i C hP 3 mw_sm (j := f) (by omega) (by decide) dX4_mix_90 ?_
              refine lv_aload_n hx hb dX4_mix_91 rfl (lv_at hl 0 rfl) ?_
              refine fg C hP 0 mw_o (ci := 4) rfl 2 (by decide) in_X4_mix_X4 lk_X4_mix_16 (v := .ref (bd 3)) rfl dX4_mix_92 ?_
              refine lv_iload_n hx hb dX4_mix_95 rfl (lv_at hl 2 rfl) ?_
              refine ar_i C hP 3 mw_sm (j := h) (by omega) (by decide) dX4_mix_96 ?_
              refine lv_iadd hx hb dX4_mix_97 ?_
              refine lv_istore (lv' := [(4, .int ((sm f) + (sm h))), (0, .ref (bd 0)), (1, .int (nI f)), (2, .int (nI h)), (3, .int (nI g))]) hx hb dX4_mix_98 hl (by decide) rfl (fun ls hl => ?_)
              refine lv_iconst (v := nI 0) hx hb dX4_mix_100 (by decide) ?_
              refine lv_istore (lv' := [(5, .int (nI 0)), (4, .int ((sm f) + (sm h))), (0, .ref (bd 0)), (1, .int (nI f)), (2, .int (nI h)), (3, .int (nI g))]) hx hb dX4_mix_101 hl (by decide) rfl (fun ls hl => ?_)
              have L13 : ∀ (r i : Nat), i + r = 27 → ∀ (H : Heap) (locs : List Loc) (ls : Array Slot), va_P D vwCl (MWw bd k st (blk wt (fun q => wt (27 * f + q) + wt (27 * h + q)) (27 * g) i) sm nu po sh up lo li ro so un to it) H → va_D A (MWw bd k st (blk wt (fun q => wt (27 * f + q) + wt (27 * h + q)) (27 * g) i) sm nu po sh up lo li ro so un to it) → va_S A s.heap H locs → lv_has ls 6 [(0, .ref (bd 0)), (1, .int (nI f)), (2, .int (nI h)), (3, .int (nI g)), (4, .int (sm f + sm h)), (5, .int (nI i))] → W p l e ({ frames := 3, cells := 0, slots := 0, locals := 90 }) s m ([.ref (bd 0), .int (nI f), .int (nI h), .int (nI g)] : List Value).toArray below meth c H locs 0 0 (MQ below (va_Qi (fun r w => (∃ fa ha ga : Nat, (fa < 4 ∧ (nI f) = nI fa ∧ ¬ sm fa ≤ 0 ∧ ha < 4 ∧ (nI h) = nI ha ∧ ¬ sm ha ≤ 0 ∧ ga < 4 ∧ (nI g) = nI ga ∧ SM (st3 st fa) (st3 st ha) ∧ sm fa + sm ha ≤ nI 16) ∧ r = nI 1 ∧ w = MWw bd k (blk st (fun q => st (3 * fa + q)) (3 * ga) 3) (blk wt (fun q => wt (27 * fa + q) + wt (27 * ha + q)) (27 * ga) 27) (upd sm ga (sm fa + sm ha)) nu po sh up lo li ro so un to it) ∨ ((∀ fa ha ga : Nat, ¬ (fa < 4 ∧ (nI f) = nI fa ∧ ¬ sm fa ≤ 0 ∧ ha < 4 ∧ (nI h) = nI ha ∧ ¬ sm ha ≤ 0 ∧ ga < 4 ∧ (nI g) = nI ga ∧ SM (st3 st fa) (st3 st ha) ∧ sm fa + sm ha ≤ nI 16)) ∧ r = nI 0 ∧ w = MWw bd k st wt sm nu po sh up lo li ro so un to it)) (BcW D A) A) ([.ref (bd 0), .int (nI f), .int (nI h), .int (nI g)] : List Value).toArray s 0 0 A) (F0 m 103 ls []) := by
                intro r
                induction r with
                | zero =>
                  intro i hr H locs ls hP hD hS hl
                  obtain rfl : 27 = i := by omega
                  refine lv_iload hx hb dX4_mix_103 (lv_at hl 5 rfl) ?_
                  refine lv_bipush (v := nI 27) hx hb dX4_mix_105 (by decide) ?_
                  refine lv_icmp_ge (tgt := 153) hx hb dX4_mix_107 (by decide) (fun c14 => ?_) (fun c14 => absurd (nI_le (by omega) (by decide)) c14)
                  refine lv_iconst (v := nI 0) hx hb dX4_mix_153 (by decide) ?_
                  refine lv_istore (lv' := [(5, .int (nI 0)), (0, .ref (bd 0)), (1, .int (nI f)), (2, .int (nI h)), (3, .int (nI g)), (4, .int (sm f + sm h))]) hx hb dX4_mix_154 hl (by decide) rfl (fun ls hl => ?_)
                  have L15 : ∀ (r i : Nat), i + r = 3 → ∀ (H : Heap) (locs : List Loc) (ls : Array Slot), va_P D vwCl (MWw bd k (blk st (fun q => st (3 * f + q)) (3 * g) i) (blk wt (fun q => wt (27 * f + q) + wt (27 * h + q)) (27 * g) 27) sm nu po sh up lo li ro so un to it) H → va_D A (MWw bd k (blk st (fun q => st (3 * f + q)) (3 * g) i) (blk wt (fun q => wt (27 * f + q) + wt (27 * h + q)) (27 * g) 27) sm nu po sh up lo li ro so un to it) → va_S A s.heap H locs → lv_has ls 6 [(0, .ref (bd 0)), (1, .int (nI f)), (2, .int (nI h)), (3, .int (nI g)), (4, .int (sm f + sm h)), (5, .int (nI i))] → W p l e ({ frames := 3, cells := 0, slots := 0, locals := 90 }) s m ([.ref (bd 0), .int (nI f), .int (nI h), .int (nI g)] : List Value).toArray below meth c H locs 0 0 (MQ below (va_Qi (fun r w => (∃ fa ha ga : Nat, (fa < 4 ∧ (nI f) = nI fa ∧ ¬ sm fa ≤ 0 ∧ ha < 4 ∧ (nI h) = nI ha ∧ ¬ sm ha ≤ 0 ∧ ga < 4 ∧ (nI g) = nI ga ∧ SM (st3 st fa) (st3 st ha) ∧ sm fa + sm ha ≤ nI 16) ∧ r = nI 1 ∧ w = MWw bd k (blk st (fun q => st (3 * fa + q)) (3 * ga) 3) (blk wt (fun q => wt (27 * fa + q) + wt (27 * ha + q)) (27 * ga) 27) (upd sm ga (sm fa + sm ha)) nu po sh up lo li ro so un to it) ∨ ((∀ fa ha ga : Nat, ¬ (fa < 4 ∧ (nI f) = nI fa ∧ ¬ sm fa ≤ 0 ∧ ha < 4 ∧ (nI h) = nI ha ∧ ¬ sm ha ≤ 0 ∧ ga < 4 ∧ (nI g) = nI ga ∧ SM (st3 st fa) (st3 st ha) ∧ sm fa + sm ha ≤ nI 16)) ∧ r = nI 0 ∧ w = MWw bd k st wt sm nu po sh up lo li ro so un to it)) (BcW D A) A) ([.ref (bd 0), .int (nI f), .int (nI h), .int (nI g)] : List Value).toArray s 0 0 A) (F0 m 156 ls []) := by
                    intro r
                    induction r with
                    | zero =>
                      intro i hr H locs ls hP hD hS hl
                      obtain rfl : 3 = i := by omega
                      refine lv_iload hx hb dX4_mix_156 (lv_at hl 5 rfl) ?_
                      refine lv_iconst (v := nI 3) hx hb dX4_mix_158 (by decide) ?_
                      refine lv_icmp_ge (tgt := 190) hx hb dX4_mix_159 (by decide) (fun c16 => ?_) (fun c16 => absurd (nI_le (by omega) (by decide)) c16)
                      refine lv_aload_n hx hb dX4_mix_190 rfl (lv_at hl 0 rfl) ?_
                      refine fg C hP 0 mw_o (ci := 4) rfl 2 (by decide) in_X4_mix_X4 lk_X4_mix_16 (v := .ref (bd 3)) rfl dX4_mix_191 ?_
                      refine lv_iload_n hx hb dX4_mix_194 rfl (lv_at hl 3 rfl) ?_
                      refine lv_iload hx hb dX4_mix_195 (lv_at hl 4 rfl) ?_
                      refine as_i C hP hD hS 3 mw_sm (j := g) (by omega) (by decide) (mw_sm_st _) dX4_mix_197 (fun H locs hP hD hS => ?_)
                      refine lv_iconst (v := nI 1) hx hb dX4_mix_198 (by decide) ?_
                      exact Rz C hP hD hS (Nat.zero_le _) (Nat.zero_le _) rfl dX4_mix_199 (Or.inl ⟨f, h, g, ⟨hf, rfl, hmf, hh, rfl, hmh, hg, rfl, hSM, c10⟩, rfl, rfl⟩)
                    | succ r ihL15 =>
                      intro i hr H locs ls hP hD hS hl
                      refine lv_iload hx hb dX4_mix_156 (lv_at hl 5 rfl) ?_
                      refine lv_iconst (v := nI 3) hx hb dX4_mix_158 (by decide) ?_
                      refine lv_icmp_ge (tgt := 190) hx hb dX4_mix_159 (by decide) (fun c17 => absurd c17 (nI_ge (by omega) (by decide))) (fun c17 => ?_)
                      refine lv_aload_n hx hb dX4_mix_162 rfl (lv_at hl 0 rfl) ?_
                      refine fg C hP 0 mw_o (ci := 4) rfl 0 (by decide) in_X4_mix_X4 lk_X4_mix_7 (v := .ref (bd 1)) rfl dX4_mix_163 ?_
                      refine lv_iconst (v := nI 3) hx hb dX4_mix_166 (by decide) ?_
                      refine lv_iload_n hx hb dX4_mix_167 rfl (lv_at hl 3 rfl) ?_
                      refine lv_imul hx hb dX4_mix_168 ?_
                      refine tp_i (y := nI (3 * g)) (pk_mul _ _) ?_
                      refine lv_iload hx hb dX4_mix_169 (lv_at hl 5 rfl) ?_
                      refine lv_iadd hx hb dX4_mix_171 ?_
                      refine tp_i (y := nI ((3 * g) + i)) (nI_add _ _) ?_
                      refine lv_aload_n hx hb dX4_mix_172 rfl (lv_at hl 0 rfl) ?_
                      refine fg C hP 0 mw_o (ci := 4) rfl 0 (by decide) in_X4_mix_X4 lk_X4_mix_7 (v := .ref (bd 1)) rfl dX4_mix_173 ?_
                      refine lv_iconst (v := nI 3) hx hb dX4_mix_176 (by decide) ?_
                      refine lv_iload_n hx hb dX4_mix_177 rfl (lv_at hl 1 rfl) ?_
                      refine lv_imul hx hb dX4_mix_178 ?_
                      refine tp_i (y := nI (3 * f)) (pk_mul _ _) ?_
                      refine lv_iload hx hb dX4_mix_179 (lv_at hl 5 rfl) ?_
                      refine lv_iadd hx hb dX4_mix_181 ?_
                      refine tp_i (y := nI ((3 * f) + i)) (nI_add _ _) ?_
                      refine ar_i C hP 1 mw_st (j := ((3 * f) + i)) (by omega) (by decide) dX4_mix_182 ?_
                      refine tp_i (y := st (3 * f + i)) (blk_o (by omega)) ?_
                      refine as_i C hP hD hS 1 mw_st (j := ((3 * g) + i)) (by omega) (by decide) (mw_st_st _) dX4_mix_183 (fun H locs hP hD hS => ?_)
                      refine lv_iinc (v := nI (i + 1)) (lv' := [(5, .int (nI (i + 1))), (0, .ref (bd 0)), (1, .int (nI f)), (2, .int (nI h)), (3, .int (nI g)), (4, .int (sm f + sm h))]) hx hb dX4_mix_184 hl (k := 5) rfl (by rw [← nI_add i 1]; rfl) (by decide) rfl (fun ls hl => ?_)
                      refine lv_goto (tgt := 156) hx hb dX4_mix_187 (by decide) ?_
                      rw [blk_s st (fun q => st (3 * f + q))] at hP hD
                      exact ihL15 (i + 1) (by omega) _ _ _ hP hD hS (lv_sub hl [1, 2, 3, 4, 5, 0] rfl)
                  rw [← blk_0 st (fun q => st (3 * f + q)) (3 * g)] at hP hD
                  exact L15 (3 - 0) 0 (by omega) _ _ _ hP hD hS (lv_sub hl [1, 2, 3, 4, 5, 0] rfl)
                | succ r ihL13 =>
                  intro i hr H locs ls hP hD hS hl
                  refine lv_iload hx hb dX4_mix_103 (lv_at hl 5 rfl) ?_
                  refine lv_bipush (v := nI 27) hx hb dX4_mix_105 (by decide) ?_
                  refine lv_icmp_ge (tgt := 153) hx hb dX4_mix_107 (by decide) (fun c18 => absurd c18 (nI_ge (by omega) (by decide))) (fun c18 => ?_)
                  refine lv_aload_n hx hb dX4_mix_110 rfl (lv_at hl 0 rfl) ?_
                  refine fg C hP 0 mw_o (ci := 4) rfl 1 (by decide) in_X4_mix_X4 lk_X4_mix_13 (v := .ref (bd 2)) rfl dX4_mix_111 ?_
                  refine lv_bipush (v := nI 27) hx hb dX4_mix_114 (by decide) ?_
                  refine lv_iload_n hx hb dX4_mix_116 rfl (lv_at hl 3 rfl) ?_
                  refine lv_imul hx hb dX4_mix_117 ?_
                  refine tp_i (y := nI (27 * g)) (pk_mul _ _) ?_
                  refine lv_iload hx hb dX4_mix_118 (lv_at hl 5 rfl) ?_
                  refine lv_iadd hx hb dX4_mix_120 ?_
                  refine tp_i (y := nI ((27 * g) + i)) (nI_add _ _) ?_
                  refine lv_aload_n hx hb dX4_mix_121 rfl (lv_at hl 0 rfl) ?_
                  refine fg C hP 0 mw_o (ci := 4) rfl 1 (by decide) in_X4_mix_X4 lk_X4_mix_13 (v := .ref (bd 2)) rfl dX4_mix_122 ?_
                  refine lv_bipush (v := nI 27) hx hb dX4_mix_125 (by decide) ?_
                  refine lv_iload_n hx hb dX4_mix_127 rfl (lv_at hl 1 rfl) ?_
                  refine lv_imul hx hb dX4_mix_128 ?_
                  refine tp_i (y := nI (27 * f)) (pk_mul _ _) ?_
                  refine lv_iload hx hb dX4_mix_129 (lv_at hl 5 rfl) ?_
                  refine lv_iadd hx hb dX4_mix_131 ?_
                  refine tp_i (y := nI ((27 * f) + i)) (nI_add _ _) ?_
                  refine ar_i C hP 2 mw_wt (j := ((27 * f) + i)) (by omega) (by decide) dX4_mix_132 ?_
                  refine tp_i (y := wt (27 * f + i)) (blk_o (by omega)) ?_
                  refine lv_aload_n hx hb dX4_mix_133 rfl (lv_at hl 0 rfl) ?_
                  refine fg C hP 0 mw_o (ci := 4) rfl 1 (by decide) in_X4_mix_X4 lk_X4_mix_13 (v := .ref (bd 2)) rfl dX4_mix_134 ?_
                  refine lv_bipush (v := nI 27) hx hb dX4_mix_137 (by decide) ?_
                  refine lv_iload_n hx hb dX4_mix_139 rfl (lv_at hl 2 rfl) ?_
                  refine lv_imul hx hb dX4_mix_140 ?_
                  refine tp_i (y := nI (27 * h)) (pk_mul _ _) ?_
                  refine lv_iload hx hb dX4_mix_141 (lv_at hl 5 rfl) ?_
                  refine lv_iadd hx hb dX4_mix_143 ?_
                  refine tp_i (y := nI ((27 * h) + i)) (nI_add _ _) ?_
                  refine ar_i C hP 2 mw_wt (j := ((27 * h) + i)) (by omega) (by decide) dX4_mix_144 ?_
                  refine tp_i (y := wt (27 * h + i)) (blk_o (by omega)) ?_
                  refine lv_iadd hx hb dX4_mix_145 ?_
                  refine as_i C hP hD hS 2 mw_wt (j := ((27 * g) + i)) (by omega) (by decide) (mw_wt_st _) dX4_mix_146 (fun H locs hP hD hS => ?_)
                  refine lv_iinc (v := nI (i + 1)) (lv' := [(5, .int (nI (i + 1))), (0, .ref (bd 0)), (1, .int (nI f)), (2, .int (nI h)), (3, .int (nI g)), (4, .int (sm f + sm h))]) hx hb dX4_mix_147 hl (k := 5) rfl (by rw [← nI_add i 1]; rfl) (by decide) rfl (fun ls hl => ?_)
                  refine lv_goto (tgt := 103) hx hb dX4_mix_150 (by decide) ?_
                  rw [blk_s wt (fun q => wt (27 * f + q) + wt (27 * h + q))] at hP hD
                  exact ihL13 (i + 1) (by omega) _ _ _ hP hD hS (lv_sub hl [1, 2, 3, 4, 5, 0] rfl)
              rw [← blk_0 wt (fun q => wt (27 * f + q) + wt (27 * h + q)) (27 * g)] at hP hD
              exact L13 (27 - 0) 0 (by omega) _ _ _ hP hD hS (lv_sub hl [2, 3, 4, 5, 1, 0] rfl)
            | succ r ihL11 =>
              intro i hr hs0 H locs ls hP hD hS hl
              refine lv_iload hx hb dX4_mix_46 (lv_at hl 4 rfl) ?_
              refine lv_iconst (v := nI 3) hx hb dX4_mix_48 (by decide) ?_
              refine lv_icmp_ge (tgt := 85) hx hb dX4_mix_49 (by decide) (fun c19 => absurd c19 (nI_ge (by omega) (by decide))) (fun c19 => ?_)
              refine lv_aload_n hx hb dX4_mix_52 rfl (lv_at hl 0 rfl) ?_
              refine fg C hP 0 mw_o (ci := 4) rfl 0 (by decide) in_X4_mix_X4 lk_X4_mix_7 (v := .ref (bd 1)) rfl dX4_mix_53 ?_
              refine lv_iconst (v := nI 3) hx hb dX4_mix_56 (by decide) ?_
              refine lv_iload_n hx hb dX4_mix_57 rfl (lv_at hl 1 rfl) ?_
              refine lv_imul hx hb dX4_mix_58 ?_
              refine tp_i (y := nI (3 * f)) (pk_mul _ _) ?_
              refine lv_iload hx hb dX4_mix_59 (lv_at hl 4 rfl) ?_
              refine lv_iadd hx hb dX4_mix_61 ?_
              refine tp_i (y := nI ((3 * f) + i)) (nI_add _ _) ?_
              refine ar_i C hP 1 mw_st (j := ((3 * f) + i)) (by omega) (by decide) dX4_mix_62 ?_
              refine lv_aload_n hx hb dX4_mix_63 rfl (lv_at hl 0 rfl) ?_
              refine fg C hP 0 mw_o (ci := 4) rfl 0 (by decide) in_X4_mix_X4 lk_X4_mix_7 (v := .ref (bd 1)) rfl dX4_mix_64 ?_
              refine lv_iconst (v := nI 3) hx hb dX4_mix_67 (by decide) ?_
              refine lv_iload_n hx hb dX4_mix_68 rfl (lv_at hl 2 rfl) ?_
              refine lv_imul hx hb dX4_mix_69 ?_
              refine tp_i (y := nI (3 * h)) (pk_mul _ _) ?_
              refine lv_iload hx hb dX4_mix_70 (lv_at hl 4 rfl) ?_
              refine lv_iadd hx hb dX4_mix_72 ?_
              refine tp_i (y := nI ((3 * h) + i)) (nI_add _ _) ?_
              refine ar_i C hP 1 mw_st (j := ((3 * h) + i)) (by omega) (by decide) dX4_mix_73 ?_
              refine lv_icmp_eq (tgt := 79) hx hb dX4_mix_74 (by decide) (fun c20 => ?_) (fun c20 => ?_)
              · refine lv_iinc (v := nI (i + 1)) (lv' := [(4, .int (nI (i + 1))), (0, .ref (bd 0)), (1, .int (nI f)), (2, .int (nI h)), (3, .int (nI g))]) hx hb dX4_mix_79 hl (k := 4) rfl (by rw [← nI_add i 1]; rfl) (by decide) rfl (fun ls hl => ?_)
                refine lv_goto (tgt := 46) hx hb dX4_mix_82 (by decide) ?_
                exact ihL11 (i + 1) (by omega) (lt_s hs0 c20) _ _ _ hP hD hS (lv_sub hl [1, 2, 3, 4, 0] rfl)
              · refine lv_iconst (v := nI 0) hx hb dX4_mix_77 (by decide) ?_
                exact Rz C hP hD hS (Nat.zero_le _) (Nat.zero_le _) rfl dX4_mix_78 (Or.inr ⟨fun f2 h2 g2 z => by obtain ⟨z1, z2, z3, z4, z5, z6, z7, z8, z9, z10⟩ := z; obtain rfl := nI_inj (by omega) (by omega) z2; obtain rfl := nI_inj (by omega) (by omega) z5; exact sm_no z9 (show i < 3 by omega) c20, rfl, rfl⟩)
          exact L11 (3 - 0) 0 (by omega) (fun q h => absurd h (Nat.not_lt_zero _)) _ _ _ hP hD hS (lv_sub hl [1, 2, 3, 4, 0] rfl)
        · refine lv_iconst (v := nI 0) hx hb dX4_mix_41 (by decide) ?_
          exact Rz C hP hD hS (Nat.zero_le _) (Nat.zero_le _) rfl dX4_mix_42 (Or.inr ⟨fun f2 h2 g2 z => by obtain ⟨z1, z2, z3, z4, z5, z6, z7, z8, z9, z10⟩ := z; obtain rfl := nI_inj (by omega) (by omega) z2; obtain rfl := nI_inj (by omega) (by omega) z5; exact c10 z10, rfl, rfl⟩)

def tv (a b : Nat) (n : Int32) : Int32 := if a = b then n else nI 0
def tli (w : Nat → Int32) (b c : Nat) (n : Int32) : Nat → Nat → Int32
  | 0 => w
  | h + 1 => upd (tli w b c n h) (b + 9 * h) (tv h c n)
def tl3 (w : Nat → Int32) (g i : Nat) : Int32 := w (27 * g + i) + w (27 * g + 9 + i) + w (27 * g + 18 + i)
def tl (w : Nat → Int32) (g d : Nat) : Nat → Nat → Int32
  | 0 => w
  | i + 1 => tli (tl w g d i) (27 * g + i) (d / 3 ^ i % 3) (tl3 (tl w g d i) g i) 3
set_option maxRecDepth 20000 in
theorem in_X4_tell_X4 : ∀ w ∈ u_ws RX4 TX4 15, w ∈ wsX4_tell := by decide +kernel
set_option maxRecDepth 20000 in
theorem lk_X4_tell_7 : Cond.fieldLink RX4 7 (TX4 0).1 (TX4 0).2.1 (TX4 0).2.2.1 ∈ wsX4_tell := by decide +kernel
set_option maxRecDepth 20000 in
theorem lk_X4_tell_13 : Cond.fieldLink RX4 13 (TX4 1).1 (TX4 1).2.1 (TX4 1).2.2.1 ∈ wsX4_tell := by decide +kernel
set_option maxHeartbeats 4000000 in
set_option maxRecDepth 100000 in
theorem c_X4_tell (D : va_G) (k : Nat → ClassId) (t : Nat → Nat) (l : Launch) {bd : Nat → Nat} {st wt sm nu po sh up lo : Nat → Int32} {li : Int32} {ro so un to : Nat → Int64} {it : Int32} (x1 x2 : Int32) : Ci D k t l yX4_tell wsX4_tell ({ frames := 3, cells := 0, slots := 0, locals := 90 }) [.ref (bd 0), .int x1, .int x2] (MWw bd k st wt sm nu po sh up lo li ro so un to it) (fun r w => (∃ ga da : Nat, (ga < 4 ∧ x1 = nI ga ∧ ¬ sm ga ≤ 0 ∧ da < 19683 ∧ x2 = nI da) ∧ r = nI 1 ∧ w = MWw bd k (upd st (3 * ga + 2) (nI 3)) (tl wt ga da 9) sm nu po sh up lo li ro so un to it) ∨ ((∀ ga da : Nat, ¬ (ga < 4 ∧ x1 = nI ga ∧ ¬ sm ga ≤ 0 ∧ da < 19683 ∧ x2 = nI da)) ∧ r = nI 0 ∧ w = MWw bd k st wt sm nu po sh up lo li ro so un to it)) 0 0 := by
  refine fw_of (cc := cX4_tell) (maxL := 7) (ret := (some .boolean)) (Qc := fun A => va_Qi (fun r w => (∃ ga da : Nat, (ga < 4 ∧ x1 = nI ga ∧ ¬ sm ga ≤ 0 ∧ da < 19683 ∧ x2 = nI da) ∧ r = nI 1 ∧ w = MWw bd k (upd st (3 * ga + 2) (nI 3)) (tl wt ga da 9) sm nu po sh up lo li ro so un to it) ∨ ((∀ ga da : Nat, ¬ (ga < 4 ∧ x1 = nI ga ∧ ¬ sm ga ≤ 0 ∧ da < 19683 ∧ x2 = nI da)) ∧ r = nI 0 ∧ w = MWw bd k st wt sm nu po sh up lo li ro so un to it)) (BcW D A) A) (by decide) rfl (Nat.le_of_ble_eq_true rfl) ?_
  intro p e s m below meth c A ls C hP hD hl
  have C : Cx RX4 "tell" cX4_tell 7 (some .boolean) wsX4_tell D k t A p s m ([.ref (bd 0), .int x1, .int x2] : List Value).toArray meth c := C
  have hl : lv_has ls 7 [(0, .ref (bd 0)), (1, .int x1), (2, .int x2)] := hl
  have hx := C.1
  have hb := C.2.1
  have hown := C.2.2.2.2.1
  have hts := C.2.2.2.2.2.1
  have hK := C.2.2.2.2.2.2.2.2.1
  have hZ := C.2.2.2.2.2.2.2.2.2.1
  have hN := C.2.2.2.2.2.2.2.2.2.2
  have hS : va_S A s.heap s.heap [] := va_S.rf
  refine lv_aload_n hx hb dX4_tell_0 rfl (lv_at hl 0 rfl) ?_
  refine lv_iload_n hx hb dX4_tell_1 rfl (lv_at hl 1 rfl) ?_
  refine fw_i C hD hS (rn_V (As := [.int x1]) (rest := []) C (c_X4_isMade D k t l x1 _) (cwV 1 hts gX4_tell_X4_isMade rfl rfl rfl hdX4_isMadeC ⟨Nat.le_of_ble_eq_true rfl, Nat.le_of_ble_eq_true rfl⟩) 0 4 rfl mw_o rfl hP hD hS rfl hl.1 rfl (Nat.le_of_ble_eq_true rfl) dX4_tell_2 ⟨Nat.zero_le _, Nat.zero_le _⟩) (fun r1 wr1 H locs h2 hP hD hS => ?_)
  obtain ⟨rfl, rfl⟩ := h2
  refine lv_if_eq (tgt := 19) hx hb dX4_tell_5 (by decide) (fun c3 => ?_) (fun c3 => ?_)
  · have c3 := pb_z c3
    refine lv_iconst (v := nI 0) hx hb dX4_tell_19 (by decide) ?_
    exact Rz C hP hD hS (Nat.zero_le _) (Nat.zero_le _) rfl dX4_tell_20 (Or.inr ⟨fun g _ z => c3 ⟨g, z.1, z.2.1, z.2.2.1⟩, rfl, rfl⟩)
  · have c3 := pb_nz c3
    obtain ⟨g, hg, rfl, hmg⟩ := id c3
    refine lv_iload_n hx hb dX4_tell_8 rfl (lv_at hl 2 rfl) ?_
    refine lv_iconst (v := nI 0) hx hb dX4_tell_9 (by decide) ?_
    refine lv_sipush (v := nI 19682) hx hb dX4_tell_10 (by decide) ?_
    refine fw_i C hD hS (rn_S (As := [.int x2, .int (nI 0), .int (nI 19682)]) (rest := []) C (c_isInR D k t l (lo := 0) (hi := 19682) x2 (by decide) (by decide) _) (va_cwS 3 hts gX4_tell_X4_isIn rfl rfl rfl hdX4_isIn ⟨Nat.le_of_ble_eq_true rfl, Nat.le_of_ble_eq_true rfl⟩) hP hD hS rfl hl.1 rfl (Nat.le_of_ble_eq_true rfl) dX4_tell_13 ⟨Nat.zero_le _, Nat.zero_le _⟩) (fun r4 wr4 H locs h5 hP hD hS => ?_)
    obtain ⟨rfl, rfl⟩ := h5
    refine lv_if_ne (tgt := 21) hx hb dX4_tell_16 (by decide) (fun c6 => ?_) (fun c6 => ?_)
    · have c6 := pb_nz c6
      obtain ⟨d, h0d, hd, rfl⟩ := id c6
      refine lv_iload_n hx hb dX4_tell_21 rfl (lv_at hl 2 rfl) ?_
      refine tp_i (y := nI (d / 3 ^ 0)) (by rw [Nat.pow_zero, Nat.div_one]) ?_
      refine lv_istore_n (lv' := [(3, .int (nI (d / 3 ^ 0))), (0, .ref (bd 0)), (1, .int (nI g)), (2, .int (nI d))]) hx hb dX4_tell_22 rfl hl (by decide) rfl (fun ls hl => ?_)
      refine lv_iconst (v := nI 0) hx hb dX4_tell_23 (by decide) ?_
      refine lv_istore (lv' := [(4, .int (nI 0)), (3, .int (nI (d / 3 ^ 0))), (0, .ref (bd 0)), (1, .int (nI g)), (2, .int (nI d))]) hx hb dX4_tell_24 hl (by decide) rfl (fun ls hl => ?_)
      have L7 : ∀ (r i : Nat), i + r = 9 → ∀ (H : Heap) (locs : List Loc) (ls : Array Slot), va_P D vwCl (MWw bd k st (tl wt g d i) sm nu po sh up lo li ro so un to it) H → va_D A (MWw bd k st (tl wt g d i) sm nu po sh up lo li ro so un to it) → va_S A s.heap H locs → lv_has ls 7 [(0, .ref (bd 0)), (1, .int (nI g)), (3, .int (nI (d / 3 ^ i))), (4, .int (nI i))] → W p l e ({ frames := 3, cells := 0, slots := 0, locals := 90 }) s m ([.ref (bd 0), .int (nI g), .int (nI d)] : List Value).toArray below meth c H locs 0 0 (MQ below (va_Qi (fun r w => (∃ ga da : Nat, (ga < 4 ∧ (nI g) = nI ga ∧ ¬ sm ga ≤ 0 ∧ da < 19683 ∧ (nI d) = nI da) ∧ r = nI 1 ∧ w = MWw bd k (upd st (3 * ga + 2) (nI 3)) (tl wt ga da 9) sm nu po sh up lo li ro so un to it) ∨ ((∀ ga da : Nat, ¬ (ga < 4 ∧ (nI g) = nI ga ∧ ¬ sm ga ≤ 0 ∧ da < 19683 ∧ (nI d) = nI da)) ∧ r = nI 0 ∧ w = MWw bd k st wt sm nu po sh up lo li ro so un to it)) (BcW D A) A) ([.ref (bd 0), .int (nI g), .int (nI d)] : List Value).toArray s 0 0 A) (F0 m 26 ls []) := by
        intro r
        induction r with
        | zero =>
          intro i hr H locs ls hP hD hS hl
          obtain rfl : 9 = i := by omega
          refine lv_iload hx hb dX4_tell_26 (lv_at hl 3 rfl) ?_
          refine lv_bipush (v := nI 9) hx hb dX4_tell_28 (by decide) ?_
          refine lv_icmp_ge (tgt := 136) hx hb dX4_tell_30 (by decide) (fun c8 => ?_) (fun c8 => absurd (nI_le (by omega) (by decide)) c8)
          refine lv_aload_n hx hb dX4_tell_136 rfl (lv_at hl 0 rfl) ?_
          refine fg C hP 0 mw_o (ci := 4) rfl 0 (by decide) in_X4_tell_X4 lk_X4_tell_7 (v := .ref (bd 1)) rfl dX4_tell_137 ?_
          refine lv_iconst (v := nI 3) hx hb dX4_tell_140 (by decide) ?_
          refine lv_iload_n hx hb dX4_tell_141 rfl (lv_at hl 1 rfl) ?_
          refine lv_imul hx hb dX4_tell_142 ?_
          refine tp_i (y := nI (3 * g)) (pk_mul _ _) ?_
          refine lv_iconst (v := nI 2) hx hb dX4_tell_143 (by decide) ?_
          refine lv_iadd hx hb dX4_tell_144 ?_
          refine tp_i (y := nI ((3 * g) + 2)) (nI_add _ _) ?_
          refine lv_iconst (v := nI 3) hx hb dX4_tell_145 (by decide) ?_
          refine as_i C hP hD hS 1 mw_st (j := ((3 * g) + 2)) (by omega) (by decide) (mw_st_st _) dX4_tell_146 (fun H locs hP hD hS => ?_)
          refine lv_iconst (v := nI 1) hx hb dX4_tell_147 (by decide) ?_
          exact Rz C hP hD hS (Nat.zero_le _) (Nat.zero_le _) rfl dX4_tell_148 (Or.inl ⟨g, d, ⟨hg, rfl, hmg, hd, rfl⟩, rfl, rfl⟩)
        | succ r ihL7 =>
          intro i hr H locs ls hP hD hS hl
          refine lv_iload hx hb dX4_tell_26 (lv_at hl 3 rfl) ?_
          refine lv_bipush (v := nI 9) hx hb dX4_tell_28 (by decide) ?_
          refine lv_icmp_ge (tgt := 136) hx hb dX4_tell_30 (by decide) (fun c9 => absurd c9 (nI_ge (by omega) (by decide))) (fun c9 => ?_)
          refine lv_aload_n hx hb dX4_tell_33 rfl (lv_at hl 0 rfl) ?_
          refine fg C hP 0 mw_o (ci := 4) rfl 1 (by decide) in_X4_tell_X4 lk_X4_tell_13 (v := .ref (bd 2)) rfl dX4_tell_34 ?_
          refine lv_bipush (v := nI 27) hx hb dX4_tell_37 (by decide) ?_
          refine lv_iload_n hx hb dX4_tell_39 rfl (lv_at hl 1 rfl) ?_
          refine lv_imul hx hb dX4_tell_40 ?_
          refine tp_i (y := nI (27 * g)) (pk_mul _ _) ?_
          refine lv_iload hx hb dX4_tell_41 (lv_at hl 3 rfl) ?_
          refine lv_iadd hx hb dX4_tell_43 ?_
          refine tp_i (y := nI ((27 * g) + i)) (nI_add _ _) ?_
          refine ar_i C hP 2 mw_wt (j := ((27 * g) + i)) (by omega) (by decide) dX4_tell_44 ?_
          refine lv_aload_n hx hb dX4_tell_45 rfl (lv_at hl 0 rfl) ?_
          refine fg C hP 0 mw_o (ci := 4) rfl 1 (by decide) in_X4_tell_X4 lk_X4_tell_13 (v := .ref (bd 2)) rfl dX4_tell_46 ?_
          refine lv_bipush (v := nI 27) hx hb dX4_tell_49 (by decide) ?_
          refine lv_iload_n hx hb dX4_tell_51 rfl (lv_at hl 1 rfl) ?_
          refine lv_imul hx hb dX4_tell_52 ?_
          refine tp_i (y := nI (27 * g)) (pk_mul _ _) ?_
          refine lv_bipush (v := nI 9) hx hb dX4_tell_53 (by decide) ?_
          refine lv_iadd hx hb dX4_tell_55 ?_
          refine tp_i (y := nI ((27 * g) + 9)) (nI_add _ _) ?_
          refine lv_iload hx hb dX4_tell_56 (lv_at hl 3 rfl) ?_
          refine lv_iadd hx hb dX4_tell_58 ?_
          refine tp_i (y := nI (((27 * g) + 9) + i)) (nI_add _ _) ?_
          refine ar_i C hP 2 mw_wt (j := (((27 * g) + 9) + i)) (by omega) (by decide) dX4_tell_59 ?_
          refine lv_iadd hx hb dX4_tell_60 ?_
          refine lv_aload_n hx hb dX4_tell_61 rfl (lv_at hl 0 rfl) ?_
          refine fg C hP 0 mw_o (ci := 4) rfl 1 (by decide) in_X4_tell_X4 lk_X4_tell_13 (v := .ref (bd 2)) rfl dX4_tell_62 ?_
          refine lv_bipush (v := nI 27) hx hb dX4_tell_65 (by decide) ?_
          refine lv_iload_n hx hb dX4_tell_67 rfl (lv_at hl 1 rfl) ?_
          refine lv_imul hx hb dX4_tell_68 ?_
          refine tp_i (y := nI (27 * g)) (pk_mul _ _) ?_
          refine lv_bipush (v := nI 18) hx hb dX4_tell_69 (by decide) ?_
          refine lv_iadd hx hb dX4_tell_71 ?_
          refine tp_i (y := nI ((27 * g) + 18)) (nI_add _ _) ?_
          refine lv_iload hx hb dX4_tell_72 (lv_at hl 3 rfl) ?_
          refine lv_iadd hx hb dX4_tell_74 ?_
          refine tp_i (y := nI (((27 * g) + 18) + i)) (nI_add _ _) ?_
          refine ar_i C hP 2 mw_wt (j := (((27 * g) + 18) + i)) (by omega) (by decide) dX4_tell_75 ?_
          refine lv_iadd hx hb dX4_tell_76 ?_
          refine tp_i (y := tl3 (tl wt g d i) g i) (rfl) ?_
          refine lv_istore (lv' := [(5, .int (tl3 (tl wt g d i) g i)), (0, .ref (bd 0)), (1, .int (nI g)), (3, .int (nI (d / 3 ^ i))), (4, .int (nI i))]) hx hb dX4_tell_77 hl (by decide) rfl (fun ls hl => ?_)
          refine lv_iconst (v := nI 0) hx hb dX4_tell_79 (by decide) ?_
          refine lv_istore (lv' := [(6, .int (nI 0)), (5, .int (tl3 (tl wt g d i) g i)), (0, .ref (bd 0)), (1, .int (nI g)), (3, .int (nI (d / 3 ^ i))), (4, .int (nI i))]) hx hb dX4_tell_80 hl (by decide) rfl (fun ls hl => ?_)
          have L10 : ∀ (r h : Nat), h + r = 3 → ∀ (H : Heap) (locs : List Loc) (ls : Array Slot), va_P D vwCl (MWw bd k st (tli (tl wt g d i) (27 * g + i) (d / 3 ^ i % 3) (tl3 (tl wt g d i) g i) h) sm nu po sh up lo li ro so un to it) H → va_D A (MWw bd k st (tli (tl wt g d i) (27 * g + i) (d / 3 ^ i % 3) (tl3 (tl wt g d i) g i) h) sm nu po sh up lo li ro so un to it) → va_S A s.heap H locs → lv_has ls 7 [(0, .ref (bd 0)), (1, .int (nI g)), (3, .int (nI (d / 3 ^ i))), (4, .int (nI i)), (5, .int (tl3 (tl wt g d i) g i)), (6, .int (nI h))] → W p l e ({ frames := 3, cells := 0, slots := 0, locals := 90 }) s m ([.ref (bd 0), .int (nI g), .int (nI d)] : List Value).toArray below meth c H locs 0 0 (MQ below (va_Qi (fun r w => (∃ ga da : Nat, (ga < 4 ∧ (nI g) = nI ga ∧ ¬ sm ga ≤ 0 ∧ da < 19683 ∧ (nI d) = nI da) ∧ r = nI 1 ∧ w = MWw bd k (upd st (3 * ga + 2) (nI 3)) (tl wt ga da 9) sm nu po sh up lo li ro so un to it) ∨ ((∀ ga da : Nat, ¬ (ga < 4 ∧ (nI g) = nI ga ∧ ¬ sm ga ≤ 0 ∧ da < 19683 ∧ (nI d) = nI da)) ∧ r = nI 0 ∧ w = MWw bd k st wt sm nu po sh up lo li ro so un to it)) (BcW D A) A) ([.ref (bd 0), .int (nI g), .int (nI d)] : List Value).toArray s 0 0 A) (F0 m 82 ls []) := by
            intro r
            induction r with
            | zero =>
              intro h hr H locs ls hP hD hS hl
              obtain rfl : 3 = h := by omega
              refine lv_iload hx hb dX4_tell_82 (lv_at hl 5 rfl) ?_
              refine lv_iconst (v := nI 3) hx hb dX4_tell_84 (by decide) ?_
              refine lv_icmp_ge (tgt := 126) hx hb dX4_tell_85 (by decide) (fun c11 => ?_) (fun c11 => absurd (nI_le (by omega) (by decide)) c11)
              refine lv_iload_n hx hb dX4_tell_126 rfl (lv_at hl 2 rfl) ?_
              refine lv_iconst (v := nI 3) hx hb dX4_tell_127 (by decide) ?_
              refine lv_idiv hx hb dX4_tell_128 (by decide) ?_
              refine tp_i (y := nI (d / 3 ^ (i + 1))) (by rw [pk_div (dlt hd i) (by decide) (by decide), Nat.div_div_eq_div_mul, ← Nat.pow_succ]) ?_
              refine lv_istore_n (lv' := [(3, .int (nI (d / 3 ^ (i + 1)))), (0, .ref (bd 0)), (1, .int (nI g)), (4, .int (nI i)), (5, .int (tl3 (tl wt g d i) g i)), (6, .int (nI 3))]) hx hb dX4_tell_129 rfl hl (by decide) rfl (fun ls hl => ?_)
              refine lv_iinc (v := nI (i + 1)) (lv' := [(4, .int (nI (i + 1))), (3, .int (nI (d / 3 ^ (i + 1)))), (0, .ref (bd 0)), (1, .int (nI g)), (5, .int (tl3 (tl wt g d i) g i)), (6, .int (nI 3))]) hx hb dX4_tell_130 hl (k := 3) rfl (by rw [← nI_add i 1]; rfl) (by decide) rfl (fun ls hl => ?_)
              refine lv_goto (tgt := 26) hx hb dX4_tell_133 (by decide) ?_
              exact ihL7 (i + 1) (by omega) _ _ _ hP hD hS (lv_sub hl [2, 3, 1, 0] rfl)
            | succ r ihL10 =>
              intro h hr H locs ls hP hD hS hl
              refine lv_iload hx hb dX4_tell_82 (lv_at hl 5 rfl) ?_
              refine lv_iconst (v := nI 3) hx hb dX4_tell_84 (by decide) ?_
              refine lv_icmp_ge (tgt := 126) hx hb dX4_tell_85 (by decide) (fun c12 => absurd c12 (nI_ge (by omega) (by decide))) (fun c12 => ?_)
              refine lv_aload_n hx hb dX4_tell_88 rfl (lv_at hl 0 rfl) ?_
              refine fg C hP 0 mw_o (ci := 4) rfl 1 (by decide) in_X4_tell_X4 lk_X4_tell_13 (v := .ref (bd 2)) rfl dX4_tell_89 ?_
              refine lv_bipush (v := nI 27) hx hb dX4_tell_92 (by decide) ?_
              refine lv_iload_n hx hb dX4_tell_94 rfl (lv_at hl 1 rfl) ?_
              refine lv_imul hx hb dX4_tell_95 ?_
              refine tp_i (y := nI (27 * g)) (pk_mul _ _) ?_
              refine lv_bipush (v := nI 9) hx hb dX4_tell_96 (by decide) ?_
              refine lv_iload hx hb dX4_tell_98 (lv_at hl 5 rfl) ?_
              refine lv_imul hx hb dX4_tell_100 ?_
              refine tp_i (y := nI (9 * h)) (pk_mul _ _) ?_
              refine lv_iadd hx hb dX4_tell_101 ?_
              refine tp_i (y := nI ((27 * g) + (9 * h))) (nI_add _ _) ?_
              refine lv_iload hx hb dX4_tell_102 (lv_at hl 3 rfl) ?_
              refine lv_iadd hx hb dX4_tell_104 ?_
              refine tp_i (y := nI (27 * g + i + 9 * h)) (by rw [nI_add]; congr 1; omega) ?_
              refine lv_iload hx hb dX4_tell_105 (lv_at hl 5 rfl) ?_
              refine lv_iload_n hx hb dX4_tell_107 rfl (lv_at hl 2 rfl) ?_
              refine lv_iconst (v := nI 3) hx hb dX4_tell_108 (by decide) ?_
              refine lv_irem hx hb dX4_tell_109 (by decide) ?_
              refine tp_i (y := nI (d / 3 ^ i % 3)) (pk_rem (dlt hd i) (by decide) (by decide)) ?_
              have J14 : ∀ (ls : Array Slot), lv_has ls 7 [(0, .ref (bd 0)), (1, .int (nI g)), (3, .int (nI (d / 3 ^ i))), (4, .int (nI i)), (5, .int (tl3 (tl wt g d i) g i)), (6, .int (nI h))] → W p l e ({ frames := 3, cells := 0, slots := 0, locals := 90 }) s m ([.ref (bd 0), .int (nI g), .int (nI d)] : List Value).toArray below meth c H locs 0 0 (MQ below (va_Qi (fun r w => (∃ ga da : Nat, (ga < 4 ∧ (nI g) = nI ga ∧ ¬ sm ga ≤ 0 ∧ da < 19683 ∧ (nI d) = nI da) ∧ r = nI 1 ∧ w = MWw bd k (upd st (3 * ga + 2) (nI 3)) (tl wt ga da 9) sm nu po sh up lo li ro so un to it) ∨ ((∀ ga da : Nat, ¬ (ga < 4 ∧ (nI g) = nI ga ∧ ¬ sm ga ≤ 0 ∧ da < 19683 ∧ (nI d) = nI da)) ∧ r = nI 0 ∧ w = MWw bd k st wt sm nu po sh up lo li ro so un to it)) (BcW D A) A) ([.ref (bd 0), .int (nI g), .int (nI d)] : List Value).toArray s 0 0 A) (F0 m 119 ls [.int (tv h (d / 3 ^ i % 3) (tl3 (tl wt g d i) g i)), .int (nI (27 * g + i + 9 * h)), .ref (bd 2)]) := by
                intro ls hl
                refine as_i C hP hD hS 2 mw_wt (j := (27 * g + i + 9 * h)) (by omega) (by decide) (mw_wt_st _) dX4_tell_119 (fun H locs hP hD hS => ?_)
                refine lv_iinc (v := nI (h + 1)) (lv' := [(6, .int (nI (h + 1))), (0, .ref (bd 0)), (1, .int (nI g)), (3, .int (nI (d / 3 ^ i))), (4, .int (nI i)), (5, .int (tl3 (tl wt g d i) g i))]) hx hb dX4_tell_120 hl (k := 5) rfl (by rw [← nI_add h 1]; rfl) (by decide) rfl (fun ls hl => ?_)
                refine lv_goto (tgt := 82) hx hb dX4_tell_123 (by decide) ?_
                exact ihL10 (h + 1) (by omega) _ _ _ hP hD hS (lv_sub hl [1, 2, 3, 4, 5, 0] rfl)
              refine lv_icmp_ne (tgt := 118) hx hb dX4_tell_110 (by decide) (fun c13 => ?_) (fun c13 => ?_)
              · refine lv_iconst (v := nI 0) hx hb dX4_tell_118 (by decide) ?_
                refine tp_i (y := tv h (d / 3 ^ i % 3) (tl3 (tl wt g d i) g i)) ((if_neg (fun q => c13 (by rw [q]))).symm) ?_
                exact J14 ls (lv_sub hl [0, 1, 2, 3, 4, 5] rfl)
              · refine lv_iload hx hb dX4_tell_113 (lv_at hl 4 rfl) ?_
                refine lv_goto (tgt := 119) hx hb dX4_tell_115 (by decide) ?_
                refine tp_i (y := tv h (d / 3 ^ i % 3) (tl3 (tl wt g d i) g i)) ((if_pos (nI_inj (by omega) (by omega) c13)).symm) ?_
                exact J14 ls (lv_sub hl [0, 1, 2, 3, 4, 5] rfl)
          exact L10 (3 - 0) 0 (by omega) _ _ _ hP hD hS (lv_sub hl [2, 3, 4, 5, 1, 0] rfl)
      exact L7 (9 - 0) 0 (by omega) _ _ _ hP hD hS (lv_sub hl [2, 3, 1, 0] rfl)
    · have c6 := pb_z c6
      refine lv_iconst (v := nI 0) hx hb dX4_tell_19 (by decide) ?_
      exact Rz C hP hD hS (Nat.zero_le _) (Nat.zero_le _) rfl dX4_tell_20 (Or.inr ⟨fun _ d q => c6 ⟨d, Nat.zero_le _, q.2.2.2.1, q.2.2.2.2⟩, rfl, rfl⟩)

