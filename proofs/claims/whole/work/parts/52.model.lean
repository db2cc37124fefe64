set_option maxRecDepth 20000 in
theorem in_X4_share_X4 : ∀ w ∈ u_ws RX4 TX4 15, w ∈ wsX4_share := by decide +kernel
set_option maxRecDepth 20000 in
theorem lk_X4_share_135 : Cond.fieldLink RX4 135 (TX4 14).1 (TX4 14).2.1 (TX4 14).2.2.1 ∈ wsX4_share := by decide +kernel
set_option maxRecDepth 20000 in
theorem lk_X4_share_47 : Cond.fieldLink RX4 47 (TX4 13).1 (TX4 13).2.1 (TX4 13).2.2.1 ∈ wsX4_share := by decide +kernel
set_option maxHeartbeats 4000000 in
set_option maxRecDepth 100000 in
theorem c_X4_share (D : va_G) (k : Nat → ClassId) (t : Nat → Nat) (l : Launch) {bd : Nat → Nat} {st wt sm nu po sh up lo : Nat → Int32} {li : Int32} {ro so un to : Nat → Int64} {it : Int32} (x1 x2 : Int32) : Ci D k t l yX4_share wsX4_share ({ frames := 1, cells := 0, slots := 0, locals := 30 }) [.ref (bd 0), .int x1, .int x2] (MWw bd k st wt sm nu po sh up lo li ro so un to it) (fun r w => (∃ j z : Nat, (¬ it = 0 ∧ j < 9 ∧ x1 = nI j ∧ z < 2 ∧ x2 = nI z) ∧ r = (to (9 * z + j)).toInt32 ∧ w = MWw bd k st wt sm nu po sh up lo li ro so un to it) ∨ ((∀ j z : Nat, ¬ (¬ it = 0 ∧ j < 9 ∧ x1 = nI j ∧ z < 2 ∧ x2 = nI z)) ∧ r = (-1) ∧ w = MWw bd k st wt sm nu po sh up lo li ro so un to it)) 0 0 := by
  refine fw_of (cc := cX4_share) (maxL := 3) (ret := (some .int)) (Qc := fun A => va_Qi (fun r w => (∃ j z : Nat, (¬ it = 0 ∧ j < 9 ∧ x1 = nI j ∧ z < 2 ∧ x2 = nI z) ∧ r = (to (9 * z + j)).toInt32 ∧ w = MWw bd k st wt sm nu po sh up lo li ro so un to it) ∨ ((∀ j z : Nat, ¬ (¬ it = 0 ∧ j < 9 ∧ x1 = nI j ∧ z < 2 ∧ x2 = nI z)) ∧ r = (-1) ∧ w = MWw bd k st wt sm nu po sh up lo li ro so un to it)) (BcW D A) A) (by decide) rfl (Nat.le_of_ble_eq_true rfl) ?_
  intro p e s m below meth c A ls C hP hD hl
  have C : Cx RX4 "share" cX4_share 3 (some .int) wsX4_share D k t A p s m ([.ref (bd 0), .int x1, .int x2] : List Value).toArray meth c := C
  have hl : lv_has ls 3 [(0, .ref (bd 0)), (1, .int x1), (2, .int x2)] := hl
  have hx := C.1
  have hb := C.2.1
  have hown := C.2.2.2.2.1
  have hts := C.2.2.2.2.2.1
  have hK := C.2.2.2.2.2.2.2.2.1
  have hZ := C.2.2.2.2.2.2.2.2.2.1
  have hN := C.2.2.2.2.2.2.2.2.2.2
  have hS : va_S A s.heap s.heap [] := va_S.rf
  refine lv_aload_n hx hb dX4_share_0 rfl (lv_at hl 0 rfl) ?_
  refine fg C hP 0 mw_o (ci := 4) rfl 14 (by decide) in_X4_share_X4 lk_X4_share_135 (v := .int it) rfl dX4_share_1 ?_
  refine lv_if_eq (tgt := 41) hx hb dX4_share_4 (by decide) (fun c1 => ?_) (fun c1 => ?_)
  · refine lv_iconst (v := (-1)) hx hb dX4_share_41 (by decide) ?_
    exact Ri C hP hD hS (Nat.zero_le _) (Nat.zero_le _) dX4_share_42 (Or.inr ⟨fun _ _ q => q.1 c1, rfl, rfl⟩)
  · refine lv_iload_n hx hb dX4_share_7 rfl (lv_at hl 1 rfl) ?_
    refine lv_iconst (v := nI 0) hx hb dX4_share_8 (by decide) ?_
    refine lv_bipush (v := nI 8) hx hb dX4_share_9 (by decide) ?_
    refine fw_i C hD hS (rn_S (As := [.int x1, .int (nI 0), .int (nI 8)]) (rest := []) C (c_isInR D k t l (lo := 0) (hi := 8) x1 (by decide) (by decide) _) (va_cwS 3 hts gX4_share_X4_isIn rfl rfl rfl hdX4_isIn ⟨Nat.le_of_ble_eq_true rfl, Nat.le_of_ble_eq_true rfl⟩) hP hD hS rfl hl.1 rfl (Nat.le_of_ble_eq_true rfl) dX4_share_11 ⟨Nat.zero_le _, Nat.zero_le _⟩) (fun r2 wr2 H locs h3 hP hD hS => ?_)
    obtain ⟨rfl, rfl⟩ := h3
    refine lv_if_eq (tgt := 41) hx hb dX4_share_14 (by decide) (fun c4 => ?_) (fun c4 => ?_)
    · have c4 := pb_z c4
      refine lv_iconst (v := (-1)) hx hb dX4_share_41 (by decide) ?_
      exact Ri C hP hD hS (Nat.zero_le _) (Nat.zero_le _) dX4_share_42 (Or.inr ⟨fun j _ q => c4 ⟨j, Nat.zero_le _, q.2.1, q.2.2.1⟩, rfl, rfl⟩)
    · have c4 := pb_nz c4
      obtain ⟨j, h0j, hj, rfl⟩ := id c4
      refine lv_iload_n hx hb dX4_share_17 rfl (lv_at hl 2 rfl) ?_
      refine lv_iconst (v := nI 0) hx hb dX4_share_18 (by decide) ?_
      refine lv_iconst (v := nI 1) hx hb dX4_share_19 (by decide) ?_
      refine fw_i C hD hS (rn_S (As := [.int x2, .int (nI 0), .int (nI 1)]) (rest := []) C (c_isInR D k t l (lo := 0) (hi := 1) x2 (by decide) (by decide) _) (va_cwS 3 hts gX4_share_X4_isIn rfl rfl rfl hdX4_isIn ⟨Nat.le_of_ble_eq_true rfl, Nat.le_of_ble_eq_true rfl⟩) hP hD hS rfl hl.1 rfl (Nat.le_of_ble_eq_true rfl) dX4_share_20 ⟨Nat.zero_le _, Nat.zero_le _⟩) (fun r5 wr5 H locs h6 hP hD hS => ?_)
      obtain ⟨rfl, rfl⟩ := h6
      refine lv_if_eq (tgt := 41) hx hb dX4_share_23 (by decide) (fun c7 => ?_) (fun c7 => ?_)
      · have c7 := pb_z c7
        refine lv_iconst (v := (-1)) hx hb dX4_share_41 (by decide) ?_
        exact Ri C hP hD hS (Nat.zero_le _) (Nat.zero_le _) dX4_share_42 (Or.inr ⟨fun _ z q => c7 ⟨z, Nat.zero_le _, q.2.2.2.1, q.2.2.2.2⟩, rfl, rfl⟩)
      · have c7 := pb_nz c7
        obtain ⟨z, h0z, hz, rfl⟩ := id c7
        refine lv_aload_n hx hb dX4_share_26 rfl (lv_at hl 0 rfl) ?_
        refine fg C hP 0 mw_o (ci := 4) rfl 13 (by decide) in_X4_share_X4 lk_X4_share_47 (v := .ref (bd 13)) rfl dX4_share_27 ?_
        refine lv_bipush (v := nI 9) hx hb dX4_share_30 (by decide) ?_
        refine lv_iload_n hx hb dX4_share_32 rfl (lv_at hl 2 rfl) ?_
        refine lv_imul hx hb dX4_share_33 ?_
        refine tp_i (y := nI (9 * z)) (pk_mul _ _) ?_
        refine lv_iload_n hx hb dX4_share_34 rfl (lv_at hl 1 rfl) ?_
        refine lv_iadd hx hb dX4_share_35 ?_
        refine tp_i (y := nI ((9 * z) + j)) (nI_add _ _) ?_
        refine ar_j C hP 13 mw_to (j := ((9 * z) + j)) (by omega) (by decide) dX4_share_36 ?_
        refine lv_l2i (v := (to ((9 * z) + j)).toInt32) hx hb dX4_share_37 rfl ?_
        refine lv_goto (tgt := 42) hx hb dX4_share_38 (by decide) ?_
        exact Ri C hP hD hS (Nat.zero_le _) (Nat.zero_le _) dX4_share_42 (Or.inl ⟨j, z, ⟨c1, hj, rfl, hz, rfl⟩, rfl, rfl⟩)

theorem pw_div : ∀ {b i : Nat}, 1 ≤ b → b ≤ 16 → i < 6 → b % pr6 i = 0 → ∀ j, j < 6 → pwI b j = pwI (b / pr6 i) j + (if j = i then 1 else 0) := by
  have h : ∀ b, b < 17 → 1 ≤ b → ∀ i, i < 6 → b % pr6 i = 0 → ∀ j, j < 6 → pwI b j = pwI (b / pr6 i) j + (if j = i then 1 else 0) := by decide +kernel
  exact fun {b i} h1 h2 h3 h4 => h b (by omega) h1 i h3 h4
theorem pw_end : ∀ {b : Nat}, 1 ≤ b → b ≤ 16 → (∀ q, q < 6 → b % pr6 q ≠ 0) → b = 1 := by
  have h : ∀ b, b < 17 → 1 ≤ b → (∀ q, q < 6 → b % pr6 q ≠ 0) → b = 1 := by decide +kernel
  exact fun {b} h1 h2 h3 => h b (by omega) h1 h3
theorem pw_1 : ∀ j, j < 6 → pwI 1 j = 0 := by decide +kernel
def ae (e : Nat → Int) (o : Int) (a b : Nat) : Nat → Int := fun j => e j + o * (pwI a j - pwI b j)
theorem ae_0 (e : Nat → Int) (o : Int) (a : Nat) : ae e o a a = e := by
  funext j
  simp only [ae, Int.sub_self, Int.mul_zero, Int.add_zero]
theorem ae_s {e : Nat → Int} {o : Int} {a b i : Nat} (h1 : 1 ≤ b) (h2 : b ≤ 16) (h3 : i < 6) (h4 : b % pr6 i = 0) : ∀ j, j < 6 → upd (zT (ae e o a b)) i (zT (ae e o a b) i + zI o) j = zT (ae e o a (b / pr6 i)) j := by
  intro j hj
  have h := pw_div h1 h2 h3 h4 j hj
  by_cases e1 : j = i
  · subst e1
    rw [if_pos rfl] at h
    simp only [upd, ↓reduceIte, zT, ae]
    rw [zI_add, h]
    congr 1
    rw [show pwI a j - (pwI (b / pr6 j) j + 1) = pwI a j - pwI (b / pr6 j) j - 1 by omega, Int.mul_sub o (pwI a j - pwI (b / pr6 j) j) 1]
    omega
  · rw [if_neg e1, Int.add_zero] at h
    simp only [upd, e1, ↓reduceIte, zT, ae]
    rw [h]
theorem ae_e {e : Nat → Int} {o : Int} {a b : Nat} (h1 : 1 ≤ b) (h2 : b ≤ 16) (h3 : ∀ q, q < 6 → b % pr6 q ≠ 0) : ∀ j, j < 6 → zT (ae e o a b) j = zT (adl e o a) j := by
  intro j hj
  have h := pw_end h1 h2 h3
  subst h
  simp only [zT, ae, adl, pw_1 j hj, Int.sub_zero]
set_option maxRecDepth 20000 in
theorem in_X4_add_X4 : ∀ w ∈ u_ws RX4 TX4 15, w ∈ wsX4_add := by decide +kernel
set_option maxRecDepth 20000 in
theorem lk_X4_add_22 : Cond.fieldLink RX4 22 (TX4 4).1 (TX4 4).2.1 (TX4 4).2.2.1 ∈ wsX4_add := by decide +kernel
set_option maxRecDepth 20000 in
theorem lk_X4_add_25 : Cond.fieldLink RX4 25 (TX4 5).1 (TX4 5).2.1 (TX4 5).2.2.1 ∈ wsX4_add := by decide +kernel
set_option maxHeartbeats 4000000 in
set_option maxRecDepth 100000 in
theorem c_X4_add (D : va_G) (k : Nat → ClassId) (t : Nat → Nat) (l : Launch) {bd : Nat → Nat} {st wt sm nu sh up lo : Nat → Int32} {li : Int32} {ro so un to : Nat → Int64} {it : Int32} {a : Nat} {ee : Nat → Int} {o : Int} (ha : 1 ≤ a) (ha2 : a ≤ 16) : Cv D k t l yX4_add wsX4_add ({ frames := 0, cells := 0, slots := 0, locals := 0 }) [.ref (bd 0), .int (nI a), .int (zI o)] (MWw bd k st wt sm nu (zT ee) sh up lo li ro so un to it) (fun w => w = MWw bd k st wt sm nu (zT (adl ee o a)) sh up lo li ro so un to it) 0 0 := by
  refine fw_of (cc := cX4_add) (maxL := 5) (ret := none) (Qc := fun A => va_Qv (fun w => w = MWw bd k st wt sm nu (zT (adl ee o a)) sh up lo li ro so un to it) (BcW D A) A) (by decide) rfl (Nat.le_of_ble_eq_true rfl) ?_
  intro p e s m below meth c A ls C hP hD hl
  have C : Cx RX4 "add" cX4_add 5 none wsX4_add D k t A p s m ([.ref (bd 0), .int (nI a), .int (zI o)] : List Value).toArray meth c := C
  have hl : lv_has ls 5 [(0, .ref (bd 0)), (1, .int (nI a)), (2, .int (zI o))] := hl
  have hx := C.1
  have hb := C.2.1
  have hown := C.2.2.2.2.1
  have hts := C.2.2.2.2.2.1
  have hK := C.2.2.2.2.2.2.2.2.1
  have hZ := C.2.2.2.2.2.2.2.2.2.1
  have hN := C.2.2.2.2.2.2.2.2.2.2
  have hS : va_S A s.heap s.heap [] := va_S.rf
  refine lv_iload_n hx hb dX4_add_0 rfl (lv_at hl 1 rfl) ?_
  refine lv_istore_n (lv' := [(3, .int (nI a)), (0, .ref (bd 0)), (1, .int (nI a)), (2, .int (zI o))]) hx hb dX4_add_1 rfl hl (by decide) rfl (fun ls hl => ?_)
  refine lv_iconst (v := nI 0) hx hb dX4_add_2 (by decide) ?_
  refine lv_istore (lv' := [(4, .int (nI 0)), (3, .int (nI a)), (0, .ref (bd 0)), (1, .int (nI a)), (2, .int (zI o))]) hx hb dX4_add_3 hl (by decide) rfl (fun ls hl => ?_)
  have L1 : ∀ (r i : Nat), i + r = 6 → ∀ (b : Nat) (hb0 : 1 ≤ b) (hb6 : b ≤ 16) (hnd : ∀ q, q < i → b % pr6 q ≠ 0), ∀ (H : Heap) (locs : List Loc) (ls : Array Slot), va_P D vwCl (MWw bd k st wt sm nu (zT (ae ee o a b)) sh up lo li ro so un to it) H → va_D A (MWw bd k st wt sm nu (zT (ae ee o a b)) sh up lo li ro so un to it) → va_S A s.heap H locs → lv_has ls 5 [(0, .ref (bd 0)), (2, .int (zI o)), (3, .int (nI b)), (4, .int (nI i))] → W p l e ({ frames := 0, cells := 0, slots := 0, locals := 0 }) s m ([.ref (bd 0), .int (nI a), .int (zI o)] : List Value).toArray below meth c H locs 0 0 (MQ below (va_Qv (fun w => w = MWw bd k st wt sm nu (zT (adl ee o a)) sh up lo li ro so un to it) (BcW D A) A) ([.ref (bd 0), .int (nI a), .int (zI o)] : List Value).toArray s 0 0 A) (F0 m 5 ls []) := by
    intro r
    induction r with
    | zero =>
      intro i hr b hb0 hb6 hnd H locs ls hP hD hS hl
      obtain rfl : 6 = i := by omega
      refine lv_iload hx hb dX4_add_5 (lv_at hl 3 rfl) ?_
      refine lv_bipush (v := nI 6) hx hb dX4_add_7 (by decide) ?_
      refine lv_icmp_ge (tgt := 54) hx hb dX4_add_9 (by decide) (fun c2 => ?_) (fun c2 => absurd (nI_le (by omega) (by decide)) c2)
      obtain ⟨hP, hD⟩ := cg_i hP hD mw_po (g := zT (adl ee o a)) (ae_e hb0 hb6 hnd) (mw_po_st _)
      exact Rv C hP hD hS (Nat.zero_le _) (Nat.zero_le _) dX4_add_54 rfl
    | succ r ihL1 =>
      intro i hr b hb0 hb6 hnd H locs ls hP hD hS hl
      refine lv_iload hx hb dX4_add_5 (lv_at hl 3 rfl) ?_
      refine lv_bipush (v := nI 6) hx hb dX4_add_7 (by decide) ?_
      refine lv_icmp_ge (tgt := 54) hx hb dX4_add_9 (by decide) (fun c3 => absurd c3 (nI_ge (by omega) (by decide))) (fun c3 => ?_)
      have L4 : ∀ (r : Nat) (b : Nat) (hb0 : 1 ≤ b) (hb6 : b ≤ 16) (hbr : b ≤ r) (hnd : ∀ q, q < i → b % pr6 q ≠ 0), ∀ (H : Heap) (locs : List Loc) (ls : Array Slot), va_P D vwCl (MWw bd k st wt sm nu (zT (ae ee o a b)) sh up lo li ro so un to it) H → va_D A (MWw bd k st wt sm nu (zT (ae ee o a b)) sh up lo li ro so un to it) → va_S A s.heap H locs → lv_has ls 5 [(0, .ref (bd 0)), (2, .int (zI o)), (3, .int (nI b)), (4, .int (nI i))] → W p l e ({ frames := 0, cells := 0, slots := 0, locals := 0 }) s m ([.ref (bd 0), .int (nI a), .int (zI o)] : List Value).toArray below meth c H locs 0 0 (MQ below (va_Qv (fun w => w = MWw bd k st wt sm nu (zT (adl ee o a)) sh up lo li ro so un to it) (BcW D A) A) ([.ref (bd 0), .int (nI a), .int (zI o)] : List Value).toArray s 0 0 A) (F0 m 12 ls []) := by
        intro r
        induction r with
        | zero =>
          intro b hb0 hb6 hbr hnd H locs ls hP hD hS hl
          exact absurd hb0 (by omega)
        | succ r ihL4 =>
          intro b hb0 hb6 hbr hnd H locs ls hP hD hS hl
          have hp0 := pr6_pos i
          have hp1 : pr6 i < 2 ^ 31 := by have := (pr6_at (show i < 6 by omega)).2.2; omega
          refine lv_iload_n hx hb dX4_add_12 rfl (lv_at hl 2 rfl) ?_
          refine lv_aload_n hx hb dX4_add_13 rfl (lv_at hl 0 rfl) ?_
          refine fg C hP 0 mw_o (ci := 4) rfl 4 (by decide) in_X4_add_X4 lk_X4_add_22 (v := .ref (bd 5)) rfl dX4_add_14 ?_
          refine lv_iload hx hb dX4_add_17 (lv_at hl 3 rfl) ?_
          refine ar_i C hP 5 mw_PR (j := i) (by omega) (by decide) dX4_add_19 ?_
          refine tp_i (y := nI (pr6 i)) ((pr6_at (by omega)).1) ?_
          refine lv_irem hx hb dX4_add_20 (nI_ne0 hp0 hp1) ?_
          refine tp_i (y := nI (b % pr6 i)) (pk_rem (by omega) hp0 hp1) ?_
          refine lv_if_ne (tgt := 48) hx hb dX4_add_21 (by decide) (fun c5 => ?_) (fun c5 => ?_)
          · refine lv_iinc (v := nI (i + 1)) (lv' := [(4, .int (nI (i + 1))), (0, .ref (bd 0)), (2, .int (zI o)), (3, .int (nI b))]) hx hb dX4_add_48 hl (k := 3) rfl (by rw [← nI_add i 1]; rfl) (by decide) rfl (fun ls hl => ?_)
            refine lv_goto (tgt := 5) hx hb dX4_add_51 (by decide) ?_
            exact ihL1 (i + 1) (by omega) b hb0 hb6 (lt_s hnd (nI_n0 c5)) _ _ _ hP hD hS (lv_sub hl [1, 2, 3, 0] rfl)
          · refine lv_iload_n hx hb dX4_add_24 rfl (lv_at hl 2 rfl) ?_
            refine lv_aload_n hx hb dX4_add_25 rfl (lv_at hl 0 rfl) ?_
            refine fg C hP 0 mw_o (ci := 4) rfl 4 (by decide) in_X4_add_X4 lk_X4_add_22 (v := .ref (bd 5)) rfl dX4_add_26 ?_
            refine lv_iload hx hb dX4_add_29 (lv_at hl 3 rfl) ?_
            refine ar_i C hP 5 mw_PR (j := i) (by omega) (by decide) dX4_add_31 ?_
            refine tp_i (y := nI (pr6 i)) ((pr6_at (by omega)).1) ?_
            refine lv_idiv hx hb dX4_add_32 (nI_ne0 hp0 hp1) ?_
            refine tp_i (y := nI (b / pr6 i)) (pk_div (by omega) hp0 hp1) ?_
            refine lv_istore_n (lv' := [(3, .int (nI (b / pr6 i))), (0, .ref (bd 0)), (2, .int (zI o)), (4, .int (nI i))]) hx hb dX4_add_33 rfl hl (by decide) rfl (fun ls hl => ?_)
            refine lv_aload_n hx hb dX4_add_34 rfl (lv_at hl 1 rfl) ?_
            refine fg C hP 0 mw_o (ci := 4) rfl 5 (by decide) in_X4_add_X4 lk_X4_add_25 (v := .ref (bd 6)) rfl dX4_add_35 ?_
            refine lv_iload hx hb dX4_add_38 (lv_at hl 3 rfl) ?_
            refine lv_dup2_11 hx hb dX4_add_40 rfl rfl ?_
            refine ar_i C hP 6 mw_po (j := i) (by omega) (by decide) dX4_add_41 ?_
            refine lv_iload_n hx hb dX4_add_42 rfl (lv_at hl 2 rfl) ?_
            refine lv_iadd hx hb dX4_add_43 ?_
            refine as_i C hP hD hS 6 mw_po (j := i) (by omega) (by decide) (mw_po_st _) dX4_add_44 (fun H locs hP hD hS => ?_)
            refine lv_goto (tgt := 12) hx hb dX4_add_45 (by decide) ?_
            obtain ⟨hP, hD⟩ := cg_i hP hD mw_po (g := zT (ae ee o a (b / pr6 i))) (ae_s hb0 hb6 (by omega) (nI_z0 (Nat.lt_trans (Nat.mod_lt _ hp0) hp1) c5)) (mw_po_st _)
            have hdv : pr6 i * (b / pr6 i) = b := Nat.mul_div_cancel' (Nat.dvd_of_mod_eq_zero (nI_z0 (Nat.lt_trans (Nat.mod_lt _ hp0) hp1) c5))
            have hdp : 1 ≤ b / pr6 i := by
              rcases Nat.eq_zero_or_pos (b / pr6 i) with q | q
              · rw [q, Nat.mul_zero] at hdv; omega
              · exact q
            have hdl : b / pr6 i < b := Nat.div_lt_self (by omega) (by have := (pr6_at (show i < 6 by omega)).2.1; omega)
            exact ihL4 (b / pr6 i) hdp (by omega) (by omega) (fun q hq e => hnd q hq (by rw [← hdv, Nat.mul_mod, e, Nat.mul_zero, Nat.zero_mod])) _ _ _ hP hD hS (lv_sub hl [1, 2, 0, 3] rfl)
      exact L4 b b hb0 hb6 (Nat.le_refl _) hnd _ _ _ hP hD hS (lv_sub hl [0, 1, 2, 3] rfl)
  rw [← ae_0 ee o a] at hP hD
  exact L1 (6 - 0) 0 (by omega) a ha ha2 (fun q h => absurd h (Nat.not_lt_zero _)) _ _ _ hP hD hS (lv_sub hl [2, 4, 1, 0] rfl)

set_option maxHeartbeats 4000000 in
set_option maxRecDepth 100000 in
theorem c_X4_words (D : va_G) (k : Nat → ClassId) (t : Nat → Nat) (l : Launch) {bd : Nat → Nat} {st wt sm nu po sh up lo : Nat → Int32} {li : Int32} {ro so un to : Nat → Int64} {it : Int32} (x1 x2 : Int32) : Ci D k t l yX4_words wsX4_words ({ frames := 1, cells := 0, slots := 0, locals := 30 }) [.ref (bd 0), .int x1, .int x2] (MWw bd k st wt sm nu po sh up lo li ro so un to it) (fun r w => (∃ a1 d : Nat, (1 ≤ a1 ∧ a1 < 9 ∧ x1 = nI a1 ∧ d < 2 ^ 31 ∧ x2 = nI d) ∧ r = pb (wsum d a1 ≤ 512) ∧ w = MWw bd k st wt sm nu po sh up lo li ro so un to it) ∨ ((∀ a1 d : Nat, ¬ (1 ≤ a1 ∧ a1 < 9 ∧ x1 = nI a1 ∧ d < 2 ^ 31 ∧ x2 = nI d)) ∧ r = nI 0 ∧ w = MWw bd k st wt sm nu po sh up lo li ro so un to it)) 0 0 := by
  refine fw_of (cc := cX4_words) (maxL := 6) (ret := (some .boolean)) (Qc := fun A => va_Qi (fun r w => (∃ a1 d : Nat, (1 ≤ a1 ∧ a1 < 9 ∧ x1 = nI a1 ∧ d < 2 ^ 31 ∧ x2 = nI d) ∧ r = pb (wsum d a1 ≤ 512) ∧ w = MWw bd k st wt sm nu po sh up lo li ro so un to it) ∨ ((∀ a1 d : Nat, ¬ (1 ≤ a1 ∧ a1 < 9 ∧ x1 = nI a1 ∧ d < 2 ^ 31 ∧ x2 = nI d)) ∧ r = nI 0 ∧ w = MWw bd k st wt sm nu po sh up lo li ro so un to it)) (BcW D A) A) (by decide) rfl (Nat.le_of_ble_eq_true rfl) ?_
  intro p e s m below meth c A ls C hP hD hl
  have C : Cx RX4 "words" cX4_words 6 (some .boolean) wsX4_words D k t A p s m ([.ref (bd 0), .int x1, .int x2] : List Value).toArray meth c := C
  have hl : lv_has ls 6 [(0, .ref (bd 0)), (1, .int x1), (2, .int x2)] := hl
  have hx := C.1
  have hb := C.2.1
  have hown := C.2.2.2.2.1
  have hts := C.2.2.2.2.2.1
  have hK := C.2.2.2.2.2.2.2.2.1
  have hZ := C.2.2.2.2.2.2.2.2.2.1
  have hN := C.2.2.2.2.2.2.2.2.2.2
  have hS : va_S A s.heap s.heap [] := va_S.rf
  refine lv_iload_n hx hb dX4_words_0 rfl (lv_at hl 1 rfl) ?_
  refine lv_iconst (v := nI 1) hx hb dX4_words_1 (by decide) ?_
  refine lv_bipush (v := nI 8) hx hb dX4_words_2 (by decide) ?_
  refine fw_i C hD hS (rn_S (As := [.int x1, .int (nI 1), .int (nI 8)]) (rest := []) C (c_isInR D k t l (lo := 1) (hi := 8) x1 (by decide) (by decide) _) (va_cwS 3 hts gX4_words_X4_isIn rfl rfl rfl hdX4_isIn ⟨Nat.le_of_ble_eq_true rfl, Nat.le_of_ble_eq_true rfl⟩) hP hD hS rfl hl.1 rfl (Nat.le_of_ble_eq_true rfl) dX4_words_4 ⟨Nat.zero_le _, Nat.zero_le _⟩) (fun r1 wr1 H locs h2 hP hD hS => ?_)
  obtain ⟨rfl, rfl⟩ := h2
  refine lv_if_eq (tgt := 14) hx hb dX4_words_7 (by decide) (fun c3 => ?_) (fun c3 => ?_)
  · have c3 := pb_z c3
    refine lv_iconst (v := nI 0) hx hb dX4_words_14 (by decide) ?_
    exact Rz C hP hD hS (Nat.zero_le _) (Nat.zero_le _) rfl dX4_words_15 (Or.inr ⟨fun a1 _ z => c3 ⟨a1, z.1, z.2.1, z.2.2.1⟩, rfl, rfl⟩)
  · have c3 := pb_nz c3
    obtain ⟨b1, h0b1, hb1, rfl⟩ := id c3
    refine lv_iload_n hx hb dX4_words_10 rfl (lv_at hl 2 rfl) ?_
    refine lv_if_ge (tgt := 16) hx hb dX4_words_11 (by decide) (fun c4 => ?_) (fun c4 => ?_)
    · obtain ⟨e1, hd, rfl⟩ := nI_of (show ¬ x2 < 0 from Int32.not_lt.mpr c4)
      refine lv_iload_n hx hb dX4_words_16 rfl (lv_at hl 2 rfl) ?_
      refine tp_i (y := nI (e1 / 10 ^ 0)) (by rw [Nat.pow_zero, Nat.div_one]) ?_
      refine lv_istore_n (lv' := [(3, .int (nI (e1 / 10 ^ 0))), (0, .ref (bd 0)), (1, .int (nI b1)), (2, .int (nI e1))]) hx hb dX4_words_17 rfl hl (by decide) rfl (fun ls hl => ?_)
      refine lv_iconst (v := nI 0) hx hb dX4_words_18 (by decide) ?_
      refine tp_i (y := nI (wsum e1 0)) (rfl) ?_
      refine lv_istore (lv' := [(4, .int (nI (wsum e1 0))), (3, .int (nI (e1 / 10 ^ 0))), (0, .ref (bd 0)), (1, .int (nI b1)), (2, .int (nI e1))]) hx hb dX4_words_19 hl (by decide) rfl (fun ls hl => ?_)
      refine lv_iconst (v := nI 0) hx hb dX4_words_21 (by decide) ?_
      refine lv_istore (lv' := [(5, .int (nI 0)), (4, .int (nI (wsum e1 0))), (3, .int (nI (e1 / 10 ^ 0))), (0, .ref (bd 0)), (1, .int (nI b1)), (2, .int (nI e1))]) hx hb dX4_words_22 hl (by decide) rfl (fun ls hl => ?_)
      have L5 : ∀ (r i : Nat), i + r = b1 → ∀ (H : Heap) (locs : List Loc) (ls : Array Slot), va_P D vwCl (MWw bd k st wt sm nu po sh up lo li ro so un to it) H → va_D A (MWw bd k st wt sm nu po sh up lo li ro so un to it) → va_S A s.heap H locs → lv_has ls 6 [(0, .ref (bd 0)), (1, .int (nI b1)), (2, .int (nI e1)), (4, .int (nI (wsum e1 i))), (3, .int (nI (e1 / 10 ^ i))), (5, .int (nI i))] → W p l e ({ frames := 1, cells := 0, slots := 0, locals := 30 }) s m ([.ref (bd 0), .int (nI b1), .int (nI e1)] : List Value).toArray below meth c H locs 0 0 (MQ below (va_Qi (fun r w => (∃ a1 d : Nat, (1 ≤ a1 ∧ a1 < 9 ∧ (nI b1) = nI a1 ∧ d < 2 ^ 31 ∧ (nI e1) = nI d) ∧ r = pb (wsum d a1 ≤ 512) ∧ w = MWw bd k st wt sm nu po sh up lo li ro so un to it) ∨ ((∀ a1 d : Nat, ¬ (1 ≤ a1 ∧ a1 < 9 ∧ (nI b1) = nI a1 ∧ d < 2 ^ 31 ∧ (nI e1) = nI d)) ∧ r = nI 0 ∧ w = MWw bd k st wt sm nu po sh up lo li ro so un to it)) (BcW D A) A) ([.ref (bd 0), .int (nI b1), .int (nI e1)] : List Value).toArray s 0 0 A) (F0 m 24 ls []) := by
        intro r
        induction r with
        | zero =>
          intro i hr H locs ls hP hD hS hl
          obtain rfl : b1 = i := by omega
          refine lv_iload hx hb dX4_words_24 (lv_at hl 5 rfl) ?_
          refine lv_iload_n hx hb dX4_words_26 rfl (lv_at hl 1 rfl) ?_
          refine lv_icmp_ge (tgt := 54) hx hb dX4_words_27 (by decide) (fun c6 => ?_) (fun c6 => absurd (nI_le (by omega) (by omega)) c6)
          refine lv_iload hx hb dX4_words_54 (lv_at hl 3 rfl) ?_
          refine lv_sipush (v := nI 512) hx hb dX4_words_56 (by decide) ?_
          refine lv_icmp_gt (tgt := 66) hx hb dX4_words_59 (by decide) (fun c7 => ?_) (fun c7 => ?_)
          · refine lv_iconst (v := nI 0) hx hb dX4_words_66 (by decide) ?_
            exact Rz C hP hD hS (Nat.zero_le _) (Nat.zero_le _) rfl dX4_words_67 (Or.inl ⟨b1, e1, ⟨h0b1, hb1, rfl, hd, rfl⟩, (pb_f (fun q => nI_nlt q (by have := wsum_le e1 b1; omega) c7)).symm, rfl⟩)
          · refine lv_iconst (v := nI 1) hx hb dX4_words_62 (by decide) ?_
            refine lv_goto (tgt := 67) hx hb dX4_words_63 (by decide) ?_
            exact Rz C hP hD hS (Nat.zero_le _) (Nat.zero_le _) rfl dX4_words_67 (Or.inl ⟨b1, e1, ⟨h0b1, hb1, rfl, hd, rfl⟩, (pb_t (Nat.not_lt.mp fun q => c7 (nI_lt q (by have := wsum_le e1 b1; omega)))).symm, rfl⟩)
        | succ r ihL5 =>
          intro i hr H locs ls hP hD hS hl
          refine lv_iload hx hb dX4_words_24 (lv_at hl 5 rfl) ?_
          refine lv_iload_n hx hb dX4_words_26 rfl (lv_at hl 1 rfl) ?_
          refine lv_icmp_ge (tgt := 54) hx hb dX4_words_27 (by decide) (fun c8 => absurd c8 (nI_ge (by omega) (by omega))) (fun c8 => ?_)
          refine lv_iload hx hb dX4_words_30 (lv_at hl 3 rfl) ?_
          refine lv_sipush (v := nI 512) hx hb dX4_words_32 (by decide) ?_
          refine lv_iload_n hx hb dX4_words_35 rfl (lv_at hl 4 rfl) ?_
          refine lv_bipush (v := nI 10) hx hb dX4_words_36 (by decide) ?_
          refine lv_irem hx hb dX4_words_38 (by decide) ?_
          refine tp_i (y := nI (e1 / 10 ^ i % 10)) (pk_rem (dl10 hd i) (by decide) (by decide)) ?_
          refine lv_ishr hx hb dX4_words_39 ?_
          refine tp_i (y := nI (512 / 2 ^ (e1 / 10 ^ i % 10))) (sh512 _ (Nat.mod_lt _ (by decide))) ?_
          refine lv_iadd hx hb dX4_words_40 ?_
          refine tp_i (y := nI (wsum e1 (i + 1))) (nI_add _ _) ?_
          refine lv_istore (lv' := [(4, .int (nI (wsum e1 (i + 1)))), (0, .ref (bd 0)), (1, .int (nI b1)), (2, .int (nI e1)), (3, .int (nI (e1 / 10 ^ i))), (5, .int (nI i))]) hx hb dX4_words_41 hl (by decide) rfl (fun ls hl => ?_)
          refine lv_iload_n hx hb dX4_words_43 rfl (lv_at hl 4 rfl) ?_
          refine lv_bipush (v := nI 10) hx hb dX4_words_44 (by decide) ?_
          refine lv_idiv hx hb dX4_words_46 (by decide) ?_
          refine tp_i (y := nI (e1 / 10 ^ (i + 1))) (by rw [pk_div (dl10 hd i) (by decide) (by decide), Nat.div_div_eq_div_mul, ← Nat.pow_succ]) ?_
          refine lv_istore_n (lv' := [(3, .int (nI (e1 / 10 ^ (i + 1)))), (4, .int (nI (wsum e1 (i + 1)))), (0, .ref (bd 0)), (1, .int (nI b1)), (2, .int (nI e1)), (5, .int (nI i))]) hx hb dX4_words_47 rfl hl (by decide) rfl (fun ls hl => ?_)
          refine lv_iinc (v := nI (i + 1)) (lv' := [(5, .int (nI (i + 1))), (3, .int (nI (e1 / 10 ^ (i + 1)))), (4, .int (nI (wsum e1 (i + 1)))), (0, .ref (bd 0)), (1, .int (nI b1)), (2, .int (nI e1))]) hx hb dX4_words_48 hl (k := 5) rfl (by rw [← nI_add i 1]; rfl) (by decide) rfl (fun ls hl => ?_)
          refine lv_goto (tgt := 24) hx hb dX4_words_51 (by decide) ?_
          exact ihL5 (i + 1) (by omega) _ _ _ hP hD hS (lv_sub hl [3, 4, 5, 2, 1, 0] rfl)
      exact L5 (b1 - 0) 0 (by omega) _ _ _ hP hD hS (lv_sub hl [3, 4, 5, 1, 2, 0] rfl)
    · refine lv_iconst (v := nI 0) hx hb dX4_words_14 (by decide) ?_
      exact Rz C hP hD hS (Nat.zero_le _) (Nat.zero_le _) rfl dX4_words_15 (Or.inr ⟨fun _ d z => by obtain ⟨_, _, _, z4, rfl⟩ := z; exact c4 (nI_pos' z4), rfl, rfl⟩)

theorem zI_00 {q : Int} (h : -1000 ≤ q ∧ q ≤ 1000) (e : zI q = 0) : q = 0 := by
  have h1 := zI_toInt (z := q) (by omega) (by omega)
  rw [e] at h1
  exact h1.symm
set_option maxRecDepth 20000 in
theorem in_X4_doubt_X4 : ∀ w ∈ u_ws RX4 TX4 15, w ∈ wsX4_doubt := by decide +kernel
set_option maxRecDepth 20000 in
theorem lk_X4_doubt_16 : Cond.fieldLink RX4 16 (TX4 2).1 (TX4 2).2.1 (TX4 2).2.2.1 ∈ wsX4_doubt := by decide +kernel
set_option maxRecDepth 20000 in
theorem lk_X4_doubt_28 : Cond.fieldLink RX4 28 (TX4 6).1 (TX4 6).2.1 (TX4 6).2.2.1 ∈ wsX4_doubt := by decide +kernel
set_option maxHeartbeats 4000000 in
set_option maxRecDepth 100000 in
theorem c_X4_doubt (D : va_G) (k : Nat → ClassId) (t : Nat → Nat) (l : Launch) {bd : Nat → Nat} {st wt sm nu sh up lo : Nat → Int32} {li : Int32} {ro so un to : Nat → Int64} {it : Int32} {g z n : Nat} {vt : Nat → Nat} {ee : Nat → Int} {tm : Int} (hg : g < 4) (hz : z < 8) (hn : sm g = nI n) (hn1 : 1 ≤ n) (hn2 : n ≤ 16) (hv : ∀ j, j < 27 → wt (27 * g + j) = nI (vt j)) (hs : ∀ j, gsN vt z 27 j ≤ 16) (htm : -1000 ≤ tm ∧ tm ≤ 1000) : Cv D k t l yX4_doubt wsX4_doubt ({ frames := 1, cells := 0, slots := 0, locals := 30 }) [.ref (bd 0), .int (nI g), .int (nI z), .int (zI tm)] (MWw bd k st wt sm nu (zT ee) sh up lo li ro so un to it) (fun w => ∃ sh2 : Nat → Int32, w = MWw bd k st wt sm nu (zT (dxq ee tm vt n z)) sh2 up lo li ro so un to it) 0 0 := by
  refine fw_of (cc := cX4_doubt) (maxL := 5) (ret := none) (Qc := fun A => va_Qv (fun w => ∃ sh2 : Nat → Int32, w = MWw bd k st wt sm nu (zT (dxq ee tm vt n z)) sh2 up lo li ro so un to it) (BcW D A) A) (by decide) rfl (Nat.le_of_ble_eq_true rfl) ?_
  intro p e s m below meth c A ls C hP hD hl
  have C : Cx RX4 "doubt" cX4_doubt 5 none wsX4_doubt D k t A p s m ([.ref (bd 0), .int (nI g), .int (nI z), .int (zI tm)] : List Value).toArray meth c := C
  have hl : lv_has ls 5 [(0, .ref (bd 0)), (1, .int (nI g)), (2, .int (nI z)), (3, .int (zI tm))] := hl
  have hx := C.1
  have hb := C.2.1
  have hown := C.2.2.2.2.1
  have hts := C.2.2.2.2.2.1
  have hK := C.2.2.2.2.2.2.2.2.1
  have hZ := C.2.2.2.2.2.2.2.2.2.1
  have hN := C.2.2.2.2.2.2.2.2.2.2
  have hS : va_S A s.heap s.heap [] := va_S.rf
  refine lv_iload_n hx hb dX4_doubt_0 rfl (lv_at hl 3 rfl) ?_
  refine lv_if_ne (tgt := 5) hx hb dX4_doubt_1 (by decide) (fun c1 => ?_) (fun c1 => ?_)
  · refine lv_aload_n hx hb dX4_doubt_5 rfl (lv_at hl 0 rfl) ?_
    refine lv_iload_n hx hb dX4_doubt_6 rfl (lv_at hl 1 rfl) ?_
    refine lv_iload_n hx hb dX4_doubt_7 rfl (lv_at hl 2 rfl) ?_
    refine fw_v C hD hS (rn_V (As := [.int (nI g), .int (nI z)]) (rest := []) C (c_X4_settings D k t l hg hz _) (cwV 2 hts gX4_doubt_X4_settings rfl rfl rfl hdX4_settingsC ⟨Nat.le_of_ble_eq_true rfl, Nat.le_of_ble_eq_true rfl⟩) 0 4 rfl mw_o rfl hP hD hS rfl hl.1 rfl (Nat.le_of_ble_eq_true rfl) dX4_doubt_8 ⟨Nat.zero_le _, Nat.zero_le _⟩) (fun wr2 H locs h3 hP hD hS => ?_)
    obtain rfl := h3
    refine lv_aload_n hx hb dX4_doubt_11 rfl (lv_at hl 0 rfl) ?_
    refine lv_aload_n hx hb dX4_doubt_12 rfl (lv_at hl 0 rfl) ?_
    refine fg C hP 0 mw_o (ci := 4) rfl 2 (by decide) in_X4_doubt_X4 lk_X4_doubt_16 (v := .ref (bd 3)) rfl dX4_doubt_13 ?_
    refine lv_iload_n hx hb dX4_doubt_16 rfl (lv_at hl 1 rfl) ?_
    refine ar_i C hP 3 mw_sm (j := g) (by omega) (by decide) dX4_doubt_17 ?_
    refine tp_i (y := nI n) (hn) ?_
    refine lv_iload_n hx hb dX4_doubt_18 rfl (lv_at hl 3 rfl) ?_
    refine lv_aload_n hx hb dX4_doubt_19 rfl (lv_at hl 0 rfl) ?_
    refine fg C hP 0 mw_o (ci := 4) rfl 2 (by decide) in_X4_doubt_X4 lk_X4_doubt_16 (v := .ref (bd 3)) rfl dX4_doubt_20 ?_
    refine lv_iload_n hx hb dX4_doubt_23 rfl (lv_at hl 1 rfl) ?_
    refine ar_i C hP 3 mw_sm (j := g) (by omega) (by decide) dX4_doubt_24 ?_
    refine tp_i (y := nI n) (hn) ?_
    refine lv_imul hx hb dX4_doubt_25 ?_
    refine tp_i (y := zI (tm * (n : Int))) (by rw [nz, zI_mul]) ?_
    refine fw_v C hD hS (rn_V (As := [.int (nI n), .int (zI (tm * (n : Int)))]) (rest := []) C (c_X4_add D k t l (a := n) (o := (tm * (n : Int))) hn1 hn2 _) (cwV 2 hts gX4_doubt_X4_add rfl rfl rfl hdX4_addC ⟨Nat.le_of_ble_eq_true rfl, Nat.le_of_ble_eq_true rfl⟩) 0 4 rfl mw_o rfl hP hD hS rfl hl.1 rfl (Nat.le_of_ble_eq_true rfl) dX4_doubt_26 ⟨Nat.zero_le _, Nat.zero_le _⟩) (fun wr4 H locs h5 hP hD hS => ?_)
    obtain rfl := h5
    refine lv_iconst (v := nI 0) hx hb dX4_doubt_29 (by decide) ?_
    refine lv_istore (lv' := [(4, .int (nI 0)), (0, .ref (bd 0)), (1, .int (nI g)), (2, .int (nI z)), (3, .int (zI tm))]) hx hb dX4_doubt_30 hl (by decide) rfl (fun ls hl => ?_)
    have L6 : ∀ (r i : Nat), i + r = 27 → ∀ (H : Heap) (locs : List Loc) (ls : Array Slot), va_P D vwCl (MWw bd k st wt sm nu (zT (dxp ee tm vt n z i)) (gs (fun j => wt (27 * g + j)) z 27) up lo li ro so un to it) H → va_D A (MWw bd k st wt sm nu (zT (dxp ee tm vt n z i)) (gs (fun j => wt (27 * g + j)) z 27) up lo li ro so un to it) → va_S A s.heap H locs → lv_has ls 5 [(0, .ref (bd 0)), (3, .int (zI tm)), (4, .int (nI i))] → W p l e ({ frames := 1, cells := 0, slots := 0, locals := 30 }) s m ([.ref (bd 0), .int (nI g), .int (nI z), .int (zI tm)] : List Value).toArray below meth c H locs 0 0 (MQ below (va_Qv (fun w => ∃ sh2 : Nat → Int32, w = MWw bd k st wt sm nu (zT (dxq ee tm vt n z)) sh2 up lo li ro so un to it) (BcW D A) A) ([.ref (bd 0), .int (nI g), .int (nI z), .int (zI tm)] : List Value).toArray s 0 0 A) (F0 m 32 ls []) := by
      intro r
      induction r with
      | zero =>
        intro i hr H locs ls hP hD hS hl
        obtain rfl : 27 = i := by omega
        refine lv_iload hx hb dX4_doubt_32 (lv_at hl 2 rfl) ?_
        refine lv_bipush (v := nI 27) hx hb dX4_doubt_34 (by decide) ?_
        refine lv_icmp_ge (tgt := 76) hx hb dX4_doubt_36 (by decide) (fun c7 => ?_) (fun c7 => absurd (nI_le (by omega) (by decide)) c7)
        exact Rv C hP hD hS (Nat.zero_le _) (Nat.zero_le _) dX4_doubt_76 (⟨_, by rw [dxp_e]⟩)
      | succ r ihL6 =>
        intro i hr H locs ls hP hD hS hl
        refine lv_iload hx hb dX4_doubt_32 (lv_at hl 2 rfl) ?_
        refine lv_bipush (v := nI 27) hx hb dX4_doubt_34 (by decide) ?_
        refine lv_icmp_ge (tgt := 76) hx hb dX4_doubt_36 (by decide) (fun c8 => absurd c8 (nI_ge (by omega) (by decide))) (fun c8 => ?_)
        refine lv_aload_n hx hb dX4_doubt_39 rfl (lv_at hl 0 rfl) ?_
        refine fg C hP 0 mw_o (ci := 4) rfl 6 (by decide) in_X4_doubt_X4 lk_X4_doubt_28 (v := .ref (bd 7)) rfl dX4_doubt_40 ?_
        refine lv_iload hx hb dX4_doubt_43 (lv_at hl 2 rfl) ?_
        refine ar_i C hP 7 mw_sh (j := i) (by omega) (by decide) dX4_doubt_45 ?_
        refine tp_i (y := nI (gsN vt z 27 i)) (gs_n hv z 27 (Nat.le_refl _) i) ?_
        refine lv_if_le (tgt := 70) hx hb dX4_doubt_46 (by decide) (fun c9 => ?_) (fun c9 => ?_)
        · refine lv_iinc (v := nI (i + 1)) (lv' := [(4, .int (nI (i + 1))), (0, .ref (bd 0)), (3, .int (zI tm))]) hx hb dX4_doubt_70 hl (k := 2) rfl (by rw [← nI_add i 1]; rfl) (by decide) rfl (fun ls hl => ?_)
          refine lv_goto (tgt := 32) hx hb dX4_doubt_73 (by decide) ?_
          rw [dxp_k (i := i) (nI_z0' (by have := hs i; omega) c9)] at hP hD
          exact ihL6 (i + 1) (by omega) _ _ _ hP hD hS (lv_sub hl [1, 2, 0] rfl)
        · have hp := nI_p c9
          refine lv_aload_n hx hb dX4_doubt_49 rfl (lv_at hl 0 rfl) ?_
          refine lv_aload_n hx hb dX4_doubt_50 rfl (lv_at hl 0 rfl) ?_
          refine fg C hP 0 mw_o (ci := 4) rfl 6 (by decide) in_X4_doubt_X4 lk_X4_doubt_28 (v := .ref (bd 7)) rfl dX4_doubt_51 ?_
          refine lv_iload hx hb dX4_doubt_54 (lv_at hl 2 rfl) ?_
          refine ar_i C hP 7 mw_sh (j := i) (by omega) (by decide) dX4_doubt_56 ?_
          refine tp_i (y := nI (gsN vt z 27 i)) (gs_n hv z 27 (Nat.le_refl _) i) ?_
          refine lv_iload_n hx hb dX4_doubt_57 rfl (lv_at hl 1 rfl) ?_
          refine lv_ineg hx hb dX4_doubt_58 ?_
          refine tp_i (y := zI (-tm)) (zI_neg _) ?_
          refine lv_aload_n hx hb dX4_doubt_59 rfl (lv_at hl 0 rfl) ?_
          refine fg C hP 0 mw_o (ci := 4) rfl 6 (by decide) in_X4_doubt_X4 lk_X4_doubt_28 (v := .ref (bd 7)) rfl dX4_doubt_60 ?_
          refine lv_iload hx hb dX4_doubt_63 (lv_at hl 2 rfl) ?_
          refine ar_i C hP 7 mw_sh (j := i) (by omega) (by decide) dX4_doubt_65 ?_
          refine tp_i (y := nI (gsN vt z 27 i)) (gs_n hv z 27 (Nat.le_refl _) i) ?_
          refine lv_imul hx hb dX4_doubt_66 ?_
          refine tp_i (y := zI (-tm * (gsN vt z 27 i : Int))) (by rw [nz, zI_mul]) ?_
          refine fw_v C hD hS (rn_V (As := [.int (nI (gsN vt z 27 i)), .int (zI (-tm * (gsN vt z 27 i : Int)))]) (rest := []) C (c_X4_add D k t l (a := (gsN vt z 27 i)) (o := (-tm * (gsN vt z 27 i : Int))) hp (hs i) _) (cwV 2 hts gX4_doubt_X4_add rfl rfl rfl hdX4_addC ⟨Nat.le_of_ble_eq_true rfl, Nat.le_of_ble_eq_true rfl⟩) 0 4 rfl mw_o rfl hP hD hS rfl hl.1 rfl (Nat.le_of_ble_eq_true rfl) dX4_doubt_67 ⟨Nat.zero_le _, Nat.zero_le _⟩) (fun wr10 H locs h11 hP hD hS => ?_)
          obtain rfl := h11
          refine lv_iinc (v := nI (i + 1)) (lv' := [(4, .int (nI (i + 1))), (0, .ref (bd 0)), (3, .int (zI tm))]) hx hb dX4_doubt_70 hl (k := 2) rfl (by rw [← nI_add i 1]; rfl) (by decide) rfl (fun ls hl => ?_)
          refine lv_goto (tgt := 32) hx hb dX4_doubt_73 (by decide) ?_
          rw [dxp_s] at hP hD
          exact ihL6 (i + 1) (by omega) _ _ _ hP hD hS (lv_sub hl [1, 2, 0] rfl)
    rw [dxp_0 ee tm vt n z] at hP hD
    exact L6 (27 - 0) 0 (by omega) _ _ _ hP hD hS (lv_sub hl [1, 4, 0] rfl)
  · exact Rv C hP hD hS (Nat.zero_le _) (Nat.zero_le _) dX4_doubt_4 (⟨sh, by rw [dxq_0 (zI_00 htm c1)]⟩)

theorem tmb {q tm : Int} (h : -2 ≤ q ∧ q ≤ 2) (h2 : -500 ≤ tm ∧ tm ≤ 500) : -1000 ≤ q * tm ∧ q * tm ≤ 1000 := by
  obtain ⟨h3, h4⟩ := h
  have : q = -2 ∨ q = -1 ∨ q = 0 ∨ q = 1 ∨ q = 2 := by omega
  rcases this with rfl | rfl | rfl | rfl | rfl <;> omega
set_option maxRecDepth 20000 in
theorem in_X4_lawIn_X4 : ∀ w ∈ u_ws RX4 TX4 15, w ∈ wsX4_lawIn := by decide +kernel
set_option maxRecDepth 20000 in
theorem lk_X4_lawIn_19 : Cond.fieldLink RX4 19 (TX4 3).1 (TX4 3).2.1 (TX4 3).2.2.1 ∈ wsX4_lawIn := by decide +kernel
set_option maxHeartbeats 4000000 in
set_option maxRecDepth 100000 in
theorem c_X4_lawIn (D : va_G) (k : Nat → ClassId) (t : Nat → Nat) (l : Launch) {bd : Nat → Nat} {st wt sm nu sh up lo : Nat → Int32} {li : Int32} {ro so un to : Nat → Int64} {it : Int32} {g j n : Nat} {vt : Nat → Nat} {ee qs : Nat → Int} {tm : Int} (hg : g < 4) (hj : j < 10) (hn : sm g = nI n) (hn1 : 1 ≤ n) (hn2 : n ≤ 16) (hv : ∀ j, j < 27 → wt (27 * g + j) = nI (vt j)) (hs : ∀ z j, gsN vt z 27 j ≤ 16) (hL : ∀ z, 1 ≤ z → z < 8 → nu (8 * j + z) = zI (qs z)) (hq : ∀ z, z < 8 → -2 ≤ qs z ∧ qs z ≤ 2) (htm : -500 ≤ tm ∧ tm ≤ 500) : Cv D k t l yX4_lawIn wsX4_lawIn ({ frames := 2, cells := 0, slots := 0, locals := 60 }) [.ref (bd 0), .int (nI g), .int (nI j), .int (zI tm)] (MWw bd k st wt sm nu (zT ee) sh up lo li ro so un to it) (fun w => ∃ sh2 : Nat → Int32, w = MWw bd k st wt sm nu (zT (lxp ee vt n qs tm 7)) sh2 up lo li ro so un to it) 0 0 := by
  refine fw_of (cc := cX4_lawIn) (maxL := 5) (ret := none) (Qc := fun A => va_Qv (fun w => ∃ sh2 : Nat → Int32, w = MWw bd k st wt sm nu (zT (lxp ee vt n qs tm 7)) sh2 up lo li ro so un to it) (BcW D A) A) (by decide) rfl (Nat.le_of_ble_eq_true rfl) ?_
  intro p e s m below meth c A ls C hP hD hl
  have C : Cx RX4 "lawIn" cX4_lawIn 5 none wsX4_lawIn D k t A p s m ([.ref (bd 0), .int (nI g), .int (nI j), .int (zI tm)] : List Value).toArray meth c := C
  have hl : lv_has ls 5 [(0, .ref (bd 0)), (1, .int (nI g)), (2, .int (nI j)), (3, .int (zI tm))] := hl
  have hx := C.1
  have hb := C.2.1
  have hown := C.2.2.2.2.1
  have hts := C.2.2.2.2.2.1
  have hK := C.2.2.2.2.2.2.2.2.1
  have hZ := C.2.2.2.2.2.2.2.2.2.1
  have hN := C.2.2.2.2.2.2.2.2.2.2
  have hS : va_S A s.heap s.heap [] := va_S.rf
  refine lv_iconst (v := nI 1) hx hb dX4_lawIn_0 (by decide) ?_
  refine tp_i (y := nI (0 + 1)) (rfl) ?_
  refine lv_istore (lv' := [(4, .int (nI (0 + 1))), (0, .ref (bd 0)), (1, .int (nI g)), (2, .int (nI j)), (3, .int (zI tm))]) hx hb dX4_lawIn_1 hl (by decide) rfl (fun ls hl => ?_)
  have L1 : ∀ (r i : Nat), i + r = 7 → ∀ (sh1 : Nat → Int32), ∀ (H : Heap) (locs : List Loc) (ls : Array Slot), va_P D vwCl (MWw bd k st wt sm nu (zT (lxp ee vt n qs tm i)) sh1 up lo li ro so un to it) H → va_D A (MWw bd k st wt sm nu (zT (lxp ee vt n qs tm i)) sh1 up lo li ro so un to it) → va_S A s.heap H locs → lv_has ls 5 [(0, .ref (bd 0)), (1, .int (nI g)), (2, .int (nI j)), (3, .int (zI tm)), (4, .int (nI (i + 1)))] → W p l e ({ frames := 2, cells := 0, slots := 0, locals := 60 }) s m ([.ref (bd 0), .int (nI g), .int (nI j), .int (zI tm)] : List Value).toArray below meth c H locs 0 0 (MQ below (va_Qv (fun w => ∃ sh2 : Nat → Int32, w = MWw bd k st wt sm nu (zT (lxp ee vt n qs tm 7)) sh2 up lo li ro so un to it) (BcW D A) A) ([.ref (bd 0), .int (nI g), .int (nI j), .int (zI tm)] : List Value).toArray s 0 0 A) (F0 m 3 ls []) := by
    intro r
    induction r with
    | zero =>
      intro i hr sh1 H locs ls hP hD hS hl
      obtain rfl : 7 = i := by omega
      refine lv_iload hx hb dX4_lawIn_3 (lv_at hl 4 rfl) ?_
      refine lv_bipush (v := nI 8) hx hb dX4_lawIn_5 (by decide) ?_
      refine lv_icmp_ge (tgt := 37) hx hb dX4_lawIn_7 (by decide) (fun c2 => ?_) (fun c2 => absurd (nI_le (by omega) (by decide)) c2)
      exact Rv C hP hD hS (Nat.zero_le _) (Nat.zero_le _) dX4_lawIn_37 (⟨_, rfl⟩)
    | succ r ihL1 =>
      intro i hr sh1 H locs ls hP hD hS hl
      refine lv_iload hx hb dX4_lawIn_3 (lv_at hl 4 rfl) ?_
      refine lv_bipush (v := nI 8) hx hb dX4_lawIn_5 (by decide) ?_
      refine lv_icmp_ge (tgt := 37) hx hb dX4_lawIn_7 (by decide) (fun c3 => absurd c3 (nI_ge (by omega) (by decide))) (fun c3 => ?_)
      refine lv_aload_n hx hb dX4_lawIn_10 rfl (lv_at hl 0 rfl) ?_
      refine lv_iload_n hx hb dX4_lawIn_11 rfl (lv_at hl 1 rfl) ?_
      refine lv_iload hx hb dX4_lawIn_12 (lv_at hl 4 rfl) ?_
      refine lv_iload_n hx hb dX4_lawIn_14 rfl (lv_at hl 3 rfl) ?_
      refine lv_aload_n hx hb dX4_lawIn_15 rfl (lv_at hl 0 rfl) ?_
      refine fg C hP 0 mw_o (ci := 4) rfl 3 (by decide) in_X4_lawIn_X4 lk_X4_lawIn_19 (v := .ref (bd 4)) rfl dX4_lawIn_16 ?_
      refine lv_bipush (v := nI 8) hx hb dX4_lawIn_19 (by decide) ?_
      refine lv_iload_n hx hb dX4_lawIn_21 rfl (lv_at hl 2 rfl) ?_
      refine lv_imul hx hb dX4_lawIn_22 ?_
      refine tp_i (y := nI (8 * j)) (pk_mul _ _) ?_
      refine lv_iload hx hb dX4_lawIn_23 (lv_at hl 4 rfl) ?_
      refine lv_iadd hx hb dX4_lawIn_25 ?_
      refine tp_i (y := nI ((8 * j) + (i + 1))) (nI_add _ _) ?_
      refine ar_i C hP 4 mw_nu (j := ((8 * j) + (i + 1))) (by omega) (by decide) dX4_lawIn_26 ?_
      refine tp_i (y := zI (qs (i + 1))) (hL (i + 1) (by omega) (by omega)) ?_
      refine lv_imul hx hb dX4_lawIn_27 ?_
      refine tp_i (y := zI (qs (i + 1) * tm)) (by rw [zI_mul, Int.mul_comm]) ?_
      refine fw_v C hD hS (rn_V (As := [.int (nI g), .int (nI (i + 1)), .int (zI (qs (i + 1) * tm))]) (rest := []) C (c_X4_doubt D k t l (z := (i + 1)) (tm := (qs (i + 1) * tm)) (vt := vt) (n := n) hg (by omega) hn hn1 hn2 hv (hs _) (tmb (hq (i + 1) (by omega)) htm) _) (cwV 3 hts gX4_lawIn_X4_doubt rfl rfl rfl hdX4_doubtC ⟨Nat.le_of_ble_eq_true rfl, Nat.le_of_ble_eq_true rfl⟩) 0 4 rfl mw_o rfl hP hD hS rfl hl.1 rfl (Nat.le_of_ble_eq_true rfl) dX4_lawIn_28 ⟨Nat.zero_le _, Nat.zero_le _⟩) (fun wr4 H locs h5 hP hD hS => ?_)
      obtain ⟨sh6, rfl⟩ := h5
      refine lv_iinc (v := nI ((i + 1) + 1)) (lv' := [(4, .int (nI ((i + 1) + 1))), (0, .ref (bd 0)), (1, .int (nI g)), (2, .int (nI j)), (3, .int (zI tm))]) hx hb dX4_lawIn_31 hl (k := 4) rfl (by rw [← nI_add (i + 1) 1]; rfl) (by decide) rfl (fun ls hl => ?_)
      refine lv_goto (tgt := 3) hx hb dX4_lawIn_34 (by decide) ?_
      exact ihL1 (i + 1) (by omega) _ _ _ _ hP hD hS (lv_sub hl [1, 2, 3, 4, 0] rfl)
  exact L1 (7 - 0) 0 (by omega) _ _ _ _ hP hD hS (lv_sub hl [1, 2, 3, 4, 0] rfl)

