/-! the reference's prove -/
def soV (z : Nat → Int) (i j q : Nat) : Int64 := if q = i ∨ q = j then 0 else zL (sov (z (8 * cl i j q + 7)) (z (8 * cl i j q + cl i j q)))
def unV (z : Nat → Int) (i j q : Nat) : Int64 := if q = i ∨ q = j then 1 else lN (unv (z (8 * cl i j q + 7)) (z (8 * cl i j q + cl i j q)))
theorem soA_at {so : Nat → Int64} {z : Nat → Int} {i j : Nat} : ∀ {n q : Nat}, q < n → soA so z i j n q = soV z i j q
  | n + 1, q, h => by
    rw [soA]
    by_cases e : q = n
    · subst e
      unfold soV
      split
      · exact if_pos rfl
      · exact if_pos rfl
    · have ih := soA_at (so := so) (z := z) (i := i) (j := j) (n := n) (q := q) (by omega)
      split
      · exact (if_neg e).trans ih
      · exact (if_neg e).trans ((if_neg e).trans ih)
theorem unA_at {un : Nat → Int64} {z : Nat → Int} {i j : Nat} : ∀ {n q : Nat}, q < n → unA un z i j n q = unV z i j q
  | n + 1, q, h => by
    rw [unA]
    by_cases e : q = n
    · subst e
      unfold unV
      split
      · exact if_pos rfl
      · exact if_pos rfl
    · have ih := unA_at (un := un) (z := z) (i := i) (j := j) (n := n) (q := q) (by omega)
      split
      · exact (if_neg e).trans ih
      · exact (if_neg e).trans ((if_neg e).trans ih)
def NN (f : Nat → Int64) (n : Nat) : Prop := ∀ q, q < n → ¬ lg_cmp (f q) 0 < 0
def OKP (z : Nat → Int) (i j : Nat) : Prop := ∃ zf, sl z 7 = some zf ∧ NN (soV zf i j) 9
theorem okp_no {z : Nat → Int} {i j : Nat} (h : sl z 7 = none) : ¬ OKP z i j := fun ⟨zf, h1, _⟩ => by rw [h] at h1; cases h1
theorem okp_nn {z zf : Nat → Int} {i j : Nat} {so : Nat → Int64} (h : sl z 7 = some zf) (hn : ¬ NN (soA so zf i j 9) 9) : ¬ OKP z i j := fun ⟨zg, h1, h2⟩ => by
  rw [h] at h1
  cases h1
  exact hn (fun q hq => by rw [soA_at hq]; exact h2 q hq)
def toA (to so un : Nat → Int64) (n : Nat) : Nat → Int64 := fun q => if q < n then so q else if 9 ≤ q ∧ q < 9 + n then un (q - 9) else to q
theorem toA_0 (to so un : Nat → Int64) : toA to so un 0 = to := by
  funext q
  unfold toA
  rw [if_neg (by omega), if_neg (by omega)]
theorem toA_s {to so un : Nat → Int64} {n : Nat} (hn : n < 9) : vp_updL (vp_updL (toA to so un n) n (so n)) (9 + n) (un n) = toA to so un (n + 1) := by
  funext q
  unfold vp_updL
  by_cases h1 : q = 9 + n
  · subst h1
    rw [if_pos rfl]
    unfold toA
    rw [if_neg (by omega), if_pos (by omega)]
    congr 1
    omega
  · rw [if_neg h1]
    by_cases h2 : q = n
    · subst h2
      rw [if_pos rfl]
      unfold toA
      rw [if_pos (by omega)]
    · rw [if_neg h2]
      unfold toA
      by_cases h3 : q < n
      · rw [if_pos h3, if_pos (by omega)]
      · rw [if_neg h3, if_neg (c := q < n + 1) (by omega)]
        by_cases h4 : 9 ≤ q ∧ q < 9 + n
        · rw [if_pos h4, if_pos (by omega)]
        · rw [if_neg h4, if_neg (by omega)]
def toV (z : Nat → Int) (i j : Nat) : Nat → Int64 := fun q => if q < 9 then soV z i j q else unV z i j (q - 9)
theorem toA_V {to so un : Nat → Int64} {z : Nat → Int} {i j q : Nat} (hq : q < 18) : toA to (soA so z i j 9) (unA un z i j 9) 9 q = toV z i j q := by
  unfold toA toV
  split
  · exact soA_at (by omega)
  · rw [if_pos (by omega)]
    exact unA_at (by omega)
set_option maxRecDepth 20000 in
theorem in_X4_prove_X4 : ∀ w ∈ u_ws RX4 TX4 15, w ∈ wsX4_prove := by decide +kernel
set_option maxRecDepth 20000 in
theorem lk_X4_prove_135 : Cond.fieldLink RX4 135 (TX4 14).1 (TX4 14).2.1 (TX4 14).2.2.1 ∈ wsX4_prove := by decide +kernel
set_option maxRecDepth 20000 in
theorem lk_X4_prove_47 : Cond.fieldLink RX4 47 (TX4 13).1 (TX4 13).2.1 (TX4 13).2.2.1 ∈ wsX4_prove := by decide +kernel
set_option maxRecDepth 20000 in
theorem lk_X4_prove_41 : Cond.fieldLink RX4 41 (TX4 11).1 (TX4 11).2.1 (TX4 11).2.2.1 ∈ wsX4_prove := by decide +kernel
set_option maxRecDepth 20000 in
theorem lk_X4_prove_44 : Cond.fieldLink RX4 44 (TX4 12).1 (TX4 12).2.1 (TX4 12).2.2.1 ∈ wsX4_prove := by decide +kernel
set_option maxHeartbeats 4000000 in
set_option maxRecDepth 100000 in
theorem c_X4_prove (D : va_G) (k : Nat → ClassId) (t : Nat → Nat) (l : Launch) {bd : Nat → Nat} {st wt sm nu po sh up lo : Nat → Int32} {li : Int32} {ro so un to : Nat → Int64} {it : Int32} {zz : Nat → Nat → Nat → Nat → Int} (hQz : ∀ j i0 j0, j < 10 → i0 < j0 → j0 < 9 → (∀ ro : Nat → Int64, ∀ q, q < 56 → fs nu j ro i0 j0 7 q = zF (zz j i0 j0) q) ∧ GB (zz j i0 j0) ∧ (∀ zf, sl (zz j i0 j0) 7 = some zf → ∀ q, q < 7 → zf (8 * q + q) ≠ 0)) (x1 : Int32) : Ci D k t l yX4_prove wsX4_prove ({ frames := 4, cells := 0, slots := 0, locals := 140 }) [.ref (bd 0), .int x1] (MWw bd k st wt sm nu po sh up lo li ro so un to it) (fun r w => (∃ ja, (ja < 10 ∧ x1 = nI ja) ∧ ((∃ ia jb zg, ia < jb ∧ jb < 9 ∧ (∀ a b, a < b → b < 9 → (a < ia ∨ a = ia ∧ b < jb) → ¬ OKP (zz ja a b) a b) ∧ sl (zz ja ia jb) 7 = some zg ∧ NN (soV zg ia jb) 9 ∧ r = nI 1 ∧ ∃ ro3 so3 un3 : Nat → Int64, w = MWw bd k st wt sm nu po sh up lo li ro3 so3 un3 (toV zg ia jb) (nI 1)) ∨ ((∀ a b, a < b → b < 9 → ¬ OKP (zz ja a b) a b) ∧ r = nI 0 ∧ ∃ ro3 so3 un3 : Nat → Int64, w = MWw bd k st wt sm nu po sh up lo li ro3 so3 un3 to it))) ∨ ((∀ ja, ¬ (ja < 10 ∧ x1 = nI ja)) ∧ r = nI 0 ∧ w = MWw bd k st wt sm nu po sh up lo li ro so un to it)) 0 0 := by
  refine fw_of (cc := cX4_prove) (maxL := 6) (ret := (some .boolean)) (Qc := fun A => va_Qi (fun r w => (∃ ja, (ja < 10 ∧ x1 = nI ja) ∧ ((∃ ia jb zg, ia < jb ∧ jb < 9 ∧ (∀ a b, a < b → b < 9 → (a < ia ∨ a = ia ∧ b < jb) → ¬ OKP (zz ja a b) a b) ∧ sl (zz ja ia jb) 7 = some zg ∧ NN (soV zg ia jb) 9 ∧ r = nI 1 ∧ ∃ ro3 so3 un3 : Nat → Int64, w = MWw bd k st wt sm nu po sh up lo li ro3 so3 un3 (toV zg ia jb) (nI 1)) ∨ ((∀ a b, a < b → b < 9 → ¬ OKP (zz ja a b) a b) ∧ r = nI 0 ∧ ∃ ro3 so3 un3 : Nat → Int64, w = MWw bd k st wt sm nu po sh up lo li ro3 so3 un3 to it))) ∨ ((∀ ja, ¬ (ja < 10 ∧ x1 = nI ja)) ∧ r = nI 0 ∧ w = MWw bd k st wt sm nu po sh up lo li ro so un to it)) (BcW D A) A) (by decide) rfl (Nat.le_of_ble_eq_true rfl) ?_
  intro p e s m below meth c A ls C hP hD hl
  have C : Cx RX4 "prove" cX4_prove 6 (some .boolean) wsX4_prove D k t A p s m ([.ref (bd 0), .int x1] : List Value).toArray meth c := C
  have hl : lv_has ls 6 [(0, .ref (bd 0)), (1, .int x1)] := hl
  have hx := C.1
  have hb := C.2.1
  have hown := C.2.2.2.2.1
  have hts := C.2.2.2.2.2.1
  have hK := C.2.2.2.2.2.2.2.2.1
  have hZ := C.2.2.2.2.2.2.2.2.2.1
  have hN := C.2.2.2.2.2.2.2.2.2.2
  have hS : va_S A s.heap s.heap [] := va_S.rf
  refine lv_iload_n hx hb dX4_prove_0 rfl (lv_at hl 1 rfl) ?_
  refine fw_i C hD hS (rn_S (As := [.int x1]) (rest := []) C (c_X4_isLaw D k t l x1 _) (va_cwS 1 hts gX4_prove_X4_isLaw rfl rfl rfl hdX4_isLaw ⟨Nat.le_of_ble_eq_true rfl, Nat.le_of_ble_eq_true rfl⟩) hP hD hS rfl hl.1 rfl (Nat.le_of_ble_eq_true rfl) dX4_prove_1 ⟨Nat.zero_le _, Nat.zero_le _⟩) (fun r1 wr1 H locs h2 hP hD hS => ?_)
  obtain ⟨rfl, rfl⟩ := h2
  refine lv_if_ne (tgt := 9) hx hb dX4_prove_4 (by decide) (fun c3 => ?_) (fun c3 => ?_)
  · have c3 := pb_nz c3
    obtain ⟨j, h0j, hj, rfl⟩ := id c3
    refine lv_iconst (v := nI 0) hx hb dX4_prove_9 (by decide) ?_
    refine lv_istore_n (lv' := [(2, .int (nI 0)), (0, .ref (bd 0)), (1, .int (nI j))]) hx hb dX4_prove_10 rfl hl (by decide) rfl (fun ls hl => ?_)
    have L4 : ∀ (r i0 : Nat), i0 + r = 9 → ∀ (ro1 so1 un1 : Nat → Int64), (∀ a b, a < i0 → a < b → b < 9 → ¬ OKP (zz j a b) a b) → ∀ (H : Heap) (locs : List Loc) (ls : Array Slot), va_P D vwCl (MWw bd k st wt sm nu po sh up lo li ro1 so1 un1 to it) H → va_D A (MWw bd k st wt sm nu po sh up lo li ro1 so1 un1 to it) → va_S A s.heap H locs → lv_has ls 6 [(0, .ref (bd 0)), (1, .int (nI j)), (2, .int (nI i0))] → W p l e ({ frames := 4, cells := 0, slots := 0, locals := 140 }) s m ([.ref (bd 0), .int (nI j)] : List Value).toArray below meth c H locs 0 0 (MQ below (va_Qi (fun r w => (∃ ja, (ja < 10 ∧ (nI j) = nI ja) ∧ ((∃ ia jb zg, ia < jb ∧ jb < 9 ∧ (∀ a b, a < b → b < 9 → (a < ia ∨ a = ia ∧ b < jb) → ¬ OKP (zz ja a b) a b) ∧ sl (zz ja ia jb) 7 = some zg ∧ NN (soV zg ia jb) 9 ∧ r = nI 1 ∧ ∃ ro3 so3 un3 : Nat → Int64, w = MWw bd k st wt sm nu po sh up lo li ro3 so3 un3 (toV zg ia jb) (nI 1)) ∨ ((∀ a b, a < b → b < 9 → ¬ OKP (zz ja a b) a b) ∧ r = nI 0 ∧ ∃ ro3 so3 un3 : Nat → Int64, w = MWw bd k st wt sm nu po sh up lo li ro3 so3 un3 to it))) ∨ ((∀ ja, ¬ (ja < 10 ∧ (nI j) = nI ja)) ∧ r = nI 0 ∧ w = MWw bd k st wt sm nu po sh up lo li ro so un to it)) (BcW D A) A) ([.ref (bd 0), .int (nI j)] : List Value).toArray s 0 0 A) (F0 m 11 ls []) := by
      intro r
      induction r with
      | zero =>
        intro i0 hr ro1 so1 un1 hia H locs ls hP hD hS hl
        obtain rfl : 9 = i0 := by omega
        refine lv_iload_n hx hb dX4_prove_11 rfl (lv_at hl 2 rfl) ?_
        refine lv_bipush (v := nI 9) hx hb dX4_prove_12 (by decide) ?_
        refine lv_icmp_ge (tgt := 157) hx hb dX4_prove_14 (by decide) (fun c5 => ?_) (fun c5 => absurd (nI_le (by omega) (by decide)) c5)
        refine lv_iconst (v := nI 0) hx hb dX4_prove_157 (by decide) ?_
        exact Rz C hP hD hS (Nat.zero_le _) (Nat.zero_le _) rfl dX4_prove_158 (Or.inl ⟨j, ⟨hj, rfl⟩, Or.inr ⟨fun a b h1 h2 => hia a b (by omega) h1 h2, rfl, _, _, _, rfl⟩⟩)
      | succ r ihL4 =>
        intro i0 hr ro1 so1 un1 hia H locs ls hP hD hS hl
        refine lv_iload_n hx hb dX4_prove_11 rfl (lv_at hl 2 rfl) ?_
        refine lv_bipush (v := nI 9) hx hb dX4_prove_12 (by decide) ?_
        refine lv_icmp_ge (tgt := 157) hx hb dX4_prove_14 (by decide) (fun c6 => absurd c6 (nI_ge (by omega) (by decide))) (fun c6 => ?_)
        refine lv_iload_n hx hb dX4_prove_17 rfl (lv_at hl 2 rfl) ?_
        refine lv_iconst (v := nI 1) hx hb dX4_prove_18 (by decide) ?_
        refine lv_iadd hx hb dX4_prove_19 ?_
        refine tp_i (y := nI (i0 + 1)) (nI_add _ _) ?_
        refine lv_istore_n (lv' := [(3, .int (nI (i0 + 1))), (0, .ref (bd 0)), (1, .int (nI j)), (2, .int (nI i0))]) hx hb dX4_prove_20 rfl hl (by decide) rfl (fun ls hl => ?_)
        have L7 : ∀ (r j0 : Nat), j0 + r = 9 → ∀ (ro1 so1 un1 : Nat → Int64), i0 < j0 → (∀ b, i0 < b → b < j0 → ¬ OKP (zz j i0 b) i0 b) → ∀ (H : Heap) (locs : List Loc) (ls : Array Slot), va_P D vwCl (MWw bd k st wt sm nu po sh up lo li ro1 so1 un1 to it) H → va_D A (MWw bd k st wt sm nu po sh up lo li ro1 so1 un1 to it) → va_S A s.heap H locs → lv_has ls 6 [(0, .ref (bd 0)), (1, .int (nI j)), (2, .int (nI i0)), (3, .int (nI j0))] → W p l e ({ frames := 4, cells := 0, slots := 0, locals := 140 }) s m ([.ref (bd 0), .int (nI j)] : List Value).toArray below meth c H locs 0 0 (MQ below (va_Qi (fun r w => (∃ ja, (ja < 10 ∧ (nI j) = nI ja) ∧ ((∃ ia jb zg, ia < jb ∧ jb < 9 ∧ (∀ a b, a < b → b < 9 → (a < ia ∨ a = ia ∧ b < jb) → ¬ OKP (zz ja a b) a b) ∧ sl (zz ja ia jb) 7 = some zg ∧ NN (soV zg ia jb) 9 ∧ r = nI 1 ∧ ∃ ro3 so3 un3 : Nat → Int64, w = MWw bd k st wt sm nu po sh up lo li ro3 so3 un3 (toV zg ia jb) (nI 1)) ∨ ((∀ a b, a < b → b < 9 → ¬ OKP (zz ja a b) a b) ∧ r = nI 0 ∧ ∃ ro3 so3 un3 : Nat → Int64, w = MWw bd k st wt sm nu po sh up lo li ro3 so3 un3 to it))) ∨ ((∀ ja, ¬ (ja < 10 ∧ (nI j) = nI ja)) ∧ r = nI 0 ∧ w = MWw bd k st wt sm nu po sh up lo li ro so un to it)) (BcW D A) A) ([.ref (bd 0), .int (nI j)] : List Value).toArray s 0 0 A) (F0 m 21 ls []) := by
          intro r
          induction r with
          | zero =>
            intro j0 hr ro1 so1 un1 hij hib H locs ls hP hD hS hl
            obtain rfl : 9 = j0 := by omega
            refine lv_iload_n hx hb dX4_prove_21 rfl (lv_at hl 3 rfl) ?_
            refine lv_bipush (v := nI 9) hx hb dX4_prove_22 (by decide) ?_
            refine lv_icmp_ge (tgt := 151) hx hb dX4_prove_24 (by decide) (fun c8 => ?_) (fun c8 => absurd (nI_le (by omega) (by decide)) c8)
            refine lv_iinc (v := nI (i0 + 1)) (lv' := [(2, .int (nI (i0 + 1))), (0, .ref (bd 0)), (1, .int (nI j)), (3, .int (nI 9))]) hx hb dX4_prove_151 hl (k := 2) rfl (by rw [← nI_add i0 1]; rfl) (by decide) rfl (fun ls hl => ?_)
            refine lv_goto (tgt := 11) hx hb dX4_prove_154 (by decide) ?_
            exact ihL4 (i0 + 1) (by omega) _ _ _ (fun a b h1 h2 h3 => if e : a = i0 then by subst e; exact hib b h2 h3 else hia a b (by omega) h2 h3) _ _ _ hP hD hS (lv_sub hl [1, 2, 0] rfl)
          | succ r ihL7 =>
            intro j0 hr ro1 so1 un1 hij hib H locs ls hP hD hS hl
            refine lv_iload_n hx hb dX4_prove_21 rfl (lv_at hl 3 rfl) ?_
            refine lv_bipush (v := nI 9) hx hb dX4_prove_22 (by decide) ?_
            refine lv_icmp_ge (tgt := 151) hx hb dX4_prove_24 (by decide) (fun c9 => absurd c9 (nI_ge (by omega) (by decide))) (fun c9 => ?_)
            refine lv_aload_n hx hb dX4_prove_27 rfl (lv_at hl 0 rfl) ?_
            refine lv_iload_n hx hb dX4_prove_28 rfl (lv_at hl 1 rfl) ?_
            refine lv_iload_n hx hb dX4_prove_29 rfl (lv_at hl 2 rfl) ?_
            refine lv_iload_n hx hb dX4_prove_30 rfl (lv_at hl 3 rfl) ?_
            refine fw_i C hD hS (rn_V (As := [.int (nI j), .int (nI i0), .int (nI j0)]) (rest := []) C (c_X4_solve D k t l (z0 := zz j i0 j0) (j := j) (i0 := i0) (j0 := j0) hj (by omega) (by omega) ((hQz j i0 j0 hj (by omega) (by omega)).1 ro1) (hQz j i0 j0 hj (by omega) (by omega)).2.1 (hQz j i0 j0 hj (by omega) (by omega)).2.2 _) (cwV 3 hts gX4_prove_X4_solve rfl rfl rfl hdX4_solveC ⟨Nat.le_of_ble_eq_true rfl, Nat.le_of_ble_eq_true rfl⟩) 0 4 rfl mw_o rfl hP hD hS rfl hl.1 rfl (Nat.le_of_ble_eq_true rfl) dX4_prove_31 ⟨Nat.zero_le _, Nat.zero_le _⟩) (fun r10 wr10 H locs h11 hP hD hS => ?_)
            rcases h11 with ⟨zf, hzf, rfl, rfl⟩ | ⟨hno, rfl, ro2, rfl⟩
            · refine lv_if_ne (tgt := 40) hx hb dX4_prove_34 (by decide) (fun c12 => ?_) (fun c12 => absurd c12 (by decide))
              refine lv_iconst (v := nI 1) hx hb dX4_prove_40 (by decide) ?_
              refine tp_i (y := pb (NN (soA so1 zf i0 j0 9) 0)) ((pb_t (fun q h => absurd h (Nat.not_lt_zero _))).symm) ?_
              refine lv_istore (lv' := [(4, .int (pb (NN (soA so1 zf i0 j0 9) 0))), (0, .ref (bd 0)), (1, .int (nI j)), (2, .int (nI i0)), (3, .int (nI j0))]) hx hb dX4_prove_41 hl (by decide) rfl (fun ls hl => ?_)
              refine lv_iconst (v := nI 0) hx hb dX4_prove_43 (by decide) ?_
              refine lv_istore (lv' := [(5, .int (nI 0)), (4, .int (pb (NN (soA so1 zf i0 j0 9) 0))), (0, .ref (bd 0)), (1, .int (nI j)), (2, .int (nI i0)), (3, .int (nI j0))]) hx hb dX4_prove_44 hl (by decide) rfl (fun ls hl => ?_)
              have L13 : ∀ (r q4 : Nat), q4 + r = 9 → ∀ (H : Heap) (locs : List Loc) (ls : Array Slot), va_P D vwCl (MWw bd k st wt sm nu po sh up lo li (zF zf) (soA so1 zf i0 j0 9) (unA un1 zf i0 j0 9) to it) H → va_D A (MWw bd k st wt sm nu po sh up lo li (zF zf) (soA so1 zf i0 j0 9) (unA un1 zf i0 j0 9) to it) → va_S A s.heap H locs → lv_has ls 6 [(0, .ref (bd 0)), (1, .int (nI j)), (2, .int (nI i0)), (3, .int (nI j0)), (4, .int (pb (NN (soA so1 zf i0 j0 9) q4))), (5, .int (nI q4))] → W p l e ({ frames := 4, cells := 0, slots := 0, locals := 140 }) s m ([.ref (bd 0), .int (nI j)] : List Value).toArray below meth c H locs 0 0 (MQ below (va_Qi (fun r w => (∃ ja, (ja < 10 ∧ (nI j) = nI ja) ∧ ((∃ ia jb zg, ia < jb ∧ jb < 9 ∧ (∀ a b, a < b → b < 9 → (a < ia ∨ a = ia ∧ b < jb) → ¬ OKP (zz ja a b) a b) ∧ sl (zz ja ia jb) 7 = some zg ∧ NN (soV zg ia jb) 9 ∧ r = nI 1 ∧ ∃ ro3 so3 un3 : Nat → Int64, w = MWw bd k st wt sm nu po sh up lo li ro3 so3 un3 (toV zg ia jb) (nI 1)) ∨ ((∀ a b, a < b → b < 9 → ¬ OKP (zz ja a b) a b) ∧ r = nI 0 ∧ ∃ ro3 so3 un3 : Nat → Int64, w = MWw bd k st wt sm nu po sh up lo li ro3 so3 un3 to it))) ∨ ((∀ ja, ¬ (ja < 10 ∧ (nI j) = nI ja)) ∧ r = nI 0 ∧ w = MWw bd k st wt sm nu po sh up lo li ro so un to it)) (BcW D A) A) ([.ref (bd 0), .int (nI j)] : List Value).toArray s 0 0 A) (F0 m 46 ls []) := by
                intro r
                induction r with
                | zero =>
                  intro q4 hr H locs ls hP hD hS hl
                  obtain rfl : 9 = q4 := by omega
                  refine lv_iload hx hb dX4_prove_46 (lv_at hl 5 rfl) ?_
                  refine lv_bipush (v := nI 9) hx hb dX4_prove_48 (by decide) ?_
                  refine lv_icmp_ge (tgt := 83) hx hb dX4_prove_50 (by decide) (fun c14 => ?_) (fun c14 => absurd (nI_le (by omega) (by decide)) c14)
                  refine lv_iload hx hb dX4_prove_83 (lv_at hl 4 rfl) ?_
                  refine lv_if_ne (tgt := 91) hx hb dX4_prove_85 (by decide) (fun c15 => ?_) (fun c15 => ?_)
                  · have c15 := pb_nz c15
                    refine lv_iconst (v := nI 0) hx hb dX4_prove_91 (by decide) ?_
                    refine lv_istore (lv' := [(5, .int (nI 0)), (0, .ref (bd 0)), (1, .int (nI j)), (2, .int (nI i0)), (3, .int (nI j0)), (4, .int (pb (NN (soA so1 zf i0 j0 9) 9)))]) hx hb dX4_prove_92 hl (by decide) rfl (fun ls hl => ?_)
                    have L16 : ∀ (r q5 : Nat), q5 + r = 9 → ∀ (H : Heap) (locs : List Loc) (ls : Array Slot), va_P D vwCl (MWw bd k st wt sm nu po sh up lo li (zF zf) (soA so1 zf i0 j0 9) (unA un1 zf i0 j0 9) (toA to (soA so1 zf i0 j0 9) (unA un1 zf i0 j0 9) q5) it) H → va_D A (MWw bd k st wt sm nu po sh up lo li (zF zf) (soA so1 zf i0 j0 9) (unA un1 zf i0 j0 9) (toA to (soA so1 zf i0 j0 9) (unA un1 zf i0 j0 9) q5) it) → va_S A s.heap H locs → lv_has ls 6 [(0, .ref (bd 0)), (5, .int (nI q5))] → W p l e ({ frames := 4, cells := 0, slots := 0, locals := 140 }) s m ([.ref (bd 0), .int (nI j)] : List Value).toArray below meth c H locs 0 0 (MQ below (va_Qi (fun r w => (∃ ja, (ja < 10 ∧ (nI j) = nI ja) ∧ ((∃ ia jb zg, ia < jb ∧ jb < 9 ∧ (∀ a b, a < b → b < 9 → (a < ia ∨ a = ia ∧ b < jb) → ¬ OKP (zz ja a b) a b) ∧ sl (zz ja ia jb) 7 = some zg ∧ NN (soV zg ia jb) 9 ∧ r = nI 1 ∧ ∃ ro3 so3 un3 : Nat → Int64, w = MWw bd k st wt sm nu po sh up lo li ro3 so3 un3 (toV zg ia jb) (nI 1)) ∨ ((∀ a b, a < b → b < 9 → ¬ OKP (zz ja a b) a b) ∧ r = nI 0 ∧ ∃ ro3 so3 un3 : Nat → Int64, w = MWw bd k st wt sm nu po sh up lo li ro3 so3 un3 to it))) ∨ ((∀ ja, ¬ (ja < 10 ∧ (nI j) = nI ja)) ∧ r = nI 0 ∧ w = MWw bd k st wt sm nu po sh up lo li ro so un to it)) (BcW D A) A) ([.ref (bd 0), .int (nI j)] : List Value).toArray s 0 0 A) (F0 m 94 ls []) := by
                      intro r
                      induction r with
                      | zero =>
                        intro q5 hr H locs ls hP hD hS hl
                        obtain rfl : 9 = q5 := by omega
                        refine lv_iload hx hb dX4_prove_94 (lv_at hl 1 rfl) ?_
                        refine lv_bipush (v := nI 9) hx hb dX4_prove_96 (by decide) ?_
                        refine lv_icmp_ge (tgt := 138) hx hb dX4_prove_98 (by decide) (fun c17 => ?_) (fun c17 => absurd (nI_le (by omega) (by decide)) c17)
                        obtain ⟨hP, hD⟩ := cg_j hP hD mw_to (g := toV zf i0 j0) (fun q hq => toA_V hq) (mw_to_st _)
                        refine lv_aload_n hx hb dX4_prove_138 rfl (lv_at hl 0 rfl) ?_
                        refine lv_iconst (v := nI 1) hx hb dX4_prove_139 (by decide) ?_
                        refine fp C hP hD hS tyX4_ok nmX4 0 mw_o (ci := 4) rfl 14 (by decide) in_X4_prove_X4 lk_X4_prove_135 rfl (ty := .boolean) (v := .int (nI 1)) (by decide +kernel) rfl rfl (Nat.le_of_ble_eq_true rfl) (mw_it_st _) dX4_prove_140 (fun H locs hP hD hS => ?_)
                        refine lv_iconst (v := nI 1) hx hb dX4_prove_143 (by decide) ?_
                        exact Rz C hP hD hS (Nat.zero_le _) (Nat.zero_le _) rfl dX4_prove_144 (Or.inl ⟨j, ⟨hj, rfl⟩, Or.inl ⟨i0, j0, zf, by omega, by omega, fun a b h1 h2 h3 => h3.elim (fun h => hia a b h h1 h2) (fun h => by obtain ⟨rfl, h⟩ := h; exact hib b h1 h), hzf, fun q hq => by have z := c15 q hq; rw [soA_at hq] at z; exact z, rfl, _, _, _, rfl⟩⟩)
                      | succ r ihL16 =>
                        intro q5 hr H locs ls hP hD hS hl
                        refine lv_iload hx hb dX4_prove_94 (lv_at hl 1 rfl) ?_
                        refine lv_bipush (v := nI 9) hx hb dX4_prove_96 (by decide) ?_
                        refine lv_icmp_ge (tgt := 138) hx hb dX4_prove_98 (by decide) (fun c18 => absurd c18 (nI_ge (by omega) (by decide))) (fun c18 => ?_)
                        refine lv_aload_n hx hb dX4_prove_101 rfl (lv_at hl 0 rfl) ?_
                        refine fg C hP 0 mw_o (ci := 4) rfl 13 (by decide) in_X4_prove_X4 lk_X4_prove_47 (v := .ref (bd 13)) rfl dX4_prove_102 ?_
                        refine lv_iload hx hb dX4_prove_105 (lv_at hl 1 rfl) ?_
                        refine lv_aload_n hx hb dX4_prove_107 rfl (lv_at hl 0 rfl) ?_
                        refine fg C hP 0 mw_o (ci := 4) rfl 11 (by decide) in_X4_prove_X4 lk_X4_prove_41 (v := .ref (bd 11)) rfl dX4_prove_108 ?_
                        refine lv_iload hx hb dX4_prove_111 (lv_at hl 1 rfl) ?_
                        refine ar_j C hP 11 mw_so (j := q5) (by omega) (by decide) dX4_prove_113 ?_
                        refine as_j C hP hD hS 13 mw_to (j := q5) (by omega) (by decide) (mw_to_st _) dX4_prove_114 (fun H locs hP hD hS => ?_)
                        refine lv_aload_n hx hb dX4_prove_115 rfl (lv_at hl 0 rfl) ?_
                        refine fg C hP 0 mw_o (ci := 4) rfl 13 (by decide) in_X4_prove_X4 lk_X4_prove_47 (v := .ref (bd 13)) rfl dX4_prove_116 ?_
                        refine lv_bipush (v := nI 9) hx hb dX4_prove_119 (by decide) ?_
                        refine lv_iload hx hb dX4_prove_121 (lv_at hl 1 rfl) ?_
                        refine lv_iadd hx hb dX4_prove_123 ?_
                        refine tp_i (y := nI (9 + q5)) (nI_add _ _) ?_
                        refine lv_aload_n hx hb dX4_prove_124 rfl (lv_at hl 0 rfl) ?_
                        refine fg C hP 0 mw_o (ci := 4) rfl 12 (by decide) in_X4_prove_X4 lk_X4_prove_44 (v := .ref (bd 12)) rfl dX4_prove_125 ?_
                        refine lv_iload hx hb dX4_prove_128 (lv_at hl 1 rfl) ?_
                        refine ar_j C hP 12 mw_un (j := q5) (by omega) (by decide) dX4_prove_130 ?_
                        refine as_j C hP hD hS 13 mw_to (j := (9 + q5)) (by omega) (by decide) (mw_to_st _) dX4_prove_131 (fun H locs hP hD hS => ?_)
                        refine lv_iinc (v := nI (q5 + 1)) (lv' := [(5, .int (nI (q5 + 1))), (0, .ref (bd 0))]) hx hb dX4_prove_132 hl (k := 1) rfl (by rw [← nI_add q5 1]; rfl) (by decide) rfl (fun ls hl => ?_)
                        refine lv_goto (tgt := 94) hx hb dX4_prove_135 (by decide) ?_
                        rw [toA_s (show q5 < 9 by omega)] at hP hD
                        exact ihL16 (q5 + 1) (by omega) _ _ _ hP hD hS (lv_sub hl [1, 0] rfl)
                    rw [← toA_0 to (soA so1 zf i0 j0 9) (unA un1 zf i0 j0 9)] at hP hD
                    exact L16 (9 - 0) 0 (by omega) _ _ _ hP hD hS (lv_sub hl [1, 0] rfl)
                  · have c15 := pb_z c15
                    refine lv_goto (tgt := 145) hx hb dX4_prove_88 (by decide) ?_
                    refine lv_iinc (v := nI (j0 + 1)) (lv' := [(3, .int (nI (j0 + 1))), (0, .ref (bd 0)), (1, .int (nI j)), (2, .int (nI i0)), (4, .int (pb (NN (soA so1 zf i0 j0 9) 9))), (5, .int (nI 9))]) hx hb dX4_prove_145 hl (k := 3) rfl (by rw [← nI_add j0 1]; rfl) (by decide) rfl (fun ls hl => ?_)
                    refine lv_goto (tgt := 21) hx hb dX4_prove_148 (by decide) ?_
                    exact ihL7 (j0 + 1) (by omega) _ _ _ (by omega) (fun b h1 h2 => if e : b = j0 then by rw [e]; exact okp_nn hzf c15 else hib b h1 (by omega)) _ _ _ hP hD hS (lv_sub hl [1, 2, 3, 0] rfl)
                | succ r ihL13 =>
                  intro q4 hr H locs ls hP hD hS hl
                  refine lv_iload hx hb dX4_prove_46 (lv_at hl 5 rfl) ?_
                  refine lv_bipush (v := nI 9) hx hb dX4_prove_48 (by decide) ?_
                  refine lv_icmp_ge (tgt := 83) hx hb dX4_prove_50 (by decide) (fun c19 => absurd c19 (nI_ge (by omega) (by decide))) (fun c19 => ?_)
                  refine lv_iload hx hb dX4_prove_53 (lv_at hl 4 rfl) ?_
                  have J21 : ∀ (ls : Array Slot), lv_has ls 6 [(0, .ref (bd 0)), (1, .int (nI j)), (2, .int (nI i0)), (3, .int (nI j0)), (4, .int (pb (NN (soA so1 zf i0 j0 9) q4))), (5, .int (nI q4))] → W p l e ({ frames := 4, cells := 0, slots := 0, locals := 140 }) s m ([.ref (bd 0), .int (nI j)] : List Value).toArray below meth c H locs 0 0 (MQ below (va_Qi (fun r w => (∃ ja, (ja < 10 ∧ (nI j) = nI ja) ∧ ((∃ ia jb zg, ia < jb ∧ jb < 9 ∧ (∀ a b, a < b → b < 9 → (a < ia ∨ a = ia ∧ b < jb) → ¬ OKP (zz ja a b) a b) ∧ sl (zz ja ia jb) 7 = some zg ∧ NN (soV zg ia jb) 9 ∧ r = nI 1 ∧ ∃ ro3 so3 un3 : Nat → Int64, w = MWw bd k st wt sm nu po sh up lo li ro3 so3 un3 (toV zg ia jb) (nI 1)) ∨ ((∀ a b, a < b → b < 9 → ¬ OKP (zz ja a b) a b) ∧ r = nI 0 ∧ ∃ ro3 so3 un3 : Nat → Int64, w = MWw bd k st wt sm nu po sh up lo li ro3 so3 un3 to it))) ∨ ((∀ ja, ¬ (ja < 10 ∧ (nI j) = nI ja)) ∧ r = nI 0 ∧ w = MWw bd k st wt sm nu po sh up lo li ro so un to it)) (BcW D A) A) ([.ref (bd 0), .int (nI j)] : List Value).toArray s 0 0 A) (F0 m 75 ls [.int (pb (NN (soA so1 zf i0 j0 9) (q4 + 1)))]) := by
                    intro ls hl
                    refine lv_istore (lv' := [(4, .int (pb (NN (soA so1 zf i0 j0 9) (q4 + 1)))), (0, .ref (bd 0)), (1, .int (nI j)), (2, .int (nI i0)), (3, .int (nI j0)), (5, .int (nI q4))]) hx hb dX4_prove_75 hl (by decide) rfl (fun ls hl => ?_)
                    refine lv_iinc (v := nI (q4 + 1)) (lv' := [(5, .int (nI (q4 + 1))), (4, .int (pb (NN (soA so1 zf i0 j0 9) (q4 + 1)))), (0, .ref (bd 0)), (1, .int (nI j)), (2, .int (nI i0)), (3, .int (nI j0))]) hx hb dX4_prove_77 hl (k := 5) rfl (by rw [← nI_add q4 1]; rfl) (by decide) rfl (fun ls hl => ?_)
                    refine lv_goto (tgt := 46) hx hb dX4_prove_80 (by decide) ?_
                    exact ihL13 (q4 + 1) (by omega) _ _ _ hP hD hS (lv_sub hl [2, 3, 4, 5, 1, 0] rfl)
                  refine lv_if_eq (tgt := 74) hx hb dX4_prove_55 (by decide) (fun c20 => ?_) (fun c20 => ?_)
                  · have c20 := pb_z c20
                    refine lv_iconst (v := nI 0) hx hb dX4_prove_74 (by decide) ?_
                    refine tp_i (y := pb (NN (soA so1 zf i0 j0 9) (q4 + 1))) ((pb_f (fun h => c20 (fun q hq => h q (by omega)))).symm) ?_
                    exact J21 ls (lv_sub hl [0, 1, 2, 3, 4, 5] rfl)
                  · have c20 := pb_nz c20
                    refine lv_aload_n hx hb dX4_prove_58 rfl (lv_at hl 0 rfl) ?_
                    refine fg C hP 0 mw_o (ci := 4) rfl 11 (by decide) in_X4_prove_X4 lk_X4_prove_41 (v := .ref (bd 11)) rfl dX4_prove_59 ?_
                    refine lv_iload hx hb dX4_prove_62 (lv_at hl 5 rfl) ?_
                    refine ar_j C hP 11 mw_so (j := q4) (by omega) (by decide) dX4_prove_64 ?_
                    refine lv_lconst (v := 0) hx hb dX4_prove_65 (by decide) ?_
                    refine W.lcmp hx hb dX4_prove_66 ?_
                    refine lv_if_lt (tgt := 74) hx hb dX4_prove_67 (by decide) (fun c22 => ?_) (fun c22 => ?_)
                    · refine lv_iconst (v := nI 0) hx hb dX4_prove_74 (by decide) ?_
                      refine tp_i (y := pb (NN (soA so1 zf i0 j0 9) (q4 + 1))) ((pb_f (fun h => h q4 (by omega) c22)).symm) ?_
                      exact J21 ls (lv_sub hl [0, 1, 2, 3, 4, 5] rfl)
                    · refine lv_iconst (v := nI 1) hx hb dX4_prove_70 (by decide) ?_
                      refine lv_goto (tgt := 75) hx hb dX4_prove_71 (by decide) ?_
                      refine tp_i (y := pb (NN (soA so1 zf i0 j0 9) (q4 + 1))) ((pb_t (lt_s c20 c22)).symm) ?_
                      exact J21 ls (lv_sub hl [0, 1, 2, 3, 4, 5] rfl)
              exact L13 (9 - 0) 0 (by omega) _ _ _ hP hD hS (lv_sub hl [2, 3, 4, 5, 1, 0] rfl)
            · refine lv_if_ne (tgt := 40) hx hb dX4_prove_34 (by decide) (fun c23 => absurd (by decide) c23) (fun c23 => ?_)
              refine lv_goto (tgt := 145) hx hb dX4_prove_37 (by decide) ?_
              refine lv_iinc (v := nI (j0 + 1)) (lv' := [(3, .int (nI (j0 + 1))), (0, .ref (bd 0)), (1, .int (nI j)), (2, .int (nI i0))]) hx hb dX4_prove_145 hl (k := 3) rfl (by rw [← nI_add j0 1]; rfl) (by decide) rfl (fun ls hl => ?_)
              refine lv_goto (tgt := 21) hx hb dX4_prove_148 (by decide) ?_
              exact ihL7 (j0 + 1) (by omega) _ _ _ (by omega) (fun b h1 h2 => if e : b = j0 then by rw [e]; exact okp_no hno else hib b h1 (by omega)) _ _ _ hP hD hS (lv_sub hl [1, 2, 3, 0] rfl)
        exact L7 (9 - (i0 + 1)) (i0 + 1) (by omega) _ _ _ (by omega) (fun b h1 h2 => absurd h1 (by omega)) _ _ _ hP hD hS (lv_sub hl [1, 2, 3, 0] rfl)
    exact L4 (9 - 0) 0 (by omega) _ _ _ (fun a b h => absurd h (Nat.not_lt_zero _)) _ _ _ hP hD hS (lv_sub hl [1, 2, 0] rfl)
  · have c3 := pb_z c3
    refine lv_iconst (v := nI 0) hx hb dX4_prove_7 (by decide) ?_
    exact Rz C hP hD hS (Nat.zero_le _) (Nat.zero_le _) rfl dX4_prove_8 (Or.inr ⟨fun ja q => c3 ⟨ja, Nat.zero_le _, q.1, q.2⟩, rfl, rfl⟩)

