def wvm (f : Nat → Nat) : Nat → Nat
  | 0 => 0
  | n + 1 => wvm f n + f n * 65536 ^ n
def mcm (f : Nat → Nat) (c : Nat) : Nat → Nat
  | 0 => 0
  | i + 1 => (f i * c + mcm f c i) / 65536
def mdm (f : Nat → Nat) (c i : Nat) : Nat := (f i * c + mcm f c i) % 65536
theorem mcm_lt {f : Nat → Nat} {c : Nat} (hc : 0 < c) : ∀ (i : Nat), (∀ j, j < i → f j < 65536) → mcm f c i < c
  | 0, _ => hc
  | i + 1, h => by
    have h1 := mcm_lt hc i (fun j hj => h j (by omega))
    have h2 := h i (by omega)
    rw [mcm, Nat.div_lt_iff_lt_mul (by decide)]
    have h3 : f i * c ≤ 65535 * c := Nat.mul_le_mul_right c (by omega)
    omega
theorem mdm_val (f : Nat → Nat) (c : Nat) : ∀ i, wvm (mdm f c) i + mcm f c i * 65536 ^ i = wvm f i * c
  | 0 => by simp [wvm, mcm]
  | i + 1 => by
    have h := mdm_val f c i
    have e : f i * c + mcm f c i = 65536 * mcm f c (i + 1) + mdm f c i := (Nat.div_add_mod _ _).symm
    have e2 : mcm f c (i + 1) * 65536 ^ (i + 1) = 65536 * mcm f c (i + 1) * 65536 ^ i := by
      rw [Nat.pow_succ, Nat.mul_comm (65536 ^ i), ← Nat.mul_assoc, Nat.mul_comm (mcm f c (i + 1))]
    rw [wvm, wvm, Nat.add_mul, ← h, e2]
    have e3 : (f i * c + mcm f c i) * 65536 ^ i = 65536 * mcm f c (i + 1) * 65536 ^ i + mdm f c i * 65536 ^ i := by rw [e, Nat.add_mul]
    rw [Nat.add_mul] at e3
    have e4 : f i * 65536 ^ i * c = f i * c * 65536 ^ i := by rw [Nat.mul_assoc, Nat.mul_comm (65536 ^ i), ← Nat.mul_assoc]
    omega
theorem wvm_lt {f : Nat → Nat} : ∀ (n : Nat), (∀ j, j < n → f j < 65536) → wvm f n < 65536 ^ n
  | 0, _ => by simp [wvm]
  | n + 1, h => by
    have h1 := wvm_lt n (fun j hj => h j (by omega))
    have h2 := h n (by omega)
    have h3 : f n * 65536 ^ n ≤ 65535 * 65536 ^ n := Nat.mul_le_mul_right _ (by omega)
    rw [wvm, Nat.pow_succ]
    omega
theorem wvm_cg {f g : Nat → Nat} : ∀ (n : Nat), (∀ j, j < n → f j = g j) → wvm f n = wvm g n
  | 0, _ => rfl
  | n + 1, h => by rw [wvm, wvm, wvm_cg n (fun j hj => h j (by omega)), h n (by omega)]
theorem wvm_dig {f g : Nat → Nat} {r : Nat} : ∀ (n : Nat), r < n → (∀ j, j < n → f j < 65536) → f r < g r → (∀ j, r + 1 ≤ j → j < n → f j = g j) → wvm f n < wvm g n
  | 0, h, _, _, _ => absurd h (Nat.not_lt_zero _)
  | n + 1, h, hf, hl, he => by
    rcases Nat.lt_or_ge r n with q | q
    · have h1 := wvm_dig n q (fun j hj => hf j (by omega)) hl (fun j h1 h2 => he j h1 (by omega))
      rw [wvm, wvm, he n (by omega) (by omega)]
      omega
    · obtain rfl : r = n := by omega
      have h1 := wvm_lt r (fun j hj => hf j (by omega))
      have h2 : (f r + 1) * 65536 ^ r ≤ g r * 65536 ^ r := Nat.mul_le_mul_right _ hl
      rw [wvm, wvm]
      rw [Nat.add_mul] at h2
      omega
theorem mk16 {n : Nat} (h : n < 2 ^ 32) : nI n &&& (65535 : Int32) = nI (n % 65536) := pk_andN h 16 rfl
theorem ush16 {n : Nat} (h : n < 2 ^ 32) : ((nI n).toUInt32 >>> ((nI 16).toUInt32 &&& Int32.toUInt32 31)).toInt32 = nI (n / 65536) := pk_ushrN h (nI 16) 16 (by decide)
def mbig : Nat := 65536 ^ 4000
/-- the reference's row holds the number v -/
def RepM (A : Nat → Int32) (len : Int32) (v : Nat) : Prop := ∃ (f : Nat → Nat) (n : Nat), n ≤ 4000 ∧ 0 < n ∧ len = nI n ∧ (∀ j, j < 4000 → A j = nI (f j)) ∧ (∀ j, f j < 65536) ∧ (∀ j, n ≤ j → f j = 0) ∧ wvm f n = v
theorem wvm_up {f : Nat → Nat} {n : Nat} (h : ∀ j, n ≤ j → f j = 0) : ∀ m, wvm f (n + m) = wvm f n
  | 0 => rfl
  | m + 1 => by
    rw [show n + (m + 1) = n + m + 1 by omega, wvm, h (n + m) (by omega), Nat.zero_mul, Nat.add_zero]
    exact wvm_up h m
theorem RepM_of {f : Nat → Nat} {c n v : Nat} {A : Nat → Int32} (hn : n ≤ 4000) (h0 : 0 < n) (hA : ∀ j, j < 4000 → A j = nI (f j)) (hf : ∀ j, f j < 65536) (hz : ∀ j, n ≤ j → f j = 0) (hv : wvm f n = v) (hc : mcm f c n = 0) : RepM (mx (fun j => nI (mdm f c j)) A n) (nI n) (v * c) := by
  refine ⟨fun j => if j < n then mdm f c j else 0, n, hn, h0, rfl, fun j hj => ?_, fun j => ?_, fun j hj => if_neg (by omega), ?_⟩
  · by_cases q : j < n
    · simp [mx, q]
    · simp [mx, q, hA j hj, hz j (by omega)]
  · show (if j < n then mdm f c j else 0) < 65536
    split
    · exact Nat.mod_lt _ (by decide)
    · decide
  · rw [wvm_cg (g := mdm f c) n (fun j hj => if_pos hj)]
    have h := mdm_val f c n
    rw [hc, Nat.zero_mul, Nat.add_zero, hv] at h
    exact h
theorem RepM_up {f : Nat → Nat} {c n v : Nat} {A : Nat → Int32} (hn : n < 4000) (hA : ∀ j, j < 4000 → A j = nI (f j)) (hf : ∀ j, f j < 65536) (hz : ∀ j, n ≤ j → f j = 0) (hc0 : 0 < c) (hc1 : c < 65536) (hv : wvm f n = v) : RepM (upd (mx (fun j => nI (mdm f c j)) A n) n (nI (mcm f c n))) (nI (n + 1)) (v * c) := by
  refine ⟨fun j => if j = n then mcm f c n else if j < n then mdm f c j else 0, n + 1, by omega, by omega, rfl, fun j hj => ?_, fun j => ?_, fun j hj => ?_, ?_⟩
  · by_cases q : j = n
    · subst q; simp [upd]
    · by_cases q2 : j < n
      · simp [upd, mx, q, q2]
      · simp [upd, mx, q, q2, hA j hj, hz j (by omega)]
  · show (if j = n then mcm f c n else if j < n then mdm f c j else 0) < 65536
    split
    · exact Nat.lt_trans (mcm_lt hc0 n (fun j _ => hf j)) hc1
    · split
      · exact Nat.mod_lt _ (by decide)
      · decide
  · show (if j = n then mcm f c n else if j < n then mdm f c j else 0) = 0
    rw [if_neg (by omega), if_neg (by omega)]
  · have h := mdm_val f c n
    rw [wvm]
    rw [wvm_cg (g := mdm f c) n (fun j hj => by rw [if_neg (by omega), if_pos hj])]
    rw [if_pos rfl, h, hv]
theorem carry_m {f : Nat → Nat} {c n v : Nat} (hv : wvm f n = v) (hb : v * c < mbig) (hz : mcm f c n ≠ 0) : n < 4000 := by
  rcases Nat.lt_or_ge n 4000 with q | q
  · exact q
  · have h := mdm_val f c n
    rw [hv] at h
    have h1 : 1 * 65536 ^ n ≤ mcm f c n * 65536 ^ n := Nat.mul_le_mul_right _ (by omega)
    have h2 : 65536 ^ 4000 ≤ 65536 ^ n := Nat.pow_le_pow_right (by decide) q
    have h3 : mbig ≤ v * c := by
      unfold mbig
      rw [← h]
      generalize 65536 ^ 4000 = x at h2 ⊢
      omega
    exact absurd hb (Nat.not_lt.mpr h3)
theorem RepM_one : RepM (upd (fun _ => nI 0) 0 (nI 1)) (nI 1) 1 := ⟨fun j => if j = 0 then 1 else 0, 1, by decide, by decide, rfl, fun j _ => by
  by_cases q : j = 0
  · subst q; simp [upd]
  · simp [upd, q], fun j => by
  show (if j = 0 then 1 else 0) < 65536
  split <;> decide, fun j hj => if_neg (by omega), by decide⟩
set_option maxRecDepth 20000 in
theorem in_X4_times_X4 : ∀ w ∈ u_ws RX4 TX4 15, w ∈ wsX4_times := by decide +kernel
set_option maxRecDepth 20000 in
theorem lk_X4_times_86 : Cond.fieldLink RX4 86 (TX4 9).1 (TX4 9).2.1 (TX4 9).2.2.1 ∈ wsX4_times := by decide +kernel
set_option maxHeartbeats 4000000 in
set_option maxRecDepth 100000 in
theorem c_times_up (D : va_G) (k : Nat → ClassId) (t : Nat → Nat) (l : Launch) {bd : Nat → Nat} {st wt sm nu po sh up lo : Nat → Int32} {li : Int32} {ro so un to : Nat → Int64} {it : Int32} {c0 v : Nat} (hc0 : 0 < c0) (hc1 : c0 < 32768) (hR : RepM up li v) (hb0 : v * c0 < mbig) : Cv D k t l yX4_times wsX4_times ({ frames := 0, cells := 0, slots := 0, locals := 0 }) [.ref (bd 0), .ref (bd 8), .int (nI c0)] (MWw bd k st wt sm nu po sh up lo li ro so un to it) (fun w => ∃ (A2 : Nat → Int32) (l2 : Int32), RepM A2 l2 (v * c0) ∧ w = MWw bd k st wt sm nu po sh A2 lo l2 ro so un to it) 0 0 := by
  refine fw_of (cc := cX4_times) (maxL := 6) (ret := none) (Qc := fun A => va_Qv (fun w => ∃ (A2 : Nat → Int32) (l2 : Int32), RepM A2 l2 (v * c0) ∧ w = MWw bd k st wt sm nu po sh A2 lo l2 ro so un to it) (BcW D A) A) (by decide) rfl (Nat.le_of_ble_eq_true rfl) ?_
  intro p e s m below meth c A ls C hP hD hl
  have C : Cx RX4 "times" cX4_times 6 none wsX4_times D k t A p s m ([.ref (bd 0), .ref (bd 8), .int (nI c0)] : List Value).toArray meth c := C
  have hl : lv_has ls 6 [(0, .ref (bd 0)), (1, .ref (bd 8)), (2, .int (nI c0))] := hl
  have hx := C.1
  have hb := C.2.1
  have hown := C.2.2.2.2.1
  have hts := C.2.2.2.2.2.1
  have hK := C.2.2.2.2.2.2.2.2.1
  have hZ := C.2.2.2.2.2.2.2.2.2.1
  have hN := C.2.2.2.2.2.2.2.2.2.2
  have hS : va_S A s.heap s.heap [] := va_S.rf
  obtain ⟨f, n, hn, hn0, hE, hA0, hf, hz, hv⟩ := hR
  refine lv_iconst (v := nI 0) hx hb dX4_times_0 (by decide) ?_
  refine tp_i (y := nI (mcm f c0 0)) (rfl) ?_
  refine lv_istore_n (lv' := [(3, .int (nI (mcm f c0 0))), (0, .ref (bd 0)), (1, .ref (bd 8)), (2, .int (nI c0))]) hx hb dX4_times_1 rfl hl (by decide) rfl (fun ls hl => ?_)
  refine lv_iconst (v := nI 0) hx hb dX4_times_2 (by decide) ?_
  refine lv_istore (lv' := [(4, .int (nI 0)), (3, .int (nI (mcm f c0 0))), (0, .ref (bd 0)), (1, .ref (bd 8)), (2, .int (nI c0))]) hx hb dX4_times_3 hl (by decide) rfl (fun ls hl => ?_)
  have L1 : ∀ (r i : Nat), i + r = n → ∀ (H : Heap) (locs : List Loc) (ls : Array Slot), va_P D vwCl (MWw bd k st wt sm nu po sh (mx (fun j => nI (mdm f c0 j)) up i) lo li ro so un to it) H → va_D A (MWw bd k st wt sm nu po sh (mx (fun j => nI (mdm f c0 j)) up i) lo li ro so un to it) → va_S A s.heap H locs → lv_has ls 6 [(0, .ref (bd 0)), (1, .ref (bd 8)), (2, .int (nI c0)), (3, .int (nI (mcm f c0 i))), (4, .int (nI i))] → W p l e ({ frames := 0, cells := 0, slots := 0, locals := 0 }) s m ([.ref (bd 0), .ref (bd 8), .int (nI c0)] : List Value).toArray below meth c H locs 0 0 (MQ below (va_Qv (fun w => ∃ (A2 : Nat → Int32) (l2 : Int32), RepM A2 l2 (v * c0) ∧ w = MWw bd k st wt sm nu po sh A2 lo l2 ro so un to it) (BcW D A) A) ([.ref (bd 0), .ref (bd 8), .int (nI c0)] : List Value).toArray s 0 0 A) (F0 m 5 ls []) := by
    intro r
    induction r with
    | zero =>
      intro i hr H locs ls hP hD hS hl
      obtain rfl : n = i := by omega
      refine lv_iload hx hb dX4_times_5 (lv_at hl 4 rfl) ?_
      refine lv_aload_n hx hb dX4_times_7 rfl (lv_at hl 0 rfl) ?_
      refine fg C hP 0 mw_o (ci := 4) rfl 9 (by decide) in_X4_times_X4 lk_X4_times_86 (v := .int li) rfl dX4_times_8 ?_
      refine tp_i (y := nI n) (hE) ?_
      refine lv_icmp_ge (tgt := 45) hx hb dX4_times_11 (by decide) (fun c2 => ?_) (fun c2 => absurd (nI_le (Nat.le_refl _) (by omega)) c2)
      refine lv_iload_n hx hb dX4_times_45 rfl (lv_at hl 3 rfl) ?_
      refine lv_if_ne (tgt := 50) hx hb dX4_times_46 (by decide) (fun c3 => ?_) (fun c3 => ?_)
      · have hlt := carry_m hv hb0 (nI_n0 c3)
        refine lv_aload_n hx hb dX4_times_50 rfl (lv_at hl 1 rfl) ?_
        refine lv_aload_n hx hb dX4_times_51 rfl (lv_at hl 0 rfl) ?_
        refine fg C hP 0 mw_o (ci := 4) rfl 9 (by decide) in_X4_times_X4 lk_X4_times_86 (v := .int li) rfl dX4_times_52 ?_
        refine tp_i (y := nI n) (hE) ?_
        refine lv_iload_n hx hb dX4_times_55 rfl (lv_at hl 3 rfl) ?_
        refine as_i C hP hD hS 8 mw_up (j := n) hlt (by decide) (mw_up_st _) dX4_times_56 (fun H locs hP hD hS => ?_)
        refine lv_aload_n hx hb dX4_times_57 rfl (lv_at hl 0 rfl) ?_
        refine lv_dup hx hb dX4_times_58 rfl ?_
        refine fg C hP 0 mw_o (ci := 4) rfl 9 (by decide) in_X4_times_X4 lk_X4_times_86 (v := .int li) rfl dX4_times_59 ?_
        refine tp_i (y := nI n) (hE) ?_
        refine lv_iconst (v := nI 1) hx hb dX4_times_62 (by decide) ?_
        refine lv_iadd hx hb dX4_times_63 ?_
        refine tp_i (y := nI (n + 1)) (nI_add _ _) ?_
        refine fp C hP hD hS tyX4_ok nmX4 0 mw_o (ci := 4) rfl 9 (by decide) in_X4_times_X4 lk_X4_times_86 rfl (ty := .int) (v := .int (nI (n + 1))) (by decide +kernel) rfl rfl (Nat.le_of_ble_eq_true rfl) (mw_li_st _) dX4_times_64 (fun H locs hP hD hS => ?_)
        exact Rv C hP hD hS (Nat.zero_le _) (Nat.zero_le _) dX4_times_67 (⟨_, _, RepM_up hlt hA0 hf hz hc0 (by omega) hv, rfl⟩)
      · exact Rv C hP hD hS (Nat.zero_le _) (Nat.zero_le _) dX4_times_49 (⟨_, li, by rw [hE]; exact RepM_of hn hn0 hA0 hf hz hv (nI_z0 (by have := mcm_lt hc0 n (fun j _ => hf j); omega) c3), rfl⟩)
    | succ r ihL1 =>
      intro i hr H locs ls hP hD hS hl
      refine lv_iload hx hb dX4_times_5 (lv_at hl 4 rfl) ?_
      refine lv_aload_n hx hb dX4_times_7 rfl (lv_at hl 0 rfl) ?_
      refine fg C hP 0 mw_o (ci := 4) rfl 9 (by decide) in_X4_times_X4 lk_X4_times_86 (v := .int li) rfl dX4_times_8 ?_
      refine tp_i (y := nI n) (hE) ?_
      refine lv_icmp_ge (tgt := 45) hx hb dX4_times_11 (by decide) (fun c4 => absurd c4 (nI_ge (by omega) (by omega))) (fun c4 => ?_)
      refine lv_aload_n hx hb dX4_times_14 rfl (lv_at hl 1 rfl) ?_
      refine lv_iload hx hb dX4_times_15 (lv_at hl 4 rfl) ?_
      refine ar_i C hP 8 mw_up (j := i) (by omega) (by decide) dX4_times_17 ?_
      refine tp_i (y := nI (f i)) ((mx_i _ _ _).trans (hA0 i (by omega))) ?_
      refine lv_iload_n hx hb dX4_times_18 rfl (lv_at hl 2 rfl) ?_
      refine lv_imul hx hb dX4_times_19 ?_
      refine tp_i (y := nI ((f i) * c0)) (pk_mul _ _) ?_
      refine lv_iload_n hx hb dX4_times_20 rfl (lv_at hl 3 rfl) ?_
      refine lv_iadd hx hb dX4_times_21 ?_
      refine tp_i (y := nI (((f i) * c0) + (mcm f c0 i))) (nI_add _ _) ?_
      refine lv_istore (lv' := [(5, .int (nI (((f i) * c0) + (mcm f c0 i)))), (0, .ref (bd 0)), (1, .ref (bd 8)), (2, .int (nI c0)), (3, .int (nI (mcm f c0 i))), (4, .int (nI i))]) hx hb dX4_times_22 hl (by decide) rfl (fun ls hl => ?_)
      refine lv_aload_n hx hb dX4_times_24 rfl (lv_at hl 2 rfl) ?_
      refine lv_iload hx hb dX4_times_25 (lv_at hl 5 rfl) ?_
      refine lv_iload hx hb dX4_times_27 (lv_at hl 0 rfl) ?_
      refine lv_ldc (v := 65535) hx hb hown (hts (.constant RX4 95 (65535)) (by decide +kernel)) dX4_times_29 ?_
      refine lv_iand hx hb dX4_times_31 ?_
      refine tp_i (y := nI (mdm f c0 i)) (mk16 (by have h1 := mcm_lt hc0 i (fun j _ => hf j); have h2 := hf i; have h3 : f i * c0 ≤ 65535 * 32767 := Nat.mul_le_mul (by omega) (by omega); omega)) ?_
      refine as_i C hP hD hS 8 mw_up (j := i) (by omega) (by decide) (mw_up_st _) dX4_times_32 (fun H locs hP hD hS => ?_)
      refine lv_iload hx hb dX4_times_33 (lv_at hl 0 rfl) ?_
      refine lv_bipush (v := nI 16) hx hb dX4_times_35 (by decide) ?_
      refine lv_iushr (v := ((nI (((f i) * c0) + (mcm f c0 i))).toUInt32 >>> ((nI 16).toUInt32 &&& Int32.toUInt32 31)).toInt32) hx hb dX4_times_37 rfl ?_
      refine tp_i (y := nI (mcm f c0 (i + 1))) (ush16 (by have h1 := mcm_lt hc0 i (fun j _ => hf j); have h2 := hf i; have h3 : f i * c0 ≤ 65535 * 32767 := Nat.mul_le_mul (by omega) (by omega); omega)) ?_
      refine lv_istore_n (lv' := [(3, .int (nI (mcm f c0 (i + 1)))), (5, .int (nI (((f i) * c0) + (mcm f c0 i)))), (0, .ref (bd 0)), (1, .ref (bd 8)), (2, .int (nI c0)), (4, .int (nI i))]) hx hb dX4_times_38 rfl hl (by decide) rfl (fun ls hl => ?_)
      refine lv_iinc (v := nI (i + 1)) (lv' := [(4, .int (nI (i + 1))), (3, .int (nI (mcm f c0 (i + 1)))), (5, .int (nI (((f i) * c0) + (mcm f c0 i)))), (0, .ref (bd 0)), (1, .ref (bd 8)), (2, .int (nI c0))]) hx hb dX4_times_39 hl (k := 5) rfl (by rw [← nI_add i 1]; rfl) (by decide) rfl (fun ls hl => ?_)
      refine lv_goto (tgt := 5) hx hb dX4_times_42 (by decide) ?_
      rw [mx_s (fun j => nI (mdm f c0 j))] at hP hD
      exact ihL1 (i + 1) (by omega) _ _ _ hP hD hS (lv_sub hl [3, 4, 5, 1, 0] rfl)
  rw [← mx_z (fun j => nI (mdm f c0 j)) up] at hP hD
  exact L1 (n - 0) 0 (by omega) _ _ _ hP hD hS (lv_sub hl [2, 3, 4, 1, 0] rfl)

set_option maxHeartbeats 4000000 in
set_option maxRecDepth 100000 in
theorem c_times_lo (D : va_G) (k : Nat → ClassId) (t : Nat → Nat) (l : Launch) {bd : Nat → Nat} {st wt sm nu po sh up lo : Nat → Int32} {li : Int32} {ro so un to : Nat → Int64} {it : Int32} {c0 v : Nat} (hc0 : 0 < c0) (hc1 : c0 < 32768) (hR : RepM lo li v) (hb0 : v * c0 < mbig) : Cv D k t l yX4_times wsX4_times ({ frames := 0, cells := 0, slots := 0, locals := 0 }) [.ref (bd 0), .ref (bd 9), .int (nI c0)] (MWw bd k st wt sm nu po sh up lo li ro so un to it) (fun w => ∃ (A2 : Nat → Int32) (l2 : Int32), RepM A2 l2 (v * c0) ∧ w = MWw bd k st wt sm nu po sh up A2 l2 ro so un to it) 0 0 := by
  refine fw_of (cc := cX4_times) (maxL := 6) (ret := none) (Qc := fun A => va_Qv (fun w => ∃ (A2 : Nat → Int32) (l2 : Int32), RepM A2 l2 (v * c0) ∧ w = MWw bd k st wt sm nu po sh up A2 l2 ro so un to it) (BcW D A) A) (by decide) rfl (Nat.le_of_ble_eq_true rfl) ?_
  intro p e s m below meth c A ls C hP hD hl
  have C : Cx RX4 "times" cX4_times 6 none wsX4_times D k t A p s m ([.ref (bd 0), .ref (bd 9), .int (nI c0)] : List Value).toArray meth c := C
  have hl : lv_has ls 6 [(0, .ref (bd 0)), (1, .ref (bd 9)), (2, .int (nI c0))] := hl
  have hx := C.1
  have hb := C.2.1
  have hown := C.2.2.2.2.1
  have hts := C.2.2.2.2.2.1
  have hK := C.2.2.2.2.2.2.2.2.1
  have hZ := C.2.2.2.2.2.2.2.2.2.1
  have hN := C.2.2.2.2.2.2.2.2.2.2
  have hS : va_S A s.heap s.heap [] := va_S.rf
  obtain ⟨f, n, hn, hn0, hE, hA0, hf, hz, hv⟩ := hR
  refine lv_iconst (v := nI 0) hx hb dX4_times_0 (by decide) ?_
  refine tp_i (y := nI (mcm f c0 0)) (rfl) ?_
  refine lv_istore_n (lv' := [(3, .int (nI (mcm f c0 0))), (0, .ref (bd 0)), (1, .ref (bd 9)), (2, .int (nI c0))]) hx hb dX4_times_1 rfl hl (by decide) rfl (fun ls hl => ?_)
  refine lv_iconst (v := nI 0) hx hb dX4_times_2 (by decide) ?_
  refine lv_istore (lv' := [(4, .int (nI 0)), (3, .int (nI (mcm f c0 0))), (0, .ref (bd 0)), (1, .ref (bd 9)), (2, .int (nI c0))]) hx hb dX4_times_3 hl (by decide) rfl (fun ls hl => ?_)
  have L1 : ∀ (r i : Nat), i + r = n → ∀ (H : Heap) (locs : List Loc) (ls : Array Slot), va_P D vwCl (MWw bd k st wt sm nu po sh up (mx (fun j => nI (mdm f c0 j)) lo i) li ro so un to it) H → va_D A (MWw bd k st wt sm nu po sh up (mx (fun j => nI (mdm f c0 j)) lo i) li ro so un to it) → va_S A s.heap H locs → lv_has ls 6 [(0, .ref (bd 0)), (1, .ref (bd 9)), (2, .int (nI c0)), (3, .int (nI (mcm f c0 i))), (4, .int (nI i))] → W p l e ({ frames := 0, cells := 0, slots := 0, locals := 0 }) s m ([.ref (bd 0), .ref (bd 9), .int (nI c0)] : List Value).toArray below meth c H locs 0 0 (MQ below (va_Qv (fun w => ∃ (A2 : Nat → Int32) (l2 : Int32), RepM A2 l2 (v * c0) ∧ w = MWw bd k st wt sm nu po sh up A2 l2 ro so un to it) (BcW D A) A) ([.ref (bd 0), .ref (bd 9), .int (nI c0)] : List Value).toArray s 0 0 A) (F0 m 5 ls []) := by
    intro r
    induction r with
    | zero =>
      intro i hr H locs ls hP hD hS hl
      obtain rfl : n = i := by omega
      refine lv_iload hx hb dX4_times_5 (lv_at hl 4 rfl) ?_
      refine lv_aload_n hx hb dX4_times_7 rfl (lv_at hl 0 rfl) ?_
      refine fg C hP 0 mw_o (ci := 4) rfl 9 (by decide) in_X4_times_X4 lk_X4_times_86 (v := .int li) rfl dX4_times_8 ?_
      refine tp_i (y := nI n) (hE) ?_
      refine lv_icmp_ge (tgt := 45) hx hb dX4_times_11 (by decide) (fun c2 => ?_) (fun c2 => absurd (nI_le (Nat.le_refl _) (by omega)) c2)
      refine lv_iload_n hx hb dX4_times_45 rfl (lv_at hl 3 rfl) ?_
      refine lv_if_ne (tgt := 50) hx hb dX4_times_46 (by decide) (fun c3 => ?_) (fun c3 => ?_)
      · have hlt := carry_m hv hb0 (nI_n0 c3)
        refine lv_aload_n hx hb dX4_times_50 rfl (lv_at hl 1 rfl) ?_
        refine lv_aload_n hx hb dX4_times_51 rfl (lv_at hl 0 rfl) ?_
        refine fg C hP 0 mw_o (ci := 4) rfl 9 (by decide) in_X4_times_X4 lk_X4_times_86 (v := .int li) rfl dX4_times_52 ?_
        refine tp_i (y := nI n) (hE) ?_
        refine lv_iload_n hx hb dX4_times_55 rfl (lv_at hl 3 rfl) ?_
        refine as_i C hP hD hS 9 mw_lo (j := n) hlt (by decide) (mw_lo_st _) dX4_times_56 (fun H locs hP hD hS => ?_)
        refine lv_aload_n hx hb dX4_times_57 rfl (lv_at hl 0 rfl) ?_
        refine lv_dup hx hb dX4_times_58 rfl ?_
        refine fg C hP 0 mw_o (ci := 4) rfl 9 (by decide) in_X4_times_X4 lk_X4_times_86 (v := .int li) rfl dX4_times_59 ?_
        refine tp_i (y := nI n) (hE) ?_
        refine lv_iconst (v := nI 1) hx hb dX4_times_62 (by decide) ?_
        refine lv_iadd hx hb dX4_times_63 ?_
        refine tp_i (y := nI (n + 1)) (nI_add _ _) ?_
        refine fp C hP hD hS tyX4_ok nmX4 0 mw_o (ci := 4) rfl 9 (by decide) in_X4_times_X4 lk_X4_times_86 rfl (ty := .int) (v := .int (nI (n + 1))) (by decide +kernel) rfl rfl (Nat.le_of_ble_eq_true rfl) (mw_li_st _) dX4_times_64 (fun H locs hP hD hS => ?_)
        exact Rv C hP hD hS (Nat.zero_le _) (Nat.zero_le _) dX4_times_67 (⟨_, _, RepM_up hlt hA0 hf hz hc0 (by omega) hv, rfl⟩)
      · exact Rv C hP hD hS (Nat.zero_le _) (Nat.zero_le _) dX4_times_49 (⟨_, li, by rw [hE]; exact RepM_of hn hn0 hA0 hf hz hv (nI_z0 (by have := mcm_lt hc0 n (fun j _ => hf j); omega) c3), rfl⟩)
    | succ r ihL1 =>
      intro i hr H locs ls hP hD hS hl
      refine lv_iload hx hb dX4_times_5 (lv_at hl 4 rfl) ?_
      refine lv_aload_n hx hb dX4_times_7 rfl (lv_at hl 0 rfl) ?_
      refine fg C hP 0 mw_o (ci := 4) rfl 9 (by decide) in_X4_times_X4 lk_X4_times_86 (v := .int li) rfl dX4_times_8 ?_
      refine tp_i (y := nI n) (hE) ?_
      refine lv_icmp_ge (tgt := 45) hx hb dX4_times_11 (by decide) (fun c4 => absurd c4 (nI_ge (by omega) (by omega))) (fun c4 => ?_)
      refine lv_aload_n hx hb dX4_times_14 rfl (lv_at hl 1 rfl) ?_
      refine lv_iload hx hb dX4_times_15 (lv_at hl 4 rfl) ?_
      refine ar_i C hP 9 mw_lo (j := i) (by omega) (by decide) dX4_times_17 ?_
      refine tp_i (y := nI (f i)) ((mx_i _ _ _).trans (hA0 i (by omega))) ?_
      refine lv_iload_n hx hb dX4_times_18 rfl (lv_at hl 2 rfl) ?_
      refine lv_imul hx hb dX4_times_19 ?_
      refine tp_i (y := nI ((f i) * c0)) (pk_mul _ _) ?_
      refine lv_iload_n hx hb dX4_times_20 rfl (lv_at hl 3 rfl) ?_
      refine lv_iadd hx hb dX4_times_21 ?_
      refine tp_i (y := nI (((f i) * c0) + (mcm f c0 i))) (nI_add _ _) ?_
      refine lv_istore (lv' := [(5, .int (nI (((f i) * c0) + (mcm f c0 i)))), (0, .ref (bd 0)), (1, .ref (bd 9)), (2, .int (nI c0)), (3, .int (nI (mcm f c0 i))), (4, .int (nI i))]) hx hb dX4_times_22 hl (by decide) rfl (fun ls hl => ?_)
      refine lv_aload_n hx hb dX4_times_24 rfl (lv_at hl 2 rfl) ?_
      refine lv_iload hx hb dX4_times_25 (lv_at hl 5 rfl) ?_
      refine lv_iload hx hb dX4_times_27 (lv_at hl 0 rfl) ?_
      refine lv_ldc (v := 65535) hx hb hown (hts (.constant RX4 95 (65535)) (by decide +kernel)) dX4_times_29 ?_
      refine lv_iand hx hb dX4_times_31 ?_
      refine tp_i (y := nI (mdm f c0 i)) (mk16 (by have h1 := mcm_lt hc0 i (fun j _ => hf j); have h2 := hf i; have h3 : f i * c0 ≤ 65535 * 32767 := Nat.mul_le_mul (by omega) (by omega); omega)) ?_
      refine as_i C hP hD hS 9 mw_lo (j := i) (by omega) (by decide) (mw_lo_st _) dX4_times_32 (fun H locs hP hD hS => ?_)
      refine lv_iload hx hb dX4_times_33 (lv_at hl 0 rfl) ?_
      refine lv_bipush (v := nI 16) hx hb dX4_times_35 (by decide) ?_
      refine lv_iushr (v := ((nI (((f i) * c0) + (mcm f c0 i))).toUInt32 >>> ((nI 16).toUInt32 &&& Int32.toUInt32 31)).toInt32) hx hb dX4_times_37 rfl ?_
      refine tp_i (y := nI (mcm f c0 (i + 1))) (ush16 (by have h1 := mcm_lt hc0 i (fun j _ => hf j); have h2 := hf i; have h3 : f i * c0 ≤ 65535 * 32767 := Nat.mul_le_mul (by omega) (by omega); omega)) ?_
      refine lv_istore_n (lv' := [(3, .int (nI (mcm f c0 (i + 1)))), (5, .int (nI (((f i) * c0) + (mcm f c0 i)))), (0, .ref (bd 0)), (1, .ref (bd 9)), (2, .int (nI c0)), (4, .int (nI i))]) hx hb dX4_times_38 rfl hl (by decide) rfl (fun ls hl => ?_)
      refine lv_iinc (v := nI (i + 1)) (lv' := [(4, .int (nI (i + 1))), (3, .int (nI (mcm f c0 (i + 1)))), (5, .int (nI (((f i) * c0) + (mcm f c0 i)))), (0, .ref (bd 0)), (1, .ref (bd 9)), (2, .int (nI c0))]) hx hb dX4_times_39 hl (k := 5) rfl (by rw [← nI_add i 1]; rfl) (by decide) rfl (fun ls hl => ?_)
      refine lv_goto (tgt := 5) hx hb dX4_times_42 (by decide) ?_
      rw [mx_s (fun j => nI (mdm f c0 j))] at hP hD
      exact ihL1 (i + 1) (by omega) _ _ _ hP hD hS (lv_sub hl [3, 4, 5, 1, 0] rfl)
  rw [← mx_z (fun j => nI (mdm f c0 j)) lo] at hP hD
  exact L1 (n - 0) 0 (by omega) _ _ _ hP hD hS (lv_sub hl [2, 3, 4, 1, 0] rfl)

theorem fl_c (A : Nat → Int32) (i : Nat) (h : i = 4000) : ∀ j, j < 4000 → fl A (nI 0) i j = nI 0 := fun j hj => if_pos (by omega)
theorem pp_l {p0 a : Nat} (h : p0 ^ a < 32768) (hp : p0 ≤ 13) : p0 ^ a * p0 < 2 ^ 31 := by
  have : p0 ^ a * p0 ≤ 32767 * 13 := Nat.mul_le_mul (by omega) hp
  omega
theorem pp_lt {p0 a : Nat} (h : p0 ^ a * p0 < 32768) : p0 ^ (a + 1) < 32768 := by rw [Nat.pow_succ]; exact h
theorem nI_dec {n : Nat} (h : 1 ≤ n) : nI n + Int32.ofInt (-1) = nI (n - 1) := by
  obtain ⟨m, rfl⟩ : ∃ m, n = m + 1 := ⟨n - 1, by omega⟩
  exact pk_m1 m
set_option maxRecDepth 20000 in
theorem in_X4_multiply_X4 : ∀ w ∈ u_ws RX4 TX4 15, w ∈ wsX4_multiply := by decide +kernel
set_option maxRecDepth 20000 in
theorem lk_X4_multiply_86 : Cond.fieldLink RX4 86 (TX4 9).1 (TX4 9).2.1 (TX4 9).2.2.1 ∈ wsX4_multiply := by decide +kernel
set_option maxRecDepth 20000 in
theorem lk_X4_multiply_25 : Cond.fieldLink RX4 25 (TX4 5).1 (TX4 5).2.1 (TX4 5).2.2.1 ∈ wsX4_multiply := by decide +kernel
set_option maxRecDepth 20000 in
theorem lk_X4_multiply_22 : Cond.fieldLink RX4 22 (TX4 4).1 (TX4 4).2.1 (TX4 4).2.2.1 ∈ wsX4_multiply := by decide +kernel
set_option maxHeartbeats 4000000 in
set_option maxRecDepth 100000 in
theorem c_mult_up (D : va_G) (k : Nat → ClassId) (t : Nat → Nat) (l : Launch) {bd : Nat → Nat} {st wt sm nu sh up lo : Nat → Int32} {li : Int32} {ro so un to : Nat → Int64} {it : Int32} {ee : Nat → Int} (hT : ZT (zT ee) ee) (hb0 : upv ee 6 < mbig) : Cv D k t l yX4_multiply wsX4_multiply ({ frames := 1, cells := 0, slots := 0, locals := 30 }) [.ref (bd 0), .ref (bd 8), .int (zI 1)] (MWw bd k st wt sm nu (zT ee) sh up lo li ro so un to it) (fun w => ∃ (A2 : Nat → Int32) (l2 : Int32), RepM A2 l2 (upv ee 6) ∧ w = MWw bd k st wt sm nu (zT ee) sh A2 lo l2 ro so un to it) 0 0 := by
  refine fw_of (cc := cX4_multiply) (maxL := 6) (ret := none) (Qc := fun A => va_Qv (fun w => ∃ (A2 : Nat → Int32) (l2 : Int32), RepM A2 l2 (upv ee 6) ∧ w = MWw bd k st wt sm nu (zT ee) sh A2 lo l2 ro so un to it) (BcW D A) A) (by decide) rfl (Nat.le_of_ble_eq_true rfl) ?_
  intro p e s m below meth c A ls C hP hD hl
  have C : Cx RX4 "multiply" cX4_multiply 6 none wsX4_multiply D k t A p s m ([.ref (bd 0), .ref (bd 8), .int (zI 1)] : List Value).toArray meth c := C
  have hl : lv_has ls 6 [(0, .ref (bd 0)), (1, .ref (bd 8)), (2, .int (zI 1))] := hl
  have hx := C.1
  have hb := C.2.1
  have hown := C.2.2.2.2.1
  have hts := C.2.2.2.2.2.1
  have hK := C.2.2.2.2.2.2.2.2.1
  have hZ := C.2.2.2.2.2.2.2.2.2.1
  have hN := C.2.2.2.2.2.2.2.2.2.2
  have hS : va_S A s.heap s.heap [] := va_S.rf
  refine lv_iconst (v := nI 0) hx hb dX4_multiply_0 (by decide) ?_
  refine lv_istore_n (lv' := [(3, .int (nI 0)), (0, .ref (bd 0)), (1, .ref (bd 8)), (2, .int (zI 1))]) hx hb dX4_multiply_1 rfl hl (by decide) rfl (fun ls hl => ?_)
  have L1 : ∀ (r i : Nat), i + r = 4000 → ∀ (H : Heap) (locs : List Loc) (ls : Array Slot), va_P D vwCl (MWw bd k st wt sm nu (zT ee) sh (fl up (nI 0) i) lo li ro so un to it) H → va_D A (MWw bd k st wt sm nu (zT ee) sh (fl up (nI 0) i) lo li ro so un to it) → va_S A s.heap H locs → lv_has ls 6 [(0, .ref (bd 0)), (1, .ref (bd 8)), (2, .int (zI 1)), (3, .int (nI i))] → W p l e ({ frames := 1, cells := 0, slots := 0, locals := 30 }) s m ([.ref (bd 0), .ref (bd 8), .int (zI 1)] : List Value).toArray below meth c H locs 0 0 (MQ below (va_Qv (fun w => ∃ (A2 : Nat → Int32) (l2 : Int32), RepM A2 l2 (upv ee 6) ∧ w = MWw bd k st wt sm nu (zT ee) sh A2 lo l2 ro so un to it) (BcW D A) A) ([.ref (bd 0), .ref (bd 8), .int (zI 1)] : List Value).toArray s 0 0 A) (F0 m 2 ls []) := by
    intro r
    induction r with
    | zero =>
      intro i hr H locs ls hP hD hS hl
      obtain rfl : 4000 = i := by omega
      refine lv_iload_n hx hb dX4_multiply_2 rfl (lv_at hl 3 rfl) ?_
      refine lv_sipush (v := nI 4000) hx hb dX4_multiply_3 (by decide) ?_
      refine lv_icmp_ge (tgt := 19) hx hb dX4_multiply_6 (by decide) (fun c2 => ?_) (fun c2 => absurd (nI_le (by omega) (by decide)) c2)
      obtain ⟨hP, hD⟩ := cg_i hP hD mw_up (g := fun _ => nI 0) (fl_c _ _ rfl) (mw_up_st _)
      refine lv_aload_n hx hb dX4_multiply_19 rfl (lv_at hl 1 rfl) ?_
      refine lv_iconst (v := nI 0) hx hb dX4_multiply_20 (by decide) ?_
      refine lv_iconst (v := nI 1) hx hb dX4_multiply_21 (by decide) ?_
      refine as_i C hP hD hS 8 mw_up (j := 0) (by decide) (by decide) (mw_up_st _) dX4_multiply_22 (fun H locs hP hD hS => ?_)
      refine lv_aload_n hx hb dX4_multiply_23 rfl (lv_at hl 0 rfl) ?_
      refine lv_iconst (v := nI 1) hx hb dX4_multiply_24 (by decide) ?_
      refine fp C hP hD hS tyX4_ok nmX4 0 mw_o (ci := 4) rfl 9 (by decide) in_X4_multiply_X4 lk_X4_multiply_86 rfl (ty := .int) (v := .int (nI 1)) (by decide +kernel) rfl rfl (Nat.le_of_ble_eq_true rfl) (mw_li_st _) dX4_multiply_25 (fun H locs hP hD hS => ?_)
      refine lv_iconst (v := nI 0) hx hb dX4_multiply_28 (by decide) ?_
      refine lv_istore_n (lv' := [(3, .int (nI 0)), (0, .ref (bd 0)), (1, .ref (bd 8)), (2, .int (zI 1))]) hx hb dX4_multiply_29 rfl hl (by decide) rfl (fun ls hl => ?_)
      have L3 : ∀ (r i : Nat), i + r = 6 → ∀ (A1 : Nat → Int32) (l1 : Int32) (h1 : RepM A1 l1 (upv ee i)), ∀ (H : Heap) (locs : List Loc) (ls : Array Slot), va_P D vwCl (MWw bd k st wt sm nu (zT ee) sh A1 lo l1 ro so un to it) H → va_D A (MWw bd k st wt sm nu (zT ee) sh A1 lo l1 ro so un to it) → va_S A s.heap H locs → lv_has ls 6 [(0, .ref (bd 0)), (1, .ref (bd 8)), (2, .int (zI 1)), (3, .int (nI i))] → W p l e ({ frames := 1, cells := 0, slots := 0, locals := 30 }) s m ([.ref (bd 0), .ref (bd 8), .int (zI 1)] : List Value).toArray below meth c H locs 0 0 (MQ below (va_Qv (fun w => ∃ (A2 : Nat → Int32) (l2 : Int32), RepM A2 l2 (upv ee 6) ∧ w = MWw bd k st wt sm nu (zT ee) sh A2 lo l2 ro so un to it) (BcW D A) A) ([.ref (bd 0), .ref (bd 8), .int (zI 1)] : List Value).toArray s 0 0 A) (F0 m 30 ls []) := by
        intro r
        induction r with
        | zero =>
          intro i hr A1 l1 h1 H locs ls hP hD hS hl
          obtain rfl : 6 = i := by omega
          refine lv_iload_n hx hb dX4_multiply_30 rfl (lv_at hl 3 rfl) ?_
          refine lv_bipush (v := nI 6) hx hb dX4_multiply_31 (by decide) ?_
          refine lv_icmp_ge (tgt := 106) hx hb dX4_multiply_33 (by decide) (fun c4 => ?_) (fun c4 => absurd (nI_le (by omega) (by decide)) c4)
          exact Rv C hP hD hS (Nat.zero_le _) (Nat.zero_le _) dX4_multiply_106 (⟨_, _, h1, rfl⟩)
        | succ r ihL3 =>
          intro i hr A1 l1 h1 H locs ls hP hD hS hl
          refine lv_iload_n hx hb dX4_multiply_30 rfl (lv_at hl 3 rfl) ?_
          refine lv_bipush (v := nI 6) hx hb dX4_multiply_31 (by decide) ?_
          refine lv_icmp_ge (tgt := 106) hx hb dX4_multiply_33 (by decide) (fun c5 => absurd c5 (nI_ge (by omega) (by decide))) (fun c5 => ?_)
          refine lv_iload_n hx hb dX4_multiply_36 rfl (lv_at hl 2 rfl) ?_
          refine lv_aload_n hx hb dX4_multiply_37 rfl (lv_at hl 0 rfl) ?_
          refine fg C hP 0 mw_o (ci := 4) rfl 5 (by decide) in_X4_multiply_X4 lk_X4_multiply_25 (v := .ref (bd 6)) rfl dX4_multiply_38 ?_
          refine lv_iload_n hx hb dX4_multiply_41 rfl (lv_at hl 3 rfl) ?_
          refine ar_i C hP 6 mw_po (j := i) (by omega) (by decide) dX4_multiply_42 ?_
          refine tp_i (y := zI (ee i)) (rfl) ?_
          refine lv_imul hx hb dX4_multiply_43 ?_
          refine tp_i (y := zI (ee i)) (by rw [zI_mul, Int.one_mul]) ?_
          refine lv_istore (lv' := [(4, .int (zI (ee i))), (0, .ref (bd 0)), (1, .ref (bd 8)), (2, .int (zI 1)), (3, .int (nI i))]) hx hb dX4_multiply_44 hl (by decide) rfl (fun ls hl => ?_)
          rcases Int.lt_or_le 0 (ee i) with hz | hz
          · rw [zI_nat (by omega) (by have := (hT i (by omega)).2; omega)] at hl
            have hp0 := pr6_pos i
            have hp2 := (pr6_at (show i < 6 by omega)).2
            have hpl : ∀ a, pr6 i ^ a < 32768 → pr6 i ^ a * pr6 i < 2 ^ 31 := fun a h => pp_l h hp2.2
            have hvb : ∀ {v1 q q2 a : Nat}, v1 * pr6 i ^ q = upv ee (i + 1) → q2 + a = q → v1 * pr6 i ^ a ≤ upv ee 6 := fun {v1 q q2 a} h h2 => by
              refine Nat.le_trans ?_ (upv_mono ee (show i + 1 ≤ 6 by omega))
              rw [← h, ← h2]
              exact Nat.mul_le_mul_left _ (Nat.pow_le_pow_right hp0 (by omega))
            have L6 : ∀ (r : Nat) (q v1 : Nat) (A2 : Nat → Int32) (l2 : Int32) (hR : RepM A2 l2 v1) (hq : q ≤ r) (hv : v1 * pr6 i ^ q = upv ee (i + 1)) (hq31 : q < 2 ^ 31), ∀ (H : Heap) (locs : List Loc) (ls : Array Slot), va_P D vwCl (MWw bd k st wt sm nu (zT ee) sh A2 lo l2 ro so un to it) H → va_D A (MWw bd k st wt sm nu (zT ee) sh A2 lo l2 ro so un to it) → va_S A s.heap H locs → lv_has ls 6 [(0, .ref (bd 0)), (1, .ref (bd 8)), (2, .int (zI 1)), (3, .int (nI i)), (4, .int (nI q))] → W p l e ({ frames := 1, cells := 0, slots := 0, locals := 30 }) s m ([.ref (bd 0), .ref (bd 8), .int (zI 1)] : List Value).toArray below meth c H locs 0 0 (MQ below (va_Qv (fun w => ∃ (A2 : Nat → Int32) (l2 : Int32), RepM A2 l2 (upv ee 6) ∧ w = MWw bd k st wt sm nu (zT ee) sh A2 lo l2 ro so un to it) (BcW D A) A) ([.ref (bd 0), .ref (bd 8), .int (zI 1)] : List Value).toArray s 0 0 A) (F0 m 46 ls []) := by
              intro r
              induction r with
              | zero =>
                intro q v1 A2 l2 hR hq hv hq31 H locs ls hP hD hS hl
                refine lv_iload hx hb dX4_multiply_46 (lv_at hl 4 rfl) ?_
                refine lv_if_le (tgt := 100) hx hb dX4_multiply_48 (by decide) (fun c7 => ?_) (fun c7 => absurd (by rw [show q = 0 by omega]; decide) c7)
                refine lv_iinc (v := nI (i + 1)) (lv' := [(3, .int (nI (i + 1))), (0, .ref (bd 0)), (1, .ref (bd 8)), (2, .int (zI 1)), (4, .int (nI q))]) hx hb dX4_multiply_100 hl (k := 3) rfl (by rw [← nI_add i 1]; rfl) (by decide) rfl (fun ls hl => ?_)
                refine lv_goto (tgt := 30) hx hb dX4_multiply_103 (by decide) ?_
                exact ihL3 (i + 1) (by omega) _ _ (by rw [← hv, show q = 0 by omega, Nat.pow_zero, Nat.mul_one]; exact hR) _ _ _ hP hD hS (lv_sub hl [1, 2, 3, 0] rfl)
              | succ r ihL6 =>
                intro q v1 A2 l2 hR hq hv hq31 H locs ls hP hD hS hl
                refine lv_iload hx hb dX4_multiply_46 (lv_at hl 4 rfl) ?_
                refine lv_if_le (tgt := 100) hx hb dX4_multiply_48 (by decide) (fun c8 => ?_) (fun c8 => ?_)
                · refine lv_iinc (v := nI (i + 1)) (lv' := [(3, .int (nI (i + 1))), (0, .ref (bd 0)), (1, .ref (bd 8)), (2, .int (zI 1)), (4, .int (nI q))]) hx hb dX4_multiply_100 hl (k := 3) rfl (by rw [← nI_add i 1]; rfl) (by decide) rfl (fun ls hl => ?_)
                  refine lv_goto (tgt := 30) hx hb dX4_multiply_103 (by decide) ?_
                  exact ihL3 (i + 1) (by omega) _ _ (by rw [← hv, show q = 0 by exact nI_z0' (by omega) c8, Nat.pow_zero, Nat.mul_one]; exact hR) _ _ _ hP hD hS (lv_sub hl [1, 2, 3, 0] rfl)
                · refine lv_iconst (v := nI 1) hx hb dX4_multiply_51 (by decide) ?_
                  refine tp_i (y := nI (pr6 i ^ 0)) (rfl) ?_
                  refine lv_istore (lv' := [(5, .int (nI (pr6 i ^ 0))), (0, .ref (bd 0)), (1, .ref (bd 8)), (2, .int (zI 1)), (3, .int (nI i)), (4, .int (nI q))]) hx hb dX4_multiply_52 hl (by decide) rfl (fun ls hl => ?_)
                  have L9 : ∀ (r : Nat) (q2 a : Nat) (hq2 : q2 ≤ r) (ha : pr6 i ^ a < 32768) (hqa : q2 + a = q), ∀ (H : Heap) (locs : List Loc) (ls : Array Slot), va_P D vwCl (MWw bd k st wt sm nu (zT ee) sh A2 lo l2 ro so un to it) H → va_D A (MWw bd k st wt sm nu (zT ee) sh A2 lo l2 ro so un to it) → va_S A s.heap H locs → lv_has ls 6 [(0, .ref (bd 0)), (1, .ref (bd 8)), (2, .int (zI 1)), (3, .int (nI i)), (4, .int (nI q2)), (5, .int (nI (pr6 i ^ a)))] → W p l e ({ frames := 1, cells := 0, slots := 0, locals := 30 }) s m ([.ref (bd 0), .ref (bd 8), .int (zI 1)] : List Value).toArray below meth c H locs 0 0 (MQ below (va_Qv (fun w => ∃ (A2 : Nat → Int32) (l2 : Int32), RepM A2 l2 (upv ee 6) ∧ w = MWw bd k st wt sm nu (zT ee) sh A2 lo l2 ro so un to it) (BcW D A) A) ([.ref (bd 0), .ref (bd 8), .int (zI 1)] : List Value).toArray s 0 0 A) (F0 m 54 ls []) := by
                    intro r
                    induction r with
                    | zero =>
                      intro q2 a hq2 ha hqa H locs ls hP hD hS hl
                      refine lv_iload hx hb dX4_multiply_54 (lv_at hl 4 rfl) ?_
                      refine lv_if_le (tgt := 90) hx hb dX4_multiply_56 (by decide) (fun c10 => ?_) (fun c10 => absurd (by rw [show q2 = 0 by omega]; decide) c10)
                      refine lv_aload_n hx hb dX4_multiply_90 rfl (lv_at hl 0 rfl) ?_
                      refine lv_aload_n hx hb dX4_multiply_91 rfl (lv_at hl 1 rfl) ?_
                      refine lv_iload hx hb dX4_multiply_92 (lv_at hl 5 rfl) ?_
                      have ha1 : 1 ≤ a := by have := nI_z0' (by omega) c10; have := nI_p c8; omega
                      refine fw_v C hD hS (rn_V (As := [.ref (bd 8), .int (nI (pr6 i ^ a))]) (rest := []) C (c_times_up D k t l (c0 := pr6 i ^ a) (v := v1) (Nat.pow_pos hp0) ha hR (Nat.lt_of_le_of_lt (hvb hv hqa) hb0) _) (cwV 2 hts gX4_multiply_X4_times rfl rfl rfl hdX4_timesC ⟨Nat.le_of_ble_eq_true rfl, Nat.le_of_ble_eq_true rfl⟩) 0 4 rfl mw_o rfl hP hD hS rfl hl.1 rfl (Nat.le_of_ble_eq_true rfl) dX4_multiply_94 ⟨Nat.zero_le _, Nat.zero_le _⟩) (fun wr11 H locs h12 hP hD hS => ?_)
                      obtain ⟨A3, l3, hR2, rfl⟩ := h12
                      refine lv_goto (tgt := 46) hx hb dX4_multiply_97 (by decide) ?_
                      exact ihL6 q2 _ _ _ hR2 (by omega) (by rw [← hv, ← hqa, Nat.pow_add, Nat.mul_assoc, Nat.mul_comm (pr6 i ^ a)]) (by omega) _ _ _ hP hD hS (lv_sub hl [0, 1, 2, 3, 4] rfl)
                    | succ r ihL9 =>
                      intro q2 a hq2 ha hqa H locs ls hP hD hS hl
                      refine lv_iload hx hb dX4_multiply_54 (lv_at hl 4 rfl) ?_
                      refine lv_if_le (tgt := 90) hx hb dX4_multiply_56 (by decide) (fun c13 => ?_) (fun c13 => ?_)
                      · refine lv_aload_n hx hb dX4_multiply_90 rfl (lv_at hl 0 rfl) ?_
                        refine lv_aload_n hx hb dX4_multiply_91 rfl (lv_at hl 1 rfl) ?_
                        refine lv_iload hx hb dX4_multiply_92 (lv_at hl 5 rfl) ?_
                        have ha1 : 1 ≤ a := by have := nI_z0' (by omega) c13; have := nI_p c8; omega
                        refine fw_v C hD hS (rn_V (As := [.ref (bd 8), .int (nI (pr6 i ^ a))]) (rest := []) C (c_times_up D k t l (c0 := pr6 i ^ a) (v := v1) (Nat.pow_pos hp0) ha hR (Nat.lt_of_le_of_lt (hvb hv hqa) hb0) _) (cwV 2 hts gX4_multiply_X4_times rfl rfl rfl hdX4_timesC ⟨Nat.le_of_ble_eq_true rfl, Nat.le_of_ble_eq_true rfl⟩) 0 4 rfl mw_o rfl hP hD hS rfl hl.1 rfl (Nat.le_of_ble_eq_true rfl) dX4_multiply_94 ⟨Nat.zero_le _, Nat.zero_le _⟩) (fun wr14 H locs h15 hP hD hS => ?_)
                        obtain ⟨A3, l3, hR2, rfl⟩ := h15
                        refine lv_goto (tgt := 46) hx hb dX4_multiply_97 (by decide) ?_
                        exact ihL6 q2 _ _ _ hR2 (by omega) (by rw [← hv, ← hqa, Nat.pow_add, Nat.mul_assoc, Nat.mul_comm (pr6 i ^ a)]) (by omega) _ _ _ hP hD hS (lv_sub hl [0, 1, 2, 3, 4] rfl)
                      · refine lv_iload hx hb dX4_multiply_59 (lv_at hl 5 rfl) ?_
                        refine lv_aload_n hx hb dX4_multiply_61 rfl (lv_at hl 0 rfl) ?_
                        refine fg C hP 0 mw_o (ci := 4) rfl 4 (by decide) in_X4_multiply_X4 lk_X4_multiply_22 (v := .ref (bd 5)) rfl dX4_multiply_62 ?_
                        refine lv_iload_n hx hb dX4_multiply_65 rfl (lv_at hl 3 rfl) ?_
                        refine ar_i C hP 5 mw_PR (j := i) (by omega) (by decide) dX4_multiply_66 ?_
                        refine tp_i (y := nI (pr6 i)) ((pr6_at (by omega)).1) ?_
                        refine lv_imul hx hb dX4_multiply_67 ?_
                        refine tp_i (y := nI ((pr6 i ^ a) * (pr6 i))) (pk_mul _ _) ?_
                        refine lv_ldc (v := nI 32768) hx hb hown (hts (.constant RX4 90 (32768)) (by decide +kernel)) dX4_multiply_68 ?_
                        refine lv_icmp_ge (tgt := 90) hx hb dX4_multiply_70 (by decide) (fun c16 => ?_) (fun c16 => ?_)
                        · refine lv_aload_n hx hb dX4_multiply_90 rfl (lv_at hl 0 rfl) ?_
                          refine lv_aload_n hx hb dX4_multiply_91 rfl (lv_at hl 1 rfl) ?_
                          refine lv_iload hx hb dX4_multiply_92 (lv_at hl 5 rfl) ?_
                          have ha1 : 1 ≤ a := by
                            rcases Nat.eq_zero_or_pos a with z | z
                            · subst z
                              have h9 := (nI_leI (by decide) (by have := hpl 0 ha; omega)).mp c16
                              rw [Nat.pow_zero] at h9
                              omega
                            · exact z
                          refine fw_v C hD hS (rn_V (As := [.ref (bd 8), .int (nI (pr6 i ^ a))]) (rest := []) C (c_times_up D k t l (c0 := pr6 i ^ a) (v := v1) (Nat.pow_pos hp0) ha hR (Nat.lt_of_le_of_lt (hvb hv hqa) hb0) _) (cwV 2 hts gX4_multiply_X4_times rfl rfl rfl hdX4_timesC ⟨Nat.le_of_ble_eq_true rfl, Nat.le_of_ble_eq_true rfl⟩) 0 4 rfl mw_o rfl hP hD hS rfl hl.1 rfl (Nat.le_of_ble_eq_true rfl) dX4_multiply_94 ⟨Nat.zero_le _, Nat.zero_le _⟩) (fun wr17 H locs h18 hP hD hS => ?_)
                          obtain ⟨A3, l3, hR2, rfl⟩ := h18
                          refine lv_goto (tgt := 46) hx hb dX4_multiply_97 (by decide) ?_
                          exact ihL6 q2 _ _ _ hR2 (by omega) (by rw [← hv, ← hqa, Nat.pow_add, Nat.mul_assoc, Nat.mul_comm (pr6 i ^ a)]) (by omega) _ _ _ hP hD hS (lv_sub hl [0, 1, 2, 3, 4] rfl)
                        · refine lv_iload hx hb dX4_multiply_73 (lv_at hl 5 rfl) ?_
                          refine lv_aload_n hx hb dX4_multiply_75 rfl (lv_at hl 0 rfl) ?_
                          refine fg C hP 0 mw_o (ci := 4) rfl 4 (by decide) in_X4_multiply_X4 lk_X4_multiply_22 (v := .ref (bd 5)) rfl dX4_multiply_76 ?_
                          refine lv_iload_n hx hb dX4_multiply_79 rfl (lv_at hl 3 rfl) ?_
                          refine ar_i C hP 5 mw_PR (j := i) (by omega) (by decide) dX4_multiply_80 ?_
                          refine tp_i (y := nI (pr6 i)) ((pr6_at (by omega)).1) ?_
                          refine lv_imul hx hb dX4_multiply_81 ?_
                          refine tp_i (y := nI (pr6 i ^ (a + 1))) (by rw [pk_mul, ← Nat.pow_succ]) ?_
                          refine lv_istore (lv' := [(5, .int (nI (pr6 i ^ (a + 1)))), (0, .ref (bd 0)), (1, .ref (bd 8)), (2, .int (zI 1)), (3, .int (nI i)), (4, .int (nI q2))]) hx hb dX4_multiply_82 hl (by decide) rfl (fun ls hl => ?_)
                          refine lv_iinc (v := nI (q2 - 1)) (lv' := [(4, .int (nI (q2 - 1))), (5, .int (nI (pr6 i ^ (a + 1)))), (0, .ref (bd 0)), (1, .ref (bd 8)), (2, .int (zI 1)), (3, .int (nI i))]) hx hb dX4_multiply_84 hl (k := 5) rfl (nI_dec (nI_p c13)) (by decide) rfl (fun ls hl => ?_)
                          refine lv_goto (tgt := 54) hx hb dX4_multiply_87 (by decide) ?_
                          exact ihL9 (q2 - 1) (a + 1) (by omega) (pp_lt (Nat.not_le.mp fun z => c16 (nI_le z (by have := hpl a ha; omega)))) (by have := nI_p c13; omega) _ _ _ hP hD hS (lv_sub hl [2, 3, 4, 5, 0, 1] rfl)
                  exact L9 q q 0 (Nat.le_refl _) (by rw [Nat.pow_zero]; decide) (Nat.add_zero _) _ _ _ hP hD hS (lv_sub hl [1, 2, 3, 4, 5, 0] rfl)
            exact L6 ((ee i).toNat) (ee i).toNat _ _ _ h1 (Nat.le_refl _) rfl (by have := (hT i (by omega)).2; omega) _ _ _ hP hD hS (lv_sub hl [1, 2, 3, 4, 0] rfl)
          · refine lv_iload hx hb dX4_multiply_46 (lv_at hl 0 rfl) ?_
            refine lv_if_le (tgt := 100) hx hb dX4_multiply_48 (by decide) (fun c19 => ?_) (fun c19 => absurd (zI_le0 hz (by have := (hT i (by omega)).2; omega)) c19)
            refine lv_iinc (v := nI (i + 1)) (lv' := [(3, .int (nI (i + 1))), (4, .int (zI (ee i))), (0, .ref (bd 0)), (1, .ref (bd 8)), (2, .int (zI 1))]) hx hb dX4_multiply_100 hl (k := 4) rfl (by rw [← nI_add i 1]; rfl) (by decide) rfl (fun ls hl => ?_)
            refine lv_goto (tgt := 30) hx hb dX4_multiply_103 (by decide) ?_
            exact ihL3 (i + 1) (by omega) _ _ (by rw [upv]; show RepM _ _ (_ * pr6 i ^ (ee i).toNat); rw [show (ee i).toNat = 0 by omega, Nat.pow_zero, Nat.mul_one]; exact h1) _ _ _ hP hD hS (lv_sub hl [2, 3, 4, 0] rfl)
      exact L3 (6 - 0) 0 (by omega) _ _ RepM_one _ _ _ hP hD hS (lv_sub hl [1, 2, 3, 0] rfl)
    | succ r ihL1 =>
      intro i hr H locs ls hP hD hS hl
      refine lv_iload_n hx hb dX4_multiply_2 rfl (lv_at hl 3 rfl) ?_
      refine lv_sipush (v := nI 4000) hx hb dX4_multiply_3 (by decide) ?_
      refine lv_icmp_ge (tgt := 19) hx hb dX4_multiply_6 (by decide) (fun c20 => absurd c20 (nI_ge (by omega) (by decide))) (fun c20 => ?_)
      refine lv_aload_n hx hb dX4_multiply_9 rfl (lv_at hl 1 rfl) ?_
      refine lv_iload_n hx hb dX4_multiply_10 rfl (lv_at hl 3 rfl) ?_
      refine lv_iconst (v := nI 0) hx hb dX4_multiply_11 (by decide) ?_
      refine as_i C hP hD hS 8 mw_up (j := i) (by omega) (by decide) (mw_up_st _) dX4_multiply_12 (fun H locs hP hD hS => ?_)
      refine lv_iinc (v := nI (i + 1)) (lv' := [(3, .int (nI (i + 1))), (0, .ref (bd 0)), (1, .ref (bd 8)), (2, .int (zI 1))]) hx hb dX4_multiply_13 hl (k := 3) rfl (by rw [← nI_add i 1]; rfl) (by decide) rfl (fun ls hl => ?_)
      refine lv_goto (tgt := 2) hx hb dX4_multiply_16 (by decide) ?_
      rw [fl_s] at hP hD
      exact ihL1 (i + 1) (by omega) _ _ _ hP hD hS (lv_sub hl [1, 2, 3, 0] rfl)
  rw [← fl_0 up (nI 0)] at hP hD
  exact L1 (4000 - 0) 0 (by omega) _ _ _ hP hD hS (lv_sub hl [1, 2, 3, 0] rfl)

set_option maxHeartbeats 4000000 in
set_option maxRecDepth 100000 in
theorem c_mult_lo (D : va_G) (k : Nat → ClassId) (t : Nat → Nat) (l : Launch) {bd : Nat → Nat} {st wt sm nu sh up lo : Nat → Int32} {li : Int32} {ro so un to : Nat → Int64} {it : Int32} {ee : Nat → Int} (hT : ZT (zT ee) ee) (hb0 : upv (ng ee) 6 < mbig) : Cv D k t l yX4_multiply wsX4_multiply ({ frames := 1, cells := 0, slots := 0, locals := 30 }) [.ref (bd 0), .ref (bd 9), .int (zI (-1))] (MWw bd k st wt sm nu (zT ee) sh up lo li ro so un to it) (fun w => ∃ (A2 : Nat → Int32) (l2 : Int32), RepM A2 l2 (upv (ng ee) 6) ∧ w = MWw bd k st wt sm nu (zT ee) sh up A2 l2 ro so un to it) 0 0 := by
  refine fw_of (cc := cX4_multiply) (maxL := 6) (ret := none) (Qc := fun A => va_Qv (fun w => ∃ (A2 : Nat → Int32) (l2 : Int32), RepM A2 l2 (upv (ng ee) 6) ∧ w = MWw bd k st wt sm nu (zT ee) sh up A2 l2 ro so un to it) (BcW D A) A) (by decide) rfl (Nat.le_of_ble_eq_true rfl) ?_
  intro p e s m below meth c A ls C hP hD hl
  have C : Cx RX4 "multiply" cX4_multiply 6 none wsX4_multiply D k t A p s m ([.ref (bd 0), .ref (bd 9), .int (zI (-1))] : List Value).toArray meth c := C
  have hl : lv_has ls 6 [(0, .ref (bd 0)), (1, .ref (bd 9)), (2, .int (zI (-1)))] := hl
  have hx := C.1
  have hb := C.2.1
  have hown := C.2.2.2.2.1
  have hts := C.2.2.2.2.2.1
  have hK := C.2.2.2.2.2.2.2.2.1
  have hZ := C.2.2.2.2.2.2.2.2.2.1
  have hN := C.2.2.2.2.2.2.2.2.2.2
  have hS : va_S A s.heap s.heap [] := va_S.rf
  refine lv_iconst (v := nI 0) hx hb dX4_multiply_0 (by decide) ?_
  refine lv_istore_n (lv' := [(3, .int (nI 0)), (0, .ref (bd 0)), (1, .ref (bd 9)), (2, .int (zI (-1)))]) hx hb dX4_multiply_1 rfl hl (by decide) rfl (fun ls hl => ?_)
  have L1 : ∀ (r i : Nat), i + r = 4000 → ∀ (H : Heap) (locs : List Loc) (ls : Array Slot), va_P D vwCl (MWw bd k st wt sm nu (zT ee) sh up (fl lo (nI 0) i) li ro so un to it) H → va_D A (MWw bd k st wt sm nu (zT ee) sh up (fl lo (nI 0) i) li ro so un to it) → va_S A s.heap H locs → lv_has ls 6 [(0, .ref (bd 0)), (1, .ref (bd 9)), (2, .int (zI (-1))), (3, .int (nI i))] → W p l e ({ frames := 1, cells := 0, slots := 0, locals := 30 }) s m ([.ref (bd 0), .ref (bd 9), .int (zI (-1))] : List Value).toArray below meth c H locs 0 0 (MQ below (va_Qv (fun w => ∃ (A2 : Nat → Int32) (l2 : Int32), RepM A2 l2 (upv (ng ee) 6) ∧ w = MWw bd k st wt sm nu (zT ee) sh up A2 l2 ro so un to it) (BcW D A) A) ([.ref (bd 0), .ref (bd 9), .int (zI (-1))] : List Value).toArray s 0 0 A) (F0 m 2 ls []) := by
    intro r
    induction r with
    | zero =>
      intro i hr H locs ls hP hD hS hl
      obtain rfl : 4000 = i := by omega
      refine lv_iload_n hx hb dX4_multiply_2 rfl (lv_at hl 3 rfl) ?_
      refine lv_sipush (v := nI 4000) hx hb dX4_multiply_3 (by decide) ?_
      refine lv_icmp_ge (tgt := 19) hx hb dX4_multiply_6 (by decide) (fun c2 => ?_) (fun c2 => absurd (nI_le (by omega) (by decide)) c2)
      obtain ⟨hP, hD⟩ := cg_i hP hD mw_lo (g := fun _ => nI 0) (fl_c _ _ rfl) (mw_lo_st _)
      refine lv_aload_n hx hb dX4_multiply_19 rfl (lv_at hl 1 rfl) ?_
      refine lv_iconst (v := nI 0) hx hb dX4_multiply_20 (by decide) ?_
      refine lv_iconst (v := nI 1) hx hb dX4_multiply_21 (by decide) ?_
      refine as_i C hP hD hS 9 mw_lo (j := 0) (by decide) (by decide) (mw_lo_st _) dX4_multiply_22 (fun H locs hP hD hS => ?_)
      refine lv_aload_n hx hb dX4_multiply_23 rfl (lv_at hl 0 rfl) ?_
      refine lv_iconst (v := nI 1) hx hb dX4_multiply_24 (by decide) ?_
      refine fp C hP hD hS tyX4_ok nmX4 0 mw_o (ci := 4) rfl 9 (by decide) in_X4_multiply_X4 lk_X4_multiply_86 rfl (ty := .int) (v := .int (nI 1)) (by decide +kernel) rfl rfl (Nat.le_of_ble_eq_true rfl) (mw_li_st _) dX4_multiply_25 (fun H locs hP hD hS => ?_)
      refine lv_iconst (v := nI 0) hx hb dX4_multiply_28 (by decide) ?_
      refine lv_istore_n (lv' := [(3, .int (nI 0)), (0, .ref (bd 0)), (1, .ref (bd 9)), (2, .int (zI (-1)))]) hx hb dX4_multiply_29 rfl hl (by decide) rfl (fun ls hl => ?_)
      have L3 : ∀ (r i : Nat), i + r = 6 → ∀ (A1 : Nat → Int32) (l1 : Int32) (h1 : RepM A1 l1 (upv (ng ee) i)), ∀ (H : Heap) (locs : List Loc) (ls : Array Slot), va_P D vwCl (MWw bd k st wt sm nu (zT ee) sh up A1 l1 ro so un to it) H → va_D A (MWw bd k st wt sm nu (zT ee) sh up A1 l1 ro so un to it) → va_S A s.heap H locs → lv_has ls 6 [(0, .ref (bd 0)), (1, .ref (bd 9)), (2, .int (zI (-1))), (3, .int (nI i))] → W p l e ({ frames := 1, cells := 0, slots := 0, locals := 30 }) s m ([.ref (bd 0), .ref (bd 9), .int (zI (-1))] : List Value).toArray below meth c H locs 0 0 (MQ below (va_Qv (fun w => ∃ (A2 : Nat → Int32) (l2 : Int32), RepM A2 l2 (upv (ng ee) 6) ∧ w = MWw bd k st wt sm nu (zT ee) sh up A2 l2 ro so un to it) (BcW D A) A) ([.ref (bd 0), .ref (bd 9), .int (zI (-1))] : List Value).toArray s 0 0 A) (F0 m 30 ls []) := by
        intro r
        induction r with
        | zero =>
          intro i hr A1 l1 h1 H locs ls hP hD hS hl
          obtain rfl : 6 = i := by omega
          refine lv_iload_n hx hb dX4_multiply_30 rfl (lv_at hl 3 rfl) ?_
          refine lv_bipush (v := nI 6) hx hb dX4_multiply_31 (by decide) ?_
          refine lv_icmp_ge (tgt := 106) hx hb dX4_multiply_33 (by decide) (fun c4 => ?_) (fun c4 => absurd (nI_le (by omega) (by decide)) c4)
          exact Rv C hP hD hS (Nat.zero_le _) (Nat.zero_le _) dX4_multiply_106 (⟨_, _, h1, rfl⟩)
        | succ r ihL3 =>
          intro i hr A1 l1 h1 H locs ls hP hD hS hl
          refine lv_iload_n hx hb dX4_multiply_30 rfl (lv_at hl 3 rfl) ?_
          refine lv_bipush (v := nI 6) hx hb dX4_multiply_31 (by decide) ?_
          refine lv_icmp_ge (tgt := 106) hx hb dX4_multiply_33 (by decide) (fun c5 => absurd c5 (nI_ge (by omega) (by decide))) (fun c5 => ?_)
          refine lv_iload_n hx hb dX4_multiply_36 rfl (lv_at hl 2 rfl) ?_
          refine lv_aload_n hx hb dX4_multiply_37 rfl (lv_at hl 0 rfl) ?_
          refine fg C hP 0 mw_o (ci := 4) rfl 5 (by decide) in_X4_multiply_X4 lk_X4_multiply_25 (v := .ref (bd 6)) rfl dX4_multiply_38 ?_
          refine lv_iload_n hx hb dX4_multiply_41 rfl (lv_at hl 3 rfl) ?_
          refine ar_i C hP 6 mw_po (j := i) (by omega) (by decide) dX4_multiply_42 ?_
          refine tp_i (y := zI (ee i)) (rfl) ?_
          refine lv_imul hx hb dX4_multiply_43 ?_
          refine tp_i (y := zI (-ee i)) (by rw [zI_mul, Int.neg_mul, Int.one_mul]) ?_
          refine lv_istore (lv' := [(4, .int (zI (-ee i))), (0, .ref (bd 0)), (1, .ref (bd 9)), (2, .int (zI (-1))), (3, .int (nI i))]) hx hb dX4_multiply_44 hl (by decide) rfl (fun ls hl => ?_)
          rcases Int.lt_or_le 0 (-ee i) with hz | hz
          · rw [zI_nat (by omega) (by have := (hT i (by omega)).2; show -ee i < 2147483648; omega)] at hl
            have hp0 := pr6_pos i
            have hp2 := (pr6_at (show i < 6 by omega)).2
            have hpl : ∀ a, pr6 i ^ a < 32768 → pr6 i ^ a * pr6 i < 2 ^ 31 := fun a h => pp_l h hp2.2
            have hvb : ∀ {v1 q q2 a : Nat}, v1 * pr6 i ^ q = upv (ng ee) (i + 1) → q2 + a = q → v1 * pr6 i ^ a ≤ upv (ng ee) 6 := fun {v1 q q2 a} h h2 => by
              refine Nat.le_trans ?_ (upv_mono (ng ee) (show i + 1 ≤ 6 by omega))
              rw [← h, ← h2]
              exact Nat.mul_le_mul_left _ (Nat.pow_le_pow_right hp0 (by omega))
            have L6 : ∀ (r : Nat) (q v1 : Nat) (A2 : Nat → Int32) (l2 : Int32) (hR : RepM A2 l2 v1) (hq : q ≤ r) (hv : v1 * pr6 i ^ q = upv (ng ee) (i + 1)) (hq31 : q < 2 ^ 31), ∀ (H : Heap) (locs : List Loc) (ls : Array Slot), va_P D vwCl (MWw bd k st wt sm nu (zT ee) sh up A2 l2 ro so un to it) H → va_D A (MWw bd k st wt sm nu (zT ee) sh up A2 l2 ro so un to it) → va_S A s.heap H locs → lv_has ls 6 [(0, .ref (bd 0)), (1, .ref (bd 9)), (2, .int (zI (-1))), (3, .int (nI i)), (4, .int (nI q))] → W p l e ({ frames := 1, cells := 0, slots := 0, locals := 30 }) s m ([.ref (bd 0), .ref (bd 9), .int (zI (-1))] : List Value).toArray below meth c H locs 0 0 (MQ below (va_Qv (fun w => ∃ (A2 : Nat → Int32) (l2 : Int32), RepM A2 l2 (upv (ng ee) 6) ∧ w = MWw bd k st wt sm nu (zT ee) sh up A2 l2 ro so un to it) (BcW D A) A) ([.ref (bd 0), .ref (bd 9), .int (zI (-1))] : List Value).toArray s 0 0 A) (F0 m 46 ls []) := by
              intro r
              induction r with
              | zero =>
                intro q v1 A2 l2 hR hq hv hq31 H locs ls hP hD hS hl
                refine lv_iload hx hb dX4_multiply_46 (lv_at hl 4 rfl) ?_
                refine lv_if_le (tgt := 100) hx hb dX4_multiply_48 (by decide) (fun c7 => ?_) (fun c7 => absurd (by rw [show q = 0 by omega]; decide) c7)
                refine lv_iinc (v := nI (i + 1)) (lv' := [(3, .int (nI (i + 1))), (0, .ref (bd 0)), (1, .ref (bd 9)), (2, .int (zI (-1))), (4, .int (nI q))]) hx hb dX4_multiply_100 hl (k := 3) rfl (by rw [← nI_add i 1]; rfl) (by decide) rfl (fun ls hl => ?_)
                refine lv_goto (tgt := 30) hx hb dX4_multiply_103 (by decide) ?_
                exact ihL3 (i + 1) (by omega) _ _ (by rw [← hv, show q = 0 by omega, Nat.pow_zero, Nat.mul_one]; exact hR) _ _ _ hP hD hS (lv_sub hl [1, 2, 3, 0] rfl)
              | succ r ihL6 =>
                intro q v1 A2 l2 hR hq hv hq31 H locs ls hP hD hS hl
                refine lv_iload hx hb dX4_multiply_46 (lv_at hl 4 rfl) ?_
                refine lv_if_le (tgt := 100) hx hb dX4_multiply_48 (by decide) (fun c8 => ?_) (fun c8 => ?_)
                · refine lv_iinc (v := nI (i + 1)) (lv' := [(3, .int (nI (i + 1))), (0, .ref (bd 0)), (1, .ref (bd 9)), (2, .int (zI (-1))), (4, .int (nI q))]) hx hb dX4_multiply_100 hl (k := 3) rfl (by rw [← nI_add i 1]; rfl) (by decide) rfl (fun ls hl => ?_)
                  refine lv_goto (tgt := 30) hx hb dX4_multiply_103 (by decide) ?_
                  exact ihL3 (i + 1) (by omega) _ _ (by rw [← hv, show q = 0 by exact nI_z0' (by omega) c8, Nat.pow_zero, Nat.mul_one]; exact hR) _ _ _ hP hD hS (lv_sub hl [1, 2, 3, 0] rfl)
                · refine lv_iconst (v := nI 1) hx hb dX4_multiply_51 (by decide) ?_
                  refine tp_i (y := nI (pr6 i ^ 0)) (rfl) ?_
                  refine lv_istore (lv' := [(5, .int (nI (pr6 i ^ 0))), (0, .ref (bd 0)), (1, .ref (bd 9)), (2, .int (zI (-1))), (3, .int (nI i)), (4, .int (nI q))]) hx hb dX4_multiply_52 hl (by decide) rfl (fun ls hl => ?_)
                  have L9 : ∀ (r : Nat) (q2 a : Nat) (hq2 : q2 ≤ r) (ha : pr6 i ^ a < 32768) (hqa : q2 + a = q), ∀ (H : Heap) (locs : List Loc) (ls : Array Slot), va_P D vwCl (MWw bd k st wt sm nu (zT ee) sh up A2 l2 ro so un to it) H → va_D A (MWw bd k st wt sm nu (zT ee) sh up A2 l2 ro so un to it) → va_S A s.heap H locs → lv_has ls 6 [(0, .ref (bd 0)), (1, .ref (bd 9)), (2, .int (zI (-1))), (3, .int (nI i)), (4, .int (nI q2)), (5, .int (nI (pr6 i ^ a)))] → W p l e ({ frames := 1, cells := 0, slots := 0, locals := 30 }) s m ([.ref (bd 0), .ref (bd 9), .int (zI (-1))] : List Value).toArray below meth c H locs 0 0 (MQ below (va_Qv (fun w => ∃ (A2 : Nat → Int32) (l2 : Int32), RepM A2 l2 (upv (ng ee) 6) ∧ w = MWw bd k st wt sm nu (zT ee) sh up A2 l2 ro so un to it) (BcW D A) A) ([.ref (bd 0), .ref (bd 9), .int (zI (-1))] : List Value).toArray s 0 0 A) (F0 m 54 ls []) := by
                    intro r
                    induction r with
                    | zero =>
                      intro q2 a hq2 ha hqa H locs ls hP hD hS hl
                      refine lv_iload hx hb dX4_multiply_54 (lv_at hl 4 rfl) ?_
                      refine lv_if_le (tgt := 90) hx hb dX4_multiply_56 (by decide) (fun c10 => ?_) (fun c10 => absurd (by rw [show q2 = 0 by omega]; decide) c10)
                      refine lv_aload_n hx hb dX4_multiply_90 rfl (lv_at hl 0 rfl) ?_
                      refine lv_aload_n hx hb dX4_multiply_91 rfl (lv_at hl 1 rfl) ?_
                      refine lv_iload hx hb dX4_multiply_92 (lv_at hl 5 rfl) ?_
                      have ha1 : 1 ≤ a := by have := nI_z0' (by omega) c10; have := nI_p c8; omega
                      refine fw_v C hD hS (rn_V (As := [.ref (bd 9), .int (nI (pr6 i ^ a))]) (rest := []) C (c_times_lo D k t l (c0 := pr6 i ^ a) (v := v1) (Nat.pow_pos hp0) ha hR (Nat.lt_of_le_of_lt (hvb hv hqa) hb0) _) (cwV 2 hts gX4_multiply_X4_times rfl rfl rfl hdX4_timesC ⟨Nat.le_of_ble_eq_true rfl, Nat.le_of_ble_eq_true rfl⟩) 0 4 rfl mw_o rfl hP hD hS rfl hl.1 rfl (Nat.le_of_ble_eq_true rfl) dX4_multiply_94 ⟨Nat.zero_le _, Nat.zero_le _⟩) (fun wr11 H locs h12 hP hD hS => ?_)
                      obtain ⟨A3, l3, hR2, rfl⟩ := h12
                      refine lv_goto (tgt := 46) hx hb dX4_multiply_97 (by decide) ?_
                      exact ihL6 q2 _ _ _ hR2 (by omega) (by rw [← hv, ← hqa, Nat.pow_add, Nat.mul_assoc, Nat.mul_comm (pr6 i ^ a)]) (by omega) _ _ _ hP hD hS (lv_sub hl [0, 1, 2, 3, 4] rfl)
                    | succ r ihL9 =>
                      intro q2 a hq2 ha hqa H locs ls hP hD hS hl
                      refine lv_iload hx hb dX4_multiply_54 (lv_at hl 4 rfl) ?_
                      refine lv_if_le (tgt := 90) hx hb dX4_multiply_56 (by decide) (fun c13 => ?_) (fun c13 => ?_)
                      · refine lv_aload_n hx hb dX4_multiply_90 rfl (lv_at hl 0 rfl) ?_
                        refine lv_aload_n hx hb dX4_multiply_91 rfl (lv_at hl 1 rfl) ?_
                        refine lv_iload hx hb dX4_multiply_92 (lv_at hl 5 rfl) ?_
                        have ha1 : 1 ≤ a := by have := nI_z0' (by omega) c13; have := nI_p c8; omega
                        refine fw_v C hD hS (rn_V (As := [.ref (bd 9), .int (nI (pr6 i ^ a))]) (rest := []) C (c_times_lo D k t l (c0 := pr6 i ^ a) (v := v1) (Nat.pow_pos hp0) ha hR (Nat.lt_of_le_of_lt (hvb hv hqa) hb0) _) (cwV 2 hts gX4_multiply_X4_times rfl rfl rfl hdX4_timesC ⟨Nat.le_of_ble_eq_true rfl, Nat.le_of_ble_eq_true rfl⟩) 0 4 rfl mw_o rfl hP hD hS rfl hl.1 rfl (Nat.le_of_ble_eq_true rfl) dX4_multiply_94 ⟨Nat.zero_le _, Nat.zero_le _⟩) (fun wr14 H locs h15 hP hD hS => ?_)
                        obtain ⟨A3, l3, hR2, rfl⟩ := h15
                        refine lv_goto (tgt := 46) hx hb dX4_multiply_97 (by decide) ?_
                        exact ihL6 q2 _ _ _ hR2 (by omega) (by rw [← hv, ← hqa, Nat.pow_add, Nat.mul_assoc, Nat.mul_comm (pr6 i ^ a)]) (by omega) _ _ _ hP hD hS (lv_sub hl [0, 1, 2, 3, 4] rfl)
                      · refine lv_iload hx hb dX4_multiply_59 (lv_at hl 5 rfl) ?_
                        refine lv_aload_n hx hb dX4_multiply_61 rfl (lv_at hl 0 rfl) ?_
                        refine fg C hP 0 mw_o (ci := 4) rfl 4 (by decide) in_X4_multiply_X4 lk_X4_multiply_22 (v := .ref (bd 5)) rfl dX4_multiply_62 ?_
                        refine lv_iload_n hx hb dX4_multiply_65 rfl (lv_at hl 3 rfl) ?_
                        refine ar_i C hP 5 mw_PR (j := i) (by omega) (by decide) dX4_multiply_66 ?_
                        refine tp_i (y := nI (pr6 i)) ((pr6_at (by omega)).1) ?_
                        refine lv_imul hx hb dX4_multiply_67 ?_
                        refine tp_i (y := nI ((pr6 i ^ a) * (pr6 i))) (pk_mul _ _) ?_
                        refine lv_ldc (v := nI 32768) hx hb hown (hts (.constant RX4 90 (32768)) (by decide +kernel)) dX4_multiply_68 ?_
                        refine lv_icmp_ge (tgt := 90) hx hb dX4_multiply_70 (by decide) (fun c16 => ?_) (fun c16 => ?_)
                        · refine lv_aload_n hx hb dX4_multiply_90 rfl (lv_at hl 0 rfl) ?_
                          refine lv_aload_n hx hb dX4_multiply_91 rfl (lv_at hl 1 rfl) ?_
                          refine lv_iload hx hb dX4_multiply_92 (lv_at hl 5 rfl) ?_
                          have ha1 : 1 ≤ a := by
                            rcases Nat.eq_zero_or_pos a with z | z
                            · subst z
                              have h9 := (nI_leI (by decide) (by have := hpl 0 ha; omega)).mp c16
                              rw [Nat.pow_zero] at h9
                              omega
                            · exact z
                          refine fw_v C hD hS (rn_V (As := [.ref (bd 9), .int (nI (pr6 i ^ a))]) (rest := []) C (c_times_lo D k t l (c0 := pr6 i ^ a) (v := v1) (Nat.pow_pos hp0) ha hR (Nat.lt_of_le_of_lt (hvb hv hqa) hb0) _) (cwV 2 hts gX4_multiply_X4_times rfl rfl rfl hdX4_timesC ⟨Nat.le_of_ble_eq_true rfl, Nat.le_of_ble_eq_true rfl⟩) 0 4 rfl mw_o rfl hP hD hS rfl hl.1 rfl (Nat.le_of_ble_eq_true rfl) dX4_multiply_94 ⟨Nat.zero_le _, Nat.zero_le _⟩) (fun wr17 H locs h18 hP hD hS => ?_)
                          obtain ⟨A3, l3, hR2, rfl⟩ := h18
                          refine lv_goto (tgt := 46) hx hb dX4_multiply_97 (by decide) ?_
                          exact ihL6 q2 _ _ _ hR2 (by omega) (by rw [← hv, ← hqa, Nat.pow_add, Nat.mul_assoc, Nat.mul_comm (pr6 i ^ a)]) (by omega) _ _ _ hP hD hS (lv_sub hl [0, 1, 2, 3, 4] rfl)
                        · refine lv_iload hx hb dX4_multiply_73 (lv_at hl 5 rfl) ?_
                          refine lv_aload_n hx hb dX4_multiply_75 rfl (lv_at hl 0 rfl) ?_
                          refine fg C hP 0 mw_o (ci := 4) rfl 4 (by decide) in_X4_multiply_X4 lk_X4_multiply_22 (v := .ref (bd 5)) rfl dX4_multiply_76 ?_
                          refine lv_iload_n hx hb dX4_multiply_79 rfl (lv_at hl 3 rfl) ?_
                          refine ar_i C hP 5 mw_PR (j := i) (by omega) (by decide) dX4_multiply_80 ?_
                          refine tp_i (y := nI (pr6 i)) ((pr6_at (by omega)).1) ?_
                          refine lv_imul hx hb dX4_multiply_81 ?_
                          refine tp_i (y := nI (pr6 i ^ (a + 1))) (by rw [pk_mul, ← Nat.pow_succ]) ?_
                          refine lv_istore (lv' := [(5, .int (nI (pr6 i ^ (a + 1)))), (0, .ref (bd 0)), (1, .ref (bd 9)), (2, .int (zI (-1))), (3, .int (nI i)), (4, .int (nI q2))]) hx hb dX4_multiply_82 hl (by decide) rfl (fun ls hl => ?_)
                          refine lv_iinc (v := nI (q2 - 1)) (lv' := [(4, .int (nI (q2 - 1))), (5, .int (nI (pr6 i ^ (a + 1)))), (0, .ref (bd 0)), (1, .ref (bd 9)), (2, .int (zI (-1))), (3, .int (nI i))]) hx hb dX4_multiply_84 hl (k := 5) rfl (nI_dec (nI_p c13)) (by decide) rfl (fun ls hl => ?_)
                          refine lv_goto (tgt := 54) hx hb dX4_multiply_87 (by decide) ?_
                          exact ihL9 (q2 - 1) (a + 1) (by omega) (pp_lt (Nat.not_le.mp fun z => c16 (nI_le z (by have := hpl a ha; omega)))) (by have := nI_p c13; omega) _ _ _ hP hD hS (lv_sub hl [2, 3, 4, 5, 0, 1] rfl)
                  exact L9 q q 0 (Nat.le_refl _) (by rw [Nat.pow_zero]; decide) (Nat.add_zero _) _ _ _ hP hD hS (lv_sub hl [1, 2, 3, 4, 5, 0] rfl)
            exact L6 ((-ee i).toNat) (-ee i).toNat _ _ _ h1 (Nat.le_refl _) rfl (by have := (hT i (by omega)).2; omega) _ _ _ hP hD hS (lv_sub hl [1, 2, 3, 4, 0] rfl)
          · refine lv_iload hx hb dX4_multiply_46 (lv_at hl 0 rfl) ?_
            refine lv_if_le (tgt := 100) hx hb dX4_multiply_48 (by decide) (fun c19 => ?_) (fun c19 => absurd (zI_le0 hz (by have := (hT i (by omega)).2; show -2147483648 ≤ -ee i; omega)) c19)
            refine lv_iinc (v := nI (i + 1)) (lv' := [(3, .int (nI (i + 1))), (4, .int (zI (-ee i))), (0, .ref (bd 0)), (1, .ref (bd 9)), (2, .int (zI (-1)))]) hx hb dX4_multiply_100 hl (k := 4) rfl (by rw [← nI_add i 1]; rfl) (by decide) rfl (fun ls hl => ?_)
            refine lv_goto (tgt := 30) hx hb dX4_multiply_103 (by decide) ?_
            exact ihL3 (i + 1) (by omega) _ _ (by rw [upv]; show RepM _ _ (_ * pr6 i ^ (-ee i).toNat); rw [show (-ee i).toNat = 0 by omega, Nat.pow_zero, Nat.mul_one]; exact h1) _ _ _ hP hD hS (lv_sub hl [2, 3, 4, 0] rfl)
      exact L3 (6 - 0) 0 (by omega) _ _ RepM_one _ _ _ hP hD hS (lv_sub hl [1, 2, 3, 0] rfl)
    | succ r ihL1 =>
      intro i hr H locs ls hP hD hS hl
      refine lv_iload_n hx hb dX4_multiply_2 rfl (lv_at hl 3 rfl) ?_
      refine lv_sipush (v := nI 4000) hx hb dX4_multiply_3 (by decide) ?_
      refine lv_icmp_ge (tgt := 19) hx hb dX4_multiply_6 (by decide) (fun c20 => absurd c20 (nI_ge (by omega) (by decide))) (fun c20 => ?_)
      refine lv_aload_n hx hb dX4_multiply_9 rfl (lv_at hl 1 rfl) ?_
      refine lv_iload_n hx hb dX4_multiply_10 rfl (lv_at hl 3 rfl) ?_
      refine lv_iconst (v := nI 0) hx hb dX4_multiply_11 (by decide) ?_
      refine as_i C hP hD hS 9 mw_lo (j := i) (by omega) (by decide) (mw_lo_st _) dX4_multiply_12 (fun H locs hP hD hS => ?_)
      refine lv_iinc (v := nI (i + 1)) (lv' := [(3, .int (nI (i + 1))), (0, .ref (bd 0)), (1, .ref (bd 9)), (2, .int (zI (-1)))]) hx hb dX4_multiply_13 hl (k := 3) rfl (by rw [← nI_add i 1]; rfl) (by decide) rfl (fun ls hl => ?_)
      refine lv_goto (tgt := 2) hx hb dX4_multiply_16 (by decide) ?_
      rw [fl_s] at hP hD
      exact ihL1 (i + 1) (by omega) _ _ _ hP hD hS (lv_sub hl [1, 2, 3, 0] rfl)
  rw [← fl_0 lo (nI 0)] at hP hD
  exact L1 (4000 - 0) 0 (by omega) _ _ _ hP hD hS (lv_sub hl [1, 2, 3, 0] rfl)

theorem upv_le1 {e : Nat → Int} : ∀ i, (∀ j, j < i → e j ≤ 0) → upv e i = 1
  | 0, _ => rfl
  | i + 1, h => by
    rw [upv, upv_le1 i (fun j hj => h j (by omega)), show (e i).toNat = 0 by have := h i (by omega); omega, Nat.pow_zero]
theorem upv_pos (e : Nat → Int) : ∀ i, 1 ≤ upv e i
  | 0 => Nat.le_refl _
  | i + 1 => by
    rw [upv]
    exact Nat.mul_pos (upv_pos e i) (Nat.pow_pos (pr6_pos i))
theorem upv_gt1 {e : Nat → Int} {j : Nat} (hj : j < 6) (h : 0 < e j) : 1 < upv e 6 := by
  refine Nat.lt_of_lt_of_le ?_ (upv_mono e (show j + 1 ≤ 6 by omega))
  rw [upv]
  have h1 := upv_pos e j
  have h2 := (pr6_at hj).2.1
  have h3 : 1 < pr6 j ^ (e j).toNat := Nat.one_lt_pow (by omega) (by omega)
  exact Nat.lt_of_lt_of_le h3 (Nat.le_mul_of_pos_left _ h1)
def anyp (e : Nat → Int) (i : Nat) : Prop := ∃ j, j < i ∧ 0 < e j
theorem anyp_0 (e : Nat → Int) : pb (anyp e 0) = nI 0 := pb_f (fun ⟨j, h, _⟩ => absurd h (Nat.not_lt_zero _))
theorem anyp_t {e : Nat → Int} {i : Nat} (h : anyp e i) : pb (anyp e (i + 1)) = nI 1 := pb_t (let ⟨j, h1, h2⟩ := h; ⟨j, by omega, h2⟩)
theorem anyp_n {e : Nat → Int} {i : Nat} (h : 0 < e i) : pb (anyp e (i + 1)) = nI 1 := pb_t ⟨i, by omega, h⟩
theorem anyp_f {e : Nat → Int} {i : Nat} (h : ¬ anyp e i) (h2 : ¬ 0 < e i) : pb (anyp e (i + 1)) = nI 0 := pb_f (fun ⟨j, h3, h4⟩ => by
  rcases Nat.lt_or_ge j i with q | q
  · exact h ⟨j, q, h4⟩
  · obtain rfl : j = i := by omega
    exact h2 h4)
theorem zI_p {z : Int} (h1 : -1073741824 ≤ z) (h2 : z ≤ 1073741824) (h : ¬ zI z ≤ 0) : 0 < z := by
  rcases Int.lt_or_le 0 z with q | q
  · exact q
  · exact absurd (zI_le0 q (by omega)) h
theorem zI_np {z : Int} (h1 : -1073741824 ≤ z) (h2 : z ≤ 1073741824) (h : zI z ≤ 0) : ¬ 0 < z := fun q => by
  rw [zI_nat (by omega) (by omega)] at h
  have := nI_z0' (by omega) h
  omega
theorem zI_n {z : Int} (h1 : -1073741824 ≤ z) (h2 : z ≤ 1073741824) (h : ¬ 0 ≤ zI z) : 0 < -z := by
  rcases Int.lt_or_le z 0 with q | q
  · omega
  · rw [zI_nat q (by omega)] at h
    exact absurd (nI_pos' (by omega)) h
theorem zI_nn {z : Int} (h1 : -1073741824 ≤ z) (h2 : z ≤ 1073741824) (h : 0 ≤ zI z) : ¬ 0 < -z := fun q => by
  rw [Int32.le_iff_toInt_le, zI_toInt (by omega) (by omega)] at h
  have : (0 : Int32).toInt = 0 := rfl
  omega
theorem sg_up {e : Nat → Int} (h : anyp e 6) (h2 : ¬ anyp (ng e) 6) : nI 1 = f_cmp (upv e 6) (upv (ng e) 6) := by
  obtain ⟨j, hj, h1⟩ := h
  refine cmp_gt ?_
  rw [upv_le1 (e := ng e) 6 (fun j hj => Int.not_lt.mp fun q => h2 ⟨j, hj, q⟩)]
  exact upv_gt1 hj h1
theorem sg_dn {e : Nat → Int} (h : ¬ anyp e 6) (h2 : anyp (ng e) 6) : (-1 : Int32) = f_cmp (upv e 6) (upv (ng e) 6) := by
  obtain ⟨j, hj, h1⟩ := h2
  refine cmp_lt ?_
  rw [upv_le1 (e := e) 6 (fun j hj => Int.not_lt.mp fun q => h ⟨j, hj, q⟩)]
  exact upv_gt1 hj h1
theorem sg_no {e : Nat → Int} (h : ¬ anyp e 6) (h2 : ¬ anyp (ng e) 6) : nI 0 = f_cmp (upv e 6) (upv (ng e) 6) := by
  refine cmp_eq ?_
  rw [upv_le1 (e := e) 6 (fun j hj => Int.not_lt.mp fun q => h ⟨j, hj, q⟩), upv_le1 (e := ng e) 6 (fun j hj => Int.not_lt.mp fun q => h2 ⟨j, hj, q⟩)]
theorem wvm_full {f : Nat → Nat} {n : Nat} (h : ∀ j, n ≤ j → f j = 0) (hn : n ≤ 4000) : wvm f 4000 = wvm f n := by
  have := wvm_up h (4000 - n)
  rw [show n + (4000 - n) = 4000 by omega] at this
  exact this
set_option maxRecDepth 20000 in
theorem in_X4_signOf_X4 : ∀ w ∈ u_ws RX4 TX4 15, w ∈ wsX4_signOf := by decide +kernel
set_option maxRecDepth 20000 in
theorem lk_X4_signOf_31 : Cond.fieldLink RX4 31 (TX4 7).1 (TX4 7).2.1 (TX4 7).2.2.1 ∈ wsX4_signOf := by decide +kernel
set_option maxRecDepth 20000 in
theorem lk_X4_signOf_34 : Cond.fieldLink RX4 34 (TX4 8).1 (TX4 8).2.1 (TX4 8).2.2.1 ∈ wsX4_signOf := by decide +kernel
set_option maxRecDepth 20000 in
theorem lk_X4_signOf_25 : Cond.fieldLink RX4 25 (TX4 5).1 (TX4 5).2.1 (TX4 5).2.2.1 ∈ wsX4_signOf := by decide +kernel
set_option maxHeartbeats 4000000 in
set_option maxRecDepth 100000 in
theorem c_X4_signOf (D : va_G) (k : Nat → ClassId) (t : Nat → Nat) (l : Launch) {bd : Nat → Nat} {st wt sm nu sh up lo : Nat → Int32} {li : Int32} {ro so un to : Nat → Int64} {it : Int32} {ee : Nat → Int} (hT : ZT (zT ee) ee) (hb0 : upv ee 6 < mbig) (hb1 : upv (ng ee) 6 < mbig) : Ci D k t l yX4_signOf wsX4_signOf ({ frames := 2, cells := 0, slots := 0, locals := 60 }) [.ref (bd 0)] (MWw bd k st wt sm nu (zT ee) sh up lo li ro so un to it) (fun r w => ∃ (u2 l2 : Nat → Int32) (i2 : Int32), r = f_cmp (upv ee 6) (upv (ng ee) 6) ∧ w = MWw bd k st wt sm nu (zT ee) sh u2 l2 i2 ro so un to it) 0 0 := by
  refine fw_of (cc := cX4_signOf) (maxL := 4) (ret := (some .int)) (Qc := fun A => va_Qi (fun r w => ∃ (u2 l2 : Nat → Int32) (i2 : Int32), r = f_cmp (upv ee 6) (upv (ng ee) 6) ∧ w = MWw bd k st wt sm nu (zT ee) sh u2 l2 i2 ro so un to it) (BcW D A) A) (by decide) rfl (Nat.le_of_ble_eq_true rfl) ?_
  intro p e s m below meth c A ls C hP hD hl
  have C : Cx RX4 "signOf" cX4_signOf 4 (some .int) wsX4_signOf D k t A p s m ([.ref (bd 0)] : List Value).toArray meth c := C
  have hl : lv_has ls 4 [(0, .ref (bd 0))] := hl
  have hx := C.1
  have hb := C.2.1
  have hown := C.2.2.2.2.1
  have hts := C.2.2.2.2.2.1
  have hK := C.2.2.2.2.2.2.2.2.1
  have hZ := C.2.2.2.2.2.2.2.2.2.1
  have hN := C.2.2.2.2.2.2.2.2.2.2
  have hS : va_S A s.heap s.heap [] := va_S.rf
  refine lv_iconst (v := nI 0) hx hb dX4_signOf_0 (by decide) ?_
  refine tp_i (y := pb (anyp ee 0)) ((anyp_0 ee).symm) ?_
  refine lv_istore_n (lv' := [(1, .int (pb (anyp ee 0))), (0, .ref (bd 0))]) hx hb dX4_signOf_1 rfl hl (by decide) rfl (fun ls hl => ?_)
  refine lv_iconst (v := nI 0) hx hb dX4_signOf_2 (by decide) ?_
  refine tp_i (y := pb (anyp (ng ee) 0)) ((anyp_0 (ng ee)).symm) ?_
  refine lv_istore_n (lv' := [(2, .int (pb (anyp (ng ee) 0))), (1, .int (pb (anyp ee 0))), (0, .ref (bd 0))]) hx hb dX4_signOf_3 rfl hl (by decide) rfl (fun ls hl => ?_)
  refine lv_iconst (v := nI 0) hx hb dX4_signOf_4 (by decide) ?_
  refine lv_istore_n (lv' := [(3, .int (nI 0)), (2, .int (pb (anyp (ng ee) 0))), (1, .int (pb (anyp ee 0))), (0, .ref (bd 0))]) hx hb dX4_signOf_5 rfl hl (by decide) rfl (fun ls hl => ?_)
  have L1 : ∀ (r i : Nat), i + r = 6 → ∀ (H : Heap) (locs : List Loc) (ls : Array Slot), va_P D vwCl (MWw bd k st wt sm nu (zT ee) sh up lo li ro so un to it) H → va_D A (MWw bd k st wt sm nu (zT ee) sh up lo li ro so un to it) → va_S A s.heap H locs → lv_has ls 4 [(0, .ref (bd 0)), (1, .int (pb (anyp ee i))), (2, .int (pb (anyp (ng ee) i))), (3, .int (nI i))] → W p l e ({ frames := 2, cells := 0, slots := 0, locals := 60 }) s m ([.ref (bd 0)] : List Value).toArray below meth c H locs 0 0 (MQ below (va_Qi (fun r w => ∃ (u2 l2 : Nat → Int32) (i2 : Int32), r = f_cmp (upv ee 6) (upv (ng ee) 6) ∧ w = MWw bd k st wt sm nu (zT ee) sh u2 l2 i2 ro so un to it) (BcW D A) A) ([.ref (bd 0)] : List Value).toArray s 0 0 A) (F0 m 6 ls []) := by
    intro r
    induction r with
    | zero =>
      intro i hr H locs ls hP hD hS hl
      obtain rfl : 6 = i := by omega
      refine lv_iload_n hx hb dX4_signOf_6 rfl (lv_at hl 3 rfl) ?_
      refine lv_bipush (v := nI 6) hx hb dX4_signOf_7 (by decide) ?_
      refine lv_icmp_ge (tgt := 56) hx hb dX4_signOf_9 (by decide) (fun c2 => ?_) (fun c2 => absurd (nI_le (by omega) (by decide)) c2)
      refine lv_iload_n hx hb dX4_signOf_56 rfl (lv_at hl 1 rfl) ?_
      refine lv_if_eq (tgt := 64) hx hb dX4_signOf_57 (by decide) (fun c3 => ?_) (fun c3 => ?_)
      · have c3 := pb_z c3
        refine lv_iload_n hx hb dX4_signOf_64 rfl (lv_at hl 1 rfl) ?_
        refine lv_if_eq (tgt := 72) hx hb dX4_signOf_65 (by decide) (fun c4 => ?_) (fun c4 => ?_)
        · have c4 := pb_z c4
          refine lv_iload_n hx hb dX4_signOf_72 rfl (lv_at hl 2 rfl) ?_
          refine lv_if_eq (tgt := 80) hx hb dX4_signOf_73 (by decide) (fun c5 => ?_) (fun c5 => ?_)
          · have c5 := pb_z c5
            refine lv_iconst (v := nI 0) hx hb dX4_signOf_80 (by decide) ?_
            exact Ri C hP hD hS (Nat.zero_le _) (Nat.zero_le _) dX4_signOf_81 (⟨up, lo, li, sg_no c3 c5, rfl⟩)
          · have c5 := pb_nz c5
            refine lv_iconst (v := (-1)) hx hb dX4_signOf_76 (by decide) ?_
            refine lv_goto (tgt := 81) hx hb dX4_signOf_77 (by decide) ?_
            exact Ri C hP hD hS (Nat.zero_le _) (Nat.zero_le _) dX4_signOf_81 (⟨up, lo, li, sg_dn c3 c5, rfl⟩)
        · have c4 := pb_nz c4
          refine lv_iconst (v := nI 1) hx hb dX4_signOf_68 (by decide) ?_
          refine lv_goto (tgt := 81) hx hb dX4_signOf_69 (by decide) ?_
          exact Ri C hP hD hS (Nat.zero_le _) (Nat.zero_le _) dX4_signOf_81 (absurd c4 c3)
      · have c3 := pb_nz c3
        refine lv_iload_n hx hb dX4_signOf_60 rfl (lv_at hl 2 rfl) ?_
        refine lv_if_ne (tgt := 82) hx hb dX4_signOf_61 (by decide) (fun c6 => ?_) (fun c6 => ?_)
        · have c6 := pb_nz c6
          refine lv_aload_n hx hb dX4_signOf_82 rfl (lv_at hl 0 rfl) ?_
          refine lv_aload_n hx hb dX4_signOf_83 rfl (lv_at hl 0 rfl) ?_
          refine fg C hP 0 mw_o (ci := 4) rfl 7 (by decide) in_X4_signOf_X4 lk_X4_signOf_31 (v := .ref (bd 8)) rfl dX4_signOf_84 ?_
          refine lv_iconst (v := nI 1) hx hb dX4_signOf_87 (by decide) ?_
          refine tp_i (y := zI 1) (rfl) ?_
          refine fw_v C hD hS (rn_V (As := [.ref (bd 8), .int (zI 1)]) (rest := []) C (c_mult_up D k t l hT hb0 _) (cwV 2 hts gX4_signOf_X4_multiply rfl rfl rfl hdX4_multiplyC ⟨Nat.le_of_ble_eq_true rfl, Nat.le_of_ble_eq_true rfl⟩) 0 4 rfl mw_o rfl hP hD hS rfl hl.1 rfl (Nat.le_of_ble_eq_true rfl) dX4_signOf_88 ⟨Nat.zero_le _, Nat.zero_le _⟩) (fun wr7 H locs h8 hP hD hS => ?_)
          obtain ⟨Bup, lup, hup, rfl⟩ := h8
          refine lv_aload_n hx hb dX4_signOf_91 rfl (lv_at hl 0 rfl) ?_
          refine lv_aload_n hx hb dX4_signOf_92 rfl (lv_at hl 0 rfl) ?_
          refine fg C hP 0 mw_o (ci := 4) rfl 8 (by decide) in_X4_signOf_X4 lk_X4_signOf_34 (v := .ref (bd 9)) rfl dX4_signOf_93 ?_
          refine lv_iconst (v := (-1)) hx hb dX4_signOf_96 (by decide) ?_
          refine tp_i (y := zI (-1)) (rfl) ?_
          refine fw_v C hD hS (rn_V (As := [.ref (bd 9), .int (zI (-1))]) (rest := []) C (c_mult_lo D k t l hT hb1 _) (cwV 2 hts gX4_signOf_X4_multiply rfl rfl rfl hdX4_multiplyC ⟨Nat.le_of_ble_eq_true rfl, Nat.le_of_ble_eq_true rfl⟩) 0 4 rfl mw_o rfl hP hD hS rfl hl.1 rfl (Nat.le_of_ble_eq_true rfl) dX4_signOf_97 ⟨Nat.zero_le _, Nat.zero_le _⟩) (fun wr9 H locs h10 hP hD hS => ?_)
          obtain ⟨Blo, llo, hlo, rfl⟩ := h10
          obtain ⟨f, n, hn, _, _, hA0, hf, hz, hv⟩ := hup
          obtain ⟨g, m2, hm, _, _, hB0, hg, hzg, hw⟩ := hlo
          refine lv_sipush (v := nI 3999) hx hb dX4_signOf_100 (by decide) ?_
          refine lv_istore_n (lv' := [(3, .int (nI 3999)), (0, .ref (bd 0)), (1, .int (pb (anyp ee 6))), (2, .int (pb (anyp (ng ee) 6)))]) hx hb dX4_signOf_103 rfl hl (by decide) rfl (fun ls hl => ?_)
          have L11 : ∀ (r : Nat) (hq : ∀ j, r ≤ j → j < 4000 → f j = g j) (hr : r ≤ 4000), ∀ (H : Heap) (locs : List Loc) (ls : Array Slot), va_P D vwCl (MWw bd k st wt sm nu (zT ee) sh Bup Blo llo ro so un to it) H → va_D A (MWw bd k st wt sm nu (zT ee) sh Bup Blo llo ro so un to it) → va_S A s.heap H locs → lv_has ls 4 [(0, .ref (bd 0)), (3, .int (nI r - nI 1))] → W p l e ({ frames := 2, cells := 0, slots := 0, locals := 60 }) s m ([.ref (bd 0)] : List Value).toArray below meth c H locs 0 0 (MQ below (va_Qi (fun r w => ∃ (u2 l2 : Nat → Int32) (i2 : Int32), r = f_cmp (upv ee 6) (upv (ng ee) 6) ∧ w = MWw bd k st wt sm nu (zT ee) sh u2 l2 i2 ro so un to it) (BcW D A) A) ([.ref (bd 0)] : List Value).toArray s 0 0 A) (F0 m 104 ls []) := by
            intro r
            induction r with
            | zero =>
              intro hq hr H locs ls hP hD hS hl
              refine lv_iload_n hx hb dX4_signOf_104 rfl (lv_at hl 1 rfl) ?_
              refine lv_if_lt (tgt := 150) hx hb dX4_signOf_105 (by decide) (fun c12 => ?_) (fun c12 => absurd (by decide) c12)
              refine lv_iconst (v := nI 0) hx hb dX4_signOf_150 (by decide) ?_
              exact Ri C hP hD hS (Nat.zero_le _) (Nat.zero_le _) dX4_signOf_151 (⟨_, _, _, cmp_eq (by rw [← hv, ← hw, ← wvm_full hz hn, ← wvm_full hzg hm]; exact wvm_cg 4000 (fun j hj => hq j (Nat.zero_le _) hj)), rfl⟩)
            | succ r ihL11 =>
              intro hq hr H locs ls hP hD hS hl
              rw [show nI (r + 1) - nI 1 = nI r from nI_pred r] at hl
              refine lv_iload_n hx hb dX4_signOf_104 rfl (lv_at hl 1 rfl) ?_
              refine lv_if_lt (tgt := 150) hx hb dX4_signOf_105 (by decide) (fun c13 => absurd c13 (nI_pos (by omega))) (fun c13 => ?_)
              refine lv_aload_n hx hb dX4_signOf_108 rfl (lv_at hl 0 rfl) ?_
              refine fg C hP 0 mw_o (ci := 4) rfl 7 (by decide) in_X4_signOf_X4 lk_X4_signOf_31 (v := .ref (bd 8)) rfl dX4_signOf_109 ?_
              refine lv_iload_n hx hb dX4_signOf_112 rfl (lv_at hl 1 rfl) ?_
              refine ar_i C hP 8 mw_up (j := r) (by omega) (by decide) dX4_signOf_113 ?_
              refine tp_i (y := nI (f r)) (hA0 r (by omega)) ?_
              refine lv_aload_n hx hb dX4_signOf_114 rfl (lv_at hl 0 rfl) ?_
              refine fg C hP 0 mw_o (ci := 4) rfl 8 (by decide) in_X4_signOf_X4 lk_X4_signOf_34 (v := .ref (bd 9)) rfl dX4_signOf_115 ?_
              refine lv_iload_n hx hb dX4_signOf_118 rfl (lv_at hl 1 rfl) ?_
              refine ar_i C hP 9 mw_lo (j := r) (by omega) (by decide) dX4_signOf_119 ?_
              refine tp_i (y := nI (g r)) (hB0 r (by omega)) ?_
              refine lv_icmp_eq (tgt := 144) hx hb dX4_signOf_120 (by decide) (fun c14 => ?_) (fun c14 => ?_)
              · refine lv_iinc (v := nI r - nI 1) (lv' := [(3, .int (nI r - nI 1)), (0, .ref (bd 0))]) hx hb dX4_signOf_144 hl (k := 1) rfl (by rw [Int32.sub_eq_add_neg]; rfl) (by decide) rfl (fun ls hl => ?_)
                refine lv_goto (tgt := 104) hx hb dX4_signOf_147 (by decide) ?_
                exact ihL11 (fun j h1 h2 => by
                  rcases Nat.lt_or_ge r j with q | q
                  · exact hq j q h2
                  · obtain rfl : j = r := by omega
                    exact nI_inj (Nat.lt_trans (hf j) (by decide)) (Nat.lt_trans (hg j) (by decide)) c14) (by omega) _ _ _ hP hD hS (lv_sub hl [1, 0] rfl)
              · refine lv_aload_n hx hb dX4_signOf_123 rfl (lv_at hl 0 rfl) ?_
                refine fg C hP 0 mw_o (ci := 4) rfl 7 (by decide) in_X4_signOf_X4 lk_X4_signOf_31 (v := .ref (bd 8)) rfl dX4_signOf_124 ?_
                refine lv_iload_n hx hb dX4_signOf_127 rfl (lv_at hl 1 rfl) ?_
                refine ar_i C hP 8 mw_up (j := r) (by omega) (by decide) dX4_signOf_128 ?_
                refine tp_i (y := nI (f r)) (hA0 r (by omega)) ?_
                refine lv_aload_n hx hb dX4_signOf_129 rfl (lv_at hl 0 rfl) ?_
                refine fg C hP 0 mw_o (ci := 4) rfl 8 (by decide) in_X4_signOf_X4 lk_X4_signOf_34 (v := .ref (bd 9)) rfl dX4_signOf_130 ?_
                refine lv_iload_n hx hb dX4_signOf_133 rfl (lv_at hl 1 rfl) ?_
                refine ar_i C hP 9 mw_lo (j := r) (by omega) (by decide) dX4_signOf_134 ?_
                refine tp_i (y := nI (g r)) (hB0 r (by omega)) ?_
                refine lv_icmp_le (tgt := 142) hx hb dX4_signOf_135 (by decide) (fun c15 => ?_) (fun c15 => ?_)
                · refine lv_iconst (v := (-1)) hx hb dX4_signOf_142 (by decide) ?_
                  exact Ri C hP hD hS (Nat.zero_le _) (Nat.zero_le _) dX4_signOf_143 (⟨_, _, _, cmp_lt (by rw [← hv, ← hw, ← wvm_full hz hn, ← wvm_full hzg hm]; exact wvm_dig 4000 (by omega) (fun j _ => hf j) (by have h1 := (nI_leI (Nat.lt_trans (hf r) (by decide)) (Nat.lt_trans (hg r) (by decide))).mp c15; have h2 : f r ≠ g r := fun q => c14 (by rw [q]); omega) (fun j h1 h2 => hq j h1 h2)), rfl⟩)
                · refine lv_iconst (v := nI 1) hx hb dX4_signOf_138 (by decide) ?_
                  refine lv_goto (tgt := 143) hx hb dX4_signOf_139 (by decide) ?_
                  exact Ri C hP hD hS (Nat.zero_le _) (Nat.zero_le _) dX4_signOf_143 (⟨_, _, _, cmp_gt (by rw [← hv, ← hw, ← wvm_full hz hn, ← wvm_full hzg hm]; exact wvm_dig 4000 (by omega) (fun j _ => hg j) (Nat.not_le.mp fun q => c15 (nI_le q (Nat.lt_trans (hg r) (by decide)))) (fun j h1 h2 => (hq j h1 h2).symm)), rfl⟩)
          exact L11 4000 (fun j h1 h2 => absurd h1 (by omega)) (Nat.le_refl _) _ _ _ hP hD hS (lv_sub hl [1, 0] rfl)
        · have c6 := pb_z c6
          refine lv_iload_n hx hb dX4_signOf_64 rfl (lv_at hl 1 rfl) ?_
          refine lv_if_eq (tgt := 72) hx hb dX4_signOf_65 (by decide) (fun c16 => ?_) (fun c16 => ?_)
          · have c16 := pb_z c16
            refine lv_iload_n hx hb dX4_signOf_72 rfl (lv_at hl 2 rfl) ?_
            refine lv_if_eq (tgt := 80) hx hb dX4_signOf_73 (by decide) (fun c17 => ?_) (fun c17 => ?_)
            · have c17 := pb_z c17
              refine lv_iconst (v := nI 0) hx hb dX4_signOf_80 (by decide) ?_
              exact Ri C hP hD hS (Nat.zero_le _) (Nat.zero_le _) dX4_signOf_81 (absurd c3 c16)
            · have c17 := pb_nz c17
              refine lv_iconst (v := (-1)) hx hb dX4_signOf_76 (by decide) ?_
              refine lv_goto (tgt := 81) hx hb dX4_signOf_77 (by decide) ?_
              exact Ri C hP hD hS (Nat.zero_le _) (Nat.zero_le _) dX4_signOf_81 (absurd c3 c16)
          · have c16 := pb_nz c16
            refine lv_iconst (v := nI 1) hx hb dX4_signOf_68 (by decide) ?_
            refine lv_goto (tgt := 81) hx hb dX4_signOf_69 (by decide) ?_
            exact Ri C hP hD hS (Nat.zero_le _) (Nat.zero_le _) dX4_signOf_81 (⟨up, lo, li, sg_up c3 c6, rfl⟩)
    | succ r ihL1 =>
      intro i hr H locs ls hP hD hS hl
      refine lv_iload_n hx hb dX4_signOf_6 rfl (lv_at hl 3 rfl) ?_
      refine lv_bipush (v := nI 6) hx hb dX4_signOf_7 (by decide) ?_
      refine lv_icmp_ge (tgt := 56) hx hb dX4_signOf_9 (by decide) (fun c18 => absurd c18 (nI_ge (by omega) (by decide))) (fun c18 => ?_)
      refine lv_iload_n hx hb dX4_signOf_12 rfl (lv_at hl 1 rfl) ?_
      have J20 : ∀ (ls : Array Slot), lv_has ls 4 [(0, .ref (bd 0)), (1, .int (pb (anyp ee i))), (2, .int (pb (anyp (ng ee) i))), (3, .int (nI i))] → W p l e ({ frames := 2, cells := 0, slots := 0, locals := 60 }) s m ([.ref (bd 0)] : List Value).toArray below meth c H locs 0 0 (MQ below (va_Qi (fun r w => ∃ (u2 l2 : Nat → Int32) (i2 : Int32), r = f_cmp (upv ee 6) (upv (ng ee) 6) ∧ w = MWw bd k st wt sm nu (zT ee) sh u2 l2 i2 ro so un to it) (BcW D A) A) ([.ref (bd 0)] : List Value).toArray s 0 0 A) (F0 m 30 ls [.int (pb (anyp ee (i + 1)))]) := by
        intro ls hl
        refine lv_istore_n (lv' := [(1, .int (pb (anyp ee (i + 1)))), (0, .ref (bd 0)), (2, .int (pb (anyp (ng ee) i))), (3, .int (nI i))]) hx hb dX4_signOf_30 rfl hl (by decide) rfl (fun ls hl => ?_)
        refine lv_iload_n hx hb dX4_signOf_31 rfl (lv_at hl 2 rfl) ?_
        have J22 : ∀ (ls : Array Slot), lv_has ls 4 [(1, .int (pb (anyp ee (i + 1)))), (0, .ref (bd 0)), (2, .int (pb (anyp (ng ee) i))), (3, .int (nI i))] → W p l e ({ frames := 2, cells := 0, slots := 0, locals := 60 }) s m ([.ref (bd 0)] : List Value).toArray below meth c H locs 0 0 (MQ below (va_Qi (fun r w => ∃ (u2 l2 : Nat → Int32) (i2 : Int32), r = f_cmp (upv ee 6) (upv (ng ee) 6) ∧ w = MWw bd k st wt sm nu (zT ee) sh u2 l2 i2 ro so un to it) (BcW D A) A) ([.ref (bd 0)] : List Value).toArray s 0 0 A) (F0 m 49 ls [.int (pb (anyp (ng ee) (i + 1)))]) := by
          intro ls hl
          refine lv_istore_n (lv' := [(2, .int (pb (anyp (ng ee) (i + 1)))), (1, .int (pb (anyp ee (i + 1)))), (0, .ref (bd 0)), (3, .int (nI i))]) hx hb dX4_signOf_49 rfl hl (by decide) rfl (fun ls hl => ?_)
          refine lv_iinc (v := nI (i + 1)) (lv' := [(3, .int (nI (i + 1))), (2, .int (pb (anyp (ng ee) (i + 1)))), (1, .int (pb (anyp ee (i + 1)))), (0, .ref (bd 0))]) hx hb dX4_signOf_50 hl (k := 3) rfl (by rw [← nI_add i 1]; rfl) (by decide) rfl (fun ls hl => ?_)
          refine lv_goto (tgt := 6) hx hb dX4_signOf_53 (by decide) ?_
          exact ihL1 (i + 1) (by omega) _ _ _ hP hD hS (lv_sub hl [3, 2, 1, 0] rfl)
        refine lv_if_ne (tgt := 44) hx hb dX4_signOf_32 (by decide) (fun c21 => ?_) (fun c21 => ?_)
        · have c21 := pb_nz c21
          refine lv_iconst (v := nI 1) hx hb dX4_signOf_44 (by decide) ?_
          refine lv_goto (tgt := 49) hx hb dX4_signOf_45 (by decide) ?_
          refine tp_i (y := pb (anyp (ng ee) (i + 1))) ((anyp_t c21).symm) ?_
          exact J22 ls (lv_sub hl [0, 1, 2, 3] rfl)
        · have c21 := pb_z c21
          refine lv_aload_n hx hb dX4_signOf_35 rfl (lv_at hl 1 rfl) ?_
          refine fg C hP 0 mw_o (ci := 4) rfl 5 (by decide) in_X4_signOf_X4 lk_X4_signOf_25 (v := .ref (bd 6)) rfl dX4_signOf_36 ?_
          refine lv_iload_n hx hb dX4_signOf_39 rfl (lv_at hl 3 rfl) ?_
          refine ar_i C hP 6 mw_po (j := i) (by omega) (by decide) dX4_signOf_40 ?_
          refine tp_i (y := zI (ee i)) (rfl) ?_
          refine lv_if_ge (tgt := 48) hx hb dX4_signOf_41 (by decide) (fun c23 => ?_) (fun c23 => ?_)
          · refine lv_iconst (v := nI 0) hx hb dX4_signOf_48 (by decide) ?_
            refine tp_i (y := pb (anyp (ng ee) (i + 1))) ((anyp_f c21 (zI_nn (hT i (by omega)).2.1 (hT i (by omega)).2.2 c23)).symm) ?_
            exact J22 ls (lv_sub hl [0, 1, 2, 3] rfl)
          · refine lv_iconst (v := nI 1) hx hb dX4_signOf_44 (by decide) ?_
            refine lv_goto (tgt := 49) hx hb dX4_signOf_45 (by decide) ?_
            refine tp_i (y := pb (anyp (ng ee) (i + 1))) ((anyp_n (e := ng ee) (zI_n (hT i (by omega)).2.1 (hT i (by omega)).2.2 c23)).symm) ?_
            exact J22 ls (lv_sub hl [0, 1, 2, 3] rfl)
      refine lv_if_ne (tgt := 25) hx hb dX4_signOf_13 (by decide) (fun c19 => ?_) (fun c19 => ?_)
      · have c19 := pb_nz c19
        refine lv_iconst (v := nI 1) hx hb dX4_signOf_25 (by decide) ?_
        refine lv_goto (tgt := 30) hx hb dX4_signOf_26 (by decide) ?_
        refine tp_i (y := pb (anyp ee (i + 1))) ((anyp_t c19).symm) ?_
        exact J20 ls (lv_sub hl [0, 1, 2, 3] rfl)
      · have c19 := pb_z c19
        refine lv_aload_n hx hb dX4_signOf_16 rfl (lv_at hl 0 rfl) ?_
        refine fg C hP 0 mw_o (ci := 4) rfl 5 (by decide) in_X4_signOf_X4 lk_X4_signOf_25 (v := .ref (bd 6)) rfl dX4_signOf_17 ?_
        refine lv_iload_n hx hb dX4_signOf_20 rfl (lv_at hl 3 rfl) ?_
        refine ar_i C hP 6 mw_po (j := i) (by omega) (by decide) dX4_signOf_21 ?_
        refine tp_i (y := zI (ee i)) (rfl) ?_
        refine lv_if_le (tgt := 29) hx hb dX4_signOf_22 (by decide) (fun c24 => ?_) (fun c24 => ?_)
        · refine lv_iconst (v := nI 0) hx hb dX4_signOf_29 (by decide) ?_
          refine tp_i (y := pb (anyp ee (i + 1))) ((anyp_f c19 (zI_np (hT i (by omega)).2.1 (hT i (by omega)).2.2 c24)).symm) ?_
          exact J20 ls (lv_sub hl [0, 1, 2, 3] rfl)
        · refine lv_iconst (v := nI 1) hx hb dX4_signOf_25 (by decide) ?_
          refine lv_goto (tgt := 30) hx hb dX4_signOf_26 (by decide) ?_
          refine tp_i (y := pb (anyp ee (i + 1))) ((anyp_n (zI_p (hT i (by omega)).2.1 (hT i (by omega)).2.2 c24)).symm) ?_
          exact J20 ls (lv_sub hl [0, 1, 2, 3] rfl)
  exact L1 (6 - 0) 0 (by omega) _ _ _ hP hD hS (lv_sub hl [3, 2, 1, 0] rfl)

