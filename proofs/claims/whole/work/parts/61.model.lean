/-! rows of whole numbers -/
def zF (z : Nat → Int) : Nat → Int64 := fun j => zL (z j)
theorem zL_mul (a b : Int) : zL a * zL b = zL (a * b) := (Int64.ofInt_mul a b).symm
theorem zL_sub (a b : Int) : zL a - zL b = zL (a - b) := (Int64.ofInt_sub a b).symm
theorem lN_z {n : Nat} (h : n < 2 ^ 63) : lN n = zL (n : Int) := by
  rw [zL_nat (by omega) (by omega)]; rfl
def nv (z : Nat → Int) (r c k : Nat) : Int := z (8 * c + c) * z (8 * r + k) - z (8 * r + c) * z (8 * c + k)
def tk1 (z : Nat → Int) (r c k : Nat) : Nat → Int := fun j => if 8 * r ≤ j ∧ j < 8 * r + k then nv z r c (j - 8 * r) else z j
def tkd (z : Nat → Int) (r c : Nat) : Nat → Nat
  | 0 => 0
  | k + 1 => Nat.gcd (tkd z r c k) (nv z r c k).natAbs
def tk2 (z : Nat → Int) (r d k : Nat) : Nat → Int := fun j => if 8 * r ≤ j ∧ j < 8 * r + k then (z j).tdiv (d : Int) else z j
def tkZ (z : Nat → Int) (r c : Nat) : Nat → Int := tk2 (tk1 z r c 8) r (tkd z r c 8) 8
theorem tk1_0 (z : Nat → Int) (r c : Nat) : tk1 z r c 0 = z := by
  funext j
  exact if_neg (by omega)
theorem tk2_0 (z : Nat → Int) (r d : Nat) : tk2 z r d 0 = z := by
  funext j
  exact if_neg (by omega)
theorem tk1_o {z : Nat → Int} {r c k j : Nat} (h : j < 8 * r ∨ 8 * r + k ≤ j) : tk1 z r c k j = z j := if_neg (by omega)
theorem tk1_i {z : Nat → Int} {r c k j : Nat} (h : j < k) : tk1 z r c k (8 * r + j) = nv z r c j := by
  unfold tk1
  rw [if_pos (by omega)]
  congr 1
  omega
theorem zF_upd (z : Nat → Int) (i : Nat) (v : Int) : vp_updL (zF z) i (zL v) = zF (fun j => if j = i then v else z j) := by
  funext j
  show (if j = i then zL v else zL (z j)) = zL (if j = i then v else z j)
  split <;> rfl
theorem tk1_s {z : Nat → Int} {r c k : Nat} : vp_updL (zF (tk1 z r c k)) (8 * r + k) (zL (nv z r c k)) = zF (tk1 z r c (k + 1)) := by
  rw [zF_upd]
  congr 1
  funext j
  by_cases h : j = 8 * r + k
  · subst h
    rw [if_pos rfl, tk1_i (by omega)]
  · rw [if_neg h]
    unfold tk1
    by_cases h2 : 8 * r ≤ j ∧ j < 8 * r + k
    · rw [if_pos h2, if_pos (by omega)]
    · rw [if_neg h2, if_neg (by omega)]
theorem tk2_s {z : Nat → Int} {r d k : Nat} : vp_updL (zF (tk2 z r d k)) (8 * r + k) (zL ((z (8 * r + k)).tdiv (d : Int))) = zF (tk2 z r d (k + 1)) := by
  rw [zF_upd]
  congr 1
  funext j
  by_cases h : j = 8 * r + k
  · subst h
    rw [if_pos rfl]
    unfold tk2
    rw [if_pos (by omega)]
  · rw [if_neg h]
    unfold tk2
    by_cases h2 : 8 * r ≤ j ∧ j < 8 * r + k
    · rw [if_pos h2, if_pos (by omega)]
    · rw [if_neg h2, if_neg (by omega)]
theorem tkd_lt {z : Nat → Int} {r c : Nat} : ∀ {k : Nat}, (∀ q, q < k → (nv z r c q).natAbs < 2 ^ 62) → tkd z r c k < 2 ^ 62
  | 0, _ => Nat.two_pow_pos 62
  | k + 1, h => by
    have h1 := tkd_lt (k := k) (fun q hq => h q (by omega))
    have h2 := h k (by omega)
    show Nat.gcd _ _ < _
    rcases Nat.eq_zero_or_pos (nv z r c k).natAbs with e | e
    · rw [e, Nat.gcd_zero_right]; exact h1
    · exact Nat.lt_of_le_of_lt (Nat.gcd_le_right _ e) h2
theorem tkd_dvd {z : Nat → Int} {r c : Nat} : ∀ {k q : Nat}, q < k → tkd z r c k ∣ (nv z r c q).natAbs
  | k + 1, q, h => by
    show Nat.gcd _ _ ∣ _
    rcases Nat.lt_or_ge q k with e | e
    · exact Nat.dvd_trans (Nat.gcd_dvd_left _ _) (tkd_dvd e)
    · obtain rfl : q = k := by omega
      exact Nat.gcd_dvd_right _ _
theorem tk_le1 {z : Nat → Int} {r c h : Nat} (hh : h ≤ 8) (h1 : tkd z r c 8 ≤ 1) : tk2 (tk1 z r c 8) r (tkd z r c 8) h = tk1 z r c 8 := by
  funext j
  unfold tk2
  split
  · rename_i q
    obtain ⟨i, rfl⟩ : ∃ i, j = 8 * r + i := ⟨j - 8 * r, by omega⟩
    rw [tk1_i (by omega)]
    have hd := tkd_dvd (z := z) (r := r) (c := c) (k := 8) (q := i) (by omega)
    rcases Nat.lt_or_ge 0 (tkd z r c 8) with e | e
    · rw [show tkd z r c 8 = 1 by omega]; exact Int.tdiv_one _
    · rw [show tkd z r c 8 = 0 by omega] at hd ⊢
      have := Nat.eq_zero_of_zero_dvd hd
      rw [show nv z r c i = 0 by omega]; rfl
  · rfl
theorem tkZ_le1 {z : Nat → Int} {r c h : Nat} (hh : h ≤ 8) (h1 : tkd z r c 8 ≤ 1) : tk2 (tk1 z r c 8) r (tkd z r c 8) h = tkZ z r c := by
  unfold tkZ
  rw [tk_le1 hh h1, tk_le1 (Nat.le_refl _) h1]
theorem zL_div {a : Int} {d : Nat} (h1 : a.natAbs < 2 ^ 62) (h2 : d < 2 ^ 62) : zL a / lN d = zL (a.tdiv (d : Int)) := by
  rw [lN_z (by omega)]
  have hb : (a.tdiv (d : Int)).natAbs ≤ a.natAbs := by
    rw [Int.natAbs_tdiv]; exact Nat.div_le_self _ _
  apply Int64.toInt_inj.1
  rw [Int64.toInt_div, zL_toInt (by omega) (by omega), zL_toInt (by omega) (by omega), zL_toInt (by omega) (by omega)]
  exact fb_bmodL (by omega) (by omega)
theorem lN_cmp1 {n : Nat} (h : n < 2 ^ 63) (q : lg_cmp (lN n) 1 ≤ 0) : n ≤ 1 := by
  have h1 := (lg_cmp_le _ _).mp q
  exact (pk_lLE (b := 1) h (by decide)).mp h1
theorem lN_cmp1n {n : Nat} (q : ¬ lg_cmp (lN n) 1 ≤ 0) : 0 < n := Nat.pos_of_ne_zero (fun e => q (by subst e; decide))
set_option maxRecDepth 20000 in
theorem in_X4_takeOff_X4 : ∀ w ∈ u_ws RX4 TX4 15, w ∈ wsX4_takeOff := by decide +kernel
set_option maxRecDepth 20000 in
theorem lk_X4_takeOff_37 : Cond.fieldLink RX4 37 (TX4 10).1 (TX4 10).2.1 (TX4 10).2.2.1 ∈ wsX4_takeOff := by decide +kernel
set_option maxHeartbeats 4000000 in
set_option maxRecDepth 100000 in
theorem c_X4_takeOff (D : va_G) (k : Nat → ClassId) (t : Nat → Nat) (l : Launch) {bd : Nat → Nat} {st wt sm nu po sh up lo : Nat → Int32} {li : Int32} {so un to : Nat → Int64} {it : Int32} {z : Nat → Int} {r0 c0 : Nat} (hr0 : r0 < 7) (hc0 : c0 < 7) (hne : r0 ≠ c0) (hB : ∀ q, q < 8 → (nv z r0 c0 q).natAbs < 2 ^ 62) : Cv D k t l yX4_takeOff wsX4_takeOff ({ frames := 2, cells := 0, slots := 0, locals := 60 }) [.ref (bd 0), .int (nI r0), .int (nI c0)] (MWw bd k st wt sm nu po sh up lo li (zF z) so un to it) (fun w => w = MWw bd k st wt sm nu po sh up lo li (zF (tkZ z r0 c0)) so un to it) 0 0 := by
  refine fw_of (cc := cX4_takeOff) (maxL := 10) (ret := none) (Qc := fun A => va_Qv (fun w => w = MWw bd k st wt sm nu po sh up lo li (zF (tkZ z r0 c0)) so un to it) (BcW D A) A) (by decide) rfl (Nat.le_of_ble_eq_true rfl) ?_
  intro p e s m below meth c A ls C hP hD hl
  have C : Cx RX4 "takeOff" cX4_takeOff 10 none wsX4_takeOff D k t A p s m ([.ref (bd 0), .int (nI r0), .int (nI c0)] : List Value).toArray meth c := C
  have hl : lv_has ls 10 [(0, .ref (bd 0)), (1, .int (nI r0)), (2, .int (nI c0))] := hl
  have hx := C.1
  have hb := C.2.1
  have hown := C.2.2.2.2.1
  have hts := C.2.2.2.2.2.1
  have hK := C.2.2.2.2.2.2.2.2.1
  have hZ := C.2.2.2.2.2.2.2.2.2.1
  have hN := C.2.2.2.2.2.2.2.2.2.2
  have hS : va_S A s.heap s.heap [] := va_S.rf
  refine lv_aload_n hx hb dX4_takeOff_0 rfl (lv_at hl 0 rfl) ?_
  refine fg C hP 0 mw_o (ci := 4) rfl 10 (by decide) in_X4_takeOff_X4 lk_X4_takeOff_37 (v := .ref (bd 10)) rfl dX4_takeOff_1 ?_
  refine lv_bipush (v := nI 8) hx hb dX4_takeOff_4 (by decide) ?_
  refine lv_iload_n hx hb dX4_takeOff_6 rfl (lv_at hl 2 rfl) ?_
  refine lv_imul hx hb dX4_takeOff_7 ?_
  refine tp_i (y := nI (8 * c0)) (pk_mul _ _) ?_
  refine lv_iload_n hx hb dX4_takeOff_8 rfl (lv_at hl 2 rfl) ?_
  refine lv_iadd hx hb dX4_takeOff_9 ?_
  refine tp_i (y := nI ((8 * c0) + c0)) (nI_add _ _) ?_
  refine ar_j C hP 10 mw_ro (j := ((8 * c0) + c0)) (by omega) (by decide) dX4_takeOff_10 ?_
  refine tp_j (y := zL (z (8 * c0 + c0))) (rfl) ?_
  refine lv_lstore_n (lv' := [(3, .long (zL (z (8 * c0 + c0)))), (0, .ref (bd 0)), (1, .int (nI r0)), (2, .int (nI c0))]) hx hb dX4_takeOff_11 rfl hl (by decide) rfl (fun ls hl => ?_)
  refine lv_aload_n hx hb dX4_takeOff_12 rfl (lv_at hl 1 rfl) ?_
  refine fg C hP 0 mw_o (ci := 4) rfl 10 (by decide) in_X4_takeOff_X4 lk_X4_takeOff_37 (v := .ref (bd 10)) rfl dX4_takeOff_13 ?_
  refine lv_bipush (v := nI 8) hx hb dX4_takeOff_16 (by decide) ?_
  refine lv_iload_n hx hb dX4_takeOff_18 rfl (lv_at hl 2 rfl) ?_
  refine lv_imul hx hb dX4_takeOff_19 ?_
  refine tp_i (y := nI (8 * r0)) (pk_mul _ _) ?_
  refine lv_iload_n hx hb dX4_takeOff_20 rfl (lv_at hl 3 rfl) ?_
  refine lv_iadd hx hb dX4_takeOff_21 ?_
  refine tp_i (y := nI ((8 * r0) + c0)) (nI_add _ _) ?_
  refine ar_j C hP 10 mw_ro (j := ((8 * r0) + c0)) (by omega) (by decide) dX4_takeOff_22 ?_
  refine tp_j (y := zL (z (8 * r0 + c0))) (rfl) ?_
  refine lv_lstore (lv' := [(5, .long (zL (z (8 * r0 + c0)))), (3, .long (zL (z (8 * c0 + c0)))), (0, .ref (bd 0)), (1, .int (nI r0)), (2, .int (nI c0))]) hx hb dX4_takeOff_23 hl (by decide) rfl (fun ls hl => ?_)
  refine lv_lconst (v := 0) hx hb dX4_takeOff_25 (by decide) ?_
  refine tp_j (y := lN (tkd z r0 c0 0)) (rfl) ?_
  refine lv_lstore (lv' := [(7, .long (lN (tkd z r0 c0 0))), (5, .long (zL (z (8 * r0 + c0)))), (3, .long (zL (z (8 * c0 + c0)))), (0, .ref (bd 0)), (1, .int (nI r0)), (2, .int (nI c0))]) hx hb dX4_takeOff_26 hl (by decide) rfl (fun ls hl => ?_)
  refine lv_iconst (v := nI 0) hx hb dX4_takeOff_28 (by decide) ?_
  refine lv_istore (lv' := [(9, .int (nI 0)), (7, .long (lN (tkd z r0 c0 0))), (5, .long (zL (z (8 * r0 + c0)))), (3, .long (zL (z (8 * c0 + c0)))), (0, .ref (bd 0)), (1, .int (nI r0)), (2, .int (nI c0))]) hx hb dX4_takeOff_29 hl (by decide) rfl (fun ls hl => ?_)
  have L1 : ∀ (r h : Nat), h + r = 8 → ∀ (H : Heap) (locs : List Loc) (ls : Array Slot), va_P D vwCl (MWw bd k st wt sm nu po sh up lo li (zF (tk1 z r0 c0 h)) so un to it) H → va_D A (MWw bd k st wt sm nu po sh up lo li (zF (tk1 z r0 c0 h)) so un to it) → va_S A s.heap H locs → lv_has ls 10 [(0, .ref (bd 0)), (1, .int (nI r0)), (2, .int (nI c0)), (3, .long (zL (z (8 * c0 + c0)))), (5, .long (zL (z (8 * r0 + c0)))), (7, .long (lN (tkd z r0 c0 h))), (9, .int (nI h))] → W p l e ({ frames := 2, cells := 0, slots := 0, locals := 60 }) s m ([.ref (bd 0), .int (nI r0), .int (nI c0)] : List Value).toArray below meth c H locs 0 0 (MQ below (va_Qv (fun w => w = MWw bd k st wt sm nu po sh up lo li (zF (tkZ z r0 c0)) so un to it) (BcW D A) A) ([.ref (bd 0), .int (nI r0), .int (nI c0)] : List Value).toArray s 0 0 A) (F0 m 31 ls []) := by
    intro r
    induction r with
    | zero =>
      intro h hr H locs ls hP hD hS hl
      obtain rfl : 8 = h := by omega
      refine lv_iload hx hb dX4_takeOff_31 (lv_at hl 6 rfl) ?_
      refine lv_bipush (v := nI 8) hx hb dX4_takeOff_33 (by decide) ?_
      refine lv_icmp_ge (tgt := 105) hx hb dX4_takeOff_35 (by decide) (fun c2 => ?_) (fun c2 => absurd (nI_le (by omega) (by decide)) c2)
      refine lv_iconst (v := nI 0) hx hb dX4_takeOff_105 (by decide) ?_
      refine lv_istore (lv' := [(9, .int (nI 0)), (0, .ref (bd 0)), (1, .int (nI r0)), (2, .int (nI c0)), (3, .long (zL (z (8 * c0 + c0)))), (5, .long (zL (z (8 * r0 + c0)))), (7, .long (lN (tkd z r0 c0 8)))]) hx hb dX4_takeOff_106 hl (by decide) rfl (fun ls hl => ?_)
      have L3 : ∀ (r h : Nat), h + r = 8 → ∀ (H : Heap) (locs : List Loc) (ls : Array Slot), va_P D vwCl (MWw bd k st wt sm nu po sh up lo li (zF (tk2 (tk1 z r0 c0 8) r0 (tkd z r0 c0 8) h)) so un to it) H → va_D A (MWw bd k st wt sm nu po sh up lo li (zF (tk2 (tk1 z r0 c0 8) r0 (tkd z r0 c0 8) h)) so un to it) → va_S A s.heap H locs → lv_has ls 10 [(0, .ref (bd 0)), (1, .int (nI r0)), (2, .int (nI c0)), (3, .long (zL (z (8 * c0 + c0)))), (5, .long (zL (z (8 * r0 + c0)))), (7, .long (lN (tkd z r0 c0 8))), (9, .int (nI h))] → W p l e ({ frames := 2, cells := 0, slots := 0, locals := 60 }) s m ([.ref (bd 0), .int (nI r0), .int (nI c0)] : List Value).toArray below meth c H locs 0 0 (MQ below (va_Qv (fun w => w = MWw bd k st wt sm nu po sh up lo li (zF (tkZ z r0 c0)) so un to it) (BcW D A) A) ([.ref (bd 0), .int (nI r0), .int (nI c0)] : List Value).toArray s 0 0 A) (F0 m 108 ls []) := by
        intro r
        induction r with
        | zero =>
          intro h hr H locs ls hP hD hS hl
          obtain rfl : 8 = h := by omega
          refine lv_iload hx hb dX4_takeOff_108 (lv_at hl 6 rfl) ?_
          refine lv_bipush (v := nI 8) hx hb dX4_takeOff_110 (by decide) ?_
          refine lv_icmp_ge (tgt := 145) hx hb dX4_takeOff_112 (by decide) (fun c4 => ?_) (fun c4 => absurd (nI_le (by omega) (by decide)) c4)
          exact Rv C hP hD hS (Nat.zero_le _) (Nat.zero_le _) dX4_takeOff_145 rfl
        | succ r ihL3 =>
          intro h hr H locs ls hP hD hS hl
          refine lv_iload hx hb dX4_takeOff_108 (lv_at hl 6 rfl) ?_
          refine lv_bipush (v := nI 8) hx hb dX4_takeOff_110 (by decide) ?_
          refine lv_icmp_ge (tgt := 145) hx hb dX4_takeOff_112 (by decide) (fun c5 => absurd c5 (nI_ge (by omega) (by decide))) (fun c5 => ?_)
          refine lv_lload hx hb dX4_takeOff_115 (lv_at hl 5 rfl) ?_
          refine lv_lconst (v := 1) hx hb dX4_takeOff_117 (by decide) ?_
          refine W.lcmp hx hb dX4_takeOff_118 ?_
          refine lv_if_le (tgt := 145) hx hb dX4_takeOff_119 (by decide) (fun c6 => ?_) (fun c6 => ?_)
          · exact Rv C hP hD hS (Nat.zero_le _) (Nat.zero_le _) dX4_takeOff_145 (by rw [tkZ_le1 (by omega) (lN_cmp1 (by have := tkd_lt (k := 8) hB; omega) c6)])
          · have hd0 := lN_cmp1n c6
            refine lv_aload_n hx hb dX4_takeOff_122 rfl (lv_at hl 0 rfl) ?_
            refine fg C hP 0 mw_o (ci := 4) rfl 10 (by decide) in_X4_takeOff_X4 lk_X4_takeOff_37 (v := .ref (bd 10)) rfl dX4_takeOff_123 ?_
            refine lv_bipush (v := nI 8) hx hb dX4_takeOff_126 (by decide) ?_
            refine lv_iload_n hx hb dX4_takeOff_128 rfl (lv_at hl 1 rfl) ?_
            refine lv_imul hx hb dX4_takeOff_129 ?_
            refine tp_i (y := nI (8 * r0)) (pk_mul _ _) ?_
            refine lv_iload hx hb dX4_takeOff_130 (lv_at hl 6 rfl) ?_
            refine lv_iadd hx hb dX4_takeOff_132 ?_
            refine tp_i (y := nI ((8 * r0) + h)) (nI_add _ _) ?_
            refine lv_dup2_11 hx hb dX4_takeOff_133 rfl rfl ?_
            refine ar_j C hP 10 mw_ro (j := ((8 * r0) + h)) (by omega) (by decide) dX4_takeOff_134 ?_
            refine tp_j (y := zL (tk1 z r0 c0 8 (8 * r0 + h))) (congrArg zL (if_neg (by omega))) ?_
            refine lv_lload hx hb dX4_takeOff_135 (lv_at hl 5 rfl) ?_
            refine lv_ldiv hx hb dX4_takeOff_137 (lN_nz (by have := tkd_lt (k := 8) hB; omega) hd0) ?_
            refine tp_j (y := zL ((tk1 z r0 c0 8 (8 * r0 + h)).tdiv (tkd z r0 c0 8 : Nat))) (zL_div (by rw [tk1_i (by omega)]; exact hB h (by omega)) (tkd_lt hB)) ?_
            refine as_j C hP hD hS 10 mw_ro (j := ((8 * r0) + h)) (by omega) (by decide) (mw_ro_st _) dX4_takeOff_138 (fun H locs hP hD hS => ?_)
            have e7 : vp_updL (zF (tk2 (tk1 z r0 c0 8) r0 (tkd z r0 c0 8) h)) ((8 * r0) + h) (zL ((tk1 z r0 c0 8 (8 * r0 + h)).tdiv (tkd z r0 c0 8 : Nat))) = zF (tk2 (tk1 z r0 c0 8) r0 (tkd z r0 c0 8) (h + 1)) := tk2_s
            rw [e7] at hP hD
            refine lv_iinc (v := nI (h + 1)) (lv' := [(9, .int (nI (h + 1))), (0, .ref (bd 0)), (1, .int (nI r0)), (2, .int (nI c0)), (3, .long (zL (z (8 * c0 + c0)))), (5, .long (zL (z (8 * r0 + c0)))), (7, .long (lN (tkd z r0 c0 8)))]) hx hb dX4_takeOff_139 hl (k := 6) rfl (by rw [← nI_add h 1]; rfl) (by decide) rfl (fun ls hl => ?_)
            refine lv_goto (tgt := 108) hx hb dX4_takeOff_142 (by decide) ?_
            exact ihL3 (h + 1) (by omega) _ _ _ hP hD hS (lv_sub hl [1, 2, 3, 4, 5, 6, 0] rfl)
      rw [← tk2_0 (tk1 z r0 c0 8) r0 (tkd z r0 c0 8)] at hP hD
      exact L3 (8 - 0) 0 (by omega) _ _ _ hP hD hS (lv_sub hl [1, 2, 3, 4, 5, 6, 0] rfl)
    | succ r ihL1 =>
      intro h hr H locs ls hP hD hS hl
      refine lv_iload hx hb dX4_takeOff_31 (lv_at hl 6 rfl) ?_
      refine lv_bipush (v := nI 8) hx hb dX4_takeOff_33 (by decide) ?_
      refine lv_icmp_ge (tgt := 105) hx hb dX4_takeOff_35 (by decide) (fun c8 => absurd c8 (nI_ge (by omega) (by decide))) (fun c8 => ?_)
      refine lv_aload_n hx hb dX4_takeOff_38 rfl (lv_at hl 0 rfl) ?_
      refine fg C hP 0 mw_o (ci := 4) rfl 10 (by decide) in_X4_takeOff_X4 lk_X4_takeOff_37 (v := .ref (bd 10)) rfl dX4_takeOff_39 ?_
      refine lv_bipush (v := nI 8) hx hb dX4_takeOff_42 (by decide) ?_
      refine lv_iload_n hx hb dX4_takeOff_44 rfl (lv_at hl 1 rfl) ?_
      refine lv_imul hx hb dX4_takeOff_45 ?_
      refine tp_i (y := nI (8 * r0)) (pk_mul _ _) ?_
      refine lv_iload hx hb dX4_takeOff_46 (lv_at hl 6 rfl) ?_
      refine lv_iadd hx hb dX4_takeOff_48 ?_
      refine tp_i (y := nI ((8 * r0) + h)) (nI_add _ _) ?_
      refine lv_lload_n hx hb dX4_takeOff_49 rfl (lv_at hl 3 rfl) ?_
      refine lv_aload_n hx hb dX4_takeOff_50 rfl (lv_at hl 0 rfl) ?_
      refine fg C hP 0 mw_o (ci := 4) rfl 10 (by decide) in_X4_takeOff_X4 lk_X4_takeOff_37 (v := .ref (bd 10)) rfl dX4_takeOff_51 ?_
      refine lv_bipush (v := nI 8) hx hb dX4_takeOff_54 (by decide) ?_
      refine lv_iload_n hx hb dX4_takeOff_56 rfl (lv_at hl 1 rfl) ?_
      refine lv_imul hx hb dX4_takeOff_57 ?_
      refine tp_i (y := nI (8 * r0)) (pk_mul _ _) ?_
      refine lv_iload hx hb dX4_takeOff_58 (lv_at hl 6 rfl) ?_
      refine lv_iadd hx hb dX4_takeOff_60 ?_
      refine tp_i (y := nI ((8 * r0) + h)) (nI_add _ _) ?_
      refine ar_j C hP 10 mw_ro (j := ((8 * r0) + h)) (by omega) (by decide) dX4_takeOff_61 ?_
      refine tp_j (y := zL (z (8 * r0 + h))) (congrArg zL (tk1_o (by omega))) ?_
      refine lv_lmul hx hb dX4_takeOff_62 ?_
      refine tp_j (y := zL (z (8 * c0 + c0) * z (8 * r0 + h))) (zL_mul _ _) ?_
      refine lv_lload hx hb dX4_takeOff_63 (lv_at hl 4 rfl) ?_
      refine lv_aload_n hx hb dX4_takeOff_65 rfl (lv_at hl 0 rfl) ?_
      refine fg C hP 0 mw_o (ci := 4) rfl 10 (by decide) in_X4_takeOff_X4 lk_X4_takeOff_37 (v := .ref (bd 10)) rfl dX4_takeOff_66 ?_
      refine lv_bipush (v := nI 8) hx hb dX4_takeOff_69 (by decide) ?_
      refine lv_iload_n hx hb dX4_takeOff_71 rfl (lv_at hl 2 rfl) ?_
      refine lv_imul hx hb dX4_takeOff_72 ?_
      refine tp_i (y := nI (8 * c0)) (pk_mul _ _) ?_
      refine lv_iload hx hb dX4_takeOff_73 (lv_at hl 6 rfl) ?_
      refine lv_iadd hx hb dX4_takeOff_75 ?_
      refine tp_i (y := nI ((8 * c0) + h)) (nI_add _ _) ?_
      refine ar_j C hP 10 mw_ro (j := ((8 * c0) + h)) (by omega) (by decide) dX4_takeOff_76 ?_
      refine tp_j (y := zL (z (8 * c0 + h))) (congrArg zL (tk1_o (by omega))) ?_
      refine lv_lmul hx hb dX4_takeOff_77 ?_
      refine tp_j (y := zL (z (8 * r0 + c0) * z (8 * c0 + h))) (zL_mul _ _) ?_
      refine lv_lsub hx hb dX4_takeOff_78 ?_
      refine tp_j (y := zL (nv z r0 c0 h)) (zL_sub _ _) ?_
      refine as_j C hP hD hS 10 mw_ro (j := ((8 * r0) + h)) (by omega) (by decide) (mw_ro_st _) dX4_takeOff_79 (fun H locs hP hD hS => ?_)
      have e9 : vp_updL (zF (tk1 z r0 c0 h)) ((8 * r0) + h) (zL (nv z r0 c0 h)) = zF (tk1 z r0 c0 (h + 1)) := tk1_s
      rw [e9] at hP hD
      refine lv_lload hx hb dX4_takeOff_80 (lv_at hl 5 rfl) ?_
      refine tp_j (y := zL ((tkd z r0 c0 h : Nat) : Int)) (lN_z (by have := tkd_lt (k := h) (fun q hq => hB q (by omega)); omega)) ?_
      refine lv_aload_n hx hb dX4_takeOff_82 rfl (lv_at hl 0 rfl) ?_
      refine fg C hP 0 mw_o (ci := 4) rfl 10 (by decide) in_X4_takeOff_X4 lk_X4_takeOff_37 (v := .ref (bd 10)) rfl dX4_takeOff_83 ?_
      refine lv_bipush (v := nI 8) hx hb dX4_takeOff_86 (by decide) ?_
      refine lv_iload_n hx hb dX4_takeOff_88 rfl (lv_at hl 1 rfl) ?_
      refine lv_imul hx hb dX4_takeOff_89 ?_
      refine tp_i (y := nI (8 * r0)) (pk_mul _ _) ?_
      refine lv_iload hx hb dX4_takeOff_90 (lv_at hl 6 rfl) ?_
      refine lv_iadd hx hb dX4_takeOff_92 ?_
      refine tp_i (y := nI ((8 * r0) + h)) (nI_add _ _) ?_
      refine ar_j C hP 10 mw_ro (j := ((8 * r0) + h)) (by omega) (by decide) dX4_takeOff_93 ?_
      refine tp_j (y := zL (nv z r0 c0 h)) (congrArg zL (tk1_i (by omega))) ?_
      refine fw_j C hD hS (rn_S (As := [.long (zL ((tkd z r0 c0 h : Nat) : Int)), .long (zL (nv z r0 c0 h))]) (rest := []) C (c_X4_common D k t l (a := ((tkd z r0 c0 h : Nat) : Int)) (b := nv z r0 c0 h) (tkd_lt (fun q hq => hB q (by omega))) (hB h (by omega)) _) (va_cwS 2 hts gX4_takeOff_X4_common rfl rfl rfl hdX4_common ⟨Nat.le_of_ble_eq_true rfl, Nat.le_of_ble_eq_true rfl⟩) hP hD hS rfl hl.1 rfl (Nat.le_of_ble_eq_true rfl) dX4_takeOff_94 ⟨Nat.zero_le _, Nat.zero_le _⟩) (fun r10 wr10 H locs h11 hP hD hS => ?_)
      obtain ⟨rfl, rfl⟩ := h11
      refine lv_lstore (lv' := [(7, .long (lN (tkd z r0 c0 (h + 1)))), (0, .ref (bd 0)), (1, .int (nI r0)), (2, .int (nI c0)), (3, .long (zL (z (8 * c0 + c0)))), (5, .long (zL (z (8 * r0 + c0)))), (9, .int (nI h))]) hx hb dX4_takeOff_97 hl (by decide) rfl (fun ls hl => ?_)
      refine lv_iinc (v := nI (h + 1)) (lv' := [(9, .int (nI (h + 1))), (7, .long (lN (tkd z r0 c0 (h + 1)))), (0, .ref (bd 0)), (1, .int (nI r0)), (2, .int (nI c0)), (3, .long (zL (z (8 * c0 + c0)))), (5, .long (zL (z (8 * r0 + c0))))]) hx hb dX4_takeOff_99 hl (k := 6) rfl (by rw [← nI_add h 1]; rfl) (by decide) rfl (fun ls hl => ?_)
      refine lv_goto (tgt := 31) hx hb dX4_takeOff_102 (by decide) ?_
      exact ihL1 (h + 1) (by omega) _ _ _ hP hD hS (lv_sub hl [2, 3, 4, 5, 6, 1, 0] rfl)
  rw [← tk1_0 z r0 c0] at hP hD
  exact L1 (8 - 0) 0 (by omega) _ _ _ hP hD hS (lv_sub hl [4, 5, 6, 3, 2, 1, 0] rfl)

