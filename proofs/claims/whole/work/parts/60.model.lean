def f_abL (x : Int64) : Int64 := if 0 < x then x else -x
def zL (z : Int) : Int64 := Int64.ofInt z
theorem zL_toInt {z : Int} (h1 : -9223372036854775808 ≤ z) (h2 : z < 9223372036854775808) : (zL z).toInt = z := by
  unfold zL
  rw [Int64.toInt_ofInt, fb_bmodL h1 h2]
theorem zL_nat {z : Int} (h : 0 ≤ z) (h2 : z < 9223372036854775808) : zL z = lN z.toNat := by
  apply Int64.toInt_inj.1
  rw [zL_toInt (by omega) h2, pk_lT (by omega)]
  omega
theorem zL_neg (z : Int) : -zL z = zL (-z) := by
  unfold zL
  rw [Int64.ofInt_neg]
theorem f_abL_z {z : Int} (h1 : -9223372036854775808 < z) (h2 : z < 9223372036854775808) : f_abL (zL z) = lN z.natAbs := by
  unfold f_abL
  have e0 : (0 : Int64).toInt = 0 := rfl
  split
  · rename_i c
    rw [Int64.lt_iff_toInt_lt, zL_toInt (by omega) h2, e0] at c
    rw [zL_nat (by omega) h2]
    congr 1
    omega
  · rename_i c
    rw [Int64.lt_iff_toInt_lt, zL_toInt (by omega) h2, e0] at c
    rw [zL_neg, zL_nat (by omega) (by omega)]
    congr 1
    omega
theorem lN_cmp00 {n : Nat} (h : n < 2 ^ 63) (c : lg_cmp (lN n) 0 = 0) : n = 0 := by
  have h1 := (lg_cmp_eq _ _).mp c
  exact (pk_lEQ (b := 0) h (by decide)).mp h1
theorem lN_nz {n : Nat} (h : n < 2 ^ 63) (h0 : 0 < n) : ¬ lN n = 0 := fun q => by
  have := (pk_lEQ (b := 0) h (by decide)).mp q
  omega
set_option maxHeartbeats 4000000 in
set_option maxRecDepth 100000 in
theorem c_X4_common (D : va_G) (k : Nat → ClassId) (t : Nat → Nat) (l : Launch) {ws : va_W} {a b : Int} (ha : a.natAbs < 2 ^ 62) (hb7 : b.natAbs < 2 ^ 62) : Cj D k t l yX4_common wsX4_common ({ frames := 1, cells := 0, slots := 0, locals := 30 }) [.long (zL a), .long (zL b)] (ws) (fun r w => r = lN (Nat.gcd a.natAbs b.natAbs) ∧ w = ws) 0 0 := by
  refine fw_of (cc := cX4_common) (maxL := 10) (ret := (some .long)) (Qc := fun A => va_Ql (fun r w => r = lN (Nat.gcd a.natAbs b.natAbs) ∧ w = ws) (BcW D A) A) (by decide) rfl (Nat.le_of_ble_eq_true rfl) ?_
  intro p e s m below meth c A ls C hP hD hl
  have C : Cx RX4 "common" cX4_common 10 (some .long) wsX4_common D k t A p s m ([.long (zL a), .long (zL b)] : List Value).toArray meth c := C
  have hl : lv_has ls 10 [(0, .long (zL a)), (2, .long (zL b))] := hl
  have hx := C.1
  have hb := C.2.1
  have hown := C.2.2.2.2.1
  have hts := C.2.2.2.2.2.1
  have hK := C.2.2.2.2.2.2.2.2.1
  have hZ := C.2.2.2.2.2.2.2.2.2.1
  have hN := C.2.2.2.2.2.2.2.2.2.2
  have hS : va_S A s.heap s.heap [] := va_S.rf
  refine lv_lload_n hx hb dX4_common_0 rfl (lv_at hl 0 rfl) ?_
  refine va_mabs_long hx hb (C.2.2.2.1.trans hl.1.symm) hown (hts (.methodLink RX4 119 Lib.MathLoose.abs_long.x) (by decide +kernel)) (hts (.static Lib.MathLoose.abs_long.x) (by decide +kernel)) (hts (.initialized "java/lang/Math") (by decide +kernel)) (hts (.code Lib.MathLoose.abs_long.x Lib.MathLoose.abs_long.code 2 (some .long)) (by decide +kernel)) (Nat.le_of_ble_eq_true rfl) (Nat.le_of_ble_eq_true rfl) (Nat.zero_le _) (Nat.zero_le _) dX4_common_1 ?_
  refine tp_j (y := lN a.natAbs) (f_abL_z (by omega) (by omega)) ?_
  refine lv_lstore (lv' := [(4, .long (lN a.natAbs)), (0, .long (zL a)), (2, .long (zL b))]) hx hb dX4_common_4 hl (by decide) rfl (fun ls hl => ?_)
  refine lv_lload_n hx hb dX4_common_6 rfl (lv_at hl 2 rfl) ?_
  refine va_mabs_long hx hb (C.2.2.2.1.trans hl.1.symm) hown (hts (.methodLink RX4 119 Lib.MathLoose.abs_long.x) (by decide +kernel)) (hts (.static Lib.MathLoose.abs_long.x) (by decide +kernel)) (hts (.initialized "java/lang/Math") (by decide +kernel)) (hts (.code Lib.MathLoose.abs_long.x Lib.MathLoose.abs_long.code 2 (some .long)) (by decide +kernel)) (Nat.le_of_ble_eq_true rfl) (Nat.le_of_ble_eq_true rfl) (Nat.zero_le _) (Nat.zero_le _) dX4_common_7 ?_
  refine tp_j (y := lN b.natAbs) (f_abL_z (by omega) (by omega)) ?_
  refine lv_lstore (lv' := [(6, .long (lN b.natAbs)), (4, .long (lN a.natAbs)), (0, .long (zL a)), (2, .long (zL b))]) hx hb dX4_common_10 hl (by decide) rfl (fun ls hl => ?_)
  have L1 : ∀ (r : Nat) (x y : Nat) (h1 : x < 2 ^ 62) (h2 : y < 2 ^ 62) (h3 : y ≤ r) (h4 : Nat.gcd x y = Nat.gcd a.natAbs b.natAbs), ∀ (H : Heap) (locs : List Loc) (ls : Array Slot), va_P D vwCl (ws) H → va_D A (ws) → va_S A s.heap H locs → lv_has ls 10 [(4, .long (lN x)), (6, .long (lN y))] → W p l e ({ frames := 1, cells := 0, slots := 0, locals := 30 }) s m ([.long (zL a), .long (zL b)] : List Value).toArray below meth c H locs 0 0 (MQ below (va_Ql (fun r w => r = lN (Nat.gcd a.natAbs b.natAbs) ∧ w = ws) (BcW D A) A) ([.long (zL a), .long (zL b)] : List Value).toArray s 0 0 A) (F0 m 12 ls []) := by
    intro r
    induction r with
    | zero =>
      intro x y h1 h2 h3 h4 H locs ls hP hD hS hl
      refine lv_lload hx hb dX4_common_12 (lv_at hl 1 rfl) ?_
      refine lv_lconst (v := 0) hx hb dX4_common_14 (by decide) ?_
      refine W.lcmp hx hb dX4_common_15 ?_
      refine lv_if_eq (tgt := 37) hx hb dX4_common_16 (by decide) (fun c2 => ?_) (fun c2 => absurd (by rw [show y = 0 by omega]; decide) c2)
      refine lv_lload hx hb dX4_common_37 (lv_at hl 0 rfl) ?_
      exact Rj C hP hD hS (Nat.zero_le _) (Nat.zero_le _) dX4_common_39 (⟨by rw [← h4, lN_cmp00 (by omega) c2, Nat.gcd_zero_right], rfl⟩)
    | succ r ihL1 =>
      intro x y h1 h2 h3 h4 H locs ls hP hD hS hl
      refine lv_lload hx hb dX4_common_12 (lv_at hl 1 rfl) ?_
      refine lv_lconst (v := 0) hx hb dX4_common_14 (by decide) ?_
      refine W.lcmp hx hb dX4_common_15 ?_
      refine lv_if_eq (tgt := 37) hx hb dX4_common_16 (by decide) (fun c3 => ?_) (fun c3 => ?_)
      · refine lv_lload hx hb dX4_common_37 (lv_at hl 0 rfl) ?_
        exact Rj C hP hD hS (Nat.zero_le _) (Nat.zero_le _) dX4_common_39 (⟨by rw [← h4, lN_cmp00 (by omega) c3, Nat.gcd_zero_right], rfl⟩)
      · have hy0 : 0 < y := Nat.pos_of_ne_zero (fun q => c3 (by rw [q]; decide))
        refine lv_lload hx hb dX4_common_19 (lv_at hl 0 rfl) ?_
        refine lv_lload hx hb dX4_common_21 (lv_at hl 1 rfl) ?_
        refine lv_lrem hx hb dX4_common_23 (lN_nz (by omega) hy0) ?_
        refine tp_j (y := lN (x % y)) (pk_lRem (by omega) hy0 (by omega)) ?_
        refine lv_lstore (lv' := [(8, .long (lN (x % y))), (4, .long (lN x)), (6, .long (lN y))]) hx hb dX4_common_24 hl (by decide) rfl (fun ls hl => ?_)
        refine lv_lload hx hb dX4_common_26 (lv_at hl 2 rfl) ?_
        refine lv_lstore (lv' := [(4, .long (lN y)), (8, .long (lN (x % y))), (6, .long (lN y))]) hx hb dX4_common_28 hl (by decide) rfl (fun ls hl => ?_)
        refine lv_lload hx hb dX4_common_30 (lv_at hl 1 rfl) ?_
        refine lv_lstore (lv' := [(6, .long (lN (x % y))), (4, .long (lN y)), (8, .long (lN (x % y)))]) hx hb dX4_common_32 hl (by decide) rfl (fun ls hl => ?_)
        refine lv_goto (tgt := 12) hx hb dX4_common_34 (by decide) ?_
        exact ihL1 y (x % y) h2 (Nat.lt_trans (Nat.mod_lt _ hy0) h2) (by have := Nat.mod_lt x hy0; omega) (by rw [← h4, Nat.gcd_comm x y, Nat.gcd_rec y x, Nat.gcd_comm]) _ _ _ hP hD hS (lv_sub hl [1, 0] rfl)
  exact L1 b.natAbs a.natAbs b.natAbs (by omega) (by omega) (Nat.le_refl _) rfl _ _ _ hP hD hS (lv_sub hl [1, 0] rfl)

