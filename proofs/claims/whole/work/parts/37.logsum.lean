theorem fb_rng (x : Int32) : -2147483648 ≤ x.toInt ∧ x.toInt < 2147483648 := by
  have h1 := Int32.le_toInt x
  have h2 := Int32.toInt_lt x
  omega
theorem fb_bmod {z : Int} (h1 : -2147483648 ≤ z) (h2 : z < 2147483648) : z.bmod (2 ^ 32) = z := by
  rw [Int.bmod_eq_of_le (by omega) (by omega)]
theorem fb_addI {x y : Int32} (h1 : -2147483648 ≤ x.toInt + y.toInt) (h2 : x.toInt + y.toInt < 2147483648) : (x + y).toInt = x.toInt + y.toInt := by
  rw [Int32.toInt_add, fb_bmod h1 h2]
theorem fb_subI {x y : Int32} (h1 : -2147483648 ≤ x.toInt - y.toInt) (h2 : x.toInt - y.toInt < 2147483648) : (x - y).toInt = x.toInt - y.toInt := by
  rw [Int32.toInt_sub, fb_bmod h1 h2]
theorem fb_mulI {x y : Int32} (h1 : -2147483648 ≤ x.toInt * y.toInt) (h2 : x.toInt * y.toInt < 2147483648) : (x * y).toInt = x.toInt * y.toInt := by
  rw [Int32.toInt_mul, fb_bmod h1 h2]
theorem fb_negI {x : Int32} (h : x.toInt ≠ -2147483648) : (-x).toInt = -x.toInt := by
  have := fb_rng x
  rw [Int32.toInt_neg, fb_bmod (by omega) (by omega)]
theorem fb_ofI {z : Int} (h1 : -2147483648 ≤ z) (h2 : z < 2147483648) : (Int32.ofInt z).toInt = z := by
  rw [Int32.toInt_ofInt, fb_bmod h1 h2]
theorem fb_asI (x : Int32) : Int32.ofInt x.toInt = x := Int32.ofInt_toInt x
theorem fb_rngL (x : Int64) : -9223372036854775808 ≤ x.toInt ∧ x.toInt < 9223372036854775808 := by
  have h1 := Int64.le_toInt x
  have h2 := Int64.toInt_lt x
  omega
theorem fb_bmodL {z : Int} (h1 : -9223372036854775808 ≤ z) (h2 : z < 9223372036854775808) : z.bmod (2 ^ 64) = z := by
  rw [Int.bmod_eq_of_le (by omega) (by omega)]
theorem fb_addL {x y : Int64} (h1 : -9223372036854775808 ≤ x.toInt + y.toInt) (h2 : x.toInt + y.toInt < 9223372036854775808) : (x + y).toInt = x.toInt + y.toInt := by
  rw [Int64.toInt_add, fb_bmodL h1 h2]
theorem fb_subL {x y : Int64} (h1 : -9223372036854775808 ≤ x.toInt - y.toInt) (h2 : x.toInt - y.toInt < 9223372036854775808) : (x - y).toInt = x.toInt - y.toInt := by
  rw [Int64.toInt_sub, fb_bmodL h1 h2]
theorem fb_mulL {x y : Int64} (h1 : -9223372036854775808 ≤ x.toInt * y.toInt) (h2 : x.toInt * y.toInt < 9223372036854775808) : (x * y).toInt = x.toInt * y.toInt := by
  rw [Int64.toInt_mul, fb_bmodL h1 h2]

theorem Met_mono {l : Launch} {y : MethodName} {ws : List Cond} {rm : Room} {Pc : Array Value → State → Prop} {Qc Qd : Array Value → State → Outcome → State → Prop} {mc ms : Nat} {free : Addr → Prop} (h : Met l y ws rm Pc Qc mc ms free) (hq : ∀ a st o t, Qc a st o t → Qd a st o t) : Met l y ws rm Pc Qd mc ms free := by
  intro p e ha hc hk s m args below hf happ hP hK
  obtain ⟨n, o, h1, h2, h3, h4, h5⟩ := h p e ha hc hk s m args below hf happ hP hK
  exact ⟨n, o, h1, h2, h3, hq _ _ _ _ h4, h5⟩
theorem Cv_mono {D : va_G} {k : Nat → ClassId} {t : Nat → Nat} {l : Launch} {y : MethodName} {wl : List Cond} {rm : Room} {av : List Value} {ws : va_W} {post post2 : va_W → Prop} {mc ms : Nat} (h : Cv D k t l y wl rm av ws post mc ms) (hq : ∀ w, post w → post2 w) : Cv D k t l y wl rm av ws post2 mc ms := fun sz => Met_mono (h sz) (fun a st o t hQ => by
  obtain ⟨⟨u, h1, h2, h3⟩, h4⟩ := hQ
  exact ⟨⟨u, h1, hq u h2, h3⟩, h4⟩)
theorem Ci_mono {D : va_G} {k : Nat → ClassId} {t : Nat → Nat} {l : Launch} {y : MethodName} {wl : List Cond} {rm : Room} {av : List Value} {ws : va_W} {post post2 : Int32 → va_W → Prop} {mc ms : Nat} (h : Ci D k t l y wl rm av ws post mc ms) (hq : ∀ r w, post r w → post2 r w) : Ci D k t l y wl rm av ws post2 mc ms := fun sz => Met_mono (h sz) (fun a st o t hQ => by
  obtain ⟨⟨r, u, h1, h2, h3⟩, h4⟩ := hQ
  exact ⟨⟨r, u, h1, hq r u h2, h3⟩, h4⟩)
def zI (z : Int) : Int32 := Int32.ofInt z
theorem zI_toInt {z : Int} (h1 : -2147483648 ≤ z) (h2 : z < 2147483648) : (zI z).toInt = z := fb_ofI h1 h2
theorem zI_nat {z : Int} (h : 0 ≤ z) (h2 : z < 2147483648) : zI z = nI z.toNat := by
  apply Int32.toInt_inj.1
  rw [zI_toInt (by omega) h2, nI_toInt (by omega)]
  omega
theorem zI_neg (z : Int) : -zI z = zI (-z) := by
  unfold zI
  rw [Int32.ofInt_neg]
theorem zI_le0 {z : Int} (h : z ≤ 0) (h1 : -2147483648 ≤ z) : zI z ≤ 0 := by
  rw [Int32.le_iff_toInt_le, zI_toInt h1 (by omega)]
  exact h
theorem c_mbpz (D : va_G) (k : Nat → ClassId) (t : Nat → Nat) (l : Launch) {ad : Nat → Nat} {N : Nat → Int32} {S Wt L : Nat → Nat → Int32} {T : Nat → Int32} {G : Nat → Nat → Int64} {E : Nat → Int32} {su pa tr sh : Nat → Int32} {pv : Int32} {u p0 v : Nat} {z : Int} (hu : u < 2) (hp0 : 2 ≤ p0) (hp1 : p0 ≤ 13) (hz1 : -2147483648 ≤ z) (hz2 : z < 2147483648) (hR : RepW (G u) (E u) v) (hb0 : v * p0 ^ z.toNat < 4294967296 ^ 1024) : Cv D k t l yX1_multiplyByPower wsX1_multiplyByPower ({ frames := 1, cells := 0, slots := 0, locals := 30 }) [.ref (ad (27 + 2 * u)), .int (nI p0), .int (zI z)] (TBw ad k N S Wt L T G E su pa tr sh pv) (fun w => ∃ (g2 : Nat → Int64) (e2 : Int32), RepW g2 e2 (v * p0 ^ z.toNat) ∧ w = TBw ad k N S Wt L T (va_up G u g2) (upd E u e2) su pa tr sh pv) 0 0 := by
  rcases Int.lt_or_le 0 z with q | q
  · rw [zI_nat (by omega) hz2]
    exact c_mbp D k t l hu hp0 hp1 (by omega) hR hb0
  · refine Cv_mono (c_mbp0 D k t l hu (zI_le0 q hz1)) (fun w hw => ⟨G u, E u, ?_, ?_⟩)
    · rw [show z.toNat = 0 by omega, Nat.pow_zero, Nat.mul_one]
      exact hR
    · rw [va_self, upd_self]
      exact hw
set_option maxRecDepth 20000 in
theorem in_X0_clear_X0 : ∀ w ∈ u_ws RX0 TX0 3, w ∈ wsX0_clear := by decide +kernel
set_option maxRecDepth 20000 in
theorem lk_X0_clear_13 : Cond.fieldLink RX0 13 (TX0 0).1 (TX0 0).2.1 (TX0 0).2.2.1 ∈ wsX0_clear := by decide +kernel
set_option maxHeartbeats 4000000 in
set_option maxRecDepth 100000 in
theorem c_X0_clear (D : va_G) (k : Nat → ClassId) (t : Nat → Nat) (l : Launch) {ad : Nat → Nat} {N : Nat → Int32} {S Wt L : Nat → Nat → Int32} {T : Nat → Int32} {G : Nat → Nat → Int64} {E : Nat → Int32} {su pa tr sh : Nat → Int32} {pv : Int32} : Cv D k t l yX0_clear wsX0_clear ({ frames := 1, cells := 0, slots := 0, locals := 30 }) [.ref (ad 25)] (TBw ad k N S Wt L T G E su pa tr sh pv) (fun w => w = TBw ad k N S Wt L (fun _ => nI 0) G E su pa tr sh pv) 0 0 := by
  refine fw_of (cc := cX0_clear) (maxL := 1) (ret := none) (Qc := fun A => va_Qv (fun w => w = TBw ad k N S Wt L (fun _ => nI 0) G E su pa tr sh pv) (BcW D A) A) (by decide) rfl (Nat.le_of_ble_eq_true rfl) ?_
  intro p e s m below meth c A ls C hP hD hl
  have C : Cx RX0 "clear" cX0_clear 1 none wsX0_clear D k t A p s m ([.ref (ad 25)] : List Value).toArray meth c := C
  have hl : lv_has ls 1 [(0, .ref (ad 25))] := hl
  have hx := C.1
  have hb := C.2.1
  have hown := C.2.2.2.2.1
  have hts := C.2.2.2.2.2.1
  have hK := C.2.2.2.2.2.2.2.2.1
  have hZ := C.2.2.2.2.2.2.2.2.2.1
  have hN := C.2.2.2.2.2.2.2.2.2.2
  have hS : va_S A s.heap s.heap [] := va_S.rf
  refine lv_aload_n hx hb dX0_clear_0 rfl (lv_at hl 0 rfl) ?_
  refine fg C hP 25 tb_g (ci := 0) rfl 0 (by decide) in_X0_clear_X0 lk_X0_clear_13 (v := .ref (ad 26)) rfl dX0_clear_1 ?_
  refine lv_iconst (v := nI 0) hx hb dX0_clear_4 (by decide) ?_
  refine fw_v C hD hS (rn_S (As := [.ref (ad 26), .int (nI 0)]) (rest := []) C (c_fill D k t l tb_t (by decide) (nI 0) _) (va_cwS 2 hts gX0_clear_J7_fill_53178 rfl rfl rfl hdJ7_fill_53178 ⟨Nat.le_of_ble_eq_true rfl, Nat.le_of_ble_eq_true rfl⟩) hP hD hS rfl hl.1 rfl (Nat.le_of_ble_eq_true rfl) dX0_clear_5 ⟨Nat.zero_le _, Nat.zero_le _⟩) (fun wr1 H locs h2 hP hD hS => ?_)
  rw [(tb_t_st _)] at h2
  obtain rfl := h2
  exact Rv C hP hD hS (Nat.zero_le _) (Nat.zero_le _) dX0_clear_8 rfl

theorem mx_i (a b : Nat → Int32) (i : Nat) : mx a b i i = b i := by simp [mx]
theorem mx_z (a b : Nat → Int32) : mx a b 0 = b := by funext j; simp [mx]
set_option maxRecDepth 20000 in
theorem in_X0_addLog_X0 : ∀ w ∈ u_ws RX0 TX0 3, w ∈ wsX0_addLog := by decide +kernel
set_option maxRecDepth 20000 in
theorem lk_X0_addLog_13 : Cond.fieldLink RX0 13 (TX0 0).1 (TX0 0).2.1 (TX0 0).2.2.1 ∈ wsX0_addLog := by decide +kernel
set_option maxHeartbeats 4000000 in
set_option maxRecDepth 100000 in
theorem c_X0_addLog (D : va_G) (k : Nat → ClassId) (t : Nat → Nat) (l : Launch) {ad : Nat → Nat} {N : Nat → Int32} {S Wt L : Nat → Nat → Int32} {T : Nat → Int32} {G : Nat → Nat → Int64} {E : Nat → Int32} {su pa tr sh : Nat → Int32} {pv : Int32} {a : Nat} (x2 : Int32) (ha : 1 ≤ a) (ha2 : a ≤ 16) : Cv D k t l yX0_addLog wsX0_addLog ({ frames := 0, cells := 0, slots := 0, locals := 0 }) [.ref (ad 25), .int (nI a), .int x2] (TBw ad k N S Wt L T G E su pa tr sh pv) (fun w => w = TBw ad k N S Wt L (fun j => T j + x2 * tb_powers.getD (a * 6 + j) 0) G E su pa tr sh pv) 0 0 := by
  refine fw_of (cc := cX0_addLog) (maxL := 4) (ret := none) (Qc := fun A => va_Qv (fun w => w = TBw ad k N S Wt L (fun j => T j + x2 * tb_powers.getD (a * 6 + j) 0) G E su pa tr sh pv) (BcW D A) A) (by decide) rfl (Nat.le_of_ble_eq_true rfl) ?_
  intro p e s m below meth c A ls C hP hD hl
  have C : Cx RX0 "addLog" cX0_addLog 4 none wsX0_addLog D k t A p s m ([.ref (ad 25), .int (nI a), .int x2] : List Value).toArray meth c := C
  have hl : lv_has ls 4 [(0, .ref (ad 25)), (1, .int (nI a)), (2, .int x2)] := hl
  have hx := C.1
  have hb := C.2.1
  have hown := C.2.2.2.2.1
  have hts := C.2.2.2.2.2.1
  have hK := C.2.2.2.2.2.2.2.2.1
  have hZ := C.2.2.2.2.2.2.2.2.2.1
  have hN := C.2.2.2.2.2.2.2.2.2.2
  have hS : va_S A s.heap s.heap [] := va_S.rf
  refine lv_iload_n hx hb dX0_addLog_0 rfl (lv_at hl 1 rfl) ?_
  refine lv_iconst (v := nI 1) hx hb dX0_addLog_1 (by decide) ?_
  refine lv_icmp_lt (tgt := 11) hx hb dX0_addLog_2 (by decide) (fun c1 => absurd c1 (nI_nlt ha (by omega))) (fun c1 => ?_)
  refine lv_iload_n hx hb dX0_addLog_5 rfl (lv_at hl 1 rfl) ?_
  refine lv_bipush (v := nI 16) hx hb dX0_addLog_6 (by decide) ?_
  refine lv_icmp_le (tgt := 12) hx hb dX0_addLog_8 (by decide) (fun c2 => ?_) (fun c2 => absurd (nI_le ha2 (by decide)) c2)
  refine lv_iconst (v := nI 0) hx hb dX0_addLog_12 (by decide) ?_
  refine lv_istore_n (lv' := [(3, .int (nI 0)), (0, .ref (ad 25)), (1, .int (nI a)), (2, .int x2)]) hx hb dX0_addLog_13 rfl hl (by decide) rfl (fun ls hl => ?_)
  have L3 : ∀ (r i : Nat), i + r = 6 → ∀ (H : Heap) (locs : List Loc) (ls : Array Slot), va_P D vwCl (TBw ad k N S Wt L (mx (fun j => T j + x2 * tb_powers.getD (a * 6 + j) 0) T i) G E su pa tr sh pv) H → va_D A (TBw ad k N S Wt L (mx (fun j => T j + x2 * tb_powers.getD (a * 6 + j) 0) T i) G E su pa tr sh pv) → va_S A s.heap H locs → lv_has ls 4 [(0, .ref (ad 25)), (1, .int (nI a)), (2, .int x2), (3, .int (nI i))] → W p l e ({ frames := 0, cells := 0, slots := 0, locals := 0 }) s m ([.ref (ad 25), .int (nI a), .int x2] : List Value).toArray below meth c H locs 0 0 (MQ below (va_Qv (fun w => w = TBw ad k N S Wt L (fun j => T j + x2 * tb_powers.getD (a * 6 + j) 0) G E su pa tr sh pv) (BcW D A) A) ([.ref (ad 25), .int (nI a), .int x2] : List Value).toArray s 0 0 A) (F0 m 14 ls []) := by
    intro r
    induction r with
    | zero =>
      intro i hr H locs ls hP hD hS hl
      obtain rfl : 6 = i := by omega
      refine lv_iload_n hx hb dX0_addLog_14 rfl (lv_at hl 3 rfl) ?_
      refine va_getsN hx hb (hZ.1.1) hS hown (va_Nw.use rfl (hN.2 (RX0, 9, RX3, "PRIMES", "[I") (List.mem_of_getElem? (i := 0) rfl))) (fun _ h9 => h9) dX0_addLog_15 ?_
      refine va_tlen (v := nI 6) hx hb (hZ.1.2) hS rfl dX0_addLog_18 ?_
      refine lv_icmp_ge (tgt := 51) hx hb dX0_addLog_19 (by decide) (fun c4 => ?_) (fun c4 => absurd (nI_le (by omega) (by decide)) c4)
      obtain ⟨hP, hD⟩ := cg_i hP hD tb_t (g := fun j => T j + x2 * tb_powers.getD (a * 6 + j) 0) (fun j hj => if_pos hj) (tb_t_st _)
      exact Rv C hP hD hS (Nat.zero_le _) (Nat.zero_le _) dX0_addLog_51 rfl
    | succ r ihL3 =>
      intro i hr H locs ls hP hD hS hl
      refine lv_iload_n hx hb dX0_addLog_14 rfl (lv_at hl 3 rfl) ?_
      refine va_getsN hx hb (hZ.1.1) hS hown (va_Nw.use rfl (hN.2 (RX0, 9, RX3, "PRIMES", "[I") (List.mem_of_getElem? (i := 0) rfl))) (fun _ h9 => h9) dX0_addLog_15 ?_
      refine va_tlen (v := nI 6) hx hb (hZ.1.2) hS rfl dX0_addLog_18 ?_
      refine lv_icmp_ge (tgt := 51) hx hb dX0_addLog_19 (by decide) (fun c5 => absurd c5 (nI_ge (by omega) (by decide))) (fun c5 => ?_)
      refine lv_aload_n hx hb dX0_addLog_22 rfl (lv_at hl 0 rfl) ?_
      refine fg C hP 25 tb_g (ci := 0) rfl 0 (by decide) in_X0_addLog_X0 lk_X0_addLog_13 (v := .ref (ad 26)) rfl dX0_addLog_23 ?_
      refine lv_iload_n hx hb dX0_addLog_26 rfl (lv_at hl 3 rfl) ?_
      refine lv_dup2_11 hx hb dX0_addLog_27 rfl rfl ?_
      refine ar_i C hP 26 tb_t (j := i) (by omega) (by decide) dX0_addLog_28 ?_
      refine tp_i (y := T i) (mx_i _ _ _) ?_
      refine lv_iload_n hx hb dX0_addLog_29 rfl (lv_at hl 2 rfl) ?_
      refine va_getsN hx hb (hZ.2.1.1) hS hown (va_Nw.use rfl (hN.2 (RX0, 34, RX3, "PRIME_POWERS", "[I") (List.mem_of_getElem? (i := 3) rfl))) (fun _ h9 => h9) dX0_addLog_30 ?_
      refine lv_iload_n hx hb dX0_addLog_33 rfl (lv_at hl 1 rfl) ?_
      refine va_getsN hx hb (hZ.1.1) hS hown (va_Nw.use rfl (hN.2 (RX0, 9, RX3, "PRIMES", "[I") (List.mem_of_getElem? (i := 0) rfl))) (fun _ h9 => h9) dX0_addLog_34 ?_
      refine va_tlen (v := nI 6) hx hb (hZ.1.2) hS rfl dX0_addLog_37 ?_
      refine lv_imul hx hb dX0_addLog_38 ?_
      refine tp_i (y := nI (a * 6)) (pk_mul _ _) ?_
      refine lv_iload_n hx hb dX0_addLog_39 rfl (lv_at hl 3 rfl) ?_
      refine lv_iadd hx hb dX0_addLog_40 ?_
      refine tp_i (y := nI ((a * 6) + i)) (nI_add _ _) ?_
      refine at_i hx hb (hZ.2.1.2) hS (j := ((a * 6) + i)) (by omega) (by decide) dX0_addLog_41 ?_
      refine lv_imul hx hb dX0_addLog_42 ?_
      refine lv_iadd hx hb dX0_addLog_43 ?_
      refine as_i C hP hD hS 26 tb_t (j := i) (by omega) (by decide) (tb_t_st _) dX0_addLog_44 (fun H locs hP hD hS => ?_)
      refine lv_iinc (v := nI (i + 1)) (lv' := [(3, .int (nI (i + 1))), (0, .ref (ad 25)), (1, .int (nI a)), (2, .int x2)]) hx hb dX0_addLog_45 hl (k := 3) rfl (by rw [← nI_add i 1]; rfl) (by decide) rfl (fun ls hl => ?_)
      refine lv_goto (tgt := 14) hx hb dX0_addLog_48 (by decide) ?_
      rw [mx_s (fun j => T j + x2 * tb_powers.getD (a * 6 + j) 0)] at hP hD
      exact ihL3 (i + 1) (by omega) _ _ _ hP hD hS (lv_sub hl [1, 2, 3, 0] rfl)
  rw [← mx_z (fun j => T j + x2 * tb_powers.getD (a * 6 + j) 0) T] at hP hD
  exact L3 (6 - 0) 0 (by omega) _ _ _ hP hD hS (lv_sub hl [1, 2, 3, 0] rfl)

set_option maxRecDepth 20000 in
theorem in_X0_isNought_X0 : ∀ w ∈ u_ws RX0 TX0 3, w ∈ wsX0_isNought := by decide +kernel
set_option maxRecDepth 20000 in
theorem lk_X0_isNought_13 : Cond.fieldLink RX0 13 (TX0 0).1 (TX0 0).2.1 (TX0 0).2.2.1 ∈ wsX0_isNought := by decide +kernel
set_option maxHeartbeats 4000000 in
set_option maxRecDepth 100000 in
theorem c_X0_isNought (D : va_G) (k : Nat → ClassId) (t : Nat → Nat) (l : Launch) {ad : Nat → Nat} {N : Nat → Int32} {S Wt L : Nat → Nat → Int32} {T : Nat → Int32} {G : Nat → Nat → Int64} {E : Nat → Int32} {su pa tr sh : Nat → Int32} {pv : Int32} : Ci D k t l yX0_isNought wsX0_isNought ({ frames := 0, cells := 0, slots := 0, locals := 0 }) [.ref (ad 25)] (TBw ad k N S Wt L T G E su pa tr sh pv) (fun r w => r = pb (∀ j, j < 6 → T j = 0) ∧ w = TBw ad k N S Wt L T G E su pa tr sh pv) 0 0 := by
  refine fw_of (cc := cX0_isNought) (maxL := 2) (ret := (some .boolean)) (Qc := fun A => va_Qi (fun r w => r = pb (∀ j, j < 6 → T j = 0) ∧ w = TBw ad k N S Wt L T G E su pa tr sh pv) (BcW D A) A) (by decide) rfl (Nat.le_of_ble_eq_true rfl) ?_
  intro p e s m below meth c A ls C hP hD hl
  have C : Cx RX0 "isNought" cX0_isNought 2 (some .boolean) wsX0_isNought D k t A p s m ([.ref (ad 25)] : List Value).toArray meth c := C
  have hl : lv_has ls 2 [(0, .ref (ad 25))] := hl
  have hx := C.1
  have hb := C.2.1
  have hown := C.2.2.2.2.1
  have hts := C.2.2.2.2.2.1
  have hK := C.2.2.2.2.2.2.2.2.1
  have hZ := C.2.2.2.2.2.2.2.2.2.1
  have hN := C.2.2.2.2.2.2.2.2.2.2
  have hS : va_S A s.heap s.heap [] := va_S.rf
  refine lv_iconst (v := nI 0) hx hb dX0_isNought_0 (by decide) ?_
  refine lv_istore_n (lv' := [(1, .int (nI 0)), (0, .ref (ad 25))]) hx hb dX0_isNought_1 rfl hl (by decide) rfl (fun ls hl => ?_)
  have L1 : ∀ (r i : Nat), i + r = 6 → (∀ j, j < i → T j = 0) → ∀ (H : Heap) (locs : List Loc) (ls : Array Slot), va_P D vwCl (TBw ad k N S Wt L T G E su pa tr sh pv) H → va_D A (TBw ad k N S Wt L T G E su pa tr sh pv) → va_S A s.heap H locs → lv_has ls 2 [(0, .ref (ad 25)), (1, .int (nI i))] → W p l e ({ frames := 0, cells := 0, slots := 0, locals := 0 }) s m ([.ref (ad 25)] : List Value).toArray below meth c H locs 0 0 (MQ below (va_Qi (fun r w => r = pb (∀ j, j < 6 → T j = 0) ∧ w = TBw ad k N S Wt L T G E su pa tr sh pv) (BcW D A) A) ([.ref (ad 25)] : List Value).toArray s 0 0 A) (F0 m 2 ls []) := by
    intro r
    induction r with
    | zero =>
      intro i hr hv H locs ls hP hD hS hl
      obtain rfl : 6 = i := by omega
      refine lv_iload_n hx hb dX0_isNought_2 rfl (lv_at hl 1 rfl) ?_
      refine va_getsN hx hb (hZ.1.1) hS hown (va_Nw.use rfl (hN.2 (RX0, 9, RX3, "PRIMES", "[I") (List.mem_of_getElem? (i := 0) rfl))) (fun _ h9 => h9) dX0_isNought_3 ?_
      refine va_tlen (v := nI 6) hx hb (hZ.1.2) hS rfl dX0_isNought_6 ?_
      refine lv_icmp_ge (tgt := 27) hx hb dX0_isNought_7 (by decide) (fun c2 => ?_) (fun c2 => absurd (nI_le (by omega) (by decide)) c2)
      refine lv_iconst (v := nI 1) hx hb dX0_isNought_27 (by decide) ?_
      exact Rz C hP hD hS (Nat.zero_le _) (Nat.zero_le _) rfl dX0_isNought_28 (⟨(pb_t hv).symm, rfl⟩)
    | succ r ihL1 =>
      intro i hr hv H locs ls hP hD hS hl
      refine lv_iload_n hx hb dX0_isNought_2 rfl (lv_at hl 1 rfl) ?_
      refine va_getsN hx hb (hZ.1.1) hS hown (va_Nw.use rfl (hN.2 (RX0, 9, RX3, "PRIMES", "[I") (List.mem_of_getElem? (i := 0) rfl))) (fun _ h9 => h9) dX0_isNought_3 ?_
      refine va_tlen (v := nI 6) hx hb (hZ.1.2) hS rfl dX0_isNought_6 ?_
      refine lv_icmp_ge (tgt := 27) hx hb dX0_isNought_7 (by decide) (fun c3 => absurd c3 (nI_ge (by omega) (by decide))) (fun c3 => ?_)
      refine lv_aload_n hx hb dX0_isNought_10 rfl (lv_at hl 0 rfl) ?_
      refine fg C hP 25 tb_g (ci := 0) rfl 0 (by decide) in_X0_isNought_X0 lk_X0_isNought_13 (v := .ref (ad 26)) rfl dX0_isNought_11 ?_
      refine lv_iload_n hx hb dX0_isNought_14 rfl (lv_at hl 1 rfl) ?_
      refine ar_i C hP 26 tb_t (j := i) (by omega) (by decide) dX0_isNought_15 ?_
      refine lv_if_eq (tgt := 21) hx hb dX0_isNought_16 (by decide) (fun c4 => ?_) (fun c4 => ?_)
      · refine lv_iinc (v := nI (i + 1)) (lv' := [(1, .int (nI (i + 1))), (0, .ref (ad 25))]) hx hb dX0_isNought_21 hl (k := 1) rfl (by rw [← nI_add i 1]; rfl) (by decide) rfl (fun ls hl => ?_)
        refine lv_goto (tgt := 2) hx hb dX0_isNought_24 (by decide) ?_
        exact ihL1 (i + 1) (by omega) (lt_s hv c4) _ _ _ hP hD hS (lv_sub hl [1, 0] rfl)
      · refine lv_iconst (v := nI 0) hx hb dX0_isNought_19 (by decide) ?_
        exact Rz C hP hD hS (Nat.zero_le _) (Nat.zero_le _) rfl dX0_isNought_20 (⟨(pb_f (fun h => c4 (h i (by omega)))).symm, rfl⟩)
  exact L1 (6 - 0) 0 (by omega) (fun j hj => absurd hj (Nat.not_lt_zero _)) _ _ _ hP hD hS (lv_sub hl [1, 0] rfl)

def pr6 (j : Nat) : Nat := ([2, 3, 5, 7, 11, 13] : List Nat).getD j 1
def upv (e : Nat → Int) : Nat → Nat
  | 0 => 1
  | i + 1 => upv e i * pr6 i ^ (e i).toNat
theorem pr6_at : ∀ {i : Nat}, i < 6 → tb_primes.getD i 0 = nI (pr6 i) ∧ 2 ≤ pr6 i ∧ pr6 i ≤ 13 := by
  have h : ∀ i, i < 6 → tb_primes.getD i 0 = nI (pr6 i) ∧ 2 ≤ pr6 i ∧ pr6 i ≤ 13 := by decide +kernel
  exact fun {i} hi => h i hi
theorem pr6_pos (i : Nat) : 0 < pr6 i := by
  rcases Nat.lt_or_ge i 6 with h | h
  · have := (pr6_at h).2.1; omega
  · unfold pr6; rw [List.getD_eq_getElem?_getD, List.getElem?_eq_none (by simpa using h)]; decide
theorem upv_mono (e : Nat → Int) : ∀ {i n : Nat}, i ≤ n → upv e i ≤ upv e n := by
  intro i n h
  induction h with
  | refl => exact Nat.le_refl _
  | @step m _ ih =>
    refine Nat.le_trans ih ?_
    rw [upv]
    exact Nat.le_mul_of_pos_right _ (Nat.pow_pos (pr6_pos m))
def ng (e : Nat → Int) : Nat → Int := fun j => -e j
/-- the exponents that the row of times holds -/
def ZT (T : Nat → Int32) (e : Nat → Int) : Prop := ∀ j, j < 6 → T j = zI (e j) ∧ -1073741824 ≤ e j ∧ e j ≤ 1073741824
set_option maxRecDepth 20000 in
theorem in_X0_signOfProducts_X0 : ∀ w ∈ u_ws RX0 TX0 3, w ∈ wsX0_signOfProducts := by decide +kernel
set_option maxRecDepth 20000 in
theorem lk_X0_signOfProducts_21 : Cond.fieldLink RX0 21 (TX0 1).1 (TX0 1).2.1 (TX0 1).2.2.1 ∈ wsX0_signOfProducts := by decide +kernel
set_option maxRecDepth 20000 in
theorem lk_X0_signOfProducts_25 : Cond.fieldLink RX0 25 (TX0 2).1 (TX0 2).2.1 (TX0 2).2.2.1 ∈ wsX0_signOfProducts := by decide +kernel
set_option maxRecDepth 20000 in
theorem lk_X0_signOfProducts_13 : Cond.fieldLink RX0 13 (TX0 0).1 (TX0 0).2.1 (TX0 0).2.2.1 ∈ wsX0_signOfProducts := by decide +kernel
set_option maxHeartbeats 4000000 in
set_option maxRecDepth 100000 in
theorem c_X0_signOfProducts (D : va_G) (k : Nat → ClassId) (t : Nat → Nat) (l : Launch) {ad : Nat → Nat} {N : Nat → Int32} {S Wt L : Nat → Nat → Int32} {T : Nat → Int32} {G : Nat → Nat → Int64} {E : Nat → Int32} {su pa tr sh : Nat → Int32} {pv : Int32} {ee : Nat → Int} (hT : ZT T ee) (hb0 : upv ee 6 < 4294967296 ^ 1024) (hb1 : upv (ng ee) 6 < 4294967296 ^ 1024) : Ci D k t l yX0_signOfProducts wsX0_signOfProducts ({ frames := 2, cells := 0, slots := 0, locals := 60 }) [.ref (ad 25)] (TBw ad k N S Wt L T G E su pa tr sh pv) (fun r w => ∃ (G2 : Nat → Nat → Int64) (E2 : Nat → Int32), r = f_cmp (upv ee 6) (upv (ng ee) 6) ∧ w = TBw ad k N S Wt L T G2 E2 su pa tr sh pv) 0 0 := by
  refine fw_of (cc := cX0_signOfProducts) (maxL := 2) (ret := (some .int)) (Qc := fun A => va_Qi (fun r w => ∃ (G2 : Nat → Nat → Int64) (E2 : Nat → Int32), r = f_cmp (upv ee 6) (upv (ng ee) 6) ∧ w = TBw ad k N S Wt L T G2 E2 su pa tr sh pv) (BcW D A) A) (by decide) rfl (Nat.le_of_ble_eq_true rfl) ?_
  intro p e s m below meth c A ls C hP hD hl
  have C : Cx RX0 "signOfProducts" cX0_signOfProducts 2 (some .int) wsX0_signOfProducts D k t A p s m ([.ref (ad 25)] : List Value).toArray meth c := C
  have hl : lv_has ls 2 [(0, .ref (ad 25))] := hl
  have hx := C.1
  have hb := C.2.1
  have hown := C.2.2.2.2.1
  have hts := C.2.2.2.2.2.1
  have hK := C.2.2.2.2.2.2.2.2.1
  have hZ := C.2.2.2.2.2.2.2.2.2.1
  have hN := C.2.2.2.2.2.2.2.2.2.2
  have hS : va_S A s.heap s.heap [] := va_S.rf
  refine lv_aload_n hx hb dX0_signOfProducts_0 rfl (lv_at hl 0 rfl) ?_
  refine fg C hP 25 tb_g (ci := 0) rfl 1 (by decide) in_X0_signOfProducts_X0 lk_X0_signOfProducts_21 (v := .ref (ad (27 + 2 * 0))) rfl dX0_signOfProducts_1 ?_
  refine fw_v C hD hS (rn_VN (As := []) (rest := []) (host := RX3) (C2 := RX1) C (c_X1_becomeOne D k t l (u := 0) (by decide) _) (va_cnB 0 hts gX0_signOfProducts_X1_becomeOne_n55 rfl rfl rfl (hN.1 (RX0, 55, yX1_becomeOne) (List.mem_of_getElem? (i := 16) rfl)) (hts (.initialized RX1) (by decide +kernel)) hdX1_becomeOne ⟨Nat.le_of_ble_eq_true rfl, Nat.le_of_ble_eq_true rfl⟩) (hts (.instanceMethod yX1_becomeOne) (by decide +kernel)) (hts (.selects RX1 yX1_becomeOne yX1_becomeOne) (by decide +kernel)) (27 + 2 * 0) 1 rfl (tb_e (by decide)) rfl hP hD hS rfl hl.1 rfl (Nat.le_of_ble_eq_true rfl) dX0_signOfProducts_4 ⟨Nat.zero_le _, Nat.zero_le _⟩) (fun wr1 H locs h2 hP hD hS => ?_)
  obtain ⟨g0a, hg0a, rfl⟩ := h2
  refine lv_aload_n hx hb dX0_signOfProducts_7 rfl (lv_at hl 0 rfl) ?_
  refine fg C hP 25 tb_g (ci := 0) rfl 2 (by decide) in_X0_signOfProducts_X0 lk_X0_signOfProducts_25 (v := .ref (ad (27 + 2 * 1))) rfl dX0_signOfProducts_8 ?_
  refine fw_v C hD hS (rn_VN (As := []) (rest := []) (host := RX3) (C2 := RX1) C (c_X1_becomeOne D k t l (u := 1) (by decide) _) (va_cnB 0 hts gX0_signOfProducts_X1_becomeOne_n55 rfl rfl rfl (hN.1 (RX0, 55, yX1_becomeOne) (List.mem_of_getElem? (i := 16) rfl)) (hts (.initialized RX1) (by decide +kernel)) hdX1_becomeOne ⟨Nat.le_of_ble_eq_true rfl, Nat.le_of_ble_eq_true rfl⟩) (hts (.instanceMethod yX1_becomeOne) (by decide +kernel)) (hts (.selects RX1 yX1_becomeOne yX1_becomeOne) (by decide +kernel)) (27 + 2 * 1) 1 rfl (tb_e (by decide)) rfl hP hD hS rfl hl.1 rfl (Nat.le_of_ble_eq_true rfl) dX0_signOfProducts_11 ⟨Nat.zero_le _, Nat.zero_le _⟩) (fun wr3 H locs h4 hP hD hS => ?_)
  obtain ⟨g1a, hg1a, rfl⟩ := h4
  refine lv_iconst (v := nI 0) hx hb dX0_signOfProducts_14 (by decide) ?_
  refine lv_istore_n (lv' := [(1, .int (nI 0)), (0, .ref (ad 25))]) hx hb dX0_signOfProducts_15 rfl hl (by decide) rfl (fun ls hl => ?_)
  have L5 : ∀ (r i : Nat), i + r = 6 → ∀ (G1 : Nat → Nat → Int64) (E1 : Nat → Int32) (h0 : RepW (G1 0) (E1 0) (upv ee i)) (h1 : RepW (G1 1) (E1 1) (upv (ng ee) i)), ∀ (H : Heap) (locs : List Loc) (ls : Array Slot), va_P D vwCl (TBw ad k N S Wt L T G1 E1 su pa tr sh pv) H → va_D A (TBw ad k N S Wt L T G1 E1 su pa tr sh pv) → va_S A s.heap H locs → lv_has ls 2 [(0, .ref (ad 25)), (1, .int (nI i))] → W p l e ({ frames := 2, cells := 0, slots := 0, locals := 60 }) s m ([.ref (ad 25)] : List Value).toArray below meth c H locs 0 0 (MQ below (va_Qi (fun r w => ∃ (G2 : Nat → Nat → Int64) (E2 : Nat → Int32), r = f_cmp (upv ee 6) (upv (ng ee) 6) ∧ w = TBw ad k N S Wt L T G2 E2 su pa tr sh pv) (BcW D A) A) ([.ref (ad 25)] : List Value).toArray s 0 0 A) (F0 m 16 ls []) := by
    intro r
    induction r with
    | zero =>
      intro i hr G1 E1 h0 h1 H locs ls hP hD hS hl
      obtain rfl : 6 = i := by omega
      refine lv_iload_n hx hb dX0_signOfProducts_16 rfl (lv_at hl 1 rfl) ?_
      refine va_getsN hx hb (hZ.1.1) hS hown (va_Nw.use rfl (hN.2 (RX0, 9, RX3, "PRIMES", "[I") (List.mem_of_getElem? (i := 0) rfl))) (fun _ h9 => h9) dX0_signOfProducts_17 ?_
      refine va_tlen (v := nI 6) hx hb (hZ.1.2) hS rfl dX0_signOfProducts_20 ?_
      refine lv_icmp_ge (tgt := 67) hx hb dX0_signOfProducts_21 (by decide) (fun c6 => ?_) (fun c6 => absurd (nI_le (by omega) (by decide)) c6)
      refine lv_aload_n hx hb dX0_signOfProducts_67 rfl (lv_at hl 0 rfl) ?_
      refine fg C hP 25 tb_g (ci := 0) rfl 1 (by decide) in_X0_signOfProducts_X0 lk_X0_signOfProducts_21 (v := .ref (ad (27 + 2 * 0))) rfl dX0_signOfProducts_68 ?_
      refine lv_aload_n hx hb dX0_signOfProducts_71 rfl (lv_at hl 0 rfl) ?_
      refine fg C hP 25 tb_g (ci := 0) rfl 2 (by decide) in_X0_signOfProducts_X0 lk_X0_signOfProducts_25 (v := .ref (ad (27 + 2 * 1))) rfl dX0_signOfProducts_72 ?_
      refine fw_i C hD hS (rn_VN (As := [.ref (ad (27 + 2 * 1))]) (rest := []) (host := RX3) (C2 := RX1) C (c_X1_against D k t l (va := upv ee 6) (vb := upv (ng ee) 6) h0 h1 _) (va_cnB 1 hts gX0_signOfProducts_X1_against_n62 rfl rfl rfl (hN.1 (RX0, 62, yX1_against) (List.mem_of_getElem? (i := 18) rfl)) (hts (.initialized RX1) (by decide +kernel)) hdX1_against ⟨Nat.le_of_ble_eq_true rfl, Nat.le_of_ble_eq_true rfl⟩) (hts (.instanceMethod yX1_against) (by decide +kernel)) (hts (.selects RX1 yX1_against yX1_against) (by decide +kernel)) (27 + 2 * 0) 1 rfl (tb_e (by decide)) rfl hP hD hS rfl hl.1 rfl (Nat.le_of_ble_eq_true rfl) dX0_signOfProducts_75 ⟨Nat.zero_le _, Nat.zero_le _⟩) (fun r7 wr7 H locs h8 hP hD hS => ?_)
      obtain ⟨rfl, rfl⟩ := h8
      exact Ri C hP hD hS (Nat.zero_le _) (Nat.zero_le _) dX0_signOfProducts_78 (⟨_, _, rfl, rfl⟩)
    | succ r ihL5 =>
      intro i hr G1 E1 h0 h1 H locs ls hP hD hS hl
      refine lv_iload_n hx hb dX0_signOfProducts_16 rfl (lv_at hl 1 rfl) ?_
      refine va_getsN hx hb (hZ.1.1) hS hown (va_Nw.use rfl (hN.2 (RX0, 9, RX3, "PRIMES", "[I") (List.mem_of_getElem? (i := 0) rfl))) (fun _ h9 => h9) dX0_signOfProducts_17 ?_
      refine va_tlen (v := nI 6) hx hb (hZ.1.2) hS rfl dX0_signOfProducts_20 ?_
      refine lv_icmp_ge (tgt := 67) hx hb dX0_signOfProducts_21 (by decide) (fun c9 => absurd c9 (nI_ge (by omega) (by decide))) (fun c9 => ?_)
      refine lv_aload_n hx hb dX0_signOfProducts_24 rfl (lv_at hl 0 rfl) ?_
      refine fg C hP 25 tb_g (ci := 0) rfl 1 (by decide) in_X0_signOfProducts_X0 lk_X0_signOfProducts_21 (v := .ref (ad (27 + 2 * 0))) rfl dX0_signOfProducts_25 ?_
      refine va_getsN hx hb (hZ.1.1) hS hown (va_Nw.use rfl (hN.2 (RX0, 9, RX3, "PRIMES", "[I") (List.mem_of_getElem? (i := 0) rfl))) (fun _ h9 => h9) dX0_signOfProducts_28 ?_
      refine lv_iload_n hx hb dX0_signOfProducts_31 rfl (lv_at hl 1 rfl) ?_
      refine at_i hx hb (hZ.1.2) hS (j := i) (by omega) (by decide) dX0_signOfProducts_32 ?_
      refine tp_i (y := nI (pr6 i)) ((pr6_at (by omega)).1) ?_
      refine lv_aload_n hx hb dX0_signOfProducts_33 rfl (lv_at hl 0 rfl) ?_
      refine fg C hP 25 tb_g (ci := 0) rfl 0 (by decide) in_X0_signOfProducts_X0 lk_X0_signOfProducts_13 (v := .ref (ad 26)) rfl dX0_signOfProducts_34 ?_
      refine lv_iload_n hx hb dX0_signOfProducts_37 rfl (lv_at hl 1 rfl) ?_
      refine ar_i C hP 26 tb_t (j := i) (by omega) (by decide) dX0_signOfProducts_38 ?_
      refine tp_i (y := zI (ee i)) ((hT i (by omega)).1) ?_
      refine fw_v C hD hS (rn_VN (As := [.int (nI (pr6 i)), .int (zI (ee i))]) (rest := []) (host := RX3) (C2 := RX1) C (c_mbpz D k t l (u := 0) (p0 := pr6 i) (z := ee i) (v := upv ee i) (by decide) (pr6_at (by omega)).2.1 (pr6_at (by omega)).2.2 (by have := (hT i (by omega)).2; omega) (by have := (hT i (by omega)).2; omega) (by exact h0) (Nat.lt_of_le_of_lt (upv_mono (ee) (show i + 1 ≤ 6 by omega)) hb0) _) (va_cnB 2 hts gX0_signOfProducts_X1_multiplyByPower_n58 rfl rfl rfl (hN.1 (RX0, 58, yX1_multiplyByPower) (List.mem_of_getElem? (i := 17) rfl)) (hts (.initialized RX1) (by decide +kernel)) hdX1_multiplyByPower ⟨Nat.le_of_ble_eq_true rfl, Nat.le_of_ble_eq_true rfl⟩) (hts (.instanceMethod yX1_multiplyByPower) (by decide +kernel)) (hts (.selects RX1 yX1_multiplyByPower yX1_multiplyByPower) (by decide +kernel)) (27 + 2 * 0) 1 rfl (tb_e (by decide)) rfl hP hD hS rfl hl.1 rfl (Nat.le_of_ble_eq_true rfl) dX0_signOfProducts_39 ⟨Nat.zero_le _, Nat.zero_le _⟩) (fun wr10 H locs h11 hP hD hS => ?_)
      obtain ⟨g0, e0, hr0, rfl⟩ := h11
      refine lv_aload_n hx hb dX0_signOfProducts_42 rfl (lv_at hl 0 rfl) ?_
      refine fg C hP 25 tb_g (ci := 0) rfl 2 (by decide) in_X0_signOfProducts_X0 lk_X0_signOfProducts_25 (v := .ref (ad (27 + 2 * 1))) rfl dX0_signOfProducts_43 ?_
      refine va_getsN hx hb (hZ.1.1) hS hown (va_Nw.use rfl (hN.2 (RX0, 9, RX3, "PRIMES", "[I") (List.mem_of_getElem? (i := 0) rfl))) (fun _ h9 => h9) dX0_signOfProducts_46 ?_
      refine lv_iload_n hx hb dX0_signOfProducts_49 rfl (lv_at hl 1 rfl) ?_
      refine at_i hx hb (hZ.1.2) hS (j := i) (by omega) (by decide) dX0_signOfProducts_50 ?_
      refine tp_i (y := nI (pr6 i)) ((pr6_at (by omega)).1) ?_
      refine lv_aload_n hx hb dX0_signOfProducts_51 rfl (lv_at hl 0 rfl) ?_
      refine fg C hP 25 tb_g (ci := 0) rfl 0 (by decide) in_X0_signOfProducts_X0 lk_X0_signOfProducts_13 (v := .ref (ad 26)) rfl dX0_signOfProducts_52 ?_
      refine lv_iload_n hx hb dX0_signOfProducts_55 rfl (lv_at hl 1 rfl) ?_
      refine ar_i C hP 26 tb_t (j := i) (by omega) (by decide) dX0_signOfProducts_56 ?_
      refine tp_i (y := zI (ee i)) ((hT i (by omega)).1) ?_
      refine lv_ineg hx hb dX0_signOfProducts_57 ?_
      refine tp_i (y := zI (-ee i)) (zI_neg _) ?_
      refine fw_v C hD hS (rn_VN (As := [.int (nI (pr6 i)), .int (zI (-ee i))]) (rest := []) (host := RX3) (C2 := RX1) C (c_mbpz D k t l (u := 1) (p0 := pr6 i) (z := -ee i) (v := upv (ng ee) i) (by decide) (pr6_at (by omega)).2.1 (pr6_at (by omega)).2.2 (by have := (hT i (by omega)).2; omega) (by have := (hT i (by omega)).2; omega) (by exact h1) (Nat.lt_of_le_of_lt (upv_mono (ng ee) (show i + 1 ≤ 6 by omega)) hb1) _) (va_cnB 2 hts gX0_signOfProducts_X1_multiplyByPower_n58 rfl rfl rfl (hN.1 (RX0, 58, yX1_multiplyByPower) (List.mem_of_getElem? (i := 17) rfl)) (hts (.initialized RX1) (by decide +kernel)) hdX1_multiplyByPower ⟨Nat.le_of_ble_eq_true rfl, Nat.le_of_ble_eq_true rfl⟩) (hts (.instanceMethod yX1_multiplyByPower) (by decide +kernel)) (hts (.selects RX1 yX1_multiplyByPower yX1_multiplyByPower) (by decide +kernel)) (27 + 2 * 1) 1 rfl (tb_e (by decide)) rfl hP hD hS rfl hl.1 rfl (Nat.le_of_ble_eq_true rfl) dX0_signOfProducts_58 ⟨Nat.zero_le _, Nat.zero_le _⟩) (fun wr12 H locs h13 hP hD hS => ?_)
      obtain ⟨g1, e1, hr1, rfl⟩ := h13
      refine lv_iinc (v := nI (i + 1)) (lv' := [(1, .int (nI (i + 1))), (0, .ref (ad 25))]) hx hb dX0_signOfProducts_61 hl (k := 1) rfl (by rw [← nI_add i 1]; rfl) (by decide) rfl (fun ls hl => ?_)
      refine lv_goto (tgt := 16) hx hb dX0_signOfProducts_64 (by decide) ?_
      exact ihL5 (i + 1) (by omega) _ _ hr0 hr1 _ _ _ hP hD hS (lv_sub hl [1, 0] rfl)
  exact L5 (6 - 0) 0 (by omega) _ _ hg0a hg1a _ _ _ hP hD hS (lv_sub hl [1, 0] rfl)

