/-! doubts: the exponents as whole numbers -/
def zT (e : Nat → Int) : Nat → Int32 := fun j => zI (e j)
theorem zI_add (a b : Int) : zI a + zI b = zI (a + b) := by unfold zI; rw [Int32.ofInt_add]
theorem zI_mul (a b : Int) : zI a * zI b = zI (a * b) := by unfold zI; rw [Int32.ofInt_mul]
theorem nz (n : Nat) : nI n = zI (n : Int) := rfl
def pwI (a j : Nat) : Int := (tb_powers.getD (a * 6 + j) 0).toInt
theorem pw_z (a j : Nat) : tb_powers.getD (a * 6 + j) 0 = zI (pwI a j) := (fb_asI _).symm
def adl (e : Nat → Int) (o : Int) (a : Nat) : Nat → Int := fun j => e j + o * pwI a j
theorem adl_T (e : Nat → Int) (o : Int) (a : Nat) : (fun j => zT e j + zI o * tb_powers.getD (a * 6 + j) 0) = zT (adl e o a) := by
  funext j
  show zI (e j) + zI o * tb_powers.getD (a * 6 + j) 0 = zI (e j + o * pwI a j)
  rw [pw_z, zI_mul, zI_add]
def gsN (v : Nat → Nat) (z : Nat) : Nat → Nat → Nat
  | 0, _ => 0
  | i + 1, j => if j = gi z i then gsN v z i j + v i else gsN v z i j
theorem gs_n {f : Nat → Int32} {v : Nat → Nat} (h : ∀ j, j < 27 → f j = nI (v j)) (z : Nat) : ∀ i, i ≤ 27 → ∀ j, gs f z i j = nI (gsN v z i j)
  | 0, _, _ => rfl
  | i + 1, hi, j => by
    rw [gs, gsN, gs_n h z i (by omega) j, h i (by omega)]
    split
    · rw [nI_add]
    · rfl
def dsum (s : Nat → Nat) : Nat → Nat → Int
  | 0, _ => 0
  | i + 1, j => dsum s i j + (s i : Int) * pwI (s i) j
/-- a set's doubt times N, as exponents -/
def dq (v : Nat → Nat) (n z j : Nat) : Int := (n : Int) * pwI n j - dsum (gsN v z 27) 27 j
def dxp (e : Nat → Int) (tm : Int) (v : Nat → Nat) (n z i : Nat) : Nat → Int := fun j => e j + tm * ((n : Int) * pwI n j) - tm * dsum (gsN v z 27) i j
theorem dxp_0 (e : Nat → Int) (tm : Int) (v : Nat → Nat) (n z : Nat) : adl e (tm * (n : Int)) n = dxp e tm v n z 0 := by
  funext j
  simp only [adl, dxp, dsum, Int.mul_zero, Int.sub_zero, Int.mul_assoc]
theorem dxp_k {e : Nat → Int} {tm : Int} {v : Nat → Nat} {n z i : Nat} (h : gsN v z 27 i = 0) : dxp e tm v n z i = dxp e tm v n z (i + 1) := by
  funext j
  simp only [dxp, dsum, h, Int.ofNat_zero, Int.zero_mul, Int.add_zero]
theorem dxp_s (e : Nat → Int) (tm : Int) (v : Nat → Nat) (n z i : Nat) : adl (dxp e tm v n z i) (-tm * (gsN v z 27 i : Int)) (gsN v z 27 i) = dxp e tm v n z (i + 1) := by
  funext j
  simp only [adl, dxp, dsum]
  rw [Int.mul_add tm, Int.neg_mul, Int.neg_mul, Int.mul_assoc tm (gsN v z 27 i : Int)]
  omega
def dxq (e : Nat → Int) (tm : Int) (v : Nat → Nat) (n z : Nat) : Nat → Int := fun j => e j + tm * dq v n z j
theorem dxp_e (e : Nat → Int) (tm : Int) (v : Nat → Nat) (n z : Nat) : dxp e tm v n z 27 = dxq e tm v n z := by
  funext j
  simp only [dxp, dxq, dq]
  rw [Int.mul_sub]
  omega
theorem c_addLogZ (D : va_G) (k : Nat → ClassId) (t : Nat → Nat) (l : Launch) {ad : Nat → Nat} {N : Nat → Int32} {S Wt L : Nat → Nat → Int32} {G : Nat → Nat → Int64} {E : Nat → Int32} {su pa tr sh : Nat → Int32} {pv : Int32} {a : Nat} {ee : Nat → Int} (o : Int) (ha : 1 ≤ a) (ha2 : a ≤ 16) : Cv D k t l yX0_addLog wsX0_addLog ({ frames := 0, cells := 0, slots := 0, locals := 0 }) [.ref (ad 25), .int (nI a), .int (zI o)] (TBw ad k N S Wt L (zT (ee)) G E su pa tr sh pv) (fun w => w = TBw ad k N S Wt L (zT (adl ee o a)) G E su pa tr sh pv) 0 0 := by
  have h := c_X0_addLog D k t l (ad := ad) (N := N) (S := S) (Wt := Wt) (L := L) (T := zT ee) (G := G) (E := E) (su := su) (pa := pa) (tr := tr) (sh := sh) (pv := pv) (a := a) (zI o) ha ha2
  rw [adl_T] at h
  exact h
theorem nI_z0' {a : Nat} (h : a < 2 ^ 31) (q : nI a ≤ 0) : a = 0 := by
  rcases Nat.eq_zero_or_pos a with z | z
  · exact z
  · exact absurd q (nI_nle z h)
theorem nI_p {a : Nat} (q : ¬ nI a ≤ 0) : 1 ≤ a := by
  rcases Nat.eq_zero_or_pos a with z | z
  · subst z; exact absurd (by decide) q
  · exact z
set_option maxRecDepth 20000 in
theorem in_X3_addDoubt_X3 : ∀ w ∈ u_ws RX3 TX3 8, w ∈ wsX3_addDoubt := by decide +kernel
set_option maxRecDepth 20000 in
theorem lk_X3_addDoubt_27 : Cond.fieldLink RX3 27 (TX3 3).1 (TX3 3).2.1 (TX3 3).2.2.1 ∈ wsX3_addDoubt := by decide +kernel
set_option maxRecDepth 20000 in
theorem lk_X3_addDoubt_23 : Cond.fieldLink RX3 23 (TX3 2).1 (TX3 2).2.1 (TX3 2).2.2.1 ∈ wsX3_addDoubt := by decide +kernel
set_option maxRecDepth 20000 in
theorem in_X3_addDoubt_X2 : ∀ w ∈ u_ws RX2 TX2 3, w ∈ wsX3_addDoubt := by decide +kernel
set_option maxHeartbeats 4000000 in
set_option maxRecDepth 100000 in
theorem c_X3_addDoubt (D : va_G) (k : Nat → ClassId) (t : Nat → Nat) (l : Launch) {ad : Nat → Nat} {N : Nat → Int32} {S Wt L : Nat → Nat → Int32} {G : Nat → Nat → Int64} {E : Nat → Int32} {su pa tr sh : Nat → Int32} {pv : Int32} {g z n : Nat} {vt : Nat → Nat} {ee : Nat → Int} {tm : Int} (hg : g < 4) (hz : z < 8) (hn : N g = nI n) (hn1 : 1 ≤ n) (hn2 : n ≤ 16) (hv : ∀ j, j < 27 → Wt g j = nI (vt j)) (hs : ∀ j, gsN vt z 27 j ≤ 16) : Cv D k t l yX3_addDoubt wsX3_addDoubt ({ frames := 2, cells := 0, slots := 0, locals := 60 }) [.ref (ad 0), .ref (ad (2 + 3 * g)), .int (nI z), .int (zI tm)] (TBw ad k N S Wt L (zT ee) G E su pa tr sh pv) (fun w => w = TBw ad k N S Wt L (zT (dxq ee tm vt n z)) G E (gs (Wt g) z 27) pa tr sh pv) 0 0 := by
  refine fw_of (cc := cX3_addDoubt) (maxL := 5) (ret := none) (Qc := fun A => va_Qv (fun w => w = TBw ad k N S Wt L (zT (dxq ee tm vt n z)) G E (gs (Wt g) z 27) pa tr sh pv) (BcW D A) A) (by decide) rfl (Nat.le_of_ble_eq_true rfl) ?_
  intro p e s m below meth c A ls C hP hD hl
  have C : Cx RX3 "addDoubt" cX3_addDoubt 5 none wsX3_addDoubt D k t A p s m ([.ref (ad 0), .ref (ad (2 + 3 * g)), .int (nI z), .int (zI tm)] : List Value).toArray meth c := C
  have hl : lv_has ls 5 [(0, .ref (ad 0)), (1, .ref (ad (2 + 3 * g))), (2, .int (nI z)), (3, .int (zI tm))] := hl
  have hx := C.1
  have hb := C.2.1
  have hown := C.2.2.2.2.1
  have hts := C.2.2.2.2.2.1
  have hK := C.2.2.2.2.2.2.2.2.1
  have hZ := C.2.2.2.2.2.2.2.2.2.1
  have hN := C.2.2.2.2.2.2.2.2.2.2
  have hS : va_S A s.heap s.heap [] := va_S.rf
  refine lv_aload_n hx hb dX3_addDoubt_0 rfl (lv_at hl 1 rfl) ?_
  refine lv_iload_n hx hb dX3_addDoubt_1 rfl (lv_at hl 2 rfl) ?_
  refine lv_aload_n hx hb dX3_addDoubt_2 rfl (lv_at hl 0 rfl) ?_
  refine fg C hP 0 tb_o (ci := 3) rfl 3 (by decide) in_X3_addDoubt_X3 lk_X3_addDoubt_27 (v := .ref (ad 31)) rfl dX3_addDoubt_3 ?_
  refine fw_v C hD hS (rn_VN (As := [.int (nI z), .ref (ad 31)]) (rest := []) (host := RX3) (C2 := RX2) C (c_X2_gather D k t l hg hz _) (va_cnB 2 hts gX3_addDoubt_X2_gather_n97 rfl rfl rfl (hN.1 (RX3, 97, yX2_gather) (List.mem_of_getElem? (i := 10) rfl)) (hts (.initialized RX2) (by decide +kernel)) hdX2_gather ⟨Nat.le_of_ble_eq_true rfl, Nat.le_of_ble_eq_true rfl⟩) (hts (.instanceMethod yX2_gather) (by decide +kernel)) (hts (.selects RX2 yX2_gather yX2_gather) (by decide +kernel)) (2 + 3 * g) 2 rfl (tb_w hg) rfl hP hD hS rfl hl.1 rfl (Nat.le_of_ble_eq_true rfl) dX3_addDoubt_6 ⟨Nat.zero_le _, Nat.zero_le _⟩) (fun wr1 H locs h2 hP hD hS => ?_)
  obtain rfl := h2
  refine lv_aload_n hx hb dX3_addDoubt_9 rfl (lv_at hl 0 rfl) ?_
  refine fg C hP 0 tb_o (ci := 3) rfl 2 (by decide) in_X3_addDoubt_X3 lk_X3_addDoubt_23 (v := .ref (ad 25)) rfl dX3_addDoubt_10 ?_
  refine lv_aload_n hx hb dX3_addDoubt_13 rfl (lv_at hl 1 rfl) ?_
  refine fg_N C hP (2 + 3 * g) (tb_w hg) (ci := 2) rfl 2 (by decide) in_X3_addDoubt_X2 (hN.2 (RX3, 75, RX2, "total", "I") (List.mem_of_getElem? (i := 2) rfl)) (v := .int (N g)) rfl dX3_addDoubt_14 ?_
  refine tp_i (y := nI n) (hn) ?_
  refine lv_iload_n hx hb dX3_addDoubt_17 rfl (lv_at hl 3 rfl) ?_
  refine lv_aload_n hx hb dX3_addDoubt_18 rfl (lv_at hl 1 rfl) ?_
  refine fg_N C hP (2 + 3 * g) (tb_w hg) (ci := 2) rfl 2 (by decide) in_X3_addDoubt_X2 (hN.2 (RX3, 75, RX2, "total", "I") (List.mem_of_getElem? (i := 2) rfl)) (v := .int (N g)) rfl dX3_addDoubt_19 ?_
  refine tp_i (y := nI n) (hn) ?_
  refine lv_imul hx hb dX3_addDoubt_22 ?_
  refine tp_i (y := zI (tm * (n : Int))) (by rw [nz, zI_mul]) ?_
  refine fw_v C hD hS (rn_VN (As := [.int (nI n), .int (zI (tm * (n : Int)))]) (rest := []) (host := RX3) (C2 := RX0) C (c_addLogZ D k t l (a := n) (tm * (n : Int)) (by omega) (by omega) _) (va_cnB 2 hts gX3_addDoubt_X0_addLog_n131 rfl rfl rfl (hN.1 (RX3, 131, yX0_addLog) (List.mem_of_getElem? (i := 14) rfl)) (hts (.initialized RX0) (by decide +kernel)) hdX0_addLog ⟨Nat.le_of_ble_eq_true rfl, Nat.le_of_ble_eq_true rfl⟩) (hts (.instanceMethod yX0_addLog) (by decide +kernel)) (hts (.selects RX0 yX0_addLog yX0_addLog) (by decide +kernel)) 25 0 rfl tb_g rfl hP hD hS rfl hl.1 rfl (Nat.le_of_ble_eq_true rfl) dX3_addDoubt_23 ⟨Nat.zero_le _, Nat.zero_le _⟩) (fun wr3 H locs h4 hP hD hS => ?_)
  obtain rfl := h4
  refine lv_iconst (v := nI 0) hx hb dX3_addDoubt_26 (by decide) ?_
  refine lv_istore (lv' := [(4, .int (nI 0)), (0, .ref (ad 0)), (1, .ref (ad (2 + 3 * g))), (2, .int (nI z)), (3, .int (zI tm))]) hx hb dX3_addDoubt_27 hl (by decide) rfl (fun ls hl => ?_)
  have L5 : ∀ (r i : Nat), i + r = 27 → ∀ (H : Heap) (locs : List Loc) (ls : Array Slot), va_P D vwCl (TBw ad k N S Wt L (zT (dxp ee tm vt n z i)) G E (gs (Wt g) z 27) pa tr sh pv) H → va_D A (TBw ad k N S Wt L (zT (dxp ee tm vt n z i)) G E (gs (Wt g) z 27) pa tr sh pv) → va_S A s.heap H locs → lv_has ls 5 [(0, .ref (ad 0)), (1, .ref (ad (2 + 3 * g))), (3, .int (zI tm)), (4, .int (nI i))] → W p l e ({ frames := 2, cells := 0, slots := 0, locals := 60 }) s m ([.ref (ad 0), .ref (ad (2 + 3 * g)), .int (nI z), .int (zI tm)] : List Value).toArray below meth c H locs 0 0 (MQ below (va_Qv (fun w => w = TBw ad k N S Wt L (zT (dxq ee tm vt n z)) G E (gs (Wt g) z 27) pa tr sh pv) (BcW D A) A) ([.ref (ad 0), .ref (ad (2 + 3 * g)), .int (nI z), .int (zI tm)] : List Value).toArray s 0 0 A) (F0 m 29 ls []) := by
    intro r
    induction r with
    | zero =>
      intro i hr H locs ls hP hD hS hl
      obtain rfl : 27 = i := by omega
      refine lv_iload hx hb dX3_addDoubt_29 (lv_at hl 3 rfl) ?_
      refine lv_bipush (v := nI 27) hx hb dX3_addDoubt_31 (by decide) ?_
      refine lv_icmp_ge (tgt := 76) hx hb dX3_addDoubt_33 (by decide) (fun c6 => ?_) (fun c6 => absurd (nI_le (by omega) (by decide)) c6)
      rw [dxp_e] at hP hD
      exact Rv C hP hD hS (Nat.zero_le _) (Nat.zero_le _) dX3_addDoubt_76 rfl
    | succ r ihL5 =>
      intro i hr H locs ls hP hD hS hl
      refine lv_iload hx hb dX3_addDoubt_29 (lv_at hl 3 rfl) ?_
      refine lv_bipush (v := nI 27) hx hb dX3_addDoubt_31 (by decide) ?_
      refine lv_icmp_ge (tgt := 76) hx hb dX3_addDoubt_33 (by decide) (fun c7 => absurd c7 (nI_ge (by omega) (by decide))) (fun c7 => ?_)
      refine lv_aload_n hx hb dX3_addDoubt_36 rfl (lv_at hl 0 rfl) ?_
      refine fg C hP 0 tb_o (ci := 3) rfl 3 (by decide) in_X3_addDoubt_X3 lk_X3_addDoubt_27 (v := .ref (ad 31)) rfl dX3_addDoubt_37 ?_
      refine lv_iload hx hb dX3_addDoubt_40 (lv_at hl 3 rfl) ?_
      refine ar_i C hP 31 tb_su (j := i) (by omega) (by decide) dX3_addDoubt_42 ?_
      refine tp_i (y := nI (gsN vt z 27 i)) (gs_n hv z 27 (Nat.le_refl _) i) ?_
      refine lv_if_le (tgt := 70) hx hb dX3_addDoubt_43 (by decide) (fun c8 => ?_) (fun c8 => ?_)
      · refine lv_iinc (v := nI (i + 1)) (lv' := [(4, .int (nI (i + 1))), (0, .ref (ad 0)), (1, .ref (ad (2 + 3 * g))), (3, .int (zI tm))]) hx hb dX3_addDoubt_70 hl (k := 3) rfl (by rw [← nI_add i 1]; rfl) (by decide) rfl (fun ls hl => ?_)
        refine lv_goto (tgt := 29) hx hb dX3_addDoubt_73 (by decide) ?_
        rw [dxp_k (i := i) (nI_z0' (by have := hs i; omega) c8)] at hP hD
        exact ihL5 (i + 1) (by omega) _ _ _ hP hD hS (lv_sub hl [1, 2, 3, 0] rfl)
      · have hp := nI_p c8
        refine lv_aload_n hx hb dX3_addDoubt_46 rfl (lv_at hl 0 rfl) ?_
        refine fg C hP 0 tb_o (ci := 3) rfl 2 (by decide) in_X3_addDoubt_X3 lk_X3_addDoubt_23 (v := .ref (ad 25)) rfl dX3_addDoubt_47 ?_
        refine lv_aload_n hx hb dX3_addDoubt_50 rfl (lv_at hl 0 rfl) ?_
        refine fg C hP 0 tb_o (ci := 3) rfl 3 (by decide) in_X3_addDoubt_X3 lk_X3_addDoubt_27 (v := .ref (ad 31)) rfl dX3_addDoubt_51 ?_
        refine lv_iload hx hb dX3_addDoubt_54 (lv_at hl 3 rfl) ?_
        refine ar_i C hP 31 tb_su (j := i) (by omega) (by decide) dX3_addDoubt_56 ?_
        refine tp_i (y := nI (gsN vt z 27 i)) (gs_n hv z 27 (Nat.le_refl _) i) ?_
        refine lv_iload_n hx hb dX3_addDoubt_57 rfl (lv_at hl 2 rfl) ?_
        refine lv_ineg hx hb dX3_addDoubt_58 ?_
        refine tp_i (y := zI (-tm)) (zI_neg _) ?_
        refine lv_aload_n hx hb dX3_addDoubt_59 rfl (lv_at hl 0 rfl) ?_
        refine fg C hP 0 tb_o (ci := 3) rfl 3 (by decide) in_X3_addDoubt_X3 lk_X3_addDoubt_27 (v := .ref (ad 31)) rfl dX3_addDoubt_60 ?_
        refine lv_iload hx hb dX3_addDoubt_63 (lv_at hl 3 rfl) ?_
        refine ar_i C hP 31 tb_su (j := i) (by omega) (by decide) dX3_addDoubt_65 ?_
        refine tp_i (y := nI (gsN vt z 27 i)) (gs_n hv z 27 (Nat.le_refl _) i) ?_
        refine lv_imul hx hb dX3_addDoubt_66 ?_
        refine tp_i (y := zI (-tm * (gsN vt z 27 i : Int))) (by rw [nz, zI_mul]) ?_
        refine fw_v C hD hS (rn_VN (As := [.int (nI (gsN vt z 27 i)), .int (zI (-tm * (gsN vt z 27 i : Int)))]) (rest := []) (host := RX3) (C2 := RX0) C (c_addLogZ D k t l (a := (gsN vt z 27 i)) (-tm * (gsN vt z 27 i : Int)) hp (hs i) _) (va_cnB 2 hts gX3_addDoubt_X0_addLog_n131 rfl rfl rfl (hN.1 (RX3, 131, yX0_addLog) (List.mem_of_getElem? (i := 14) rfl)) (hts (.initialized RX0) (by decide +kernel)) hdX0_addLog ⟨Nat.le_of_ble_eq_true rfl, Nat.le_of_ble_eq_true rfl⟩) (hts (.instanceMethod yX0_addLog) (by decide +kernel)) (hts (.selects RX0 yX0_addLog yX0_addLog) (by decide +kernel)) 25 0 rfl tb_g rfl hP hD hS rfl hl.1 rfl (Nat.le_of_ble_eq_true rfl) dX3_addDoubt_67 ⟨Nat.zero_le _, Nat.zero_le _⟩) (fun wr9 H locs h10 hP hD hS => ?_)
        obtain rfl := h10
        refine lv_iinc (v := nI (i + 1)) (lv' := [(4, .int (nI (i + 1))), (0, .ref (ad 0)), (1, .ref (ad (2 + 3 * g))), (3, .int (zI tm))]) hx hb dX3_addDoubt_70 hl (k := 3) rfl (by rw [← nI_add i 1]; rfl) (by decide) rfl (fun ls hl => ?_)
        refine lv_goto (tgt := 29) hx hb dX3_addDoubt_73 (by decide) ?_
        rw [dxp_s] at hP hD
        exact ihL5 (i + 1) (by omega) _ _ _ hP hD hS (lv_sub hl [1, 2, 3, 0] rfl)
  rw [dxp_0 ee tm vt n z] at hP hD
  exact L5 (27 - 0) 0 (by omega) _ _ _ hP hD hS (lv_sub hl [1, 2, 4, 0] rfl)

def lxp (e : Nat → Int) (v : Nat → Nat) (n : Nat) (q : Nat → Int) (tm : Int) : Nat → Nat → Int
  | 0 => e
  | i + 1 => dxq (lxp e v n q tm i) (q (i + 1) * tm) v n (i + 1)
theorem dxq_0 {e : Nat → Int} {tm : Int} {v : Nat → Nat} {n z : Nat} (h : tm = 0) : dxq e tm v n z = e := by
  funext j
  simp only [dxq, h, Int.zero_mul, Int.add_zero]
theorem zI_0 {q : Int} (h : -2 ≤ q ∧ q ≤ 2) (e : zI q = 0) : q = 0 := by
  have h1 := zI_toInt (z := q) (by omega) (by omega)
  rw [e] at h1
  exact h1.symm
set_option maxHeartbeats 4000000 in
set_option maxRecDepth 100000 in
theorem c_X3_addLawSum (D : va_G) (k : Nat → ClassId) (t : Nat → Nat) (l : Launch) {ad : Nat → Nat} {N : Nat → Int32} {S Wt L : Nat → Nat → Int32} {G : Nat → Nat → Int64} {E : Nat → Int32} {su pa tr sh : Nat → Int32} {pv : Int32} {g j n : Nat} {vt : Nat → Nat} {ee qs : Nat → Int} {tm : Int} (hg : g < 4) (hj : j < 10) (hn : N g = nI n) (hn1 : 1 ≤ n) (hn2 : n ≤ 16) (hv : ∀ j, j < 27 → Wt g j = nI (vt j)) (hs : ∀ z j, gsN vt z 27 j ≤ 16) (hL : ∀ z, z < 8 → L j z = zI (qs z)) (hq : ∀ z, z < 8 → -2 ≤ qs z ∧ qs z ≤ 2) : Cv D k t l yX3_addLawSum wsX3_addLawSum ({ frames := 3, cells := 0, slots := 0, locals := 90 }) [.ref (ad 0), .ref (ad (2 + 3 * g)), .ref (ad (15 + j)), .int (zI tm)] (TBw ad k N S Wt L (zT ee) G E su pa tr sh pv) (fun w => ∃ su2 : Nat → Int32, w = TBw ad k N S Wt L (zT (lxp ee vt n qs tm 7)) G E su2 pa tr sh pv) 0 0 := by
  refine fw_of (cc := cX3_addLawSum) (maxL := 5) (ret := none) (Qc := fun A => va_Qv (fun w => ∃ su2 : Nat → Int32, w = TBw ad k N S Wt L (zT (lxp ee vt n qs tm 7)) G E su2 pa tr sh pv) (BcW D A) A) (by decide) rfl (Nat.le_of_ble_eq_true rfl) ?_
  intro p e s m below meth c A ls C hP hD hl
  have C : Cx RX3 "addLawSum" cX3_addLawSum 5 none wsX3_addLawSum D k t A p s m ([.ref (ad 0), .ref (ad (2 + 3 * g)), .ref (ad (15 + j)), .int (zI tm)] : List Value).toArray meth c := C
  have hl : lv_has ls 5 [(0, .ref (ad 0)), (1, .ref (ad (2 + 3 * g))), (2, .ref (ad (15 + j))), (3, .int (zI tm))] := hl
  have hx := C.1
  have hb := C.2.1
  have hown := C.2.2.2.2.1
  have hts := C.2.2.2.2.2.1
  have hK := C.2.2.2.2.2.2.2.2.1
  have hZ := C.2.2.2.2.2.2.2.2.2.1
  have hN := C.2.2.2.2.2.2.2.2.2.2
  have hS : va_S A s.heap s.heap [] := va_S.rf
  refine lv_iconst (v := nI 1) hx hb dX3_addLawSum_0 (by decide) ?_
  refine tp_i (y := nI (0 + 1)) (rfl) ?_
  refine lv_istore (lv' := [(4, .int (nI (0 + 1))), (0, .ref (ad 0)), (1, .ref (ad (2 + 3 * g))), (2, .ref (ad (15 + j))), (3, .int (zI tm))]) hx hb dX3_addLawSum_1 hl (by decide) rfl (fun ls hl => ?_)
  have L1 : ∀ (r i : Nat), i + r = 7 → ∀ (su1 : Nat → Int32), ∀ (H : Heap) (locs : List Loc) (ls : Array Slot), va_P D vwCl (TBw ad k N S Wt L (zT (lxp ee vt n qs tm i)) G E su1 pa tr sh pv) H → va_D A (TBw ad k N S Wt L (zT (lxp ee vt n qs tm i)) G E su1 pa tr sh pv) → va_S A s.heap H locs → lv_has ls 5 [(0, .ref (ad 0)), (1, .ref (ad (2 + 3 * g))), (2, .ref (ad (15 + j))), (3, .int (zI tm)), (4, .int (nI (i + 1)))] → W p l e ({ frames := 3, cells := 0, slots := 0, locals := 90 }) s m ([.ref (ad 0), .ref (ad (2 + 3 * g)), .ref (ad (15 + j)), .int (zI tm)] : List Value).toArray below meth c H locs 0 0 (MQ below (va_Qv (fun w => ∃ su2 : Nat → Int32, w = TBw ad k N S Wt L (zT (lxp ee vt n qs tm 7)) G E su2 pa tr sh pv) (BcW D A) A) ([.ref (ad 0), .ref (ad (2 + 3 * g)), .ref (ad (15 + j)), .int (zI tm)] : List Value).toArray s 0 0 A) (F0 m 3 ls []) := by
    intro r
    induction r with
    | zero =>
      intro i hr su1 H locs ls hP hD hS hl
      obtain rfl : 7 = i := by omega
      refine lv_iload hx hb dX3_addLawSum_3 (lv_at hl 4 rfl) ?_
      refine lv_bipush (v := nI 8) hx hb dX3_addLawSum_5 (by decide) ?_
      refine lv_icmp_ge (tgt := 36) hx hb dX3_addLawSum_7 (by decide) (fun c2 => ?_) (fun c2 => absurd (nI_le (by omega) (by decide)) c2)
      exact Rv C hP hD hS (Nat.zero_le _) (Nat.zero_le _) dX3_addLawSum_36 (⟨_, rfl⟩)
    | succ r ihL1 =>
      intro i hr su1 H locs ls hP hD hS hl
      refine lv_iload hx hb dX3_addLawSum_3 (lv_at hl 4 rfl) ?_
      refine lv_bipush (v := nI 8) hx hb dX3_addLawSum_5 (by decide) ?_
      refine lv_icmp_ge (tgt := 36) hx hb dX3_addLawSum_7 (by decide) (fun c3 => absurd c3 (nI_ge (by omega) (by decide))) (fun c3 => ?_)
      refine lv_aload_n hx hb dX3_addLawSum_10 rfl (lv_at hl 2 rfl) ?_
      refine lv_iload hx hb dX3_addLawSum_11 (lv_at hl 4 rfl) ?_
      refine ar_i C hP (15 + j) (tb_l hj) (j := (i + 1)) (by omega) (by decide) dX3_addLawSum_13 ?_
      refine tp_i (y := zI (qs (i + 1))) (hL (i + 1) (by omega)) ?_
      refine lv_if_eq (tgt := 30) hx hb dX3_addLawSum_14 (by decide) (fun c4 => ?_) (fun c4 => ?_)
      · refine lv_iinc (v := nI ((i + 1) + 1)) (lv' := [(4, .int (nI ((i + 1) + 1))), (0, .ref (ad 0)), (1, .ref (ad (2 + 3 * g))), (2, .ref (ad (15 + j))), (3, .int (zI tm))]) hx hb dX3_addLawSum_30 hl (k := 4) rfl (by rw [← nI_add (i + 1) 1]; rfl) (by decide) rfl (fun ls hl => ?_)
        refine lv_goto (tgt := 3) hx hb dX3_addLawSum_33 (by decide) ?_
        rw [show lxp ee vt n qs tm i = lxp ee vt n qs tm (i + 1) from (dxq_0 (by rw [zI_0 (hq (i + 1) (by omega)) c4, Int.zero_mul])).symm] at hP hD
        exact ihL1 (i + 1) (by omega) _ _ _ _ hP hD hS (lv_sub hl [1, 2, 3, 4, 0] rfl)
      · refine lv_aload_n hx hb dX3_addLawSum_17 rfl (lv_at hl 0 rfl) ?_
        refine lv_aload_n hx hb dX3_addLawSum_18 rfl (lv_at hl 1 rfl) ?_
        refine lv_iload hx hb dX3_addLawSum_19 (lv_at hl 4 rfl) ?_
        refine lv_aload_n hx hb dX3_addLawSum_21 rfl (lv_at hl 2 rfl) ?_
        refine lv_iload hx hb dX3_addLawSum_22 (lv_at hl 4 rfl) ?_
        refine ar_i C hP (15 + j) (tb_l hj) (j := (i + 1)) (by omega) (by decide) dX3_addLawSum_24 ?_
        refine tp_i (y := zI (qs (i + 1))) (hL (i + 1) (by omega)) ?_
        refine lv_iload_n hx hb dX3_addLawSum_25 rfl (lv_at hl 3 rfl) ?_
        refine lv_imul hx hb dX3_addLawSum_26 ?_
        refine tp_i (y := zI (qs (i + 1) * tm)) (zI_mul _ _) ?_
        refine fw_v C hD hS (rn_V (As := [.ref (ad (2 + 3 * g)), .int (nI (i + 1)), .int (zI (qs (i + 1) * tm))]) (rest := []) C (c_X3_addDoubt D k t l (z := (i + 1)) (tm := (qs (i + 1) * tm)) hg (by omega) hn hn1 hn2 hv (hs _) _) (cwV 3 hts gX3_addLawSum_X3_addDoubt rfl rfl rfl hdX3_addDoubtC ⟨Nat.le_of_ble_eq_true rfl, Nat.le_of_ble_eq_true rfl⟩) 0 3 rfl tb_o rfl hP hD hS rfl hl.1 rfl (Nat.le_of_ble_eq_true rfl) dX3_addLawSum_27 ⟨Nat.zero_le _, Nat.zero_le _⟩) (fun wr5 H locs h6 hP hD hS => ?_)
        obtain rfl := h6
        refine lv_iinc (v := nI ((i + 1) + 1)) (lv' := [(4, .int (nI ((i + 1) + 1))), (0, .ref (ad 0)), (1, .ref (ad (2 + 3 * g))), (2, .ref (ad (15 + j))), (3, .int (zI tm))]) hx hb dX3_addLawSum_30 hl (k := 4) rfl (by rw [← nI_add (i + 1) 1]; rfl) (by decide) rfl (fun ls hl => ?_)
        refine lv_goto (tgt := 3) hx hb dX3_addLawSum_33 (by decide) ?_
        exact ihL1 (i + 1) (by omega) _ _ _ _ hP hD hS (lv_sub hl [1, 2, 3, 4, 0] rfl)
  exact L1 (7 - 0) 0 (by omega) _ _ _ _ hP hD hS (lv_sub hl [1, 2, 3, 4, 0] rfl)

