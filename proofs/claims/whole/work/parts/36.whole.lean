theorem wb_tb (n : Nat) : (lN n).toBitVec = BitVec.ofNat 64 n := rfl
theorem wb_inj {a b : Int64} (h : a.toBitVec = b.toBitVec) : a = b := Int64.toBitVec_inj.mp h
theorem wb_tn {n : Nat} (h : n < 2 ^ 64) : (lN n).toBitVec.toNat = n := by rw [wb_tb, BitVec.toNat_ofNat, Nat.mod_eq_of_lt h]
theorem wb_cu : ∀ k, k < 64 → ((nI k).toInt64.toUInt64 &&& Int64.toUInt64 63) = UInt64.ofNat k := by decide +kernel
theorem wb_shr {n k : Nat} (hn : n < 2 ^ 64) (hk : k < 64) : ((lN n).toUInt64 >>> ((nI k).toInt64.toUInt64 &&& Int64.toUInt64 63)).toInt64 = lN (n / 2 ^ k) := by
  rw [wb_cu k hk]
  apply wb_inj
  apply BitVec.eq_of_toNat_eq
  show ((lN n).toUInt64 >>> UInt64.ofNat k).toNat = (BitVec.ofNat 64 _).toNat
  have h1 : (UInt64.ofNat k).toNat = k := by
    show (BitVec.ofNat 64 k).toNat = k
    rw [BitVec.toNat_ofNat, Nat.mod_eq_of_lt (by omega)]
  have h2 : (lN n).toUInt64.toNat = n := wb_tn hn
  rw [UInt64.toNat_shiftRight, h1, h2, Nat.mod_eq_of_lt hk, Nat.shiftRight_eq_div_pow, BitVec.toNat_ofNat, Nat.mod_eq_of_lt (Nat.lt_of_le_of_lt (Nat.div_le_self _ _) hn)]
theorem fb_andL (a b : Nat) : lN a &&& lN b = lN (a &&& b) := by
  apply Int64.toBitVec_inj.1
  show BitVec.ofNat 64 a &&& BitVec.ofNat 64 b = BitVec.ofNat 64 (a &&& b)
  apply BitVec.eq_of_getLsbD_eq
  intro i hi
  simp [hi]
theorem fb_maskL (n k : Nat) : lN n &&& lN (2 ^ k - 1) = lN (n % 2 ^ k) := by rw [fb_andL, Nat.and_two_pow_sub_one_eq_mod]
/-! whole numbers of many digits -/
def wv (f : Nat → Nat) : Nat → Nat
  | 0 => 0
  | n + 1 => wv f n + f n * 4294967296 ^ n
def mcr (f : Nat → Nat) (c : Nat) : Nat → Nat
  | 0 => 0
  | i + 1 => (f i * c + mcr f c i) / 4294967296
def md (f : Nat → Nat) (c i : Nat) : Nat := (f i * c + mcr f c i) % 4294967296
theorem mcr_lt {f : Nat → Nat} {c : Nat} (hc : 0 < c) : ∀ (i : Nat), (∀ j, j < i → f j < 4294967296) → mcr f c i < c
  | 0, _ => hc
  | i + 1, h => by
    have h1 := mcr_lt hc i (fun j hj => h j (by omega))
    have h2 := h i (by omega)
    rw [mcr, Nat.div_lt_iff_lt_mul (by decide)]
    have h3 : f i * c ≤ 4294967295 * c := Nat.mul_le_mul_right c (by omega)
    omega
theorem md_val (f : Nat → Nat) (c : Nat) : ∀ i, wv (md f c) i + mcr f c i * 4294967296 ^ i = wv f i * c
  | 0 => by simp [wv, mcr]
  | i + 1 => by
    have h := md_val f c i
    have e : f i * c + mcr f c i = 4294967296 * mcr f c (i + 1) + md f c i := (Nat.div_add_mod _ _).symm
    have e2 : mcr f c (i + 1) * 4294967296 ^ (i + 1) = 4294967296 * mcr f c (i + 1) * 4294967296 ^ i := by
      rw [Nat.pow_succ, Nat.mul_comm (4294967296 ^ i), ← Nat.mul_assoc, Nat.mul_comm (mcr f c (i + 1))]
    rw [wv, wv, Nat.add_mul, ← h, e2]
    have e3 : (f i * c + mcr f c i) * 4294967296 ^ i = 4294967296 * mcr f c (i + 1) * 4294967296 ^ i + md f c i * 4294967296 ^ i := by rw [e, Nat.add_mul]
    rw [Nat.add_mul] at e3
    have e4 : f i * 4294967296 ^ i * c = f i * c * 4294967296 ^ i := by rw [Nat.mul_assoc, Nat.mul_comm (4294967296 ^ i), ← Nat.mul_assoc]
    omega
theorem wv_lt {f : Nat → Nat} : ∀ (n : Nat), (∀ j, j < n → f j < 4294967296) → wv f n < 4294967296 ^ n
  | 0, _ => by simp [wv]
  | n + 1, h => by
    have h1 := wv_lt n (fun j hj => h j (by omega))
    have h2 := h n (by omega)
    have h3 : f n * 4294967296 ^ n ≤ 4294967295 * 4294967296 ^ n := Nat.mul_le_mul_right _ (by omega)
    rw [wv, Nat.pow_succ]
    omega
theorem wv_cg {f g : Nat → Nat} : ∀ (n : Nat), (∀ j, j < n → f j = g j) → wv f n = wv g n
  | 0, _ => rfl
  | n + 1, h => by rw [wv, wv, wv_cg n (fun j hj => h j (by omega)), h n (by omega)]
def mxL (a b : Nat → Int64) (i : Nat) : Nat → Int64 := fun j => if j < i then a j else b j
theorem mxL_s (a b : Nat → Int64) (i : Nat) : vp_updL (mxL a b i) i (a i) = mxL a b (i + 1) := by
  funext j
  by_cases h : j = i
  · subst h; simp [vp_updL, mxL]
  · have : (j < i + 1) = (j < i) := by simp; omega
    simp [vp_updL, mxL, h, this]
theorem mxL_0 (S : Nat → Nat → Int64) (a : Nat → Int64) (g : Nat) : va_up S g (mxL a (S g) 0) = S := by
  funext x j
  by_cases h : x = g
  · subst h; simp [va_up, mxL]
  · simp [va_up, h]
theorem mxL_at (a b : Nat → Int64) (i : Nat) : mxL a b i i = b i := by simp [mxL]
theorem mk32 (n : Nat) : lN n &&& (4294967295 : Int64) = lN (n % 4294967296) := fb_maskL n 32
theorem ush32 {n : Nat} (h : n < 2 ^ 64) : ((lN n).toUInt64 >>> ((nI 32).toInt64.toUInt64 &&& Int64.toUInt64 63)).toInt64 = lN (n / 4294967296) := wb_shr h (by decide)
/-- the row holds the number v -/
def RepW (g : Nat → Int64) (len : Int32) (v : Nat) : Prop := ∃ (f : Nat → Nat) (n : Nat), n ≤ 1024 ∧ 0 < n ∧ len = nI n ∧ (∀ j, j < n → g j = lN (f j) ∧ f j < 4294967296) ∧ wv f n = v ∧ f (n - 1) ≠ 0
theorem upd_self (E : Nat → Int32) (u : Nat) : upd E u (E u) = E := by
  funext j
  by_cases h : j = u
  · subst h; simp [upd]
  · simp [upd, h]
theorem RepW_of {f : Nat → Nat} {c n v : Nat} {g : Nat → Int64} (hc : 0 < c) (hn : n ≤ 1024) (h0 : 0 < n) (hf : ∀ j, j < n → g j = lN (f j) ∧ f j < 4294967296) (hv : wv f n = v) (ht : f (n - 1) ≠ 0) (hz : mcr f c n = 0) : RepW (mxL (fun j => lN (md f c j)) g n) (nI n) (v * c) := by
  refine ⟨md f c, n, hn, h0, rfl, fun j hj => ⟨if_pos hj, Nat.mod_lt _ (by decide)⟩, ?_, ?_⟩
  · have h := md_val f c n
    rw [hz, Nat.zero_mul, Nat.add_zero, hv] at h
    exact h
  · obtain ⟨m, rfl⟩ : ∃ m, n = m + 1 := ⟨n - 1, by omega⟩
    have e : m + 1 - 1 = m := by omega
    rw [e] at ht ⊢
    have e1 : f m * c + mcr f c m = 4294967296 * mcr f c (m + 1) + md f c m := (Nat.div_add_mod _ _).symm
    rw [hz] at e1
    have h2 : 0 < f m * c := Nat.mul_pos (by omega) hc
    omega
theorem RepW_up {f : Nat → Nat} {c n v : Nat} {g : Nat → Int64} (hn : n < 1024) (hf : ∀ j, j < n → f j < 4294967296) (hc : c < 4294967296) (hc0 : 0 < c) (hv : wv f n = v) (hz : mcr f c n ≠ 0) : RepW (vp_updL (mxL (fun j => lN (md f c j)) g n) n (lN (mcr f c n))) (nI (n + 1)) (v * c) := by
  refine ⟨fun j => if j = n then mcr f c n else md f c j, n + 1, by omega, by omega, rfl, fun j hj => ?_, ?_, ?_⟩
  · by_cases h : j = n
    · subst h
      have := mcr_lt hc0 j hf
      exact ⟨by simp [vp_updL], by simp; omega⟩
    · have h2 : j < n := by omega
      exact ⟨by simp [vp_updL, mxL, h, h2], by simp [h]; exact Nat.mod_lt _ (by decide)⟩
  · have h := md_val f c n
    rw [wv]
    rw [wv_cg (g := md f c) n (fun j hj => by have : j ≠ n := by omega
                                              simp [this])]
    simp only [↓reduceIte]
    rw [h, hv]
  · simp; exact hz
theorem carry_no {f : Nat → Nat} {c v : Nat} (hv : wv f 1024 = v) (hb : v * c < 4294967296 ^ 1024) : mcr f c 1024 = 0 := by
  have h := md_val f c 1024
  rw [hv] at h
  rcases Nat.eq_zero_or_pos (mcr f c 1024) with q | q
  · exact q
  · have : 1 * 4294967296 ^ 1024 ≤ mcr f c 1024 * 4294967296 ^ 1024 := Nat.mul_le_mul_right _ q
    exact absurd hb (Nat.not_lt.mpr (by rw [← h]; omega))
theorem lN_le0 {n : Nat} (h : n < 2 ^ 63) (q : lg_cmp (lN n) 0 ≤ 0) : n = 0 := by
  have h1 := (lg_cmp_le _ _).mp q
  have h2 := (pk_lLE (a := n) (b := 0) h (by decide)).mp h1
  omega
theorem RepW_one (g : Nat → Int64) : RepW (vp_updL g 0 1) (nI 1) 1 := ⟨fun _ => 1, 1, by decide, by decide, rfl, fun j hj => by
  have e : j = 0 := by omega
  subst e
  exact ⟨rfl, by decide⟩, by decide, by decide⟩
theorem va_self {α : Type} (G : Nat → α) (u : Nat) : va_up G u (G u) = G := by
  funext j
  by_cases h : j = u
  · subst h; simp [va_up]
  · simp [va_up, h]
theorem upd_upd (E : Nat → Int32) (u : Nat) (a b : Int32) : upd (upd E u a) u b = upd E u b := by
  funext j
  by_cases h : j = u <;> simp [upd, h]
theorem va_at_u {α : Type} (G : Nat → α) (u : Nat) (x : α) : va_up G u x u = x := by simp [va_up]
theorem upd_at_u (E : Nat → Int32) (u : Nat) (x : Int32) : upd E u x u = x := by simp [upd]
theorem wv_ge {f : Nat → Nat} {n : Nat} (h : f n ≠ 0) : 4294967296 ^ n ≤ wv f (n + 1) := by
  rw [wv]
  have : 1 * 4294967296 ^ n ≤ f n * 4294967296 ^ n := Nat.mul_le_mul_right _ (by omega)
  omega
theorem wv_len {f g : Nat → Nat} {n m : Nat} (hf : ∀ j, j < n → f j < 4294967296) (hm : 0 < m) (ht : g (m - 1) ≠ 0) (h : n < m) : wv f n < wv g m := by
  obtain ⟨k, rfl⟩ : ∃ k, m = k + 1 := ⟨m - 1, by omega⟩
  have h1 := wv_lt n hf
  have h2 := wv_ge (f := g) (n := k) (by simpa using ht)
  have h3 : 4294967296 ^ n ≤ 4294967296 ^ k := Nat.pow_le_pow_right (by decide) (by omega)
  omega
theorem wv_dig {f g : Nat → Nat} {r : Nat} : ∀ (n : Nat), r < n → (∀ j, j < n → f j < 4294967296) → f r < g r → (∀ j, r + 1 ≤ j → j < n → f j = g j) → wv f n < wv g n
  | 0, h, _, _, _ => absurd h (Nat.not_lt_zero _)
  | n + 1, h, hf, hl, he => by
    rcases Nat.lt_or_ge r n with q | q
    · have h1 := wv_dig n q (fun j hj => hf j (by omega)) hl (fun j h1 h2 => he j h1 (by omega))
      rw [wv, wv, he n (by omega) (by omega)]
      omega
    · obtain rfl : r = n := by omega
      have h1 := wv_lt r (fun j hj => hf j (by omega))
      have h2 : (f r + 1) * 4294967296 ^ r ≤ g r * 4294967296 ^ r := Nat.mul_le_mul_right _ hl
      rw [wv, wv]
      rw [Nat.add_mul] at h2
      omega
theorem lN_gt0 {n : Nat} (q : ¬ lg_cmp (lN n) 0 ≤ 0) : n ≠ 0 := fun e => q (by subst e; decide)

set_option maxRecDepth 20000 in
theorem in_X1_becomeOne_X1 : ∀ w ∈ u_ws RX1 TX1 2, w ∈ wsX1_becomeOne := by decide +kernel
set_option maxRecDepth 20000 in
theorem lk_X1_becomeOne_9 : Cond.fieldLink RX1 9 (TX1 0).1 (TX1 0).2.1 (TX1 0).2.2.1 ∈ wsX1_becomeOne := by decide +kernel
set_option maxRecDepth 20000 in
theorem lk_X1_becomeOne_13 : Cond.fieldLink RX1 13 (TX1 1).1 (TX1 1).2.1 (TX1 1).2.2.1 ∈ wsX1_becomeOne := by decide +kernel
set_option maxHeartbeats 4000000 in
set_option maxRecDepth 100000 in
theorem c_X1_becomeOne (D : va_G) (k : Nat → ClassId) (t : Nat → Nat) (l : Launch) {ad : Nat → Nat} {N : Nat → Int32} {S Wt L : Nat → Nat → Int32} {T : Nat → Int32} {G : Nat → Nat → Int64} {E : Nat → Int32} {su pa tr sh : Nat → Int32} {pv : Int32} {u : Nat} (hu : u < 2) : Cv D k t l yX1_becomeOne wsX1_becomeOne ({ frames := 0, cells := 0, slots := 0, locals := 0 }) [.ref (ad (27 + 2 * u))] (TBw ad k N S Wt L T G E su pa tr sh pv) (fun w => ∃ g2 : Nat → Int64, RepW g2 (nI 1) 1 ∧ w = TBw ad k N S Wt L T (va_up G u g2) (upd E u (nI 1)) su pa tr sh pv) 0 0 := by
  refine fw_of (cc := cX1_becomeOne) (maxL := 1) (ret := none) (Qc := fun A => va_Qv (fun w => ∃ g2 : Nat → Int64, RepW g2 (nI 1) 1 ∧ w = TBw ad k N S Wt L T (va_up G u g2) (upd E u (nI 1)) su pa tr sh pv) (BcW D A) A) (by decide) rfl (Nat.le_of_ble_eq_true rfl) ?_
  intro p e s m below meth c A ls C hP hD hl
  have C : Cx RX1 "becomeOne" cX1_becomeOne 1 none wsX1_becomeOne D k t A p s m ([.ref (ad (27 + 2 * u))] : List Value).toArray meth c := C
  have hl : lv_has ls 1 [(0, .ref (ad (27 + 2 * u)))] := hl
  have hx := C.1
  have hb := C.2.1
  have hown := C.2.2.2.2.1
  have hts := C.2.2.2.2.2.1
  have hK := C.2.2.2.2.2.2.2.2.1
  have hZ := C.2.2.2.2.2.2.2.2.2.1
  have hN := C.2.2.2.2.2.2.2.2.2.2
  have hS : va_S A s.heap s.heap [] := va_S.rf
  refine lv_aload_n hx hb dX1_becomeOne_0 rfl (lv_at hl 0 rfl) ?_
  refine fg C hP (27 + 2 * u) (tb_e hu) (ci := 1) rfl 0 (by decide) in_X1_becomeOne_X1 lk_X1_becomeOne_9 (v := .ref (ad (28 + 2 * u))) rfl dX1_becomeOne_1 ?_
  refine lv_iconst (v := nI 0) hx hb dX1_becomeOne_4 (by decide) ?_
  refine lv_lconst (v := 1) hx hb dX1_becomeOne_5 (by decide) ?_
  refine as_j C hP hD hS (28 + 2 * u) (tb_d hu) (j := 0) (by decide) (by decide) (tb_d_st hu _) dX1_becomeOne_6 (fun H locs hP hD hS => ?_)
  refine lv_aload_n hx hb dX1_becomeOne_7 rfl (lv_at hl 0 rfl) ?_
  refine lv_iconst (v := nI 1) hx hb dX1_becomeOne_8 (by decide) ?_
  refine fp C hP hD hS tyX1_ok nmX1 (27 + 2 * u) (tb_e hu) (ci := 1) rfl 1 (by decide) in_X1_becomeOne_X1 lk_X1_becomeOne_13 rfl (ty := .int) (v := .int (nI 1)) (by decide +kernel) rfl rfl (Nat.le_of_ble_eq_true rfl) (tb_e_st hu _) dX1_becomeOne_9 (fun H locs hP hD hS => ?_)
  exact Rv C hP hD hS (Nat.zero_le _) (Nat.zero_le _) dX1_becomeOne_12 (⟨_, RepW_one _, rfl⟩)

set_option maxRecDepth 20000 in
theorem in_X1_multiplyBy_X1 : ∀ w ∈ u_ws RX1 TX1 2, w ∈ wsX1_multiplyBy := by decide +kernel
set_option maxRecDepth 20000 in
theorem lk_X1_multiplyBy_13 : Cond.fieldLink RX1 13 (TX1 1).1 (TX1 1).2.1 (TX1 1).2.2.1 ∈ wsX1_multiplyBy := by decide +kernel
set_option maxRecDepth 20000 in
theorem lk_X1_multiplyBy_9 : Cond.fieldLink RX1 9 (TX1 0).1 (TX1 0).2.1 (TX1 0).2.2.1 ∈ wsX1_multiplyBy := by decide +kernel
set_option maxHeartbeats 4000000 in
set_option maxRecDepth 100000 in
theorem c_X1_multiplyBy (D : va_G) (k : Nat → ClassId) (t : Nat → Nat) (l : Launch) {ad : Nat → Nat} {N : Nat → Int32} {S Wt L : Nat → Nat → Int32} {T : Nat → Int32} {G : Nat → Nat → Int64} {E : Nat → Int32} {su pa tr sh : Nat → Int32} {pv : Int32} {u c0 v : Nat} (hu : u < 2) (hc0 : 0 < c0) (hc1 : c0 < 1073741824) (hR : RepW (G u) (E u) v) (hb0 : v * c0 < 4294967296 ^ 1024) : Cv D k t l yX1_multiplyBy wsX1_multiplyBy ({ frames := 0, cells := 0, slots := 0, locals := 0 }) [.ref (ad (27 + 2 * u)), .long (lN c0)] (TBw ad k N S Wt L T G E su pa tr sh pv) (fun w => ∃ (g2 : Nat → Int64) (e2 : Int32), RepW g2 e2 (v * c0) ∧ w = TBw ad k N S Wt L T (va_up G u g2) (upd E u e2) su pa tr sh pv) 0 0 := by
  refine fw_of (cc := cX1_multiplyBy) (maxL := 8) (ret := none) (Qc := fun A => va_Qv (fun w => ∃ (g2 : Nat → Int64) (e2 : Int32), RepW g2 e2 (v * c0) ∧ w = TBw ad k N S Wt L T (va_up G u g2) (upd E u e2) su pa tr sh pv) (BcW D A) A) (by decide) rfl (Nat.le_of_ble_eq_true rfl) ?_
  intro p e s m below meth c A ls C hP hD hl
  have C : Cx RX1 "multiplyBy" cX1_multiplyBy 8 none wsX1_multiplyBy D k t A p s m ([.ref (ad (27 + 2 * u)), .long (lN c0)] : List Value).toArray meth c := C
  have hl : lv_has ls 8 [(0, .ref (ad (27 + 2 * u))), (1, .long (lN c0))] := hl
  have hx := C.1
  have hb := C.2.1
  have hown := C.2.2.2.2.1
  have hts := C.2.2.2.2.2.1
  have hK := C.2.2.2.2.2.2.2.2.1
  have hZ := C.2.2.2.2.2.2.2.2.2.1
  have hN := C.2.2.2.2.2.2.2.2.2.2
  have hS : va_S A s.heap s.heap [] := va_S.rf
  obtain ⟨f, n, hn, hn0, hE, hf, hv, ht⟩ := hR
  have hff : ∀ j, j < n → f j < 4294967296 := fun j hj => (hf j hj).2
  refine lv_lconst (v := 0) hx hb dX1_multiplyBy_0 (by decide) ?_
  refine tp_j (y := lN (mcr f c0 0)) (rfl) ?_
  refine lv_lstore_n (lv' := [(3, .long (lN (mcr f c0 0))), (0, .ref (ad (27 + 2 * u))), (1, .long (lN c0))]) hx hb dX1_multiplyBy_1 rfl hl (by decide) rfl (fun ls hl => ?_)
  refine lv_iconst (v := nI 0) hx hb dX1_multiplyBy_2 (by decide) ?_
  refine lv_istore (lv' := [(5, .int (nI 0)), (3, .long (lN (mcr f c0 0))), (0, .ref (ad (27 + 2 * u))), (1, .long (lN c0))]) hx hb dX1_multiplyBy_3 hl (by decide) rfl (fun ls hl => ?_)
  have L1 : ∀ (r i : Nat), i + r = n → ∀ (H : Heap) (locs : List Loc) (ls : Array Slot), va_P D vwCl (TBw ad k N S Wt L T (va_up G u (mxL (fun j => lN (md f c0 j)) (G u) i)) E su pa tr sh pv) H → va_D A (TBw ad k N S Wt L T (va_up G u (mxL (fun j => lN (md f c0 j)) (G u) i)) E su pa tr sh pv) → va_S A s.heap H locs → lv_has ls 8 [(0, .ref (ad (27 + 2 * u))), (1, .long (lN c0)), (3, .long (lN (mcr f c0 i))), (5, .int (nI i))] → W p l e ({ frames := 0, cells := 0, slots := 0, locals := 0 }) s m ([.ref (ad (27 + 2 * u)), .long (lN c0)] : List Value).toArray below meth c H locs 0 0 (MQ below (va_Qv (fun w => ∃ (g2 : Nat → Int64) (e2 : Int32), RepW g2 e2 (v * c0) ∧ w = TBw ad k N S Wt L T (va_up G u g2) (upd E u e2) su pa tr sh pv) (BcW D A) A) ([.ref (ad (27 + 2 * u)), .long (lN c0)] : List Value).toArray s 0 0 A) (F0 m 5 ls []) := by
    intro r
    induction r with
    | zero =>
      intro i hr H locs ls hP hD hS hl
      obtain rfl : n = i := by omega
      refine lv_iload hx hb dX1_multiplyBy_5 (lv_at hl 3 rfl) ?_
      refine lv_aload_n hx hb dX1_multiplyBy_7 rfl (lv_at hl 0 rfl) ?_
      refine fg C hP (27 + 2 * u) (tb_e hu) (ci := 1) rfl 1 (by decide) in_X1_multiplyBy_X1 lk_X1_multiplyBy_13 (v := .int (E u)) rfl dX1_multiplyBy_8 ?_
      refine tp_i (y := nI n) (hE) ?_
      refine lv_icmp_ge (tgt := 52) hx hb dX1_multiplyBy_11 (by decide) (fun c2 => ?_) (fun c2 => absurd (nI_le (Nat.le_refl _) (by omega)) c2)
      refine lv_lload_n hx hb dX1_multiplyBy_52 rfl (lv_at hl 2 rfl) ?_
      refine lv_lconst (v := 0) hx hb dX1_multiplyBy_53 (by decide) ?_
      refine W.lcmp hx hb dX1_multiplyBy_54 ?_
      refine lv_if_le (tgt := 88) hx hb dX1_multiplyBy_55 (by decide) (fun c3 => ?_) (fun c3 => ?_)
      · exact Rv C hP hD hS (Nat.zero_le _) (Nat.zero_le _) dX1_multiplyBy_88 (⟨_, E u, by rw [hE]; exact RepW_of hc0 hn hn0 hf hv ht (lN_le0 (by have := mcr_lt hc0 n hff; omega) c3), by rw [upd_self]⟩)
      · have hlt : n < 1024 := by
          rcases Nat.lt_or_ge n 1024 with q | q
          · exact q
          · obtain rfl : n = 1024 := by omega
            exact absurd (carry_no hv hb0) (lN_gt0 c3)
        refine lv_aload_n hx hb dX1_multiplyBy_58 rfl (lv_at hl 0 rfl) ?_
        refine fg C hP (27 + 2 * u) (tb_e hu) (ci := 1) rfl 1 (by decide) in_X1_multiplyBy_X1 lk_X1_multiplyBy_13 (v := .int (E u)) rfl dX1_multiplyBy_59 ?_
        refine tp_i (y := nI n) (hE) ?_
        refine lv_sipush (v := nI 1024) hx hb dX1_multiplyBy_62 (by decide) ?_
        refine lv_icmp_ge (tgt := 88) hx hb dX1_multiplyBy_65 (by decide) (fun c4 => absurd c4 (nI_ge hlt (by decide))) (fun c4 => ?_)
        refine lv_aload_n hx hb dX1_multiplyBy_68 rfl (lv_at hl 0 rfl) ?_
        refine fg C hP (27 + 2 * u) (tb_e hu) (ci := 1) rfl 0 (by decide) in_X1_multiplyBy_X1 lk_X1_multiplyBy_9 (v := .ref (ad (28 + 2 * u))) rfl dX1_multiplyBy_69 ?_
        refine lv_aload_n hx hb dX1_multiplyBy_72 rfl (lv_at hl 0 rfl) ?_
        refine fg C hP (27 + 2 * u) (tb_e hu) (ci := 1) rfl 1 (by decide) in_X1_multiplyBy_X1 lk_X1_multiplyBy_13 (v := .int (E u)) rfl dX1_multiplyBy_73 ?_
        refine tp_i (y := nI n) (hE) ?_
        refine lv_lload_n hx hb dX1_multiplyBy_76 rfl (lv_at hl 2 rfl) ?_
        refine as_j C hP hD hS (28 + 2 * u) (tb_d2 hu) (j := n) hlt (by decide) (tb_d2_st hu _) dX1_multiplyBy_77 (fun H locs hP hD hS => ?_)
        refine lv_aload_n hx hb dX1_multiplyBy_78 rfl (lv_at hl 0 rfl) ?_
        refine lv_dup hx hb dX1_multiplyBy_79 rfl ?_
        refine fg C hP (27 + 2 * u) (tb_e hu) (ci := 1) rfl 1 (by decide) in_X1_multiplyBy_X1 lk_X1_multiplyBy_13 (v := .int (E u)) rfl dX1_multiplyBy_80 ?_
        refine tp_i (y := nI n) (hE) ?_
        refine lv_iconst (v := nI 1) hx hb dX1_multiplyBy_83 (by decide) ?_
        refine lv_iadd hx hb dX1_multiplyBy_84 ?_
        refine tp_i (y := nI (n + 1)) (nI_add _ _) ?_
        refine fp C hP hD hS tyX1_ok nmX1 (27 + 2 * u) (tb_e hu) (ci := 1) rfl 1 (by decide) in_X1_multiplyBy_X1 lk_X1_multiplyBy_13 rfl (ty := .int) (v := .int (nI (n + 1))) (by decide +kernel) rfl rfl (Nat.le_of_ble_eq_true rfl) (tb_e_st hu _) dX1_multiplyBy_85 (fun H locs hP hD hS => ?_)
        exact Rv C hP hD hS (Nat.zero_le _) (Nat.zero_le _) dX1_multiplyBy_88 (⟨_, _, RepW_up hlt hff (by omega) hc0 hv (lN_gt0 c3), rfl⟩)
    | succ r ihL1 =>
      intro i hr H locs ls hP hD hS hl
      refine lv_iload hx hb dX1_multiplyBy_5 (lv_at hl 3 rfl) ?_
      refine lv_aload_n hx hb dX1_multiplyBy_7 rfl (lv_at hl 0 rfl) ?_
      refine fg C hP (27 + 2 * u) (tb_e hu) (ci := 1) rfl 1 (by decide) in_X1_multiplyBy_X1 lk_X1_multiplyBy_13 (v := .int (E u)) rfl dX1_multiplyBy_8 ?_
      refine tp_i (y := nI n) (hE) ?_
      refine lv_icmp_ge (tgt := 52) hx hb dX1_multiplyBy_11 (by decide) (fun c5 => absurd c5 (nI_ge (by omega) (by omega))) (fun c5 => ?_)
      refine lv_aload_n hx hb dX1_multiplyBy_14 rfl (lv_at hl 0 rfl) ?_
      refine fg C hP (27 + 2 * u) (tb_e hu) (ci := 1) rfl 0 (by decide) in_X1_multiplyBy_X1 lk_X1_multiplyBy_9 (v := .ref (ad (28 + 2 * u))) rfl dX1_multiplyBy_15 ?_
      refine lv_iload hx hb dX1_multiplyBy_18 (lv_at hl 3 rfl) ?_
      refine ar_j C hP (28 + 2 * u) (tb_d2 hu) (j := i) (by omega) (by decide) dX1_multiplyBy_20 ?_
      refine tp_j (y := lN (f i)) ((mxL_at _ _ _).trans (hf i (by omega)).1) ?_
      refine lv_lload_n hx hb dX1_multiplyBy_21 rfl (lv_at hl 1 rfl) ?_
      refine lv_lmul hx hb dX1_multiplyBy_22 ?_
      refine tp_j (y := lN (f i * c0)) (lN_mul _ _) ?_
      refine lv_lload_n hx hb dX1_multiplyBy_23 rfl (lv_at hl 2 rfl) ?_
      refine lv_ladd hx hb dX1_multiplyBy_24 ?_
      refine tp_j (y := lN (f i * c0 + mcr f c0 i)) (lN_add _ _) ?_
      refine lv_lstore (lv' := [(6, .long (lN (f i * c0 + mcr f c0 i))), (0, .ref (ad (27 + 2 * u))), (1, .long (lN c0)), (3, .long (lN (mcr f c0 i))), (5, .int (nI i))]) hx hb dX1_multiplyBy_25 hl (by decide) rfl (fun ls hl => ?_)
      refine lv_aload_n hx hb dX1_multiplyBy_27 rfl (lv_at hl 1 rfl) ?_
      refine fg C hP (27 + 2 * u) (tb_e hu) (ci := 1) rfl 0 (by decide) in_X1_multiplyBy_X1 lk_X1_multiplyBy_9 (v := .ref (ad (28 + 2 * u))) rfl dX1_multiplyBy_28 ?_
      refine lv_iload hx hb dX1_multiplyBy_31 (lv_at hl 4 rfl) ?_
      refine lv_lload hx hb dX1_multiplyBy_33 (lv_at hl 0 rfl) ?_
      refine lv_ldc2 (v := 4294967295) hx hb hown (hts (.constantLong RX1 23 (4294967295)) (by decide +kernel)) dX1_multiplyBy_35 ?_
      refine lv_land hx hb dX1_multiplyBy_38 ?_
      refine tp_j (y := lN (md f c0 i)) (mk32 _) ?_
      refine as_j C hP hD hS (28 + 2 * u) (tb_d2 hu) (j := i) (by omega) (by decide) (tb_d2_st hu _) dX1_multiplyBy_39 (fun H locs hP hD hS => ?_)
      refine lv_lload hx hb dX1_multiplyBy_40 (lv_at hl 0 rfl) ?_
      refine lv_bipush (v := nI 32) hx hb dX1_multiplyBy_42 (by decide) ?_
      refine lv_lushr (v := ((lN (f i * c0 + mcr f c0 i)).toUInt64 >>> ((nI 32).toInt64.toUInt64 &&& Int64.toUInt64 63)).toInt64) hx hb dX1_multiplyBy_44 rfl ?_
      refine tp_j (y := lN (mcr f c0 (i + 1))) (ush32 (by have h1 := mcr_lt hc0 i (fun j hj => hff j (by omega)); have h2 := hff i (by omega); have h3 : f i * c0 ≤ 4294967295 * 1073741823 := Nat.mul_le_mul (by omega) (by omega); omega)) ?_
      refine lv_lstore_n (lv' := [(3, .long (lN (mcr f c0 (i + 1)))), (6, .long (lN (f i * c0 + mcr f c0 i))), (0, .ref (ad (27 + 2 * u))), (1, .long (lN c0)), (5, .int (nI i))]) hx hb dX1_multiplyBy_45 rfl hl (by decide) rfl (fun ls hl => ?_)
      refine lv_iinc (v := nI (i + 1)) (lv' := [(5, .int (nI (i + 1))), (3, .long (lN (mcr f c0 (i + 1)))), (6, .long (lN (f i * c0 + mcr f c0 i))), (0, .ref (ad (27 + 2 * u))), (1, .long (lN c0))]) hx hb dX1_multiplyBy_46 hl (k := 4) rfl (by rw [← nI_add]; rfl) (by decide) rfl (fun ls hl => ?_)
      refine lv_goto (tgt := 5) hx hb dX1_multiplyBy_49 (by decide) ?_
      rw [mxL_s (fun j => lN (md f c0 j))] at hP hD
      exact ihL1 (i + 1) (by omega) _ _ _ hP hD hS (lv_sub hl [3, 4, 1, 0] rfl)
  rw [← mxL_0 G (fun j => lN (md f c0 j)) u] at hP hD
  exact L1 (n - 0) 0 (by omega) _ _ _ hP hD hS (lv_sub hl [2, 3, 1, 0] rfl)

set_option maxHeartbeats 4000000 in
set_option maxRecDepth 100000 in
theorem c_mbp (D : va_G) (k : Nat → ClassId) (t : Nat → Nat) (l : Launch) {ad : Nat → Nat} {N : Nat → Int32} {S Wt L : Nat → Nat → Int32} {T : Nat → Int32} {G : Nat → Nat → Int64} {E : Nat → Int32} {su pa tr sh : Nat → Int32} {pv : Int32} {u p0 q v : Nat} (hu : u < 2) (hp0 : 2 ≤ p0) (hp1 : p0 ≤ 13) (hq : q < 2 ^ 31) (hR : RepW (G u) (E u) v) (hb0 : v * p0 ^ q < 4294967296 ^ 1024) : Cv D k t l yX1_multiplyByPower wsX1_multiplyByPower ({ frames := 1, cells := 0, slots := 0, locals := 30 }) [.ref (ad (27 + 2 * u)), .int (nI p0), .int (nI q)] (TBw ad k N S Wt L T G E su pa tr sh pv) (fun w => ∃ (g2 : Nat → Int64) (e2 : Int32), RepW g2 e2 (v * p0 ^ q) ∧ w = TBw ad k N S Wt L T (va_up G u g2) (upd E u e2) su pa tr sh pv) 0 0 := by
  refine fw_of (cc := cX1_multiplyByPower) (maxL := 6) (ret := none) (Qc := fun A => va_Qv (fun w => ∃ (g2 : Nat → Int64) (e2 : Int32), RepW g2 e2 (v * p0 ^ q) ∧ w = TBw ad k N S Wt L T (va_up G u g2) (upd E u e2) su pa tr sh pv) (BcW D A) A) (by decide) rfl (Nat.le_of_ble_eq_true rfl) ?_
  intro p e s m below meth c A ls C hP hD hl
  have C : Cx RX1 "multiplyByPower" cX1_multiplyByPower 6 none wsX1_multiplyByPower D k t A p s m ([.ref (ad (27 + 2 * u)), .int (nI p0), .int (nI q)] : List Value).toArray meth c := C
  have hl : lv_has ls 6 [(0, .ref (ad (27 + 2 * u))), (1, .int (nI p0)), (2, .int (nI q))] := hl
  have hx := C.1
  have hb := C.2.1
  have hown := C.2.2.2.2.1
  have hts := C.2.2.2.2.2.1
  have hK := C.2.2.2.2.2.2.2.2.1
  have hZ := C.2.2.2.2.2.2.2.2.2.1
  have hN := C.2.2.2.2.2.2.2.2.2.2
  have hS : va_S A s.heap s.heap [] := va_S.rf
  have hcl : ∀ a, p0 ^ a < 67108864 → p0 ^ (a + 1) < 1073741824 := fun a h => by
    rw [Nat.pow_succ]
    have h1 : p0 ^ a * p0 ≤ p0 ^ a * 13 := Nat.mul_le_mul_left _ (by omega)
    omega
  have hle : ∀ {a v1 r : Nat}, v1 * p0 ^ a * p0 ^ (r + 1) = v * p0 ^ q → v1 * (p0 ^ a * p0) < 4294967296 ^ 1024 := fun {a v1 r} h => by
    have h1 : v1 * (p0 ^ a * p0) * 1 ≤ v1 * (p0 ^ a * p0) * p0 ^ r := Nat.mul_le_mul_left _ (Nat.pow_pos (by omega))
    have h2 : v1 * (p0 ^ a * p0) * p0 ^ r = v * p0 ^ q := by rw [← h, Nat.pow_succ p0 r]; ac_rfl
    omega
  refine lv_lconst (v := 1) hx hb dX1_multiplyByPower_0 (by decide) ?_
  refine tp_j (y := lN (p0 ^ 0)) (rfl) ?_
  refine lv_lstore_n (lv' := [(3, .long (lN (p0 ^ 0))), (0, .ref (ad (27 + 2 * u))), (1, .int (nI p0)), (2, .int (nI q))]) hx hb dX1_multiplyByPower_1 rfl hl (by decide) rfl (fun ls hl => ?_)
  refine lv_iload_n hx hb dX1_multiplyByPower_2 rfl (lv_at hl 3 rfl) ?_
  refine lv_istore (lv' := [(5, .int (nI q)), (3, .long (lN (p0 ^ 0))), (0, .ref (ad (27 + 2 * u))), (1, .int (nI p0)), (2, .int (nI q))]) hx hb dX1_multiplyByPower_3 hl (by decide) rfl (fun ls hl => ?_)
  have L1 : ∀ (r : Nat) (a v1 : Nat) (g1 : Nat → Int64) (e1 : Int32) (h1 : RepW g1 e1 v1) (h2 : p0 ^ a < 67108864) (h3 : v1 * p0 ^ a * p0 ^ r = v * p0 ^ q) (h4 : r = 0 → a = 0) (h5 : r < 2 ^ 31), ∀ (H : Heap) (locs : List Loc) (ls : Array Slot), va_P D vwCl (TBw ad k N S Wt L T (va_up G u g1) (upd E u e1) su pa tr sh pv) H → va_D A (TBw ad k N S Wt L T (va_up G u g1) (upd E u e1) su pa tr sh pv) → va_S A s.heap H locs → lv_has ls 6 [(0, .ref (ad (27 + 2 * u))), (1, .int (nI p0)), (3, .long (lN (p0 ^ a))), (5, .int (nI r))] → W p l e ({ frames := 1, cells := 0, slots := 0, locals := 30 }) s m ([.ref (ad (27 + 2 * u)), .int (nI p0), .int (nI q)] : List Value).toArray below meth c H locs 0 0 (MQ below (va_Qv (fun w => ∃ (g2 : Nat → Int64) (e2 : Int32), RepW g2 e2 (v * p0 ^ q) ∧ w = TBw ad k N S Wt L T (va_up G u g2) (upd E u e2) su pa tr sh pv) (BcW D A) A) ([.ref (ad (27 + 2 * u)), .int (nI p0), .int (nI q)] : List Value).toArray s 0 0 A) (F0 m 5 ls []) := by
    intro r
    induction r with
    | zero =>
      intro a v1 g1 e1 h1 h2 h3 h4 h5 H locs ls hP hD hS hl
      refine lv_iload hx hb dX1_multiplyByPower_5 (lv_at hl 3 rfl) ?_
      refine lv_if_le (tgt := 42) hx hb dX1_multiplyByPower_7 (by decide) (fun c2 => ?_) (fun c2 => absurd (by decide) c2)
      exact Rv C hP hD hS (Nat.zero_le _) (Nat.zero_le _) dX1_multiplyByPower_42 (⟨g1, e1, by have := h4 rfl; subst this; rw [← h3, Nat.pow_zero, Nat.mul_one, Nat.mul_one]; exact h1, rfl⟩)
    | succ r ihL1 =>
      intro a v1 g1 e1 h1 h2 h3 h4 h5 H locs ls hP hD hS hl
      refine lv_iload hx hb dX1_multiplyByPower_5 (lv_at hl 3 rfl) ?_
      refine lv_if_le (tgt := 42) hx hb dX1_multiplyByPower_7 (by decide) (fun c3 => absurd c3 (nI_nle (by omega) (by omega))) (fun c3 => ?_)
      refine lv_lload_n hx hb dX1_multiplyByPower_10 rfl (lv_at hl 2 rfl) ?_
      refine lv_iload_n hx hb dX1_multiplyByPower_11 rfl (lv_at hl 1 rfl) ?_
      refine lv_i2l (v := (nI p0).toInt64) hx hb dX1_multiplyByPower_12 rfl ?_
      refine tp_j (y := lN p0) (nI_l (by omega)) ?_
      refine lv_lmul hx hb dX1_multiplyByPower_13 ?_
      refine tp_j (y := lN (p0 ^ (a + 1))) (by rw [lN_mul, ← Nat.pow_succ]) ?_
      refine lv_lstore_n (lv' := [(3, .long (lN (p0 ^ (a + 1)))), (0, .ref (ad (27 + 2 * u))), (1, .int (nI p0)), (5, .int (nI (r + 1)))]) hx hb dX1_multiplyByPower_14 rfl hl (by decide) rfl (fun ls hl => ?_)
      refine lv_lload_n hx hb dX1_multiplyByPower_15 rfl (lv_at hl 0 rfl) ?_
      refine lv_ldc2 (v := 67108864) hx hb hown (hts (.constantLong RX1 17 (67108864)) (by decide +kernel)) dX1_multiplyByPower_16 ?_
      refine W.lcmp hx hb dX1_multiplyByPower_19 ?_
      refine lv_if_ge (tgt := 29) hx hb dX1_multiplyByPower_20 (by decide) (fun c4 => ?_) (fun c4 => ?_)
      · refine lv_aload_n hx hb dX1_multiplyByPower_29 rfl (lv_at hl 1 rfl) ?_
        refine lv_lload_n hx hb dX1_multiplyByPower_30 rfl (lv_at hl 0 rfl) ?_
        refine fw_v C hD hS (rn_V (As := [.long (lN (p0 ^ (a + 1)))]) (rest := []) C (c_X1_multiplyBy D k t l (u := u) (c0 := p0 ^ (a + 1)) (v := v1) hu (Nat.pow_pos (by omega)) (hcl _ h2) (by rw [va_at_u, upd_at_u]; exact h1) (by rw [Nat.pow_succ]; exact hle h3) _) (cwV 1 hts gX1_multiplyByPower_X1_multiplyBy rfl rfl rfl hdX1_multiplyByC ⟨Nat.le_of_ble_eq_true rfl, Nat.le_of_ble_eq_true rfl⟩) (27 + 2 * u) 1 rfl (tb_e2 hu) rfl hP hD hS rfl hl.1 rfl (Nat.le_of_ble_eq_true rfl) dX1_multiplyByPower_31 ⟨Nat.zero_le _, Nat.zero_le _⟩) (fun wr5 H locs h6 hP hD hS => ?_)
        obtain ⟨g2, e2, hR2, rfl⟩ := h6
        rw [bx_uu, upd_upd] at hP hD
        refine lv_lconst (v := 1) hx hb dX1_multiplyByPower_34 (by decide) ?_
        refine tp_j (y := lN (p0 ^ 0)) (rfl) ?_
        refine lv_lstore_n (lv' := [(3, .long (lN (p0 ^ 0))), (0, .ref (ad (27 + 2 * u))), (1, .int (nI p0)), (5, .int (nI (r + 1)))]) hx hb dX1_multiplyByPower_35 rfl hl (by decide) rfl (fun ls hl => ?_)
        refine lv_iinc (v := nI r) (lv' := [(5, .int (nI r)), (3, .long (lN (p0 ^ 0))), (0, .ref (ad (27 + 2 * u))), (1, .int (nI p0))]) hx hb dX1_multiplyByPower_36 hl (k := 3) rfl (by rw [← pk_m1 r]; rfl) (by decide) rfl (fun ls hl => ?_)
        refine lv_goto (tgt := 5) hx hb dX1_multiplyByPower_39 (by decide) ?_
        exact ihL1 0 (v1 * p0 ^ (a + 1)) g2 e2 hR2 (by rw [Nat.pow_zero]; decide) (by rw [Nat.pow_zero, Nat.mul_one, ← h3, Nat.pow_succ p0 r, Nat.pow_succ p0 a]; ac_rfl) (fun _ => rfl) (by omega) _ _ _ hP hD hS (lv_sub hl [2, 3, 1, 0] rfl)
      · refine lv_iload hx hb dX1_multiplyByPower_23 (lv_at hl 3 rfl) ?_
        refine lv_iconst (v := nI 1) hx hb dX1_multiplyByPower_25 (by decide) ?_
        refine lv_icmp_ne (tgt := 36) hx hb dX1_multiplyByPower_26 (by decide) (fun c7 => ?_) (fun c7 => ?_)
        · refine lv_iinc (v := nI r) (lv' := [(5, .int (nI r)), (3, .long (lN (p0 ^ (a + 1)))), (0, .ref (ad (27 + 2 * u))), (1, .int (nI p0))]) hx hb dX1_multiplyByPower_36 hl (k := 3) rfl (by rw [← pk_m1 r]; rfl) (by decide) rfl (fun ls hl => ?_)
          refine lv_goto (tgt := 5) hx hb dX1_multiplyByPower_39 (by decide) ?_
          exact ihL1 (a + 1) v1 g1 e1 h1 (Nat.not_le.mp fun q => c4 ((lg_cmp_ge _ _).mpr ((pk_lLE (a := 67108864) (by decide) (Nat.lt_trans (hcl _ h2) (by decide))).mpr q))) (by rw [← h3, Nat.pow_succ p0 r, Nat.pow_succ p0 a]; ac_rfl) (fun q => absurd (by rw [q]) c7) (by omega) _ _ _ hP hD hS (lv_sub hl [2, 3, 1, 0] rfl)
        · refine lv_aload_n hx hb dX1_multiplyByPower_29 rfl (lv_at hl 1 rfl) ?_
          refine lv_lload_n hx hb dX1_multiplyByPower_30 rfl (lv_at hl 0 rfl) ?_
          refine fw_v C hD hS (rn_V (As := [.long (lN (p0 ^ (a + 1)))]) (rest := []) C (c_X1_multiplyBy D k t l (u := u) (c0 := p0 ^ (a + 1)) (v := v1) hu (Nat.pow_pos (by omega)) (hcl _ h2) (by rw [va_at_u, upd_at_u]; exact h1) (by rw [Nat.pow_succ]; exact hle h3) _) (cwV 1 hts gX1_multiplyByPower_X1_multiplyBy rfl rfl rfl hdX1_multiplyByC ⟨Nat.le_of_ble_eq_true rfl, Nat.le_of_ble_eq_true rfl⟩) (27 + 2 * u) 1 rfl (tb_e2 hu) rfl hP hD hS rfl hl.1 rfl (Nat.le_of_ble_eq_true rfl) dX1_multiplyByPower_31 ⟨Nat.zero_le _, Nat.zero_le _⟩) (fun wr8 H locs h9 hP hD hS => ?_)
          obtain ⟨g2, e2, hR2, rfl⟩ := h9
          rw [bx_uu, upd_upd] at hP hD
          refine lv_lconst (v := 1) hx hb dX1_multiplyByPower_34 (by decide) ?_
          refine tp_j (y := lN (p0 ^ 0)) (rfl) ?_
          refine lv_lstore_n (lv' := [(3, .long (lN (p0 ^ 0))), (0, .ref (ad (27 + 2 * u))), (1, .int (nI p0)), (5, .int (nI (r + 1)))]) hx hb dX1_multiplyByPower_35 rfl hl (by decide) rfl (fun ls hl => ?_)
          refine lv_iinc (v := nI r) (lv' := [(5, .int (nI r)), (3, .long (lN (p0 ^ 0))), (0, .ref (ad (27 + 2 * u))), (1, .int (nI p0))]) hx hb dX1_multiplyByPower_36 hl (k := 3) rfl (by rw [← pk_m1 r]; rfl) (by decide) rfl (fun ls hl => ?_)
          refine lv_goto (tgt := 5) hx hb dX1_multiplyByPower_39 (by decide) ?_
          exact ihL1 0 (v1 * p0 ^ (a + 1)) g2 e2 hR2 (by rw [Nat.pow_zero]; decide) (by rw [Nat.pow_zero, Nat.mul_one, ← h3, Nat.pow_succ p0 r, Nat.pow_succ p0 a]; ac_rfl) (fun _ => rfl) (by omega) _ _ _ hP hD hS (lv_sub hl [2, 3, 1, 0] rfl)
  rw [← va_self G u, ← upd_self E u] at hP hD
  exact L1 q 0 v (G u) (E u) hR (by rw [Nat.pow_zero]; decide) (by rw [Nat.pow_zero, Nat.mul_one]) (fun _ => rfl) hq _ _ _ hP hD hS (lv_sub hl [2, 3, 1, 0] rfl)

set_option maxHeartbeats 4000000 in
set_option maxRecDepth 100000 in
theorem c_mbp0 (D : va_G) (k : Nat → ClassId) (t : Nat → Nat) (l : Launch) {ad : Nat → Nat} {N : Nat → Int32} {S Wt L : Nat → Nat → Int32} {T : Nat → Int32} {G : Nat → Nat → Int64} {E : Nat → Int32} {su pa tr sh : Nat → Int32} {pv : Int32} {u p0 : Nat} {x2 : Int32} (hu : u < 2) (hq : x2 ≤ 0) : Cv D k t l yX1_multiplyByPower wsX1_multiplyByPower ({ frames := 1, cells := 0, slots := 0, locals := 30 }) [.ref (ad (27 + 2 * u)), .int (nI p0), .int x2] (TBw ad k N S Wt L T G E su pa tr sh pv) (fun w => w = TBw ad k N S Wt L T G E su pa tr sh pv) 0 0 := by
  refine fw_of (cc := cX1_multiplyByPower) (maxL := 6) (ret := none) (Qc := fun A => va_Qv (fun w => w = TBw ad k N S Wt L T G E su pa tr sh pv) (BcW D A) A) (by decide) rfl (Nat.le_of_ble_eq_true rfl) ?_
  intro p e s m below meth c A ls C hP hD hl
  have C : Cx RX1 "multiplyByPower" cX1_multiplyByPower 6 none wsX1_multiplyByPower D k t A p s m ([.ref (ad (27 + 2 * u)), .int (nI p0), .int x2] : List Value).toArray meth c := C
  have hl : lv_has ls 6 [(0, .ref (ad (27 + 2 * u))), (1, .int (nI p0)), (2, .int x2)] := hl
  have hx := C.1
  have hb := C.2.1
  have hown := C.2.2.2.2.1
  have hts := C.2.2.2.2.2.1
  have hK := C.2.2.2.2.2.2.2.2.1
  have hZ := C.2.2.2.2.2.2.2.2.2.1
  have hN := C.2.2.2.2.2.2.2.2.2.2
  have hS : va_S A s.heap s.heap [] := va_S.rf
  refine lv_lconst (v := 1) hx hb dX1_multiplyByPower_0 (by decide) ?_
  refine lv_lstore_n (lv' := [(3, .long (1 : Int64)), (0, .ref (ad (27 + 2 * u))), (1, .int (nI p0)), (2, .int x2)]) hx hb dX1_multiplyByPower_1 rfl hl (by decide) rfl (fun ls hl => ?_)
  refine lv_iload_n hx hb dX1_multiplyByPower_2 rfl (lv_at hl 3 rfl) ?_
  refine lv_istore (lv' := [(5, .int x2), (3, .long (1 : Int64)), (0, .ref (ad (27 + 2 * u))), (1, .int (nI p0)), (2, .int x2)]) hx hb dX1_multiplyByPower_3 hl (by decide) rfl (fun ls hl => ?_)
  refine lv_iload hx hb dX1_multiplyByPower_5 (lv_at hl 0 rfl) ?_
  refine lv_if_le (tgt := 42) hx hb dX1_multiplyByPower_7 (by decide) (fun c1 => ?_) (fun c1 => absurd (hq) c1)
  exact Rv C hP hD hS (Nat.zero_le _) (Nat.zero_le _) dX1_multiplyByPower_42 rfl

def f_cmp (a b : Nat) : Int32 := if a < b then -1 else if b < a then nI 1 else nI 0
theorem cmp_lt {a b : Nat} (h : a < b) : (-1 : Int32) = f_cmp a b := (if_pos h).symm
theorem cmp_gt {a b : Nat} (h : b < a) : nI 1 = f_cmp a b := by rw [f_cmp, if_neg (by omega), if_pos h]
theorem cmp_eq {a b : Nat} (h : a = b) : nI 0 = f_cmp a b := by rw [f_cmp, if_neg (by omega), if_neg (by omega)]
theorem lN_cmp0 {a b : Nat} (ha : a < 2 ^ 63) (hb : b < 2 ^ 63) (h : lg_cmp (lN a) (lN b) = 0) : a = b := (pk_lEQ ha hb).mp ((lg_cmp_eq _ _).mp h)
set_option maxRecDepth 20000 in
theorem in_X1_against_X1 : ∀ w ∈ u_ws RX1 TX1 2, w ∈ wsX1_against := by decide +kernel
set_option maxRecDepth 20000 in
theorem lk_X1_against_13 : Cond.fieldLink RX1 13 (TX1 1).1 (TX1 1).2.1 (TX1 1).2.2.1 ∈ wsX1_against := by decide +kernel
set_option maxRecDepth 20000 in
theorem lk_X1_against_9 : Cond.fieldLink RX1 9 (TX1 0).1 (TX1 0).2.1 (TX1 0).2.2.1 ∈ wsX1_against := by decide +kernel
set_option maxHeartbeats 4000000 in
set_option maxRecDepth 100000 in
theorem c_X1_against (D : va_G) (k : Nat → ClassId) (t : Nat → Nat) (l : Launch) {ad : Nat → Nat} {N : Nat → Int32} {S Wt L : Nat → Nat → Int32} {T : Nat → Int32} {G : Nat → Nat → Int64} {E : Nat → Int32} {su pa tr sh : Nat → Int32} {pv : Int32} {va vb : Nat} (hR0 : RepW (G 0) (E 0) va) (hR1 : RepW (G 1) (E 1) vb) : Ci D k t l yX1_against wsX1_against ({ frames := 0, cells := 0, slots := 0, locals := 0 }) [.ref (ad (27 + 2 * 0)), .ref (ad (27 + 2 * 1))] (TBw ad k N S Wt L T G E su pa tr sh pv) (fun r w => r = f_cmp va vb ∧ w = TBw ad k N S Wt L T G E su pa tr sh pv) 0 0 := by
  refine fw_of (cc := cX1_against) (maxL := 3) (ret := (some .int)) (Qc := fun A => va_Qi (fun r w => r = f_cmp va vb ∧ w = TBw ad k N S Wt L T G E su pa tr sh pv) (BcW D A) A) (by decide) rfl (Nat.le_of_ble_eq_true rfl) ?_
  intro p e s m below meth c A ls C hP hD hl
  have C : Cx RX1 "against" cX1_against 3 (some .int) wsX1_against D k t A p s m ([.ref (ad (27 + 2 * 0)), .ref (ad (27 + 2 * 1))] : List Value).toArray meth c := C
  have hl : lv_has ls 3 [(0, .ref (ad (27 + 2 * 0))), (1, .ref (ad (27 + 2 * 1)))] := hl
  have hx := C.1
  have hb := C.2.1
  have hown := C.2.2.2.2.1
  have hts := C.2.2.2.2.2.1
  have hK := C.2.2.2.2.2.2.2.2.1
  have hZ := C.2.2.2.2.2.2.2.2.2.1
  have hN := C.2.2.2.2.2.2.2.2.2.2
  have hS : va_S A s.heap s.heap [] := va_S.rf
  obtain ⟨f, n, hn, hn0, hE, hf, hv, ht⟩ := hR0
  obtain ⟨g, m', hm, hm0, hE1, hg, hw, hs⟩ := hR1
  have hff : ∀ j, j < n → f j < 4294967296 := fun j hj => (hf j hj).2
  have hgg : ∀ j, j < m' → g j < 4294967296 := fun j hj => (hg j hj).2
  refine lv_aload_n hx hb dX1_against_0 rfl (lv_at hl 0 rfl) ?_
  refine fg C hP (27 + 2 * 0) (tb_e (by decide)) (ci := 1) rfl 1 (by decide) in_X1_against_X1 lk_X1_against_13 (v := .int (E 0)) rfl dX1_against_1 ?_
  refine tp_i (y := nI n) (hE) ?_
  refine lv_aload_n hx hb dX1_against_4 rfl (lv_at hl 1 rfl) ?_
  refine fg C hP (27 + 2 * 1) (tb_e (by decide)) (ci := 1) rfl 1 (by decide) in_X1_against_X1 lk_X1_against_13 (v := .int (E 1)) rfl dX1_against_5 ?_
  refine tp_i (y := nI m') (hE1) ?_
  refine lv_icmp_eq (tgt := 28) hx hb dX1_against_8 (by decide) (fun c1 => ?_) (fun c1 => ?_)
  · obtain rfl : n = m' := nI_inj (by omega) (by omega) c1
    refine lv_aload_n hx hb dX1_against_28 rfl (lv_at hl 0 rfl) ?_
    refine fg C hP (27 + 2 * 0) (tb_e (by decide)) (ci := 1) rfl 1 (by decide) in_X1_against_X1 lk_X1_against_13 (v := .int (E 0)) rfl dX1_against_29 ?_
    refine tp_i (y := nI n) (hE) ?_
    refine lv_iconst (v := nI 1) hx hb dX1_against_32 (by decide) ?_
    refine lv_isub hx hb dX1_against_33 ?_
    refine lv_istore_n (lv' := [(2, .int ((nI n) - (nI 1))), (0, .ref (ad (27 + 2 * 0))), (1, .ref (ad (27 + 2 * 1)))]) hx hb dX1_against_34 rfl hl (by decide) rfl (fun ls hl => ?_)
    have L2 : ∀ (r : Nat) (hq : ∀ j, r ≤ j → j < n → f j = g j) (hr : r ≤ n), ∀ (H : Heap) (locs : List Loc) (ls : Array Slot), va_P D vwCl (TBw ad k N S Wt L T G E su pa tr sh pv) H → va_D A (TBw ad k N S Wt L T G E su pa tr sh pv) → va_S A s.heap H locs → lv_has ls 3 [(0, .ref (ad (27 + 2 * 0))), (1, .ref (ad (27 + 2 * 1))), (2, .int (nI r - nI 1))] → W p l e ({ frames := 0, cells := 0, slots := 0, locals := 0 }) s m ([.ref (ad (27 + 2 * 0)), .ref (ad (27 + 2 * 1))] : List Value).toArray below meth c H locs 0 0 (MQ below (va_Qi (fun r w => r = f_cmp va vb ∧ w = TBw ad k N S Wt L T G E su pa tr sh pv) (BcW D A) A) ([.ref (ad (27 + 2 * 0)), .ref (ad (27 + 2 * 1))] : List Value).toArray s 0 0 A) (F0 m 35 ls []) := by
      intro r
      induction r with
      | zero =>
        intro hq hr H locs ls hP hD hS hl
        refine lv_iload_n hx hb dX1_against_35 rfl (lv_at hl 2 rfl) ?_
        refine lv_if_lt (tgt := 83) hx hb dX1_against_36 (by decide) (fun c3 => ?_) (fun c3 => absurd (by decide) c3)
        refine lv_iconst (v := nI 0) hx hb dX1_against_83 (by decide) ?_
        exact Ri C hP hD hS (Nat.zero_le _) (Nat.zero_le _) dX1_against_84 (⟨cmp_eq (by rw [← hv, ← hw]; exact wv_cg n (fun j hj => hq j (Nat.zero_le _) hj)), rfl⟩)
      | succ r ihL2 =>
        intro hq hr H locs ls hP hD hS hl
        rw [show nI (r + 1) - nI 1 = nI r from nI_pred r] at hl
        refine lv_iload_n hx hb dX1_against_35 rfl (lv_at hl 2 rfl) ?_
        refine lv_if_lt (tgt := 83) hx hb dX1_against_36 (by decide) (fun c4 => absurd c4 (nI_pos (by omega))) (fun c4 => ?_)
        refine lv_aload_n hx hb dX1_against_39 rfl (lv_at hl 0 rfl) ?_
        refine fg C hP (27 + 2 * 0) (tb_e (by decide)) (ci := 1) rfl 0 (by decide) in_X1_against_X1 lk_X1_against_9 (v := .ref (ad (28 + 2 * 0))) rfl dX1_against_40 ?_
        refine lv_iload_n hx hb dX1_against_43 rfl (lv_at hl 2 rfl) ?_
        refine ar_j C hP (28 + 2 * 0) (tb_d (by decide)) (j := r) (by omega) (by decide) dX1_against_44 ?_
        refine tp_j (y := lN (f r)) ((hf r (by omega)).1) ?_
        refine lv_aload_n hx hb dX1_against_45 rfl (lv_at hl 1 rfl) ?_
        refine fg C hP (27 + 2 * 1) (tb_e (by decide)) (ci := 1) rfl 0 (by decide) in_X1_against_X1 lk_X1_against_9 (v := .ref (ad (28 + 2 * 1))) rfl dX1_against_46 ?_
        refine lv_iload_n hx hb dX1_against_49 rfl (lv_at hl 2 rfl) ?_
        refine ar_j C hP (28 + 2 * 1) (tb_d (by decide)) (j := r) (by omega) (by decide) dX1_against_50 ?_
        refine tp_j (y := lN (g r)) ((hg r (by omega)).1) ?_
        refine W.lcmp hx hb dX1_against_51 ?_
        refine lv_if_eq (tgt := 77) hx hb dX1_against_52 (by decide) (fun c5 => ?_) (fun c5 => ?_)
        · refine lv_iinc (v := nI r - nI 1) (lv' := [(2, .int (nI r - nI 1)), (0, .ref (ad (27 + 2 * 0))), (1, .ref (ad (27 + 2 * 1)))]) hx hb dX1_against_77 hl (k := 2) rfl (by rw [Int32.sub_eq_add_neg]; rfl) (by decide) rfl (fun ls hl => ?_)
          refine lv_goto (tgt := 35) hx hb dX1_against_80 (by decide) ?_
          exact ihL2 (fun j h1 h2 => by
            rcases Nat.lt_or_ge r j with q | q
            · exact hq j q h2
            · obtain rfl : j = r := by omega
              exact lN_cmp0 (Nat.lt_trans (hff j h2) (by decide)) (Nat.lt_trans (hgg j h2) (by decide)) c5) (by omega) _ _ _ hP hD hS (lv_sub hl [1, 2, 0] rfl)
        · refine lv_aload_n hx hb dX1_against_55 rfl (lv_at hl 0 rfl) ?_
          refine fg C hP (27 + 2 * 0) (tb_e (by decide)) (ci := 1) rfl 0 (by decide) in_X1_against_X1 lk_X1_against_9 (v := .ref (ad (28 + 2 * 0))) rfl dX1_against_56 ?_
          refine lv_iload_n hx hb dX1_against_59 rfl (lv_at hl 2 rfl) ?_
          refine ar_j C hP (28 + 2 * 0) (tb_d (by decide)) (j := r) (by omega) (by decide) dX1_against_60 ?_
          refine tp_j (y := lN (f r)) ((hf r (by omega)).1) ?_
          refine lv_aload_n hx hb dX1_against_61 rfl (lv_at hl 1 rfl) ?_
          refine fg C hP (27 + 2 * 1) (tb_e (by decide)) (ci := 1) rfl 0 (by decide) in_X1_against_X1 lk_X1_against_9 (v := .ref (ad (28 + 2 * 1))) rfl dX1_against_62 ?_
          refine lv_iload_n hx hb dX1_against_65 rfl (lv_at hl 2 rfl) ?_
          refine ar_j C hP (28 + 2 * 1) (tb_d (by decide)) (j := r) (by omega) (by decide) dX1_against_66 ?_
          refine tp_j (y := lN (g r)) ((hg r (by omega)).1) ?_
          refine W.lcmp hx hb dX1_against_67 ?_
          refine lv_if_ge (tgt := 75) hx hb dX1_against_68 (by decide) (fun c6 => ?_) (fun c6 => ?_)
          · refine lv_iconst (v := nI 1) hx hb dX1_against_75 (by decide) ?_
            exact Ri C hP hD hS (Nat.zero_le _) (Nat.zero_le _) dX1_against_76 (⟨cmp_gt (by rw [← hv, ← hw]; exact wv_dig n (by omega) hgg (by have h1 := (pk_lLE (Nat.lt_trans (hgg r (by omega)) (by decide)) (Nat.lt_trans (hff r (by omega)) (by decide))).mp ((lg_cmp_ge _ _).mp c6); have h2 : f r ≠ g r := fun q => c5 ((lg_cmp_eq _ _).mpr (by rw [q])); omega) (fun j h1 h2 => (hq j h1 h2).symm)), rfl⟩)
          · refine lv_iconst (v := (-1)) hx hb dX1_against_71 (by decide) ?_
            refine lv_goto (tgt := 76) hx hb dX1_against_72 (by decide) ?_
            exact Ri C hP hD hS (Nat.zero_le _) (Nat.zero_le _) dX1_against_76 (⟨cmp_lt (by rw [← hv, ← hw]; exact wv_dig n (by omega) hff (Nat.not_le.mp fun q => c6 ((lg_cmp_ge _ _).mpr ((pk_lLE (Nat.lt_trans (hgg r (by omega)) (by decide)) (Nat.lt_trans (hff r (by omega)) (by decide))).mpr q))) (fun j h1 h2 => hq j h1 h2)), rfl⟩)
    exact L2 n (fun j h1 h2 => absurd h1 (by omega)) (Nat.le_refl _) _ _ _ hP hD hS (lv_sub hl [1, 2, 0] rfl)
  · refine lv_aload_n hx hb dX1_against_11 rfl (lv_at hl 0 rfl) ?_
    refine fg C hP (27 + 2 * 0) (tb_e (by decide)) (ci := 1) rfl 1 (by decide) in_X1_against_X1 lk_X1_against_13 (v := .int (E 0)) rfl dX1_against_12 ?_
    refine tp_i (y := nI n) (hE) ?_
    refine lv_aload_n hx hb dX1_against_15 rfl (lv_at hl 1 rfl) ?_
    refine fg C hP (27 + 2 * 1) (tb_e (by decide)) (ci := 1) rfl 1 (by decide) in_X1_against_X1 lk_X1_against_13 (v := .int (E 1)) rfl dX1_against_16 ?_
    refine tp_i (y := nI m') (hE1) ?_
    refine lv_icmp_ge (tgt := 26) hx hb dX1_against_19 (by decide) (fun c7 => ?_) (fun c7 => ?_)
    · refine lv_iconst (v := nI 1) hx hb dX1_against_26 (by decide) ?_
      exact Ri C hP hD hS (Nat.zero_le _) (Nat.zero_le _) dX1_against_27 (⟨cmp_gt (by rw [← hv, ← hw]; exact wv_len hgg hn0 ht (by have h1 := (nI_leI (by omega) (by omega)).mp c7; have h2 : n ≠ m' := fun q => c1 (by rw [q]); omega)), rfl⟩)
    · refine lv_iconst (v := (-1)) hx hb dX1_against_22 (by decide) ?_
      refine lv_goto (tgt := 27) hx hb dX1_against_23 (by decide) ?_
      exact Ri C hP hD hS (Nat.zero_le _) (Nat.zero_le _) dX1_against_27 (⟨cmp_lt (by rw [← hv, ← hw]; exact wv_len hff hm0 hs (Nat.not_le.mp fun q => c7 (nI_le q (by omega)))), rfl⟩)

