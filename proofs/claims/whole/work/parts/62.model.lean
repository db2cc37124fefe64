/-! the seven columns solved -/
def cl (i j : Nat) : Nat → Nat
  | 0 => 0
  | q + 1 => if q = i ∨ q = j then cl i j q else cl i j q + 1
theorem cl_lt' : ∀ j, j < 9 → ∀ i, i < j → ∀ q, q < 9 → ¬ (q = i ∨ q = j) → cl i j q < 7 := by decide +kernel
theorem cl_lt {i j q : Nat} (hj : j < 9) (hi : i < j) (hq : q < 9) (h : ¬ (q = i ∨ q = j)) : cl i j q < 7 := cl_lt' j hj i hi q hq h
def fr (f : Nat → Int64) (w i j : Nat) : Nat → Nat → Int64
  | 0 => f
  | q + 1 => if q = i ∨ q = j then fr f w i j q else vp_updL (fr f w i j q) (8 * w + cl i j q) (plr q (w + 1)).toInt64
def fs (nu : Nat → Int32) (lw : Nat) (f : Nat → Int64) (i j : Nat) : Nat → Nat → Int64
  | 0 => f
  | w + 1 => vp_updL (fr (fs nu lw f i j w) w i j 9) (8 * w + 7) (nu (8 * lw + (w + 1))).toInt64
def pvt (z : Nat → Int) (c : Nat) : Nat → Nat → Nat
  | 0, f => f
  | r + 1, f => if z (8 * f + c) = 0 then pvt z c r (f + 1) else f
def pv7 (z : Nat → Int) (c : Nat) : Nat := pvt z c (7 - c) c
def sw (z : Nat → Int) (c f h : Nat) : Nat → Int := fun j => if 8 * c ≤ j ∧ j < 8 * c + h then z (8 * f + (j - 8 * c)) else if 8 * f ≤ j ∧ j < 8 * f + h then z (8 * c + (j - 8 * f)) else z j
def el (z : Nat → Int) (c : Nat) : Nat → Nat → Int
  | 0 => z
  | r + 1 => if r = c ∨ el z c r (8 * r + c) = 0 then el z c r else tkZ (el z c r) r c
def sl (z : Nat → Int) : Nat → Option (Nat → Int)
  | 0 => some z
  | c + 1 => match sl z c with
    | none => none
    | some y => if pv7 y c < 7 then some (el (sw y c (pv7 y c) 8) c 7) else none
def GB (z : Nat → Int) : Prop := ∀ n y, n ≤ 7 → sl z n = some y → (∀ j, j < 56 → (y j).natAbs < 2 ^ 30) ∧ (n < 7 → pv7 y n < 7 → ∀ q, q < 7 → ∀ j, j < 56 → (el (sw y n (pv7 y n) 8) n q j).natAbs < 2 ^ 30)
theorem sl_none {z : Nat → Int} {n : Nat} (h : sl z n = none) : ∀ m, n ≤ m → sl z m = none := by
  intro m hm
  induction hm with
  | refl => exact h
  | step _ ih => rw [sl, ih]
theorem sl_no {z y : Nat → Int} {n : Nat} (h : sl z n = some y) (e : pv7 y n = 7) : sl z (n + 1) = none := by
  rw [sl, h]
  exact if_neg (by omega)
theorem sl_yes {z y : Nat → Int} {n f : Nat} (h : sl z n = some y) (e : f = pv7 y n) (hf : f < 7) : sl z (n + 1) = some (el (sw y n f 8) n 7) := by
  subst e
  rw [sl, h]
  exact if_pos hf
theorem gb_el {z y : Nat → Int} {n f : Nat} (hG : GB z) (h : sl z n = some y) (hn : n < 7) (e : f = pv7 y n) (hf : f < 7) {q j : Nat} (hq : q < 7) (hj : j < 56) : (el (sw y n f 8) n q j).natAbs < 2 ^ 30 := by
  subst e
  exact (hG n y (by omega) h).2 hn hf q hq j hj
theorem nv_lt {z : Nat → Int} {r c k : Nat} (h : ∀ j, j < 56 → (z j).natAbs < 2 ^ 30) (hr : r < 7) (hc : c < 7) (hk : k < 8) : (nv z r c k).natAbs < 2 ^ 62 := by
  have h1 := h (8 * c + c) (by omega)
  have h2 := h (8 * r + k) (by omega)
  have h3 := h (8 * r + c) (by omega)
  have h4 := h (8 * c + k) (by omega)
  have m1 : (z (8 * c + c) * z (8 * r + k)).natAbs < 2 ^ 60 := by rw [Int.natAbs_mul]; exact Nat.mul_lt_mul'' (a := _) (c := 2 ^ 30) (d := 2 ^ 30) h1 h2
  have m2 : (z (8 * r + c) * z (8 * c + k)).natAbs < 2 ^ 60 := by rw [Int.natAbs_mul]; exact Nat.mul_lt_mul'' (a := _) (c := 2 ^ 30) (d := 2 ^ 30) h3 h4
  unfold nv
  omega
theorem zc0 {v : Int} (h : v.natAbs < 2 ^ 62) (q : lg_cmp (zL v) 0 = 0) : v = 0 := by
  have h1 := (lg_cmp_eq _ _).mp q
  have h2 := congrArg Int64.toInt h1
  rw [zL_toInt (by omega) (by omega)] at h2
  exact h2
theorem zcn {v : Int} (q : ¬ lg_cmp (zL v) 0 = 0) : ¬ v = 0 := fun e => q (by subst e; decide)
theorem zcge {v : Int} (h : v.natAbs < 2 ^ 62) : 0 ≤ lg_cmp (zL v) 0 ↔ 0 ≤ v := by
  rw [lg_cmp_ge, Int64.le_iff_toInt_le, zL_toInt (by omega) (by omega)]
  exact Iff.rfl
theorem sw_0 (z : Nat → Int) (c f : Nat) : sw z c f 0 = z := by
  funext j
  unfold sw
  rw [if_neg (by omega), if_neg (by omega)]
theorem sw_s {z : Nat → Int} {c f h : Nat} (hcf : c ≤ f) (hh : h < 8) : vp_updL (vp_updL (zF (sw z c f h)) (8 * c + h) (zL (z (8 * f + h)))) (8 * f + h) (zL (z (8 * c + h))) = zF (sw z c f (h + 1)) := by
  rw [zF_upd, zF_upd]
  congr 1
  funext j
  by_cases h1 : j = 8 * f + h
  · subst h1
    rw [if_pos rfl]
    unfold sw
    by_cases e : c = f
    · subst e
      rw [if_pos (by omega)]
      congr 1
      omega
    · rw [if_neg (by omega), if_pos (by omega)]
      congr 1
      omega
  · rw [if_neg h1]
    by_cases h2 : j = 8 * c + h
    · subst h2
      rw [if_pos rfl]
      unfold sw
      rw [if_pos (by omega)]
      congr 1
      omega
    · rw [if_neg h2]
      unfold sw
      by_cases h3 : 8 * c ≤ j ∧ j < 8 * c + h
      · rw [if_pos h3, if_pos (by omega)]
      · rw [if_neg h3, if_neg (c := 8 * c ≤ j ∧ j < 8 * c + (h + 1)) (by omega)]
        by_cases h4 : 8 * f ≤ j ∧ j < 8 * f + h
        · rw [if_pos h4, if_pos (by omega)]
        · rw [if_neg h4, if_neg (by omega)]
theorem sw_a {z : Nat → Int} {c f h : Nat} (hcf : c ≤ f) (hh : h < 8) : sw z c f h (8 * c + h) = z (8 * c + h) := by
  unfold sw
  rw [if_neg (by omega), if_neg (by omega)]
theorem sw_b {z : Nat → Int} {c f h : Nat} (hcf : c ≤ f) (hh : h < 8) : sw z c f h (8 * f + h) = z (8 * f + h) := by
  unfold sw
  rw [if_neg (by omega), if_neg (by omega)]
def sov (ov un : Int) : Int := if un < 0 then (-ov).tdiv (Nat.gcd ov.natAbs un.natAbs : Nat) else ov.tdiv (Nat.gcd ov.natAbs un.natAbs : Nat)
def unv (ov un : Int) : Nat := un.natAbs / Nat.gcd ov.natAbs un.natAbs
def soA (so : Nat → Int64) (z : Nat → Int) (i j : Nat) : Nat → Nat → Int64
  | 0 => so
  | q + 1 => if q = i ∨ q = j then vp_updL (soA so z i j q) q 0 else vp_updL (vp_updL (soA so z i j q) q 0) q (zL (sov (z (8 * cl i j q + 7)) (z (8 * cl i j q + cl i j q))))
def unA (un : Nat → Int64) (z : Nat → Int) (i j : Nat) : Nat → Nat → Int64
  | 0 => un
  | q + 1 => if q = i ∨ q = j then vp_updL (unA un z i j q) q 1 else vp_updL (vp_updL (unA un z i j q) q 1) q (lN (unv (z (8 * cl i j q + 7)) (z (8 * cl i j q + cl i j q))))
theorem pvt_end {z : Nat → Int} {c r f : Nat} (h : ¬ z (8 * f + c) = 0) : pvt z c (r + 1) f = f := if_neg h
theorem pvt_go {z : Nat → Int} {c r f : Nat} (h : z (8 * f + c) = 0) : pvt z c (r + 1) f = pvt z c r (f + 1) := if_pos h
theorem gcd_p {a b : Int} (h : b ≠ 0) : 0 < Nat.gcd a.natAbs b.natAbs := Nat.gcd_pos_of_pos_right _ (by omega)
theorem gcd_l {a b : Int} (h : b ≠ 0) (hb : b.natAbs < 2 ^ 30) : Nat.gcd a.natAbs b.natAbs < 2 ^ 62 := Nat.lt_of_le_of_lt (Nat.gcd_le_right _ (by omega)) (by omega)
set_option maxRecDepth 20000 in
theorem in_X4_solve_X4 : ∀ w ∈ u_ws RX4 TX4 15, w ∈ wsX4_solve := by decide +kernel
set_option maxRecDepth 20000 in
theorem lk_X4_solve_41 : Cond.fieldLink RX4 41 (TX4 11).1 (TX4 11).2.1 (TX4 11).2.2.1 ∈ wsX4_solve := by decide +kernel
set_option maxRecDepth 20000 in
theorem lk_X4_solve_44 : Cond.fieldLink RX4 44 (TX4 12).1 (TX4 12).2.1 (TX4 12).2.2.1 ∈ wsX4_solve := by decide +kernel
set_option maxRecDepth 20000 in
theorem lk_X4_solve_37 : Cond.fieldLink RX4 37 (TX4 10).1 (TX4 10).2.1 (TX4 10).2.2.1 ∈ wsX4_solve := by decide +kernel
set_option maxRecDepth 20000 in
theorem lk_X4_solve_19 : Cond.fieldLink RX4 19 (TX4 3).1 (TX4 3).2.1 (TX4 3).2.2.1 ∈ wsX4_solve := by decide +kernel
set_option maxHeartbeats 4000000 in
set_option maxRecDepth 100000 in
theorem c_X4_solve (D : va_G) (k : Nat → ClassId) (t : Nat → Nat) (l : Launch) {bd : Nat → Nat} {st wt sm nu po sh up lo : Nat → Int32} {li : Int32} {ro so un to : Nat → Int64} {it : Int32} {z0 : Nat → Int} {j i0 j0 : Nat} (hj : j < 10) (hj0 : j0 < 9) (hij : i0 < j0) (hI : ∀ q, q < 56 → fs nu j ro i0 j0 7 q = zF z0 q) (hG : GB z0) (hU : ∀ zf, sl z0 7 = some zf → ∀ q, q < 7 → zf (8 * q + q) ≠ 0) : Ci D k t l yX4_solve wsX4_solve ({ frames := 3, cells := 0, slots := 0, locals := 100 }) [.ref (bd 0), .int (nI j), .int (nI i0), .int (nI j0)] (MWw bd k st wt sm nu po sh up lo li ro so un to it) (fun r w => (∃ zf : Nat → Int, sl z0 7 = some zf ∧ r = nI 1 ∧ w = MWw bd k st wt sm nu po sh up lo li (zF zf) (soA so zf i0 j0 9) (unA un zf i0 j0 9) to it) ∨ (sl z0 7 = none ∧ r = nI 0 ∧ ∃ ro2 : Nat → Int64, w = MWw bd k st wt sm nu po sh up lo li ro2 so un to it)) 0 0 := by
  refine fw_of (cc := cX4_solve) (maxL := 12) (ret := (some .boolean)) (Qc := fun A => va_Qi (fun r w => (∃ zf : Nat → Int, sl z0 7 = some zf ∧ r = nI 1 ∧ w = MWw bd k st wt sm nu po sh up lo li (zF zf) (soA so zf i0 j0 9) (unA un zf i0 j0 9) to it) ∨ (sl z0 7 = none ∧ r = nI 0 ∧ ∃ ro2 : Nat → Int64, w = MWw bd k st wt sm nu po sh up lo li ro2 so un to it)) (BcW D A) A) (by decide) rfl (Nat.le_of_ble_eq_true rfl) ?_
  intro p e s m below meth c A ls C hP hD hl
  have C : Cx RX4 "solve" cX4_solve 12 (some .boolean) wsX4_solve D k t A p s m ([.ref (bd 0), .int (nI j), .int (nI i0), .int (nI j0)] : List Value).toArray meth c := C
  have hl : lv_has ls 12 [(0, .ref (bd 0)), (1, .int (nI j)), (2, .int (nI i0)), (3, .int (nI j0))] := hl
  have hx := C.1
  have hb := C.2.1
  have hown := C.2.2.2.2.1
  have hts := C.2.2.2.2.2.1
  have hK := C.2.2.2.2.2.2.2.2.1
  have hZ := C.2.2.2.2.2.2.2.2.2.1
  have hN := C.2.2.2.2.2.2.2.2.2.2
  have hS : va_S A s.heap s.heap [] := va_S.rf
  refine lv_iconst (v := nI 1) hx hb dX4_solve_0 (by decide) ?_
  refine tp_i (y := nI (0 + 1)) (rfl) ?_
  refine lv_istore (lv' := [(4, .int (nI (0 + 1))), (0, .ref (bd 0)), (1, .int (nI j)), (2, .int (nI i0)), (3, .int (nI j0))]) hx hb dX4_solve_1 hl (by decide) rfl (fun ls hl => ?_)
  have L1 : ∀ (r w1 : Nat), w1 + r = 7 → ∀ (H : Heap) (locs : List Loc) (ls : Array Slot), va_P D vwCl (MWw bd k st wt sm nu po sh up lo li (fs nu j ro i0 j0 w1) so un to it) H → va_D A (MWw bd k st wt sm nu po sh up lo li (fs nu j ro i0 j0 w1) so un to it) → va_S A s.heap H locs → lv_has ls 12 [(0, .ref (bd 0)), (1, .int (nI j)), (2, .int (nI i0)), (3, .int (nI j0)), (4, .int (nI (w1 + 1)))] → W p l e ({ frames := 3, cells := 0, slots := 0, locals := 100 }) s m ([.ref (bd 0), .int (nI j), .int (nI i0), .int (nI j0)] : List Value).toArray below meth c H locs 0 0 (MQ below (va_Qi (fun r w => (∃ zf : Nat → Int, sl z0 7 = some zf ∧ r = nI 1 ∧ w = MWw bd k st wt sm nu po sh up lo li (zF zf) (soA so zf i0 j0 9) (unA un zf i0 j0 9) to it) ∨ (sl z0 7 = none ∧ r = nI 0 ∧ ∃ ro2 : Nat → Int64, w = MWw bd k st wt sm nu po sh up lo li ro2 so un to it)) (BcW D A) A) ([.ref (bd 0), .int (nI j), .int (nI i0), .int (nI j0)] : List Value).toArray s 0 0 A) (F0 m 3 ls []) := by
    intro r
    induction r with
    | zero =>
      intro w1 hr H locs ls hP hD hS hl
      obtain rfl : 7 = w1 := by omega
      refine lv_iload hx hb dX4_solve_3 (lv_at hl 4 rfl) ?_
      refine lv_bipush (v := nI 8) hx hb dX4_solve_5 (by decide) ?_
      refine lv_icmp_ge (tgt := 104) hx hb dX4_solve_7 (by decide) (fun c2 => ?_) (fun c2 => absurd (nI_le (by omega) (by decide)) c2)
      obtain ⟨hP, hD⟩ := cg_j hP hD mw_ro (g := zF z0) (hI) (mw_ro_st _)
      refine lv_iconst (v := nI 0) hx hb dX4_solve_104 (by decide) ?_
      refine lv_istore (lv' := [(4, .int (nI 0)), (0, .ref (bd 0)), (1, .int (nI j)), (2, .int (nI i0)), (3, .int (nI j0))]) hx hb dX4_solve_105 hl (by decide) rfl (fun ls hl => ?_)
      have L3 : ∀ (r n : Nat), n + r = 7 → ∀ (z1 : Nat → Int) (hs1 : sl z0 n = some z1), ∀ (H : Heap) (locs : List Loc) (ls : Array Slot), va_P D vwCl (MWw bd k st wt sm nu po sh up lo li (zF z1) so un to it) H → va_D A (MWw bd k st wt sm nu po sh up lo li (zF z1) so un to it) → va_S A s.heap H locs → lv_has ls 12 [(0, .ref (bd 0)), (2, .int (nI i0)), (3, .int (nI j0)), (4, .int (nI n))] → W p l e ({ frames := 3, cells := 0, slots := 0, locals := 100 }) s m ([.ref (bd 0), .int (nI j), .int (nI i0), .int (nI j0)] : List Value).toArray below meth c H locs 0 0 (MQ below (va_Qi (fun r w => (∃ zf : Nat → Int, sl z0 7 = some zf ∧ r = nI 1 ∧ w = MWw bd k st wt sm nu po sh up lo li (zF zf) (soA so zf i0 j0 9) (unA un zf i0 j0 9) to it) ∨ (sl z0 7 = none ∧ r = nI 0 ∧ ∃ ro2 : Nat → Int64, w = MWw bd k st wt sm nu po sh up lo li ro2 so un to it)) (BcW D A) A) ([.ref (bd 0), .int (nI j), .int (nI i0), .int (nI j0)] : List Value).toArray s 0 0 A) (F0 m 107 ls []) := by
        intro r
        induction r with
        | zero =>
          intro n hr z1 hs1 H locs ls hP hD hS hl
          obtain rfl : 7 = n := by omega
          have hs1 : sl z0 7 = some z1 := hs1
          refine lv_iload hx hb dX4_solve_107 (lv_at hl 3 rfl) ?_
          refine lv_bipush (v := nI 7) hx hb dX4_solve_109 (by decide) ?_
          refine lv_icmp_ge (tgt := 285) hx hb dX4_solve_111 (by decide) (fun c4 => ?_) (fun c4 => absurd (nI_le (by omega) (by decide)) c4)
          refine lv_iconst (v := nI 0) hx hb dX4_solve_285 (by decide) ?_
          refine tp_i (y := nI (cl i0 j0 0)) (rfl) ?_
          refine lv_istore (lv' := [(4, .int (nI (cl i0 j0 0))), (0, .ref (bd 0)), (2, .int (nI i0)), (3, .int (nI j0))]) hx hb dX4_solve_286 hl (by decide) rfl (fun ls hl => ?_)
          refine lv_iconst (v := nI 0) hx hb dX4_solve_288 (by decide) ?_
          refine lv_istore (lv' := [(5, .int (nI 0)), (4, .int (nI (cl i0 j0 0))), (0, .ref (bd 0)), (2, .int (nI i0)), (3, .int (nI j0))]) hx hb dX4_solve_289 hl (by decide) rfl (fun ls hl => ?_)
          have L5 : ∀ (r q3 : Nat), q3 + r = 9 → ∀ (H : Heap) (locs : List Loc) (ls : Array Slot), va_P D vwCl (MWw bd k st wt sm nu po sh up lo li (zF z1) (soA so z1 i0 j0 q3) (unA un z1 i0 j0 q3) to it) H → va_D A (MWw bd k st wt sm nu po sh up lo li (zF z1) (soA so z1 i0 j0 q3) (unA un z1 i0 j0 q3) to it) → va_S A s.heap H locs → lv_has ls 12 [(0, .ref (bd 0)), (2, .int (nI i0)), (3, .int (nI j0)), (4, .int (nI (cl i0 j0 q3))), (5, .int (nI q3))] → W p l e ({ frames := 3, cells := 0, slots := 0, locals := 100 }) s m ([.ref (bd 0), .int (nI j), .int (nI i0), .int (nI j0)] : List Value).toArray below meth c H locs 0 0 (MQ below (va_Qi (fun r w => (∃ zf : Nat → Int, sl z0 7 = some zf ∧ r = nI 1 ∧ w = MWw bd k st wt sm nu po sh up lo li (zF zf) (soA so zf i0 j0 9) (unA un zf i0 j0 9) to it) ∨ (sl z0 7 = none ∧ r = nI 0 ∧ ∃ ro2 : Nat → Int64, w = MWw bd k st wt sm nu po sh up lo li ro2 so un to it)) (BcW D A) A) ([.ref (bd 0), .int (nI j), .int (nI i0), .int (nI j0)] : List Value).toArray s 0 0 A) (F0 m 291 ls []) := by
            intro r
            induction r with
            | zero =>
              intro q3 hr H locs ls hP hD hS hl
              obtain rfl : 9 = q3 := by omega
              refine lv_iload hx hb dX4_solve_291 (lv_at hl 4 rfl) ?_
              refine lv_bipush (v := nI 9) hx hb dX4_solve_293 (by decide) ?_
              refine lv_icmp_ge (tgt := 420) hx hb dX4_solve_295 (by decide) (fun c6 => ?_) (fun c6 => absurd (nI_le (by omega) (by decide)) c6)
              refine lv_iconst (v := nI 1) hx hb dX4_solve_420 (by decide) ?_
              exact Rz C hP hD hS (Nat.zero_le _) (Nat.zero_le _) rfl dX4_solve_421 (Or.inl ⟨z1, hs1, rfl, rfl⟩)
            | succ r ihL5 =>
              intro q3 hr H locs ls hP hD hS hl
              refine lv_iload hx hb dX4_solve_291 (lv_at hl 4 rfl) ?_
              refine lv_bipush (v := nI 9) hx hb dX4_solve_293 (by decide) ?_
              refine lv_icmp_ge (tgt := 420) hx hb dX4_solve_295 (by decide) (fun c7 => absurd c7 (nI_ge (by omega) (by decide))) (fun c7 => ?_)
              refine lv_aload_n hx hb dX4_solve_298 rfl (lv_at hl 0 rfl) ?_
              refine fg C hP 0 mw_o (ci := 4) rfl 11 (by decide) in_X4_solve_X4 lk_X4_solve_41 (v := .ref (bd 11)) rfl dX4_solve_299 ?_
              refine lv_iload hx hb dX4_solve_302 (lv_at hl 4 rfl) ?_
              refine lv_lconst (v := 0) hx hb dX4_solve_304 (by decide) ?_
              refine as_j C hP hD hS 11 mw_so (j := q3) (by omega) (by decide) (mw_so_st _) dX4_solve_305 (fun H locs hP hD hS => ?_)
              refine lv_aload_n hx hb dX4_solve_306 rfl (lv_at hl 0 rfl) ?_
              refine fg C hP 0 mw_o (ci := 4) rfl 12 (by decide) in_X4_solve_X4 lk_X4_solve_44 (v := .ref (bd 12)) rfl dX4_solve_307 ?_
              refine lv_iload hx hb dX4_solve_310 (lv_at hl 4 rfl) ?_
              refine lv_lconst (v := 1) hx hb dX4_solve_312 (by decide) ?_
              refine as_j C hP hD hS 12 mw_un (j := q3) (by omega) (by decide) (mw_un_st _) dX4_solve_313 (fun H locs hP hD hS => ?_)
              refine lv_iload hx hb dX4_solve_314 (lv_at hl 4 rfl) ?_
              refine lv_iload_n hx hb dX4_solve_316 rfl (lv_at hl 1 rfl) ?_
              refine lv_icmp_eq (tgt := 414) hx hb dX4_solve_317 (by decide) (fun c8 => ?_) (fun c8 => ?_)
              · refine lv_iinc (v := nI (q3 + 1)) (lv' := [(5, .int (nI (q3 + 1))), (0, .ref (bd 0)), (2, .int (nI i0)), (3, .int (nI j0)), (4, .int (nI (cl i0 j0 q3)))]) hx hb dX4_solve_414 hl (k := 4) rfl (by rw [← nI_add q3 1]; rfl) (by decide) rfl (fun ls hl => ?_)
                refine lv_goto (tgt := 291) hx hb dX4_solve_417 (by decide) ?_
                have hor : (q3 = i0 ∨ q3 = j0) := Or.inl (nI_inj (by omega) (by omega) c8)
                rw [show vp_updL (soA so z1 i0 j0 q3) q3 (0 : Int64) = soA so z1 i0 j0 (q3 + 1) from (if_pos hor).symm, show vp_updL (unA un z1 i0 j0 q3) q3 (1 : Int64) = unA un z1 i0 j0 (q3 + 1) from (if_pos hor).symm] at hP hD
                rw [show cl i0 j0 q3 = cl i0 j0 (q3 + 1) from (if_pos hor).symm] at hl
                exact ihL5 (q3 + 1) (by omega) _ _ _ hP hD hS (lv_sub hl [1, 2, 3, 4, 0] rfl)
              · refine lv_iload hx hb dX4_solve_320 (lv_at hl 4 rfl) ?_
                refine lv_iload_n hx hb dX4_solve_322 rfl (lv_at hl 2 rfl) ?_
                refine lv_icmp_ne (tgt := 329) hx hb dX4_solve_323 (by decide) (fun c9 => ?_) (fun c9 => ?_)
                · have hc7 := cl_lt hj0 hij (show q3 < 9 by omega) (fun o => o.elim (fun z => c8 (by rw [z])) (fun z => c9 (by rw [z])))
                  have hu0 := hU z1 hs1 (cl i0 j0 q3) hc7
                  have hub := (hG 7 z1 (Nat.le_refl _) hs1).1 (8 * cl i0 j0 q3 + cl i0 j0 q3) (by omega)
                  have hob := (hG 7 z1 (Nat.le_refl _) hs1).1 (8 * cl i0 j0 q3 + 7) (by omega)
                  refine lv_aload_n hx hb dX4_solve_329 rfl (lv_at hl 0 rfl) ?_
                  refine fg C hP 0 mw_o (ci := 4) rfl 10 (by decide) in_X4_solve_X4 lk_X4_solve_37 (v := .ref (bd 10)) rfl dX4_solve_330 ?_
                  refine lv_bipush (v := nI 8) hx hb dX4_solve_333 (by decide) ?_
                  refine lv_iload hx hb dX4_solve_335 (lv_at hl 3 rfl) ?_
                  refine lv_imul hx hb dX4_solve_337 ?_
                  refine tp_i (y := nI (8 * (cl i0 j0 q3))) (pk_mul _ _) ?_
                  refine lv_bipush (v := nI 7) hx hb dX4_solve_338 (by decide) ?_
                  refine lv_iadd hx hb dX4_solve_340 ?_
                  refine tp_i (y := nI ((8 * (cl i0 j0 q3)) + 7)) (nI_add _ _) ?_
                  refine ar_j C hP 10 mw_ro (j := ((8 * (cl i0 j0 q3)) + 7)) (by omega) (by decide) dX4_solve_341 ?_
                  refine tp_j (y := zL (z1 (8 * cl i0 j0 q3 + 7))) (rfl) ?_
                  refine lv_lstore (lv' := [(6, .long (zL (z1 (8 * cl i0 j0 q3 + 7)))), (0, .ref (bd 0)), (2, .int (nI i0)), (3, .int (nI j0)), (4, .int (nI (cl i0 j0 q3))), (5, .int (nI q3))]) hx hb dX4_solve_342 hl (by decide) rfl (fun ls hl => ?_)
                  refine lv_aload_n hx hb dX4_solve_344 rfl (lv_at hl 1 rfl) ?_
                  refine fg C hP 0 mw_o (ci := 4) rfl 10 (by decide) in_X4_solve_X4 lk_X4_solve_37 (v := .ref (bd 10)) rfl dX4_solve_345 ?_
                  refine lv_bipush (v := nI 8) hx hb dX4_solve_348 (by decide) ?_
                  refine lv_iload hx hb dX4_solve_350 (lv_at hl 4 rfl) ?_
                  refine lv_imul hx hb dX4_solve_352 ?_
                  refine tp_i (y := nI (8 * (cl i0 j0 q3))) (pk_mul _ _) ?_
                  refine lv_iload hx hb dX4_solve_353 (lv_at hl 4 rfl) ?_
                  refine lv_iadd hx hb dX4_solve_355 ?_
                  refine tp_i (y := nI ((8 * (cl i0 j0 q3)) + (cl i0 j0 q3))) (nI_add _ _) ?_
                  refine ar_j C hP 10 mw_ro (j := ((8 * (cl i0 j0 q3)) + (cl i0 j0 q3))) (by omega) (by decide) dX4_solve_356 ?_
                  refine tp_j (y := zL (z1 (8 * cl i0 j0 q3 + cl i0 j0 q3))) (rfl) ?_
                  refine lv_lstore (lv' := [(8, .long (zL (z1 (8 * cl i0 j0 q3 + cl i0 j0 q3)))), (6, .long (zL (z1 (8 * cl i0 j0 q3 + 7)))), (0, .ref (bd 0)), (2, .int (nI i0)), (3, .int (nI j0)), (4, .int (nI (cl i0 j0 q3))), (5, .int (nI q3))]) hx hb dX4_solve_357 hl (by decide) rfl (fun ls hl => ?_)
                  refine lv_lload hx hb dX4_solve_359 (lv_at hl 1 rfl) ?_
                  refine lv_lload hx hb dX4_solve_361 (lv_at hl 0 rfl) ?_
                  refine fw_j C hD hS (rn_S (As := [.long (zL (z1 (8 * cl i0 j0 q3 + 7))), .long (zL (z1 (8 * cl i0 j0 q3 + cl i0 j0 q3)))]) (rest := []) C (c_X4_common D k t l (a := z1 (8 * cl i0 j0 q3 + 7)) (b := z1 (8 * cl i0 j0 q3 + cl i0 j0 q3)) (by omega) (by omega) _) (va_cwS 2 hts gX4_solve_X4_common rfl rfl rfl hdX4_common ⟨Nat.le_of_ble_eq_true rfl, Nat.le_of_ble_eq_true rfl⟩) hP hD hS rfl hl.1 rfl (Nat.le_of_ble_eq_true rfl) dX4_solve_363 ⟨Nat.zero_le _, Nat.zero_le _⟩) (fun r10 wr10 H locs h11 hP hD hS => ?_)
                  obtain ⟨rfl, rfl⟩ := h11
                  refine lv_lstore (lv' := [(10, .long (lN (Nat.gcd (z1 (8 * cl i0 j0 q3 + 7)).natAbs (z1 (8 * cl i0 j0 q3 + cl i0 j0 q3)).natAbs))), (8, .long (zL (z1 (8 * cl i0 j0 q3 + cl i0 j0 q3)))), (6, .long (zL (z1 (8 * cl i0 j0 q3 + 7)))), (0, .ref (bd 0)), (2, .int (nI i0)), (3, .int (nI j0)), (4, .int (nI (cl i0 j0 q3))), (5, .int (nI q3))]) hx hb dX4_solve_366 hl (by decide) rfl (fun ls hl => ?_)
                  refine lv_aload_n hx hb dX4_solve_368 rfl (lv_at hl 3 rfl) ?_
                  refine fg C hP 0 mw_o (ci := 4) rfl 11 (by decide) in_X4_solve_X4 lk_X4_solve_41 (v := .ref (bd 11)) rfl dX4_solve_369 ?_
                  refine lv_iload hx hb dX4_solve_372 (lv_at hl 7 rfl) ?_
                  refine lv_lload hx hb dX4_solve_374 (lv_at hl 1 rfl) ?_
                  refine lv_lconst (v := 0) hx hb dX4_solve_376 (by decide) ?_
                  refine W.lcmp hx hb dX4_solve_377 ?_
                  refine lv_if_ge (tgt := 390) hx hb dX4_solve_378 (by decide) (fun c12 => ?_) (fun c12 => ?_)
                  · refine lv_lload hx hb dX4_solve_390 (lv_at hl 2 rfl) ?_
                    refine lv_lload hx hb dX4_solve_392 (lv_at hl 0 rfl) ?_
                    refine lv_ldiv hx hb dX4_solve_394 (lN_nz (by have := gcd_l (a := z1 (8 * cl i0 j0 q3 + 7)) hu0 hub; omega) (gcd_p hu0)) ?_
                    refine tp_j (y := zL ((z1 (8 * cl i0 j0 q3 + 7)).tdiv (Nat.gcd (z1 (8 * cl i0 j0 q3 + 7)).natAbs (z1 (8 * cl i0 j0 q3 + cl i0 j0 q3)).natAbs : Nat))) (zL_div (by omega) (gcd_l hu0 hub)) ?_
                    refine tp_j (y := zL (sov (z1 (8 * cl i0 j0 q3 + 7)) (z1 (8 * cl i0 j0 q3 + cl i0 j0 q3)))) (by rw [sov, if_neg (by have := (zcge (by omega)).mp c12; omega)]) ?_
                    refine as_j C hP hD hS 11 mw_so (j := q3) (by omega) (by decide) (mw_so_st _) dX4_solve_395 (fun H locs hP hD hS => ?_)
                    refine lv_aload_n hx hb dX4_solve_396 rfl (lv_at hl 3 rfl) ?_
                    refine fg C hP 0 mw_o (ci := 4) rfl 12 (by decide) in_X4_solve_X4 lk_X4_solve_44 (v := .ref (bd 12)) rfl dX4_solve_397 ?_
                    refine lv_iload hx hb dX4_solve_400 (lv_at hl 7 rfl) ?_
                    refine lv_lload hx hb dX4_solve_402 (lv_at hl 1 rfl) ?_
                    refine va_mabs_long hx hb (C.2.2.2.1.trans hl.1.symm) hown (hts (.methodLink RX4 119 Lib.MathLoose.abs_long.x) (by decide +kernel)) (hts (.static Lib.MathLoose.abs_long.x) (by decide +kernel)) (hts (.initialized "java/lang/Math") (by decide +kernel)) (hts (.code Lib.MathLoose.abs_long.x Lib.MathLoose.abs_long.code 2 (some .long)) (by decide +kernel)) (Nat.le_of_ble_eq_true rfl) (Nat.le_of_ble_eq_true rfl) (Nat.zero_le _) (Nat.zero_le _) dX4_solve_404 ?_
                    refine tp_j (y := lN (z1 (8 * cl i0 j0 q3 + cl i0 j0 q3)).natAbs) (f_abL_z (by omega) (by omega)) ?_
                    refine lv_lload hx hb dX4_solve_407 (lv_at hl 0 rfl) ?_
                    refine lv_ldiv hx hb dX4_solve_409 (lN_nz (by have := gcd_l (a := z1 (8 * cl i0 j0 q3 + 7)) hu0 hub; omega) (gcd_p hu0)) ?_
                    refine tp_j (y := lN (unv (z1 (8 * cl i0 j0 q3 + 7)) (z1 (8 * cl i0 j0 q3 + cl i0 j0 q3)))) (pk_lDiv (by omega) (gcd_p hu0) (by have := gcd_l (a := z1 (8 * cl i0 j0 q3 + 7)) hu0 hub; omega)) ?_
                    refine as_j C hP hD hS 12 mw_un (j := q3) (by omega) (by decide) (mw_un_st _) dX4_solve_410 (fun H locs hP hD hS => ?_)
                    refine lv_iinc (v := nI ((cl i0 j0 q3) + 1)) (lv' := [(4, .int (nI ((cl i0 j0 q3) + 1))), (10, .long (lN (Nat.gcd (z1 (8 * cl i0 j0 q3 + 7)).natAbs (z1 (8 * cl i0 j0 q3 + cl i0 j0 q3)).natAbs))), (8, .long (zL (z1 (8 * cl i0 j0 q3 + cl i0 j0 q3)))), (6, .long (zL (z1 (8 * cl i0 j0 q3 + 7)))), (0, .ref (bd 0)), (2, .int (nI i0)), (3, .int (nI j0)), (5, .int (nI q3))]) hx hb dX4_solve_411 hl (k := 6) rfl (by rw [← nI_add (cl i0 j0 q3) 1]; rfl) (by decide) rfl (fun ls hl => ?_)
                    refine lv_iinc (v := nI (q3 + 1)) (lv' := [(5, .int (nI (q3 + 1))), (4, .int (nI ((cl i0 j0 q3) + 1))), (10, .long (lN (Nat.gcd (z1 (8 * cl i0 j0 q3 + 7)).natAbs (z1 (8 * cl i0 j0 q3 + cl i0 j0 q3)).natAbs))), (8, .long (zL (z1 (8 * cl i0 j0 q3 + cl i0 j0 q3)))), (6, .long (zL (z1 (8 * cl i0 j0 q3 + 7)))), (0, .ref (bd 0)), (2, .int (nI i0)), (3, .int (nI j0))]) hx hb dX4_solve_414 hl (k := 7) rfl (by rw [← nI_add q3 1]; rfl) (by decide) rfl (fun ls hl => ?_)
                    refine lv_goto (tgt := 291) hx hb dX4_solve_417 (by decide) ?_
                    have hor : ¬ (q3 = i0 ∨ q3 = j0) := fun o => o.elim (fun z => c8 (by rw [z])) (fun z => c9 (by rw [z]))
                    rw [show vp_updL (vp_updL (soA so z1 i0 j0 q3) q3 (0 : Int64)) q3 (zL (sov (z1 (8 * cl i0 j0 q3 + 7)) (z1 (8 * cl i0 j0 q3 + cl i0 j0 q3)))) = soA so z1 i0 j0 (q3 + 1) from (if_neg hor).symm, show vp_updL (vp_updL (unA un z1 i0 j0 q3) q3 (1 : Int64)) q3 (lN (unv (z1 (8 * cl i0 j0 q3 + 7)) (z1 (8 * cl i0 j0 q3 + cl i0 j0 q3)))) = unA un z1 i0 j0 (q3 + 1) from (if_neg hor).symm] at hP hD
                    rw [show cl i0 j0 q3 + 1 = cl i0 j0 (q3 + 1) from (if_neg hor).symm] at hl
                    exact ihL5 (q3 + 1) (by omega) _ _ _ hP hD hS (lv_sub hl [5, 6, 7, 1, 0] rfl)
                  · refine lv_lload hx hb dX4_solve_381 (lv_at hl 2 rfl) ?_
                    refine lv_lneg hx hb dX4_solve_383 ?_
                    refine tp_j (y := zL (-z1 (8 * cl i0 j0 q3 + 7))) (zL_neg _) ?_
                    refine lv_lload hx hb dX4_solve_384 (lv_at hl 0 rfl) ?_
                    refine lv_ldiv hx hb dX4_solve_386 (lN_nz (by have := gcd_l (a := z1 (8 * cl i0 j0 q3 + 7)) hu0 hub; omega) (gcd_p hu0)) ?_
                    refine tp_j (y := zL ((-z1 (8 * cl i0 j0 q3 + 7)).tdiv (Nat.gcd (z1 (8 * cl i0 j0 q3 + 7)).natAbs (z1 (8 * cl i0 j0 q3 + cl i0 j0 q3)).natAbs : Nat))) (zL_div (by omega) (gcd_l hu0 hub)) ?_
                    refine lv_goto (tgt := 395) hx hb dX4_solve_387 (by decide) ?_
                    refine tp_j (y := zL (sov (z1 (8 * cl i0 j0 q3 + 7)) (z1 (8 * cl i0 j0 q3 + cl i0 j0 q3)))) (by rw [sov, if_pos (by have := mt (zcge (by omega)).mpr c12; omega)]) ?_
                    refine as_j C hP hD hS 11 mw_so (j := q3) (by omega) (by decide) (mw_so_st _) dX4_solve_395 (fun H locs hP hD hS => ?_)
                    refine lv_aload_n hx hb dX4_solve_396 rfl (lv_at hl 3 rfl) ?_
                    refine fg C hP 0 mw_o (ci := 4) rfl 12 (by decide) in_X4_solve_X4 lk_X4_solve_44 (v := .ref (bd 12)) rfl dX4_solve_397 ?_
                    refine lv_iload hx hb dX4_solve_400 (lv_at hl 7 rfl) ?_
                    refine lv_lload hx hb dX4_solve_402 (lv_at hl 1 rfl) ?_
                    refine va_mabs_long hx hb (C.2.2.2.1.trans hl.1.symm) hown (hts (.methodLink RX4 119 Lib.MathLoose.abs_long.x) (by decide +kernel)) (hts (.static Lib.MathLoose.abs_long.x) (by decide +kernel)) (hts (.initialized "java/lang/Math") (by decide +kernel)) (hts (.code Lib.MathLoose.abs_long.x Lib.MathLoose.abs_long.code 2 (some .long)) (by decide +kernel)) (Nat.le_of_ble_eq_true rfl) (Nat.le_of_ble_eq_true rfl) (Nat.zero_le _) (Nat.zero_le _) dX4_solve_404 ?_
                    refine tp_j (y := lN (z1 (8 * cl i0 j0 q3 + cl i0 j0 q3)).natAbs) (f_abL_z (by omega) (by omega)) ?_
                    refine lv_lload hx hb dX4_solve_407 (lv_at hl 0 rfl) ?_
                    refine lv_ldiv hx hb dX4_solve_409 (lN_nz (by have := gcd_l (a := z1 (8 * cl i0 j0 q3 + 7)) hu0 hub; omega) (gcd_p hu0)) ?_
                    refine tp_j (y := lN (unv (z1 (8 * cl i0 j0 q3 + 7)) (z1 (8 * cl i0 j0 q3 + cl i0 j0 q3)))) (pk_lDiv (by omega) (gcd_p hu0) (by have := gcd_l (a := z1 (8 * cl i0 j0 q3 + 7)) hu0 hub; omega)) ?_
                    refine as_j C hP hD hS 12 mw_un (j := q3) (by omega) (by decide) (mw_un_st _) dX4_solve_410 (fun H locs hP hD hS => ?_)
                    refine lv_iinc (v := nI ((cl i0 j0 q3) + 1)) (lv' := [(4, .int (nI ((cl i0 j0 q3) + 1))), (10, .long (lN (Nat.gcd (z1 (8 * cl i0 j0 q3 + 7)).natAbs (z1 (8 * cl i0 j0 q3 + cl i0 j0 q3)).natAbs))), (8, .long (zL (z1 (8 * cl i0 j0 q3 + cl i0 j0 q3)))), (6, .long (zL (z1 (8 * cl i0 j0 q3 + 7)))), (0, .ref (bd 0)), (2, .int (nI i0)), (3, .int (nI j0)), (5, .int (nI q3))]) hx hb dX4_solve_411 hl (k := 6) rfl (by rw [← nI_add (cl i0 j0 q3) 1]; rfl) (by decide) rfl (fun ls hl => ?_)
                    refine lv_iinc (v := nI (q3 + 1)) (lv' := [(5, .int (nI (q3 + 1))), (4, .int (nI ((cl i0 j0 q3) + 1))), (10, .long (lN (Nat.gcd (z1 (8 * cl i0 j0 q3 + 7)).natAbs (z1 (8 * cl i0 j0 q3 + cl i0 j0 q3)).natAbs))), (8, .long (zL (z1 (8 * cl i0 j0 q3 + cl i0 j0 q3)))), (6, .long (zL (z1 (8 * cl i0 j0 q3 + 7)))), (0, .ref (bd 0)), (2, .int (nI i0)), (3, .int (nI j0))]) hx hb dX4_solve_414 hl (k := 7) rfl (by rw [← nI_add q3 1]; rfl) (by decide) rfl (fun ls hl => ?_)
                    refine lv_goto (tgt := 291) hx hb dX4_solve_417 (by decide) ?_
                    have hor : ¬ (q3 = i0 ∨ q3 = j0) := fun o => o.elim (fun z => c8 (by rw [z])) (fun z => c9 (by rw [z]))
                    rw [show vp_updL (vp_updL (soA so z1 i0 j0 q3) q3 (0 : Int64)) q3 (zL (sov (z1 (8 * cl i0 j0 q3 + 7)) (z1 (8 * cl i0 j0 q3 + cl i0 j0 q3)))) = soA so z1 i0 j0 (q3 + 1) from (if_neg hor).symm, show vp_updL (vp_updL (unA un z1 i0 j0 q3) q3 (1 : Int64)) q3 (lN (unv (z1 (8 * cl i0 j0 q3 + 7)) (z1 (8 * cl i0 j0 q3 + cl i0 j0 q3)))) = unA un z1 i0 j0 (q3 + 1) from (if_neg hor).symm] at hP hD
                    rw [show cl i0 j0 q3 + 1 = cl i0 j0 (q3 + 1) from (if_neg hor).symm] at hl
                    exact ihL5 (q3 + 1) (by omega) _ _ _ hP hD hS (lv_sub hl [5, 6, 7, 1, 0] rfl)
                · refine lv_goto (tgt := 414) hx hb dX4_solve_326 (by decide) ?_
                  refine lv_iinc (v := nI (q3 + 1)) (lv' := [(5, .int (nI (q3 + 1))), (0, .ref (bd 0)), (2, .int (nI i0)), (3, .int (nI j0)), (4, .int (nI (cl i0 j0 q3)))]) hx hb dX4_solve_414 hl (k := 4) rfl (by rw [← nI_add q3 1]; rfl) (by decide) rfl (fun ls hl => ?_)
                  refine lv_goto (tgt := 291) hx hb dX4_solve_417 (by decide) ?_
                  have hor : (q3 = i0 ∨ q3 = j0) := Or.inr (nI_inj (by omega) (by omega) c9)
                  rw [show vp_updL (soA so z1 i0 j0 q3) q3 (0 : Int64) = soA so z1 i0 j0 (q3 + 1) from (if_pos hor).symm, show vp_updL (unA un z1 i0 j0 q3) q3 (1 : Int64) = unA un z1 i0 j0 (q3 + 1) from (if_pos hor).symm] at hP hD
                  rw [show cl i0 j0 q3 = cl i0 j0 (q3 + 1) from (if_pos hor).symm] at hl
                  exact ihL5 (q3 + 1) (by omega) _ _ _ hP hD hS (lv_sub hl [1, 2, 3, 4, 0] rfl)
          exact L5 (9 - 0) 0 (by omega) _ _ _ hP hD hS (lv_sub hl [2, 3, 4, 1, 0] rfl)
        | succ r ihL3 =>
          intro n hr z1 hs1 H locs ls hP hD hS hl
          refine lv_iload hx hb dX4_solve_107 (lv_at hl 3 rfl) ?_
          refine lv_bipush (v := nI 7) hx hb dX4_solve_109 (by decide) ?_
          refine lv_icmp_ge (tgt := 285) hx hb dX4_solve_111 (by decide) (fun c13 => absurd c13 (nI_ge (by omega) (by decide))) (fun c13 => ?_)
          refine lv_iload hx hb dX4_solve_114 (lv_at hl 3 rfl) ?_
          refine lv_istore (lv' := [(5, .int (nI n)), (0, .ref (bd 0)), (2, .int (nI i0)), (3, .int (nI j0)), (4, .int (nI n))]) hx hb dX4_solve_116 hl (by decide) rfl (fun ls hl => ?_)
          have L14 : ∀ (r : Nat) (f1 : Nat) (hf : f1 + r = 7) (hf2 : pvt z1 n r f1 = pv7 z1 n) (hf3 : n ≤ f1), ∀ (H : Heap) (locs : List Loc) (ls : Array Slot), va_P D vwCl (MWw bd k st wt sm nu po sh up lo li (zF z1) so un to it) H → va_D A (MWw bd k st wt sm nu po sh up lo li (zF z1) so un to it) → va_S A s.heap H locs → lv_has ls 12 [(0, .ref (bd 0)), (2, .int (nI i0)), (3, .int (nI j0)), (4, .int (nI n)), (5, .int (nI f1))] → W p l e ({ frames := 3, cells := 0, slots := 0, locals := 100 }) s m ([.ref (bd 0), .int (nI j), .int (nI i0), .int (nI j0)] : List Value).toArray below meth c H locs 0 0 (MQ below (va_Qi (fun r w => (∃ zf : Nat → Int, sl z0 7 = some zf ∧ r = nI 1 ∧ w = MWw bd k st wt sm nu po sh up lo li (zF zf) (soA so zf i0 j0 9) (unA un zf i0 j0 9) to it) ∨ (sl z0 7 = none ∧ r = nI 0 ∧ ∃ ro2 : Nat → Int64, w = MWw bd k st wt sm nu po sh up lo li ro2 so un to it)) (BcW D A) A) ([.ref (bd 0), .int (nI j), .int (nI i0), .int (nI j0)] : List Value).toArray s 0 0 A) (F0 m 118 ls []) := by
            intro r
            induction r with
            | zero =>
              intro f1 hf hf2 hf3 H locs ls hP hD hS hl
              obtain rfl : f1 = 7 := by omega
              refine lv_iload hx hb dX4_solve_118 (lv_at hl 4 rfl) ?_
              refine lv_bipush (v := nI 7) hx hb dX4_solve_120 (by decide) ?_
              refine lv_icmp_ge (tgt := 149) hx hb dX4_solve_122 (by decide) (fun c15 => ?_) (fun c15 => absurd (nI_le (Nat.le_refl _) (by decide)) c15)
              refine lv_iload hx hb dX4_solve_149 (lv_at hl 4 rfl) ?_
              refine lv_bipush (v := nI 7) hx hb dX4_solve_151 (by decide) ?_
              refine lv_icmp_ne (tgt := 158) hx hb dX4_solve_153 (by decide) (fun c16 => absurd (by decide) c16) (fun c16 => ?_)
              refine lv_iconst (v := nI 0) hx hb dX4_solve_156 (by decide) ?_
              exact Rz C hP hD hS (Nat.zero_le _) (Nat.zero_le _) rfl dX4_solve_157 (Or.inr ⟨sl_none (sl_no hs1 hf2.symm) 7 (by omega), rfl, _, rfl⟩)
            | succ r ihL14 =>
              intro f1 hf hf2 hf3 H locs ls hP hD hS hl
              refine lv_iload hx hb dX4_solve_118 (lv_at hl 4 rfl) ?_
              refine lv_bipush (v := nI 7) hx hb dX4_solve_120 (by decide) ?_
              refine lv_icmp_ge (tgt := 149) hx hb dX4_solve_122 (by decide) (fun c17 => absurd c17 (nI_ge (by omega) (by decide))) (fun c17 => ?_)
              refine lv_aload_n hx hb dX4_solve_125 rfl (lv_at hl 0 rfl) ?_
              refine fg C hP 0 mw_o (ci := 4) rfl 10 (by decide) in_X4_solve_X4 lk_X4_solve_37 (v := .ref (bd 10)) rfl dX4_solve_126 ?_
              refine lv_bipush (v := nI 8) hx hb dX4_solve_129 (by decide) ?_
              refine lv_iload hx hb dX4_solve_131 (lv_at hl 4 rfl) ?_
              refine lv_imul hx hb dX4_solve_133 ?_
              refine tp_i (y := nI (8 * f1)) (pk_mul _ _) ?_
              refine lv_iload hx hb dX4_solve_134 (lv_at hl 3 rfl) ?_
              refine lv_iadd hx hb dX4_solve_136 ?_
              refine tp_i (y := nI ((8 * f1) + n)) (nI_add _ _) ?_
              refine ar_j C hP 10 mw_ro (j := ((8 * f1) + n)) (by omega) (by decide) dX4_solve_137 ?_
              refine tp_j (y := zL (z1 (8 * f1 + n))) (rfl) ?_
              refine lv_lconst (v := 0) hx hb dX4_solve_138 (by decide) ?_
              refine W.lcmp hx hb dX4_solve_139 ?_
              refine lv_if_ne (tgt := 149) hx hb dX4_solve_140 (by decide) (fun c18 => ?_) (fun c18 => ?_)
              · have hfe : f1 = pv7 z1 n := by rw [← hf2, pvt_end (zcn c18)]
                have hf7 : f1 < 7 := by omega
                refine lv_iload hx hb dX4_solve_149 (lv_at hl 4 rfl) ?_
                refine lv_bipush (v := nI 7) hx hb dX4_solve_151 (by decide) ?_
                refine lv_icmp_ne (tgt := 158) hx hb dX4_solve_153 (by decide) (fun c19 => ?_) (fun c19 => absurd c19 (fun z => absurd (nI_inj (by omega) (by decide) z) (by omega)))
                refine lv_iconst (v := nI 0) hx hb dX4_solve_158 (by decide) ?_
                refine lv_istore (lv' := [(6, .int (nI 0)), (0, .ref (bd 0)), (2, .int (nI i0)), (3, .int (nI j0)), (4, .int (nI n)), (5, .int (nI f1))]) hx hb dX4_solve_159 hl (by decide) rfl (fun ls hl => ?_)
                have L20 : ∀ (r h : Nat), h + r = 8 → ∀ (H : Heap) (locs : List Loc) (ls : Array Slot), va_P D vwCl (MWw bd k st wt sm nu po sh up lo li (zF (sw z1 n f1 h)) so un to it) H → va_D A (MWw bd k st wt sm nu po sh up lo li (zF (sw z1 n f1 h)) so un to it) → va_S A s.heap H locs → lv_has ls 12 [(0, .ref (bd 0)), (2, .int (nI i0)), (3, .int (nI j0)), (4, .int (nI n)), (5, .int (nI f1)), (6, .int (nI h))] → W p l e ({ frames := 3, cells := 0, slots := 0, locals := 100 }) s m ([.ref (bd 0), .int (nI j), .int (nI i0), .int (nI j0)] : List Value).toArray below meth c H locs 0 0 (MQ below (va_Qi (fun r w => (∃ zf : Nat → Int, sl z0 7 = some zf ∧ r = nI 1 ∧ w = MWw bd k st wt sm nu po sh up lo li (zF zf) (soA so zf i0 j0 9) (unA un zf i0 j0 9) to it) ∨ (sl z0 7 = none ∧ r = nI 0 ∧ ∃ ro2 : Nat → Int64, w = MWw bd k st wt sm nu po sh up lo li ro2 so un to it)) (BcW D A) A) ([.ref (bd 0), .int (nI j), .int (nI i0), .int (nI j0)] : List Value).toArray s 0 0 A) (F0 m 161 ls []) := by
                  intro r
                  induction r with
                  | zero =>
                    intro h hr H locs ls hP hD hS hl
                    obtain rfl : 8 = h := by omega
                    refine lv_iload hx hb dX4_solve_161 (lv_at hl 5 rfl) ?_
                    refine lv_bipush (v := nI 8) hx hb dX4_solve_163 (by decide) ?_
                    refine lv_icmp_ge (tgt := 230) hx hb dX4_solve_165 (by decide) (fun c21 => ?_) (fun c21 => absurd (nI_le (by omega) (by decide)) c21)
                    refine lv_iconst (v := nI 0) hx hb dX4_solve_230 (by decide) ?_
                    refine lv_istore (lv' := [(6, .int (nI 0)), (0, .ref (bd 0)), (2, .int (nI i0)), (3, .int (nI j0)), (4, .int (nI n)), (5, .int (nI f1))]) hx hb dX4_solve_231 hl (by decide) rfl (fun ls hl => ?_)
                    have L22 : ∀ (r q2 : Nat), q2 + r = 7 → ∀ (H : Heap) (locs : List Loc) (ls : Array Slot), va_P D vwCl (MWw bd k st wt sm nu po sh up lo li (zF (el (sw z1 n f1 8) n q2)) so un to it) H → va_D A (MWw bd k st wt sm nu po sh up lo li (zF (el (sw z1 n f1 8) n q2)) so un to it) → va_S A s.heap H locs → lv_has ls 12 [(0, .ref (bd 0)), (2, .int (nI i0)), (3, .int (nI j0)), (4, .int (nI n)), (6, .int (nI q2))] → W p l e ({ frames := 3, cells := 0, slots := 0, locals := 100 }) s m ([.ref (bd 0), .int (nI j), .int (nI i0), .int (nI j0)] : List Value).toArray below meth c H locs 0 0 (MQ below (va_Qi (fun r w => (∃ zf : Nat → Int, sl z0 7 = some zf ∧ r = nI 1 ∧ w = MWw bd k st wt sm nu po sh up lo li (zF zf) (soA so zf i0 j0 9) (unA un zf i0 j0 9) to it) ∨ (sl z0 7 = none ∧ r = nI 0 ∧ ∃ ro2 : Nat → Int64, w = MWw bd k st wt sm nu po sh up lo li ro2 so un to it)) (BcW D A) A) ([.ref (bd 0), .int (nI j), .int (nI i0), .int (nI j0)] : List Value).toArray s 0 0 A) (F0 m 233 ls []) := by
                      intro r
                      induction r with
                      | zero =>
                        intro q2 hr H locs ls hP hD hS hl
                        obtain rfl : 7 = q2 := by omega
                        refine lv_iload hx hb dX4_solve_233 (lv_at hl 4 rfl) ?_
                        refine lv_bipush (v := nI 7) hx hb dX4_solve_235 (by decide) ?_
                        refine lv_icmp_ge (tgt := 279) hx hb dX4_solve_237 (by decide) (fun c23 => ?_) (fun c23 => absurd (nI_le (by omega) (by decide)) c23)
                        refine lv_iinc (v := nI (n + 1)) (lv' := [(4, .int (nI (n + 1))), (0, .ref (bd 0)), (2, .int (nI i0)), (3, .int (nI j0)), (6, .int (nI 7))]) hx hb dX4_solve_279 hl (k := 3) rfl (by rw [← nI_add n 1]; rfl) (by decide) rfl (fun ls hl => ?_)
                        refine lv_goto (tgt := 107) hx hb dX4_solve_282 (by decide) ?_
                        exact ihL3 (n + 1) (by omega) _ (sl_yes hs1 hfe hf7) _ _ _ hP hD hS (lv_sub hl [1, 2, 3, 0] rfl)
                      | succ r ihL22 =>
                        intro q2 hr H locs ls hP hD hS hl
                        refine lv_iload hx hb dX4_solve_233 (lv_at hl 4 rfl) ?_
                        refine lv_bipush (v := nI 7) hx hb dX4_solve_235 (by decide) ?_
                        refine lv_icmp_ge (tgt := 279) hx hb dX4_solve_237 (by decide) (fun c24 => absurd c24 (nI_ge (by omega) (by decide))) (fun c24 => ?_)
                        refine lv_iload hx hb dX4_solve_240 (lv_at hl 4 rfl) ?_
                        refine lv_iload hx hb dX4_solve_242 (lv_at hl 3 rfl) ?_
                        refine lv_icmp_eq (tgt := 273) hx hb dX4_solve_244 (by decide) (fun c25 => ?_) (fun c25 => ?_)
                        · refine lv_iinc (v := nI (q2 + 1)) (lv' := [(6, .int (nI (q2 + 1))), (0, .ref (bd 0)), (2, .int (nI i0)), (3, .int (nI j0)), (4, .int (nI n))]) hx hb dX4_solve_273 hl (k := 4) rfl (by rw [← nI_add q2 1]; rfl) (by decide) rfl (fun ls hl => ?_)
                          refine lv_goto (tgt := 233) hx hb dX4_solve_276 (by decide) ?_
                          rw [show el (sw z1 n f1 8) n q2 = el (sw z1 n f1 8) n (q2 + 1) from (if_pos (Or.inl (nI_inj (by omega) (by omega) c25))).symm] at hP hD
                          exact ihL22 (q2 + 1) (by omega) _ _ _ hP hD hS (lv_sub hl [1, 2, 3, 4, 0] rfl)
                        · refine lv_aload_n hx hb dX4_solve_247 rfl (lv_at hl 0 rfl) ?_
                          refine fg C hP 0 mw_o (ci := 4) rfl 10 (by decide) in_X4_solve_X4 lk_X4_solve_37 (v := .ref (bd 10)) rfl dX4_solve_248 ?_
                          refine lv_bipush (v := nI 8) hx hb dX4_solve_251 (by decide) ?_
                          refine lv_iload hx hb dX4_solve_253 (lv_at hl 4 rfl) ?_
                          refine lv_imul hx hb dX4_solve_255 ?_
                          refine tp_i (y := nI (8 * q2)) (pk_mul _ _) ?_
                          refine lv_iload hx hb dX4_solve_256 (lv_at hl 3 rfl) ?_
                          refine lv_iadd hx hb dX4_solve_258 ?_
                          refine tp_i (y := nI ((8 * q2) + n)) (nI_add _ _) ?_
                          refine ar_j C hP 10 mw_ro (j := ((8 * q2) + n)) (by omega) (by decide) dX4_solve_259 ?_
                          refine tp_j (y := zL (el (sw z1 n f1 8) n q2 (8 * q2 + n))) (rfl) ?_
                          refine lv_lconst (v := 0) hx hb dX4_solve_260 (by decide) ?_
                          refine W.lcmp hx hb dX4_solve_261 ?_
                          refine lv_if_eq (tgt := 273) hx hb dX4_solve_262 (by decide) (fun c26 => ?_) (fun c26 => ?_)
                          · refine lv_iinc (v := nI (q2 + 1)) (lv' := [(6, .int (nI (q2 + 1))), (0, .ref (bd 0)), (2, .int (nI i0)), (3, .int (nI j0)), (4, .int (nI n))]) hx hb dX4_solve_273 hl (k := 4) rfl (by rw [← nI_add q2 1]; rfl) (by decide) rfl (fun ls hl => ?_)
                            refine lv_goto (tgt := 233) hx hb dX4_solve_276 (by decide) ?_
                            rw [show el (sw z1 n f1 8) n q2 = el (sw z1 n f1 8) n (q2 + 1) from (if_pos (Or.inr (zc0 (by have := gb_el hG hs1 (show n < 7 by omega) hfe hf7 (show q2 < 7 by omega) (show 8 * q2 + n < 56 by omega); omega) c26))).symm] at hP hD
                            exact ihL22 (q2 + 1) (by omega) _ _ _ hP hD hS (lv_sub hl [1, 2, 3, 4, 0] rfl)
                          · refine lv_aload_n hx hb dX4_solve_265 rfl (lv_at hl 0 rfl) ?_
                            refine lv_iload hx hb dX4_solve_266 (lv_at hl 4 rfl) ?_
                            refine lv_iload hx hb dX4_solve_268 (lv_at hl 3 rfl) ?_
                            refine fw_v C hD hS (rn_V (As := [.int (nI q2), .int (nI n)]) (rest := []) C (c_X4_takeOff D k t l (z := el (sw z1 n f1 8) n q2) (r0 := q2) (c0 := n) (by omega) (by omega) (fun z => c25 (by rw [z])) (fun q hq => nv_lt (fun j hj => gb_el hG hs1 (by omega) hfe hf7 (by omega) hj) (by omega) (by omega) hq) _) (cwV 2 hts gX4_solve_X4_takeOff rfl rfl rfl hdX4_takeOffC ⟨Nat.le_of_ble_eq_true rfl, Nat.le_of_ble_eq_true rfl⟩) 0 4 rfl mw_o rfl hP hD hS rfl hl.1 rfl (Nat.le_of_ble_eq_true rfl) dX4_solve_270 ⟨Nat.zero_le _, Nat.zero_le _⟩) (fun wr27 H locs h28 hP hD hS => ?_)
                            obtain rfl := h28
                            refine lv_iinc (v := nI (q2 + 1)) (lv' := [(6, .int (nI (q2 + 1))), (0, .ref (bd 0)), (2, .int (nI i0)), (3, .int (nI j0)), (4, .int (nI n))]) hx hb dX4_solve_273 hl (k := 4) rfl (by rw [← nI_add q2 1]; rfl) (by decide) rfl (fun ls hl => ?_)
                            refine lv_goto (tgt := 233) hx hb dX4_solve_276 (by decide) ?_
                            rw [show tkZ (el (sw z1 n f1 8) n q2) q2 n = el (sw z1 n f1 8) n (q2 + 1) from (if_neg (fun o => o.elim (fun z => c25 (by rw [z])) (zcn c26))).symm] at hP hD
                            exact ihL22 (q2 + 1) (by omega) _ _ _ hP hD hS (lv_sub hl [1, 2, 3, 4, 0] rfl)
                    exact L22 (7 - 0) 0 (by omega) _ _ _ hP hD hS (lv_sub hl [1, 2, 3, 4, 0] rfl)
                  | succ r ihL20 =>
                    intro h hr H locs ls hP hD hS hl
                    refine lv_iload hx hb dX4_solve_161 (lv_at hl 5 rfl) ?_
                    refine lv_bipush (v := nI 8) hx hb dX4_solve_163 (by decide) ?_
                    refine lv_icmp_ge (tgt := 230) hx hb dX4_solve_165 (by decide) (fun c29 => absurd c29 (nI_ge (by omega) (by decide))) (fun c29 => ?_)
                    refine lv_aload_n hx hb dX4_solve_168 rfl (lv_at hl 0 rfl) ?_
                    refine fg C hP 0 mw_o (ci := 4) rfl 10 (by decide) in_X4_solve_X4 lk_X4_solve_37 (v := .ref (bd 10)) rfl dX4_solve_169 ?_
                    refine lv_bipush (v := nI 8) hx hb dX4_solve_172 (by decide) ?_
                    refine lv_iload hx hb dX4_solve_174 (lv_at hl 3 rfl) ?_
                    refine lv_imul hx hb dX4_solve_176 ?_
                    refine tp_i (y := nI (8 * n)) (pk_mul _ _) ?_
                    refine lv_iload hx hb dX4_solve_177 (lv_at hl 5 rfl) ?_
                    refine lv_iadd hx hb dX4_solve_179 ?_
                    refine tp_i (y := nI ((8 * n) + h)) (nI_add _ _) ?_
                    refine ar_j C hP 10 mw_ro (j := ((8 * n) + h)) (by omega) (by decide) dX4_solve_180 ?_
                    refine tp_j (y := zL (z1 (8 * n + h))) (congrArg zL (sw_a hf3 (by omega))) ?_
                    refine lv_lstore (lv' := [(7, .long (zL (z1 (8 * n + h)))), (0, .ref (bd 0)), (2, .int (nI i0)), (3, .int (nI j0)), (4, .int (nI n)), (5, .int (nI f1)), (6, .int (nI h))]) hx hb dX4_solve_181 hl (by decide) rfl (fun ls hl => ?_)
                    refine lv_aload_n hx hb dX4_solve_183 rfl (lv_at hl 1 rfl) ?_
                    refine fg C hP 0 mw_o (ci := 4) rfl 10 (by decide) in_X4_solve_X4 lk_X4_solve_37 (v := .ref (bd 10)) rfl dX4_solve_184 ?_
                    refine lv_bipush (v := nI 8) hx hb dX4_solve_187 (by decide) ?_
                    refine lv_iload hx hb dX4_solve_189 (lv_at hl 4 rfl) ?_
                    refine lv_imul hx hb dX4_solve_191 ?_
                    refine tp_i (y := nI (8 * n)) (pk_mul _ _) ?_
                    refine lv_iload hx hb dX4_solve_192 (lv_at hl 6 rfl) ?_
                    refine lv_iadd hx hb dX4_solve_194 ?_
                    refine tp_i (y := nI ((8 * n) + h)) (nI_add _ _) ?_
                    refine lv_aload_n hx hb dX4_solve_195 rfl (lv_at hl 1 rfl) ?_
                    refine fg C hP 0 mw_o (ci := 4) rfl 10 (by decide) in_X4_solve_X4 lk_X4_solve_37 (v := .ref (bd 10)) rfl dX4_solve_196 ?_
                    refine lv_bipush (v := nI 8) hx hb dX4_solve_199 (by decide) ?_
                    refine lv_iload hx hb dX4_solve_201 (lv_at hl 5 rfl) ?_
                    refine lv_imul hx hb dX4_solve_203 ?_
                    refine tp_i (y := nI (8 * f1)) (pk_mul _ _) ?_
                    refine lv_iload hx hb dX4_solve_204 (lv_at hl 6 rfl) ?_
                    refine lv_iadd hx hb dX4_solve_206 ?_
                    refine tp_i (y := nI ((8 * f1) + h)) (nI_add _ _) ?_
                    refine ar_j C hP 10 mw_ro (j := ((8 * f1) + h)) (by omega) (by decide) dX4_solve_207 ?_
                    refine tp_j (y := zL (z1 (8 * f1 + h))) (congrArg zL (sw_b hf3 (by omega))) ?_
                    refine as_j C hP hD hS 10 mw_ro (j := ((8 * n) + h)) (by omega) (by decide) (mw_ro_st _) dX4_solve_208 (fun H locs hP hD hS => ?_)
                    refine lv_aload_n hx hb dX4_solve_209 rfl (lv_at hl 1 rfl) ?_
                    refine fg C hP 0 mw_o (ci := 4) rfl 10 (by decide) in_X4_solve_X4 lk_X4_solve_37 (v := .ref (bd 10)) rfl dX4_solve_210 ?_
                    refine lv_bipush (v := nI 8) hx hb dX4_solve_213 (by decide) ?_
                    refine lv_iload hx hb dX4_solve_215 (lv_at hl 5 rfl) ?_
                    refine lv_imul hx hb dX4_solve_217 ?_
                    refine tp_i (y := nI (8 * f1)) (pk_mul _ _) ?_
                    refine lv_iload hx hb dX4_solve_218 (lv_at hl 6 rfl) ?_
                    refine lv_iadd hx hb dX4_solve_220 ?_
                    refine tp_i (y := nI ((8 * f1) + h)) (nI_add _ _) ?_
                    refine lv_lload hx hb dX4_solve_221 (lv_at hl 0 rfl) ?_
                    refine as_j C hP hD hS 10 mw_ro (j := ((8 * f1) + h)) (by omega) (by decide) (mw_ro_st _) dX4_solve_223 (fun H locs hP hD hS => ?_)
                    refine lv_iinc (v := nI (h + 1)) (lv' := [(6, .int (nI (h + 1))), (7, .long (zL (z1 (8 * n + h)))), (0, .ref (bd 0)), (2, .int (nI i0)), (3, .int (nI j0)), (4, .int (nI n)), (5, .int (nI f1))]) hx hb dX4_solve_224 hl (k := 6) rfl (by rw [← nI_add h 1]; rfl) (by decide) rfl (fun ls hl => ?_)
                    refine lv_goto (tgt := 161) hx hb dX4_solve_227 (by decide) ?_
                    rw [sw_s hf3 (show h < 8 by omega)] at hP hD
                    exact ihL20 (h + 1) (by omega) _ _ _ hP hD hS (lv_sub hl [2, 3, 4, 5, 6, 0] rfl)
                rw [← sw_0 z1 n f1] at hP hD
                exact L20 (8 - 0) 0 (by omega) _ _ _ hP hD hS (lv_sub hl [1, 2, 3, 4, 5, 0] rfl)
              · have hz := zc0 (by have := (hG n z1 (by omega) hs1).1 (8 * f1 + n) (by omega); omega) c18
                refine lv_iinc (v := nI (f1 + 1)) (lv' := [(5, .int (nI (f1 + 1))), (0, .ref (bd 0)), (2, .int (nI i0)), (3, .int (nI j0)), (4, .int (nI n))]) hx hb dX4_solve_143 hl (k := 4) rfl (by rw [← nI_add f1 1]; rfl) (by decide) rfl (fun ls hl => ?_)
                refine lv_goto (tgt := 118) hx hb dX4_solve_146 (by decide) ?_
                exact ihL14 (f1 + 1) (by omega) (by rw [← hf2, pvt_go hz]) (by omega) _ _ _ hP hD hS (lv_sub hl [1, 2, 3, 4, 0] rfl)
          exact L14 (7 - n) n (by omega) rfl (Nat.le_refl _) _ _ _ hP hD hS (lv_sub hl [1, 2, 3, 4, 0] rfl)
      exact L3 (7 - 0) 0 (by omega) _ rfl _ _ _ hP hD hS (lv_sub hl [1, 3, 4, 0] rfl)
    | succ r ihL1 =>
      intro w1 hr H locs ls hP hD hS hl
      refine lv_iload hx hb dX4_solve_3 (lv_at hl 4 rfl) ?_
      refine lv_bipush (v := nI 8) hx hb dX4_solve_5 (by decide) ?_
      refine lv_icmp_ge (tgt := 104) hx hb dX4_solve_7 (by decide) (fun c30 => absurd c30 (nI_ge (by omega) (by decide))) (fun c30 => ?_)
      refine lv_iconst (v := nI 0) hx hb dX4_solve_10 (by decide) ?_
      refine tp_i (y := nI (cl i0 j0 0)) (rfl) ?_
      refine lv_istore (lv' := [(5, .int (nI (cl i0 j0 0))), (0, .ref (bd 0)), (1, .int (nI j)), (2, .int (nI i0)), (3, .int (nI j0)), (4, .int (nI (w1 + 1)))]) hx hb dX4_solve_11 hl (by decide) rfl (fun ls hl => ?_)
      refine lv_iconst (v := nI 0) hx hb dX4_solve_13 (by decide) ?_
      refine lv_istore (lv' := [(6, .int (nI 0)), (5, .int (nI (cl i0 j0 0))), (0, .ref (bd 0)), (1, .int (nI j)), (2, .int (nI i0)), (3, .int (nI j0)), (4, .int (nI (w1 + 1)))]) hx hb dX4_solve_14 hl (by decide) rfl (fun ls hl => ?_)
      have L31 : ∀ (r q1 : Nat), q1 + r = 9 → ∀ (H : Heap) (locs : List Loc) (ls : Array Slot), va_P D vwCl (MWw bd k st wt sm nu po sh up lo li (fr (fs nu j ro i0 j0 w1) w1 i0 j0 q1) so un to it) H → va_D A (MWw bd k st wt sm nu po sh up lo li (fr (fs nu j ro i0 j0 w1) w1 i0 j0 q1) so un to it) → va_S A s.heap H locs → lv_has ls 12 [(0, .ref (bd 0)), (1, .int (nI j)), (2, .int (nI i0)), (3, .int (nI j0)), (4, .int (nI (w1 + 1))), (5, .int (nI (cl i0 j0 q1))), (6, .int (nI q1))] → W p l e ({ frames := 3, cells := 0, slots := 0, locals := 100 }) s m ([.ref (bd 0), .int (nI j), .int (nI i0), .int (nI j0)] : List Value).toArray below meth c H locs 0 0 (MQ below (va_Qi (fun r w => (∃ zf : Nat → Int, sl z0 7 = some zf ∧ r = nI 1 ∧ w = MWw bd k st wt sm nu po sh up lo li (zF zf) (soA so zf i0 j0 9) (unA un zf i0 j0 9) to it) ∨ (sl z0 7 = none ∧ r = nI 0 ∧ ∃ ro2 : Nat → Int64, w = MWw bd k st wt sm nu po sh up lo li ro2 so un to it)) (BcW D A) A) ([.ref (bd 0), .int (nI j), .int (nI i0), .int (nI j0)] : List Value).toArray s 0 0 A) (F0 m 16 ls []) := by
        intro r
        induction r with
        | zero =>
          intro q1 hr H locs ls hP hD hS hl
          obtain rfl : 9 = q1 := by omega
          refine lv_iload hx hb dX4_solve_16 (lv_at hl 6 rfl) ?_
          refine lv_bipush (v := nI 9) hx hb dX4_solve_18 (by decide) ?_
          refine lv_icmp_ge (tgt := 70) hx hb dX4_solve_20 (by decide) (fun c32 => ?_) (fun c32 => absurd (nI_le (by omega) (by decide)) c32)
          refine lv_aload_n hx hb dX4_solve_70 rfl (lv_at hl 0 rfl) ?_
          refine fg C hP 0 mw_o (ci := 4) rfl 10 (by decide) in_X4_solve_X4 lk_X4_solve_37 (v := .ref (bd 10)) rfl dX4_solve_71 ?_
          refine lv_bipush (v := nI 8) hx hb dX4_solve_74 (by decide) ?_
          refine lv_iload hx hb dX4_solve_76 (lv_at hl 4 rfl) ?_
          refine lv_iconst (v := nI 1) hx hb dX4_solve_78 (by decide) ?_
          refine lv_isub hx hb dX4_solve_79 ?_
          refine tp_i (y := nI w1) (pk_sub (by omega)) ?_
          refine lv_imul hx hb dX4_solve_80 ?_
          refine tp_i (y := nI (8 * w1)) (pk_mul _ _) ?_
          refine lv_bipush (v := nI 7) hx hb dX4_solve_81 (by decide) ?_
          refine lv_iadd hx hb dX4_solve_83 ?_
          refine tp_i (y := nI ((8 * w1) + 7)) (nI_add _ _) ?_
          refine lv_aload_n hx hb dX4_solve_84 rfl (lv_at hl 0 rfl) ?_
          refine fg C hP 0 mw_o (ci := 4) rfl 3 (by decide) in_X4_solve_X4 lk_X4_solve_19 (v := .ref (bd 4)) rfl dX4_solve_85 ?_
          refine lv_bipush (v := nI 8) hx hb dX4_solve_88 (by decide) ?_
          refine lv_iload_n hx hb dX4_solve_90 rfl (lv_at hl 1 rfl) ?_
          refine lv_imul hx hb dX4_solve_91 ?_
          refine tp_i (y := nI (8 * j)) (pk_mul _ _) ?_
          refine lv_iload hx hb dX4_solve_92 (lv_at hl 4 rfl) ?_
          refine lv_iadd hx hb dX4_solve_94 ?_
          refine tp_i (y := nI ((8 * j) + (w1 + 1))) (nI_add _ _) ?_
          refine ar_i C hP 4 mw_nu (j := ((8 * j) + (w1 + 1))) (by omega) (by decide) dX4_solve_95 ?_
          refine lv_i2l (v := (nu ((8 * j) + (w1 + 1))).toInt64) hx hb dX4_solve_96 rfl ?_
          refine as_j C hP hD hS 10 mw_ro (j := ((8 * w1) + 7)) (by omega) (by decide) (mw_ro_st _) dX4_solve_97 (fun H locs hP hD hS => ?_)
          refine lv_iinc (v := nI ((w1 + 1) + 1)) (lv' := [(4, .int (nI ((w1 + 1) + 1))), (0, .ref (bd 0)), (1, .int (nI j)), (2, .int (nI i0)), (3, .int (nI j0)), (5, .int (nI (cl i0 j0 9))), (6, .int (nI 9))]) hx hb dX4_solve_98 hl (k := 4) rfl (by rw [← nI_add (w1 + 1) 1]; rfl) (by decide) rfl (fun ls hl => ?_)
          refine lv_goto (tgt := 3) hx hb dX4_solve_101 (by decide) ?_
          exact ihL1 (w1 + 1) (by omega) _ _ _ hP hD hS (lv_sub hl [1, 2, 3, 4, 0] rfl)
        | succ r ihL31 =>
          intro q1 hr H locs ls hP hD hS hl
          refine lv_iload hx hb dX4_solve_16 (lv_at hl 6 rfl) ?_
          refine lv_bipush (v := nI 9) hx hb dX4_solve_18 (by decide) ?_
          refine lv_icmp_ge (tgt := 70) hx hb dX4_solve_20 (by decide) (fun c33 => absurd c33 (nI_ge (by omega) (by decide))) (fun c33 => ?_)
          refine lv_iload hx hb dX4_solve_23 (lv_at hl 6 rfl) ?_
          refine lv_iload_n hx hb dX4_solve_25 rfl (lv_at hl 2 rfl) ?_
          refine lv_icmp_eq (tgt := 64) hx hb dX4_solve_26 (by decide) (fun c34 => ?_) (fun c34 => ?_)
          · refine lv_iinc (v := nI (q1 + 1)) (lv' := [(6, .int (nI (q1 + 1))), (0, .ref (bd 0)), (1, .int (nI j)), (2, .int (nI i0)), (3, .int (nI j0)), (4, .int (nI (w1 + 1))), (5, .int (nI (cl i0 j0 q1)))]) hx hb dX4_solve_64 hl (k := 6) rfl (by rw [← nI_add q1 1]; rfl) (by decide) rfl (fun ls hl => ?_)
            refine lv_goto (tgt := 16) hx hb dX4_solve_67 (by decide) ?_
            have hor : (q1 = i0 ∨ q1 = j0) := Or.inl (nI_inj (by omega) (by omega) c34)
            rw [show fr (fs nu j ro i0 j0 w1) w1 i0 j0 q1 = fr (fs nu j ro i0 j0 w1) w1 i0 j0 (q1 + 1) from (if_pos hor).symm] at hP hD
            rw [show cl i0 j0 q1 = cl i0 j0 (q1 + 1) from (if_pos hor).symm] at hl
            exact ihL31 (q1 + 1) (by omega) _ _ _ hP hD hS (lv_sub hl [1, 2, 3, 4, 5, 6, 0] rfl)
          · refine lv_iload hx hb dX4_solve_29 (lv_at hl 6 rfl) ?_
            refine lv_iload_n hx hb dX4_solve_31 rfl (lv_at hl 3 rfl) ?_
            refine lv_icmp_ne (tgt := 38) hx hb dX4_solve_32 (by decide) (fun c35 => ?_) (fun c35 => ?_)
            · have hc7 := cl_lt hj0 hij (show q1 < 9 by omega) (fun o => o.elim (fun z => c34 (by rw [z])) (fun z => c35 (by rw [z])))
              refine lv_aload_n hx hb dX4_solve_38 rfl (lv_at hl 0 rfl) ?_
              refine fg C hP 0 mw_o (ci := 4) rfl 10 (by decide) in_X4_solve_X4 lk_X4_solve_37 (v := .ref (bd 10)) rfl dX4_solve_39 ?_
              refine lv_bipush (v := nI 8) hx hb dX4_solve_42 (by decide) ?_
              refine lv_iload hx hb dX4_solve_44 (lv_at hl 4 rfl) ?_
              refine lv_iconst (v := nI 1) hx hb dX4_solve_46 (by decide) ?_
              refine lv_isub hx hb dX4_solve_47 ?_
              refine tp_i (y := nI w1) (pk_sub (by omega)) ?_
              refine lv_imul hx hb dX4_solve_48 ?_
              refine tp_i (y := nI (8 * w1)) (pk_mul _ _) ?_
              refine lv_iload hx hb dX4_solve_49 (lv_at hl 5 rfl) ?_
              refine lv_iadd hx hb dX4_solve_51 ?_
              refine tp_i (y := nI ((8 * w1) + (cl i0 j0 q1))) (nI_add _ _) ?_
              refine lv_iload hx hb dX4_solve_52 (lv_at hl 6 rfl) ?_
              refine lv_iload hx hb dX4_solve_54 (lv_at hl 4 rfl) ?_
              refine fw_i C hD hS (rn_S (As := [.int (nI q1), .int (nI (w1 + 1))]) (rest := [.int (nI ((8 * w1) + (cl i0 j0 q1))), .ref (bd 10)]) C (c_plainOf D k t l (p0 := q1) (z := (w1 + 1)) (by omega) (by omega) _) (va_cwS 2 hts gX4_solve_X4_plainOf rfl rfl rfl hdX4_plainOf ⟨Nat.le_of_ble_eq_true rfl, Nat.le_of_ble_eq_true rfl⟩) hP hD hS rfl hl.1 rfl (Nat.le_of_ble_eq_true rfl) dX4_solve_56 ⟨Nat.zero_le _, Nat.zero_le _⟩) (fun r36 wr36 H locs h37 hP hD hS => ?_)
              obtain ⟨rfl, rfl⟩ := h37
              refine lv_i2l (v := (plr q1 (w1 + 1)).toInt64) hx hb dX4_solve_59 rfl ?_
              refine as_j C hP hD hS 10 mw_ro (j := ((8 * w1) + (cl i0 j0 q1))) (by omega) (by decide) (mw_ro_st _) dX4_solve_60 (fun H locs hP hD hS => ?_)
              refine lv_iinc (v := nI ((cl i0 j0 q1) + 1)) (lv' := [(5, .int (nI ((cl i0 j0 q1) + 1))), (0, .ref (bd 0)), (1, .int (nI j)), (2, .int (nI i0)), (3, .int (nI j0)), (4, .int (nI (w1 + 1))), (6, .int (nI q1))]) hx hb dX4_solve_61 hl (k := 5) rfl (by rw [← nI_add (cl i0 j0 q1) 1]; rfl) (by decide) rfl (fun ls hl => ?_)
              refine lv_iinc (v := nI (q1 + 1)) (lv' := [(6, .int (nI (q1 + 1))), (5, .int (nI ((cl i0 j0 q1) + 1))), (0, .ref (bd 0)), (1, .int (nI j)), (2, .int (nI i0)), (3, .int (nI j0)), (4, .int (nI (w1 + 1)))]) hx hb dX4_solve_64 hl (k := 6) rfl (by rw [← nI_add q1 1]; rfl) (by decide) rfl (fun ls hl => ?_)
              refine lv_goto (tgt := 16) hx hb dX4_solve_67 (by decide) ?_
              have hor : ¬ (q1 = i0 ∨ q1 = j0) := fun o => o.elim (fun z => c34 (by rw [z])) (fun z => c35 (by rw [z]))
              rw [show vp_updL (fr (fs nu j ro i0 j0 w1) w1 i0 j0 q1) ((8 * w1) + (cl i0 j0 q1)) ((plr q1 (w1 + 1)).toInt64) = fr (fs nu j ro i0 j0 w1) w1 i0 j0 (q1 + 1) from (if_neg hor).symm] at hP hD
              rw [show cl i0 j0 q1 + 1 = cl i0 j0 (q1 + 1) from (if_neg hor).symm] at hl
              exact ihL31 (q1 + 1) (by omega) _ _ _ hP hD hS (lv_sub hl [2, 3, 4, 5, 6, 1, 0] rfl)
            · refine lv_goto (tgt := 64) hx hb dX4_solve_35 (by decide) ?_
              refine lv_iinc (v := nI (q1 + 1)) (lv' := [(6, .int (nI (q1 + 1))), (0, .ref (bd 0)), (1, .int (nI j)), (2, .int (nI i0)), (3, .int (nI j0)), (4, .int (nI (w1 + 1))), (5, .int (nI (cl i0 j0 q1)))]) hx hb dX4_solve_64 hl (k := 6) rfl (by rw [← nI_add q1 1]; rfl) (by decide) rfl (fun ls hl => ?_)
              refine lv_goto (tgt := 16) hx hb dX4_solve_67 (by decide) ?_
              have hor : (q1 = i0 ∨ q1 = j0) := Or.inr (nI_inj (by omega) (by omega) c35)
              rw [show fr (fs nu j ro i0 j0 w1) w1 i0 j0 q1 = fr (fs nu j ro i0 j0 w1) w1 i0 j0 (q1 + 1) from (if_pos hor).symm] at hP hD
              rw [show cl i0 j0 q1 = cl i0 j0 (q1 + 1) from (if_pos hor).symm] at hl
              exact ihL31 (q1 + 1) (by omega) _ _ _ hP hD hS (lv_sub hl [1, 2, 3, 4, 5, 6, 0] rfl)
      exact L31 (9 - 0) 0 (by omega) _ _ _ hP hD hS (lv_sub hl [2, 3, 4, 5, 6, 1, 0] rfl)
  exact L1 (7 - 0) 0 (by omega) _ _ _ hP hD hS (lv_sub hl [1, 2, 3, 4, 0] rfl)

