def fb_ct (p : Nat → Bool) : Nat → Nat
  | 0 => 0
  | n + 1 => fb_ct p n + (if p n then 1 else 0)
theorem fb_ct_succ (p : Nat → Bool) (n : Nat) : fb_ct p (n + 1) = fb_ct p n + (if p n then 1 else 0) := rfl
theorem fb_ct_le (p : Nat → Bool) : ∀ n, fb_ct p n ≤ n
  | 0 => Nat.le_refl _
  | n + 1 => by
    have h := fb_ct_le p n
    rw [fb_ct_succ]
    split <;> omega
theorem fb_ct_step (p : Nat → Bool) (m : Nat) : ∀ n, fb_ct p m ≤ fb_ct p (m + n)
  | 0 => Nat.le_refl _
  | n + 1 => by
    have h := fb_ct_step p m n
    show fb_ct p m ≤ fb_ct p (m + n + 1)
    rw [fb_ct_succ]
    omega
theorem fb_ct_mono (p : Nat → Bool) {m n : Nat} (h : m ≤ n) : fb_ct p m ≤ fb_ct p n := by
  have := fb_ct_step p m (n - m)
  rwa [Nat.add_sub_cancel' h] at this
theorem fb_ct_cong {p q : Nat → Bool} : ∀ {n : Nat}, (∀ k, k < n → p k = q k) → fb_ct p n = fb_ct q n
  | 0, _ => rfl
  | n + 1, h => by
    rw [fb_ct_succ, fb_ct_succ, fb_ct_cong (fun k hk => h k (by omega)), h n (by omega)]
/-- one place changed -/
theorem fb_ct_out (p : Nat → Bool) (b : Bool) {i n : Nat} (h : n ≤ i) : fb_ct (fun k => if k = i then b else p k) n = fb_ct p n :=
  fb_ct_cong fun k hk => if_neg (by omega)
theorem fb_ct_upd (p : Nat → Bool) (b : Bool) {i : Nat} : ∀ {n : Nat}, i < n → fb_ct (fun k => if k = i then b else p k) n + (if p i then 1 else 0) = fb_ct p n + (if b then 1 else 0)
  | 0, h => absurd h (Nat.not_lt_zero i)
  | n + 1, h => by
    rw [fb_ct_succ, fb_ct_succ]
    rcases Nat.lt_or_ge i n with q | q
    · have := fb_ct_upd p b q
      have e : (if n = i then b else p n) = p n := if_neg (by omega)
      rw [e]
      omega
    · have e : i = n := by omega
      subst e
      rw [fb_ct_out p b (Nat.le_refl _)]
      simp only [if_true]
      omega
def fb_sm (f : Nat → Nat) : Nat → Nat
  | 0 => 0
  | n + 1 => fb_sm f n + f n
theorem fb_sm_succ (f : Nat → Nat) (n : Nat) : fb_sm f (n + 1) = fb_sm f n + f n := rfl
theorem fb_sm_cong {f g : Nat → Nat} : ∀ {n : Nat}, (∀ k, k < n → f k = g k) → fb_sm f n = fb_sm g n
  | 0, _ => rfl
  | n + 1, h => by rw [fb_sm_succ, fb_sm_succ, fb_sm_cong (fun k hk => h k (by omega)), h n (by omega)]
theorem fb_sm_out (f : Nat → Nat) (v : Nat) {i n : Nat} (h : n ≤ i) : fb_sm (fun k => if k = i then v else f k) n = fb_sm f n :=
  fb_sm_cong fun k hk => if_neg (by omega)
theorem fb_sm_upd (f : Nat → Nat) (v : Nat) {i : Nat} : ∀ {n : Nat}, i < n → fb_sm (fun k => if k = i then v else f k) n + f i = fb_sm f n + v
  | 0, h => absurd h (Nat.not_lt_zero i)
  | n + 1, h => by
    rw [fb_sm_succ, fb_sm_succ]
    rcases Nat.lt_or_ge i n with q | q
    · have := fb_sm_upd f v q
      have e : (if n = i then v else f n) = f n := if_neg (by omega)
      rw [e]
      omega
    · have e : i = n := by omega
      subst e
      rw [fb_sm_out f v (Nat.le_refl _)]
      simp only [if_true]
      omega
theorem fb_sm_mono (f : Nat → Nat) (m : Nat) : ∀ n, fb_sm f m ≤ fb_sm f (m + n)
  | 0 => Nat.le_refl _
  | n + 1 => by
    have h := fb_sm_mono f m n
    show fb_sm f m ≤ fb_sm f (m + n + 1)
    rw [fb_sm_succ]
    omega
theorem fb_sm_part (f : Nat → Nat) {i n : Nat} (h : i < n) : fb_sm f i + f i ≤ fb_sm f n := by
  have := fb_sm_mono f (i + 1) (n - (i + 1))
  rw [fb_sm_succ, show i + 1 + (n - (i + 1)) = n by omega] at this
  exact this
def ctp (s : Nat → Nat) : Nat → Nat := fb_ct (fun j => decide (0 < s j))
theorem ctp_pos {s : Nat → Nat} {k : Nat} (h : 0 < s k) : ∀ {n : Nat}, k < n → 1 ≤ ctp s n
  | 0, hk => absurd hk (Nat.not_lt_zero _)
  | n + 1, hk => by
    unfold ctp
    rw [fb_ct_succ]
    rcases Nat.lt_or_ge k n with q | q
    · have := ctp_pos h q
      unfold ctp at this
      omega
    · obtain rfl : k = n := by omega
      simp [h]
def mgs (s : Nat → Nat) (a b : Nat) : Nat → Nat := fun j => if j = b then 0 else if j = a then s a + s b else s j
theorem mgs_ct {s : Nat → Nat} {a b : Nat} (hab : a ≠ b) (ha : 0 < s a) (hb : 0 < s b) (hb2 : b < 27) : ctp (mgs s a b) 27 + 1 = ctp s 27 := by
  have h := fb_ct_upd (fun j => decide (0 < s j)) false hb2
  have e : (fun j => decide (0 < mgs s a b j)) = (fun k => if k = b then false else decide (0 < s k)) := by
    funext j
    unfold mgs
    by_cases q : j = b
    · simp [q]
    · by_cases q2 : j = a
      · subst q2
        simp [q, ha]
        omega
      · simp [q, q2]
  unfold ctp
  rw [e]
  have hb' : decide (0 < s b) = true := by simpa using hb
  simp only [hb', ↓reduceIte, Bool.false_eq_true, Nat.add_zero] at h
  exact h
theorem mgs_sm {s : Nat → Nat} {a b : Nat} (hab : a ≠ b) (ha2 : a < 27) (hb2 : b < 27) : fb_sm (mgs s a b) 27 = fb_sm s 27 := by
  have h1 := fb_sm_upd s (s a + s b) ha2
  have h2 := fb_sm_upd (fun k => if k = a then s a + s b else s k) 0 hb2
  have e : (fun k => if k = b then 0 else (fun k => if k = a then s a + s b else s k) k) = mgs s a b := rfl
  rw [e] at h2
  have e2 : (fun k => if k = a then s a + s b else s k) b = s b := if_neg (fun q => hab q.symm)
  simp only at h2 e2
  rw [e2] at h2
  omega
def nx (A : Nat → Int32) : Option Nat := bO A (oI (bO A (-1) 27)) 27
theorem bO_sp {A : Nat → Int32} {b : Int32} : ∀ {i k : Nat}, bO A b i = some k → ¬ nI k = b ∧ ¬ A k ≤ 0
  | 0, k, h => by cases h
  | i + 1, k, h => by
    rw [bO] at h
    split at h
    · exact bO_sp h
    · rename_i c1
      split at h
      · exact bO_sp h
      · rename_i c2
        split at h
        · cases h; exact ⟨c1, c2⟩
        · rename_i h5
          split at h
          · cases h; exact bO_sp h5
          · cases h; exact ⟨c1, c2⟩
theorem nx_s {A : Nat → Int32} (h : ¬ oI (nx A) = -1) : ∃ a b, bO A (-1) 27 = some a ∧ nx A = some b ∧ a < 27 ∧ b < 27 ∧ a ≠ b ∧ ¬ A a ≤ 0 ∧ ¬ A b ≤ 0 := by
  obtain ⟨b, hb⟩ := oI_s h
  cases ha : bO A (-1) 27 with
  | none =>
    have h1 : nx A = none := by
      unfold nx
      rw [ha]
      exact ha
    rw [h1] at hb
    cases hb
  | some a =>
    have h2 : bO A (nI a) 27 = some b := by
      have h3 : nx A = bO A (nI a) 27 := by unfold nx; rw [ha]; rfl
      rw [← h3]; exact hb
    have h4 := bO_sp h2
    exact ⟨a, b, rfl, hb, bO_lt ha, bO_lt h2, fun q => h4.1 (by rw [q]), (bO_sp ha).2, h4.2⟩
def mrg (A : Nat → Int32) (a b : Nat) : Nat → Int32 := upd (upd A a (A a + A b)) b (nI 0)
def mmA : Nat → (Nat → Int32) → Int32 → Int32
  | 0, _, m => m
  | r + 1, A, m => if oI (nx A) = -1 then m else mmA r (mrg A ((bO A (-1) 27).getD 0) ((nx A).getD 0)) (m + (A ((bO A (-1) 27).getD 0) + A ((nx A).getD 0)))
theorem mrg_n {A : Nat → Int32} {s : Nat → Nat} {a b : Nat} (h : ∀ j, j < 27 → A j = nI (s j)) (ha : a < 27) (hb : b < 27) : ∀ j, j < 27 → mrg A a b j = nI (mgs s a b j) := by
  intro j hj
  unfold mrg mgs
  by_cases q : j = b
  · subst q; simp [upd]
  · by_cases q2 : j = a
    · subst q2
      simp only [upd, q, ↓reduceIte, h j hj, h b hb, nI_add]
    · simp only [upd, q, q2, ↓reduceIte, h j hj]
theorem sp_n {A : Nat → Int32} {s : Nat → Nat} {a : Nat} (h : ∀ j, j < 27 → A j = nI (s j)) (ha : a < 27) (hp : ¬ A a ≤ 0) : 0 < s a := by
  rw [h a ha] at hp
  exact nI_p hp
theorem nx_none {A : Nat → Int32} (h : oI (bO A (-1) 27) = -1) : oI (nx A) = -1 := by
  unfold nx
  rw [h]
  exact h
set_option maxRecDepth 20000 in
theorem in_X4_mean_X4 : ∀ w ∈ u_ws RX4 TX4 15, w ∈ wsX4_mean := by decide +kernel
set_option maxRecDepth 20000 in
theorem lk_X4_mean_28 : Cond.fieldLink RX4 28 (TX4 6).1 (TX4 6).2.1 (TX4 6).2.2.1 ∈ wsX4_mean := by decide +kernel
set_option maxHeartbeats 4000000 in
set_option maxRecDepth 100000 in
theorem c_X4_mean (D : va_G) (k : Nat → ClassId) (t : Nat → Nat) (l : Launch) {bd : Nat → Nat} {st wt sm nu po sh up lo : Nat → Int32} {li : Int32} {ro so un to : Nat → Int64} {it : Int32} {nn : Nat → Nat} {vv : Nat → Nat → Nat} {qq : Nat → Nat → Int} (hW : WIm sm wt nn vv) (hSm : ∀ g z, g < 4 → z < 8 → fb_sm (gsN (vv g) z 27) 27 ≤ 16) (hCt : ∀ g z, g < 4 → z < 8 → ctp (gsN (vv g) z 27) 27 ≤ 27) (x1 x2 : Int32) : Ci D k t l yX4_mean wsX4_mean ({ frames := 3, cells := 0, slots := 0, locals := 90 }) [.ref (bd 0), .int x1, .int x2] (MWw bd k st wt sm nu po sh up lo li ro so un to it) (fun r w => (∃ ga za : Nat, (ga < 4 ∧ x1 = nI ga ∧ ¬ sm ga ≤ 0 ∧ 1 ≤ za ∧ za < 8 ∧ x2 = nI za) ∧ r = mmA 27 (gs (fun j => wt (27 * ga + j)) za 27) (nI 0) ∧ ∃ sh2 : Nat → Int32, w = MWw bd k st wt sm nu po sh2 up lo li ro so un to it) ∨ ((∀ ga za : Nat, ¬ (ga < 4 ∧ x1 = nI ga ∧ ¬ sm ga ≤ 0 ∧ 1 ≤ za ∧ za < 8 ∧ x2 = nI za)) ∧ r = -1 ∧ w = MWw bd k st wt sm nu po sh up lo li ro so un to it)) 0 0 := by
  refine fw_of (cc := cX4_mean) (maxL := 6) (ret := (some .int)) (Qc := fun A => va_Qi (fun r w => (∃ ga za : Nat, (ga < 4 ∧ x1 = nI ga ∧ ¬ sm ga ≤ 0 ∧ 1 ≤ za ∧ za < 8 ∧ x2 = nI za) ∧ r = mmA 27 (gs (fun j => wt (27 * ga + j)) za 27) (nI 0) ∧ ∃ sh2 : Nat → Int32, w = MWw bd k st wt sm nu po sh2 up lo li ro so un to it) ∨ ((∀ ga za : Nat, ¬ (ga < 4 ∧ x1 = nI ga ∧ ¬ sm ga ≤ 0 ∧ 1 ≤ za ∧ za < 8 ∧ x2 = nI za)) ∧ r = -1 ∧ w = MWw bd k st wt sm nu po sh up lo li ro so un to it)) (BcW D A) A) (by decide) rfl (Nat.le_of_ble_eq_true rfl) ?_
  intro p e s m below meth c A ls C hP hD hl
  have C : Cx RX4 "mean" cX4_mean 6 (some .int) wsX4_mean D k t A p s m ([.ref (bd 0), .int x1, .int x2] : List Value).toArray meth c := C
  have hl : lv_has ls 6 [(0, .ref (bd 0)), (1, .int x1), (2, .int x2)] := hl
  have hx := C.1
  have hb := C.2.1
  have hown := C.2.2.2.2.1
  have hts := C.2.2.2.2.2.1
  have hK := C.2.2.2.2.2.2.2.2.1
  have hZ := C.2.2.2.2.2.2.2.2.2.1
  have hN := C.2.2.2.2.2.2.2.2.2.2
  have hS : va_S A s.heap s.heap [] := va_S.rf
  refine lv_aload_n hx hb dX4_mean_0 rfl (lv_at hl 0 rfl) ?_
  refine lv_iload_n hx hb dX4_mean_1 rfl (lv_at hl 1 rfl) ?_
  refine fw_i C hD hS (rn_V (As := [.int x1]) (rest := []) C (c_X4_isMade D k t l x1 _) (cwV 1 hts gX4_mean_X4_isMade rfl rfl rfl hdX4_isMadeC ⟨Nat.le_of_ble_eq_true rfl, Nat.le_of_ble_eq_true rfl⟩) 0 4 rfl mw_o rfl hP hD hS rfl hl.1 rfl (Nat.le_of_ble_eq_true rfl) dX4_mean_2 ⟨Nat.zero_le _, Nat.zero_le _⟩) (fun r1 wr1 H locs h2 hP hD hS => ?_)
  obtain ⟨rfl, rfl⟩ := h2
  refine lv_if_eq (tgt := 18) hx hb dX4_mean_5 (by decide) (fun c3 => ?_) (fun c3 => ?_)
  · have c3 := pb_z c3
    refine lv_iconst (v := (-1)) hx hb dX4_mean_18 (by decide) ?_
    exact Ri C hP hD hS (Nat.zero_le _) (Nat.zero_le _) dX4_mean_19 (Or.inr ⟨fun g _ z => c3 ⟨g, z.1, z.2.1, z.2.2.1⟩, rfl, rfl⟩)
  · have c3 := pb_nz c3
    obtain ⟨g, hg, rfl, hmg⟩ := id c3
    refine lv_iload_n hx hb dX4_mean_8 rfl (lv_at hl 2 rfl) ?_
    refine lv_iconst (v := nI 1) hx hb dX4_mean_9 (by decide) ?_
    refine lv_bipush (v := nI 7) hx hb dX4_mean_10 (by decide) ?_
    refine fw_i C hD hS (rn_S (As := [.int x2, .int (nI 1), .int (nI 7)]) (rest := []) C (c_isInR D k t l (lo := 1) (hi := 7) x2 (by decide) (by decide) _) (va_cwS 3 hts gX4_mean_X4_isIn rfl rfl rfl hdX4_isIn ⟨Nat.le_of_ble_eq_true rfl, Nat.le_of_ble_eq_true rfl⟩) hP hD hS rfl hl.1 rfl (Nat.le_of_ble_eq_true rfl) dX4_mean_12 ⟨Nat.zero_le _, Nat.zero_le _⟩) (fun r4 wr4 H locs h5 hP hD hS => ?_)
    obtain ⟨rfl, rfl⟩ := h5
    refine lv_if_ne (tgt := 20) hx hb dX4_mean_15 (by decide) (fun c6 => ?_) (fun c6 => ?_)
    · have c6 := pb_nz c6
      obtain ⟨z, h0z, hz, rfl⟩ := id c6
      refine lv_aload_n hx hb dX4_mean_20 rfl (lv_at hl 0 rfl) ?_
      refine lv_iload_n hx hb dX4_mean_21 rfl (lv_at hl 1 rfl) ?_
      refine lv_iload_n hx hb dX4_mean_22 rfl (lv_at hl 2 rfl) ?_
      refine fw_v C hD hS (rn_V (As := [.int (nI g), .int (nI z)]) (rest := []) C (c_X4_settings D k t l hg hz _) (cwV 2 hts gX4_mean_X4_settings rfl rfl rfl hdX4_settingsC ⟨Nat.le_of_ble_eq_true rfl, Nat.le_of_ble_eq_true rfl⟩) 0 4 rfl mw_o rfl hP hD hS rfl hl.1 rfl (Nat.le_of_ble_eq_true rfl) dX4_mean_23 ⟨Nat.zero_le _, Nat.zero_le _⟩) (fun wr7 H locs h8 hP hD hS => ?_)
      obtain rfl := h8
      refine lv_iconst (v := nI 0) hx hb dX4_mean_26 (by decide) ?_
      refine lv_istore_n (lv' := [(3, .int (nI 0)), (0, .ref (bd 0)), (1, .int (nI g)), (2, .int (nI z))]) hx hb dX4_mean_27 rfl hl (by decide) rfl (fun ls hl => ?_)
      refine lv_aload_n hx hb dX4_mean_28 rfl (lv_at hl 1 rfl) ?_
      refine fw_i C hD hS (rn_V (As := []) (rest := []) C (c_X4_leastOf D k t l _) (cwV 0 hts gX4_mean_X4_leastOf rfl rfl rfl hdX4_leastOfC ⟨Nat.le_of_ble_eq_true rfl, Nat.le_of_ble_eq_true rfl⟩) 0 4 rfl mw_o rfl hP hD hS rfl hl.1 rfl (Nat.le_of_ble_eq_true rfl) dX4_mean_29 ⟨Nat.zero_le _, Nat.zero_le _⟩) (fun r9 wr9 H locs h10 hP hD hS => ?_)
      obtain ⟨rfl, rfl⟩ := h10
      refine lv_istore (lv' := [(4, .int (oI (bO (gs (fun j => wt (27 * g + j)) z 27) (-1) 27))), (3, .int (nI 0)), (0, .ref (bd 0)), (1, .int (nI g)), (2, .int (nI z))]) hx hb dX4_mean_32 hl (by decide) rfl (fun ls hl => ?_)
      refine lv_iload hx hb dX4_mean_34 (lv_at hl 0 rfl) ?_
      refine lv_iconst (v := (-1)) hx hb dX4_mean_36 (by decide) ?_
      refine lv_icmp_ne (tgt := 44) hx hb dX4_mean_37 (by decide) (fun c11 => ?_) (fun c11 => ?_)
      · refine lv_aload_n hx hb dX4_mean_44 rfl (lv_at hl 2 rfl) ?_
        refine lv_iload hx hb dX4_mean_45 (lv_at hl 0 rfl) ?_
        refine fw_i C hD hS (rn_V (As := [.int (oI (bO (gs (fun j => wt (27 * g + j)) z 27) (-1) 27))]) (rest := []) C (c_X4_secondOf D k t l (oI (bO (gs (fun j => wt (27 * g + j)) z 27) (-1) 27)) _) (cwV 1 hts gX4_mean_X4_secondOf rfl rfl rfl hdX4_secondOfC ⟨Nat.le_of_ble_eq_true rfl, Nat.le_of_ble_eq_true rfl⟩) 0 4 rfl mw_o rfl hP hD hS rfl hl.1 rfl (Nat.le_of_ble_eq_true rfl) dX4_mean_47 ⟨Nat.zero_le _, Nat.zero_le _⟩) (fun r12 wr12 H locs h13 hP hD hS => ?_)
        obtain ⟨rfl, rfl⟩ := h13
        refine lv_istore (lv' := [(5, .int (oI (nx (gs (fun j => wt (27 * g + j)) z 27)))), (4, .int (oI (bO (gs (fun j => wt (27 * g + j)) z 27) (-1) 27))), (3, .int (nI 0)), (0, .ref (bd 0)), (1, .int (nI g)), (2, .int (nI z))]) hx hb dX4_mean_50 hl (by decide) rfl (fun ls hl => ?_)
        have L14 : ∀ (r : Nat) (A1 : Nat → Int32) (m1 : Int32) (s1 : Nat → Nat) (h1 : ∀ j, j < 27 → A1 j = nI (s1 j)) (h2 : fb_sm s1 27 ≤ 16) (h3 : ctp s1 27 ≤ r) (h4 : mmA r A1 m1 = mmA 27 (gs (fun j => wt (27 * g + j)) z 27) (nI 0)), ∀ (H : Heap) (locs : List Loc) (ls : Array Slot), va_P D vwCl (MWw bd k st wt sm nu po A1 up lo li ro so un to it) H → va_D A (MWw bd k st wt sm nu po A1 up lo li ro so un to it) → va_S A s.heap H locs → lv_has ls 6 [(0, .ref (bd 0)), (3, .int m1), (4, .int (oI (bO A1 (-1) 27))), (5, .int (oI (nx A1)))] → W p l e ({ frames := 3, cells := 0, slots := 0, locals := 90 }) s m ([.ref (bd 0), .int (nI g), .int (nI z)] : List Value).toArray below meth c H locs 0 0 (MQ below (va_Qi (fun r w => (∃ ga za : Nat, (ga < 4 ∧ (nI g) = nI ga ∧ ¬ sm ga ≤ 0 ∧ 1 ≤ za ∧ za < 8 ∧ (nI z) = nI za) ∧ r = mmA 27 (gs (fun j => wt (27 * ga + j)) za 27) (nI 0) ∧ ∃ sh2 : Nat → Int32, w = MWw bd k st wt sm nu po sh2 up lo li ro so un to it) ∨ ((∀ ga za : Nat, ¬ (ga < 4 ∧ (nI g) = nI ga ∧ ¬ sm ga ≤ 0 ∧ 1 ≤ za ∧ za < 8 ∧ (nI z) = nI za)) ∧ r = -1 ∧ w = MWw bd k st wt sm nu po sh up lo li ro so un to it)) (BcW D A) A) ([.ref (bd 0), .int (nI g), .int (nI z)] : List Value).toArray s 0 0 A) (F0 m 52 ls []) := by
          intro r
          induction r with
          | zero =>
            intro A1 m1 s1 h1 h2 h3 h4 H locs ls hP hD hS hl
            refine lv_iload hx hb dX4_mean_52 (lv_at hl 3 rfl) ?_
            refine lv_iconst (v := (-1)) hx hb dX4_mean_54 (by decide) ?_
            refine lv_icmp_eq (tgt := 110) hx hb dX4_mean_55 (by decide) (fun c15 => ?_) (fun c15 => ?_)
            · refine lv_iload_n hx hb dX4_mean_110 rfl (lv_at hl 1 rfl) ?_
              exact Ri C hP hD hS (Nat.zero_le _) (Nat.zero_le _) dX4_mean_111 (Or.inl ⟨g, z, ⟨hg, rfl, hmg, h0z, hz, rfl⟩, by rw [← h4]; rfl, _, rfl⟩)
            · obtain ⟨a, b, ha, hb7, ha2, hb2, hab, hpa, hpb⟩ := nx_s c15
              exact absurd (ctp_pos (sp_n h1 ha2 hpa) ha2) (by omega)
          | succ r ihL14 =>
            intro A1 m1 s1 h1 h2 h3 h4 H locs ls hP hD hS hl
            refine lv_iload hx hb dX4_mean_52 (lv_at hl 3 rfl) ?_
            refine lv_iconst (v := (-1)) hx hb dX4_mean_54 (by decide) ?_
            refine lv_icmp_eq (tgt := 110) hx hb dX4_mean_55 (by decide) (fun c16 => ?_) (fun c16 => ?_)
            · refine lv_iload_n hx hb dX4_mean_110 rfl (lv_at hl 1 rfl) ?_
              exact Ri C hP hD hS (Nat.zero_le _) (Nat.zero_le _) dX4_mean_111 (Or.inl ⟨g, z, ⟨hg, rfl, hmg, h0z, hz, rfl⟩, by rw [← h4, mmA, if_pos c16], _, rfl⟩)
            · obtain ⟨a, b, ha, hb7, ha2, hb2, hab, hpa, hpb⟩ := nx_s c16
              refine lv_aload_n hx hb dX4_mean_58 rfl (lv_at hl 0 rfl) ?_
              refine fg C hP 0 mw_o (ci := 4) rfl 6 (by decide) in_X4_mean_X4 lk_X4_mean_28 (v := .ref (bd 7)) rfl dX4_mean_59 ?_
              refine lv_iload hx hb dX4_mean_62 (lv_at hl 2 rfl) ?_
              refine tp_i (y := nI a) (by rw [ha]; rfl) ?_
              refine lv_dup2_11 hx hb dX4_mean_64 rfl rfl ?_
              refine ar_i C hP 7 mw_sh (j := a) (by omega) (by decide) dX4_mean_65 ?_
              refine lv_aload_n hx hb dX4_mean_66 rfl (lv_at hl 0 rfl) ?_
              refine fg C hP 0 mw_o (ci := 4) rfl 6 (by decide) in_X4_mean_X4 lk_X4_mean_28 (v := .ref (bd 7)) rfl dX4_mean_67 ?_
              refine lv_iload hx hb dX4_mean_70 (lv_at hl 3 rfl) ?_
              refine tp_i (y := nI b) (by rw [hb7]; rfl) ?_
              refine ar_i C hP 7 mw_sh (j := b) (by omega) (by decide) dX4_mean_72 ?_
              refine lv_iadd hx hb dX4_mean_73 ?_
              refine as_i C hP hD hS 7 mw_sh (j := a) (by omega) (by decide) (mw_sh_st _) dX4_mean_74 (fun H locs hP hD hS => ?_)
              refine lv_iload_n hx hb dX4_mean_75 rfl (lv_at hl 1 rfl) ?_
              refine lv_aload_n hx hb dX4_mean_76 rfl (lv_at hl 0 rfl) ?_
              refine fg C hP 0 mw_o (ci := 4) rfl 6 (by decide) in_X4_mean_X4 lk_X4_mean_28 (v := .ref (bd 7)) rfl dX4_mean_77 ?_
              refine lv_iload hx hb dX4_mean_80 (lv_at hl 2 rfl) ?_
              refine tp_i (y := nI a) (by rw [ha]; rfl) ?_
              refine ar_i C hP 7 mw_sh (j := a) (by omega) (by decide) dX4_mean_82 ?_
              refine tp_i (y := A1 a + A1 b) (upd_at_u _ _ _) ?_
              refine lv_iadd hx hb dX4_mean_83 ?_
              refine lv_istore_n (lv' := [(3, .int (m1 + (A1 a + A1 b))), (0, .ref (bd 0)), (4, .int (oI (bO A1 (-1) 27))), (5, .int (oI (nx A1)))]) hx hb dX4_mean_84 rfl hl (by decide) rfl (fun ls hl => ?_)
              refine lv_aload_n hx hb dX4_mean_85 rfl (lv_at hl 1 rfl) ?_
              refine fg C hP 0 mw_o (ci := 4) rfl 6 (by decide) in_X4_mean_X4 lk_X4_mean_28 (v := .ref (bd 7)) rfl dX4_mean_86 ?_
              refine lv_iload hx hb dX4_mean_89 (lv_at hl 3 rfl) ?_
              refine tp_i (y := nI b) (by rw [hb7]; rfl) ?_
              refine lv_iconst (v := nI 0) hx hb dX4_mean_91 (by decide) ?_
              refine as_i C hP hD hS 7 mw_sh (j := b) (by omega) (by decide) (mw_sh_st _) dX4_mean_92 (fun H locs hP hD hS => ?_)
              rw [show upd (upd A1 a ((A1 a) + (A1 b))) b (nI 0) = mrg A1 a b from rfl] at hP hD
              refine lv_aload_n hx hb dX4_mean_93 rfl (lv_at hl 1 rfl) ?_
              refine fw_i C hD hS (rn_V (As := []) (rest := []) C (c_X4_leastOf D k t l _) (cwV 0 hts gX4_mean_X4_leastOf rfl rfl rfl hdX4_leastOfC ⟨Nat.le_of_ble_eq_true rfl, Nat.le_of_ble_eq_true rfl⟩) 0 4 rfl mw_o rfl hP hD hS rfl hl.1 rfl (Nat.le_of_ble_eq_true rfl) dX4_mean_94 ⟨Nat.zero_le _, Nat.zero_le _⟩) (fun r17 wr17 H locs h18 hP hD hS => ?_)
              obtain ⟨rfl, rfl⟩ := h18
              refine lv_istore (lv' := [(4, .int (oI (bO (mrg A1 a b) (-1) 27))), (3, .int (m1 + (A1 a + A1 b))), (0, .ref (bd 0)), (5, .int (oI (nx A1)))]) hx hb dX4_mean_97 hl (by decide) rfl (fun ls hl => ?_)
              refine lv_aload_n hx hb dX4_mean_99 rfl (lv_at hl 2 rfl) ?_
              refine lv_iload hx hb dX4_mean_100 (lv_at hl 0 rfl) ?_
              refine fw_i C hD hS (rn_V (As := [.int (oI (bO (mrg A1 a b) (-1) 27))]) (rest := []) C (c_X4_secondOf D k t l (oI (bO (mrg A1 a b) (-1) 27)) _) (cwV 1 hts gX4_mean_X4_secondOf rfl rfl rfl hdX4_secondOfC ⟨Nat.le_of_ble_eq_true rfl, Nat.le_of_ble_eq_true rfl⟩) 0 4 rfl mw_o rfl hP hD hS rfl hl.1 rfl (Nat.le_of_ble_eq_true rfl) dX4_mean_102 ⟨Nat.zero_le _, Nat.zero_le _⟩) (fun r19 wr19 H locs h20 hP hD hS => ?_)
              obtain ⟨rfl, rfl⟩ := h20
              refine lv_istore (lv' := [(5, .int (oI (nx (mrg A1 a b)))), (4, .int (oI (bO (mrg A1 a b) (-1) 27))), (3, .int (m1 + (A1 a + A1 b))), (0, .ref (bd 0))]) hx hb dX4_mean_105 hl (by decide) rfl (fun ls hl => ?_)
              refine lv_goto (tgt := 52) hx hb dX4_mean_107 (by decide) ?_
              exact ihL14 (mrg A1 a b) _ (mgs s1 a b) (mrg_n h1 ha2 hb2) (by rw [mgs_sm hab ha2 hb2]; exact h2) (by have := mgs_ct hab (sp_n h1 ha2 hpa) (sp_n h1 hb2 hpb) hb2; omega) (by rw [← h4, mmA, if_neg c16, ha, hb7]; rfl) _ _ _ hP hD hS (lv_sub hl [3, 2, 1, 0] rfl)
        exact L14 27 (gs (fun j => wt (27 * g + j)) z 27) (nI 0) (gsN (vv g) z 27) (fun j hj => gs_n (hW g hg).2.2.1 z 27 (Nat.le_refl _) j) (hSm g z hg hz) (hCt g z hg hz) rfl _ _ _ hP hD hS (lv_sub hl [3, 2, 1, 0] rfl)
      · refine lv_iconst (v := (-1)) hx hb dX4_mean_40 (by decide) ?_
        refine lv_goto (tgt := 50) hx hb dX4_mean_41 (by decide) ?_
        refine tp_i (y := oI (nx (gs (fun j => wt (27 * g + j)) z 27))) ((nx_none c11).symm) ?_
        refine lv_istore (lv' := [(5, .int (oI (nx (gs (fun j => wt (27 * g + j)) z 27)))), (4, .int (oI (bO (gs (fun j => wt (27 * g + j)) z 27) (-1) 27))), (3, .int (nI 0)), (0, .ref (bd 0)), (1, .int (nI g)), (2, .int (nI z))]) hx hb dX4_mean_50 hl (by decide) rfl (fun ls hl => ?_)
        have L21 : ∀ (r : Nat) (A1 : Nat → Int32) (m1 : Int32) (s1 : Nat → Nat) (h1 : ∀ j, j < 27 → A1 j = nI (s1 j)) (h2 : fb_sm s1 27 ≤ 16) (h3 : ctp s1 27 ≤ r) (h4 : mmA r A1 m1 = mmA 27 (gs (fun j => wt (27 * g + j)) z 27) (nI 0)), ∀ (H : Heap) (locs : List Loc) (ls : Array Slot), va_P D vwCl (MWw bd k st wt sm nu po A1 up lo li ro so un to it) H → va_D A (MWw bd k st wt sm nu po A1 up lo li ro so un to it) → va_S A s.heap H locs → lv_has ls 6 [(0, .ref (bd 0)), (3, .int m1), (4, .int (oI (bO A1 (-1) 27))), (5, .int (oI (nx A1)))] → W p l e ({ frames := 3, cells := 0, slots := 0, locals := 90 }) s m ([.ref (bd 0), .int (nI g), .int (nI z)] : List Value).toArray below meth c H locs 0 0 (MQ below (va_Qi (fun r w => (∃ ga za : Nat, (ga < 4 ∧ (nI g) = nI ga ∧ ¬ sm ga ≤ 0 ∧ 1 ≤ za ∧ za < 8 ∧ (nI z) = nI za) ∧ r = mmA 27 (gs (fun j => wt (27 * ga + j)) za 27) (nI 0) ∧ ∃ sh2 : Nat → Int32, w = MWw bd k st wt sm nu po sh2 up lo li ro so un to it) ∨ ((∀ ga za : Nat, ¬ (ga < 4 ∧ (nI g) = nI ga ∧ ¬ sm ga ≤ 0 ∧ 1 ≤ za ∧ za < 8 ∧ (nI z) = nI za)) ∧ r = -1 ∧ w = MWw bd k st wt sm nu po sh up lo li ro so un to it)) (BcW D A) A) ([.ref (bd 0), .int (nI g), .int (nI z)] : List Value).toArray s 0 0 A) (F0 m 52 ls []) := by
          intro r
          induction r with
          | zero =>
            intro A1 m1 s1 h1 h2 h3 h4 H locs ls hP hD hS hl
            refine lv_iload hx hb dX4_mean_52 (lv_at hl 3 rfl) ?_
            refine lv_iconst (v := (-1)) hx hb dX4_mean_54 (by decide) ?_
            refine lv_icmp_eq (tgt := 110) hx hb dX4_mean_55 (by decide) (fun c22 => ?_) (fun c22 => ?_)
            · refine lv_iload_n hx hb dX4_mean_110 rfl (lv_at hl 1 rfl) ?_
              exact Ri C hP hD hS (Nat.zero_le _) (Nat.zero_le _) dX4_mean_111 (Or.inl ⟨g, z, ⟨hg, rfl, hmg, h0z, hz, rfl⟩, by rw [← h4]; rfl, _, rfl⟩)
            · obtain ⟨a, b, ha, hb7, ha2, hb2, hab, hpa, hpb⟩ := nx_s c22
              exact absurd (ctp_pos (sp_n h1 ha2 hpa) ha2) (by omega)
          | succ r ihL21 =>
            intro A1 m1 s1 h1 h2 h3 h4 H locs ls hP hD hS hl
            refine lv_iload hx hb dX4_mean_52 (lv_at hl 3 rfl) ?_
            refine lv_iconst (v := (-1)) hx hb dX4_mean_54 (by decide) ?_
            refine lv_icmp_eq (tgt := 110) hx hb dX4_mean_55 (by decide) (fun c23 => ?_) (fun c23 => ?_)
            · refine lv_iload_n hx hb dX4_mean_110 rfl (lv_at hl 1 rfl) ?_
              exact Ri C hP hD hS (Nat.zero_le _) (Nat.zero_le _) dX4_mean_111 (Or.inl ⟨g, z, ⟨hg, rfl, hmg, h0z, hz, rfl⟩, by rw [← h4, mmA, if_pos c23], _, rfl⟩)
            · obtain ⟨a, b, ha, hb7, ha2, hb2, hab, hpa, hpb⟩ := nx_s c23
              refine lv_aload_n hx hb dX4_mean_58 rfl (lv_at hl 0 rfl) ?_
              refine fg C hP 0 mw_o (ci := 4) rfl 6 (by decide) in_X4_mean_X4 lk_X4_mean_28 (v := .ref (bd 7)) rfl dX4_mean_59 ?_
              refine lv_iload hx hb dX4_mean_62 (lv_at hl 2 rfl) ?_
              refine tp_i (y := nI a) (by rw [ha]; rfl) ?_
              refine lv_dup2_11 hx hb dX4_mean_64 rfl rfl ?_
              refine ar_i C hP 7 mw_sh (j := a) (by omega) (by decide) dX4_mean_65 ?_
              refine lv_aload_n hx hb dX4_mean_66 rfl (lv_at hl 0 rfl) ?_
              refine fg C hP 0 mw_o (ci := 4) rfl 6 (by decide) in_X4_mean_X4 lk_X4_mean_28 (v := .ref (bd 7)) rfl dX4_mean_67 ?_
              refine lv_iload hx hb dX4_mean_70 (lv_at hl 3 rfl) ?_
              refine tp_i (y := nI b) (by rw [hb7]; rfl) ?_
              refine ar_i C hP 7 mw_sh (j := b) (by omega) (by decide) dX4_mean_72 ?_
              refine lv_iadd hx hb dX4_mean_73 ?_
              refine as_i C hP hD hS 7 mw_sh (j := a) (by omega) (by decide) (mw_sh_st _) dX4_mean_74 (fun H locs hP hD hS => ?_)
              refine lv_iload_n hx hb dX4_mean_75 rfl (lv_at hl 1 rfl) ?_
              refine lv_aload_n hx hb dX4_mean_76 rfl (lv_at hl 0 rfl) ?_
              refine fg C hP 0 mw_o (ci := 4) rfl 6 (by decide) in_X4_mean_X4 lk_X4_mean_28 (v := .ref (bd 7)) rfl dX4_mean_77 ?_
              refine lv_iload hx hb dX4_mean_80 (lv_at hl 2 rfl) ?_
              refine tp_i (y := nI a) (by rw [ha]; rfl) ?_
              refine ar_i C hP 7 mw_sh (j := a) (by omega) (by decide) dX4_mean_82 ?_
              refine tp_i (y := A1 a + A1 b) (upd_at_u _ _ _) ?_
              refine lv_iadd hx hb dX4_mean_83 ?_
              refine lv_istore_n (lv' := [(3, .int (m1 + (A1 a + A1 b))), (0, .ref (bd 0)), (4, .int (oI (bO A1 (-1) 27))), (5, .int (oI (nx A1)))]) hx hb dX4_mean_84 rfl hl (by decide) rfl (fun ls hl => ?_)
              refine lv_aload_n hx hb dX4_mean_85 rfl (lv_at hl 1 rfl) ?_
              refine fg C hP 0 mw_o (ci := 4) rfl 6 (by decide) in_X4_mean_X4 lk_X4_mean_28 (v := .ref (bd 7)) rfl dX4_mean_86 ?_
              refine lv_iload hx hb dX4_mean_89 (lv_at hl 3 rfl) ?_
              refine tp_i (y := nI b) (by rw [hb7]; rfl) ?_
              refine lv_iconst (v := nI 0) hx hb dX4_mean_91 (by decide) ?_
              refine as_i C hP hD hS 7 mw_sh (j := b) (by omega) (by decide) (mw_sh_st _) dX4_mean_92 (fun H locs hP hD hS => ?_)
              rw [show upd (upd A1 a ((A1 a) + (A1 b))) b (nI 0) = mrg A1 a b from rfl] at hP hD
              refine lv_aload_n hx hb dX4_mean_93 rfl (lv_at hl 1 rfl) ?_
              refine fw_i C hD hS (rn_V (As := []) (rest := []) C (c_X4_leastOf D k t l _) (cwV 0 hts gX4_mean_X4_leastOf rfl rfl rfl hdX4_leastOfC ⟨Nat.le_of_ble_eq_true rfl, Nat.le_of_ble_eq_true rfl⟩) 0 4 rfl mw_o rfl hP hD hS rfl hl.1 rfl (Nat.le_of_ble_eq_true rfl) dX4_mean_94 ⟨Nat.zero_le _, Nat.zero_le _⟩) (fun r24 wr24 H locs h25 hP hD hS => ?_)
              obtain ⟨rfl, rfl⟩ := h25
              refine lv_istore (lv' := [(4, .int (oI (bO (mrg A1 a b) (-1) 27))), (3, .int (m1 + (A1 a + A1 b))), (0, .ref (bd 0)), (5, .int (oI (nx A1)))]) hx hb dX4_mean_97 hl (by decide) rfl (fun ls hl => ?_)
              refine lv_aload_n hx hb dX4_mean_99 rfl (lv_at hl 2 rfl) ?_
              refine lv_iload hx hb dX4_mean_100 (lv_at hl 0 rfl) ?_
              refine fw_i C hD hS (rn_V (As := [.int (oI (bO (mrg A1 a b) (-1) 27))]) (rest := []) C (c_X4_secondOf D k t l (oI (bO (mrg A1 a b) (-1) 27)) _) (cwV 1 hts gX4_mean_X4_secondOf rfl rfl rfl hdX4_secondOfC ⟨Nat.le_of_ble_eq_true rfl, Nat.le_of_ble_eq_true rfl⟩) 0 4 rfl mw_o rfl hP hD hS rfl hl.1 rfl (Nat.le_of_ble_eq_true rfl) dX4_mean_102 ⟨Nat.zero_le _, Nat.zero_le _⟩) (fun r26 wr26 H locs h27 hP hD hS => ?_)
              obtain ⟨rfl, rfl⟩ := h27
              refine lv_istore (lv' := [(5, .int (oI (nx (mrg A1 a b)))), (4, .int (oI (bO (mrg A1 a b) (-1) 27))), (3, .int (m1 + (A1 a + A1 b))), (0, .ref (bd 0))]) hx hb dX4_mean_105 hl (by decide) rfl (fun ls hl => ?_)
              refine lv_goto (tgt := 52) hx hb dX4_mean_107 (by decide) ?_
              exact ihL21 (mrg A1 a b) _ (mgs s1 a b) (mrg_n h1 ha2 hb2) (by rw [mgs_sm hab ha2 hb2]; exact h2) (by have := mgs_ct hab (sp_n h1 ha2 hpa) (sp_n h1 hb2 hpb) hb2; omega) (by rw [← h4, mmA, if_neg c23, ha, hb7]; rfl) _ _ _ hP hD hS (lv_sub hl [3, 2, 1, 0] rfl)
        exact L21 27 (gs (fun j => wt (27 * g + j)) z 27) (nI 0) (gsN (vv g) z 27) (fun j hj => gs_n (hW g hg).2.2.1 z 27 (Nat.le_refl _) j) (hSm g z hg hz) (hCt g z hg hz) rfl _ _ _ hP hD hS (lv_sub hl [3, 2, 1, 0] rfl)
    · have c6 := pb_z c6
      refine lv_iconst (v := (-1)) hx hb dX4_mean_18 (by decide) ?_
      exact Ri C hP hD hS (Nat.zero_le _) (Nat.zero_le _) dX4_mean_19 (Or.inr ⟨fun _ z q => c6 ⟨z, q.2.2.2.1, q.2.2.2.2.1, q.2.2.2.2.2⟩, rfl, rfl⟩)

