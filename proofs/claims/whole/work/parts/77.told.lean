/-! the two sides' answers and what they leave: weights -/
theorem vu_at {α : Type} (f : Nat → α) (k : Nat) (v : α) : va_up f k v k = v := if_pos rfl
theorem nI_tn {n : Nat} (h : n < 2 ^ 31) : (nI n).toNatClampNeg = n := by
  unfold nI
  exact Int32.toNatClampNeg_ofNat_of_lt h
theorem nI_sub' {a b : Nat} (h : b ≤ a) : nI a - nI b = nI (a - b) := by
  rw [nz, nz, nz, zI_sub, Int.ofNat_sub h]
theorem nI_16 {n : Nat} (h : n < 2 ^ 31) (q : nI n ≤ 16) : n ≤ 16 := by
  rcases Nat.lt_or_ge 16 n with g | g
  · exact absurd q (Int32.not_le.mpr (show nI 16 < nI n from nI_lt g h))
  · exact g
theorem told_eq {N : Nat → Int32} {S Wt L : Nat → Nat → Int32} {sh : Nat → Int32} {pv : Int32} {st wt sm nu : Nat → Int32} {to : Nat → Int64} {it : Int32} {nn : Nat → Nat} {vv : Nat → Nat → Nat} {qq : Nat → Nat → Int} (h : Rel N S Wt L sh pv st wt sm nu to it nn vv qq) {g : Nat} (hg : g < 4) (x : Int32) : f_told (N g) (S g) (Wt g) x = m_told st wt sm g x := by
  obtain ⟨Z, hZ⟩ : ∃ Z, Z = (if x = nI 4 then N g else if x < nI 10 then -1 else f_wofx (S g) (Wt g) (x - nI 10)) := ⟨_, rfl⟩
  unfold f_told m_told
  rw [← hZ]
  by_cases q0 : x = 0
  · rw [if_pos q0, if_pos q0, Rel_N h hg]
  rw [if_neg q0, if_neg q0]
  by_cases q1 : RG 1 4 x
  · rw [if_pos q1]
    obtain ⟨n, n1, n2, rfl⟩ := q1
    rw [if_neg (nI_nlt n1 (by omega)), if_neg (nI_nlt (by omega) (by omega)), nI_tn (by omega), Rel_S h hg (by omega)]
    congr 1
    omega
  rw [if_neg q1]
  have e : (if x < nI 1 then Z else if nI 3 < x then Z else S g (x.toNatClampNeg - 1)) = Z := by
    by_cases a : x < nI 1
    · rw [if_pos a]
    · by_cases b : nI 3 < x
      · rw [if_neg a, if_pos b]
      · exact absurd (rg_in' (by decide) (by decide) a b) q1
  rw [e, hZ]
  by_cases q4 : x = nI 4
  · rw [if_pos q4, if_pos q4, Rel_N h hg]
  rw [if_neg q4, if_neg q4]
  by_cases q5 : RG 10 37 x
  · rw [if_pos q5]
    obtain ⟨n, n1, n2, rfl⟩ := q5
    rw [if_neg (nI_nlt n1 (by omega)), nI_sub' n1, nI_tn (by omega)]
    unfold f_wofx
    rw [if_neg (nI_pos (by omega)), if_pos (nI_lt (by omega) (by decide)), nI_tn (by omega)]
    unfold f_wof
    rw [hasS_pb]
    have hiff : HSM st (nI g) (nI ((n - 10) % 3)) (nI ((n - 10) / 3 % 3)) (nI ((n - 10) / 9)) ↔ HS (S g) (nI ((n - 10) % 3)) (nI ((n - 10) / 3 % 3)) (nI ((n - 10) / 9)) := by
      rw [Rel_HS h hg]
      constructor
      · rintro ⟨g', h1, h2, h3⟩
        rw [nI_inj (by omega) (by omega) h2]; exact h3
      · intro h3; exact ⟨g, hg, rfl, h3⟩
    by_cases q6 : HS (S g) (nI ((n - 10) % 3)) (nI ((n - 10) / 3 % 3)) (nI ((n - 10) / 9))
    · rw [if_pos (hiff.mpr q6), if_neg (fun c => pb_z c q6), Rel_W h hg (by omega)]
    · rw [if_neg (fun c => q6 (hiff.mp c)), if_pos (by rw [pb_f q6]; rfl)]
  · rw [if_neg q5]
    by_cases a : x < nI 10
    · rw [if_pos a]
    · rw [if_neg a]
      have h0 : ¬ x < 0 := fun q => a (Int32.lt_of_lt_of_le q (nI_pos' (by decide)))
      obtain ⟨m, hm, rfl⟩ := nI_of h0
      have h10 : 10 ≤ m := Nat.not_lt.mp fun q => a (nI_lt q (by decide))
      have h37 : 37 ≤ m := Nat.not_lt.mp fun q => q5 ⟨m, h10, q, rfl⟩
      rw [nI_sub' h10]
      unfold f_wofx
      rw [if_neg (nI_pos (by omega)), if_neg (nI_nlt (by omega) (by omega))]
/-- tell, place by place -/
theorem spr_at (f : Nat → Int32) (d : Nat) {j : Nat} (hj : j < 27) : ∀ n, n ≤ 9 → spr f d n j = if j % 9 < n ∧ j / 9 = d / 3 ^ (j % 9) % 3 then f (j % 9) else 0
  | 0, _ => by rw [spr, if_neg (by omega)]
  | n + 1, hn => by
    rw [spr, spr_at f d hj n (by omega)]
    have h3 : d / 3 ^ n % 3 < 3 := Nat.mod_lt _ (by decide)
    by_cases q : j = n + 9 * (d / 3 ^ n % 3)
    · have e : j % 9 = n := by omega
      rw [if_pos q, e, if_pos (by omega)]
    · rw [if_neg q]
      by_cases e : j % 9 = n
      · rw [e, if_neg (by omega), if_neg (by omega)]
      · by_cases c : j % 9 < n ∧ j / 9 = d / 3 ^ (j % 9) % 3
        · rw [if_pos c, if_pos (by omega)]
        · rw [if_neg c, if_neg (by omega)]
theorem tli_o (w : Nat → Int32) (b c : Nat) (n : Int32) {x : Nat} : ∀ h, (∀ q, q < h → x ≠ b + 9 * q) → tli w b c n h x = w x
  | 0, _ => rfl
  | h + 1, hx => by rw [tli, upd_no _ _ (hx h (by omega)), tli_o w b c n h (fun q hq => hx q (by omega))]
theorem tli_i (w : Nat → Int32) (b c : Nat) (n : Int32) {q : Nat} : ∀ h, q < h → tli w b c n h (b + 9 * q) = tv q c n
  | 0, hq => absurd hq (Nat.not_lt_zero _)
  | h + 1, hq => by
    rw [tli]
    by_cases e : q = h
    · rw [e, upd_at]
    · rw [upd_no _ _ (by omega), tli_i w b c n h (by omega)]
theorem tl_out (w : Nat → Int32) (g d : Nat) {x : Nat} (hx : x < 27 * g ∨ 27 * g + 27 ≤ x) : ∀ n, n ≤ 9 → tl w g d n x = w x
  | 0, _ => rfl
  | n + 1, hn => by rw [tl, tli_o _ _ _ _ _ (fun q hq => by omega), tl_out w g d hx n (by omega)]
theorem tl_at (w : Nat → Int32) (g d : Nat) : ∀ n, n ≤ 9 → ∀ j, j < 27 → tl w g d n (27 * g + j) = if j % 9 < n then tv (j / 9) (d / 3 ^ (j % 9) % 3) (tl3 w g (j % 9)) else w (27 * g + j)
  | 0, _, j, _ => by rw [tl, if_neg (by omega)]
  | n + 1, hn, j, hj => by
    have ih := tl_at w g d n (by omega)
    rw [tl]
    by_cases e : j % 9 = n
    · have e2 : 27 * g + j = 27 * g + n + 9 * (j / 9) := by omega
      rw [e, if_pos (by omega), e2, tli_i _ _ _ _ _ (by omega)]
      congr 1
      unfold tl3
      rw [ih n (by omega), if_neg (by omega), Nat.add_assoc (27 * g) 9 n, Nat.add_assoc (27 * g) 18 n, ih (9 + n) (by omega), if_neg (by omega), ih (18 + n) (by omega), if_neg (by omega)]
    · rw [tli_o _ _ _ _ _ (fun q hq => by omega), ih j hj]
      by_cases c : j % 9 < n
      · rw [if_pos c, if_pos (by omega)]
      · rw [if_neg c, if_neg (by omega)]
theorem gi3 : ∀ i, i < 27 → gi 3 i = i % 9 := by decide +kernel
theorem gsN3 (v : Nat → Nat) {j : Nat} (hj : j < 9) : gsN v 3 27 j = v j + v (9 + j) + v (18 + j) := by
  have h : ∀ i, i ≤ 27 → gsN v 3 i j = (if j < i then v j else 0) + (if 9 + j < i then v (9 + j) else 0) + (if 18 + j < i then v (18 + j) else 0) := by
    intro i
    induction i with
    | zero => intro _; rw [gsN]; simp
    | succ i ih =>
      intro hi
      rw [gsN, gi3 i (by omega), ih (by omega)]
      by_cases c : j = i % 9
      · rw [if_pos c]
        have hc : i = j ∨ i = 9 + j ∨ i = 18 + j := by omega
        rcases hc with e | e | e
        · subst e; rw [if_neg (by omega), if_neg (by omega), if_neg (by omega), if_pos (by omega), if_neg (by omega), if_neg (by omega)]; omega
        · subst e; rw [if_pos (by omega), if_neg (by omega), if_neg (by omega), if_pos (by omega), if_pos (by omega), if_neg (by omega)]; omega
        · subst e; rw [if_pos (by omega), if_pos (by omega), if_neg (by omega), if_pos (by omega), if_pos (by omega), if_pos (by omega)]; omega
      · rw [if_neg c]
        have h1 : (j < i + 1) ↔ (j < i) := by omega
        have h2 : (9 + j < i + 1) ↔ (9 + j < i) := by omega
        have h3 : (18 + j < i + 1) ↔ (18 + j < i) := by omega
        simp only [h1, h2, h3]
  rw [h 27 (Nat.le_refl _), if_pos (by omega), if_pos (by omega), if_pos (by omega)]
/-- the weights after tell -/
def tlv (v : Nat → Nat) (d j : Nat) : Nat := if j / 9 = d / 3 ^ (j % 9) % 3 then v (j % 9) + v (9 + j % 9) + v (18 + j % 9) else 0
theorem tlv_3 (v : Nat → Nat) (d : Nat) {i : Nat} (hi : i < 9) : tlv v d i + tlv v d (9 + i) + tlv v d (18 + i) = v i + v (9 + i) + v (18 + i) := by
  unfold tlv
  have h3 : d / 3 ^ i % 3 < 3 := Nat.mod_lt _ (by decide)
  rw [show i % 9 = i by omega, show (9 + i) % 9 = i by omega, show (18 + i) % 9 = i by omega, show i / 9 = 0 by omega, show (9 + i) / 9 = 1 by omega, show (18 + i) / 9 = 2 by omega]
  have hc : d / 3 ^ i % 3 = 0 ∨ d / 3 ^ i % 3 = 1 ∨ d / 3 ^ i % 3 = 2 := by omega
  rcases hc with e | e | e <;> rw [e] <;> simp
theorem sm27 (v : Nat → Nat) : fb_sm v 27 = (v 0 + v (9 + 0) + v (18 + 0)) + (v 1 + v (9 + 1) + v (18 + 1)) + (v 2 + v (9 + 2) + v (18 + 2)) + (v 3 + v (9 + 3) + v (18 + 3)) + (v 4 + v (9 + 4) + v (18 + 4)) + (v 5 + v (9 + 5) + v (18 + 5)) + (v 6 + v (9 + 6) + v (18 + 6)) + (v 7 + v (9 + 7) + v (18 + 7)) + (v 8 + v (9 + 8) + v (18 + 8)) := by
  simp only [fb_sm]
  simp only [Nat.reduceAdd]
  omega
theorem tlv_sm (v : Nat → Nat) (d : Nat) : fb_sm (tlv v d) 27 = fb_sm v 27 := by
  rw [sm27, sm27 v, tlv_3 v d (i := 0) (by omega), tlv_3 v d (i := 1) (by omega), tlv_3 v d (i := 2) (by omega), tlv_3 v d (i := 3) (by omega), tlv_3 v d (i := 4) (by omega), tlv_3 v d (i := 5) (by omega), tlv_3 v d (i := 6) (by omega), tlv_3 v d (i := 7) (by omega), tlv_3 v d (i := 8) (by omega)]
theorem spr_n {f : Nat → Int32} {v : Nat → Nat} (hf : ∀ j, j < 27 → f j = nI (v j)) (d : Nat) {j : Nat} (hj : j < 27) : spr (gs f 3 27) d 9 j = nI (tlv v d j) := by
  rw [spr_at _ _ hj 9 (Nat.le_refl _)]
  unfold tlv
  by_cases c : j / 9 = d / 3 ^ (j % 9) % 3
  · rw [if_pos ⟨by omega, c⟩, if_pos c, gs_n hf 3 27 (Nat.le_refl _), gsN3 v (by omega)]
  · rw [if_neg (fun q => c q.2), if_neg c]; rfl
theorem tl_n {w : Nat → Int32} {v : Nat → Nat} {g : Nat} (hf : ∀ j, j < 27 → w (27 * g + j) = nI (v j)) (d : Nat) {j : Nat} (hj : j < 27) : tl w g d 9 (27 * g + j) = nI (tlv v d j) := by
  rw [tl_at w g d 9 (Nat.le_refl _) j hj, if_pos (by omega)]
  unfold tv tlv tl3
  by_cases c : j / 9 = d / 3 ^ (j % 9) % 3
  · rw [if_pos c, if_pos c, Nat.add_assoc (27 * g) 9, Nat.add_assoc (27 * g) 18, hf _ (by omega), hf _ (by omega), hf _ (by omega), nI_add, nI_add]
  · rw [if_neg c, if_neg c]
theorem sm_add (f g : Nat → Nat) : ∀ n, fb_sm (fun j => f j + g j) n = fb_sm f n + fb_sm g n
  | 0 => rfl
  | n + 1 => by rw [fb_sm_succ, fb_sm_succ, fb_sm_succ, sm_add f g n]; omega
theorem sm_0 : ∀ n, fb_sm (fun _ => 0) n = 0
  | 0 => rfl
  | n + 1 => by rw [fb_sm_succ, sm_0 n]
