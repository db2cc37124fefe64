/-! the elimination over whole numbers, apart from the law's own -/
def ent (m : List (List Int)) (r k : Nat) : Int := (m.getD r []).getD k 0
def rwl (f : Nat → Int) : List Int := (List.range 14).map f
def g7 (f : Nat → Int) : Nat → Nat
  | 0 => 0
  | k + 1 => Nat.gcd (g7 f k) (f k).natAbs
def nwf (m : List (List Int)) (r c k : Nat) : Int := ent m c c * ent m r k - ent m r c * ent m c k
def nwr (m : List (List Int)) (r c : Nat) : List Int := rwl (fun k => (nwf m r c k).tdiv (g7 (nwf m r c) 7 : Int))
def elS (m : List (List Int)) (c : Nat) : Nat → List (List Int)
  | 0 => m
  | r + 1 => if r = c ∨ ent (elS m c r) r c = 0 then elS m c r else (elS m c r).set r (nwr (elS m c r) r c)
def pvS (m : List (List Int)) (c : Nat) : Nat → Nat → Nat
  | 0, f => f
  | r + 1, f => if ent m f c = 0 then pvS m c r (f + 1) else f
def swS (m : List (List Int)) (c f : Nat) : List (List Int) := (m.set c (m.getD f [])).set f (m.getD c [])
def slS (m : List (List Int)) : Nat → Option (List (List Int))
  | 0 => some m
  | c + 1 => match slS m c with
    | none => none
    | some y => if pvS y c (7 - c) c < 7 then some (elS (swS y c (pvS y c (7 - c) c)) c 7) else none
def all14 (f : Nat → Bool) : Bool := (List.range 14).all f
def bnd (v : Int) : Bool := decide (v.natAbs ≤ 1048576)
def okR (m : List (List Int)) (r c : Nat) : Bool := (decide (g7 (nwf m r c) 7 = 0) || all14 (fun k => decide ((nwf m r c k).natAbs % g7 (nwf m r c) 7 = 0))) && all14 (fun k => bnd ((nwf m r c k).tdiv (g7 (nwf m r c) 7 : Int)))
def okE (m : List (List Int)) (c : Nat) : Nat → Bool
  | 0 => true
  | r + 1 => okE m c r && (decide (r = c ∨ ent (elS m c r) r c = 0) || okR (elS m c r) r c)
def okS (m : List (List Int)) : Nat → Bool
  | 0 => true
  | c + 1 => okS m c && match slS m c with
    | none => true
    | some y => decide (7 ≤ pvS y c (7 - c) c) || okE (swS y c (pvS y c (7 - c) c)) c 7
def qn (i j c : Nat) : Nat := if c < i then c else if c + 1 < j then c + 1 else c + 2
def mm0 (i j : Nat) : List (List Int) := (List.range 7).map (fun w => rwl (fun k => if k < 7 then (plr (qn i j k) (w + 1)).toInt else if k = 7 + w then 1 else 0))
theorem rwl_at (f : Nat → Int) {k : Nat} (h : k < 14) : (rwl f).getD k 0 = f k := by
  unfold rwl
  rw [List.getD_eq_getElem?_getD, List.getElem?_map, List.getElem?_range h]; rfl
theorem ent_set {m : List (List Int)} {r : Nat} (row : List Int) (h : r < m.length) (k : Nat) : ent (m.set r row) r k = row.getD k 0 := by
  unfold ent
  rw [List.getD_eq_getElem?_getD (l := m.set r row), List.getElem?_set_self h]; rfl
theorem ent_set_ne {m : List (List Int)} {r q : Nat} (row : List Int) (h : r ≠ q) (k : Nat) : ent (m.set r row) q k = ent m q k := by
  unfold ent
  rw [List.getD_eq_getElem?_getD (l := m.set r row), List.getElem?_set_ne h, ← List.getD_eq_getElem?_getD]
theorem all14_sp {f : Nat → Bool} (h : all14 f = true) {k : Nat} (hk : k < 14) : f k = true := by
  unfold all14 at h
  exact List.all_eq_true.mp h k (List.mem_range.mpr hk)
/-- a linear form in the law's numbers -/
def dt (n : Nat → Int) (f : Nat → Int) : Nat → Int
  | 0 => 0
  | k + 1 => dt n f k + f (7 + k) * n (k + 1)
theorem dt_cong {n f g : Nat → Int} : ∀ {i : Nat}, (∀ k, k < i → f (7 + k) = g (7 + k)) → dt n f i = dt n g i
  | 0, _ => rfl
  | i + 1, h => by rw [dt, dt, dt_cong (fun k hk => h k (by omega)), h i (by omega)]
theorem dt_lin (n f g : Nat → Int) (p q : Int) : ∀ i, p * dt n f i - q * dt n g i = dt n (fun k => p * f k - q * g k) i
  | 0 => by rw [dt, dt, dt, Int.mul_zero, Int.mul_zero]; rfl
  | i + 1 => by
    rw [dt, dt, dt, ← dt_lin n f g p q i, Int.mul_add, Int.mul_add, Int.sub_mul, Int.mul_assoc, Int.mul_assoc]; omega
theorem dt_div {n f : Nat → Int} {d : Int} : ∀ {i : Nat}, (∀ k, k < i → d ∣ f (7 + k)) → d * dt n (fun k => (f k).tdiv d) i = dt n f i
  | 0, _ => by rw [dt, dt, Int.mul_zero]
  | i + 1, h => by
    rw [dt, dt, Int.mul_add, dt_div (fun k hk => h k (by omega)), ← Int.mul_assoc, Int.mul_tdiv_cancel' (h i (by omega))]
theorem dt_b {n f : Nat → Int} (hn : ∀ z, z < 8 → -2 ≤ n z ∧ n z ≤ 2) : ∀ i, i ≤ 7 → (∀ k, k < i → (f (7 + k)).natAbs ≤ 1048576) → (dt n f i).natAbs ≤ i * 2097152
  | 0, _, _ => Nat.zero_le _
  | i + 1, hi, h => by
    have h1 := dt_b hn i (by omega) (fun k hk => h k (by omega))
    have h2 := h i (by omega)
    have h3 := hn (i + 1) (by omega)
    have h4 : (n (i + 1)).natAbs ≤ 2 := by omega
    have h5 : (f (7 + i) * n (i + 1)).natAbs ≤ 1048576 * 2 := by rw [Int.natAbs_mul]; exact Nat.mul_le_mul h2 h4
    rw [dt]
    have h6 := Int.natAbs_add_le (dt n f i) (f (7 + i) * n (i + 1))
    omega
/-- what the machine's rows hold: the whole numbers of m, and at the end the form in the law's numbers, where the row is not all nought -/
def RZ (n y : Nat → Int) (m : List (List Int)) : Prop := m.length = 7 ∧ ∀ r, r < 7 → (∀ k, k < 7 → y (8 * r + k) = ent m r k) ∧ (∀ k, k < 14 → (ent m r k).natAbs ≤ 1048576) ∧ (y (8 * r + 7)).natAbs ≤ 14680064 ∧ ((∀ k, k < 7 → ent m r k = 0) ∨ y (8 * r + 7) = dt n (ent m r) 7)
theorem RZ_b {n y : Nat → Int} {m : List (List Int)} (h : RZ n y m) : ∀ j, j < 56 → (y j).natAbs < 2 ^ 30 := by
  intro j hj
  obtain ⟨h1, h2, h3, -⟩ := h.2 (j / 8) (by omega)
  have e : j = 8 * (j / 8) + j % 8 := by omega
  rcases Nat.lt_or_ge (j % 8) 7 with q | q
  · have h4 := h1 (j % 8) q
    have h5 := h2 (j % 8) (by omega)
    rw [← e] at h4
    rw [h4]
    omega
  · rw [show j % 8 = 7 by omega] at e
    rw [← e] at h3
    omega
theorem g7_dvd {f : Nat → Int} : ∀ {n q : Nat}, q < n → g7 f n ∣ (f q).natAbs
  | 0, q, h => absurd h (Nat.not_lt_zero _)
  | n + 1, q, h => by
    rw [g7]
    by_cases e : q = n
    · rw [e]; exact Nat.gcd_dvd_right _ _
    · exact Nat.dvd_trans (Nat.gcd_dvd_left _ _) (g7_dvd (by omega))
theorem tkd_g7 {z : Nat → Int} {r c : Nat} {f : Nat → Int} : ∀ {n : Nat}, (∀ k, k < n → nv z r c k = f k) → tkd z r c n = g7 f n
  | 0, _ => rfl
  | n + 1, h => by rw [tkd, g7, tkd_g7 (fun k hk => h k (by omega)), h n (by omega)]
theorem tkZ_o {z : Nat → Int} {r c j : Nat} (h : j < 8 * r ∨ 8 * r + 8 ≤ j) : tkZ z r c j = z j := by
  unfold tkZ tk2
  rw [if_neg (by omega), tk1_o (by omega)]
theorem tkZ_i {z : Nat → Int} {r c k : Nat} (h : k < 8) : tkZ z r c (8 * r + k) = (nv z r c k).tdiv (tkd z r c 8 : Int) := by
  unfold tkZ tk2
  rw [if_pos (by omega), tk1_i h]
theorem RZ_tk {n y : Nat → Int} {m : List (List Int)} {r c : Nat} (hn : ∀ z, z < 8 → -2 ≤ n z ∧ n z ≤ 2) (h : RZ n y m) (hr : r < 7) (hc : c < 7) (hrc : r ≠ c) (hp : ent m c c ≠ 0) (hq : ent m r c ≠ 0) (hok : okR m r c = true) : RZ n (tkZ y r c) (m.set r (nwr m r c)) := by
  obtain ⟨hlen, hR⟩ := h
  unfold okR at hok
  rw [Bool.and_eq_true, Bool.or_eq_true, decide_eq_true_eq] at hok
  obtain ⟨hdv, hbd⟩ := hok
  obtain ⟨r1, r2, r3, r4⟩ := hR r hr
  obtain ⟨c1, c2, c3, c4⟩ := hR c hc
  have r5 := r4.resolve_left (fun q => hq (q c hc))
  have c5 := c4.resolve_left (fun q => hp (q c hc))
  have hnv : ∀ k, k < 7 → nv y r c k = nwf m r c k := fun k hk => by
    unfold nv nwf; rw [c1 c hc, r1 k hk, r1 c hc, c1 k hk]
  have hn7 : nv y r c 7 = dt n (nwf m r c) 7 := by
    unfold nv; rw [c1 c hc, r1 c hc, r5, c5, dt_lin]; rfl
  obtain ⟨g, hg⟩ : ∃ g, g = g7 (nwf m r c) 7 := ⟨_, rfl⟩
  have ht7 : tkd y r c 7 = g := by rw [hg]; exact tkd_g7 hnv
  have ht8 : tkd y r c 8 = Nat.gcd g (nv y r c 7).natAbs := by rw [show (8 : Nat) = 7 + 1 from rfl, tkd, ht7]
  refine ⟨by rw [List.length_set]; exact hlen, fun q hq7 => ?_⟩
  by_cases e : r = q
  · subst e
    have hent : ∀ k, k < 14 → ent (m.set r (nwr m r c)) r k = (nwf m r c k).tdiv (g : Int) := fun k hk => by
      rw [ent_set _ (by omega)]; unfold nwr; rw [rwl_at _ hk, hg]
    have hb14 : ∀ k, k < 14 → ((nwf m r c k).tdiv (g : Int)).natAbs ≤ 1048576 := fun k hk => by
      have := all14_sp hbd hk
      unfold bnd at this
      rw [hg]
      exact of_decide_eq_true this
    by_cases g0 : g = 0
    · have hz : ∀ k, k < 7 → nwf m r c k = 0 := fun k hk => by
        have h1 := g7_dvd (f := nwf m r c) hk
        rw [← hg, g0] at h1
        have h2 := Nat.eq_zero_of_zero_dvd h1
        omega
      refine ⟨fun k hk => ?_, fun k hk => by rw [hent k hk]; exact hb14 k hk, ?_, Or.inl (fun k hk => ?_)⟩
      · rw [tkZ_i (by omega), hnv k hk, hent k (by omega), hz k hk, Int.zero_tdiv, Int.zero_tdiv]
      · rw [tkZ_i (by omega), ht8, g0, Nat.gcd_zero_left]
        have h1 : ((nv y r c 7).tdiv ((nv y r c 7).natAbs : Int)).natAbs ≤ 1 := by
          rw [Int.natAbs_tdiv, Int.natAbs_natCast]
          rcases Nat.eq_zero_or_pos (nv y r c 7).natAbs with q | q
          · rw [q]; decide
          · show (nv y r c 7).natAbs / (nv y r c 7).natAbs ≤ 1
            rw [Nat.div_self q]; decide
        omega
      · rw [hent k (by omega), hz k hk, Int.zero_tdiv]
    · have hd := hdv.resolve_left (by rw [← hg]; exact g0)
      have hdd : ∀ k, k < 14 → (g : Int) ∣ nwf m r c k := fun k hk => by
        have h1 := of_decide_eq_true (all14_sp hd hk)
        rw [← hg] at h1
        exact Int.ofNat_dvd_left.mpr (Nat.dvd_of_mod_eq_zero h1)
      have hV := dt_div (n := n) (f := nwf m r c) (d := (g : Int)) (i := 7) (fun k hk => hdd (7 + k) (by omega))
      have hgV : g ∣ (nv y r c 7).natAbs := by
        rw [hn7, ← hV, Int.natAbs_mul, Int.natAbs_natCast]; exact Nat.dvd_mul_right _ _
      have ht : tkd y r c 8 = g := by rw [ht8]; exact Nat.gcd_eq_left hgV
      have h7 : tkZ y r c (8 * r + 7) = dt n (ent (m.set r (nwr m r c)) r) 7 := by
        rw [tkZ_i (by omega), ht, hn7, ← hV, Int.mul_tdiv_cancel_left _ (by omega)]
        exact dt_cong (fun k hk => (hent (7 + k) (by omega)).symm)
      refine ⟨fun k hk => ?_, fun k hk => by rw [hent k hk]; exact hb14 k hk, ?_, Or.inr h7⟩
      · rw [tkZ_i (by omega), hnv k hk, hent k (by omega), ht]
      · rw [h7]
        have := dt_b hn 7 (Nat.le_refl _) (f := ent (m.set r (nwr m r c)) r) (fun k hk => by rw [hent (7 + k) (by omega)]; exact hb14 (7 + k) (by omega))
        omega
  · obtain ⟨q1, q2, q3, q4⟩ := hR q hq7
    have he : ∀ k, ent (m.set r (nwr m r c)) q k = ent m q k := fun k => ent_set_ne _ e k
    refine ⟨fun k hk => ?_, fun k hk => by rw [he]; exact q2 k hk, ?_, ?_⟩
    · rw [he, tkZ_o (by omega)]; exact q1 k hk
    · rw [tkZ_o (by omega)]; exact q3
    · rcases q4 with q4 | q4
      · exact Or.inl (fun k hk => by rw [he]; exact q4 k hk)
      · refine Or.inr ?_
        rw [tkZ_o (by omega), q4]
        exact dt_cong (fun k _ => (he _).symm)
theorem RZ_el {n y : Nat → Int} {m : List (List Int)} {c : Nat} (hn : ∀ z, z < 8 → -2 ≤ n z ∧ n z ≤ 2) (h : RZ n y m) (hc : c < 7) (hp : ent m c c ≠ 0) : ∀ r, r ≤ 7 → okE m c r = true → RZ n (el y c r) (elS m c r) ∧ ent (elS m c r) c c = ent m c c
  | 0, _, _ => ⟨h, rfl⟩
  | r + 1, hr, hok => by
    rw [okE, Bool.and_eq_true, Bool.or_eq_true, decide_eq_true_eq] at hok
    obtain ⟨i1, i2⟩ := RZ_el hn h hc hp r (by omega) hok.1
    have e1 := (i1.2 r (by omega)).1 c hc
    rw [el, elS, e1]
    by_cases q : r = c ∨ ent (elS m c r) r c = 0
    · rw [if_pos q, if_pos q]; exact ⟨i1, i2⟩
    · rw [if_neg q, if_neg q]
      refine ⟨RZ_tk hn i1 (by omega) hc (fun c => q (Or.inl c)) (by rw [i2]; exact hp) (fun c => q (Or.inr c)) (hok.2.resolve_left q), ?_⟩
      rw [ent_set_ne _ (fun c => q (Or.inl c))]; exact i2
theorem RZ_pv {n y : Nat → Int} {m : List (List Int)} {c : Nat} (h : RZ n y m) (hc : c < 7) : ∀ r f, f + r ≤ 7 → pvt y c r f = pvS m c r f
  | 0, f, _ => rfl
  | r + 1, f, hf => by rw [pvt, pvS, (h.2 f (by omega)).1 c hc, RZ_pv h hc r (f + 1) (by omega)]
theorem pvS_sp {m : List (List Int)} {c : Nat} : ∀ {r f : Nat}, pvS m c r f < f + r → f ≤ pvS m c r f ∧ ent m (pvS m c r f) c ≠ 0
  | 0, f, h => by rw [pvS] at h; omega
  | r + 1, f, h => by
    rw [pvS] at h ⊢
    by_cases q : ent m f c = 0
    · rw [if_pos q] at h ⊢
      have := pvS_sp (m := m) (c := c) (r := r) (f := f + 1) (by omega)
      exact ⟨by omega, this.2⟩
    · rw [if_neg q]; exact ⟨Nat.le_refl _, q⟩
theorem swS_len (m : List (List Int)) (c f : Nat) : (swS m c f).length = m.length := by unfold swS; rw [List.length_set, List.length_set]
theorem swS_f {m : List (List Int)} {c f : Nat} (hf : f < m.length) (k : Nat) : ent (swS m c f) f k = ent m c k := by
  unfold swS; rw [ent_set _ (by rw [List.length_set]; exact hf)]; rfl
theorem swS_c {m : List (List Int)} {c f : Nat} (hc : c < m.length) (k : Nat) : ent (swS m c f) c k = ent m f k := by
  by_cases q : f = c
  · subst q; rw [swS_f hc]
  · unfold swS; rw [ent_set_ne _ q, ent_set _ hc]; rfl
theorem swS_o {m : List (List Int)} {c f q : Nat} (h1 : c ≠ q) (h2 : f ≠ q) (k : Nat) : ent (swS m c f) q k = ent m q k := by
  unfold swS; rw [ent_set_ne _ h2, ent_set_ne _ h1]
theorem sw_at {z : Nat → Int} {c f k : Nat} (hk : k < 8) : sw z c f 8 (8 * c + k) = z (8 * f + k) := by
  unfold sw; rw [if_pos (by omega)]; congr 1; omega
theorem sw_at2 {z : Nat → Int} {c f k : Nat} (hk : k < 8) : sw z c f 8 (8 * f + k) = z (8 * c + k) := by
  unfold sw
  by_cases q : c = f
  · subst q; rw [if_pos (by omega)]; congr 1; omega
  · rw [if_neg (by omega), if_pos (by omega)]; congr 1; omega
theorem sw_out {z : Nat → Int} {c f q k : Nat} (h1 : c ≠ q) (h2 : f ≠ q) (hk : k < 8) : sw z c f 8 (8 * q + k) = z (8 * q + k) := by
  unfold sw; rw [if_neg (by omega), if_neg (by omega)]
theorem RZ_sw {n y : Nat → Int} {m : List (List Int)} {c f : Nat} (h : RZ n y m) (hc : c < 7) (hf : f < 7) : RZ n (sw y c f 8) (swS m c f) := by
  obtain ⟨hlen, hR⟩ := h
  refine ⟨by rw [swS_len]; exact hlen, fun q hq => ?_⟩
  have key : ∀ u, u < 7 → (∀ k, k < 8 → sw y c f 8 (8 * q + k) = y (8 * u + k)) → (∀ k, ent (swS m c f) q k = ent m u k) → _ := fun u hu a b => (show (∀ k, k < 7 → sw y c f 8 (8 * q + k) = ent (swS m c f) q k) ∧ (∀ k, k < 14 → (ent (swS m c f) q k).natAbs ≤ 1048576) ∧ (sw y c f 8 (8 * q + 7)).natAbs ≤ 14680064 ∧ ((∀ k, k < 7 → ent (swS m c f) q k = 0) ∨ sw y c f 8 (8 * q + 7) = dt n (ent (swS m c f) q) 7) from by
    obtain ⟨q1, q2, q3, q4⟩ := hR u hu
    refine ⟨fun k hk => by rw [a k (by omega), b]; exact q1 k hk, fun k hk => by rw [b]; exact q2 k hk, by rw [a 7 (by omega)]; exact q3, ?_⟩
    rcases q4 with q4 | q4
    · exact Or.inl (fun k hk => by rw [b]; exact q4 k hk)
    · exact Or.inr (by rw [a 7 (by omega), q4]; exact dt_cong (fun k _ => (b _).symm)))
  by_cases e1 : f = q
  · subst e1
    exact key c hc (fun k hk => sw_at2 hk) (fun k => swS_f (by omega) k)
  · by_cases e2 : c = q
    · subst e2
      exact key f hf (fun k hk => sw_at hk) (fun k => swS_c (by omega) k)
    · exact key q hq (fun k hk => sw_out e2 e1 hk) (fun k => swS_o e2 e1 k)
theorem okE_mono {m : List (List Int)} {c : Nat} : ∀ {r q : Nat}, q ≤ r → okE m c r = true → okE m c q = true
  | 0, q, h, _ => by rw [show q = 0 by omega]; rfl
  | r + 1, q, h, ok => by
    rcases Nat.lt_or_ge r q with e | e
    · rw [show q = r + 1 by omega]; exact ok
    · rw [okE, Bool.and_eq_true] at ok; exact okE_mono e ok.1
theorem RZ_step {n y : Nat → Int} {m : List (List Int)} {c : Nat} (hn : ∀ z, z < 8 → -2 ≤ n z ∧ n z ≤ 2) (h : RZ n y m) (hc : c < 7) (hp : pvS m c (7 - c) c < 7) (ok : okE (swS m c (pvS m c (7 - c) c)) c 7 = true) : ∀ q, q ≤ 7 → RZ n (el (sw y c (pvS m c (7 - c) c) 8) c q) (elS (swS m c (pvS m c (7 - c) c)) c q) := by
  intro q hq
  have h1 := pvS_sp (m := m) (c := c) (r := 7 - c) (f := c) (by omega)
  exact (RZ_el hn (RZ_sw h hc hp) hc (by rw [swS_c (by rw [h.1]; exact hc)]; exact h1.2) q hq (okE_mono hq ok)).1
theorem RZ_sl {n z : Nat → Int} {m : List (List Int)} (hn : ∀ z, z < 8 → -2 ≤ n z ∧ n z ≤ 2) (h : RZ n z m) : ∀ k, k ≤ 7 → okS m k = true → (slS m k = none ∧ sl z k = none) ∨ ∃ y mm, slS m k = some mm ∧ sl z k = some y ∧ RZ n y mm
  | 0, _, _ => Or.inr ⟨z, m, rfl, rfl, h⟩
  | k + 1, hk, ok => by
    rw [okS, Bool.and_eq_true] at ok
    rcases RZ_sl hn h k (by omega) ok.1 with ⟨h1, h2⟩ | ⟨y, mm, h1, h2, h3⟩
    · left; rw [slS, sl, h1, h2]; exact ⟨rfl, rfl⟩
    · have e : pv7 y k = pvS mm k (7 - k) k := RZ_pv h3 (by omega) (7 - k) k (by omega)
      have ok2 := ok.2
      rw [h1] at ok2
      have ok2 : (decide (7 ≤ pvS mm k (7 - k) k) || okE (swS mm k (pvS mm k (7 - k) k)) k 7) = true := ok2
      rw [Bool.or_eq_true, decide_eq_true_eq] at ok2
      rw [slS, sl, h1, h2]
      show ((if pvS mm k (7 - k) k < 7 then some (elS (swS mm k (pvS mm k (7 - k) k)) k 7) else none) = none ∧ (if pv7 y k < 7 then some (el (sw y k (pv7 y k) 8) k 7) else none) = none) ∨ ∃ y' mm', (if pvS mm k (7 - k) k < 7 then some (elS (swS mm k (pvS mm k (7 - k) k)) k 7) else none) = some mm' ∧ (if pv7 y k < 7 then some (el (sw y k (pv7 y k) 8) k 7) else none) = some y' ∧ RZ n y' mm'
      rw [e]
      by_cases q : pvS mm k (7 - k) k < 7
      · right
        rw [if_pos q, if_pos q]
        exact ⟨_, _, rfl, rfl, RZ_step hn h3 (by omega) q (ok2.resolve_left (by omega)) 7 (Nat.le_refl _)⟩
      · left; rw [if_neg q, if_neg q]; exact ⟨rfl, rfl⟩
theorem okS_mono {m : List (List Int)} : ∀ {r q : Nat}, q ≤ r → okS m r = true → okS m q = true
  | 0, q, h, _ => by rw [show q = 0 by omega]; rfl
  | r + 1, q, h, ok => by
    rcases Nat.lt_or_ge r q with e | e
    · rw [show q = r + 1 by omega]; exact ok
    · rw [okS, Bool.and_eq_true] at ok; exact okS_mono e ok.1
theorem RZ_GB {n z : Nat → Int} {m : List (List Int)} (hn : ∀ z, z < 8 → -2 ≤ n z ∧ n z ≤ 2) (h : RZ n z m) (ok : okS m 7 = true) : GB z := by
  intro k y hk hs
  rcases RZ_sl hn h k hk (okS_mono hk ok) with ⟨_, h2⟩ | ⟨y', mm, h1, h2, h3⟩
  · rw [h2] at hs; cases hs
  · rw [h2] at hs; cases hs
    refine ⟨RZ_b h3, fun hk7 hp q hq j hj => ?_⟩
    have e : pv7 y k = pvS mm k (7 - k) k := RZ_pv h3 hk7 (7 - k) k (by omega)
    have ok1 := okS_mono (show k + 1 ≤ 7 from hk7) ok
    rw [okS, Bool.and_eq_true, h1] at ok1
    have ok2 : (decide (7 ≤ pvS mm k (7 - k) k) || okE (swS mm k (pvS mm k (7 - k) k)) k 7) = true := ok1.2
    rw [Bool.or_eq_true, decide_eq_true_eq] at ok2
    rw [e] at hp ⊢
    exact RZ_b (RZ_step hn h3 hk7 hp (ok2.resolve_left (by omega)) q (by omega)) j hj
