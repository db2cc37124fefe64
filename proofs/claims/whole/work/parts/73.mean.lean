theorem ct_pos {p : Nat → Bool} {i : Nat} (h : p i = true) : ∀ {n : Nat}, i < n → 1 ≤ fb_ct p n := by
  intro n hn
  have h1 := fb_ct_mono p (show i + 1 ≤ n from hn)
  rw [fb_ct_succ, h, if_pos rfl] at h1
  omega
theorem ct_ex {p : Nat → Bool} : ∀ {n : Nat}, 1 ≤ fb_ct p n → ∃ i, i < n ∧ p i = true
  | 0, h => absurd h (Nat.not_succ_le_zero 0)
  | n + 1, h => by
    rw [fb_ct_succ] at h
    by_cases q : p n = true
    · exact ⟨n, Nat.lt_succ_self n, q⟩
    · rw [if_neg q] at h
      obtain ⟨i, h1, h2⟩ := ct_ex (n := n) (by omega)
      exact ⟨i, by omega, h2⟩
/-- how often v stands in the first n places -/
def ctI (A : Nat → Int32) (n : Nat) (v : Int32) : Nat := fb_ct (fun j => decide (A j = v)) n
def dv (x v : Int32) : Nat := if x = v then 1 else 0
theorem ctI_succ (A : Nat → Int32) (n : Nat) (v : Int32) : ctI A (n + 1) v = ctI A n v + dv (A n) v := by
  unfold ctI dv; rw [fb_ct_succ]
  congr 1
  by_cases h : A n = v
  · rw [if_pos h, if_pos (decide_eq_true h)]
  · rw [if_neg h, if_neg (fun c => h (of_decide_eq_true c))]
theorem ctI_cong {A B : Nat → Int32} {n : Nat} (h : ∀ j, j < n → A j = B j) (v : Int32) : ctI A n v = ctI B n v := fb_ct_cong (fun j hj => by rw [h j hj])
theorem ctI_upd (A : Nat → Int32) {i n : Nat} (x v : Int32) (h : i < n) : ctI (upd A i x) n v + dv (A i) v = ctI A n v + dv x v := by
  have h1 := fb_ct_upd (fun j => decide (A j = v)) (decide (x = v)) h
  have e : (fun k => if k = i then decide (x = v) else (fun j => decide (A j = v)) k) = fun j => decide (upd A i x j = v) := by
    funext k; unfold upd; split <;> rfl
  rw [e] at h1
  simp only [decide_eq_true_eq] at h1
  exact h1
theorem ctI_pos {A : Nat → Int32} {i n : Nat} (h : i < n) : 1 ≤ ctI A n (A i) := ct_pos (decide_eq_true rfl) h
theorem ctI_ex {A : Nat → Int32} {n : Nat} {v : Int32} (h : 1 ≤ ctI A n v) : ∃ i, i < n ∧ A i = v := by
  obtain ⟨i, h1, h2⟩ := ct_ex h
  exact ⟨i, h1, of_decide_eq_true h2⟩
theorem dv_self (v : Int32) : dv v v = 1 := if_pos rfl
theorem dv_ne {x v : Int32} (h : x ≠ v) : dv x v = 0 := if_neg h
theorem dv_le (x v : Int32) : dv x v ≤ 1 := by unfold dv; split <;> omega
theorem upd_at (A : Nat → Int32) (i : Nat) (x : Int32) : upd A i x i = x := if_pos rfl
theorem upd_no (A : Nat → Int32) {i j : Nat} (x : Int32) (h : j ≠ i) : upd A i x j = A j := if_neg h
theorem lsI_min (A : Nat → Int32) : ∀ d, ∀ j, j ≤ d → A (lsI A d) ≤ A j
  | 0, j, h => by rw [show j = 0 by omega]; exact Int32.le_refl _
  | d + 1, j, h => by
    rw [lsI]
    have ih := lsI_min A d
    by_cases q : A (lsI A d) ≤ A (d + 1)
    · rw [if_pos q]
      rcases Nat.lt_or_ge d j with g | g
      · rw [show j = d + 1 by omega]; exact q
      · exact ih j g
    · rw [if_neg q]
      have q2 : A (d + 1) ≤ A (lsI A d) := (Int32.le_total _ _).resolve_left q
      rcases Nat.lt_or_ge d j with g | g
      · rw [show j = d + 1 by omega]; exact Int32.le_refl _
      · exact Int32.le_trans q2 (ih j g)
theorem mv_end (A : Nat → Int32) (d : Nat) : mv A (d + 1) d = A (lsI A d) := if_pos rfl
theorem mv_out (A : Nat → Int32) {d j : Nat} (h : d < j) : mv A (d + 1) j = A j := by
  have h1 := lsI_le A d
  show upd (upd A (lsI A d) (A d)) d (A (lsI A d)) j = A j
  rw [upd_no _ _ (by omega), upd_no _ _ (by omega)]
theorem mv_ct (A : Nat → Int32) (d : Nat) (v : Int32) : ctI (mv A (d + 1)) (d + 1) v = ctI A (d + 1) v := by
  have h1 := lsI_le A d
  show ctI (upd (upd A (lsI A d) (A d)) d (A (lsI A d))) (d + 1) v = _
  have h2 := ctI_upd A (i := lsI A d) (n := d + 1) (A d) v (by omega)
  have h3 := ctI_upd (upd A (lsI A d) (A d)) (i := d) (n := d + 1) (A (lsI A d)) v (by omega)
  have h4 : upd A (lsI A d) (A d) d = A d := by unfold upd; split <;> rfl
  rw [h4] at h3
  omega
/-- a and b are the least two of what C counts above nought -/
def Two (C : Int32 → Nat) (a b : Int32) : Prop := ¬ a ≤ 0 ∧ ¬ b ≤ 0 ∧ 1 ≤ C a ∧ (∀ v, ¬ v ≤ 0 → 1 ≤ C v → a ≤ v) ∧ dv a b + 1 ≤ C b ∧ ∀ v, ¬ v ≤ 0 → dv a v + 1 ≤ C v → b ≤ v
theorem Two_un {C E : Int32 → Nat} {a b x y : Int32} (hCE : ∀ v, ¬ v ≤ 0 → C v = E v) (h : Two C a b) (g : Two E x y) : a = x ∧ b = y := by
  obtain ⟨a1, b1, a2, a3, b2, b3⟩ := h
  obtain ⟨x1, y1, x2, x3, y2, y3⟩ := g
  have e1 : a = x := Int32.le_antisymm (a3 x x1 (by rw [hCE x x1]; exact x2)) (x3 a a1 (by rw [← hCE a a1]; exact a2))
  subst e1
  exact ⟨rfl, Int32.le_antisymm (b3 y y1 (by rw [hCE y y1]; exact y2)) (y3 b b1 (by rw [← hCE b b1]; exact b2))⟩
theorem lm_two {A : Nat → Int32} {n : Nat} (hA : ∀ j, j < n + 2 → ¬ A j ≤ 0) : ∃ a b, Two (ctI A (n + 2)) a b ∧ lmA A (n + 2) n = b + a ∧ (∀ v, ctI (lmA A (n + 2)) (n + 1) v + dv a v + dv b v = ctI A (n + 2) v + dv (b + a) v) ∧ ∀ j, j < n → ¬ lmA A (n + 2) j ≤ 0 := by
  obtain ⟨a, ha⟩ : ∃ a, a = mv A (n + 2) (n + 1) := ⟨_, rfl⟩
  obtain ⟨M1, hM1⟩ : ∃ M1, M1 = mv A (n + 2) := ⟨_, rfl⟩
  obtain ⟨M2, hM2⟩ : ∃ M2, M2 = mv M1 (n + 1) := ⟨_, rfl⟩
  obtain ⟨b, hb⟩ : ∃ b, b = M2 n := ⟨_, rfl⟩
  have ha' : a = A (lsI A (n + 1)) := by rw [ha]; exact mv_end A (n + 1)
  have hb' : b = M1 (lsI M1 n) := by rw [hb, hM2]; exact mv_end M1 n
  have c1 : ∀ v, ctI M1 (n + 1) v + dv a v = ctI A (n + 2) v := fun v => by
    rw [← mv_ct A (n + 1) v, ← hM1, ctI_succ M1 (n + 1) v, ha, hM1]
  have c2 : ∀ v, ctI M2 n v + dv b v = ctI M1 (n + 1) v := fun v => by
    rw [← mv_ct M1 n v, ← hM2, ctI_succ M2 n v, hb]
  have e2 : M2 (n + 1) = a := by rw [hM2, mv_out M1 (Nat.lt_succ_self n), ha, hM1]
  have eL : lmA A (n + 2) = upd M2 n (b + a) := by
    show upd (mv (mv A (n + 2)) (n + 1)) n (mv (mv A (n + 2)) (n + 1) n + mv (mv A (n + 2)) (n + 1) (n + 1)) = _
    rw [← hM1, ← hM2, ← hb, e2]
  have pos : ∀ v, 1 ≤ ctI A (n + 2) v → ¬ v ≤ 0 := fun v h => by
    obtain ⟨i, h1, h2⟩ := ctI_ex h; rw [← h2]; exact hA i h1
  have l1 := lsI_le A (n + 1)
  have l2 := lsI_le M1 n
  have a1 : 1 ≤ ctI A (n + 2) a := by rw [ha']; exact ctI_pos (by omega)
  have b0 : 1 ≤ ctI M1 (n + 1) b := by rw [hb']; exact ctI_pos (by omega)
  have b1 : dv a b + 1 ≤ ctI A (n + 2) b := by have := c1 b; omega
  refine ⟨a, b, ⟨pos a a1, pos b (by omega), a1, fun v _ h => ?_, b1, fun v _ h => ?_⟩, ?_, fun v => ?_, fun j hj => ?_⟩
  · obtain ⟨i, h1, h2⟩ := ctI_ex h
    rw [ha', ← h2]; exact lsI_min A (n + 1) i (by omega)
  · have h3 := c1 v
    obtain ⟨i, h1, h2⟩ := ctI_ex (show 1 ≤ ctI M1 (n + 1) v by omega)
    rw [hb', ← h2]; exact lsI_min M1 n i (by omega)
  · rw [eL, upd_at]
  · rw [eL, ctI_succ, upd_at, ctI_cong (B := M2) (fun j hj => upd_no _ _ (by omega))]
    have h1 := c1 v
    have h2 := c2 v
    omega
  · rw [eL, upd_no _ _ (by omega)]
    refine pos _ ?_
    have h1 := c1 (M2 j)
    have h2 := c2 (M2 j)
    have h3 := ctI_pos (A := M2) hj
    omega
theorem bO_min {A : Nat → Int32} {b : Int32} : ∀ {i k : Nat}, bO A b i = some k → ∀ j, j < i → ¬ nI j = b → ¬ A j ≤ 0 → A k ≤ A j
  | 0, k, h => by cases h
  | i + 1, k, h => by
    intro j hj h1 h2
    have hn : ∀ {i : Nat}, bO A b i = none → ∀ j, j < i → ¬ nI j = b → A j ≤ 0 := by
      intro i
      induction i with
      | zero => intro _ j hj; omega
      | succ i ih =>
        intro q j hj q1
        rw [bO] at q
        split at q
        · rename_i c
          rcases Nat.lt_or_ge j i with g | g
          · exact ih q j g q1
          · exact absurd c (by rw [show i = j by omega]; exact q1)
        · split at q
          · rename_i c
            rcases Nat.lt_or_ge j i with g | g
            · exact ih q j g q1
            · rw [show j = i by omega]; exact c
          · split at q
            · cases q
            · split at q <;> cases q
    rcases Nat.lt_or_ge j i with g | g
    · rw [bO] at h
      split at h
      · exact bO_min h j g h1 h2
      · split at h
        · exact bO_min h j g h1 h2
        · split at h
          · rename_i h5
            exact absurd (hn h5 j g h1) h2
          · rename_i k1 h5
            have h6 := bO_min h5 j g h1 h2
            split at h
            · cases h; exact h6
            · rename_i c; cases h; exact Int32.le_trans ((Int32.le_total _ _).resolve_left c) h6
    · have e : j = i := by omega
      subst e
      rw [bO, if_neg h1, if_neg h2] at h
      split at h
      · cases h; exact Int32.le_refl _
      · split at h
        · rename_i c; cases h; exact c
        · cases h; exact Int32.le_refl _
theorem bO_none {A : Nat → Int32} {b : Int32} : ∀ {i : Nat}, bO A b i = none → ∀ j, j < i → ¬ nI j = b → A j ≤ 0
  | 0, _, j, hj, _ => absurd hj (Nat.not_lt_zero _)
  | i + 1, q, j, hj, q1 => by
    rw [bO] at q
    split at q
    · rename_i c
      rcases Nat.lt_or_ge j i with g | g
      · exact bO_none q j g q1
      · exact absurd c (by rw [show i = j by omega]; exact q1)
    · split at q
      · rename_i c
        rcases Nat.lt_or_ge j i with g | g
        · exact bO_none q j g q1
        · rw [show j = i by omega]; exact c
      · split at q
        · cases q
        · split at q <;> cases q
theorem nI_27 : ∀ i, i < 27 → nI i ≠ -1 ∧ ∀ j, j < 27 → nI i = nI j → i = j := by decide +kernel
theorem nx_two {B : Nat → Int32} {a b : Nat} (ha : bO B (-1) 27 = some a) (hb : nx B = some b) (hl : a < 27) (hk : b < 27) (hab : a ≠ b) (h1 : ¬ B a ≤ 0) (h2 : ¬ B b ≤ 0) : Two (ctI B 27) (B a) (B b) := by
  have hb2 : bO B (nI a) 27 = some b := by
    have h3 : nx B = bO B (nI a) 27 := by unfold nx; rw [ha]; rfl
    rw [← h3]; exact hb
  have hu : ∀ v, ctI (upd B a (nI 0)) 27 v + dv (B a) v = ctI B 27 v + dv (nI 0) v := fun v => ctI_upd B (nI 0) v hl
  have z0 : ∀ v, ¬ v ≤ 0 → dv (nI 0) v = 0 := fun v h => dv_ne (fun c => h (by rw [← c]; decide))
  refine ⟨h1, h2, ctI_pos hl, fun v hv h => ?_, ?_, fun v hv h => ?_⟩
  · obtain ⟨i, g1, g2⟩ := ctI_ex h
    rw [← g2]
    exact bO_min ha i g1 (nI_27 i g1).1 (by rw [g2]; exact hv)
  · have h3 := hu (B b)
    have h4 := ctI_pos (A := upd B a (nI 0)) hk
    rw [upd_no _ _ (fun c => hab c.symm)] at h4
    rw [z0 _ h2] at h3
    omega
  · have h3 := hu v
    rw [z0 _ hv] at h3
    obtain ⟨i, g1, g2⟩ := ctI_ex (show 1 ≤ ctI (upd B a (nI 0)) 27 v by omega)
    have hia : i ≠ a := fun c => by rw [c, upd_at] at g2; exact hv (by rw [← g2]; decide)
    rw [upd_no _ _ hia] at g2
    rw [← g2]
    exact bO_min hb2 i g1 (fun c => hia ((nI_27 i g1).2 a hl c)) (by rw [g2]; exact hv)
theorem nx_ex {B : Nat → Int32} {a b : Int32} (h : Two (ctI B 27) a b) : ¬ oI (nx B) = -1 := by
  obtain ⟨a1, b1, a2, -, b2, -⟩ := h
  obtain ⟨i, g1, g2⟩ := ctI_ex a2
  have hi : ¬ B i ≤ 0 := by rw [g2]; exact a1
  cases hf : bO B (-1) 27 with
  | none => exact absurd (bO_none hf i g1 (nI_27 i g1).1) hi
  | some k =>
    have hk := bO_lt hf
    have hn : nx B = bO B (nI k) 27 := by unfold nx; rw [hf]; rfl
    rw [hn]
    cases hs : bO B (nI k) 27 with
    | some q => intro c; exact (nI_27 q (bO_lt hs)).1 c
    | none =>
      exfalso
      have z : ∀ j, j < 27 → j ≠ k → B j ≤ 0 := fun j hj hjk => bO_none hs j hj (fun c => hjk ((nI_27 j hj).2 k hk c))
      have hik : i = k := Classical.byContradiction (fun c => hi (z i g1 c))
      have h3 := ctI_upd B (nI 0) b hk
      rw [dv_ne (x := nI 0) (fun c => b1 (by rw [← c]; decide)), ← hik, g2] at h3
      obtain ⟨j, q1, q2⟩ := ctI_ex (show 1 ≤ ctI (upd B i (nI 0)) 27 b by omega)
      have hji : j ≠ i := fun c => by rw [c, upd_at] at q2; exact b1 (by rw [← q2]; decide)
      rw [upd_no _ _ hji] at q2
      exact b1 (by rw [← q2]; exact z j q1 (by rw [← hik]; exact hji))
theorem mrg_ct {B : Nat → Int32} {a b : Nat} (hl : a < 27) (hk : b < 27) (hab : a ≠ b) {v : Int32} (hv : ¬ v ≤ 0) : ctI (mrg B a b) 27 v + dv (B a) v + dv (B b) v = ctI B 27 v + dv (B a + B b) v := by
  have h1 := ctI_upd B (B a + B b) v hl
  have h2 := ctI_upd (upd B a (B a + B b)) (nI 0) v hk
  rw [upd_no _ _ (fun c => hab c.symm), dv_ne (x := nI 0) (fun c => hv (by rw [← c]; decide))] at h2
  unfold mrg
  omega
theorem nI_np {a : Nat} (h : 1 ≤ a) (g : a ≤ 16) : ¬ nI a ≤ 0 := by
  have : ∀ a, a ≤ 16 → 1 ≤ a → ¬ nI a ≤ 0 := by decide +kernel
  exact this a g h
theorem mean_go : ∀ (n r : Nat) (A B : Nat → Int32) (t : Nat → Nat) (m : Int32), n ≤ r → (∀ j, j < 27 → B j = nI (t j)) → fb_sm t 27 ≤ 16 → (∀ j, j < n + 1 → ¬ A j ≤ 0) → (∀ v, ¬ v ≤ 0 → ctI A (n + 1) v = ctI B 27 v) → lmB (n + 1) A m = mmA r B m
  | 0, 0, A, B, t, m, _, _, _, _, _ => rfl
  | 0, r + 1, A, B, t, m, _, hB, hs, hA, hc => by
    show m = _
    rw [mmA]
    by_cases q : oI (nx B) = -1
    · rw [if_pos q]
    · obtain ⟨a, b, ha, hb, hl, hk, hab, h1, h2⟩ := nx_s q
      have hT := nx_two ha hb hl hk hab h1 h2
      have e1 := hc _ h1
      have e2 := hc _ h2
      have f1 := hT.2.2.1
      have f2 := hT.2.2.2.2.1
      have g : ∀ v, ctI A (0 + 1) v = dv (A 0) v := fun v => by rw [ctI_succ]; exact Nat.zero_add _
      rw [g] at e1 e2
      exfalso
      have q1 : A 0 = B a := Classical.byContradiction (fun c => by rw [dv_ne c] at e1; omega)
      have q2 : A 0 = B b := Classical.byContradiction (fun c => by rw [dv_ne c] at e2; omega)
      rw [← q1, ← q2] at f2
      rw [← q2] at e2
      rw [dv_self] at f2 e2
      omega
  | n + 1, 0, A, B, t, m, h, _, _, _, _ => absurd h (by omega)
  | n + 1, r + 1, A, B, t, m, h, hB, hs, hA, hc => by
    obtain ⟨x, y, hT, hL, hct, hpos⟩ := lm_two hA
    have hTB : Two (ctI B 27) x y := by
      obtain ⟨a1, b1, a2, a3, b2, b3⟩ := hT
      exact ⟨a1, b1, by rw [← hc x a1]; exact a2, fun v hv q => a3 v hv (by rw [hc v hv]; exact q), by rw [← hc y b1]; exact b2, fun v hv q => b3 v hv (by rw [hc v hv]; exact q)⟩
    have q := nx_ex hTB
    obtain ⟨a, b, ha, hb, hl, hk, hab, h1, h2⟩ := nx_s q
    have hu := Two_un (fun v _ => rfl) hTB (nx_two ha hb hl hk hab h1 h2)
    have ta := sp_n hB hl h1
    have tb := sp_n hB hk h2
    have hsum : mgs t a b a ≤ 16 := by
      have g1 := fb_sm_part (mgs t a b) hl
      rw [mgs_sm hab hl hk] at g1
      omega
    have hm1 : mgs t a b a = t a + t b := by unfold mgs; rw [if_neg hab, if_pos rfl]
    have hxy : x + y = nI (t a + t b) := by rw [hu.1, hu.2, hB a hl, hB b hk, nI_add]
    rw [mmA, if_neg q, lmB, hL, ha, hb]
    show lmB (n + 1) (lmA A (n + 2)) (m + (y + x)) = mmA r (mrg B a b) (m + (B a + B b))
    rw [← hu.1, ← hu.2, Int32.add_comm y x]
    refine mean_go n r _ _ (mgs t a b) _ (by omega) (mrg_n hB hl hk) (by rw [mgs_sm hab hl hk]; exact hs) (fun j hj => ?_) (fun v hv => ?_)
    · rcases Nat.lt_or_ge j n with g | g
      · exact hpos j g
      · rw [show j = n by omega, hL, Int32.add_comm, hxy]
        exact nI_np (by omega) (by omega)
    · have g1 := hct v
      have g2 := mrg_ct (B := B) hl hk hab hv
      have g3 := hc v hv
      rw [← hu.1, ← hu.2] at g2
      rw [Int32.add_comm y x] at g1
      have g4 : n + 1 + 1 = n + 2 := rfl
      rw [g4] at g3
      omega
/-- the positives of the first i places stand at the row's beginning -/
theorem kA_in (A : Nat → Int32) : ∀ i, (∀ j, i ≤ j → (kA A i).2 j = A j) ∧ (∀ j, j < (kA A i).1 → ¬ (kA A i).2 j ≤ 0) ∧ ∀ v, ¬ v ≤ 0 → ctI (kA A i).2 (kA A i).1 v = ctI A i v
  | 0 => ⟨fun _ _ => rfl, fun j hj => absurd hj (Nat.not_lt_zero _), fun _ _ => rfl⟩
  | i + 1 => by
    obtain ⟨h1, h2, h3⟩ := kA_in A i
    have hle := kA_le A i
    by_cases q : (kA A i).2 i ≤ 0
    · rw [kA_f q]
      refine ⟨fun j hj => h1 j (by omega), h2, fun v hv => ?_⟩
      rw [ctI_succ, h3 v hv, dv_ne (fun c => hv (by rw [← c, ← h1 i (Nat.le_refl _)]; exact q)), Nat.add_zero]
    · rw [kA_t q]
      refine ⟨fun j hj => ?_, fun j hj => ?_, fun v hv => ?_⟩
      · show upd _ _ _ j = _
        rw [upd_no _ _ (by omega), h1 j (by omega)]
      · show ¬ upd _ _ _ j ≤ 0
        have hj : j < (kA A i).1 + 1 := hj
        rcases Nat.lt_or_ge j (kA A i).1 with g | g
        · rw [upd_no _ _ (by omega)]; exact h2 j g
        · rw [show j = (kA A i).1 by omega, upd_at]; exact q
      · show ctI (upd _ _ _) ((kA A i).1 + 1) v = _
        rw [ctI_succ, ctI_succ, upd_at, ctI_cong (B := (kA A i).2) (fun j hj => upd_no _ _ (by omega)), h3 v hv, h1 i (Nat.le_refl _)]
theorem kA_pos {A : Nat → Int32} {i n : Nat} (hi : i < n) (h : ¬ A i ≤ 0) : 1 ≤ (kA A n).1 := by
  have h1 := (kA_in A n).2.2 (A i) h
  have h2 := ctI_pos (A := A) hi
  rw [← h1] at h2
  obtain ⟨j, h3, -⟩ := ctI_ex h2
  omega
theorem mean_eq {A : Nat → Int32} {t : Nat → Nat} (hA : ∀ j, j < 27 → A j = nI (t j)) (hs : fb_sm t 27 ≤ 16) (h1 : 1 ≤ (kA A 27).1) : lmB (kA A 27).1 (kA A 27).2 (nI 0) = mmA 27 A (nI 0) := by
  obtain ⟨n, hn⟩ : ∃ n, (kA A 27).1 = n + 1 := ⟨(kA A 27).1 - 1, by omega⟩
  have h2 := kA_in A 27
  have h3 := kA_le A 27
  rw [hn] at h2 ⊢
  exact mean_go n 27 _ _ t _ (by omega) hA hs h2.2.1 h2.2.2
