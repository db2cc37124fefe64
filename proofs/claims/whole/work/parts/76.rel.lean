/-! both worlds side by side -/
/-- what the class's world and the reference's have in common -/
def Rel (N : Nat → Int32) (S Wt L : Nat → Nat → Int32) (sh : Nat → Int32) (pv : Int32) (st wt sm nu : Nat → Int32) (to : Nat → Int64) (it : Int32) (nn : Nat → Nat) (vv : Nat → Nat → Nat) (qq : Nat → Nat → Int) : Prop :=
  (∀ g, g < 4 → N g = nI (nn g) ∧ sm g = nI (nn g) ∧ nn g ≤ 16 ∧ fb_sm (vv g) 27 = nn g ∧ (∀ j, j < 27 → Wt g j = nI (vv g j) ∧ wt (27 * g + j) = nI (vv g j)) ∧ ∀ i, i < 3 → ∃ s, s ≤ 3 ∧ S g i = nI s ∧ st (3 * g + i) = nI s) ∧
  (∀ j, j < 10 → (∀ z, z < 8 → L j z = zI (qq j z) ∧ -2 ≤ qq j z ∧ qq j z ≤ 2) ∧ ∀ z, 1 ≤ z → z < 8 → nu (8 * j + z) = zI (qq j z)) ∧
  pv = it ∧ (¬ pv = 0 → ∀ p, p < 9 → to p = (sh p).toInt64 ∧ to (9 + p) = 1)
theorem gsN_le (v : Nat → Nat) (z : Nat) : ∀ i j, gsN v z i j ≤ fb_sm v i
  | 0, _ => Nat.le_refl _
  | i + 1, j => by
    have h := gsN_le v z i j
    rw [gsN, fb_sm_succ]
    split <;> omega
theorem gi_l8 : ∀ z, z < 8 → ∀ i, i < 27 → gi z i < 27 := by decide +kernel
theorem gsN_sm (v : Nat → Nat) {z : Nat} (hz : z < 8) : ∀ i, i ≤ 27 → fb_sm (gsN v z i) 27 = fb_sm v i
  | 0, _ => by
    have : ∀ n, fb_sm (gsN v z 0) n = 0 := fun n => by
      induction n with
      | zero => rfl
      | succ n ih => rw [fb_sm_succ, ih]; rfl
    exact this 27
  | i + 1, hi => by
    have h := gsN_sm v hz i (by omega)
    have h2 := fb_sm_upd (gsN v z i) (gsN v z i (gi z i) + v i) (gi_l8 z hz i (by omega))
    have e : (fun k => if k = gi z i then gsN v z i (gi z i) + v i else gsN v z i k) = gsN v z (i + 1) := by
      funext k
      rw [gsN]
      split
      · rename_i q; rw [q]
      · rfl
    rw [e] at h2
    rw [fb_sm_succ v i]
    omega
theorem Rel_WI {N : Nat → Int32} {S Wt L : Nat → Nat → Int32} {sh : Nat → Int32} {pv : Int32} {st wt sm nu : Nat → Int32} {to : Nat → Int64} {it : Int32} {nn : Nat → Nat} {vv : Nat → Nat → Nat} {qq : Nat → Nat → Int} (h : Rel N S Wt L sh pv st wt sm nu to it nn vv qq) : WI N Wt nn vv := by
  intro g hg
  obtain ⟨h1, h2, h3, h4, h5, -⟩ := h.1 g hg
  exact ⟨h1, h3, fun j hj => (h5 j hj).1, fun z j => Nat.le_trans (gsN_le (vv g) z 27 j) (by omega)⟩
theorem Rel_WIm {N : Nat → Int32} {S Wt L : Nat → Nat → Int32} {sh : Nat → Int32} {pv : Int32} {st wt sm nu : Nat → Int32} {to : Nat → Int64} {it : Int32} {nn : Nat → Nat} {vv : Nat → Nat → Nat} {qq : Nat → Nat → Int} (h : Rel N S Wt L sh pv st wt sm nu to it nn vv qq) : WIm sm wt nn vv := by
  intro g hg
  obtain ⟨h1, h2, h3, h4, h5, -⟩ := h.1 g hg
  exact ⟨h2, h3, fun j hj => (h5 j hj).2, fun z j => Nat.le_trans (gsN_le (vv g) z 27 j) (by omega)⟩
theorem Rel_LI {N : Nat → Int32} {S Wt L : Nat → Nat → Int32} {sh : Nat → Int32} {pv : Int32} {st wt sm nu : Nat → Int32} {to : Nat → Int64} {it : Int32} {nn : Nat → Nat} {vv : Nat → Nat → Nat} {qq : Nat → Nat → Int} (h : Rel N S Wt L sh pv st wt sm nu to it nn vv qq) : LI L qq := fun j hj z hz => (h.2.1 j hj).1 z hz
theorem Rel_LIm {N : Nat → Int32} {S Wt L : Nat → Nat → Int32} {sh : Nat → Int32} {pv : Int32} {st wt sm nu : Nat → Int32} {to : Nat → Int64} {it : Int32} {nn : Nat → Nat} {vv : Nat → Nat → Nat} {qq : Nat → Nat → Int} (h : Rel N S Wt L sh pv st wt sm nu to it nn vv qq) : LIm nu qq := fun j hj => ⟨(h.2.1 j hj).2, fun z hz => ((h.2.1 j hj).1 z hz).2⟩
theorem Rel_I3 {N : Nat → Int32} {S Wt L : Nat → Nat → Int32} {sh : Nat → Int32} {pv : Int32} {st wt sm nu : Nat → Int32} {to : Nat → Int64} {it : Int32} {nn : Nat → Nat} {vv : Nat → Nat → Nat} {qq : Nat → Nat → Int} (h : Rel N S Wt L sh pv st wt sm nu to it nn vv qq) : I3 S := fun g hg i hi => by
  obtain ⟨s, h1, h2, -⟩ := (h.1 g hg).2.2.2.2.2 i hi
  exact ⟨s, h1, h2⟩
theorem Rel_I3m {N : Nat → Int32} {S Wt L : Nat → Nat → Int32} {sh : Nat → Int32} {pv : Int32} {st wt sm nu : Nat → Int32} {to : Nat → Int64} {it : Int32} {nn : Nat → Nat} {vv : Nat → Nat → Nat} {qq : Nat → Nat → Int} (h : Rel N S Wt L sh pv st wt sm nu to it nn vv qq) : I3m st := fun g hg i hi => by
  obtain ⟨s, h1, -, h2⟩ := (h.1 g hg).2.2.2.2.2 i hi
  exact ⟨s, h1, h2⟩
theorem Rel_N {N : Nat → Int32} {S Wt L : Nat → Nat → Int32} {sh : Nat → Int32} {pv : Int32} {st wt sm nu : Nat → Int32} {to : Nat → Int64} {it : Int32} {nn : Nat → Nat} {vv : Nat → Nat → Nat} {qq : Nat → Nat → Int} (h : Rel N S Wt L sh pv st wt sm nu to it nn vv qq) {g : Nat} (hg : g < 4) : N g = sm g := by
  obtain ⟨h1, h2, -⟩ := h.1 g hg
  rw [h1, h2]
theorem Rel_S {N : Nat → Int32} {S Wt L : Nat → Nat → Int32} {sh : Nat → Int32} {pv : Int32} {st wt sm nu : Nat → Int32} {to : Nat → Int64} {it : Int32} {nn : Nat → Nat} {vv : Nat → Nat → Nat} {qq : Nat → Nat → Int} (h : Rel N S Wt L sh pv st wt sm nu to it nn vv qq) {g i : Nat} (hg : g < 4) (hi : i < 3) : S g i = st (3 * g + i) := by
  obtain ⟨s, -, h2, h3⟩ := (h.1 g hg).2.2.2.2.2 i hi
  rw [h2, h3]
theorem Rel_W {N : Nat → Int32} {S Wt L : Nat → Nat → Int32} {sh : Nat → Int32} {pv : Int32} {st wt sm nu : Nat → Int32} {to : Nat → Int64} {it : Int32} {nn : Nat → Nat} {vv : Nat → Nat → Nat} {qq : Nat → Nat → Int} (h : Rel N S Wt L sh pv st wt sm nu to it nn vv qq) {g i : Nat} (hg : g < 4) (hi : i < 27) : Wt g i = wt (27 * g + i) := by
  obtain ⟨h2, h3⟩ := (h.1 g hg).2.2.2.2.1 i hi
  rw [h2, h3]
theorem Rel_HS {N : Nat → Int32} {S Wt L : Nat → Nat → Int32} {sh : Nat → Int32} {pv : Int32} {st wt sm nu : Nat → Int32} {to : Nat → Int64} {it : Int32} {nn : Nat → Nat} {vv : Nat → Nat → Nat} {qq : Nat → Nat → Int} (h : Rel N S Wt L sh pv st wt sm nu to it nn vv qq) {g : Nat} (hg : g < 4) (a b c : Int32) : HS (S g) a b c ↔ HS (st3 st g) a b c := by
  unfold HS st3
  rw [Rel_S h hg (by decide), Rel_S h hg (i := 1) (by decide), Rel_S h hg (i := 2) (by decide)]
theorem Rel_SM {N : Nat → Int32} {S Wt L : Nat → Nat → Int32} {sh : Nat → Int32} {pv : Int32} {st wt sm nu : Nat → Int32} {to : Nat → Int64} {it : Int32} {nn : Nat → Nat} {vv : Nat → Nat → Nat} {qq : Nat → Nat → Int} (h : Rel N S Wt L sh pv st wt sm nu to it nn vv qq) {f g : Nat} (hf : f < 4) (hg : g < 4) : SM (S f) (S g) ↔ SM (st3 st f) (st3 st g) := by
  unfold SM st3
  rw [Rel_S h hg (by decide), Rel_S h hg (i := 1) (by decide), Rel_S h hg (i := 2) (by decide), Rel_S h hf (by decide), Rel_S h hf (i := 1) (by decide), Rel_S h hf (i := 2) (by decide)]
/-- one place gets other weights and states -/
theorem Rel_upd {N : Nat → Int32} {S Wt L : Nat → Nat → Int32} {sh : Nat → Int32} {pv : Int32} {st wt sm nu : Nat → Int32} {to : Nat → Int64} {it : Int32} {nn : Nat → Nat} {vv : Nat → Nat → Nat} {qq : Nat → Nat → Int} (h : Rel N S Wt L sh pv st wt sm nu to it nn vv qq) {N' : Nat → Int32} {S' Wt' : Nat → Nat → Int32} {st' wt' sm' : Nat → Int32} (g n : Nat) (v : Nat → Nat) (hn : n ≤ 16) (hv : fb_sm v 27 = n)
    (ho : ∀ q, q < 4 → q ≠ g → N' q = N q ∧ sm' q = sm q ∧ (∀ j, j < 27 → Wt' q j = Wt q j ∧ wt' (27 * q + j) = wt (27 * q + j)) ∧ ∀ i, i < 3 → S' q i = S q i ∧ st' (3 * q + i) = st (3 * q + i))
    (hg : N' g = nI n ∧ sm' g = nI n ∧ (∀ j, j < 27 → Wt' g j = nI (v j) ∧ wt' (27 * g + j) = nI (v j)) ∧ ∀ i, i < 3 → ∃ s, s ≤ 3 ∧ S' g i = nI s ∧ st' (3 * g + i) = nI s) :
    Rel N' S' Wt' L sh pv st' wt' sm' nu to it (fun q => if q = g then n else nn q) (fun q => if q = g then v else vv q) qq := by
  refine ⟨fun q hq => ?_, h.2⟩
  by_cases e : q = g
  · subst e
    simp only [if_true]
    exact ⟨hg.1, hg.2.1, hn, hv, hg.2.2⟩
  · simp only [if_neg e]
    obtain ⟨a1, a2, a3, a4, a5, a6⟩ := h.1 q hq
    obtain ⟨b1, b2, b3, b4⟩ := ho q hq e
    refine ⟨b1.trans a1, b2.trans a2, a3, a4, fun j hj => ⟨(b3 j hj).1.trans (a5 j hj).1, (b3 j hj).2.trans (a5 j hj).2⟩, fun i hi => ?_⟩
    obtain ⟨s, c1, c2, c3⟩ := a6 i hi
    exact ⟨s, c1, (b4 i hi).1.trans c2, (b4 i hi).2.trans c3⟩
/-- bounds of all sums of logarithms -/
theorem Rel_hm {N : Nat → Int32} {S Wt L : Nat → Nat → Int32} {sh : Nat → Int32} {pv : Int32} {st wt sm nu : Nat → Int32} {to : Nat → Int64} {it : Int32} {nn : Nat → Nat} {vv : Nat → Nat → Nat} {qq : Nat → Nat → Int} (h : Rel N S Wt L sh pv st wt sm nu to it nn vv qq) {g : Nat} (hg : g < 4) : nn g ≤ 16 ∧ (∀ z i, gsN (vv g) z 27 i ≤ 16) ∧ ∀ z, z < 8 → fb_sm (gsN (vv g) z 27) 27 ≤ nn g := by
  obtain ⟨h1, h2, h3, h4, h5, -⟩ := h.1 g hg
  exact ⟨h3, fun z j => Nat.le_trans (gsN_le (vv g) z 27 j) (by omega), fun z hz => by rw [gsN_sm _ hz 27 (Nat.le_refl _)]; omega⟩
theorem Rel_B1 {N : Nat → Int32} {S Wt L : Nat → Nat → Int32} {sh : Nat → Int32} {pv : Int32} {st wt sm nu : Nat → Int32} {to : Nat → Int64} {it : Int32} {nn : Nat → Nat} {vv : Nat → Nat → Nat} {qq : Nat → Nat → Int} (h : Rel N S Wt L sh pv st wt sm nu to it nn vv qq) {g j : Nat} {tm : Int} {e : Nat → Int} {B : Nat} (hg : g < 4) (hj : j < 10) (hB : BP e B) : BP (lxp e (vv g) (nn g) (qq j) tm 7) (B + 7 * (8 * nn g * tm.natAbs)) := by
  obtain ⟨h1, h2, h3⟩ := Rel_hm h hg
  exact lxp_BP hB h1 h2 h3 (fun z hz => ((h.2.1 j hj).1 z hz).2) 7 (Nat.le_refl _)
theorem Rel_sign {N : Nat → Int32} {S Wt L : Nat → Nat → Int32} {sh : Nat → Int32} {pv : Int32} {st wt sm nu : Nat → Int32} {to : Nat → Int64} {it : Int32} {nn : Nat → Nat} {vv : Nat → Nat → Nat} {qq : Nat → Nat → Int} (h : Rel N S Wt L sh pv st wt sm nu to it nn vv qq) : ∀ g j, g < 4 → j < 10 → 1 ≤ nn g → BE (lxp z0 (vv g) (nn g) (qq j) 1 7) := by
  intro g j hg hj _
  have h1 := (Rel_hm h hg).1
  exact BP_BE (Rel_B1 h hg hj (BP_z 0)) (by show 0 + 7 * (8 * nn g * 1) < 32768; omega)
theorem Rel_comp {N : Nat → Int32} {S Wt L : Nat → Nat → Int32} {sh : Nat → Int32} {pv : Int32} {st wt sm nu : Nat → Int32} {to : Nat → Int64} {it : Int32} {nn : Nat → Nat} {vv : Nat → Nat → Nat} {qq : Nat → Nat → Int} (h : Rel N S Wt L sh pv st wt sm nu to it nn vv qq) : ∀ g j k i, g < 4 → j < 10 → k < 4 → i < 10 → 1 ≤ nn g → 1 ≤ nn k → BE (lxp (lxp z0 (vv g) (nn g) (qq j) (nn k) 7) (vv k) (nn k) (qq i) (-(nn g : Int)) 7) := by
  intro g j k i hg hj hk hi _ _
  have h1 := (Rel_hm h hg).1
  have h2 := (Rel_hm h hk).1
  refine BP_BE (Rel_B1 h hk hi (Rel_B1 h hg hj (BP_z 0))) ?_
  rw [Int.natAbs_neg, Int.natAbs_natCast, Int.natAbs_natCast]
  have h3 : nn g * nn k ≤ 16 * 16 := Nat.mul_le_mul h1 h2
  have e1 : 8 * nn g * nn k = 8 * (nn g * nn k) := Nat.mul_assoc _ _ _
  have e2 : 8 * nn k * nn g = 8 * (nn g * nn k) := by rw [Nat.mul_assoc, Nat.mul_comm (nn k)]
  rw [e1, e2]
  omega
theorem Rel_nB {N : Nat → Int32} {S Wt L : Nat → Nat → Int32} {sh : Nat → Int32} {pv : Int32} {st wt sm nu : Nat → Int32} {to : Nat → Int64} {it : Int32} {nn : Nat → Nat} {vv : Nat → Nat → Nat} {qq : Nat → Nat → Int} (h : Rel N S Wt L sh pv st wt sm nu to it nn vv qq) {g j : Nat} (hg : g < 4) (hj : j < 10) : BP (nB vv nn qq g j) (896 * nn g) := by
  refine BP_le (Rel_B1 (tm := 16) h hg hj (BP_z 0)) ?_
  show 0 + 7 * (8 * nn g * 16) ≤ 896 * nn g
  omega
theorem Rel_near {N : Nat → Int32} {S Wt L : Nat → Nat → Int32} {sh : Nat → Int32} {pv : Int32} {st wt sm nu : Nat → Int32} {to : Nat → Int64} {it : Int32} {nn : Nat → Nat} {vv : Nat → Nat → Nat} {qq : Nat → Nat → Int} (h : Rel N S Wt L sh pv st wt sm nu to it nn vv qq) : ∀ g j c, g < 4 → j < 10 → 1 ≤ nn g → -1024 ≤ c → c ≤ 1024 → BE (nr (nB vv nn qq g j) (nn g) c) := by
  intro g j c hg hj _ c1 c2
  have h1 := (Rel_hm h hg).1
  exact BP_BE (nr_BP (Rel_nB h hg hj) ⟨c1, c2⟩) (by omega)
theorem Rel_dx {N : Nat → Int32} {S Wt L : Nat → Nat → Int32} {sh : Nat → Int32} {pv : Int32} {st wt sm nu : Nat → Int32} {to : Nat → Int64} {it : Int32} {nn : Nat → Nat} {vv : Nat → Nat → Nat} {qq : Nat → Nat → Int} (h : Rel N S Wt L sh pv st wt sm nu to it nn vv qq) {g z : Nat} {e : Nat → Int} {B : Nat} {tm : Int} (hg : g < 4) (hz : z < 8) (hB : BP e B) : BP (dxq e tm (vv g) (nn g) z) (B + 4 * nn g * tm.natAbs) := by
  obtain ⟨h1, h2, h3⟩ := Rel_hm h hg
  exact dxq_BP hB h1 (h2 z) (h3 z hz)
theorem Rel_seA {N : Nat → Int32} {S Wt L : Nat → Nat → Int32} {sh : Nat → Int32} {pv : Int32} {st wt sm nu : Nat → Int32} {to : Nat → Int64} {it : Int32} {nn : Nat → Nat} {vv : Nat → Nat → Nat} {qq : Nat → Nat → Int} (h : Rel N S Wt L sh pv st wt sm nu to it nn vv qq) : ∀ g z, g < 4 → (z = 2 ∨ z = 4 ∨ z = 6) → 1 ≤ nn g → BE (dxq (dxq z0 1 (vv g) (nn g) (z + 1)) (-1) (vv g) (nn g) z) := by
  intro g z hg hz _
  have h1 := (Rel_hm h hg).1
  exact BP_BE (Rel_dx h hg (by omega) (Rel_dx h hg (by omega) (BP_z 0))) (by show 0 + 4 * nn g * 1 + 4 * nn g * 1 < 32768; omega)
theorem Rel_seB {N : Nat → Int32} {S Wt L : Nat → Nat → Int32} {sh : Nat → Int32} {pv : Int32} {st wt sm nu : Nat → Int32} {to : Nat → Int64} {it : Int32} {nn : Nat → Nat} {vv : Nat → Nat → Nat} {qq : Nat → Nat → Int} (h : Rel N S Wt L sh pv st wt sm nu to it nn vv qq) : ∀ g z, g < 4 → (z = 2 ∨ z = 4 ∨ z = 6) → 1 ≤ nn g → BE (dxq (dxq (dxq z0 1 (vv g) (nn g) 1) 1 (vv g) (nn g) z) (-1) (vv g) (nn g) (z + 1)) := by
  intro g z hg hz _
  have h1 := (Rel_hm h hg).1
  exact BP_BE (Rel_dx h hg (by omega) (Rel_dx h hg (by omega) (Rel_dx h hg (by omega) (BP_z 0)))) (by show 0 + 4 * nn g * 1 + 4 * nn g * 1 + 4 * nn g * 1 < 32768; omega)
/-- both lists of cells, side by side -/
def RelW (ad bd : Nat → Nat) (k : Nat → ClassId) (w1 w2 : va_W) : Prop := ∃ (N : Nat → Int32) (S Wt L : Nat → Nat → Int32) (T : Nat → Int32) (G : Nat → Nat → Int64) (E su pa tr sh : Nat → Int32) (pv : Int32) (st wt sm nu po mh up lo : Nat → Int32) (li : Int32) (ro so un to : Nat → Int64) (it : Int32) (nn : Nat → Nat) (vv : Nat → Nat → Nat) (qq : Nat → Nat → Int), w1 = TBw ad k N S Wt L T G E su pa tr sh pv ∧ w2 = MWw bd k st wt sm nu po mh up lo li ro so un to it ∧ Rel N S Wt L sh pv st wt sm nu to it nn vv qq
