/-- a number held between a * 2^m and b * 2^m, squared and cut to some hundred bits -/
def sqs (r : Nat × Nat × Nat) : Nat × Nat × Nat :=
  (r.1 * r.1 / 2 ^ ((r.2.1 * r.2.1).log2 - 100), (r.2.1 * r.2.1 + (2 ^ ((r.2.1 * r.2.1).log2 - 100) - 1)) / 2 ^ ((r.2.1 * r.2.1).log2 - 100), 2 * r.2.2 + ((r.2.1 * r.2.1).log2 - 100))
def sqi (p : Nat) : Nat → Nat × Nat × Nat
  | 0 => (p, p, 0)
  | k + 1 => sqs (sqi p k)
def sqp (p : Nat) : Nat → Nat
  | 0 => p
  | k + 1 => sqp p k * sqp p k
theorem sqp_pow (p k : Nat) : sqp p k = p ^ 2 ^ k := by
  induction k with
  | zero => rw [sqp, Nat.pow_zero, Nat.pow_one]
  | succ k ih => rw [sqp, ih, ← Nat.pow_add, Nat.pow_succ, Nat.mul_two]
theorem sq_in {a b m s P : Nat} (h : a * 2 ^ m ≤ P) (g : P ≤ b * 2 ^ m) : a * a / 2 ^ s * 2 ^ (2 * m + s) ≤ P * P ∧ P * P ≤ (b * b + (2 ^ s - 1)) / 2 ^ s * 2 ^ (2 * m + s) := by
  have e1 : 2 ^ (2 * m + s) = 2 ^ s * (2 ^ m * 2 ^ m) := by rw [← Nat.pow_add, ← Nat.pow_add]; congr 1; omega
  have hs : 0 < 2 ^ s := Nat.pow_pos (by decide)
  rw [e1, ← Nat.mul_assoc, ← Nat.mul_assoc ((b * b + (2 ^ s - 1)) / 2 ^ s)]
  constructor
  · calc a * a / 2 ^ s * 2 ^ s * (2 ^ m * 2 ^ m) ≤ a * a * (2 ^ m * 2 ^ m) := Nat.mul_le_mul_right _ (Nat.div_mul_le_self _ _)
      _ = (a * 2 ^ m) * (a * 2 ^ m) := by ac_rfl
      _ ≤ P * P := Nat.mul_le_mul h h
  · have h2 : b * b ≤ (b * b + (2 ^ s - 1)) / 2 ^ s * 2 ^ s := by
      have h3 := Nat.div_add_mod (b * b + (2 ^ s - 1)) (2 ^ s)
      have h4 := Nat.mod_lt (b * b + (2 ^ s - 1)) hs
      rw [Nat.mul_comm] at h3
      omega
    calc P * P ≤ (b * 2 ^ m) * (b * 2 ^ m) := Nat.mul_le_mul g g
      _ = b * b * (2 ^ m * 2 ^ m) := by ac_rfl
      _ ≤ _ := Nat.mul_le_mul_right _ h2
theorem sqi_in (p : Nat) : ∀ k, (sqi p k).1 * 2 ^ (sqi p k).2.2 ≤ sqp p k ∧ sqp p k ≤ (sqi p k).2.1 * 2 ^ (sqi p k).2.2
  | 0 => by rw [sqi, sqp]; show p * 2 ^ 0 ≤ p ∧ p ≤ p * 2 ^ 0; omega
  | k + 1 => sq_in (sqi_in p k).1 (sqi_in p k).2
theorem cut_in {P a b m c : Nat} (hm : m ≤ c) (h1 : 2 ^ (c - m) ≤ a) (h2 : b ≤ 2 ^ (c + 1 - m)) (ha : a * 2 ^ m ≤ P) (hb : P ≤ b * 2 ^ m) : 2 ^ c ≤ P ∧ P ≤ 2 ^ (c + 1) := by
  constructor
  · refine Nat.le_trans ?_ ha
    rw [show c = (c - m) + m by omega, Nat.pow_add]
    exact Nat.mul_le_mul_right _ h1
  · refine Nat.le_trans hb ?_
    rw [show c + 1 = (c + 1 - m) + m by omega, Nat.pow_add]
    exact Nat.mul_le_mul_right _ h2
def cN (j : Nat) : Nat := ([1099511627776, 1742684699131, 2552986939188, 3086719380096, 3803685290187, 4068676497980] : List Nat).getD j 0
def sq_ok (c : Nat) (r : Nat × Nat × Nat) : Bool := decide (r.2.2 ≤ c) && (decide (2 ^ (c - r.2.2) ≤ r.1) && decide (r.2.1 ≤ 2 ^ (c + 1 - r.2.2)))
theorem sq_all : ∀ j, j < 6 → sq_ok (cN j) (sqi (pr6 j) 40) = true := by decide +kernel
theorem lg_in : ∃ K : Nat, 0 < K ∧ ∀ j, j < 6 → 2 ^ cN j ≤ pr6 j ^ K ∧ pr6 j ^ K ≤ 2 ^ (cN j + 1) := by
  obtain ⟨k, hk⟩ : ∃ k, k = 40 := ⟨40, rfl⟩
  refine ⟨2 ^ k, Nat.pow_pos (by decide), fun j hj => ?_⟩
  have h := sq_all j hj
  rw [← hk] at h
  unfold sq_ok at h
  simp only [Bool.and_eq_true, decide_eq_true_eq] at h
  rw [← sqp_pow]
  exact cut_in h.1 h.2.1 h.2.2 (sqi_in _ _).1 (sqi_in _ _).2
/-- sum of f j times the positive part of e j -/
def ups (f : Nat → Nat) (e : Nat → Int) : Nat → Nat
  | 0 => 0
  | i + 1 => ups f e i + f i * (e i).toNat
theorem ups_lo {K : Nat} {f : Nat → Nat} {e : Nat → Int} : ∀ {i : Nat}, (∀ j, j < i → 2 ^ f j ≤ pr6 j ^ K) → 2 ^ ups f e i ≤ upv e i ^ K
  | 0, _ => by rw [upv, Nat.one_pow]; exact Nat.le_refl _
  | i + 1, h => by
    rw [ups, upv, Nat.mul_pow, Nat.pow_add]
    refine Nat.mul_le_mul (ups_lo (fun j hj => h j (by omega))) ?_
    rw [Nat.pow_mul, ← Nat.pow_mul, ← Nat.pow_mul, Nat.mul_comm (e i).toNat K, Nat.pow_mul, Nat.pow_mul]
    exact Nat.pow_le_pow_left (h i (by omega)) _
theorem ups_hi {K : Nat} {f : Nat → Nat} {e : Nat → Int} : ∀ {i : Nat}, (∀ j, j < i → pr6 j ^ K ≤ 2 ^ f j) → upv e i ^ K ≤ 2 ^ ups f e i
  | 0, _ => by rw [upv, Nat.one_pow]; exact Nat.le_refl _
  | i + 1, h => by
    rw [ups, upv, Nat.mul_pow, Nat.pow_add]
    refine Nat.mul_le_mul (ups_hi (fun j hj => h j (by omega))) ?_
    rw [Nat.pow_mul, ← Nat.pow_mul, ← Nat.pow_mul, Nat.mul_comm (e i).toNat K, Nat.pow_mul, Nat.pow_mul]
    exact Nat.pow_le_pow_left (h i (by omega)) _
theorem ups_cmp {e : Nat → Int} (h : upv e 6 ≤ upv (ng e) 6) : ups cN e 6 ≤ ups (fun j => cN j + 1) (ng e) 6 := by
  obtain ⟨K, hK, hin⟩ := lg_in
  have h1 : 2 ^ ups cN e 6 ≤ 2 ^ ups (fun j => cN j + 1) (ng e) 6 :=
    Nat.le_trans (ups_lo (fun j hj => (hin j hj).1)) (Nat.le_trans (Nat.pow_le_pow_left h K) (ups_hi (fun j hj => (hin j hj).2)))
  exact (Nat.pow_le_pow_iff_right (by decide : 1 < 2)).mp h1
/-- the class's two sums, as whole numbers -/
def csZ (e : Nat → Int) : Nat → Int
  | 0 => 0
  | i + 1 => csZ e i + e i * (cN i : Int)
def caZ (e : Nat → Int) : Nat → Int
  | 0 => 0
  | i + 1 => caZ e i + ((e i).natAbs : Int)
theorem cs_ups (e : Nat → Int) : ∀ i, csZ e i = (ups cN e i : Int) - (ups cN (ng e) i : Int)
  | 0 => rfl
  | i + 1 => by
    rw [csZ, cs_ups e i, ups, ups]
    have : e i * (cN i : Int) = (cN i : Int) * ((e i).toNat : Int) - (cN i : Int) * ((ng e i).toNat : Int) := by
      rw [← Int.mul_sub, Int.mul_comm]; congr 1; unfold ng; omega
    rw [Int.natCast_add, Int.natCast_add, Int.natCast_mul, Int.natCast_mul]; omega
theorem ups_1 (e : Nat → Int) : ∀ i, (ups (fun j => cN j + 1) e i : Int) ≤ (ups cN e i : Int) + caZ e i
  | 0 => Int.le_refl _
  | i + 1 => by
    have h := ups_1 e i
    rw [ups, ups, caZ, Nat.add_mul, Nat.one_mul, Int.natCast_add, Int.natCast_add, Int.natCast_add]
    omega
theorem caZ_ng (e : Nat → Int) : ∀ i, caZ (ng e) i = caZ e i
  | 0 => rfl
  | i + 1 => by rw [caZ, caZ, caZ_ng e i]; unfold ng; rw [Int.natAbs_neg]
theorem csZ_ng (e : Nat → Int) : ∀ i, csZ (ng e) i = -csZ e i
  | 0 => rfl
  | i + 1 => by rw [csZ, csZ, csZ_ng e i]; unfold ng; rw [Int.neg_mul, Int.neg_add]
theorem ng_ng (e : Nat → Int) : ng (ng e) = e := by funext j; unfold ng; exact Int.neg_neg _
theorem cs_gt {e : Nat → Int} (h : caZ e 6 < csZ e 6) : upv (ng e) 6 < upv e 6 := by
  rcases Nat.lt_or_ge (upv (ng e) 6) (upv e 6) with q | q
  · exact q
  · have h1 := ups_cmp q
    have h2 := ups_1 (ng e) 6
    have h3 := cs_ups e 6
    rw [caZ_ng] at h2
    omega
theorem cs_lt {e : Nat → Int} (h : csZ e 6 < -caZ e 6) : upv e 6 < upv (ng e) 6 := by
  have := cs_gt (e := ng e) (by rw [csZ_ng, caZ_ng]; omega)
  rw [ng_ng] at this; exact this
theorem lg_N : ∀ j, j < 6 → tb_logs.getD j 0 = Int64.ofInt (cN j : Int) := by decide +kernel
theorem zI_L {z : Int} (h : -1000000 ≤ z ∧ z ≤ 1000000) : (zI z).toInt64 = Int64.ofInt z := by
  unfold zI
  rw [← Int64.toInt_inj, Int32.toInt_toInt64, Int32.toInt_ofInt_of_le (by omega) (by omega), Int64.toInt_ofInt_of_le (by omega) (by omega)]
theorem cs_Z {e : Nat → Int} (h : ∀ j, j < 6 → -100000 ≤ e j ∧ e j ≤ 100000) : ∀ i, i ≤ 6 → cs (zT e) i = Int64.ofInt (csZ e i)
  | 0, _ => rfl
  | i + 1, hi => by
    rw [cs, csZ, cs_Z h i (by omega), lg_N i (by omega), show zT e i = zI (e i) from rfl, zI_L (by have := h i (by omega); omega), ← Int64.ofInt_mul, ← Int64.ofInt_add]
theorem ab_Z {z : Int} (h : -100000 ≤ z ∧ z ≤ 100000) : (if 0 ≤ zI z then zI z else 0 - zI z) = zI (z.natAbs : Int) := by
  have e0 : (0 : Int32) ≤ zI z ↔ 0 ≤ z := by
    unfold zI
    rw [Int32.le_iff_toInt_le, Int32.toInt_ofInt_of_le (by omega) (by omega)]; rfl
  by_cases q : 0 ≤ z
  · rw [if_pos (e0.mpr q)]; congr 1; omega
  · rw [if_neg (fun c => q (e0.mp c)), Int32.zero_sub]; unfold zI; rw [← Int32.ofInt_neg]; congr 1; omega
theorem ca_Z {e : Nat → Int} (h : ∀ j, j < 6 → -100000 ≤ e j ∧ e j ≤ 100000) : ∀ i, i ≤ 6 → ca (zT e) i = Int64.ofInt (caZ e i)
  | 0, _ => rfl
  | i + 1, hi => by
    have h1 := h i (by omega)
    rw [ca, caZ, ca_Z h i (by omega), show zT e i = zI (e i) from rfl, ab_Z h1, zI_L (by omega), ← Int64.ofInt_add]
theorem cN_le : ∀ j, j < 6 → (cN j : Int) ≤ 5000000000000 := by decide +kernel
theorem csZ_b {e : Nat → Int} (h : ∀ j, j < 6 → -100000 ≤ e j ∧ e j ≤ 100000) : ∀ i : Nat, i ≤ 6 → -((i : Int) * 500000000000000000) ≤ csZ e i ∧ csZ e i ≤ (i : Int) * 500000000000000000
  | 0, _ => by show -((0 : Int) * 500000000000000000) ≤ 0 ∧ (0 : Int) ≤ (0 : Int) * 500000000000000000; decide
  | i + 1, hi => by
    have h1 := h i (by omega)
    have h2 := csZ_b h i (by omega)
    have h3 := cN_le i (by omega)
    have h4 : (0 : Int) ≤ (cN i : Int) := Int.natCast_nonneg _
    have h5 : (e i * (cN i : Int)) ≤ 100000 * 5000000000000 := Int.le_trans (Int.mul_le_mul_of_nonneg_right h1.2 h4) (Int.mul_le_mul_of_nonneg_left h3 (by decide))
    have h6 : -(100000 * 5000000000000) ≤ (e i * (cN i : Int)) := by
      have : -100000 * (cN i : Int) ≤ e i * (cN i : Int) := Int.mul_le_mul_of_nonneg_right h1.1 h4
      omega
    rw [csZ]
    have h7 : ((i + 1 : Nat) : Int) = (i : Int) + 1 := by omega
    rw [h7]
    omega
theorem caZ_b {e : Nat → Int} (h : ∀ j, j < 6 → -100000 ≤ e j ∧ e j ≤ 100000) : ∀ i : Nat, i ≤ 6 → 0 ≤ caZ e i ∧ caZ e i ≤ (i : Int) * 100000
  | 0, _ => by show (0 : Int) ≤ 0 ∧ (0 : Int) ≤ (0 : Int) * 100000; decide
  | i + 1, hi => by
    have h1 := h i (by omega)
    have h2 := caZ_b h i (by omega)
    rw [caZ]
    have h7 : ((i + 1 : Nat) : Int) = (i : Int) + 1 := by omega
    rw [h7]
    omega
theorem sgs_cmp {e : Nat → Int} (h : ∀ j, j < 6 → -100000 ≤ e j ∧ e j ≤ 100000) : f_sgs (zT e) e = f_cmp (upv e 6) (upv (ng e) 6) := by
  unfold f_sgs
  rw [cs_Z h 6 (Nat.le_refl _), ca_Z h 6 (Nat.le_refl _), ← Int64.ofInt_neg]
  have b1 := csZ_b h 6 (Nat.le_refl _)
  have b2 := caZ_b h 6 (Nat.le_refl _)
  have e1 : Int64.ofInt (caZ e 6) < Int64.ofInt (csZ e 6) ↔ caZ e 6 < csZ e 6 := by
    rw [Int64.lt_iff_toInt_lt, Int64.toInt_ofInt_of_le (by omega) (by omega), Int64.toInt_ofInt_of_le (by omega) (by omega)]
  have e2 : Int64.ofInt (csZ e 6) < Int64.ofInt (-caZ e 6) ↔ csZ e 6 < -caZ e 6 := by
    rw [Int64.lt_iff_toInt_lt, Int64.toInt_ofInt_of_le (by omega) (by omega), Int64.toInt_ofInt_of_le (by omega) (by omega)]
  by_cases q1 : caZ e 6 < csZ e 6
  · have := cs_gt q1
    rw [if_pos (e1.mpr q1)]; unfold f_cmp; rw [if_neg (by omega), if_pos this]
  · rw [if_neg (fun c => q1 (e1.mp c))]
    by_cases q2 : csZ e 6 < -caZ e 6
    · have := cs_lt q2
      rw [if_pos (e2.mpr q2)]; unfold f_cmp; rw [if_pos this]
    · rw [if_neg (fun c => q2 (e2.mp c))]
      by_cases q3 : ∀ j, j < 6 → zT e j = 0
      · rw [if_pos q3]
        have hz : ∀ j, j < 6 → e j = 0 := fun j hj => by
          have h1 := q3 j hj
          have h2 := h j hj
          have h3 : (zI (e j)).toInt = 0 := by rw [show zI (e j) = 0 from h1]; rfl
          unfold zI at h3
          rw [Int32.toInt_ofInt_of_le (by omega) (by omega)] at h3
          exact h3
        rw [upv_np (fun j hj => by rw [hz j hj]; exact Int.le_refl _), upv_np (e := ng e) (fun j hj => by unfold ng; rw [hz j hj]; decide)]
        rfl
      · rw [if_neg q3]
