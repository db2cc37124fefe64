theorem cmp_ng (a b : Nat) : f_cmp a b < 0 ↔ a < b := by
  unfold f_cmp
  by_cases h : a < b
  · rw [if_pos h]; exact ⟨fun _ => h, fun _ => by decide⟩
  · rw [if_neg h]
    refine ⟨fun c => absurd c ?_, fun c => absurd c h⟩
    split <;> decide
theorem cmp_0 (a b : Nat) : f_cmp a b = 0 ↔ a = b := by
  unfold f_cmp
  by_cases h : a < b
  · rw [if_pos h]; exact ⟨fun c => absurd c (by decide), fun c => by omega⟩
  · rw [if_neg h]
    by_cases g : b < a
    · rw [if_pos g]; exact ⟨fun c => absurd c (by decide), fun c => by omega⟩
    · rw [if_neg g]; exact ⟨fun _ => by omega, fun _ => rfl⟩
theorem upv_rat (a b : Nat → Int) : ∀ i, upv (fun j => a j + b j) i * (upv (ng a) i * upv (ng b) i) = upv (ng (fun j => a j + b j)) i * (upv a i * upv b i)
  | 0 => rfl
  | i + 1 => by
    have h := upv_rat a b i
    have h2 : pr6 i ^ (a i + b i).toNat * (pr6 i ^ (ng a i).toNat * pr6 i ^ (ng b i).toNat) = pr6 i ^ (ng (fun j => a j + b j) i).toNat * (pr6 i ^ (a i).toNat * pr6 i ^ (b i).toNat) := by
      rw [← Nat.pow_add, ← Nat.pow_add, ← Nat.pow_add, ← Nat.pow_add]
      congr 1
      show (a i + b i).toNat + ((-a i).toNat + (-b i).toNat) = (-(a i + b i)).toNat + ((a i).toNat + (b i).toNat)
      omega
    rw [upv, upv, upv, upv, upv, upv]
    calc _ = (upv (fun j => a j + b j) i * (upv (ng a) i * upv (ng b) i)) * (pr6 i ^ (a i + b i).toNat * (pr6 i ^ (ng a i).toNat * pr6 i ^ (ng b i).toNat)) := by ac_rfl
      _ = (upv (ng (fun j => a j + b j)) i * (upv a i * upv b i)) * (pr6 i ^ (ng (fun j => a j + b j) i).toNat * (pr6 i ^ (a i).toNat * pr6 i ^ (b i).toNat)) := by rw [h, h2]
      _ = _ := by ac_rfl
/-- the sum is not below nought -/
def PN (e : Nat → Int) : Prop := upv (ng e) 6 ≤ upv e 6
theorem PN_cong {e f : Nat → Int} (q : ∀ j, j < 6 → f j = e j) : PN f ↔ PN e := by
  unfold PN; rw [upv_cong q, upv_cong (e := ng f) (f := ng e) (fun j hj => by unfold ng; rw [q j hj])]
theorem pw2 : ∀ j, j < 6 → pwI 2 j = if j = 0 then 1 else 0 := by decide +kernel
theorem pw2_up (t : Nat) : upv (fun j => (t : Int) * pwI 2 j) 6 = 2 ^ t ∧ upv (ng (fun j => (t : Int) * pwI 2 j)) 6 = 1 := by
  refine ⟨?_, upv_np (fun j hj => ?_)⟩
  · rw [upv_mul, show upv (pwI 2) 6 = 2 from by decide +kernel]
  · have := Int.mul_nonneg (Int.natCast_nonneg t) (pw_nn 2 (by decide) j hj)
    show -((t : Int) * pwI 2 j) ≤ 0
    omega
theorem PN_up {e f : Nat → Int} {t : Nat} (q : ∀ j, j < 6 → f j = e j + (t : Int) * pwI 2 j) (h : PN e) : PN f := by
  refine (PN_cong q).mpr ?_
  have h1 := upv_rat e (fun j => (t : Int) * pwI 2 j) 6
  rw [(pw2_up t).1, (pw2_up t).2, Nat.mul_one] at h1
  unfold PN at h ⊢
  refine Nat.le_of_mul_le_mul_right (c := upv (ng e) 6) ?_ (upv_pos _ _)
  rw [h1]
  refine Nat.mul_le_mul_left _ (Nat.le_trans h ?_)
  exact Nat.le_mul_of_pos_right _ (Nat.pow_pos (by decide))
theorem PN_hi {b f : Nat → Int} {t A : Nat} (hb : BP b A) (hA : A ≤ t) (q : ∀ j, j < 6 → f j = b j + (t : Int) * pwI 2 j) : PN f := by
  refine (PN_cong q).mpr ?_
  have h1 := upv_rat b (fun j => (t : Int) * pwI 2 j) 6
  rw [(pw2_up t).1, (pw2_up t).2, Nat.mul_one] at h1
  unfold PN
  refine Nat.le_of_mul_le_mul_right (c := upv (ng b) 6) ?_ (upv_pos _ _)
  rw [h1]
  refine Nat.mul_le_mul_left _ (Nat.le_trans hb.2 ?_)
  refine Nat.le_trans (Nat.pow_le_pow_right (by decide) hA) ?_
  exact Nat.le_mul_of_pos_left _ (upv_pos _ _)
theorem PN_lo {b f : Nat → Int} {t A : Nat} (hb : BP b A) (hA : A < t) (q : ∀ j, j < 6 → f j + (t : Int) * pwI 2 j = b j) : ¬ PN f := by
  intro h
  have h1 := upv_rat f (fun j => (t : Int) * pwI 2 j) 6
  rw [(pw2_up t).1, (pw2_up t).2, Nat.mul_one, upv_cong (f := b) q, upv_cong (e := ng (fun j => f j + (t : Int) * pwI 2 j)) (f := ng b) (fun j hj => congrArg (fun x => -x) (q j hj))] at h1
  unfold PN at h
  have h2 : upv (ng f) 6 * 2 ^ A ≥ upv (ng b) 6 * (upv f 6 * 2 ^ t) := by
    rw [← h1, Nat.mul_comm]; exact Nat.mul_le_mul_right _ hb.1
  have h3 : upv f 6 * 2 ^ A < upv f 6 * 2 ^ t := Nat.mul_lt_mul_of_pos_left (Nat.pow_lt_pow_right (by decide) hA) (upv_pos _ _)
  have h4 : upv f 6 * 2 ^ t ≤ upv (ng b) 6 * (upv f 6 * 2 ^ t) := Nat.le_mul_of_pos_left _ (upv_pos _ _)
  have h5 : upv (ng f) 6 * 2 ^ A ≤ upv f 6 * 2 ^ A := Nat.mul_le_mul_right _ h
  omega
theorem nr_PN {b : Nat → Int} {n : Nat} {c d : Int} (h : c ≤ d) (g : PN (nr b n d)) : PN (nr b n c) := by
  refine PN_up (t := (d - c).toNat * n) (fun j _ => ?_) g
  unfold nr adl
  rw [Int.add_assoc]
  congr 1
  rw [← Int.add_mul, Int.natCast_mul, Int.toNat_of_nonneg (by omega), ← Int.add_mul]
  congr 2
  omega
theorem nr_top {b : Nat → Int} {n : Nat} (hn : 1 ≤ n) (hb : BP b (896 * n)) : ¬ PN (nr b n 1000) := by
  refine PN_lo (t := 1000 * n) hb (by omega) (fun j _ => ?_)
  unfold nr adl
  rw [Int.natCast_mul, Int.add_assoc, ← Int.add_mul, ← Int.add_mul, show (-1000 + ((1000 : Nat) : Int)) = 0 from rfl, Int.zero_mul, Int.zero_mul, Int.add_zero]
theorem nr_bot {b : Nat → Int} {n : Nat} (hb : BP b (896 * n)) : PN (nr b n (-1000)) := by
  refine PN_hi (t := 1000 * n) hb (by omega) (fun j _ => ?_)
  unfold nr adl
  rw [Int.natCast_mul]; rfl
theorem sg_PN {e : Nat → Int} (h : BE e) : f_sgs (zT e) e < 0 ↔ ¬ PN e := by
  rw [sgs_cmp h.1, cmp_ng]; unfold PN; omega
theorem cm_PN (e : Nat → Int) : f_cmp (upv e 6) (upv (ng e) 6) < 0 ↔ ¬ PN e := by rw [cmp_ng]; unfold PN; omega
theorem st_hh : ∀ i, i ≤ 10 → 2048 / 2 ^ i = 2 * stp i ∧ 2048 / 2 ^ (i + 1) = stp i := by decide +kernel
theorem fd_in {b : Nat → Int} {n : Nat} (hn : 1 ≤ n) (hb : BP b (896 * n)) (hB : ∀ c, -1024 ≤ c → c ≤ 1024 → BE (nr b n c)) : ∀ i, i ≤ 11 → PN (nr b n (fd b n i)) ∧ ¬ PN (nr b n (fd b n i + ((2048 / 2 ^ i : Nat) : Int)))
  | 0, _ => by
    rw [fd]
    exact ⟨nr_PN (by decide) (nr_bot hb), fun h => nr_top hn hb (nr_PN (by decide) h)⟩
  | i + 1, hi => by
    have h := fd_in hn hb hB i (by omega)
    have h1 := st_hh i (by omega)
    have h2 := fd_lo b n i
    have h3 := fd_hi b n i
    have hE := hB (fd b n i + (stp i : Nat)) (by omega) (by omega)
    rw [fd]
    by_cases q : f_sgs (zT (nr b n (fd b n i + (stp i : Nat)))) (nr b n (fd b n i + (stp i : Nat))) < 0
    · rw [if_pos q, h1.2]
      exact ⟨h.1, (sg_PN hE).mp q⟩
    · rw [if_neg q, h1.2]
      rw [h1.1] at h
      refine ⟨Classical.byContradiction (fun c => q ((sg_PN hE).mpr c)), ?_⟩
      rw [show fd b n i + ((stp i : Nat) : Int) + ((stp i : Nat) : Int) = fd b n i + ((2 * stp i : Nat) : Int) by omega]
      exact h.2
theorem nm_in {b : Nat → Int} {n : Nat} : ∀ (r : Nat) (lo hi : Int), hi - lo ≤ r → lo < hi → PN (nr b n lo) → ¬ PN (nr b n hi) → PN (nr b n (nmf b n r lo hi)) ∧ ¬ PN (nr b n (nmf b n r lo hi + 1))
  | 0, lo, hi, h1, h2, _, _ => by omega
  | r + 1, lo, hi, h1, h2, h3, h4 => by
    rw [nmf]
    by_cases q : hi - lo ≤ 1
    · rw [if_pos q]; rw [show hi = lo + 1 by omega] at h4; exact ⟨h3, h4⟩
    · rw [if_neg q]
      by_cases g : f_cmp (upv (nr b n (lo + (hi - lo) / 2)) 6) (upv (ng (nr b n (lo + (hi - lo) / 2))) 6) < 0
      · rw [if_pos g]
        exact nm_in r lo _ (by omega) (by omega) h3 ((cm_PN _).mp g)
      · rw [if_neg g]
        exact nm_in r _ hi (by omega) (by omega) (Classical.byContradiction (fun c => g ((cm_PN _).mpr c))) h4
theorem near_eq {b : Nat → Int} {n : Nat} (hn : 1 ≤ n) (hb : BP b (896 * n)) (hB : ∀ c, -1024 ≤ c → c ≤ 1024 → BE (nr b n c)) : fd b n 11 = nmf b n 2000 (-1000) 1000 := by
  have h1 := fd_in hn hb hB 11 (Nat.le_refl _)
  have h2 := nm_in 2000 (-1000) 1000 (by decide) (by decide) (nr_bot hb) (nr_top hn hb)
  have h3 : ((2048 / 2 ^ 11 : Nat) : Int) = 1 := by decide
  rw [h3] at h1
  rcases Int.lt_trichotomy (fd b n 11) (nmf b n 2000 (-1000) 1000) with q | q | q
  · exact absurd (nr_PN (by omega) h2.1) h1.2
  · exact q
  · exact absurd (nr_PN (by omega) h1.1) h2.2
theorem nr_BP {b : Nat → Int} {n A : Nat} {c : Int} (hb : BP b A) (hc : -1024 ≤ c ∧ c ≤ 1024) : BP (nr b n c) (A + 1024 * n) := by
  refine BP_le (BP_add hb (BP_mul (a := pwI 2) (A := 1) ⟨by decide +kernel, by decide +kernel⟩ (-c * (n : Int)))) ?_
  rw [Int.natAbs_mul, Nat.one_mul, Int.natAbs_natCast]
  exact Nat.add_le_add_left (Nat.mul_le_mul_right _ (by omega)) _
/-- two products of powers of the six primes are one only where every power is nought -/
theorem pr6_cop : ∀ i, i < 6 → ∀ j, j < 6 → i ≠ j → Nat.Coprime (pr6 i) (pr6 j) := by decide +kernel
theorem upv_cop {f : Nat → Int} {j : Nat} (hj : j < 6) (hf : f j ≤ 0) : ∀ i, i ≤ 6 → Nat.Coprime (pr6 j) (upv f i)
  | 0, _ => Nat.gcd_one_right _
  | i + 1, hi => by
    rw [upv]
    refine Nat.Coprime.mul_right (upv_cop hj hf i (by omega)) ?_
    by_cases q : j = i
    · rw [← q, Int.toNat_of_nonpos hf, Nat.pow_zero]; exact Nat.gcd_one_right _
    · exact Nat.Coprime.pow_right _ (pr6_cop j hj i (by omega) q)
theorem upv_dvd {e : Nat → Int} {j : Nat} (he : 0 < e j) : ∀ {i : Nat}, j < i → pr6 j ∣ upv e i
  | 0, h => absurd h (Nat.not_lt_zero _)
  | i + 1, h => by
    rw [upv]
    by_cases q : j = i
    · rw [← q, show (e j).toNat = ((e j).toNat - 1) + 1 by omega, Nat.pow_succ]
      exact Nat.dvd_trans (Nat.dvd_mul_left _ _) (Nat.dvd_mul_left _ _)
    · exact Nat.dvd_trans (upv_dvd he (by omega)) (Nat.dvd_mul_right _ _)
theorem upv_ne {e f : Nat → Int} {j : Nat} (hj : j < 6) (he : 0 < e j) (hf : f j ≤ 0) : upv e 6 ≠ upv f 6 := by
  intro h
  have h1 := upv_dvd he hj
  rw [h] at h1
  have h2 := upv_cop hj hf 6 (Nat.le_refl _)
  have h3 : Nat.gcd (pr6 j) (upv f 6) = pr6 j := Nat.gcd_eq_left h1
  have h4 := pr6_two j hj
  unfold Nat.Coprime at h2
  omega
theorem upv_eq0 (e : Nat → Int) : f_cmp (upv e 6) (upv (ng e) 6) = 0 ↔ ∀ j, j < 6 → e j = 0 := by
  rw [cmp_0]
  constructor
  · intro h j hj
    rcases Int.lt_trichotomy (e j) 0 with q | q | q
    · exact absurd h.symm (upv_ne (e := ng e) (f := e) hj (by unfold ng; omega) (by omega))
    · exact q
    · exact absurd h (upv_ne hj q (by unfold ng; omega))
  · intro h
    rw [upv_np (fun j hj => by rw [h j hj]; exact Int.le_refl _), upv_np (e := ng e) (fun j hj => by unfold ng; rw [h j hj]; decide)]
theorem zI_eq0 {z : Int} (h : -100000 ≤ z ∧ z ≤ 100000) : zI z = 0 ↔ z = 0 := by
  constructor
  · intro q
    have h3 : (zI z).toInt = 0 := by rw [q]; rfl
    unfold zI at h3
    rw [Int32.toInt_ofInt_of_le (by omega) (by omega)] at h3
    exact h3
  · intro q; rw [q]; rfl
theorem sec_eq {a b c : Nat → Int} (ha : BE a) (hc : BE c) (hbc : ∀ j, j < 6 → b j = -c j) : f_sec (zT a) (zT b) = m_sec (f_cmp (upv a 6) (upv (ng a) 6)) (f_cmp (upv c 6) (upv (ng c) 6)) := by
  have h1 : (∀ j, j < 6 → zT a j = 0) ↔ f_cmp (upv a 6) (upv (ng a) 6) = 0 := by
    rw [upv_eq0]
    exact ⟨fun h j hj => (zI_eq0 (ha.1 j hj)).mp (h j hj), fun h j hj => (zI_eq0 (ha.1 j hj)).mpr (h j hj)⟩
  have h2 : (∀ j, j < 6 → zT b j = 0) ↔ f_cmp (upv c 6) (upv (ng c) 6) = 0 := by
    rw [upv_eq0]
    have hb : ∀ j, j < 6 → -100000 ≤ b j ∧ b j ≤ 100000 := fun j hj => by have := hc.1 j hj; rw [hbc j hj]; omega
    refine ⟨fun h j hj => ?_, fun h j hj => (zI_eq0 (hb j hj)).mpr ?_⟩
    · have := (zI_eq0 (hb j hj)).mp (h j hj); rw [hbc j hj] at this; omega
    · rw [hbc j hj, h j hj]; rfl
  unfold f_sec m_sec
  by_cases q : f_cmp (upv a 6) (upv (ng a) 6) = 0
  · rw [if_pos q, if_pos (h1.mpr q)]
  · rw [if_neg q, if_neg (fun c => q (h1.mp c))]
    by_cases g : f_cmp (upv c 6) (upv (ng c) 6) = 0
    · rw [if_pos g, if_pos (h2.mpr g)]
    · rw [if_neg g, if_neg (fun c => g (h2.mp c))]
