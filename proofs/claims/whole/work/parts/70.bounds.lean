theorem upv_cong {e f : Nat → Int} : ∀ {i : Nat}, (∀ j, j < i → e j = f j) → upv e i = upv f i
  | 0, _ => rfl
  | i + 1, h => by rw [upv, upv, upv_cong (fun j hj => h j (Nat.lt_succ_of_lt hj)), h i (Nat.lt_succ_self i)]
theorem upv_np {e : Nat → Int} : ∀ {i : Nat}, (∀ j, j < i → e j ≤ 0) → upv e i = 1
  | 0, _ => rfl
  | i + 1, h => by
    rw [upv, upv_np (fun j hj => h j (Nat.lt_succ_of_lt hj)), Int.toNat_of_nonpos (h i (Nat.lt_succ_self i)), Nat.pow_zero]
theorem upv_add_le (a b : Nat → Int) : ∀ i, upv (fun j => a j + b j) i ≤ upv a i * upv b i
  | 0 => Nat.le_refl _
  | i + 1 => by
    rw [upv, upv, upv]
    have h1 := upv_add_le a b i
    have h2 : pr6 i ^ (a i + b i).toNat ≤ pr6 i ^ (a i).toNat * pr6 i ^ (b i).toNat := by
      rw [← Nat.pow_add]
      exact Nat.pow_le_pow_right (pr6_pos i) (by omega)
    calc _ ≤ (upv a i * upv b i) * (pr6 i ^ (a i).toNat * pr6 i ^ (b i).toNat) := Nat.mul_le_mul h1 h2
      _ = _ := by ac_rfl
theorem upv_mul (a : Nat → Int) (t : Nat) : ∀ i, upv (fun j => (t : Int) * a j) i = upv a i ^ t
  | 0 => by rw [upv, upv, Nat.one_pow]
  | i + 1 => by
    rw [upv, upv, upv_mul a t i, Nat.mul_pow, ← Nat.pow_mul]
    congr 2
    rcases Int.le_total 0 (a i) with h | h
    · rw [Int.toNat_mul (Int.natCast_nonneg _) h, Int.toNat_natCast, Nat.mul_comm]
    · rw [Int.toNat_of_nonpos h, Int.toNat_of_nonpos (Int.mul_nonpos_of_nonneg_of_nonpos (Int.natCast_nonneg _) h), Nat.zero_mul]
/-- both products stay under 2^B -/
def BP (e : Nat → Int) (B : Nat) : Prop := upv e 6 ≤ 2 ^ B ∧ upv (ng e) 6 ≤ 2 ^ B
theorem BP_le {e : Nat → Int} {A B : Nat} (h : BP e A) (l : A ≤ B) : BP e B :=
  ⟨Nat.le_trans h.1 (Nat.pow_le_pow_right (by decide) l), Nat.le_trans h.2 (Nat.pow_le_pow_right (by decide) l)⟩
theorem BP_cong {e f : Nat → Int} {B : Nat} (h : BP e B) (q : ∀ j, j < 6 → f j = e j) : BP f B :=
  ⟨by rw [upv_cong q]; exact h.1, by rw [upv_cong (f := ng e) (fun j hj => by unfold ng; rw [q j hj])]; exact h.2⟩
theorem BP_z (B : Nat) : BP (fun _ => 0) B := ⟨by rw [upv_np (fun _ _ => Int.le_refl _)]; exact Nat.one_le_two_pow, by rw [upv_np (e := ng (fun _ => 0)) (fun _ _ => (by decide : -(0 : Int) ≤ 0))]; exact Nat.one_le_two_pow⟩
theorem BP_ng {e : Nat → Int} {B : Nat} (h : BP e B) : BP (ng e) B := ⟨h.2, by rw [upv_cong (f := e) (fun j _ => by unfold ng; exact Int.neg_neg _)]; exact h.1⟩
theorem BP_add {a b : Nat → Int} {A B : Nat} (h : BP a A) (g : BP b B) : BP (fun j => a j + b j) (A + B) := by
  refine ⟨Nat.le_trans (upv_add_le a b 6) ?_, ?_⟩
  · rw [Nat.pow_add]; exact Nat.mul_le_mul h.1 g.1
  · rw [upv_cong (f := fun j => ng a j + ng b j) (fun j _ => by unfold ng; exact Int.neg_add)]
    refine Nat.le_trans (upv_add_le (ng a) (ng b) 6) ?_
    rw [Nat.pow_add]; exact Nat.mul_le_mul h.2 g.2
theorem BP_mulN {a : Nat → Int} {A : Nat} (h : BP a A) (t : Nat) : BP (fun j => (t : Int) * a j) (A * t) := by
  refine ⟨?_, ?_⟩
  · rw [upv_mul, Nat.pow_mul]; exact Nat.pow_le_pow_left h.1 t
  · rw [upv_cong (f := fun j => (t : Int) * ng a j) (fun j _ => by unfold ng; rw [Int.mul_neg]), upv_mul, Nat.pow_mul]; exact Nat.pow_le_pow_left h.2 t
theorem BP_mul {a : Nat → Int} {A : Nat} (h : BP a A) (t : Int) : BP (fun j => t * a j) (A * t.natAbs) := by
  rcases Int.natAbs_eq t with q | q
  · exact BP_cong (BP_mulN h t.natAbs) (fun j _ => by show t * a j = (t.natAbs : Int) * a j; rw [← q])
  · refine BP_cong (BP_ng (BP_mulN h t.natAbs)) (fun j _ => ?_)
    show t * a j = -((t.natAbs : Int) * a j)
    rw [← Int.neg_mul, ← q]
theorem pw_nn : ∀ a, a ≤ 16 → ∀ j, j < 6 → 0 ≤ pwI a j := by decide +kernel
theorem pw_le : ∀ a, a ≤ 16 → upv (pwI a) 6 ≤ 2 ^ 4 := by decide +kernel
theorem pw_up : ∀ a, a ≤ 16 → upv (pwI a) 6 = if a = 0 then 1 else a := by decide +kernel
theorem pw_BP {a : Nat} (h : a ≤ 16) : BP (pwI a) 4 := ⟨pw_le a h, by rw [upv_np (fun j hj => by have := pw_nn a h j hj; unfold ng; omega)]; decide⟩
theorem npw_up {a : Nat} (h : a ≤ 16) : upv (fun j => (a : Int) * pwI a j) 6 ≤ 2 ^ (4 * a) := by rw [upv_mul, Nat.pow_mul]; exact Nat.pow_le_pow_left (pw_le a h) a
theorem ds_nn {s : Nat → Nat} (h : ∀ i, s i ≤ 16) {j : Nat} (hj : j < 6) : ∀ i, 0 ≤ dsum s i j
  | 0 => Int.le_refl _
  | i + 1 => Int.add_nonneg (ds_nn h hj i) (Int.mul_nonneg (Int.natCast_nonneg _) (pw_nn _ (h i) j hj))
theorem ds_up {s : Nat → Nat} (h : ∀ i, s i ≤ 16) : ∀ i, upv (dsum s i) 6 ≤ 2 ^ (4 * fb_sm s i)
  | 0 => by rw [show upv (dsum s 0) 6 = 1 from upv_np (fun _ _ => Int.le_refl _)]; exact Nat.one_le_two_pow
  | i + 1 => by
    refine Nat.le_trans (upv_add_le (dsum s i) (fun j => (s i : Int) * pwI (s i) j) 6) ?_
    rw [fb_sm_succ, Nat.mul_add, Nat.pow_add]
    exact Nat.mul_le_mul (ds_up h i) (npw_up (h i))
theorem dq_BP {v : Nat → Nat} {n z : Nat} (hn : n ≤ 16) (hs : ∀ i, gsN v z 27 i ≤ 16) (hm : fb_sm (gsN v z 27) 27 ≤ n) : BP (dq v n z) (4 * n) := by
  refine ⟨?_, ?_⟩
  · rw [upv_cong (f := fun j => (n : Int) * pwI n j + -dsum (gsN v z 27) 27 j) (fun j _ => by unfold dq; omega)]
    refine Nat.le_trans (upv_add_le (fun j => (n : Int) * pwI n j) (fun j => -dsum (gsN v z 27) 27 j) 6) ?_
    rw [upv_np (e := fun j => -dsum (gsN v z 27) 27 j) (fun j hj => by have := ds_nn hs hj 27; omega), Nat.mul_one]
    exact npw_up hn
  · rw [upv_cong (f := fun j => dsum (gsN v z 27) 27 j + -((n : Int) * pwI n j)) (fun j _ => by unfold ng dq; omega)]
    refine Nat.le_trans (upv_add_le (fun j => dsum (gsN v z 27) 27 j) (fun j => -((n : Int) * pwI n j)) 6) ?_
    rw [upv_np (e := fun j => -((n : Int) * pwI n j)) (fun j hj => by have := Int.mul_nonneg (Int.natCast_nonneg n) (pw_nn n hn j hj); omega), Nat.mul_one]
    exact Nat.le_trans (ds_up hs 27) (Nat.pow_le_pow_right (by decide) (by omega))
theorem dxq_BP {e : Nat → Int} {B : Nat} {tm : Int} {v : Nat → Nat} {n z : Nat} (h : BP e B) (hn : n ≤ 16) (hs : ∀ i, gsN v z 27 i ≤ 16) (hm : fb_sm (gsN v z 27) 27 ≤ n) : BP (dxq e tm v n z) (B + 4 * n * tm.natAbs) := BP_add h (BP_mul (dq_BP hn hs hm) tm)
theorem lxp_BP {e : Nat → Int} {B : Nat} {tm : Int} {q : Nat → Int} {v : Nat → Nat} {n : Nat} (h : BP e B) (hn : n ≤ 16) (hs : ∀ z i, gsN v z 27 i ≤ 16) (hm : ∀ z, z < 8 → fb_sm (gsN v z 27) 27 ≤ n) (hq : ∀ z, z < 8 → -2 ≤ q z ∧ q z ≤ 2) : ∀ i, i ≤ 7 → BP (lxp e v n q tm i) (B + i * (8 * n * tm.natAbs))
  | 0, _ => by rw [Nat.zero_mul, Nat.add_zero]; exact h
  | i + 1, hi => by
    have h1 := dxq_BP (tm := q (i + 1) * tm) (lxp_BP (tm := tm) h hn hs hm hq i (by omega)) hn (hs (i + 1)) (hm (i + 1) (by omega))
    refine BP_le h1 ?_
    have h2 := hq (i + 1) (by omega)
    have h3 : (q (i + 1)).natAbs ≤ 2 := by omega
    rw [Int.natAbs_mul, Nat.succ_mul i, ← Nat.add_assoc]
    refine Nat.add_le_add_left ?_ _
    calc 4 * n * ((q (i + 1)).natAbs * tm.natAbs) ≤ 4 * n * (2 * tm.natAbs) := Nat.mul_le_mul_left _ (Nat.mul_le_mul_right _ h3)
      _ = 8 * n * tm.natAbs := by rw [← Nat.mul_assoc, show 4 * n * 2 = 8 * n by omega]
theorem upv_at {e : Nat → Int} {j n : Nat} (h : j < n) : pr6 j ^ (e j).toNat ≤ upv e n := by
  refine Nat.le_trans ?_ (upv_mono e (show j + 1 ≤ n from h))
  rw [upv]
  exact Nat.le_mul_of_pos_left _ (upv_pos e j)
theorem pr6_two : ∀ j, j < 6 → 2 ≤ pr6 j := by decide
theorem BP_ex {e : Nat → Int} {B : Nat} (h : upv e 6 ≤ 2 ^ B) {j : Nat} (hj : j < 6) : e j ≤ B := by
  have h1 : 2 ^ (e j).toNat ≤ 2 ^ B := Nat.le_trans (Nat.pow_le_pow_left (pr6_two j hj) _) (Nat.le_trans (upv_at hj) h)
  have h2 := (Nat.pow_le_pow_iff_right (by decide : 1 < 2)).mp h1
  omega
theorem big_eq (k : Nat) : (4294967296 : Nat) ^ k = 2 ^ (32 * k) := (Nat.pow_mul 2 32 k).symm
theorem BP_BE {e : Nat → Int} {B : Nat} (h : BP e B) (hB : B < 32768) : BE e := by
  have hp : ∀ k, k = 1024 → B < 32 * k → (2 : Nat) ^ B < 4294967296 ^ k := fun k _ h => by rw [big_eq]; exact Nat.pow_lt_pow_right (by decide) h
  have hp := hp 1024 rfl (by omega)
  refine ⟨fun j hj => ⟨?_, ?_⟩, ?_, ?_⟩
  · have := BP_ex h.2 hj; unfold ng at this; omega
  · have := BP_ex h.1 hj; omega
  · exact Nat.lt_of_le_of_lt h.1 hp
  · exact Nat.lt_of_le_of_lt h.2 hp
