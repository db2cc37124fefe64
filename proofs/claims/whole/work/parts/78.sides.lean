/-! each method on both sides: the same answer, and worlds that stand side by side again -/
theorem RelW_mk {ad bd : Nat → Nat} {k : Nat → ClassId} {N : Nat → Int32} {S Wt L : Nat → Nat → Int32} {T : Nat → Int32} {G : Nat → Nat → Int64} {E su pa tr sh : Nat → Int32} {pv : Int32} {st wt sm nu po mh up lo : Nat → Int32} {li : Int32} {ro so un to : Nat → Int64} {it : Int32} {nn : Nat → Nat} {vv : Nat → Nat → Nat} {qq : Nat → Nat → Int} (h : Rel N S Wt L sh pv st wt sm nu to it nn vv qq) : RelW ad bd k (TBw ad k N S Wt L T G E su pa tr sh pv) (MWw bd k st wt sm nu po mh up lo li ro so un to it) := ⟨_, _, _, _, _, _, _, _, _, _, _, _, _, _, _, _, _, _, _, _, _, _, _, _, _, _, _, _, _, rfl, rfl, h⟩
theorem Rel_law {N : Nat → Int32} {S Wt L : Nat → Nat → Int32} {sh : Nat → Int32} {pv : Int32} {st wt sm nu : Nat → Int32} {to : Nat → Int64} {it : Int32} {nn : Nat → Nat} {vv : Nat → Nat → Nat} {qq : Nat → Nat → Int} (h : Rel N S Wt L sh pv st wt sm nu to it nn vv qq) {L' : Nat → Nat → Int32} {nu' : Nat → Int32} (j : Nat) (q : Nat → Int) (ho : ∀ i, i < 10 → i ≠ j → (∀ z, z < 8 → L' i z = L i z) ∧ ∀ z, 1 ≤ z → z < 8 → nu' (8 * i + z) = nu (8 * i + z)) (hj : (∀ z, z < 8 → L' j z = zI (q z) ∧ -2 ≤ q z ∧ q z ≤ 2) ∧ ∀ z, 1 ≤ z → z < 8 → nu' (8 * j + z) = zI (q z)) : Rel N S Wt L' sh pv st wt sm nu' to it nn vv (fun i => if i = j then q else qq i) := by
  refine ⟨h.1, fun i hi => ?_, h.2.2⟩
  by_cases e : i = j
  · subst e; simp only [if_true]; exact hj
  · simp only [if_neg e]
    obtain ⟨a1, a2⟩ := h.2.1 i hi
    obtain ⟨b1, b2⟩ := ho i hi e
    exact ⟨fun z hz => ⟨(b1 z hz).trans (a1 z hz).1, (a1 z hz).2⟩, fun z z1 z2 => (b2 z z1 z2).trans (a2 z z1 z2)⟩
theorem zI_of {x : Int32} (h1 : ¬ x < (-2)) (h2 : x ≤ nI 2) : x = zI x.toInt ∧ -2 ≤ x.toInt ∧ x.toInt ≤ 2 := by
  refine ⟨by unfold zI; exact (Int32.ofInt_toInt x).symm, ?_, ?_⟩
  · rw [Int32.lt_iff_toInt_lt] at h1
    have : (-2 : Int32).toInt = -2 := by decide
    omega
  · rw [Int32.le_iff_toInt_le] at h2
    have : (nI 2).toInt = 2 := by decide
    omega
theorem nI_4 {a b : Nat} (ha : a < 600) (hb : b < 600) {x : Int32} (h1 : x = nI a) (h2 : x = nI b) : a = b := nI_inj (by omega) (by omega) (h1.symm.trans h2)
theorem srw_cg {f g : Nat → Int32} (h : ∀ z, 1 ≤ z → z < 8 → f z = g z) (r0 : Nat) : ∀ i, i ≤ 7 → srw f r0 i = srw g r0 i
  | 0, _ => rfl
  | i + 1, hi => by rw [srw, srw, srw_cg h r0 i (by omega), h (i + 1) (by omega) (by omega)]
theorem BR_cg {f g : Nat → Int32} (h : ∀ z, 1 ≤ z → z < 8 → f z = g z) (v r0 : Nat) : BR f v r0 ↔ BR g v r0 := by
  unfold BR; rw [srw_cg h r0 7 (Nat.le_refl _)]
theorem Rel_L {N : Nat → Int32} {S Wt L : Nat → Nat → Int32} {sh : Nat → Int32} {pv : Int32} {st wt sm nu : Nat → Int32} {to : Nat → Int64} {it : Int32} {nn : Nat → Nat} {vv : Nat → Nat → Nat} {qq : Nat → Nat → Int} (h : Rel N S Wt L sh pv st wt sm nu to it nn vv qq) {j : Nat} (hj : j < 10) : ∀ z, 1 ≤ z → z < 8 → L j z = nu (8 * j + z) := fun z z1 z2 => by
  rw [((h.2.1 j hj).1 z z2).1, (h.2.1 j hj).2 z z1 z2]
theorem Rel_m1 {N : Nat → Int32} {S Wt L : Nat → Nat → Int32} {sh : Nat → Int32} {pv : Int32} {st wt sm nu : Nat → Int32} {to : Nat → Int64} {it : Int32} {nn : Nat → Nat} {vv : Nat → Nat → Nat} {qq : Nat → Nat → Int} (h : Rel N S Wt L sh pv st wt sm nu to it nn vv qq) {g : Nat} (hg : g < 4) (hp : ¬ N g ≤ 0) : 1 ≤ nn g := by
  rw [(h.1 g hg).1] at hp; exact nI_p hp

theorem K_world (D : va_G) (k : Nat → ClassId) (t : Nat → Nat) (l : Launch) {ad bd : Nat → Nat} {w1 w2 : va_W} (h : RelW ad bd k w1 w2) (x1 x2 x3 x4 : Int32) : ∃ q1 q2 : Int32 → va_W → Prop, Ci D k t l yX3_world wsX3_world ({ frames := 2, cells := 0, slots := 0, locals := 60 }) [.ref (ad 0), .int x1, .int x2, .int x3, .int x4] w1 q1 0 0 ∧ Ci D k t l yX4_world wsX4_world ({ frames := 2, cells := 0, slots := 0, locals := 60 }) [.ref (bd 0), .int x1, .int x2, .int x3, .int x4] w2 q2 0 0 ∧ ∀ r1 u1 r2 u2, q1 r1 u1 → q2 r2 u2 → r1 = r2 ∧ RelW ad bd k u1 u2 := by
  obtain ⟨N, S, Wt, L, T, G, E, su, pa, tr, sh, pv, st, wt, sm, nu, po, mh, up, lo, li, ro, so, un, to, it, nn, vv, qq, rfl, rfl, hR⟩ := h
  refine ⟨_, _, c_X3_world D k t l x1 x2 x3 x4, c_X4_world D k t l x1 x2 x3 x4, ?_⟩
  rintro r1 u1 r2 u2 (⟨g, ⟨hg, e1, a2, a3, a4⟩, rfl, rfl⟩ | ⟨hn, rfl, rfl⟩) (⟨ga, ⟨hg', e1', b2, b3, b4⟩, rfl, rfl⟩ | ⟨hn', rfl, rfl⟩)
  · have e : g = ga := nI_4 (by omega) (by omega) e1 e1'
    subst e
    refine ⟨rfl, RelW_mk (Rel_upd hR g 0 (fun _ => 0) (by decide) (sm_0 27) (fun q hq ne => ⟨upd_no _ _ ne, upd_no _ _ ne, fun j hj => ⟨?_, ?_⟩, fun i hi => ⟨?_, ?_⟩⟩) ⟨upd_at _ _ _, upd_at _ _ _, fun j hj => ⟨?_, ?_⟩, fun i hi => ?_⟩)⟩
    · rw [va_up_ne _ _ ne]
    · unfold wz; rw [if_neg (by omega)]
    · rw [va_up_ne _ _ ne]
    · rw [upd_no _ _ (by omega), upd_no _ _ (by omega), upd_no _ _ (by omega)]
    · rw [vu_at]
    · unfold wz; rw [if_pos (by omega)]
    · obtain ⟨n2, -, l2, rfl⟩ := a2
      obtain ⟨n3, -, l3, rfl⟩ := a3
      obtain ⟨n4, -, l4, rfl⟩ := a4
      rw [vu_at]
      have hi3 : i = 0 ∨ i = 1 ∨ i = 2 := by omega
      rcases hi3 with rfl | rfl | rfl
      · exact ⟨n2, by omega, rfl, by rw [upd_no _ _ (by omega), upd_no _ _ (by omega)]; exact upd_at _ _ _⟩
      · exact ⟨n3, by omega, rfl, by rw [upd_no _ _ (by omega)]; exact upd_at _ _ _⟩
      · exact ⟨n4, by omega, rfl, upd_at _ _ _⟩
  · exact absurd ⟨hg, e1, a2, a3, a4⟩ (hn' g)
  · exact absurd ⟨hg', e1', b2, b3, b4⟩ (hn ga)
  · exact ⟨rfl, RelW_mk hR⟩

theorem K_weight (D : va_G) (k : Nat → ClassId) (t : Nat → Nat) (l : Launch) {ad bd : Nat → Nat} {w1 w2 : va_W} (h : RelW ad bd k w1 w2) (x1 x2 x3 x4 x5 : Int32) : ∃ q1 q2 : Int32 → va_W → Prop, Ci D k t l yX3_weight wsX3_weight ({ frames := 1, cells := 0, slots := 0, locals := 30 }) [.ref (ad 0), .int x1, .int x2, .int x3, .int x4, .int x5] w1 q1 0 0 ∧ Ci D k t l yX4_weight wsX4_weight ({ frames := 3, cells := 0, slots := 0, locals := 90 }) [.ref (bd 0), .int x1, .int x2, .int x3, .int x4, .int x5] w2 q2 0 0 ∧ ∀ r1 u1 r2 u2, q1 r1 u1 → q2 r2 u2 → r1 = r2 ∧ RelW ad bd k u1 u2 := by
  obtain ⟨N, S, Wt, L, T, G, E, su, pa, tr, sh, pv, st, wt, sm, nu, po, mh, up, lo, li, ro, so, un, to, it, nn, vv, qq, rfl, rfl, hR⟩ := h
  refine ⟨_, _, c_X3_weight D k t l (Rel_I3 hR) x1 x2 x3 x4 x5, c_X4_weight D k t l (Rel_I3m hR) x1 x2 x3 x4 x5, ?_⟩
  have hW : ∀ {g a1 a2 a3 : Nat}, g < 4 → a1 < 3 → a2 < 3 → a3 < 3 → N g - Wt g (a1 + 3 * a2 + 9 * a3) + x5 = sm g - wt (27 * g + a1 + 3 * a2 + 9 * a3) + x5 := fun {g a1 a2 a3} hg h1 h2 h3 => by
    rw [Rel_N hR hg, Rel_W hR hg (by omega), show 27 * g + (a1 + 3 * a2 + 9 * a3) = 27 * g + a1 + 3 * a2 + 9 * a3 by omega]
  rintro r1 u1 r2 u2 (⟨g, a1, a2, a3, ⟨hg, e1, h5, l1, l2, l3, e2, e3, e4, hs, hle⟩, rfl, rfl⟩ | ⟨hn, rfl, rfl⟩) (⟨ga, b1, b2, b3, ⟨hg', e1', h5', m1, m2, m3, f2, f3, f4, hs', hle'⟩, rfl, rfl⟩ | ⟨hn', rfl, rfl⟩)
  · have e : g = ga := nI_4 (by omega) (by omega) e1 e1'
    subst e
    have e : a1 = b1 := nI_4 (by omega) (by omega) e2 f2
    subst e
    have e : a2 = b2 := nI_4 (by omega) (by omega) e3 f3
    subst e
    have e : a3 = b3 := nI_4 (by omega) (by omega) e4 f4
    subst e
    obtain ⟨x, hx⟩ : ∃ x, x = a1 + 3 * a2 + 9 * a3 := ⟨_, rfl⟩
    have hxl : x < 27 := by omega
    have hx2 : 27 * g + a1 + 3 * a2 + 9 * a3 = 27 * g + x := by omega
    rw [hx2] at hle' ⊢
    rw [← hx] at hle ⊢
    obtain ⟨m, -, hm, rfl⟩ := h5
    obtain ⟨c1, c2, c3, c4, c5, c6⟩ := hR.1 g hg
    have hv := fb_sm_part (vv g) hxl
    have hval : N g - Wt g x + nI m = nI (nn g - vv g x + m) := by
      rw [c1, (c5 x hxl).1, nI_sub' (by omega), nI_add]
    have hval2 : sm g - wt (27 * g + x) + nI m = nI (nn g - vv g x + m) := by
      rw [c2, (c5 x hxl).2, nI_sub' (by omega), nI_add]
    rw [hval] at hle ⊢
    rw [hval2]
    have hs := fb_sm_upd (vv g) m hxl
    refine ⟨rfl, RelW_mk (Rel_upd hR g (nn g - vv g x + m) (fun j => if j = x then m else vv g j) (nI_16 (by omega) hle) (by omega) (fun q hq ne => ⟨upd_no _ _ ne, upd_no _ _ ne, fun j hj => ⟨?_, ?_⟩, fun i hi => ⟨rfl, rfl⟩⟩) ⟨upd_at _ _ _, upd_at _ _ _, fun j hj => ⟨?_, ?_⟩, c6⟩)⟩
    · rw [va_up_ne _ _ ne]
    · rw [upd_no _ _ (by omega)]
    · rw [vu_at]
      by_cases e : j = x
      · rw [e, upd_at, if_pos rfl]
      · rw [upd_no _ _ e, if_neg e]; exact (c5 j hj).1
    · by_cases e : j = x
      · rw [e, upd_at, if_pos rfl]
      · rw [upd_no _ _ (by omega), if_neg e]; exact (c5 j hj).2
  · exact absurd ⟨hg, e1, h5, l1, l2, l3, e2, e3, e4, (Rel_HS hR hg _ _ _).mp hs, by rw [← hW hg l1 l2 l3]; exact hle⟩ (hn' g a1 a2 a3)
  · exact absurd ⟨hg', e1', h5', m1, m2, m3, f2, f3, f4, (Rel_HS hR hg' _ _ _).mpr hs', by rw [hW hg' m1 m2 m3]; exact hle'⟩ (hn ga b1 b2 b3)
  · exact ⟨rfl, RelW_mk hR⟩

theorem K_told (D : va_G) (k : Nat → ClassId) (t : Nat → Nat) (l : Launch) {ad bd : Nat → Nat} {w1 w2 : va_W} (h : RelW ad bd k w1 w2) (x1 x2 : Int32) : ∃ q1 q2 : Int32 → va_W → Prop, Ci D k t l yX3_told wsX3_told ({ frames := 2, cells := 0, slots := 0, locals := 60 }) [.ref (ad 0), .int x1, .int x2] w1 q1 0 0 ∧ Ci D k t l yX4_told wsX4_told ({ frames := 3, cells := 0, slots := 0, locals := 90 }) [.ref (bd 0), .int x1, .int x2] w2 q2 0 0 ∧ ∀ r1 u1 r2 u2, q1 r1 u1 → q2 r2 u2 → r1 = r2 ∧ RelW ad bd k u1 u2 := by
  obtain ⟨N, S, Wt, L, T, G, E, su, pa, tr, sh, pv, st, wt, sm, nu, po, mh, up, lo, li, ro, so, un, to, it, nn, vv, qq, rfl, rfl, hR⟩ := h
  refine ⟨_, _, c_X3_told D k t l x1 x2, c_X4_told D k t l x1 x2, ?_⟩
  rintro r1 u1 r2 u2 (⟨g, ⟨hg, e1⟩, rfl, rfl⟩ | ⟨hn, rfl, rfl⟩) (⟨ga, ⟨hg', e1'⟩, rfl, rfl⟩ | ⟨hn', rfl, rfl⟩)
  · have e : g = ga := nI_4 (by omega) (by omega) e1 e1'
    subst e
    exact ⟨told_eq hR hg x2, RelW_mk hR⟩
  · exact absurd ⟨hg, e1⟩ (hn' g)
  · exact absurd ⟨hg', e1'⟩ (hn ga)
  · exact ⟨rfl, RelW_mk hR⟩

theorem K_mix (D : va_G) (k : Nat → ClassId) (t : Nat → Nat) (l : Launch) {ad bd : Nat → Nat} {w1 w2 : va_W} (h : RelW ad bd k w1 w2) (x1 x2 x3 : Int32) : ∃ q1 q2 : Int32 → va_W → Prop, Ci D k t l yX3_mix wsX3_mix ({ frames := 2, cells := 0, slots := 0, locals := 60 }) [.ref (ad 0), .int x1, .int x2, .int x3] w1 q1 0 0 ∧ Ci D k t l yX4_mix wsX4_mix ({ frames := 3, cells := 0, slots := 0, locals := 90 }) [.ref (bd 0), .int x1, .int x2, .int x3] w2 q2 0 0 ∧ ∀ r1 u1 r2 u2, q1 r1 u1 → q2 r2 u2 → r1 = r2 ∧ RelW ad bd k u1 u2 := by
  obtain ⟨N, S, Wt, L, T, G, E, su, pa, tr, sh, pv, st, wt, sm, nu, po, mh, up, lo, li, ro, so, un, to, it, nn, vv, qq, rfl, rfl, hR⟩ := h
  refine ⟨_, _, c_X3_mix D k t l x1 x2 x3, c_X4_mix D k t l x1 x2 x3, ?_⟩
  rintro r1 u1 r2 u2 (⟨f, h, g, ⟨hf, e1, pf, hh, e2, ph, hg, e3, hs, hle⟩, rfl, rfl⟩ | ⟨hn, rfl, rfl⟩) (⟨fa, ha, ga, ⟨hf', f1, pf', hh', f2, ph', hg', f3, hs', hle'⟩, rfl, rfl⟩ | ⟨hn', rfl, rfl⟩)
  · have e : f = fa := nI_4 (by omega) (by omega) e1 f1
    subst e
    have e : h = ha := nI_4 (by omega) (by omega) e2 f2
    subst e
    have e : g = ga := nI_4 (by omega) (by omega) e3 f3
    subst e
    obtain ⟨a1, a2, a3, a4, a5, a6⟩ := hR.1 f hf
    obtain ⟨b1, b2, b3, b4, b5, b6⟩ := hR.1 h hh
    have hval : N f + N h = nI (nn f + nn h) := by rw [a1, b1, nI_add]
    have hval2 : sm f + sm h = nI (nn f + nn h) := by rw [a2, b2, nI_add]
    rw [hval] at hle ⊢
    rw [hval2]
    refine ⟨rfl, RelW_mk (Rel_upd hR g (nn f + nn h) (fun j => vv f j + vv h j) (nI_16 (by omega) hle) (by rw [sm_add, a4, b4]) (fun q hq ne => ⟨upd_no _ _ ne, upd_no _ _ ne, fun j hj => ⟨?_, ?_⟩, fun i hi => ⟨?_, ?_⟩⟩) ⟨upd_at _ _ _, upd_at _ _ _, fun j hj => ⟨?_, ?_⟩, fun i hi => ?_⟩)⟩
    · rw [va_up_ne _ _ ne]
    · unfold blk; rw [if_neg (by omega)]
    · rw [va_up_ne _ _ ne]
    · unfold blk; rw [if_neg (by omega)]
    · rw [vu_at, (a5 j hj).1, (b5 j hj).1, nI_add]
    · unfold blk; rw [if_pos (by omega), show 27 * g + j - 27 * g = j by omega]; show wt (27 * f + j) + wt (27 * h + j) = _; rw [(a5 j hj).2, (b5 j hj).2, nI_add]
    · obtain ⟨s, s1, s2, s3⟩ := a6 i hi
      exact ⟨s, s1, by rw [vu_at]; exact s2, by unfold blk; rw [if_pos (by omega), show 3 * g + i - 3 * g = i by omega]; exact s3⟩
  · exact absurd ⟨hf, e1, by rw [← Rel_N hR hf]; exact pf, hh, e2, by rw [← Rel_N hR hh]; exact ph, hg, e3, (Rel_SM hR hf hh).mp hs, by rw [← Rel_N hR hf, ← Rel_N hR hh]; exact hle⟩ (hn' f h g)
  · exact absurd ⟨hf', f1, by rw [Rel_N hR hf']; exact pf', hh', f2, by rw [Rel_N hR hh']; exact ph', hg', f3, (Rel_SM hR hf' hh').mpr hs', by rw [Rel_N hR hf', Rel_N hR hh']; exact hle'⟩ (hn fa ha ga)
  · exact ⟨rfl, RelW_mk hR⟩

theorem K_tell (D : va_G) (k : Nat → ClassId) (t : Nat → Nat) (l : Launch) {ad bd : Nat → Nat} {w1 w2 : va_W} (h : RelW ad bd k w1 w2) (x1 x2 : Int32) : ∃ q1 q2 : Int32 → va_W → Prop, Ci D k t l yX3_tell wsX3_tell ({ frames := 2, cells := 0, slots := 0, locals := 60 }) [.ref (ad 0), .int x1, .int x2] w1 q1 0 0 ∧ Ci D k t l yX4_tell wsX4_tell ({ frames := 3, cells := 0, slots := 0, locals := 90 }) [.ref (bd 0), .int x1, .int x2] w2 q2 0 0 ∧ ∀ r1 u1 r2 u2, q1 r1 u1 → q2 r2 u2 → r1 = r2 ∧ RelW ad bd k u1 u2 := by
  obtain ⟨N, S, Wt, L, T, G, E, su, pa, tr, sh, pv, st, wt, sm, nu, po, mh, up, lo, li, ro, so, un, to, it, nn, vv, qq, rfl, rfl, hR⟩ := h
  refine ⟨_, _, c_X3_tell D k t l x1 x2, c_X4_tell D k t l x1 x2, ?_⟩
  rintro r1 u1 r2 u2 (⟨g, d, ⟨hg, e1, pg, hd, e2⟩, rfl, rfl⟩ | ⟨hn, rfl, rfl⟩) (⟨ga, da, ⟨hg', f1, pg', hd', f2⟩, rfl, rfl⟩ | ⟨hn', rfl, rfl⟩)
  · have e : g = ga := nI_4 (by omega) (by omega) e1 f1
    subst e
    have e : d = da := nI_inj (by omega) (by omega) (e2.symm.trans f2)
    subst e
    obtain ⟨a1, a2, a3, a4, a5, a6⟩ := hR.1 g hg
    refine ⟨rfl, RelW_mk (Rel_upd hR g (nn g) (tlv (vv g) d) a3 (by rw [tlv_sm, a4]) (fun q hq ne => ⟨rfl, rfl, fun j hj => ⟨?_, ?_⟩, fun i hi => ⟨?_, ?_⟩⟩) ⟨a1, a2, fun j hj => ⟨?_, ?_⟩, fun i hi => ?_⟩)⟩
    · rw [va_up_ne _ _ ne]
    · exact tl_out _ _ _ (by omega) 9 (Nat.le_refl _)
    · rw [va_up_ne _ _ ne]
    · rw [upd_no _ _ (by omega)]
    · rw [vu_at]; exact spr_n (fun j hj => (a5 j hj).1) d hj
    · exact tl_n (fun j hj => (a5 j hj).2) d hj
    · by_cases e : i = 2
      · subst e; exact ⟨3, by decide, by rw [vu_at]; exact upd_at _ _ _, upd_at _ _ _⟩
      · obtain ⟨s, s1, s2, s3⟩ := a6 i hi
        exact ⟨s, s1, by rw [vu_at, upd_no _ _ e]; exact s2, by rw [upd_no _ _ (by omega)]; exact s3⟩
  · exact absurd ⟨hg, e1, by rw [← Rel_N hR hg]; exact pg, hd, e2⟩ (hn' g d)
  · exact absurd ⟨hg', f1, by rw [Rel_N hR hg']; exact pg', hd', f2⟩ (hn ga da)
  · exact ⟨rfl, RelW_mk hR⟩

theorem K_law (D : va_G) (k : Nat → ClassId) (t : Nat → Nat) (l : Launch) {ad bd : Nat → Nat} {w1 w2 : va_W} (h : RelW ad bd k w1 w2) (x1 x2 x3 : Int32) : ∃ q1 q2 : Int32 → va_W → Prop, Ci D k t l yX3_law wsX3_law ({ frames := 1, cells := 0, slots := 0, locals := 30 }) [.ref (ad 0), .int x1, .int x2, .int x3] w1 q1 0 0 ∧ Ci D k t l yX4_law wsX4_law ({ frames := 2, cells := 0, slots := 0, locals := 60 }) [.ref (bd 0), .int x1, .int x2, .int x3] w2 q2 0 0 ∧ ∀ r1 u1 r2 u2, q1 r1 u1 → q2 r2 u2 → r1 = r2 ∧ RelW ad bd k u1 u2 := by
  obtain ⟨N, S, Wt, L, T, G, E, su, pa, tr, sh, pv, st, wt, sm, nu, po, mh, up, lo, li, ro, so, un, to, it, nn, vv, qq, rfl, rfl, hR⟩ := h
  refine ⟨_, _, c_X3_law D k t l x1 x2 x3, c_X4_law D k t l x1 x2 x3, ?_⟩
  rintro r1 u1 r2 u2 (⟨j, z, ⟨hj, e1, z1, z2, e2, a3, b3⟩, rfl, rfl⟩ | ⟨hn, rfl, rfl⟩) (⟨ja, za, ⟨hj', f1, y1, y2, f2, c3, d3⟩, rfl, rfl⟩ | ⟨hn', rfl, rfl⟩)
  · have e : j = ja := nI_4 (by omega) (by omega) e1 f1
    subst e
    have e : z = za := nI_4 (by omega) (by omega) e2 f2
    subst e
    obtain ⟨v1, v2⟩ := zI_of a3 b3
    obtain ⟨a1, a2⟩ := hR.2.1 j hj
    refine ⟨rfl, RelW_mk (Rel_law hR j (fun q => if q = z then x3.toInt else qq j q) (fun i hi ne => ⟨fun q hq => ?_, fun q q1 q2 => ?_⟩) ⟨fun q hq => ?_, fun q q1 q2 => ?_⟩)⟩
    · rw [va_up_ne _ _ ne]
    · rw [upd_no _ _ (by omega)]
    · rw [vu_at]
      by_cases e : q = z
      · rw [e, upd_at, if_pos rfl]; exact ⟨v1, v2⟩
      · rw [upd_no _ _ e, if_neg e]; exact a1 q hq
    · by_cases e : q = z
      · rw [e, upd_at, if_pos rfl]; exact v1
      · rw [upd_no _ _ (by omega), if_neg e]; exact a2 q q1 q2
  · exact absurd ⟨hj, e1, z1, z2, e2, a3, Int32.not_lt.mpr b3⟩ (hn' j z)
  · exact absurd ⟨hj', f1, y1, y2, f2, c3, Int32.not_lt.mp d3⟩ (hn ja za)
  · exact ⟨rfl, RelW_mk hR⟩

theorem plr_z : ∀ q, q < 9 → ∀ z, z < 8 → plr q z = zI (plr q z).toInt ∧ -2 ≤ (plr q z).toInt ∧ (plr q z).toInt ≤ 2 := by decide +kernel
theorem plA_i (nu : Nat → Int32) (j p0 : Nat) {z : Nat} (hz : 1 ≤ z) : ∀ i, z ≤ i → plA nu j p0 i (8 * j + z) = plr p0 z
  | 0, h => absurd h (by omega)
  | i + 1, h => by
    rw [plA]
    by_cases e : z = i + 1
    · rw [e, upd_at]
    · rw [upd_no _ _ (by omega), plA_i nu j p0 hz i (by omega)]
theorem plA_o (nu : Nat → Int32) (j p0 : Nat) {x : Nat} : ∀ i, (∀ z, 1 ≤ z → z ≤ i → x ≠ 8 * j + z) → plA nu j p0 i x = nu x
  | 0, _ => rfl
  | i + 1, h => by rw [plA, upd_no _ _ (h (i + 1) (by omega) (by omega)), plA_o nu j p0 i (fun z z1 z2 => h z z1 (by omega))]

theorem K_plain (D : va_G) (k : Nat → ClassId) (t : Nat → Nat) (l : Launch) {ad bd : Nat → Nat} {w1 w2 : va_W} (h : RelW ad bd k w1 w2) (x1 x2 : Int32) : ∃ q1 q2 : Int32 → va_W → Prop, Ci D k t l yX3_plain wsX3_plain ({ frames := 1, cells := 0, slots := 0, locals := 60 }) [.ref (ad 0), .int x1, .int x2] w1 q1 0 0 ∧ Ci D k t l yX4_plain wsX4_plain ({ frames := 2, cells := 0, slots := 0, locals := 60 }) [.ref (bd 0), .int x1, .int x2] w2 q2 0 0 ∧ ∀ r1 u1 r2 u2, q1 r1 u1 → q2 r2 u2 → r1 = r2 ∧ RelW ad bd k u1 u2 := by
  obtain ⟨N, S, Wt, L, T, G, E, su, pa, tr, sh, pv, st, wt, sm, nu, po, mh, up, lo, li, ro, so, un, to, it, nn, vv, qq, rfl, rfl, hR⟩ := h
  refine ⟨_, _, c_X3_plain D k t l x1 x2, c_X4_plain D k t l x1 x2, ?_⟩
  rintro r1 u1 r2 u2 (⟨j, q, ⟨hj, e1, hq, e2⟩, rfl, rfl⟩ | ⟨hn, rfl, rfl⟩) (⟨ja, p0, ⟨hj', f1, hq', f2⟩, rfl, rfl⟩ | ⟨hn', rfl, rfl⟩)
  · have e : j = ja := nI_4 (by omega) (by omega) e1 f1
    subst e
    have e : q = p0 := nI_4 (by omega) (by omega) e2 f2
    subst e
    refine ⟨rfl, RelW_mk (Rel_law hR j (fun z => (plr q z).toInt) (fun i hi ne => ⟨fun z hz => ?_, fun z z1 z2 => ?_⟩) ⟨fun z hz => ?_, fun z z1 z2 => ?_⟩)⟩
    · rw [va_up_ne _ _ ne]
    · exact plA_o _ _ _ 7 (fun y y1 y2 => by omega)
    · rw [vu_at]
      refine ⟨?_, (plr_z q hq z hz).2⟩
      unfold va_cpy
      rw [if_pos (by omega), Nat.sub_zero]
      exact (plr_z q hq z hz).1
    · rw [plA_i _ _ _ z1 7 (by omega)]
      exact (plr_z q hq z z2).1
  · exact absurd ⟨hj, e1, hq, e2⟩ (hn' j q)
  · exact absurd ⟨hj', f1, hq', f2⟩ (hn ja p0)
  · exact ⟨rfl, RelW_mk hR⟩

theorem K_number (D : va_G) (k : Nat → ClassId) (t : Nat → Nat) (l : Launch) {ad bd : Nat → Nat} {w1 w2 : va_W} (h : RelW ad bd k w1 w2) (x1 x2 : Int32) : ∃ q1 q2 : Int32 → va_W → Prop, Ci D k t l yX3_number wsX3_number ({ frames := 1, cells := 0, slots := 0, locals := 30 }) [.ref (ad 0), .int x1, .int x2] w1 q1 0 0 ∧ Ci D k t l yX4_number wsX4_number ({ frames := 2, cells := 0, slots := 0, locals := 60 }) [.ref (bd 0), .int x1, .int x2] w2 q2 0 0 ∧ ∀ r1 u1 r2 u2, q1 r1 u1 → q2 r2 u2 → r1 = r2 ∧ RelW ad bd k u1 u2 := by
  obtain ⟨N, S, Wt, L, T, G, E, su, pa, tr, sh, pv, st, wt, sm, nu, po, mh, up, lo, li, ro, so, un, to, it, nn, vv, qq, rfl, rfl, hR⟩ := h
  refine ⟨_, _, c_X3_number D k t l x1 x2, c_X4_number D k t l x1 x2, ?_⟩
  rintro r1 u1 r2 u2 (⟨j, z, ⟨hj, e1, z1, z2, e2⟩, rfl, rfl⟩ | ⟨hn, rfl, rfl⟩) (⟨ja, za, ⟨hj', f1, y1, y2, f2⟩, rfl, rfl⟩ | ⟨hn', rfl, rfl⟩)
  · have e : j = ja := nI_4 (by omega) (by omega) e1 f1
    subst e
    have e : z = za := nI_4 (by omega) (by omega) e2 f2
    subst e
    exact ⟨Rel_L hR hj z z1 z2, RelW_mk hR⟩
  · exact absurd ⟨hj, e1, z1, z2, e2⟩ (hn' j z)
  · exact absurd ⟨hj', f1, y1, y2, f2⟩ (hn ja za)
  · exact ⟨rfl, RelW_mk hR⟩

theorem K_share (D : va_G) (k : Nat → ClassId) (t : Nat → Nat) (l : Launch) {ad bd : Nat → Nat} {w1 w2 : va_W} (h : RelW ad bd k w1 w2) (x1 x2 : Int32) : ∃ q1 q2 : Int32 → va_W → Prop, Ci D k t l yX3_share wsX3_share ({ frames := 0, cells := 0, slots := 0, locals := 0 }) [.ref (ad 0), .int x1, .int x2] w1 q1 0 0 ∧ Ci D k t l yX4_share wsX4_share ({ frames := 1, cells := 0, slots := 0, locals := 30 }) [.ref (bd 0), .int x1, .int x2] w2 q2 0 0 ∧ ∀ r1 u1 r2 u2, q1 r1 u1 → q2 r2 u2 → r1 = r2 ∧ RelW ad bd k u1 u2 := by
  obtain ⟨N, S, Wt, L, T, G, E, su, pa, tr, sh, pv, st, wt, sm, nu, po, mh, up, lo, li, ro, so, un, to, it, nn, vv, qq, rfl, rfl, hR⟩ := h
  refine ⟨_, _, c_X3_share D k t l x1 x2, c_X4_share D k t l x1 x2, ?_⟩
  rintro r1 u1 r2 u2 (⟨j, ⟨hp, hj, e1, a1, a2⟩, rfl, rfl⟩ | ⟨hn, rfl, rfl⟩) (⟨ja, z, ⟨hp', hj', f1, hz, f2⟩, rfl, rfl⟩ | ⟨hn', rfl, rfl⟩)
  · have e : j = ja := nI_4 (by omega) (by omega) e1 f1
    subst e
    refine ⟨?_, RelW_mk hR⟩
    obtain ⟨h1, h2⟩ := hR.2.2.2 hp j hj
    have hz2 : z = 0 ∨ z = 1 := by omega
    rcases hz2 with rfl | rfl
    · rw [if_pos (show x2 = 0 from f2), show 9 * 0 + j = j by omega, h1, Int32.toInt32_toInt64]
    · rw [if_neg (by rw [f2]; decide), show 9 * 1 + j = 9 + j by omega, h2]; rfl
  · obtain ⟨z, hz, rfl⟩ := ixG (by decide) a1 (Int32.not_lt.mpr a2)
    exact absurd ⟨by rw [← hR.2.2.1]; exact hp, hj, e1, by omega, rfl⟩ (hn' j z)
  · exact absurd ⟨by rw [hR.2.2.1]; exact hp', hj', f1, by rw [f2]; exact nI_pos (by omega), by rw [f2]; exact nI_le (by omega) (by decide)⟩ (hn ja)
  · exact ⟨rfl, RelW_mk hR⟩

theorem K_words (D : va_G) (k : Nat → ClassId) (t : Nat → Nat) (l : Launch) {ad bd : Nat → Nat} {w1 w2 : va_W} (h : RelW ad bd k w1 w2) (x1 x2 : Int32) : ∃ q1 q2 : Int32 → va_W → Prop, Ci D k t l yX3_words wsX3_words ({ frames := 0, cells := 0, slots := 0, locals := 0 }) [.ref (ad 0), .int x1, .int x2] w1 q1 0 0 ∧ Ci D k t l yX4_words wsX4_words ({ frames := 1, cells := 0, slots := 0, locals := 30 }) [.ref (bd 0), .int x1, .int x2] w2 q2 0 0 ∧ ∀ r1 u1 r2 u2, q1 r1 u1 → q2 r2 u2 → r1 = r2 ∧ RelW ad bd k u1 u2 := by
  obtain ⟨N, S, Wt, L, T, G, E, su, pa, tr, sh, pv, st, wt, sm, nu, po, mh, up, lo, li, ro, so, un, to, it, nn, vv, qq, rfl, rfl, hR⟩ := h
  refine ⟨_, _, c_X3_words D k t l x1 x2, c_X4_words D k t l x1 x2, ?_⟩
  rintro r1 u1 r2 u2 (⟨a, d, ⟨ha, ha2, e1, hd, e2⟩, rfl, rfl⟩ | ⟨hn, rfl, rfl⟩) (⟨b, d2, ⟨hb, hb2, f1, hd', f2⟩, rfl, rfl⟩ | ⟨hn', rfl, rfl⟩)
  · have e : a = b := nI_4 (by omega) (by omega) e1 f1
    subst e
    have e : d = d2 := nI_inj (by omega) (by omega) (e2.symm.trans f2)
    subst e
    exact ⟨rfl, RelW_mk hR⟩
  · exact absurd ⟨ha, ha2, e1, hd, e2⟩ (hn' a d)
  · exact absurd ⟨hb, hb2, f1, hd', f2⟩ (hn b d2)
  · exact ⟨rfl, RelW_mk hR⟩

theorem K_always (D : va_G) (k : Nat → ClassId) (t : Nat → Nat) (l : Launch) {ad bd : Nat → Nat} {w1 w2 : va_W} (h : RelW ad bd k w1 w2) (x1 x2 : Int32) : ∃ q1 q2 : Int32 → va_W → Prop, Ci D k t l yX3_always wsX3_always ({ frames := 3, cells := 0, slots := 0, locals := 90 }) [.ref (ad 0), .int x1, .int x2] w1 q1 0 0 ∧ Ci D k t l yX4_always wsX4_always ({ frames := 4, cells := 0, slots := 0, locals := 120 }) [.ref (bd 0), .int x1, .int x2] w2 q2 0 0 ∧ ∀ r1 u1 r2 u2, q1 r1 u1 → q2 r2 u2 → r1 = r2 ∧ RelW ad bd k u1 u2 := by
  obtain ⟨N, S, Wt, L, T, G, E, su, pa, tr, sh, pv, st, wt, sm, nu, po, mh, up, lo, li, ro, so, un, to, it, nn, vv, qq, rfl, rfl, hR⟩ := h
  refine ⟨_, _, c_X3_always D k t l x1 x2, c_X4_always D k t l x1 x2, ?_⟩
  rintro r1 u1 r2 u2 (⟨j, v, ⟨hj, e1, hv, e2⟩, rfl, rfl⟩ | ⟨hn, rfl, rfl⟩) (⟨ja, va, ⟨hj', f1, hv', f2⟩, rfl, rfl⟩ | ⟨hn', rfl, rfl⟩)
  · have e : j = ja := nI_4 (by omega) (by omega) e1 f1
    subst e
    have e : v = va := nI_4 (by omega) (by omega) e2 f2
    subst e
    refine ⟨pb_iff ?_, RelW_mk hR⟩
    exact ⟨fun h q hq c => h q hq ((BR_cg (Rel_L hR hj) v q).mpr c), fun h q hq c => h q hq ((BR_cg (Rel_L hR hj) v q).mp c)⟩
  · exact absurd ⟨hj, e1, hv, e2⟩ (hn' j v)
  · exact absurd ⟨hj', f1, hv', f2⟩ (hn ja va)
  · exact ⟨rfl, RelW_mk hR⟩

theorem K_breaks (D : va_G) (k : Nat → ClassId) (t : Nat → Nat) (l : Launch) {ad bd : Nat → Nat} {w1 w2 : va_W} (h : RelW ad bd k w1 w2) (x1 x2 : Int32) : ∃ q1 q2 : Int32 → va_W → Prop, Ci D k t l yX3_breaks wsX3_breaks ({ frames := 3, cells := 0, slots := 0, locals := 90 }) [.ref (ad 0), .int x1, .int x2] w1 q1 0 0 ∧ Ci D k t l yX4_breaks wsX4_breaks ({ frames := 3, cells := 0, slots := 0, locals := 90 }) [.ref (bd 0), .int x1, .int x2] w2 q2 0 0 ∧ ∀ r1 u1 r2 u2, q1 r1 u1 → q2 r2 u2 → r1 = r2 ∧ RelW ad bd k u1 u2 := by
  obtain ⟨N, S, Wt, L, T, G, E, su, pa, tr, sh, pv, st, wt, sm, nu, po, mh, up, lo, li, ro, so, un, to, it, nn, vv, qq, rfl, rfl, hR⟩ := h
  refine ⟨_, _, c_X3_breaks D k t l x1 x2, c_X4_breaks D k t l x1 x2, ?_⟩
  rintro r1 u1 r2 u2 (⟨j, v, ⟨hj, e1, hv, e2⟩, ho, rfl⟩ | ⟨hn, rfl, rfl⟩) (⟨ja, va, ⟨hj', f1, hv', f2⟩, ho', rfl⟩ | ⟨hn', rfl, rfl⟩)
  · have e : j = ja := nI_4 (by omega) (by omega) e1 f1
    subst e
    have e : v = va := nI_4 (by omega) (by omega) e2 f2
    subst e
    refine ⟨?_, RelW_mk hR⟩
    have hb := fun q => BR_cg (Rel_L hR hj) v q
    rcases ho with ⟨r0, h1, h2, h3, rfl⟩ | ⟨h1, rfl⟩ <;> rcases ho' with ⟨s0, g1, g2, g3, rfl⟩ | ⟨g1, rfl⟩
    · rcases Nat.lt_trichotomy r0 s0 with q | q | q
      · exact absurd ((hb r0).mp h2) (g3 r0 q)
      · rw [q]
      · exact absurd ((hb s0).mpr g2) (h3 s0 q)
    · exact absurd ((hb r0).mp h2) (g1 r0 h1)
    · exact absurd ((hb s0).mpr g2) (h1 s0 g1)
    · rfl
  · exact absurd ⟨hj, e1, hv, e2⟩ (hn' j v)
  · exact absurd ⟨hj', f1, hv', f2⟩ (hn ja va)
  · exact ⟨rfl, RelW_mk hR⟩

theorem K_sign (D : va_G) (k : Nat → ClassId) (t : Nat → Nat) (l : Launch) {ad bd : Nat → Nat} {w1 w2 : va_W} (h : RelW ad bd k w1 w2) (x1 x2 : Int32) : ∃ q1 q2 : Int32 → va_W → Prop, Ci D k t l yX3_sign wsX3_sign ({ frames := 4, cells := 0, slots := 0, locals := 170 }) [.ref (ad 0), .int x1, .int x2] w1 q1 0 0 ∧ Ci D k t l yX4_sign wsX4_sign ({ frames := 3, cells := 0, slots := 0, locals := 120 }) [.ref (bd 0), .int x1, .int x2] w2 q2 0 0 ∧ ∀ r1 u1 r2 u2, q1 r1 u1 → q2 r2 u2 → r1 = r2 ∧ RelW ad bd k u1 u2 := by
  obtain ⟨N, S, Wt, L, T, G, E, su, pa, tr, sh, pv, st, wt, sm, nu, po, mh, up, lo, li, ro, so, un, to, it, nn, vv, qq, rfl, rfl, hR⟩ := h
  refine ⟨_, _, c_X3_sign D k t l (Rel_WI hR) (Rel_LI hR) (Rel_sign hR) x1 x2, c_X4_sign D k t l (Rel_WIm hR) (Rel_LIm hR) (Rel_sign hR) x1 x2, ?_⟩
  rintro r1 u1 r2 u2 (⟨g, j, ⟨hg, e1, pg, hj, e2⟩, rfl, T2, G2, E2, su2, rfl⟩ | ⟨hn, rfl, rfl⟩) (⟨ga, ja, ⟨hg', f1, pg', hj', f2⟩, rfl, p2, s2, u2, l2, i2, rfl⟩ | ⟨hn', rfl, rfl⟩)
  · have e : g = ga := nI_4 (by omega) (by omega) e1 f1
    subst e
    have e : j = ja := nI_4 (by omega) (by omega) e2 f2
    subst e
    exact ⟨sgs_cmp (Rel_sign hR g j hg hj (Rel_m1 hR hg pg)).1, RelW_mk hR⟩
  · exact absurd ⟨hg, e1, by rw [← Rel_N hR hg]; exact pg, hj, e2⟩ (hn' g j)
  · exact absurd ⟨hg', f1, by rw [Rel_N hR hg']; exact pg', hj', f2⟩ (hn ga ja)
  · exact ⟨rfl, RelW_mk hR⟩

theorem K_compare (D : va_G) (k : Nat → ClassId) (t : Nat → Nat) (l : Launch) {ad bd : Nat → Nat} {w1 w2 : va_W} (h : RelW ad bd k w1 w2) (x1 x2 x3 x4 : Int32) : ∃ q1 q2 : Int32 → va_W → Prop, Ci D k t l yX3_compare wsX3_compare ({ frames := 4, cells := 0, slots := 0, locals := 170 }) [.ref (ad 0), .int x1, .int x2, .int x3, .int x4] w1 q1 0 0 ∧ Ci D k t l yX4_compare wsX4_compare ({ frames := 3, cells := 0, slots := 0, locals := 120 }) [.ref (bd 0), .int x1, .int x2, .int x3, .int x4] w2 q2 0 0 ∧ ∀ r1 u1 r2 u2, q1 r1 u1 → q2 r2 u2 → r1 = r2 ∧ RelW ad bd k u1 u2 := by
  obtain ⟨N, S, Wt, L, T, G, E, su, pa, tr, sh, pv, st, wt, sm, nu, po, mh, up, lo, li, ro, so, un, to, it, nn, vv, qq, rfl, rfl, hR⟩ := h
  refine ⟨_, _, c_X3_compare D k t l (Rel_WI hR) (Rel_LI hR) (Rel_comp hR) x1 x2 x3 x4, c_X4_compare D k t l (Rel_WIm hR) (Rel_LIm hR) (Rel_comp hR) x1 x2 x3 x4, ?_⟩
  rintro r1 u1 r2 u2 (⟨g, j, h, i, ⟨hg, e1, pg, hj, e2, hh, e3, ph, hi, e4⟩, rfl, T2, G2, E2, su2, rfl⟩ | ⟨hn, rfl, rfl⟩) (⟨ga, ja, ha, ia, ⟨hg', f1, pg', hj', f2, hh', f3, ph', hi', f4⟩, rfl, p2, s2, u2, l2, i2, rfl⟩ | ⟨hn', rfl, rfl⟩)
  · have e : g = ga := nI_4 (by omega) (by omega) e1 f1
    subst e
    have e : j = ja := nI_4 (by omega) (by omega) e2 f2
    subst e
    have e : h = ha := nI_4 (by omega) (by omega) e3 f3
    subst e
    have e : i = ia := nI_4 (by omega) (by omega) e4 f4
    subst e
    exact ⟨sgs_cmp (Rel_comp hR g j h i hg hj hh hi (Rel_m1 hR hg pg) (Rel_m1 hR hh ph)).1, RelW_mk hR⟩
  · exact absurd ⟨hg, e1, by rw [← Rel_N hR hg]; exact pg, hj, e2, hh, e3, by rw [← Rel_N hR hh]; exact ph, hi, e4⟩ (hn' g j h i)
  · exact absurd ⟨hg', f1, by rw [Rel_N hR hg']; exact pg', hj', f2, hh', f3, by rw [Rel_N hR hh']; exact ph', hi', f4⟩ (hn ga ja ha ia)
  · exact ⟨rfl, RelW_mk hR⟩

theorem K_near (D : va_G) (k : Nat → ClassId) (t : Nat → Nat) (l : Launch) {ad bd : Nat → Nat} {w1 w2 : va_W} (h : RelW ad bd k w1 w2) (x1 x2 : Int32) : ∃ q1 q2 : Int32 → va_W → Prop, Ci D k t l yX3_near wsX3_near ({ frames := 4, cells := 0, slots := 0, locals := 170 }) [.ref (ad 0), .int x1, .int x2] w1 q1 0 0 ∧ Ci D k t l yX4_near wsX4_near ({ frames := 3, cells := 0, slots := 0, locals := 120 }) [.ref (bd 0), .int x1, .int x2] w2 q2 0 0 ∧ ∀ r1 u1 r2 u2, q1 r1 u1 → q2 r2 u2 → r1 = r2 ∧ RelW ad bd k u1 u2 := by
  obtain ⟨N, S, Wt, L, T, G, E, su, pa, tr, sh, pv, st, wt, sm, nu, po, mh, up, lo, li, ro, so, un, to, it, nn, vv, qq, rfl, rfl, hR⟩ := h
  refine ⟨_, _, c_X3_near D k t l (Rel_WI hR) (Rel_LI hR) (Rel_near hR) x1 x2, c_X4_near D k t l (Rel_WIm hR) (Rel_LIm hR) (Rel_near hR) x1 x2, ?_⟩
  rintro r1 u1 r2 u2 (⟨g, j, ⟨hg, e1, pg, hj, e2⟩, rfl, T2, G2, E2, su2, rfl⟩ | ⟨hn, rfl, rfl⟩) (⟨ga, ja, ⟨hg', f1, pg', hj', f2⟩, rfl, p2, s2, u2, l2, i2, rfl⟩ | ⟨hn', rfl, rfl⟩)
  · have e : g = ga := nI_4 (by omega) (by omega) e1 f1
    subst e
    have e : j = ja := nI_4 (by omega) (by omega) e2 f2
    subst e
    have h1 := Rel_m1 hR hg pg
    exact ⟨congrArg zI (near_eq h1 (Rel_nB hR hg hj) (fun c c1 c2 => Rel_near hR g j c hg hj h1 c1 c2)), RelW_mk hR⟩
  · exact absurd ⟨hg, e1, by rw [← Rel_N hR hg]; exact pg, hj, e2⟩ (hn' g j)
  · exact absurd ⟨hg', f1, by rw [Rel_N hR hg']; exact pg', hj', f2⟩ (hn ga ja)
  · exact ⟨rfl, RelW_mk hR⟩

theorem sm_ex {f : Nat → Nat} : ∀ {n : Nat}, 1 ≤ fb_sm f n → ∃ i, i < n ∧ 1 ≤ f i
  | 0, h => absurd h (Nat.not_succ_le_zero 0)
  | n + 1, h => by
    rw [fb_sm_succ] at h
    by_cases q : 1 ≤ f n
    · exact ⟨n, Nat.lt_succ_self n, q⟩
    · obtain ⟨i, h1, h2⟩ := sm_ex (f := f) (n := n) (by omega)
      exact ⟨i, by omega, h2⟩
theorem gs_cg {f g : Nat → Int32} (h : ∀ j, j < 27 → f j = g j) (z : Nat) : ∀ i, i ≤ 27 → ∀ j, gs f z i j = gs g z i j
  | 0, _, _ => rfl
  | i + 1, hi, j => by rw [gs, gs, gs_cg h z i (by omega) j, h i (by omega)]
theorem Rel_k1 {N : Nat → Int32} {S Wt L : Nat → Nat → Int32} {sh : Nat → Int32} {pv : Int32} {st wt sm nu : Nat → Int32} {to : Nat → Int64} {it : Int32} {nn : Nat → Nat} {vv : Nat → Nat → Nat} {qq : Nat → Nat → Int} (h : Rel N S Wt L sh pv st wt sm nu to it nn vv qq) : ∀ g, g < 4 → ¬ N g ≤ 0 → ∀ z, z < 8 → 1 ≤ (kA (gs (Wt g) z 27) 27).1 := by
  intro g hg pg z hz
  have h1 := Rel_m1 h hg pg
  obtain ⟨a1, a2, a3, a4, a5, a6⟩ := h.1 g hg
  have h2 := gsN_sm (vv g) hz 27 (Nat.le_refl _)
  obtain ⟨i, hi, h3⟩ := sm_ex (f := gsN (vv g) z 27) (n := 27) (by omega)
  refine kA_pos hi ?_
  rw [gs_n (fun j hj => (a5 j hj).1) z 27 (Nat.le_refl _)]
  exact nI_np h3 ((Rel_hm h hg).2.1 z i)

theorem K_mean (D : va_G) (k : Nat → ClassId) (t : Nat → Nat) (l : Launch) {ad bd : Nat → Nat} {w1 w2 : va_W} (h : RelW ad bd k w1 w2) (x1 x2 : Int32) : ∃ q1 q2 : Int32 → va_W → Prop, Ci D k t l yX3_mean wsX3_mean ({ frames := 2, cells := 0, slots := 0, locals := 60 }) [.ref (ad 0), .int x1, .int x2] w1 q1 0 0 ∧ Ci D k t l yX4_mean wsX4_mean ({ frames := 3, cells := 0, slots := 0, locals := 90 }) [.ref (bd 0), .int x1, .int x2] w2 q2 0 0 ∧ ∀ r1 u1 r2 u2, q1 r1 u1 → q2 r2 u2 → r1 = r2 ∧ RelW ad bd k u1 u2 := by
  obtain ⟨N, S, Wt, L, T, G, E, su, pa, tr, sh, pv, st, wt, sm, nu, po, mh, up, lo, li, ro, so, un, to, it, nn, vv, qq, rfl, rfl, hR⟩ := h
  refine ⟨_, _, c_X3_mean D k t l (Rel_k1 hR) x1 x2, c_X4_mean D k t l (qq := qq) (Rel_WIm hR) (fun g z hg hz => Nat.le_trans ((Rel_hm hR hg).2.2 z hz) (Rel_hm hR hg).1) (fun g z _ _ => fb_ct_le (fun j => decide (0 < gsN (vv g) z 27 j)) 27) x1 x2, ?_⟩
  rintro r1 u1 r2 u2 (⟨g, z, ⟨hg, e1, pg, z1, z2, e2⟩, hr1, su2, rfl⟩ | ⟨hn, rfl, rfl⟩) (⟨ga, za, ⟨hg', f1, pg', y1, y2, f2⟩, hr2, sh2, rfl⟩ | ⟨hn', rfl, rfl⟩)
  · have e : g = ga := nI_4 (by omega) (by omega) e1 f1
    subst e
    have e : z = za := nI_4 (by omega) (by omega) e2 f2
    subst e
    refine ⟨hr1.trans (Eq.trans ?_ hr2.symm), RelW_mk hR⟩
    clear hr1 hr2
    obtain ⟨a1, a2, a3, a4, a5, a6⟩ := hR.1 g hg
    have eg : gs (fun j => wt (27 * g + j)) z 27 = gs (Wt g) z 27 := funext (fun j => gs_cg (fun i hi => (Rel_W hR hg hi).symm) z 27 (Nat.le_refl _) j)
    rw [eg]
    exact mean_eq (t := gsN (vv g) z 27) (fun j hj => gs_n (fun j hj => (a5 j hj).1) z 27 (Nat.le_refl _) j) (Nat.le_trans ((Rel_hm hR hg).2.2 z z2) (Rel_hm hR hg).1) (Rel_k1 hR g hg pg z z2)
  · exact absurd ⟨hg, e1, by rw [← Rel_N hR hg]; exact pg, z1, z2, e2⟩ (hn' g z)
  · exact absurd ⟨hg', f1, by rw [Rel_N hR hg']; exact pg', y1, y2, f2⟩ (hn ga za)
  · exact ⟨rfl, RelW_mk hR⟩

theorem K_secret (D : va_G) (k : Nat → ClassId) (t : Nat → Nat) (l : Launch) {ad bd : Nat → Nat} {w1 w2 : va_W} (h : RelW ad bd k w1 w2) (x1 x2 : Int32) : ∃ q1 q2 : Int32 → va_W → Prop, Ci D k t l yX3_secret wsX3_secret ({ frames := 3, cells := 0, slots := 0, locals := 90 }) [.ref (ad 0), .int x1, .int x2] w1 q1 0 0 ∧ Ci D k t l yX4_secret wsX4_secret ({ frames := 3, cells := 0, slots := 0, locals := 120 }) [.ref (bd 0), .int x1, .int x2] w2 q2 0 0 ∧ ∀ r1 u1 r2 u2, q1 r1 u1 → q2 r2 u2 → r1 = r2 ∧ RelW ad bd k u1 u2 := by
  obtain ⟨N, S, Wt, L, T, G, E, su, pa, tr, sh, pv, st, wt, sm, nu, po, mh, up, lo, li, ro, so, un, to, it, nn, vv, qq, rfl, rfl, hR⟩ := h
  refine ⟨_, _, c_X3_secret D k t l (qq := qq) (Rel_WI hR) x1 x2, c_X4_secret D k t l (qq := qq) (Rel_WIm hR) (Rel_seA hR) (Rel_seB hR) x1 x2, ?_⟩
  rintro r1 u1 r2 u2 (⟨g, z, ⟨hg, e1, pg, hz, e2⟩, rfl, T2, su2, rfl⟩ | ⟨hn, rfl, rfl⟩) (⟨ga, za, ⟨hg', f1, pg', hz', f2⟩, rfl, p2, s2, u2, l2, i2, rfl⟩ | ⟨hn', rfl, rfl⟩)
  · have e : g = ga := nI_4 (by omega) (by omega) e1 f1
    subst e
    have e : z = za := nI_4 (by omega) (by omega) e2 f2
    subst e
    have h1 := Rel_m1 hR hg pg
    refine ⟨sec_eq (Rel_seA hR g z hg hz h1) (Rel_seB hR g z hg hz h1) (fun j _ => ?_), RelW_mk hR⟩
    unfold dxq z0
    omega
  · exact absurd ⟨hg, e1, by rw [← Rel_N hR hg]; exact pg, hz, e2⟩ (hn' g z)
  · exact absurd ⟨hg', f1, by rw [Rel_N hR hg']; exact pg', hz', f2⟩ (hn ga za)
  · exact ⟨rfl, RelW_mk hR⟩

theorem Rel_hQ {N : Nat → Int32} {S Wt L : Nat → Nat → Int32} {sh : Nat → Int32} {pv : Int32} {st wt sm nu : Nat → Int32} {to : Nat → Int64} {it : Int32} {nn : Nat → Nat} {vv : Nat → Nat → Nat} {qq : Nat → Nat → Int} (h : Rel N S Wt L sh pv st wt sm nu to it nn vv qq) : ∀ j i0 j0, j < 10 → i0 < j0 → j0 < 9 → (∀ ro : Nat → Int64, ∀ q, q < 56 → fs nu j ro i0 j0 7 q = zF (zzs (qq j) i0 j0) q) ∧ GB (zzs (qq j) i0 j0) ∧ (∀ zf, sl (zzs (qq j) i0 j0) 7 = some zf → ∀ q, q < 7 → zf (8 * q + q) ≠ 0) := by
  intro j i0 j0 hj hi hj0
  obtain ⟨a1, a2⟩ := h.2.1 j hj
  have hn : ∀ z, z < 8 → -2 ≤ qq j z ∧ qq j z ≤ 2 := fun z hz => (a1 z hz).2
  refine ⟨fun ro => fs_zz hj0 hi hn a2, RZ_GB hn (RZ_0 hn hj0 hi) (pairs_sp ok_all hj0 hi), fun zf hz => ?_⟩
  rcases pair_eq (f := L j) (p0 := fun _ => 0) hn hj0 hi (fun z z1 z2 => (a1 z z2).1) with ⟨-, h2⟩ | ⟨-, zg, h2, h3, -⟩
  · rw [h2] at hz; cases hz
  · rw [h2] at hz; cases hz; exact h3

theorem K_prove (D : va_G) (k : Nat → ClassId) (t : Nat → Nat) (l : Launch) {ad bd : Nat → Nat} {w1 w2 : va_W} (h : RelW ad bd k w1 w2) (x1 : Int32) : ∃ q1 q2 : Int32 → va_W → Prop, Ci D k t l yX3_prove wsX3_prove ({ frames := 2, cells := 0, slots := 0, locals := 70 }) [.ref (ad 0), .int x1] w1 q1 0 0 ∧ Ci D k t l yX4_prove wsX4_prove ({ frames := 4, cells := 0, slots := 0, locals := 140 }) [.ref (bd 0), .int x1] w2 q2 0 0 ∧ ∀ r1 u1 r2 u2, q1 r1 u1 → q2 r2 u2 → r1 = r2 ∧ RelW ad bd k u1 u2 := by
  obtain ⟨N, S, Wt, L, T, G, E, su, pa, tr, sh, pv, st, wt, sm, nu, po, mh, up, lo, li, ro, so, un, to, it, nn, vv, qq, rfl, rfl, hR⟩ := h
  refine ⟨_, _, c_X3_prove D k t l x1, c_X4_prove D k t l (zz := fun j i0 j0 => zzs (qq j) i0 j0) (Rel_hQ hR) x1, ?_⟩
  rintro r1 u1 r2 u2 (⟨j, ⟨hj, e1⟩, ho⟩ | ⟨hn, rfl, rfl⟩) (⟨ja, ⟨hj', f1⟩, ho'⟩ | ⟨hn', rfl, rfl⟩)
  · have e : j = ja := nI_4 (by omega) (by omega) e1 f1
    subst e
    obtain ⟨a1, a2⟩ := hR.2.1 j hj
    have hn : ∀ z, z < 8 → -2 ≤ qq j z ∧ qq j z ≤ 2 := fun z hz => (a1 z hz).2
    have hf : ∀ z, 1 ≤ z → z < 8 → L j z = zI (qq j z) := fun z _ z2 => (a1 z z2).1
    have hok : ∀ a b, a < b → b < 9 → (OKP (zzs (qq j) a b) a b ↔ OKC (pts (L j) pa 7) a b) := fun a b hab hb => okp_okc hn hb hab hf
    rcases ho with ⟨ia, jb, i1, i2, i3, i4, rfl, tr3, rfl⟩ | ⟨i3, rfl, tr3, rfl⟩ <;> rcases ho' with ⟨ia2, jb2, zg, k1, k2, k3, k4, k5, rfl, ro3, so3, un3, rfl⟩ | ⟨k3, rfl, ro3, so3, un3, rfl⟩
    · have hO2 : OKC (pts (L j) pa 7) ia2 jb2 := (hok ia2 jb2 k1 k2).mp ⟨zg, k4, k5⟩
      have hO1 : OKP (zzs (qq j) ia jb) ia jb := (hok ia jb i1 i2).mpr i4
      have n1 : ¬ (ia < ia2 ∨ ia = ia2 ∧ jb < jb2) := fun c => k3 ia jb i1 i2 c hO1
      have n2 : ¬ (ia2 < ia ∨ ia2 = ia ∧ jb2 < jb) := fun c => i3 ia2 jb2 k1 k2 c hO2
      have e : ia = ia2 := by omega
      subst e
      have e : jb = jb2 := by omega
      subst e
      refine ⟨rfl, RelW_mk (nn := nn) (vv := vv) (qq := qq) ⟨hR.1, hR.2.1, rfl, fun _ p hp => ?_⟩⟩
      rcases pair_eq (p0 := pa) hn i2 i1 hf with ⟨h1, -⟩ | ⟨-, zf, h2, -, h4⟩
      · exact absurd i4.1 h1
      · rw [h2] at k4; cases k4
        obtain ⟨h5, h6⟩ := h4 p hp
        unfold toV
        refine ⟨by rw [if_pos hp]; exact h5, ?_⟩
        rw [if_neg (by omega), show 9 + p - 9 = p by omega]
        exact h6
    · exact absurd ((hok ia jb i1 i2).mpr i4) (k3 ia jb i1 i2)
    · exact absurd ((hok ia2 jb2 k1 k2).mp ⟨zg, k4, k5⟩) (i3 ia2 jb2 k1 k2)
    · exact ⟨rfl, RelW_mk hR⟩
  · exact absurd ⟨hj, e1⟩ (hn' j)
  · exact absurd ⟨hj', f1⟩ (hn ja)
  · exact ⟨rfl, RelW_mk hR⟩
