/-! the law: its loop, its entry -/
theorem zI_lt' {a b : Int} (ha : -1000000 ≤ a ∧ a ≤ 1000000) (hb : -1000000 ≤ b ∧ b ≤ 1000000) : zI a < zI b ↔ a < b := by
  unfold zI
  rw [Int32.lt_iff_toInt_lt, Int32.toInt_ofInt_of_le (by omega) (by omega), Int32.toInt_ofInt_of_le (by omega) (by omega)]
theorem fw_pre2 {p : Program} {s : State} {m : MethodId} {args : Array Value} {meth : Method} {c : Code} {H : Heap} {locs : List Loc} {own nm : String} {cc : ByteArray} {maxL : Nat} {ret0 : Option FieldType} {wl : List Cond} {D : va_G} {k : Nat → ClassId} {t : Nat → Nat} {A : Nat → Prop} {ws : va_W} (C : Cx own nm cc maxL ret0 wl D k t A p s m args meth c) (hAO : AOs s) (hP : va_P D vwCl ws H) (hD : va_D A ws) (hS : va_S A s.heap H locs) (av : List Value) : PreS s H (va_Pc av (fun U => PcW D k t ws H.size U ∧ AOs U)) av := by
  have h := fw_pre C hP hD hS av
  refine ⟨fun a U g mk q => ?_, fun U hU hW => ?_⟩
  · obtain ⟨q0, q1, q2⟩ := q
    exact ⟨q0, (h.1 a U g mk ⟨q0, q1⟩).2, AOs.moved (u := U) (U := U.calling g mk a) (Vm.Alike.refl U.vm) q2⟩
  · obtain ⟨q0, q1⟩ := h.2 U hU hW
    exact ⟨q0, q1, AOs.moved hW.alike hAO⟩
theorem sw2P {D : va_G} {cl : List vw_C} {a b : va_W} {H : Heap} (h : va_P D cl (a ++ b) H) : va_P D cl (b ++ a) H := va_P.swap (a := []) h
theorem sw2D {A : Nat → Prop} {a b : va_W} (h : va_D A (a ++ b)) : va_D A (b ++ a) := va_D.swap (a := []) h
theorem Rel_0 : Rel (fun _ => nI 0) (fun _ _ => nI 0) (fun _ _ => nI 0) (fun _ _ => nI 0) (fun _ => nI 0) (nI 0) (fun _ => nI 0) (fun _ => nI 0) (fun _ => nI 0) (fun _ => nI 0) (fun _ => 0) 0 (fun _ => 0) (fun _ _ => 0) (fun _ _ => 0) := by
  refine ⟨fun g _ => ⟨rfl, rfl, Nat.zero_le _, sm_0 27, fun j _ => ⟨rfl, rfl⟩, fun i _ => ⟨0, by decide, rfl, rfl⟩⟩, fun j _ => ⟨fun z _ => ⟨rfl, (by decide : (-2 : Int) ≤ 0), (by decide : (0 : Int) ≤ 2)⟩, fun z _ _ => rfl⟩, rfl, fun h => absurd rfl h⟩
set_option maxHeartbeats 4000000 in
set_option maxRecDepth 100000 in
theorem law_loop {p : Program} {l : Launch} {e : Env} {s : State} {m : MethodId} {below : List Frame} {meth : Method} {c : Code} {D : va_G} {k : Nat → ClassId} {t : Nat → Nat} {b L : Nat} {xs : Nat → Int32} {ad bd : Nat → Nat} (hX0 : LX p s m meth c D k t b L xs) : ∀ (n i : Nat), i ≤ L → L + 1 ≤ i + n → ∀ (w1 w2 : va_W) (H : Heap) (locs : List Loc) (ls : Array Slot), LB s D k ad bd w1 w2 H locs → LV ls b (ad 0) (bd 0) i → LG p l e s m below meth c b H locs 18 ls [] := by
  obtain ⟨C, hX, hbl, hL⟩ := id hX0
  have hx := C.1
  have hb := C.2.1
  have hr := C.2.2.1
  have hlocks := C.2.2.2.2.2.2.1.2
  have hbA : ¬ (fun q : Nat => s.heap.size ≤ q) b := Nat.not_le.mpr hbl
  intro n
  induction n with
  | zero =>
    intro i h1 h2
    exact absurd h2 (by omega)
  | succ n ih =>
    intro i hi hin w1 w2 H locs ls hB hl
    obtain ⟨hR, hP, hD, hS⟩ := id hB
    refine lv_iload_n hx hb dL_law_18 rfl (lv_at hl 3 rfl) ?_
    refine lv_aload_n hx hb dL_law_19 rfl (lv_at hl 0 rfl) ?_
    refine va_slen hx hb hX hbl hbA hS dL_law_20 ?_
    refine tp_i (y := nI L) rfl ?_
    refine lv_bipush (v := nI 6) hx hb dL_law_21 (by decide) ?_
    refine lv_isub hx hb dL_law_23 ?_
    refine lv_icmp_gt (tgt := 800) hx hb dL_law_24 (by decide) (fun c1 => ?_) (fun c1 => ?_)
    · refine lv_iconst (v := 1) hx hb dL_law_800 (by decide) ?_
      refine va_forget (fun q hq => hS.2.2 q hq) ?_
      exact lw_ret hx hb hr hlocks dL_law_801
    · have h6 : i + 6 ≤ L := by
        rcases Nat.lt_or_ge L (i + 6) with q | q
        · refine absurd ?_ c1
          show nI L - nI 6 < nI i
          rw [nz, nz, nz, zI_sub, zI_lt' (by omega) (by omega)]
          omega
        · exact q
      refine lv_aload_n hx hb dL_law_27 rfl (lv_at hl 0 rfl) ?_
      refine lv_iload_n hx hb dL_law_28 rfl (lv_at hl 3 rfl) ?_
      refine va_sld hx hb hX hbl hbA hS (vp_in_nI (show i < L by omega) (by omega)) dL_law_29 ?_
      refine lv_bipush (v := nI 31) hx hb dL_law_30 (by decide) ?_
      refine lv_iand hx hb dL_law_32 ?_
      refine lv_topi (fun x ex => ?_)
      have kk : ∀ (u1 u2 : va_W) (H1 : Heap) (locs1 : List Loc), LB s D k ad bd u1 u2 H1 locs1 → LG p l e s m below meth c b H1 locs1 794 ls [] := fun u1 u2 H1 locs1 hB => by
        refine lv_iinc (v := nI (i + 6)) (lv' := [(3, .int (nI (i + 6))), (0, .ref b), (1, .ref (ad 0)), (2, .ref (bd 0))]) hx hb dL_law_794 hl (k := 3) rfl (by rw [← nI_add i 6]; rfl) (by decide) rfl (fun ls hl => ?_)
        refine lv_goto (tgt := 18) hx hb dL_law_797 (by decide) ?_
        exact ih (i + 6) (by omega) (by omega) u1 u2 H1 locs1 ls hB (lv_sub hl [1, 2, 3, 0] rfl)
      by_cases ho : x.toInt < 0 ∨ 17 < x.toInt
      · exact lv_tableOut (tgt := 794) hx hb dL_law_33 ho (by decide) (kk w1 w2 H locs hB)
      · have hc : x.toInt = 0 ∨ x.toInt = 1 ∨ x.toInt = 2 ∨ x.toInt = 3 ∨ x.toInt = 4 ∨ x.toInt = 5 ∨ x.toInt = 6 ∨ x.toInt = 7 ∨ x.toInt = 8 ∨ x.toInt = 9 ∨ x.toInt = 10 ∨ x.toInt = 11 ∨ x.toInt = 12 ∨ x.toInt = 13 ∨ x.toInt = 14 ∨ x.toInt = 15 ∨ x.toInt = 16 ∨ x.toInt = 17 := by omega
        rcases hc with h | h | h | h | h | h | h | h | h | h | h | h | h | h | h | h | h | h
        · exact lv_tableIn (off := 87) (tgt := 120) hx hb dL_law_33 (by omega) (by omega) (by rw [h]; rfl) (by decide) (lc_world hX0 hB hl h6 kk)
        · exact lv_tableIn (off := 140) (tgt := 173) hx hb dL_law_33 (by omega) (by omega) (by rw [h]; rfl) (by decide) (lc_weight hX0 hB hl h6 kk)
        · exact lv_tableIn (off := 203) (tgt := 236) hx hb dL_law_33 (by omega) (by omega) (by rw [h]; rfl) (by decide) (lc_told hX0 hB hl h6 kk)
        · exact lv_tableIn (off := 236) (tgt := 269) hx hb dL_law_33 (by omega) (by omega) (by rw [h]; rfl) (by decide) (lc_mix hX0 hB hl h6 kk)
        · exact lv_tableIn (off := 279) (tgt := 312) hx hb dL_law_33 (by omega) (by omega) (by rw [h]; rfl) (by decide) (lc_tell hX0 hB hl h6 kk)
        · exact lv_tableIn (off := 312) (tgt := 345) hx hb dL_law_33 (by omega) (by omega) (by rw [h]; rfl) (by decide) (lc_law hX0 hB hl h6 kk)
        · exact lv_tableIn (off := 355) (tgt := 388) hx hb dL_law_33 (by omega) (by omega) (by rw [h]; rfl) (by decide) (lc_plain hX0 hB hl h6 kk)
        · exact lv_tableIn (off := 388) (tgt := 421) hx hb dL_law_33 (by omega) (by omega) (by rw [h]; rfl) (by decide) (lc_number hX0 hB hl h6 kk)
        · exact lv_tableIn (off := 421) (tgt := 454) hx hb dL_law_33 (by omega) (by omega) (by rw [h]; rfl) (by decide) (lc_sign hX0 hB hl h6 kk)
        · exact lv_tableIn (off := 454) (tgt := 487) hx hb dL_law_33 (by omega) (by omega) (by rw [h]; rfl) (by decide) (lc_compare hX0 hB hl h6 kk)
        · exact lv_tableIn (off := 507) (tgt := 540) hx hb dL_law_33 (by omega) (by omega) (by rw [h]; rfl) (by decide) (lc_near hX0 hB hl h6 kk)
        · exact lv_tableIn (off := 540) (tgt := 573) hx hb dL_law_33 (by omega) (by omega) (by rw [h]; rfl) (by decide) (lc_always hX0 hB hl h6 kk)
        · exact lv_tableIn (off := 573) (tgt := 606) hx hb dL_law_33 (by omega) (by omega) (by rw [h]; rfl) (by decide) (lc_breaks hX0 hB hl h6 kk)
        · exact lv_tableIn (off := 606) (tgt := 639) hx hb dL_law_33 (by omega) (by omega) (by rw [h]; rfl) (by decide) (lc_prove hX0 hB hl h6 kk)
        · exact lv_tableIn (off := 629) (tgt := 662) hx hb dL_law_33 (by omega) (by omega) (by rw [h]; rfl) (by decide) (lc_share hX0 hB hl h6 kk)
        · exact lv_tableIn (off := 662) (tgt := 695) hx hb dL_law_33 (by omega) (by omega) (by rw [h]; rfl) (by decide) (lc_mean hX0 hB hl h6 kk)
        · exact lv_tableIn (off := 695) (tgt := 728) hx hb dL_law_33 (by omega) (by omega) (by rw [h]; rfl) (by decide) (lc_words hX0 hB hl h6 kk)
        · exact lv_tableIn (off := 728) (tgt := 761) hx hb dL_law_33 (by omega) (by omega) (by rw [h]; rfl) (by decide) (lc_secret hX0 hB hl h6 kk)
theorem dfX3 : ∀ j, j < 8 → defaultValue (tyX3 j) = vp_V [.null, .null, .null, .null, .null, .null, .null, .int 0] j := by
  intro j hj
  rcases (show j = 0 ∨ j = 1 ∨ j = 2 ∨ j = 3 ∨ j = 4 ∨ j = 5 ∨ j = 6 ∨ j = 7 by omega) with rfl | rfl | rfl | rfl | rfl | rfl | rfl | rfl <;> rfl
theorem dfX4 : ∀ j, j < 15 → defaultValue (tyX4 j) = vp_V [.null, .null, .null, .null, .null, .null, .null, .null, .null, .int 0, .null, .null, .null, .null, .int 0] j := by
  intro j hj
  rcases (show j = 0 ∨ j = 1 ∨ j = 2 ∨ j = 3 ∨ j = 4 ∨ j = 5 ∨ j = 6 ∨ j = 7 ∨ j = 8 ∨ j = 9 ∨ j = 10 ∨ j = 11 ∨ j = 12 ∨ j = 13 ∨ j = 14 by omega) with rfl | rfl | rfl | rfl | rfl | rfl | rfl | rfl | rfl | rfl | rfl | rfl | rfl | rfl | rfl <;> rfl
set_option maxHeartbeats 4000000 in
set_option maxRecDepth 100000 in
/-- THE LAW, from its entry -/
theorem whole_start {p : Program} {e : Env} {s : State} {m : MethodId} {below : List Frame} {meth : Method} {c : Code} (l : Launch) {b L : Nat} {xs : Nat → Int32} (hL : L ≤ 3072) (C0 : lw_At p s m meth c b L xs) : W p l e room_1 s m #[Value.ref b] below meth c s.heap [] 0 0 (lw_Z below #[Value.ref b] s) (entryFrame m ([Value.ref b] : List Value).toArray 4) := by
  obtain ⟨hx, hb, hr, hml, hown, hts0, hX, hbl, hlocks, hgv⟩ := id C0
  obtain ⟨D, k, t, hE, hAO⟩ := law_Ev hts0 hgv
  have C : Cx RL meth.name cL_law 4 ret wsL_law D k t (fun q : Nat => s.heap.size ≤ q) p s m #[Value.ref b] meth c := ⟨hx, hb, hr, hml, hown, fun w h => hts0 w (wsL_law_in w h), ⟨rfl, hlocks⟩, fun _ h => h, hE⟩
  have hts := C.2.2.2.2.2.1
  have hS : va_S (fun q : Nat => s.heap.size ≤ q) s.heap s.heap [] := va_S.rf
  have hP : va_P D vwCl [] s.heap := fun k q h => by simp at h
  have hD : va_D (fun q : Nat => s.heap.size ≤ q) [] := ⟨fun i j p q h => by simp at h, fun k q h => by simp at h⟩
  have hl := lv_entry ([.ref b]) (n := 4) (Nat.le_of_ble_eq_true rfl)
  rw [lg_entry_eq]
  generalize (lg_sl ([.ref b]) ++ List.replicate (4 - (lg_sl ([.ref b])).length) Slot.unset).toArray = ls at hl ⊢
  have hl : lv_has ls 4 [(0, .ref b)] := hl
  refine nw_o (Cn := RX3) (T := TX3) (N := 8) (ci := 3) (fs := [.null, .null, .null, .null, .null, .null, .null, .int 0]) C hP hD hS inlX3 tyX3_ok (List.mem_of_getElem? (i := 0) rfl) (List.mem_of_getElem? (i := 1) rfl) (List.mem_of_getElem? (i := 2) rfl) rfl dfX3 (Nat.le_of_ble_eq_true rfl) (Nat.le_of_ble_eq_true rfl) dL_law_0 (fun q H hP hD hS => ?_)
  have hP : va_P D vwCl ([] ++ [(q, .inr (3, [.null, .null, .null, .null, .null, .null, .null, .int 0]))]) H := hP
  have hD : va_D (fun q : Nat => s.heap.size ≤ q) ([] ++ [(q, .inr (3, [.null, .null, .null, .null, .null, .null, .null, .int 0]))]) := hD
  refine lv_dup hx hb dL_law_3 rfl ?_
  refine fw_vF (wr := []) (wc := [(q, .inr (3, [.null, .null, .null, .null, .null, .null, .null, .int 0]))]) C hP hD hS (va_runI (As := []) (rest := [.ref q]) (fw_fix C) (c_X3_init D k t l (b := q) H.size) (cwI 0 hts gL_law_X3_init rfl rfl rfl (hts (.initialized RX3) (List.mem_of_getElem? (i := 2) rfl)) (hts (.methodLink RL 9 yX3_init) (List.mem_of_getElem? (i := 6) rfl)) (hts (.instanceMethod yX3_init) (List.mem_of_getElem? (i := 7) rfl)) rfl hdX3_init ⟨Nat.le_of_ble_eq_true rfl, Nat.le_of_ble_eq_true rfl⟩) (fw_pre2 C hAO (pR hP) (dR hD) hS [.ref q]) rfl rfl hl.1 rfl (lv_room (Nat.le_of_ble_eq_true rfl)) dL_law_4 ⟨Nat.le_of_ble_eq_true rfl, Nat.le_of_ble_eq_true rfl⟩) (fun w H locs hw hP9 hD9 hS9 => ?_)
  obtain ⟨ad, ea, rfl⟩ := hw
  subst ea
  clear hP hD hS
  have hP : va_P D vwCl (TBw ad k (fun _ => nI 0) (fun _ _ => nI 0) (fun _ _ => nI 0) (fun _ _ => nI 0) (fun _ => nI 0) (fun _ _ => 0) (fun _ => nI 0) (fun _ => nI 0) (fun _ => nI 0) (fun _ => nI 0) (fun _ => nI 0) (nI 0)) H := hP9
  have hD : va_D (fun q : Nat => s.heap.size ≤ q) (TBw ad k (fun _ => nI 0) (fun _ _ => nI 0) (fun _ _ => nI 0) (fun _ _ => nI 0) (fun _ => nI 0) (fun _ _ => 0) (fun _ => nI 0) (fun _ => nI 0) (fun _ => nI 0) (fun _ => nI 0) (fun _ => nI 0) (nI 0)) := hD9
  have hS := hS9
  clear hP9 hD9 hS9
  refine lv_astore_n (lv' := [(1, .ref (ad 0)), (0, .ref b)]) hx hb dL_law_7 rfl hl (by decide) rfl (fun ls hl => ?_)
  refine nw_o (Cn := RX4) (T := TX4) (N := 15) (ci := 4) (fs := [.null, .null, .null, .null, .null, .null, .null, .null, .null, .int 0, .null, .null, .null, .null, .int 0]) C hP hD hS inlX4 tyX4_ok (List.mem_of_getElem? (i := 3) rfl) (List.mem_of_getElem? (i := 4) rfl) (List.mem_of_getElem? (i := 5) rfl) rfl dfX4 (Nat.le_of_ble_eq_true rfl) (Nat.le_of_ble_eq_true rfl) dL_law_8 (fun q H hP hD hS => ?_)
  refine lv_dup hx hb dL_law_11 rfl ?_
  refine fw_vF (wr := TBw ad k (fun _ => nI 0) (fun _ _ => nI 0) (fun _ _ => nI 0) (fun _ _ => nI 0) (fun _ => nI 0) (fun _ _ => 0) (fun _ => nI 0) (fun _ => nI 0) (fun _ => nI 0) (fun _ => nI 0) (fun _ => nI 0) (nI 0)) (wc := [(q, .inr (4, [.null, .null, .null, .null, .null, .null, .null, .null, .null, .int 0, .null, .null, .null, .null, .int 0]))]) C hP hD hS (rn_I (As := []) (rest := [.ref q]) C (c_X4_init D k t l (b := q) H.size) (cwI 0 hts gL_law_X4_init rfl rfl rfl (hts (.initialized RX4) (List.mem_of_getElem? (i := 5) rfl)) (hts (.methodLink RL 12 yX4_init) (List.mem_of_getElem? (i := 49) rfl)) (hts (.instanceMethod yX4_init) (List.mem_of_getElem? (i := 50) rfl)) rfl hdX4_init ⟨Nat.le_of_ble_eq_true rfl, Nat.le_of_ble_eq_true rfl⟩) (pR hP) (dR hD) hS rfl hl.1 rfl (Nat.le_of_ble_eq_true rfl) dL_law_12 ⟨Nat.le_of_ble_eq_true rfl, Nat.le_of_ble_eq_true rfl⟩) (fun w H locs hw hP9 hD9 hS9 => ?_)
  obtain ⟨bd, eb, rfl⟩ := hw
  subst eb
  clear hP hD hS
  have hP := hP9
  have hD := hD9
  have hS := hS9
  clear hP9 hD9 hS9
  refine lv_astore_n (lv' := [(2, .ref (bd 0)), (1, .ref (ad 0)), (0, .ref b)]) hx hb dL_law_15 rfl hl (by decide) rfl (fun ls hl => ?_)
  refine lv_iconst (v := nI 0) hx hb dL_law_16 (by decide) ?_
  refine lv_istore_n (lv' := [(3, .int (nI 0)), (2, .ref (bd 0)), (1, .ref (ad 0)), (0, .ref b)]) hx hb dL_law_17 rfl hl (by decide) rfl (fun ls hl => ?_)
  refine W.widen (k := 600000) (n := 7302250) (Nat.le_of_ble_eq_true rfl) (Nat.le_of_ble_eq_true rfl) ?_
  have hPs := sw2P hP
  have hDs := sw2D hD
  exact law_loop (ad := ad) (bd := bd) ⟨C, hX, hbl, hL⟩ (L + 1) 0 (Nat.zero_le _) (by omega) _ _ _ _ ls ⟨RelW_mk Rel_0, hPs, hDs, hS⟩ (lv_sub hl [3, 2, 1, 0] rfl)
