/-! ===== BEGIN new T[n][m]: the outer array a place, the inner ones among the pooled ===== -/
/-- f, but v at every address of l -/
def vr_up {α : Type} (f : Nat → α) (l : List Nat) (v : α) : Nat → α := fun a => if a ∈ l then v else f a
theorem vr_up_in {α : Type} {f : Nat → α} {l : List Nat} {v : α} {a : Nat} (h : a ∈ l) : vr_up f l v a = v := if_pos h
theorem vr_up_ne {α : Type} {f : Nat → α} {l : List Nat} {v : α} {a : Nat} (h : a ∉ l) : vr_up f l v a = f a := if_neg h
theorem vr_rows {L l : List Nat} {f : Nat → va_E} {e : va_E} (h : ∀ a, a ∈ l → a ∉ L) : va_pl L f ++ l.map (fun a => (a, e)) = va_pl (L ++ l) (vr_up f l e) := by
  unfold va_pl
  rw [List.map_append]
  congr 1
  · apply List.map_congr_left
    intro a ha
    rw [vr_up_ne (fun q => h a q ha)]
  · apply List.map_congr_left
    intro a ha
    rw [vr_up_in ha]
theorem vr_lay {X rows : va_W} {x : Nat × va_E} {pl : va_W} {D : va_G} {cl : List vw_C} {H : Heap} (hP : va_P D cl (((X ++ pl) ++ [x]) ++ rows) H) : va_P D cl ((X ++ [x]) ++ (pl ++ rows)) H := by
  rw [List.append_assoc (X ++ pl)] at hP
  have h := va_P.swap hP
  rw [← List.append_assoc X] at h
  have h2 := va_P.swap h
  rw [List.append_assoc (X ++ [x])] at h2
  exact h2
theorem vr_layD {X rows : va_W} {x : Nat × va_E} {pl : va_W} {A : Nat → Prop} (hD : va_D A (((X ++ pl) ++ [x]) ++ rows)) : va_D A ((X ++ [x]) ++ (pl ++ rows)) := by
  rw [List.append_assoc (X ++ pl)] at hD
  have h := va_D.swap hD
  rw [← List.append_assoc X] at h
  have h2 := va_D.swap h
  rw [List.append_assoc (X ++ [x])] at h2
  exact h2
theorem vr_outer (c : ClassId) (N h0 : Nat) : ∀ i : Nat, Jvm.Free.Multi.outerC c N h0 i = arrV c N (fun j => va_rf (if j < i then some (h0 + 1 + j) else none))
  | 0 => by
    show ({ cls := c, slots := Array.replicate N .null, vm := .none } : Cell) = _
    rw [arrV_new]
    refine congrArg (arrV c N) (funext fun j => ?_)
    simp [va_rf]
  | i + 1 => by
    show (Jvm.Free.Multi.outerC c N h0 i).setSlot i (.ref (h0 + 1 + i)) = _
    rw [vr_outer c N h0 i, arrV_store]
    refine congrArg (arrV c N) (funext fun j => ?_)
    by_cases e : j = i
    · subst e
      simp [updV, va_rf]
    · by_cases h : j < i
      · simp [updV, e, h, Nat.lt_succ_of_lt h]
      · simp [updV, e, h, show ¬ j < i + 1 by omega]
section VGM
variable {p : Program} {l : Launch} {e : Env} {R : Room} {s : State} {m : MethodId} {args : Array Value} {below : List Frame} {meth : Method} {c : Code} {H : Heap} {locs : List Loc} {cells slots : Nat} {Q : State → Prop}
variable {cc : ByteArray} {pc : Nat} {ls : Array Slot} {rest : List Value} {D : va_G} {cl : List vw_C} {A : Nat → Prop} {a : Nat} {tys : List (ClassId × FieldType)} {ws : va_W} {H0 : Heap}
theorem va_mna {X : va_W} {L : List Nat} {f : Nat → va_E} {cc : ByteArray} (hexec : p.tables.exec = Jvm.exec) (hb : c.code = cc) {own : String} {index : Nat} {ty : FieldType} {cy : ClassId} (hown : s.vm.findClass own = some m.cls) (hclink : (Cond.classLink own index ("[" ++ (FieldType.array ty).toString)).before args s = true) (hover : (Cond.arrayOver (.array ty)).before args s = true) (harr : (Cond.arrayClass ty).before args s = true) (hcy : s.vm.findClass (FieldType.array ty).toString = some cy)
    (hK : va_K D cl tys s) (hP : va_P D cl (X ++ va_pl L f) H) (hD : va_D A (X ++ va_pl L f)) (hS : va_S A H0 H locs) (hA : ∀ q, H0.size ≤ q → A q) {n k : Int32} {N' K' : Nat} {z : vp_A} (hn : ¬ n < 0) (hk : ¬ k < 0) (hN : n.toNatClampNeg = N') (hM : k.toNatClampNeg = K')
    (hb1 : N' * 4 ≤ 536870912) (hb2 : K' * componentBytes ty ≤ 536870912) (hb3 : K' ≤ 536870912) (hdf : fits ty (defaultValue ty) = true) (hdd : (defaultValue ty).isDefault = true) (hcells : cells + (1 + N') ≤ R.cells) (hslots : slots + (N' + N' * K') ≤ R.slots) (hz : ∀ c : ClassId, Jvm.Free.Multi.innerC c K' (defaultValue ty) = vp_cell c z) (hdg : decode cc pc = .ok (.multianewarray index 2, 4))
    (kk : ∀ (q : Nat) (r : Nat → Nat) (cA : ClassId) (H1 : Heap), (∀ i j : Nat, i < N' → j < N' → r i = r j → i = j) → (∀ i : Nat, i < N' → r i ∉ L) → va_K D cl (tys ++ [(cA, .array ty)]) s →
      va_P D cl ((X ++ [(q, .inl (cA, N', .inr (.inr (.inr (.inr (fun i => if i < N' then some (r i) else none))))))]) ++ va_pl (L ++ (List.range N').map r) (vr_up f ((List.range N').map r) (.inl (cy, z)))) H1 → va_D A ((X ++ [(q, .inl (cA, N', .inr (.inr (.inr (.inr (fun i => if i < N' then some (r i) else none))))))]) ++ va_pl (L ++ (List.range N').map r) (vr_up f ((List.range N').map r) (.inl (cy, z)))) → va_S A H0 H1 locs →
      W p l e R s m args below meth c H1 locs (cells + 1 + N') (slots + N' + N' * K') Q (F0 m (pc + 4) ls (.ref q :: rest))) : W p l e R s m args below meth c H locs cells slots Q (F0 m pc ls (.int k :: .int n :: rest)) := by
  subst hN
  subst hM
  intro T hT Xs
  obtain ⟨vm₁, cA, comp, -, fA, fC, hO, -, X', step⟩ := Xs.multianewarray2F hexec hown hclink (hover) harr (g := F0 m pc ls (.int k :: .int n :: rest)) rfl (by rw [hb]; exact hdg) rfl hn hk hb1 hb2 hb3 hdf hdd hcells hslots
  have ec : some cy = some comp := hcy.symm.trans fC
  cases ec
  generalize hF : Jvm.Free.Multi.fill (T.setVm vm₁) cA cy n.toNatClampNeg k.toNatClampNeg (defaultValue ty) n.toNatClampNeg = F at X' step
  have hTh : (T.setVm vm₁).heap = H := hT
  obtain ⟨f1, f2, -, -⟩ := Jvm.Free.Multi.fill_facts (T.setVm vm₁) cA cy n.toNatClampNeg k.toNatClampNeg (defaultValue ty) n.toNatClampNeg
  rw [hF, hTh] at f1 f2
  have hold : ∀ x : Nat, x < H.size → F.heap[x]? = H[x]? := fun x hx => by
    have := Jvm.Free.Multi.fill_old (T.setVm vm₁) cA cy n.toNatClampNeg k.toNatClampNeg (defaultValue ty) (a := x) (by rw [hTh]; exact hx) n.toNatClampNeg
    rw [hF, hTh] at this
    exact this
  have hrow : ∀ j : Nat, j < n.toNatClampNeg → F.heap[H.size + 1 + j]? = some (vp_cell cy z) := fun j hj => by
    have := Jvm.Free.Multi.fill_inner (T.setVm vm₁) cA cy n.toNatClampNeg k.toNatClampNeg (defaultValue ty) n.toNatClampNeg j hj
    rw [hF, hTh, hz] at this
    exact this
  have hout : Jvm.Free.Multi.outerC cA n.toNatClampNeg H.size n.toNatClampNeg = vp_cell cA (n.toNatClampNeg, .inr (.inr (.inr (.inr (fun i => if i < n.toNatClampNeg then some (H.size + 1 + i) else none))))) := by
    rw [vp_cell_q]
    exact vr_outer cA n.toNatClampNeg H.size n.toNatClampNeg
  rw [hout] at f2
  have hlt : ∀ a, a ∈ L → a < H.size := fun a ha => by
    obtain ⟨k9, hk9⟩ := va_pl_get (X := X) (f := f) ha
    exact (hP k9 _ hk9).lt
  have hnl : ∀ i : Nat, i < n.toNatClampNeg → H.size + 1 + i ∉ L := fun i _ h => by
    have := hlt _ h
    omega
  have hnm : ∀ a, a ∈ (List.range n.toNatClampNeg).map (fun i => H.size + 1 + i) → a ∉ L := fun a ha h => by
    obtain ⟨i, -, rfl⟩ := List.mem_map.mp ha
    have := hlt _ h
    omega
  have hP0 : va_P D cl (X ++ va_pl L f) F.heap := hP.kept (fun k9 x hx => hold x.1 ((hP k9 x hx).lt))
  have hP1 : va_P D cl ((X ++ va_pl L f) ++ [(H.size, .inl (cA, n.toNatClampNeg, .inr (.inr (.inr (.inr (fun i => if i < n.toNatClampNeg then some (H.size + 1 + i) else none))))))]) F.heap := hP0.app (fun k9 x hx => by
    have h0 : k9 < 1 := (List.getElem?_eq_some_iff.mp hx).1
    rw [show k9 = 0 by omega] at hx
    cases hx
    exact f2)
  have hP2 : va_P D cl (((X ++ va_pl L f) ++ [(H.size, .inl (cA, n.toNatClampNeg, .inr (.inr (.inr (.inr (fun i => if i < n.toNatClampNeg then some (H.size + 1 + i) else none))))))]) ++ ((List.range n.toNatClampNeg).map (fun i => H.size + 1 + i)).map (fun a => (a, .inl (cy, z)))) F.heap := hP1.app (fun k9 x hx => by
    obtain ⟨a, ha, rfl⟩ := List.mem_map.mp (List.mem_of_getElem? hx)
    obtain ⟨i, hi, rfl⟩ := List.mem_map.mp ha
    exact hrow i (List.mem_range.mp hi))
  have hD2 : va_D A (((X ++ va_pl L f) ++ [(H.size, .inl (cA, n.toNatClampNeg, .inr (.inr (.inr (.inr (fun i => if i < n.toNatClampNeg then some (H.size + 1 + i) else none))))))]) ++ ((List.range n.toNatClampNeg).map (fun i => H.size + 1 + i)).map (fun a => (a, .inl (cy, z)))) := by
    have hD1 := hD.push (e := .inl (cA, n.toNatClampNeg, .inr (.inr (.inr (.inr (fun i => if i < n.toNatClampNeg then some (H.size + 1 + i) else none)))))) hP rfl (hA _ hS.1)
    generalize hW1 : (X ++ va_pl L f) ++ [(H.size, .inl (cA, n.toNatClampNeg, .inr (.inr (.inr (.inr (fun i => if i < n.toNatClampNeg then some (H.size + 1 + i) else none))))))] = W1 at hD1 hP1 ⊢
    have hle : ∀ (k9 : Nat) (x : Nat × va_E), W1[k9]? = some x → x.1 ≤ H.size := fun k9 x hx => by
      rw [← hW1] at hx
      by_cases hl : k9 < (X ++ va_pl L f).length
      · rw [List.getElem?_append_left hl] at hx
        exact Nat.le_of_lt ((hP k9 x hx).lt)
      · rw [List.getElem?_append_right (by omega)] at hx
        have h0 : k9 - (X ++ va_pl L f).length < 1 := (List.getElem?_eq_some_iff.mp hx).1
        rw [show k9 - (X ++ va_pl L f).length = 0 by omega] at hx
        cases hx
        exact Nat.le_refl _
    have hr : ∀ (k9 : Nat) (x : Nat × va_E), (((List.range n.toNatClampNeg).map (fun i => H.size + 1 + i)).map (fun a => ((a, .inl (cy, z)) : Nat × va_E)))[k9]? = some x → x.1 = H.size + 1 + k9 := fun k9 x hx => by
      rw [List.getElem?_map, List.getElem?_map] at hx
      by_cases h9 : k9 < n.toNatClampNeg
      · rw [List.getElem?_range h9] at hx
        cases hx
        rfl
      · have hn0 : (List.range n.toNatClampNeg)[k9]? = none := List.getElem?_eq_none (by rw [List.length_range]; omega)
        rw [hn0] at hx
        cases hx
    refine ⟨fun i j x y hi hj hxy => ?_, fun k9 x hx => ?_⟩
    · by_cases h1 : i < W1.length <;> by_cases h2 : j < W1.length
      · rw [List.getElem?_append_left h1] at hi
        rw [List.getElem?_append_left h2] at hj
        exact hD1.1 i j x y hi hj hxy
      · rw [List.getElem?_append_left h1] at hi
        rw [List.getElem?_append_right (by omega)] at hj
        have := hle _ _ hi
        have := hr _ _ hj
        omega
      · rw [List.getElem?_append_right (by omega)] at hi
        rw [List.getElem?_append_left h2] at hj
        have := hle _ _ hj
        have := hr _ _ hi
        omega
      · rw [List.getElem?_append_right (by omega)] at hi hj
        have := hr _ _ hi
        have := hr _ _ hj
        omega
    · by_cases h1 : k9 < W1.length
      · rw [List.getElem?_append_left h1] at hx
        exact hD1.2 k9 x hx
      · rw [List.getElem?_append_right (by omega)] at hx
        have := hr _ _ hx
        exact hA _ (by have := hS.1; omega)
  have hAr : ArrOfT s cA (.array ty) := fun N9 z9 => by
    obtain ⟨-, k9, hk9, cm9, hkk9⟩ := (hO 0 0 0).1
    exact ⟨(fun q hq => by cases hq), k9, hk9, cm9, hkk9⟩
  have hK2 : va_K D cl (tys ++ [(cA, .array ty)]) s := ⟨hK.1, fun k9 x hx => by
    by_cases hl : k9 < tys.length
    · rw [List.getElem?_append_left hl] at hx
      exact hK.2 k9 x hx
    · rw [List.getElem?_append_right (by omega)] at hx
      have h0 : k9 - tys.length < 1 := (List.getElem?_eq_some_iff.mp hx).1
      rw [show k9 - tys.length = 0 by omega] at hx
      cases hx
      exact ⟨hAr, fA⟩⟩
  obtain ⟨t, a1, b1⟩ := kk H.size (fun i => H.size + 1 + i) cA F.heap (fun i j _ _ h => by have h9 : H.size + 1 + i = H.size + 1 + j := h; omega) hnl hK2 (by rw [← vr_rows hnm]; exact vr_lay hP2) (by rw [← vr_rows hnm]; exact vr_layD hD2) ⟨by rw [f1]; have := hS.1; omega, fun x h1 h2 => (hold x (Nat.lt_of_lt_of_le h1 hS.1)).trans (hS.2.1 x h1 h2), hS.2.2⟩ F rfl X'
  refine ⟨t, step t ?_, b1⟩
  have e : T.heap.size = H.size := by rw [hT]
  rw [e]
  exact a1
end VGM
/-! ===== END ===== -/
/-! constructors: rows -/
theorem jn {A0 : Nat → Prop} {D : va_G} {cl : List vw_C} {wr wc w1 : va_W} {H H1 : Heap} (hP : va_P D cl (wr ++ wc) H) (hD : va_D A0 (wr ++ wc)) (hk : ∀ q : Nat, q < H.size → ¬ va_A wc H.size q → H1[q]? = H[q]?) (hF : ∀ q, va_A wc H.size q → A0 q) (hP1 : va_P D cl w1 H1) (hD1 : va_D (va_A wc H.size) w1) : va_P D cl (wr ++ w1) H1 ∧ va_D A0 (wr ++ w1) := by
  have hr : ∀ (i : Nat) (x : Nat × va_E), wr[i]? = some x → (wr ++ wc)[i]? = some x := fun i x h => by
    rw [List.getElem?_append_left (List.getElem?_eq_some_iff.mp h).1]; exact h
  have hc : ∀ (i : Nat) (x : Nat × va_E), wc[i]? = some x → (wr ++ wc)[wr.length + i]? = some x := fun i x h => by
    rw [List.getElem?_append_right (by omega), Nat.add_sub_cancel_left]; exact h
  have hna : ∀ (i : Nat) (x : Nat × va_E), wr[i]? = some x → ¬ va_A wc H.size x.1 := fun i x h o => by
    rcases o with ⟨j, e, hj⟩ | hj
    · have h1 := hD.1 i (wr.length + j) x (x.1, e) (hr i x h) (hc j _ hj) rfl
      have h2 := (List.getElem?_eq_some_iff.mp h).1
      omega
    · have := (hP i x (hr i x h)).lt
      omega
  have hPr : va_P D cl wr H := fun i x h => hP i x (hr i x h)
  have sp : ∀ (i : Nat) (x : Nat × va_E), (wr ++ w1)[i]? = some x → (i < wr.length ∧ wr[i]? = some x) ∨ (wr.length ≤ i ∧ w1[i - wr.length]? = some x) := fun i x h => by
    rcases Nat.lt_or_ge i wr.length with q | q
    · rw [List.getElem?_append_left q] at h; exact Or.inl ⟨q, h⟩
    · rw [List.getElem?_append_right q] at h; exact Or.inr ⟨q, h⟩
  refine ⟨(hPr.kept (fun i x h => hk x.1 ((hPr i x h).lt) (hna i x h))).app hP1, fun i j x y hi hj hxy => ?_, fun i x hi => ?_⟩
  · rcases sp i x hi with ⟨a1, a2⟩ | ⟨a1, a2⟩ <;> rcases sp j y hj with ⟨b1, b2⟩ | ⟨b1, b2⟩
    · exact hD.1 i j x y (hr i x a2) (hr j y b2) hxy
    · exact absurd (hxy ▸ hD1.2 _ y b2) (hna i x a2)
    · exact absurd (hxy ▸ hD1.2 _ x a2) (hna j y b2)
    · have := hD1.1 _ _ x y a2 b2 hxy
      omega
  · rcases sp i x hi with ⟨a1, a2⟩ | ⟨a1, a2⟩
    · exact hD.2 i x (hr i x a2)
    · exact hF _ (hD1.2 _ x a2)
theorem dR {A : Nat → Prop} {wr wc : va_W} (hD : va_D A (wr ++ wc)) : va_D A wc := ⟨fun i j x y hi hj hxy => by
  have h : ∀ (i : Nat) (x : Nat × va_E), wc[i]? = some x → (wr ++ wc)[wr.length + i]? = some x := fun i x h => by
    rw [List.getElem?_append_right (by omega), Nat.add_sub_cancel_left]; exact h
  have := hD.1 _ _ x y (h i x hi) (h j y hj) hxy
  omega, fun i x hi => hD.2 (wr.length + i) x (by rw [List.getElem?_append_right (by omega), Nat.add_sub_cancel_left]; exact hi)⟩
theorem pR {D : va_G} {cl : List vw_C} {wr wc : va_W} {H : Heap} (hP : va_P D cl (wr ++ wc) H) : va_P D cl wc H := fun i x hi => hP (wr.length + i) x (by rw [List.getElem?_append_right (by omega), Nat.add_sub_cancel_left]; exact hi)
section IR
variable {p : Program} {l : Launch} {e : Env} {R : Room} {s : State} {m : MethodId} {args : Array Value} {below : List Frame} {meth : Method} {c : Code} {H : Heap} {locs : List Loc} {cells slots mc ms : Nat} {Q : State → Prop} {own nm : String} {cc : ByteArray} {maxL : Nat} {ret : Option FieldType} {wl : List Cond} {D : va_G} {k : Nat → ClassId} {t : Nat → Nat} {A : Nat → Prop} {ws wr wc : va_W} {pc a : Nat} {ls : Array Slot} {rest st0 : List Value}
theorem fw_vF {post : va_W → Prop} {av : Array Value} (C : Cx own nm cc maxL ret wl D k t A p s m args meth c) (hP : va_P D vwCl (wr ++ wc) H) (hD : va_D A (wr ++ wc)) (hS : va_S A s.heap H locs)
    (hr : va_Run p l e R s m args below meth c H locs cells slots mc ms (F0 m pc ls st0) rest (va_Qv post (BcW D (va_A wc H.size)) (va_A wc H.size) av) (va_A wc H.size))
    (kk : ∀ (w : va_W) (H1 : Heap) (locs1 : List Loc), post w → va_P D vwCl (wr ++ w) H1 → va_D A (wr ++ w) → va_S A s.heap H1 locs1 → W p l e R s m args below meth c H1 locs1 (cells + mc) (slots + ms) Q (F0 m (pc + 3) ls rest)) : W p l e R s m args below meth c H locs cells slots Q (F0 m pc ls st0) := by
  have hF := fw_free C (dR hD) hS
  refine va_callv hr hS (fun q _ h => hF q h) hF (fun u T H1 locs1 hT _ hw hB _ hk hS1 => ?_)
  subst hT
  obtain ⟨hP2, hD2⟩ := jn hP hD hk hF hB.1 hB.2
  exact kk u _ locs1 hw hP2 hD2 hS1
theorem ka0 {cA : ClassId} (hK : va_K D vwCl (tysC k ++ [(cA, .int)]) s) : cA = k 0 := Option.some.inj (Eq.trans (Eq.symm (hK.2 4 _ rfl).2) (hK.2 0 _ rfl).2)
theorem ka1 {cA : ClassId} (hK : va_K D vwCl (tysC k ++ [(cA, .long)]) s) : cA = k 1 := Option.some.inj (Eq.trans (Eq.symm (hK.2 4 _ rfl).2) (hK.2 1 _ rfl).2)
theorem ka2 {cA : ClassId} (hK : va_K D vwCl (tysC k ++ [(cA, .object RX2)]) s) : cA = k 2 := by
  obtain ⟨_, _, _, _, _, h1⟩ := (hK.2 4 _ rfl).2
  obtain ⟨_, _, _, _, _, h2⟩ := (hK.2 2 _ rfl).2
  exact Option.some.inj (h1.symm.trans h2)
theorem ka3 {cA : ClassId} (hK : va_K D vwCl (tysC k ++ [(cA, .array .int)]) s) : cA = k 3 := Option.some.inj (Eq.trans (Eq.symm (hK.2 4 _ rfl).2) (hK.2 3 _ rfl).2)
theorem nw_i (C : Cx own nm cc maxL ret wl D k t A p s m args meth c) (hP : va_P D vwCl ws H) (hD : va_D A ws) (hS : va_S A s.heap H locs) (harr : (Cond.arrayClass .int).before args s = true) {n : Nat} (hn : n < 100000) (hcells : cells + 1 ≤ R.cells) (hslots : slots + n ≤ R.slots) (hd : decode cc pc = .ok (.newarray .int, 2))
    (kk : ∀ (q : Nat) (H1 : Heap), va_P D vwCl (ws ++ [(q, .inl (k 0, n, .inl (fun _ => nI 0)))]) H1 → va_D A (ws ++ [(q, .inl (k 0, n, .inl (fun _ => nI 0)))]) → va_S A s.heap H1 locs → W p l e R s m args below meth c H1 locs (cells + 1) (slots + n) Q (F0 m (pc + 2) ls (.ref q :: rest))) : W p l e R s m args below meth c H locs cells slots Q (F0 m pc ls (.int (nI n) :: rest)) :=
  va_newa C.1 C.2.1 (atype := .int) harr (ty := .int) rfl C.2.2.2.2.2.2.2.2.1 hP hD hS C.2.2.2.2.2.2.2.1 (a0 := (n, .inl (fun _ => nI 0))) (fun _ => rfl) (nI_nn (by omega)) (nI_clamp (by omega)) (by show n * 4 ≤ _; omega) hcells hslots hd (fun q cA H1 hK h1 h2 h3 => by
    obtain rfl := ka0 hK
    exact kk q H1 h1 h2 h3)
theorem nw_j (C : Cx own nm cc maxL ret wl D k t A p s m args meth c) (hP : va_P D vwCl ws H) (hD : va_D A ws) (hS : va_S A s.heap H locs) (harr : (Cond.arrayClass .long).before args s = true) {n : Nat} (hn : n < 100000) (hcells : cells + 1 ≤ R.cells) (hslots : slots + n ≤ R.slots) (hd : decode cc pc = .ok (.newarray .long, 2))
    (kk : ∀ (q : Nat) (H1 : Heap), va_P D vwCl (ws ++ [(q, .inl (k 1, n, .inr (.inl (fun _ => 0))))]) H1 → va_D A (ws ++ [(q, .inl (k 1, n, .inr (.inl (fun _ => 0))))]) → va_S A s.heap H1 locs → W p l e R s m args below meth c H1 locs (cells + 1) (slots + n) Q (F0 m (pc + 2) ls (.ref q :: rest))) : W p l e R s m args below meth c H locs cells slots Q (F0 m pc ls (.int (nI n) :: rest)) :=
  va_newa C.1 C.2.1 (atype := .long) harr (ty := .long) rfl C.2.2.2.2.2.2.2.2.1 hP hD hS C.2.2.2.2.2.2.2.1 (a0 := (n, .inr (.inl (fun _ => 0)))) (fun _ => rfl) (nI_nn (by omega)) (nI_clamp (by omega)) (by show n * 8 ≤ _; omega) hcells hslots hd (fun q cA H1 hK h1 h2 h3 => by
    obtain rfl := ka1 hK
    exact kk q H1 h1 h2 h3)
theorem nw_q (C : Cx own nm cc maxL ret wl D k t A p s m args meth c) (hP : va_P D vwCl ws H) (hD : va_D A ws) (hS : va_S A s.heap H locs) {index : Nat} (hcl : (Cond.classLink own index RX2).before args s = true) (hov : va_AO RX2 s) {n : Nat} (hn : n < 100000) (hcells : cells + 1 ≤ R.cells) (hslots : slots + n ≤ R.slots) (hd : decode cc pc = .ok (.anewarray index, 3))
    (kk : ∀ (q : Nat) (H1 : Heap), va_P D vwCl (ws ++ [(q, .inl (k 2, n, .inr (.inr (.inr (.inr (fun _ => none))))))]) H1 → va_D A (ws ++ [(q, .inl (k 2, n, .inr (.inr (.inr (.inr (fun _ => none))))))]) → va_S A s.heap H1 locs → W p l e R s m args below meth c H1 locs (cells + 1) (slots + n) Q (F0 m (pc + 3) ls (.ref q :: rest))) : W p l e R s m args below meth c H locs cells slots Q (F0 m pc ls (.int (nI n) :: rest)) :=
  va_newq C.1 C.2.1 C.2.2.2.2.1 hcl hov C.2.2.2.2.2.2.2.2.1 hP hD hS C.2.2.2.2.2.2.2.1 (nI_nn (by omega)) (nI_clamp (by omega)) (by omega) hcells hslots hd (fun q cA H1 hK h1 h2 h3 => by
    obtain rfl := ka2 hK
    exact kk q H1 h1 h2 h3)
theorem pl10 {r : Nat → Nat} {f : Nat → va_E} {z : va_E} : va_pl ([] ++ (List.range 10).map r) (vr_up f ((List.range 10).map r) z) = [(r 0, z), (r 1, z), (r 2, z), (r 3, z), (r 4, z), (r 5, z), (r 6, z), (r 7, z), (r 8, z), (r 9, z)] := by
  have h : ∀ a ∈ (List.range 10).map r, vr_up f ((List.range 10).map r) z a = z := fun a ha => vr_up_in ha
  rw [List.nil_append]
  unfold va_pl
  rw [List.map_congr_left (g := fun a => (a, z)) (fun a ha => by rw [h a ha])]
  rfl
theorem nw_m (C : Cx own nm cc maxL ret wl D k t A p s m args meth c) (hP : va_P D vwCl ws H) (hD : va_D A ws) (hS : va_S A s.heap H locs) {index : Nat} (hcl : (Cond.classLink own index "[[I").before args s = true) (hov : (Cond.arrayOver (.array .int)).before args s = true) (harr : (Cond.arrayClass .int).before args s = true) (hcells : cells + 11 ≤ R.cells) (hslots : slots + 90 ≤ R.slots) (hd : decode cc pc = .ok (.multianewarray index 2, 4))
    (kk : ∀ (q : Nat) (r : Nat → Nat) (H1 : Heap), va_P D vwCl ((ws ++ [(q, .inl (k 3, 10, .inr (.inr (.inr (.inr (fun i => if i < 10 then some (r i) else none))))))]) ++ [(r 0, .inl (k 0, 8, .inl (fun _ => nI 0))), (r 1, .inl (k 0, 8, .inl (fun _ => nI 0))), (r 2, .inl (k 0, 8, .inl (fun _ => nI 0))), (r 3, .inl (k 0, 8, .inl (fun _ => nI 0))), (r 4, .inl (k 0, 8, .inl (fun _ => nI 0))), (r 5, .inl (k 0, 8, .inl (fun _ => nI 0))), (r 6, .inl (k 0, 8, .inl (fun _ => nI 0))), (r 7, .inl (k 0, 8, .inl (fun _ => nI 0))), (r 8, .inl (k 0, 8, .inl (fun _ => nI 0))), (r 9, .inl (k 0, 8, .inl (fun _ => nI 0)))]) H1 →
      va_D A ((ws ++ [(q, .inl (k 3, 10, .inr (.inr (.inr (.inr (fun i => if i < 10 then some (r i) else none))))))]) ++ [(r 0, .inl (k 0, 8, .inl (fun _ => nI 0))), (r 1, .inl (k 0, 8, .inl (fun _ => nI 0))), (r 2, .inl (k 0, 8, .inl (fun _ => nI 0))), (r 3, .inl (k 0, 8, .inl (fun _ => nI 0))), (r 4, .inl (k 0, 8, .inl (fun _ => nI 0))), (r 5, .inl (k 0, 8, .inl (fun _ => nI 0))), (r 6, .inl (k 0, 8, .inl (fun _ => nI 0))), (r 7, .inl (k 0, 8, .inl (fun _ => nI 0))), (r 8, .inl (k 0, 8, .inl (fun _ => nI 0))), (r 9, .inl (k 0, 8, .inl (fun _ => nI 0)))]) → va_S A s.heap H1 locs → W p l e R s m args below meth c H1 locs (cells + 1 + 10) (slots + 10 + 10 * 8) Q (F0 m (pc + 4) ls (.ref q :: rest))) : W p l e R s m args below meth c H locs cells slots Q (F0 m pc ls (.int (nI 8) :: .int (nI 10) :: rest)) := by
  have hK0 := C.2.2.2.2.2.2.2.2.1
  refine va_mna (X := ws) (L := []) (f := fun _ => .inl (k 0, 8, .inl (fun _ => nI 0))) (N' := 10) (K' := 8) (z := (8, .inl (fun _ => nI 0))) (ty := .int) (cy := k 0) C.1 C.2.1 C.2.2.2.2.1 hcl hov harr (hK0.2 0 _ rfl).2 hK0 (by rw [show va_pl [] (fun _ => (Sum.inl (k 0, 8, .inl (fun _ => nI 0)) : va_E)) = [] from rfl, List.append_nil]; exact hP) (by rw [show va_pl [] (fun _ => (Sum.inl (k 0, 8, .inl (fun _ => nI 0)) : va_E)) = [] from rfl, List.append_nil]; exact hD) hS C.2.2.2.2.2.2.2.1 (by decide) (by decide) (by decide) (by decide) (by decide) (by decide) (by decide) rfl rfl hcells hslots (fun _ => rfl) hd ?_
  intro q r cA H1 _ _ hK h1 h2 h3
  obtain rfl := ka3 hK
  rw [pl10] at h1 h2
  exact kk q r H1 h1 h2 h3
theorem ast_q (C : Cx own nm cc maxL ret wl D k t A p s m args meth c) (hP : va_P D vwCl ws H) (hD : va_D A ws) (hS : va_S A s.heap H locs) (q0 qk : Nat) {n v : Nat} {vs : List Value} {f : Nat → Option Nat} (ha : ws[q0]? = some (a, .inl (k 2, n, .inr (.inr (.inr (.inr f)))))) (hv : ws[qk]? = some (v, .inr (2, vs))) {j : Nat} (hj : j < n) (hn : n < 2 ^ 31) {ws' : va_W} (hws : ws.set q0 (a, .inl (k 2, n, .inr (.inr (.inr (.inr (va_up f j (some v))))))) = ws') (hd : decode cc pc = .ok (.aastore, 1))
    (kk : ∀ (H1 : Heap) (locs1 : List Loc), va_P D vwCl ws' H1 → va_D A ws' → va_S A s.heap H1 locs1 → W p l e R s m args below meth c H1 locs1 cells slots Q (F0 m (pc + 1) ls rest)) : W p l e R s m args below meth c H locs cells slots Q (F0 m pc ls (.ref v :: .int (nI j) :: .ref a :: rest)) := by
  refine va_astq C.1 C.2.1 C.2.2.2.2.2.2.2.2.1 hP hD hS q0 2 qk 2 ha (r := (RX2, TX2, 3)) rfl hv rfl (vp_in_nI hj hn) hd ?_
  rw [nI_clamp (Nat.lt_trans hj hn), hws]
  exact kk
theorem fpF (C : Cx own "<init>" cc maxL ret wl D k t A p s m args meth c) (hP : va_P D vwCl ws H) (hD : va_D A ws) (hS : va_S A s.heap H locs) {ci N index : Nat} {Cn : String} {T : u_T} {ty0 : Nat → FieldType} (hty : ∀ k, k < N → parseFieldDescriptor (T k).2.2.1 = some (ty0 k)) (hnm : ∀ a, a < N → ∀ b, b < N → a ≠ b → (T a).2.1 ≠ (T b).2.1) (q0 : Nat) {fs : List Value} (he : ws[q0]? = some (a, .inr (ci, fs))) (hc : vwCl[ci]? = some (Cn, T, N)) (kf : Nat) (hk : kf < N) (hin : ∀ w ∈ u_ws Cn T N, w ∈ wl) (hlk : Cond.fieldLink own index (T kf).1 (T kf).2.1 (T kf).2.2.1 ∈ wl) (hfin : (T kf).2.2.2 = true) (hdecl : (T kf).1 = own) {ty : FieldType} {v : Value} (hdd : parseFieldDescriptor (T kf).2.2.1 = some ty) (hn : narrow ty v = v) (hfit : fits ty v = true) (hl : kf < fs.length) {ws' : va_W} (hws : ws.set q0 (a, .inr (ci, fs.set kf v)) = ws') (hd : decode cc pc = .ok (.putfield index, 3))
    (kk : ∀ (H1 : Heap) (locs1 : List Loc), va_P D vwCl ws' H1 → va_D A ws' → va_S A s.heap H1 locs1 → W p l e R s m args below meth c H1 locs1 cells slots Q (F0 m (pc + 3) ls rest)) : W p l e R s m args below meth c H locs cells slots Q (F0 m pc ls (v :: .ref a :: rest)) :=
  va_putF C.1 C.2.1 C.2.2.2.2.2.1 hin ty0 hty hnm C.2.2.2.2.1 C.2.2.2.2.2.2.2.2.1 hP hD hS q0 he hc kf hk (C.2.2.2.2.2.1 _ hlk) (fun _ h => h) hfin C.2.2.2.2.2.2.1.1 hdecl hdd hn hfit hl hd (fun H1 locs1 h1 h2 h3 => kk H1 locs1 (hws ▸ h1) (hws ▸ h2) h3)
theorem ob (C : Cx own nm cc maxL ret wl D k t A p s m args meth c) {idx : Nat} (h1 : Cond.methodLink own idx objectInit ∈ wl) (h2 : Cond.instanceMethod objectInit ∈ wl) (h3 : Cond.code objectInit ⟨#[0xb1]⟩ 1 none ∈ wl) (hsz : ls.size = maxL) (hd : decode cc pc = .ok (.invokespecial idx, 3)) (hf : 1 ≤ R.frames) (hl : (rest.map fun v => v.category).sum + 12 ≤ R.locals)
    (kk : W p l e R s m args below meth c H locs cells slots Q (F0 m (pc + 3) ls rest)) : W p l e R s m args below meth c H locs cells slots Q (F0 m pc ls (.ref a :: rest)) :=
  W.objInit C.1 C.2.1 C.2.2.2.2.1 (C.2.2.2.2.2.1 _ h1) (C.2.2.2.2.2.1 _ h2) (C.2.2.2.2.2.1 _ h3) (g := F0 m pc ls (.ref a :: rest)) rfl (by rw [C.2.2.2.1]; exact hsz) rfl hd hf (by show 2 * 0 + _ + 12 ≤ _; omega) kk
theorem nw_o (C : Cx own nm cc maxL ret wl D k t A p s m args meth c) (hP : va_P D vwCl ws H) (hD : va_D A ws) (hS : va_S A s.heap H locs) {Cn : String} {T : u_T} {N ci index : Nat} {ty0 : Nat → FieldType} (hin : ∀ w ∈ u_ws Cn T N, w ∈ wl) (hty : ∀ k, k < N → parseFieldDescriptor (T k).2.2.1 = some (ty0 k)) (hcl : Cond.classLink own index Cn ∈ wl) (hi : Cond.instantiable Cn N ∈ wl) (hini : Cond.initialized Cn ∈ wl) (hc : vwCl[ci]? = some (Cn, T, N)) {fs : List Value} (hfs : ∀ j, j < N → defaultValue (ty0 j) = vp_V fs j) (hcells : cells + 1 ≤ R.cells) (hslots : slots + N ≤ R.slots) (hd : decode cc pc = .ok (.new index, 3))
    (kk : ∀ (q : Nat) (H1 : Heap), va_P D vwCl (ws ++ [(q, .inr (ci, fs))]) H1 → va_D A (ws ++ [(q, .inr (ci, fs))]) → va_S A s.heap H1 locs → W p l e R s m args below meth c H1 locs (cells + 1) (slots + N) Q (F0 m (pc + 3) ls (.ref q :: rest))) : W p l e R s m args below meth c H locs cells slots Q (F0 m pc ls rest) :=
  va_new C.1 C.2.1 C.2.2.2.2.2.1 hin ty0 hty C.2.2.2.2.1 (C.2.2.2.2.2.1 _ hcl) (C.2.2.2.2.2.1 _ hi) (C.2.2.2.2.2.1 _ hini) C.2.2.2.2.2.2.2.2.1 hP hD hS C.2.2.2.2.2.2.2.1 hc hfs hcells hslots hd kk
end IR
