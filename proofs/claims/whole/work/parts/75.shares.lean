/-- the shares of each pair that can be left out, as forms in the law's numbers -/
def xt : List (List (List (List Int))) := [[[], [], [], [], [], [], [], [], []], [[], [], [], [], [], [], [], [], []], [[], [], [], [], [], [], [], [], []], [[], [], [], [], [[1, 0, 1, 0, 1, 0, 1], [0, 1, 1, 0, 0, 1, 1], [0, 0, 0, 1, 1, 1, 1], [0, 0, 0, 0, 0, 0, 0], [0, 0, 0, 0, 0, 0, 0], [1, 1, 1, 1, 1, 1, 1], [1, 1, 1, 0, 1, 1, 1], [1, 0, 1, 1, 1, 1, 1], [-1, 0, 0, 0, 0, 0, 0]], [[1, 0, 1, 0, 1, 0, 1], [0, 1, 1, 0, 0, 1, 1], [0, 0, 0, 1, 1, 1, 1], [0, 0, 0, 0, 0, 0, 0], [1, 1, 1, 1, 1, 1, 1], [0, 0, 0, 0, 0, 0, 0], [1, 1, 1, 0, 1, 1, 1], [0, -1, 0, 0, 0, 0, 0], [0, 1, 1, 1, 1, 1, 1]], [], [[1, 0, 1, 0, 1, 0, 1], [0, 1, 1, 0, 0, 1, 1], [0, 0, 0, 1, 1, 1, 1], [0, 0, 0, 0, 0, 0, 0], [1, 0, 1, 1, 1, 1, 1], [0, 1, 0, 0, 0, 0, 0], [1, 1, 1, 0, 1, 1, 1], [0, 0, 0, 0, 0, 0, 0], [0, 0, 1, 1, 1, 1, 1]], [[1, 0, 1, 0, 1, 0, 1], [0, 1, 1, 0, 0, 1, 1], [0, 0, 0, 1, 1, 1, 1], [0, 0, 0, 0, 0, 0, 0], [1, 0, 0, 0, 0, 0, 0], [0, 1, 1, 1, 1, 1, 1], [1, 1, 1, 0, 1, 1, 1], [0, 0, 1, 1, 1, 1, 1], [0, 0, 0, 0, 0, 0, 0]]], [[], [], [], [], [], [[1, 0, 1, 0, 1, 0, 1], [0, 1, 1, 0, 0, 1, 1], [0, 0, 0, 1, 1, 1, 1], [1, 1, 1, 1, 1, 1, 1], [0, 0, 0, 0, 0, 0, 0], [0, 0, 0, 0, 0, 0, 0], [0, 0, 0, -1, 0, 0, 0], [1, 0, 1, 1, 1, 1, 1], [0, 1, 1, 1, 1, 1, 1]], [[1, 0, 1, 0, 1, 0, 1], [0, 1, 1, 0, 0, 1, 1], [0, 0, 0, 1, 1, 1, 1], [1, 1, 1, 0, 1, 1, 1], [0, 0, 0, 0, 0, 0, 0], [0, 0, 0, 1, 0, 0, 0], [0, 0, 0, 0, 0, 0, 0], [1, 0, 1, 1, 1, 1, 1], [0, 1, 1, 0, 1, 1, 1]], [], [[1, 0, 1, 0, 1, 0, 1], [0, 1, 1, 0, 0, 1, 1], [0, 0, 0, 1, 1, 1, 1], [1, 0, 0, 0, 0, 0, 0], [0, 0, 0, 0, 0, 0, 0], [0, 1, 1, 1, 1, 1, 1], [0, 1, 1, 0, 1, 1, 1], [1, 0, 1, 1, 1, 1, 1], [0, 0, 0, 0, 0, 0, 0]]], [[], [], [], [], [], [], [[1, 0, 1, 0, 1, 0, 1], [0, 1, 1, 0, 0, 1, 1], [0, 0, 0, 1, 1, 1, 1], [1, 1, 1, 0, 1, 1, 1], [0, 0, 0, 1, 0, 0, 0], [0, 0, 0, 0, 0, 0, 0], [0, 0, 0, 0, 0, 0, 0], [1, 0, 1, 0, 1, 1, 1], [0, 1, 1, 1, 1, 1, 1]], [[1, 0, 1, 0, 1, 0, 1], [0, 1, 1, 0, 0, 1, 1], [0, 0, 0, 1, 1, 1, 1], [0, 1, 0, 0, 0, 0, 0], [1, 0, 1, 1, 1, 1, 1], [0, 0, 0, 0, 0, 0, 0], [1, 0, 1, 0, 1, 1, 1], [0, 0, 0, 0, 0, 0, 0], [0, 1, 1, 1, 1, 1, 1]], []], [[], [], [], [], [], [], [], [[1, 0, 1, 0, 1, 0, 1], [0, 1, 1, 0, 0, 1, 1], [0, 0, 0, 1, 1, 1, 1], [1, 1, 1, 0, 1, 1, 1], [1, 0, 1, 1, 1, 1, 1], [-1, 0, -1, 0, -1, -1, -1], [0, 0, 0, 0, 0, 0, 0], [0, 0, 0, 0, 0, 0, 0], [1, 1, 2, 1, 2, 2, 2]], [[1, 0, 1, 0, 1, 0, 1], [0, 1, 1, 0, 0, 1, 1], [0, 0, 0, 1, 1, 1, 1], [1, 1, 1, 0, 1, 1, 1], [0, -1, -1, 0, -1, -1, -1], [0, 1, 1, 1, 1, 1, 1], [0, 0, 0, 0, 0, 0, 0], [1, 1, 2, 1, 2, 2, 2], [0, 0, 0, 0, 0, 0, 0]]], [[], [], [], [], [], [], [], [], [[1, 0, 1, 0, 1, 0, 1], [0, 1, 1, 0, 0, 1, 1], [0, 0, 0, 1, 1, 1, 1], [0, 0, -1, -1, -1, -1, -1], [1, 0, 1, 1, 1, 1, 1], [0, 1, 1, 1, 1, 1, 1], [1, 1, 2, 1, 2, 2, 2], [0, 0, 0, 0, 0, 0, 0], [0, 0, 0, 0, 0, 0, 0]]], [[], [], [], [], [], [], [], [], []]]
def xr (i j q k : Nat) : Int := ((((xt.getD i []).getD j []).getD q []).getD (k - 7) 0)
theorem pts_1 (f pa : Nat → Int32) : pts f pa 7 1 = ((((nI 0 + f 1) + f 3) + f 5) + f 7) := rfl
theorem pts_2 (f pa : Nat → Int32) : pts f pa 7 2 = ((((nI 0 + f 2) + f 3) + f 6) + f 7) := rfl
theorem pts_3 (f pa : Nat → Int32) : pts f pa 7 3 = ((((((nI 0 + f 1) + f 2) + f 3) + f 5) + f 6) + f 7) := rfl
theorem pts_4 (f pa : Nat → Int32) : pts f pa 7 4 = ((((nI 0 + f 4) + f 5) + f 6) + f 7) := rfl
theorem pts_5 (f pa : Nat → Int32) : pts f pa 7 5 = ((((((nI 0 + f 1) + f 3) + f 4) + f 5) + f 6) + f 7) := rfl
theorem pts_6 (f pa : Nat → Int32) : pts f pa 7 6 = ((((((nI 0 + f 2) + f 3) + f 4) + f 5) + f 6) + f 7) := rfl
theorem pts_7 (f pa : Nat → Int32) : pts f pa 7 7 = (((((((nI 0 + f 1) + f 2) + f 3) + f 4) + f 5) + f 6) + f 7) := rfl
theorem sh_3_4 {n : Nat → Int} {f p0 : Nat → Int32} (hf : ∀ z, 1 ≤ z → z < 8 → f z = zI (n z)) : ∀ q, q < 9 → shV (pts f p0 7) 3 4 q = zI (dt n (xr 3 4 q) 7) := by
  obtain ⟨pa, hpa⟩ : ∃ pa, pa = pts f p0 7 := ⟨_, rfl⟩
  have h1 := hf 1 (by decide) (by decide); have h2 := hf 2 (by decide) (by decide); have h3 := hf 3 (by decide) (by decide); have h4 := hf 4 (by decide) (by decide); have h5 := hf 5 (by decide) (by decide); have h6 := hf 6 (by decide) (by decide); have h7 := hf 7 (by decide) (by decide)
  have g1 : pa 1 = _ := (congrFun hpa 1).trans (pts_1 f p0)
  have g2 : pa 2 = _ := (congrFun hpa 2).trans (pts_2 f p0)
  have g3 : pa 3 = _ := (congrFun hpa 3).trans (pts_3 f p0)
  have g4 : pa 4 = _ := (congrFun hpa 4).trans (pts_4 f p0)
  have g5 : pa 5 = _ := (congrFun hpa 5).trans (pts_5 f p0)
  have g6 : pa 6 = _ := (congrFun hpa 6).trans (pts_6 f p0)
  have g7 : pa 7 = _ := (congrFun hpa 7).trans (pts_7 f p0)
  rw [← hpa]
  intro q hq
  have hq9 : q = 0 ∨ q = 1 ∨ q = 2 ∨ q = 3 ∨ q = 4 ∨ q = 5 ∨ q = 6 ∨ q = 7 ∨ q = 8 := by omega
  rcases hq9 with rfl | rfl | rfl | rfl | rfl | rfl | rfl | rfl | rfl
  · show pa 1 = zI (((((((0 + (1) * n 1) + (0) * n 2) + (1) * n 3) + (0) * n 4) + (1) * n 5) + (0) * n 6) + (1) * n 7)
    rw [g1]
    simp only [h1, h3, h5, h7, nz, zI_add, zI_sub]
    refine congrArg zI ?_
    omega
  · show pa 2 = zI (((((((0 + (0) * n 1) + (1) * n 2) + (1) * n 3) + (0) * n 4) + (0) * n 5) + (1) * n 6) + (1) * n 7)
    rw [g2]
    simp only [h2, h3, h6, h7, nz, zI_add, zI_sub]
    refine congrArg zI ?_
    omega
  · show pa 4 = zI (((((((0 + (0) * n 1) + (0) * n 2) + (0) * n 3) + (1) * n 4) + (1) * n 5) + (1) * n 6) + (1) * n 7)
    rw [g4]
    simp only [h4, h5, h6, h7, nz, zI_add, zI_sub]
    refine congrArg zI ?_
    omega
  · show nI 0 = zI (((((((0 + (0) * n 1) + (0) * n 2) + (0) * n 3) + (0) * n 4) + (0) * n 5) + (0) * n 6) + (0) * n 7)
    refine congrArg zI (a₁ := 0) ?_
    omega
  · show nI 0 = zI (((((((0 + (0) * n 1) + (0) * n 2) + (0) * n 3) + (0) * n 4) + (0) * n 5) + (0) * n 6) + (0) * n 7)
    refine congrArg zI (a₁ := 0) ?_
    omega
  · show (((pa 7 - nI 0) - nI 0) - nI 0) = zI (((((((0 + (1) * n 1) + (1) * n 2) + (1) * n 3) + (1) * n 4) + (1) * n 5) + (1) * n 6) + (1) * n 7)
    rw [g7]
    simp only [h1, h2, h3, h4, h5, h6, h7, nz, zI_add, zI_sub]
    refine congrArg zI ?_
    omega
  · show (pa 3 - nI 0) = zI (((((((0 + (1) * n 1) + (1) * n 2) + (1) * n 3) + (0) * n 4) + (1) * n 5) + (1) * n 6) + (1) * n 7)
    rw [g3]
    simp only [h1, h2, h3, h5, h6, h7, nz, zI_add, zI_sub]
    refine congrArg zI ?_
    omega
  · show (pa 5 - nI 0) = zI (((((((0 + (1) * n 1) + (0) * n 2) + (1) * n 3) + (1) * n 4) + (1) * n 5) + (1) * n 6) + (1) * n 7)
    rw [g5]
    simp only [h1, h3, h4, h5, h6, h7, nz, zI_add, zI_sub]
    refine congrArg zI ?_
    omega
  · show (pa 6 - (((pa 7 - nI 0) - nI 0) - nI 0)) = zI (((((((0 + (-1) * n 1) + (0) * n 2) + (0) * n 3) + (0) * n 4) + (0) * n 5) + (0) * n 6) + (0) * n 7)
    rw [g6, g7]
    simp only [h1, h2, h3, h4, h5, h6, h7, nz, zI_add, zI_sub]
    refine congrArg zI ?_
    omega
theorem sh_3_5 {n : Nat → Int} {f p0 : Nat → Int32} (hf : ∀ z, 1 ≤ z → z < 8 → f z = zI (n z)) : ∀ q, q < 9 → shV (pts f p0 7) 3 5 q = zI (dt n (xr 3 5 q) 7) := by
  obtain ⟨pa, hpa⟩ : ∃ pa, pa = pts f p0 7 := ⟨_, rfl⟩
  have h1 := hf 1 (by decide) (by decide); have h2 := hf 2 (by decide) (by decide); have h3 := hf 3 (by decide) (by decide); have h4 := hf 4 (by decide) (by decide); have h5 := hf 5 (by decide) (by decide); have h6 := hf 6 (by decide) (by decide); have h7 := hf 7 (by decide) (by decide)
  have g1 : pa 1 = _ := (congrFun hpa 1).trans (pts_1 f p0)
  have g2 : pa 2 = _ := (congrFun hpa 2).trans (pts_2 f p0)
  have g3 : pa 3 = _ := (congrFun hpa 3).trans (pts_3 f p0)
  have g4 : pa 4 = _ := (congrFun hpa 4).trans (pts_4 f p0)
  have g5 : pa 5 = _ := (congrFun hpa 5).trans (pts_5 f p0)
  have g6 : pa 6 = _ := (congrFun hpa 6).trans (pts_6 f p0)
  have g7 : pa 7 = _ := (congrFun hpa 7).trans (pts_7 f p0)
  rw [← hpa]
  intro q hq
  have hq9 : q = 0 ∨ q = 1 ∨ q = 2 ∨ q = 3 ∨ q = 4 ∨ q = 5 ∨ q = 6 ∨ q = 7 ∨ q = 8 := by omega
  rcases hq9 with rfl | rfl | rfl | rfl | rfl | rfl | rfl | rfl | rfl
  · show pa 1 = zI (((((((0 + (1) * n 1) + (0) * n 2) + (1) * n 3) + (0) * n 4) + (1) * n 5) + (0) * n 6) + (1) * n 7)
    rw [g1]
    simp only [h1, h3, h5, h7, nz, zI_add, zI_sub]
    refine congrArg zI ?_
    omega
  · show pa 2 = zI (((((((0 + (0) * n 1) + (1) * n 2) + (1) * n 3) + (0) * n 4) + (0) * n 5) + (1) * n 6) + (1) * n 7)
    rw [g2]
    simp only [h2, h3, h6, h7, nz, zI_add, zI_sub]
    refine congrArg zI ?_
    omega
  · show pa 4 = zI (((((((0 + (0) * n 1) + (0) * n 2) + (0) * n 3) + (1) * n 4) + (1) * n 5) + (1) * n 6) + (1) * n 7)
    rw [g4]
    simp only [h4, h5, h6, h7, nz, zI_add, zI_sub]
    refine congrArg zI ?_
    omega
  · show nI 0 = zI (((((((0 + (0) * n 1) + (0) * n 2) + (0) * n 3) + (0) * n 4) + (0) * n 5) + (0) * n 6) + (0) * n 7)
    refine congrArg zI (a₁ := 0) ?_
    omega
  · show (((pa 7 - nI 0) - nI 0) - nI 0) = zI (((((((0 + (1) * n 1) + (1) * n 2) + (1) * n 3) + (1) * n 4) + (1) * n 5) + (1) * n 6) + (1) * n 7)
    rw [g7]
    simp only [h1, h2, h3, h4, h5, h6, h7, nz, zI_add, zI_sub]
    refine congrArg zI ?_
    omega
  · show nI 0 = zI (((((((0 + (0) * n 1) + (0) * n 2) + (0) * n 3) + (0) * n 4) + (0) * n 5) + (0) * n 6) + (0) * n 7)
    refine congrArg zI (a₁ := 0) ?_
    omega
  · show (pa 3 - nI 0) = zI (((((((0 + (1) * n 1) + (1) * n 2) + (1) * n 3) + (0) * n 4) + (1) * n 5) + (1) * n 6) + (1) * n 7)
    rw [g3]
    simp only [h1, h2, h3, h5, h6, h7, nz, zI_add, zI_sub]
    refine congrArg zI ?_
    omega
  · show (pa 5 - (((pa 7 - nI 0) - nI 0) - nI 0)) = zI (((((((0 + (0) * n 1) + (-1) * n 2) + (0) * n 3) + (0) * n 4) + (0) * n 5) + (0) * n 6) + (0) * n 7)
    rw [g5, g7]
    simp only [h1, h2, h3, h4, h5, h6, h7, nz, zI_add, zI_sub]
    refine congrArg zI ?_
    omega
  · show (pa 6 - nI 0) = zI (((((((0 + (0) * n 1) + (1) * n 2) + (1) * n 3) + (1) * n 4) + (1) * n 5) + (1) * n 6) + (1) * n 7)
    rw [g6]
    simp only [h2, h3, h4, h5, h6, h7, nz, zI_add, zI_sub]
    refine congrArg zI ?_
    omega
theorem sh_3_7 {n : Nat → Int} {f p0 : Nat → Int32} (hf : ∀ z, 1 ≤ z → z < 8 → f z = zI (n z)) : ∀ q, q < 9 → shV (pts f p0 7) 3 7 q = zI (dt n (xr 3 7 q) 7) := by
  obtain ⟨pa, hpa⟩ : ∃ pa, pa = pts f p0 7 := ⟨_, rfl⟩
  have h1 := hf 1 (by decide) (by decide); have h2 := hf 2 (by decide) (by decide); have h3 := hf 3 (by decide) (by decide); have h4 := hf 4 (by decide) (by decide); have h5 := hf 5 (by decide) (by decide); have h6 := hf 6 (by decide) (by decide); have h7 := hf 7 (by decide) (by decide)
  have g1 : pa 1 = _ := (congrFun hpa 1).trans (pts_1 f p0)
  have g2 : pa 2 = _ := (congrFun hpa 2).trans (pts_2 f p0)
  have g3 : pa 3 = _ := (congrFun hpa 3).trans (pts_3 f p0)
  have g4 : pa 4 = _ := (congrFun hpa 4).trans (pts_4 f p0)
  have g5 : pa 5 = _ := (congrFun hpa 5).trans (pts_5 f p0)
  have g6 : pa 6 = _ := (congrFun hpa 6).trans (pts_6 f p0)
  have g7 : pa 7 = _ := (congrFun hpa 7).trans (pts_7 f p0)
  rw [← hpa]
  intro q hq
  have hq9 : q = 0 ∨ q = 1 ∨ q = 2 ∨ q = 3 ∨ q = 4 ∨ q = 5 ∨ q = 6 ∨ q = 7 ∨ q = 8 := by omega
  rcases hq9 with rfl | rfl | rfl | rfl | rfl | rfl | rfl | rfl | rfl
  · show pa 1 = zI (((((((0 + (1) * n 1) + (0) * n 2) + (1) * n 3) + (0) * n 4) + (1) * n 5) + (0) * n 6) + (1) * n 7)
    rw [g1]
    simp only [h1, h3, h5, h7, nz, zI_add, zI_sub]
    refine congrArg zI ?_
    omega
  · show pa 2 = zI (((((((0 + (0) * n 1) + (1) * n 2) + (1) * n 3) + (0) * n 4) + (0) * n 5) + (1) * n 6) + (1) * n 7)
    rw [g2]
    simp only [h2, h3, h6, h7, nz, zI_add, zI_sub]
    refine congrArg zI ?_
    omega
  · show pa 4 = zI (((((((0 + (0) * n 1) + (0) * n 2) + (0) * n 3) + (1) * n 4) + (1) * n 5) + (1) * n 6) + (1) * n 7)
    rw [g4]
    simp only [h4, h5, h6, h7, nz, zI_add, zI_sub]
    refine congrArg zI ?_
    omega
  · show nI 0 = zI (((((((0 + (0) * n 1) + (0) * n 2) + (0) * n 3) + (0) * n 4) + (0) * n 5) + (0) * n 6) + (0) * n 7)
    refine congrArg zI (a₁ := 0) ?_
    omega
  · show pa 5 = zI (((((((0 + (1) * n 1) + (0) * n 2) + (1) * n 3) + (1) * n 4) + (1) * n 5) + (1) * n 6) + (1) * n 7)
    rw [g5]
    simp only [h1, h3, h4, h5, h6, h7, nz, zI_add, zI_sub]
    refine congrArg zI ?_
    omega
  · show (((pa 7 - nI 0) - pa 5) - nI 0) = zI (((((((0 + (0) * n 1) + (1) * n 2) + (0) * n 3) + (0) * n 4) + (0) * n 5) + (0) * n 6) + (0) * n 7)
    rw [g5, g7]
    simp only [h1, h2, h3, h4, h5, h6, h7, nz, zI_add, zI_sub]
    refine congrArg zI ?_
    omega
  · show (pa 3 - nI 0) = zI (((((((0 + (1) * n 1) + (1) * n 2) + (1) * n 3) + (0) * n 4) + (1) * n 5) + (1) * n 6) + (1) * n 7)
    rw [g3]
    simp only [h1, h2, h3, h5, h6, h7, nz, zI_add, zI_sub]
    refine congrArg zI ?_
    omega
  · show (pa 5 - pa 5) = zI (((((((0 + (0) * n 1) + (0) * n 2) + (0) * n 3) + (0) * n 4) + (0) * n 5) + (0) * n 6) + (0) * n 7)
    rw [g5]
    simp only [h1, h3, h4, h5, h6, h7, nz, zI_add, zI_sub]
    refine congrArg zI ?_
    omega
  · show (pa 6 - (((pa 7 - nI 0) - pa 5) - nI 0)) = zI (((((((0 + (0) * n 1) + (0) * n 2) + (1) * n 3) + (1) * n 4) + (1) * n 5) + (1) * n 6) + (1) * n 7)
    rw [g5, g6, g7]
    simp only [h1, h2, h3, h4, h5, h6, h7, nz, zI_add, zI_sub]
    refine congrArg zI ?_
    omega
theorem sh_3_8 {n : Nat → Int} {f p0 : Nat → Int32} (hf : ∀ z, 1 ≤ z → z < 8 → f z = zI (n z)) : ∀ q, q < 9 → shV (pts f p0 7) 3 8 q = zI (dt n (xr 3 8 q) 7) := by
  obtain ⟨pa, hpa⟩ : ∃ pa, pa = pts f p0 7 := ⟨_, rfl⟩
  have h1 := hf 1 (by decide) (by decide); have h2 := hf 2 (by decide) (by decide); have h3 := hf 3 (by decide) (by decide); have h4 := hf 4 (by decide) (by decide); have h5 := hf 5 (by decide) (by decide); have h6 := hf 6 (by decide) (by decide); have h7 := hf 7 (by decide) (by decide)
  have g1 : pa 1 = _ := (congrFun hpa 1).trans (pts_1 f p0)
  have g2 : pa 2 = _ := (congrFun hpa 2).trans (pts_2 f p0)
  have g3 : pa 3 = _ := (congrFun hpa 3).trans (pts_3 f p0)
  have g4 : pa 4 = _ := (congrFun hpa 4).trans (pts_4 f p0)
  have g5 : pa 5 = _ := (congrFun hpa 5).trans (pts_5 f p0)
  have g6 : pa 6 = _ := (congrFun hpa 6).trans (pts_6 f p0)
  have g7 : pa 7 = _ := (congrFun hpa 7).trans (pts_7 f p0)
  rw [← hpa]
  intro q hq
  have hq9 : q = 0 ∨ q = 1 ∨ q = 2 ∨ q = 3 ∨ q = 4 ∨ q = 5 ∨ q = 6 ∨ q = 7 ∨ q = 8 := by omega
  rcases hq9 with rfl | rfl | rfl | rfl | rfl | rfl | rfl | rfl | rfl
  · show pa 1 = zI (((((((0 + (1) * n 1) + (0) * n 2) + (1) * n 3) + (0) * n 4) + (1) * n 5) + (0) * n 6) + (1) * n 7)
    rw [g1]
    simp only [h1, h3, h5, h7, nz, zI_add, zI_sub]
    refine congrArg zI ?_
    omega
  · show pa 2 = zI (((((((0 + (0) * n 1) + (1) * n 2) + (1) * n 3) + (0) * n 4) + (0) * n 5) + (1) * n 6) + (1) * n 7)
    rw [g2]
    simp only [h2, h3, h6, h7, nz, zI_add, zI_sub]
    refine congrArg zI ?_
    omega
  · show pa 4 = zI (((((((0 + (0) * n 1) + (0) * n 2) + (0) * n 3) + (1) * n 4) + (1) * n 5) + (1) * n 6) + (1) * n 7)
    rw [g4]
    simp only [h4, h5, h6, h7, nz, zI_add, zI_sub]
    refine congrArg zI ?_
    omega
  · show nI 0 = zI (((((((0 + (0) * n 1) + (0) * n 2) + (0) * n 3) + (0) * n 4) + (0) * n 5) + (0) * n 6) + (0) * n 7)
    refine congrArg zI (a₁ := 0) ?_
    omega
  · show (((pa 7 - nI 0) - nI 0) - pa 6) = zI (((((((0 + (1) * n 1) + (0) * n 2) + (0) * n 3) + (0) * n 4) + (0) * n 5) + (0) * n 6) + (0) * n 7)
    rw [g6, g7]
    simp only [h1, h2, h3, h4, h5, h6, h7, nz, zI_add, zI_sub]
    refine congrArg zI ?_
    omega
  · show pa 6 = zI (((((((0 + (0) * n 1) + (1) * n 2) + (1) * n 3) + (1) * n 4) + (1) * n 5) + (1) * n 6) + (1) * n 7)
    rw [g6]
    simp only [h2, h3, h4, h5, h6, h7, nz, zI_add, zI_sub]
    refine congrArg zI ?_
    omega
  · show (pa 3 - nI 0) = zI (((((((0 + (1) * n 1) + (1) * n 2) + (1) * n 3) + (0) * n 4) + (1) * n 5) + (1) * n 6) + (1) * n 7)
    rw [g3]
    simp only [h1, h2, h3, h5, h6, h7, nz, zI_add, zI_sub]
    refine congrArg zI ?_
    omega
  · show (pa 5 - (((pa 7 - nI 0) - nI 0) - pa 6)) = zI (((((((0 + (0) * n 1) + (0) * n 2) + (1) * n 3) + (1) * n 4) + (1) * n 5) + (1) * n 6) + (1) * n 7)
    rw [g5, g6, g7]
    simp only [h1, h2, h3, h4, h5, h6, h7, nz, zI_add, zI_sub]
    refine congrArg zI ?_
    omega
  · show (pa 6 - pa 6) = zI (((((((0 + (0) * n 1) + (0) * n 2) + (0) * n 3) + (0) * n 4) + (0) * n 5) + (0) * n 6) + (0) * n 7)
    rw [g6]
    simp only [h2, h3, h4, h5, h6, h7, nz, zI_add, zI_sub]
    refine congrArg zI ?_
    omega
theorem sh_4_5 {n : Nat → Int} {f p0 : Nat → Int32} (hf : ∀ z, 1 ≤ z → z < 8 → f z = zI (n z)) : ∀ q, q < 9 → shV (pts f p0 7) 4 5 q = zI (dt n (xr 4 5 q) 7) := by
  obtain ⟨pa, hpa⟩ : ∃ pa, pa = pts f p0 7 := ⟨_, rfl⟩
  have h1 := hf 1 (by decide) (by decide); have h2 := hf 2 (by decide) (by decide); have h3 := hf 3 (by decide) (by decide); have h4 := hf 4 (by decide) (by decide); have h5 := hf 5 (by decide) (by decide); have h6 := hf 6 (by decide) (by decide); have h7 := hf 7 (by decide) (by decide)
  have g1 : pa 1 = _ := (congrFun hpa 1).trans (pts_1 f p0)
  have g2 : pa 2 = _ := (congrFun hpa 2).trans (pts_2 f p0)
  have g3 : pa 3 = _ := (congrFun hpa 3).trans (pts_3 f p0)
  have g4 : pa 4 = _ := (congrFun hpa 4).trans (pts_4 f p0)
  have g5 : pa 5 = _ := (congrFun hpa 5).trans (pts_5 f p0)
  have g6 : pa 6 = _ := (congrFun hpa 6).trans (pts_6 f p0)
  have g7 : pa 7 = _ := (congrFun hpa 7).trans (pts_7 f p0)
  rw [← hpa]
  intro q hq
  have hq9 : q = 0 ∨ q = 1 ∨ q = 2 ∨ q = 3 ∨ q = 4 ∨ q = 5 ∨ q = 6 ∨ q = 7 ∨ q = 8 := by omega
  rcases hq9 with rfl | rfl | rfl | rfl | rfl | rfl | rfl | rfl | rfl
  · show pa 1 = zI (((((((0 + (1) * n 1) + (0) * n 2) + (1) * n 3) + (0) * n 4) + (1) * n 5) + (0) * n 6) + (1) * n 7)
    rw [g1]
    simp only [h1, h3, h5, h7, nz, zI_add, zI_sub]
    refine congrArg zI ?_
    omega
  · show pa 2 = zI (((((((0 + (0) * n 1) + (1) * n 2) + (1) * n 3) + (0) * n 4) + (0) * n 5) + (1) * n 6) + (1) * n 7)
    rw [g2]
    simp only [h2, h3, h6, h7, nz, zI_add, zI_sub]
    refine congrArg zI ?_
    omega
  · show pa 4 = zI (((((((0 + (0) * n 1) + (0) * n 2) + (0) * n 3) + (1) * n 4) + (1) * n 5) + (1) * n 6) + (1) * n 7)
    rw [g4]
    simp only [h4, h5, h6, h7, nz, zI_add, zI_sub]
    refine congrArg zI ?_
    omega
  · show (((pa 7 - nI 0) - nI 0) - nI 0) = zI (((((((0 + (1) * n 1) + (1) * n 2) + (1) * n 3) + (1) * n 4) + (1) * n 5) + (1) * n 6) + (1) * n 7)
    rw [g7]
    simp only [h1, h2, h3, h4, h5, h6, h7, nz, zI_add, zI_sub]
    refine congrArg zI ?_
    omega
  · show nI 0 = zI (((((((0 + (0) * n 1) + (0) * n 2) + (0) * n 3) + (0) * n 4) + (0) * n 5) + (0) * n 6) + (0) * n 7)
    refine congrArg zI (a₁ := 0) ?_
    omega
  · show nI 0 = zI (((((((0 + (0) * n 1) + (0) * n 2) + (0) * n 3) + (0) * n 4) + (0) * n 5) + (0) * n 6) + (0) * n 7)
    refine congrArg zI (a₁ := 0) ?_
    omega
  · show (pa 3 - (((pa 7 - nI 0) - nI 0) - nI 0)) = zI (((((((0 + (0) * n 1) + (0) * n 2) + (0) * n 3) + (-1) * n 4) + (0) * n 5) + (0) * n 6) + (0) * n 7)
    rw [g3, g7]
    simp only [h1, h2, h3, h4, h5, h6, h7, nz, zI_add, zI_sub]
    refine congrArg zI ?_
    omega
  · show (pa 5 - nI 0) = zI (((((((0 + (1) * n 1) + (0) * n 2) + (1) * n 3) + (1) * n 4) + (1) * n 5) + (1) * n 6) + (1) * n 7)
    rw [g5]
    simp only [h1, h3, h4, h5, h6, h7, nz, zI_add, zI_sub]
    refine congrArg zI ?_
    omega
  · show (pa 6 - nI 0) = zI (((((((0 + (0) * n 1) + (1) * n 2) + (1) * n 3) + (1) * n 4) + (1) * n 5) + (1) * n 6) + (1) * n 7)
    rw [g6]
    simp only [h2, h3, h4, h5, h6, h7, nz, zI_add, zI_sub]
    refine congrArg zI ?_
    omega
theorem sh_4_6 {n : Nat → Int} {f p0 : Nat → Int32} (hf : ∀ z, 1 ≤ z → z < 8 → f z = zI (n z)) : ∀ q, q < 9 → shV (pts f p0 7) 4 6 q = zI (dt n (xr 4 6 q) 7) := by
  obtain ⟨pa, hpa⟩ : ∃ pa, pa = pts f p0 7 := ⟨_, rfl⟩
  have h1 := hf 1 (by decide) (by decide); have h2 := hf 2 (by decide) (by decide); have h3 := hf 3 (by decide) (by decide); have h4 := hf 4 (by decide) (by decide); have h5 := hf 5 (by decide) (by decide); have h6 := hf 6 (by decide) (by decide); have h7 := hf 7 (by decide) (by decide)
  have g1 : pa 1 = _ := (congrFun hpa 1).trans (pts_1 f p0)
  have g2 : pa 2 = _ := (congrFun hpa 2).trans (pts_2 f p0)
  have g3 : pa 3 = _ := (congrFun hpa 3).trans (pts_3 f p0)
  have g4 : pa 4 = _ := (congrFun hpa 4).trans (pts_4 f p0)
  have g5 : pa 5 = _ := (congrFun hpa 5).trans (pts_5 f p0)
  have g6 : pa 6 = _ := (congrFun hpa 6).trans (pts_6 f p0)
  have g7 : pa 7 = _ := (congrFun hpa 7).trans (pts_7 f p0)
  rw [← hpa]
  intro q hq
  have hq9 : q = 0 ∨ q = 1 ∨ q = 2 ∨ q = 3 ∨ q = 4 ∨ q = 5 ∨ q = 6 ∨ q = 7 ∨ q = 8 := by omega
  rcases hq9 with rfl | rfl | rfl | rfl | rfl | rfl | rfl | rfl | rfl
  · show pa 1 = zI (((((((0 + (1) * n 1) + (0) * n 2) + (1) * n 3) + (0) * n 4) + (1) * n 5) + (0) * n 6) + (1) * n 7)
    rw [g1]
    simp only [h1, h3, h5, h7, nz, zI_add, zI_sub]
    refine congrArg zI ?_
    omega
  · show pa 2 = zI (((((((0 + (0) * n 1) + (1) * n 2) + (1) * n 3) + (0) * n 4) + (0) * n 5) + (1) * n 6) + (1) * n 7)
    rw [g2]
    simp only [h2, h3, h6, h7, nz, zI_add, zI_sub]
    refine congrArg zI ?_
    omega
  · show pa 4 = zI (((((((0 + (0) * n 1) + (0) * n 2) + (0) * n 3) + (1) * n 4) + (1) * n 5) + (1) * n 6) + (1) * n 7)
    rw [g4]
    simp only [h4, h5, h6, h7, nz, zI_add, zI_sub]
    refine congrArg zI ?_
    omega
  · show pa 3 = zI (((((((0 + (1) * n 1) + (1) * n 2) + (1) * n 3) + (0) * n 4) + (1) * n 5) + (1) * n 6) + (1) * n 7)
    rw [g3]
    simp only [h1, h2, h3, h5, h6, h7, nz, zI_add, zI_sub]
    refine congrArg zI ?_
    omega
  · show nI 0 = zI (((((((0 + (0) * n 1) + (0) * n 2) + (0) * n 3) + (0) * n 4) + (0) * n 5) + (0) * n 6) + (0) * n 7)
    refine congrArg zI (a₁ := 0) ?_
    omega
  · show (((pa 7 - pa 3) - nI 0) - nI 0) = zI (((((((0 + (0) * n 1) + (0) * n 2) + (0) * n 3) + (1) * n 4) + (0) * n 5) + (0) * n 6) + (0) * n 7)
    rw [g3, g7]
    simp only [h1, h2, h3, h4, h5, h6, h7, nz, zI_add, zI_sub]
    refine congrArg zI ?_
    omega
  · show (pa 3 - pa 3) = zI (((((((0 + (0) * n 1) + (0) * n 2) + (0) * n 3) + (0) * n 4) + (0) * n 5) + (0) * n 6) + (0) * n 7)
    rw [g3]
    simp only [h1, h2, h3, h5, h6, h7, nz, zI_add, zI_sub]
    refine congrArg zI ?_
    omega
  · show (pa 5 - nI 0) = zI (((((((0 + (1) * n 1) + (0) * n 2) + (1) * n 3) + (1) * n 4) + (1) * n 5) + (1) * n 6) + (1) * n 7)
    rw [g5]
    simp only [h1, h3, h4, h5, h6, h7, nz, zI_add, zI_sub]
    refine congrArg zI ?_
    omega
  · show (pa 6 - (((pa 7 - pa 3) - nI 0) - nI 0)) = zI (((((((0 + (0) * n 1) + (1) * n 2) + (1) * n 3) + (0) * n 4) + (1) * n 5) + (1) * n 6) + (1) * n 7)
    rw [g3, g6, g7]
    simp only [h1, h2, h3, h4, h5, h6, h7, nz, zI_add, zI_sub]
    refine congrArg zI ?_
    omega
theorem sh_4_8 {n : Nat → Int} {f p0 : Nat → Int32} (hf : ∀ z, 1 ≤ z → z < 8 → f z = zI (n z)) : ∀ q, q < 9 → shV (pts f p0 7) 4 8 q = zI (dt n (xr 4 8 q) 7) := by
  obtain ⟨pa, hpa⟩ : ∃ pa, pa = pts f p0 7 := ⟨_, rfl⟩
  have h1 := hf 1 (by decide) (by decide); have h2 := hf 2 (by decide) (by decide); have h3 := hf 3 (by decide) (by decide); have h4 := hf 4 (by decide) (by decide); have h5 := hf 5 (by decide) (by decide); have h6 := hf 6 (by decide) (by decide); have h7 := hf 7 (by decide) (by decide)
  have g1 : pa 1 = _ := (congrFun hpa 1).trans (pts_1 f p0)
  have g2 : pa 2 = _ := (congrFun hpa 2).trans (pts_2 f p0)
  have g3 : pa 3 = _ := (congrFun hpa 3).trans (pts_3 f p0)
  have g4 : pa 4 = _ := (congrFun hpa 4).trans (pts_4 f p0)
  have g5 : pa 5 = _ := (congrFun hpa 5).trans (pts_5 f p0)
  have g6 : pa 6 = _ := (congrFun hpa 6).trans (pts_6 f p0)
  have g7 : pa 7 = _ := (congrFun hpa 7).trans (pts_7 f p0)
  rw [← hpa]
  intro q hq
  have hq9 : q = 0 ∨ q = 1 ∨ q = 2 ∨ q = 3 ∨ q = 4 ∨ q = 5 ∨ q = 6 ∨ q = 7 ∨ q = 8 := by omega
  rcases hq9 with rfl | rfl | rfl | rfl | rfl | rfl | rfl | rfl | rfl
  · show pa 1 = zI (((((((0 + (1) * n 1) + (0) * n 2) + (1) * n 3) + (0) * n 4) + (1) * n 5) + (0) * n 6) + (1) * n 7)
    rw [g1]
    simp only [h1, h3, h5, h7, nz, zI_add, zI_sub]
    refine congrArg zI ?_
    omega
  · show pa 2 = zI (((((((0 + (0) * n 1) + (1) * n 2) + (1) * n 3) + (0) * n 4) + (0) * n 5) + (1) * n 6) + (1) * n 7)
    rw [g2]
    simp only [h2, h3, h6, h7, nz, zI_add, zI_sub]
    refine congrArg zI ?_
    omega
  · show pa 4 = zI (((((((0 + (0) * n 1) + (0) * n 2) + (0) * n 3) + (1) * n 4) + (1) * n 5) + (1) * n 6) + (1) * n 7)
    rw [g4]
    simp only [h4, h5, h6, h7, nz, zI_add, zI_sub]
    refine congrArg zI ?_
    omega
  · show (((pa 7 - nI 0) - nI 0) - pa 6) = zI (((((((0 + (1) * n 1) + (0) * n 2) + (0) * n 3) + (0) * n 4) + (0) * n 5) + (0) * n 6) + (0) * n 7)
    rw [g6, g7]
    simp only [h1, h2, h3, h4, h5, h6, h7, nz, zI_add, zI_sub]
    refine congrArg zI ?_
    omega
  · show nI 0 = zI (((((((0 + (0) * n 1) + (0) * n 2) + (0) * n 3) + (0) * n 4) + (0) * n 5) + (0) * n 6) + (0) * n 7)
    refine congrArg zI (a₁ := 0) ?_
    omega
  · show pa 6 = zI (((((((0 + (0) * n 1) + (1) * n 2) + (1) * n 3) + (1) * n 4) + (1) * n 5) + (1) * n 6) + (1) * n 7)
    rw [g6]
    simp only [h2, h3, h4, h5, h6, h7, nz, zI_add, zI_sub]
    refine congrArg zI ?_
    omega
  · show (pa 3 - (((pa 7 - nI 0) - nI 0) - pa 6)) = zI (((((((0 + (0) * n 1) + (1) * n 2) + (1) * n 3) + (0) * n 4) + (1) * n 5) + (1) * n 6) + (1) * n 7)
    rw [g3, g6, g7]
    simp only [h1, h2, h3, h4, h5, h6, h7, nz, zI_add, zI_sub]
    refine congrArg zI ?_
    omega
  · show (pa 5 - nI 0) = zI (((((((0 + (1) * n 1) + (0) * n 2) + (1) * n 3) + (1) * n 4) + (1) * n 5) + (1) * n 6) + (1) * n 7)
    rw [g5]
    simp only [h1, h3, h4, h5, h6, h7, nz, zI_add, zI_sub]
    refine congrArg zI ?_
    omega
  · show (pa 6 - pa 6) = zI (((((((0 + (0) * n 1) + (0) * n 2) + (0) * n 3) + (0) * n 4) + (0) * n 5) + (0) * n 6) + (0) * n 7)
    rw [g6]
    simp only [h2, h3, h4, h5, h6, h7, nz, zI_add, zI_sub]
    refine congrArg zI ?_
    omega
theorem sh_5_6 {n : Nat → Int} {f p0 : Nat → Int32} (hf : ∀ z, 1 ≤ z → z < 8 → f z = zI (n z)) : ∀ q, q < 9 → shV (pts f p0 7) 5 6 q = zI (dt n (xr 5 6 q) 7) := by
  obtain ⟨pa, hpa⟩ : ∃ pa, pa = pts f p0 7 := ⟨_, rfl⟩
  have h1 := hf 1 (by decide) (by decide); have h2 := hf 2 (by decide) (by decide); have h3 := hf 3 (by decide) (by decide); have h4 := hf 4 (by decide) (by decide); have h5 := hf 5 (by decide) (by decide); have h6 := hf 6 (by decide) (by decide); have h7 := hf 7 (by decide) (by decide)
  have g1 : pa 1 = _ := (congrFun hpa 1).trans (pts_1 f p0)
  have g2 : pa 2 = _ := (congrFun hpa 2).trans (pts_2 f p0)
  have g3 : pa 3 = _ := (congrFun hpa 3).trans (pts_3 f p0)
  have g4 : pa 4 = _ := (congrFun hpa 4).trans (pts_4 f p0)
  have g5 : pa 5 = _ := (congrFun hpa 5).trans (pts_5 f p0)
  have g6 : pa 6 = _ := (congrFun hpa 6).trans (pts_6 f p0)
  have g7 : pa 7 = _ := (congrFun hpa 7).trans (pts_7 f p0)
  rw [← hpa]
  intro q hq
  have hq9 : q = 0 ∨ q = 1 ∨ q = 2 ∨ q = 3 ∨ q = 4 ∨ q = 5 ∨ q = 6 ∨ q = 7 ∨ q = 8 := by omega
  rcases hq9 with rfl | rfl | rfl | rfl | rfl | rfl | rfl | rfl | rfl
  · show pa 1 = zI (((((((0 + (1) * n 1) + (0) * n 2) + (1) * n 3) + (0) * n 4) + (1) * n 5) + (0) * n 6) + (1) * n 7)
    rw [g1]
    simp only [h1, h3, h5, h7, nz, zI_add, zI_sub]
    refine congrArg zI ?_
    omega
  · show pa 2 = zI (((((((0 + (0) * n 1) + (1) * n 2) + (1) * n 3) + (0) * n 4) + (0) * n 5) + (1) * n 6) + (1) * n 7)
    rw [g2]
    simp only [h2, h3, h6, h7, nz, zI_add, zI_sub]
    refine congrArg zI ?_
    omega
  · show pa 4 = zI (((((((0 + (0) * n 1) + (0) * n 2) + (0) * n 3) + (1) * n 4) + (1) * n 5) + (1) * n 6) + (1) * n 7)
    rw [g4]
    simp only [h4, h5, h6, h7, nz, zI_add, zI_sub]
    refine congrArg zI ?_
    omega
  · show pa 3 = zI (((((((0 + (1) * n 1) + (1) * n 2) + (1) * n 3) + (0) * n 4) + (1) * n 5) + (1) * n 6) + (1) * n 7)
    rw [g3]
    simp only [h1, h2, h3, h5, h6, h7, nz, zI_add, zI_sub]
    refine congrArg zI ?_
    omega
  · show (((pa 7 - pa 3) - nI 0) - nI 0) = zI (((((((0 + (0) * n 1) + (0) * n 2) + (0) * n 3) + (1) * n 4) + (0) * n 5) + (0) * n 6) + (0) * n 7)
    rw [g3, g7]
    simp only [h1, h2, h3, h4, h5, h6, h7, nz, zI_add, zI_sub]
    refine congrArg zI ?_
    omega
  · show nI 0 = zI (((((((0 + (0) * n 1) + (0) * n 2) + (0) * n 3) + (0) * n 4) + (0) * n 5) + (0) * n 6) + (0) * n 7)
    refine congrArg zI (a₁ := 0) ?_
    omega
  · show (pa 3 - pa 3) = zI (((((((0 + (0) * n 1) + (0) * n 2) + (0) * n 3) + (0) * n 4) + (0) * n 5) + (0) * n 6) + (0) * n 7)
    rw [g3]
    simp only [h1, h2, h3, h5, h6, h7, nz, zI_add, zI_sub]
    refine congrArg zI ?_
    omega
  · show (pa 5 - (((pa 7 - pa 3) - nI 0) - nI 0)) = zI (((((((0 + (1) * n 1) + (0) * n 2) + (1) * n 3) + (0) * n 4) + (1) * n 5) + (1) * n 6) + (1) * n 7)
    rw [g3, g5, g7]
    simp only [h1, h2, h3, h4, h5, h6, h7, nz, zI_add, zI_sub]
    refine congrArg zI ?_
    omega
  · show (pa 6 - nI 0) = zI (((((((0 + (0) * n 1) + (1) * n 2) + (1) * n 3) + (1) * n 4) + (1) * n 5) + (1) * n 6) + (1) * n 7)
    rw [g6]
    simp only [h2, h3, h4, h5, h6, h7, nz, zI_add, zI_sub]
    refine congrArg zI ?_
    omega
theorem sh_5_7 {n : Nat → Int} {f p0 : Nat → Int32} (hf : ∀ z, 1 ≤ z → z < 8 → f z = zI (n z)) : ∀ q, q < 9 → shV (pts f p0 7) 5 7 q = zI (dt n (xr 5 7 q) 7) := by
  obtain ⟨pa, hpa⟩ : ∃ pa, pa = pts f p0 7 := ⟨_, rfl⟩
  have h1 := hf 1 (by decide) (by decide); have h2 := hf 2 (by decide) (by decide); have h3 := hf 3 (by decide) (by decide); have h4 := hf 4 (by decide) (by decide); have h5 := hf 5 (by decide) (by decide); have h6 := hf 6 (by decide) (by decide); have h7 := hf 7 (by decide) (by decide)
  have g1 : pa 1 = _ := (congrFun hpa 1).trans (pts_1 f p0)
  have g2 : pa 2 = _ := (congrFun hpa 2).trans (pts_2 f p0)
  have g3 : pa 3 = _ := (congrFun hpa 3).trans (pts_3 f p0)
  have g4 : pa 4 = _ := (congrFun hpa 4).trans (pts_4 f p0)
  have g5 : pa 5 = _ := (congrFun hpa 5).trans (pts_5 f p0)
  have g6 : pa 6 = _ := (congrFun hpa 6).trans (pts_6 f p0)
  have g7 : pa 7 = _ := (congrFun hpa 7).trans (pts_7 f p0)
  rw [← hpa]
  intro q hq
  have hq9 : q = 0 ∨ q = 1 ∨ q = 2 ∨ q = 3 ∨ q = 4 ∨ q = 5 ∨ q = 6 ∨ q = 7 ∨ q = 8 := by omega
  rcases hq9 with rfl | rfl | rfl | rfl | rfl | rfl | rfl | rfl | rfl
  · show pa 1 = zI (((((((0 + (1) * n 1) + (0) * n 2) + (1) * n 3) + (0) * n 4) + (1) * n 5) + (0) * n 6) + (1) * n 7)
    rw [g1]
    simp only [h1, h3, h5, h7, nz, zI_add, zI_sub]
    refine congrArg zI ?_
    omega
  · show pa 2 = zI (((((((0 + (0) * n 1) + (1) * n 2) + (1) * n 3) + (0) * n 4) + (0) * n 5) + (1) * n 6) + (1) * n 7)
    rw [g2]
    simp only [h2, h3, h6, h7, nz, zI_add, zI_sub]
    refine congrArg zI ?_
    omega
  · show pa 4 = zI (((((((0 + (0) * n 1) + (0) * n 2) + (0) * n 3) + (1) * n 4) + (1) * n 5) + (1) * n 6) + (1) * n 7)
    rw [g4]
    simp only [h4, h5, h6, h7, nz, zI_add, zI_sub]
    refine congrArg zI ?_
    omega
  · show (((pa 7 - nI 0) - pa 5) - nI 0) = zI (((((((0 + (0) * n 1) + (1) * n 2) + (0) * n 3) + (0) * n 4) + (0) * n 5) + (0) * n 6) + (0) * n 7)
    rw [g5, g7]
    simp only [h1, h2, h3, h4, h5, h6, h7, nz, zI_add, zI_sub]
    refine congrArg zI ?_
    omega
  · show pa 5 = zI (((((((0 + (1) * n 1) + (0) * n 2) + (1) * n 3) + (1) * n 4) + (1) * n 5) + (1) * n 6) + (1) * n 7)
    rw [g5]
    simp only [h1, h3, h4, h5, h6, h7, nz, zI_add, zI_sub]
    refine congrArg zI ?_
    omega
  · show nI 0 = zI (((((((0 + (0) * n 1) + (0) * n 2) + (0) * n 3) + (0) * n 4) + (0) * n 5) + (0) * n 6) + (0) * n 7)
    refine congrArg zI (a₁ := 0) ?_
    omega
  · show (pa 3 - (((pa 7 - nI 0) - pa 5) - nI 0)) = zI (((((((0 + (1) * n 1) + (0) * n 2) + (1) * n 3) + (0) * n 4) + (1) * n 5) + (1) * n 6) + (1) * n 7)
    rw [g3, g5, g7]
    simp only [h1, h2, h3, h4, h5, h6, h7, nz, zI_add, zI_sub]
    refine congrArg zI ?_
    omega
  · show (pa 5 - pa 5) = zI (((((((0 + (0) * n 1) + (0) * n 2) + (0) * n 3) + (0) * n 4) + (0) * n 5) + (0) * n 6) + (0) * n 7)
    rw [g5]
    simp only [h1, h3, h4, h5, h6, h7, nz, zI_add, zI_sub]
    refine congrArg zI ?_
    omega
  · show (pa 6 - nI 0) = zI (((((((0 + (0) * n 1) + (1) * n 2) + (1) * n 3) + (1) * n 4) + (1) * n 5) + (1) * n 6) + (1) * n 7)
    rw [g6]
    simp only [h2, h3, h4, h5, h6, h7, nz, zI_add, zI_sub]
    refine congrArg zI ?_
    omega
theorem sh_6_7 {n : Nat → Int} {f p0 : Nat → Int32} (hf : ∀ z, 1 ≤ z → z < 8 → f z = zI (n z)) : ∀ q, q < 9 → shV (pts f p0 7) 6 7 q = zI (dt n (xr 6 7 q) 7) := by
  obtain ⟨pa, hpa⟩ : ∃ pa, pa = pts f p0 7 := ⟨_, rfl⟩
  have h1 := hf 1 (by decide) (by decide); have h2 := hf 2 (by decide) (by decide); have h3 := hf 3 (by decide) (by decide); have h4 := hf 4 (by decide) (by decide); have h5 := hf 5 (by decide) (by decide); have h6 := hf 6 (by decide) (by decide); have h7 := hf 7 (by decide) (by decide)
  have g1 : pa 1 = _ := (congrFun hpa 1).trans (pts_1 f p0)
  have g2 : pa 2 = _ := (congrFun hpa 2).trans (pts_2 f p0)
  have g3 : pa 3 = _ := (congrFun hpa 3).trans (pts_3 f p0)
  have g4 : pa 4 = _ := (congrFun hpa 4).trans (pts_4 f p0)
  have g5 : pa 5 = _ := (congrFun hpa 5).trans (pts_5 f p0)
  have g6 : pa 6 = _ := (congrFun hpa 6).trans (pts_6 f p0)
  have g7 : pa 7 = _ := (congrFun hpa 7).trans (pts_7 f p0)
  rw [← hpa]
  intro q hq
  have hq9 : q = 0 ∨ q = 1 ∨ q = 2 ∨ q = 3 ∨ q = 4 ∨ q = 5 ∨ q = 6 ∨ q = 7 ∨ q = 8 := by omega
  rcases hq9 with rfl | rfl | rfl | rfl | rfl | rfl | rfl | rfl | rfl
  · show pa 1 = zI (((((((0 + (1) * n 1) + (0) * n 2) + (1) * n 3) + (0) * n 4) + (1) * n 5) + (0) * n 6) + (1) * n 7)
    rw [g1]
    simp only [h1, h3, h5, h7, nz, zI_add, zI_sub]
    refine congrArg zI ?_
    omega
  · show pa 2 = zI (((((((0 + (0) * n 1) + (1) * n 2) + (1) * n 3) + (0) * n 4) + (0) * n 5) + (1) * n 6) + (1) * n 7)
    rw [g2]
    simp only [h2, h3, h6, h7, nz, zI_add, zI_sub]
    refine congrArg zI ?_
    omega
  · show pa 4 = zI (((((((0 + (0) * n 1) + (0) * n 2) + (0) * n 3) + (1) * n 4) + (1) * n 5) + (1) * n 6) + (1) * n 7)
    rw [g4]
    simp only [h4, h5, h6, h7, nz, zI_add, zI_sub]
    refine congrArg zI ?_
    omega
  · show pa 3 = zI (((((((0 + (1) * n 1) + (1) * n 2) + (1) * n 3) + (0) * n 4) + (1) * n 5) + (1) * n 6) + (1) * n 7)
    rw [g3]
    simp only [h1, h2, h3, h5, h6, h7, nz, zI_add, zI_sub]
    refine congrArg zI ?_
    omega
  · show pa 5 = zI (((((((0 + (1) * n 1) + (0) * n 2) + (1) * n 3) + (1) * n 4) + (1) * n 5) + (1) * n 6) + (1) * n 7)
    rw [g5]
    simp only [h1, h3, h4, h5, h6, h7, nz, zI_add, zI_sub]
    refine congrArg zI ?_
    omega
  · show (((pa 7 - pa 3) - pa 5) - nI 0) = zI (((((((0 + (-1) * n 1) + (0) * n 2) + (-1) * n 3) + (0) * n 4) + (-1) * n 5) + (-1) * n 6) + (-1) * n 7)
    rw [g3, g5, g7]
    simp only [h1, h2, h3, h4, h5, h6, h7, nz, zI_add, zI_sub]
    refine congrArg zI ?_
    omega
  · show (pa 3 - pa 3) = zI (((((((0 + (0) * n 1) + (0) * n 2) + (0) * n 3) + (0) * n 4) + (0) * n 5) + (0) * n 6) + (0) * n 7)
    rw [g3]
    simp only [h1, h2, h3, h5, h6, h7, nz, zI_add, zI_sub]
    refine congrArg zI ?_
    omega
  · show (pa 5 - pa 5) = zI (((((((0 + (0) * n 1) + (0) * n 2) + (0) * n 3) + (0) * n 4) + (0) * n 5) + (0) * n 6) + (0) * n 7)
    rw [g5]
    simp only [h1, h3, h4, h5, h6, h7, nz, zI_add, zI_sub]
    refine congrArg zI ?_
    omega
  · show (pa 6 - (((pa 7 - pa 3) - pa 5) - nI 0)) = zI (((((((0 + (1) * n 1) + (1) * n 2) + (2) * n 3) + (1) * n 4) + (2) * n 5) + (2) * n 6) + (2) * n 7)
    rw [g3, g5, g6, g7]
    simp only [h1, h2, h3, h4, h5, h6, h7, nz, zI_add, zI_sub]
    refine congrArg zI ?_
    omega
theorem sh_6_8 {n : Nat → Int} {f p0 : Nat → Int32} (hf : ∀ z, 1 ≤ z → z < 8 → f z = zI (n z)) : ∀ q, q < 9 → shV (pts f p0 7) 6 8 q = zI (dt n (xr 6 8 q) 7) := by
  obtain ⟨pa, hpa⟩ : ∃ pa, pa = pts f p0 7 := ⟨_, rfl⟩
  have h1 := hf 1 (by decide) (by decide); have h2 := hf 2 (by decide) (by decide); have h3 := hf 3 (by decide) (by decide); have h4 := hf 4 (by decide) (by decide); have h5 := hf 5 (by decide) (by decide); have h6 := hf 6 (by decide) (by decide); have h7 := hf 7 (by decide) (by decide)
  have g1 : pa 1 = _ := (congrFun hpa 1).trans (pts_1 f p0)
  have g2 : pa 2 = _ := (congrFun hpa 2).trans (pts_2 f p0)
  have g3 : pa 3 = _ := (congrFun hpa 3).trans (pts_3 f p0)
  have g4 : pa 4 = _ := (congrFun hpa 4).trans (pts_4 f p0)
  have g5 : pa 5 = _ := (congrFun hpa 5).trans (pts_5 f p0)
  have g6 : pa 6 = _ := (congrFun hpa 6).trans (pts_6 f p0)
  have g7 : pa 7 = _ := (congrFun hpa 7).trans (pts_7 f p0)
  rw [← hpa]
  intro q hq
  have hq9 : q = 0 ∨ q = 1 ∨ q = 2 ∨ q = 3 ∨ q = 4 ∨ q = 5 ∨ q = 6 ∨ q = 7 ∨ q = 8 := by omega
  rcases hq9 with rfl | rfl | rfl | rfl | rfl | rfl | rfl | rfl | rfl
  · show pa 1 = zI (((((((0 + (1) * n 1) + (0) * n 2) + (1) * n 3) + (0) * n 4) + (1) * n 5) + (0) * n 6) + (1) * n 7)
    rw [g1]
    simp only [h1, h3, h5, h7, nz, zI_add, zI_sub]
    refine congrArg zI ?_
    omega
  · show pa 2 = zI (((((((0 + (0) * n 1) + (1) * n 2) + (1) * n 3) + (0) * n 4) + (0) * n 5) + (1) * n 6) + (1) * n 7)
    rw [g2]
    simp only [h2, h3, h6, h7, nz, zI_add, zI_sub]
    refine congrArg zI ?_
    omega
  · show pa 4 = zI (((((((0 + (0) * n 1) + (0) * n 2) + (0) * n 3) + (1) * n 4) + (1) * n 5) + (1) * n 6) + (1) * n 7)
    rw [g4]
    simp only [h4, h5, h6, h7, nz, zI_add, zI_sub]
    refine congrArg zI ?_
    omega
  · show pa 3 = zI (((((((0 + (1) * n 1) + (1) * n 2) + (1) * n 3) + (0) * n 4) + (1) * n 5) + (1) * n 6) + (1) * n 7)
    rw [g3]
    simp only [h1, h2, h3, h5, h6, h7, nz, zI_add, zI_sub]
    refine congrArg zI ?_
    omega
  · show (((pa 7 - pa 3) - nI 0) - pa 6) = zI (((((((0 + (0) * n 1) + (-1) * n 2) + (-1) * n 3) + (0) * n 4) + (-1) * n 5) + (-1) * n 6) + (-1) * n 7)
    rw [g3, g6, g7]
    simp only [h1, h2, h3, h4, h5, h6, h7, nz, zI_add, zI_sub]
    refine congrArg zI ?_
    omega
  · show pa 6 = zI (((((((0 + (0) * n 1) + (1) * n 2) + (1) * n 3) + (1) * n 4) + (1) * n 5) + (1) * n 6) + (1) * n 7)
    rw [g6]
    simp only [h2, h3, h4, h5, h6, h7, nz, zI_add, zI_sub]
    refine congrArg zI ?_
    omega
  · show (pa 3 - pa 3) = zI (((((((0 + (0) * n 1) + (0) * n 2) + (0) * n 3) + (0) * n 4) + (0) * n 5) + (0) * n 6) + (0) * n 7)
    rw [g3]
    simp only [h1, h2, h3, h5, h6, h7, nz, zI_add, zI_sub]
    refine congrArg zI ?_
    omega
  · show (pa 5 - (((pa 7 - pa 3) - nI 0) - pa 6)) = zI (((((((0 + (1) * n 1) + (1) * n 2) + (2) * n 3) + (1) * n 4) + (2) * n 5) + (2) * n 6) + (2) * n 7)
    rw [g3, g5, g6, g7]
    simp only [h1, h2, h3, h4, h5, h6, h7, nz, zI_add, zI_sub]
    refine congrArg zI ?_
    omega
  · show (pa 6 - pa 6) = zI (((((((0 + (0) * n 1) + (0) * n 2) + (0) * n 3) + (0) * n 4) + (0) * n 5) + (0) * n 6) + (0) * n 7)
    rw [g6]
    simp only [h2, h3, h4, h5, h6, h7, nz, zI_add, zI_sub]
    refine congrArg zI ?_
    omega
theorem sh_7_8 {n : Nat → Int} {f p0 : Nat → Int32} (hf : ∀ z, 1 ≤ z → z < 8 → f z = zI (n z)) : ∀ q, q < 9 → shV (pts f p0 7) 7 8 q = zI (dt n (xr 7 8 q) 7) := by
  obtain ⟨pa, hpa⟩ : ∃ pa, pa = pts f p0 7 := ⟨_, rfl⟩
  have h1 := hf 1 (by decide) (by decide); have h2 := hf 2 (by decide) (by decide); have h3 := hf 3 (by decide) (by decide); have h4 := hf 4 (by decide) (by decide); have h5 := hf 5 (by decide) (by decide); have h6 := hf 6 (by decide) (by decide); have h7 := hf 7 (by decide) (by decide)
  have g1 : pa 1 = _ := (congrFun hpa 1).trans (pts_1 f p0)
  have g2 : pa 2 = _ := (congrFun hpa 2).trans (pts_2 f p0)
  have g3 : pa 3 = _ := (congrFun hpa 3).trans (pts_3 f p0)
  have g4 : pa 4 = _ := (congrFun hpa 4).trans (pts_4 f p0)
  have g5 : pa 5 = _ := (congrFun hpa 5).trans (pts_5 f p0)
  have g6 : pa 6 = _ := (congrFun hpa 6).trans (pts_6 f p0)
  have g7 : pa 7 = _ := (congrFun hpa 7).trans (pts_7 f p0)
  rw [← hpa]
  intro q hq
  have hq9 : q = 0 ∨ q = 1 ∨ q = 2 ∨ q = 3 ∨ q = 4 ∨ q = 5 ∨ q = 6 ∨ q = 7 ∨ q = 8 := by omega
  rcases hq9 with rfl | rfl | rfl | rfl | rfl | rfl | rfl | rfl | rfl
  · show pa 1 = zI (((((((0 + (1) * n 1) + (0) * n 2) + (1) * n 3) + (0) * n 4) + (1) * n 5) + (0) * n 6) + (1) * n 7)
    rw [g1]
    simp only [h1, h3, h5, h7, nz, zI_add, zI_sub]
    refine congrArg zI ?_
    omega
  · show pa 2 = zI (((((((0 + (0) * n 1) + (1) * n 2) + (1) * n 3) + (0) * n 4) + (0) * n 5) + (1) * n 6) + (1) * n 7)
    rw [g2]
    simp only [h2, h3, h6, h7, nz, zI_add, zI_sub]
    refine congrArg zI ?_
    omega
  · show pa 4 = zI (((((((0 + (0) * n 1) + (0) * n 2) + (0) * n 3) + (1) * n 4) + (1) * n 5) + (1) * n 6) + (1) * n 7)
    rw [g4]
    simp only [h4, h5, h6, h7, nz, zI_add, zI_sub]
    refine congrArg zI ?_
    omega
  · show (((pa 7 - nI 0) - pa 5) - pa 6) = zI (((((((0 + (0) * n 1) + (0) * n 2) + (-1) * n 3) + (-1) * n 4) + (-1) * n 5) + (-1) * n 6) + (-1) * n 7)
    rw [g5, g6, g7]
    simp only [h1, h2, h3, h4, h5, h6, h7, nz, zI_add, zI_sub]
    refine congrArg zI ?_
    omega
  · show pa 5 = zI (((((((0 + (1) * n 1) + (0) * n 2) + (1) * n 3) + (1) * n 4) + (1) * n 5) + (1) * n 6) + (1) * n 7)
    rw [g5]
    simp only [h1, h3, h4, h5, h6, h7, nz, zI_add, zI_sub]
    refine congrArg zI ?_
    omega
  · show pa 6 = zI (((((((0 + (0) * n 1) + (1) * n 2) + (1) * n 3) + (1) * n 4) + (1) * n 5) + (1) * n 6) + (1) * n 7)
    rw [g6]
    simp only [h2, h3, h4, h5, h6, h7, nz, zI_add, zI_sub]
    refine congrArg zI ?_
    omega
  · show (pa 3 - (((pa 7 - nI 0) - pa 5) - pa 6)) = zI (((((((0 + (1) * n 1) + (1) * n 2) + (2) * n 3) + (1) * n 4) + (2) * n 5) + (2) * n 6) + (2) * n 7)
    rw [g3, g5, g6, g7]
    simp only [h1, h2, h3, h4, h5, h6, h7, nz, zI_add, zI_sub]
    refine congrArg zI ?_
    omega
  · show (pa 5 - pa 5) = zI (((((((0 + (0) * n 1) + (0) * n 2) + (0) * n 3) + (0) * n 4) + (0) * n 5) + (0) * n 6) + (0) * n 7)
    rw [g5]
    simp only [h1, h3, h4, h5, h6, h7, nz, zI_add, zI_sub]
    refine congrArg zI ?_
    omega
  · show (pa 6 - pa 6) = zI (((((((0 + (0) * n 1) + (0) * n 2) + (0) * n 3) + (0) * n 4) + (0) * n 5) + (0) * n 6) + (0) * n 7)
    rw [g6]
    simp only [h2, h3, h4, h5, h6, h7, nz, zI_add, zI_sub]
    refine congrArg zI ?_
    omega
theorem sh_lo {n : Nat → Int} {f p0 : Nat → Int32} {i j : Nat} (hij : i < j) (hj : j < 9) (h : LO i j) (hf : ∀ z, 1 ≤ z → z < 8 → f z = zI (n z)) : ∀ q, q < 9 → shV (pts f p0 7) i j q = zI (dt n (xr i j q) 7) := by
  obtain ⟨h1, h2, h3⟩ := h
  have hc : (i = 3 ∧ (j = 4 ∨ j = 5 ∨ j = 7 ∨ j = 8)) ∨ (i = 4 ∧ (j = 5 ∨ j = 6 ∨ j = 8)) ∨ (i = 5 ∧ (j = 6 ∨ j = 7)) ∨ (i = 6 ∧ (j = 7 ∨ j = 8)) ∨ (i = 7 ∧ j = 8) := by omega
  rcases hc with ⟨rfl, rfl | rfl | rfl | rfl⟩ | ⟨rfl, rfl | rfl | rfl⟩ | ⟨rfl, rfl | rfl⟩ | ⟨rfl, rfl | rfl⟩ | ⟨rfl, rfl⟩
  · exact sh_3_4 hf
  · exact sh_3_5 hf
  · exact sh_3_7 hf
  · exact sh_3_8 hf
  · exact sh_4_5 hf
  · exact sh_4_6 hf
  · exact sh_4_8 hf
  · exact sh_5_6 hf
  · exact sh_5_7 hf
  · exact sh_6_7 hf
  · exact sh_6_8 hf
  · exact sh_7_8 hf
def LOb (i j : Nat) : Bool := decide (3 ≤ i) && (decide (3 ≤ j) && decide (i % 3 ≠ j % 3))
theorem LOb_iff {i j : Nat} : LOb i j = true ↔ LO i j := by
  unfold LOb LO; simp only [Bool.and_eq_true, decide_eq_true_eq]
def all7 (f : Nat → Bool) : Bool := (List.range 7).all f
theorem all7_sp {f : Nat → Bool} (h : all7 f = true) {k : Nat} (hk : k < 7) : f k = true := by
  unfold all7 at h
  exact List.all_eq_true.mp h k (List.mem_range.mpr hk)
/-- the end of the elimination, looked at -/
def finS (i j : Nat) : Bool := match slS (mm0 i j) 7 with
  | none => !(LOb i j)
  | some mm => LOb i j && all7 (fun c => decide (ent mm c c ≠ 0) && all7 (fun k => decide (ent mm c (7 + k) = ent mm c c * xr i j (qn i j c) (7 + k))))
def pairs (P : Nat → Nat → Bool) : Bool := (List.range 9).all (fun j => (List.range j).all (fun i => P i j))
theorem pairs_sp {P : Nat → Nat → Bool} (h : pairs P = true) {i j : Nat} (hj : j < 9) (hi : i < j) : P i j = true := by
  unfold pairs at h
  exact List.all_eq_true.mp (List.all_eq_true.mp h j (List.mem_range.mpr hj)) i (List.mem_range.mpr hi)
set_option maxRecDepth 100000 in
theorem ok_all : pairs (fun i j => okS (mm0 i j) 7) = true := by decide +kernel
set_option maxRecDepth 100000 in
theorem fin_all : pairs finS = true := by decide +kernel
def xz (i j : Nat) : Bool := !(LOb i j) || (all7 (fun k => decide (xr i j i (7 + k) = 0)) && all7 (fun k => decide (xr i j j (7 + k) = 0)))
theorem xz_all : pairs xz = true := by decide +kernel
def qnok (i j : Nat) : Bool := all7 (fun c => decide (cl i j (qn i j c) = c) && (decide (qn i j c < 9) && (decide (qn i j c ≠ i) && decide (qn i j c ≠ j)))) && (List.range 9).all (fun q => decide (q = i ∨ q = j) || (decide (qn i j (cl i j q) = q) && decide (cl i j q < 7)))
theorem qn_all : pairs qnok = true := by decide +kernel
theorem qn_a {i j c : Nat} (hj : j < 9) (hi : i < j) (hc : c < 7) : cl i j (qn i j c) = c ∧ qn i j c < 9 ∧ ¬ (qn i j c = i ∨ qn i j c = j) := by
  have h := pairs_sp qn_all hj hi
  unfold qnok at h
  rw [Bool.and_eq_true] at h
  have h1 := all7_sp h.1 hc
  simp only [Bool.and_eq_true, decide_eq_true_eq] at h1
  exact ⟨h1.1, h1.2.1, by omega⟩
theorem qn_b {i j q : Nat} (hj : j < 9) (hi : i < j) (hq : q < 9) (h : ¬ (q = i ∨ q = j)) : qn i j (cl i j q) = q ∧ cl i j q < 7 := by
  have h0 := pairs_sp qn_all hj hi
  unfold qnok at h0
  rw [Bool.and_eq_true] at h0
  have h1 := List.all_eq_true.mp h0.2 q (List.mem_range.mpr hq)
  simp only [Bool.and_eq_true, Bool.or_eq_true, decide_eq_true_eq] at h1
  exact h1.resolve_left h
/-- the reference's rows at the beginning -/
def zzs (n : Nat → Int) (i j q : Nat) : Int := if q % 8 = 7 then n (q / 8 + 1) else (plr (qn i j (q % 8)) (q / 8 + 1)).toInt
theorem plr_b : ∀ q, q < 9 → ∀ w, w < 8 → (plr q w).toInt.natAbs ≤ 1 := by decide +kernel
theorem mm0_len (i j : Nat) : (mm0 i j).length = 7 := by unfold mm0; rw [List.length_map, List.length_range]
theorem mm0_at (i j : Nat) {r k : Nat} (hr : r < 7) (hk : k < 14) : ent (mm0 i j) r k = if k < 7 then (plr (qn i j k) (r + 1)).toInt else if k = 7 + r then 1 else 0 := by
  have e : (mm0 i j).getD r [] = rwl (fun k => if k < 7 then (plr (qn i j k) (r + 1)).toInt else if k = 7 + r then 1 else 0) := by
    unfold mm0
    rw [List.getD_eq_getElem?_getD, List.getElem?_map, List.getElem?_range hr]; rfl
  unfold ent
  rw [e]
  exact rwl_at _ hk
theorem dt_unit (n : Nat → Int) : ∀ r, r < 7 → dt n (fun k => if k < 7 then 0 else if k = 7 + r then 1 else 0) 7 = n (r + 1) := by
  intro r hr
  have hc : r = 0 ∨ r = 1 ∨ r = 2 ∨ r = 3 ∨ r = 4 ∨ r = 5 ∨ r = 6 := by omega
  rcases hc with rfl | rfl | rfl | rfl | rfl | rfl | rfl <;> simp [dt]
theorem RZ_0 {n : Nat → Int} (hn : ∀ z, z < 8 → -2 ≤ n z ∧ n z ≤ 2) {i j : Nat} (hj : j < 9) (hi : i < j) : RZ n (zzs n i j) (mm0 i j) := by
  refine ⟨mm0_len i j, fun r hr => ⟨fun k hk => ?_, fun k hk => ?_, ?_, Or.inr ?_⟩⟩
  · rw [mm0_at i j hr (by omega), if_pos hk]
    unfold zzs
    rw [show (8 * r + k) % 8 = k by omega, show (8 * r + k) / 8 = r by omega, if_neg (by omega)]
  · rw [mm0_at i j hr hk]
    split
    · rename_i h
      have := plr_b _ (qn_a hj hi h).2.1 (r + 1) (by omega)
      omega
    · split <;> decide
  · unfold zzs
    rw [show (8 * r + 7) % 8 = 7 by omega, show (8 * r + 7) / 8 = r by omega, if_pos rfl]
    have := hn (r + 1) (by omega)
    omega
  · rw [dt_cong (g := fun k => if k < 7 then 0 else if k = 7 + r then 1 else 0) (fun k hk => ?_), dt_unit n r hr]
    · unfold zzs
      rw [show (8 * r + 7) % 8 = 7 by omega, show (8 * r + 7) / 8 = r by omega, if_pos rfl]
    · rw [mm0_at i j hr (by omega), if_neg (by omega)]
      show _ = (if 7 + k < 7 then 0 else if 7 + k = 7 + r then 1 else 0)
      rw [if_neg (by omega : ¬ 7 + k < 7)]
theorem cl_le (i j : Nat) : ∀ {a b : Nat}, a ≤ b → cl i j a ≤ cl i j b := by
  intro a b h
  induction h with
  | refl => exact Nat.le_refl _
  | @step b _ ih => rw [cl]; split <;> omega
theorem cl_mono {i j a b : Nat} (h : a < b) (ha : ¬ (a = i ∨ a = j)) : cl i j a < cl i j b := by
  have h1 := cl_le i j (show a + 1 ≤ b from h)
  rw [cl, if_neg ha] at h1
  omega
theorem fr_at {f : Nat → Int64} {w i j : Nat} : ∀ {n q : Nat}, q < n → ¬ (q = i ∨ q = j) → fr f w i j n (8 * w + cl i j q) = (plr q (w + 1)).toInt64
  | 0, q, h, _ => absurd h (Nat.not_lt_zero _)
  | n + 1, q, h, hq => by
    rw [fr]
    by_cases e : n = i ∨ n = j
    · rw [if_pos e]
      exact fr_at (by rcases Nat.lt_or_ge q n with g | g; exact g; exact absurd (show n = q by omega) (fun c => hq (c ▸ e))) hq
    · rw [if_neg e]
      unfold vp_updL
      by_cases g : q = n
      · subst g; rw [if_pos rfl]
      · have := cl_mono (show q < n by omega) hq
        rw [if_neg (by omega)]
        exact fr_at (by omega) hq
theorem fr_out {f : Nat → Int64} {w i j x : Nat} (hj : j < 9) (hi : i < j) (hx : x < 8 * w ∨ 8 * w + 7 ≤ x) : ∀ {n : Nat}, n ≤ 9 → fr f w i j n x = f x
  | 0, _ => rfl
  | n + 1, hn => by
    rw [fr]
    by_cases e : n = i ∨ n = j
    · rw [if_pos e]; exact fr_out hj hi hx (by omega)
    · rw [if_neg e]
      have := cl_lt hj hi (show n < 9 by omega) e
      unfold vp_updL
      rw [if_neg (by omega)]
      exact fr_out hj hi hx (by omega)
theorem fs_at {nu : Nat → Int32} {lw : Nat} {f : Nat → Int64} {i j : Nat} (hj : j < 9) (hi : i < j) : ∀ {W w : Nat}, w < W → fs nu lw f i j W (8 * w + 7) = (nu (8 * lw + (w + 1))).toInt64 ∧ ∀ q, q < 9 → ¬ (q = i ∨ q = j) → fs nu lw f i j W (8 * w + cl i j q) = (plr q (w + 1)).toInt64
  | 0, w, h => absurd h (Nat.not_lt_zero _)
  | W + 1, w, h => by
    rw [fs]
    by_cases e : w = W
    · subst e
      refine ⟨if_pos rfl, fun q hq hn => ?_⟩
      have := cl_lt hj hi hq hn
      unfold vp_updL
      rw [if_neg (by omega)]
      exact fr_at hq hn
    · obtain ⟨h1, h2⟩ := fs_at (nu := nu) (lw := lw) (f := f) hj hi (show w < W by omega)
      refine ⟨?_, fun q hq hn => ?_⟩
      · unfold vp_updL
        rw [if_neg (by omega), fr_out hj hi (by omega) (Nat.le_refl _)]
        exact h1
      · have := cl_lt hj hi hq hn
        unfold vp_updL
        rw [if_neg (by omega), fr_out hj hi (by omega) (Nat.le_refl _)]
        exact h2 q hq hn
theorem toL_z (x : Int32) : x.toInt64 = zL x.toInt := by
  unfold zL
  have h1 := Int32.le_toInt x
  have h2 := Int32.toInt_lt x
  rw [← Int64.toInt_inj, Int32.toInt_toInt64, Int64.toInt_ofInt_of_le (by omega) (by omega)]
theorem zI_zL {z : Int} (h : -1000000000 ≤ z ∧ z ≤ 1000000000) : (zI z).toInt64 = zL z := by
  unfold zI
  rw [toL_z, Int32.toInt_ofInt_of_le (by omega) (by omega)]
theorem fs_zz {nu : Nat → Int32} {n : Nat → Int} {lw : Nat} {f : Nat → Int64} {i j : Nat} (hj : j < 9) (hi : i < j) (hn : ∀ z, z < 8 → -2 ≤ n z ∧ n z ≤ 2) (hu : ∀ z, 1 ≤ z → z < 8 → nu (8 * lw + z) = zI (n z)) : ∀ q, q < 56 → fs nu lw f i j 7 q = zF (zzs n i j) q := by
  intro q hq
  obtain ⟨h1, h2⟩ := fs_at (nu := nu) (lw := lw) (f := f) hj hi (W := 7) (w := q / 8) (by omega)
  have e : q = 8 * (q / 8) + q % 8 := by omega
  unfold zF zzs
  by_cases g : q % 8 = 7
  · rw [if_pos g]
    rw [g] at e
    rw [← e] at h1
    have := hn (q / 8 + 1) (by omega)
    rw [h1, hu (q / 8 + 1) (by omega) (by omega), zI_zL (by omega)]
  · rw [if_neg g]
    have hc := qn_a hj hi (show q % 8 < 7 by omega)
    have h3 := h2 (qn i j (q % 8)) hc.2.1 hc.2.2
    rw [hc.1, ← e] at h3
    rw [h3, toL_z]
theorem sov_d {d x : Int} (h : d ≠ 0) : sov (d * x) d = x ∧ unv (d * x) d = 1 := by
  have hg : Nat.gcd (d * x).natAbs d.natAbs = d.natAbs := by
    rw [Int.natAbs_mul]; exact Nat.gcd_eq_right (Nat.dvd_mul_right _ _)
  unfold sov unv
  rw [hg]
  refine ⟨?_, Nat.div_self (by omega)⟩
  by_cases q : d < 0
  · rw [if_pos q, show ((d.natAbs : Nat) : Int) = -d by omega, ← Int.neg_mul, Int.mul_tdiv_cancel_left _ (by omega)]
  · rw [if_neg q, show ((d.natAbs : Nat) : Int) = d by omega, Int.mul_tdiv_cancel_left _ h]
theorem dt_mul (n f : Nat → Int) (d : Int) : ∀ i, dt n (fun k => d * f k) i = d * dt n f i
  | 0 => by rw [dt, dt, Int.mul_zero]
  | i + 1 => by rw [dt, dt, dt_mul n f d i, Int.mul_add, Int.mul_assoc]
theorem dt_0 {n f : Nat → Int} : ∀ {i : Nat}, (∀ k, k < i → f (7 + k) = 0) → dt n f i = 0
  | 0, _ => rfl
  | i + 1, h => by rw [dt, dt_0 (fun k hk => h k (by omega)), h i (by omega), Int.zero_mul]; rfl
def xb (i j : Nat) : Bool := (List.range 9).all (fun q => all7 (fun k => bnd (xr i j q (7 + k))))
theorem xb_all : pairs xb = true := by decide +kernel
/-- what the reference's solve finds for a pair left out -/
theorem pair_eq {n : Nat → Int} {f p0 : Nat → Int32} {i j : Nat} (hn : ∀ z, z < 8 → -2 ≤ n z ∧ n z ≤ 2) (hj : j < 9) (hi : i < j) (hf : ∀ z, 1 ≤ z → z < 8 → f z = zI (n z)) :
    (¬ LO i j ∧ sl (zzs n i j) 7 = none) ∨ (LO i j ∧ ∃ zf, sl (zzs n i j) 7 = some zf ∧ (∀ c, c < 7 → zf (8 * c + c) ≠ 0) ∧ ∀ q, q < 9 → soV zf i j q = (shV (pts f p0 7) i j q).toInt64 ∧ unV zf i j q = 1) := by
  have ok := pairs_sp ok_all hj hi
  have fin := pairs_sp fin_all hj hi
  unfold finS at fin
  rcases RZ_sl hn (RZ_0 hn hj hi) 7 (Nat.le_refl _) ok with ⟨h1, h2⟩ | ⟨y, mm, h1, h2, h3⟩
  · left
    rw [h1] at fin
    refine ⟨fun c => ?_, h2⟩
    have fin : (!(LOb i j)) = true := fin
    rw [LOb_iff.mpr c] at fin
    cases fin
  · right
    rw [h1] at fin
    have fin : (LOb i j && all7 (fun c => decide (ent mm c c ≠ 0) && all7 (fun k => decide (ent mm c (7 + k) = ent mm c c * xr i j (qn i j c) (7 + k))))) = true := fin
    rw [Bool.and_eq_true, LOb_iff] at fin
    obtain ⟨hL, fc⟩ := fin
    have hd : ∀ c, c < 7 → ent mm c c ≠ 0 ∧ y (8 * c + c) = ent mm c c ∧ y (8 * c + 7) = ent mm c c * dt n (xr i j (qn i j c)) 7 := fun c hc => by
      have h4 := all7_sp fc hc
      rw [Bool.and_eq_true, decide_eq_true_eq] at h4
      obtain ⟨r1, -, -, r4⟩ := h3.2 c hc
      refine ⟨h4.1, r1 c hc, ?_⟩
      rw [r4.resolve_left (fun q => h4.1 (q c hc)), ← dt_mul]
      exact dt_cong (fun k hk => of_decide_eq_true (all7_sp h4.2 hk))
    refine ⟨hL, y, h2, fun c hc => by rw [(hd c hc).2.1]; exact (hd c hc).1, fun q hq => ?_⟩
    have hsh := sh_lo (p0 := p0) hi hj hL hf q hq
    have hB : (dt n (xr i j q) 7).natAbs ≤ 7 * 2097152 := dt_b hn 7 (Nat.le_refl _) (fun k hk => of_decide_eq_true (all7_sp (List.all_eq_true.mp (pairs_sp xb_all hj hi) q (List.mem_range.mpr hq)) hk))
    unfold soV unV
    by_cases e : q = i ∨ q = j
    · rw [if_pos e, if_pos e, hsh]
      refine ⟨?_, rfl⟩
      have hz := pairs_sp xz_all hj hi
      unfold xz at hz
      rw [Bool.or_eq_true, LOb_iff.mpr hL] at hz
      have hz := hz.resolve_left (by decide)
      rw [Bool.and_eq_true] at hz
      have : dt n (xr i j q) 7 = 0 := dt_0 (fun k hk => by
        rcases e with e | e
        · rw [e]; exact of_decide_eq_true (all7_sp hz.1 hk)
        · rw [e]; exact of_decide_eq_true (all7_sp hz.2 hk))
      rw [this]; rfl
    · obtain ⟨e1, e2⟩ := qn_b hj hi hq e
      obtain ⟨d1, d2, d3⟩ := hd (cl i j q) e2
      rw [e1] at d3
      rw [if_neg e, if_neg e, d2, d3, (sov_d d1).1, (sov_d d1).2, hsh, zI_zL (by omega)]
      exact ⟨rfl, rfl⟩
theorem lt0_L (x : Int32) : lg_cmp x.toInt64 0 < 0 ↔ x < 0 := by
  rw [lg_cmp_lt, Int64.lt_iff_toInt_lt, Int32.toInt_toInt64, Int32.lt_iff_toInt_lt]; rfl
theorem okp_okc {n : Nat → Int} {f p0 : Nat → Int32} {i j : Nat} (hn : ∀ z, z < 8 → -2 ≤ n z ∧ n z ≤ 2) (hj : j < 9) (hi : i < j) (hf : ∀ z, 1 ≤ z → z < 8 → f z = zI (n z)) : OKP (zzs n i j) i j ↔ OKC (pts f p0 7) i j := by
  rcases pair_eq (p0 := p0) hn hj hi hf with ⟨h1, h2⟩ | ⟨h1, zf, h2, -, h4⟩
  · exact ⟨fun h => absurd h (okp_no h2), fun h => absurd h.1 h1⟩
  · constructor
    · rintro ⟨zg, g1, g2⟩
      rw [h2] at g1; cases g1
      refine ⟨h1, fun q hq c => g2 q hq ?_⟩
      rw [(h4 q hq).1, lt0_L]; exact c
    · rintro ⟨-, g2⟩
      refine ⟨zf, h2, fun q hq c => g2 q hq ?_⟩
      rw [(h4 q hq).1, lt0_L] at c; exact c
