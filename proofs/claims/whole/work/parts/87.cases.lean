/-! the law: its cases -/
set_option maxHeartbeats 4000000 in
set_option maxRecDepth 100000 in
theorem lc_world {p : Program} {l : Launch} {e : Env} {s : State} {m : MethodId} {below : List Frame} {meth : Method} {c : Code} {D : va_G} {k : Nat → ClassId} {t : Nat → Nat} {b L : Nat} {xs : Nat → Int32} {ad bd : Nat → Nat} {w1 w2 : va_W} {H : Heap} {locs : List Loc} {ls : Array Slot} {i : Nat} (hX : LX p s m meth c D k t b L xs) (hB : LB s D k ad bd w1 w2 H locs) (hl : LV ls b (ad 0) (bd 0) i) (hi : i + 6 ≤ L) (kk : ∀ (u1 u2 : va_W) (H1 : Heap) (locs1 : List Loc), LB s D k ad bd u1 u2 H1 locs1 → LG p l e s m below meth c b H1 locs1 794 ls []) : LG p l e s m below meth c b H locs 120 ls [] := by
  obtain ⟨C, hX, hbl, hL⟩ := hX
  obtain ⟨hR, hP, hD, hS⟩ := hB
  have hx := C.1
  have hb := C.2.1
  have hts := C.2.2.2.2.2.1
  have hbA : ¬ (fun q : Nat => s.heap.size ≤ q) b := Nat.not_le.mpr hbl
  obtain ⟨f1, hw1⟩ := RelW_1 hR
  obtain ⟨f2, hw2⟩ := RelW_2 hR
  obtain ⟨q1, q2, c1, c2, hJ⟩ := K_world D k t l hR (xs (i + 1)) (xs (i + 2)) (xs (i + 3)) (xs (i + 4))
  refine lv_aload_n hx hb dL_law_120 rfl (lv_at hl 1 rfl) ?_
  refine lw_arg (j := 1) hx hb hX hbl hbA hS (lv_at hl 0 rfl) (lv_at hl 3 rfl) (by omega) hL (by decide) dL_law_121 dL_law_122 dL_law_123 dL_law_124 dL_law_125 ?_
  refine lw_arg (j := 2) hx hb hX hbl hbA hS (lv_at hl 0 rfl) (lv_at hl 3 rfl) (by omega) hL (by decide) dL_law_126 dL_law_127 dL_law_128 dL_law_129 dL_law_130 ?_
  refine lw_arg (j := 3) hx hb hX hbl hbA hS (lv_at hl 0 rfl) (lv_at hl 3 rfl) (by omega) hL (by decide) dL_law_131 dL_law_132 dL_law_133 dL_law_134 dL_law_135 ?_
  refine lw_arg (j := 4) hx hb hX hbl hbA hS (lv_at hl 0 rfl) (lv_at hl 3 rfl) (by omega) hL (by decide) dL_law_136 dL_law_137 dL_law_138 dL_law_139 dL_law_140 ?_
  refine lw_c (As := [.int (xs (i + 1)), .int (xs (i + 2)), .int (xs (i + 3)), .int (xs (i + 4))]) (rest := []) C hP hD hS c1 (cwV 4 hts gL_law_X3_world rfl rfl rfl hdX3_worldC ⟨Nat.le_of_ble_eq_true rfl, Nat.le_of_ble_eq_true rfl⟩) 3 rfl hw1 rfl rfl hl.1 rfl (Nat.le_of_ble_eq_true rfl) dL_law_141 ⟨Nat.le_of_ble_eq_true rfl, Nat.le_of_ble_eq_true rfl⟩ (fun r1 u1 H locs h1 hP hD hS => ?_)
  refine lv_aload_n hx hb dL_law_144 rfl (lv_at hl 2 rfl) ?_
  refine lw_arg (j := 1) hx hb hX hbl hbA hS (lv_at hl 0 rfl) (lv_at hl 3 rfl) (by omega) hL (by decide) dL_law_145 dL_law_146 dL_law_147 dL_law_148 dL_law_149 ?_
  refine lw_arg (j := 2) hx hb hX hbl hbA hS (lv_at hl 0 rfl) (lv_at hl 3 rfl) (by omega) hL (by decide) dL_law_150 dL_law_151 dL_law_152 dL_law_153 dL_law_154 ?_
  refine lw_arg (j := 3) hx hb hX hbl hbA hS (lv_at hl 0 rfl) (lv_at hl 3 rfl) (by omega) hL (by decide) dL_law_155 dL_law_156 dL_law_157 dL_law_158 dL_law_159 ?_
  refine lw_arg (j := 4) hx hb hX hbl hbA hS (lv_at hl 0 rfl) (lv_at hl 3 rfl) (by omega) hL (by decide) dL_law_160 dL_law_161 dL_law_162 dL_law_163 dL_law_164 ?_
  refine lw_c (As := [.int (xs (i + 1)), .int (xs (i + 2)), .int (xs (i + 3)), .int (xs (i + 4))]) (rest := [.int r1]) C hP hD hS c2 (cwV 4 hts gL_law_X4_world rfl rfl rfl hdX4_worldC ⟨Nat.le_of_ble_eq_true rfl, Nat.le_of_ble_eq_true rfl⟩) 4 rfl hw2 rfl rfl hl.1 rfl (Nat.le_of_ble_eq_true rfl) dL_law_165 ⟨Nat.le_of_ble_eq_true rfl, Nat.le_of_ble_eq_true rfl⟩ (fun r2 u2 H locs h2 hP hD hS => ?_)
  have hj := hJ r1 u1 r2 u2 h1 h2
  refine lv_icmp_eq (tgt := 794) hx hb dL_law_168 (by decide) (fun _ => kk u1 u2 H locs ⟨hj.2, hP, hD, hS⟩) (fun c9 => absurd hj.1 c9)
set_option maxHeartbeats 4000000 in
set_option maxRecDepth 100000 in
theorem lc_weight {p : Program} {l : Launch} {e : Env} {s : State} {m : MethodId} {below : List Frame} {meth : Method} {c : Code} {D : va_G} {k : Nat → ClassId} {t : Nat → Nat} {b L : Nat} {xs : Nat → Int32} {ad bd : Nat → Nat} {w1 w2 : va_W} {H : Heap} {locs : List Loc} {ls : Array Slot} {i : Nat} (hX : LX p s m meth c D k t b L xs) (hB : LB s D k ad bd w1 w2 H locs) (hl : LV ls b (ad 0) (bd 0) i) (hi : i + 6 ≤ L) (kk : ∀ (u1 u2 : va_W) (H1 : Heap) (locs1 : List Loc), LB s D k ad bd u1 u2 H1 locs1 → LG p l e s m below meth c b H1 locs1 794 ls []) : LG p l e s m below meth c b H locs 173 ls [] := by
  obtain ⟨C, hX, hbl, hL⟩ := hX
  obtain ⟨hR, hP, hD, hS⟩ := hB
  have hx := C.1
  have hb := C.2.1
  have hts := C.2.2.2.2.2.1
  have hbA : ¬ (fun q : Nat => s.heap.size ≤ q) b := Nat.not_le.mpr hbl
  obtain ⟨f1, hw1⟩ := RelW_1 hR
  obtain ⟨f2, hw2⟩ := RelW_2 hR
  obtain ⟨q1, q2, c1, c2, hJ⟩ := K_weight D k t l hR (xs (i + 1)) (xs (i + 2)) (xs (i + 3)) (xs (i + 4)) (xs (i + 5))
  refine lv_aload_n hx hb dL_law_173 rfl (lv_at hl 1 rfl) ?_
  refine lw_arg (j := 1) hx hb hX hbl hbA hS (lv_at hl 0 rfl) (lv_at hl 3 rfl) (by omega) hL (by decide) dL_law_174 dL_law_175 dL_law_176 dL_law_177 dL_law_178 ?_
  refine lw_arg (j := 2) hx hb hX hbl hbA hS (lv_at hl 0 rfl) (lv_at hl 3 rfl) (by omega) hL (by decide) dL_law_179 dL_law_180 dL_law_181 dL_law_182 dL_law_183 ?_
  refine lw_arg (j := 3) hx hb hX hbl hbA hS (lv_at hl 0 rfl) (lv_at hl 3 rfl) (by omega) hL (by decide) dL_law_184 dL_law_185 dL_law_186 dL_law_187 dL_law_188 ?_
  refine lw_arg (j := 4) hx hb hX hbl hbA hS (lv_at hl 0 rfl) (lv_at hl 3 rfl) (by omega) hL (by decide) dL_law_189 dL_law_190 dL_law_191 dL_law_192 dL_law_193 ?_
  refine lw_arg (j := 5) hx hb hX hbl hbA hS (lv_at hl 0 rfl) (lv_at hl 3 rfl) (by omega) hL (by decide) dL_law_194 dL_law_195 dL_law_196 dL_law_197 dL_law_198 ?_
  refine lw_c (As := [.int (xs (i + 1)), .int (xs (i + 2)), .int (xs (i + 3)), .int (xs (i + 4)), .int (xs (i + 5))]) (rest := []) C hP hD hS c1 (cwV 5 hts gL_law_X3_weight rfl rfl rfl hdX3_weightC ⟨Nat.le_of_ble_eq_true rfl, Nat.le_of_ble_eq_true rfl⟩) 3 rfl hw1 rfl rfl hl.1 rfl (Nat.le_of_ble_eq_true rfl) dL_law_199 ⟨Nat.le_of_ble_eq_true rfl, Nat.le_of_ble_eq_true rfl⟩ (fun r1 u1 H locs h1 hP hD hS => ?_)
  refine lv_aload_n hx hb dL_law_202 rfl (lv_at hl 2 rfl) ?_
  refine lw_arg (j := 1) hx hb hX hbl hbA hS (lv_at hl 0 rfl) (lv_at hl 3 rfl) (by omega) hL (by decide) dL_law_203 dL_law_204 dL_law_205 dL_law_206 dL_law_207 ?_
  refine lw_arg (j := 2) hx hb hX hbl hbA hS (lv_at hl 0 rfl) (lv_at hl 3 rfl) (by omega) hL (by decide) dL_law_208 dL_law_209 dL_law_210 dL_law_211 dL_law_212 ?_
  refine lw_arg (j := 3) hx hb hX hbl hbA hS (lv_at hl 0 rfl) (lv_at hl 3 rfl) (by omega) hL (by decide) dL_law_213 dL_law_214 dL_law_215 dL_law_216 dL_law_217 ?_
  refine lw_arg (j := 4) hx hb hX hbl hbA hS (lv_at hl 0 rfl) (lv_at hl 3 rfl) (by omega) hL (by decide) dL_law_218 dL_law_219 dL_law_220 dL_law_221 dL_law_222 ?_
  refine lw_arg (j := 5) hx hb hX hbl hbA hS (lv_at hl 0 rfl) (lv_at hl 3 rfl) (by omega) hL (by decide) dL_law_223 dL_law_224 dL_law_225 dL_law_226 dL_law_227 ?_
  refine lw_c (As := [.int (xs (i + 1)), .int (xs (i + 2)), .int (xs (i + 3)), .int (xs (i + 4)), .int (xs (i + 5))]) (rest := [.int r1]) C hP hD hS c2 (cwV 5 hts gL_law_X4_weight rfl rfl rfl hdX4_weightC ⟨Nat.le_of_ble_eq_true rfl, Nat.le_of_ble_eq_true rfl⟩) 4 rfl hw2 rfl rfl hl.1 rfl (Nat.le_of_ble_eq_true rfl) dL_law_228 ⟨Nat.le_of_ble_eq_true rfl, Nat.le_of_ble_eq_true rfl⟩ (fun r2 u2 H locs h2 hP hD hS => ?_)
  have hj := hJ r1 u1 r2 u2 h1 h2
  refine lv_icmp_eq (tgt := 794) hx hb dL_law_231 (by decide) (fun _ => kk u1 u2 H locs ⟨hj.2, hP, hD, hS⟩) (fun c9 => absurd hj.1 c9)
set_option maxHeartbeats 4000000 in
set_option maxRecDepth 100000 in
theorem lc_told {p : Program} {l : Launch} {e : Env} {s : State} {m : MethodId} {below : List Frame} {meth : Method} {c : Code} {D : va_G} {k : Nat → ClassId} {t : Nat → Nat} {b L : Nat} {xs : Nat → Int32} {ad bd : Nat → Nat} {w1 w2 : va_W} {H : Heap} {locs : List Loc} {ls : Array Slot} {i : Nat} (hX : LX p s m meth c D k t b L xs) (hB : LB s D k ad bd w1 w2 H locs) (hl : LV ls b (ad 0) (bd 0) i) (hi : i + 6 ≤ L) (kk : ∀ (u1 u2 : va_W) (H1 : Heap) (locs1 : List Loc), LB s D k ad bd u1 u2 H1 locs1 → LG p l e s m below meth c b H1 locs1 794 ls []) : LG p l e s m below meth c b H locs 236 ls [] := by
  obtain ⟨C, hX, hbl, hL⟩ := hX
  obtain ⟨hR, hP, hD, hS⟩ := hB
  have hx := C.1
  have hb := C.2.1
  have hts := C.2.2.2.2.2.1
  have hbA : ¬ (fun q : Nat => s.heap.size ≤ q) b := Nat.not_le.mpr hbl
  obtain ⟨f1, hw1⟩ := RelW_1 hR
  obtain ⟨f2, hw2⟩ := RelW_2 hR
  obtain ⟨q1, q2, c1, c2, hJ⟩ := K_told D k t l hR (xs (i + 1)) (xs (i + 2))
  refine lv_aload_n hx hb dL_law_236 rfl (lv_at hl 1 rfl) ?_
  refine lw_arg (j := 1) hx hb hX hbl hbA hS (lv_at hl 0 rfl) (lv_at hl 3 rfl) (by omega) hL (by decide) dL_law_237 dL_law_238 dL_law_239 dL_law_240 dL_law_241 ?_
  refine lw_arg (j := 2) hx hb hX hbl hbA hS (lv_at hl 0 rfl) (lv_at hl 3 rfl) (by omega) hL (by decide) dL_law_242 dL_law_243 dL_law_244 dL_law_245 dL_law_246 ?_
  refine lw_c (As := [.int (xs (i + 1)), .int (xs (i + 2))]) (rest := []) C hP hD hS c1 (cwV 2 hts gL_law_X3_told rfl rfl rfl hdX3_toldC ⟨Nat.le_of_ble_eq_true rfl, Nat.le_of_ble_eq_true rfl⟩) 3 rfl hw1 rfl rfl hl.1 rfl (Nat.le_of_ble_eq_true rfl) dL_law_247 ⟨Nat.le_of_ble_eq_true rfl, Nat.le_of_ble_eq_true rfl⟩ (fun r1 u1 H locs h1 hP hD hS => ?_)
  refine lv_aload_n hx hb dL_law_250 rfl (lv_at hl 2 rfl) ?_
  refine lw_arg (j := 1) hx hb hX hbl hbA hS (lv_at hl 0 rfl) (lv_at hl 3 rfl) (by omega) hL (by decide) dL_law_251 dL_law_252 dL_law_253 dL_law_254 dL_law_255 ?_
  refine lw_arg (j := 2) hx hb hX hbl hbA hS (lv_at hl 0 rfl) (lv_at hl 3 rfl) (by omega) hL (by decide) dL_law_256 dL_law_257 dL_law_258 dL_law_259 dL_law_260 ?_
  refine lw_c (As := [.int (xs (i + 1)), .int (xs (i + 2))]) (rest := [.int r1]) C hP hD hS c2 (cwV 2 hts gL_law_X4_told rfl rfl rfl hdX4_toldC ⟨Nat.le_of_ble_eq_true rfl, Nat.le_of_ble_eq_true rfl⟩) 4 rfl hw2 rfl rfl hl.1 rfl (Nat.le_of_ble_eq_true rfl) dL_law_261 ⟨Nat.le_of_ble_eq_true rfl, Nat.le_of_ble_eq_true rfl⟩ (fun r2 u2 H locs h2 hP hD hS => ?_)
  have hj := hJ r1 u1 r2 u2 h1 h2
  refine lv_icmp_eq (tgt := 794) hx hb dL_law_264 (by decide) (fun _ => kk u1 u2 H locs ⟨hj.2, hP, hD, hS⟩) (fun c9 => absurd hj.1 c9)
set_option maxHeartbeats 4000000 in
set_option maxRecDepth 100000 in
theorem lc_mix {p : Program} {l : Launch} {e : Env} {s : State} {m : MethodId} {below : List Frame} {meth : Method} {c : Code} {D : va_G} {k : Nat → ClassId} {t : Nat → Nat} {b L : Nat} {xs : Nat → Int32} {ad bd : Nat → Nat} {w1 w2 : va_W} {H : Heap} {locs : List Loc} {ls : Array Slot} {i : Nat} (hX : LX p s m meth c D k t b L xs) (hB : LB s D k ad bd w1 w2 H locs) (hl : LV ls b (ad 0) (bd 0) i) (hi : i + 6 ≤ L) (kk : ∀ (u1 u2 : va_W) (H1 : Heap) (locs1 : List Loc), LB s D k ad bd u1 u2 H1 locs1 → LG p l e s m below meth c b H1 locs1 794 ls []) : LG p l e s m below meth c b H locs 269 ls [] := by
  obtain ⟨C, hX, hbl, hL⟩ := hX
  obtain ⟨hR, hP, hD, hS⟩ := hB
  have hx := C.1
  have hb := C.2.1
  have hts := C.2.2.2.2.2.1
  have hbA : ¬ (fun q : Nat => s.heap.size ≤ q) b := Nat.not_le.mpr hbl
  obtain ⟨f1, hw1⟩ := RelW_1 hR
  obtain ⟨f2, hw2⟩ := RelW_2 hR
  obtain ⟨q1, q2, c1, c2, hJ⟩ := K_mix D k t l hR (xs (i + 1)) (xs (i + 2)) (xs (i + 3))
  refine lv_aload_n hx hb dL_law_269 rfl (lv_at hl 1 rfl) ?_
  refine lw_arg (j := 1) hx hb hX hbl hbA hS (lv_at hl 0 rfl) (lv_at hl 3 rfl) (by omega) hL (by decide) dL_law_270 dL_law_271 dL_law_272 dL_law_273 dL_law_274 ?_
  refine lw_arg (j := 2) hx hb hX hbl hbA hS (lv_at hl 0 rfl) (lv_at hl 3 rfl) (by omega) hL (by decide) dL_law_275 dL_law_276 dL_law_277 dL_law_278 dL_law_279 ?_
  refine lw_arg (j := 3) hx hb hX hbl hbA hS (lv_at hl 0 rfl) (lv_at hl 3 rfl) (by omega) hL (by decide) dL_law_280 dL_law_281 dL_law_282 dL_law_283 dL_law_284 ?_
  refine lw_c (As := [.int (xs (i + 1)), .int (xs (i + 2)), .int (xs (i + 3))]) (rest := []) C hP hD hS c1 (cwV 3 hts gL_law_X3_mix rfl rfl rfl hdX3_mixC ⟨Nat.le_of_ble_eq_true rfl, Nat.le_of_ble_eq_true rfl⟩) 3 rfl hw1 rfl rfl hl.1 rfl (Nat.le_of_ble_eq_true rfl) dL_law_285 ⟨Nat.le_of_ble_eq_true rfl, Nat.le_of_ble_eq_true rfl⟩ (fun r1 u1 H locs h1 hP hD hS => ?_)
  refine lv_aload_n hx hb dL_law_288 rfl (lv_at hl 2 rfl) ?_
  refine lw_arg (j := 1) hx hb hX hbl hbA hS (lv_at hl 0 rfl) (lv_at hl 3 rfl) (by omega) hL (by decide) dL_law_289 dL_law_290 dL_law_291 dL_law_292 dL_law_293 ?_
  refine lw_arg (j := 2) hx hb hX hbl hbA hS (lv_at hl 0 rfl) (lv_at hl 3 rfl) (by omega) hL (by decide) dL_law_294 dL_law_295 dL_law_296 dL_law_297 dL_law_298 ?_
  refine lw_arg (j := 3) hx hb hX hbl hbA hS (lv_at hl 0 rfl) (lv_at hl 3 rfl) (by omega) hL (by decide) dL_law_299 dL_law_300 dL_law_301 dL_law_302 dL_law_303 ?_
  refine lw_c (As := [.int (xs (i + 1)), .int (xs (i + 2)), .int (xs (i + 3))]) (rest := [.int r1]) C hP hD hS c2 (cwV 3 hts gL_law_X4_mix rfl rfl rfl hdX4_mixC ⟨Nat.le_of_ble_eq_true rfl, Nat.le_of_ble_eq_true rfl⟩) 4 rfl hw2 rfl rfl hl.1 rfl (Nat.le_of_ble_eq_true rfl) dL_law_304 ⟨Nat.le_of_ble_eq_true rfl, Nat.le_of_ble_eq_true rfl⟩ (fun r2 u2 H locs h2 hP hD hS => ?_)
  have hj := hJ r1 u1 r2 u2 h1 h2
  refine lv_icmp_eq (tgt := 794) hx hb dL_law_307 (by decide) (fun _ => kk u1 u2 H locs ⟨hj.2, hP, hD, hS⟩) (fun c9 => absurd hj.1 c9)
set_option maxHeartbeats 4000000 in
set_option maxRecDepth 100000 in
theorem lc_tell {p : Program} {l : Launch} {e : Env} {s : State} {m : MethodId} {below : List Frame} {meth : Method} {c : Code} {D : va_G} {k : Nat → ClassId} {t : Nat → Nat} {b L : Nat} {xs : Nat → Int32} {ad bd : Nat → Nat} {w1 w2 : va_W} {H : Heap} {locs : List Loc} {ls : Array Slot} {i : Nat} (hX : LX p s m meth c D k t b L xs) (hB : LB s D k ad bd w1 w2 H locs) (hl : LV ls b (ad 0) (bd 0) i) (hi : i + 6 ≤ L) (kk : ∀ (u1 u2 : va_W) (H1 : Heap) (locs1 : List Loc), LB s D k ad bd u1 u2 H1 locs1 → LG p l e s m below meth c b H1 locs1 794 ls []) : LG p l e s m below meth c b H locs 312 ls [] := by
  obtain ⟨C, hX, hbl, hL⟩ := hX
  obtain ⟨hR, hP, hD, hS⟩ := hB
  have hx := C.1
  have hb := C.2.1
  have hts := C.2.2.2.2.2.1
  have hbA : ¬ (fun q : Nat => s.heap.size ≤ q) b := Nat.not_le.mpr hbl
  obtain ⟨f1, hw1⟩ := RelW_1 hR
  obtain ⟨f2, hw2⟩ := RelW_2 hR
  obtain ⟨q1, q2, c1, c2, hJ⟩ := K_tell D k t l hR (xs (i + 1)) (xs (i + 2))
  refine lv_aload_n hx hb dL_law_312 rfl (lv_at hl 1 rfl) ?_
  refine lw_arg (j := 1) hx hb hX hbl hbA hS (lv_at hl 0 rfl) (lv_at hl 3 rfl) (by omega) hL (by decide) dL_law_313 dL_law_314 dL_law_315 dL_law_316 dL_law_317 ?_
  refine lw_arg (j := 2) hx hb hX hbl hbA hS (lv_at hl 0 rfl) (lv_at hl 3 rfl) (by omega) hL (by decide) dL_law_318 dL_law_319 dL_law_320 dL_law_321 dL_law_322 ?_
  refine lw_c (As := [.int (xs (i + 1)), .int (xs (i + 2))]) (rest := []) C hP hD hS c1 (cwV 2 hts gL_law_X3_tell rfl rfl rfl hdX3_tellC ⟨Nat.le_of_ble_eq_true rfl, Nat.le_of_ble_eq_true rfl⟩) 3 rfl hw1 rfl rfl hl.1 rfl (Nat.le_of_ble_eq_true rfl) dL_law_323 ⟨Nat.le_of_ble_eq_true rfl, Nat.le_of_ble_eq_true rfl⟩ (fun r1 u1 H locs h1 hP hD hS => ?_)
  refine lv_aload_n hx hb dL_law_326 rfl (lv_at hl 2 rfl) ?_
  refine lw_arg (j := 1) hx hb hX hbl hbA hS (lv_at hl 0 rfl) (lv_at hl 3 rfl) (by omega) hL (by decide) dL_law_327 dL_law_328 dL_law_329 dL_law_330 dL_law_331 ?_
  refine lw_arg (j := 2) hx hb hX hbl hbA hS (lv_at hl 0 rfl) (lv_at hl 3 rfl) (by omega) hL (by decide) dL_law_332 dL_law_333 dL_law_334 dL_law_335 dL_law_336 ?_
  refine lw_c (As := [.int (xs (i + 1)), .int (xs (i + 2))]) (rest := [.int r1]) C hP hD hS c2 (cwV 2 hts gL_law_X4_tell rfl rfl rfl hdX4_tellC ⟨Nat.le_of_ble_eq_true rfl, Nat.le_of_ble_eq_true rfl⟩) 4 rfl hw2 rfl rfl hl.1 rfl (Nat.le_of_ble_eq_true rfl) dL_law_337 ⟨Nat.le_of_ble_eq_true rfl, Nat.le_of_ble_eq_true rfl⟩ (fun r2 u2 H locs h2 hP hD hS => ?_)
  have hj := hJ r1 u1 r2 u2 h1 h2
  refine lv_icmp_eq (tgt := 794) hx hb dL_law_340 (by decide) (fun _ => kk u1 u2 H locs ⟨hj.2, hP, hD, hS⟩) (fun c9 => absurd hj.1 c9)
set_option maxHeartbeats 4000000 in
set_option maxRecDepth 100000 in
theorem lc_law {p : Program} {l : Launch} {e : Env} {s : State} {m : MethodId} {below : List Frame} {meth : Method} {c : Code} {D : va_G} {k : Nat → ClassId} {t : Nat → Nat} {b L : Nat} {xs : Nat → Int32} {ad bd : Nat → Nat} {w1 w2 : va_W} {H : Heap} {locs : List Loc} {ls : Array Slot} {i : Nat} (hX : LX p s m meth c D k t b L xs) (hB : LB s D k ad bd w1 w2 H locs) (hl : LV ls b (ad 0) (bd 0) i) (hi : i + 6 ≤ L) (kk : ∀ (u1 u2 : va_W) (H1 : Heap) (locs1 : List Loc), LB s D k ad bd u1 u2 H1 locs1 → LG p l e s m below meth c b H1 locs1 794 ls []) : LG p l e s m below meth c b H locs 345 ls [] := by
  obtain ⟨C, hX, hbl, hL⟩ := hX
  obtain ⟨hR, hP, hD, hS⟩ := hB
  have hx := C.1
  have hb := C.2.1
  have hts := C.2.2.2.2.2.1
  have hbA : ¬ (fun q : Nat => s.heap.size ≤ q) b := Nat.not_le.mpr hbl
  obtain ⟨f1, hw1⟩ := RelW_1 hR
  obtain ⟨f2, hw2⟩ := RelW_2 hR
  obtain ⟨q1, q2, c1, c2, hJ⟩ := K_law D k t l hR (xs (i + 1)) (xs (i + 2)) (xs (i + 3))
  refine lv_aload_n hx hb dL_law_345 rfl (lv_at hl 1 rfl) ?_
  refine lw_arg (j := 1) hx hb hX hbl hbA hS (lv_at hl 0 rfl) (lv_at hl 3 rfl) (by omega) hL (by decide) dL_law_346 dL_law_347 dL_law_348 dL_law_349 dL_law_350 ?_
  refine lw_arg (j := 2) hx hb hX hbl hbA hS (lv_at hl 0 rfl) (lv_at hl 3 rfl) (by omega) hL (by decide) dL_law_351 dL_law_352 dL_law_353 dL_law_354 dL_law_355 ?_
  refine lw_arg (j := 3) hx hb hX hbl hbA hS (lv_at hl 0 rfl) (lv_at hl 3 rfl) (by omega) hL (by decide) dL_law_356 dL_law_357 dL_law_358 dL_law_359 dL_law_360 ?_
  refine lw_c (As := [.int (xs (i + 1)), .int (xs (i + 2)), .int (xs (i + 3))]) (rest := []) C hP hD hS c1 (cwV 3 hts gL_law_X3_law rfl rfl rfl hdX3_lawC ⟨Nat.le_of_ble_eq_true rfl, Nat.le_of_ble_eq_true rfl⟩) 3 rfl hw1 rfl rfl hl.1 rfl (Nat.le_of_ble_eq_true rfl) dL_law_361 ⟨Nat.le_of_ble_eq_true rfl, Nat.le_of_ble_eq_true rfl⟩ (fun r1 u1 H locs h1 hP hD hS => ?_)
  refine lv_aload_n hx hb dL_law_364 rfl (lv_at hl 2 rfl) ?_
  refine lw_arg (j := 1) hx hb hX hbl hbA hS (lv_at hl 0 rfl) (lv_at hl 3 rfl) (by omega) hL (by decide) dL_law_365 dL_law_366 dL_law_367 dL_law_368 dL_law_369 ?_
  refine lw_arg (j := 2) hx hb hX hbl hbA hS (lv_at hl 0 rfl) (lv_at hl 3 rfl) (by omega) hL (by decide) dL_law_370 dL_law_371 dL_law_372 dL_law_373 dL_law_374 ?_
  refine lw_arg (j := 3) hx hb hX hbl hbA hS (lv_at hl 0 rfl) (lv_at hl 3 rfl) (by omega) hL (by decide) dL_law_375 dL_law_376 dL_law_377 dL_law_378 dL_law_379 ?_
  refine lw_c (As := [.int (xs (i + 1)), .int (xs (i + 2)), .int (xs (i + 3))]) (rest := [.int r1]) C hP hD hS c2 (cwV 3 hts gL_law_X4_law rfl rfl rfl hdX4_lawC ⟨Nat.le_of_ble_eq_true rfl, Nat.le_of_ble_eq_true rfl⟩) 4 rfl hw2 rfl rfl hl.1 rfl (Nat.le_of_ble_eq_true rfl) dL_law_380 ⟨Nat.le_of_ble_eq_true rfl, Nat.le_of_ble_eq_true rfl⟩ (fun r2 u2 H locs h2 hP hD hS => ?_)
  have hj := hJ r1 u1 r2 u2 h1 h2
  refine lv_icmp_eq (tgt := 794) hx hb dL_law_383 (by decide) (fun _ => kk u1 u2 H locs ⟨hj.2, hP, hD, hS⟩) (fun c9 => absurd hj.1 c9)
set_option maxHeartbeats 4000000 in
set_option maxRecDepth 100000 in
theorem lc_plain {p : Program} {l : Launch} {e : Env} {s : State} {m : MethodId} {below : List Frame} {meth : Method} {c : Code} {D : va_G} {k : Nat → ClassId} {t : Nat → Nat} {b L : Nat} {xs : Nat → Int32} {ad bd : Nat → Nat} {w1 w2 : va_W} {H : Heap} {locs : List Loc} {ls : Array Slot} {i : Nat} (hX : LX p s m meth c D k t b L xs) (hB : LB s D k ad bd w1 w2 H locs) (hl : LV ls b (ad 0) (bd 0) i) (hi : i + 6 ≤ L) (kk : ∀ (u1 u2 : va_W) (H1 : Heap) (locs1 : List Loc), LB s D k ad bd u1 u2 H1 locs1 → LG p l e s m below meth c b H1 locs1 794 ls []) : LG p l e s m below meth c b H locs 388 ls [] := by
  obtain ⟨C, hX, hbl, hL⟩ := hX
  obtain ⟨hR, hP, hD, hS⟩ := hB
  have hx := C.1
  have hb := C.2.1
  have hts := C.2.2.2.2.2.1
  have hbA : ¬ (fun q : Nat => s.heap.size ≤ q) b := Nat.not_le.mpr hbl
  obtain ⟨f1, hw1⟩ := RelW_1 hR
  obtain ⟨f2, hw2⟩ := RelW_2 hR
  obtain ⟨q1, q2, c1, c2, hJ⟩ := K_plain D k t l hR (xs (i + 1)) (xs (i + 2))
  refine lv_aload_n hx hb dL_law_388 rfl (lv_at hl 1 rfl) ?_
  refine lw_arg (j := 1) hx hb hX hbl hbA hS (lv_at hl 0 rfl) (lv_at hl 3 rfl) (by omega) hL (by decide) dL_law_389 dL_law_390 dL_law_391 dL_law_392 dL_law_393 ?_
  refine lw_arg (j := 2) hx hb hX hbl hbA hS (lv_at hl 0 rfl) (lv_at hl 3 rfl) (by omega) hL (by decide) dL_law_394 dL_law_395 dL_law_396 dL_law_397 dL_law_398 ?_
  refine lw_c (As := [.int (xs (i + 1)), .int (xs (i + 2))]) (rest := []) C hP hD hS c1 (cwV 2 hts gL_law_X3_plain rfl rfl rfl hdX3_plainC ⟨Nat.le_of_ble_eq_true rfl, Nat.le_of_ble_eq_true rfl⟩) 3 rfl hw1 rfl rfl hl.1 rfl (Nat.le_of_ble_eq_true rfl) dL_law_399 ⟨Nat.le_of_ble_eq_true rfl, Nat.le_of_ble_eq_true rfl⟩ (fun r1 u1 H locs h1 hP hD hS => ?_)
  refine lv_aload_n hx hb dL_law_402 rfl (lv_at hl 2 rfl) ?_
  refine lw_arg (j := 1) hx hb hX hbl hbA hS (lv_at hl 0 rfl) (lv_at hl 3 rfl) (by omega) hL (by decide) dL_law_403 dL_law_404 dL_law_405 dL_law_406 dL_law_407 ?_
  refine lw_arg (j := 2) hx hb hX hbl hbA hS (lv_at hl 0 rfl) (lv_at hl 3 rfl) (by omega) hL (by decide) dL_law_408 dL_law_409 dL_law_410 dL_law_411 dL_law_412 ?_
  refine lw_c (As := [.int (xs (i + 1)), .int (xs (i + 2))]) (rest := [.int r1]) C hP hD hS c2 (cwV 2 hts gL_law_X4_plain rfl rfl rfl hdX4_plainC ⟨Nat.le_of_ble_eq_true rfl, Nat.le_of_ble_eq_true rfl⟩) 4 rfl hw2 rfl rfl hl.1 rfl (Nat.le_of_ble_eq_true rfl) dL_law_413 ⟨Nat.le_of_ble_eq_true rfl, Nat.le_of_ble_eq_true rfl⟩ (fun r2 u2 H locs h2 hP hD hS => ?_)
  have hj := hJ r1 u1 r2 u2 h1 h2
  refine lv_icmp_eq (tgt := 794) hx hb dL_law_416 (by decide) (fun _ => kk u1 u2 H locs ⟨hj.2, hP, hD, hS⟩) (fun c9 => absurd hj.1 c9)
set_option maxHeartbeats 4000000 in
set_option maxRecDepth 100000 in
theorem lc_number {p : Program} {l : Launch} {e : Env} {s : State} {m : MethodId} {below : List Frame} {meth : Method} {c : Code} {D : va_G} {k : Nat → ClassId} {t : Nat → Nat} {b L : Nat} {xs : Nat → Int32} {ad bd : Nat → Nat} {w1 w2 : va_W} {H : Heap} {locs : List Loc} {ls : Array Slot} {i : Nat} (hX : LX p s m meth c D k t b L xs) (hB : LB s D k ad bd w1 w2 H locs) (hl : LV ls b (ad 0) (bd 0) i) (hi : i + 6 ≤ L) (kk : ∀ (u1 u2 : va_W) (H1 : Heap) (locs1 : List Loc), LB s D k ad bd u1 u2 H1 locs1 → LG p l e s m below meth c b H1 locs1 794 ls []) : LG p l e s m below meth c b H locs 421 ls [] := by
  obtain ⟨C, hX, hbl, hL⟩ := hX
  obtain ⟨hR, hP, hD, hS⟩ := hB
  have hx := C.1
  have hb := C.2.1
  have hts := C.2.2.2.2.2.1
  have hbA : ¬ (fun q : Nat => s.heap.size ≤ q) b := Nat.not_le.mpr hbl
  obtain ⟨f1, hw1⟩ := RelW_1 hR
  obtain ⟨f2, hw2⟩ := RelW_2 hR
  obtain ⟨q1, q2, c1, c2, hJ⟩ := K_number D k t l hR (xs (i + 1)) (xs (i + 2))
  refine lv_aload_n hx hb dL_law_421 rfl (lv_at hl 1 rfl) ?_
  refine lw_arg (j := 1) hx hb hX hbl hbA hS (lv_at hl 0 rfl) (lv_at hl 3 rfl) (by omega) hL (by decide) dL_law_422 dL_law_423 dL_law_424 dL_law_425 dL_law_426 ?_
  refine lw_arg (j := 2) hx hb hX hbl hbA hS (lv_at hl 0 rfl) (lv_at hl 3 rfl) (by omega) hL (by decide) dL_law_427 dL_law_428 dL_law_429 dL_law_430 dL_law_431 ?_
  refine lw_c (As := [.int (xs (i + 1)), .int (xs (i + 2))]) (rest := []) C hP hD hS c1 (cwV 2 hts gL_law_X3_number rfl rfl rfl hdX3_numberC ⟨Nat.le_of_ble_eq_true rfl, Nat.le_of_ble_eq_true rfl⟩) 3 rfl hw1 rfl rfl hl.1 rfl (Nat.le_of_ble_eq_true rfl) dL_law_432 ⟨Nat.le_of_ble_eq_true rfl, Nat.le_of_ble_eq_true rfl⟩ (fun r1 u1 H locs h1 hP hD hS => ?_)
  refine lv_aload_n hx hb dL_law_435 rfl (lv_at hl 2 rfl) ?_
  refine lw_arg (j := 1) hx hb hX hbl hbA hS (lv_at hl 0 rfl) (lv_at hl 3 rfl) (by omega) hL (by decide) dL_law_436 dL_law_437 dL_law_438 dL_law_439 dL_law_440 ?_
  refine lw_arg (j := 2) hx hb hX hbl hbA hS (lv_at hl 0 rfl) (lv_at hl 3 rfl) (by omega) hL (by decide) dL_law_441 dL_law_442 dL_law_443 dL_law_444 dL_law_445 ?_
  refine lw_c (As := [.int (xs (i + 1)), .int (xs (i + 2))]) (rest := [.int r1]) C hP hD hS c2 (cwV 2 hts gL_law_X4_number rfl rfl rfl hdX4_numberC ⟨Nat.le_of_ble_eq_true rfl, Nat.le_of_ble_eq_true rfl⟩) 4 rfl hw2 rfl rfl hl.1 rfl (Nat.le_of_ble_eq_true rfl) dL_law_446 ⟨Nat.le_of_ble_eq_true rfl, Nat.le_of_ble_eq_true rfl⟩ (fun r2 u2 H locs h2 hP hD hS => ?_)
  have hj := hJ r1 u1 r2 u2 h1 h2
  refine lv_icmp_eq (tgt := 794) hx hb dL_law_449 (by decide) (fun _ => kk u1 u2 H locs ⟨hj.2, hP, hD, hS⟩) (fun c9 => absurd hj.1 c9)
set_option maxHeartbeats 4000000 in
set_option maxRecDepth 100000 in
theorem lc_sign {p : Program} {l : Launch} {e : Env} {s : State} {m : MethodId} {below : List Frame} {meth : Method} {c : Code} {D : va_G} {k : Nat → ClassId} {t : Nat → Nat} {b L : Nat} {xs : Nat → Int32} {ad bd : Nat → Nat} {w1 w2 : va_W} {H : Heap} {locs : List Loc} {ls : Array Slot} {i : Nat} (hX : LX p s m meth c D k t b L xs) (hB : LB s D k ad bd w1 w2 H locs) (hl : LV ls b (ad 0) (bd 0) i) (hi : i + 6 ≤ L) (kk : ∀ (u1 u2 : va_W) (H1 : Heap) (locs1 : List Loc), LB s D k ad bd u1 u2 H1 locs1 → LG p l e s m below meth c b H1 locs1 794 ls []) : LG p l e s m below meth c b H locs 454 ls [] := by
  obtain ⟨C, hX, hbl, hL⟩ := hX
  obtain ⟨hR, hP, hD, hS⟩ := hB
  have hx := C.1
  have hb := C.2.1
  have hts := C.2.2.2.2.2.1
  have hbA : ¬ (fun q : Nat => s.heap.size ≤ q) b := Nat.not_le.mpr hbl
  obtain ⟨f1, hw1⟩ := RelW_1 hR
  obtain ⟨f2, hw2⟩ := RelW_2 hR
  obtain ⟨q1, q2, c1, c2, hJ⟩ := K_sign D k t l hR (xs (i + 1)) (xs (i + 2))
  refine lv_aload_n hx hb dL_law_454 rfl (lv_at hl 1 rfl) ?_
  refine lw_arg (j := 1) hx hb hX hbl hbA hS (lv_at hl 0 rfl) (lv_at hl 3 rfl) (by omega) hL (by decide) dL_law_455 dL_law_456 dL_law_457 dL_law_458 dL_law_459 ?_
  refine lw_arg (j := 2) hx hb hX hbl hbA hS (lv_at hl 0 rfl) (lv_at hl 3 rfl) (by omega) hL (by decide) dL_law_460 dL_law_461 dL_law_462 dL_law_463 dL_law_464 ?_
  refine lw_c (As := [.int (xs (i + 1)), .int (xs (i + 2))]) (rest := []) C hP hD hS c1 (cwV 2 hts gL_law_X3_sign rfl rfl rfl hdX3_signC ⟨Nat.le_of_ble_eq_true rfl, Nat.le_of_ble_eq_true rfl⟩) 3 rfl hw1 rfl rfl hl.1 rfl (Nat.le_of_ble_eq_true rfl) dL_law_465 ⟨Nat.le_of_ble_eq_true rfl, Nat.le_of_ble_eq_true rfl⟩ (fun r1 u1 H locs h1 hP hD hS => ?_)
  refine lv_aload_n hx hb dL_law_468 rfl (lv_at hl 2 rfl) ?_
  refine lw_arg (j := 1) hx hb hX hbl hbA hS (lv_at hl 0 rfl) (lv_at hl 3 rfl) (by omega) hL (by decide) dL_law_469 dL_law_470 dL_law_471 dL_law_472 dL_law_473 ?_
  refine lw_arg (j := 2) hx hb hX hbl hbA hS (lv_at hl 0 rfl) (lv_at hl 3 rfl) (by omega) hL (by decide) dL_law_474 dL_law_475 dL_law_476 dL_law_477 dL_law_478 ?_
  refine lw_c (As := [.int (xs (i + 1)), .int (xs (i + 2))]) (rest := [.int r1]) C hP hD hS c2 (cwV 2 hts gL_law_X4_sign rfl rfl rfl hdX4_signC ⟨Nat.le_of_ble_eq_true rfl, Nat.le_of_ble_eq_true rfl⟩) 4 rfl hw2 rfl rfl hl.1 rfl (Nat.le_of_ble_eq_true rfl) dL_law_479 ⟨Nat.le_of_ble_eq_true rfl, Nat.le_of_ble_eq_true rfl⟩ (fun r2 u2 H locs h2 hP hD hS => ?_)
  have hj := hJ r1 u1 r2 u2 h1 h2
  refine lv_icmp_eq (tgt := 794) hx hb dL_law_482 (by decide) (fun _ => kk u1 u2 H locs ⟨hj.2, hP, hD, hS⟩) (fun c9 => absurd hj.1 c9)
set_option maxHeartbeats 4000000 in
set_option maxRecDepth 100000 in
theorem lc_compare {p : Program} {l : Launch} {e : Env} {s : State} {m : MethodId} {below : List Frame} {meth : Method} {c : Code} {D : va_G} {k : Nat → ClassId} {t : Nat → Nat} {b L : Nat} {xs : Nat → Int32} {ad bd : Nat → Nat} {w1 w2 : va_W} {H : Heap} {locs : List Loc} {ls : Array Slot} {i : Nat} (hX : LX p s m meth c D k t b L xs) (hB : LB s D k ad bd w1 w2 H locs) (hl : LV ls b (ad 0) (bd 0) i) (hi : i + 6 ≤ L) (kk : ∀ (u1 u2 : va_W) (H1 : Heap) (locs1 : List Loc), LB s D k ad bd u1 u2 H1 locs1 → LG p l e s m below meth c b H1 locs1 794 ls []) : LG p l e s m below meth c b H locs 487 ls [] := by
  obtain ⟨C, hX, hbl, hL⟩ := hX
  obtain ⟨hR, hP, hD, hS⟩ := hB
  have hx := C.1
  have hb := C.2.1
  have hts := C.2.2.2.2.2.1
  have hbA : ¬ (fun q : Nat => s.heap.size ≤ q) b := Nat.not_le.mpr hbl
  obtain ⟨f1, hw1⟩ := RelW_1 hR
  obtain ⟨f2, hw2⟩ := RelW_2 hR
  obtain ⟨q1, q2, c1, c2, hJ⟩ := K_compare D k t l hR (xs (i + 1)) (xs (i + 2)) (xs (i + 3)) (xs (i + 4))
  refine lv_aload_n hx hb dL_law_487 rfl (lv_at hl 1 rfl) ?_
  refine lw_arg (j := 1) hx hb hX hbl hbA hS (lv_at hl 0 rfl) (lv_at hl 3 rfl) (by omega) hL (by decide) dL_law_488 dL_law_489 dL_law_490 dL_law_491 dL_law_492 ?_
  refine lw_arg (j := 2) hx hb hX hbl hbA hS (lv_at hl 0 rfl) (lv_at hl 3 rfl) (by omega) hL (by decide) dL_law_493 dL_law_494 dL_law_495 dL_law_496 dL_law_497 ?_
  refine lw_arg (j := 3) hx hb hX hbl hbA hS (lv_at hl 0 rfl) (lv_at hl 3 rfl) (by omega) hL (by decide) dL_law_498 dL_law_499 dL_law_500 dL_law_501 dL_law_502 ?_
  refine lw_arg (j := 4) hx hb hX hbl hbA hS (lv_at hl 0 rfl) (lv_at hl 3 rfl) (by omega) hL (by decide) dL_law_503 dL_law_504 dL_law_505 dL_law_506 dL_law_507 ?_
  refine lw_c (As := [.int (xs (i + 1)), .int (xs (i + 2)), .int (xs (i + 3)), .int (xs (i + 4))]) (rest := []) C hP hD hS c1 (cwV 4 hts gL_law_X3_compare rfl rfl rfl hdX3_compareC ⟨Nat.le_of_ble_eq_true rfl, Nat.le_of_ble_eq_true rfl⟩) 3 rfl hw1 rfl rfl hl.1 rfl (Nat.le_of_ble_eq_true rfl) dL_law_508 ⟨Nat.le_of_ble_eq_true rfl, Nat.le_of_ble_eq_true rfl⟩ (fun r1 u1 H locs h1 hP hD hS => ?_)
  refine lv_aload_n hx hb dL_law_511 rfl (lv_at hl 2 rfl) ?_
  refine lw_arg (j := 1) hx hb hX hbl hbA hS (lv_at hl 0 rfl) (lv_at hl 3 rfl) (by omega) hL (by decide) dL_law_512 dL_law_513 dL_law_514 dL_law_515 dL_law_516 ?_
  refine lw_arg (j := 2) hx hb hX hbl hbA hS (lv_at hl 0 rfl) (lv_at hl 3 rfl) (by omega) hL (by decide) dL_law_517 dL_law_518 dL_law_519 dL_law_520 dL_law_521 ?_
  refine lw_arg (j := 3) hx hb hX hbl hbA hS (lv_at hl 0 rfl) (lv_at hl 3 rfl) (by omega) hL (by decide) dL_law_522 dL_law_523 dL_law_524 dL_law_525 dL_law_526 ?_
  refine lw_arg (j := 4) hx hb hX hbl hbA hS (lv_at hl 0 rfl) (lv_at hl 3 rfl) (by omega) hL (by decide) dL_law_527 dL_law_528 dL_law_529 dL_law_530 dL_law_531 ?_
  refine lw_c (As := [.int (xs (i + 1)), .int (xs (i + 2)), .int (xs (i + 3)), .int (xs (i + 4))]) (rest := [.int r1]) C hP hD hS c2 (cwV 4 hts gL_law_X4_compare rfl rfl rfl hdX4_compareC ⟨Nat.le_of_ble_eq_true rfl, Nat.le_of_ble_eq_true rfl⟩) 4 rfl hw2 rfl rfl hl.1 rfl (Nat.le_of_ble_eq_true rfl) dL_law_532 ⟨Nat.le_of_ble_eq_true rfl, Nat.le_of_ble_eq_true rfl⟩ (fun r2 u2 H locs h2 hP hD hS => ?_)
  have hj := hJ r1 u1 r2 u2 h1 h2
  refine lv_icmp_eq (tgt := 794) hx hb dL_law_535 (by decide) (fun _ => kk u1 u2 H locs ⟨hj.2, hP, hD, hS⟩) (fun c9 => absurd hj.1 c9)
set_option maxHeartbeats 4000000 in
set_option maxRecDepth 100000 in
theorem lc_near {p : Program} {l : Launch} {e : Env} {s : State} {m : MethodId} {below : List Frame} {meth : Method} {c : Code} {D : va_G} {k : Nat → ClassId} {t : Nat → Nat} {b L : Nat} {xs : Nat → Int32} {ad bd : Nat → Nat} {w1 w2 : va_W} {H : Heap} {locs : List Loc} {ls : Array Slot} {i : Nat} (hX : LX p s m meth c D k t b L xs) (hB : LB s D k ad bd w1 w2 H locs) (hl : LV ls b (ad 0) (bd 0) i) (hi : i + 6 ≤ L) (kk : ∀ (u1 u2 : va_W) (H1 : Heap) (locs1 : List Loc), LB s D k ad bd u1 u2 H1 locs1 → LG p l e s m below meth c b H1 locs1 794 ls []) : LG p l e s m below meth c b H locs 540 ls [] := by
  obtain ⟨C, hX, hbl, hL⟩ := hX
  obtain ⟨hR, hP, hD, hS⟩ := hB
  have hx := C.1
  have hb := C.2.1
  have hts := C.2.2.2.2.2.1
  have hbA : ¬ (fun q : Nat => s.heap.size ≤ q) b := Nat.not_le.mpr hbl
  obtain ⟨f1, hw1⟩ := RelW_1 hR
  obtain ⟨f2, hw2⟩ := RelW_2 hR
  obtain ⟨q1, q2, c1, c2, hJ⟩ := K_near D k t l hR (xs (i + 1)) (xs (i + 2))
  refine lv_aload_n hx hb dL_law_540 rfl (lv_at hl 1 rfl) ?_
  refine lw_arg (j := 1) hx hb hX hbl hbA hS (lv_at hl 0 rfl) (lv_at hl 3 rfl) (by omega) hL (by decide) dL_law_541 dL_law_542 dL_law_543 dL_law_544 dL_law_545 ?_
  refine lw_arg (j := 2) hx hb hX hbl hbA hS (lv_at hl 0 rfl) (lv_at hl 3 rfl) (by omega) hL (by decide) dL_law_546 dL_law_547 dL_law_548 dL_law_549 dL_law_550 ?_
  refine lw_c (As := [.int (xs (i + 1)), .int (xs (i + 2))]) (rest := []) C hP hD hS c1 (cwV 2 hts gL_law_X3_near rfl rfl rfl hdX3_nearC ⟨Nat.le_of_ble_eq_true rfl, Nat.le_of_ble_eq_true rfl⟩) 3 rfl hw1 rfl rfl hl.1 rfl (Nat.le_of_ble_eq_true rfl) dL_law_551 ⟨Nat.le_of_ble_eq_true rfl, Nat.le_of_ble_eq_true rfl⟩ (fun r1 u1 H locs h1 hP hD hS => ?_)
  refine lv_aload_n hx hb dL_law_554 rfl (lv_at hl 2 rfl) ?_
  refine lw_arg (j := 1) hx hb hX hbl hbA hS (lv_at hl 0 rfl) (lv_at hl 3 rfl) (by omega) hL (by decide) dL_law_555 dL_law_556 dL_law_557 dL_law_558 dL_law_559 ?_
  refine lw_arg (j := 2) hx hb hX hbl hbA hS (lv_at hl 0 rfl) (lv_at hl 3 rfl) (by omega) hL (by decide) dL_law_560 dL_law_561 dL_law_562 dL_law_563 dL_law_564 ?_
  refine lw_c (As := [.int (xs (i + 1)), .int (xs (i + 2))]) (rest := [.int r1]) C hP hD hS c2 (cwV 2 hts gL_law_X4_near rfl rfl rfl hdX4_nearC ⟨Nat.le_of_ble_eq_true rfl, Nat.le_of_ble_eq_true rfl⟩) 4 rfl hw2 rfl rfl hl.1 rfl (Nat.le_of_ble_eq_true rfl) dL_law_565 ⟨Nat.le_of_ble_eq_true rfl, Nat.le_of_ble_eq_true rfl⟩ (fun r2 u2 H locs h2 hP hD hS => ?_)
  have hj := hJ r1 u1 r2 u2 h1 h2
  refine lv_icmp_eq (tgt := 794) hx hb dL_law_568 (by decide) (fun _ => kk u1 u2 H locs ⟨hj.2, hP, hD, hS⟩) (fun c9 => absurd hj.1 c9)
set_option maxHeartbeats 4000000 in
set_option maxRecDepth 100000 in
theorem lc_always {p : Program} {l : Launch} {e : Env} {s : State} {m : MethodId} {below : List Frame} {meth : Method} {c : Code} {D : va_G} {k : Nat → ClassId} {t : Nat → Nat} {b L : Nat} {xs : Nat → Int32} {ad bd : Nat → Nat} {w1 w2 : va_W} {H : Heap} {locs : List Loc} {ls : Array Slot} {i : Nat} (hX : LX p s m meth c D k t b L xs) (hB : LB s D k ad bd w1 w2 H locs) (hl : LV ls b (ad 0) (bd 0) i) (hi : i + 6 ≤ L) (kk : ∀ (u1 u2 : va_W) (H1 : Heap) (locs1 : List Loc), LB s D k ad bd u1 u2 H1 locs1 → LG p l e s m below meth c b H1 locs1 794 ls []) : LG p l e s m below meth c b H locs 573 ls [] := by
  obtain ⟨C, hX, hbl, hL⟩ := hX
  obtain ⟨hR, hP, hD, hS⟩ := hB
  have hx := C.1
  have hb := C.2.1
  have hts := C.2.2.2.2.2.1
  have hbA : ¬ (fun q : Nat => s.heap.size ≤ q) b := Nat.not_le.mpr hbl
  obtain ⟨f1, hw1⟩ := RelW_1 hR
  obtain ⟨f2, hw2⟩ := RelW_2 hR
  obtain ⟨q1, q2, c1, c2, hJ⟩ := K_always D k t l hR (xs (i + 1)) (xs (i + 2))
  refine lv_aload_n hx hb dL_law_573 rfl (lv_at hl 1 rfl) ?_
  refine lw_arg (j := 1) hx hb hX hbl hbA hS (lv_at hl 0 rfl) (lv_at hl 3 rfl) (by omega) hL (by decide) dL_law_574 dL_law_575 dL_law_576 dL_law_577 dL_law_578 ?_
  refine lw_arg (j := 2) hx hb hX hbl hbA hS (lv_at hl 0 rfl) (lv_at hl 3 rfl) (by omega) hL (by decide) dL_law_579 dL_law_580 dL_law_581 dL_law_582 dL_law_583 ?_
  refine lw_c (As := [.int (xs (i + 1)), .int (xs (i + 2))]) (rest := []) C hP hD hS c1 (cwV 2 hts gL_law_X3_always rfl rfl rfl hdX3_alwaysC ⟨Nat.le_of_ble_eq_true rfl, Nat.le_of_ble_eq_true rfl⟩) 3 rfl hw1 rfl rfl hl.1 rfl (Nat.le_of_ble_eq_true rfl) dL_law_584 ⟨Nat.le_of_ble_eq_true rfl, Nat.le_of_ble_eq_true rfl⟩ (fun r1 u1 H locs h1 hP hD hS => ?_)
  refine lv_aload_n hx hb dL_law_587 rfl (lv_at hl 2 rfl) ?_
  refine lw_arg (j := 1) hx hb hX hbl hbA hS (lv_at hl 0 rfl) (lv_at hl 3 rfl) (by omega) hL (by decide) dL_law_588 dL_law_589 dL_law_590 dL_law_591 dL_law_592 ?_
  refine lw_arg (j := 2) hx hb hX hbl hbA hS (lv_at hl 0 rfl) (lv_at hl 3 rfl) (by omega) hL (by decide) dL_law_593 dL_law_594 dL_law_595 dL_law_596 dL_law_597 ?_
  refine lw_c (As := [.int (xs (i + 1)), .int (xs (i + 2))]) (rest := [.int r1]) C hP hD hS c2 (cwV 2 hts gL_law_X4_always rfl rfl rfl hdX4_alwaysC ⟨Nat.le_of_ble_eq_true rfl, Nat.le_of_ble_eq_true rfl⟩) 4 rfl hw2 rfl rfl hl.1 rfl (Nat.le_of_ble_eq_true rfl) dL_law_598 ⟨Nat.le_of_ble_eq_true rfl, Nat.le_of_ble_eq_true rfl⟩ (fun r2 u2 H locs h2 hP hD hS => ?_)
  have hj := hJ r1 u1 r2 u2 h1 h2
  refine lv_icmp_eq (tgt := 794) hx hb dL_law_601 (by decide) (fun _ => kk u1 u2 H locs ⟨hj.2, hP, hD, hS⟩) (fun c9 => absurd hj.1 c9)
set_option maxHeartbeats 4000000 in
set_option maxRecDepth 100000 in
theorem lc_breaks {p : Program} {l : Launch} {e : Env} {s : State} {m : MethodId} {below : List Frame} {meth : Method} {c : Code} {D : va_G} {k : Nat → ClassId} {t : Nat → Nat} {b L : Nat} {xs : Nat → Int32} {ad bd : Nat → Nat} {w1 w2 : va_W} {H : Heap} {locs : List Loc} {ls : Array Slot} {i : Nat} (hX : LX p s m meth c D k t b L xs) (hB : LB s D k ad bd w1 w2 H locs) (hl : LV ls b (ad 0) (bd 0) i) (hi : i + 6 ≤ L) (kk : ∀ (u1 u2 : va_W) (H1 : Heap) (locs1 : List Loc), LB s D k ad bd u1 u2 H1 locs1 → LG p l e s m below meth c b H1 locs1 794 ls []) : LG p l e s m below meth c b H locs 606 ls [] := by
  obtain ⟨C, hX, hbl, hL⟩ := hX
  obtain ⟨hR, hP, hD, hS⟩ := hB
  have hx := C.1
  have hb := C.2.1
  have hts := C.2.2.2.2.2.1
  have hbA : ¬ (fun q : Nat => s.heap.size ≤ q) b := Nat.not_le.mpr hbl
  obtain ⟨f1, hw1⟩ := RelW_1 hR
  obtain ⟨f2, hw2⟩ := RelW_2 hR
  obtain ⟨q1, q2, c1, c2, hJ⟩ := K_breaks D k t l hR (xs (i + 1)) (xs (i + 2))
  refine lv_aload_n hx hb dL_law_606 rfl (lv_at hl 1 rfl) ?_
  refine lw_arg (j := 1) hx hb hX hbl hbA hS (lv_at hl 0 rfl) (lv_at hl 3 rfl) (by omega) hL (by decide) dL_law_607 dL_law_608 dL_law_609 dL_law_610 dL_law_611 ?_
  refine lw_arg (j := 2) hx hb hX hbl hbA hS (lv_at hl 0 rfl) (lv_at hl 3 rfl) (by omega) hL (by decide) dL_law_612 dL_law_613 dL_law_614 dL_law_615 dL_law_616 ?_
  refine lw_c (As := [.int (xs (i + 1)), .int (xs (i + 2))]) (rest := []) C hP hD hS c1 (cwV 2 hts gL_law_X3_breaks rfl rfl rfl hdX3_breaksC ⟨Nat.le_of_ble_eq_true rfl, Nat.le_of_ble_eq_true rfl⟩) 3 rfl hw1 rfl rfl hl.1 rfl (Nat.le_of_ble_eq_true rfl) dL_law_617 ⟨Nat.le_of_ble_eq_true rfl, Nat.le_of_ble_eq_true rfl⟩ (fun r1 u1 H locs h1 hP hD hS => ?_)
  refine lv_aload_n hx hb dL_law_620 rfl (lv_at hl 2 rfl) ?_
  refine lw_arg (j := 1) hx hb hX hbl hbA hS (lv_at hl 0 rfl) (lv_at hl 3 rfl) (by omega) hL (by decide) dL_law_621 dL_law_622 dL_law_623 dL_law_624 dL_law_625 ?_
  refine lw_arg (j := 2) hx hb hX hbl hbA hS (lv_at hl 0 rfl) (lv_at hl 3 rfl) (by omega) hL (by decide) dL_law_626 dL_law_627 dL_law_628 dL_law_629 dL_law_630 ?_
  refine lw_c (As := [.int (xs (i + 1)), .int (xs (i + 2))]) (rest := [.int r1]) C hP hD hS c2 (cwV 2 hts gL_law_X4_breaks rfl rfl rfl hdX4_breaksC ⟨Nat.le_of_ble_eq_true rfl, Nat.le_of_ble_eq_true rfl⟩) 4 rfl hw2 rfl rfl hl.1 rfl (Nat.le_of_ble_eq_true rfl) dL_law_631 ⟨Nat.le_of_ble_eq_true rfl, Nat.le_of_ble_eq_true rfl⟩ (fun r2 u2 H locs h2 hP hD hS => ?_)
  have hj := hJ r1 u1 r2 u2 h1 h2
  refine lv_icmp_eq (tgt := 794) hx hb dL_law_634 (by decide) (fun _ => kk u1 u2 H locs ⟨hj.2, hP, hD, hS⟩) (fun c9 => absurd hj.1 c9)
set_option maxHeartbeats 4000000 in
set_option maxRecDepth 100000 in
theorem lc_prove {p : Program} {l : Launch} {e : Env} {s : State} {m : MethodId} {below : List Frame} {meth : Method} {c : Code} {D : va_G} {k : Nat → ClassId} {t : Nat → Nat} {b L : Nat} {xs : Nat → Int32} {ad bd : Nat → Nat} {w1 w2 : va_W} {H : Heap} {locs : List Loc} {ls : Array Slot} {i : Nat} (hX : LX p s m meth c D k t b L xs) (hB : LB s D k ad bd w1 w2 H locs) (hl : LV ls b (ad 0) (bd 0) i) (hi : i + 6 ≤ L) (kk : ∀ (u1 u2 : va_W) (H1 : Heap) (locs1 : List Loc), LB s D k ad bd u1 u2 H1 locs1 → LG p l e s m below meth c b H1 locs1 794 ls []) : LG p l e s m below meth c b H locs 639 ls [] := by
  obtain ⟨C, hX, hbl, hL⟩ := hX
  obtain ⟨hR, hP, hD, hS⟩ := hB
  have hx := C.1
  have hb := C.2.1
  have hts := C.2.2.2.2.2.1
  have hbA : ¬ (fun q : Nat => s.heap.size ≤ q) b := Nat.not_le.mpr hbl
  obtain ⟨f1, hw1⟩ := RelW_1 hR
  obtain ⟨f2, hw2⟩ := RelW_2 hR
  obtain ⟨q1, q2, c1, c2, hJ⟩ := K_prove D k t l hR (xs (i + 1))
  refine lv_aload_n hx hb dL_law_639 rfl (lv_at hl 1 rfl) ?_
  refine lw_arg (j := 1) hx hb hX hbl hbA hS (lv_at hl 0 rfl) (lv_at hl 3 rfl) (by omega) hL (by decide) dL_law_640 dL_law_641 dL_law_642 dL_law_643 dL_law_644 ?_
  refine lw_c (As := [.int (xs (i + 1))]) (rest := []) C hP hD hS c1 (cwV 1 hts gL_law_X3_prove rfl rfl rfl hdX3_proveC ⟨Nat.le_of_ble_eq_true rfl, Nat.le_of_ble_eq_true rfl⟩) 3 rfl hw1 rfl rfl hl.1 rfl (Nat.le_of_ble_eq_true rfl) dL_law_645 ⟨Nat.le_of_ble_eq_true rfl, Nat.le_of_ble_eq_true rfl⟩ (fun r1 u1 H locs h1 hP hD hS => ?_)
  refine lv_aload_n hx hb dL_law_648 rfl (lv_at hl 2 rfl) ?_
  refine lw_arg (j := 1) hx hb hX hbl hbA hS (lv_at hl 0 rfl) (lv_at hl 3 rfl) (by omega) hL (by decide) dL_law_649 dL_law_650 dL_law_651 dL_law_652 dL_law_653 ?_
  refine lw_c (As := [.int (xs (i + 1))]) (rest := [.int r1]) C hP hD hS c2 (cwV 1 hts gL_law_X4_prove rfl rfl rfl hdX4_proveC ⟨Nat.le_of_ble_eq_true rfl, Nat.le_of_ble_eq_true rfl⟩) 4 rfl hw2 rfl rfl hl.1 rfl (Nat.le_of_ble_eq_true rfl) dL_law_654 ⟨Nat.le_of_ble_eq_true rfl, Nat.le_of_ble_eq_true rfl⟩ (fun r2 u2 H locs h2 hP hD hS => ?_)
  have hj := hJ r1 u1 r2 u2 h1 h2
  refine lv_icmp_eq (tgt := 794) hx hb dL_law_657 (by decide) (fun _ => kk u1 u2 H locs ⟨hj.2, hP, hD, hS⟩) (fun c9 => absurd hj.1 c9)
set_option maxHeartbeats 4000000 in
set_option maxRecDepth 100000 in
theorem lc_share {p : Program} {l : Launch} {e : Env} {s : State} {m : MethodId} {below : List Frame} {meth : Method} {c : Code} {D : va_G} {k : Nat → ClassId} {t : Nat → Nat} {b L : Nat} {xs : Nat → Int32} {ad bd : Nat → Nat} {w1 w2 : va_W} {H : Heap} {locs : List Loc} {ls : Array Slot} {i : Nat} (hX : LX p s m meth c D k t b L xs) (hB : LB s D k ad bd w1 w2 H locs) (hl : LV ls b (ad 0) (bd 0) i) (hi : i + 6 ≤ L) (kk : ∀ (u1 u2 : va_W) (H1 : Heap) (locs1 : List Loc), LB s D k ad bd u1 u2 H1 locs1 → LG p l e s m below meth c b H1 locs1 794 ls []) : LG p l e s m below meth c b H locs 662 ls [] := by
  obtain ⟨C, hX, hbl, hL⟩ := hX
  obtain ⟨hR, hP, hD, hS⟩ := hB
  have hx := C.1
  have hb := C.2.1
  have hts := C.2.2.2.2.2.1
  have hbA : ¬ (fun q : Nat => s.heap.size ≤ q) b := Nat.not_le.mpr hbl
  obtain ⟨f1, hw1⟩ := RelW_1 hR
  obtain ⟨f2, hw2⟩ := RelW_2 hR
  obtain ⟨q1, q2, c1, c2, hJ⟩ := K_share D k t l hR (xs (i + 1)) (xs (i + 2))
  refine lv_aload_n hx hb dL_law_662 rfl (lv_at hl 1 rfl) ?_
  refine lw_arg (j := 1) hx hb hX hbl hbA hS (lv_at hl 0 rfl) (lv_at hl 3 rfl) (by omega) hL (by decide) dL_law_663 dL_law_664 dL_law_665 dL_law_666 dL_law_667 ?_
  refine lw_arg (j := 2) hx hb hX hbl hbA hS (lv_at hl 0 rfl) (lv_at hl 3 rfl) (by omega) hL (by decide) dL_law_668 dL_law_669 dL_law_670 dL_law_671 dL_law_672 ?_
  refine lw_c (As := [.int (xs (i + 1)), .int (xs (i + 2))]) (rest := []) C hP hD hS c1 (cwV 2 hts gL_law_X3_share rfl rfl rfl hdX3_shareC ⟨Nat.le_of_ble_eq_true rfl, Nat.le_of_ble_eq_true rfl⟩) 3 rfl hw1 rfl rfl hl.1 rfl (Nat.le_of_ble_eq_true rfl) dL_law_673 ⟨Nat.le_of_ble_eq_true rfl, Nat.le_of_ble_eq_true rfl⟩ (fun r1 u1 H locs h1 hP hD hS => ?_)
  refine lv_aload_n hx hb dL_law_676 rfl (lv_at hl 2 rfl) ?_
  refine lw_arg (j := 1) hx hb hX hbl hbA hS (lv_at hl 0 rfl) (lv_at hl 3 rfl) (by omega) hL (by decide) dL_law_677 dL_law_678 dL_law_679 dL_law_680 dL_law_681 ?_
  refine lw_arg (j := 2) hx hb hX hbl hbA hS (lv_at hl 0 rfl) (lv_at hl 3 rfl) (by omega) hL (by decide) dL_law_682 dL_law_683 dL_law_684 dL_law_685 dL_law_686 ?_
  refine lw_c (As := [.int (xs (i + 1)), .int (xs (i + 2))]) (rest := [.int r1]) C hP hD hS c2 (cwV 2 hts gL_law_X4_share rfl rfl rfl hdX4_shareC ⟨Nat.le_of_ble_eq_true rfl, Nat.le_of_ble_eq_true rfl⟩) 4 rfl hw2 rfl rfl hl.1 rfl (Nat.le_of_ble_eq_true rfl) dL_law_687 ⟨Nat.le_of_ble_eq_true rfl, Nat.le_of_ble_eq_true rfl⟩ (fun r2 u2 H locs h2 hP hD hS => ?_)
  have hj := hJ r1 u1 r2 u2 h1 h2
  refine lv_icmp_eq (tgt := 794) hx hb dL_law_690 (by decide) (fun _ => kk u1 u2 H locs ⟨hj.2, hP, hD, hS⟩) (fun c9 => absurd hj.1 c9)
set_option maxHeartbeats 4000000 in
set_option maxRecDepth 100000 in
theorem lc_mean {p : Program} {l : Launch} {e : Env} {s : State} {m : MethodId} {below : List Frame} {meth : Method} {c : Code} {D : va_G} {k : Nat → ClassId} {t : Nat → Nat} {b L : Nat} {xs : Nat → Int32} {ad bd : Nat → Nat} {w1 w2 : va_W} {H : Heap} {locs : List Loc} {ls : Array Slot} {i : Nat} (hX : LX p s m meth c D k t b L xs) (hB : LB s D k ad bd w1 w2 H locs) (hl : LV ls b (ad 0) (bd 0) i) (hi : i + 6 ≤ L) (kk : ∀ (u1 u2 : va_W) (H1 : Heap) (locs1 : List Loc), LB s D k ad bd u1 u2 H1 locs1 → LG p l e s m below meth c b H1 locs1 794 ls []) : LG p l e s m below meth c b H locs 695 ls [] := by
  obtain ⟨C, hX, hbl, hL⟩ := hX
  obtain ⟨hR, hP, hD, hS⟩ := hB
  have hx := C.1
  have hb := C.2.1
  have hts := C.2.2.2.2.2.1
  have hbA : ¬ (fun q : Nat => s.heap.size ≤ q) b := Nat.not_le.mpr hbl
  obtain ⟨f1, hw1⟩ := RelW_1 hR
  obtain ⟨f2, hw2⟩ := RelW_2 hR
  obtain ⟨q1, q2, c1, c2, hJ⟩ := K_mean D k t l hR (xs (i + 1)) (xs (i + 2))
  refine lv_aload_n hx hb dL_law_695 rfl (lv_at hl 1 rfl) ?_
  refine lw_arg (j := 1) hx hb hX hbl hbA hS (lv_at hl 0 rfl) (lv_at hl 3 rfl) (by omega) hL (by decide) dL_law_696 dL_law_697 dL_law_698 dL_law_699 dL_law_700 ?_
  refine lw_arg (j := 2) hx hb hX hbl hbA hS (lv_at hl 0 rfl) (lv_at hl 3 rfl) (by omega) hL (by decide) dL_law_701 dL_law_702 dL_law_703 dL_law_704 dL_law_705 ?_
  refine lw_c (As := [.int (xs (i + 1)), .int (xs (i + 2))]) (rest := []) C hP hD hS c1 (cwV 2 hts gL_law_X3_mean rfl rfl rfl hdX3_meanC ⟨Nat.le_of_ble_eq_true rfl, Nat.le_of_ble_eq_true rfl⟩) 3 rfl hw1 rfl rfl hl.1 rfl (Nat.le_of_ble_eq_true rfl) dL_law_706 ⟨Nat.le_of_ble_eq_true rfl, Nat.le_of_ble_eq_true rfl⟩ (fun r1 u1 H locs h1 hP hD hS => ?_)
  refine lv_aload_n hx hb dL_law_709 rfl (lv_at hl 2 rfl) ?_
  refine lw_arg (j := 1) hx hb hX hbl hbA hS (lv_at hl 0 rfl) (lv_at hl 3 rfl) (by omega) hL (by decide) dL_law_710 dL_law_711 dL_law_712 dL_law_713 dL_law_714 ?_
  refine lw_arg (j := 2) hx hb hX hbl hbA hS (lv_at hl 0 rfl) (lv_at hl 3 rfl) (by omega) hL (by decide) dL_law_715 dL_law_716 dL_law_717 dL_law_718 dL_law_719 ?_
  refine lw_c (As := [.int (xs (i + 1)), .int (xs (i + 2))]) (rest := [.int r1]) C hP hD hS c2 (cwV 2 hts gL_law_X4_mean rfl rfl rfl hdX4_meanC ⟨Nat.le_of_ble_eq_true rfl, Nat.le_of_ble_eq_true rfl⟩) 4 rfl hw2 rfl rfl hl.1 rfl (Nat.le_of_ble_eq_true rfl) dL_law_720 ⟨Nat.le_of_ble_eq_true rfl, Nat.le_of_ble_eq_true rfl⟩ (fun r2 u2 H locs h2 hP hD hS => ?_)
  have hj := hJ r1 u1 r2 u2 h1 h2
  refine lv_icmp_eq (tgt := 794) hx hb dL_law_723 (by decide) (fun _ => kk u1 u2 H locs ⟨hj.2, hP, hD, hS⟩) (fun c9 => absurd hj.1 c9)
set_option maxHeartbeats 4000000 in
set_option maxRecDepth 100000 in
theorem lc_words {p : Program} {l : Launch} {e : Env} {s : State} {m : MethodId} {below : List Frame} {meth : Method} {c : Code} {D : va_G} {k : Nat → ClassId} {t : Nat → Nat} {b L : Nat} {xs : Nat → Int32} {ad bd : Nat → Nat} {w1 w2 : va_W} {H : Heap} {locs : List Loc} {ls : Array Slot} {i : Nat} (hX : LX p s m meth c D k t b L xs) (hB : LB s D k ad bd w1 w2 H locs) (hl : LV ls b (ad 0) (bd 0) i) (hi : i + 6 ≤ L) (kk : ∀ (u1 u2 : va_W) (H1 : Heap) (locs1 : List Loc), LB s D k ad bd u1 u2 H1 locs1 → LG p l e s m below meth c b H1 locs1 794 ls []) : LG p l e s m below meth c b H locs 728 ls [] := by
  obtain ⟨C, hX, hbl, hL⟩ := hX
  obtain ⟨hR, hP, hD, hS⟩ := hB
  have hx := C.1
  have hb := C.2.1
  have hts := C.2.2.2.2.2.1
  have hbA : ¬ (fun q : Nat => s.heap.size ≤ q) b := Nat.not_le.mpr hbl
  obtain ⟨f1, hw1⟩ := RelW_1 hR
  obtain ⟨f2, hw2⟩ := RelW_2 hR
  obtain ⟨q1, q2, c1, c2, hJ⟩ := K_words D k t l hR (xs (i + 1)) (xs (i + 2))
  refine lv_aload_n hx hb dL_law_728 rfl (lv_at hl 1 rfl) ?_
  refine lw_arg (j := 1) hx hb hX hbl hbA hS (lv_at hl 0 rfl) (lv_at hl 3 rfl) (by omega) hL (by decide) dL_law_729 dL_law_730 dL_law_731 dL_law_732 dL_law_733 ?_
  refine lw_arg (j := 2) hx hb hX hbl hbA hS (lv_at hl 0 rfl) (lv_at hl 3 rfl) (by omega) hL (by decide) dL_law_734 dL_law_735 dL_law_736 dL_law_737 dL_law_738 ?_
  refine lw_c (As := [.int (xs (i + 1)), .int (xs (i + 2))]) (rest := []) C hP hD hS c1 (cwV 2 hts gL_law_X3_words rfl rfl rfl hdX3_wordsC ⟨Nat.le_of_ble_eq_true rfl, Nat.le_of_ble_eq_true rfl⟩) 3 rfl hw1 rfl rfl hl.1 rfl (Nat.le_of_ble_eq_true rfl) dL_law_739 ⟨Nat.le_of_ble_eq_true rfl, Nat.le_of_ble_eq_true rfl⟩ (fun r1 u1 H locs h1 hP hD hS => ?_)
  refine lv_aload_n hx hb dL_law_742 rfl (lv_at hl 2 rfl) ?_
  refine lw_arg (j := 1) hx hb hX hbl hbA hS (lv_at hl 0 rfl) (lv_at hl 3 rfl) (by omega) hL (by decide) dL_law_743 dL_law_744 dL_law_745 dL_law_746 dL_law_747 ?_
  refine lw_arg (j := 2) hx hb hX hbl hbA hS (lv_at hl 0 rfl) (lv_at hl 3 rfl) (by omega) hL (by decide) dL_law_748 dL_law_749 dL_law_750 dL_law_751 dL_law_752 ?_
  refine lw_c (As := [.int (xs (i + 1)), .int (xs (i + 2))]) (rest := [.int r1]) C hP hD hS c2 (cwV 2 hts gL_law_X4_words rfl rfl rfl hdX4_wordsC ⟨Nat.le_of_ble_eq_true rfl, Nat.le_of_ble_eq_true rfl⟩) 4 rfl hw2 rfl rfl hl.1 rfl (Nat.le_of_ble_eq_true rfl) dL_law_753 ⟨Nat.le_of_ble_eq_true rfl, Nat.le_of_ble_eq_true rfl⟩ (fun r2 u2 H locs h2 hP hD hS => ?_)
  have hj := hJ r1 u1 r2 u2 h1 h2
  refine lv_icmp_eq (tgt := 794) hx hb dL_law_756 (by decide) (fun _ => kk u1 u2 H locs ⟨hj.2, hP, hD, hS⟩) (fun c9 => absurd hj.1 c9)
set_option maxHeartbeats 4000000 in
set_option maxRecDepth 100000 in
theorem lc_secret {p : Program} {l : Launch} {e : Env} {s : State} {m : MethodId} {below : List Frame} {meth : Method} {c : Code} {D : va_G} {k : Nat → ClassId} {t : Nat → Nat} {b L : Nat} {xs : Nat → Int32} {ad bd : Nat → Nat} {w1 w2 : va_W} {H : Heap} {locs : List Loc} {ls : Array Slot} {i : Nat} (hX : LX p s m meth c D k t b L xs) (hB : LB s D k ad bd w1 w2 H locs) (hl : LV ls b (ad 0) (bd 0) i) (hi : i + 6 ≤ L) (kk : ∀ (u1 u2 : va_W) (H1 : Heap) (locs1 : List Loc), LB s D k ad bd u1 u2 H1 locs1 → LG p l e s m below meth c b H1 locs1 794 ls []) : LG p l e s m below meth c b H locs 761 ls [] := by
  obtain ⟨C, hX, hbl, hL⟩ := hX
  obtain ⟨hR, hP, hD, hS⟩ := hB
  have hx := C.1
  have hb := C.2.1
  have hts := C.2.2.2.2.2.1
  have hbA : ¬ (fun q : Nat => s.heap.size ≤ q) b := Nat.not_le.mpr hbl
  obtain ⟨f1, hw1⟩ := RelW_1 hR
  obtain ⟨f2, hw2⟩ := RelW_2 hR
  obtain ⟨q1, q2, c1, c2, hJ⟩ := K_secret D k t l hR (xs (i + 1)) (xs (i + 2))
  refine lv_aload_n hx hb dL_law_761 rfl (lv_at hl 1 rfl) ?_
  refine lw_arg (j := 1) hx hb hX hbl hbA hS (lv_at hl 0 rfl) (lv_at hl 3 rfl) (by omega) hL (by decide) dL_law_762 dL_law_763 dL_law_764 dL_law_765 dL_law_766 ?_
  refine lw_arg (j := 2) hx hb hX hbl hbA hS (lv_at hl 0 rfl) (lv_at hl 3 rfl) (by omega) hL (by decide) dL_law_767 dL_law_768 dL_law_769 dL_law_770 dL_law_771 ?_
  refine lw_c (As := [.int (xs (i + 1)), .int (xs (i + 2))]) (rest := []) C hP hD hS c1 (cwV 2 hts gL_law_X3_secret rfl rfl rfl hdX3_secretC ⟨Nat.le_of_ble_eq_true rfl, Nat.le_of_ble_eq_true rfl⟩) 3 rfl hw1 rfl rfl hl.1 rfl (Nat.le_of_ble_eq_true rfl) dL_law_772 ⟨Nat.le_of_ble_eq_true rfl, Nat.le_of_ble_eq_true rfl⟩ (fun r1 u1 H locs h1 hP hD hS => ?_)
  refine lv_aload_n hx hb dL_law_775 rfl (lv_at hl 2 rfl) ?_
  refine lw_arg (j := 1) hx hb hX hbl hbA hS (lv_at hl 0 rfl) (lv_at hl 3 rfl) (by omega) hL (by decide) dL_law_776 dL_law_777 dL_law_778 dL_law_779 dL_law_780 ?_
  refine lw_arg (j := 2) hx hb hX hbl hbA hS (lv_at hl 0 rfl) (lv_at hl 3 rfl) (by omega) hL (by decide) dL_law_781 dL_law_782 dL_law_783 dL_law_784 dL_law_785 ?_
  refine lw_c (As := [.int (xs (i + 1)), .int (xs (i + 2))]) (rest := [.int r1]) C hP hD hS c2 (cwV 2 hts gL_law_X4_secret rfl rfl rfl hdX4_secretC ⟨Nat.le_of_ble_eq_true rfl, Nat.le_of_ble_eq_true rfl⟩) 4 rfl hw2 rfl rfl hl.1 rfl (Nat.le_of_ble_eq_true rfl) dL_law_786 ⟨Nat.le_of_ble_eq_true rfl, Nat.le_of_ble_eq_true rfl⟩ (fun r2 u2 H locs h2 hP hD hS => ?_)
  have hj := hJ r1 u1 r2 u2 h1 h2
  refine lv_icmp_eq (tgt := 794) hx hb dL_law_789 (by decide) (fun _ => kk u1 u2 H locs ⟨hj.2, hP, hD, hS⟩) (fun c9 => absurd hj.1 c9)
