section
-- ===== PART A: goes FIRST, ahead of the names: the tables' words, and 'selects' of the private methods out of them =====
/-- a private method of a class that the tables say can be made, by its rows of tables_1 -/
def lw_okq (q : MethodName × Nat) : Prop := (q.1.cls ≠ "java/lang/invoke/MethodHandle" ∧ q.1.cls ≠ "java/lang/invoke/VarHandle") ∧ Cond.instantiable q.1.cls q.2 ∈ tables_1 ∧ Cond.privateMethod q.1 ∈ tables_1 ∧ Cond.instanceMethod q.1 ∈ tables_1
theorem lw_p0 : lw_okq (⟨"TellingBench$World", "begin", "(III)V"⟩, 3) := ⟨⟨by decide +kernel, by decide +kernel⟩, List.mem_of_getElem? (i := 54) (by decide +kernel), List.mem_of_getElem? (i := 107) (by decide +kernel), List.mem_of_getElem? (i := 108) (by decide +kernel)⟩
theorem lw_p1 : lw_okq (⟨"TellingBench$World", "hasSetting", "(III)Z"⟩, 3) := ⟨⟨by decide +kernel, by decide +kernel⟩, List.mem_of_getElem? (i := 54) (by decide +kernel), List.mem_of_getElem? (i := 118) (by decide +kernel), List.mem_of_getElem? (i := 119) (by decide +kernel)⟩
theorem lw_p2 : lw_okq (⟨"TellingBench$World", "put", "(II)Z"⟩, 3) := ⟨⟨by decide +kernel, by decide +kernel⟩, List.mem_of_getElem? (i := 54) (by decide +kernel), List.mem_of_getElem? (i := 125) (by decide +kernel), List.mem_of_getElem? (i := 126) (by decide +kernel)⟩
theorem lw_p3 : lw_okq (⟨"TellingBench$World", "isMade", "()Z"⟩, 3) := ⟨⟨by decide +kernel, by decide +kernel⟩, List.mem_of_getElem? (i := 54) (by decide +kernel), List.mem_of_getElem? (i := 133) (by decide +kernel), List.mem_of_getElem? (i := 134) (by decide +kernel)⟩
theorem lw_p4 : lw_okq (⟨"TellingBench$World", "weightOf", "(I)I"⟩, 3) := ⟨⟨by decide +kernel, by decide +kernel⟩, List.mem_of_getElem? (i := 54) (by decide +kernel), List.mem_of_getElem? (i := 137) (by decide +kernel), List.mem_of_getElem? (i := 138) (by decide +kernel)⟩
theorem lw_p5 : lw_okq (⟨"TellingBench", "isMadePlace", "(I)Z"⟩, 8) := ⟨⟨by decide +kernel, by decide +kernel⟩, List.mem_of_getElem? (i := 10) (by decide +kernel), List.mem_of_getElem? (i := 146) (by decide +kernel), List.mem_of_getElem? (i := 147) (by decide +kernel)⟩
theorem lw_p6 : lw_okq (⟨"TellingBench$World", "hasStatesOf", "(LTellingBench$World;)Z"⟩, 3) := ⟨⟨by decide +kernel, by decide +kernel⟩, List.mem_of_getElem? (i := 54) (by decide +kernel), List.mem_of_getElem? (i := 150) (by decide +kernel), List.mem_of_getElem? (i := 151) (by decide +kernel)⟩
theorem lw_p7 : lw_okq (⟨"TellingBench$World", "becomeMixOf", "(LTellingBench$World;LTellingBench$World;)V"⟩, 3) := ⟨⟨by decide +kernel, by decide +kernel⟩, List.mem_of_getElem? (i := 54) (by decide +kernel), List.mem_of_getElem? (i := 154) (by decide +kernel), List.mem_of_getElem? (i := 155) (by decide +kernel)⟩
theorem lw_p8 : lw_okq (⟨"TellingBench$World", "gather", "(I[I)V"⟩, 3) := ⟨⟨by decide +kernel, by decide +kernel⟩, List.mem_of_getElem? (i := 54) (by decide +kernel), List.mem_of_getElem? (i := 164) (by decide +kernel), List.mem_of_getElem? (i := 165) (by decide +kernel)⟩
theorem lw_p9 : lw_okq (⟨"TellingBench$World", "spreadByRule", "([II)V"⟩, 3) := ⟨⟨by decide +kernel, by decide +kernel⟩, List.mem_of_getElem? (i := 54) (by decide +kernel), List.mem_of_getElem? (i := 169) (by decide +kernel), List.mem_of_getElem? (i := 170) (by decide +kernel)⟩
theorem lw_p10 : lw_okq (⟨"TellingBench$LogSum", "clear", "()V"⟩, 3) := ⟨⟨by decide +kernel, by decide +kernel⟩, List.mem_of_getElem? (i := 22) (by decide +kernel), List.mem_of_getElem? (i := 200) (by decide +kernel), List.mem_of_getElem? (i := 201) (by decide +kernel)⟩
theorem lw_p11 : lw_okq (⟨"TellingBench", "addLawSum", "(LTellingBench$World;[II)V"⟩, 8) := ⟨⟨by decide +kernel, by decide +kernel⟩, List.mem_of_getElem? (i := 10) (by decide +kernel), List.mem_of_getElem? (i := 205) (by decide +kernel), List.mem_of_getElem? (i := 206) (by decide +kernel)⟩
theorem lw_p12 : lw_okq (⟨"TellingBench", "addDoubt", "(LTellingBench$World;II)V"⟩, 8) := ⟨⟨by decide +kernel, by decide +kernel⟩, List.mem_of_getElem? (i := 10) (by decide +kernel), List.mem_of_getElem? (i := 209) (by decide +kernel), List.mem_of_getElem? (i := 210) (by decide +kernel)⟩
theorem lw_p13 : lw_okq (⟨"TellingBench$LogSum", "addLog", "(II)V"⟩, 3) := ⟨⟨by decide +kernel, by decide +kernel⟩, List.mem_of_getElem? (i := 22) (by decide +kernel), List.mem_of_getElem? (i := 213) (by decide +kernel), List.mem_of_getElem? (i := 214) (by decide +kernel)⟩
theorem lw_p14 : lw_okq (⟨"TellingBench$LogSum", "signOfSum", "()I"⟩, 3) := ⟨⟨by decide +kernel, by decide +kernel⟩, List.mem_of_getElem? (i := 22) (by decide +kernel), List.mem_of_getElem? (i := 219) (by decide +kernel), List.mem_of_getElem? (i := 220) (by decide +kernel)⟩
theorem lw_p15 : lw_okq (⟨"TellingBench$LogSum", "isNought", "()Z"⟩, 3) := ⟨⟨by decide +kernel, by decide +kernel⟩, List.mem_of_getElem? (i := 22) (by decide +kernel), List.mem_of_getElem? (i := 228) (by decide +kernel), List.mem_of_getElem? (i := 229) (by decide +kernel)⟩
def lw_privs_1 : List (MethodName × Nat) := [(⟨"TellingBench$World", "begin", "(III)V"⟩, 3), (⟨"TellingBench$World", "hasSetting", "(III)Z"⟩, 3), (⟨"TellingBench$World", "put", "(II)Z"⟩, 3), (⟨"TellingBench$World", "isMade", "()Z"⟩, 3), (⟨"TellingBench$World", "weightOf", "(I)I"⟩, 3), (⟨"TellingBench", "isMadePlace", "(I)Z"⟩, 8), (⟨"TellingBench$World", "hasStatesOf", "(LTellingBench$World;)Z"⟩, 3), (⟨"TellingBench$World", "becomeMixOf", "(LTellingBench$World;LTellingBench$World;)V"⟩, 3), (⟨"TellingBench$World", "gather", "(I[I)V"⟩, 3), (⟨"TellingBench$World", "spreadByRule", "([II)V"⟩, 3), (⟨"TellingBench$LogSum", "clear", "()V"⟩, 3), (⟨"TellingBench", "addLawSum", "(LTellingBench$World;[II)V"⟩, 8), (⟨"TellingBench", "addDoubt", "(LTellingBench$World;II)V"⟩, 8), (⟨"TellingBench$LogSum", "addLog", "(II)V"⟩, 3), (⟨"TellingBench$LogSum", "signOfSum", "()I"⟩, 3), (⟨"TellingBench$LogSum", "isNought", "()Z"⟩, 3)]
theorem lw_r1 : ∀ q ∈ lw_privs_1, lw_okq q := List.forall_mem_cons.mpr ⟨lw_p0, List.forall_mem_cons.mpr ⟨lw_p1, List.forall_mem_cons.mpr ⟨lw_p2, List.forall_mem_cons.mpr ⟨lw_p3, List.forall_mem_cons.mpr ⟨lw_p4, List.forall_mem_cons.mpr ⟨lw_p5, List.forall_mem_cons.mpr ⟨lw_p6, List.forall_mem_cons.mpr ⟨lw_p7, List.forall_mem_cons.mpr ⟨lw_p8, List.forall_mem_cons.mpr ⟨lw_p9, List.forall_mem_cons.mpr ⟨lw_p10, List.forall_mem_cons.mpr ⟨lw_p11, List.forall_mem_cons.mpr ⟨lw_p12, List.forall_mem_cons.mpr ⟨lw_p13, List.forall_mem_cons.mpr ⟨lw_p14, List.forall_mem_cons.mpr ⟨lw_p15, fun _ h => absurd h List.not_mem_nil⟩⟩⟩⟩⟩⟩⟩⟩⟩⟩⟩⟩⟩⟩⟩⟩
theorem lw_p16 : lw_okq (⟨"TellingBench$LogSum", "signOfProducts", "()I"⟩, 3) := ⟨⟨by decide +kernel, by decide +kernel⟩, List.mem_of_getElem? (i := 22) (by decide +kernel), List.mem_of_getElem? (i := 232) (by decide +kernel), List.mem_of_getElem? (i := 233) (by decide +kernel)⟩
theorem lw_p17 : lw_okq (⟨"TellingBench$Whole", "becomeOne", "()V"⟩, 2) := ⟨⟨by decide +kernel, by decide +kernel⟩, List.mem_of_getElem? (i := 30) (by decide +kernel), List.mem_of_getElem? (i := 236) (by decide +kernel), List.mem_of_getElem? (i := 237) (by decide +kernel)⟩
theorem lw_p18 : lw_okq (⟨"TellingBench$Whole", "multiplyByPower", "(II)V"⟩, 2) := ⟨⟨by decide +kernel, by decide +kernel⟩, List.mem_of_getElem? (i := 30) (by decide +kernel), List.mem_of_getElem? (i := 240) (by decide +kernel), List.mem_of_getElem? (i := 241) (by decide +kernel)⟩
theorem lw_p19 : lw_okq (⟨"TellingBench$Whole", "multiplyBy", "(J)V"⟩, 2) := ⟨⟨by decide +kernel, by decide +kernel⟩, List.mem_of_getElem? (i := 30) (by decide +kernel), List.mem_of_getElem? (i := 245) (by decide +kernel), List.mem_of_getElem? (i := 246) (by decide +kernel)⟩
theorem lw_p20 : lw_okq (⟨"TellingBench$Whole", "against", "(LTellingBench$Whole;)I"⟩, 2) := ⟨⟨by decide +kernel, by decide +kernel⟩, List.mem_of_getElem? (i := 30) (by decide +kernel), List.mem_of_getElem? (i := 250) (by decide +kernel), List.mem_of_getElem? (i := 251) (by decide +kernel)⟩
theorem lw_p21 : lw_okq (⟨"TellingBench", "splitIntoParts", "([I)V"⟩, 8) := ⟨⟨by decide +kernel, by decide +kernel⟩, List.mem_of_getElem? (i := 10) (by decide +kernel), List.mem_of_getElem? (i := 288) (by decide +kernel), List.mem_of_getElem? (i := 289) (by decide +kernel)⟩
theorem lw_p22 : lw_okq (⟨"TellingBench", "tryWithout", "(II)Z"⟩, 8) := ⟨⟨by decide +kernel, by decide +kernel⟩, List.mem_of_getElem? (i := 10) (by decide +kernel), List.mem_of_getElem? (i := 295) (by decide +kernel), List.mem_of_getElem? (i := 296) (by decide +kernel)⟩
theorem lw_p23 : lw_okq (⟨"TellingBench", "keepAboveNought", "()I"⟩, 8) := ⟨⟨by decide +kernel, by decide +kernel⟩, List.mem_of_getElem? (i := 10) (by decide +kernel), List.mem_of_getElem? (i := 310) (by decide +kernel), List.mem_of_getElem? (i := 311) (by decide +kernel)⟩
theorem lw_p24 : lw_okq (⟨"TellingBench", "leastMean", "(I)I"⟩, 8) := ⟨⟨by decide +kernel, by decide +kernel⟩, List.mem_of_getElem? (i := 10) (by decide +kernel), List.mem_of_getElem? (i := 314) (by decide +kernel), List.mem_of_getElem? (i := 315) (by decide +kernel)⟩
theorem lw_p25 : lw_okq (⟨"TellingBench", "moveLeastToEnd", "(I)V"⟩, 8) := ⟨⟨by decide +kernel, by decide +kernel⟩, List.mem_of_getElem? (i := 10) (by decide +kernel), List.mem_of_getElem? (i := 318) (by decide +kernel), List.mem_of_getElem? (i := 319) (by decide +kernel)⟩
theorem lw_p26 : lw_okq (⟨"TellingBenchModel", "isSetting", "(IIII)Z"⟩, 15) := ⟨⟨by decide +kernel, by decide +kernel⟩, List.mem_of_getElem? (i := 331) (by decide +kernel), List.mem_of_getElem? (i := 397) (by decide +kernel), List.mem_of_getElem? (i := 398) (by decide +kernel)⟩
theorem lw_p27 : lw_okq (⟨"TellingBenchModel", "isMade", "(I)Z"⟩, 15) := ⟨⟨by decide +kernel, by decide +kernel⟩, List.mem_of_getElem? (i := 331) (by decide +kernel), List.mem_of_getElem? (i := 409) (by decide +kernel), List.mem_of_getElem? (i := 410) (by decide +kernel)⟩
theorem lw_p28 : lw_okq (⟨"TellingBenchModel", "clear", "()V"⟩, 15) := ⟨⟨by decide +kernel, by decide +kernel⟩, List.mem_of_getElem? (i := 331) (by decide +kernel), List.mem_of_getElem? (i := 442) (by decide +kernel), List.mem_of_getElem? (i := 443) (by decide +kernel)⟩
theorem lw_p29 : lw_okq (⟨"TellingBenchModel", "lawIn", "(III)V"⟩, 15) := ⟨⟨by decide +kernel, by decide +kernel⟩, List.mem_of_getElem? (i := 331) (by decide +kernel), List.mem_of_getElem? (i := 446) (by decide +kernel), List.mem_of_getElem? (i := 447) (by decide +kernel)⟩
theorem lw_p30 : lw_okq (⟨"TellingBenchModel", "doubt", "(III)V"⟩, 15) := ⟨⟨by decide +kernel, by decide +kernel⟩, List.mem_of_getElem? (i := 331) (by decide +kernel), List.mem_of_getElem? (i := 450) (by decide +kernel), List.mem_of_getElem? (i := 451) (by decide +kernel)⟩
theorem lw_p31 : lw_okq (⟨"TellingBenchModel", "settings", "(II)V"⟩, 15) := ⟨⟨by decide +kernel, by decide +kernel⟩, List.mem_of_getElem? (i := 331) (by decide +kernel), List.mem_of_getElem? (i := 454) (by decide +kernel), List.mem_of_getElem? (i := 455) (by decide +kernel)⟩
def lw_privs_2 : List (MethodName × Nat) := [(⟨"TellingBench$LogSum", "signOfProducts", "()I"⟩, 3), (⟨"TellingBench$Whole", "becomeOne", "()V"⟩, 2), (⟨"TellingBench$Whole", "multiplyByPower", "(II)V"⟩, 2), (⟨"TellingBench$Whole", "multiplyBy", "(J)V"⟩, 2), (⟨"TellingBench$Whole", "against", "(LTellingBench$Whole;)I"⟩, 2), (⟨"TellingBench", "splitIntoParts", "([I)V"⟩, 8), (⟨"TellingBench", "tryWithout", "(II)Z"⟩, 8), (⟨"TellingBench", "keepAboveNought", "()I"⟩, 8), (⟨"TellingBench", "leastMean", "(I)I"⟩, 8), (⟨"TellingBench", "moveLeastToEnd", "(I)V"⟩, 8), (⟨"TellingBenchModel", "isSetting", "(IIII)Z"⟩, 15), (⟨"TellingBenchModel", "isMade", "(I)Z"⟩, 15), (⟨"TellingBenchModel", "clear", "()V"⟩, 15), (⟨"TellingBenchModel", "lawIn", "(III)V"⟩, 15), (⟨"TellingBenchModel", "doubt", "(III)V"⟩, 15), (⟨"TellingBenchModel", "settings", "(II)V"⟩, 15)]
theorem lw_r2 : ∀ q ∈ lw_privs_2, lw_okq q := List.forall_mem_cons.mpr ⟨lw_p16, List.forall_mem_cons.mpr ⟨lw_p17, List.forall_mem_cons.mpr ⟨lw_p18, List.forall_mem_cons.mpr ⟨lw_p19, List.forall_mem_cons.mpr ⟨lw_p20, List.forall_mem_cons.mpr ⟨lw_p21, List.forall_mem_cons.mpr ⟨lw_p22, List.forall_mem_cons.mpr ⟨lw_p23, List.forall_mem_cons.mpr ⟨lw_p24, List.forall_mem_cons.mpr ⟨lw_p25, List.forall_mem_cons.mpr ⟨lw_p26, List.forall_mem_cons.mpr ⟨lw_p27, List.forall_mem_cons.mpr ⟨lw_p28, List.forall_mem_cons.mpr ⟨lw_p29, List.forall_mem_cons.mpr ⟨lw_p30, List.forall_mem_cons.mpr ⟨lw_p31, fun _ h => absurd h List.not_mem_nil⟩⟩⟩⟩⟩⟩⟩⟩⟩⟩⟩⟩⟩⟩⟩⟩
theorem lw_p32 : lw_okq (⟨"TellingBenchModel", "add", "(II)V"⟩, 15) := ⟨⟨by decide +kernel, by decide +kernel⟩, List.mem_of_getElem? (i := 331) (by decide +kernel), List.mem_of_getElem? (i := 458) (by decide +kernel), List.mem_of_getElem? (i := 459) (by decide +kernel)⟩
theorem lw_p33 : lw_okq (⟨"TellingBenchModel", "signOf", "()I"⟩, 15) := ⟨⟨by decide +kernel, by decide +kernel⟩, List.mem_of_getElem? (i := 331) (by decide +kernel), List.mem_of_getElem? (i := 462) (by decide +kernel), List.mem_of_getElem? (i := 463) (by decide +kernel)⟩
theorem lw_p34 : lw_okq (⟨"TellingBenchModel", "multiply", "([II)V"⟩, 15) := ⟨⟨by decide +kernel, by decide +kernel⟩, List.mem_of_getElem? (i := 331) (by decide +kernel), List.mem_of_getElem? (i := 466) (by decide +kernel), List.mem_of_getElem? (i := 467) (by decide +kernel)⟩
theorem lw_p35 : lw_okq (⟨"TellingBenchModel", "times", "([II)V"⟩, 15) := ⟨⟨by decide +kernel, by decide +kernel⟩, List.mem_of_getElem? (i := 331) (by decide +kernel), List.mem_of_getElem? (i := 471) (by decide +kernel), List.mem_of_getElem? (i := 472) (by decide +kernel)⟩
theorem lw_p36 : lw_okq (⟨"TellingBenchModel", "isGiven", "(II)Z"⟩, 15) := ⟨⟨by decide +kernel, by decide +kernel⟩, List.mem_of_getElem? (i := 331) (by decide +kernel), List.mem_of_getElem? (i := 495) (by decide +kernel), List.mem_of_getElem? (i := 496) (by decide +kernel)⟩
theorem lw_p37 : lw_okq (⟨"TellingBenchModel", "solve", "(III)Z"⟩, 15) := ⟨⟨by decide +kernel, by decide +kernel⟩, List.mem_of_getElem? (i := 331) (by decide +kernel), List.mem_of_getElem? (i := 504) (by decide +kernel), List.mem_of_getElem? (i := 505) (by decide +kernel)⟩
theorem lw_p38 : lw_okq (⟨"TellingBenchModel", "takeOff", "(II)V"⟩, 15) := ⟨⟨by decide +kernel, by decide +kernel⟩, List.mem_of_getElem? (i := 331) (by decide +kernel), List.mem_of_getElem? (i := 508) (by decide +kernel), List.mem_of_getElem? (i := 509) (by decide +kernel)⟩
theorem lw_p39 : lw_okq (⟨"TellingBenchModel", "leastOf", "()I"⟩, 15) := ⟨⟨by decide +kernel, by decide +kernel⟩, List.mem_of_getElem? (i := 331) (by decide +kernel), List.mem_of_getElem? (i := 526) (by decide +kernel), List.mem_of_getElem? (i := 527) (by decide +kernel)⟩
theorem lw_p40 : lw_okq (⟨"TellingBenchModel", "secondOf", "(I)I"⟩, 15) := ⟨⟨by decide +kernel, by decide +kernel⟩, List.mem_of_getElem? (i := 331) (by decide +kernel), List.mem_of_getElem? (i := 530) (by decide +kernel), List.mem_of_getElem? (i := 531) (by decide +kernel)⟩
def lw_privs_3 : List (MethodName × Nat) := [(⟨"TellingBenchModel", "add", "(II)V"⟩, 15), (⟨"TellingBenchModel", "signOf", "()I"⟩, 15), (⟨"TellingBenchModel", "multiply", "([II)V"⟩, 15), (⟨"TellingBenchModel", "times", "([II)V"⟩, 15), (⟨"TellingBenchModel", "isGiven", "(II)Z"⟩, 15), (⟨"TellingBenchModel", "solve", "(III)Z"⟩, 15), (⟨"TellingBenchModel", "takeOff", "(II)V"⟩, 15), (⟨"TellingBenchModel", "leastOf", "()I"⟩, 15), (⟨"TellingBenchModel", "secondOf", "(I)I"⟩, 15)]
theorem lw_r3 : ∀ q ∈ lw_privs_3, lw_okq q := List.forall_mem_cons.mpr ⟨lw_p32, List.forall_mem_cons.mpr ⟨lw_p33, List.forall_mem_cons.mpr ⟨lw_p34, List.forall_mem_cons.mpr ⟨lw_p35, List.forall_mem_cons.mpr ⟨lw_p36, List.forall_mem_cons.mpr ⟨lw_p37, List.forall_mem_cons.mpr ⟨lw_p38, List.forall_mem_cons.mpr ⟨lw_p39, List.forall_mem_cons.mpr ⟨lw_p40, fun _ h => absurd h List.not_mem_nil⟩⟩⟩⟩⟩⟩⟩⟩⟩
def lw_privs : List (MethodName × Nat) := lw_privs_1 ++ (lw_privs_2 ++ (lw_privs_3))
def lw_tbl : List Cond := k2_sels lw_privs ++ tables_1
theorem lw_privs_ok : ∀ q ∈ lw_privs, lw_okq q := by
  show ∀ q ∈ lw_privs_1 ++ (lw_privs_2 ++ (lw_privs_3)), lw_okq q
  exact List.forall_mem_append.mpr ⟨lw_r1, List.forall_mem_append.mpr ⟨lw_r2, lw_r3⟩⟩
-- ===== end of PART A; then your names; then what follows =====
end
section
/-! ===== BEGIN words of one list among another's, by their places ===== -/
theorem goodIn_r {big : List Cond} (ws : List Cond) (ps : List Nat) (hp : ws = ps.filterMap (fun i => big[i]?)) (h : ws.all goodWord = true) : GoodIn big ws := by
  intro w hw
  have h1 := List.all_eq_true.mp h w hw
  rw [hp] at hw
  obtain ⟨i, -, hi⟩ := List.mem_filterMap.mp hw
  have hm : w ∈ big := by first | exact List.mem_of_getElem? hi | exact List.getElem?_mem hi
  exact ⟨hm, good_of_word h1⟩
theorem goodIn_app {big a b : List Cond} (ha : GoodIn big a) (hb : GoodIn big b) : GoodIn big (a ++ b) := fun w h => (List.mem_append.mp h).elim (ha w) (hb w)
theorem goodIn_ca {big a b : List Cond} {c : Cond} (ha : GoodIn big (c :: a)) (hb : GoodIn big b) : GoodIn big (c :: (a ++ b)) := fun w h => (List.mem_cons.mp h).elim (fun e => ha w (List.mem_cons.mpr (Or.inl e))) (fun h => (List.mem_append.mp h).elim (fun h => ha w (List.mem_cons.mpr (Or.inr h))) (hb w))
theorem goodIn_sub {big ws : List Cond} (hm : ∀ w ∈ ws, w ∈ big) (h : ws.all goodWord = true) : GoodIn big ws := fun w hw => ⟨hm w hw, good_of_word (List.all_eq_true.mp h w hw)⟩
/-! ===== END ===== -/


/-! ===== BEGIN printed: names, fields, word lists, decode rows ===== -/
def RX0 : String := "TellingBench$LogSum"
def TX0 : u_T := fun k => match k with
  | 0 => ("TellingBench$LogSum", "times", "[I", true)
  | 1 => ("TellingBench$LogSum", "upper", "LTellingBench$Whole;", true)
  | _ => ("TellingBench$LogSum", "lower", "LTellingBench$Whole;", true)
def tyX0 : Nat → FieldType := fun k => match k with
  | 0 => .array .int
  | 1 => .object "TellingBench$Whole"
  | _ => .object "TellingBench$Whole"
abbrev wsX00 : List Cond := u_ws RX0 TX0 3
theorem nmX0 : ∀ a, a < 3 → ∀ b, b < 3 → a ≠ b → (TX0 a).2.1 ≠ (TX0 b).2.1 := by decide +kernel
theorem tyX0_ok : ∀ k, k < 3 → parseFieldDescriptor (TX0 k).2.2.1 = some (tyX0 k) := by decide +kernel
abbrev cX0_init : ByteArray := prog_2_method_1_code
def yX0_init : MethodName := ⟨RX0, "<init>", "()V"⟩
abbrev cX0_clear : ByteArray := prog_2_method_2_code
def yX0_clear : MethodName := ⟨RX0, "clear", "()V"⟩
abbrev cX0_addLog : ByteArray := prog_2_method_3_code
def yX0_addLog : MethodName := ⟨RX0, "addLog", "(II)V"⟩
abbrev cX0_isNought : ByteArray := prog_2_method_4_code
def yX0_isNought : MethodName := ⟨RX0, "isNought", "()Z"⟩
abbrev cX0_signOfSum : ByteArray := prog_2_method_5_code
def yX0_signOfSum : MethodName := ⟨RX0, "signOfSum", "()I"⟩
abbrev cX0_signOfProducts : ByteArray := prog_2_method_6_code
def yX0_signOfProducts : MethodName := ⟨RX0, "signOfProducts", "()I"⟩
def RX1 : String := "TellingBench$Whole"
def TX1 : u_T := fun k => match k with
  | 0 => ("TellingBench$Whole", "digits", "[J", true)
  | _ => ("TellingBench$Whole", "length", "I", false)
def tyX1 : Nat → FieldType := fun k => match k with
  | 0 => .array .long
  | _ => .int
abbrev wsX10 : List Cond := u_ws RX1 TX1 2
theorem nmX1 : ∀ a, a < 2 → ∀ b, b < 2 → a ≠ b → (TX1 a).2.1 ≠ (TX1 b).2.1 := by decide +kernel
theorem tyX1_ok : ∀ k, k < 2 → parseFieldDescriptor (TX1 k).2.2.1 = some (tyX1 k) := by decide +kernel
abbrev cX1_init : ByteArray := prog_3_method_1_code
def yX1_init : MethodName := ⟨RX1, "<init>", "()V"⟩
abbrev cX1_becomeOne : ByteArray := prog_3_method_2_code
def yX1_becomeOne : MethodName := ⟨RX1, "becomeOne", "()V"⟩
abbrev cX1_multiplyByPower : ByteArray := prog_3_method_3_code
def yX1_multiplyByPower : MethodName := ⟨RX1, "multiplyByPower", "(II)V"⟩
abbrev cX1_multiplyBy : ByteArray := prog_3_method_4_code
def yX1_multiplyBy : MethodName := ⟨RX1, "multiplyBy", "(J)V"⟩
abbrev cX1_against : ByteArray := prog_3_method_5_code
def yX1_against : MethodName := ⟨RX1, "against", "(LTellingBench$Whole;)I"⟩
def RX2 : String := "TellingBench$World"
def TX2 : u_T := fun k => match k with
  | 0 => ("TellingBench$World", "states", "[I", true)
  | 1 => ("TellingBench$World", "weights", "[I", true)
  | _ => ("TellingBench$World", "total", "I", false)
def tyX2 : Nat → FieldType := fun k => match k with
  | 0 => .array .int
  | 1 => .array .int
  | _ => .int
abbrev wsX20 : List Cond := u_ws RX2 TX2 3
theorem nmX2 : ∀ a, a < 3 → ∀ b, b < 3 → a ≠ b → (TX2 a).2.1 ≠ (TX2 b).2.1 := by decide +kernel
theorem tyX2_ok : ∀ k, k < 3 → parseFieldDescriptor (TX2 k).2.2.1 = some (tyX2 k) := by decide +kernel
abbrev cX2_init : ByteArray := prog_4_method_1_code
def yX2_init : MethodName := ⟨RX2, "<init>", "()V"⟩
abbrev cX2_isMade : ByteArray := prog_4_method_2_code
def yX2_isMade : MethodName := ⟨RX2, "isMade", "()Z"⟩
abbrev cX2_begin : ByteArray := prog_4_method_3_code
def yX2_begin : MethodName := ⟨RX2, "begin", "(III)V"⟩
abbrev cX2_hasSetting : ByteArray := prog_4_method_4_code
def yX2_hasSetting : MethodName := ⟨RX2, "hasSetting", "(III)Z"⟩
abbrev cX2_weightOf : ByteArray := prog_4_method_5_code
def yX2_weightOf : MethodName := ⟨RX2, "weightOf", "(I)I"⟩
abbrev cX2_hasStatesOf : ByteArray := prog_4_method_6_code
def yX2_hasStatesOf : MethodName := ⟨RX2, "hasStatesOf", "(LTellingBench$World;)Z"⟩
abbrev cX2_put : ByteArray := prog_4_method_7_code
def yX2_put : MethodName := ⟨RX2, "put", "(II)Z"⟩
abbrev cX2_becomeMixOf : ByteArray := prog_4_method_8_code
def yX2_becomeMixOf : MethodName := ⟨RX2, "becomeMixOf", "(LTellingBench$World;LTellingBench$World;)V"⟩
abbrev cX2_gather : ByteArray := prog_4_method_9_code
def yX2_gather : MethodName := ⟨RX2, "gather", "(I[I)V"⟩
abbrev cX2_spreadByRule : ByteArray := prog_4_method_10_code
def yX2_spreadByRule : MethodName := ⟨RX2, "spreadByRule", "([II)V"⟩
def RX3 : String := "TellingBench"
def TX3 : u_T := fun k => match k with
  | 0 => ("TellingBench", "worlds", "[LTellingBench$World;", true)
  | 1 => ("TellingBench", "laws", "[[I", true)
  | 2 => ("TellingBench", "logSum", "LTellingBench$LogSum;", true)
  | 3 => ("TellingBench", "sums", "[I", true)
  | 4 => ("TellingBench", "parts", "[I", true)
  | 5 => ("TellingBench", "trial", "[I", true)
  | 6 => ("TellingBench", "shares", "[I", true)
  | _ => ("TellingBench", "proved", "Z", false)
def tyX3 : Nat → FieldType := fun k => match k with
  | 0 => .array (.object "TellingBench$World")
  | 1 => .array (.array .int)
  | 2 => .object "TellingBench$LogSum"
  | 3 => .array .int
  | 4 => .array .int
  | 5 => .array .int
  | 6 => .array .int
  | _ => .boolean
abbrev wsX30 : List Cond := u_ws RX3 TX3 8
theorem nmX3 : ∀ a, a < 8 → ∀ b, b < 8 → a ≠ b → (TX3 a).2.1 ≠ (TX3 b).2.1 := by decide +kernel
theorem tyX3_ok : ∀ k, k < 8 → parseFieldDescriptor (TX3 k).2.2.1 = some (tyX3 k) := by decide +kernel
abbrev cX3_init : ByteArray := prog_1_method_1_code
def yX3_init : MethodName := ⟨RX3, "<init>", "()V"⟩
abbrev cX3_world : ByteArray := prog_1_method_2_code
def yX3_world : MethodName := ⟨RX3, "world", "(IIII)Z"⟩
abbrev cX3_weight : ByteArray := prog_1_method_3_code
def yX3_weight : MethodName := ⟨RX3, "weight", "(IIIII)Z"⟩
abbrev cX3_told : ByteArray := prog_1_method_4_code
def yX3_told : MethodName := ⟨RX3, "told", "(II)I"⟩
abbrev cX3_mix : ByteArray := prog_1_method_5_code
def yX3_mix : MethodName := ⟨RX3, "mix", "(III)Z"⟩
abbrev cX3_tell : ByteArray := prog_1_method_6_code
def yX3_tell : MethodName := ⟨RX3, "tell", "(II)Z"⟩
abbrev cX3_law : ByteArray := prog_1_method_7_code
def yX3_law : MethodName := ⟨RX3, "law", "(III)Z"⟩
abbrev cX3_plain : ByteArray := prog_1_method_8_code
def yX3_plain : MethodName := ⟨RX3, "plain", "(II)Z"⟩
abbrev cX3_number : ByteArray := prog_1_method_9_code
def yX3_number : MethodName := ⟨RX3, "number", "(II)I"⟩
abbrev cX3_sign : ByteArray := prog_1_method_10_code
def yX3_sign : MethodName := ⟨RX3, "sign", "(II)I"⟩
abbrev cX3_compare : ByteArray := prog_1_method_11_code
def yX3_compare : MethodName := ⟨RX3, "compare", "(IIII)I"⟩
abbrev cX3_near : ByteArray := prog_1_method_12_code
def yX3_near : MethodName := ⟨RX3, "near", "(II)I"⟩
abbrev cX3_always : ByteArray := prog_1_method_13_code
def yX3_always : MethodName := ⟨RX3, "always", "(II)I"⟩
abbrev cX3_breaks : ByteArray := prog_1_method_14_code
def yX3_breaks : MethodName := ⟨RX3, "breaks", "(II)I"⟩
abbrev cX3_prove : ByteArray := prog_1_method_15_code
def yX3_prove : MethodName := ⟨RX3, "prove", "(I)Z"⟩
abbrev cX3_share : ByteArray := prog_1_method_16_code
def yX3_share : MethodName := ⟨RX3, "share", "(II)I"⟩
abbrev cX3_mean : ByteArray := prog_1_method_17_code
def yX3_mean : MethodName := ⟨RX3, "mean", "(II)I"⟩
abbrev cX3_words : ByteArray := prog_1_method_18_code
def yX3_words : MethodName := ⟨RX3, "words", "(II)Z"⟩
abbrev cX3_secret : ByteArray := prog_1_method_19_code
def yX3_secret : MethodName := ⟨RX3, "secret", "(II)I"⟩
abbrev cX3_isPlace : ByteArray := prog_1_method_20_code
def yX3_isPlace : MethodName := ⟨RX3, "isPlace", "(I)Z"⟩
abbrev cX3_isMadePlace : ByteArray := prog_1_method_21_code
def yX3_isMadePlace : MethodName := ⟨RX3, "isMadePlace", "(I)Z"⟩
abbrev cX3_isStateCount : ByteArray := prog_1_method_22_code
def yX3_isStateCount : MethodName := ⟨RX3, "isStateCount", "(I)Z"⟩
abbrev cX3_isLaw : ByteArray := prog_1_method_23_code
def yX3_isLaw : MethodName := ⟨RX3, "isLaw", "(I)Z"⟩
abbrev cX3_isSet : ByteArray := prog_1_method_24_code
def yX3_isSet : MethodName := ⟨RX3, "isSet", "(I)Z"⟩
abbrev cX3_isGivens : ByteArray := prog_1_method_25_code
def yX3_isGivens : MethodName := ⟨RX3, "isGivens", "(I)Z"⟩
abbrev cX3_settingOf : ByteArray := prog_1_method_26_code
def yX3_settingOf : MethodName := ⟨RX3, "settingOf", "(III)I"⟩
abbrev cX3_addLawSum : ByteArray := prog_1_method_27_code
def yX3_addLawSum : MethodName := ⟨RX3, "addLawSum", "(LTellingBench$World;[II)V"⟩
abbrev cX3_addDoubt : ByteArray := prog_1_method_28_code
def yX3_addDoubt : MethodName := ⟨RX3, "addDoubt", "(LTellingBench$World;II)V"⟩
abbrev cX3_firstBreakingRow : ByteArray := prog_1_method_29_code
def yX3_firstBreakingRow : MethodName := ⟨RX3, "firstBreakingRow", "([II)I"⟩
abbrev cX3_keepsGivens : ByteArray := prog_1_method_30_code
def yX3_keepsGivens : MethodName := ⟨RX3, "keepsGivens", "(II)Z"⟩
abbrev cX3_sumByRow : ByteArray := prog_1_method_31_code
def yX3_sumByRow : MethodName := ⟨RX3, "sumByRow", "(I[II)I"⟩
abbrev cX3_splitIntoParts : ByteArray := prog_1_method_32_code
def yX3_splitIntoParts : MethodName := ⟨RX3, "splitIntoParts", "([I)V"⟩
abbrev cX3_leavesOneRow : ByteArray := prog_1_method_33_code
def yX3_leavesOneRow : MethodName := ⟨RX3, "leavesOneRow", "(II)Z"⟩
abbrev cX3_tryWithout : ByteArray := prog_1_method_34_code
def yX3_tryWithout : MethodName := ⟨RX3, "tryWithout", "(II)Z"⟩
abbrev cX3_noneIsBelowNought : ByteArray := prog_1_method_35_code
def yX3_noneIsBelowNought : MethodName := ⟨RX3, "noneIsBelowNought", "([I)Z"⟩
abbrev cX3_keepAboveNought : ByteArray := prog_1_method_36_code
def yX3_keepAboveNought : MethodName := ⟨RX3, "keepAboveNought", "()I"⟩
abbrev cX3_leastMean : ByteArray := prog_1_method_37_code
def yX3_leastMean : MethodName := ⟨RX3, "leastMean", "(I)I"⟩
abbrev cX3_moveLeastToEnd : ByteArray := prog_1_method_38_code
def yX3_moveLeastToEnd : MethodName := ⟨RX3, "moveLeastToEnd", "(I)V"⟩
def RX4 : String := "TellingBenchModel"
def TX4 : u_T := fun k => match k with
  | 0 => ("TellingBenchModel", "states", "[I", true)
  | 1 => ("TellingBenchModel", "weight", "[I", true)
  | 2 => ("TellingBenchModel", "sum", "[I", true)
  | 3 => ("TellingBenchModel", "number", "[I", true)
  | 4 => ("TellingBenchModel", "primes", "[I", true)
  | 5 => ("TellingBenchModel", "power", "[I", true)
  | 6 => ("TellingBenchModel", "share", "[I", true)
  | 7 => ("TellingBenchModel", "upper", "[I", true)
  | 8 => ("TellingBenchModel", "lower", "[I", true)
  | 9 => ("TellingBenchModel", "limbs", "I", false)
  | 10 => ("TellingBenchModel", "rows", "[J", true)
  | 11 => ("TellingBenchModel", "shareOver", "[J", true)
  | 12 => ("TellingBenchModel", "shareUnder", "[J", true)
  | 13 => ("TellingBenchModel", "told", "[J", true)
  | _ => ("TellingBenchModel", "isTold", "Z", false)
def tyX4 : Nat → FieldType := fun k => match k with
  | 0 => .array .int
  | 1 => .array .int
  | 2 => .array .int
  | 3 => .array .int
  | 4 => .array .int
  | 5 => .array .int
  | 6 => .array .int
  | 7 => .array .int
  | 8 => .array .int
  | 9 => .int
  | 10 => .array .long
  | 11 => .array .long
  | 12 => .array .long
  | 13 => .array .long
  | _ => .boolean
abbrev wsX40 : List Cond := u_ws RX4 TX4 15
theorem nmX4 : ∀ a, a < 15 → ∀ b, b < 15 → a ≠ b → (TX4 a).2.1 ≠ (TX4 b).2.1 := by decide +kernel
theorem tyX4_ok : ∀ k, k < 15 → parseFieldDescriptor (TX4 k).2.2.1 = some (tyX4 k) := by decide +kernel
abbrev cX4_init : ByteArray := prog_6_method_1_code
def yX4_init : MethodName := ⟨RX4, "<init>", "()V"⟩
abbrev cX4_isIn : ByteArray := prog_6_method_2_code
def yX4_isIn : MethodName := ⟨RX4, "isIn", "(III)Z"⟩
abbrev cX4_isPlace : ByteArray := prog_6_method_3_code
def yX4_isPlace : MethodName := ⟨RX4, "isPlace", "(I)Z"⟩
abbrev cX4_isMade : ByteArray := prog_6_method_4_code
def yX4_isMade : MethodName := ⟨RX4, "isMade", "(I)Z"⟩
abbrev cX4_isLaw : ByteArray := prog_6_method_5_code
def yX4_isLaw : MethodName := ⟨RX4, "isLaw", "(I)Z"⟩
abbrev cX4_world : ByteArray := prog_6_method_6_code
def yX4_world : MethodName := ⟨RX4, "world", "(IIII)Z"⟩
abbrev cX4_isSetting : ByteArray := prog_6_method_7_code
def yX4_isSetting : MethodName := ⟨RX4, "isSetting", "(IIII)Z"⟩
abbrev cX4_weight : ByteArray := prog_6_method_8_code
def yX4_weight : MethodName := ⟨RX4, "weight", "(IIIII)Z"⟩
abbrev cX4_told : ByteArray := prog_6_method_9_code
def yX4_told : MethodName := ⟨RX4, "told", "(II)I"⟩
abbrev cX4_mix : ByteArray := prog_6_method_10_code
def yX4_mix : MethodName := ⟨RX4, "mix", "(III)Z"⟩
abbrev cX4_tell : ByteArray := prog_6_method_11_code
def yX4_tell : MethodName := ⟨RX4, "tell", "(II)Z"⟩
abbrev cX4_law : ByteArray := prog_6_method_12_code
def yX4_law : MethodName := ⟨RX4, "law", "(III)Z"⟩
abbrev cX4_bit : ByteArray := prog_6_method_13_code
def yX4_bit : MethodName := ⟨RX4, "bit", "(II)I"⟩
abbrev cX4_plainOf : ByteArray := prog_6_method_14_code
def yX4_plainOf : MethodName := ⟨RX4, "plainOf", "(II)I"⟩
abbrev cX4_plain : ByteArray := prog_6_method_15_code
def yX4_plain : MethodName := ⟨RX4, "plain", "(II)Z"⟩
abbrev cX4_number : ByteArray := prog_6_method_16_code
def yX4_number : MethodName := ⟨RX4, "number", "(II)I"⟩
abbrev cX4_clear : ByteArray := prog_6_method_17_code
def yX4_clear : MethodName := ⟨RX4, "clear", "()V"⟩
abbrev cX4_add : ByteArray := prog_6_method_18_code
def yX4_add : MethodName := ⟨RX4, "add", "(II)V"⟩
abbrev cX4_settings : ByteArray := prog_6_method_19_code
def yX4_settings : MethodName := ⟨RX4, "settings", "(II)V"⟩
abbrev cX4_doubt : ByteArray := prog_6_method_20_code
def yX4_doubt : MethodName := ⟨RX4, "doubt", "(III)V"⟩
abbrev cX4_lawIn : ByteArray := prog_6_method_21_code
def yX4_lawIn : MethodName := ⟨RX4, "lawIn", "(III)V"⟩
abbrev cX4_multiply : ByteArray := prog_6_method_22_code
def yX4_multiply : MethodName := ⟨RX4, "multiply", "([II)V"⟩
abbrev cX4_times : ByteArray := prog_6_method_23_code
def yX4_times : MethodName := ⟨RX4, "times", "([II)V"⟩
abbrev cX4_signOf : ByteArray := prog_6_method_24_code
def yX4_signOf : MethodName := ⟨RX4, "signOf", "()I"⟩
abbrev cX4_sign : ByteArray := prog_6_method_25_code
def yX4_sign : MethodName := ⟨RX4, "sign", "(II)I"⟩
abbrev cX4_compare : ByteArray := prog_6_method_26_code
def yX4_compare : MethodName := ⟨RX4, "compare", "(IIII)I"⟩
abbrev cX4_near : ByteArray := prog_6_method_27_code
def yX4_near : MethodName := ⟨RX4, "near", "(II)I"⟩
abbrev cX4_rowOf : ByteArray := prog_6_method_28_code
def yX4_rowOf : MethodName := ⟨RX4, "rowOf", "(II)I"⟩
abbrev cX4_isGiven : ByteArray := prog_6_method_29_code
def yX4_isGiven : MethodName := ⟨RX4, "isGiven", "(II)Z"⟩
abbrev cX4_always : ByteArray := prog_6_method_30_code
def yX4_always : MethodName := ⟨RX4, "always", "(II)I"⟩
abbrev cX4_breaks : ByteArray := prog_6_method_31_code
def yX4_breaks : MethodName := ⟨RX4, "breaks", "(II)I"⟩
abbrev cX4_common : ByteArray := prog_6_method_32_code
def yX4_common : MethodName := ⟨RX4, "common", "(JJ)J"⟩
abbrev cX4_solve : ByteArray := prog_6_method_33_code
def yX4_solve : MethodName := ⟨RX4, "solve", "(III)Z"⟩
abbrev cX4_takeOff : ByteArray := prog_6_method_34_code
def yX4_takeOff : MethodName := ⟨RX4, "takeOff", "(II)V"⟩
abbrev cX4_prove : ByteArray := prog_6_method_35_code
def yX4_prove : MethodName := ⟨RX4, "prove", "(I)Z"⟩
abbrev cX4_share : ByteArray := prog_6_method_36_code
def yX4_share : MethodName := ⟨RX4, "share", "(II)I"⟩
abbrev cX4_mean : ByteArray := prog_6_method_37_code
def yX4_mean : MethodName := ⟨RX4, "mean", "(II)I"⟩
abbrev cX4_leastOf : ByteArray := prog_6_method_38_code
def yX4_leastOf : MethodName := ⟨RX4, "leastOf", "()I"⟩
abbrev cX4_secondOf : ByteArray := prog_6_method_39_code
def yX4_secondOf : MethodName := ⟨RX4, "secondOf", "(I)I"⟩
abbrev cX4_words : ByteArray := prog_6_method_40_code
def yX4_words : MethodName := ⟨RX4, "words", "(II)Z"⟩
abbrev cX4_secret : ByteArray := prog_6_method_41_code
def yX4_secret : MethodName := ⟨RX4, "secret", "(II)I"⟩
def RJ9 : String := "java/lang/Math"
def TJ9 : u_T := fun k => match k with
  | _ => ("", "", "", false)
def tyJ9 : Nat → FieldType := fun k => match k with
  | _ => .int
abbrev wsJ90 : List Cond := u_ws RJ9 TJ9 0
theorem nmJ9 : ∀ a, a < 0 → ∀ b, b < 0 → a ≠ b → (TJ9 a).2.1 ≠ (TJ9 b).2.1 := by decide +kernel
theorem tyJ9_ok : ∀ k, k < 0 → parseFieldDescriptor (TJ9 k).2.2.1 = some (tyJ9 k) := by decide +kernel
abbrev cJ9_abs_0f7a4 : ByteArray := prog_7_method_59_code
def yJ9_abs_0f7a4 : MethodName := ⟨RJ9, "abs", "(I)I"⟩
abbrev cJ9_abs_067f4 : ByteArray := prog_7_method_61_code
def yJ9_abs_067f4 : MethodName := ⟨RJ9, "abs", "(J)J"⟩
def RJ10 : String := "java/lang/System"
def TJ10 : u_T := fun k => match k with
  | _ => ("", "", "", false)
def tyJ10 : Nat → FieldType := fun k => match k with
  | _ => .int
abbrev wsJ100 : List Cond := u_ws RJ10 TJ10 0
theorem nmJ10 : ∀ a, a < 0 → ∀ b, b < 0 → a ≠ b → (TJ10 a).2.1 ≠ (TJ10 b).2.1 := by decide +kernel
theorem tyJ10_ok : ∀ k, k < 0 → parseFieldDescriptor (TJ10 k).2.2.1 = some (tyJ10 k) := by decide +kernel
def RJ7 : String := "java/util/Arrays"
def TJ7 : u_T := fun k => match k with
  | _ => ("", "", "", false)
def tyJ7 : Nat → FieldType := fun k => match k with
  | _ => .int
abbrev wsJ70 : List Cond := u_ws RJ7 TJ7 0
theorem nmJ7 : ∀ a, a < 0 → ∀ b, b < 0 → a ≠ b → (TJ7 a).2.1 ≠ (TJ7 b).2.1 := by decide +kernel
theorem tyJ7_ok : ∀ k, k < 0 → parseFieldDescriptor (TJ7 k).2.2.1 = some (tyJ7 k) := by decide +kernel
abbrev cJ7_fill_53178 : ByteArray := prog_9_method_103_code
def yJ7_fill_53178 : MethodName := ⟨RJ7, "fill", "([II)V"⟩
def RL : String := "TellingBenchLaw"
abbrev cL_law : ByteArray := code
def yL_law : MethodName := ⟨RL, "law", "([I)Z"⟩
def wsX1_init : List Cond := .code yX1_init cX1_init 1 none :: ([.methodLink RX1 1 objectInit, .instanceMethod objectInit, .code objectInit ⟨#[0xb1]⟩ 1 none, .arrayClass .long, .fieldLink RX1 9 "TellingBench$Whole" "digits" "[J", .fieldLink RX1 13 "TellingBench$Whole" "length" "I"] ++ wsX10)
def wsX0_init : List Cond := .code yX0_init cX0_init 1 none :: ([.methodLink RX0 3 objectInit, .instanceMethod objectInit, .code objectInit ⟨#[0xb1]⟩ 1 none, .arrayClass .int, .fieldLink RX0 13 "TellingBench$LogSum" "times" "[I", .classLink RX0 18 RX1, .instantiable RX1 2, .initialized RX1, .fieldLink RX0 21 "TellingBench$LogSum" "upper" "LTellingBench$Whole;", .fieldLink RX0 25 "TellingBench$LogSum" "lower" "LTellingBench$Whole;", .instanceMethod yX1_init, .code yX1_init cX1_init 1 none, .methodLink RX1 1 objectInit, .arrayClass .long, .fieldLink RX1 9 "TellingBench$Whole" "digits" "[J", .fieldLink RX1 13 "TellingBench$Whole" "length" "I"] ++ wsX00 ++ wsX10)
def wsJ7_fill_53178 : List Cond := .code yJ7_fill_53178 cJ7_fill_53178 4 none :: ([])
def wsX0_clear : List Cond := .code yX0_clear cX0_clear 1 none :: ([.fieldLink RX0 13 "TellingBench$LogSum" "times" "[I", .methodLink RX0 28 yJ7_fill_53178, .static yJ7_fill_53178, .initialized RJ7, .code yJ7_fill_53178 cJ7_fill_53178 4 none] ++ wsX00)
def wsX0_addLog : List Cond := .code yX0_addLog cX0_addLog 4 none :: ([.fieldLink RX0 13 "TellingBench$LogSum" "times" "[I"] ++ wsX00)
def wsX0_isNought : List Cond := .code yX0_isNought cX0_isNought 2 (some .boolean) :: ([.fieldLink RX0 13 "TellingBench$LogSum" "times" "[I"] ++ wsX00)
def wsX1_becomeOne : List Cond := .code yX1_becomeOne cX1_becomeOne 1 none :: ([.fieldLink RX1 9 "TellingBench$Whole" "digits" "[J", .fieldLink RX1 13 "TellingBench$Whole" "length" "I"] ++ wsX10)
def wsX1_multiplyBy : List Cond := .code yX1_multiplyBy cX1_multiplyBy 8 none :: ([.fieldLink RX1 13 "TellingBench$Whole" "length" "I", .fieldLink RX1 9 "TellingBench$Whole" "digits" "[J", .constantLong RX1 23 (4294967295)] ++ wsX10)
def wsX1_multiplyByPower : List Cond := .code yX1_multiplyByPower cX1_multiplyByPower 6 none :: ([.constantLong RX1 17 (67108864), .methodLink RX1 19 yX1_multiplyBy, .instanceMethod yX1_multiplyBy, .selects RX1 yX1_multiplyBy yX1_multiplyBy, .initialized RX1, .code yX1_multiplyBy cX1_multiplyBy 8 none, .fieldLink RX1 13 "TellingBench$Whole" "length" "I", .fieldLink RX1 9 "TellingBench$Whole" "digits" "[J", .constantLong RX1 23 (4294967295)] ++ wsX10)
def wsX1_against : List Cond := .code yX1_against cX1_against 3 (some .int) :: ([.fieldLink RX1 13 "TellingBench$Whole" "length" "I", .fieldLink RX1 9 "TellingBench$Whole" "digits" "[J"] ++ wsX10)
def wsX0_signOfProducts : List Cond := .code yX0_signOfProducts cX0_signOfProducts 2 (some .int) :: ([.fieldLink RX0 21 "TellingBench$LogSum" "upper" "LTellingBench$Whole;", .fieldLink RX0 25 "TellingBench$LogSum" "lower" "LTellingBench$Whole;", .fieldLink RX0 13 "TellingBench$LogSum" "times" "[I", .instanceMethod yX1_becomeOne, .initialized RX1, .selects RX1 yX1_becomeOne yX1_becomeOne, .code yX1_becomeOne cX1_becomeOne 1 none, .fieldLink RX1 9 "TellingBench$Whole" "digits" "[J", .fieldLink RX1 13 "TellingBench$Whole" "length" "I", .instanceMethod yX1_multiplyByPower, .selects RX1 yX1_multiplyByPower yX1_multiplyByPower, .code yX1_multiplyByPower cX1_multiplyByPower 6 none, .constantLong RX1 17 (67108864), .methodLink RX1 19 yX1_multiplyBy, .instanceMethod yX1_multiplyBy, .selects RX1 yX1_multiplyBy yX1_multiplyBy, .code yX1_multiplyBy cX1_multiplyBy 8 none, .constantLong RX1 23 (4294967295), .instanceMethod yX1_against, .selects RX1 yX1_against yX1_against, .code yX1_against cX1_against 3 (some .int)] ++ wsX00 ++ wsX10)
def wsX0_signOfSum_r1 : List Cond := [Cond.fieldLink RX0 13 "TellingBench$LogSum" "times" "[I", Cond.methodLink RX0 41 Lib.Math.abs.name, Cond.static Lib.Math.abs.name, Cond.initialized "java/lang/Math", Cond.code Lib.Math.abs.name Lib.Math.abs.code 1 (some .int), Cond.methodLink RX0 47 yX0_isNought, Cond.instanceMethod yX0_isNought, Cond.selects RX0 yX0_isNought yX0_isNought, Cond.initialized RX0, Cond.code yX0_isNought cX0_isNought 2 (some .boolean), Cond.methodLink RX0 51 yX0_signOfProducts, Cond.instanceMethod yX0_signOfProducts, Cond.selects RX0 yX0_signOfProducts yX0_signOfProducts, Cond.code yX0_signOfProducts cX0_signOfProducts 2 (some .int), Cond.fieldLink RX0 21 "TellingBench$LogSum" "upper" "LTellingBench$Whole;", Cond.fieldLink RX0 25 "TellingBench$LogSum" "lower" "LTellingBench$Whole;", Cond.instanceMethod yX1_becomeOne, Cond.initialized RX1, Cond.selects RX1 yX1_becomeOne yX1_becomeOne, Cond.code yX1_becomeOne cX1_becomeOne 1 none, Cond.fieldLink RX1 9 "TellingBench$Whole" "digits" "[J", Cond.fieldLink RX1 13 "TellingBench$Whole" "length" "I", Cond.instanceMethod yX1_multiplyByPower, Cond.selects RX1 yX1_multiplyByPower yX1_multiplyByPower]
def wsX0_signOfSum_r2 : List Cond := [Cond.code yX1_multiplyByPower cX1_multiplyByPower 6 none, Cond.constantLong RX1 17 (67108864), Cond.methodLink RX1 19 yX1_multiplyBy, Cond.instanceMethod yX1_multiplyBy, Cond.selects RX1 yX1_multiplyBy yX1_multiplyBy, Cond.code yX1_multiplyBy cX1_multiplyBy 8 none, Cond.constantLong RX1 23 (4294967295), Cond.instanceMethod yX1_against, Cond.selects RX1 yX1_against yX1_against, Cond.code yX1_against cX1_against 3 (some .int)]
def wsX0_signOfSum : List Cond := .code yX0_signOfSum cX0_signOfSum 6 (some .int) :: ((wsX0_signOfSum_r1 ++ wsX0_signOfSum_r2) ++ wsX00 ++ wsX10)
def wsX2_init : List Cond := .code yX2_init cX2_init 1 none :: ([.methodLink RX2 3 objectInit, .instanceMethod objectInit, .code objectInit ⟨#[0xb1]⟩ 1 none, .arrayClass .int, .fieldLink RX2 9 "TellingBench$World" "states" "[I", .fieldLink RX2 15 "TellingBench$World" "weights" "[I", .fieldLink RX2 18 "TellingBench$World" "total" "I"] ++ wsX20)
def wsX2_isMade : List Cond := .code yX2_isMade cX2_isMade 1 (some .boolean) :: ([.fieldLink RX2 18 "TellingBench$World" "total" "I"] ++ wsX20)
def wsX2_begin : List Cond := .code yX2_begin cX2_begin 4 none :: ([.fieldLink RX2 9 "TellingBench$World" "states" "[I", .fieldLink RX2 15 "TellingBench$World" "weights" "[I", .fieldLink RX2 18 "TellingBench$World" "total" "I", .methodLink RX2 22 yJ7_fill_53178, .static yJ7_fill_53178, .initialized RJ7, .code yJ7_fill_53178 cJ7_fill_53178 4 none] ++ wsX20)
def wsX2_hasSetting : List Cond := .code yX2_hasSetting cX2_hasSetting 4 (some .boolean) :: ([.fieldLink RX2 9 "TellingBench$World" "states" "[I"] ++ wsX20)
def wsX2_weightOf : List Cond := .code yX2_weightOf cX2_weightOf 2 (some .int) :: ([.fieldLink RX2 15 "TellingBench$World" "weights" "[I", .methodLink RX2 28 yX2_hasSetting, .instanceMethod yX2_hasSetting, .selects RX2 yX2_hasSetting yX2_hasSetting, .initialized RX2, .code yX2_hasSetting cX2_hasSetting 4 (some .boolean), .fieldLink RX2 9 "TellingBench$World" "states" "[I"] ++ wsX20)
def wsX2_hasStatesOf : List Cond := .code yX2_hasStatesOf cX2_hasStatesOf 2 (some .boolean) :: ([.fieldLink RX2 9 "TellingBench$World" "states" "[I"] ++ wsX20)
def wsX2_put : List Cond := .code yX2_put cX2_put 4 (some .boolean) :: ([.fieldLink RX2 18 "TellingBench$World" "total" "I", .fieldLink RX2 15 "TellingBench$World" "weights" "[I"] ++ wsX20)
def wsX2_becomeMixOf : List Cond := .code yX2_becomeMixOf cX2_becomeMixOf 5 none :: ([.fieldLink RX2 18 "TellingBench$World" "total" "I", .fieldLink RX2 9 "TellingBench$World" "states" "[I", .fieldLink RX2 15 "TellingBench$World" "weights" "[I"] ++ wsX20)
def wsX3_settingOf : List Cond := .code yX3_settingOf cX3_settingOf 3 (some .int) :: ([])
def wsX2_gather : List Cond := .code yX2_gather cX2_gather 7 none :: ([.fieldLink RX2 15 "TellingBench$World" "weights" "[I", .methodLink RX2 22 yJ7_fill_53178, .static yJ7_fill_53178, .initialized RJ7, .code yJ7_fill_53178 cJ7_fill_53178 4 none, .static yX3_settingOf, .initialized RX3, .code yX3_settingOf cX3_settingOf 3 (some .int)] ++ wsX20)
def wsX2_spreadByRule : List Cond := .code yX2_spreadByRule cX2_spreadByRule 5 none :: ([.fieldLink RX2 15 "TellingBench$World" "weights" "[I", .fieldLink RX2 9 "TellingBench$World" "states" "[I", .methodLink RX2 22 yJ7_fill_53178, .static yJ7_fill_53178, .initialized RJ7, .code yJ7_fill_53178 cJ7_fill_53178 4 none] ++ wsX20)
def wsX3_init_r1 : List Cond := [Cond.methodLink RX3 3 objectInit, Cond.instanceMethod objectInit, Cond.code objectInit ⟨#[0xb1]⟩ 1 none, Cond.classLink RX3 9 RX2, Cond.fieldLink RX3 11 "TellingBench" "worlds" "[LTellingBench$World;", Cond.classLink RX3 15 "[[I", Cond.arrayClass .int, Cond.fieldLink RX3 17 "TellingBench" "laws" "[[I", Cond.classLink RX3 20 RX0, Cond.instantiable RX0 3, Cond.initialized RX0, Cond.fieldLink RX3 23 "TellingBench" "logSum" "LTellingBench$LogSum;", Cond.fieldLink RX3 27 "TellingBench" "sums" "[I", Cond.fieldLink RX3 31 "TellingBench" "parts" "[I", Cond.fieldLink RX3 34 "TellingBench" "trial" "[I", Cond.fieldLink RX3 37 "TellingBench" "shares" "[I", Cond.fieldLink RX3 40 "TellingBench" "proved" "Z", Cond.instantiable RX2 3, Cond.initialized RX2, Cond.instanceMethod yX0_init, Cond.code yX0_init cX0_init 1 none, Cond.methodLink RX0 3 objectInit, Cond.fieldLink RX0 13 "TellingBench$LogSum" "times" "[I", Cond.classLink RX0 18 RX1]
def wsX3_init_r2 : List Cond := [Cond.instantiable RX1 2, Cond.initialized RX1, Cond.fieldLink RX0 21 "TellingBench$LogSum" "upper" "LTellingBench$Whole;", Cond.fieldLink RX0 25 "TellingBench$LogSum" "lower" "LTellingBench$Whole;", Cond.instanceMethod yX1_init, Cond.code yX1_init cX1_init 1 none, Cond.methodLink RX1 1 objectInit, Cond.arrayClass .long, Cond.fieldLink RX1 9 "TellingBench$Whole" "digits" "[J", Cond.fieldLink RX1 13 "TellingBench$Whole" "length" "I", Cond.instanceMethod yX2_init, Cond.code yX2_init cX2_init 1 none, Cond.methodLink RX2 3 objectInit, Cond.fieldLink RX2 9 "TellingBench$World" "states" "[I", Cond.fieldLink RX2 15 "TellingBench$World" "weights" "[I", Cond.fieldLink RX2 18 "TellingBench$World" "total" "I"]
def wsX3_init : List Cond := .code yX3_init cX3_init 2 none :: ((wsX3_init_r1 ++ wsX3_init_r2) ++ wsX30 ++ wsX00 ++ wsX20 ++ wsX10)
def wsX3_isPlace : List Cond := .code yX3_isPlace cX3_isPlace 1 (some .boolean) :: ([])
def wsX3_isStateCount : List Cond := .code yX3_isStateCount cX3_isStateCount 1 (some .boolean) :: ([])
def wsX3_world : List Cond := .code yX3_world cX3_world 5 (some .boolean) :: ([.fieldLink RX3 11 "TellingBench" "worlds" "[LTellingBench$World;", .methodLink RX3 45 yX3_isPlace, .static yX3_isPlace, .initialized RX3, .code yX3_isPlace cX3_isPlace 1 (some .boolean), .methodLink RX3 49 yX3_isStateCount, .static yX3_isStateCount, .code yX3_isStateCount cX3_isStateCount 1 (some .boolean), .instanceMethod yX2_begin, .initialized RX2, .selects RX2 yX2_begin yX2_begin, .code yX2_begin cX2_begin 4 none, .fieldLink RX2 9 "TellingBench$World" "states" "[I", .fieldLink RX2 15 "TellingBench$World" "weights" "[I", .fieldLink RX2 18 "TellingBench$World" "total" "I", .methodLink RX2 22 yJ7_fill_53178, .static yJ7_fill_53178, .initialized RJ7, .code yJ7_fill_53178 cJ7_fill_53178 4 none] ++ wsX30 ++ wsX20)
def wsX3_weight : List Cond := .code yX3_weight cX3_weight 6 (some .boolean) :: ([.fieldLink RX3 11 "TellingBench" "worlds" "[LTellingBench$World;", .methodLink RX3 45 yX3_isPlace, .static yX3_isPlace, .initialized RX3, .code yX3_isPlace cX3_isPlace 1 (some .boolean), .instanceMethod yX2_hasSetting, .initialized RX2, .selects RX2 yX2_hasSetting yX2_hasSetting, .code yX2_hasSetting cX2_hasSetting 4 (some .boolean), .fieldLink RX2 9 "TellingBench$World" "states" "[I", .methodLink RX3 60 yX3_settingOf, .static yX3_settingOf, .code yX3_settingOf cX3_settingOf 3 (some .int), .instanceMethod yX2_put, .selects RX2 yX2_put yX2_put, .code yX2_put cX2_put 4 (some .boolean), .fieldLink RX2 18 "TellingBench$World" "total" "I", .fieldLink RX2 15 "TellingBench$World" "weights" "[I"] ++ wsX30 ++ wsX20)
def wsX3_told : List Cond := .code yX3_told cX3_told 4 (some .int) :: ([.fieldLink RX3 11 "TellingBench" "worlds" "[LTellingBench$World;", .methodLink RX3 45 yX3_isPlace, .static yX3_isPlace, .initialized RX3, .code yX3_isPlace cX3_isPlace 1 (some .boolean), .instanceMethod yX2_isMade, .initialized RX2, .selects RX2 yX2_isMade yX2_isMade, .code yX2_isMade cX2_isMade 1 (some .boolean), .fieldLink RX2 18 "TellingBench$World" "total" "I", .instanceMethod yX2_weightOf, .selects RX2 yX2_weightOf yX2_weightOf, .code yX2_weightOf cX2_weightOf 2 (some .int), .fieldLink RX2 15 "TellingBench$World" "weights" "[I", .methodLink RX2 28 yX2_hasSetting, .instanceMethod yX2_hasSetting, .selects RX2 yX2_hasSetting yX2_hasSetting, .code yX2_hasSetting cX2_hasSetting 4 (some .boolean), .fieldLink RX2 9 "TellingBench$World" "states" "[I"] ++ wsX30 ++ wsX20)
def wsX3_isMadePlace : List Cond := .code yX3_isMadePlace cX3_isMadePlace 2 (some .boolean) :: ([.fieldLink RX3 11 "TellingBench" "worlds" "[LTellingBench$World;", .methodLink RX3 45 yX3_isPlace, .static yX3_isPlace, .initialized RX3, .code yX3_isPlace cX3_isPlace 1 (some .boolean), .instanceMethod yX2_isMade, .initialized RX2, .selects RX2 yX2_isMade yX2_isMade, .code yX2_isMade cX2_isMade 1 (some .boolean), .fieldLink RX2 18 "TellingBench$World" "total" "I"] ++ wsX30 ++ wsX20)
def wsX3_mix : List Cond := .code yX3_mix cX3_mix 6 (some .boolean) :: ([.fieldLink RX3 11 "TellingBench" "worlds" "[LTellingBench$World;", .methodLink RX3 83 yX3_isMadePlace, .instanceMethod yX3_isMadePlace, .selects RX3 yX3_isMadePlace yX3_isMadePlace, .initialized RX3, .code yX3_isMadePlace cX3_isMadePlace 2 (some .boolean), .methodLink RX3 45 yX3_isPlace, .static yX3_isPlace, .code yX3_isPlace cX3_isPlace 1 (some .boolean), .instanceMethod yX2_isMade, .initialized RX2, .selects RX2 yX2_isMade yX2_isMade, .code yX2_isMade cX2_isMade 1 (some .boolean), .fieldLink RX2 18 "TellingBench$World" "total" "I", .instanceMethod yX2_hasStatesOf, .selects RX2 yX2_hasStatesOf yX2_hasStatesOf, .code yX2_hasStatesOf cX2_hasStatesOf 2 (some .boolean), .fieldLink RX2 9 "TellingBench$World" "states" "[I", .instanceMethod yX2_becomeMixOf, .selects RX2 yX2_becomeMixOf yX2_becomeMixOf, .code yX2_becomeMixOf cX2_becomeMixOf 5 none, .fieldLink RX2 15 "TellingBench$World" "weights" "[I"] ++ wsX30 ++ wsX20)
def wsX3_tell_r1 : List Cond := [Cond.fieldLink RX3 11 "TellingBench" "worlds" "[LTellingBench$World;", Cond.fieldLink RX3 94 "TellingBench" "PAIRS" "[I", Cond.fieldLink RX3 27 "TellingBench" "sums" "[I", Cond.methodLink RX3 83 yX3_isMadePlace, Cond.instanceMethod yX3_isMadePlace, Cond.selects RX3 yX3_isMadePlace yX3_isMadePlace, Cond.initialized RX3, Cond.code yX3_isMadePlace cX3_isMadePlace 2 (some .boolean), Cond.methodLink RX3 45 yX3_isPlace, Cond.static yX3_isPlace, Cond.code yX3_isPlace cX3_isPlace 1 (some .boolean), Cond.instanceMethod yX2_isMade, Cond.initialized RX2, Cond.selects RX2 yX2_isMade yX2_isMade, Cond.code yX2_isMade cX2_isMade 1 (some .boolean), Cond.fieldLink RX2 18 "TellingBench$World" "total" "I", Cond.instanceMethod yX2_gather, Cond.selects RX2 yX2_gather yX2_gather, Cond.code yX2_gather cX2_gather 7 none, Cond.fieldLink RX2 15 "TellingBench$World" "weights" "[I", Cond.methodLink RX2 22 yJ7_fill_53178, Cond.static yJ7_fill_53178, Cond.initialized RJ7, Cond.code yJ7_fill_53178 cJ7_fill_53178 4 none]
def wsX3_tell_r2 : List Cond := [Cond.static yX3_settingOf, Cond.code yX3_settingOf cX3_settingOf 3 (some .int), Cond.instanceMethod yX2_spreadByRule, Cond.selects RX2 yX2_spreadByRule yX2_spreadByRule, Cond.code yX2_spreadByRule cX2_spreadByRule 5 none, Cond.fieldLink RX2 9 "TellingBench$World" "states" "[I"]
def wsX3_tell : List Cond := .code yX3_tell cX3_tell 3 (some .boolean) :: ((wsX3_tell_r1 ++ wsX3_tell_r2) ++ wsX30 ++ wsX20)
def wsX3_isLaw : List Cond := .code yX3_isLaw cX3_isLaw 1 (some .boolean) :: ([])
def wsX3_isSet : List Cond := .code yX3_isSet cX3_isSet 1 (some .boolean) :: ([])
def wsX3_law : List Cond := .code yX3_law cX3_law 4 (some .boolean) :: ([.fieldLink RX3 17 "TellingBench" "laws" "[[I", .methodLink RX3 105 yX3_isLaw, .static yX3_isLaw, .initialized RX3, .code yX3_isLaw cX3_isLaw 1 (some .boolean), .methodLink RX3 108 yX3_isSet, .static yX3_isSet, .code yX3_isSet cX3_isSet 1 (some .boolean)] ++ wsX30)
def wsX3_plain : List Cond := .code yX3_plain cX3_plain 3 (some .boolean) :: ([.fieldLink RX3 111 "TellingBench" "PLAIN_NUMBERS" "[I", .fieldLink RX3 17 "TellingBench" "laws" "[[I", .methodLink RX3 114 arraycopyName, .native arraycopyName, .static arraycopyName, .initialized "java/lang/System", .methodLink RX3 105 yX3_isLaw, .static yX3_isLaw, .initialized RX3, .code yX3_isLaw cX3_isLaw 1 (some .boolean)] ++ wsX30)
def wsX3_number : List Cond := .code yX3_number cX3_number 3 (some .int) :: ([.fieldLink RX3 17 "TellingBench" "laws" "[[I", .methodLink RX3 105 yX3_isLaw, .static yX3_isLaw, .initialized RX3, .code yX3_isLaw cX3_isLaw 1 (some .boolean), .methodLink RX3 108 yX3_isSet, .static yX3_isSet, .code yX3_isSet cX3_isSet 1 (some .boolean)] ++ wsX30)
def wsX3_addDoubt : List Cond := .code yX3_addDoubt cX3_addDoubt 5 none :: ([.fieldLink RX3 27 "TellingBench" "sums" "[I", .fieldLink RX3 23 "TellingBench" "logSum" "LTellingBench$LogSum;", .instanceMethod yX2_gather, .initialized RX2, .selects RX2 yX2_gather yX2_gather, .code yX2_gather cX2_gather 7 none, .fieldLink RX2 15 "TellingBench$World" "weights" "[I", .methodLink RX2 22 yJ7_fill_53178, .static yJ7_fill_53178, .initialized RJ7, .code yJ7_fill_53178 cJ7_fill_53178 4 none, .static yX3_settingOf, .initialized RX3, .code yX3_settingOf cX3_settingOf 3 (some .int), .instanceMethod yX0_addLog, .initialized RX0, .selects RX0 yX0_addLog yX0_addLog, .code yX0_addLog cX0_addLog 4 none, .fieldLink RX0 13 "TellingBench$LogSum" "times" "[I"] ++ wsX30 ++ wsX20 ++ wsX00)
def wsX3_addLawSum : List Cond := .code yX3_addLawSum cX3_addLawSum 5 none :: ([.methodLink RX3 158 yX3_addDoubt, .instanceMethod yX3_addDoubt, .selects RX3 yX3_addDoubt yX3_addDoubt, .initialized RX3, .code yX3_addDoubt cX3_addDoubt 5 none, .fieldLink RX3 27 "TellingBench" "sums" "[I", .fieldLink RX3 23 "TellingBench" "logSum" "LTellingBench$LogSum;", .instanceMethod yX2_gather, .initialized RX2, .selects RX2 yX2_gather yX2_gather, .code yX2_gather cX2_gather 7 none, .fieldLink RX2 15 "TellingBench$World" "weights" "[I", .methodLink RX2 22 yJ7_fill_53178, .static yJ7_fill_53178, .initialized RJ7, .code yJ7_fill_53178 cJ7_fill_53178 4 none, .static yX3_settingOf, .code yX3_settingOf cX3_settingOf 3 (some .int), .instanceMethod yX0_addLog, .initialized RX0, .selects RX0 yX0_addLog yX0_addLog, .code yX0_addLog cX0_addLog 4 none, .fieldLink RX0 13 "TellingBench$LogSum" "times" "[I"] ++ wsX30 ++ wsX20 ++ wsX00)
def wsX3_sign_r1 : List Cond := [Cond.fieldLink RX3 23 "TellingBench" "logSum" "LTellingBench$LogSum;", Cond.fieldLink RX3 11 "TellingBench" "worlds" "[LTellingBench$World;", Cond.fieldLink RX3 17 "TellingBench" "laws" "[[I", Cond.methodLink RX3 83 yX3_isMadePlace, Cond.instanceMethod yX3_isMadePlace, Cond.selects RX3 yX3_isMadePlace yX3_isMadePlace, Cond.initialized RX3, Cond.code yX3_isMadePlace cX3_isMadePlace 2 (some .boolean), Cond.methodLink RX3 45 yX3_isPlace, Cond.static yX3_isPlace, Cond.code yX3_isPlace cX3_isPlace 1 (some .boolean), Cond.instanceMethod yX2_isMade, Cond.initialized RX2, Cond.selects RX2 yX2_isMade yX2_isMade, Cond.code yX2_isMade cX2_isMade 1 (some .boolean), Cond.fieldLink RX2 18 "TellingBench$World" "total" "I", Cond.methodLink RX3 105 yX3_isLaw, Cond.static yX3_isLaw, Cond.code yX3_isLaw cX3_isLaw 1 (some .boolean), Cond.instanceMethod yX0_clear, Cond.initialized RX0, Cond.selects RX0 yX0_clear yX0_clear, Cond.code yX0_clear cX0_clear 1 none, Cond.fieldLink RX0 13 "TellingBench$LogSum" "times" "[I"]
def wsX3_sign_r2 : List Cond := [Cond.methodLink RX0 28 yJ7_fill_53178, Cond.static yJ7_fill_53178, Cond.initialized RJ7, Cond.code yJ7_fill_53178 cJ7_fill_53178 4 none, Cond.methodLink RX3 123 yX3_addLawSum, Cond.instanceMethod yX3_addLawSum, Cond.selects RX3 yX3_addLawSum yX3_addLawSum, Cond.code yX3_addLawSum cX3_addLawSum 5 none, Cond.methodLink RX3 158 yX3_addDoubt, Cond.instanceMethod yX3_addDoubt, Cond.selects RX3 yX3_addDoubt yX3_addDoubt, Cond.code yX3_addDoubt cX3_addDoubt 5 none, Cond.fieldLink RX3 27 "TellingBench" "sums" "[I", Cond.instanceMethod yX2_gather, Cond.selects RX2 yX2_gather yX2_gather, Cond.code yX2_gather cX2_gather 7 none, Cond.fieldLink RX2 15 "TellingBench$World" "weights" "[I", Cond.methodLink RX2 22 yJ7_fill_53178, Cond.static yX3_settingOf, Cond.code yX3_settingOf cX3_settingOf 3 (some .int), Cond.instanceMethod yX0_addLog, Cond.selects RX0 yX0_addLog yX0_addLog, Cond.code yX0_addLog cX0_addLog 4 none, Cond.instanceMethod yX0_signOfSum]
def wsX3_sign_r3 : List Cond := [Cond.selects RX0 yX0_signOfSum yX0_signOfSum, Cond.code yX0_signOfSum cX0_signOfSum 6 (some .int), Cond.methodLink RX0 41 Lib.Math.abs.name, Cond.static Lib.Math.abs.name, Cond.initialized "java/lang/Math", Cond.code Lib.Math.abs.name Lib.Math.abs.code 1 (some .int), Cond.methodLink RX0 47 yX0_isNought, Cond.instanceMethod yX0_isNought, Cond.selects RX0 yX0_isNought yX0_isNought, Cond.code yX0_isNought cX0_isNought 2 (some .boolean), Cond.methodLink RX0 51 yX0_signOfProducts, Cond.instanceMethod yX0_signOfProducts, Cond.selects RX0 yX0_signOfProducts yX0_signOfProducts, Cond.code yX0_signOfProducts cX0_signOfProducts 2 (some .int), Cond.fieldLink RX0 21 "TellingBench$LogSum" "upper" "LTellingBench$Whole;", Cond.fieldLink RX0 25 "TellingBench$LogSum" "lower" "LTellingBench$Whole;", Cond.instanceMethod yX1_becomeOne, Cond.initialized RX1, Cond.selects RX1 yX1_becomeOne yX1_becomeOne, Cond.code yX1_becomeOne cX1_becomeOne 1 none, Cond.fieldLink RX1 9 "TellingBench$Whole" "digits" "[J", Cond.fieldLink RX1 13 "TellingBench$Whole" "length" "I", Cond.instanceMethod yX1_multiplyByPower, Cond.selects RX1 yX1_multiplyByPower yX1_multiplyByPower]
def wsX3_sign_r4 : List Cond := [Cond.code yX1_multiplyByPower cX1_multiplyByPower 6 none, Cond.constantLong RX1 17 (67108864), Cond.methodLink RX1 19 yX1_multiplyBy, Cond.instanceMethod yX1_multiplyBy, Cond.selects RX1 yX1_multiplyBy yX1_multiplyBy, Cond.code yX1_multiplyBy cX1_multiplyBy 8 none, Cond.constantLong RX1 23 (4294967295), Cond.instanceMethod yX1_against, Cond.selects RX1 yX1_against yX1_against, Cond.code yX1_against cX1_against 3 (some .int)]
def wsX3_sign : List Cond := .code yX3_sign cX3_sign 3 (some .int) :: ((wsX3_sign_r1 ++ (wsX3_sign_r2 ++ (wsX3_sign_r3 ++ wsX3_sign_r4))) ++ wsX30 ++ wsX20 ++ wsX00 ++ wsX10)
def wsX3_compare_r1 : List Cond := [Cond.fieldLink RX3 11 "TellingBench" "worlds" "[LTellingBench$World;", Cond.fieldLink RX3 23 "TellingBench" "logSum" "LTellingBench$LogSum;", Cond.fieldLink RX3 17 "TellingBench" "laws" "[[I", Cond.methodLink RX3 83 yX3_isMadePlace, Cond.instanceMethod yX3_isMadePlace, Cond.selects RX3 yX3_isMadePlace yX3_isMadePlace, Cond.initialized RX3, Cond.code yX3_isMadePlace cX3_isMadePlace 2 (some .boolean), Cond.methodLink RX3 45 yX3_isPlace, Cond.static yX3_isPlace, Cond.code yX3_isPlace cX3_isPlace 1 (some .boolean), Cond.instanceMethod yX2_isMade, Cond.initialized RX2, Cond.selects RX2 yX2_isMade yX2_isMade, Cond.code yX2_isMade cX2_isMade 1 (some .boolean), Cond.fieldLink RX2 18 "TellingBench$World" "total" "I", Cond.methodLink RX3 105 yX3_isLaw, Cond.static yX3_isLaw, Cond.code yX3_isLaw cX3_isLaw 1 (some .boolean), Cond.instanceMethod yX0_clear, Cond.initialized RX0, Cond.selects RX0 yX0_clear yX0_clear, Cond.code yX0_clear cX0_clear 1 none, Cond.fieldLink RX0 13 "TellingBench$LogSum" "times" "[I"]
def wsX3_compare_r2 : List Cond := [Cond.methodLink RX0 28 yJ7_fill_53178, Cond.static yJ7_fill_53178, Cond.initialized RJ7, Cond.code yJ7_fill_53178 cJ7_fill_53178 4 none, Cond.methodLink RX3 123 yX3_addLawSum, Cond.instanceMethod yX3_addLawSum, Cond.selects RX3 yX3_addLawSum yX3_addLawSum, Cond.code yX3_addLawSum cX3_addLawSum 5 none, Cond.methodLink RX3 158 yX3_addDoubt, Cond.instanceMethod yX3_addDoubt, Cond.selects RX3 yX3_addDoubt yX3_addDoubt, Cond.code yX3_addDoubt cX3_addDoubt 5 none, Cond.fieldLink RX3 27 "TellingBench" "sums" "[I", Cond.instanceMethod yX2_gather, Cond.selects RX2 yX2_gather yX2_gather, Cond.code yX2_gather cX2_gather 7 none, Cond.fieldLink RX2 15 "TellingBench$World" "weights" "[I", Cond.methodLink RX2 22 yJ7_fill_53178, Cond.static yX3_settingOf, Cond.code yX3_settingOf cX3_settingOf 3 (some .int), Cond.instanceMethod yX0_addLog, Cond.selects RX0 yX0_addLog yX0_addLog, Cond.code yX0_addLog cX0_addLog 4 none, Cond.instanceMethod yX0_signOfSum]
def wsX3_compare_r3 : List Cond := [Cond.selects RX0 yX0_signOfSum yX0_signOfSum, Cond.code yX0_signOfSum cX0_signOfSum 6 (some .int), Cond.methodLink RX0 41 Lib.Math.abs.name, Cond.static Lib.Math.abs.name, Cond.initialized "java/lang/Math", Cond.code Lib.Math.abs.name Lib.Math.abs.code 1 (some .int), Cond.methodLink RX0 47 yX0_isNought, Cond.instanceMethod yX0_isNought, Cond.selects RX0 yX0_isNought yX0_isNought, Cond.code yX0_isNought cX0_isNought 2 (some .boolean), Cond.methodLink RX0 51 yX0_signOfProducts, Cond.instanceMethod yX0_signOfProducts, Cond.selects RX0 yX0_signOfProducts yX0_signOfProducts, Cond.code yX0_signOfProducts cX0_signOfProducts 2 (some .int), Cond.fieldLink RX0 21 "TellingBench$LogSum" "upper" "LTellingBench$Whole;", Cond.fieldLink RX0 25 "TellingBench$LogSum" "lower" "LTellingBench$Whole;", Cond.instanceMethod yX1_becomeOne, Cond.initialized RX1, Cond.selects RX1 yX1_becomeOne yX1_becomeOne, Cond.code yX1_becomeOne cX1_becomeOne 1 none, Cond.fieldLink RX1 9 "TellingBench$Whole" "digits" "[J", Cond.fieldLink RX1 13 "TellingBench$Whole" "length" "I", Cond.instanceMethod yX1_multiplyByPower, Cond.selects RX1 yX1_multiplyByPower yX1_multiplyByPower]
def wsX3_compare_r4 : List Cond := [Cond.code yX1_multiplyByPower cX1_multiplyByPower 6 none, Cond.constantLong RX1 17 (67108864), Cond.methodLink RX1 19 yX1_multiplyBy, Cond.instanceMethod yX1_multiplyBy, Cond.selects RX1 yX1_multiplyBy yX1_multiplyBy, Cond.code yX1_multiplyBy cX1_multiplyBy 8 none, Cond.constantLong RX1 23 (4294967295), Cond.instanceMethod yX1_against, Cond.selects RX1 yX1_against yX1_against, Cond.code yX1_against cX1_against 3 (some .int)]
def wsX3_compare : List Cond := .code yX3_compare cX3_compare 7 (some .int) :: ((wsX3_compare_r1 ++ (wsX3_compare_r2 ++ (wsX3_compare_r3 ++ wsX3_compare_r4))) ++ wsX30 ++ wsX20 ++ wsX00 ++ wsX10)
def wsX3_near_r1 : List Cond := [Cond.fieldLink RX3 11 "TellingBench" "worlds" "[LTellingBench$World;", Cond.fieldLink RX3 23 "TellingBench" "logSum" "LTellingBench$LogSum;", Cond.fieldLink RX3 17 "TellingBench" "laws" "[[I", Cond.methodLink RX3 83 yX3_isMadePlace, Cond.instanceMethod yX3_isMadePlace, Cond.selects RX3 yX3_isMadePlace yX3_isMadePlace, Cond.initialized RX3, Cond.code yX3_isMadePlace cX3_isMadePlace 2 (some .boolean), Cond.methodLink RX3 45 yX3_isPlace, Cond.static yX3_isPlace, Cond.code yX3_isPlace cX3_isPlace 1 (some .boolean), Cond.instanceMethod yX2_isMade, Cond.initialized RX2, Cond.selects RX2 yX2_isMade yX2_isMade, Cond.code yX2_isMade cX2_isMade 1 (some .boolean), Cond.fieldLink RX2 18 "TellingBench$World" "total" "I", Cond.methodLink RX3 105 yX3_isLaw, Cond.static yX3_isLaw, Cond.code yX3_isLaw cX3_isLaw 1 (some .boolean), Cond.instanceMethod yX0_clear, Cond.initialized RX0, Cond.selects RX0 yX0_clear yX0_clear, Cond.code yX0_clear cX0_clear 1 none, Cond.fieldLink RX0 13 "TellingBench$LogSum" "times" "[I"]
def wsX3_near_r2 : List Cond := [Cond.methodLink RX0 28 yJ7_fill_53178, Cond.static yJ7_fill_53178, Cond.initialized RJ7, Cond.code yJ7_fill_53178 cJ7_fill_53178 4 none, Cond.methodLink RX3 123 yX3_addLawSum, Cond.instanceMethod yX3_addLawSum, Cond.selects RX3 yX3_addLawSum yX3_addLawSum, Cond.code yX3_addLawSum cX3_addLawSum 5 none, Cond.methodLink RX3 158 yX3_addDoubt, Cond.instanceMethod yX3_addDoubt, Cond.selects RX3 yX3_addDoubt yX3_addDoubt, Cond.code yX3_addDoubt cX3_addDoubt 5 none, Cond.fieldLink RX3 27 "TellingBench" "sums" "[I", Cond.instanceMethod yX2_gather, Cond.selects RX2 yX2_gather yX2_gather, Cond.code yX2_gather cX2_gather 7 none, Cond.fieldLink RX2 15 "TellingBench$World" "weights" "[I", Cond.methodLink RX2 22 yJ7_fill_53178, Cond.static yX3_settingOf, Cond.code yX3_settingOf cX3_settingOf 3 (some .int), Cond.instanceMethod yX0_addLog, Cond.selects RX0 yX0_addLog yX0_addLog, Cond.code yX0_addLog cX0_addLog 4 none, Cond.instanceMethod yX0_signOfSum]
def wsX3_near_r3 : List Cond := [Cond.selects RX0 yX0_signOfSum yX0_signOfSum, Cond.code yX0_signOfSum cX0_signOfSum 6 (some .int), Cond.methodLink RX0 41 Lib.Math.abs.name, Cond.static Lib.Math.abs.name, Cond.initialized "java/lang/Math", Cond.code Lib.Math.abs.name Lib.Math.abs.code 1 (some .int), Cond.methodLink RX0 47 yX0_isNought, Cond.instanceMethod yX0_isNought, Cond.selects RX0 yX0_isNought yX0_isNought, Cond.code yX0_isNought cX0_isNought 2 (some .boolean), Cond.methodLink RX0 51 yX0_signOfProducts, Cond.instanceMethod yX0_signOfProducts, Cond.selects RX0 yX0_signOfProducts yX0_signOfProducts, Cond.code yX0_signOfProducts cX0_signOfProducts 2 (some .int), Cond.fieldLink RX0 21 "TellingBench$LogSum" "upper" "LTellingBench$Whole;", Cond.fieldLink RX0 25 "TellingBench$LogSum" "lower" "LTellingBench$Whole;", Cond.instanceMethod yX1_becomeOne, Cond.initialized RX1, Cond.selects RX1 yX1_becomeOne yX1_becomeOne, Cond.code yX1_becomeOne cX1_becomeOne 1 none, Cond.fieldLink RX1 9 "TellingBench$Whole" "digits" "[J", Cond.fieldLink RX1 13 "TellingBench$Whole" "length" "I", Cond.instanceMethod yX1_multiplyByPower, Cond.selects RX1 yX1_multiplyByPower yX1_multiplyByPower]
def wsX3_near_r4 : List Cond := [Cond.code yX1_multiplyByPower cX1_multiplyByPower 6 none, Cond.constantLong RX1 17 (67108864), Cond.methodLink RX1 19 yX1_multiplyBy, Cond.instanceMethod yX1_multiplyBy, Cond.selects RX1 yX1_multiplyBy yX1_multiplyBy, Cond.code yX1_multiplyBy cX1_multiplyBy 8 none, Cond.constantLong RX1 23 (4294967295), Cond.instanceMethod yX1_against, Cond.selects RX1 yX1_against yX1_against, Cond.code yX1_against cX1_against 3 (some .int)]
def wsX3_near : List Cond := .code yX3_near cX3_near 6 (some .int) :: ((wsX3_near_r1 ++ (wsX3_near_r2 ++ (wsX3_near_r3 ++ wsX3_near_r4))) ++ wsX30 ++ wsX20 ++ wsX00 ++ wsX10)
def wsX3_isGivens : List Cond := .code yX3_isGivens cX3_isGivens 1 (some .boolean) :: ([])
def wsX3_sumByRow : List Cond := .code yX3_sumByRow cX3_sumByRow 5 (some .int) :: ([.fieldLink RX3 172 "TellingBench" "ROW_NUMBERS" "[I"])
def wsX3_keepsGivens : List Cond := .code yX3_keepsGivens cX3_keepsGivens 4 (some .boolean) :: ([.fieldLink RX3 111 "TellingBench" "PLAIN_NUMBERS" "[I", .methodLink RX3 168 yX3_sumByRow, .static yX3_sumByRow, .initialized RX3, .code yX3_sumByRow cX3_sumByRow 5 (some .int), .fieldLink RX3 172 "TellingBench" "ROW_NUMBERS" "[I"])
def wsX3_firstBreakingRow : List Cond := .code yX3_firstBreakingRow cX3_firstBreakingRow 3 (some .int) :: ([.methodLink RX3 165 yX3_keepsGivens, .static yX3_keepsGivens, .initialized RX3, .code yX3_keepsGivens cX3_keepsGivens 4 (some .boolean), .fieldLink RX3 111 "TellingBench" "PLAIN_NUMBERS" "[I", .methodLink RX3 168 yX3_sumByRow, .static yX3_sumByRow, .code yX3_sumByRow cX3_sumByRow 5 (some .int), .fieldLink RX3 172 "TellingBench" "ROW_NUMBERS" "[I"])
def wsX3_always : List Cond := .code yX3_always cX3_always 3 (some .int) :: ([.fieldLink RX3 17 "TellingBench" "laws" "[[I", .methodLink RX3 105 yX3_isLaw, .static yX3_isLaw, .initialized RX3, .code yX3_isLaw cX3_isLaw 1 (some .boolean), .methodLink RX3 135 yX3_isGivens, .static yX3_isGivens, .code yX3_isGivens cX3_isGivens 1 (some .boolean), .methodLink RX3 138 yX3_firstBreakingRow, .static yX3_firstBreakingRow, .code yX3_firstBreakingRow cX3_firstBreakingRow 3 (some .int), .methodLink RX3 165 yX3_keepsGivens, .static yX3_keepsGivens, .code yX3_keepsGivens cX3_keepsGivens 4 (some .boolean), .fieldLink RX3 111 "TellingBench" "PLAIN_NUMBERS" "[I", .methodLink RX3 168 yX3_sumByRow, .static yX3_sumByRow, .code yX3_sumByRow cX3_sumByRow 5 (some .int), .fieldLink RX3 172 "TellingBench" "ROW_NUMBERS" "[I"] ++ wsX30)
def wsX3_breaks : List Cond := .code yX3_breaks cX3_breaks 3 (some .int) :: ([.fieldLink RX3 17 "TellingBench" "laws" "[[I", .methodLink RX3 105 yX3_isLaw, .static yX3_isLaw, .initialized RX3, .code yX3_isLaw cX3_isLaw 1 (some .boolean), .methodLink RX3 135 yX3_isGivens, .static yX3_isGivens, .code yX3_isGivens cX3_isGivens 1 (some .boolean), .methodLink RX3 138 yX3_firstBreakingRow, .static yX3_firstBreakingRow, .code yX3_firstBreakingRow cX3_firstBreakingRow 3 (some .int), .methodLink RX3 165 yX3_keepsGivens, .static yX3_keepsGivens, .code yX3_keepsGivens cX3_keepsGivens 4 (some .boolean), .fieldLink RX3 111 "TellingBench" "PLAIN_NUMBERS" "[I", .methodLink RX3 168 yX3_sumByRow, .static yX3_sumByRow, .code yX3_sumByRow cX3_sumByRow 5 (some .int), .fieldLink RX3 172 "TellingBench" "ROW_NUMBERS" "[I"] ++ wsX30)
def wsX3_splitIntoParts : List Cond := .code yX3_splitIntoParts cX3_splitIntoParts 5 none :: ([.fieldLink RX3 31 "TellingBench" "parts" "[I"] ++ wsX30)
def wsX3_leavesOneRow : List Cond := .code yX3_leavesOneRow cX3_leavesOneRow 2 (some .boolean) :: ([])
def wsX3_noneIsBelowNought : List Cond := .code yX3_noneIsBelowNought cX3_noneIsBelowNought 2 (some .boolean) :: ([])
def wsX3_tryWithout : List Cond := .code yX3_tryWithout cX3_tryWithout 6 (some .boolean) :: ([.fieldLink RX3 31 "TellingBench" "parts" "[I", .fieldLink RX3 34 "TellingBench" "trial" "[I", .fieldLink RX3 94 "TellingBench" "PAIRS" "[I", .methodLink RX3 175 yX3_noneIsBelowNought, .static yX3_noneIsBelowNought, .initialized RX3, .code yX3_noneIsBelowNought cX3_noneIsBelowNought 2 (some .boolean)] ++ wsX30)
def wsX3_prove_r1 : List Cond := [Cond.fieldLink RX3 17 "TellingBench" "laws" "[[I", Cond.fieldLink RX3 34 "TellingBench" "trial" "[I", Cond.fieldLink RX3 37 "TellingBench" "shares" "[I", Cond.methodLink RX3 114 arraycopyName, Cond.native arraycopyName, Cond.static arraycopyName, Cond.initialized "java/lang/System", Cond.fieldLink RX3 40 "TellingBench" "proved" "Z", Cond.methodLink RX3 105 yX3_isLaw, Cond.static yX3_isLaw, Cond.initialized RX3, Cond.code yX3_isLaw cX3_isLaw 1 (some .boolean), Cond.methodLink RX3 142 yX3_splitIntoParts, Cond.instanceMethod yX3_splitIntoParts, Cond.selects RX3 yX3_splitIntoParts yX3_splitIntoParts, Cond.code yX3_splitIntoParts cX3_splitIntoParts 5 none, Cond.fieldLink RX3 31 "TellingBench" "parts" "[I", Cond.methodLink RX3 146 yX3_leavesOneRow, Cond.static yX3_leavesOneRow, Cond.code yX3_leavesOneRow cX3_leavesOneRow 2 (some .boolean), Cond.methodLink RX3 149 yX3_tryWithout, Cond.instanceMethod yX3_tryWithout, Cond.selects RX3 yX3_tryWithout yX3_tryWithout, Cond.code yX3_tryWithout cX3_tryWithout 6 (some .boolean)]
def wsX3_prove_r2 : List Cond := [Cond.fieldLink RX3 94 "TellingBench" "PAIRS" "[I", Cond.methodLink RX3 175 yX3_noneIsBelowNought, Cond.static yX3_noneIsBelowNought, Cond.code yX3_noneIsBelowNought cX3_noneIsBelowNought 2 (some .boolean)]
def wsX3_prove : List Cond := .code yX3_prove cX3_prove 4 (some .boolean) :: ((wsX3_prove_r1 ++ wsX3_prove_r2) ++ wsX30)
def wsX3_share : List Cond := .code yX3_share cX3_share 3 (some .int) :: ([.fieldLink RX3 40 "TellingBench" "proved" "Z", .fieldLink RX3 37 "TellingBench" "shares" "[I"] ++ wsX30)
def wsX3_keepAboveNought : List Cond := .code yX3_keepAboveNought cX3_keepAboveNought 3 (some .int) :: ([.fieldLink RX3 27 "TellingBench" "sums" "[I"] ++ wsX30)
def wsX3_moveLeastToEnd : List Cond := .code yX3_moveLeastToEnd cX3_moveLeastToEnd 4 none :: ([.fieldLink RX3 27 "TellingBench" "sums" "[I"] ++ wsX30)
def wsX3_leastMean : List Cond := .code yX3_leastMean cX3_leastMean 4 (some .int) :: ([.fieldLink RX3 27 "TellingBench" "sums" "[I", .methodLink RX3 179 yX3_moveLeastToEnd, .instanceMethod yX3_moveLeastToEnd, .selects RX3 yX3_moveLeastToEnd yX3_moveLeastToEnd, .initialized RX3, .code yX3_moveLeastToEnd cX3_moveLeastToEnd 4 none] ++ wsX30)
def wsX3_mean_r1 : List Cond := [Cond.fieldLink RX3 11 "TellingBench" "worlds" "[LTellingBench$World;", Cond.fieldLink RX3 27 "TellingBench" "sums" "[I", Cond.methodLink RX3 83 yX3_isMadePlace, Cond.instanceMethod yX3_isMadePlace, Cond.selects RX3 yX3_isMadePlace yX3_isMadePlace, Cond.initialized RX3, Cond.code yX3_isMadePlace cX3_isMadePlace 2 (some .boolean), Cond.methodLink RX3 45 yX3_isPlace, Cond.static yX3_isPlace, Cond.code yX3_isPlace cX3_isPlace 1 (some .boolean), Cond.instanceMethod yX2_isMade, Cond.initialized RX2, Cond.selects RX2 yX2_isMade yX2_isMade, Cond.code yX2_isMade cX2_isMade 1 (some .boolean), Cond.fieldLink RX2 18 "TellingBench$World" "total" "I", Cond.methodLink RX3 108 yX3_isSet, Cond.static yX3_isSet, Cond.code yX3_isSet cX3_isSet 1 (some .boolean), Cond.instanceMethod yX2_gather, Cond.selects RX2 yX2_gather yX2_gather, Cond.code yX2_gather cX2_gather 7 none, Cond.fieldLink RX2 15 "TellingBench$World" "weights" "[I", Cond.methodLink RX2 22 yJ7_fill_53178, Cond.static yJ7_fill_53178]
def wsX3_mean_r2 : List Cond := [Cond.initialized RJ7, Cond.code yJ7_fill_53178 cJ7_fill_53178 4 none, Cond.static yX3_settingOf, Cond.code yX3_settingOf cX3_settingOf 3 (some .int), Cond.methodLink RX3 152 yX3_keepAboveNought, Cond.instanceMethod yX3_keepAboveNought, Cond.selects RX3 yX3_keepAboveNought yX3_keepAboveNought, Cond.code yX3_keepAboveNought cX3_keepAboveNought 3 (some .int), Cond.methodLink RX3 155 yX3_leastMean, Cond.instanceMethod yX3_leastMean, Cond.selects RX3 yX3_leastMean yX3_leastMean, Cond.code yX3_leastMean cX3_leastMean 4 (some .int), Cond.methodLink RX3 179 yX3_moveLeastToEnd, Cond.instanceMethod yX3_moveLeastToEnd, Cond.selects RX3 yX3_moveLeastToEnd yX3_moveLeastToEnd, Cond.code yX3_moveLeastToEnd cX3_moveLeastToEnd 4 none]
def wsX3_mean : List Cond := .code yX3_mean cX3_mean 3 (some .int) :: ((wsX3_mean_r1 ++ wsX3_mean_r2) ++ wsX30 ++ wsX20)
def wsX3_words : List Cond := .code yX3_words cX3_words 6 (some .boolean) :: ([])
def wsX3_secret_r1 : List Cond := [Cond.fieldLink RX3 11 "TellingBench" "worlds" "[LTellingBench$World;", Cond.fieldLink RX3 23 "TellingBench" "logSum" "LTellingBench$LogSum;", Cond.methodLink RX3 83 yX3_isMadePlace, Cond.instanceMethod yX3_isMadePlace, Cond.selects RX3 yX3_isMadePlace yX3_isMadePlace, Cond.initialized RX3, Cond.code yX3_isMadePlace cX3_isMadePlace 2 (some .boolean), Cond.methodLink RX3 45 yX3_isPlace, Cond.static yX3_isPlace, Cond.code yX3_isPlace cX3_isPlace 1 (some .boolean), Cond.instanceMethod yX2_isMade, Cond.initialized RX2, Cond.selects RX2 yX2_isMade yX2_isMade, Cond.code yX2_isMade cX2_isMade 1 (some .boolean), Cond.fieldLink RX2 18 "TellingBench$World" "total" "I", Cond.instanceMethod yX0_clear, Cond.initialized RX0, Cond.selects RX0 yX0_clear yX0_clear, Cond.code yX0_clear cX0_clear 1 none, Cond.fieldLink RX0 13 "TellingBench$LogSum" "times" "[I", Cond.methodLink RX0 28 yJ7_fill_53178, Cond.static yJ7_fill_53178, Cond.initialized RJ7, Cond.code yJ7_fill_53178 cJ7_fill_53178 4 none]
def wsX3_secret_r2 : List Cond := [Cond.methodLink RX3 158 yX3_addDoubt, Cond.instanceMethod yX3_addDoubt, Cond.selects RX3 yX3_addDoubt yX3_addDoubt, Cond.code yX3_addDoubt cX3_addDoubt 5 none, Cond.fieldLink RX3 27 "TellingBench" "sums" "[I", Cond.instanceMethod yX2_gather, Cond.selects RX2 yX2_gather yX2_gather, Cond.code yX2_gather cX2_gather 7 none, Cond.fieldLink RX2 15 "TellingBench$World" "weights" "[I", Cond.methodLink RX2 22 yJ7_fill_53178, Cond.static yX3_settingOf, Cond.code yX3_settingOf cX3_settingOf 3 (some .int), Cond.instanceMethod yX0_addLog, Cond.selects RX0 yX0_addLog yX0_addLog, Cond.code yX0_addLog cX0_addLog 4 none, Cond.instanceMethod yX0_isNought, Cond.selects RX0 yX0_isNought yX0_isNought, Cond.code yX0_isNought cX0_isNought 2 (some .boolean)]
def wsX3_secret : List Cond := .code yX3_secret cX3_secret 4 (some .int) :: ((wsX3_secret_r1 ++ wsX3_secret_r2) ++ wsX30 ++ wsX20 ++ wsX00)
def wsX4_init : List Cond := .code yX4_init cX4_init 1 none :: ([.methodLink RX4 1 objectInit, .instanceMethod objectInit, .code objectInit ⟨#[0xb1]⟩ 1 none, .arrayClass .int, .fieldLink RX4 7 "TellingBenchModel" "states" "[I", .fieldLink RX4 13 "TellingBenchModel" "weight" "[I", .fieldLink RX4 16 "TellingBenchModel" "sum" "[I", .fieldLink RX4 19 "TellingBenchModel" "number" "[I", .fieldLink RX4 22 "TellingBenchModel" "primes" "[I", .fieldLink RX4 25 "TellingBenchModel" "power" "[I", .fieldLink RX4 28 "TellingBenchModel" "share" "[I", .fieldLink RX4 31 "TellingBenchModel" "upper" "[I", .fieldLink RX4 34 "TellingBenchModel" "lower" "[I", .arrayClass .long, .fieldLink RX4 37 "TellingBenchModel" "rows" "[J", .fieldLink RX4 41 "TellingBenchModel" "shareOver" "[J", .fieldLink RX4 44 "TellingBenchModel" "shareUnder" "[J", .fieldLink RX4 47 "TellingBenchModel" "told" "[J"] ++ wsX40)
def wsX4_isIn : List Cond := .code yX4_isIn cX4_isIn 3 (some .boolean) :: ([])
def wsX4_isPlace : List Cond := .code yX4_isPlace cX4_isPlace 1 (some .boolean) :: ([.methodLink RX4 50 yX4_isIn, .static yX4_isIn, .initialized RX4, .code yX4_isIn cX4_isIn 3 (some .boolean)])
def wsX4_isMade : List Cond := .code yX4_isMade cX4_isMade 2 (some .boolean) :: ([.fieldLink RX4 16 "TellingBenchModel" "sum" "[I", .methodLink RX4 54 yX4_isPlace, .static yX4_isPlace, .initialized RX4, .code yX4_isPlace cX4_isPlace 1 (some .boolean), .methodLink RX4 50 yX4_isIn, .static yX4_isIn, .code yX4_isIn cX4_isIn 3 (some .boolean)] ++ wsX40)
def wsX4_isLaw : List Cond := .code yX4_isLaw cX4_isLaw 1 (some .boolean) :: ([.methodLink RX4 50 yX4_isIn, .static yX4_isIn, .initialized RX4, .code yX4_isIn cX4_isIn 3 (some .boolean)])
def wsX4_world : List Cond := .code yX4_world cX4_world 6 (some .boolean) :: ([.fieldLink RX4 7 "TellingBenchModel" "states" "[I", .fieldLink RX4 13 "TellingBenchModel" "weight" "[I", .fieldLink RX4 16 "TellingBenchModel" "sum" "[I", .methodLink RX4 54 yX4_isPlace, .static yX4_isPlace, .initialized RX4, .code yX4_isPlace cX4_isPlace 1 (some .boolean), .methodLink RX4 50 yX4_isIn, .static yX4_isIn, .code yX4_isIn cX4_isIn 3 (some .boolean)] ++ wsX40)
def wsX4_isSetting : List Cond := .code yX4_isSetting cX4_isSetting 5 (some .boolean) :: ([.fieldLink RX4 7 "TellingBenchModel" "states" "[I", .methodLink RX4 54 yX4_isPlace, .static yX4_isPlace, .initialized RX4, .code yX4_isPlace cX4_isPlace 1 (some .boolean), .methodLink RX4 50 yX4_isIn, .static yX4_isIn, .code yX4_isIn cX4_isIn 3 (some .boolean)] ++ wsX40)
def wsX4_weight : List Cond := .code yX4_weight cX4_weight 8 (some .boolean) :: ([.fieldLink RX4 16 "TellingBenchModel" "sum" "[I", .fieldLink RX4 13 "TellingBenchModel" "weight" "[I", .methodLink RX4 58 yX4_isSetting, .instanceMethod yX4_isSetting, .selects RX4 yX4_isSetting yX4_isSetting, .initialized RX4, .code yX4_isSetting cX4_isSetting 5 (some .boolean), .fieldLink RX4 7 "TellingBenchModel" "states" "[I", .methodLink RX4 54 yX4_isPlace, .static yX4_isPlace, .code yX4_isPlace cX4_isPlace 1 (some .boolean), .methodLink RX4 50 yX4_isIn, .static yX4_isIn, .code yX4_isIn cX4_isIn 3 (some .boolean)] ++ wsX40)
def wsX4_told : List Cond := .code yX4_told cX4_told 4 (some .int) :: ([.fieldLink RX4 16 "TellingBenchModel" "sum" "[I", .fieldLink RX4 7 "TellingBenchModel" "states" "[I", .fieldLink RX4 13 "TellingBenchModel" "weight" "[I", .methodLink RX4 54 yX4_isPlace, .static yX4_isPlace, .initialized RX4, .code yX4_isPlace cX4_isPlace 1 (some .boolean), .methodLink RX4 50 yX4_isIn, .static yX4_isIn, .code yX4_isIn cX4_isIn 3 (some .boolean), .methodLink RX4 58 yX4_isSetting, .instanceMethod yX4_isSetting, .selects RX4 yX4_isSetting yX4_isSetting, .code yX4_isSetting cX4_isSetting 5 (some .boolean)] ++ wsX40)
def wsX4_mix : List Cond := .code yX4_mix cX4_mix 6 (some .boolean) :: ([.fieldLink RX4 16 "TellingBenchModel" "sum" "[I", .fieldLink RX4 7 "TellingBenchModel" "states" "[I", .fieldLink RX4 13 "TellingBenchModel" "weight" "[I", .methodLink RX4 62 yX4_isMade, .instanceMethod yX4_isMade, .selects RX4 yX4_isMade yX4_isMade, .initialized RX4, .code yX4_isMade cX4_isMade 2 (some .boolean), .methodLink RX4 54 yX4_isPlace, .static yX4_isPlace, .code yX4_isPlace cX4_isPlace 1 (some .boolean), .methodLink RX4 50 yX4_isIn, .static yX4_isIn, .code yX4_isIn cX4_isIn 3 (some .boolean)] ++ wsX40)
def wsX4_tell : List Cond := .code yX4_tell cX4_tell 7 (some .boolean) :: ([.fieldLink RX4 13 "TellingBenchModel" "weight" "[I", .fieldLink RX4 7 "TellingBenchModel" "states" "[I", .methodLink RX4 62 yX4_isMade, .instanceMethod yX4_isMade, .selects RX4 yX4_isMade yX4_isMade, .initialized RX4, .code yX4_isMade cX4_isMade 2 (some .boolean), .fieldLink RX4 16 "TellingBenchModel" "sum" "[I", .methodLink RX4 54 yX4_isPlace, .static yX4_isPlace, .code yX4_isPlace cX4_isPlace 1 (some .boolean), .methodLink RX4 50 yX4_isIn, .static yX4_isIn, .code yX4_isIn cX4_isIn 3 (some .boolean)] ++ wsX40)
def wsX4_law : List Cond := .code yX4_law cX4_law 4 (some .boolean) :: ([.fieldLink RX4 19 "TellingBenchModel" "number" "[I", .methodLink RX4 65 yX4_isLaw, .static yX4_isLaw, .initialized RX4, .code yX4_isLaw cX4_isLaw 1 (some .boolean), .methodLink RX4 50 yX4_isIn, .static yX4_isIn, .code yX4_isIn cX4_isIn 3 (some .boolean)] ++ wsX40)
def wsX4_bit : List Cond := .code yX4_bit cX4_bit 2 (some .int) :: ([])
def wsX4_plainOf : List Cond := .code yX4_plainOf cX4_plainOf 5 (some .int) :: ([.methodLink RX4 68 yX4_bit, .static yX4_bit, .initialized RX4, .code yX4_bit cX4_bit 2 (some .int)])
def wsX4_plain : List Cond := .code yX4_plain cX4_plain 4 (some .boolean) :: ([.fieldLink RX4 19 "TellingBenchModel" "number" "[I", .methodLink RX4 65 yX4_isLaw, .static yX4_isLaw, .initialized RX4, .code yX4_isLaw cX4_isLaw 1 (some .boolean), .methodLink RX4 50 yX4_isIn, .static yX4_isIn, .code yX4_isIn cX4_isIn 3 (some .boolean), .methodLink RX4 72 yX4_plainOf, .static yX4_plainOf, .code yX4_plainOf cX4_plainOf 5 (some .int), .methodLink RX4 68 yX4_bit, .static yX4_bit, .code yX4_bit cX4_bit 2 (some .int)] ++ wsX40)
def wsX4_number : List Cond := .code yX4_number cX4_number 3 (some .int) :: ([.fieldLink RX4 19 "TellingBenchModel" "number" "[I", .methodLink RX4 65 yX4_isLaw, .static yX4_isLaw, .initialized RX4, .code yX4_isLaw cX4_isLaw 1 (some .boolean), .methodLink RX4 50 yX4_isIn, .static yX4_isIn, .code yX4_isIn cX4_isIn 3 (some .boolean)] ++ wsX40)
def wsX4_clear : List Cond := .code yX4_clear cX4_clear 2 none :: ([.fieldLink RX4 25 "TellingBenchModel" "power" "[I"] ++ wsX40)
def wsX4_add : List Cond := .code yX4_add cX4_add 5 none :: ([.fieldLink RX4 22 "TellingBenchModel" "primes" "[I", .fieldLink RX4 25 "TellingBenchModel" "power" "[I"] ++ wsX40)
def wsX4_settings : List Cond := .code yX4_settings cX4_settings 4 none :: ([.fieldLink RX4 28 "TellingBenchModel" "share" "[I", .fieldLink RX4 13 "TellingBenchModel" "weight" "[I"] ++ wsX40)
def wsX4_doubt : List Cond := .code yX4_doubt cX4_doubt 5 none :: ([.fieldLink RX4 16 "TellingBenchModel" "sum" "[I", .fieldLink RX4 28 "TellingBenchModel" "share" "[I", .methodLink RX4 75 yX4_settings, .instanceMethod yX4_settings, .selects RX4 yX4_settings yX4_settings, .initialized RX4, .code yX4_settings cX4_settings 4 none, .fieldLink RX4 13 "TellingBenchModel" "weight" "[I", .methodLink RX4 79 yX4_add, .instanceMethod yX4_add, .selects RX4 yX4_add yX4_add, .code yX4_add cX4_add 5 none, .fieldLink RX4 22 "TellingBenchModel" "primes" "[I", .fieldLink RX4 25 "TellingBenchModel" "power" "[I"] ++ wsX40)
def wsX4_lawIn : List Cond := .code yX4_lawIn cX4_lawIn 5 none :: ([.fieldLink RX4 19 "TellingBenchModel" "number" "[I", .methodLink RX4 82 yX4_doubt, .instanceMethod yX4_doubt, .selects RX4 yX4_doubt yX4_doubt, .initialized RX4, .code yX4_doubt cX4_doubt 5 none, .fieldLink RX4 16 "TellingBenchModel" "sum" "[I", .fieldLink RX4 28 "TellingBenchModel" "share" "[I", .methodLink RX4 75 yX4_settings, .instanceMethod yX4_settings, .selects RX4 yX4_settings yX4_settings, .code yX4_settings cX4_settings 4 none, .fieldLink RX4 13 "TellingBenchModel" "weight" "[I", .methodLink RX4 79 yX4_add, .instanceMethod yX4_add, .selects RX4 yX4_add yX4_add, .code yX4_add cX4_add 5 none, .fieldLink RX4 22 "TellingBenchModel" "primes" "[I", .fieldLink RX4 25 "TellingBenchModel" "power" "[I"] ++ wsX40)
def wsX4_times : List Cond := .code yX4_times cX4_times 6 none :: ([.fieldLink RX4 86 "TellingBenchModel" "limbs" "I", .constant RX4 95 (65535)] ++ wsX40)
def wsX4_multiply : List Cond := .code yX4_multiply cX4_multiply 6 none :: ([.fieldLink RX4 86 "TellingBenchModel" "limbs" "I", .fieldLink RX4 25 "TellingBenchModel" "power" "[I", .fieldLink RX4 22 "TellingBenchModel" "primes" "[I", .constant RX4 90 (32768), .methodLink RX4 91 yX4_times, .instanceMethod yX4_times, .selects RX4 yX4_times yX4_times, .initialized RX4, .code yX4_times cX4_times 6 none, .constant RX4 95 (65535)] ++ wsX40)
def wsX4_signOf : List Cond := .code yX4_signOf cX4_signOf 4 (some .int) :: ([.fieldLink RX4 25 "TellingBenchModel" "power" "[I", .fieldLink RX4 31 "TellingBenchModel" "upper" "[I", .fieldLink RX4 34 "TellingBenchModel" "lower" "[I", .methodLink RX4 96 yX4_multiply, .instanceMethod yX4_multiply, .selects RX4 yX4_multiply yX4_multiply, .initialized RX4, .code yX4_multiply cX4_multiply 6 none, .fieldLink RX4 86 "TellingBenchModel" "limbs" "I", .fieldLink RX4 22 "TellingBenchModel" "primes" "[I", .constant RX4 90 (32768), .methodLink RX4 91 yX4_times, .instanceMethod yX4_times, .selects RX4 yX4_times yX4_times, .code yX4_times cX4_times 6 none, .constant RX4 95 (65535)] ++ wsX40)
def wsX4_sign_r1 : List Cond := [Cond.methodLink RX4 62 yX4_isMade, Cond.instanceMethod yX4_isMade, Cond.selects RX4 yX4_isMade yX4_isMade, Cond.initialized RX4, Cond.code yX4_isMade cX4_isMade 2 (some .boolean), Cond.fieldLink RX4 16 "TellingBenchModel" "sum" "[I", Cond.methodLink RX4 54 yX4_isPlace, Cond.static yX4_isPlace, Cond.code yX4_isPlace cX4_isPlace 1 (some .boolean), Cond.methodLink RX4 50 yX4_isIn, Cond.static yX4_isIn, Cond.code yX4_isIn cX4_isIn 3 (some .boolean), Cond.methodLink RX4 65 yX4_isLaw, Cond.static yX4_isLaw, Cond.code yX4_isLaw cX4_isLaw 1 (some .boolean), Cond.methodLink RX4 99 yX4_clear, Cond.instanceMethod yX4_clear, Cond.selects RX4 yX4_clear yX4_clear, Cond.code yX4_clear cX4_clear 2 none, Cond.fieldLink RX4 25 "TellingBenchModel" "power" "[I", Cond.methodLink RX4 102 yX4_lawIn, Cond.instanceMethod yX4_lawIn, Cond.selects RX4 yX4_lawIn yX4_lawIn, Cond.code yX4_lawIn cX4_lawIn 5 none]
def wsX4_sign_r2 : List Cond := [Cond.fieldLink RX4 19 "TellingBenchModel" "number" "[I", Cond.methodLink RX4 82 yX4_doubt, Cond.instanceMethod yX4_doubt, Cond.selects RX4 yX4_doubt yX4_doubt, Cond.code yX4_doubt cX4_doubt 5 none, Cond.fieldLink RX4 28 "TellingBenchModel" "share" "[I", Cond.methodLink RX4 75 yX4_settings, Cond.instanceMethod yX4_settings, Cond.selects RX4 yX4_settings yX4_settings, Cond.code yX4_settings cX4_settings 4 none, Cond.fieldLink RX4 13 "TellingBenchModel" "weight" "[I", Cond.methodLink RX4 79 yX4_add, Cond.instanceMethod yX4_add, Cond.selects RX4 yX4_add yX4_add, Cond.code yX4_add cX4_add 5 none, Cond.fieldLink RX4 22 "TellingBenchModel" "primes" "[I", Cond.methodLink RX4 105 yX4_signOf, Cond.instanceMethod yX4_signOf, Cond.selects RX4 yX4_signOf yX4_signOf, Cond.code yX4_signOf cX4_signOf 4 (some .int), Cond.fieldLink RX4 31 "TellingBenchModel" "upper" "[I", Cond.fieldLink RX4 34 "TellingBenchModel" "lower" "[I", Cond.methodLink RX4 96 yX4_multiply, Cond.instanceMethod yX4_multiply]
def wsX4_sign_r3 : List Cond := [Cond.selects RX4 yX4_multiply yX4_multiply, Cond.code yX4_multiply cX4_multiply 6 none, Cond.fieldLink RX4 86 "TellingBenchModel" "limbs" "I", Cond.constant RX4 90 (32768), Cond.methodLink RX4 91 yX4_times, Cond.instanceMethod yX4_times, Cond.selects RX4 yX4_times yX4_times, Cond.code yX4_times cX4_times 6 none, Cond.constant RX4 95 (65535)]
def wsX4_sign : List Cond := .code yX4_sign cX4_sign 3 (some .int) :: ((wsX4_sign_r1 ++ (wsX4_sign_r2 ++ wsX4_sign_r3)) ++ wsX40)
def wsX4_compare_r1 : List Cond := [Cond.fieldLink RX4 16 "TellingBenchModel" "sum" "[I", Cond.methodLink RX4 62 yX4_isMade, Cond.instanceMethod yX4_isMade, Cond.selects RX4 yX4_isMade yX4_isMade, Cond.initialized RX4, Cond.code yX4_isMade cX4_isMade 2 (some .boolean), Cond.methodLink RX4 54 yX4_isPlace, Cond.static yX4_isPlace, Cond.code yX4_isPlace cX4_isPlace 1 (some .boolean), Cond.methodLink RX4 50 yX4_isIn, Cond.static yX4_isIn, Cond.code yX4_isIn cX4_isIn 3 (some .boolean), Cond.methodLink RX4 65 yX4_isLaw, Cond.static yX4_isLaw, Cond.code yX4_isLaw cX4_isLaw 1 (some .boolean), Cond.methodLink RX4 99 yX4_clear, Cond.instanceMethod yX4_clear, Cond.selects RX4 yX4_clear yX4_clear, Cond.code yX4_clear cX4_clear 2 none, Cond.fieldLink RX4 25 "TellingBenchModel" "power" "[I", Cond.methodLink RX4 102 yX4_lawIn, Cond.instanceMethod yX4_lawIn, Cond.selects RX4 yX4_lawIn yX4_lawIn, Cond.code yX4_lawIn cX4_lawIn 5 none]
def wsX4_compare_r2 : List Cond := [Cond.fieldLink RX4 19 "TellingBenchModel" "number" "[I", Cond.methodLink RX4 82 yX4_doubt, Cond.instanceMethod yX4_doubt, Cond.selects RX4 yX4_doubt yX4_doubt, Cond.code yX4_doubt cX4_doubt 5 none, Cond.fieldLink RX4 28 "TellingBenchModel" "share" "[I", Cond.methodLink RX4 75 yX4_settings, Cond.instanceMethod yX4_settings, Cond.selects RX4 yX4_settings yX4_settings, Cond.code yX4_settings cX4_settings 4 none, Cond.fieldLink RX4 13 "TellingBenchModel" "weight" "[I", Cond.methodLink RX4 79 yX4_add, Cond.instanceMethod yX4_add, Cond.selects RX4 yX4_add yX4_add, Cond.code yX4_add cX4_add 5 none, Cond.fieldLink RX4 22 "TellingBenchModel" "primes" "[I", Cond.methodLink RX4 105 yX4_signOf, Cond.instanceMethod yX4_signOf, Cond.selects RX4 yX4_signOf yX4_signOf, Cond.code yX4_signOf cX4_signOf 4 (some .int), Cond.fieldLink RX4 31 "TellingBenchModel" "upper" "[I", Cond.fieldLink RX4 34 "TellingBenchModel" "lower" "[I", Cond.methodLink RX4 96 yX4_multiply, Cond.instanceMethod yX4_multiply]
def wsX4_compare_r3 : List Cond := [Cond.selects RX4 yX4_multiply yX4_multiply, Cond.code yX4_multiply cX4_multiply 6 none, Cond.fieldLink RX4 86 "TellingBenchModel" "limbs" "I", Cond.constant RX4 90 (32768), Cond.methodLink RX4 91 yX4_times, Cond.instanceMethod yX4_times, Cond.selects RX4 yX4_times yX4_times, Cond.code yX4_times cX4_times 6 none, Cond.constant RX4 95 (65535)]
def wsX4_compare : List Cond := .code yX4_compare cX4_compare 5 (some .int) :: ((wsX4_compare_r1 ++ (wsX4_compare_r2 ++ wsX4_compare_r3)) ++ wsX40)
def wsX4_near_r1 : List Cond := [Cond.fieldLink RX4 25 "TellingBenchModel" "power" "[I", Cond.fieldLink RX4 16 "TellingBenchModel" "sum" "[I", Cond.methodLink RX4 62 yX4_isMade, Cond.instanceMethod yX4_isMade, Cond.selects RX4 yX4_isMade yX4_isMade, Cond.initialized RX4, Cond.code yX4_isMade cX4_isMade 2 (some .boolean), Cond.methodLink RX4 54 yX4_isPlace, Cond.static yX4_isPlace, Cond.code yX4_isPlace cX4_isPlace 1 (some .boolean), Cond.methodLink RX4 50 yX4_isIn, Cond.static yX4_isIn, Cond.code yX4_isIn cX4_isIn 3 (some .boolean), Cond.methodLink RX4 65 yX4_isLaw, Cond.static yX4_isLaw, Cond.code yX4_isLaw cX4_isLaw 1 (some .boolean), Cond.methodLink RX4 99 yX4_clear, Cond.instanceMethod yX4_clear, Cond.selects RX4 yX4_clear yX4_clear, Cond.code yX4_clear cX4_clear 2 none, Cond.methodLink RX4 102 yX4_lawIn, Cond.instanceMethod yX4_lawIn, Cond.selects RX4 yX4_lawIn yX4_lawIn, Cond.code yX4_lawIn cX4_lawIn 5 none]
def wsX4_near_r2 : List Cond := [Cond.fieldLink RX4 19 "TellingBenchModel" "number" "[I", Cond.methodLink RX4 82 yX4_doubt, Cond.instanceMethod yX4_doubt, Cond.selects RX4 yX4_doubt yX4_doubt, Cond.code yX4_doubt cX4_doubt 5 none, Cond.fieldLink RX4 28 "TellingBenchModel" "share" "[I", Cond.methodLink RX4 75 yX4_settings, Cond.instanceMethod yX4_settings, Cond.selects RX4 yX4_settings yX4_settings, Cond.code yX4_settings cX4_settings 4 none, Cond.fieldLink RX4 13 "TellingBenchModel" "weight" "[I", Cond.methodLink RX4 79 yX4_add, Cond.instanceMethod yX4_add, Cond.selects RX4 yX4_add yX4_add, Cond.code yX4_add cX4_add 5 none, Cond.fieldLink RX4 22 "TellingBenchModel" "primes" "[I", Cond.methodLink RX4 105 yX4_signOf, Cond.instanceMethod yX4_signOf, Cond.selects RX4 yX4_signOf yX4_signOf, Cond.code yX4_signOf cX4_signOf 4 (some .int), Cond.fieldLink RX4 31 "TellingBenchModel" "upper" "[I", Cond.fieldLink RX4 34 "TellingBenchModel" "lower" "[I", Cond.methodLink RX4 96 yX4_multiply, Cond.instanceMethod yX4_multiply]
def wsX4_near_r3 : List Cond := [Cond.selects RX4 yX4_multiply yX4_multiply, Cond.code yX4_multiply cX4_multiply 6 none, Cond.fieldLink RX4 86 "TellingBenchModel" "limbs" "I", Cond.constant RX4 90 (32768), Cond.methodLink RX4 91 yX4_times, Cond.instanceMethod yX4_times, Cond.selects RX4 yX4_times yX4_times, Cond.code yX4_times cX4_times 6 none, Cond.constant RX4 95 (65535)]
def wsX4_near : List Cond := .code yX4_near cX4_near 6 (some .int) :: ((wsX4_near_r1 ++ (wsX4_near_r2 ++ wsX4_near_r3)) ++ wsX40)
def wsX4_rowOf : List Cond := .code yX4_rowOf cX4_rowOf 3 (some .int) :: ([])
def wsX4_isGiven : List Cond := .code yX4_isGiven cX4_isGiven 7 (some .boolean) :: ([.methodLink RX4 72 yX4_plainOf, .static yX4_plainOf, .initialized RX4, .code yX4_plainOf cX4_plainOf 5 (some .int), .methodLink RX4 68 yX4_bit, .static yX4_bit, .code yX4_bit cX4_bit 2 (some .int), .methodLink RX4 109 yX4_rowOf, .static yX4_rowOf, .code yX4_rowOf cX4_rowOf 3 (some .int)])
def wsX4_breaks : List Cond := .code yX4_breaks cX4_breaks 6 (some .int) :: ([.fieldLink RX4 19 "TellingBenchModel" "number" "[I", .methodLink RX4 65 yX4_isLaw, .static yX4_isLaw, .initialized RX4, .code yX4_isLaw cX4_isLaw 1 (some .boolean), .methodLink RX4 50 yX4_isIn, .static yX4_isIn, .code yX4_isIn cX4_isIn 3 (some .boolean), .methodLink RX4 109 yX4_rowOf, .static yX4_rowOf, .code yX4_rowOf cX4_rowOf 3 (some .int), .methodLink RX4 115 yX4_isGiven, .instanceMethod yX4_isGiven, .selects RX4 yX4_isGiven yX4_isGiven, .code yX4_isGiven cX4_isGiven 7 (some .boolean), .methodLink RX4 72 yX4_plainOf, .static yX4_plainOf, .code yX4_plainOf cX4_plainOf 5 (some .int), .methodLink RX4 68 yX4_bit, .static yX4_bit, .code yX4_bit cX4_bit 2 (some .int)] ++ wsX40)
def wsX4_always_r1 : List Cond := [Cond.methodLink RX4 65 yX4_isLaw, Cond.static yX4_isLaw, Cond.initialized RX4, Cond.code yX4_isLaw cX4_isLaw 1 (some .boolean), Cond.methodLink RX4 50 yX4_isIn, Cond.static yX4_isIn, Cond.code yX4_isIn cX4_isIn 3 (some .boolean), Cond.methodLink RX4 112 yX4_breaks, Cond.instanceMethod yX4_breaks, Cond.selects RX4 yX4_breaks yX4_breaks, Cond.code yX4_breaks cX4_breaks 6 (some .int), Cond.fieldLink RX4 19 "TellingBenchModel" "number" "[I", Cond.methodLink RX4 109 yX4_rowOf, Cond.static yX4_rowOf, Cond.code yX4_rowOf cX4_rowOf 3 (some .int), Cond.methodLink RX4 115 yX4_isGiven, Cond.instanceMethod yX4_isGiven, Cond.selects RX4 yX4_isGiven yX4_isGiven, Cond.code yX4_isGiven cX4_isGiven 7 (some .boolean), Cond.methodLink RX4 72 yX4_plainOf, Cond.static yX4_plainOf, Cond.code yX4_plainOf cX4_plainOf 5 (some .int), Cond.methodLink RX4 68 yX4_bit, Cond.static yX4_bit]
def wsX4_always_r2 : List Cond := [Cond.code yX4_bit cX4_bit 2 (some .int)]
def wsX4_always : List Cond := .code yX4_always cX4_always 3 (some .int) :: ((wsX4_always_r1 ++ wsX4_always_r2) ++ wsX40)
def wsX4_common : List Cond := .code yX4_common cX4_common 10 (some .long) :: ([.methodLink RX4 119 Lib.MathLoose.abs_long.x, .static Lib.MathLoose.abs_long.x, .initialized "java/lang/Math", .code Lib.MathLoose.abs_long.x Lib.MathLoose.abs_long.code 2 (some .long)])
def wsX4_takeOff : List Cond := .code yX4_takeOff cX4_takeOff 10 none :: ([.fieldLink RX4 37 "TellingBenchModel" "rows" "[J", .methodLink RX4 128 yX4_common, .static yX4_common, .initialized RX4, .code yX4_common cX4_common 10 (some .long), .methodLink RX4 119 Lib.MathLoose.abs_long.x, .static Lib.MathLoose.abs_long.x, .initialized "java/lang/Math", .code Lib.MathLoose.abs_long.x Lib.MathLoose.abs_long.code 2 (some .long)] ++ wsX40)
def wsX4_solve : List Cond := .code yX4_solve cX4_solve 12 (some .boolean) :: ([.fieldLink RX4 37 "TellingBenchModel" "rows" "[J", .fieldLink RX4 19 "TellingBenchModel" "number" "[I", .fieldLink RX4 41 "TellingBenchModel" "shareOver" "[J", .fieldLink RX4 44 "TellingBenchModel" "shareUnder" "[J", .methodLink RX4 119 Lib.MathLoose.abs_long.x, .static Lib.MathLoose.abs_long.x, .initialized "java/lang/Math", .code Lib.MathLoose.abs_long.x Lib.MathLoose.abs_long.code 2 (some .long), .methodLink RX4 72 yX4_plainOf, .static yX4_plainOf, .initialized RX4, .code yX4_plainOf cX4_plainOf 5 (some .int), .methodLink RX4 68 yX4_bit, .static yX4_bit, .code yX4_bit cX4_bit 2 (some .int), .methodLink RX4 125 yX4_takeOff, .instanceMethod yX4_takeOff, .selects RX4 yX4_takeOff yX4_takeOff, .code yX4_takeOff cX4_takeOff 10 none, .methodLink RX4 128 yX4_common, .static yX4_common, .code yX4_common cX4_common 10 (some .long)] ++ wsX40)
def wsX4_prove_r1 : List Cond := [Cond.fieldLink RX4 41 "TellingBenchModel" "shareOver" "[J", Cond.fieldLink RX4 47 "TellingBenchModel" "told" "[J", Cond.fieldLink RX4 44 "TellingBenchModel" "shareUnder" "[J", Cond.fieldLink RX4 135 "TellingBenchModel" "isTold" "Z", Cond.methodLink RX4 65 yX4_isLaw, Cond.static yX4_isLaw, Cond.initialized RX4, Cond.code yX4_isLaw cX4_isLaw 1 (some .boolean), Cond.methodLink RX4 50 yX4_isIn, Cond.static yX4_isIn, Cond.code yX4_isIn cX4_isIn 3 (some .boolean), Cond.methodLink RX4 132 yX4_solve, Cond.instanceMethod yX4_solve, Cond.selects RX4 yX4_solve yX4_solve, Cond.code yX4_solve cX4_solve 12 (some .boolean), Cond.fieldLink RX4 37 "TellingBenchModel" "rows" "[J", Cond.fieldLink RX4 19 "TellingBenchModel" "number" "[I", Cond.methodLink RX4 119 Lib.MathLoose.abs_long.x, Cond.static Lib.MathLoose.abs_long.x, Cond.initialized "java/lang/Math", Cond.code Lib.MathLoose.abs_long.x Lib.MathLoose.abs_long.code 2 (some .long), Cond.methodLink RX4 72 yX4_plainOf, Cond.static yX4_plainOf, Cond.code yX4_plainOf cX4_plainOf 5 (some .int)]
def wsX4_prove_r2 : List Cond := [Cond.methodLink RX4 68 yX4_bit, Cond.static yX4_bit, Cond.code yX4_bit cX4_bit 2 (some .int), Cond.methodLink RX4 125 yX4_takeOff, Cond.instanceMethod yX4_takeOff, Cond.selects RX4 yX4_takeOff yX4_takeOff, Cond.code yX4_takeOff cX4_takeOff 10 none, Cond.methodLink RX4 128 yX4_common, Cond.static yX4_common, Cond.code yX4_common cX4_common 10 (some .long)]
def wsX4_prove : List Cond := .code yX4_prove cX4_prove 6 (some .boolean) :: ((wsX4_prove_r1 ++ wsX4_prove_r2) ++ wsX40)
def wsX4_share : List Cond := .code yX4_share cX4_share 3 (some .int) :: ([.fieldLink RX4 135 "TellingBenchModel" "isTold" "Z", .fieldLink RX4 47 "TellingBenchModel" "told" "[J", .methodLink RX4 50 yX4_isIn, .static yX4_isIn, .initialized RX4, .code yX4_isIn cX4_isIn 3 (some .boolean)] ++ wsX40)
def wsX4_secondOf : List Cond := .code yX4_secondOf cX4_secondOf 4 (some .int) :: ([.fieldLink RX4 28 "TellingBenchModel" "share" "[I"] ++ wsX40)
def wsX4_leastOf : List Cond := .code yX4_leastOf cX4_leastOf 1 (some .int) :: ([.methodLink RX4 142 yX4_secondOf, .instanceMethod yX4_secondOf, .selects RX4 yX4_secondOf yX4_secondOf, .initialized RX4, .code yX4_secondOf cX4_secondOf 4 (some .int), .fieldLink RX4 28 "TellingBenchModel" "share" "[I"] ++ wsX40)
def wsX4_mean_r1 : List Cond := [Cond.fieldLink RX4 28 "TellingBenchModel" "share" "[I", Cond.methodLink RX4 62 yX4_isMade, Cond.instanceMethod yX4_isMade, Cond.selects RX4 yX4_isMade yX4_isMade, Cond.initialized RX4, Cond.code yX4_isMade cX4_isMade 2 (some .boolean), Cond.fieldLink RX4 16 "TellingBenchModel" "sum" "[I", Cond.methodLink RX4 54 yX4_isPlace, Cond.static yX4_isPlace, Cond.code yX4_isPlace cX4_isPlace 1 (some .boolean), Cond.methodLink RX4 50 yX4_isIn, Cond.static yX4_isIn, Cond.code yX4_isIn cX4_isIn 3 (some .boolean), Cond.methodLink RX4 75 yX4_settings, Cond.instanceMethod yX4_settings, Cond.selects RX4 yX4_settings yX4_settings, Cond.code yX4_settings cX4_settings 4 none, Cond.fieldLink RX4 13 "TellingBenchModel" "weight" "[I", Cond.methodLink RX4 139 yX4_leastOf, Cond.instanceMethod yX4_leastOf, Cond.selects RX4 yX4_leastOf yX4_leastOf, Cond.code yX4_leastOf cX4_leastOf 1 (some .int), Cond.methodLink RX4 142 yX4_secondOf, Cond.instanceMethod yX4_secondOf]
def wsX4_mean_r2 : List Cond := [Cond.selects RX4 yX4_secondOf yX4_secondOf, Cond.code yX4_secondOf cX4_secondOf 4 (some .int)]
def wsX4_mean : List Cond := .code yX4_mean cX4_mean 6 (some .int) :: ((wsX4_mean_r1 ++ wsX4_mean_r2) ++ wsX40)
def wsX4_words : List Cond := .code yX4_words cX4_words 6 (some .boolean) :: ([.methodLink RX4 50 yX4_isIn, .static yX4_isIn, .initialized RX4, .code yX4_isIn cX4_isIn 3 (some .boolean)])
def wsX4_secret_r1 : List Cond := [Cond.methodLink RX4 62 yX4_isMade, Cond.instanceMethod yX4_isMade, Cond.selects RX4 yX4_isMade yX4_isMade, Cond.initialized RX4, Cond.code yX4_isMade cX4_isMade 2 (some .boolean), Cond.fieldLink RX4 16 "TellingBenchModel" "sum" "[I", Cond.methodLink RX4 54 yX4_isPlace, Cond.static yX4_isPlace, Cond.code yX4_isPlace cX4_isPlace 1 (some .boolean), Cond.methodLink RX4 50 yX4_isIn, Cond.static yX4_isIn, Cond.code yX4_isIn cX4_isIn 3 (some .boolean), Cond.methodLink RX4 99 yX4_clear, Cond.instanceMethod yX4_clear, Cond.selects RX4 yX4_clear yX4_clear, Cond.code yX4_clear cX4_clear 2 none, Cond.fieldLink RX4 25 "TellingBenchModel" "power" "[I", Cond.methodLink RX4 82 yX4_doubt, Cond.instanceMethod yX4_doubt, Cond.selects RX4 yX4_doubt yX4_doubt, Cond.code yX4_doubt cX4_doubt 5 none, Cond.fieldLink RX4 28 "TellingBenchModel" "share" "[I", Cond.methodLink RX4 75 yX4_settings, Cond.instanceMethod yX4_settings]
def wsX4_secret_r2 : List Cond := [Cond.selects RX4 yX4_settings yX4_settings, Cond.code yX4_settings cX4_settings 4 none, Cond.fieldLink RX4 13 "TellingBenchModel" "weight" "[I", Cond.methodLink RX4 79 yX4_add, Cond.instanceMethod yX4_add, Cond.selects RX4 yX4_add yX4_add, Cond.code yX4_add cX4_add 5 none, Cond.fieldLink RX4 22 "TellingBenchModel" "primes" "[I", Cond.methodLink RX4 105 yX4_signOf, Cond.instanceMethod yX4_signOf, Cond.selects RX4 yX4_signOf yX4_signOf, Cond.code yX4_signOf cX4_signOf 4 (some .int), Cond.fieldLink RX4 31 "TellingBenchModel" "upper" "[I", Cond.fieldLink RX4 34 "TellingBenchModel" "lower" "[I", Cond.methodLink RX4 96 yX4_multiply, Cond.instanceMethod yX4_multiply, Cond.selects RX4 yX4_multiply yX4_multiply, Cond.code yX4_multiply cX4_multiply 6 none, Cond.fieldLink RX4 86 "TellingBenchModel" "limbs" "I", Cond.constant RX4 90 (32768), Cond.methodLink RX4 91 yX4_times, Cond.instanceMethod yX4_times, Cond.selects RX4 yX4_times yX4_times, Cond.code yX4_times cX4_times 6 none]
def wsX4_secret_r3 : List Cond := [Cond.constant RX4 95 (65535)]
def wsX4_secret : List Cond := .code yX4_secret cX4_secret 3 (some .int) :: ((wsX4_secret_r1 ++ (wsX4_secret_r2 ++ wsX4_secret_r3)) ++ wsX40)
def wsJ9_abs_0f7a4 : List Cond := .code yJ9_abs_0f7a4 cJ9_abs_0f7a4 1 (some .int) :: ([])
def wsJ9_abs_067f4 : List Cond := .code yJ9_abs_067f4 cJ9_abs_067f4 2 (some .long) :: ([])
end
section
set_option maxRecDepth 20000 in
theorem ggX0_init_X1_init : GoodIn wsX0_init wsX1_init := goodIn_r _ [12, 13, 2, 3, 14, 15, 16, 20, 21] (by decide +kernel) (by decide +kernel)
set_option maxRecDepth 20000 in
theorem gX0_init_X1_init_n20 : GoodIn wsX0_init (wsX1_init) := ggX0_init_X1_init
theorem dX0_init_0 : decode cX0_init 0 = .ok (.aload_n 0, 1) := by decide +kernel
theorem dX0_init_1 : decode cX0_init 1 = .ok (.invokespecial 3, 3) := by decide +kernel
theorem dX0_init_4 : decode cX0_init 4 = .ok (.aload_n 0, 1) := by decide +kernel
theorem dX0_init_5 : decode cX0_init 5 = .ok (.getstatic 9, 3) := by decide +kernel
theorem dX0_init_8 : decode cX0_init 8 = .ok (.arraylength, 1) := by decide +kernel
theorem dX0_init_9 : decode cX0_init 9 = .ok (.newarray .int, 2) := by decide +kernel
theorem dX0_init_11 : decode cX0_init 11 = .ok (.putfield 13, 3) := by decide +kernel
theorem dX0_init_14 : decode cX0_init 14 = .ok (.aload_n 0, 1) := by decide +kernel
theorem dX0_init_15 : decode cX0_init 15 = .ok (.new 18, 3) := by decide +kernel
theorem dX0_init_18 : decode cX0_init 18 = .ok (.dup, 1) := by decide +kernel
theorem dX0_init_19 : decode cX0_init 19 = .ok (.invokespecial 20, 3) := by decide +kernel
theorem dX0_init_22 : decode cX0_init 22 = .ok (.putfield 21, 3) := by decide +kernel
theorem dX0_init_25 : decode cX0_init 25 = .ok (.aload_n 0, 1) := by decide +kernel
theorem dX0_init_26 : decode cX0_init 26 = .ok (.new 18, 3) := by decide +kernel
theorem dX0_init_29 : decode cX0_init 29 = .ok (.dup, 1) := by decide +kernel
theorem dX0_init_30 : decode cX0_init 30 = .ok (.invokespecial 20, 3) := by decide +kernel
theorem dX0_init_33 : decode cX0_init 33 = .ok (.putfield 25, 3) := by decide +kernel
theorem dX0_init_36 : decode cX0_init 36 = .ok (.return_, 1) := by decide +kernel
set_option maxRecDepth 20000 in
theorem ggX0_clear_J7_fill_53178 : GoodIn wsX0_clear wsJ7_fill_53178 := goodIn_r _ [5] (by decide +kernel) (by decide +kernel)
set_option maxRecDepth 20000 in
theorem gX0_clear_J7_fill_53178 : GoodIn wsX0_clear (va_wsS RX0 28 yJ7_fill_53178 wsJ7_fill_53178) := goodIn_app (goodIn_of _ (by decide +kernel)) ggX0_clear_J7_fill_53178
theorem dX0_clear_0 : decode cX0_clear 0 = .ok (.aload_n 0, 1) := by decide +kernel
theorem dX0_clear_1 : decode cX0_clear 1 = .ok (.getfield 13, 3) := by decide +kernel
theorem dX0_clear_4 : decode cX0_clear 4 = .ok (.iconst 0, 1) := by decide +kernel
theorem dX0_clear_5 : decode cX0_clear 5 = .ok (.invokestatic 28, 3) := by decide +kernel
theorem dX0_clear_8 : decode cX0_clear 8 = .ok (.return_, 1) := by decide +kernel
theorem dX0_addLog_0 : decode cX0_addLog 0 = .ok (.iload_n 1, 1) := by decide +kernel
theorem dX0_addLog_1 : decode cX0_addLog 1 = .ok (.iconst 1, 1) := by decide +kernel
theorem dX0_addLog_2 : decode cX0_addLog 2 = .ok (.if_icmp .lt 9, 3) := by decide +kernel
theorem dX0_addLog_5 : decode cX0_addLog 5 = .ok (.iload_n 1, 1) := by decide +kernel
theorem dX0_addLog_6 : decode cX0_addLog 6 = .ok (.bipush 16, 2) := by decide +kernel
theorem dX0_addLog_8 : decode cX0_addLog 8 = .ok (.if_icmp .le 4, 3) := by decide +kernel
theorem dX0_addLog_11 : decode cX0_addLog 11 = .ok (.return_, 1) := by decide +kernel
theorem dX0_addLog_12 : decode cX0_addLog 12 = .ok (.iconst 0, 1) := by decide +kernel
theorem dX0_addLog_13 : decode cX0_addLog 13 = .ok (.istore_n 3, 1) := by decide +kernel
theorem dX0_addLog_14 : decode cX0_addLog 14 = .ok (.iload_n 3, 1) := by decide +kernel
theorem dX0_addLog_15 : decode cX0_addLog 15 = .ok (.getstatic 9, 3) := by decide +kernel
theorem dX0_addLog_18 : decode cX0_addLog 18 = .ok (.arraylength, 1) := by decide +kernel
theorem dX0_addLog_19 : decode cX0_addLog 19 = .ok (.if_icmp .ge 32, 3) := by decide +kernel
theorem dX0_addLog_22 : decode cX0_addLog 22 = .ok (.aload_n 0, 1) := by decide +kernel
theorem dX0_addLog_23 : decode cX0_addLog 23 = .ok (.getfield 13, 3) := by decide +kernel
theorem dX0_addLog_26 : decode cX0_addLog 26 = .ok (.iload_n 3, 1) := by decide +kernel
theorem dX0_addLog_27 : decode cX0_addLog 27 = .ok (.dup2, 1) := by decide +kernel
theorem dX0_addLog_28 : decode cX0_addLog 28 = .ok (.iaload, 1) := by decide +kernel
theorem dX0_addLog_29 : decode cX0_addLog 29 = .ok (.iload_n 2, 1) := by decide +kernel
theorem dX0_addLog_30 : decode cX0_addLog 30 = .ok (.getstatic 34, 3) := by decide +kernel
theorem dX0_addLog_33 : decode cX0_addLog 33 = .ok (.iload_n 1, 1) := by decide +kernel
theorem dX0_addLog_34 : decode cX0_addLog 34 = .ok (.getstatic 9, 3) := by decide +kernel
theorem dX0_addLog_37 : decode cX0_addLog 37 = .ok (.arraylength, 1) := by decide +kernel
theorem dX0_addLog_38 : decode cX0_addLog 38 = .ok (.imul, 1) := by decide +kernel
theorem dX0_addLog_39 : decode cX0_addLog 39 = .ok (.iload_n 3, 1) := by decide +kernel
theorem dX0_addLog_40 : decode cX0_addLog 40 = .ok (.iadd, 1) := by decide +kernel
theorem dX0_addLog_41 : decode cX0_addLog 41 = .ok (.iaload, 1) := by decide +kernel
theorem dX0_addLog_42 : decode cX0_addLog 42 = .ok (.imul, 1) := by decide +kernel
theorem dX0_addLog_43 : decode cX0_addLog 43 = .ok (.iadd, 1) := by decide +kernel
theorem dX0_addLog_44 : decode cX0_addLog 44 = .ok (.iastore, 1) := by decide +kernel
theorem dX0_addLog_45 : decode cX0_addLog 45 = .ok (.iinc 3 1, 3) := by decide +kernel
theorem dX0_addLog_48 : decode cX0_addLog 48 = .ok (.goto (-34), 3) := by decide +kernel
theorem dX0_addLog_51 : decode cX0_addLog 51 = .ok (.return_, 1) := by decide +kernel
theorem dX0_isNought_0 : decode cX0_isNought 0 = .ok (.iconst 0, 1) := by decide +kernel
theorem dX0_isNought_1 : decode cX0_isNought 1 = .ok (.istore_n 1, 1) := by decide +kernel
theorem dX0_isNought_2 : decode cX0_isNought 2 = .ok (.iload_n 1, 1) := by decide +kernel
theorem dX0_isNought_3 : decode cX0_isNought 3 = .ok (.getstatic 9, 3) := by decide +kernel
theorem dX0_isNought_6 : decode cX0_isNought 6 = .ok (.arraylength, 1) := by decide +kernel
theorem dX0_isNought_7 : decode cX0_isNought 7 = .ok (.if_icmp .ge 20, 3) := by decide +kernel
theorem dX0_isNought_10 : decode cX0_isNought 10 = .ok (.aload_n 0, 1) := by decide +kernel
theorem dX0_isNought_11 : decode cX0_isNought 11 = .ok (.getfield 13, 3) := by decide +kernel
theorem dX0_isNought_14 : decode cX0_isNought 14 = .ok (.iload_n 1, 1) := by decide +kernel
theorem dX0_isNought_15 : decode cX0_isNought 15 = .ok (.iaload, 1) := by decide +kernel
theorem dX0_isNought_16 : decode cX0_isNought 16 = .ok (.ifCond .eq 5, 3) := by decide +kernel
theorem dX0_isNought_19 : decode cX0_isNought 19 = .ok (.iconst 0, 1) := by decide +kernel
theorem dX0_isNought_20 : decode cX0_isNought 20 = .ok (.ireturn, 1) := by decide +kernel
theorem dX0_isNought_21 : decode cX0_isNought 21 = .ok (.iinc 1 1, 3) := by decide +kernel
theorem dX0_isNought_24 : decode cX0_isNought 24 = .ok (.goto (-22), 3) := by decide +kernel
theorem dX0_isNought_27 : decode cX0_isNought 27 = .ok (.iconst 1, 1) := by decide +kernel
theorem dX0_isNought_28 : decode cX0_isNought 28 = .ok (.ireturn, 1) := by decide +kernel
set_option maxRecDepth 20000 in
theorem ggX0_signOfSum_X0_isNought : GoodIn wsX0_signOfSum wsX0_isNought := goodIn_r _ [10, 1, 35, 36, 37] (by decide +kernel) (by decide +kernel)
set_option maxRecDepth 20000 in
theorem gX0_signOfSum_X0_isNought : GoodIn wsX0_signOfSum (wsV RX0 47 RX0 yX0_isNought wsX0_isNought) := goodIn_app (goodIn_of _ (by decide +kernel)) ggX0_signOfSum_X0_isNought
set_option maxRecDepth 20000 in
theorem ggX0_signOfSum_X0_signOfProducts : GoodIn wsX0_signOfSum wsX0_signOfProducts := goodIn_r _ [14, 15, 16, 1, 17, 18, 19, 20, 21, 22, 23, 24, 25, 26, 27, 28, 29, 30, 31, 32, 33, 34, 35, 36, 37, 38, 39] (by decide +kernel) (by decide +kernel)
set_option maxRecDepth 20000 in
theorem gX0_signOfSum_X0_signOfProducts : GoodIn wsX0_signOfSum (wsV RX0 51 RX0 yX0_signOfProducts wsX0_signOfProducts) := goodIn_app (goodIn_of _ (by decide +kernel)) ggX0_signOfSum_X0_signOfProducts
theorem dX0_signOfSum_0 : decode cX0_signOfSum 0 = .ok (.lconst 0, 1) := by decide +kernel
theorem dX0_signOfSum_1 : decode cX0_signOfSum 1 = .ok (.lstore_n 1, 1) := by decide +kernel
theorem dX0_signOfSum_2 : decode cX0_signOfSum 2 = .ok (.lconst 0, 1) := by decide +kernel
theorem dX0_signOfSum_3 : decode cX0_signOfSum 3 = .ok (.lstore_n 3, 1) := by decide +kernel
theorem dX0_signOfSum_4 : decode cX0_signOfSum 4 = .ok (.iconst 0, 1) := by decide +kernel
theorem dX0_signOfSum_5 : decode cX0_signOfSum 5 = .ok (.istore 5, 2) := by decide +kernel
theorem dX0_signOfSum_7 : decode cX0_signOfSum 7 = .ok (.iload 5, 2) := by decide +kernel
theorem dX0_signOfSum_9 : decode cX0_signOfSum 9 = .ok (.getstatic 9, 3) := by decide +kernel
theorem dX0_signOfSum_12 : decode cX0_signOfSum 12 = .ok (.arraylength, 1) := by decide +kernel
theorem dX0_signOfSum_13 : decode cX0_signOfSum 13 = .ok (.if_icmp .ge 41, 3) := by decide +kernel
theorem dX0_signOfSum_16 : decode cX0_signOfSum 16 = .ok (.lload_n 1, 1) := by decide +kernel
theorem dX0_signOfSum_17 : decode cX0_signOfSum 17 = .ok (.aload_n 0, 1) := by decide +kernel
theorem dX0_signOfSum_18 : decode cX0_signOfSum 18 = .ok (.getfield 13, 3) := by decide +kernel
theorem dX0_signOfSum_21 : decode cX0_signOfSum 21 = .ok (.iload 5, 2) := by decide +kernel
theorem dX0_signOfSum_23 : decode cX0_signOfSum 23 = .ok (.iaload, 1) := by decide +kernel
theorem dX0_signOfSum_24 : decode cX0_signOfSum 24 = .ok (.i2l, 1) := by decide +kernel
theorem dX0_signOfSum_25 : decode cX0_signOfSum 25 = .ok (.getstatic 37, 3) := by decide +kernel
theorem dX0_signOfSum_28 : decode cX0_signOfSum 28 = .ok (.iload 5, 2) := by decide +kernel
theorem dX0_signOfSum_30 : decode cX0_signOfSum 30 = .ok (.laload, 1) := by decide +kernel
theorem dX0_signOfSum_31 : decode cX0_signOfSum 31 = .ok (.lmul, 1) := by decide +kernel
theorem dX0_signOfSum_32 : decode cX0_signOfSum 32 = .ok (.ladd, 1) := by decide +kernel
theorem dX0_signOfSum_33 : decode cX0_signOfSum 33 = .ok (.lstore_n 1, 1) := by decide +kernel
theorem dX0_signOfSum_34 : decode cX0_signOfSum 34 = .ok (.lload_n 3, 1) := by decide +kernel
theorem dX0_signOfSum_35 : decode cX0_signOfSum 35 = .ok (.aload_n 0, 1) := by decide +kernel
theorem dX0_signOfSum_36 : decode cX0_signOfSum 36 = .ok (.getfield 13, 3) := by decide +kernel
theorem dX0_signOfSum_39 : decode cX0_signOfSum 39 = .ok (.iload 5, 2) := by decide +kernel
theorem dX0_signOfSum_41 : decode cX0_signOfSum 41 = .ok (.iaload, 1) := by decide +kernel
theorem dX0_signOfSum_42 : decode cX0_signOfSum 42 = .ok (.invokestatic 41, 3) := by decide +kernel
theorem dX0_signOfSum_45 : decode cX0_signOfSum 45 = .ok (.i2l, 1) := by decide +kernel
theorem dX0_signOfSum_46 : decode cX0_signOfSum 46 = .ok (.ladd, 1) := by decide +kernel
theorem dX0_signOfSum_47 : decode cX0_signOfSum 47 = .ok (.lstore_n 3, 1) := by decide +kernel
theorem dX0_signOfSum_48 : decode cX0_signOfSum 48 = .ok (.iinc 5 1, 3) := by decide +kernel
theorem dX0_signOfSum_51 : decode cX0_signOfSum 51 = .ok (.goto (-44), 3) := by decide +kernel
theorem dX0_signOfSum_54 : decode cX0_signOfSum 54 = .ok (.lload_n 1, 1) := by decide +kernel
theorem dX0_signOfSum_55 : decode cX0_signOfSum 55 = .ok (.lload_n 3, 1) := by decide +kernel
theorem dX0_signOfSum_56 : decode cX0_signOfSum 56 = .ok (.lcmp, 1) := by decide +kernel
theorem dX0_signOfSum_57 : decode cX0_signOfSum 57 = .ok (.ifCond .le 5, 3) := by decide +kernel
theorem dX0_signOfSum_60 : decode cX0_signOfSum 60 = .ok (.iconst 1, 1) := by decide +kernel
theorem dX0_signOfSum_61 : decode cX0_signOfSum 61 = .ok (.ireturn, 1) := by decide +kernel
theorem dX0_signOfSum_62 : decode cX0_signOfSum 62 = .ok (.lload_n 1, 1) := by decide +kernel
theorem dX0_signOfSum_63 : decode cX0_signOfSum 63 = .ok (.lload_n 3, 1) := by decide +kernel
theorem dX0_signOfSum_64 : decode cX0_signOfSum 64 = .ok (.lneg, 1) := by decide +kernel
theorem dX0_signOfSum_65 : decode cX0_signOfSum 65 = .ok (.lcmp, 1) := by decide +kernel
theorem dX0_signOfSum_66 : decode cX0_signOfSum 66 = .ok (.ifCond .ge 5, 3) := by decide +kernel
theorem dX0_signOfSum_69 : decode cX0_signOfSum 69 = .ok (.iconst (-1), 1) := by decide +kernel
theorem dX0_signOfSum_70 : decode cX0_signOfSum 70 = .ok (.ireturn, 1) := by decide +kernel
theorem dX0_signOfSum_71 : decode cX0_signOfSum 71 = .ok (.aload_n 0, 1) := by decide +kernel
theorem dX0_signOfSum_72 : decode cX0_signOfSum 72 = .ok (.invokevirtual 47, 3) := by decide +kernel
theorem dX0_signOfSum_75 : decode cX0_signOfSum 75 = .ok (.ifCond .eq 7, 3) := by decide +kernel
theorem dX0_signOfSum_78 : decode cX0_signOfSum 78 = .ok (.iconst 0, 1) := by decide +kernel
theorem dX0_signOfSum_79 : decode cX0_signOfSum 79 = .ok (.goto 7, 3) := by decide +kernel
theorem dX0_signOfSum_82 : decode cX0_signOfSum 82 = .ok (.aload_n 0, 1) := by decide +kernel
theorem dX0_signOfSum_83 : decode cX0_signOfSum 83 = .ok (.invokevirtual 51, 3) := by decide +kernel
theorem dX0_signOfSum_86 : decode cX0_signOfSum 86 = .ok (.ireturn, 1) := by decide +kernel
set_option maxRecDepth 20000 in
theorem ggX0_signOfProducts_X1_becomeOne : GoodIn wsX0_signOfProducts wsX1_becomeOne := goodIn_r _ [7, 8, 9, 25, 26] (by decide +kernel) (by decide +kernel)
set_option maxRecDepth 20000 in
theorem gX0_signOfProducts_X1_becomeOne_n55 : GoodIn wsX0_signOfProducts (wsX1_becomeOne) := ggX0_signOfProducts_X1_becomeOne
set_option maxRecDepth 20000 in
theorem ggX0_signOfProducts_X1_multiplyByPower : GoodIn wsX0_signOfProducts wsX1_multiplyByPower := goodIn_r _ [12, 13, 14, 15, 16, 5, 17, 9, 8, 18, 25, 26] (by decide +kernel) (by decide +kernel)
set_option maxRecDepth 20000 in
theorem gX0_signOfProducts_X1_multiplyByPower_n58 : GoodIn wsX0_signOfProducts (wsX1_multiplyByPower) := ggX0_signOfProducts_X1_multiplyByPower
set_option maxRecDepth 20000 in
theorem ggX0_signOfProducts_X1_against : GoodIn wsX0_signOfProducts wsX1_against := goodIn_r _ [21, 9, 8, 25, 26] (by decide +kernel) (by decide +kernel)
set_option maxRecDepth 20000 in
theorem gX0_signOfProducts_X1_against_n62 : GoodIn wsX0_signOfProducts (wsX1_against) := ggX0_signOfProducts_X1_against
theorem dX0_signOfProducts_0 : decode cX0_signOfProducts 0 = .ok (.aload_n 0, 1) := by decide +kernel
theorem dX0_signOfProducts_1 : decode cX0_signOfProducts 1 = .ok (.getfield 21, 3) := by decide +kernel
theorem dX0_signOfProducts_4 : decode cX0_signOfProducts 4 = .ok (.invokevirtual 55, 3) := by decide +kernel
theorem dX0_signOfProducts_7 : decode cX0_signOfProducts 7 = .ok (.aload_n 0, 1) := by decide +kernel
theorem dX0_signOfProducts_8 : decode cX0_signOfProducts 8 = .ok (.getfield 25, 3) := by decide +kernel
theorem dX0_signOfProducts_11 : decode cX0_signOfProducts 11 = .ok (.invokevirtual 55, 3) := by decide +kernel
theorem dX0_signOfProducts_14 : decode cX0_signOfProducts 14 = .ok (.iconst 0, 1) := by decide +kernel
theorem dX0_signOfProducts_15 : decode cX0_signOfProducts 15 = .ok (.istore_n 1, 1) := by decide +kernel
theorem dX0_signOfProducts_16 : decode cX0_signOfProducts 16 = .ok (.iload_n 1, 1) := by decide +kernel
theorem dX0_signOfProducts_17 : decode cX0_signOfProducts 17 = .ok (.getstatic 9, 3) := by decide +kernel
theorem dX0_signOfProducts_20 : decode cX0_signOfProducts 20 = .ok (.arraylength, 1) := by decide +kernel
theorem dX0_signOfProducts_21 : decode cX0_signOfProducts 21 = .ok (.if_icmp .ge 46, 3) := by decide +kernel
theorem dX0_signOfProducts_24 : decode cX0_signOfProducts 24 = .ok (.aload_n 0, 1) := by decide +kernel
theorem dX0_signOfProducts_25 : decode cX0_signOfProducts 25 = .ok (.getfield 21, 3) := by decide +kernel
theorem dX0_signOfProducts_28 : decode cX0_signOfProducts 28 = .ok (.getstatic 9, 3) := by decide +kernel
theorem dX0_signOfProducts_31 : decode cX0_signOfProducts 31 = .ok (.iload_n 1, 1) := by decide +kernel
theorem dX0_signOfProducts_32 : decode cX0_signOfProducts 32 = .ok (.iaload, 1) := by decide +kernel
theorem dX0_signOfProducts_33 : decode cX0_signOfProducts 33 = .ok (.aload_n 0, 1) := by decide +kernel
theorem dX0_signOfProducts_34 : decode cX0_signOfProducts 34 = .ok (.getfield 13, 3) := by decide +kernel
theorem dX0_signOfProducts_37 : decode cX0_signOfProducts 37 = .ok (.iload_n 1, 1) := by decide +kernel
theorem dX0_signOfProducts_38 : decode cX0_signOfProducts 38 = .ok (.iaload, 1) := by decide +kernel
theorem dX0_signOfProducts_39 : decode cX0_signOfProducts 39 = .ok (.invokevirtual 58, 3) := by decide +kernel
theorem dX0_signOfProducts_42 : decode cX0_signOfProducts 42 = .ok (.aload_n 0, 1) := by decide +kernel
theorem dX0_signOfProducts_43 : decode cX0_signOfProducts 43 = .ok (.getfield 25, 3) := by decide +kernel
theorem dX0_signOfProducts_46 : decode cX0_signOfProducts 46 = .ok (.getstatic 9, 3) := by decide +kernel
theorem dX0_signOfProducts_49 : decode cX0_signOfProducts 49 = .ok (.iload_n 1, 1) := by decide +kernel
theorem dX0_signOfProducts_50 : decode cX0_signOfProducts 50 = .ok (.iaload, 1) := by decide +kernel
theorem dX0_signOfProducts_51 : decode cX0_signOfProducts 51 = .ok (.aload_n 0, 1) := by decide +kernel
theorem dX0_signOfProducts_52 : decode cX0_signOfProducts 52 = .ok (.getfield 13, 3) := by decide +kernel
theorem dX0_signOfProducts_55 : decode cX0_signOfProducts 55 = .ok (.iload_n 1, 1) := by decide +kernel
theorem dX0_signOfProducts_56 : decode cX0_signOfProducts 56 = .ok (.iaload, 1) := by decide +kernel
theorem dX0_signOfProducts_57 : decode cX0_signOfProducts 57 = .ok (.ineg, 1) := by decide +kernel
theorem dX0_signOfProducts_58 : decode cX0_signOfProducts 58 = .ok (.invokevirtual 58, 3) := by decide +kernel
theorem dX0_signOfProducts_61 : decode cX0_signOfProducts 61 = .ok (.iinc 1 1, 3) := by decide +kernel
theorem dX0_signOfProducts_64 : decode cX0_signOfProducts 64 = .ok (.goto (-48), 3) := by decide +kernel
theorem dX0_signOfProducts_67 : decode cX0_signOfProducts 67 = .ok (.aload_n 0, 1) := by decide +kernel
theorem dX0_signOfProducts_68 : decode cX0_signOfProducts 68 = .ok (.getfield 21, 3) := by decide +kernel
theorem dX0_signOfProducts_71 : decode cX0_signOfProducts 71 = .ok (.aload_n 0, 1) := by decide +kernel
theorem dX0_signOfProducts_72 : decode cX0_signOfProducts 72 = .ok (.getfield 25, 3) := by decide +kernel
theorem dX0_signOfProducts_75 : decode cX0_signOfProducts 75 = .ok (.invokevirtual 62, 3) := by decide +kernel
theorem dX0_signOfProducts_78 : decode cX0_signOfProducts 78 = .ok (.ireturn, 1) := by decide +kernel
theorem dX1_init_0 : decode cX1_init 0 = .ok (.aload_n 0, 1) := by decide +kernel
theorem dX1_init_1 : decode cX1_init 1 = .ok (.invokespecial 1, 3) := by decide +kernel
theorem dX1_init_4 : decode cX1_init 4 = .ok (.aload_n 0, 1) := by decide +kernel
theorem dX1_init_5 : decode cX1_init 5 = .ok (.sipush 1024, 3) := by decide +kernel
theorem dX1_init_8 : decode cX1_init 8 = .ok (.newarray .long, 2) := by decide +kernel
theorem dX1_init_10 : decode cX1_init 10 = .ok (.putfield 9, 3) := by decide +kernel
theorem dX1_init_13 : decode cX1_init 13 = .ok (.aload_n 0, 1) := by decide +kernel
theorem dX1_init_14 : decode cX1_init 14 = .ok (.iconst 0, 1) := by decide +kernel
theorem dX1_init_15 : decode cX1_init 15 = .ok (.putfield 13, 3) := by decide +kernel
theorem dX1_init_18 : decode cX1_init 18 = .ok (.return_, 1) := by decide +kernel
theorem dX1_becomeOne_0 : decode cX1_becomeOne 0 = .ok (.aload_n 0, 1) := by decide +kernel
theorem dX1_becomeOne_1 : decode cX1_becomeOne 1 = .ok (.getfield 9, 3) := by decide +kernel
theorem dX1_becomeOne_4 : decode cX1_becomeOne 4 = .ok (.iconst 0, 1) := by decide +kernel
theorem dX1_becomeOne_5 : decode cX1_becomeOne 5 = .ok (.lconst 1, 1) := by decide +kernel
theorem dX1_becomeOne_6 : decode cX1_becomeOne 6 = .ok (.lastore, 1) := by decide +kernel
theorem dX1_becomeOne_7 : decode cX1_becomeOne 7 = .ok (.aload_n 0, 1) := by decide +kernel
theorem dX1_becomeOne_8 : decode cX1_becomeOne 8 = .ok (.iconst 1, 1) := by decide +kernel
theorem dX1_becomeOne_9 : decode cX1_becomeOne 9 = .ok (.putfield 13, 3) := by decide +kernel
theorem dX1_becomeOne_12 : decode cX1_becomeOne 12 = .ok (.return_, 1) := by decide +kernel
set_option maxRecDepth 20000 in
theorem ggX1_multiplyByPower_X1_multiplyBy : GoodIn wsX1_multiplyByPower wsX1_multiplyBy := goodIn_r _ [6, 7, 8, 9, 10, 11] (by decide +kernel) (by decide +kernel)
set_option maxRecDepth 20000 in
theorem gX1_multiplyByPower_X1_multiplyBy : GoodIn wsX1_multiplyByPower (wsV RX1 19 RX1 yX1_multiplyBy wsX1_multiplyBy) := goodIn_app (goodIn_of _ (by decide +kernel)) ggX1_multiplyByPower_X1_multiplyBy
theorem dX1_multiplyByPower_0 : decode cX1_multiplyByPower 0 = .ok (.lconst 1, 1) := by decide +kernel
theorem dX1_multiplyByPower_1 : decode cX1_multiplyByPower 1 = .ok (.lstore_n 3, 1) := by decide +kernel
theorem dX1_multiplyByPower_2 : decode cX1_multiplyByPower 2 = .ok (.iload_n 2, 1) := by decide +kernel
theorem dX1_multiplyByPower_3 : decode cX1_multiplyByPower 3 = .ok (.istore 5, 2) := by decide +kernel
theorem dX1_multiplyByPower_5 : decode cX1_multiplyByPower 5 = .ok (.iload 5, 2) := by decide +kernel
theorem dX1_multiplyByPower_7 : decode cX1_multiplyByPower 7 = .ok (.ifCond .le 35, 3) := by decide +kernel
theorem dX1_multiplyByPower_10 : decode cX1_multiplyByPower 10 = .ok (.lload_n 3, 1) := by decide +kernel
theorem dX1_multiplyByPower_11 : decode cX1_multiplyByPower 11 = .ok (.iload_n 1, 1) := by decide +kernel
theorem dX1_multiplyByPower_12 : decode cX1_multiplyByPower 12 = .ok (.i2l, 1) := by decide +kernel
theorem dX1_multiplyByPower_13 : decode cX1_multiplyByPower 13 = .ok (.lmul, 1) := by decide +kernel
theorem dX1_multiplyByPower_14 : decode cX1_multiplyByPower 14 = .ok (.lstore_n 3, 1) := by decide +kernel
theorem dX1_multiplyByPower_15 : decode cX1_multiplyByPower 15 = .ok (.lload_n 3, 1) := by decide +kernel
theorem dX1_multiplyByPower_16 : decode cX1_multiplyByPower 16 = .ok (.ldc2_w 17, 3) := by decide +kernel
theorem dX1_multiplyByPower_19 : decode cX1_multiplyByPower 19 = .ok (.lcmp, 1) := by decide +kernel
theorem dX1_multiplyByPower_20 : decode cX1_multiplyByPower 20 = .ok (.ifCond .ge 9, 3) := by decide +kernel
theorem dX1_multiplyByPower_23 : decode cX1_multiplyByPower 23 = .ok (.iload 5, 2) := by decide +kernel
theorem dX1_multiplyByPower_25 : decode cX1_multiplyByPower 25 = .ok (.iconst 1, 1) := by decide +kernel
theorem dX1_multiplyByPower_26 : decode cX1_multiplyByPower 26 = .ok (.if_icmp .ne 10, 3) := by decide +kernel
theorem dX1_multiplyByPower_29 : decode cX1_multiplyByPower 29 = .ok (.aload_n 0, 1) := by decide +kernel
theorem dX1_multiplyByPower_30 : decode cX1_multiplyByPower 30 = .ok (.lload_n 3, 1) := by decide +kernel
theorem dX1_multiplyByPower_31 : decode cX1_multiplyByPower 31 = .ok (.invokevirtual 19, 3) := by decide +kernel
theorem dX1_multiplyByPower_34 : decode cX1_multiplyByPower 34 = .ok (.lconst 1, 1) := by decide +kernel
theorem dX1_multiplyByPower_35 : decode cX1_multiplyByPower 35 = .ok (.lstore_n 3, 1) := by decide +kernel
theorem dX1_multiplyByPower_36 : decode cX1_multiplyByPower 36 = .ok (.iinc 5 (-1), 3) := by decide +kernel
theorem dX1_multiplyByPower_39 : decode cX1_multiplyByPower 39 = .ok (.goto (-34), 3) := by decide +kernel
theorem dX1_multiplyByPower_42 : decode cX1_multiplyByPower 42 = .ok (.return_, 1) := by decide +kernel
theorem dX1_multiplyBy_0 : decode cX1_multiplyBy 0 = .ok (.lconst 0, 1) := by decide +kernel
theorem dX1_multiplyBy_1 : decode cX1_multiplyBy 1 = .ok (.lstore_n 3, 1) := by decide +kernel
theorem dX1_multiplyBy_2 : decode cX1_multiplyBy 2 = .ok (.iconst 0, 1) := by decide +kernel
theorem dX1_multiplyBy_3 : decode cX1_multiplyBy 3 = .ok (.istore 5, 2) := by decide +kernel
theorem dX1_multiplyBy_5 : decode cX1_multiplyBy 5 = .ok (.iload 5, 2) := by decide +kernel
theorem dX1_multiplyBy_7 : decode cX1_multiplyBy 7 = .ok (.aload_n 0, 1) := by decide +kernel
theorem dX1_multiplyBy_8 : decode cX1_multiplyBy 8 = .ok (.getfield 13, 3) := by decide +kernel
theorem dX1_multiplyBy_11 : decode cX1_multiplyBy 11 = .ok (.if_icmp .ge 41, 3) := by decide +kernel
theorem dX1_multiplyBy_14 : decode cX1_multiplyBy 14 = .ok (.aload_n 0, 1) := by decide +kernel
theorem dX1_multiplyBy_15 : decode cX1_multiplyBy 15 = .ok (.getfield 9, 3) := by decide +kernel
theorem dX1_multiplyBy_18 : decode cX1_multiplyBy 18 = .ok (.iload 5, 2) := by decide +kernel
theorem dX1_multiplyBy_20 : decode cX1_multiplyBy 20 = .ok (.laload, 1) := by decide +kernel
theorem dX1_multiplyBy_21 : decode cX1_multiplyBy 21 = .ok (.lload_n 1, 1) := by decide +kernel
theorem dX1_multiplyBy_22 : decode cX1_multiplyBy 22 = .ok (.lmul, 1) := by decide +kernel
theorem dX1_multiplyBy_23 : decode cX1_multiplyBy 23 = .ok (.lload_n 3, 1) := by decide +kernel
theorem dX1_multiplyBy_24 : decode cX1_multiplyBy 24 = .ok (.ladd, 1) := by decide +kernel
theorem dX1_multiplyBy_25 : decode cX1_multiplyBy 25 = .ok (.lstore 6, 2) := by decide +kernel
theorem dX1_multiplyBy_27 : decode cX1_multiplyBy 27 = .ok (.aload_n 0, 1) := by decide +kernel
theorem dX1_multiplyBy_28 : decode cX1_multiplyBy 28 = .ok (.getfield 9, 3) := by decide +kernel
theorem dX1_multiplyBy_31 : decode cX1_multiplyBy 31 = .ok (.iload 5, 2) := by decide +kernel
theorem dX1_multiplyBy_33 : decode cX1_multiplyBy 33 = .ok (.lload 6, 2) := by decide +kernel
theorem dX1_multiplyBy_35 : decode cX1_multiplyBy 35 = .ok (.ldc2_w 23, 3) := by decide +kernel
theorem dX1_multiplyBy_38 : decode cX1_multiplyBy 38 = .ok (.land, 1) := by decide +kernel
theorem dX1_multiplyBy_39 : decode cX1_multiplyBy 39 = .ok (.lastore, 1) := by decide +kernel
theorem dX1_multiplyBy_40 : decode cX1_multiplyBy 40 = .ok (.lload 6, 2) := by decide +kernel
theorem dX1_multiplyBy_42 : decode cX1_multiplyBy 42 = .ok (.bipush 32, 2) := by decide +kernel
theorem dX1_multiplyBy_44 : decode cX1_multiplyBy 44 = .ok (.lushr, 1) := by decide +kernel
theorem dX1_multiplyBy_45 : decode cX1_multiplyBy 45 = .ok (.lstore_n 3, 1) := by decide +kernel
theorem dX1_multiplyBy_46 : decode cX1_multiplyBy 46 = .ok (.iinc 5 1, 3) := by decide +kernel
theorem dX1_multiplyBy_49 : decode cX1_multiplyBy 49 = .ok (.goto (-44), 3) := by decide +kernel
theorem dX1_multiplyBy_52 : decode cX1_multiplyBy 52 = .ok (.lload_n 3, 1) := by decide +kernel
theorem dX1_multiplyBy_53 : decode cX1_multiplyBy 53 = .ok (.lconst 0, 1) := by decide +kernel
theorem dX1_multiplyBy_54 : decode cX1_multiplyBy 54 = .ok (.lcmp, 1) := by decide +kernel
theorem dX1_multiplyBy_55 : decode cX1_multiplyBy 55 = .ok (.ifCond .le 33, 3) := by decide +kernel
theorem dX1_multiplyBy_58 : decode cX1_multiplyBy 58 = .ok (.aload_n 0, 1) := by decide +kernel
theorem dX1_multiplyBy_59 : decode cX1_multiplyBy 59 = .ok (.getfield 13, 3) := by decide +kernel
theorem dX1_multiplyBy_62 : decode cX1_multiplyBy 62 = .ok (.sipush 1024, 3) := by decide +kernel
theorem dX1_multiplyBy_65 : decode cX1_multiplyBy 65 = .ok (.if_icmp .ge 23, 3) := by decide +kernel
theorem dX1_multiplyBy_68 : decode cX1_multiplyBy 68 = .ok (.aload_n 0, 1) := by decide +kernel
theorem dX1_multiplyBy_69 : decode cX1_multiplyBy 69 = .ok (.getfield 9, 3) := by decide +kernel
theorem dX1_multiplyBy_72 : decode cX1_multiplyBy 72 = .ok (.aload_n 0, 1) := by decide +kernel
theorem dX1_multiplyBy_73 : decode cX1_multiplyBy 73 = .ok (.getfield 13, 3) := by decide +kernel
theorem dX1_multiplyBy_76 : decode cX1_multiplyBy 76 = .ok (.lload_n 3, 1) := by decide +kernel
theorem dX1_multiplyBy_77 : decode cX1_multiplyBy 77 = .ok (.lastore, 1) := by decide +kernel
theorem dX1_multiplyBy_78 : decode cX1_multiplyBy 78 = .ok (.aload_n 0, 1) := by decide +kernel
theorem dX1_multiplyBy_79 : decode cX1_multiplyBy 79 = .ok (.dup, 1) := by decide +kernel
theorem dX1_multiplyBy_80 : decode cX1_multiplyBy 80 = .ok (.getfield 13, 3) := by decide +kernel
theorem dX1_multiplyBy_83 : decode cX1_multiplyBy 83 = .ok (.iconst 1, 1) := by decide +kernel
theorem dX1_multiplyBy_84 : decode cX1_multiplyBy 84 = .ok (.iadd, 1) := by decide +kernel
theorem dX1_multiplyBy_85 : decode cX1_multiplyBy 85 = .ok (.putfield 13, 3) := by decide +kernel
theorem dX1_multiplyBy_88 : decode cX1_multiplyBy 88 = .ok (.return_, 1) := by decide +kernel
theorem dX1_against_0 : decode cX1_against 0 = .ok (.aload_n 0, 1) := by decide +kernel
theorem dX1_against_1 : decode cX1_against 1 = .ok (.getfield 13, 3) := by decide +kernel
theorem dX1_against_4 : decode cX1_against 4 = .ok (.aload_n 1, 1) := by decide +kernel
theorem dX1_against_5 : decode cX1_against 5 = .ok (.getfield 13, 3) := by decide +kernel
theorem dX1_against_8 : decode cX1_against 8 = .ok (.if_icmp .eq 20, 3) := by decide +kernel
theorem dX1_against_11 : decode cX1_against 11 = .ok (.aload_n 0, 1) := by decide +kernel
theorem dX1_against_12 : decode cX1_against 12 = .ok (.getfield 13, 3) := by decide +kernel
theorem dX1_against_15 : decode cX1_against 15 = .ok (.aload_n 1, 1) := by decide +kernel
theorem dX1_against_16 : decode cX1_against 16 = .ok (.getfield 13, 3) := by decide +kernel
theorem dX1_against_19 : decode cX1_against 19 = .ok (.if_icmp .ge 7, 3) := by decide +kernel
theorem dX1_against_22 : decode cX1_against 22 = .ok (.iconst (-1), 1) := by decide +kernel
theorem dX1_against_23 : decode cX1_against 23 = .ok (.goto 4, 3) := by decide +kernel
theorem dX1_against_26 : decode cX1_against 26 = .ok (.iconst 1, 1) := by decide +kernel
theorem dX1_against_27 : decode cX1_against 27 = .ok (.ireturn, 1) := by decide +kernel
theorem dX1_against_28 : decode cX1_against 28 = .ok (.aload_n 0, 1) := by decide +kernel
theorem dX1_against_29 : decode cX1_against 29 = .ok (.getfield 13, 3) := by decide +kernel
theorem dX1_against_32 : decode cX1_against 32 = .ok (.iconst 1, 1) := by decide +kernel
theorem dX1_against_33 : decode cX1_against 33 = .ok (.isub, 1) := by decide +kernel
theorem dX1_against_34 : decode cX1_against 34 = .ok (.istore_n 2, 1) := by decide +kernel
theorem dX1_against_35 : decode cX1_against 35 = .ok (.iload_n 2, 1) := by decide +kernel
theorem dX1_against_36 : decode cX1_against 36 = .ok (.ifCond .lt 47, 3) := by decide +kernel
theorem dX1_against_39 : decode cX1_against 39 = .ok (.aload_n 0, 1) := by decide +kernel
theorem dX1_against_40 : decode cX1_against 40 = .ok (.getfield 9, 3) := by decide +kernel
theorem dX1_against_43 : decode cX1_against 43 = .ok (.iload_n 2, 1) := by decide +kernel
theorem dX1_against_44 : decode cX1_against 44 = .ok (.laload, 1) := by decide +kernel
theorem dX1_against_45 : decode cX1_against 45 = .ok (.aload_n 1, 1) := by decide +kernel
theorem dX1_against_46 : decode cX1_against 46 = .ok (.getfield 9, 3) := by decide +kernel
theorem dX1_against_49 : decode cX1_against 49 = .ok (.iload_n 2, 1) := by decide +kernel
theorem dX1_against_50 : decode cX1_against 50 = .ok (.laload, 1) := by decide +kernel
theorem dX1_against_51 : decode cX1_against 51 = .ok (.lcmp, 1) := by decide +kernel
theorem dX1_against_52 : decode cX1_against 52 = .ok (.ifCond .eq 25, 3) := by decide +kernel
theorem dX1_against_55 : decode cX1_against 55 = .ok (.aload_n 0, 1) := by decide +kernel
theorem dX1_against_56 : decode cX1_against 56 = .ok (.getfield 9, 3) := by decide +kernel
theorem dX1_against_59 : decode cX1_against 59 = .ok (.iload_n 2, 1) := by decide +kernel
theorem dX1_against_60 : decode cX1_against 60 = .ok (.laload, 1) := by decide +kernel
theorem dX1_against_61 : decode cX1_against 61 = .ok (.aload_n 1, 1) := by decide +kernel
theorem dX1_against_62 : decode cX1_against 62 = .ok (.getfield 9, 3) := by decide +kernel
theorem dX1_against_65 : decode cX1_against 65 = .ok (.iload_n 2, 1) := by decide +kernel
theorem dX1_against_66 : decode cX1_against 66 = .ok (.laload, 1) := by decide +kernel
theorem dX1_against_67 : decode cX1_against 67 = .ok (.lcmp, 1) := by decide +kernel
theorem dX1_against_68 : decode cX1_against 68 = .ok (.ifCond .ge 7, 3) := by decide +kernel
theorem dX1_against_71 : decode cX1_against 71 = .ok (.iconst (-1), 1) := by decide +kernel
theorem dX1_against_72 : decode cX1_against 72 = .ok (.goto 4, 3) := by decide +kernel
theorem dX1_against_75 : decode cX1_against 75 = .ok (.iconst 1, 1) := by decide +kernel
theorem dX1_against_76 : decode cX1_against 76 = .ok (.ireturn, 1) := by decide +kernel
theorem dX1_against_77 : decode cX1_against 77 = .ok (.iinc 2 (-1), 3) := by decide +kernel
theorem dX1_against_80 : decode cX1_against 80 = .ok (.goto (-45), 3) := by decide +kernel
theorem dX1_against_83 : decode cX1_against 83 = .ok (.iconst 0, 1) := by decide +kernel
theorem dX1_against_84 : decode cX1_against 84 = .ok (.ireturn, 1) := by decide +kernel
theorem dX2_init_0 : decode cX2_init 0 = .ok (.aload_n 0, 1) := by decide +kernel
theorem dX2_init_1 : decode cX2_init 1 = .ok (.invokespecial 3, 3) := by decide +kernel
theorem dX2_init_4 : decode cX2_init 4 = .ok (.aload_n 0, 1) := by decide +kernel
theorem dX2_init_5 : decode cX2_init 5 = .ok (.iconst 3, 1) := by decide +kernel
theorem dX2_init_6 : decode cX2_init 6 = .ok (.newarray .int, 2) := by decide +kernel
theorem dX2_init_8 : decode cX2_init 8 = .ok (.putfield 9, 3) := by decide +kernel
theorem dX2_init_11 : decode cX2_init 11 = .ok (.aload_n 0, 1) := by decide +kernel
theorem dX2_init_12 : decode cX2_init 12 = .ok (.bipush 27, 2) := by decide +kernel
theorem dX2_init_14 : decode cX2_init 14 = .ok (.newarray .int, 2) := by decide +kernel
theorem dX2_init_16 : decode cX2_init 16 = .ok (.putfield 15, 3) := by decide +kernel
theorem dX2_init_19 : decode cX2_init 19 = .ok (.aload_n 0, 1) := by decide +kernel
theorem dX2_init_20 : decode cX2_init 20 = .ok (.iconst 0, 1) := by decide +kernel
theorem dX2_init_21 : decode cX2_init 21 = .ok (.putfield 18, 3) := by decide +kernel
theorem dX2_init_24 : decode cX2_init 24 = .ok (.return_, 1) := by decide +kernel
theorem dX2_isMade_0 : decode cX2_isMade 0 = .ok (.aload_n 0, 1) := by decide +kernel
theorem dX2_isMade_1 : decode cX2_isMade 1 = .ok (.getfield 18, 3) := by decide +kernel
theorem dX2_isMade_4 : decode cX2_isMade 4 = .ok (.ifCond .le 7, 3) := by decide +kernel
theorem dX2_isMade_7 : decode cX2_isMade 7 = .ok (.iconst 1, 1) := by decide +kernel
theorem dX2_isMade_8 : decode cX2_isMade 8 = .ok (.goto 4, 3) := by decide +kernel
theorem dX2_isMade_11 : decode cX2_isMade 11 = .ok (.iconst 0, 1) := by decide +kernel
theorem dX2_isMade_12 : decode cX2_isMade 12 = .ok (.ireturn, 1) := by decide +kernel
set_option maxRecDepth 20000 in
theorem ggX2_begin_J7_fill_53178 : GoodIn wsX2_begin wsJ7_fill_53178 := goodIn_r _ [7] (by decide +kernel) (by decide +kernel)
set_option maxRecDepth 20000 in
theorem gX2_begin_J7_fill_53178 : GoodIn wsX2_begin (va_wsS RX2 22 yJ7_fill_53178 wsJ7_fill_53178) := goodIn_app (goodIn_of _ (by decide +kernel)) ggX2_begin_J7_fill_53178
theorem dX2_begin_0 : decode cX2_begin 0 = .ok (.aload_n 0, 1) := by decide +kernel
theorem dX2_begin_1 : decode cX2_begin 1 = .ok (.getfield 9, 3) := by decide +kernel
theorem dX2_begin_4 : decode cX2_begin 4 = .ok (.iconst 0, 1) := by decide +kernel
theorem dX2_begin_5 : decode cX2_begin 5 = .ok (.iload_n 1, 1) := by decide +kernel
theorem dX2_begin_6 : decode cX2_begin 6 = .ok (.iastore, 1) := by decide +kernel
theorem dX2_begin_7 : decode cX2_begin 7 = .ok (.aload_n 0, 1) := by decide +kernel
theorem dX2_begin_8 : decode cX2_begin 8 = .ok (.getfield 9, 3) := by decide +kernel
theorem dX2_begin_11 : decode cX2_begin 11 = .ok (.iconst 1, 1) := by decide +kernel
theorem dX2_begin_12 : decode cX2_begin 12 = .ok (.iload_n 2, 1) := by decide +kernel
theorem dX2_begin_13 : decode cX2_begin 13 = .ok (.iastore, 1) := by decide +kernel
theorem dX2_begin_14 : decode cX2_begin 14 = .ok (.aload_n 0, 1) := by decide +kernel
theorem dX2_begin_15 : decode cX2_begin 15 = .ok (.getfield 9, 3) := by decide +kernel
theorem dX2_begin_18 : decode cX2_begin 18 = .ok (.iconst 2, 1) := by decide +kernel
theorem dX2_begin_19 : decode cX2_begin 19 = .ok (.iload_n 3, 1) := by decide +kernel
theorem dX2_begin_20 : decode cX2_begin 20 = .ok (.iastore, 1) := by decide +kernel
theorem dX2_begin_21 : decode cX2_begin 21 = .ok (.aload_n 0, 1) := by decide +kernel
theorem dX2_begin_22 : decode cX2_begin 22 = .ok (.getfield 15, 3) := by decide +kernel
theorem dX2_begin_25 : decode cX2_begin 25 = .ok (.iconst 0, 1) := by decide +kernel
theorem dX2_begin_26 : decode cX2_begin 26 = .ok (.invokestatic 22, 3) := by decide +kernel
theorem dX2_begin_29 : decode cX2_begin 29 = .ok (.aload_n 0, 1) := by decide +kernel
theorem dX2_begin_30 : decode cX2_begin 30 = .ok (.iconst 0, 1) := by decide +kernel
theorem dX2_begin_31 : decode cX2_begin 31 = .ok (.putfield 18, 3) := by decide +kernel
theorem dX2_begin_34 : decode cX2_begin 34 = .ok (.return_, 1) := by decide +kernel
theorem dX2_hasSetting_0 : decode cX2_hasSetting 0 = .ok (.iload_n 1, 1) := by decide +kernel
theorem dX2_hasSetting_1 : decode cX2_hasSetting 1 = .ok (.ifCond .lt 45, 3) := by decide +kernel
theorem dX2_hasSetting_4 : decode cX2_hasSetting 4 = .ok (.iload_n 1, 1) := by decide +kernel
theorem dX2_hasSetting_5 : decode cX2_hasSetting 5 = .ok (.aload_n 0, 1) := by decide +kernel
theorem dX2_hasSetting_6 : decode cX2_hasSetting 6 = .ok (.getfield 9, 3) := by decide +kernel
theorem dX2_hasSetting_9 : decode cX2_hasSetting 9 = .ok (.iconst 0, 1) := by decide +kernel
theorem dX2_hasSetting_10 : decode cX2_hasSetting 10 = .ok (.iaload, 1) := by decide +kernel
theorem dX2_hasSetting_11 : decode cX2_hasSetting 11 = .ok (.if_icmp .ge 35, 3) := by decide +kernel
theorem dX2_hasSetting_14 : decode cX2_hasSetting 14 = .ok (.iload_n 2, 1) := by decide +kernel
theorem dX2_hasSetting_15 : decode cX2_hasSetting 15 = .ok (.ifCond .lt 31, 3) := by decide +kernel
theorem dX2_hasSetting_18 : decode cX2_hasSetting 18 = .ok (.iload_n 2, 1) := by decide +kernel
theorem dX2_hasSetting_19 : decode cX2_hasSetting 19 = .ok (.aload_n 0, 1) := by decide +kernel
theorem dX2_hasSetting_20 : decode cX2_hasSetting 20 = .ok (.getfield 9, 3) := by decide +kernel
theorem dX2_hasSetting_23 : decode cX2_hasSetting 23 = .ok (.iconst 1, 1) := by decide +kernel
theorem dX2_hasSetting_24 : decode cX2_hasSetting 24 = .ok (.iaload, 1) := by decide +kernel
theorem dX2_hasSetting_25 : decode cX2_hasSetting 25 = .ok (.if_icmp .ge 21, 3) := by decide +kernel
theorem dX2_hasSetting_28 : decode cX2_hasSetting 28 = .ok (.iload_n 3, 1) := by decide +kernel
theorem dX2_hasSetting_29 : decode cX2_hasSetting 29 = .ok (.ifCond .lt 17, 3) := by decide +kernel
theorem dX2_hasSetting_32 : decode cX2_hasSetting 32 = .ok (.iload_n 3, 1) := by decide +kernel
theorem dX2_hasSetting_33 : decode cX2_hasSetting 33 = .ok (.aload_n 0, 1) := by decide +kernel
theorem dX2_hasSetting_34 : decode cX2_hasSetting 34 = .ok (.getfield 9, 3) := by decide +kernel
theorem dX2_hasSetting_37 : decode cX2_hasSetting 37 = .ok (.iconst 2, 1) := by decide +kernel
theorem dX2_hasSetting_38 : decode cX2_hasSetting 38 = .ok (.iaload, 1) := by decide +kernel
theorem dX2_hasSetting_39 : decode cX2_hasSetting 39 = .ok (.if_icmp .ge 7, 3) := by decide +kernel
theorem dX2_hasSetting_42 : decode cX2_hasSetting 42 = .ok (.iconst 1, 1) := by decide +kernel
theorem dX2_hasSetting_43 : decode cX2_hasSetting 43 = .ok (.goto 4, 3) := by decide +kernel
theorem dX2_hasSetting_46 : decode cX2_hasSetting 46 = .ok (.iconst 0, 1) := by decide +kernel
theorem dX2_hasSetting_47 : decode cX2_hasSetting 47 = .ok (.ireturn, 1) := by decide +kernel
set_option maxRecDepth 20000 in
theorem ggX2_weightOf_X2_hasSetting : GoodIn wsX2_weightOf wsX2_hasSetting := goodIn_r _ [6, 7, 8, 9, 10] (by decide +kernel) (by decide +kernel)
set_option maxRecDepth 20000 in
theorem gX2_weightOf_X2_hasSetting : GoodIn wsX2_weightOf (wsV RX2 28 RX2 yX2_hasSetting wsX2_hasSetting) := goodIn_app (goodIn_of _ (by decide +kernel)) ggX2_weightOf_X2_hasSetting
theorem dX2_weightOf_0 : decode cX2_weightOf 0 = .ok (.iload_n 1, 1) := by decide +kernel
theorem dX2_weightOf_1 : decode cX2_weightOf 1 = .ok (.ifCond .lt 9, 3) := by decide +kernel
theorem dX2_weightOf_4 : decode cX2_weightOf 4 = .ok (.iload_n 1, 1) := by decide +kernel
theorem dX2_weightOf_5 : decode cX2_weightOf 5 = .ok (.bipush 27, 2) := by decide +kernel
theorem dX2_weightOf_7 : decode cX2_weightOf 7 = .ok (.if_icmp .lt 5, 3) := by decide +kernel
theorem dX2_weightOf_10 : decode cX2_weightOf 10 = .ok (.iconst (-1), 1) := by decide +kernel
theorem dX2_weightOf_11 : decode cX2_weightOf 11 = .ok (.ireturn, 1) := by decide +kernel
theorem dX2_weightOf_12 : decode cX2_weightOf 12 = .ok (.aload_n 0, 1) := by decide +kernel
theorem dX2_weightOf_13 : decode cX2_weightOf 13 = .ok (.iload_n 1, 1) := by decide +kernel
theorem dX2_weightOf_14 : decode cX2_weightOf 14 = .ok (.iconst 3, 1) := by decide +kernel
theorem dX2_weightOf_15 : decode cX2_weightOf 15 = .ok (.irem, 1) := by decide +kernel
theorem dX2_weightOf_16 : decode cX2_weightOf 16 = .ok (.iload_n 1, 1) := by decide +kernel
theorem dX2_weightOf_17 : decode cX2_weightOf 17 = .ok (.iconst 3, 1) := by decide +kernel
theorem dX2_weightOf_18 : decode cX2_weightOf 18 = .ok (.idiv, 1) := by decide +kernel
theorem dX2_weightOf_19 : decode cX2_weightOf 19 = .ok (.iconst 3, 1) := by decide +kernel
theorem dX2_weightOf_20 : decode cX2_weightOf 20 = .ok (.irem, 1) := by decide +kernel
theorem dX2_weightOf_21 : decode cX2_weightOf 21 = .ok (.iload_n 1, 1) := by decide +kernel
theorem dX2_weightOf_22 : decode cX2_weightOf 22 = .ok (.bipush 9, 2) := by decide +kernel
theorem dX2_weightOf_24 : decode cX2_weightOf 24 = .ok (.idiv, 1) := by decide +kernel
theorem dX2_weightOf_25 : decode cX2_weightOf 25 = .ok (.invokevirtual 28, 3) := by decide +kernel
theorem dX2_weightOf_28 : decode cX2_weightOf 28 = .ok (.ifCond .eq 12, 3) := by decide +kernel
theorem dX2_weightOf_31 : decode cX2_weightOf 31 = .ok (.aload_n 0, 1) := by decide +kernel
theorem dX2_weightOf_32 : decode cX2_weightOf 32 = .ok (.getfield 15, 3) := by decide +kernel
theorem dX2_weightOf_35 : decode cX2_weightOf 35 = .ok (.iload_n 1, 1) := by decide +kernel
theorem dX2_weightOf_36 : decode cX2_weightOf 36 = .ok (.iaload, 1) := by decide +kernel
theorem dX2_weightOf_37 : decode cX2_weightOf 37 = .ok (.goto 4, 3) := by decide +kernel
theorem dX2_weightOf_40 : decode cX2_weightOf 40 = .ok (.iconst (-1), 1) := by decide +kernel
theorem dX2_weightOf_41 : decode cX2_weightOf 41 = .ok (.ireturn, 1) := by decide +kernel
theorem dX2_hasStatesOf_0 : decode cX2_hasStatesOf 0 = .ok (.aload_n 0, 1) := by decide +kernel
theorem dX2_hasStatesOf_1 : decode cX2_hasStatesOf 1 = .ok (.getfield 9, 3) := by decide +kernel
theorem dX2_hasStatesOf_4 : decode cX2_hasStatesOf 4 = .ok (.iconst 0, 1) := by decide +kernel
theorem dX2_hasStatesOf_5 : decode cX2_hasStatesOf 5 = .ok (.iaload, 1) := by decide +kernel
theorem dX2_hasStatesOf_6 : decode cX2_hasStatesOf 6 = .ok (.aload_n 1, 1) := by decide +kernel
theorem dX2_hasStatesOf_7 : decode cX2_hasStatesOf 7 = .ok (.getfield 9, 3) := by decide +kernel
theorem dX2_hasStatesOf_10 : decode cX2_hasStatesOf 10 = .ok (.iconst 0, 1) := by decide +kernel
end
section
theorem dX2_hasStatesOf_11 : decode cX2_hasStatesOf 11 = .ok (.iaload, 1) := by decide +kernel
theorem dX2_hasStatesOf_12 : decode cX2_hasStatesOf 12 = .ok (.if_icmp .ne 37, 3) := by decide +kernel
theorem dX2_hasStatesOf_15 : decode cX2_hasStatesOf 15 = .ok (.aload_n 0, 1) := by decide +kernel
theorem dX2_hasStatesOf_16 : decode cX2_hasStatesOf 16 = .ok (.getfield 9, 3) := by decide +kernel
theorem dX2_hasStatesOf_19 : decode cX2_hasStatesOf 19 = .ok (.iconst 1, 1) := by decide +kernel
theorem dX2_hasStatesOf_20 : decode cX2_hasStatesOf 20 = .ok (.iaload, 1) := by decide +kernel
theorem dX2_hasStatesOf_21 : decode cX2_hasStatesOf 21 = .ok (.aload_n 1, 1) := by decide +kernel
theorem dX2_hasStatesOf_22 : decode cX2_hasStatesOf 22 = .ok (.getfield 9, 3) := by decide +kernel
theorem dX2_hasStatesOf_25 : decode cX2_hasStatesOf 25 = .ok (.iconst 1, 1) := by decide +kernel
theorem dX2_hasStatesOf_26 : decode cX2_hasStatesOf 26 = .ok (.iaload, 1) := by decide +kernel
theorem dX2_hasStatesOf_27 : decode cX2_hasStatesOf 27 = .ok (.if_icmp .ne 22, 3) := by decide +kernel
theorem dX2_hasStatesOf_30 : decode cX2_hasStatesOf 30 = .ok (.aload_n 0, 1) := by decide +kernel
theorem dX2_hasStatesOf_31 : decode cX2_hasStatesOf 31 = .ok (.getfield 9, 3) := by decide +kernel
theorem dX2_hasStatesOf_34 : decode cX2_hasStatesOf 34 = .ok (.iconst 2, 1) := by decide +kernel
theorem dX2_hasStatesOf_35 : decode cX2_hasStatesOf 35 = .ok (.iaload, 1) := by decide +kernel
theorem dX2_hasStatesOf_36 : decode cX2_hasStatesOf 36 = .ok (.aload_n 1, 1) := by decide +kernel
theorem dX2_hasStatesOf_37 : decode cX2_hasStatesOf 37 = .ok (.getfield 9, 3) := by decide +kernel
theorem dX2_hasStatesOf_40 : decode cX2_hasStatesOf 40 = .ok (.iconst 2, 1) := by decide +kernel
theorem dX2_hasStatesOf_41 : decode cX2_hasStatesOf 41 = .ok (.iaload, 1) := by decide +kernel
theorem dX2_hasStatesOf_42 : decode cX2_hasStatesOf 42 = .ok (.if_icmp .ne 7, 3) := by decide +kernel
theorem dX2_hasStatesOf_45 : decode cX2_hasStatesOf 45 = .ok (.iconst 1, 1) := by decide +kernel
theorem dX2_hasStatesOf_46 : decode cX2_hasStatesOf 46 = .ok (.goto 4, 3) := by decide +kernel
theorem dX2_hasStatesOf_49 : decode cX2_hasStatesOf 49 = .ok (.iconst 0, 1) := by decide +kernel
theorem dX2_hasStatesOf_50 : decode cX2_hasStatesOf 50 = .ok (.ireturn, 1) := by decide +kernel
theorem dX2_put_0 : decode cX2_put 0 = .ok (.aload_n 0, 1) := by decide +kernel
theorem dX2_put_1 : decode cX2_put 1 = .ok (.getfield 18, 3) := by decide +kernel
theorem dX2_put_4 : decode cX2_put 4 = .ok (.aload_n 0, 1) := by decide +kernel
theorem dX2_put_5 : decode cX2_put 5 = .ok (.getfield 15, 3) := by decide +kernel
theorem dX2_put_8 : decode cX2_put 8 = .ok (.iload_n 1, 1) := by decide +kernel
theorem dX2_put_9 : decode cX2_put 9 = .ok (.iaload, 1) := by decide +kernel
theorem dX2_put_10 : decode cX2_put 10 = .ok (.isub, 1) := by decide +kernel
theorem dX2_put_11 : decode cX2_put 11 = .ok (.iload_n 2, 1) := by decide +kernel
theorem dX2_put_12 : decode cX2_put 12 = .ok (.iadd, 1) := by decide +kernel
theorem dX2_put_13 : decode cX2_put 13 = .ok (.istore_n 3, 1) := by decide +kernel
theorem dX2_put_14 : decode cX2_put 14 = .ok (.iload_n 3, 1) := by decide +kernel
theorem dX2_put_15 : decode cX2_put 15 = .ok (.bipush 16, 2) := by decide +kernel
theorem dX2_put_17 : decode cX2_put 17 = .ok (.if_icmp .le 5, 3) := by decide +kernel
theorem dX2_put_20 : decode cX2_put 20 = .ok (.iconst 0, 1) := by decide +kernel
theorem dX2_put_21 : decode cX2_put 21 = .ok (.ireturn, 1) := by decide +kernel
theorem dX2_put_22 : decode cX2_put 22 = .ok (.aload_n 0, 1) := by decide +kernel
theorem dX2_put_23 : decode cX2_put 23 = .ok (.getfield 15, 3) := by decide +kernel
theorem dX2_put_26 : decode cX2_put 26 = .ok (.iload_n 1, 1) := by decide +kernel
theorem dX2_put_27 : decode cX2_put 27 = .ok (.iload_n 2, 1) := by decide +kernel
theorem dX2_put_28 : decode cX2_put 28 = .ok (.iastore, 1) := by decide +kernel
theorem dX2_put_29 : decode cX2_put 29 = .ok (.aload_n 0, 1) := by decide +kernel
theorem dX2_put_30 : decode cX2_put 30 = .ok (.iload_n 3, 1) := by decide +kernel
theorem dX2_put_31 : decode cX2_put 31 = .ok (.putfield 18, 3) := by decide +kernel
theorem dX2_put_34 : decode cX2_put 34 = .ok (.iconst 1, 1) := by decide +kernel
theorem dX2_put_35 : decode cX2_put 35 = .ok (.ireturn, 1) := by decide +kernel
theorem dX2_becomeMixOf_0 : decode cX2_becomeMixOf 0 = .ok (.aload_n 1, 1) := by decide +kernel
theorem dX2_becomeMixOf_1 : decode cX2_becomeMixOf 1 = .ok (.getfield 18, 3) := by decide +kernel
theorem dX2_becomeMixOf_4 : decode cX2_becomeMixOf 4 = .ok (.aload_n 2, 1) := by decide +kernel
theorem dX2_becomeMixOf_5 : decode cX2_becomeMixOf 5 = .ok (.getfield 18, 3) := by decide +kernel
theorem dX2_becomeMixOf_8 : decode cX2_becomeMixOf 8 = .ok (.iadd, 1) := by decide +kernel
theorem dX2_becomeMixOf_9 : decode cX2_becomeMixOf 9 = .ok (.istore_n 3, 1) := by decide +kernel
theorem dX2_becomeMixOf_10 : decode cX2_becomeMixOf 10 = .ok (.iconst 0, 1) := by decide +kernel
theorem dX2_becomeMixOf_11 : decode cX2_becomeMixOf 11 = .ok (.istore 4, 2) := by decide +kernel
theorem dX2_becomeMixOf_13 : decode cX2_becomeMixOf 13 = .ok (.iload 4, 2) := by decide +kernel
theorem dX2_becomeMixOf_15 : decode cX2_becomeMixOf 15 = .ok (.iconst 3, 1) := by decide +kernel
theorem dX2_becomeMixOf_16 : decode cX2_becomeMixOf 16 = .ok (.if_icmp .ge 23, 3) := by decide +kernel
theorem dX2_becomeMixOf_19 : decode cX2_becomeMixOf 19 = .ok (.aload_n 0, 1) := by decide +kernel
theorem dX2_becomeMixOf_20 : decode cX2_becomeMixOf 20 = .ok (.getfield 9, 3) := by decide +kernel
theorem dX2_becomeMixOf_23 : decode cX2_becomeMixOf 23 = .ok (.iload 4, 2) := by decide +kernel
theorem dX2_becomeMixOf_25 : decode cX2_becomeMixOf 25 = .ok (.aload_n 1, 1) := by decide +kernel
theorem dX2_becomeMixOf_26 : decode cX2_becomeMixOf 26 = .ok (.getfield 9, 3) := by decide +kernel
theorem dX2_becomeMixOf_29 : decode cX2_becomeMixOf 29 = .ok (.iload 4, 2) := by decide +kernel
theorem dX2_becomeMixOf_31 : decode cX2_becomeMixOf 31 = .ok (.iaload, 1) := by decide +kernel
theorem dX2_becomeMixOf_32 : decode cX2_becomeMixOf 32 = .ok (.iastore, 1) := by decide +kernel
theorem dX2_becomeMixOf_33 : decode cX2_becomeMixOf 33 = .ok (.iinc 4 1, 3) := by decide +kernel
theorem dX2_becomeMixOf_36 : decode cX2_becomeMixOf 36 = .ok (.goto (-23), 3) := by decide +kernel
theorem dX2_becomeMixOf_39 : decode cX2_becomeMixOf 39 = .ok (.iconst 0, 1) := by decide +kernel
theorem dX2_becomeMixOf_40 : decode cX2_becomeMixOf 40 = .ok (.istore 4, 2) := by decide +kernel
theorem dX2_becomeMixOf_42 : decode cX2_becomeMixOf 42 = .ok (.iload 4, 2) := by decide +kernel
theorem dX2_becomeMixOf_44 : decode cX2_becomeMixOf 44 = .ok (.bipush 27, 2) := by decide +kernel
theorem dX2_becomeMixOf_46 : decode cX2_becomeMixOf 46 = .ok (.if_icmp .ge 31, 3) := by decide +kernel
theorem dX2_becomeMixOf_49 : decode cX2_becomeMixOf 49 = .ok (.aload_n 0, 1) := by decide +kernel
theorem dX2_becomeMixOf_50 : decode cX2_becomeMixOf 50 = .ok (.getfield 15, 3) := by decide +kernel
theorem dX2_becomeMixOf_53 : decode cX2_becomeMixOf 53 = .ok (.iload 4, 2) := by decide +kernel
theorem dX2_becomeMixOf_55 : decode cX2_becomeMixOf 55 = .ok (.aload_n 1, 1) := by decide +kernel
theorem dX2_becomeMixOf_56 : decode cX2_becomeMixOf 56 = .ok (.getfield 15, 3) := by decide +kernel
theorem dX2_becomeMixOf_59 : decode cX2_becomeMixOf 59 = .ok (.iload 4, 2) := by decide +kernel
theorem dX2_becomeMixOf_61 : decode cX2_becomeMixOf 61 = .ok (.iaload, 1) := by decide +kernel
theorem dX2_becomeMixOf_62 : decode cX2_becomeMixOf 62 = .ok (.aload_n 2, 1) := by decide +kernel
theorem dX2_becomeMixOf_63 : decode cX2_becomeMixOf 63 = .ok (.getfield 15, 3) := by decide +kernel
theorem dX2_becomeMixOf_66 : decode cX2_becomeMixOf 66 = .ok (.iload 4, 2) := by decide +kernel
theorem dX2_becomeMixOf_68 : decode cX2_becomeMixOf 68 = .ok (.iaload, 1) := by decide +kernel
theorem dX2_becomeMixOf_69 : decode cX2_becomeMixOf 69 = .ok (.iadd, 1) := by decide +kernel
theorem dX2_becomeMixOf_70 : decode cX2_becomeMixOf 70 = .ok (.iastore, 1) := by decide +kernel
theorem dX2_becomeMixOf_71 : decode cX2_becomeMixOf 71 = .ok (.iinc 4 1, 3) := by decide +kernel
theorem dX2_becomeMixOf_74 : decode cX2_becomeMixOf 74 = .ok (.goto (-32), 3) := by decide +kernel
theorem dX2_becomeMixOf_77 : decode cX2_becomeMixOf 77 = .ok (.aload_n 0, 1) := by decide +kernel
theorem dX2_becomeMixOf_78 : decode cX2_becomeMixOf 78 = .ok (.iload_n 3, 1) := by decide +kernel
theorem dX2_becomeMixOf_79 : decode cX2_becomeMixOf 79 = .ok (.putfield 18, 3) := by decide +kernel
theorem dX2_becomeMixOf_82 : decode cX2_becomeMixOf 82 = .ok (.return_, 1) := by decide +kernel
set_option maxRecDepth 20000 in
theorem ggX2_gather_J7_fill_53178 : GoodIn wsX2_gather wsJ7_fill_53178 := goodIn_r _ [5] (by decide +kernel) (by decide +kernel)
set_option maxRecDepth 20000 in
theorem gX2_gather_J7_fill_53178 : GoodIn wsX2_gather (va_wsS RX2 22 yJ7_fill_53178 wsJ7_fill_53178) := goodIn_app (goodIn_of _ (by decide +kernel)) ggX2_gather_J7_fill_53178
set_option maxRecDepth 20000 in
theorem ggX2_gather_X3_settingOf : GoodIn wsX2_gather wsX3_settingOf := goodIn_r _ [8] (by decide +kernel) (by decide +kernel)
set_option maxRecDepth 20000 in
theorem gX2_gather_X3_settingOf_n32 : GoodIn wsX2_gather (wsX3_settingOf) := ggX2_gather_X3_settingOf
theorem dX2_gather_0 : decode cX2_gather 0 = .ok (.aload_n 2, 1) := by decide +kernel
theorem dX2_gather_1 : decode cX2_gather 1 = .ok (.iconst 0, 1) := by decide +kernel
theorem dX2_gather_2 : decode cX2_gather 2 = .ok (.invokestatic 22, 3) := by decide +kernel
theorem dX2_gather_5 : decode cX2_gather 5 = .ok (.iconst 0, 1) := by decide +kernel
theorem dX2_gather_6 : decode cX2_gather 6 = .ok (.istore_n 3, 1) := by decide +kernel
theorem dX2_gather_7 : decode cX2_gather 7 = .ok (.iload_n 3, 1) := by decide +kernel
theorem dX2_gather_8 : decode cX2_gather 8 = .ok (.bipush 27, 2) := by decide +kernel
theorem dX2_gather_10 : decode cX2_gather 10 = .ok (.if_icmp .ge 77, 3) := by decide +kernel
theorem dX2_gather_13 : decode cX2_gather 13 = .ok (.iload_n 1, 1) := by decide +kernel
theorem dX2_gather_14 : decode cX2_gather 14 = .ok (.iconst 1, 1) := by decide +kernel
theorem dX2_gather_15 : decode cX2_gather 15 = .ok (.iand, 1) := by decide +kernel
theorem dX2_gather_16 : decode cX2_gather 16 = .ok (.ifCond .eq 9, 3) := by decide +kernel
theorem dX2_gather_19 : decode cX2_gather 19 = .ok (.iload_n 3, 1) := by decide +kernel
theorem dX2_gather_20 : decode cX2_gather 20 = .ok (.iconst 3, 1) := by decide +kernel
theorem dX2_gather_21 : decode cX2_gather 21 = .ok (.irem, 1) := by decide +kernel
theorem dX2_gather_22 : decode cX2_gather 22 = .ok (.goto 4, 3) := by decide +kernel
theorem dX2_gather_25 : decode cX2_gather 25 = .ok (.iconst 0, 1) := by decide +kernel
theorem dX2_gather_26 : decode cX2_gather 26 = .ok (.istore 4, 2) := by decide +kernel
theorem dX2_gather_28 : decode cX2_gather 28 = .ok (.iload_n 1, 1) := by decide +kernel
theorem dX2_gather_29 : decode cX2_gather 29 = .ok (.iconst 2, 1) := by decide +kernel
theorem dX2_gather_30 : decode cX2_gather 30 = .ok (.iand, 1) := by decide +kernel
theorem dX2_gather_31 : decode cX2_gather 31 = .ok (.ifCond .eq 11, 3) := by decide +kernel
theorem dX2_gather_34 : decode cX2_gather 34 = .ok (.iload_n 3, 1) := by decide +kernel
theorem dX2_gather_35 : decode cX2_gather 35 = .ok (.iconst 3, 1) := by decide +kernel
theorem dX2_gather_36 : decode cX2_gather 36 = .ok (.idiv, 1) := by decide +kernel
theorem dX2_gather_37 : decode cX2_gather 37 = .ok (.iconst 3, 1) := by decide +kernel
theorem dX2_gather_38 : decode cX2_gather 38 = .ok (.irem, 1) := by decide +kernel
theorem dX2_gather_39 : decode cX2_gather 39 = .ok (.goto 4, 3) := by decide +kernel
theorem dX2_gather_42 : decode cX2_gather 42 = .ok (.iconst 0, 1) := by decide +kernel
theorem dX2_gather_43 : decode cX2_gather 43 = .ok (.istore 5, 2) := by decide +kernel
theorem dX2_gather_45 : decode cX2_gather 45 = .ok (.iload_n 1, 1) := by decide +kernel
theorem dX2_gather_46 : decode cX2_gather 46 = .ok (.iconst 4, 1) := by decide +kernel
theorem dX2_gather_47 : decode cX2_gather 47 = .ok (.iand, 1) := by decide +kernel
theorem dX2_gather_48 : decode cX2_gather 48 = .ok (.ifCond .eq 10, 3) := by decide +kernel
theorem dX2_gather_51 : decode cX2_gather 51 = .ok (.iload_n 3, 1) := by decide +kernel
theorem dX2_gather_52 : decode cX2_gather 52 = .ok (.bipush 9, 2) := by decide +kernel
theorem dX2_gather_54 : decode cX2_gather 54 = .ok (.idiv, 1) := by decide +kernel
theorem dX2_gather_55 : decode cX2_gather 55 = .ok (.goto 4, 3) := by decide +kernel
theorem dX2_gather_58 : decode cX2_gather 58 = .ok (.iconst 0, 1) := by decide +kernel
theorem dX2_gather_59 : decode cX2_gather 59 = .ok (.istore 6, 2) := by decide +kernel
theorem dX2_gather_61 : decode cX2_gather 61 = .ok (.aload_n 2, 1) := by decide +kernel
theorem dX2_gather_62 : decode cX2_gather 62 = .ok (.iload 4, 2) := by decide +kernel
theorem dX2_gather_64 : decode cX2_gather 64 = .ok (.iload 5, 2) := by decide +kernel
theorem dX2_gather_66 : decode cX2_gather 66 = .ok (.iload 6, 2) := by decide +kernel
theorem dX2_gather_68 : decode cX2_gather 68 = .ok (.invokestatic 32, 3) := by decide +kernel
theorem dX2_gather_71 : decode cX2_gather 71 = .ok (.dup2, 1) := by decide +kernel
theorem dX2_gather_72 : decode cX2_gather 72 = .ok (.iaload, 1) := by decide +kernel
theorem dX2_gather_73 : decode cX2_gather 73 = .ok (.aload_n 0, 1) := by decide +kernel
theorem dX2_gather_74 : decode cX2_gather 74 = .ok (.getfield 15, 3) := by decide +kernel
theorem dX2_gather_77 : decode cX2_gather 77 = .ok (.iload_n 3, 1) := by decide +kernel
theorem dX2_gather_78 : decode cX2_gather 78 = .ok (.iaload, 1) := by decide +kernel
theorem dX2_gather_79 : decode cX2_gather 79 = .ok (.iadd, 1) := by decide +kernel
theorem dX2_gather_80 : decode cX2_gather 80 = .ok (.iastore, 1) := by decide +kernel
theorem dX2_gather_81 : decode cX2_gather 81 = .ok (.iinc 3 1, 3) := by decide +kernel
theorem dX2_gather_84 : decode cX2_gather 84 = .ok (.goto (-77), 3) := by decide +kernel
theorem dX2_gather_87 : decode cX2_gather 87 = .ok (.return_, 1) := by decide +kernel
set_option maxRecDepth 20000 in
theorem ggX2_spreadByRule_J7_fill_53178 : GoodIn wsX2_spreadByRule wsJ7_fill_53178 := goodIn_r _ [6] (by decide +kernel) (by decide +kernel)
set_option maxRecDepth 20000 in
theorem gX2_spreadByRule_J7_fill_53178 : GoodIn wsX2_spreadByRule (va_wsS RX2 22 yJ7_fill_53178 wsJ7_fill_53178) := goodIn_app (goodIn_of _ (by decide +kernel)) ggX2_spreadByRule_J7_fill_53178
theorem dX2_spreadByRule_0 : decode cX2_spreadByRule 0 = .ok (.aload_n 0, 1) := by decide +kernel
theorem dX2_spreadByRule_1 : decode cX2_spreadByRule 1 = .ok (.getfield 15, 3) := by decide +kernel
theorem dX2_spreadByRule_4 : decode cX2_spreadByRule 4 = .ok (.iconst 0, 1) := by decide +kernel
theorem dX2_spreadByRule_5 : decode cX2_spreadByRule 5 = .ok (.invokestatic 22, 3) := by decide +kernel
theorem dX2_spreadByRule_8 : decode cX2_spreadByRule 8 = .ok (.iload_n 2, 1) := by decide +kernel
theorem dX2_spreadByRule_9 : decode cX2_spreadByRule 9 = .ok (.istore_n 3, 1) := by decide +kernel
theorem dX2_spreadByRule_10 : decode cX2_spreadByRule 10 = .ok (.iconst 0, 1) := by decide +kernel
theorem dX2_spreadByRule_11 : decode cX2_spreadByRule 11 = .ok (.istore 4, 2) := by decide +kernel
theorem dX2_spreadByRule_13 : decode cX2_spreadByRule 13 = .ok (.iload 4, 2) := by decide +kernel
theorem dX2_spreadByRule_15 : decode cX2_spreadByRule 15 = .ok (.bipush 9, 2) := by decide +kernel
theorem dX2_spreadByRule_17 : decode cX2_spreadByRule 17 = .ok (.if_icmp .ge 31, 3) := by decide +kernel
theorem dX2_spreadByRule_20 : decode cX2_spreadByRule 20 = .ok (.aload_n 0, 1) := by decide +kernel
theorem dX2_spreadByRule_21 : decode cX2_spreadByRule 21 = .ok (.getfield 15, 3) := by decide +kernel
theorem dX2_spreadByRule_24 : decode cX2_spreadByRule 24 = .ok (.iload 4, 2) := by decide +kernel
theorem dX2_spreadByRule_26 : decode cX2_spreadByRule 26 = .ok (.bipush 9, 2) := by decide +kernel
theorem dX2_spreadByRule_28 : decode cX2_spreadByRule 28 = .ok (.iload_n 3, 1) := by decide +kernel
theorem dX2_spreadByRule_29 : decode cX2_spreadByRule 29 = .ok (.iconst 3, 1) := by decide +kernel
theorem dX2_spreadByRule_30 : decode cX2_spreadByRule 30 = .ok (.irem, 1) := by decide +kernel
theorem dX2_spreadByRule_31 : decode cX2_spreadByRule 31 = .ok (.imul, 1) := by decide +kernel
theorem dX2_spreadByRule_32 : decode cX2_spreadByRule 32 = .ok (.iadd, 1) := by decide +kernel
theorem dX2_spreadByRule_33 : decode cX2_spreadByRule 33 = .ok (.aload_n 1, 1) := by decide +kernel
theorem dX2_spreadByRule_34 : decode cX2_spreadByRule 34 = .ok (.iload 4, 2) := by decide +kernel
theorem dX2_spreadByRule_36 : decode cX2_spreadByRule 36 = .ok (.iaload, 1) := by decide +kernel
theorem dX2_spreadByRule_37 : decode cX2_spreadByRule 37 = .ok (.iastore, 1) := by decide +kernel
theorem dX2_spreadByRule_38 : decode cX2_spreadByRule 38 = .ok (.iload_n 3, 1) := by decide +kernel
theorem dX2_spreadByRule_39 : decode cX2_spreadByRule 39 = .ok (.iconst 3, 1) := by decide +kernel
theorem dX2_spreadByRule_40 : decode cX2_spreadByRule 40 = .ok (.idiv, 1) := by decide +kernel
theorem dX2_spreadByRule_41 : decode cX2_spreadByRule 41 = .ok (.istore_n 3, 1) := by decide +kernel
theorem dX2_spreadByRule_42 : decode cX2_spreadByRule 42 = .ok (.iinc 4 1, 3) := by decide +kernel
theorem dX2_spreadByRule_45 : decode cX2_spreadByRule 45 = .ok (.goto (-32), 3) := by decide +kernel
theorem dX2_spreadByRule_48 : decode cX2_spreadByRule 48 = .ok (.aload_n 0, 1) := by decide +kernel
theorem dX2_spreadByRule_49 : decode cX2_spreadByRule 49 = .ok (.getfield 9, 3) := by decide +kernel
theorem dX2_spreadByRule_52 : decode cX2_spreadByRule 52 = .ok (.iconst 2, 1) := by decide +kernel
theorem dX2_spreadByRule_53 : decode cX2_spreadByRule 53 = .ok (.iconst 3, 1) := by decide +kernel
theorem dX2_spreadByRule_54 : decode cX2_spreadByRule 54 = .ok (.iastore, 1) := by decide +kernel
theorem dX2_spreadByRule_55 : decode cX2_spreadByRule 55 = .ok (.return_, 1) := by decide +kernel
set_option maxRecDepth 20000 in
theorem ggX3_init_X0_init : GoodIn wsX3_init wsX0_init := goodIn_r _ [21, 22, 2, 3, 7, 23, 24, 25, 26, 27, 28, 29, 30, 31, 32, 33, 34, 49, 50, 51, 55, 56] (by decide +kernel) (by decide +kernel)
set_option maxRecDepth 20000 in
theorem gX3_init_X0_init_n22 : GoodIn wsX3_init (wsX0_init) := ggX3_init_X0_init
set_option maxRecDepth 20000 in
theorem ggX3_init_X2_init : GoodIn wsX3_init wsX2_init := goodIn_r _ [36, 37, 2, 3, 7, 38, 39, 40, 52, 53, 54] (by decide +kernel) (by decide +kernel)
set_option maxRecDepth 20000 in
theorem gX3_init_X2_init_n44 : GoodIn wsX3_init (wsX2_init) := ggX3_init_X2_init
theorem dX3_init_0 : decode cX3_init 0 = .ok (.aload_n 0, 1) := by decide +kernel
theorem dX3_init_1 : decode cX3_init 1 = .ok (.invokespecial 3, 3) := by decide +kernel
theorem dX3_init_4 : decode cX3_init 4 = .ok (.aload_n 0, 1) := by decide +kernel
theorem dX3_init_5 : decode cX3_init 5 = .ok (.iconst 4, 1) := by decide +kernel
theorem dX3_init_6 : decode cX3_init 6 = .ok (.anewarray 9, 3) := by decide +kernel
theorem dX3_init_9 : decode cX3_init 9 = .ok (.putfield 11, 3) := by decide +kernel
theorem dX3_init_12 : decode cX3_init 12 = .ok (.aload_n 0, 1) := by decide +kernel
theorem dX3_init_13 : decode cX3_init 13 = .ok (.bipush 10, 2) := by decide +kernel
theorem dX3_init_15 : decode cX3_init 15 = .ok (.bipush 8, 2) := by decide +kernel
theorem dX3_init_17 : decode cX3_init 17 = .ok (.multianewarray 15 2, 4) := by decide +kernel
theorem dX3_init_21 : decode cX3_init 21 = .ok (.putfield 17, 3) := by decide +kernel
theorem dX3_init_24 : decode cX3_init 24 = .ok (.aload_n 0, 1) := by decide +kernel
theorem dX3_init_25 : decode cX3_init 25 = .ok (.new 20, 3) := by decide +kernel
theorem dX3_init_28 : decode cX3_init 28 = .ok (.dup, 1) := by decide +kernel
theorem dX3_init_29 : decode cX3_init 29 = .ok (.invokespecial 22, 3) := by decide +kernel
theorem dX3_init_32 : decode cX3_init 32 = .ok (.putfield 23, 3) := by decide +kernel
theorem dX3_init_35 : decode cX3_init 35 = .ok (.aload_n 0, 1) := by decide +kernel
theorem dX3_init_36 : decode cX3_init 36 = .ok (.bipush 27, 2) := by decide +kernel
theorem dX3_init_38 : decode cX3_init 38 = .ok (.newarray .int, 2) := by decide +kernel
theorem dX3_init_40 : decode cX3_init 40 = .ok (.putfield 27, 3) := by decide +kernel
theorem dX3_init_43 : decode cX3_init 43 = .ok (.aload_n 0, 1) := by decide +kernel
theorem dX3_init_44 : decode cX3_init 44 = .ok (.bipush 8, 2) := by decide +kernel
theorem dX3_init_46 : decode cX3_init 46 = .ok (.newarray .int, 2) := by decide +kernel
theorem dX3_init_48 : decode cX3_init 48 = .ok (.putfield 31, 3) := by decide +kernel
theorem dX3_init_51 : decode cX3_init 51 = .ok (.aload_n 0, 1) := by decide +kernel
theorem dX3_init_52 : decode cX3_init 52 = .ok (.bipush 9, 2) := by decide +kernel
theorem dX3_init_54 : decode cX3_init 54 = .ok (.newarray .int, 2) := by decide +kernel
theorem dX3_init_56 : decode cX3_init 56 = .ok (.putfield 34, 3) := by decide +kernel
theorem dX3_init_59 : decode cX3_init 59 = .ok (.aload_n 0, 1) := by decide +kernel
theorem dX3_init_60 : decode cX3_init 60 = .ok (.bipush 9, 2) := by decide +kernel
theorem dX3_init_62 : decode cX3_init 62 = .ok (.newarray .int, 2) := by decide +kernel
theorem dX3_init_64 : decode cX3_init 64 = .ok (.putfield 37, 3) := by decide +kernel
theorem dX3_init_67 : decode cX3_init 67 = .ok (.aload_n 0, 1) := by decide +kernel
theorem dX3_init_68 : decode cX3_init 68 = .ok (.iconst 0, 1) := by decide +kernel
theorem dX3_init_69 : decode cX3_init 69 = .ok (.putfield 40, 3) := by decide +kernel
theorem dX3_init_72 : decode cX3_init 72 = .ok (.iconst 0, 1) := by decide +kernel
theorem dX3_init_73 : decode cX3_init 73 = .ok (.istore_n 1, 1) := by decide +kernel
theorem dX3_init_74 : decode cX3_init 74 = .ok (.iload_n 1, 1) := by decide +kernel
theorem dX3_init_75 : decode cX3_init 75 = .ok (.iconst 4, 1) := by decide +kernel
theorem dX3_init_76 : decode cX3_init 76 = .ok (.if_icmp .ge 22, 3) := by decide +kernel
theorem dX3_init_79 : decode cX3_init 79 = .ok (.aload_n 0, 1) := by decide +kernel
theorem dX3_init_80 : decode cX3_init 80 = .ok (.getfield 11, 3) := by decide +kernel
theorem dX3_init_83 : decode cX3_init 83 = .ok (.iload_n 1, 1) := by decide +kernel
theorem dX3_init_84 : decode cX3_init 84 = .ok (.new 9, 3) := by decide +kernel
theorem dX3_init_87 : decode cX3_init 87 = .ok (.dup, 1) := by decide +kernel
theorem dX3_init_88 : decode cX3_init 88 = .ok (.invokespecial 44, 3) := by decide +kernel
theorem dX3_init_91 : decode cX3_init 91 = .ok (.aastore, 1) := by decide +kernel
theorem dX3_init_92 : decode cX3_init 92 = .ok (.iinc 1 1, 3) := by decide +kernel
theorem dX3_init_95 : decode cX3_init 95 = .ok (.goto (-21), 3) := by decide +kernel
theorem dX3_init_98 : decode cX3_init 98 = .ok (.return_, 1) := by decide +kernel
set_option maxRecDepth 20000 in
theorem ggX3_world_X3_isPlace : GoodIn wsX3_world wsX3_isPlace := goodIn_r _ [5] (by decide +kernel) (by decide +kernel)
set_option maxRecDepth 20000 in
theorem gX3_world_X3_isPlace : GoodIn wsX3_world (va_wsS RX3 45 yX3_isPlace wsX3_isPlace) := goodIn_app (goodIn_of _ (by decide +kernel)) ggX3_world_X3_isPlace
set_option maxRecDepth 20000 in
theorem ggX3_world_X3_isStateCount : GoodIn wsX3_world wsX3_isStateCount := goodIn_r _ [8] (by decide +kernel) (by decide +kernel)
set_option maxRecDepth 20000 in
theorem gX3_world_X3_isStateCount : GoodIn wsX3_world (va_wsS RX3 49 yX3_isStateCount wsX3_isStateCount) := goodIn_app (goodIn_of _ (by decide +kernel)) ggX3_world_X3_isStateCount
set_option maxRecDepth 20000 in
theorem ggX3_world_X2_begin : GoodIn wsX3_world wsX2_begin := goodIn_r _ [12, 13, 14, 15, 16, 17, 18, 19, 28, 29, 30] (by decide +kernel) (by decide +kernel)
set_option maxRecDepth 20000 in
theorem gX3_world_X2_begin_n52 : GoodIn wsX3_world (wsX2_begin) := ggX3_world_X2_begin
theorem dX3_world_0 : decode cX3_world 0 = .ok (.iload_n 1, 1) := by decide +kernel
theorem dX3_world_1 : decode cX3_world 1 = .ok (.invokestatic 45, 3) := by decide +kernel
theorem dX3_world_4 : decode cX3_world 4 = .ok (.ifCond .eq 25, 3) := by decide +kernel
theorem dX3_world_7 : decode cX3_world 7 = .ok (.iload_n 2, 1) := by decide +kernel
theorem dX3_world_8 : decode cX3_world 8 = .ok (.invokestatic 49, 3) := by decide +kernel
theorem dX3_world_11 : decode cX3_world 11 = .ok (.ifCond .eq 18, 3) := by decide +kernel
theorem dX3_world_14 : decode cX3_world 14 = .ok (.iload_n 3, 1) := by decide +kernel
theorem dX3_world_15 : decode cX3_world 15 = .ok (.invokestatic 49, 3) := by decide +kernel
theorem dX3_world_18 : decode cX3_world 18 = .ok (.ifCond .eq 11, 3) := by decide +kernel
theorem dX3_world_21 : decode cX3_world 21 = .ok (.iload 4, 2) := by decide +kernel
theorem dX3_world_23 : decode cX3_world 23 = .ok (.invokestatic 49, 3) := by decide +kernel
theorem dX3_world_26 : decode cX3_world 26 = .ok (.ifCond .ne 5, 3) := by decide +kernel
theorem dX3_world_29 : decode cX3_world 29 = .ok (.iconst 0, 1) := by decide +kernel
theorem dX3_world_30 : decode cX3_world 30 = .ok (.ireturn, 1) := by decide +kernel
theorem dX3_world_31 : decode cX3_world 31 = .ok (.aload_n 0, 1) := by decide +kernel
theorem dX3_world_32 : decode cX3_world 32 = .ok (.getfield 11, 3) := by decide +kernel
theorem dX3_world_35 : decode cX3_world 35 = .ok (.iload_n 1, 1) := by decide +kernel
theorem dX3_world_36 : decode cX3_world 36 = .ok (.aaload, 1) := by decide +kernel
theorem dX3_world_37 : decode cX3_world 37 = .ok (.iload_n 2, 1) := by decide +kernel
theorem dX3_world_38 : decode cX3_world 38 = .ok (.iload_n 3, 1) := by decide +kernel
theorem dX3_world_39 : decode cX3_world 39 = .ok (.iload 4, 2) := by decide +kernel
theorem dX3_world_41 : decode cX3_world 41 = .ok (.invokevirtual 52, 3) := by decide +kernel
theorem dX3_world_44 : decode cX3_world 44 = .ok (.iconst 1, 1) := by decide +kernel
theorem dX3_world_45 : decode cX3_world 45 = .ok (.ireturn, 1) := by decide +kernel
set_option maxRecDepth 20000 in
theorem ggX3_weight_X3_isPlace : GoodIn wsX3_weight wsX3_isPlace := goodIn_r _ [5] (by decide +kernel) (by decide +kernel)
set_option maxRecDepth 20000 in
theorem gX3_weight_X3_isPlace : GoodIn wsX3_weight (va_wsS RX3 45 yX3_isPlace wsX3_isPlace) := goodIn_app (goodIn_of _ (by decide +kernel)) ggX3_weight_X3_isPlace
set_option maxRecDepth 20000 in
theorem ggX3_weight_X2_hasSetting : GoodIn wsX3_weight wsX2_hasSetting := goodIn_r _ [9, 10, 27, 28, 29] (by decide +kernel) (by decide +kernel)
set_option maxRecDepth 20000 in
theorem gX3_weight_X2_hasSetting_n56 : GoodIn wsX3_weight (wsX2_hasSetting) := ggX3_weight_X2_hasSetting
set_option maxRecDepth 20000 in
theorem ggX3_weight_X3_settingOf : GoodIn wsX3_weight wsX3_settingOf := goodIn_r _ [13] (by decide +kernel) (by decide +kernel)
set_option maxRecDepth 20000 in
theorem gX3_weight_X3_settingOf : GoodIn wsX3_weight (va_wsS RX3 60 yX3_settingOf wsX3_settingOf) := goodIn_app (goodIn_of _ (by decide +kernel)) ggX3_weight_X3_settingOf
set_option maxRecDepth 20000 in
theorem ggX3_weight_X2_put : GoodIn wsX3_weight wsX2_put := goodIn_r _ [16, 17, 18, 27, 28, 29] (by decide +kernel) (by decide +kernel)
set_option maxRecDepth 20000 in
theorem gX3_weight_X2_put_n64 : GoodIn wsX3_weight (wsX2_put) := ggX3_weight_X2_put
theorem dX3_weight_0 : decode cX3_weight 0 = .ok (.iload_n 1, 1) := by decide +kernel
theorem dX3_weight_1 : decode cX3_weight 1 = .ok (.invokestatic 45, 3) := by decide +kernel
theorem dX3_weight_4 : decode cX3_weight 4 = .ok (.ifCond .eq 31, 3) := by decide +kernel
theorem dX3_weight_7 : decode cX3_weight 7 = .ok (.iload 5, 2) := by decide +kernel
theorem dX3_weight_9 : decode cX3_weight 9 = .ok (.ifCond .lt 26, 3) := by decide +kernel
theorem dX3_weight_12 : decode cX3_weight 12 = .ok (.iload 5, 2) := by decide +kernel
theorem dX3_weight_14 : decode cX3_weight 14 = .ok (.bipush 16, 2) := by decide +kernel
theorem dX3_weight_16 : decode cX3_weight 16 = .ok (.if_icmp .gt 19, 3) := by decide +kernel
theorem dX3_weight_19 : decode cX3_weight 19 = .ok (.aload_n 0, 1) := by decide +kernel
theorem dX3_weight_20 : decode cX3_weight 20 = .ok (.getfield 11, 3) := by decide +kernel
theorem dX3_weight_23 : decode cX3_weight 23 = .ok (.iload_n 1, 1) := by decide +kernel
theorem dX3_weight_24 : decode cX3_weight 24 = .ok (.aaload, 1) := by decide +kernel
theorem dX3_weight_25 : decode cX3_weight 25 = .ok (.iload_n 2, 1) := by decide +kernel
theorem dX3_weight_26 : decode cX3_weight 26 = .ok (.iload_n 3, 1) := by decide +kernel
theorem dX3_weight_27 : decode cX3_weight 27 = .ok (.iload 4, 2) := by decide +kernel
theorem dX3_weight_29 : decode cX3_weight 29 = .ok (.invokevirtual 56, 3) := by decide +kernel
theorem dX3_weight_32 : decode cX3_weight 32 = .ok (.ifCond .ne 5, 3) := by decide +kernel
theorem dX3_weight_35 : decode cX3_weight 35 = .ok (.iconst 0, 1) := by decide +kernel
theorem dX3_weight_36 : decode cX3_weight 36 = .ok (.ireturn, 1) := by decide +kernel
theorem dX3_weight_37 : decode cX3_weight 37 = .ok (.aload_n 0, 1) := by decide +kernel
theorem dX3_weight_38 : decode cX3_weight 38 = .ok (.getfield 11, 3) := by decide +kernel
theorem dX3_weight_41 : decode cX3_weight 41 = .ok (.iload_n 1, 1) := by decide +kernel
theorem dX3_weight_42 : decode cX3_weight 42 = .ok (.aaload, 1) := by decide +kernel
theorem dX3_weight_43 : decode cX3_weight 43 = .ok (.iload_n 2, 1) := by decide +kernel
theorem dX3_weight_44 : decode cX3_weight 44 = .ok (.iload_n 3, 1) := by decide +kernel
theorem dX3_weight_45 : decode cX3_weight 45 = .ok (.iload 4, 2) := by decide +kernel
theorem dX3_weight_47 : decode cX3_weight 47 = .ok (.invokestatic 60, 3) := by decide +kernel
theorem dX3_weight_50 : decode cX3_weight 50 = .ok (.iload 5, 2) := by decide +kernel
theorem dX3_weight_52 : decode cX3_weight 52 = .ok (.invokevirtual 64, 3) := by decide +kernel
theorem dX3_weight_55 : decode cX3_weight 55 = .ok (.ireturn, 1) := by decide +kernel
set_option maxRecDepth 20000 in
theorem ggX3_told_X3_isPlace : GoodIn wsX3_told wsX3_isPlace := goodIn_r _ [5] (by decide +kernel) (by decide +kernel)
set_option maxRecDepth 20000 in
theorem gX3_told_X3_isPlace : GoodIn wsX3_told (va_wsS RX3 45 yX3_isPlace wsX3_isPlace) := goodIn_app (goodIn_of _ (by decide +kernel)) ggX3_told_X3_isPlace
set_option maxRecDepth 20000 in
theorem ggX3_told_X2_isMade : GoodIn wsX3_told wsX2_isMade := goodIn_r _ [9, 10, 28, 29, 30] (by decide +kernel) (by decide +kernel)
set_option maxRecDepth 20000 in
theorem gX3_told_X2_isMade_n68 : GoodIn wsX3_told (wsX2_isMade) := ggX3_told_X2_isMade
set_option maxRecDepth 20000 in
theorem ggX3_told_X2_weightOf : GoodIn wsX3_told wsX2_weightOf := goodIn_r _ [13, 14, 15, 16, 17, 7, 18, 19, 28, 29, 30] (by decide +kernel) (by decide +kernel)
set_option maxRecDepth 20000 in
theorem gX3_told_X2_weightOf_n79 : GoodIn wsX3_told (wsX2_weightOf) := ggX3_told_X2_weightOf
theorem dX3_told_0 : decode cX3_told 0 = .ok (.iload_n 1, 1) := by decide +kernel
theorem dX3_told_1 : decode cX3_told 1 = .ok (.invokestatic 45, 3) := by decide +kernel
theorem dX3_told_4 : decode cX3_told 4 = .ok (.ifCond .ne 5, 3) := by decide +kernel
theorem dX3_told_7 : decode cX3_told 7 = .ok (.iconst (-1), 1) := by decide +kernel
theorem dX3_told_8 : decode cX3_told 8 = .ok (.ireturn, 1) := by decide +kernel
theorem dX3_told_9 : decode cX3_told 9 = .ok (.aload_n 0, 1) := by decide +kernel
theorem dX3_told_10 : decode cX3_told 10 = .ok (.getfield 11, 3) := by decide +kernel
theorem dX3_told_13 : decode cX3_told 13 = .ok (.iload_n 1, 1) := by decide +kernel
theorem dX3_told_14 : decode cX3_told 14 = .ok (.aaload, 1) := by decide +kernel
theorem dX3_told_15 : decode cX3_told 15 = .ok (.astore_n 3, 1) := by decide +kernel
theorem dX3_told_16 : decode cX3_told 16 = .ok (.iload_n 2, 1) := by decide +kernel
theorem dX3_told_17 : decode cX3_told 17 = .ok (.ifCond .ne 16, 3) := by decide +kernel
theorem dX3_told_20 : decode cX3_told 20 = .ok (.aload_n 3, 1) := by decide +kernel
theorem dX3_told_21 : decode cX3_told 21 = .ok (.invokevirtual 68, 3) := by decide +kernel
theorem dX3_told_24 : decode cX3_told 24 = .ok (.ifCond .eq 7, 3) := by decide +kernel
theorem dX3_told_27 : decode cX3_told 27 = .ok (.iconst 1, 1) := by decide +kernel
theorem dX3_told_28 : decode cX3_told 28 = .ok (.goto 4, 3) := by decide +kernel
theorem dX3_told_31 : decode cX3_told 31 = .ok (.iconst 0, 1) := by decide +kernel
theorem dX3_told_32 : decode cX3_told 32 = .ok (.ireturn, 1) := by decide +kernel
theorem dX3_told_33 : decode cX3_told 33 = .ok (.iload_n 2, 1) := by decide +kernel
theorem dX3_told_34 : decode cX3_told 34 = .ok (.iconst 1, 1) := by decide +kernel
theorem dX3_told_35 : decode cX3_told 35 = .ok (.if_icmp .lt 17, 3) := by decide +kernel
theorem dX3_told_38 : decode cX3_told 38 = .ok (.iload_n 2, 1) := by decide +kernel
theorem dX3_told_39 : decode cX3_told 39 = .ok (.iconst 3, 1) := by decide +kernel
theorem dX3_told_40 : decode cX3_told 40 = .ok (.if_icmp .gt 12, 3) := by decide +kernel
theorem dX3_told_43 : decode cX3_told 43 = .ok (.aload_n 3, 1) := by decide +kernel
theorem dX3_told_44 : decode cX3_told 44 = .ok (.getfield 72, 3) := by decide +kernel
theorem dX3_told_47 : decode cX3_told 47 = .ok (.iload_n 2, 1) := by decide +kernel
theorem dX3_told_48 : decode cX3_told 48 = .ok (.iconst 1, 1) := by decide +kernel
theorem dX3_told_49 : decode cX3_told 49 = .ok (.isub, 1) := by decide +kernel
theorem dX3_told_50 : decode cX3_told 50 = .ok (.iaload, 1) := by decide +kernel
theorem dX3_told_51 : decode cX3_told 51 = .ok (.ireturn, 1) := by decide +kernel
theorem dX3_told_52 : decode cX3_told 52 = .ok (.iload_n 2, 1) := by decide +kernel
theorem dX3_told_53 : decode cX3_told 53 = .ok (.iconst 4, 1) := by decide +kernel
theorem dX3_told_54 : decode cX3_told 54 = .ok (.if_icmp .ne 8, 3) := by decide +kernel
theorem dX3_told_57 : decode cX3_told 57 = .ok (.aload_n 3, 1) := by decide +kernel
theorem dX3_told_58 : decode cX3_told 58 = .ok (.getfield 75, 3) := by decide +kernel
theorem dX3_told_61 : decode cX3_told 61 = .ok (.ireturn, 1) := by decide +kernel
theorem dX3_told_62 : decode cX3_told 62 = .ok (.iload_n 2, 1) := by decide +kernel
theorem dX3_told_63 : decode cX3_told 63 = .ok (.bipush 10, 2) := by decide +kernel
theorem dX3_told_65 : decode cX3_told 65 = .ok (.if_icmp .lt 14, 3) := by decide +kernel
theorem dX3_told_68 : decode cX3_told 68 = .ok (.aload_n 3, 1) := by decide +kernel
theorem dX3_told_69 : decode cX3_told 69 = .ok (.iload_n 2, 1) := by decide +kernel
theorem dX3_told_70 : decode cX3_told 70 = .ok (.bipush 10, 2) := by decide +kernel
theorem dX3_told_72 : decode cX3_told 72 = .ok (.isub, 1) := by decide +kernel
theorem dX3_told_73 : decode cX3_told 73 = .ok (.invokevirtual 79, 3) := by decide +kernel
theorem dX3_told_76 : decode cX3_told 76 = .ok (.goto 4, 3) := by decide +kernel
theorem dX3_told_79 : decode cX3_told 79 = .ok (.iconst (-1), 1) := by decide +kernel
theorem dX3_told_80 : decode cX3_told 80 = .ok (.ireturn, 1) := by decide +kernel
set_option maxRecDepth 20000 in
theorem ggX3_mix_X3_isMadePlace : GoodIn wsX3_mix wsX3_isMadePlace := goodIn_r _ [6, 1, 7, 8, 5, 9, 10, 11, 12, 13, 14, 23, 24, 25, 26, 27, 28, 29, 30, 31, 32, 33] (by decide +kernel) (by decide +kernel)
set_option maxRecDepth 20000 in
theorem gX3_mix_X3_isMadePlace : GoodIn wsX3_mix (wsV RX3 83 RX3 yX3_isMadePlace wsX3_isMadePlace) := goodIn_app (goodIn_of _ (by decide +kernel)) ggX3_mix_X3_isMadePlace
set_option maxRecDepth 20000 in
theorem ggX3_mix_X3_isPlace : GoodIn wsX3_mix wsX3_isPlace := goodIn_r _ [9] (by decide +kernel) (by decide +kernel)
set_option maxRecDepth 20000 in
theorem gX3_mix_X3_isPlace : GoodIn wsX3_mix (va_wsS RX3 45 yX3_isPlace wsX3_isPlace) := goodIn_app (goodIn_of _ (by decide +kernel)) ggX3_mix_X3_isPlace
set_option maxRecDepth 20000 in
theorem ggX3_mix_X2_hasStatesOf : GoodIn wsX3_mix wsX2_hasStatesOf := goodIn_r _ [17, 18, 31, 32, 33] (by decide +kernel) (by decide +kernel)
set_option maxRecDepth 20000 in
theorem gX3_mix_X2_hasStatesOf_n86 : GoodIn wsX3_mix (wsX2_hasStatesOf) := ggX3_mix_X2_hasStatesOf
set_option maxRecDepth 20000 in
theorem ggX3_mix_X2_becomeMixOf : GoodIn wsX3_mix wsX2_becomeMixOf := goodIn_r _ [21, 14, 18, 22, 31, 32, 33] (by decide +kernel) (by decide +kernel)
set_option maxRecDepth 20000 in
theorem gX3_mix_X2_becomeMixOf_n90 : GoodIn wsX3_mix (wsX2_becomeMixOf) := ggX3_mix_X2_becomeMixOf
theorem dX3_mix_0 : decode cX3_mix 0 = .ok (.aload_n 0, 1) := by decide +kernel
theorem dX3_mix_1 : decode cX3_mix 1 = .ok (.iload_n 1, 1) := by decide +kernel
theorem dX3_mix_2 : decode cX3_mix 2 = .ok (.invokevirtual 83, 3) := by decide +kernel
theorem dX3_mix_5 : decode cX3_mix 5 = .ok (.ifCond .eq 18, 3) := by decide +kernel
theorem dX3_mix_8 : decode cX3_mix 8 = .ok (.aload_n 0, 1) := by decide +kernel
theorem dX3_mix_9 : decode cX3_mix 9 = .ok (.iload_n 2, 1) := by decide +kernel
theorem dX3_mix_10 : decode cX3_mix 10 = .ok (.invokevirtual 83, 3) := by decide +kernel
theorem dX3_mix_13 : decode cX3_mix 13 = .ok (.ifCond .eq 10, 3) := by decide +kernel
theorem dX3_mix_16 : decode cX3_mix 16 = .ok (.iload_n 3, 1) := by decide +kernel
theorem dX3_mix_17 : decode cX3_mix 17 = .ok (.invokestatic 45, 3) := by decide +kernel
theorem dX3_mix_20 : decode cX3_mix 20 = .ok (.ifCond .ne 5, 3) := by decide +kernel
theorem dX3_mix_23 : decode cX3_mix 23 = .ok (.iconst 0, 1) := by decide +kernel
theorem dX3_mix_24 : decode cX3_mix 24 = .ok (.ireturn, 1) := by decide +kernel
theorem dX3_mix_25 : decode cX3_mix 25 = .ok (.aload_n 0, 1) := by decide +kernel
theorem dX3_mix_26 : decode cX3_mix 26 = .ok (.getfield 11, 3) := by decide +kernel
theorem dX3_mix_29 : decode cX3_mix 29 = .ok (.iload_n 1, 1) := by decide +kernel
theorem dX3_mix_30 : decode cX3_mix 30 = .ok (.aaload, 1) := by decide +kernel
theorem dX3_mix_31 : decode cX3_mix 31 = .ok (.astore 4, 2) := by decide +kernel
theorem dX3_mix_33 : decode cX3_mix 33 = .ok (.aload_n 0, 1) := by decide +kernel
theorem dX3_mix_34 : decode cX3_mix 34 = .ok (.getfield 11, 3) := by decide +kernel
theorem dX3_mix_37 : decode cX3_mix 37 = .ok (.iload_n 2, 1) := by decide +kernel
theorem dX3_mix_38 : decode cX3_mix 38 = .ok (.aaload, 1) := by decide +kernel
theorem dX3_mix_39 : decode cX3_mix 39 = .ok (.astore 5, 2) := by decide +kernel
theorem dX3_mix_41 : decode cX3_mix 41 = .ok (.aload 4, 2) := by decide +kernel
theorem dX3_mix_43 : decode cX3_mix 43 = .ok (.aload 5, 2) := by decide +kernel
theorem dX3_mix_45 : decode cX3_mix 45 = .ok (.invokevirtual 86, 3) := by decide +kernel
theorem dX3_mix_48 : decode cX3_mix 48 = .ok (.ifCond .eq 19, 3) := by decide +kernel
theorem dX3_mix_51 : decode cX3_mix 51 = .ok (.aload 4, 2) := by decide +kernel
theorem dX3_mix_53 : decode cX3_mix 53 = .ok (.getfield 75, 3) := by decide +kernel
theorem dX3_mix_56 : decode cX3_mix 56 = .ok (.aload 5, 2) := by decide +kernel
theorem dX3_mix_58 : decode cX3_mix 58 = .ok (.getfield 75, 3) := by decide +kernel
theorem dX3_mix_61 : decode cX3_mix 61 = .ok (.iadd, 1) := by decide +kernel
theorem dX3_mix_62 : decode cX3_mix 62 = .ok (.bipush 16, 2) := by decide +kernel
theorem dX3_mix_64 : decode cX3_mix 64 = .ok (.if_icmp .le 5, 3) := by decide +kernel
theorem dX3_mix_67 : decode cX3_mix 67 = .ok (.iconst 0, 1) := by decide +kernel
theorem dX3_mix_68 : decode cX3_mix 68 = .ok (.ireturn, 1) := by decide +kernel
theorem dX3_mix_69 : decode cX3_mix 69 = .ok (.aload_n 0, 1) := by decide +kernel
theorem dX3_mix_70 : decode cX3_mix 70 = .ok (.getfield 11, 3) := by decide +kernel
theorem dX3_mix_73 : decode cX3_mix 73 = .ok (.iload_n 3, 1) := by decide +kernel
theorem dX3_mix_74 : decode cX3_mix 74 = .ok (.aaload, 1) := by decide +kernel
theorem dX3_mix_75 : decode cX3_mix 75 = .ok (.aload 4, 2) := by decide +kernel
theorem dX3_mix_77 : decode cX3_mix 77 = .ok (.aload 5, 2) := by decide +kernel
theorem dX3_mix_79 : decode cX3_mix 79 = .ok (.invokevirtual 90, 3) := by decide +kernel
theorem dX3_mix_82 : decode cX3_mix 82 = .ok (.iconst 1, 1) := by decide +kernel
theorem dX3_mix_83 : decode cX3_mix 83 = .ok (.ireturn, 1) := by decide +kernel
set_option maxRecDepth 20000 in
theorem ggX3_tell_X3_isMadePlace : GoodIn wsX3_tell wsX3_isMadePlace := goodIn_r _ [8, 1, 9, 10, 7, 11, 12, 13, 14, 15, 16, 31, 32, 33, 34, 35, 36, 37, 38, 39, 40, 41] (by decide +kernel) (by decide +kernel)
set_option maxRecDepth 20000 in
theorem gX3_tell_X3_isMadePlace : GoodIn wsX3_tell (wsV RX3 83 RX3 yX3_isMadePlace wsX3_isMadePlace) := goodIn_app (goodIn_of _ (by decide +kernel)) ggX3_tell_X3_isMadePlace
set_option maxRecDepth 20000 in
theorem ggX3_tell_X2_gather : GoodIn wsX3_tell wsX2_gather := goodIn_r _ [19, 20, 21, 22, 23, 24, 25, 7, 26, 39, 40, 41] (by decide +kernel) (by decide +kernel)
set_option maxRecDepth 20000 in
theorem gX3_tell_X2_gather_n97 : GoodIn wsX3_tell (wsX2_gather) := ggX3_tell_X2_gather
set_option maxRecDepth 20000 in
theorem ggX3_tell_X2_spreadByRule : GoodIn wsX3_tell wsX2_spreadByRule := goodIn_r _ [29, 20, 30, 21, 22, 23, 24, 39, 40, 41] (by decide +kernel) (by decide +kernel)
set_option maxRecDepth 20000 in
theorem gX3_tell_X2_spreadByRule_n101 : GoodIn wsX3_tell (wsX2_spreadByRule) := ggX3_tell_X2_spreadByRule
theorem dX3_tell_0 : decode cX3_tell 0 = .ok (.aload_n 0, 1) := by decide +kernel
theorem dX3_tell_1 : decode cX3_tell 1 = .ok (.iload_n 1, 1) := by decide +kernel
theorem dX3_tell_2 : decode cX3_tell 2 = .ok (.invokevirtual 83, 3) := by decide +kernel
theorem dX3_tell_5 : decode cX3_tell 5 = .ok (.ifCond .eq 14, 3) := by decide +kernel
theorem dX3_tell_8 : decode cX3_tell 8 = .ok (.iload_n 2, 1) := by decide +kernel
theorem dX3_tell_9 : decode cX3_tell 9 = .ok (.ifCond .lt 10, 3) := by decide +kernel
theorem dX3_tell_12 : decode cX3_tell 12 = .ok (.iload_n 2, 1) := by decide +kernel
theorem dX3_tell_13 : decode cX3_tell 13 = .ok (.sipush 19683, 3) := by decide +kernel
theorem dX3_tell_16 : decode cX3_tell 16 = .ok (.if_icmp .lt 5, 3) := by decide +kernel
theorem dX3_tell_19 : decode cX3_tell 19 = .ok (.iconst 0, 1) := by decide +kernel
theorem dX3_tell_20 : decode cX3_tell 20 = .ok (.ireturn, 1) := by decide +kernel
theorem dX3_tell_21 : decode cX3_tell 21 = .ok (.aload_n 0, 1) := by decide +kernel
theorem dX3_tell_22 : decode cX3_tell 22 = .ok (.getfield 11, 3) := by decide +kernel
theorem dX3_tell_25 : decode cX3_tell 25 = .ok (.iload_n 1, 1) := by decide +kernel
theorem dX3_tell_26 : decode cX3_tell 26 = .ok (.aaload, 1) := by decide +kernel
theorem dX3_tell_27 : decode cX3_tell 27 = .ok (.getstatic 94, 3) := by decide +kernel
theorem dX3_tell_30 : decode cX3_tell 30 = .ok (.iconst 0, 1) := by decide +kernel
theorem dX3_tell_31 : decode cX3_tell 31 = .ok (.iaload, 1) := by decide +kernel
theorem dX3_tell_32 : decode cX3_tell 32 = .ok (.aload_n 0, 1) := by decide +kernel
theorem dX3_tell_33 : decode cX3_tell 33 = .ok (.getfield 27, 3) := by decide +kernel
theorem dX3_tell_36 : decode cX3_tell 36 = .ok (.invokevirtual 97, 3) := by decide +kernel
theorem dX3_tell_39 : decode cX3_tell 39 = .ok (.aload_n 0, 1) := by decide +kernel
theorem dX3_tell_40 : decode cX3_tell 40 = .ok (.getfield 11, 3) := by decide +kernel
theorem dX3_tell_43 : decode cX3_tell 43 = .ok (.iload_n 1, 1) := by decide +kernel
theorem dX3_tell_44 : decode cX3_tell 44 = .ok (.aaload, 1) := by decide +kernel
theorem dX3_tell_45 : decode cX3_tell 45 = .ok (.aload_n 0, 1) := by decide +kernel
theorem dX3_tell_46 : decode cX3_tell 46 = .ok (.getfield 27, 3) := by decide +kernel
theorem dX3_tell_49 : decode cX3_tell 49 = .ok (.iload_n 2, 1) := by decide +kernel
theorem dX3_tell_50 : decode cX3_tell 50 = .ok (.invokevirtual 101, 3) := by decide +kernel
theorem dX3_tell_53 : decode cX3_tell 53 = .ok (.iconst 1, 1) := by decide +kernel
theorem dX3_tell_54 : decode cX3_tell 54 = .ok (.ireturn, 1) := by decide +kernel
set_option maxRecDepth 20000 in
theorem ggX3_law_X3_isLaw : GoodIn wsX3_law wsX3_isLaw := goodIn_r _ [5] (by decide +kernel) (by decide +kernel)
set_option maxRecDepth 20000 in
theorem gX3_law_X3_isLaw : GoodIn wsX3_law (va_wsS RX3 105 yX3_isLaw wsX3_isLaw) := goodIn_app (goodIn_of _ (by decide +kernel)) ggX3_law_X3_isLaw
set_option maxRecDepth 20000 in
theorem ggX3_law_X3_isSet : GoodIn wsX3_law wsX3_isSet := goodIn_r _ [8] (by decide +kernel) (by decide +kernel)
set_option maxRecDepth 20000 in
theorem gX3_law_X3_isSet : GoodIn wsX3_law (va_wsS RX3 108 yX3_isSet wsX3_isSet) := goodIn_app (goodIn_of _ (by decide +kernel)) ggX3_law_X3_isSet
theorem dX3_law_0 : decode cX3_law 0 = .ok (.iload_n 1, 1) := by decide +kernel
theorem dX3_law_1 : decode cX3_law 1 = .ok (.invokestatic 105, 3) := by decide +kernel
theorem dX3_law_4 : decode cX3_law 4 = .ok (.ifCond .eq 21, 3) := by decide +kernel
theorem dX3_law_7 : decode cX3_law 7 = .ok (.iload_n 2, 1) := by decide +kernel
theorem dX3_law_8 : decode cX3_law 8 = .ok (.invokestatic 108, 3) := by decide +kernel
end
section
theorem dX3_law_11 : decode cX3_law 11 = .ok (.ifCond .eq 14, 3) := by decide +kernel
theorem dX3_law_14 : decode cX3_law 14 = .ok (.iload_n 3, 1) := by decide +kernel
theorem dX3_law_15 : decode cX3_law 15 = .ok (.bipush (-2), 2) := by decide +kernel
theorem dX3_law_17 : decode cX3_law 17 = .ok (.if_icmp .lt 8, 3) := by decide +kernel
theorem dX3_law_20 : decode cX3_law 20 = .ok (.iload_n 3, 1) := by decide +kernel
theorem dX3_law_21 : decode cX3_law 21 = .ok (.iconst 2, 1) := by decide +kernel
theorem dX3_law_22 : decode cX3_law 22 = .ok (.if_icmp .le 5, 3) := by decide +kernel
theorem dX3_law_25 : decode cX3_law 25 = .ok (.iconst 0, 1) := by decide +kernel
theorem dX3_law_26 : decode cX3_law 26 = .ok (.ireturn, 1) := by decide +kernel
theorem dX3_law_27 : decode cX3_law 27 = .ok (.aload_n 0, 1) := by decide +kernel
theorem dX3_law_28 : decode cX3_law 28 = .ok (.getfield 17, 3) := by decide +kernel
theorem dX3_law_31 : decode cX3_law 31 = .ok (.iload_n 1, 1) := by decide +kernel
theorem dX3_law_32 : decode cX3_law 32 = .ok (.aaload, 1) := by decide +kernel
theorem dX3_law_33 : decode cX3_law 33 = .ok (.iload_n 2, 1) := by decide +kernel
theorem dX3_law_34 : decode cX3_law 34 = .ok (.iload_n 3, 1) := by decide +kernel
theorem dX3_law_35 : decode cX3_law 35 = .ok (.iastore, 1) := by decide +kernel
theorem dX3_law_36 : decode cX3_law 36 = .ok (.iconst 1, 1) := by decide +kernel
theorem dX3_law_37 : decode cX3_law 37 = .ok (.ireturn, 1) := by decide +kernel
set_option maxRecDepth 20000 in
theorem ggX3_plain_X3_isLaw : GoodIn wsX3_plain wsX3_isLaw := goodIn_r _ [10] (by decide +kernel) (by decide +kernel)
set_option maxRecDepth 20000 in
theorem gX3_plain_X3_isLaw : GoodIn wsX3_plain (va_wsS RX3 105 yX3_isLaw wsX3_isLaw) := goodIn_app (goodIn_of _ (by decide +kernel)) ggX3_plain_X3_isLaw
theorem dX3_plain_0 : decode cX3_plain 0 = .ok (.iload_n 1, 1) := by decide +kernel
theorem dX3_plain_1 : decode cX3_plain 1 = .ok (.invokestatic 105, 3) := by decide +kernel
theorem dX3_plain_4 : decode cX3_plain 4 = .ok (.ifCond .eq 13, 3) := by decide +kernel
theorem dX3_plain_7 : decode cX3_plain 7 = .ok (.iload_n 2, 1) := by decide +kernel
theorem dX3_plain_8 : decode cX3_plain 8 = .ok (.ifCond .lt 9, 3) := by decide +kernel
theorem dX3_plain_11 : decode cX3_plain 11 = .ok (.iload_n 2, 1) := by decide +kernel
theorem dX3_plain_12 : decode cX3_plain 12 = .ok (.bipush 9, 2) := by decide +kernel
theorem dX3_plain_14 : decode cX3_plain 14 = .ok (.if_icmp .lt 5, 3) := by decide +kernel
theorem dX3_plain_17 : decode cX3_plain 17 = .ok (.iconst 0, 1) := by decide +kernel
theorem dX3_plain_18 : decode cX3_plain 18 = .ok (.ireturn, 1) := by decide +kernel
theorem dX3_plain_19 : decode cX3_plain 19 = .ok (.getstatic 111, 3) := by decide +kernel
theorem dX3_plain_22 : decode cX3_plain 22 = .ok (.iload_n 2, 1) := by decide +kernel
theorem dX3_plain_23 : decode cX3_plain 23 = .ok (.bipush 8, 2) := by decide +kernel
theorem dX3_plain_25 : decode cX3_plain 25 = .ok (.imul, 1) := by decide +kernel
theorem dX3_plain_26 : decode cX3_plain 26 = .ok (.aload_n 0, 1) := by decide +kernel
theorem dX3_plain_27 : decode cX3_plain 27 = .ok (.getfield 17, 3) := by decide +kernel
theorem dX3_plain_30 : decode cX3_plain 30 = .ok (.iload_n 1, 1) := by decide +kernel
theorem dX3_plain_31 : decode cX3_plain 31 = .ok (.aaload, 1) := by decide +kernel
theorem dX3_plain_32 : decode cX3_plain 32 = .ok (.iconst 0, 1) := by decide +kernel
theorem dX3_plain_33 : decode cX3_plain 33 = .ok (.bipush 8, 2) := by decide +kernel
theorem dX3_plain_35 : decode cX3_plain 35 = .ok (.invokestatic 114, 3) := by decide +kernel
theorem dX3_plain_38 : decode cX3_plain 38 = .ok (.iconst 1, 1) := by decide +kernel
theorem dX3_plain_39 : decode cX3_plain 39 = .ok (.ireturn, 1) := by decide +kernel
set_option maxRecDepth 20000 in
theorem ggX3_number_X3_isLaw : GoodIn wsX3_number wsX3_isLaw := goodIn_r _ [5] (by decide +kernel) (by decide +kernel)
set_option maxRecDepth 20000 in
theorem gX3_number_X3_isLaw : GoodIn wsX3_number (va_wsS RX3 105 yX3_isLaw wsX3_isLaw) := goodIn_app (goodIn_of _ (by decide +kernel)) ggX3_number_X3_isLaw
set_option maxRecDepth 20000 in
theorem ggX3_number_X3_isSet : GoodIn wsX3_number wsX3_isSet := goodIn_r _ [8] (by decide +kernel) (by decide +kernel)
set_option maxRecDepth 20000 in
theorem gX3_number_X3_isSet : GoodIn wsX3_number (va_wsS RX3 108 yX3_isSet wsX3_isSet) := goodIn_app (goodIn_of _ (by decide +kernel)) ggX3_number_X3_isSet
theorem dX3_number_0 : decode cX3_number 0 = .ok (.iload_n 1, 1) := by decide +kernel
theorem dX3_number_1 : decode cX3_number 1 = .ok (.invokestatic 105, 3) := by decide +kernel
theorem dX3_number_4 : decode cX3_number 4 = .ok (.ifCond .eq 21, 3) := by decide +kernel
theorem dX3_number_7 : decode cX3_number 7 = .ok (.iload_n 2, 1) := by decide +kernel
theorem dX3_number_8 : decode cX3_number 8 = .ok (.invokestatic 108, 3) := by decide +kernel
theorem dX3_number_11 : decode cX3_number 11 = .ok (.ifCond .eq 14, 3) := by decide +kernel
theorem dX3_number_14 : decode cX3_number 14 = .ok (.aload_n 0, 1) := by decide +kernel
theorem dX3_number_15 : decode cX3_number 15 = .ok (.getfield 17, 3) := by decide +kernel
theorem dX3_number_18 : decode cX3_number 18 = .ok (.iload_n 1, 1) := by decide +kernel
theorem dX3_number_19 : decode cX3_number 19 = .ok (.aaload, 1) := by decide +kernel
theorem dX3_number_20 : decode cX3_number 20 = .ok (.iload_n 2, 1) := by decide +kernel
theorem dX3_number_21 : decode cX3_number 21 = .ok (.iaload, 1) := by decide +kernel
theorem dX3_number_22 : decode cX3_number 22 = .ok (.goto 5, 3) := by decide +kernel
theorem dX3_number_25 : decode cX3_number 25 = .ok (.bipush (-11), 2) := by decide +kernel
theorem dX3_number_27 : decode cX3_number 27 = .ok (.ireturn, 1) := by decide +kernel
set_option maxRecDepth 20000 in
theorem ggX3_sign_X3_isMadePlace : GoodIn wsX3_sign wsX3_isMadePlace := goodIn_r _ [8, 2, 9, 10, 7, 11, 12, 13, 14, 15, 16, 83, 84, 85, 86, 87, 88, 89, 90, 91, 92, 93] (by decide +kernel) (by decide +kernel)
set_option maxRecDepth 20000 in
theorem gX3_sign_X3_isMadePlace : GoodIn wsX3_sign (wsV RX3 83 RX3 yX3_isMadePlace wsX3_isMadePlace) := goodIn_app (goodIn_of _ (by decide +kernel)) ggX3_sign_X3_isMadePlace
set_option maxRecDepth 20000 in
theorem ggX3_sign_X3_isLaw : GoodIn wsX3_sign wsX3_isLaw := goodIn_r _ [19] (by decide +kernel) (by decide +kernel)
set_option maxRecDepth 20000 in
theorem gX3_sign_X3_isLaw : GoodIn wsX3_sign (va_wsS RX3 105 yX3_isLaw wsX3_isLaw) := goodIn_app (goodIn_of _ (by decide +kernel)) ggX3_sign_X3_isLaw
set_option maxRecDepth 20000 in
theorem ggX3_sign_X0_clear : GoodIn wsX3_sign wsX0_clear := goodIn_r _ [23, 24, 25, 26, 27, 28, 94, 95, 96] (by decide +kernel) (by decide +kernel)
set_option maxRecDepth 20000 in
theorem gX3_sign_X0_clear_n120 : GoodIn wsX3_sign (wsX0_clear) := ggX3_sign_X0_clear
set_option maxRecDepth 20000 in
theorem ggX3_sign_X3_addLawSum : GoodIn wsX3_sign wsX3_addLawSum := goodIn_r _ [32, 33, 34, 35, 7, 36, 37, 1, 38, 13, 39, 40, 41, 42, 26, 27, 28, 43, 44, 45, 21, 46, 47, 24, 83, 84, 85, 86, 87, 88, 89, 90, 91, 92, 93, 94, 95, 96] (by decide +kernel) (by decide +kernel)
set_option maxRecDepth 20000 in
theorem gX3_sign_X3_addLawSum : GoodIn wsX3_sign (wsV RX3 123 RX3 yX3_addLawSum wsX3_addLawSum) := goodIn_app (goodIn_of _ (by decide +kernel)) ggX3_sign_X3_addLawSum
set_option maxRecDepth 20000 in
theorem ggX3_sign_X0_signOfSum : GoodIn wsX3_sign wsX0_signOfSum := goodIn_r _ [50, 24, 51, 52, 53, 54, 55, 56, 57, 21, 58, 59, 60, 61, 62, 63, 64, 65, 66, 67, 68, 69, 70, 71, 72, 73, 74, 75, 76, 77, 78, 79, 80, 81, 82, 94, 95, 96, 97, 98] (by decide +kernel) (by decide +kernel)
set_option maxRecDepth 20000 in
theorem gX3_sign_X0_signOfSum_n127 : GoodIn wsX3_sign (wsX0_signOfSum) := ggX3_sign_X0_signOfSum
theorem dX3_sign_0 : decode cX3_sign 0 = .ok (.aload_n 0, 1) := by decide +kernel
theorem dX3_sign_1 : decode cX3_sign 1 = .ok (.iload_n 1, 1) := by decide +kernel
theorem dX3_sign_2 : decode cX3_sign 2 = .ok (.invokevirtual 83, 3) := by decide +kernel
theorem dX3_sign_5 : decode cX3_sign 5 = .ok (.ifCond .eq 10, 3) := by decide +kernel
theorem dX3_sign_8 : decode cX3_sign 8 = .ok (.iload_n 2, 1) := by decide +kernel
theorem dX3_sign_9 : decode cX3_sign 9 = .ok (.invokestatic 105, 3) := by decide +kernel
theorem dX3_sign_12 : decode cX3_sign 12 = .ok (.ifCond .ne 6, 3) := by decide +kernel
theorem dX3_sign_15 : decode cX3_sign 15 = .ok (.bipush (-2), 2) := by decide +kernel
theorem dX3_sign_17 : decode cX3_sign 17 = .ok (.ireturn, 1) := by decide +kernel
theorem dX3_sign_18 : decode cX3_sign 18 = .ok (.aload_n 0, 1) := by decide +kernel
theorem dX3_sign_19 : decode cX3_sign 19 = .ok (.getfield 23, 3) := by decide +kernel
theorem dX3_sign_22 : decode cX3_sign 22 = .ok (.invokevirtual 120, 3) := by decide +kernel
theorem dX3_sign_25 : decode cX3_sign 25 = .ok (.aload_n 0, 1) := by decide +kernel
theorem dX3_sign_26 : decode cX3_sign 26 = .ok (.aload_n 0, 1) := by decide +kernel
theorem dX3_sign_27 : decode cX3_sign 27 = .ok (.getfield 11, 3) := by decide +kernel
theorem dX3_sign_30 : decode cX3_sign 30 = .ok (.iload_n 1, 1) := by decide +kernel
theorem dX3_sign_31 : decode cX3_sign 31 = .ok (.aaload, 1) := by decide +kernel
theorem dX3_sign_32 : decode cX3_sign 32 = .ok (.aload_n 0, 1) := by decide +kernel
theorem dX3_sign_33 : decode cX3_sign 33 = .ok (.getfield 17, 3) := by decide +kernel
theorem dX3_sign_36 : decode cX3_sign 36 = .ok (.iload_n 2, 1) := by decide +kernel
theorem dX3_sign_37 : decode cX3_sign 37 = .ok (.aaload, 1) := by decide +kernel
theorem dX3_sign_38 : decode cX3_sign 38 = .ok (.iconst 1, 1) := by decide +kernel
theorem dX3_sign_39 : decode cX3_sign 39 = .ok (.invokevirtual 123, 3) := by decide +kernel
theorem dX3_sign_42 : decode cX3_sign 42 = .ok (.aload_n 0, 1) := by decide +kernel
theorem dX3_sign_43 : decode cX3_sign 43 = .ok (.getfield 23, 3) := by decide +kernel
theorem dX3_sign_46 : decode cX3_sign 46 = .ok (.invokevirtual 127, 3) := by decide +kernel
theorem dX3_sign_49 : decode cX3_sign 49 = .ok (.ireturn, 1) := by decide +kernel
set_option maxRecDepth 20000 in
theorem ggX3_compare_X3_isMadePlace : GoodIn wsX3_compare wsX3_isMadePlace := goodIn_r _ [8, 1, 9, 10, 7, 11, 12, 13, 14, 15, 16, 83, 84, 85, 86, 87, 88, 89, 90, 91, 92, 93] (by decide +kernel) (by decide +kernel)
set_option maxRecDepth 20000 in
theorem gX3_compare_X3_isMadePlace : GoodIn wsX3_compare (wsV RX3 83 RX3 yX3_isMadePlace wsX3_isMadePlace) := goodIn_app (goodIn_of _ (by decide +kernel)) ggX3_compare_X3_isMadePlace
set_option maxRecDepth 20000 in
theorem ggX3_compare_X3_isLaw : GoodIn wsX3_compare wsX3_isLaw := goodIn_r _ [19] (by decide +kernel) (by decide +kernel)
set_option maxRecDepth 20000 in
theorem gX3_compare_X3_isLaw : GoodIn wsX3_compare (va_wsS RX3 105 yX3_isLaw wsX3_isLaw) := goodIn_app (goodIn_of _ (by decide +kernel)) ggX3_compare_X3_isLaw
set_option maxRecDepth 20000 in
theorem ggX3_compare_X0_clear : GoodIn wsX3_compare wsX0_clear := goodIn_r _ [23, 24, 25, 26, 27, 28, 94, 95, 96] (by decide +kernel) (by decide +kernel)
set_option maxRecDepth 20000 in
theorem gX3_compare_X0_clear_n120 : GoodIn wsX3_compare (wsX0_clear) := ggX3_compare_X0_clear
set_option maxRecDepth 20000 in
theorem ggX3_compare_X3_addLawSum : GoodIn wsX3_compare wsX3_addLawSum := goodIn_r _ [32, 33, 34, 35, 7, 36, 37, 2, 38, 13, 39, 40, 41, 42, 26, 27, 28, 43, 44, 45, 21, 46, 47, 24, 83, 84, 85, 86, 87, 88, 89, 90, 91, 92, 93, 94, 95, 96] (by decide +kernel) (by decide +kernel)
set_option maxRecDepth 20000 in
theorem gX3_compare_X3_addLawSum : GoodIn wsX3_compare (wsV RX3 123 RX3 yX3_addLawSum wsX3_addLawSum) := goodIn_app (goodIn_of _ (by decide +kernel)) ggX3_compare_X3_addLawSum
set_option maxRecDepth 20000 in
theorem ggX3_compare_X0_signOfSum : GoodIn wsX3_compare wsX0_signOfSum := goodIn_r _ [50, 24, 51, 52, 53, 54, 55, 56, 57, 21, 58, 59, 60, 61, 62, 63, 64, 65, 66, 67, 68, 69, 70, 71, 72, 73, 74, 75, 76, 77, 78, 79, 80, 81, 82, 94, 95, 96, 97, 98] (by decide +kernel) (by decide +kernel)
set_option maxRecDepth 20000 in
theorem gX3_compare_X0_signOfSum_n127 : GoodIn wsX3_compare (wsX0_signOfSum) := ggX3_compare_X0_signOfSum
theorem dX3_compare_0 : decode cX3_compare 0 = .ok (.aload_n 0, 1) := by decide +kernel
theorem dX3_compare_1 : decode cX3_compare 1 = .ok (.iload_n 1, 1) := by decide +kernel
theorem dX3_compare_2 : decode cX3_compare 2 = .ok (.invokevirtual 83, 3) := by decide +kernel
theorem dX3_compare_5 : decode cX3_compare 5 = .ok (.ifCond .eq 26, 3) := by decide +kernel
theorem dX3_compare_8 : decode cX3_compare 8 = .ok (.iload_n 2, 1) := by decide +kernel
theorem dX3_compare_9 : decode cX3_compare 9 = .ok (.invokestatic 105, 3) := by decide +kernel
theorem dX3_compare_12 : decode cX3_compare 12 = .ok (.ifCond .eq 19, 3) := by decide +kernel
theorem dX3_compare_15 : decode cX3_compare 15 = .ok (.aload_n 0, 1) := by decide +kernel
theorem dX3_compare_16 : decode cX3_compare 16 = .ok (.iload_n 3, 1) := by decide +kernel
theorem dX3_compare_17 : decode cX3_compare 17 = .ok (.invokevirtual 83, 3) := by decide +kernel
theorem dX3_compare_20 : decode cX3_compare 20 = .ok (.ifCond .eq 11, 3) := by decide +kernel
theorem dX3_compare_23 : decode cX3_compare 23 = .ok (.iload 4, 2) := by decide +kernel
theorem dX3_compare_25 : decode cX3_compare 25 = .ok (.invokestatic 105, 3) := by decide +kernel
theorem dX3_compare_28 : decode cX3_compare 28 = .ok (.ifCond .ne 6, 3) := by decide +kernel
theorem dX3_compare_31 : decode cX3_compare 31 = .ok (.bipush (-2), 2) := by decide +kernel
theorem dX3_compare_33 : decode cX3_compare 33 = .ok (.ireturn, 1) := by decide +kernel
theorem dX3_compare_34 : decode cX3_compare 34 = .ok (.aload_n 0, 1) := by decide +kernel
theorem dX3_compare_35 : decode cX3_compare 35 = .ok (.getfield 11, 3) := by decide +kernel
theorem dX3_compare_38 : decode cX3_compare 38 = .ok (.iload_n 1, 1) := by decide +kernel
theorem dX3_compare_39 : decode cX3_compare 39 = .ok (.aaload, 1) := by decide +kernel
theorem dX3_compare_40 : decode cX3_compare 40 = .ok (.astore 5, 2) := by decide +kernel
theorem dX3_compare_42 : decode cX3_compare 42 = .ok (.aload_n 0, 1) := by decide +kernel
theorem dX3_compare_43 : decode cX3_compare 43 = .ok (.getfield 11, 3) := by decide +kernel
theorem dX3_compare_46 : decode cX3_compare 46 = .ok (.iload_n 3, 1) := by decide +kernel
theorem dX3_compare_47 : decode cX3_compare 47 = .ok (.aaload, 1) := by decide +kernel
theorem dX3_compare_48 : decode cX3_compare 48 = .ok (.astore 6, 2) := by decide +kernel
theorem dX3_compare_50 : decode cX3_compare 50 = .ok (.aload_n 0, 1) := by decide +kernel
theorem dX3_compare_51 : decode cX3_compare 51 = .ok (.getfield 23, 3) := by decide +kernel
theorem dX3_compare_54 : decode cX3_compare 54 = .ok (.invokevirtual 120, 3) := by decide +kernel
theorem dX3_compare_57 : decode cX3_compare 57 = .ok (.aload_n 0, 1) := by decide +kernel
theorem dX3_compare_58 : decode cX3_compare 58 = .ok (.aload 5, 2) := by decide +kernel
theorem dX3_compare_60 : decode cX3_compare 60 = .ok (.aload_n 0, 1) := by decide +kernel
theorem dX3_compare_61 : decode cX3_compare 61 = .ok (.getfield 17, 3) := by decide +kernel
theorem dX3_compare_64 : decode cX3_compare 64 = .ok (.iload_n 2, 1) := by decide +kernel
theorem dX3_compare_65 : decode cX3_compare 65 = .ok (.aaload, 1) := by decide +kernel
theorem dX3_compare_66 : decode cX3_compare 66 = .ok (.aload 6, 2) := by decide +kernel
theorem dX3_compare_68 : decode cX3_compare 68 = .ok (.getfield 75, 3) := by decide +kernel
theorem dX3_compare_71 : decode cX3_compare 71 = .ok (.invokevirtual 123, 3) := by decide +kernel
theorem dX3_compare_74 : decode cX3_compare 74 = .ok (.aload_n 0, 1) := by decide +kernel
theorem dX3_compare_75 : decode cX3_compare 75 = .ok (.aload 6, 2) := by decide +kernel
theorem dX3_compare_77 : decode cX3_compare 77 = .ok (.aload_n 0, 1) := by decide +kernel
theorem dX3_compare_78 : decode cX3_compare 78 = .ok (.getfield 17, 3) := by decide +kernel
theorem dX3_compare_81 : decode cX3_compare 81 = .ok (.iload 4, 2) := by decide +kernel
theorem dX3_compare_83 : decode cX3_compare 83 = .ok (.aaload, 1) := by decide +kernel
theorem dX3_compare_84 : decode cX3_compare 84 = .ok (.aload 5, 2) := by decide +kernel
theorem dX3_compare_86 : decode cX3_compare 86 = .ok (.getfield 75, 3) := by decide +kernel
theorem dX3_compare_89 : decode cX3_compare 89 = .ok (.ineg, 1) := by decide +kernel
theorem dX3_compare_90 : decode cX3_compare 90 = .ok (.invokevirtual 123, 3) := by decide +kernel
theorem dX3_compare_93 : decode cX3_compare 93 = .ok (.aload_n 0, 1) := by decide +kernel
theorem dX3_compare_94 : decode cX3_compare 94 = .ok (.getfield 23, 3) := by decide +kernel
theorem dX3_compare_97 : decode cX3_compare 97 = .ok (.invokevirtual 127, 3) := by decide +kernel
theorem dX3_compare_100 : decode cX3_compare 100 = .ok (.ireturn, 1) := by decide +kernel
set_option maxRecDepth 20000 in
theorem ggX3_near_X3_isMadePlace : GoodIn wsX3_near wsX3_isMadePlace := goodIn_r _ [8, 1, 9, 10, 7, 11, 12, 13, 14, 15, 16, 83, 84, 85, 86, 87, 88, 89, 90, 91, 92, 93] (by decide +kernel) (by decide +kernel)
set_option maxRecDepth 20000 in
theorem gX3_near_X3_isMadePlace : GoodIn wsX3_near (wsV RX3 83 RX3 yX3_isMadePlace wsX3_isMadePlace) := goodIn_app (goodIn_of _ (by decide +kernel)) ggX3_near_X3_isMadePlace
set_option maxRecDepth 20000 in
theorem ggX3_near_X3_isLaw : GoodIn wsX3_near wsX3_isLaw := goodIn_r _ [19] (by decide +kernel) (by decide +kernel)
set_option maxRecDepth 20000 in
theorem gX3_near_X3_isLaw : GoodIn wsX3_near (va_wsS RX3 105 yX3_isLaw wsX3_isLaw) := goodIn_app (goodIn_of _ (by decide +kernel)) ggX3_near_X3_isLaw
set_option maxRecDepth 20000 in
theorem ggX3_near_X0_clear : GoodIn wsX3_near wsX0_clear := goodIn_r _ [23, 24, 25, 26, 27, 28, 94, 95, 96] (by decide +kernel) (by decide +kernel)
set_option maxRecDepth 20000 in
theorem gX3_near_X0_clear_n120 : GoodIn wsX3_near (wsX0_clear) := ggX3_near_X0_clear
set_option maxRecDepth 20000 in
theorem ggX3_near_X3_addLawSum : GoodIn wsX3_near wsX3_addLawSum := goodIn_r _ [32, 33, 34, 35, 7, 36, 37, 2, 38, 13, 39, 40, 41, 42, 26, 27, 28, 43, 44, 45, 21, 46, 47, 24, 83, 84, 85, 86, 87, 88, 89, 90, 91, 92, 93, 94, 95, 96] (by decide +kernel) (by decide +kernel)
set_option maxRecDepth 20000 in
theorem gX3_near_X3_addLawSum : GoodIn wsX3_near (wsV RX3 123 RX3 yX3_addLawSum wsX3_addLawSum) := goodIn_app (goodIn_of _ (by decide +kernel)) ggX3_near_X3_addLawSum
set_option maxRecDepth 20000 in
theorem ggX3_near_X0_addLog : GoodIn wsX3_near wsX0_addLog := goodIn_r _ [47, 24, 94, 95, 96] (by decide +kernel) (by decide +kernel)
set_option maxRecDepth 20000 in
theorem gX3_near_X0_addLog_n131 : GoodIn wsX3_near (wsX0_addLog) := ggX3_near_X0_addLog
set_option maxRecDepth 20000 in
theorem ggX3_near_X0_signOfSum : GoodIn wsX3_near wsX0_signOfSum := goodIn_r _ [50, 24, 51, 52, 53, 54, 55, 56, 57, 21, 58, 59, 60, 61, 62, 63, 64, 65, 66, 67, 68, 69, 70, 71, 72, 73, 74, 75, 76, 77, 78, 79, 80, 81, 82, 94, 95, 96, 97, 98] (by decide +kernel) (by decide +kernel)
set_option maxRecDepth 20000 in
theorem gX3_near_X0_signOfSum_n127 : GoodIn wsX3_near (wsX0_signOfSum) := ggX3_near_X0_signOfSum
theorem dX3_near_0 : decode cX3_near 0 = .ok (.aload_n 0, 1) := by decide +kernel
theorem dX3_near_1 : decode cX3_near 1 = .ok (.iload_n 1, 1) := by decide +kernel
theorem dX3_near_2 : decode cX3_near 2 = .ok (.invokevirtual 83, 3) := by decide +kernel
theorem dX3_near_5 : decode cX3_near 5 = .ok (.ifCond .eq 10, 3) := by decide +kernel
theorem dX3_near_8 : decode cX3_near 8 = .ok (.iload_n 2, 1) := by decide +kernel
theorem dX3_near_9 : decode cX3_near 9 = .ok (.invokestatic 105, 3) := by decide +kernel
theorem dX3_near_12 : decode cX3_near 12 = .ok (.ifCond .ne 7, 3) := by decide +kernel
theorem dX3_near_15 : decode cX3_near 15 = .ok (.sipush (-10000), 3) := by decide +kernel
theorem dX3_near_18 : decode cX3_near 18 = .ok (.ireturn, 1) := by decide +kernel
theorem dX3_near_19 : decode cX3_near 19 = .ok (.aload_n 0, 1) := by decide +kernel
theorem dX3_near_20 : decode cX3_near 20 = .ok (.getfield 11, 3) := by decide +kernel
theorem dX3_near_23 : decode cX3_near 23 = .ok (.iload_n 1, 1) := by decide +kernel
theorem dX3_near_24 : decode cX3_near 24 = .ok (.aaload, 1) := by decide +kernel
theorem dX3_near_25 : decode cX3_near 25 = .ok (.getfield 75, 3) := by decide +kernel
theorem dX3_near_28 : decode cX3_near 28 = .ok (.istore_n 3, 1) := by decide +kernel
theorem dX3_near_29 : decode cX3_near 29 = .ok (.sipush (-1024), 3) := by decide +kernel
theorem dX3_near_32 : decode cX3_near 32 = .ok (.istore 4, 2) := by decide +kernel
theorem dX3_near_34 : decode cX3_near 34 = .ok (.aload_n 0, 1) := by decide +kernel
theorem dX3_near_35 : decode cX3_near 35 = .ok (.getfield 23, 3) := by decide +kernel
theorem dX3_near_38 : decode cX3_near 38 = .ok (.invokevirtual 120, 3) := by decide +kernel
theorem dX3_near_41 : decode cX3_near 41 = .ok (.aload_n 0, 1) := by decide +kernel
theorem dX3_near_42 : decode cX3_near 42 = .ok (.aload_n 0, 1) := by decide +kernel
theorem dX3_near_43 : decode cX3_near 43 = .ok (.getfield 11, 3) := by decide +kernel
theorem dX3_near_46 : decode cX3_near 46 = .ok (.iload_n 1, 1) := by decide +kernel
theorem dX3_near_47 : decode cX3_near 47 = .ok (.aaload, 1) := by decide +kernel
theorem dX3_near_48 : decode cX3_near 48 = .ok (.aload_n 0, 1) := by decide +kernel
theorem dX3_near_49 : decode cX3_near 49 = .ok (.getfield 17, 3) := by decide +kernel
theorem dX3_near_52 : decode cX3_near 52 = .ok (.iload_n 2, 1) := by decide +kernel
theorem dX3_near_53 : decode cX3_near 53 = .ok (.aaload, 1) := by decide +kernel
theorem dX3_near_54 : decode cX3_near 54 = .ok (.bipush 16, 2) := by decide +kernel
theorem dX3_near_56 : decode cX3_near 56 = .ok (.invokevirtual 123, 3) := by decide +kernel
theorem dX3_near_59 : decode cX3_near 59 = .ok (.aload_n 0, 1) := by decide +kernel
theorem dX3_near_60 : decode cX3_near 60 = .ok (.getfield 23, 3) := by decide +kernel
theorem dX3_near_63 : decode cX3_near 63 = .ok (.iconst 2, 1) := by decide +kernel
theorem dX3_near_64 : decode cX3_near 64 = .ok (.iload 4, 2) := by decide +kernel
theorem dX3_near_66 : decode cX3_near 66 = .ok (.ineg, 1) := by decide +kernel
theorem dX3_near_67 : decode cX3_near 67 = .ok (.iload_n 3, 1) := by decide +kernel
theorem dX3_near_68 : decode cX3_near 68 = .ok (.imul, 1) := by decide +kernel
theorem dX3_near_69 : decode cX3_near 69 = .ok (.invokevirtual 131, 3) := by decide +kernel
theorem dX3_near_72 : decode cX3_near 72 = .ok (.sipush 1024, 3) := by decide +kernel
theorem dX3_near_75 : decode cX3_near 75 = .ok (.istore 5, 2) := by decide +kernel
theorem dX3_near_77 : decode cX3_near 77 = .ok (.iload 5, 2) := by decide +kernel
theorem dX3_near_79 : decode cX3_near 79 = .ok (.ifCond .le 57, 3) := by decide +kernel
theorem dX3_near_82 : decode cX3_near 82 = .ok (.aload_n 0, 1) := by decide +kernel
theorem dX3_near_83 : decode cX3_near 83 = .ok (.getfield 23, 3) := by decide +kernel
theorem dX3_near_86 : decode cX3_near 86 = .ok (.iconst 2, 1) := by decide +kernel
theorem dX3_near_87 : decode cX3_near 87 = .ok (.iload 5, 2) := by decide +kernel
theorem dX3_near_89 : decode cX3_near 89 = .ok (.ineg, 1) := by decide +kernel
theorem dX3_near_90 : decode cX3_near 90 = .ok (.iload_n 3, 1) := by decide +kernel
theorem dX3_near_91 : decode cX3_near 91 = .ok (.imul, 1) := by decide +kernel
theorem dX3_near_92 : decode cX3_near 92 = .ok (.invokevirtual 131, 3) := by decide +kernel
theorem dX3_near_95 : decode cX3_near 95 = .ok (.aload_n 0, 1) := by decide +kernel
theorem dX3_near_96 : decode cX3_near 96 = .ok (.getfield 23, 3) := by decide +kernel
theorem dX3_near_99 : decode cX3_near 99 = .ok (.invokevirtual 127, 3) := by decide +kernel
theorem dX3_near_102 : decode cX3_near 102 = .ok (.ifCond .lt 13, 3) := by decide +kernel
theorem dX3_near_105 : decode cX3_near 105 = .ok (.iload 4, 2) := by decide +kernel
theorem dX3_near_107 : decode cX3_near 107 = .ok (.iload 5, 2) := by decide +kernel
theorem dX3_near_109 : decode cX3_near 109 = .ok (.iadd, 1) := by decide +kernel
theorem dX3_near_110 : decode cX3_near 110 = .ok (.istore 4, 2) := by decide +kernel
theorem dX3_near_112 : decode cX3_near 112 = .ok (.goto 15, 3) := by decide +kernel
theorem dX3_near_115 : decode cX3_near 115 = .ok (.aload_n 0, 1) := by decide +kernel
theorem dX3_near_116 : decode cX3_near 116 = .ok (.getfield 23, 3) := by decide +kernel
theorem dX3_near_119 : decode cX3_near 119 = .ok (.iconst 2, 1) := by decide +kernel
theorem dX3_near_120 : decode cX3_near 120 = .ok (.iload 5, 2) := by decide +kernel
theorem dX3_near_122 : decode cX3_near 122 = .ok (.iload_n 3, 1) := by decide +kernel
theorem dX3_near_123 : decode cX3_near 123 = .ok (.imul, 1) := by decide +kernel
theorem dX3_near_124 : decode cX3_near 124 = .ok (.invokevirtual 131, 3) := by decide +kernel
theorem dX3_near_127 : decode cX3_near 127 = .ok (.iload 5, 2) := by decide +kernel
theorem dX3_near_129 : decode cX3_near 129 = .ok (.iconst 2, 1) := by decide +kernel
theorem dX3_near_130 : decode cX3_near 130 = .ok (.idiv, 1) := by decide +kernel
theorem dX3_near_131 : decode cX3_near 131 = .ok (.istore 5, 2) := by decide +kernel
theorem dX3_near_133 : decode cX3_near 133 = .ok (.goto (-56), 3) := by decide +kernel
theorem dX3_near_136 : decode cX3_near 136 = .ok (.iload 4, 2) := by decide +kernel
theorem dX3_near_138 : decode cX3_near 138 = .ok (.ireturn, 1) := by decide +kernel
set_option maxRecDepth 20000 in
theorem ggX3_always_X3_isLaw : GoodIn wsX3_always wsX3_isLaw := goodIn_r _ [5] (by decide +kernel) (by decide +kernel)
set_option maxRecDepth 20000 in
theorem gX3_always_X3_isLaw : GoodIn wsX3_always (va_wsS RX3 105 yX3_isLaw wsX3_isLaw) := goodIn_app (goodIn_of _ (by decide +kernel)) ggX3_always_X3_isLaw
set_option maxRecDepth 20000 in
theorem ggX3_always_X3_isGivens : GoodIn wsX3_always wsX3_isGivens := goodIn_r _ [8] (by decide +kernel) (by decide +kernel)
set_option maxRecDepth 20000 in
theorem gX3_always_X3_isGivens : GoodIn wsX3_always (va_wsS RX3 135 yX3_isGivens wsX3_isGivens) := goodIn_app (goodIn_of _ (by decide +kernel)) ggX3_always_X3_isGivens
set_option maxRecDepth 20000 in
theorem ggX3_always_X3_firstBreakingRow : GoodIn wsX3_always wsX3_firstBreakingRow := goodIn_r _ [11, 12, 13, 4, 14, 15, 16, 17, 18, 19] (by decide +kernel) (by decide +kernel)
set_option maxRecDepth 20000 in
theorem gX3_always_X3_firstBreakingRow : GoodIn wsX3_always (va_wsS RX3 138 yX3_firstBreakingRow wsX3_firstBreakingRow) := goodIn_app (goodIn_of _ (by decide +kernel)) ggX3_always_X3_firstBreakingRow
theorem dX3_always_0 : decode cX3_always 0 = .ok (.iload_n 1, 1) := by decide +kernel
theorem dX3_always_1 : decode cX3_always 1 = .ok (.invokestatic 105, 3) := by decide +kernel
theorem dX3_always_4 : decode cX3_always 4 = .ok (.ifCond .eq 10, 3) := by decide +kernel
theorem dX3_always_7 : decode cX3_always 7 = .ok (.iload_n 2, 1) := by decide +kernel
theorem dX3_always_8 : decode cX3_always 8 = .ok (.invokestatic 135, 3) := by decide +kernel
theorem dX3_always_11 : decode cX3_always 11 = .ok (.ifCond .ne 5, 3) := by decide +kernel
theorem dX3_always_14 : decode cX3_always 14 = .ok (.iconst (-1), 1) := by decide +kernel
theorem dX3_always_15 : decode cX3_always 15 = .ok (.ireturn, 1) := by decide +kernel
theorem dX3_always_16 : decode cX3_always 16 = .ok (.aload_n 0, 1) := by decide +kernel
theorem dX3_always_17 : decode cX3_always 17 = .ok (.getfield 17, 3) := by decide +kernel
theorem dX3_always_20 : decode cX3_always 20 = .ok (.iload_n 1, 1) := by decide +kernel
theorem dX3_always_21 : decode cX3_always 21 = .ok (.aaload, 1) := by decide +kernel
theorem dX3_always_22 : decode cX3_always 22 = .ok (.iload_n 2, 1) := by decide +kernel
theorem dX3_always_23 : decode cX3_always 23 = .ok (.invokestatic 138, 3) := by decide +kernel
theorem dX3_always_26 : decode cX3_always 26 = .ok (.iconst (-1), 1) := by decide +kernel
theorem dX3_always_27 : decode cX3_always 27 = .ok (.if_icmp .ne 7, 3) := by decide +kernel
theorem dX3_always_30 : decode cX3_always 30 = .ok (.iconst 1, 1) := by decide +kernel
theorem dX3_always_31 : decode cX3_always 31 = .ok (.goto 4, 3) := by decide +kernel
theorem dX3_always_34 : decode cX3_always 34 = .ok (.iconst 0, 1) := by decide +kernel
theorem dX3_always_35 : decode cX3_always 35 = .ok (.ireturn, 1) := by decide +kernel
set_option maxRecDepth 20000 in
theorem ggX3_breaks_X3_isLaw : GoodIn wsX3_breaks wsX3_isLaw := goodIn_r _ [5] (by decide +kernel) (by decide +kernel)
set_option maxRecDepth 20000 in
theorem gX3_breaks_X3_isLaw : GoodIn wsX3_breaks (va_wsS RX3 105 yX3_isLaw wsX3_isLaw) := goodIn_app (goodIn_of _ (by decide +kernel)) ggX3_breaks_X3_isLaw
set_option maxRecDepth 20000 in
theorem ggX3_breaks_X3_isGivens : GoodIn wsX3_breaks wsX3_isGivens := goodIn_r _ [8] (by decide +kernel) (by decide +kernel)
set_option maxRecDepth 20000 in
theorem gX3_breaks_X3_isGivens : GoodIn wsX3_breaks (va_wsS RX3 135 yX3_isGivens wsX3_isGivens) := goodIn_app (goodIn_of _ (by decide +kernel)) ggX3_breaks_X3_isGivens
set_option maxRecDepth 20000 in
theorem ggX3_breaks_X3_firstBreakingRow : GoodIn wsX3_breaks wsX3_firstBreakingRow := goodIn_r _ [11, 12, 13, 4, 14, 15, 16, 17, 18, 19] (by decide +kernel) (by decide +kernel)
set_option maxRecDepth 20000 in
theorem gX3_breaks_X3_firstBreakingRow : GoodIn wsX3_breaks (va_wsS RX3 138 yX3_firstBreakingRow wsX3_firstBreakingRow) := goodIn_app (goodIn_of _ (by decide +kernel)) ggX3_breaks_X3_firstBreakingRow
theorem dX3_breaks_0 : decode cX3_breaks 0 = .ok (.iload_n 1, 1) := by decide +kernel
theorem dX3_breaks_1 : decode cX3_breaks 1 = .ok (.invokestatic 105, 3) := by decide +kernel
theorem dX3_breaks_4 : decode cX3_breaks 4 = .ok (.ifCond .eq 23, 3) := by decide +kernel
theorem dX3_breaks_7 : decode cX3_breaks 7 = .ok (.iload_n 2, 1) := by decide +kernel
theorem dX3_breaks_8 : decode cX3_breaks 8 = .ok (.invokestatic 135, 3) := by decide +kernel
theorem dX3_breaks_11 : decode cX3_breaks 11 = .ok (.ifCond .eq 16, 3) := by decide +kernel
theorem dX3_breaks_14 : decode cX3_breaks 14 = .ok (.aload_n 0, 1) := by decide +kernel
theorem dX3_breaks_15 : decode cX3_breaks 15 = .ok (.getfield 17, 3) := by decide +kernel
theorem dX3_breaks_18 : decode cX3_breaks 18 = .ok (.iload_n 1, 1) := by decide +kernel
theorem dX3_breaks_19 : decode cX3_breaks 19 = .ok (.aaload, 1) := by decide +kernel
theorem dX3_breaks_20 : decode cX3_breaks 20 = .ok (.iload_n 2, 1) := by decide +kernel
theorem dX3_breaks_21 : decode cX3_breaks 21 = .ok (.invokestatic 138, 3) := by decide +kernel
theorem dX3_breaks_24 : decode cX3_breaks 24 = .ok (.goto 4, 3) := by decide +kernel
theorem dX3_breaks_27 : decode cX3_breaks 27 = .ok (.iconst (-1), 1) := by decide +kernel
theorem dX3_breaks_28 : decode cX3_breaks 28 = .ok (.ireturn, 1) := by decide +kernel
set_option maxRecDepth 20000 in
theorem ggX3_prove_X3_isLaw : GoodIn wsX3_prove wsX3_isLaw := goodIn_r _ [12] (by decide +kernel) (by decide +kernel)
set_option maxRecDepth 20000 in
theorem gX3_prove_X3_isLaw : GoodIn wsX3_prove (va_wsS RX3 105 yX3_isLaw wsX3_isLaw) := goodIn_app (goodIn_of _ (by decide +kernel)) ggX3_prove_X3_isLaw
set_option maxRecDepth 20000 in
theorem ggX3_prove_X3_splitIntoParts : GoodIn wsX3_prove wsX3_splitIntoParts := goodIn_r _ [16, 17, 29, 30, 31, 32, 33, 34, 35, 36] (by decide +kernel) (by decide +kernel)
set_option maxRecDepth 20000 in
theorem gX3_prove_X3_splitIntoParts : GoodIn wsX3_prove (wsV RX3 142 RX3 yX3_splitIntoParts wsX3_splitIntoParts) := goodIn_app (goodIn_of _ (by decide +kernel)) ggX3_prove_X3_splitIntoParts
set_option maxRecDepth 20000 in
theorem ggX3_prove_X3_leavesOneRow : GoodIn wsX3_prove wsX3_leavesOneRow := goodIn_r _ [20] (by decide +kernel) (by decide +kernel)
set_option maxRecDepth 20000 in
theorem gX3_prove_X3_leavesOneRow : GoodIn wsX3_prove (va_wsS RX3 146 yX3_leavesOneRow wsX3_leavesOneRow) := goodIn_app (goodIn_of _ (by decide +kernel)) ggX3_prove_X3_leavesOneRow
set_option maxRecDepth 20000 in
theorem ggX3_prove_X3_tryWithout : GoodIn wsX3_prove wsX3_tryWithout := goodIn_r _ [24, 17, 2, 25, 26, 27, 11, 28, 29, 30, 31, 32, 33, 34, 35, 36] (by decide +kernel) (by decide +kernel)
set_option maxRecDepth 20000 in
theorem gX3_prove_X3_tryWithout : GoodIn wsX3_prove (wsV RX3 149 RX3 yX3_tryWithout wsX3_tryWithout) := goodIn_app (goodIn_of _ (by decide +kernel)) ggX3_prove_X3_tryWithout
theorem dX3_prove_0 : decode cX3_prove 0 = .ok (.iload_n 1, 1) := by decide +kernel
theorem dX3_prove_1 : decode cX3_prove 1 = .ok (.invokestatic 105, 3) := by decide +kernel
theorem dX3_prove_4 : decode cX3_prove 4 = .ok (.ifCond .ne 5, 3) := by decide +kernel
theorem dX3_prove_7 : decode cX3_prove 7 = .ok (.iconst 0, 1) := by decide +kernel
theorem dX3_prove_8 : decode cX3_prove 8 = .ok (.ireturn, 1) := by decide +kernel
theorem dX3_prove_9 : decode cX3_prove 9 = .ok (.aload_n 0, 1) := by decide +kernel
theorem dX3_prove_10 : decode cX3_prove 10 = .ok (.aload_n 0, 1) := by decide +kernel
theorem dX3_prove_11 : decode cX3_prove 11 = .ok (.getfield 17, 3) := by decide +kernel
theorem dX3_prove_14 : decode cX3_prove 14 = .ok (.iload_n 1, 1) := by decide +kernel
theorem dX3_prove_15 : decode cX3_prove 15 = .ok (.aaload, 1) := by decide +kernel
theorem dX3_prove_16 : decode cX3_prove 16 = .ok (.invokevirtual 142, 3) := by decide +kernel
theorem dX3_prove_19 : decode cX3_prove 19 = .ok (.iconst 0, 1) := by decide +kernel
theorem dX3_prove_20 : decode cX3_prove 20 = .ok (.istore_n 2, 1) := by decide +kernel
theorem dX3_prove_21 : decode cX3_prove 21 = .ok (.iload_n 2, 1) := by decide +kernel
theorem dX3_prove_22 : decode cX3_prove 22 = .ok (.bipush 9, 2) := by decide +kernel
theorem dX3_prove_24 : decode cX3_prove 24 = .ok (.if_icmp .ge 64, 3) := by decide +kernel
theorem dX3_prove_27 : decode cX3_prove 27 = .ok (.iload_n 2, 1) := by decide +kernel
theorem dX3_prove_28 : decode cX3_prove 28 = .ok (.iconst 1, 1) := by decide +kernel
theorem dX3_prove_29 : decode cX3_prove 29 = .ok (.iadd, 1) := by decide +kernel
theorem dX3_prove_30 : decode cX3_prove 30 = .ok (.istore_n 3, 1) := by decide +kernel
theorem dX3_prove_31 : decode cX3_prove 31 = .ok (.iload_n 3, 1) := by decide +kernel
theorem dX3_prove_32 : decode cX3_prove 32 = .ok (.bipush 9, 2) := by decide +kernel
theorem dX3_prove_34 : decode cX3_prove 34 = .ok (.if_icmp .ge 48, 3) := by decide +kernel
theorem dX3_prove_37 : decode cX3_prove 37 = .ok (.iload_n 2, 1) := by decide +kernel
theorem dX3_prove_38 : decode cX3_prove 38 = .ok (.iload_n 3, 1) := by decide +kernel
theorem dX3_prove_39 : decode cX3_prove 39 = .ok (.invokestatic 146, 3) := by decide +kernel
theorem dX3_prove_42 : decode cX3_prove 42 = .ok (.ifCond .eq 34, 3) := by decide +kernel
theorem dX3_prove_45 : decode cX3_prove 45 = .ok (.aload_n 0, 1) := by decide +kernel
theorem dX3_prove_46 : decode cX3_prove 46 = .ok (.iload_n 2, 1) := by decide +kernel
theorem dX3_prove_47 : decode cX3_prove 47 = .ok (.iload_n 3, 1) := by decide +kernel
theorem dX3_prove_48 : decode cX3_prove 48 = .ok (.invokevirtual 149, 3) := by decide +kernel
theorem dX3_prove_51 : decode cX3_prove 51 = .ok (.ifCond .eq 25, 3) := by decide +kernel
theorem dX3_prove_54 : decode cX3_prove 54 = .ok (.aload_n 0, 1) := by decide +kernel
theorem dX3_prove_55 : decode cX3_prove 55 = .ok (.getfield 34, 3) := by decide +kernel
theorem dX3_prove_58 : decode cX3_prove 58 = .ok (.iconst 0, 1) := by decide +kernel
theorem dX3_prove_59 : decode cX3_prove 59 = .ok (.aload_n 0, 1) := by decide +kernel
theorem dX3_prove_60 : decode cX3_prove 60 = .ok (.getfield 37, 3) := by decide +kernel
theorem dX3_prove_63 : decode cX3_prove 63 = .ok (.iconst 0, 1) := by decide +kernel
theorem dX3_prove_64 : decode cX3_prove 64 = .ok (.bipush 9, 2) := by decide +kernel
theorem dX3_prove_66 : decode cX3_prove 66 = .ok (.invokestatic 114, 3) := by decide +kernel
theorem dX3_prove_69 : decode cX3_prove 69 = .ok (.aload_n 0, 1) := by decide +kernel
theorem dX3_prove_70 : decode cX3_prove 70 = .ok (.iconst 1, 1) := by decide +kernel
theorem dX3_prove_71 : decode cX3_prove 71 = .ok (.putfield 40, 3) := by decide +kernel
theorem dX3_prove_74 : decode cX3_prove 74 = .ok (.iconst 1, 1) := by decide +kernel
theorem dX3_prove_75 : decode cX3_prove 75 = .ok (.ireturn, 1) := by decide +kernel
theorem dX3_prove_76 : decode cX3_prove 76 = .ok (.iinc 3 1, 3) := by decide +kernel
theorem dX3_prove_79 : decode cX3_prove 79 = .ok (.goto (-48), 3) := by decide +kernel
theorem dX3_prove_82 : decode cX3_prove 82 = .ok (.iinc 2 1, 3) := by decide +kernel
theorem dX3_prove_85 : decode cX3_prove 85 = .ok (.goto (-64), 3) := by decide +kernel
theorem dX3_prove_88 : decode cX3_prove 88 = .ok (.iconst 0, 1) := by decide +kernel
theorem dX3_prove_89 : decode cX3_prove 89 = .ok (.ireturn, 1) := by decide +kernel
theorem dX3_share_0 : decode cX3_share 0 = .ok (.aload_n 0, 1) := by decide +kernel
theorem dX3_share_1 : decode cX3_share 1 = .ok (.getfield 40, 3) := by decide +kernel
theorem dX3_share_4 : decode cX3_share 4 = .ok (.ifCond .eq 22, 3) := by decide +kernel
theorem dX3_share_7 : decode cX3_share 7 = .ok (.iload_n 1, 1) := by decide +kernel
theorem dX3_share_8 : decode cX3_share 8 = .ok (.ifCond .lt 18, 3) := by decide +kernel
theorem dX3_share_11 : decode cX3_share 11 = .ok (.iload_n 1, 1) := by decide +kernel
theorem dX3_share_12 : decode cX3_share 12 = .ok (.bipush 9, 2) := by decide +kernel
theorem dX3_share_14 : decode cX3_share 14 = .ok (.if_icmp .ge 12, 3) := by decide +kernel
theorem dX3_share_17 : decode cX3_share 17 = .ok (.iload_n 2, 1) := by decide +kernel
theorem dX3_share_18 : decode cX3_share 18 = .ok (.ifCond .lt 8, 3) := by decide +kernel
theorem dX3_share_21 : decode cX3_share 21 = .ok (.iload_n 2, 1) := by decide +kernel
theorem dX3_share_22 : decode cX3_share 22 = .ok (.iconst 1, 1) := by decide +kernel
theorem dX3_share_23 : decode cX3_share 23 = .ok (.if_icmp .le 5, 3) := by decide +kernel
theorem dX3_share_26 : decode cX3_share 26 = .ok (.iconst (-1), 1) := by decide +kernel
theorem dX3_share_27 : decode cX3_share 27 = .ok (.ireturn, 1) := by decide +kernel
theorem dX3_share_28 : decode cX3_share 28 = .ok (.iload_n 2, 1) := by decide +kernel
theorem dX3_share_29 : decode cX3_share 29 = .ok (.ifCond .ne 12, 3) := by decide +kernel
theorem dX3_share_32 : decode cX3_share 32 = .ok (.aload_n 0, 1) := by decide +kernel
theorem dX3_share_33 : decode cX3_share 33 = .ok (.getfield 37, 3) := by decide +kernel
theorem dX3_share_36 : decode cX3_share 36 = .ok (.iload_n 1, 1) := by decide +kernel
theorem dX3_share_37 : decode cX3_share 37 = .ok (.iaload, 1) := by decide +kernel
theorem dX3_share_38 : decode cX3_share 38 = .ok (.goto 4, 3) := by decide +kernel
theorem dX3_share_41 : decode cX3_share 41 = .ok (.iconst 1, 1) := by decide +kernel
theorem dX3_share_42 : decode cX3_share 42 = .ok (.ireturn, 1) := by decide +kernel
set_option maxRecDepth 20000 in
theorem ggX3_mean_X3_isMadePlace : GoodIn wsX3_mean wsX3_isMadePlace := goodIn_r _ [7, 1, 8, 9, 6, 10, 11, 12, 13, 14, 15, 41, 42, 43, 44, 45, 46, 47, 48, 49, 50, 51] (by decide +kernel) (by decide +kernel)
set_option maxRecDepth 20000 in
theorem gX3_mean_X3_isMadePlace : GoodIn wsX3_mean (wsV RX3 83 RX3 yX3_isMadePlace wsX3_isMadePlace) := goodIn_app (goodIn_of _ (by decide +kernel)) ggX3_mean_X3_isMadePlace
set_option maxRecDepth 20000 in
theorem ggX3_mean_X3_isSet : GoodIn wsX3_mean wsX3_isSet := goodIn_r _ [18] (by decide +kernel) (by decide +kernel)
set_option maxRecDepth 20000 in
theorem gX3_mean_X3_isSet : GoodIn wsX3_mean (va_wsS RX3 108 yX3_isSet wsX3_isSet) := goodIn_app (goodIn_of _ (by decide +kernel)) ggX3_mean_X3_isSet
set_option maxRecDepth 20000 in
theorem ggX3_mean_X2_gather : GoodIn wsX3_mean wsX2_gather := goodIn_r _ [21, 22, 23, 24, 25, 26, 27, 6, 28, 49, 50, 51] (by decide +kernel) (by decide +kernel)
set_option maxRecDepth 20000 in
theorem gX3_mean_X2_gather_n97 : GoodIn wsX3_mean (wsX2_gather) := ggX3_mean_X2_gather
set_option maxRecDepth 20000 in
theorem ggX3_mean_X3_keepAboveNought : GoodIn wsX3_mean wsX3_keepAboveNought := goodIn_r _ [32, 2, 41, 42, 43, 44, 45, 46, 47, 48] (by decide +kernel) (by decide +kernel)
set_option maxRecDepth 20000 in
theorem gX3_mean_X3_keepAboveNought : GoodIn wsX3_mean (wsV RX3 152 RX3 yX3_keepAboveNought wsX3_keepAboveNought) := goodIn_app (goodIn_of _ (by decide +kernel)) ggX3_mean_X3_keepAboveNought
set_option maxRecDepth 20000 in
theorem ggX3_mean_X3_leastMean : GoodIn wsX3_mean wsX3_leastMean := goodIn_r _ [36, 2, 37, 38, 39, 6, 40, 41, 42, 43, 44, 45, 46, 47, 48] (by decide +kernel) (by decide +kernel)
set_option maxRecDepth 20000 in
theorem gX3_mean_X3_leastMean : GoodIn wsX3_mean (wsV RX3 155 RX3 yX3_leastMean wsX3_leastMean) := goodIn_app (goodIn_of _ (by decide +kernel)) ggX3_mean_X3_leastMean
theorem dX3_mean_0 : decode cX3_mean 0 = .ok (.aload_n 0, 1) := by decide +kernel
theorem dX3_mean_1 : decode cX3_mean 1 = .ok (.iload_n 1, 1) := by decide +kernel
theorem dX3_mean_2 : decode cX3_mean 2 = .ok (.invokevirtual 83, 3) := by decide +kernel
theorem dX3_mean_5 : decode cX3_mean 5 = .ok (.ifCond .eq 10, 3) := by decide +kernel
theorem dX3_mean_8 : decode cX3_mean 8 = .ok (.iload_n 2, 1) := by decide +kernel
theorem dX3_mean_9 : decode cX3_mean 9 = .ok (.invokestatic 108, 3) := by decide +kernel
theorem dX3_mean_12 : decode cX3_mean 12 = .ok (.ifCond .ne 5, 3) := by decide +kernel
theorem dX3_mean_15 : decode cX3_mean 15 = .ok (.iconst (-1), 1) := by decide +kernel
theorem dX3_mean_16 : decode cX3_mean 16 = .ok (.ireturn, 1) := by decide +kernel
theorem dX3_mean_17 : decode cX3_mean 17 = .ok (.aload_n 0, 1) := by decide +kernel
theorem dX3_mean_18 : decode cX3_mean 18 = .ok (.getfield 11, 3) := by decide +kernel
theorem dX3_mean_21 : decode cX3_mean 21 = .ok (.iload_n 1, 1) := by decide +kernel
theorem dX3_mean_22 : decode cX3_mean 22 = .ok (.aaload, 1) := by decide +kernel
theorem dX3_mean_23 : decode cX3_mean 23 = .ok (.iload_n 2, 1) := by decide +kernel
theorem dX3_mean_24 : decode cX3_mean 24 = .ok (.aload_n 0, 1) := by decide +kernel
theorem dX3_mean_25 : decode cX3_mean 25 = .ok (.getfield 27, 3) := by decide +kernel
theorem dX3_mean_28 : decode cX3_mean 28 = .ok (.invokevirtual 97, 3) := by decide +kernel
theorem dX3_mean_31 : decode cX3_mean 31 = .ok (.aload_n 0, 1) := by decide +kernel
theorem dX3_mean_32 : decode cX3_mean 32 = .ok (.aload_n 0, 1) := by decide +kernel
theorem dX3_mean_33 : decode cX3_mean 33 = .ok (.invokevirtual 152, 3) := by decide +kernel
theorem dX3_mean_36 : decode cX3_mean 36 = .ok (.invokevirtual 155, 3) := by decide +kernel
theorem dX3_mean_39 : decode cX3_mean 39 = .ok (.ireturn, 1) := by decide +kernel
theorem dX3_words_0 : decode cX3_words 0 = .ok (.iload_n 1, 1) := by decide +kernel
theorem dX3_words_1 : decode cX3_words 1 = .ok (.iconst 1, 1) := by decide +kernel
theorem dX3_words_2 : decode cX3_words 2 = .ok (.if_icmp .lt 13, 3) := by decide +kernel
theorem dX3_words_5 : decode cX3_words 5 = .ok (.iload_n 1, 1) := by decide +kernel
theorem dX3_words_6 : decode cX3_words 6 = .ok (.bipush 8, 2) := by decide +kernel
theorem dX3_words_8 : decode cX3_words 8 = .ok (.if_icmp .gt 7, 3) := by decide +kernel
theorem dX3_words_11 : decode cX3_words 11 = .ok (.iload_n 2, 1) := by decide +kernel
theorem dX3_words_12 : decode cX3_words 12 = .ok (.ifCond .ge 5, 3) := by decide +kernel
theorem dX3_words_15 : decode cX3_words 15 = .ok (.iconst 0, 1) := by decide +kernel
theorem dX3_words_16 : decode cX3_words 16 = .ok (.ireturn, 1) := by decide +kernel
theorem dX3_words_17 : decode cX3_words 17 = .ok (.iconst 0, 1) := by decide +kernel
theorem dX3_words_18 : decode cX3_words 18 = .ok (.istore_n 3, 1) := by decide +kernel
theorem dX3_words_19 : decode cX3_words 19 = .ok (.iload_n 2, 1) := by decide +kernel
theorem dX3_words_20 : decode cX3_words 20 = .ok (.istore 4, 2) := by decide +kernel
theorem dX3_words_22 : decode cX3_words 22 = .ok (.iconst 0, 1) := by decide +kernel
theorem dX3_words_23 : decode cX3_words 23 = .ok (.istore 5, 2) := by decide +kernel
theorem dX3_words_25 : decode cX3_words 25 = .ok (.iload 5, 2) := by decide +kernel
theorem dX3_words_27 : decode cX3_words 27 = .ok (.iload_n 1, 1) := by decide +kernel
theorem dX3_words_28 : decode cX3_words 28 = .ok (.if_icmp .ge 28, 3) := by decide +kernel
theorem dX3_words_31 : decode cX3_words 31 = .ok (.iload_n 3, 1) := by decide +kernel
theorem dX3_words_32 : decode cX3_words 32 = .ok (.sipush 512, 3) := by decide +kernel
theorem dX3_words_35 : decode cX3_words 35 = .ok (.iload 4, 2) := by decide +kernel
theorem dX3_words_37 : decode cX3_words 37 = .ok (.bipush 10, 2) := by decide +kernel
theorem dX3_words_39 : decode cX3_words 39 = .ok (.irem, 1) := by decide +kernel
theorem dX3_words_40 : decode cX3_words 40 = .ok (.ishr, 1) := by decide +kernel
theorem dX3_words_41 : decode cX3_words 41 = .ok (.iadd, 1) := by decide +kernel
theorem dX3_words_42 : decode cX3_words 42 = .ok (.istore_n 3, 1) := by decide +kernel
theorem dX3_words_43 : decode cX3_words 43 = .ok (.iload 4, 2) := by decide +kernel
theorem dX3_words_45 : decode cX3_words 45 = .ok (.bipush 10, 2) := by decide +kernel
theorem dX3_words_47 : decode cX3_words 47 = .ok (.idiv, 1) := by decide +kernel
theorem dX3_words_48 : decode cX3_words 48 = .ok (.istore 4, 2) := by decide +kernel
theorem dX3_words_50 : decode cX3_words 50 = .ok (.iinc 5 1, 3) := by decide +kernel
theorem dX3_words_53 : decode cX3_words 53 = .ok (.goto (-28), 3) := by decide +kernel
theorem dX3_words_56 : decode cX3_words 56 = .ok (.iload_n 3, 1) := by decide +kernel
theorem dX3_words_57 : decode cX3_words 57 = .ok (.sipush 512, 3) := by decide +kernel
theorem dX3_words_60 : decode cX3_words 60 = .ok (.if_icmp .gt 7, 3) := by decide +kernel
theorem dX3_words_63 : decode cX3_words 63 = .ok (.iconst 1, 1) := by decide +kernel
theorem dX3_words_64 : decode cX3_words 64 = .ok (.goto 4, 3) := by decide +kernel
theorem dX3_words_67 : decode cX3_words 67 = .ok (.iconst 0, 1) := by decide +kernel
theorem dX3_words_68 : decode cX3_words 68 = .ok (.ireturn, 1) := by decide +kernel
set_option maxRecDepth 20000 in
theorem ggX3_secret_X3_isMadePlace : GoodIn wsX3_secret wsX3_isMadePlace := goodIn_r _ [7, 1, 8, 9, 6, 10, 11, 12, 13, 14, 15, 43, 44, 45, 46, 47, 48, 49, 50, 51, 52, 53] (by decide +kernel) (by decide +kernel)
set_option maxRecDepth 20000 in
theorem gX3_secret_X3_isMadePlace : GoodIn wsX3_secret (wsV RX3 83 RX3 yX3_isMadePlace wsX3_isMadePlace) := goodIn_app (goodIn_of _ (by decide +kernel)) ggX3_secret_X3_isMadePlace
set_option maxRecDepth 20000 in
theorem ggX3_secret_X0_clear : GoodIn wsX3_secret wsX0_clear := goodIn_r _ [19, 20, 21, 22, 23, 24, 54, 55, 56] (by decide +kernel) (by decide +kernel)
set_option maxRecDepth 20000 in
theorem gX3_secret_X0_clear_n120 : GoodIn wsX3_secret (wsX0_clear) := ggX3_secret_X0_clear
set_option maxRecDepth 20000 in
theorem ggX3_secret_X3_addDoubt : GoodIn wsX3_secret wsX3_addDoubt := goodIn_r _ [28, 29, 2, 30, 12, 31, 32, 33, 34, 22, 23, 24, 35, 6, 36, 37, 17, 38, 39, 20, 43, 44, 45, 46, 47, 48, 49, 50, 51, 52, 53, 54, 55, 56] (by decide +kernel) (by decide +kernel)
set_option maxRecDepth 20000 in
theorem gX3_secret_X3_addDoubt : GoodIn wsX3_secret (wsV RX3 158 RX3 yX3_addDoubt wsX3_addDoubt) := goodIn_app (goodIn_of _ (by decide +kernel)) ggX3_secret_X3_addDoubt
set_option maxRecDepth 20000 in
theorem ggX3_secret_X0_isNought : GoodIn wsX3_secret wsX0_isNought := goodIn_r _ [42, 20, 54, 55, 56] (by decide +kernel) (by decide +kernel)
set_option maxRecDepth 20000 in
theorem gX3_secret_X0_isNought_n162 : GoodIn wsX3_secret (wsX0_isNought) := ggX3_secret_X0_isNought
theorem dX3_secret_0 : decode cX3_secret 0 = .ok (.aload_n 0, 1) := by decide +kernel
theorem dX3_secret_1 : decode cX3_secret 1 = .ok (.iload_n 1, 1) := by decide +kernel
theorem dX3_secret_2 : decode cX3_secret 2 = .ok (.invokevirtual 83, 3) := by decide +kernel
theorem dX3_secret_5 : decode cX3_secret 5 = .ok (.ifCond .eq 19, 3) := by decide +kernel
theorem dX3_secret_8 : decode cX3_secret 8 = .ok (.iload_n 2, 1) := by decide +kernel
theorem dX3_secret_9 : decode cX3_secret 9 = .ok (.iconst 2, 1) := by decide +kernel
theorem dX3_secret_10 : decode cX3_secret 10 = .ok (.if_icmp .eq 16, 3) := by decide +kernel
theorem dX3_secret_13 : decode cX3_secret 13 = .ok (.iload_n 2, 1) := by decide +kernel
theorem dX3_secret_14 : decode cX3_secret 14 = .ok (.iconst 4, 1) := by decide +kernel
theorem dX3_secret_15 : decode cX3_secret 15 = .ok (.if_icmp .eq 11, 3) := by decide +kernel
theorem dX3_secret_18 : decode cX3_secret 18 = .ok (.iload_n 2, 1) := by decide +kernel
theorem dX3_secret_19 : decode cX3_secret 19 = .ok (.bipush 6, 2) := by decide +kernel
theorem dX3_secret_21 : decode cX3_secret 21 = .ok (.if_icmp .eq 5, 3) := by decide +kernel
theorem dX3_secret_24 : decode cX3_secret 24 = .ok (.iconst (-1), 1) := by decide +kernel
theorem dX3_secret_25 : decode cX3_secret 25 = .ok (.ireturn, 1) := by decide +kernel
theorem dX3_secret_26 : decode cX3_secret 26 = .ok (.aload_n 0, 1) := by decide +kernel
theorem dX3_secret_27 : decode cX3_secret 27 = .ok (.getfield 11, 3) := by decide +kernel
theorem dX3_secret_30 : decode cX3_secret 30 = .ok (.iload_n 1, 1) := by decide +kernel
theorem dX3_secret_31 : decode cX3_secret 31 = .ok (.aaload, 1) := by decide +kernel
theorem dX3_secret_32 : decode cX3_secret 32 = .ok (.astore_n 3, 1) := by decide +kernel
theorem dX3_secret_33 : decode cX3_secret 33 = .ok (.aload_n 0, 1) := by decide +kernel
theorem dX3_secret_34 : decode cX3_secret 34 = .ok (.getfield 23, 3) := by decide +kernel
theorem dX3_secret_37 : decode cX3_secret 37 = .ok (.invokevirtual 120, 3) := by decide +kernel
theorem dX3_secret_40 : decode cX3_secret 40 = .ok (.aload_n 0, 1) := by decide +kernel
theorem dX3_secret_41 : decode cX3_secret 41 = .ok (.aload_n 3, 1) := by decide +kernel
theorem dX3_secret_42 : decode cX3_secret 42 = .ok (.iload_n 2, 1) := by decide +kernel
theorem dX3_secret_43 : decode cX3_secret 43 = .ok (.iconst 1, 1) := by decide +kernel
theorem dX3_secret_44 : decode cX3_secret 44 = .ok (.ior, 1) := by decide +kernel
theorem dX3_secret_45 : decode cX3_secret 45 = .ok (.iconst 1, 1) := by decide +kernel
theorem dX3_secret_46 : decode cX3_secret 46 = .ok (.invokevirtual 158, 3) := by decide +kernel
theorem dX3_secret_49 : decode cX3_secret 49 = .ok (.aload_n 0, 1) := by decide +kernel
theorem dX3_secret_50 : decode cX3_secret 50 = .ok (.aload_n 3, 1) := by decide +kernel
theorem dX3_secret_51 : decode cX3_secret 51 = .ok (.iload_n 2, 1) := by decide +kernel
theorem dX3_secret_52 : decode cX3_secret 52 = .ok (.iconst (-1), 1) := by decide +kernel
theorem dX3_secret_53 : decode cX3_secret 53 = .ok (.invokevirtual 158, 3) := by decide +kernel
theorem dX3_secret_56 : decode cX3_secret 56 = .ok (.aload_n 0, 1) := by decide +kernel
theorem dX3_secret_57 : decode cX3_secret 57 = .ok (.getfield 23, 3) := by decide +kernel
theorem dX3_secret_60 : decode cX3_secret 60 = .ok (.invokevirtual 162, 3) := by decide +kernel
theorem dX3_secret_63 : decode cX3_secret 63 = .ok (.ifCond .eq 5, 3) := by decide +kernel
end
section
theorem dX3_secret_66 : decode cX3_secret 66 = .ok (.iconst 1, 1) := by decide +kernel
theorem dX3_secret_67 : decode cX3_secret 67 = .ok (.ireturn, 1) := by decide +kernel
theorem dX3_secret_68 : decode cX3_secret 68 = .ok (.aload_n 0, 1) := by decide +kernel
theorem dX3_secret_69 : decode cX3_secret 69 = .ok (.aload_n 3, 1) := by decide +kernel
theorem dX3_secret_70 : decode cX3_secret 70 = .ok (.iconst 1, 1) := by decide +kernel
theorem dX3_secret_71 : decode cX3_secret 71 = .ok (.iconst (-1), 1) := by decide +kernel
theorem dX3_secret_72 : decode cX3_secret 72 = .ok (.invokevirtual 158, 3) := by decide +kernel
theorem dX3_secret_75 : decode cX3_secret 75 = .ok (.aload_n 0, 1) := by decide +kernel
theorem dX3_secret_76 : decode cX3_secret 76 = .ok (.getfield 23, 3) := by decide +kernel
theorem dX3_secret_79 : decode cX3_secret 79 = .ok (.invokevirtual 162, 3) := by decide +kernel
theorem dX3_secret_82 : decode cX3_secret 82 = .ok (.ifCond .eq 7, 3) := by decide +kernel
theorem dX3_secret_85 : decode cX3_secret 85 = .ok (.iconst 0, 1) := by decide +kernel
theorem dX3_secret_86 : decode cX3_secret 86 = .ok (.goto 4, 3) := by decide +kernel
theorem dX3_secret_89 : decode cX3_secret 89 = .ok (.iconst 2, 1) := by decide +kernel
theorem dX3_secret_90 : decode cX3_secret 90 = .ok (.ireturn, 1) := by decide +kernel
theorem dX3_isPlace_0 : decode cX3_isPlace 0 = .ok (.iload_n 0, 1) := by decide +kernel
theorem dX3_isPlace_1 : decode cX3_isPlace 1 = .ok (.ifCond .lt 12, 3) := by decide +kernel
theorem dX3_isPlace_4 : decode cX3_isPlace 4 = .ok (.iload_n 0, 1) := by decide +kernel
theorem dX3_isPlace_5 : decode cX3_isPlace 5 = .ok (.iconst 4, 1) := by decide +kernel
theorem dX3_isPlace_6 : decode cX3_isPlace 6 = .ok (.if_icmp .ge 7, 3) := by decide +kernel
theorem dX3_isPlace_9 : decode cX3_isPlace 9 = .ok (.iconst 1, 1) := by decide +kernel
theorem dX3_isPlace_10 : decode cX3_isPlace 10 = .ok (.goto 4, 3) := by decide +kernel
theorem dX3_isPlace_13 : decode cX3_isPlace 13 = .ok (.iconst 0, 1) := by decide +kernel
theorem dX3_isPlace_14 : decode cX3_isPlace 14 = .ok (.ireturn, 1) := by decide +kernel
set_option maxRecDepth 20000 in
theorem ggX3_isMadePlace_X3_isPlace : GoodIn wsX3_isMadePlace wsX3_isPlace := goodIn_r _ [5] (by decide +kernel) (by decide +kernel)
set_option maxRecDepth 20000 in
theorem gX3_isMadePlace_X3_isPlace : GoodIn wsX3_isMadePlace (va_wsS RX3 45 yX3_isPlace wsX3_isPlace) := goodIn_app (goodIn_of _ (by decide +kernel)) ggX3_isMadePlace_X3_isPlace
set_option maxRecDepth 20000 in
theorem ggX3_isMadePlace_X2_isMade : GoodIn wsX3_isMadePlace wsX2_isMade := goodIn_r _ [9, 10, 19, 20, 21] (by decide +kernel) (by decide +kernel)
set_option maxRecDepth 20000 in
theorem gX3_isMadePlace_X2_isMade_n68 : GoodIn wsX3_isMadePlace (wsX2_isMade) := ggX3_isMadePlace_X2_isMade
theorem dX3_isMadePlace_0 : decode cX3_isMadePlace 0 = .ok (.iload_n 1, 1) := by decide +kernel
theorem dX3_isMadePlace_1 : decode cX3_isMadePlace 1 = .ok (.invokestatic 45, 3) := by decide +kernel
theorem dX3_isMadePlace_4 : decode cX3_isMadePlace 4 = .ok (.ifCond .eq 19, 3) := by decide +kernel
theorem dX3_isMadePlace_7 : decode cX3_isMadePlace 7 = .ok (.aload_n 0, 1) := by decide +kernel
theorem dX3_isMadePlace_8 : decode cX3_isMadePlace 8 = .ok (.getfield 11, 3) := by decide +kernel
theorem dX3_isMadePlace_11 : decode cX3_isMadePlace 11 = .ok (.iload_n 1, 1) := by decide +kernel
theorem dX3_isMadePlace_12 : decode cX3_isMadePlace 12 = .ok (.aaload, 1) := by decide +kernel
theorem dX3_isMadePlace_13 : decode cX3_isMadePlace 13 = .ok (.invokevirtual 68, 3) := by decide +kernel
theorem dX3_isMadePlace_16 : decode cX3_isMadePlace 16 = .ok (.ifCond .eq 7, 3) := by decide +kernel
theorem dX3_isMadePlace_19 : decode cX3_isMadePlace 19 = .ok (.iconst 1, 1) := by decide +kernel
theorem dX3_isMadePlace_20 : decode cX3_isMadePlace 20 = .ok (.goto 4, 3) := by decide +kernel
theorem dX3_isMadePlace_23 : decode cX3_isMadePlace 23 = .ok (.iconst 0, 1) := by decide +kernel
theorem dX3_isMadePlace_24 : decode cX3_isMadePlace 24 = .ok (.ireturn, 1) := by decide +kernel
theorem dX3_isStateCount_0 : decode cX3_isStateCount 0 = .ok (.iload_n 0, 1) := by decide +kernel
theorem dX3_isStateCount_1 : decode cX3_isStateCount 1 = .ok (.iconst 1, 1) := by decide +kernel
theorem dX3_isStateCount_2 : decode cX3_isStateCount 2 = .ok (.if_icmp .lt 12, 3) := by decide +kernel
theorem dX3_isStateCount_5 : decode cX3_isStateCount 5 = .ok (.iload_n 0, 1) := by decide +kernel
theorem dX3_isStateCount_6 : decode cX3_isStateCount 6 = .ok (.iconst 3, 1) := by decide +kernel
theorem dX3_isStateCount_7 : decode cX3_isStateCount 7 = .ok (.if_icmp .gt 7, 3) := by decide +kernel
theorem dX3_isStateCount_10 : decode cX3_isStateCount 10 = .ok (.iconst 1, 1) := by decide +kernel
theorem dX3_isStateCount_11 : decode cX3_isStateCount 11 = .ok (.goto 4, 3) := by decide +kernel
theorem dX3_isStateCount_14 : decode cX3_isStateCount 14 = .ok (.iconst 0, 1) := by decide +kernel
theorem dX3_isStateCount_15 : decode cX3_isStateCount 15 = .ok (.ireturn, 1) := by decide +kernel
theorem dX3_isLaw_0 : decode cX3_isLaw 0 = .ok (.iload_n 0, 1) := by decide +kernel
theorem dX3_isLaw_1 : decode cX3_isLaw 1 = .ok (.ifCond .lt 13, 3) := by decide +kernel
theorem dX3_isLaw_4 : decode cX3_isLaw 4 = .ok (.iload_n 0, 1) := by decide +kernel
theorem dX3_isLaw_5 : decode cX3_isLaw 5 = .ok (.bipush 10, 2) := by decide +kernel
theorem dX3_isLaw_7 : decode cX3_isLaw 7 = .ok (.if_icmp .ge 7, 3) := by decide +kernel
theorem dX3_isLaw_10 : decode cX3_isLaw 10 = .ok (.iconst 1, 1) := by decide +kernel
theorem dX3_isLaw_11 : decode cX3_isLaw 11 = .ok (.goto 4, 3) := by decide +kernel
theorem dX3_isLaw_14 : decode cX3_isLaw 14 = .ok (.iconst 0, 1) := by decide +kernel
theorem dX3_isLaw_15 : decode cX3_isLaw 15 = .ok (.ireturn, 1) := by decide +kernel
theorem dX3_isSet_0 : decode cX3_isSet 0 = .ok (.iload_n 0, 1) := by decide +kernel
theorem dX3_isSet_1 : decode cX3_isSet 1 = .ok (.iconst 1, 1) := by decide +kernel
theorem dX3_isSet_2 : decode cX3_isSet 2 = .ok (.if_icmp .lt 13, 3) := by decide +kernel
theorem dX3_isSet_5 : decode cX3_isSet 5 = .ok (.iload_n 0, 1) := by decide +kernel
theorem dX3_isSet_6 : decode cX3_isSet 6 = .ok (.bipush 8, 2) := by decide +kernel
theorem dX3_isSet_8 : decode cX3_isSet 8 = .ok (.if_icmp .ge 7, 3) := by decide +kernel
theorem dX3_isSet_11 : decode cX3_isSet 11 = .ok (.iconst 1, 1) := by decide +kernel
theorem dX3_isSet_12 : decode cX3_isSet 12 = .ok (.goto 4, 3) := by decide +kernel
theorem dX3_isSet_15 : decode cX3_isSet 15 = .ok (.iconst 0, 1) := by decide +kernel
theorem dX3_isSet_16 : decode cX3_isSet 16 = .ok (.ireturn, 1) := by decide +kernel
theorem dX3_isGivens_0 : decode cX3_isGivens 0 = .ok (.iload_n 0, 1) := by decide +kernel
theorem dX3_isGivens_1 : decode cX3_isGivens 1 = .ok (.ifCond .lt 14, 3) := by decide +kernel
theorem dX3_isGivens_4 : decode cX3_isGivens 4 = .ok (.iload_n 0, 1) := by decide +kernel
theorem dX3_isGivens_5 : decode cX3_isGivens 5 = .ok (.sipush 512, 3) := by decide +kernel
theorem dX3_isGivens_8 : decode cX3_isGivens 8 = .ok (.if_icmp .ge 7, 3) := by decide +kernel
theorem dX3_isGivens_11 : decode cX3_isGivens 11 = .ok (.iconst 1, 1) := by decide +kernel
theorem dX3_isGivens_12 : decode cX3_isGivens 12 = .ok (.goto 4, 3) := by decide +kernel
theorem dX3_isGivens_15 : decode cX3_isGivens 15 = .ok (.iconst 0, 1) := by decide +kernel
theorem dX3_isGivens_16 : decode cX3_isGivens 16 = .ok (.ireturn, 1) := by decide +kernel
theorem dX3_settingOf_0 : decode cX3_settingOf 0 = .ok (.iload_n 0, 1) := by decide +kernel
theorem dX3_settingOf_1 : decode cX3_settingOf 1 = .ok (.iconst 3, 1) := by decide +kernel
theorem dX3_settingOf_2 : decode cX3_settingOf 2 = .ok (.iload_n 1, 1) := by decide +kernel
theorem dX3_settingOf_3 : decode cX3_settingOf 3 = .ok (.imul, 1) := by decide +kernel
theorem dX3_settingOf_4 : decode cX3_settingOf 4 = .ok (.iadd, 1) := by decide +kernel
theorem dX3_settingOf_5 : decode cX3_settingOf 5 = .ok (.bipush 9, 2) := by decide +kernel
theorem dX3_settingOf_7 : decode cX3_settingOf 7 = .ok (.iload_n 2, 1) := by decide +kernel
theorem dX3_settingOf_8 : decode cX3_settingOf 8 = .ok (.imul, 1) := by decide +kernel
theorem dX3_settingOf_9 : decode cX3_settingOf 9 = .ok (.iadd, 1) := by decide +kernel
theorem dX3_settingOf_10 : decode cX3_settingOf 10 = .ok (.ireturn, 1) := by decide +kernel
set_option maxRecDepth 20000 in
theorem ggX3_addLawSum_X3_addDoubt : GoodIn wsX3_addLawSum wsX3_addDoubt := goodIn_r _ [5, 6, 7, 8, 9, 10, 11, 12, 13, 14, 15, 16, 17, 4, 18, 19, 20, 21, 22, 23, 24, 25, 26, 27, 28, 29, 30, 31, 32, 33, 34, 35, 36, 37] (by decide +kernel) (by decide +kernel)
set_option maxRecDepth 20000 in
theorem gX3_addLawSum_X3_addDoubt : GoodIn wsX3_addLawSum (wsV RX3 158 RX3 yX3_addDoubt wsX3_addDoubt) := goodIn_app (goodIn_of _ (by decide +kernel)) ggX3_addLawSum_X3_addDoubt
theorem dX3_addLawSum_0 : decode cX3_addLawSum 0 = .ok (.iconst 1, 1) := by decide +kernel
theorem dX3_addLawSum_1 : decode cX3_addLawSum 1 = .ok (.istore 4, 2) := by decide +kernel
theorem dX3_addLawSum_3 : decode cX3_addLawSum 3 = .ok (.iload 4, 2) := by decide +kernel
theorem dX3_addLawSum_5 : decode cX3_addLawSum 5 = .ok (.bipush 8, 2) := by decide +kernel
theorem dX3_addLawSum_7 : decode cX3_addLawSum 7 = .ok (.if_icmp .ge 29, 3) := by decide +kernel
theorem dX3_addLawSum_10 : decode cX3_addLawSum 10 = .ok (.aload_n 2, 1) := by decide +kernel
theorem dX3_addLawSum_11 : decode cX3_addLawSum 11 = .ok (.iload 4, 2) := by decide +kernel
theorem dX3_addLawSum_13 : decode cX3_addLawSum 13 = .ok (.iaload, 1) := by decide +kernel
theorem dX3_addLawSum_14 : decode cX3_addLawSum 14 = .ok (.ifCond .eq 16, 3) := by decide +kernel
theorem dX3_addLawSum_17 : decode cX3_addLawSum 17 = .ok (.aload_n 0, 1) := by decide +kernel
theorem dX3_addLawSum_18 : decode cX3_addLawSum 18 = .ok (.aload_n 1, 1) := by decide +kernel
theorem dX3_addLawSum_19 : decode cX3_addLawSum 19 = .ok (.iload 4, 2) := by decide +kernel
theorem dX3_addLawSum_21 : decode cX3_addLawSum 21 = .ok (.aload_n 2, 1) := by decide +kernel
theorem dX3_addLawSum_22 : decode cX3_addLawSum 22 = .ok (.iload 4, 2) := by decide +kernel
theorem dX3_addLawSum_24 : decode cX3_addLawSum 24 = .ok (.iaload, 1) := by decide +kernel
theorem dX3_addLawSum_25 : decode cX3_addLawSum 25 = .ok (.iload_n 3, 1) := by decide +kernel
theorem dX3_addLawSum_26 : decode cX3_addLawSum 26 = .ok (.imul, 1) := by decide +kernel
theorem dX3_addLawSum_27 : decode cX3_addLawSum 27 = .ok (.invokevirtual 158, 3) := by decide +kernel
theorem dX3_addLawSum_30 : decode cX3_addLawSum 30 = .ok (.iinc 4 1, 3) := by decide +kernel
theorem dX3_addLawSum_33 : decode cX3_addLawSum 33 = .ok (.goto (-30), 3) := by decide +kernel
theorem dX3_addLawSum_36 : decode cX3_addLawSum 36 = .ok (.return_, 1) := by decide +kernel
set_option maxRecDepth 20000 in
theorem ggX3_addDoubt_X2_gather : GoodIn wsX3_addDoubt wsX2_gather := goodIn_r _ [6, 7, 8, 9, 10, 11, 12, 13, 14, 28, 29, 30] (by decide +kernel) (by decide +kernel)
set_option maxRecDepth 20000 in
theorem gX3_addDoubt_X2_gather_n97 : GoodIn wsX3_addDoubt (wsX2_gather) := ggX3_addDoubt_X2_gather
set_option maxRecDepth 20000 in
theorem ggX3_addDoubt_X0_addLog : GoodIn wsX3_addDoubt wsX0_addLog := goodIn_r _ [18, 19, 31, 32, 33] (by decide +kernel) (by decide +kernel)
set_option maxRecDepth 20000 in
theorem gX3_addDoubt_X0_addLog_n131 : GoodIn wsX3_addDoubt (wsX0_addLog) := ggX3_addDoubt_X0_addLog
theorem dX3_addDoubt_0 : decode cX3_addDoubt 0 = .ok (.aload_n 1, 1) := by decide +kernel
theorem dX3_addDoubt_1 : decode cX3_addDoubt 1 = .ok (.iload_n 2, 1) := by decide +kernel
theorem dX3_addDoubt_2 : decode cX3_addDoubt 2 = .ok (.aload_n 0, 1) := by decide +kernel
theorem dX3_addDoubt_3 : decode cX3_addDoubt 3 = .ok (.getfield 27, 3) := by decide +kernel
theorem dX3_addDoubt_6 : decode cX3_addDoubt 6 = .ok (.invokevirtual 97, 3) := by decide +kernel
theorem dX3_addDoubt_9 : decode cX3_addDoubt 9 = .ok (.aload_n 0, 1) := by decide +kernel
theorem dX3_addDoubt_10 : decode cX3_addDoubt 10 = .ok (.getfield 23, 3) := by decide +kernel
theorem dX3_addDoubt_13 : decode cX3_addDoubt 13 = .ok (.aload_n 1, 1) := by decide +kernel
theorem dX3_addDoubt_14 : decode cX3_addDoubt 14 = .ok (.getfield 75, 3) := by decide +kernel
theorem dX3_addDoubt_17 : decode cX3_addDoubt 17 = .ok (.iload_n 3, 1) := by decide +kernel
theorem dX3_addDoubt_18 : decode cX3_addDoubt 18 = .ok (.aload_n 1, 1) := by decide +kernel
theorem dX3_addDoubt_19 : decode cX3_addDoubt 19 = .ok (.getfield 75, 3) := by decide +kernel
theorem dX3_addDoubt_22 : decode cX3_addDoubt 22 = .ok (.imul, 1) := by decide +kernel
theorem dX3_addDoubt_23 : decode cX3_addDoubt 23 = .ok (.invokevirtual 131, 3) := by decide +kernel
theorem dX3_addDoubt_26 : decode cX3_addDoubt 26 = .ok (.iconst 0, 1) := by decide +kernel
theorem dX3_addDoubt_27 : decode cX3_addDoubt 27 = .ok (.istore 4, 2) := by decide +kernel
theorem dX3_addDoubt_29 : decode cX3_addDoubt 29 = .ok (.iload 4, 2) := by decide +kernel
theorem dX3_addDoubt_31 : decode cX3_addDoubt 31 = .ok (.bipush 27, 2) := by decide +kernel
theorem dX3_addDoubt_33 : decode cX3_addDoubt 33 = .ok (.if_icmp .ge 43, 3) := by decide +kernel
theorem dX3_addDoubt_36 : decode cX3_addDoubt 36 = .ok (.aload_n 0, 1) := by decide +kernel
theorem dX3_addDoubt_37 : decode cX3_addDoubt 37 = .ok (.getfield 27, 3) := by decide +kernel
theorem dX3_addDoubt_40 : decode cX3_addDoubt 40 = .ok (.iload 4, 2) := by decide +kernel
theorem dX3_addDoubt_42 : decode cX3_addDoubt 42 = .ok (.iaload, 1) := by decide +kernel
theorem dX3_addDoubt_43 : decode cX3_addDoubt 43 = .ok (.ifCond .le 27, 3) := by decide +kernel
theorem dX3_addDoubt_46 : decode cX3_addDoubt 46 = .ok (.aload_n 0, 1) := by decide +kernel
theorem dX3_addDoubt_47 : decode cX3_addDoubt 47 = .ok (.getfield 23, 3) := by decide +kernel
theorem dX3_addDoubt_50 : decode cX3_addDoubt 50 = .ok (.aload_n 0, 1) := by decide +kernel
theorem dX3_addDoubt_51 : decode cX3_addDoubt 51 = .ok (.getfield 27, 3) := by decide +kernel
theorem dX3_addDoubt_54 : decode cX3_addDoubt 54 = .ok (.iload 4, 2) := by decide +kernel
theorem dX3_addDoubt_56 : decode cX3_addDoubt 56 = .ok (.iaload, 1) := by decide +kernel
theorem dX3_addDoubt_57 : decode cX3_addDoubt 57 = .ok (.iload_n 3, 1) := by decide +kernel
theorem dX3_addDoubt_58 : decode cX3_addDoubt 58 = .ok (.ineg, 1) := by decide +kernel
theorem dX3_addDoubt_59 : decode cX3_addDoubt 59 = .ok (.aload_n 0, 1) := by decide +kernel
theorem dX3_addDoubt_60 : decode cX3_addDoubt 60 = .ok (.getfield 27, 3) := by decide +kernel
theorem dX3_addDoubt_63 : decode cX3_addDoubt 63 = .ok (.iload 4, 2) := by decide +kernel
theorem dX3_addDoubt_65 : decode cX3_addDoubt 65 = .ok (.iaload, 1) := by decide +kernel
theorem dX3_addDoubt_66 : decode cX3_addDoubt 66 = .ok (.imul, 1) := by decide +kernel
theorem dX3_addDoubt_67 : decode cX3_addDoubt 67 = .ok (.invokevirtual 131, 3) := by decide +kernel
theorem dX3_addDoubt_70 : decode cX3_addDoubt 70 = .ok (.iinc 4 1, 3) := by decide +kernel
theorem dX3_addDoubt_73 : decode cX3_addDoubt 73 = .ok (.goto (-44), 3) := by decide +kernel
theorem dX3_addDoubt_76 : decode cX3_addDoubt 76 = .ok (.return_, 1) := by decide +kernel
set_option maxRecDepth 20000 in
theorem ggX3_firstBreakingRow_X3_keepsGivens : GoodIn wsX3_firstBreakingRow wsX3_keepsGivens := goodIn_r _ [4, 5, 6, 7, 3, 8, 9] (by decide +kernel) (by decide +kernel)
set_option maxRecDepth 20000 in
theorem gX3_firstBreakingRow_X3_keepsGivens : GoodIn wsX3_firstBreakingRow (va_wsS RX3 165 yX3_keepsGivens wsX3_keepsGivens) := goodIn_app (goodIn_of _ (by decide +kernel)) ggX3_firstBreakingRow_X3_keepsGivens
set_option maxRecDepth 20000 in
theorem ggX3_firstBreakingRow_X3_sumByRow : GoodIn wsX3_firstBreakingRow wsX3_sumByRow := goodIn_r _ [8, 9] (by decide +kernel) (by decide +kernel)
set_option maxRecDepth 20000 in
theorem gX3_firstBreakingRow_X3_sumByRow : GoodIn wsX3_firstBreakingRow (va_wsS RX3 168 yX3_sumByRow wsX3_sumByRow) := goodIn_app (goodIn_of _ (by decide +kernel)) ggX3_firstBreakingRow_X3_sumByRow
theorem dX3_firstBreakingRow_0 : decode cX3_firstBreakingRow 0 = .ok (.iconst 0, 1) := by decide +kernel
theorem dX3_firstBreakingRow_1 : decode cX3_firstBreakingRow 1 = .ok (.istore_n 2, 1) := by decide +kernel
theorem dX3_firstBreakingRow_2 : decode cX3_firstBreakingRow 2 = .ok (.iload_n 2, 1) := by decide +kernel
theorem dX3_firstBreakingRow_3 : decode cX3_firstBreakingRow 3 = .ok (.bipush 8, 2) := by decide +kernel
theorem dX3_firstBreakingRow_5 : decode cX3_firstBreakingRow 5 = .ok (.if_icmp .ge 28, 3) := by decide +kernel
theorem dX3_firstBreakingRow_8 : decode cX3_firstBreakingRow 8 = .ok (.iload_n 2, 1) := by decide +kernel
theorem dX3_firstBreakingRow_9 : decode cX3_firstBreakingRow 9 = .ok (.iload_n 1, 1) := by decide +kernel
theorem dX3_firstBreakingRow_10 : decode cX3_firstBreakingRow 10 = .ok (.invokestatic 165, 3) := by decide +kernel
theorem dX3_firstBreakingRow_13 : decode cX3_firstBreakingRow 13 = .ok (.ifCond .eq 14, 3) := by decide +kernel
theorem dX3_firstBreakingRow_16 : decode cX3_firstBreakingRow 16 = .ok (.iload_n 2, 1) := by decide +kernel
theorem dX3_firstBreakingRow_17 : decode cX3_firstBreakingRow 17 = .ok (.aload_n 0, 1) := by decide +kernel
theorem dX3_firstBreakingRow_18 : decode cX3_firstBreakingRow 18 = .ok (.iconst 0, 1) := by decide +kernel
theorem dX3_firstBreakingRow_19 : decode cX3_firstBreakingRow 19 = .ok (.invokestatic 168, 3) := by decide +kernel
theorem dX3_firstBreakingRow_22 : decode cX3_firstBreakingRow 22 = .ok (.ifCond .ge 5, 3) := by decide +kernel
theorem dX3_firstBreakingRow_25 : decode cX3_firstBreakingRow 25 = .ok (.iload_n 2, 1) := by decide +kernel
theorem dX3_firstBreakingRow_26 : decode cX3_firstBreakingRow 26 = .ok (.ireturn, 1) := by decide +kernel
theorem dX3_firstBreakingRow_27 : decode cX3_firstBreakingRow 27 = .ok (.iinc 2 1, 3) := by decide +kernel
theorem dX3_firstBreakingRow_30 : decode cX3_firstBreakingRow 30 = .ok (.goto (-28), 3) := by decide +kernel
theorem dX3_firstBreakingRow_33 : decode cX3_firstBreakingRow 33 = .ok (.iconst (-1), 1) := by decide +kernel
theorem dX3_firstBreakingRow_34 : decode cX3_firstBreakingRow 34 = .ok (.ireturn, 1) := by decide +kernel
set_option maxRecDepth 20000 in
theorem ggX3_keepsGivens_X3_sumByRow : GoodIn wsX3_keepsGivens wsX3_sumByRow := goodIn_r _ [5, 6] (by decide +kernel) (by decide +kernel)
set_option maxRecDepth 20000 in
theorem gX3_keepsGivens_X3_sumByRow : GoodIn wsX3_keepsGivens (va_wsS RX3 168 yX3_sumByRow wsX3_sumByRow) := goodIn_app (goodIn_of _ (by decide +kernel)) ggX3_keepsGivens_X3_sumByRow
theorem dX3_keepsGivens_0 : decode cX3_keepsGivens 0 = .ok (.iconst 0, 1) := by decide +kernel
theorem dX3_keepsGivens_1 : decode cX3_keepsGivens 1 = .ok (.istore_n 2, 1) := by decide +kernel
theorem dX3_keepsGivens_2 : decode cX3_keepsGivens 2 = .ok (.iload_n 2, 1) := by decide +kernel
theorem dX3_keepsGivens_3 : decode cX3_keepsGivens 3 = .ok (.bipush 9, 2) := by decide +kernel
theorem dX3_keepsGivens_5 : decode cX3_keepsGivens 5 = .ok (.if_icmp .ge 44, 3) := by decide +kernel
theorem dX3_keepsGivens_8 : decode cX3_keepsGivens 8 = .ok (.iload_n 1, 1) := by decide +kernel
theorem dX3_keepsGivens_9 : decode cX3_keepsGivens 9 = .ok (.iload_n 2, 1) := by decide +kernel
theorem dX3_keepsGivens_10 : decode cX3_keepsGivens 10 = .ok (.ishr, 1) := by decide +kernel
theorem dX3_keepsGivens_11 : decode cX3_keepsGivens 11 = .ok (.iconst 1, 1) := by decide +kernel
theorem dX3_keepsGivens_12 : decode cX3_keepsGivens 12 = .ok (.iand, 1) := by decide +kernel
theorem dX3_keepsGivens_13 : decode cX3_keepsGivens 13 = .ok (.iconst 1, 1) := by decide +kernel
theorem dX3_keepsGivens_14 : decode cX3_keepsGivens 14 = .ok (.if_icmp .ne 7, 3) := by decide +kernel
theorem dX3_keepsGivens_17 : decode cX3_keepsGivens 17 = .ok (.iconst 1, 1) := by decide +kernel
theorem dX3_keepsGivens_18 : decode cX3_keepsGivens 18 = .ok (.goto 4, 3) := by decide +kernel
theorem dX3_keepsGivens_21 : decode cX3_keepsGivens 21 = .ok (.iconst 0, 1) := by decide +kernel
theorem dX3_keepsGivens_22 : decode cX3_keepsGivens 22 = .ok (.istore_n 3, 1) := by decide +kernel
theorem dX3_keepsGivens_23 : decode cX3_keepsGivens 23 = .ok (.iload_n 3, 1) := by decide +kernel
theorem dX3_keepsGivens_24 : decode cX3_keepsGivens 24 = .ok (.ifCond .eq 19, 3) := by decide +kernel
theorem dX3_keepsGivens_27 : decode cX3_keepsGivens 27 = .ok (.iload_n 0, 1) := by decide +kernel
theorem dX3_keepsGivens_28 : decode cX3_keepsGivens 28 = .ok (.getstatic 111, 3) := by decide +kernel
theorem dX3_keepsGivens_31 : decode cX3_keepsGivens 31 = .ok (.iload_n 2, 1) := by decide +kernel
theorem dX3_keepsGivens_32 : decode cX3_keepsGivens 32 = .ok (.bipush 8, 2) := by decide +kernel
theorem dX3_keepsGivens_34 : decode cX3_keepsGivens 34 = .ok (.imul, 1) := by decide +kernel
theorem dX3_keepsGivens_35 : decode cX3_keepsGivens 35 = .ok (.invokestatic 168, 3) := by decide +kernel
theorem dX3_keepsGivens_38 : decode cX3_keepsGivens 38 = .ok (.ifCond .eq 5, 3) := by decide +kernel
theorem dX3_keepsGivens_41 : decode cX3_keepsGivens 41 = .ok (.iconst 0, 1) := by decide +kernel
theorem dX3_keepsGivens_42 : decode cX3_keepsGivens 42 = .ok (.ireturn, 1) := by decide +kernel
theorem dX3_keepsGivens_43 : decode cX3_keepsGivens 43 = .ok (.iinc 2 1, 3) := by decide +kernel
theorem dX3_keepsGivens_46 : decode cX3_keepsGivens 46 = .ok (.goto (-44), 3) := by decide +kernel
theorem dX3_keepsGivens_49 : decode cX3_keepsGivens 49 = .ok (.iconst 1, 1) := by decide +kernel
theorem dX3_keepsGivens_50 : decode cX3_keepsGivens 50 = .ok (.ireturn, 1) := by decide +kernel
theorem dX3_sumByRow_0 : decode cX3_sumByRow 0 = .ok (.iconst 0, 1) := by decide +kernel
theorem dX3_sumByRow_1 : decode cX3_sumByRow 1 = .ok (.istore_n 3, 1) := by decide +kernel
theorem dX3_sumByRow_2 : decode cX3_sumByRow 2 = .ok (.iconst 1, 1) := by decide +kernel
theorem dX3_sumByRow_3 : decode cX3_sumByRow 3 = .ok (.istore 4, 2) := by decide +kernel
theorem dX3_sumByRow_5 : decode cX3_sumByRow 5 = .ok (.iload 4, 2) := by decide +kernel
theorem dX3_sumByRow_7 : decode cX3_sumByRow 7 = .ok (.bipush 8, 2) := by decide +kernel
theorem dX3_sumByRow_9 : decode cX3_sumByRow 9 = .ok (.if_icmp .ge 30, 3) := by decide +kernel
theorem dX3_sumByRow_12 : decode cX3_sumByRow 12 = .ok (.iload_n 3, 1) := by decide +kernel
theorem dX3_sumByRow_13 : decode cX3_sumByRow 13 = .ok (.aload_n 1, 1) := by decide +kernel
theorem dX3_sumByRow_14 : decode cX3_sumByRow 14 = .ok (.iload_n 2, 1) := by decide +kernel
theorem dX3_sumByRow_15 : decode cX3_sumByRow 15 = .ok (.iload 4, 2) := by decide +kernel
theorem dX3_sumByRow_17 : decode cX3_sumByRow 17 = .ok (.iadd, 1) := by decide +kernel
theorem dX3_sumByRow_18 : decode cX3_sumByRow 18 = .ok (.iaload, 1) := by decide +kernel
theorem dX3_sumByRow_19 : decode cX3_sumByRow 19 = .ok (.getstatic 172, 3) := by decide +kernel
theorem dX3_sumByRow_22 : decode cX3_sumByRow 22 = .ok (.iload_n 0, 1) := by decide +kernel
theorem dX3_sumByRow_23 : decode cX3_sumByRow 23 = .ok (.bipush 8, 2) := by decide +kernel
theorem dX3_sumByRow_25 : decode cX3_sumByRow 25 = .ok (.imul, 1) := by decide +kernel
theorem dX3_sumByRow_26 : decode cX3_sumByRow 26 = .ok (.iload 4, 2) := by decide +kernel
theorem dX3_sumByRow_28 : decode cX3_sumByRow 28 = .ok (.iadd, 1) := by decide +kernel
theorem dX3_sumByRow_29 : decode cX3_sumByRow 29 = .ok (.iaload, 1) := by decide +kernel
theorem dX3_sumByRow_30 : decode cX3_sumByRow 30 = .ok (.imul, 1) := by decide +kernel
theorem dX3_sumByRow_31 : decode cX3_sumByRow 31 = .ok (.iadd, 1) := by decide +kernel
theorem dX3_sumByRow_32 : decode cX3_sumByRow 32 = .ok (.istore_n 3, 1) := by decide +kernel
theorem dX3_sumByRow_33 : decode cX3_sumByRow 33 = .ok (.iinc 4 1, 3) := by decide +kernel
theorem dX3_sumByRow_36 : decode cX3_sumByRow 36 = .ok (.goto (-31), 3) := by decide +kernel
theorem dX3_sumByRow_39 : decode cX3_sumByRow 39 = .ok (.iload_n 3, 1) := by decide +kernel
theorem dX3_sumByRow_40 : decode cX3_sumByRow 40 = .ok (.ireturn, 1) := by decide +kernel
theorem dX3_splitIntoParts_0 : decode cX3_splitIntoParts 0 = .ok (.iconst 1, 1) := by decide +kernel
theorem dX3_splitIntoParts_1 : decode cX3_splitIntoParts 1 = .ok (.istore_n 2, 1) := by decide +kernel
theorem dX3_splitIntoParts_2 : decode cX3_splitIntoParts 2 = .ok (.iload_n 2, 1) := by decide +kernel
theorem dX3_splitIntoParts_3 : decode cX3_splitIntoParts 3 = .ok (.bipush 8, 2) := by decide +kernel
theorem dX3_splitIntoParts_5 : decode cX3_splitIntoParts 5 = .ok (.if_icmp .ge 48, 3) := by decide +kernel
theorem dX3_splitIntoParts_8 : decode cX3_splitIntoParts 8 = .ok (.iconst 0, 1) := by decide +kernel
theorem dX3_splitIntoParts_9 : decode cX3_splitIntoParts 9 = .ok (.istore_n 3, 1) := by decide +kernel
theorem dX3_splitIntoParts_10 : decode cX3_splitIntoParts 10 = .ok (.iconst 1, 1) := by decide +kernel
theorem dX3_splitIntoParts_11 : decode cX3_splitIntoParts 11 = .ok (.istore 4, 2) := by decide +kernel
theorem dX3_splitIntoParts_13 : decode cX3_splitIntoParts 13 = .ok (.iload 4, 2) := by decide +kernel
theorem dX3_splitIntoParts_15 : decode cX3_splitIntoParts 15 = .ok (.bipush 8, 2) := by decide +kernel
theorem dX3_splitIntoParts_17 : decode cX3_splitIntoParts 17 = .ok (.if_icmp .ge 23, 3) := by decide +kernel
theorem dX3_splitIntoParts_20 : decode cX3_splitIntoParts 20 = .ok (.iload 4, 2) := by decide +kernel
theorem dX3_splitIntoParts_22 : decode cX3_splitIntoParts 22 = .ok (.iload_n 2, 1) := by decide +kernel
theorem dX3_splitIntoParts_23 : decode cX3_splitIntoParts 23 = .ok (.iand, 1) := by decide +kernel
theorem dX3_splitIntoParts_24 : decode cX3_splitIntoParts 24 = .ok (.ifCond .eq 10, 3) := by decide +kernel
theorem dX3_splitIntoParts_27 : decode cX3_splitIntoParts 27 = .ok (.iload_n 3, 1) := by decide +kernel
theorem dX3_splitIntoParts_28 : decode cX3_splitIntoParts 28 = .ok (.aload_n 1, 1) := by decide +kernel
theorem dX3_splitIntoParts_29 : decode cX3_splitIntoParts 29 = .ok (.iload 4, 2) := by decide +kernel
theorem dX3_splitIntoParts_31 : decode cX3_splitIntoParts 31 = .ok (.iaload, 1) := by decide +kernel
theorem dX3_splitIntoParts_32 : decode cX3_splitIntoParts 32 = .ok (.iadd, 1) := by decide +kernel
theorem dX3_splitIntoParts_33 : decode cX3_splitIntoParts 33 = .ok (.istore_n 3, 1) := by decide +kernel
theorem dX3_splitIntoParts_34 : decode cX3_splitIntoParts 34 = .ok (.iinc 4 1, 3) := by decide +kernel
theorem dX3_splitIntoParts_37 : decode cX3_splitIntoParts 37 = .ok (.goto (-24), 3) := by decide +kernel
theorem dX3_splitIntoParts_40 : decode cX3_splitIntoParts 40 = .ok (.aload_n 0, 1) := by decide +kernel
theorem dX3_splitIntoParts_41 : decode cX3_splitIntoParts 41 = .ok (.getfield 31, 3) := by decide +kernel
theorem dX3_splitIntoParts_44 : decode cX3_splitIntoParts 44 = .ok (.iload_n 2, 1) := by decide +kernel
theorem dX3_splitIntoParts_45 : decode cX3_splitIntoParts 45 = .ok (.iload_n 3, 1) := by decide +kernel
theorem dX3_splitIntoParts_46 : decode cX3_splitIntoParts 46 = .ok (.iastore, 1) := by decide +kernel
theorem dX3_splitIntoParts_47 : decode cX3_splitIntoParts 47 = .ok (.iinc 2 1, 3) := by decide +kernel
theorem dX3_splitIntoParts_50 : decode cX3_splitIntoParts 50 = .ok (.goto (-48), 3) := by decide +kernel
theorem dX3_splitIntoParts_53 : decode cX3_splitIntoParts 53 = .ok (.return_, 1) := by decide +kernel
theorem dX3_leavesOneRow_0 : decode cX3_leavesOneRow 0 = .ok (.iload_n 0, 1) := by decide +kernel
theorem dX3_leavesOneRow_1 : decode cX3_leavesOneRow 1 = .ok (.iconst 3, 1) := by decide +kernel
theorem dX3_leavesOneRow_2 : decode cX3_leavesOneRow 2 = .ok (.if_icmp .lt 21, 3) := by decide +kernel
theorem dX3_leavesOneRow_5 : decode cX3_leavesOneRow 5 = .ok (.iload_n 1, 1) := by decide +kernel
theorem dX3_leavesOneRow_6 : decode cX3_leavesOneRow 6 = .ok (.iconst 3, 1) := by decide +kernel
theorem dX3_leavesOneRow_7 : decode cX3_leavesOneRow 7 = .ok (.if_icmp .lt 16, 3) := by decide +kernel
theorem dX3_leavesOneRow_10 : decode cX3_leavesOneRow 10 = .ok (.iload_n 0, 1) := by decide +kernel
theorem dX3_leavesOneRow_11 : decode cX3_leavesOneRow 11 = .ok (.iconst 3, 1) := by decide +kernel
theorem dX3_leavesOneRow_12 : decode cX3_leavesOneRow 12 = .ok (.irem, 1) := by decide +kernel
theorem dX3_leavesOneRow_13 : decode cX3_leavesOneRow 13 = .ok (.iload_n 1, 1) := by decide +kernel
theorem dX3_leavesOneRow_14 : decode cX3_leavesOneRow 14 = .ok (.iconst 3, 1) := by decide +kernel
theorem dX3_leavesOneRow_15 : decode cX3_leavesOneRow 15 = .ok (.irem, 1) := by decide +kernel
theorem dX3_leavesOneRow_16 : decode cX3_leavesOneRow 16 = .ok (.if_icmp .eq 7, 3) := by decide +kernel
theorem dX3_leavesOneRow_19 : decode cX3_leavesOneRow 19 = .ok (.iconst 1, 1) := by decide +kernel
theorem dX3_leavesOneRow_20 : decode cX3_leavesOneRow 20 = .ok (.goto 4, 3) := by decide +kernel
theorem dX3_leavesOneRow_23 : decode cX3_leavesOneRow 23 = .ok (.iconst 0, 1) := by decide +kernel
theorem dX3_leavesOneRow_24 : decode cX3_leavesOneRow 24 = .ok (.ireturn, 1) := by decide +kernel
set_option maxRecDepth 20000 in
theorem ggX3_tryWithout_X3_noneIsBelowNought : GoodIn wsX3_tryWithout wsX3_noneIsBelowNought := goodIn_r _ [7] (by decide +kernel) (by decide +kernel)
set_option maxRecDepth 20000 in
theorem gX3_tryWithout_X3_noneIsBelowNought : GoodIn wsX3_tryWithout (va_wsS RX3 175 yX3_noneIsBelowNought wsX3_noneIsBelowNought) := goodIn_app (goodIn_of _ (by decide +kernel)) ggX3_tryWithout_X3_noneIsBelowNought
theorem dX3_tryWithout_0 : decode cX3_tryWithout 0 = .ok (.aload_n 0, 1) := by decide +kernel
theorem dX3_tryWithout_1 : decode cX3_tryWithout 1 = .ok (.getfield 31, 3) := by decide +kernel
theorem dX3_tryWithout_4 : decode cX3_tryWithout 4 = .ok (.bipush 7, 2) := by decide +kernel
theorem dX3_tryWithout_6 : decode cX3_tryWithout 6 = .ok (.iaload, 1) := by decide +kernel
theorem dX3_tryWithout_7 : decode cX3_tryWithout 7 = .ok (.istore_n 3, 1) := by decide +kernel
theorem dX3_tryWithout_8 : decode cX3_tryWithout 8 = .ok (.iconst 0, 1) := by decide +kernel
theorem dX3_tryWithout_9 : decode cX3_tryWithout 9 = .ok (.istore 4, 2) := by decide +kernel
theorem dX3_tryWithout_11 : decode cX3_tryWithout 11 = .ok (.iconst 0, 1) := by decide +kernel
theorem dX3_tryWithout_12 : decode cX3_tryWithout 12 = .ok (.istore 5, 2) := by decide +kernel
theorem dX3_tryWithout_14 : decode cX3_tryWithout 14 = .ok (.iload 5, 2) := by decide +kernel
theorem dX3_tryWithout_16 : decode cX3_tryWithout 16 = .ok (.iconst 3, 1) := by decide +kernel
theorem dX3_tryWithout_17 : decode cX3_tryWithout 17 = .ok (.if_icmp .ge 108, 3) := by decide +kernel
theorem dX3_tryWithout_20 : decode cX3_tryWithout 20 = .ok (.aload_n 0, 1) := by decide +kernel
theorem dX3_tryWithout_21 : decode cX3_tryWithout 21 = .ok (.getfield 34, 3) := by decide +kernel
theorem dX3_tryWithout_24 : decode cX3_tryWithout 24 = .ok (.iload 5, 2) := by decide +kernel
theorem dX3_tryWithout_26 : decode cX3_tryWithout 26 = .ok (.aload_n 0, 1) := by decide +kernel
theorem dX3_tryWithout_27 : decode cX3_tryWithout 27 = .ok (.getfield 31, 3) := by decide +kernel
theorem dX3_tryWithout_30 : decode cX3_tryWithout 30 = .ok (.iconst 1, 1) := by decide +kernel
theorem dX3_tryWithout_31 : decode cX3_tryWithout 31 = .ok (.iload 5, 2) := by decide +kernel
theorem dX3_tryWithout_33 : decode cX3_tryWithout 33 = .ok (.ishl, 1) := by decide +kernel
theorem dX3_tryWithout_34 : decode cX3_tryWithout 34 = .ok (.iaload, 1) := by decide +kernel
theorem dX3_tryWithout_35 : decode cX3_tryWithout 35 = .ok (.iastore, 1) := by decide +kernel
theorem dX3_tryWithout_36 : decode cX3_tryWithout 36 = .ok (.aload_n 0, 1) := by decide +kernel
theorem dX3_tryWithout_37 : decode cX3_tryWithout 37 = .ok (.getfield 34, 3) := by decide +kernel
theorem dX3_tryWithout_40 : decode cX3_tryWithout 40 = .ok (.iconst 3, 1) := by decide +kernel
theorem dX3_tryWithout_41 : decode cX3_tryWithout 41 = .ok (.iload 5, 2) := by decide +kernel
theorem dX3_tryWithout_43 : decode cX3_tryWithout 43 = .ok (.iadd, 1) := by decide +kernel
theorem dX3_tryWithout_44 : decode cX3_tryWithout 44 = .ok (.iconst 0, 1) := by decide +kernel
theorem dX3_tryWithout_45 : decode cX3_tryWithout 45 = .ok (.iastore, 1) := by decide +kernel
theorem dX3_tryWithout_46 : decode cX3_tryWithout 46 = .ok (.iload_n 1, 1) := by decide +kernel
theorem dX3_tryWithout_47 : decode cX3_tryWithout 47 = .ok (.bipush 6, 2) := by decide +kernel
theorem dX3_tryWithout_49 : decode cX3_tryWithout 49 = .ok (.iload 5, 2) := by decide +kernel
theorem dX3_tryWithout_51 : decode cX3_tryWithout 51 = .ok (.iadd, 1) := by decide +kernel
theorem dX3_tryWithout_52 : decode cX3_tryWithout 52 = .ok (.if_icmp .eq 12, 3) := by decide +kernel
theorem dX3_tryWithout_55 : decode cX3_tryWithout 55 = .ok (.iload_n 2, 1) := by decide +kernel
theorem dX3_tryWithout_56 : decode cX3_tryWithout 56 = .ok (.bipush 6, 2) := by decide +kernel
theorem dX3_tryWithout_58 : decode cX3_tryWithout 58 = .ok (.iload 5, 2) := by decide +kernel
theorem dX3_tryWithout_60 : decode cX3_tryWithout 60 = .ok (.iadd, 1) := by decide +kernel
theorem dX3_tryWithout_61 : decode cX3_tryWithout 61 = .ok (.if_icmp .ne 26, 3) := by decide +kernel
theorem dX3_tryWithout_64 : decode cX3_tryWithout 64 = .ok (.aload_n 0, 1) := by decide +kernel
theorem dX3_tryWithout_65 : decode cX3_tryWithout 65 = .ok (.getfield 34, 3) := by decide +kernel
theorem dX3_tryWithout_68 : decode cX3_tryWithout 68 = .ok (.iconst 3, 1) := by decide +kernel
theorem dX3_tryWithout_69 : decode cX3_tryWithout 69 = .ok (.iload 5, 2) := by decide +kernel
theorem dX3_tryWithout_71 : decode cX3_tryWithout 71 = .ok (.iadd, 1) := by decide +kernel
theorem dX3_tryWithout_72 : decode cX3_tryWithout 72 = .ok (.aload_n 0, 1) := by decide +kernel
theorem dX3_tryWithout_73 : decode cX3_tryWithout 73 = .ok (.getfield 31, 3) := by decide +kernel
theorem dX3_tryWithout_76 : decode cX3_tryWithout 76 = .ok (.getstatic 94, 3) := by decide +kernel
theorem dX3_tryWithout_79 : decode cX3_tryWithout 79 = .ok (.iload 5, 2) := by decide +kernel
theorem dX3_tryWithout_81 : decode cX3_tryWithout 81 = .ok (.iaload, 1) := by decide +kernel
theorem dX3_tryWithout_82 : decode cX3_tryWithout 82 = .ok (.iaload, 1) := by decide +kernel
theorem dX3_tryWithout_83 : decode cX3_tryWithout 83 = .ok (.iastore, 1) := by decide +kernel
theorem dX3_tryWithout_84 : decode cX3_tryWithout 84 = .ok (.goto 23, 3) := by decide +kernel
theorem dX3_tryWithout_87 : decode cX3_tryWithout 87 = .ok (.iload_n 1, 1) := by decide +kernel
theorem dX3_tryWithout_88 : decode cX3_tryWithout 88 = .ok (.iconst 3, 1) := by decide +kernel
theorem dX3_tryWithout_89 : decode cX3_tryWithout 89 = .ok (.iload 5, 2) := by decide +kernel
theorem dX3_tryWithout_91 : decode cX3_tryWithout 91 = .ok (.iadd, 1) := by decide +kernel
theorem dX3_tryWithout_92 : decode cX3_tryWithout 92 = .ok (.if_icmp .eq 15, 3) := by decide +kernel
theorem dX3_tryWithout_95 : decode cX3_tryWithout 95 = .ok (.iload_n 2, 1) := by decide +kernel
theorem dX3_tryWithout_96 : decode cX3_tryWithout 96 = .ok (.iconst 3, 1) := by decide +kernel
theorem dX3_tryWithout_97 : decode cX3_tryWithout 97 = .ok (.iload 5, 2) := by decide +kernel
theorem dX3_tryWithout_99 : decode cX3_tryWithout 99 = .ok (.iadd, 1) := by decide +kernel
theorem dX3_tryWithout_100 : decode cX3_tryWithout 100 = .ok (.if_icmp .eq 7, 3) := by decide +kernel
theorem dX3_tryWithout_103 : decode cX3_tryWithout 103 = .ok (.iload 5, 2) := by decide +kernel
theorem dX3_tryWithout_105 : decode cX3_tryWithout 105 = .ok (.istore 4, 2) := by decide +kernel
theorem dX3_tryWithout_107 : decode cX3_tryWithout 107 = .ok (.iload_n 3, 1) := by decide +kernel
theorem dX3_tryWithout_108 : decode cX3_tryWithout 108 = .ok (.aload_n 0, 1) := by decide +kernel
theorem dX3_tryWithout_109 : decode cX3_tryWithout 109 = .ok (.getfield 34, 3) := by decide +kernel
theorem dX3_tryWithout_112 : decode cX3_tryWithout 112 = .ok (.iconst 3, 1) := by decide +kernel
theorem dX3_tryWithout_113 : decode cX3_tryWithout 113 = .ok (.iload 5, 2) := by decide +kernel
theorem dX3_tryWithout_115 : decode cX3_tryWithout 115 = .ok (.iadd, 1) := by decide +kernel
theorem dX3_tryWithout_116 : decode cX3_tryWithout 116 = .ok (.iaload, 1) := by decide +kernel
theorem dX3_tryWithout_117 : decode cX3_tryWithout 117 = .ok (.isub, 1) := by decide +kernel
theorem dX3_tryWithout_118 : decode cX3_tryWithout 118 = .ok (.istore_n 3, 1) := by decide +kernel
theorem dX3_tryWithout_119 : decode cX3_tryWithout 119 = .ok (.iinc 5 1, 3) := by decide +kernel
theorem dX3_tryWithout_122 : decode cX3_tryWithout 122 = .ok (.goto (-108), 3) := by decide +kernel
theorem dX3_tryWithout_125 : decode cX3_tryWithout 125 = .ok (.aload_n 0, 1) := by decide +kernel
theorem dX3_tryWithout_126 : decode cX3_tryWithout 126 = .ok (.getfield 34, 3) := by decide +kernel
theorem dX3_tryWithout_129 : decode cX3_tryWithout 129 = .ok (.iconst 3, 1) := by decide +kernel
theorem dX3_tryWithout_130 : decode cX3_tryWithout 130 = .ok (.iload 4, 2) := by decide +kernel
theorem dX3_tryWithout_132 : decode cX3_tryWithout 132 = .ok (.iadd, 1) := by decide +kernel
theorem dX3_tryWithout_133 : decode cX3_tryWithout 133 = .ok (.iload_n 3, 1) := by decide +kernel
theorem dX3_tryWithout_134 : decode cX3_tryWithout 134 = .ok (.iastore, 1) := by decide +kernel
theorem dX3_tryWithout_135 : decode cX3_tryWithout 135 = .ok (.iconst 0, 1) := by decide +kernel
theorem dX3_tryWithout_136 : decode cX3_tryWithout 136 = .ok (.istore 5, 2) := by decide +kernel
theorem dX3_tryWithout_138 : decode cX3_tryWithout 138 = .ok (.iload 5, 2) := by decide +kernel
theorem dX3_tryWithout_140 : decode cX3_tryWithout 140 = .ok (.iconst 3, 1) := by decide +kernel
theorem dX3_tryWithout_141 : decode cX3_tryWithout 141 = .ok (.if_icmp .ge 40, 3) := by decide +kernel
theorem dX3_tryWithout_144 : decode cX3_tryWithout 144 = .ok (.aload_n 0, 1) := by decide +kernel
theorem dX3_tryWithout_145 : decode cX3_tryWithout 145 = .ok (.getfield 34, 3) := by decide +kernel
theorem dX3_tryWithout_148 : decode cX3_tryWithout 148 = .ok (.bipush 6, 2) := by decide +kernel
theorem dX3_tryWithout_150 : decode cX3_tryWithout 150 = .ok (.iload 5, 2) := by decide +kernel
theorem dX3_tryWithout_152 : decode cX3_tryWithout 152 = .ok (.iadd, 1) := by decide +kernel
theorem dX3_tryWithout_153 : decode cX3_tryWithout 153 = .ok (.aload_n 0, 1) := by decide +kernel
theorem dX3_tryWithout_154 : decode cX3_tryWithout 154 = .ok (.getfield 31, 3) := by decide +kernel
theorem dX3_tryWithout_157 : decode cX3_tryWithout 157 = .ok (.getstatic 94, 3) := by decide +kernel
theorem dX3_tryWithout_160 : decode cX3_tryWithout 160 = .ok (.iload 5, 2) := by decide +kernel
theorem dX3_tryWithout_162 : decode cX3_tryWithout 162 = .ok (.iaload, 1) := by decide +kernel
theorem dX3_tryWithout_163 : decode cX3_tryWithout 163 = .ok (.iaload, 1) := by decide +kernel
theorem dX3_tryWithout_164 : decode cX3_tryWithout 164 = .ok (.aload_n 0, 1) := by decide +kernel
theorem dX3_tryWithout_165 : decode cX3_tryWithout 165 = .ok (.getfield 34, 3) := by decide +kernel
theorem dX3_tryWithout_168 : decode cX3_tryWithout 168 = .ok (.iconst 3, 1) := by decide +kernel
theorem dX3_tryWithout_169 : decode cX3_tryWithout 169 = .ok (.iload 5, 2) := by decide +kernel
theorem dX3_tryWithout_171 : decode cX3_tryWithout 171 = .ok (.iadd, 1) := by decide +kernel
theorem dX3_tryWithout_172 : decode cX3_tryWithout 172 = .ok (.iaload, 1) := by decide +kernel
theorem dX3_tryWithout_173 : decode cX3_tryWithout 173 = .ok (.isub, 1) := by decide +kernel
theorem dX3_tryWithout_174 : decode cX3_tryWithout 174 = .ok (.iastore, 1) := by decide +kernel
theorem dX3_tryWithout_175 : decode cX3_tryWithout 175 = .ok (.iinc 5 1, 3) := by decide +kernel
theorem dX3_tryWithout_178 : decode cX3_tryWithout 178 = .ok (.goto (-40), 3) := by decide +kernel
theorem dX3_tryWithout_181 : decode cX3_tryWithout 181 = .ok (.aload_n 0, 1) := by decide +kernel
theorem dX3_tryWithout_182 : decode cX3_tryWithout 182 = .ok (.getfield 34, 3) := by decide +kernel
theorem dX3_tryWithout_185 : decode cX3_tryWithout 185 = .ok (.invokestatic 175, 3) := by decide +kernel
theorem dX3_tryWithout_188 : decode cX3_tryWithout 188 = .ok (.ireturn, 1) := by decide +kernel
theorem dX3_noneIsBelowNought_0 : decode cX3_noneIsBelowNought 0 = .ok (.iconst 0, 1) := by decide +kernel
theorem dX3_noneIsBelowNought_1 : decode cX3_noneIsBelowNought 1 = .ok (.istore_n 1, 1) := by decide +kernel
theorem dX3_noneIsBelowNought_2 : decode cX3_noneIsBelowNought 2 = .ok (.iload_n 1, 1) := by decide +kernel
theorem dX3_noneIsBelowNought_3 : decode cX3_noneIsBelowNought 3 = .ok (.aload_n 0, 1) := by decide +kernel
theorem dX3_noneIsBelowNought_4 : decode cX3_noneIsBelowNought 4 = .ok (.arraylength, 1) := by decide +kernel
theorem dX3_noneIsBelowNought_5 : decode cX3_noneIsBelowNought 5 = .ok (.if_icmp .ge 17, 3) := by decide +kernel
theorem dX3_noneIsBelowNought_8 : decode cX3_noneIsBelowNought 8 = .ok (.aload_n 0, 1) := by decide +kernel
theorem dX3_noneIsBelowNought_9 : decode cX3_noneIsBelowNought 9 = .ok (.iload_n 1, 1) := by decide +kernel
theorem dX3_noneIsBelowNought_10 : decode cX3_noneIsBelowNought 10 = .ok (.iaload, 1) := by decide +kernel
theorem dX3_noneIsBelowNought_11 : decode cX3_noneIsBelowNought 11 = .ok (.ifCond .ge 5, 3) := by decide +kernel
theorem dX3_noneIsBelowNought_14 : decode cX3_noneIsBelowNought 14 = .ok (.iconst 0, 1) := by decide +kernel
theorem dX3_noneIsBelowNought_15 : decode cX3_noneIsBelowNought 15 = .ok (.ireturn, 1) := by decide +kernel
theorem dX3_noneIsBelowNought_16 : decode cX3_noneIsBelowNought 16 = .ok (.iinc 1 1, 3) := by decide +kernel
theorem dX3_noneIsBelowNought_19 : decode cX3_noneIsBelowNought 19 = .ok (.goto (-17), 3) := by decide +kernel
theorem dX3_noneIsBelowNought_22 : decode cX3_noneIsBelowNought 22 = .ok (.iconst 1, 1) := by decide +kernel
theorem dX3_noneIsBelowNought_23 : decode cX3_noneIsBelowNought 23 = .ok (.ireturn, 1) := by decide +kernel
theorem dX3_keepAboveNought_0 : decode cX3_keepAboveNought 0 = .ok (.iconst 0, 1) := by decide +kernel
theorem dX3_keepAboveNought_1 : decode cX3_keepAboveNought 1 = .ok (.istore_n 1, 1) := by decide +kernel
theorem dX3_keepAboveNought_2 : decode cX3_keepAboveNought 2 = .ok (.iconst 0, 1) := by decide +kernel
theorem dX3_keepAboveNought_3 : decode cX3_keepAboveNought 3 = .ok (.istore_n 2, 1) := by decide +kernel
theorem dX3_keepAboveNought_4 : decode cX3_keepAboveNought 4 = .ok (.iload_n 2, 1) := by decide +kernel
theorem dX3_keepAboveNought_5 : decode cX3_keepAboveNought 5 = .ok (.bipush 27, 2) := by decide +kernel
theorem dX3_keepAboveNought_7 : decode cX3_keepAboveNought 7 = .ok (.if_icmp .ge 33, 3) := by decide +kernel
theorem dX3_keepAboveNought_10 : decode cX3_keepAboveNought 10 = .ok (.aload_n 0, 1) := by decide +kernel
theorem dX3_keepAboveNought_11 : decode cX3_keepAboveNought 11 = .ok (.getfield 27, 3) := by decide +kernel
theorem dX3_keepAboveNought_14 : decode cX3_keepAboveNought 14 = .ok (.iload_n 2, 1) := by decide +kernel
theorem dX3_keepAboveNought_15 : decode cX3_keepAboveNought 15 = .ok (.iaload, 1) := by decide +kernel
theorem dX3_keepAboveNought_16 : decode cX3_keepAboveNought 16 = .ok (.ifCond .le 18, 3) := by decide +kernel
theorem dX3_keepAboveNought_19 : decode cX3_keepAboveNought 19 = .ok (.aload_n 0, 1) := by decide +kernel
theorem dX3_keepAboveNought_20 : decode cX3_keepAboveNought 20 = .ok (.getfield 27, 3) := by decide +kernel
theorem dX3_keepAboveNought_23 : decode cX3_keepAboveNought 23 = .ok (.iload_n 1, 1) := by decide +kernel
theorem dX3_keepAboveNought_24 : decode cX3_keepAboveNought 24 = .ok (.aload_n 0, 1) := by decide +kernel
theorem dX3_keepAboveNought_25 : decode cX3_keepAboveNought 25 = .ok (.getfield 27, 3) := by decide +kernel
theorem dX3_keepAboveNought_28 : decode cX3_keepAboveNought 28 = .ok (.iload_n 2, 1) := by decide +kernel
end
section
theorem dX3_keepAboveNought_29 : decode cX3_keepAboveNought 29 = .ok (.iaload, 1) := by decide +kernel
theorem dX3_keepAboveNought_30 : decode cX3_keepAboveNought 30 = .ok (.iastore, 1) := by decide +kernel
theorem dX3_keepAboveNought_31 : decode cX3_keepAboveNought 31 = .ok (.iinc 1 1, 3) := by decide +kernel
theorem dX3_keepAboveNought_34 : decode cX3_keepAboveNought 34 = .ok (.iinc 2 1, 3) := by decide +kernel
theorem dX3_keepAboveNought_37 : decode cX3_keepAboveNought 37 = .ok (.goto (-33), 3) := by decide +kernel
theorem dX3_keepAboveNought_40 : decode cX3_keepAboveNought 40 = .ok (.iload_n 1, 1) := by decide +kernel
theorem dX3_keepAboveNought_41 : decode cX3_keepAboveNought 41 = .ok (.ireturn, 1) := by decide +kernel
set_option maxRecDepth 20000 in
theorem ggX3_leastMean_X3_moveLeastToEnd : GoodIn wsX3_leastMean wsX3_moveLeastToEnd := goodIn_r _ [6, 1, 7, 8, 9, 10, 11, 12, 13, 14] (by decide +kernel) (by decide +kernel)
set_option maxRecDepth 20000 in
theorem gX3_leastMean_X3_moveLeastToEnd : GoodIn wsX3_leastMean (wsV RX3 179 RX3 yX3_moveLeastToEnd wsX3_moveLeastToEnd) := goodIn_app (goodIn_of _ (by decide +kernel)) ggX3_leastMean_X3_moveLeastToEnd
theorem dX3_leastMean_0 : decode cX3_leastMean 0 = .ok (.iconst 0, 1) := by decide +kernel
theorem dX3_leastMean_1 : decode cX3_leastMean 1 = .ok (.istore_n 2, 1) := by decide +kernel
theorem dX3_leastMean_2 : decode cX3_leastMean 2 = .ok (.iload_n 1, 1) := by decide +kernel
theorem dX3_leastMean_3 : decode cX3_leastMean 3 = .ok (.istore_n 3, 1) := by decide +kernel
theorem dX3_leastMean_4 : decode cX3_leastMean 4 = .ok (.iload_n 3, 1) := by decide +kernel
theorem dX3_leastMean_5 : decode cX3_leastMean 5 = .ok (.iconst 1, 1) := by decide +kernel
theorem dX3_leastMean_6 : decode cX3_leastMean 6 = .ok (.if_icmp .le 51, 3) := by decide +kernel
theorem dX3_leastMean_9 : decode cX3_leastMean 9 = .ok (.aload_n 0, 1) := by decide +kernel
theorem dX3_leastMean_10 : decode cX3_leastMean 10 = .ok (.iload_n 3, 1) := by decide +kernel
theorem dX3_leastMean_11 : decode cX3_leastMean 11 = .ok (.invokevirtual 179, 3) := by decide +kernel
theorem dX3_leastMean_14 : decode cX3_leastMean 14 = .ok (.aload_n 0, 1) := by decide +kernel
theorem dX3_leastMean_15 : decode cX3_leastMean 15 = .ok (.iload_n 3, 1) := by decide +kernel
theorem dX3_leastMean_16 : decode cX3_leastMean 16 = .ok (.iconst 1, 1) := by decide +kernel
theorem dX3_leastMean_17 : decode cX3_leastMean 17 = .ok (.isub, 1) := by decide +kernel
theorem dX3_leastMean_18 : decode cX3_leastMean 18 = .ok (.invokevirtual 179, 3) := by decide +kernel
theorem dX3_leastMean_21 : decode cX3_leastMean 21 = .ok (.aload_n 0, 1) := by decide +kernel
theorem dX3_leastMean_22 : decode cX3_leastMean 22 = .ok (.getfield 27, 3) := by decide +kernel
theorem dX3_leastMean_25 : decode cX3_leastMean 25 = .ok (.iload_n 3, 1) := by decide +kernel
theorem dX3_leastMean_26 : decode cX3_leastMean 26 = .ok (.iconst 2, 1) := by decide +kernel
theorem dX3_leastMean_27 : decode cX3_leastMean 27 = .ok (.isub, 1) := by decide +kernel
theorem dX3_leastMean_28 : decode cX3_leastMean 28 = .ok (.dup2, 1) := by decide +kernel
theorem dX3_leastMean_29 : decode cX3_leastMean 29 = .ok (.iaload, 1) := by decide +kernel
theorem dX3_leastMean_30 : decode cX3_leastMean 30 = .ok (.aload_n 0, 1) := by decide +kernel
theorem dX3_leastMean_31 : decode cX3_leastMean 31 = .ok (.getfield 27, 3) := by decide +kernel
theorem dX3_leastMean_34 : decode cX3_leastMean 34 = .ok (.iload_n 3, 1) := by decide +kernel
theorem dX3_leastMean_35 : decode cX3_leastMean 35 = .ok (.iconst 1, 1) := by decide +kernel
theorem dX3_leastMean_36 : decode cX3_leastMean 36 = .ok (.isub, 1) := by decide +kernel
theorem dX3_leastMean_37 : decode cX3_leastMean 37 = .ok (.iaload, 1) := by decide +kernel
theorem dX3_leastMean_38 : decode cX3_leastMean 38 = .ok (.iadd, 1) := by decide +kernel
theorem dX3_leastMean_39 : decode cX3_leastMean 39 = .ok (.iastore, 1) := by decide +kernel
theorem dX3_leastMean_40 : decode cX3_leastMean 40 = .ok (.iload_n 2, 1) := by decide +kernel
theorem dX3_leastMean_41 : decode cX3_leastMean 41 = .ok (.aload_n 0, 1) := by decide +kernel
theorem dX3_leastMean_42 : decode cX3_leastMean 42 = .ok (.getfield 27, 3) := by decide +kernel
theorem dX3_leastMean_45 : decode cX3_leastMean 45 = .ok (.iload_n 3, 1) := by decide +kernel
theorem dX3_leastMean_46 : decode cX3_leastMean 46 = .ok (.iconst 2, 1) := by decide +kernel
theorem dX3_leastMean_47 : decode cX3_leastMean 47 = .ok (.isub, 1) := by decide +kernel
theorem dX3_leastMean_48 : decode cX3_leastMean 48 = .ok (.iaload, 1) := by decide +kernel
theorem dX3_leastMean_49 : decode cX3_leastMean 49 = .ok (.iadd, 1) := by decide +kernel
theorem dX3_leastMean_50 : decode cX3_leastMean 50 = .ok (.istore_n 2, 1) := by decide +kernel
theorem dX3_leastMean_51 : decode cX3_leastMean 51 = .ok (.iinc 3 (-1), 3) := by decide +kernel
theorem dX3_leastMean_54 : decode cX3_leastMean 54 = .ok (.goto (-50), 3) := by decide +kernel
theorem dX3_leastMean_57 : decode cX3_leastMean 57 = .ok (.iload_n 2, 1) := by decide +kernel
theorem dX3_leastMean_58 : decode cX3_leastMean 58 = .ok (.ireturn, 1) := by decide +kernel
theorem dX3_moveLeastToEnd_0 : decode cX3_moveLeastToEnd 0 = .ok (.iconst 0, 1) := by decide +kernel
theorem dX3_moveLeastToEnd_1 : decode cX3_moveLeastToEnd 1 = .ok (.istore_n 2, 1) := by decide +kernel
theorem dX3_moveLeastToEnd_2 : decode cX3_moveLeastToEnd 2 = .ok (.iconst 1, 1) := by decide +kernel
theorem dX3_moveLeastToEnd_3 : decode cX3_moveLeastToEnd 3 = .ok (.istore_n 3, 1) := by decide +kernel
theorem dX3_moveLeastToEnd_4 : decode cX3_moveLeastToEnd 4 = .ok (.iload_n 3, 1) := by decide +kernel
theorem dX3_moveLeastToEnd_5 : decode cX3_moveLeastToEnd 5 = .ok (.iload_n 1, 1) := by decide +kernel
theorem dX3_moveLeastToEnd_6 : decode cX3_moveLeastToEnd 6 = .ok (.if_icmp .ge 26, 3) := by decide +kernel
theorem dX3_moveLeastToEnd_9 : decode cX3_moveLeastToEnd 9 = .ok (.aload_n 0, 1) := by decide +kernel
theorem dX3_moveLeastToEnd_10 : decode cX3_moveLeastToEnd 10 = .ok (.getfield 27, 3) := by decide +kernel
theorem dX3_moveLeastToEnd_13 : decode cX3_moveLeastToEnd 13 = .ok (.iload_n 3, 1) := by decide +kernel
theorem dX3_moveLeastToEnd_14 : decode cX3_moveLeastToEnd 14 = .ok (.iaload, 1) := by decide +kernel
theorem dX3_moveLeastToEnd_15 : decode cX3_moveLeastToEnd 15 = .ok (.aload_n 0, 1) := by decide +kernel
theorem dX3_moveLeastToEnd_16 : decode cX3_moveLeastToEnd 16 = .ok (.getfield 27, 3) := by decide +kernel
theorem dX3_moveLeastToEnd_19 : decode cX3_moveLeastToEnd 19 = .ok (.iload_n 2, 1) := by decide +kernel
theorem dX3_moveLeastToEnd_20 : decode cX3_moveLeastToEnd 20 = .ok (.iaload, 1) := by decide +kernel
theorem dX3_moveLeastToEnd_21 : decode cX3_moveLeastToEnd 21 = .ok (.if_icmp .ge 5, 3) := by decide +kernel
theorem dX3_moveLeastToEnd_24 : decode cX3_moveLeastToEnd 24 = .ok (.iload_n 3, 1) := by decide +kernel
theorem dX3_moveLeastToEnd_25 : decode cX3_moveLeastToEnd 25 = .ok (.istore_n 2, 1) := by decide +kernel
theorem dX3_moveLeastToEnd_26 : decode cX3_moveLeastToEnd 26 = .ok (.iinc 3 1, 3) := by decide +kernel
theorem dX3_moveLeastToEnd_29 : decode cX3_moveLeastToEnd 29 = .ok (.goto (-25), 3) := by decide +kernel
theorem dX3_moveLeastToEnd_32 : decode cX3_moveLeastToEnd 32 = .ok (.aload_n 0, 1) := by decide +kernel
theorem dX3_moveLeastToEnd_33 : decode cX3_moveLeastToEnd 33 = .ok (.getfield 27, 3) := by decide +kernel
theorem dX3_moveLeastToEnd_36 : decode cX3_moveLeastToEnd 36 = .ok (.iload_n 2, 1) := by decide +kernel
theorem dX3_moveLeastToEnd_37 : decode cX3_moveLeastToEnd 37 = .ok (.iaload, 1) := by decide +kernel
theorem dX3_moveLeastToEnd_38 : decode cX3_moveLeastToEnd 38 = .ok (.istore_n 3, 1) := by decide +kernel
theorem dX3_moveLeastToEnd_39 : decode cX3_moveLeastToEnd 39 = .ok (.aload_n 0, 1) := by decide +kernel
theorem dX3_moveLeastToEnd_40 : decode cX3_moveLeastToEnd 40 = .ok (.getfield 27, 3) := by decide +kernel
theorem dX3_moveLeastToEnd_43 : decode cX3_moveLeastToEnd 43 = .ok (.iload_n 2, 1) := by decide +kernel
theorem dX3_moveLeastToEnd_44 : decode cX3_moveLeastToEnd 44 = .ok (.aload_n 0, 1) := by decide +kernel
theorem dX3_moveLeastToEnd_45 : decode cX3_moveLeastToEnd 45 = .ok (.getfield 27, 3) := by decide +kernel
theorem dX3_moveLeastToEnd_48 : decode cX3_moveLeastToEnd 48 = .ok (.iload_n 1, 1) := by decide +kernel
theorem dX3_moveLeastToEnd_49 : decode cX3_moveLeastToEnd 49 = .ok (.iconst 1, 1) := by decide +kernel
theorem dX3_moveLeastToEnd_50 : decode cX3_moveLeastToEnd 50 = .ok (.isub, 1) := by decide +kernel
theorem dX3_moveLeastToEnd_51 : decode cX3_moveLeastToEnd 51 = .ok (.iaload, 1) := by decide +kernel
theorem dX3_moveLeastToEnd_52 : decode cX3_moveLeastToEnd 52 = .ok (.iastore, 1) := by decide +kernel
theorem dX3_moveLeastToEnd_53 : decode cX3_moveLeastToEnd 53 = .ok (.aload_n 0, 1) := by decide +kernel
theorem dX3_moveLeastToEnd_54 : decode cX3_moveLeastToEnd 54 = .ok (.getfield 27, 3) := by decide +kernel
theorem dX3_moveLeastToEnd_57 : decode cX3_moveLeastToEnd 57 = .ok (.iload_n 1, 1) := by decide +kernel
theorem dX3_moveLeastToEnd_58 : decode cX3_moveLeastToEnd 58 = .ok (.iconst 1, 1) := by decide +kernel
theorem dX3_moveLeastToEnd_59 : decode cX3_moveLeastToEnd 59 = .ok (.isub, 1) := by decide +kernel
theorem dX3_moveLeastToEnd_60 : decode cX3_moveLeastToEnd 60 = .ok (.iload_n 3, 1) := by decide +kernel
theorem dX3_moveLeastToEnd_61 : decode cX3_moveLeastToEnd 61 = .ok (.iastore, 1) := by decide +kernel
theorem dX3_moveLeastToEnd_62 : decode cX3_moveLeastToEnd 62 = .ok (.return_, 1) := by decide +kernel
theorem dX4_init_0 : decode cX4_init 0 = .ok (.aload_n 0, 1) := by decide +kernel
theorem dX4_init_1 : decode cX4_init 1 = .ok (.invokespecial 1, 3) := by decide +kernel
theorem dX4_init_4 : decode cX4_init 4 = .ok (.aload_n 0, 1) := by decide +kernel
theorem dX4_init_5 : decode cX4_init 5 = .ok (.bipush 12, 2) := by decide +kernel
theorem dX4_init_7 : decode cX4_init 7 = .ok (.newarray .int, 2) := by decide +kernel
theorem dX4_init_9 : decode cX4_init 9 = .ok (.putfield 7, 3) := by decide +kernel
theorem dX4_init_12 : decode cX4_init 12 = .ok (.aload_n 0, 1) := by decide +kernel
theorem dX4_init_13 : decode cX4_init 13 = .ok (.bipush 108, 2) := by decide +kernel
theorem dX4_init_15 : decode cX4_init 15 = .ok (.newarray .int, 2) := by decide +kernel
theorem dX4_init_17 : decode cX4_init 17 = .ok (.putfield 13, 3) := by decide +kernel
theorem dX4_init_20 : decode cX4_init 20 = .ok (.aload_n 0, 1) := by decide +kernel
theorem dX4_init_21 : decode cX4_init 21 = .ok (.iconst 4, 1) := by decide +kernel
theorem dX4_init_22 : decode cX4_init 22 = .ok (.newarray .int, 2) := by decide +kernel
theorem dX4_init_24 : decode cX4_init 24 = .ok (.putfield 16, 3) := by decide +kernel
theorem dX4_init_27 : decode cX4_init 27 = .ok (.aload_n 0, 1) := by decide +kernel
theorem dX4_init_28 : decode cX4_init 28 = .ok (.bipush 80, 2) := by decide +kernel
theorem dX4_init_30 : decode cX4_init 30 = .ok (.newarray .int, 2) := by decide +kernel
theorem dX4_init_32 : decode cX4_init 32 = .ok (.putfield 19, 3) := by decide +kernel
theorem dX4_init_35 : decode cX4_init 35 = .ok (.aload_n 0, 1) := by decide +kernel
theorem dX4_init_36 : decode cX4_init 36 = .ok (.bipush 6, 2) := by decide +kernel
theorem dX4_init_38 : decode cX4_init 38 = .ok (.newarray .int, 2) := by decide +kernel
theorem dX4_init_40 : decode cX4_init 40 = .ok (.dup, 1) := by decide +kernel
theorem dX4_init_41 : decode cX4_init 41 = .ok (.iconst 0, 1) := by decide +kernel
theorem dX4_init_42 : decode cX4_init 42 = .ok (.iconst 2, 1) := by decide +kernel
theorem dX4_init_43 : decode cX4_init 43 = .ok (.iastore, 1) := by decide +kernel
theorem dX4_init_44 : decode cX4_init 44 = .ok (.dup, 1) := by decide +kernel
theorem dX4_init_45 : decode cX4_init 45 = .ok (.iconst 1, 1) := by decide +kernel
theorem dX4_init_46 : decode cX4_init 46 = .ok (.iconst 3, 1) := by decide +kernel
theorem dX4_init_47 : decode cX4_init 47 = .ok (.iastore, 1) := by decide +kernel
theorem dX4_init_48 : decode cX4_init 48 = .ok (.dup, 1) := by decide +kernel
theorem dX4_init_49 : decode cX4_init 49 = .ok (.iconst 2, 1) := by decide +kernel
theorem dX4_init_50 : decode cX4_init 50 = .ok (.iconst 5, 1) := by decide +kernel
theorem dX4_init_51 : decode cX4_init 51 = .ok (.iastore, 1) := by decide +kernel
theorem dX4_init_52 : decode cX4_init 52 = .ok (.dup, 1) := by decide +kernel
theorem dX4_init_53 : decode cX4_init 53 = .ok (.iconst 3, 1) := by decide +kernel
theorem dX4_init_54 : decode cX4_init 54 = .ok (.bipush 7, 2) := by decide +kernel
theorem dX4_init_56 : decode cX4_init 56 = .ok (.iastore, 1) := by decide +kernel
theorem dX4_init_57 : decode cX4_init 57 = .ok (.dup, 1) := by decide +kernel
theorem dX4_init_58 : decode cX4_init 58 = .ok (.iconst 4, 1) := by decide +kernel
theorem dX4_init_59 : decode cX4_init 59 = .ok (.bipush 11, 2) := by decide +kernel
theorem dX4_init_61 : decode cX4_init 61 = .ok (.iastore, 1) := by decide +kernel
theorem dX4_init_62 : decode cX4_init 62 = .ok (.dup, 1) := by decide +kernel
theorem dX4_init_63 : decode cX4_init 63 = .ok (.iconst 5, 1) := by decide +kernel
theorem dX4_init_64 : decode cX4_init 64 = .ok (.bipush 13, 2) := by decide +kernel
theorem dX4_init_66 : decode cX4_init 66 = .ok (.iastore, 1) := by decide +kernel
theorem dX4_init_67 : decode cX4_init 67 = .ok (.putfield 22, 3) := by decide +kernel
theorem dX4_init_70 : decode cX4_init 70 = .ok (.aload_n 0, 1) := by decide +kernel
theorem dX4_init_71 : decode cX4_init 71 = .ok (.bipush 6, 2) := by decide +kernel
theorem dX4_init_73 : decode cX4_init 73 = .ok (.newarray .int, 2) := by decide +kernel
theorem dX4_init_75 : decode cX4_init 75 = .ok (.putfield 25, 3) := by decide +kernel
theorem dX4_init_78 : decode cX4_init 78 = .ok (.aload_n 0, 1) := by decide +kernel
theorem dX4_init_79 : decode cX4_init 79 = .ok (.bipush 27, 2) := by decide +kernel
theorem dX4_init_81 : decode cX4_init 81 = .ok (.newarray .int, 2) := by decide +kernel
theorem dX4_init_83 : decode cX4_init 83 = .ok (.putfield 28, 3) := by decide +kernel
theorem dX4_init_86 : decode cX4_init 86 = .ok (.aload_n 0, 1) := by decide +kernel
theorem dX4_init_87 : decode cX4_init 87 = .ok (.sipush 4000, 3) := by decide +kernel
theorem dX4_init_90 : decode cX4_init 90 = .ok (.newarray .int, 2) := by decide +kernel
theorem dX4_init_92 : decode cX4_init 92 = .ok (.putfield 31, 3) := by decide +kernel
theorem dX4_init_95 : decode cX4_init 95 = .ok (.aload_n 0, 1) := by decide +kernel
theorem dX4_init_96 : decode cX4_init 96 = .ok (.sipush 4000, 3) := by decide +kernel
theorem dX4_init_99 : decode cX4_init 99 = .ok (.newarray .int, 2) := by decide +kernel
theorem dX4_init_101 : decode cX4_init 101 = .ok (.putfield 34, 3) := by decide +kernel
theorem dX4_init_104 : decode cX4_init 104 = .ok (.aload_n 0, 1) := by decide +kernel
theorem dX4_init_105 : decode cX4_init 105 = .ok (.bipush 56, 2) := by decide +kernel
theorem dX4_init_107 : decode cX4_init 107 = .ok (.newarray .long, 2) := by decide +kernel
theorem dX4_init_109 : decode cX4_init 109 = .ok (.putfield 37, 3) := by decide +kernel
theorem dX4_init_112 : decode cX4_init 112 = .ok (.aload_n 0, 1) := by decide +kernel
theorem dX4_init_113 : decode cX4_init 113 = .ok (.bipush 9, 2) := by decide +kernel
theorem dX4_init_115 : decode cX4_init 115 = .ok (.newarray .long, 2) := by decide +kernel
theorem dX4_init_117 : decode cX4_init 117 = .ok (.putfield 41, 3) := by decide +kernel
theorem dX4_init_120 : decode cX4_init 120 = .ok (.aload_n 0, 1) := by decide +kernel
theorem dX4_init_121 : decode cX4_init 121 = .ok (.bipush 9, 2) := by decide +kernel
theorem dX4_init_123 : decode cX4_init 123 = .ok (.newarray .long, 2) := by decide +kernel
theorem dX4_init_125 : decode cX4_init 125 = .ok (.putfield 44, 3) := by decide +kernel
theorem dX4_init_128 : decode cX4_init 128 = .ok (.aload_n 0, 1) := by decide +kernel
theorem dX4_init_129 : decode cX4_init 129 = .ok (.bipush 18, 2) := by decide +kernel
theorem dX4_init_131 : decode cX4_init 131 = .ok (.newarray .long, 2) := by decide +kernel
theorem dX4_init_133 : decode cX4_init 133 = .ok (.putfield 47, 3) := by decide +kernel
theorem dX4_init_136 : decode cX4_init 136 = .ok (.return_, 1) := by decide +kernel
theorem dX4_isIn_0 : decode cX4_isIn 0 = .ok (.iload_n 0, 1) := by decide +kernel
theorem dX4_isIn_1 : decode cX4_isIn 1 = .ok (.iload_n 1, 1) := by decide +kernel
theorem dX4_isIn_2 : decode cX4_isIn 2 = .ok (.if_icmp .lt 12, 3) := by decide +kernel
theorem dX4_isIn_5 : decode cX4_isIn 5 = .ok (.iload_n 0, 1) := by decide +kernel
theorem dX4_isIn_6 : decode cX4_isIn 6 = .ok (.iload_n 2, 1) := by decide +kernel
theorem dX4_isIn_7 : decode cX4_isIn 7 = .ok (.if_icmp .gt 7, 3) := by decide +kernel
theorem dX4_isIn_10 : decode cX4_isIn 10 = .ok (.iconst 1, 1) := by decide +kernel
theorem dX4_isIn_11 : decode cX4_isIn 11 = .ok (.goto 4, 3) := by decide +kernel
theorem dX4_isIn_14 : decode cX4_isIn 14 = .ok (.iconst 0, 1) := by decide +kernel
theorem dX4_isIn_15 : decode cX4_isIn 15 = .ok (.ireturn, 1) := by decide +kernel
set_option maxRecDepth 20000 in
theorem ggX4_isPlace_X4_isIn : GoodIn wsX4_isPlace wsX4_isIn := goodIn_r _ [4] (by decide +kernel) (by decide +kernel)
set_option maxRecDepth 20000 in
theorem gX4_isPlace_X4_isIn : GoodIn wsX4_isPlace (va_wsS RX4 50 yX4_isIn wsX4_isIn) := goodIn_app (goodIn_of _ (by decide +kernel)) ggX4_isPlace_X4_isIn
theorem dX4_isPlace_0 : decode cX4_isPlace 0 = .ok (.iload_n 0, 1) := by decide +kernel
theorem dX4_isPlace_1 : decode cX4_isPlace 1 = .ok (.iconst 0, 1) := by decide +kernel
theorem dX4_isPlace_2 : decode cX4_isPlace 2 = .ok (.iconst 3, 1) := by decide +kernel
theorem dX4_isPlace_3 : decode cX4_isPlace 3 = .ok (.invokestatic 50, 3) := by decide +kernel
theorem dX4_isPlace_6 : decode cX4_isPlace 6 = .ok (.ireturn, 1) := by decide +kernel
set_option maxRecDepth 20000 in
theorem ggX4_isMade_X4_isPlace : GoodIn wsX4_isMade wsX4_isPlace := goodIn_r _ [5, 6, 7, 4, 8] (by decide +kernel) (by decide +kernel)
set_option maxRecDepth 20000 in
theorem gX4_isMade_X4_isPlace : GoodIn wsX4_isMade (va_wsS RX4 54 yX4_isPlace wsX4_isPlace) := goodIn_app (goodIn_of _ (by decide +kernel)) ggX4_isMade_X4_isPlace
theorem dX4_isMade_0 : decode cX4_isMade 0 = .ok (.iload_n 1, 1) := by decide +kernel
theorem dX4_isMade_1 : decode cX4_isMade 1 = .ok (.invokestatic 54, 3) := by decide +kernel
theorem dX4_isMade_4 : decode cX4_isMade 4 = .ok (.ifCond .eq 16, 3) := by decide +kernel
theorem dX4_isMade_7 : decode cX4_isMade 7 = .ok (.aload_n 0, 1) := by decide +kernel
theorem dX4_isMade_8 : decode cX4_isMade 8 = .ok (.getfield 16, 3) := by decide +kernel
theorem dX4_isMade_11 : decode cX4_isMade 11 = .ok (.iload_n 1, 1) := by decide +kernel
theorem dX4_isMade_12 : decode cX4_isMade 12 = .ok (.iaload, 1) := by decide +kernel
theorem dX4_isMade_13 : decode cX4_isMade 13 = .ok (.ifCond .le 7, 3) := by decide +kernel
theorem dX4_isMade_16 : decode cX4_isMade 16 = .ok (.iconst 1, 1) := by decide +kernel
theorem dX4_isMade_17 : decode cX4_isMade 17 = .ok (.goto 4, 3) := by decide +kernel
theorem dX4_isMade_20 : decode cX4_isMade 20 = .ok (.iconst 0, 1) := by decide +kernel
theorem dX4_isMade_21 : decode cX4_isMade 21 = .ok (.ireturn, 1) := by decide +kernel
set_option maxRecDepth 20000 in
theorem ggX4_isLaw_X4_isIn : GoodIn wsX4_isLaw wsX4_isIn := goodIn_r _ [4] (by decide +kernel) (by decide +kernel)
set_option maxRecDepth 20000 in
theorem gX4_isLaw_X4_isIn : GoodIn wsX4_isLaw (va_wsS RX4 50 yX4_isIn wsX4_isIn) := goodIn_app (goodIn_of _ (by decide +kernel)) ggX4_isLaw_X4_isIn
theorem dX4_isLaw_0 : decode cX4_isLaw 0 = .ok (.iload_n 0, 1) := by decide +kernel
theorem dX4_isLaw_1 : decode cX4_isLaw 1 = .ok (.iconst 0, 1) := by decide +kernel
theorem dX4_isLaw_2 : decode cX4_isLaw 2 = .ok (.bipush 9, 2) := by decide +kernel
theorem dX4_isLaw_4 : decode cX4_isLaw 4 = .ok (.invokestatic 50, 3) := by decide +kernel
theorem dX4_isLaw_7 : decode cX4_isLaw 7 = .ok (.ireturn, 1) := by decide +kernel
set_option maxRecDepth 20000 in
theorem ggX4_world_X4_isPlace : GoodIn wsX4_world wsX4_isPlace := goodIn_r _ [7, 8, 9, 6, 10] (by decide +kernel) (by decide +kernel)
set_option maxRecDepth 20000 in
theorem gX4_world_X4_isPlace : GoodIn wsX4_world (va_wsS RX4 54 yX4_isPlace wsX4_isPlace) := goodIn_app (goodIn_of _ (by decide +kernel)) ggX4_world_X4_isPlace
set_option maxRecDepth 20000 in
theorem ggX4_world_X4_isIn : GoodIn wsX4_world wsX4_isIn := goodIn_r _ [10] (by decide +kernel) (by decide +kernel)
set_option maxRecDepth 20000 in
theorem gX4_world_X4_isIn : GoodIn wsX4_world (va_wsS RX4 50 yX4_isIn wsX4_isIn) := goodIn_app (goodIn_of _ (by decide +kernel)) ggX4_world_X4_isIn
theorem dX4_world_0 : decode cX4_world 0 = .ok (.iload_n 1, 1) := by decide +kernel
theorem dX4_world_1 : decode cX4_world 1 = .ok (.invokestatic 54, 3) := by decide +kernel
theorem dX4_world_4 : decode cX4_world 4 = .ok (.ifCond .eq 31, 3) := by decide +kernel
theorem dX4_world_7 : decode cX4_world 7 = .ok (.iload_n 2, 1) := by decide +kernel
theorem dX4_world_8 : decode cX4_world 8 = .ok (.iconst 1, 1) := by decide +kernel
theorem dX4_world_9 : decode cX4_world 9 = .ok (.iconst 3, 1) := by decide +kernel
theorem dX4_world_10 : decode cX4_world 10 = .ok (.invokestatic 50, 3) := by decide +kernel
theorem dX4_world_13 : decode cX4_world 13 = .ok (.ifCond .eq 22, 3) := by decide +kernel
theorem dX4_world_16 : decode cX4_world 16 = .ok (.iload_n 3, 1) := by decide +kernel
theorem dX4_world_17 : decode cX4_world 17 = .ok (.iconst 1, 1) := by decide +kernel
theorem dX4_world_18 : decode cX4_world 18 = .ok (.iconst 3, 1) := by decide +kernel
theorem dX4_world_19 : decode cX4_world 19 = .ok (.invokestatic 50, 3) := by decide +kernel
theorem dX4_world_22 : decode cX4_world 22 = .ok (.ifCond .eq 13, 3) := by decide +kernel
theorem dX4_world_25 : decode cX4_world 25 = .ok (.iload 4, 2) := by decide +kernel
theorem dX4_world_27 : decode cX4_world 27 = .ok (.iconst 1, 1) := by decide +kernel
theorem dX4_world_28 : decode cX4_world 28 = .ok (.iconst 3, 1) := by decide +kernel
theorem dX4_world_29 : decode cX4_world 29 = .ok (.invokestatic 50, 3) := by decide +kernel
theorem dX4_world_32 : decode cX4_world 32 = .ok (.ifCond .ne 5, 3) := by decide +kernel
theorem dX4_world_35 : decode cX4_world 35 = .ok (.iconst 0, 1) := by decide +kernel
theorem dX4_world_36 : decode cX4_world 36 = .ok (.ireturn, 1) := by decide +kernel
theorem dX4_world_37 : decode cX4_world 37 = .ok (.aload_n 0, 1) := by decide +kernel
theorem dX4_world_38 : decode cX4_world 38 = .ok (.getfield 7, 3) := by decide +kernel
theorem dX4_world_41 : decode cX4_world 41 = .ok (.iconst 3, 1) := by decide +kernel
theorem dX4_world_42 : decode cX4_world 42 = .ok (.iload_n 1, 1) := by decide +kernel
theorem dX4_world_43 : decode cX4_world 43 = .ok (.imul, 1) := by decide +kernel
theorem dX4_world_44 : decode cX4_world 44 = .ok (.iload_n 2, 1) := by decide +kernel
theorem dX4_world_45 : decode cX4_world 45 = .ok (.iastore, 1) := by decide +kernel
theorem dX4_world_46 : decode cX4_world 46 = .ok (.aload_n 0, 1) := by decide +kernel
theorem dX4_world_47 : decode cX4_world 47 = .ok (.getfield 7, 3) := by decide +kernel
theorem dX4_world_50 : decode cX4_world 50 = .ok (.iconst 3, 1) := by decide +kernel
theorem dX4_world_51 : decode cX4_world 51 = .ok (.iload_n 1, 1) := by decide +kernel
theorem dX4_world_52 : decode cX4_world 52 = .ok (.imul, 1) := by decide +kernel
theorem dX4_world_53 : decode cX4_world 53 = .ok (.iconst 1, 1) := by decide +kernel
theorem dX4_world_54 : decode cX4_world 54 = .ok (.iadd, 1) := by decide +kernel
theorem dX4_world_55 : decode cX4_world 55 = .ok (.iload_n 3, 1) := by decide +kernel
theorem dX4_world_56 : decode cX4_world 56 = .ok (.iastore, 1) := by decide +kernel
theorem dX4_world_57 : decode cX4_world 57 = .ok (.aload_n 0, 1) := by decide +kernel
theorem dX4_world_58 : decode cX4_world 58 = .ok (.getfield 7, 3) := by decide +kernel
theorem dX4_world_61 : decode cX4_world 61 = .ok (.iconst 3, 1) := by decide +kernel
theorem dX4_world_62 : decode cX4_world 62 = .ok (.iload_n 1, 1) := by decide +kernel
theorem dX4_world_63 : decode cX4_world 63 = .ok (.imul, 1) := by decide +kernel
theorem dX4_world_64 : decode cX4_world 64 = .ok (.iconst 2, 1) := by decide +kernel
theorem dX4_world_65 : decode cX4_world 65 = .ok (.iadd, 1) := by decide +kernel
theorem dX4_world_66 : decode cX4_world 66 = .ok (.iload 4, 2) := by decide +kernel
theorem dX4_world_68 : decode cX4_world 68 = .ok (.iastore, 1) := by decide +kernel
theorem dX4_world_69 : decode cX4_world 69 = .ok (.iconst 0, 1) := by decide +kernel
theorem dX4_world_70 : decode cX4_world 70 = .ok (.istore 5, 2) := by decide +kernel
theorem dX4_world_72 : decode cX4_world 72 = .ok (.iload 5, 2) := by decide +kernel
theorem dX4_world_74 : decode cX4_world 74 = .ok (.bipush 27, 2) := by decide +kernel
theorem dX4_world_76 : decode cX4_world 76 = .ok (.if_icmp .ge 22, 3) := by decide +kernel
theorem dX4_world_79 : decode cX4_world 79 = .ok (.aload_n 0, 1) := by decide +kernel
theorem dX4_world_80 : decode cX4_world 80 = .ok (.getfield 13, 3) := by decide +kernel
theorem dX4_world_83 : decode cX4_world 83 = .ok (.bipush 27, 2) := by decide +kernel
theorem dX4_world_85 : decode cX4_world 85 = .ok (.iload_n 1, 1) := by decide +kernel
theorem dX4_world_86 : decode cX4_world 86 = .ok (.imul, 1) := by decide +kernel
theorem dX4_world_87 : decode cX4_world 87 = .ok (.iload 5, 2) := by decide +kernel
theorem dX4_world_89 : decode cX4_world 89 = .ok (.iadd, 1) := by decide +kernel
theorem dX4_world_90 : decode cX4_world 90 = .ok (.iconst 0, 1) := by decide +kernel
theorem dX4_world_91 : decode cX4_world 91 = .ok (.iastore, 1) := by decide +kernel
theorem dX4_world_92 : decode cX4_world 92 = .ok (.iinc 5 1, 3) := by decide +kernel
theorem dX4_world_95 : decode cX4_world 95 = .ok (.goto (-23), 3) := by decide +kernel
theorem dX4_world_98 : decode cX4_world 98 = .ok (.aload_n 0, 1) := by decide +kernel
theorem dX4_world_99 : decode cX4_world 99 = .ok (.getfield 16, 3) := by decide +kernel
theorem dX4_world_102 : decode cX4_world 102 = .ok (.iload_n 1, 1) := by decide +kernel
theorem dX4_world_103 : decode cX4_world 103 = .ok (.iconst 0, 1) := by decide +kernel
theorem dX4_world_104 : decode cX4_world 104 = .ok (.iastore, 1) := by decide +kernel
theorem dX4_world_105 : decode cX4_world 105 = .ok (.iconst 1, 1) := by decide +kernel
theorem dX4_world_106 : decode cX4_world 106 = .ok (.ireturn, 1) := by decide +kernel
set_option maxRecDepth 20000 in
theorem ggX4_isSetting_X4_isPlace : GoodIn wsX4_isSetting wsX4_isPlace := goodIn_r _ [5, 6, 7, 4, 8] (by decide +kernel) (by decide +kernel)
set_option maxRecDepth 20000 in
theorem gX4_isSetting_X4_isPlace : GoodIn wsX4_isSetting (va_wsS RX4 54 yX4_isPlace wsX4_isPlace) := goodIn_app (goodIn_of _ (by decide +kernel)) ggX4_isSetting_X4_isPlace
theorem dX4_isSetting_0 : decode cX4_isSetting 0 = .ok (.iload_n 1, 1) := by decide +kernel
theorem dX4_isSetting_1 : decode cX4_isSetting 1 = .ok (.invokestatic 54, 3) := by decide +kernel
theorem dX4_isSetting_4 : decode cX4_isSetting 4 = .ok (.ifCond .eq 61, 3) := by decide +kernel
theorem dX4_isSetting_7 : decode cX4_isSetting 7 = .ok (.iload_n 2, 1) := by decide +kernel
theorem dX4_isSetting_8 : decode cX4_isSetting 8 = .ok (.ifCond .lt 57, 3) := by decide +kernel
theorem dX4_isSetting_11 : decode cX4_isSetting 11 = .ok (.iload_n 3, 1) := by decide +kernel
theorem dX4_isSetting_12 : decode cX4_isSetting 12 = .ok (.ifCond .lt 53, 3) := by decide +kernel
theorem dX4_isSetting_15 : decode cX4_isSetting 15 = .ok (.iload 4, 2) := by decide +kernel
theorem dX4_isSetting_17 : decode cX4_isSetting 17 = .ok (.ifCond .lt 48, 3) := by decide +kernel
theorem dX4_isSetting_20 : decode cX4_isSetting 20 = .ok (.iload_n 2, 1) := by decide +kernel
theorem dX4_isSetting_21 : decode cX4_isSetting 21 = .ok (.aload_n 0, 1) := by decide +kernel
theorem dX4_isSetting_22 : decode cX4_isSetting 22 = .ok (.getfield 7, 3) := by decide +kernel
theorem dX4_isSetting_25 : decode cX4_isSetting 25 = .ok (.iconst 3, 1) := by decide +kernel
theorem dX4_isSetting_26 : decode cX4_isSetting 26 = .ok (.iload_n 1, 1) := by decide +kernel
theorem dX4_isSetting_27 : decode cX4_isSetting 27 = .ok (.imul, 1) := by decide +kernel
theorem dX4_isSetting_28 : decode cX4_isSetting 28 = .ok (.iaload, 1) := by decide +kernel
theorem dX4_isSetting_29 : decode cX4_isSetting 29 = .ok (.if_icmp .ge 36, 3) := by decide +kernel
theorem dX4_isSetting_32 : decode cX4_isSetting 32 = .ok (.iload_n 3, 1) := by decide +kernel
theorem dX4_isSetting_33 : decode cX4_isSetting 33 = .ok (.aload_n 0, 1) := by decide +kernel
theorem dX4_isSetting_34 : decode cX4_isSetting 34 = .ok (.getfield 7, 3) := by decide +kernel
theorem dX4_isSetting_37 : decode cX4_isSetting 37 = .ok (.iconst 3, 1) := by decide +kernel
theorem dX4_isSetting_38 : decode cX4_isSetting 38 = .ok (.iload_n 1, 1) := by decide +kernel
theorem dX4_isSetting_39 : decode cX4_isSetting 39 = .ok (.imul, 1) := by decide +kernel
theorem dX4_isSetting_40 : decode cX4_isSetting 40 = .ok (.iconst 1, 1) := by decide +kernel
theorem dX4_isSetting_41 : decode cX4_isSetting 41 = .ok (.iadd, 1) := by decide +kernel
theorem dX4_isSetting_42 : decode cX4_isSetting 42 = .ok (.iaload, 1) := by decide +kernel
theorem dX4_isSetting_43 : decode cX4_isSetting 43 = .ok (.if_icmp .ge 22, 3) := by decide +kernel
theorem dX4_isSetting_46 : decode cX4_isSetting 46 = .ok (.iload 4, 2) := by decide +kernel
theorem dX4_isSetting_48 : decode cX4_isSetting 48 = .ok (.aload_n 0, 1) := by decide +kernel
theorem dX4_isSetting_49 : decode cX4_isSetting 49 = .ok (.getfield 7, 3) := by decide +kernel
theorem dX4_isSetting_52 : decode cX4_isSetting 52 = .ok (.iconst 3, 1) := by decide +kernel
theorem dX4_isSetting_53 : decode cX4_isSetting 53 = .ok (.iload_n 1, 1) := by decide +kernel
theorem dX4_isSetting_54 : decode cX4_isSetting 54 = .ok (.imul, 1) := by decide +kernel
theorem dX4_isSetting_55 : decode cX4_isSetting 55 = .ok (.iconst 2, 1) := by decide +kernel
theorem dX4_isSetting_56 : decode cX4_isSetting 56 = .ok (.iadd, 1) := by decide +kernel
theorem dX4_isSetting_57 : decode cX4_isSetting 57 = .ok (.iaload, 1) := by decide +kernel
theorem dX4_isSetting_58 : decode cX4_isSetting 58 = .ok (.if_icmp .ge 7, 3) := by decide +kernel
theorem dX4_isSetting_61 : decode cX4_isSetting 61 = .ok (.iconst 1, 1) := by decide +kernel
theorem dX4_isSetting_62 : decode cX4_isSetting 62 = .ok (.goto 4, 3) := by decide +kernel
theorem dX4_isSetting_65 : decode cX4_isSetting 65 = .ok (.iconst 0, 1) := by decide +kernel
theorem dX4_isSetting_66 : decode cX4_isSetting 66 = .ok (.ireturn, 1) := by decide +kernel
set_option maxRecDepth 20000 in
theorem ggX4_weight_X4_isSetting : GoodIn wsX4_weight wsX4_isSetting := goodIn_r _ [7, 8, 9, 10, 6, 11, 12, 13, 14, 15, 16, 17, 18, 19, 20, 21, 22, 23, 24, 25, 26, 27, 28, 29] (by decide +kernel) (by decide +kernel)
set_option maxRecDepth 20000 in
theorem gX4_weight_X4_isSetting : GoodIn wsX4_weight (wsV RX4 58 RX4 yX4_isSetting wsX4_isSetting) := goodIn_app (goodIn_of _ (by decide +kernel)) ggX4_weight_X4_isSetting
set_option maxRecDepth 20000 in
theorem ggX4_weight_X4_isIn : GoodIn wsX4_weight wsX4_isIn := goodIn_r _ [14] (by decide +kernel) (by decide +kernel)
set_option maxRecDepth 20000 in
theorem gX4_weight_X4_isIn : GoodIn wsX4_weight (va_wsS RX4 50 yX4_isIn wsX4_isIn) := goodIn_app (goodIn_of _ (by decide +kernel)) ggX4_weight_X4_isIn
theorem dX4_weight_0 : decode cX4_weight 0 = .ok (.aload_n 0, 1) := by decide +kernel
theorem dX4_weight_1 : decode cX4_weight 1 = .ok (.iload_n 1, 1) := by decide +kernel
theorem dX4_weight_2 : decode cX4_weight 2 = .ok (.iload_n 2, 1) := by decide +kernel
theorem dX4_weight_3 : decode cX4_weight 3 = .ok (.iload_n 3, 1) := by decide +kernel
theorem dX4_weight_4 : decode cX4_weight 4 = .ok (.iload 4, 2) := by decide +kernel
theorem dX4_weight_6 : decode cX4_weight 6 = .ok (.invokevirtual 58, 3) := by decide +kernel
theorem dX4_weight_9 : decode cX4_weight 9 = .ok (.ifCond .eq 14, 3) := by decide +kernel
theorem dX4_weight_12 : decode cX4_weight 12 = .ok (.iload 5, 2) := by decide +kernel
theorem dX4_weight_14 : decode cX4_weight 14 = .ok (.iconst 0, 1) := by decide +kernel
theorem dX4_weight_15 : decode cX4_weight 15 = .ok (.bipush 16, 2) := by decide +kernel
theorem dX4_weight_17 : decode cX4_weight 17 = .ok (.invokestatic 50, 3) := by decide +kernel
theorem dX4_weight_20 : decode cX4_weight 20 = .ok (.ifCond .ne 5, 3) := by decide +kernel
theorem dX4_weight_23 : decode cX4_weight 23 = .ok (.iconst 0, 1) := by decide +kernel
theorem dX4_weight_24 : decode cX4_weight 24 = .ok (.ireturn, 1) := by decide +kernel
theorem dX4_weight_25 : decode cX4_weight 25 = .ok (.bipush 27, 2) := by decide +kernel
theorem dX4_weight_27 : decode cX4_weight 27 = .ok (.iload_n 1, 1) := by decide +kernel
theorem dX4_weight_28 : decode cX4_weight 28 = .ok (.imul, 1) := by decide +kernel
theorem dX4_weight_29 : decode cX4_weight 29 = .ok (.iload_n 2, 1) := by decide +kernel
theorem dX4_weight_30 : decode cX4_weight 30 = .ok (.iadd, 1) := by decide +kernel
theorem dX4_weight_31 : decode cX4_weight 31 = .ok (.iconst 3, 1) := by decide +kernel
theorem dX4_weight_32 : decode cX4_weight 32 = .ok (.iload_n 3, 1) := by decide +kernel
theorem dX4_weight_33 : decode cX4_weight 33 = .ok (.imul, 1) := by decide +kernel
theorem dX4_weight_34 : decode cX4_weight 34 = .ok (.iadd, 1) := by decide +kernel
theorem dX4_weight_35 : decode cX4_weight 35 = .ok (.bipush 9, 2) := by decide +kernel
theorem dX4_weight_37 : decode cX4_weight 37 = .ok (.iload 4, 2) := by decide +kernel
theorem dX4_weight_39 : decode cX4_weight 39 = .ok (.imul, 1) := by decide +kernel
theorem dX4_weight_40 : decode cX4_weight 40 = .ok (.iadd, 1) := by decide +kernel
theorem dX4_weight_41 : decode cX4_weight 41 = .ok (.istore 6, 2) := by decide +kernel
theorem dX4_weight_43 : decode cX4_weight 43 = .ok (.aload_n 0, 1) := by decide +kernel
theorem dX4_weight_44 : decode cX4_weight 44 = .ok (.getfield 16, 3) := by decide +kernel
theorem dX4_weight_47 : decode cX4_weight 47 = .ok (.iload_n 1, 1) := by decide +kernel
theorem dX4_weight_48 : decode cX4_weight 48 = .ok (.iaload, 1) := by decide +kernel
theorem dX4_weight_49 : decode cX4_weight 49 = .ok (.aload_n 0, 1) := by decide +kernel
theorem dX4_weight_50 : decode cX4_weight 50 = .ok (.getfield 13, 3) := by decide +kernel
theorem dX4_weight_53 : decode cX4_weight 53 = .ok (.iload 6, 2) := by decide +kernel
theorem dX4_weight_55 : decode cX4_weight 55 = .ok (.iaload, 1) := by decide +kernel
theorem dX4_weight_56 : decode cX4_weight 56 = .ok (.isub, 1) := by decide +kernel
theorem dX4_weight_57 : decode cX4_weight 57 = .ok (.iload 5, 2) := by decide +kernel
theorem dX4_weight_59 : decode cX4_weight 59 = .ok (.iadd, 1) := by decide +kernel
theorem dX4_weight_60 : decode cX4_weight 60 = .ok (.istore 7, 2) := by decide +kernel
theorem dX4_weight_62 : decode cX4_weight 62 = .ok (.iload 7, 2) := by decide +kernel
theorem dX4_weight_64 : decode cX4_weight 64 = .ok (.bipush 16, 2) := by decide +kernel
theorem dX4_weight_66 : decode cX4_weight 66 = .ok (.if_icmp .le 5, 3) := by decide +kernel
theorem dX4_weight_69 : decode cX4_weight 69 = .ok (.iconst 0, 1) := by decide +kernel
theorem dX4_weight_70 : decode cX4_weight 70 = .ok (.ireturn, 1) := by decide +kernel
theorem dX4_weight_71 : decode cX4_weight 71 = .ok (.aload_n 0, 1) := by decide +kernel
theorem dX4_weight_72 : decode cX4_weight 72 = .ok (.getfield 13, 3) := by decide +kernel
theorem dX4_weight_75 : decode cX4_weight 75 = .ok (.iload 6, 2) := by decide +kernel
theorem dX4_weight_77 : decode cX4_weight 77 = .ok (.iload 5, 2) := by decide +kernel
theorem dX4_weight_79 : decode cX4_weight 79 = .ok (.iastore, 1) := by decide +kernel
theorem dX4_weight_80 : decode cX4_weight 80 = .ok (.aload_n 0, 1) := by decide +kernel
theorem dX4_weight_81 : decode cX4_weight 81 = .ok (.getfield 16, 3) := by decide +kernel
theorem dX4_weight_84 : decode cX4_weight 84 = .ok (.iload_n 1, 1) := by decide +kernel
theorem dX4_weight_85 : decode cX4_weight 85 = .ok (.iload 7, 2) := by decide +kernel
theorem dX4_weight_87 : decode cX4_weight 87 = .ok (.iastore, 1) := by decide +kernel
theorem dX4_weight_88 : decode cX4_weight 88 = .ok (.iconst 1, 1) := by decide +kernel
theorem dX4_weight_89 : decode cX4_weight 89 = .ok (.ireturn, 1) := by decide +kernel
set_option maxRecDepth 20000 in
theorem ggX4_told_X4_isPlace : GoodIn wsX4_told wsX4_isPlace := goodIn_r _ [7, 8, 9, 6, 10] (by decide +kernel) (by decide +kernel)
set_option maxRecDepth 20000 in
theorem gX4_told_X4_isPlace : GoodIn wsX4_told (va_wsS RX4 54 yX4_isPlace wsX4_isPlace) := goodIn_app (goodIn_of _ (by decide +kernel)) ggX4_told_X4_isPlace
set_option maxRecDepth 20000 in
theorem ggX4_told_X4_isIn : GoodIn wsX4_told wsX4_isIn := goodIn_r _ [10] (by decide +kernel) (by decide +kernel)
set_option maxRecDepth 20000 in
theorem gX4_told_X4_isIn : GoodIn wsX4_told (va_wsS RX4 50 yX4_isIn wsX4_isIn) := goodIn_app (goodIn_of _ (by decide +kernel)) ggX4_told_X4_isIn
set_option maxRecDepth 20000 in
theorem ggX4_told_X4_isSetting : GoodIn wsX4_told wsX4_isSetting := goodIn_r _ [14, 2, 4, 5, 6, 7, 8, 9, 10, 15, 16, 17, 18, 19, 20, 21, 22, 23, 24, 25, 26, 27, 28, 29] (by decide +kernel) (by decide +kernel)
set_option maxRecDepth 20000 in
theorem gX4_told_X4_isSetting : GoodIn wsX4_told (wsV RX4 58 RX4 yX4_isSetting wsX4_isSetting) := goodIn_app (goodIn_of _ (by decide +kernel)) ggX4_told_X4_isSetting
theorem dX4_told_0 : decode cX4_told 0 = .ok (.iload_n 1, 1) := by decide +kernel
theorem dX4_told_1 : decode cX4_told 1 = .ok (.invokestatic 54, 3) := by decide +kernel
theorem dX4_told_4 : decode cX4_told 4 = .ok (.ifCond .ne 5, 3) := by decide +kernel
theorem dX4_told_7 : decode cX4_told 7 = .ok (.iconst (-1), 1) := by decide +kernel
theorem dX4_told_8 : decode cX4_told 8 = .ok (.ireturn, 1) := by decide +kernel
theorem dX4_told_9 : decode cX4_told 9 = .ok (.iload_n 2, 1) := by decide +kernel
theorem dX4_told_10 : decode cX4_told 10 = .ok (.ifCond .ne 18, 3) := by decide +kernel
theorem dX4_told_13 : decode cX4_told 13 = .ok (.aload_n 0, 1) := by decide +kernel
theorem dX4_told_14 : decode cX4_told 14 = .ok (.getfield 16, 3) := by decide +kernel
theorem dX4_told_17 : decode cX4_told 17 = .ok (.iload_n 1, 1) := by decide +kernel
theorem dX4_told_18 : decode cX4_told 18 = .ok (.iaload, 1) := by decide +kernel
theorem dX4_told_19 : decode cX4_told 19 = .ok (.ifCond .le 7, 3) := by decide +kernel
theorem dX4_told_22 : decode cX4_told 22 = .ok (.iconst 1, 1) := by decide +kernel
theorem dX4_told_23 : decode cX4_told 23 = .ok (.goto 4, 3) := by decide +kernel
theorem dX4_told_26 : decode cX4_told 26 = .ok (.iconst 0, 1) := by decide +kernel
theorem dX4_told_27 : decode cX4_told 27 = .ok (.ireturn, 1) := by decide +kernel
theorem dX4_told_28 : decode cX4_told 28 = .ok (.iload_n 2, 1) := by decide +kernel
theorem dX4_told_29 : decode cX4_told 29 = .ok (.iconst 1, 1) := by decide +kernel
theorem dX4_told_30 : decode cX4_told 30 = .ok (.iconst 3, 1) := by decide +kernel
theorem dX4_told_31 : decode cX4_told 31 = .ok (.invokestatic 50, 3) := by decide +kernel
theorem dX4_told_34 : decode cX4_told 34 = .ok (.ifCond .eq 16, 3) := by decide +kernel
theorem dX4_told_37 : decode cX4_told 37 = .ok (.aload_n 0, 1) := by decide +kernel
theorem dX4_told_38 : decode cX4_told 38 = .ok (.getfield 7, 3) := by decide +kernel
theorem dX4_told_41 : decode cX4_told 41 = .ok (.iconst 3, 1) := by decide +kernel
theorem dX4_told_42 : decode cX4_told 42 = .ok (.iload_n 1, 1) := by decide +kernel
theorem dX4_told_43 : decode cX4_told 43 = .ok (.imul, 1) := by decide +kernel
theorem dX4_told_44 : decode cX4_told 44 = .ok (.iload_n 2, 1) := by decide +kernel
theorem dX4_told_45 : decode cX4_told 45 = .ok (.iadd, 1) := by decide +kernel
theorem dX4_told_46 : decode cX4_told 46 = .ok (.iconst 1, 1) := by decide +kernel
theorem dX4_told_47 : decode cX4_told 47 = .ok (.isub, 1) := by decide +kernel
theorem dX4_told_48 : decode cX4_told 48 = .ok (.iaload, 1) := by decide +kernel
theorem dX4_told_49 : decode cX4_told 49 = .ok (.ireturn, 1) := by decide +kernel
theorem dX4_told_50 : decode cX4_told 50 = .ok (.iload_n 2, 1) := by decide +kernel
theorem dX4_told_51 : decode cX4_told 51 = .ok (.iconst 4, 1) := by decide +kernel
theorem dX4_told_52 : decode cX4_told 52 = .ok (.if_icmp .ne 10, 3) := by decide +kernel
theorem dX4_told_55 : decode cX4_told 55 = .ok (.aload_n 0, 1) := by decide +kernel
theorem dX4_told_56 : decode cX4_told 56 = .ok (.getfield 16, 3) := by decide +kernel
theorem dX4_told_59 : decode cX4_told 59 = .ok (.iload_n 1, 1) := by decide +kernel
theorem dX4_told_60 : decode cX4_told 60 = .ok (.iaload, 1) := by decide +kernel
theorem dX4_told_61 : decode cX4_told 61 = .ok (.ireturn, 1) := by decide +kernel
theorem dX4_told_62 : decode cX4_told 62 = .ok (.iload_n 2, 1) := by decide +kernel
theorem dX4_told_63 : decode cX4_told 63 = .ok (.bipush 10, 2) := by decide +kernel
theorem dX4_told_65 : decode cX4_told 65 = .ok (.bipush 36, 2) := by decide +kernel
theorem dX4_told_67 : decode cX4_told 67 = .ok (.invokestatic 50, 3) := by decide +kernel
theorem dX4_told_70 : decode cX4_told 70 = .ok (.ifCond .ne 5, 3) := by decide +kernel
theorem dX4_told_73 : decode cX4_told 73 = .ok (.iconst (-1), 1) := by decide +kernel
theorem dX4_told_74 : decode cX4_told 74 = .ok (.ireturn, 1) := by decide +kernel
theorem dX4_told_75 : decode cX4_told 75 = .ok (.iload_n 2, 1) := by decide +kernel
theorem dX4_told_76 : decode cX4_told 76 = .ok (.bipush 10, 2) := by decide +kernel
theorem dX4_told_78 : decode cX4_told 78 = .ok (.isub, 1) := by decide +kernel
end
section
theorem dX4_told_79 : decode cX4_told 79 = .ok (.istore_n 3, 1) := by decide +kernel
theorem dX4_told_80 : decode cX4_told 80 = .ok (.aload_n 0, 1) := by decide +kernel
theorem dX4_told_81 : decode cX4_told 81 = .ok (.iload_n 1, 1) := by decide +kernel
theorem dX4_told_82 : decode cX4_told 82 = .ok (.iload_n 3, 1) := by decide +kernel
theorem dX4_told_83 : decode cX4_told 83 = .ok (.iconst 3, 1) := by decide +kernel
theorem dX4_told_84 : decode cX4_told 84 = .ok (.irem, 1) := by decide +kernel
theorem dX4_told_85 : decode cX4_told 85 = .ok (.iload_n 3, 1) := by decide +kernel
theorem dX4_told_86 : decode cX4_told 86 = .ok (.iconst 3, 1) := by decide +kernel
theorem dX4_told_87 : decode cX4_told 87 = .ok (.idiv, 1) := by decide +kernel
theorem dX4_told_88 : decode cX4_told 88 = .ok (.iconst 3, 1) := by decide +kernel
theorem dX4_told_89 : decode cX4_told 89 = .ok (.irem, 1) := by decide +kernel
theorem dX4_told_90 : decode cX4_told 90 = .ok (.iload_n 3, 1) := by decide +kernel
theorem dX4_told_91 : decode cX4_told 91 = .ok (.bipush 9, 2) := by decide +kernel
theorem dX4_told_93 : decode cX4_told 93 = .ok (.idiv, 1) := by decide +kernel
theorem dX4_told_94 : decode cX4_told 94 = .ok (.invokevirtual 58, 3) := by decide +kernel
theorem dX4_told_97 : decode cX4_told 97 = .ok (.ifCond .eq 17, 3) := by decide +kernel
theorem dX4_told_100 : decode cX4_told 100 = .ok (.aload_n 0, 1) := by decide +kernel
theorem dX4_told_101 : decode cX4_told 101 = .ok (.getfield 13, 3) := by decide +kernel
theorem dX4_told_104 : decode cX4_told 104 = .ok (.bipush 27, 2) := by decide +kernel
theorem dX4_told_106 : decode cX4_told 106 = .ok (.iload_n 1, 1) := by decide +kernel
theorem dX4_told_107 : decode cX4_told 107 = .ok (.imul, 1) := by decide +kernel
theorem dX4_told_108 : decode cX4_told 108 = .ok (.iload_n 3, 1) := by decide +kernel
theorem dX4_told_109 : decode cX4_told 109 = .ok (.iadd, 1) := by decide +kernel
theorem dX4_told_110 : decode cX4_told 110 = .ok (.iaload, 1) := by decide +kernel
theorem dX4_told_111 : decode cX4_told 111 = .ok (.goto 4, 3) := by decide +kernel
theorem dX4_told_114 : decode cX4_told 114 = .ok (.iconst (-1), 1) := by decide +kernel
theorem dX4_told_115 : decode cX4_told 115 = .ok (.ireturn, 1) := by decide +kernel
set_option maxRecDepth 20000 in
theorem ggX4_mix_X4_isMade : GoodIn wsX4_mix wsX4_isMade := goodIn_r _ [8, 1, 9, 10, 7, 11, 12, 13, 14, 15, 16, 17, 18, 19, 20, 21, 22, 23, 24, 25, 26, 27, 28, 29] (by decide +kernel) (by decide +kernel)
set_option maxRecDepth 20000 in
theorem gX4_mix_X4_isMade : GoodIn wsX4_mix (wsV RX4 62 RX4 yX4_isMade wsX4_isMade) := goodIn_app (goodIn_of _ (by decide +kernel)) ggX4_mix_X4_isMade
set_option maxRecDepth 20000 in
theorem ggX4_mix_X4_isPlace : GoodIn wsX4_mix wsX4_isPlace := goodIn_r _ [11, 12, 13, 7, 14] (by decide +kernel) (by decide +kernel)
set_option maxRecDepth 20000 in
theorem gX4_mix_X4_isPlace : GoodIn wsX4_mix (va_wsS RX4 54 yX4_isPlace wsX4_isPlace) := goodIn_app (goodIn_of _ (by decide +kernel)) ggX4_mix_X4_isPlace
theorem dX4_mix_0 : decode cX4_mix 0 = .ok (.aload_n 0, 1) := by decide +kernel
theorem dX4_mix_1 : decode cX4_mix 1 = .ok (.iload_n 1, 1) := by decide +kernel
theorem dX4_mix_2 : decode cX4_mix 2 = .ok (.invokevirtual 62, 3) := by decide +kernel
theorem dX4_mix_5 : decode cX4_mix 5 = .ok (.ifCond .eq 36, 3) := by decide +kernel
theorem dX4_mix_8 : decode cX4_mix 8 = .ok (.aload_n 0, 1) := by decide +kernel
theorem dX4_mix_9 : decode cX4_mix 9 = .ok (.iload_n 2, 1) := by decide +kernel
theorem dX4_mix_10 : decode cX4_mix 10 = .ok (.invokevirtual 62, 3) := by decide +kernel
theorem dX4_mix_13 : decode cX4_mix 13 = .ok (.ifCond .eq 28, 3) := by decide +kernel
theorem dX4_mix_16 : decode cX4_mix 16 = .ok (.iload_n 3, 1) := by decide +kernel
theorem dX4_mix_17 : decode cX4_mix 17 = .ok (.invokestatic 54, 3) := by decide +kernel
theorem dX4_mix_20 : decode cX4_mix 20 = .ok (.ifCond .eq 21, 3) := by decide +kernel
theorem dX4_mix_23 : decode cX4_mix 23 = .ok (.aload_n 0, 1) := by decide +kernel
theorem dX4_mix_24 : decode cX4_mix 24 = .ok (.getfield 16, 3) := by decide +kernel
theorem dX4_mix_27 : decode cX4_mix 27 = .ok (.iload_n 1, 1) := by decide +kernel
theorem dX4_mix_28 : decode cX4_mix 28 = .ok (.iaload, 1) := by decide +kernel
theorem dX4_mix_29 : decode cX4_mix 29 = .ok (.aload_n 0, 1) := by decide +kernel
theorem dX4_mix_30 : decode cX4_mix 30 = .ok (.getfield 16, 3) := by decide +kernel
theorem dX4_mix_33 : decode cX4_mix 33 = .ok (.iload_n 2, 1) := by decide +kernel
theorem dX4_mix_34 : decode cX4_mix 34 = .ok (.iaload, 1) := by decide +kernel
theorem dX4_mix_35 : decode cX4_mix 35 = .ok (.iadd, 1) := by decide +kernel
theorem dX4_mix_36 : decode cX4_mix 36 = .ok (.bipush 16, 2) := by decide +kernel
theorem dX4_mix_38 : decode cX4_mix 38 = .ok (.if_icmp .le 5, 3) := by decide +kernel
theorem dX4_mix_41 : decode cX4_mix 41 = .ok (.iconst 0, 1) := by decide +kernel
theorem dX4_mix_42 : decode cX4_mix 42 = .ok (.ireturn, 1) := by decide +kernel
theorem dX4_mix_43 : decode cX4_mix 43 = .ok (.iconst 0, 1) := by decide +kernel
theorem dX4_mix_44 : decode cX4_mix 44 = .ok (.istore 4, 2) := by decide +kernel
theorem dX4_mix_46 : decode cX4_mix 46 = .ok (.iload 4, 2) := by decide +kernel
theorem dX4_mix_48 : decode cX4_mix 48 = .ok (.iconst 3, 1) := by decide +kernel
theorem dX4_mix_49 : decode cX4_mix 49 = .ok (.if_icmp .ge 36, 3) := by decide +kernel
theorem dX4_mix_52 : decode cX4_mix 52 = .ok (.aload_n 0, 1) := by decide +kernel
theorem dX4_mix_53 : decode cX4_mix 53 = .ok (.getfield 7, 3) := by decide +kernel
theorem dX4_mix_56 : decode cX4_mix 56 = .ok (.iconst 3, 1) := by decide +kernel
theorem dX4_mix_57 : decode cX4_mix 57 = .ok (.iload_n 1, 1) := by decide +kernel
theorem dX4_mix_58 : decode cX4_mix 58 = .ok (.imul, 1) := by decide +kernel
theorem dX4_mix_59 : decode cX4_mix 59 = .ok (.iload 4, 2) := by decide +kernel
theorem dX4_mix_61 : decode cX4_mix 61 = .ok (.iadd, 1) := by decide +kernel
theorem dX4_mix_62 : decode cX4_mix 62 = .ok (.iaload, 1) := by decide +kernel
theorem dX4_mix_63 : decode cX4_mix 63 = .ok (.aload_n 0, 1) := by decide +kernel
theorem dX4_mix_64 : decode cX4_mix 64 = .ok (.getfield 7, 3) := by decide +kernel
theorem dX4_mix_67 : decode cX4_mix 67 = .ok (.iconst 3, 1) := by decide +kernel
theorem dX4_mix_68 : decode cX4_mix 68 = .ok (.iload_n 2, 1) := by decide +kernel
theorem dX4_mix_69 : decode cX4_mix 69 = .ok (.imul, 1) := by decide +kernel
theorem dX4_mix_70 : decode cX4_mix 70 = .ok (.iload 4, 2) := by decide +kernel
theorem dX4_mix_72 : decode cX4_mix 72 = .ok (.iadd, 1) := by decide +kernel
theorem dX4_mix_73 : decode cX4_mix 73 = .ok (.iaload, 1) := by decide +kernel
theorem dX4_mix_74 : decode cX4_mix 74 = .ok (.if_icmp .eq 5, 3) := by decide +kernel
theorem dX4_mix_77 : decode cX4_mix 77 = .ok (.iconst 0, 1) := by decide +kernel
theorem dX4_mix_78 : decode cX4_mix 78 = .ok (.ireturn, 1) := by decide +kernel
theorem dX4_mix_79 : decode cX4_mix 79 = .ok (.iinc 4 1, 3) := by decide +kernel
theorem dX4_mix_82 : decode cX4_mix 82 = .ok (.goto (-36), 3) := by decide +kernel
theorem dX4_mix_85 : decode cX4_mix 85 = .ok (.aload_n 0, 1) := by decide +kernel
theorem dX4_mix_86 : decode cX4_mix 86 = .ok (.getfield 16, 3) := by decide +kernel
theorem dX4_mix_89 : decode cX4_mix 89 = .ok (.iload_n 1, 1) := by decide +kernel
theorem dX4_mix_90 : decode cX4_mix 90 = .ok (.iaload, 1) := by decide +kernel
theorem dX4_mix_91 : decode cX4_mix 91 = .ok (.aload_n 0, 1) := by decide +kernel
theorem dX4_mix_92 : decode cX4_mix 92 = .ok (.getfield 16, 3) := by decide +kernel
theorem dX4_mix_95 : decode cX4_mix 95 = .ok (.iload_n 2, 1) := by decide +kernel
theorem dX4_mix_96 : decode cX4_mix 96 = .ok (.iaload, 1) := by decide +kernel
theorem dX4_mix_97 : decode cX4_mix 97 = .ok (.iadd, 1) := by decide +kernel
theorem dX4_mix_98 : decode cX4_mix 98 = .ok (.istore 4, 2) := by decide +kernel
theorem dX4_mix_100 : decode cX4_mix 100 = .ok (.iconst 0, 1) := by decide +kernel
theorem dX4_mix_101 : decode cX4_mix 101 = .ok (.istore 5, 2) := by decide +kernel
theorem dX4_mix_103 : decode cX4_mix 103 = .ok (.iload 5, 2) := by decide +kernel
theorem dX4_mix_105 : decode cX4_mix 105 = .ok (.bipush 27, 2) := by decide +kernel
theorem dX4_mix_107 : decode cX4_mix 107 = .ok (.if_icmp .ge 46, 3) := by decide +kernel
theorem dX4_mix_110 : decode cX4_mix 110 = .ok (.aload_n 0, 1) := by decide +kernel
theorem dX4_mix_111 : decode cX4_mix 111 = .ok (.getfield 13, 3) := by decide +kernel
theorem dX4_mix_114 : decode cX4_mix 114 = .ok (.bipush 27, 2) := by decide +kernel
theorem dX4_mix_116 : decode cX4_mix 116 = .ok (.iload_n 3, 1) := by decide +kernel
theorem dX4_mix_117 : decode cX4_mix 117 = .ok (.imul, 1) := by decide +kernel
theorem dX4_mix_118 : decode cX4_mix 118 = .ok (.iload 5, 2) := by decide +kernel
theorem dX4_mix_120 : decode cX4_mix 120 = .ok (.iadd, 1) := by decide +kernel
theorem dX4_mix_121 : decode cX4_mix 121 = .ok (.aload_n 0, 1) := by decide +kernel
theorem dX4_mix_122 : decode cX4_mix 122 = .ok (.getfield 13, 3) := by decide +kernel
theorem dX4_mix_125 : decode cX4_mix 125 = .ok (.bipush 27, 2) := by decide +kernel
theorem dX4_mix_127 : decode cX4_mix 127 = .ok (.iload_n 1, 1) := by decide +kernel
theorem dX4_mix_128 : decode cX4_mix 128 = .ok (.imul, 1) := by decide +kernel
theorem dX4_mix_129 : decode cX4_mix 129 = .ok (.iload 5, 2) := by decide +kernel
theorem dX4_mix_131 : decode cX4_mix 131 = .ok (.iadd, 1) := by decide +kernel
theorem dX4_mix_132 : decode cX4_mix 132 = .ok (.iaload, 1) := by decide +kernel
theorem dX4_mix_133 : decode cX4_mix 133 = .ok (.aload_n 0, 1) := by decide +kernel
theorem dX4_mix_134 : decode cX4_mix 134 = .ok (.getfield 13, 3) := by decide +kernel
theorem dX4_mix_137 : decode cX4_mix 137 = .ok (.bipush 27, 2) := by decide +kernel
theorem dX4_mix_139 : decode cX4_mix 139 = .ok (.iload_n 2, 1) := by decide +kernel
theorem dX4_mix_140 : decode cX4_mix 140 = .ok (.imul, 1) := by decide +kernel
theorem dX4_mix_141 : decode cX4_mix 141 = .ok (.iload 5, 2) := by decide +kernel
theorem dX4_mix_143 : decode cX4_mix 143 = .ok (.iadd, 1) := by decide +kernel
theorem dX4_mix_144 : decode cX4_mix 144 = .ok (.iaload, 1) := by decide +kernel
theorem dX4_mix_145 : decode cX4_mix 145 = .ok (.iadd, 1) := by decide +kernel
theorem dX4_mix_146 : decode cX4_mix 146 = .ok (.iastore, 1) := by decide +kernel
theorem dX4_mix_147 : decode cX4_mix 147 = .ok (.iinc 5 1, 3) := by decide +kernel
theorem dX4_mix_150 : decode cX4_mix 150 = .ok (.goto (-47), 3) := by decide +kernel
theorem dX4_mix_153 : decode cX4_mix 153 = .ok (.iconst 0, 1) := by decide +kernel
theorem dX4_mix_154 : decode cX4_mix 154 = .ok (.istore 5, 2) := by decide +kernel
theorem dX4_mix_156 : decode cX4_mix 156 = .ok (.iload 5, 2) := by decide +kernel
theorem dX4_mix_158 : decode cX4_mix 158 = .ok (.iconst 3, 1) := by decide +kernel
theorem dX4_mix_159 : decode cX4_mix 159 = .ok (.if_icmp .ge 31, 3) := by decide +kernel
theorem dX4_mix_162 : decode cX4_mix 162 = .ok (.aload_n 0, 1) := by decide +kernel
theorem dX4_mix_163 : decode cX4_mix 163 = .ok (.getfield 7, 3) := by decide +kernel
theorem dX4_mix_166 : decode cX4_mix 166 = .ok (.iconst 3, 1) := by decide +kernel
theorem dX4_mix_167 : decode cX4_mix 167 = .ok (.iload_n 3, 1) := by decide +kernel
theorem dX4_mix_168 : decode cX4_mix 168 = .ok (.imul, 1) := by decide +kernel
theorem dX4_mix_169 : decode cX4_mix 169 = .ok (.iload 5, 2) := by decide +kernel
theorem dX4_mix_171 : decode cX4_mix 171 = .ok (.iadd, 1) := by decide +kernel
theorem dX4_mix_172 : decode cX4_mix 172 = .ok (.aload_n 0, 1) := by decide +kernel
theorem dX4_mix_173 : decode cX4_mix 173 = .ok (.getfield 7, 3) := by decide +kernel
theorem dX4_mix_176 : decode cX4_mix 176 = .ok (.iconst 3, 1) := by decide +kernel
theorem dX4_mix_177 : decode cX4_mix 177 = .ok (.iload_n 1, 1) := by decide +kernel
theorem dX4_mix_178 : decode cX4_mix 178 = .ok (.imul, 1) := by decide +kernel
theorem dX4_mix_179 : decode cX4_mix 179 = .ok (.iload 5, 2) := by decide +kernel
theorem dX4_mix_181 : decode cX4_mix 181 = .ok (.iadd, 1) := by decide +kernel
theorem dX4_mix_182 : decode cX4_mix 182 = .ok (.iaload, 1) := by decide +kernel
theorem dX4_mix_183 : decode cX4_mix 183 = .ok (.iastore, 1) := by decide +kernel
theorem dX4_mix_184 : decode cX4_mix 184 = .ok (.iinc 5 1, 3) := by decide +kernel
theorem dX4_mix_187 : decode cX4_mix 187 = .ok (.goto (-31), 3) := by decide +kernel
theorem dX4_mix_190 : decode cX4_mix 190 = .ok (.aload_n 0, 1) := by decide +kernel
theorem dX4_mix_191 : decode cX4_mix 191 = .ok (.getfield 16, 3) := by decide +kernel
theorem dX4_mix_194 : decode cX4_mix 194 = .ok (.iload_n 3, 1) := by decide +kernel
theorem dX4_mix_195 : decode cX4_mix 195 = .ok (.iload 4, 2) := by decide +kernel
theorem dX4_mix_197 : decode cX4_mix 197 = .ok (.iastore, 1) := by decide +kernel
theorem dX4_mix_198 : decode cX4_mix 198 = .ok (.iconst 1, 1) := by decide +kernel
theorem dX4_mix_199 : decode cX4_mix 199 = .ok (.ireturn, 1) := by decide +kernel
set_option maxRecDepth 20000 in
theorem ggX4_tell_X4_isMade : GoodIn wsX4_tell wsX4_isMade := goodIn_r _ [7, 8, 9, 10, 6, 11, 12, 13, 14, 15, 16, 17, 18, 19, 20, 21, 22, 23, 24, 25, 26, 27, 28, 29] (by decide +kernel) (by decide +kernel)
set_option maxRecDepth 20000 in
theorem gX4_tell_X4_isMade : GoodIn wsX4_tell (wsV RX4 62 RX4 yX4_isMade wsX4_isMade) := goodIn_app (goodIn_of _ (by decide +kernel)) ggX4_tell_X4_isMade
set_option maxRecDepth 20000 in
theorem ggX4_tell_X4_isIn : GoodIn wsX4_tell wsX4_isIn := goodIn_r _ [14] (by decide +kernel) (by decide +kernel)
set_option maxRecDepth 20000 in
theorem gX4_tell_X4_isIn : GoodIn wsX4_tell (va_wsS RX4 50 yX4_isIn wsX4_isIn) := goodIn_app (goodIn_of _ (by decide +kernel)) ggX4_tell_X4_isIn
theorem dX4_tell_0 : decode cX4_tell 0 = .ok (.aload_n 0, 1) := by decide +kernel
theorem dX4_tell_1 : decode cX4_tell 1 = .ok (.iload_n 1, 1) := by decide +kernel
theorem dX4_tell_2 : decode cX4_tell 2 = .ok (.invokevirtual 62, 3) := by decide +kernel
theorem dX4_tell_5 : decode cX4_tell 5 = .ok (.ifCond .eq 14, 3) := by decide +kernel
theorem dX4_tell_8 : decode cX4_tell 8 = .ok (.iload_n 2, 1) := by decide +kernel
theorem dX4_tell_9 : decode cX4_tell 9 = .ok (.iconst 0, 1) := by decide +kernel
theorem dX4_tell_10 : decode cX4_tell 10 = .ok (.sipush 19682, 3) := by decide +kernel
theorem dX4_tell_13 : decode cX4_tell 13 = .ok (.invokestatic 50, 3) := by decide +kernel
theorem dX4_tell_16 : decode cX4_tell 16 = .ok (.ifCond .ne 5, 3) := by decide +kernel
theorem dX4_tell_19 : decode cX4_tell 19 = .ok (.iconst 0, 1) := by decide +kernel
theorem dX4_tell_20 : decode cX4_tell 20 = .ok (.ireturn, 1) := by decide +kernel
theorem dX4_tell_21 : decode cX4_tell 21 = .ok (.iload_n 2, 1) := by decide +kernel
theorem dX4_tell_22 : decode cX4_tell 22 = .ok (.istore_n 3, 1) := by decide +kernel
theorem dX4_tell_23 : decode cX4_tell 23 = .ok (.iconst 0, 1) := by decide +kernel
theorem dX4_tell_24 : decode cX4_tell 24 = .ok (.istore 4, 2) := by decide +kernel
theorem dX4_tell_26 : decode cX4_tell 26 = .ok (.iload 4, 2) := by decide +kernel
theorem dX4_tell_28 : decode cX4_tell 28 = .ok (.bipush 9, 2) := by decide +kernel
theorem dX4_tell_30 : decode cX4_tell 30 = .ok (.if_icmp .ge 106, 3) := by decide +kernel
theorem dX4_tell_33 : decode cX4_tell 33 = .ok (.aload_n 0, 1) := by decide +kernel
theorem dX4_tell_34 : decode cX4_tell 34 = .ok (.getfield 13, 3) := by decide +kernel
theorem dX4_tell_37 : decode cX4_tell 37 = .ok (.bipush 27, 2) := by decide +kernel
theorem dX4_tell_39 : decode cX4_tell 39 = .ok (.iload_n 1, 1) := by decide +kernel
theorem dX4_tell_40 : decode cX4_tell 40 = .ok (.imul, 1) := by decide +kernel
theorem dX4_tell_41 : decode cX4_tell 41 = .ok (.iload 4, 2) := by decide +kernel
theorem dX4_tell_43 : decode cX4_tell 43 = .ok (.iadd, 1) := by decide +kernel
theorem dX4_tell_44 : decode cX4_tell 44 = .ok (.iaload, 1) := by decide +kernel
theorem dX4_tell_45 : decode cX4_tell 45 = .ok (.aload_n 0, 1) := by decide +kernel
theorem dX4_tell_46 : decode cX4_tell 46 = .ok (.getfield 13, 3) := by decide +kernel
theorem dX4_tell_49 : decode cX4_tell 49 = .ok (.bipush 27, 2) := by decide +kernel
theorem dX4_tell_51 : decode cX4_tell 51 = .ok (.iload_n 1, 1) := by decide +kernel
theorem dX4_tell_52 : decode cX4_tell 52 = .ok (.imul, 1) := by decide +kernel
theorem dX4_tell_53 : decode cX4_tell 53 = .ok (.bipush 9, 2) := by decide +kernel
theorem dX4_tell_55 : decode cX4_tell 55 = .ok (.iadd, 1) := by decide +kernel
theorem dX4_tell_56 : decode cX4_tell 56 = .ok (.iload 4, 2) := by decide +kernel
theorem dX4_tell_58 : decode cX4_tell 58 = .ok (.iadd, 1) := by decide +kernel
theorem dX4_tell_59 : decode cX4_tell 59 = .ok (.iaload, 1) := by decide +kernel
theorem dX4_tell_60 : decode cX4_tell 60 = .ok (.iadd, 1) := by decide +kernel
theorem dX4_tell_61 : decode cX4_tell 61 = .ok (.aload_n 0, 1) := by decide +kernel
theorem dX4_tell_62 : decode cX4_tell 62 = .ok (.getfield 13, 3) := by decide +kernel
theorem dX4_tell_65 : decode cX4_tell 65 = .ok (.bipush 27, 2) := by decide +kernel
theorem dX4_tell_67 : decode cX4_tell 67 = .ok (.iload_n 1, 1) := by decide +kernel
theorem dX4_tell_68 : decode cX4_tell 68 = .ok (.imul, 1) := by decide +kernel
theorem dX4_tell_69 : decode cX4_tell 69 = .ok (.bipush 18, 2) := by decide +kernel
theorem dX4_tell_71 : decode cX4_tell 71 = .ok (.iadd, 1) := by decide +kernel
theorem dX4_tell_72 : decode cX4_tell 72 = .ok (.iload 4, 2) := by decide +kernel
theorem dX4_tell_74 : decode cX4_tell 74 = .ok (.iadd, 1) := by decide +kernel
theorem dX4_tell_75 : decode cX4_tell 75 = .ok (.iaload, 1) := by decide +kernel
theorem dX4_tell_76 : decode cX4_tell 76 = .ok (.iadd, 1) := by decide +kernel
theorem dX4_tell_77 : decode cX4_tell 77 = .ok (.istore 5, 2) := by decide +kernel
theorem dX4_tell_79 : decode cX4_tell 79 = .ok (.iconst 0, 1) := by decide +kernel
theorem dX4_tell_80 : decode cX4_tell 80 = .ok (.istore 6, 2) := by decide +kernel
theorem dX4_tell_82 : decode cX4_tell 82 = .ok (.iload 6, 2) := by decide +kernel
theorem dX4_tell_84 : decode cX4_tell 84 = .ok (.iconst 3, 1) := by decide +kernel
theorem dX4_tell_85 : decode cX4_tell 85 = .ok (.if_icmp .ge 41, 3) := by decide +kernel
theorem dX4_tell_88 : decode cX4_tell 88 = .ok (.aload_n 0, 1) := by decide +kernel
theorem dX4_tell_89 : decode cX4_tell 89 = .ok (.getfield 13, 3) := by decide +kernel
theorem dX4_tell_92 : decode cX4_tell 92 = .ok (.bipush 27, 2) := by decide +kernel
theorem dX4_tell_94 : decode cX4_tell 94 = .ok (.iload_n 1, 1) := by decide +kernel
theorem dX4_tell_95 : decode cX4_tell 95 = .ok (.imul, 1) := by decide +kernel
theorem dX4_tell_96 : decode cX4_tell 96 = .ok (.bipush 9, 2) := by decide +kernel
theorem dX4_tell_98 : decode cX4_tell 98 = .ok (.iload 6, 2) := by decide +kernel
theorem dX4_tell_100 : decode cX4_tell 100 = .ok (.imul, 1) := by decide +kernel
theorem dX4_tell_101 : decode cX4_tell 101 = .ok (.iadd, 1) := by decide +kernel
theorem dX4_tell_102 : decode cX4_tell 102 = .ok (.iload 4, 2) := by decide +kernel
theorem dX4_tell_104 : decode cX4_tell 104 = .ok (.iadd, 1) := by decide +kernel
theorem dX4_tell_105 : decode cX4_tell 105 = .ok (.iload 6, 2) := by decide +kernel
theorem dX4_tell_107 : decode cX4_tell 107 = .ok (.iload_n 3, 1) := by decide +kernel
theorem dX4_tell_108 : decode cX4_tell 108 = .ok (.iconst 3, 1) := by decide +kernel
theorem dX4_tell_109 : decode cX4_tell 109 = .ok (.irem, 1) := by decide +kernel
theorem dX4_tell_110 : decode cX4_tell 110 = .ok (.if_icmp .ne 8, 3) := by decide +kernel
theorem dX4_tell_113 : decode cX4_tell 113 = .ok (.iload 5, 2) := by decide +kernel
theorem dX4_tell_115 : decode cX4_tell 115 = .ok (.goto 4, 3) := by decide +kernel
theorem dX4_tell_118 : decode cX4_tell 118 = .ok (.iconst 0, 1) := by decide +kernel
theorem dX4_tell_119 : decode cX4_tell 119 = .ok (.iastore, 1) := by decide +kernel
theorem dX4_tell_120 : decode cX4_tell 120 = .ok (.iinc 6 1, 3) := by decide +kernel
theorem dX4_tell_123 : decode cX4_tell 123 = .ok (.goto (-41), 3) := by decide +kernel
theorem dX4_tell_126 : decode cX4_tell 126 = .ok (.iload_n 3, 1) := by decide +kernel
theorem dX4_tell_127 : decode cX4_tell 127 = .ok (.iconst 3, 1) := by decide +kernel
theorem dX4_tell_128 : decode cX4_tell 128 = .ok (.idiv, 1) := by decide +kernel
theorem dX4_tell_129 : decode cX4_tell 129 = .ok (.istore_n 3, 1) := by decide +kernel
theorem dX4_tell_130 : decode cX4_tell 130 = .ok (.iinc 4 1, 3) := by decide +kernel
theorem dX4_tell_133 : decode cX4_tell 133 = .ok (.goto (-107), 3) := by decide +kernel
theorem dX4_tell_136 : decode cX4_tell 136 = .ok (.aload_n 0, 1) := by decide +kernel
theorem dX4_tell_137 : decode cX4_tell 137 = .ok (.getfield 7, 3) := by decide +kernel
theorem dX4_tell_140 : decode cX4_tell 140 = .ok (.iconst 3, 1) := by decide +kernel
theorem dX4_tell_141 : decode cX4_tell 141 = .ok (.iload_n 1, 1) := by decide +kernel
theorem dX4_tell_142 : decode cX4_tell 142 = .ok (.imul, 1) := by decide +kernel
theorem dX4_tell_143 : decode cX4_tell 143 = .ok (.iconst 2, 1) := by decide +kernel
theorem dX4_tell_144 : decode cX4_tell 144 = .ok (.iadd, 1) := by decide +kernel
theorem dX4_tell_145 : decode cX4_tell 145 = .ok (.iconst 3, 1) := by decide +kernel
theorem dX4_tell_146 : decode cX4_tell 146 = .ok (.iastore, 1) := by decide +kernel
theorem dX4_tell_147 : decode cX4_tell 147 = .ok (.iconst 1, 1) := by decide +kernel
theorem dX4_tell_148 : decode cX4_tell 148 = .ok (.ireturn, 1) := by decide +kernel
set_option maxRecDepth 20000 in
theorem ggX4_law_X4_isLaw : GoodIn wsX4_law wsX4_isLaw := goodIn_r _ [5, 6, 7, 4, 8] (by decide +kernel) (by decide +kernel)
set_option maxRecDepth 20000 in
theorem gX4_law_X4_isLaw : GoodIn wsX4_law (va_wsS RX4 65 yX4_isLaw wsX4_isLaw) := goodIn_app (goodIn_of _ (by decide +kernel)) ggX4_law_X4_isLaw
set_option maxRecDepth 20000 in
theorem ggX4_law_X4_isIn : GoodIn wsX4_law wsX4_isIn := goodIn_r _ [8] (by decide +kernel) (by decide +kernel)
set_option maxRecDepth 20000 in
theorem gX4_law_X4_isIn : GoodIn wsX4_law (va_wsS RX4 50 yX4_isIn wsX4_isIn) := goodIn_app (goodIn_of _ (by decide +kernel)) ggX4_law_X4_isIn
theorem dX4_law_0 : decode cX4_law 0 = .ok (.iload_n 1, 1) := by decide +kernel
theorem dX4_law_1 : decode cX4_law 1 = .ok (.invokestatic 65, 3) := by decide +kernel
theorem dX4_law_4 : decode cX4_law 4 = .ok (.ifCond .eq 23, 3) := by decide +kernel
theorem dX4_law_7 : decode cX4_law 7 = .ok (.iload_n 2, 1) := by decide +kernel
theorem dX4_law_8 : decode cX4_law 8 = .ok (.iconst 1, 1) := by decide +kernel
theorem dX4_law_9 : decode cX4_law 9 = .ok (.bipush 7, 2) := by decide +kernel
theorem dX4_law_11 : decode cX4_law 11 = .ok (.invokestatic 50, 3) := by decide +kernel
theorem dX4_law_14 : decode cX4_law 14 = .ok (.ifCond .eq 13, 3) := by decide +kernel
theorem dX4_law_17 : decode cX4_law 17 = .ok (.iload_n 3, 1) := by decide +kernel
theorem dX4_law_18 : decode cX4_law 18 = .ok (.bipush (-2), 2) := by decide +kernel
theorem dX4_law_20 : decode cX4_law 20 = .ok (.iconst 2, 1) := by decide +kernel
theorem dX4_law_21 : decode cX4_law 21 = .ok (.invokestatic 50, 3) := by decide +kernel
theorem dX4_law_24 : decode cX4_law 24 = .ok (.ifCond .ne 5, 3) := by decide +kernel
theorem dX4_law_27 : decode cX4_law 27 = .ok (.iconst 0, 1) := by decide +kernel
theorem dX4_law_28 : decode cX4_law 28 = .ok (.ireturn, 1) := by decide +kernel
theorem dX4_law_29 : decode cX4_law 29 = .ok (.aload_n 0, 1) := by decide +kernel
theorem dX4_law_30 : decode cX4_law 30 = .ok (.getfield 19, 3) := by decide +kernel
theorem dX4_law_33 : decode cX4_law 33 = .ok (.bipush 8, 2) := by decide +kernel
theorem dX4_law_35 : decode cX4_law 35 = .ok (.iload_n 1, 1) := by decide +kernel
theorem dX4_law_36 : decode cX4_law 36 = .ok (.imul, 1) := by decide +kernel
theorem dX4_law_37 : decode cX4_law 37 = .ok (.iload_n 2, 1) := by decide +kernel
theorem dX4_law_38 : decode cX4_law 38 = .ok (.iadd, 1) := by decide +kernel
theorem dX4_law_39 : decode cX4_law 39 = .ok (.iload_n 3, 1) := by decide +kernel
theorem dX4_law_40 : decode cX4_law 40 = .ok (.iastore, 1) := by decide +kernel
theorem dX4_law_41 : decode cX4_law 41 = .ok (.iconst 1, 1) := by decide +kernel
theorem dX4_law_42 : decode cX4_law 42 = .ok (.ireturn, 1) := by decide +kernel
theorem dX4_bit_0 : decode cX4_bit 0 = .ok (.iload_n 0, 1) := by decide +kernel
theorem dX4_bit_1 : decode cX4_bit 1 = .ok (.iload_n 1, 1) := by decide +kernel
theorem dX4_bit_2 : decode cX4_bit 2 = .ok (.if_icmp .ne 7, 3) := by decide +kernel
theorem dX4_bit_5 : decode cX4_bit 5 = .ok (.iconst 1, 1) := by decide +kernel
theorem dX4_bit_6 : decode cX4_bit 6 = .ok (.goto 4, 3) := by decide +kernel
theorem dX4_bit_9 : decode cX4_bit 9 = .ok (.iconst 0, 1) := by decide +kernel
theorem dX4_bit_10 : decode cX4_bit 10 = .ok (.ireturn, 1) := by decide +kernel
set_option maxRecDepth 20000 in
theorem ggX4_plainOf_X4_bit : GoodIn wsX4_plainOf wsX4_bit := goodIn_r _ [4] (by decide +kernel) (by decide +kernel)
set_option maxRecDepth 20000 in
theorem gX4_plainOf_X4_bit : GoodIn wsX4_plainOf (va_wsS RX4 68 yX4_bit wsX4_bit) := goodIn_app (goodIn_of _ (by decide +kernel)) ggX4_plainOf_X4_bit
theorem dX4_plainOf_0 : decode cX4_plainOf 0 = .ok (.iload_n 0, 1) := by decide +kernel
theorem dX4_plainOf_1 : decode cX4_plainOf 1 = .ok (.iconst 3, 1) := by decide +kernel
theorem dX4_plainOf_2 : decode cX4_plainOf 2 = .ok (.if_icmp .ge 21, 3) := by decide +kernel
theorem dX4_plainOf_5 : decode cX4_plainOf 5 = .ok (.iload_n 1, 1) := by decide +kernel
theorem dX4_plainOf_6 : decode cX4_plainOf 6 = .ok (.bipush 7, 2) := by decide +kernel
theorem dX4_plainOf_8 : decode cX4_plainOf 8 = .ok (.invokestatic 68, 3) := by decide +kernel
theorem dX4_plainOf_11 : decode cX4_plainOf 11 = .ok (.iload_n 1, 1) := by decide +kernel
theorem dX4_plainOf_12 : decode cX4_plainOf 12 = .ok (.bipush 7, 2) := by decide +kernel
theorem dX4_plainOf_14 : decode cX4_plainOf 14 = .ok (.iconst 1, 1) := by decide +kernel
theorem dX4_plainOf_15 : decode cX4_plainOf 15 = .ok (.iload_n 0, 1) := by decide +kernel
theorem dX4_plainOf_16 : decode cX4_plainOf 16 = .ok (.ishl, 1) := by decide +kernel
theorem dX4_plainOf_17 : decode cX4_plainOf 17 = .ok (.isub, 1) := by decide +kernel
theorem dX4_plainOf_18 : decode cX4_plainOf 18 = .ok (.invokestatic 68, 3) := by decide +kernel
theorem dX4_plainOf_21 : decode cX4_plainOf 21 = .ok (.isub, 1) := by decide +kernel
theorem dX4_plainOf_22 : decode cX4_plainOf 22 = .ok (.ireturn, 1) := by decide +kernel
theorem dX4_plainOf_23 : decode cX4_plainOf 23 = .ok (.iload_n 0, 1) := by decide +kernel
theorem dX4_plainOf_24 : decode cX4_plainOf 24 = .ok (.iconst 3, 1) := by decide +kernel
theorem dX4_plainOf_25 : decode cX4_plainOf 25 = .ok (.irem, 1) := by decide +kernel
theorem dX4_plainOf_26 : decode cX4_plainOf 26 = .ok (.ifCond .ne 7, 3) := by decide +kernel
theorem dX4_plainOf_29 : decode cX4_plainOf 29 = .ok (.iconst 4, 1) := by decide +kernel
theorem dX4_plainOf_30 : decode cX4_plainOf 30 = .ok (.goto 15, 3) := by decide +kernel
theorem dX4_plainOf_33 : decode cX4_plainOf 33 = .ok (.iload_n 0, 1) := by decide +kernel
theorem dX4_plainOf_34 : decode cX4_plainOf 34 = .ok (.iconst 3, 1) := by decide +kernel
theorem dX4_plainOf_35 : decode cX4_plainOf 35 = .ok (.irem, 1) := by decide +kernel
theorem dX4_plainOf_36 : decode cX4_plainOf 36 = .ok (.iconst 1, 1) := by decide +kernel
theorem dX4_plainOf_37 : decode cX4_plainOf 37 = .ok (.if_icmp .ne 7, 3) := by decide +kernel
theorem dX4_plainOf_40 : decode cX4_plainOf 40 = .ok (.iconst 2, 1) := by decide +kernel
theorem dX4_plainOf_41 : decode cX4_plainOf 41 = .ok (.goto 4, 3) := by decide +kernel
theorem dX4_plainOf_44 : decode cX4_plainOf 44 = .ok (.iconst 1, 1) := by decide +kernel
theorem dX4_plainOf_45 : decode cX4_plainOf 45 = .ok (.istore_n 2, 1) := by decide +kernel
theorem dX4_plainOf_46 : decode cX4_plainOf 46 = .ok (.iload_n 2, 1) := by decide +kernel
theorem dX4_plainOf_47 : decode cX4_plainOf 47 = .ok (.iconst 1, 1) := by decide +kernel
theorem dX4_plainOf_48 : decode cX4_plainOf 48 = .ok (.if_icmp .ne 7, 3) := by decide +kernel
theorem dX4_plainOf_51 : decode cX4_plainOf 51 = .ok (.iconst 2, 1) := by decide +kernel
theorem dX4_plainOf_52 : decode cX4_plainOf 52 = .ok (.goto 4, 3) := by decide +kernel
theorem dX4_plainOf_55 : decode cX4_plainOf 55 = .ok (.iconst 1, 1) := by decide +kernel
theorem dX4_plainOf_56 : decode cX4_plainOf 56 = .ok (.istore_n 3, 1) := by decide +kernel
theorem dX4_plainOf_57 : decode cX4_plainOf 57 = .ok (.bipush 7, 2) := by decide +kernel
theorem dX4_plainOf_59 : decode cX4_plainOf 59 = .ok (.iload_n 2, 1) := by decide +kernel
theorem dX4_plainOf_60 : decode cX4_plainOf 60 = .ok (.isub, 1) := by decide +kernel
theorem dX4_plainOf_61 : decode cX4_plainOf 61 = .ok (.iload_n 3, 1) := by decide +kernel
theorem dX4_plainOf_62 : decode cX4_plainOf 62 = .ok (.isub, 1) := by decide +kernel
theorem dX4_plainOf_63 : decode cX4_plainOf 63 = .ok (.istore 4, 2) := by decide +kernel
theorem dX4_plainOf_65 : decode cX4_plainOf 65 = .ok (.iload_n 0, 1) := by decide +kernel
theorem dX4_plainOf_66 : decode cX4_plainOf 66 = .ok (.bipush 6, 2) := by decide +kernel
theorem dX4_plainOf_68 : decode cX4_plainOf 68 = .ok (.if_icmp .ge 25, 3) := by decide +kernel
theorem dX4_plainOf_71 : decode cX4_plainOf 71 = .ok (.iload_n 1, 1) := by decide +kernel
theorem dX4_plainOf_72 : decode cX4_plainOf 72 = .ok (.iload_n 3, 1) := by decide +kernel
theorem dX4_plainOf_73 : decode cX4_plainOf 73 = .ok (.invokestatic 68, 3) := by decide +kernel
theorem dX4_plainOf_76 : decode cX4_plainOf 76 = .ok (.iload_n 1, 1) := by decide +kernel
theorem dX4_plainOf_77 : decode cX4_plainOf 77 = .ok (.iload 4, 2) := by decide +kernel
theorem dX4_plainOf_79 : decode cX4_plainOf 79 = .ok (.invokestatic 68, 3) := by decide +kernel
theorem dX4_plainOf_82 : decode cX4_plainOf 82 = .ok (.iadd, 1) := by decide +kernel
theorem dX4_plainOf_83 : decode cX4_plainOf 83 = .ok (.iload_n 1, 1) := by decide +kernel
theorem dX4_plainOf_84 : decode cX4_plainOf 84 = .ok (.iload_n 3, 1) := by decide +kernel
theorem dX4_plainOf_85 : decode cX4_plainOf 85 = .ok (.iload 4, 2) := by decide +kernel
theorem dX4_plainOf_87 : decode cX4_plainOf 87 = .ok (.iadd, 1) := by decide +kernel
theorem dX4_plainOf_88 : decode cX4_plainOf 88 = .ok (.invokestatic 68, 3) := by decide +kernel
theorem dX4_plainOf_91 : decode cX4_plainOf 91 = .ok (.isub, 1) := by decide +kernel
theorem dX4_plainOf_92 : decode cX4_plainOf 92 = .ok (.ireturn, 1) := by decide +kernel
theorem dX4_plainOf_93 : decode cX4_plainOf 93 = .ok (.iload_n 1, 1) := by decide +kernel
theorem dX4_plainOf_94 : decode cX4_plainOf 94 = .ok (.iload_n 3, 1) := by decide +kernel
theorem dX4_plainOf_95 : decode cX4_plainOf 95 = .ok (.iload_n 2, 1) := by decide +kernel
theorem dX4_plainOf_96 : decode cX4_plainOf 96 = .ok (.iadd, 1) := by decide +kernel
theorem dX4_plainOf_97 : decode cX4_plainOf 97 = .ok (.invokestatic 68, 3) := by decide +kernel
theorem dX4_plainOf_100 : decode cX4_plainOf 100 = .ok (.iload_n 1, 1) := by decide +kernel
theorem dX4_plainOf_101 : decode cX4_plainOf 101 = .ok (.iload 4, 2) := by decide +kernel
theorem dX4_plainOf_103 : decode cX4_plainOf 103 = .ok (.iload_n 2, 1) := by decide +kernel
theorem dX4_plainOf_104 : decode cX4_plainOf 104 = .ok (.iadd, 1) := by decide +kernel
theorem dX4_plainOf_105 : decode cX4_plainOf 105 = .ok (.invokestatic 68, 3) := by decide +kernel
theorem dX4_plainOf_108 : decode cX4_plainOf 108 = .ok (.iadd, 1) := by decide +kernel
theorem dX4_plainOf_109 : decode cX4_plainOf 109 = .ok (.iload_n 1, 1) := by decide +kernel
theorem dX4_plainOf_110 : decode cX4_plainOf 110 = .ok (.bipush 7, 2) := by decide +kernel
theorem dX4_plainOf_112 : decode cX4_plainOf 112 = .ok (.invokestatic 68, 3) := by decide +kernel
theorem dX4_plainOf_115 : decode cX4_plainOf 115 = .ok (.isub, 1) := by decide +kernel
theorem dX4_plainOf_116 : decode cX4_plainOf 116 = .ok (.iload_n 1, 1) := by decide +kernel
theorem dX4_plainOf_117 : decode cX4_plainOf 117 = .ok (.iload_n 2, 1) := by decide +kernel
theorem dX4_plainOf_118 : decode cX4_plainOf 118 = .ok (.invokestatic 68, 3) := by decide +kernel
theorem dX4_plainOf_121 : decode cX4_plainOf 121 = .ok (.isub, 1) := by decide +kernel
theorem dX4_plainOf_122 : decode cX4_plainOf 122 = .ok (.ireturn, 1) := by decide +kernel
set_option maxRecDepth 20000 in
theorem ggX4_plain_X4_isLaw : GoodIn wsX4_plain wsX4_isLaw := goodIn_r _ [5, 6, 7, 4, 8] (by decide +kernel) (by decide +kernel)
set_option maxRecDepth 20000 in
theorem gX4_plain_X4_isLaw : GoodIn wsX4_plain (va_wsS RX4 65 yX4_isLaw wsX4_isLaw) := goodIn_app (goodIn_of _ (by decide +kernel)) ggX4_plain_X4_isLaw
set_option maxRecDepth 20000 in
theorem ggX4_plain_X4_isIn : GoodIn wsX4_plain wsX4_isIn := goodIn_r _ [8] (by decide +kernel) (by decide +kernel)
set_option maxRecDepth 20000 in
theorem gX4_plain_X4_isIn : GoodIn wsX4_plain (va_wsS RX4 50 yX4_isIn wsX4_isIn) := goodIn_app (goodIn_of _ (by decide +kernel)) ggX4_plain_X4_isIn
set_option maxRecDepth 20000 in
theorem ggX4_plain_X4_plainOf : GoodIn wsX4_plain wsX4_plainOf := goodIn_r _ [11, 12, 13, 4, 14] (by decide +kernel) (by decide +kernel)
set_option maxRecDepth 20000 in
theorem gX4_plain_X4_plainOf : GoodIn wsX4_plain (va_wsS RX4 72 yX4_plainOf wsX4_plainOf) := goodIn_app (goodIn_of _ (by decide +kernel)) ggX4_plain_X4_plainOf
theorem dX4_plain_0 : decode cX4_plain 0 = .ok (.iload_n 1, 1) := by decide +kernel
theorem dX4_plain_1 : decode cX4_plain 1 = .ok (.invokestatic 65, 3) := by decide +kernel
theorem dX4_plain_4 : decode cX4_plain 4 = .ok (.ifCond .eq 13, 3) := by decide +kernel
theorem dX4_plain_7 : decode cX4_plain 7 = .ok (.iload_n 2, 1) := by decide +kernel
theorem dX4_plain_8 : decode cX4_plain 8 = .ok (.iconst 0, 1) := by decide +kernel
theorem dX4_plain_9 : decode cX4_plain 9 = .ok (.bipush 8, 2) := by decide +kernel
theorem dX4_plain_11 : decode cX4_plain 11 = .ok (.invokestatic 50, 3) := by decide +kernel
theorem dX4_plain_14 : decode cX4_plain 14 = .ok (.ifCond .ne 5, 3) := by decide +kernel
theorem dX4_plain_17 : decode cX4_plain 17 = .ok (.iconst 0, 1) := by decide +kernel
theorem dX4_plain_18 : decode cX4_plain 18 = .ok (.ireturn, 1) := by decide +kernel
theorem dX4_plain_19 : decode cX4_plain 19 = .ok (.iconst 1, 1) := by decide +kernel
theorem dX4_plain_20 : decode cX4_plain 20 = .ok (.istore_n 3, 1) := by decide +kernel
theorem dX4_plain_21 : decode cX4_plain 21 = .ok (.iload_n 3, 1) := by decide +kernel
theorem dX4_plain_22 : decode cX4_plain 22 = .ok (.bipush 8, 2) := by decide +kernel
theorem dX4_plain_24 : decode cX4_plain 24 = .ok (.if_icmp .ge 25, 3) := by decide +kernel
theorem dX4_plain_27 : decode cX4_plain 27 = .ok (.aload_n 0, 1) := by decide +kernel
theorem dX4_plain_28 : decode cX4_plain 28 = .ok (.getfield 19, 3) := by decide +kernel
theorem dX4_plain_31 : decode cX4_plain 31 = .ok (.bipush 8, 2) := by decide +kernel
theorem dX4_plain_33 : decode cX4_plain 33 = .ok (.iload_n 1, 1) := by decide +kernel
theorem dX4_plain_34 : decode cX4_plain 34 = .ok (.imul, 1) := by decide +kernel
theorem dX4_plain_35 : decode cX4_plain 35 = .ok (.iload_n 3, 1) := by decide +kernel
theorem dX4_plain_36 : decode cX4_plain 36 = .ok (.iadd, 1) := by decide +kernel
theorem dX4_plain_37 : decode cX4_plain 37 = .ok (.iload_n 2, 1) := by decide +kernel
theorem dX4_plain_38 : decode cX4_plain 38 = .ok (.iload_n 3, 1) := by decide +kernel
theorem dX4_plain_39 : decode cX4_plain 39 = .ok (.invokestatic 72, 3) := by decide +kernel
theorem dX4_plain_42 : decode cX4_plain 42 = .ok (.iastore, 1) := by decide +kernel
theorem dX4_plain_43 : decode cX4_plain 43 = .ok (.iinc 3 1, 3) := by decide +kernel
theorem dX4_plain_46 : decode cX4_plain 46 = .ok (.goto (-25), 3) := by decide +kernel
theorem dX4_plain_49 : decode cX4_plain 49 = .ok (.iconst 1, 1) := by decide +kernel
theorem dX4_plain_50 : decode cX4_plain 50 = .ok (.ireturn, 1) := by decide +kernel
set_option maxRecDepth 20000 in
theorem ggX4_number_X4_isLaw : GoodIn wsX4_number wsX4_isLaw := goodIn_r _ [5, 6, 7, 4, 8] (by decide +kernel) (by decide +kernel)
set_option maxRecDepth 20000 in
theorem gX4_number_X4_isLaw : GoodIn wsX4_number (va_wsS RX4 65 yX4_isLaw wsX4_isLaw) := goodIn_app (goodIn_of _ (by decide +kernel)) ggX4_number_X4_isLaw
set_option maxRecDepth 20000 in
theorem ggX4_number_X4_isIn : GoodIn wsX4_number wsX4_isIn := goodIn_r _ [8] (by decide +kernel) (by decide +kernel)
set_option maxRecDepth 20000 in
theorem gX4_number_X4_isIn : GoodIn wsX4_number (va_wsS RX4 50 yX4_isIn wsX4_isIn) := goodIn_app (goodIn_of _ (by decide +kernel)) ggX4_number_X4_isIn
theorem dX4_number_0 : decode cX4_number 0 = .ok (.iload_n 1, 1) := by decide +kernel
theorem dX4_number_1 : decode cX4_number 1 = .ok (.invokestatic 65, 3) := by decide +kernel
theorem dX4_number_4 : decode cX4_number 4 = .ok (.ifCond .eq 27, 3) := by decide +kernel
theorem dX4_number_7 : decode cX4_number 7 = .ok (.iload_n 2, 1) := by decide +kernel
theorem dX4_number_8 : decode cX4_number 8 = .ok (.iconst 1, 1) := by decide +kernel
theorem dX4_number_9 : decode cX4_number 9 = .ok (.bipush 7, 2) := by decide +kernel
theorem dX4_number_11 : decode cX4_number 11 = .ok (.invokestatic 50, 3) := by decide +kernel
theorem dX4_number_14 : decode cX4_number 14 = .ok (.ifCond .eq 17, 3) := by decide +kernel
theorem dX4_number_17 : decode cX4_number 17 = .ok (.aload_n 0, 1) := by decide +kernel
theorem dX4_number_18 : decode cX4_number 18 = .ok (.getfield 19, 3) := by decide +kernel
theorem dX4_number_21 : decode cX4_number 21 = .ok (.bipush 8, 2) := by decide +kernel
theorem dX4_number_23 : decode cX4_number 23 = .ok (.iload_n 1, 1) := by decide +kernel
theorem dX4_number_24 : decode cX4_number 24 = .ok (.imul, 1) := by decide +kernel
theorem dX4_number_25 : decode cX4_number 25 = .ok (.iload_n 2, 1) := by decide +kernel
theorem dX4_number_26 : decode cX4_number 26 = .ok (.iadd, 1) := by decide +kernel
theorem dX4_number_27 : decode cX4_number 27 = .ok (.iaload, 1) := by decide +kernel
theorem dX4_number_28 : decode cX4_number 28 = .ok (.goto 5, 3) := by decide +kernel
theorem dX4_number_31 : decode cX4_number 31 = .ok (.bipush (-11), 2) := by decide +kernel
theorem dX4_number_33 : decode cX4_number 33 = .ok (.ireturn, 1) := by decide +kernel
theorem dX4_clear_0 : decode cX4_clear 0 = .ok (.iconst 0, 1) := by decide +kernel
theorem dX4_clear_1 : decode cX4_clear 1 = .ok (.istore_n 1, 1) := by decide +kernel
theorem dX4_clear_2 : decode cX4_clear 2 = .ok (.iload_n 1, 1) := by decide +kernel
theorem dX4_clear_3 : decode cX4_clear 3 = .ok (.bipush 6, 2) := by decide +kernel
theorem dX4_clear_5 : decode cX4_clear 5 = .ok (.if_icmp .ge 16, 3) := by decide +kernel
theorem dX4_clear_8 : decode cX4_clear 8 = .ok (.aload_n 0, 1) := by decide +kernel
theorem dX4_clear_9 : decode cX4_clear 9 = .ok (.getfield 25, 3) := by decide +kernel
theorem dX4_clear_12 : decode cX4_clear 12 = .ok (.iload_n 1, 1) := by decide +kernel
theorem dX4_clear_13 : decode cX4_clear 13 = .ok (.iconst 0, 1) := by decide +kernel
theorem dX4_clear_14 : decode cX4_clear 14 = .ok (.iastore, 1) := by decide +kernel
theorem dX4_clear_15 : decode cX4_clear 15 = .ok (.iinc 1 1, 3) := by decide +kernel
theorem dX4_clear_18 : decode cX4_clear 18 = .ok (.goto (-16), 3) := by decide +kernel
theorem dX4_clear_21 : decode cX4_clear 21 = .ok (.return_, 1) := by decide +kernel
theorem dX4_add_0 : decode cX4_add 0 = .ok (.iload_n 1, 1) := by decide +kernel
theorem dX4_add_1 : decode cX4_add 1 = .ok (.istore_n 3, 1) := by decide +kernel
theorem dX4_add_2 : decode cX4_add 2 = .ok (.iconst 0, 1) := by decide +kernel
end
section
theorem dX4_add_3 : decode cX4_add 3 = .ok (.istore 4, 2) := by decide +kernel
theorem dX4_add_5 : decode cX4_add 5 = .ok (.iload 4, 2) := by decide +kernel
theorem dX4_add_7 : decode cX4_add 7 = .ok (.bipush 6, 2) := by decide +kernel
theorem dX4_add_9 : decode cX4_add 9 = .ok (.if_icmp .ge 45, 3) := by decide +kernel
theorem dX4_add_12 : decode cX4_add 12 = .ok (.iload_n 3, 1) := by decide +kernel
theorem dX4_add_13 : decode cX4_add 13 = .ok (.aload_n 0, 1) := by decide +kernel
theorem dX4_add_14 : decode cX4_add 14 = .ok (.getfield 22, 3) := by decide +kernel
theorem dX4_add_17 : decode cX4_add 17 = .ok (.iload 4, 2) := by decide +kernel
theorem dX4_add_19 : decode cX4_add 19 = .ok (.iaload, 1) := by decide +kernel
theorem dX4_add_20 : decode cX4_add 20 = .ok (.irem, 1) := by decide +kernel
theorem dX4_add_21 : decode cX4_add 21 = .ok (.ifCond .ne 27, 3) := by decide +kernel
theorem dX4_add_24 : decode cX4_add 24 = .ok (.iload_n 3, 1) := by decide +kernel
theorem dX4_add_25 : decode cX4_add 25 = .ok (.aload_n 0, 1) := by decide +kernel
theorem dX4_add_26 : decode cX4_add 26 = .ok (.getfield 22, 3) := by decide +kernel
theorem dX4_add_29 : decode cX4_add 29 = .ok (.iload 4, 2) := by decide +kernel
theorem dX4_add_31 : decode cX4_add 31 = .ok (.iaload, 1) := by decide +kernel
theorem dX4_add_32 : decode cX4_add 32 = .ok (.idiv, 1) := by decide +kernel
theorem dX4_add_33 : decode cX4_add 33 = .ok (.istore_n 3, 1) := by decide +kernel
theorem dX4_add_34 : decode cX4_add 34 = .ok (.aload_n 0, 1) := by decide +kernel
theorem dX4_add_35 : decode cX4_add 35 = .ok (.getfield 25, 3) := by decide +kernel
theorem dX4_add_38 : decode cX4_add 38 = .ok (.iload 4, 2) := by decide +kernel
theorem dX4_add_40 : decode cX4_add 40 = .ok (.dup2, 1) := by decide +kernel
theorem dX4_add_41 : decode cX4_add 41 = .ok (.iaload, 1) := by decide +kernel
theorem dX4_add_42 : decode cX4_add 42 = .ok (.iload_n 2, 1) := by decide +kernel
theorem dX4_add_43 : decode cX4_add 43 = .ok (.iadd, 1) := by decide +kernel
theorem dX4_add_44 : decode cX4_add 44 = .ok (.iastore, 1) := by decide +kernel
theorem dX4_add_45 : decode cX4_add 45 = .ok (.goto (-33), 3) := by decide +kernel
theorem dX4_add_48 : decode cX4_add 48 = .ok (.iinc 4 1, 3) := by decide +kernel
theorem dX4_add_51 : decode cX4_add 51 = .ok (.goto (-46), 3) := by decide +kernel
theorem dX4_add_54 : decode cX4_add 54 = .ok (.return_, 1) := by decide +kernel
theorem dX4_settings_0 : decode cX4_settings 0 = .ok (.iconst 0, 1) := by decide +kernel
theorem dX4_settings_1 : decode cX4_settings 1 = .ok (.istore_n 3, 1) := by decide +kernel
theorem dX4_settings_2 : decode cX4_settings 2 = .ok (.iload_n 3, 1) := by decide +kernel
theorem dX4_settings_3 : decode cX4_settings 3 = .ok (.bipush 27, 2) := by decide +kernel
theorem dX4_settings_5 : decode cX4_settings 5 = .ok (.if_icmp .ge 16, 3) := by decide +kernel
theorem dX4_settings_8 : decode cX4_settings 8 = .ok (.aload_n 0, 1) := by decide +kernel
theorem dX4_settings_9 : decode cX4_settings 9 = .ok (.getfield 28, 3) := by decide +kernel
theorem dX4_settings_12 : decode cX4_settings 12 = .ok (.iload_n 3, 1) := by decide +kernel
theorem dX4_settings_13 : decode cX4_settings 13 = .ok (.iconst 0, 1) := by decide +kernel
theorem dX4_settings_14 : decode cX4_settings 14 = .ok (.iastore, 1) := by decide +kernel
theorem dX4_settings_15 : decode cX4_settings 15 = .ok (.iinc 3 1, 3) := by decide +kernel
theorem dX4_settings_18 : decode cX4_settings 18 = .ok (.goto (-16), 3) := by decide +kernel
theorem dX4_settings_21 : decode cX4_settings 21 = .ok (.iconst 0, 1) := by decide +kernel
theorem dX4_settings_22 : decode cX4_settings 22 = .ok (.istore_n 3, 1) := by decide +kernel
theorem dX4_settings_23 : decode cX4_settings 23 = .ok (.iload_n 3, 1) := by decide +kernel
theorem dX4_settings_24 : decode cX4_settings 24 = .ok (.bipush 27, 2) := by decide +kernel
theorem dX4_settings_26 : decode cX4_settings 26 = .ok (.if_icmp .ge 61, 3) := by decide +kernel
theorem dX4_settings_29 : decode cX4_settings 29 = .ok (.aload_n 0, 1) := by decide +kernel
theorem dX4_settings_30 : decode cX4_settings 30 = .ok (.getfield 28, 3) := by decide +kernel
theorem dX4_settings_33 : decode cX4_settings 33 = .ok (.iload_n 2, 1) := by decide +kernel
theorem dX4_settings_34 : decode cX4_settings 34 = .ok (.iconst 1, 1) := by decide +kernel
theorem dX4_settings_35 : decode cX4_settings 35 = .ok (.iand, 1) := by decide +kernel
theorem dX4_settings_36 : decode cX4_settings 36 = .ok (.iload_n 3, 1) := by decide +kernel
theorem dX4_settings_37 : decode cX4_settings 37 = .ok (.iconst 3, 1) := by decide +kernel
theorem dX4_settings_38 : decode cX4_settings 38 = .ok (.irem, 1) := by decide +kernel
theorem dX4_settings_39 : decode cX4_settings 39 = .ok (.imul, 1) := by decide +kernel
theorem dX4_settings_40 : decode cX4_settings 40 = .ok (.iload_n 2, 1) := by decide +kernel
theorem dX4_settings_41 : decode cX4_settings 41 = .ok (.iconst 1, 1) := by decide +kernel
theorem dX4_settings_42 : decode cX4_settings 42 = .ok (.ishr, 1) := by decide +kernel
theorem dX4_settings_43 : decode cX4_settings 43 = .ok (.iconst 1, 1) := by decide +kernel
theorem dX4_settings_44 : decode cX4_settings 44 = .ok (.iand, 1) := by decide +kernel
theorem dX4_settings_45 : decode cX4_settings 45 = .ok (.iconst 3, 1) := by decide +kernel
theorem dX4_settings_46 : decode cX4_settings 46 = .ok (.imul, 1) := by decide +kernel
theorem dX4_settings_47 : decode cX4_settings 47 = .ok (.iload_n 3, 1) := by decide +kernel
theorem dX4_settings_48 : decode cX4_settings 48 = .ok (.iconst 3, 1) := by decide +kernel
theorem dX4_settings_49 : decode cX4_settings 49 = .ok (.idiv, 1) := by decide +kernel
theorem dX4_settings_50 : decode cX4_settings 50 = .ok (.iconst 3, 1) := by decide +kernel
theorem dX4_settings_51 : decode cX4_settings 51 = .ok (.irem, 1) := by decide +kernel
theorem dX4_settings_52 : decode cX4_settings 52 = .ok (.imul, 1) := by decide +kernel
theorem dX4_settings_53 : decode cX4_settings 53 = .ok (.iadd, 1) := by decide +kernel
theorem dX4_settings_54 : decode cX4_settings 54 = .ok (.iload_n 2, 1) := by decide +kernel
theorem dX4_settings_55 : decode cX4_settings 55 = .ok (.iconst 2, 1) := by decide +kernel
theorem dX4_settings_56 : decode cX4_settings 56 = .ok (.ishr, 1) := by decide +kernel
theorem dX4_settings_57 : decode cX4_settings 57 = .ok (.bipush 9, 2) := by decide +kernel
theorem dX4_settings_59 : decode cX4_settings 59 = .ok (.imul, 1) := by decide +kernel
theorem dX4_settings_60 : decode cX4_settings 60 = .ok (.iload_n 3, 1) := by decide +kernel
theorem dX4_settings_61 : decode cX4_settings 61 = .ok (.bipush 9, 2) := by decide +kernel
theorem dX4_settings_63 : decode cX4_settings 63 = .ok (.idiv, 1) := by decide +kernel
theorem dX4_settings_64 : decode cX4_settings 64 = .ok (.imul, 1) := by decide +kernel
theorem dX4_settings_65 : decode cX4_settings 65 = .ok (.iadd, 1) := by decide +kernel
theorem dX4_settings_66 : decode cX4_settings 66 = .ok (.dup2, 1) := by decide +kernel
theorem dX4_settings_67 : decode cX4_settings 67 = .ok (.iaload, 1) := by decide +kernel
theorem dX4_settings_68 : decode cX4_settings 68 = .ok (.aload_n 0, 1) := by decide +kernel
theorem dX4_settings_69 : decode cX4_settings 69 = .ok (.getfield 13, 3) := by decide +kernel
theorem dX4_settings_72 : decode cX4_settings 72 = .ok (.bipush 27, 2) := by decide +kernel
theorem dX4_settings_74 : decode cX4_settings 74 = .ok (.iload_n 1, 1) := by decide +kernel
theorem dX4_settings_75 : decode cX4_settings 75 = .ok (.imul, 1) := by decide +kernel
theorem dX4_settings_76 : decode cX4_settings 76 = .ok (.iload_n 3, 1) := by decide +kernel
theorem dX4_settings_77 : decode cX4_settings 77 = .ok (.iadd, 1) := by decide +kernel
theorem dX4_settings_78 : decode cX4_settings 78 = .ok (.iaload, 1) := by decide +kernel
theorem dX4_settings_79 : decode cX4_settings 79 = .ok (.iadd, 1) := by decide +kernel
theorem dX4_settings_80 : decode cX4_settings 80 = .ok (.iastore, 1) := by decide +kernel
theorem dX4_settings_81 : decode cX4_settings 81 = .ok (.iinc 3 1, 3) := by decide +kernel
theorem dX4_settings_84 : decode cX4_settings 84 = .ok (.goto (-61), 3) := by decide +kernel
theorem dX4_settings_87 : decode cX4_settings 87 = .ok (.return_, 1) := by decide +kernel
set_option maxRecDepth 20000 in
theorem ggX4_doubt_X4_settings : GoodIn wsX4_doubt wsX4_settings := goodIn_r _ [7, 2, 8, 15, 16, 17, 18, 19, 20, 21, 22, 23, 24, 25, 26, 27, 28, 29] (by decide +kernel) (by decide +kernel)
set_option maxRecDepth 20000 in
theorem gX4_doubt_X4_settings : GoodIn wsX4_doubt (wsV RX4 75 RX4 yX4_settings wsX4_settings) := goodIn_app (goodIn_of _ (by decide +kernel)) ggX4_doubt_X4_settings
set_option maxRecDepth 20000 in
theorem ggX4_doubt_X4_add : GoodIn wsX4_doubt wsX4_add := goodIn_r _ [12, 13, 14, 15, 16, 17, 18, 19, 20, 21, 22, 23, 24, 25, 26, 27, 28, 29] (by decide +kernel) (by decide +kernel)
set_option maxRecDepth 20000 in
theorem gX4_doubt_X4_add : GoodIn wsX4_doubt (wsV RX4 79 RX4 yX4_add wsX4_add) := goodIn_app (goodIn_of _ (by decide +kernel)) ggX4_doubt_X4_add
theorem dX4_doubt_0 : decode cX4_doubt 0 = .ok (.iload_n 3, 1) := by decide +kernel
theorem dX4_doubt_1 : decode cX4_doubt 1 = .ok (.ifCond .ne 4, 3) := by decide +kernel
theorem dX4_doubt_4 : decode cX4_doubt 4 = .ok (.return_, 1) := by decide +kernel
theorem dX4_doubt_5 : decode cX4_doubt 5 = .ok (.aload_n 0, 1) := by decide +kernel
theorem dX4_doubt_6 : decode cX4_doubt 6 = .ok (.iload_n 1, 1) := by decide +kernel
theorem dX4_doubt_7 : decode cX4_doubt 7 = .ok (.iload_n 2, 1) := by decide +kernel
theorem dX4_doubt_8 : decode cX4_doubt 8 = .ok (.invokevirtual 75, 3) := by decide +kernel
theorem dX4_doubt_11 : decode cX4_doubt 11 = .ok (.aload_n 0, 1) := by decide +kernel
theorem dX4_doubt_12 : decode cX4_doubt 12 = .ok (.aload_n 0, 1) := by decide +kernel
theorem dX4_doubt_13 : decode cX4_doubt 13 = .ok (.getfield 16, 3) := by decide +kernel
theorem dX4_doubt_16 : decode cX4_doubt 16 = .ok (.iload_n 1, 1) := by decide +kernel
theorem dX4_doubt_17 : decode cX4_doubt 17 = .ok (.iaload, 1) := by decide +kernel
theorem dX4_doubt_18 : decode cX4_doubt 18 = .ok (.iload_n 3, 1) := by decide +kernel
theorem dX4_doubt_19 : decode cX4_doubt 19 = .ok (.aload_n 0, 1) := by decide +kernel
theorem dX4_doubt_20 : decode cX4_doubt 20 = .ok (.getfield 16, 3) := by decide +kernel
theorem dX4_doubt_23 : decode cX4_doubt 23 = .ok (.iload_n 1, 1) := by decide +kernel
theorem dX4_doubt_24 : decode cX4_doubt 24 = .ok (.iaload, 1) := by decide +kernel
theorem dX4_doubt_25 : decode cX4_doubt 25 = .ok (.imul, 1) := by decide +kernel
theorem dX4_doubt_26 : decode cX4_doubt 26 = .ok (.invokevirtual 79, 3) := by decide +kernel
theorem dX4_doubt_29 : decode cX4_doubt 29 = .ok (.iconst 0, 1) := by decide +kernel
theorem dX4_doubt_30 : decode cX4_doubt 30 = .ok (.istore 4, 2) := by decide +kernel
theorem dX4_doubt_32 : decode cX4_doubt 32 = .ok (.iload 4, 2) := by decide +kernel
theorem dX4_doubt_34 : decode cX4_doubt 34 = .ok (.bipush 27, 2) := by decide +kernel
theorem dX4_doubt_36 : decode cX4_doubt 36 = .ok (.if_icmp .ge 40, 3) := by decide +kernel
theorem dX4_doubt_39 : decode cX4_doubt 39 = .ok (.aload_n 0, 1) := by decide +kernel
theorem dX4_doubt_40 : decode cX4_doubt 40 = .ok (.getfield 28, 3) := by decide +kernel
theorem dX4_doubt_43 : decode cX4_doubt 43 = .ok (.iload 4, 2) := by decide +kernel
theorem dX4_doubt_45 : decode cX4_doubt 45 = .ok (.iaload, 1) := by decide +kernel
theorem dX4_doubt_46 : decode cX4_doubt 46 = .ok (.ifCond .le 24, 3) := by decide +kernel
theorem dX4_doubt_49 : decode cX4_doubt 49 = .ok (.aload_n 0, 1) := by decide +kernel
theorem dX4_doubt_50 : decode cX4_doubt 50 = .ok (.aload_n 0, 1) := by decide +kernel
theorem dX4_doubt_51 : decode cX4_doubt 51 = .ok (.getfield 28, 3) := by decide +kernel
theorem dX4_doubt_54 : decode cX4_doubt 54 = .ok (.iload 4, 2) := by decide +kernel
theorem dX4_doubt_56 : decode cX4_doubt 56 = .ok (.iaload, 1) := by decide +kernel
theorem dX4_doubt_57 : decode cX4_doubt 57 = .ok (.iload_n 3, 1) := by decide +kernel
theorem dX4_doubt_58 : decode cX4_doubt 58 = .ok (.ineg, 1) := by decide +kernel
theorem dX4_doubt_59 : decode cX4_doubt 59 = .ok (.aload_n 0, 1) := by decide +kernel
theorem dX4_doubt_60 : decode cX4_doubt 60 = .ok (.getfield 28, 3) := by decide +kernel
theorem dX4_doubt_63 : decode cX4_doubt 63 = .ok (.iload 4, 2) := by decide +kernel
theorem dX4_doubt_65 : decode cX4_doubt 65 = .ok (.iaload, 1) := by decide +kernel
theorem dX4_doubt_66 : decode cX4_doubt 66 = .ok (.imul, 1) := by decide +kernel
theorem dX4_doubt_67 : decode cX4_doubt 67 = .ok (.invokevirtual 79, 3) := by decide +kernel
theorem dX4_doubt_70 : decode cX4_doubt 70 = .ok (.iinc 4 1, 3) := by decide +kernel
theorem dX4_doubt_73 : decode cX4_doubt 73 = .ok (.goto (-41), 3) := by decide +kernel
theorem dX4_doubt_76 : decode cX4_doubt 76 = .ok (.return_, 1) := by decide +kernel
set_option maxRecDepth 20000 in
theorem ggX4_lawIn_X4_doubt : GoodIn wsX4_lawIn wsX4_doubt := goodIn_r _ [6, 7, 8, 9, 10, 11, 5, 12, 13, 14, 15, 16, 17, 18, 19, 20, 21, 22, 23, 24, 25, 26, 27, 28, 29, 30, 31, 32, 33, 34] (by decide +kernel) (by decide +kernel)
set_option maxRecDepth 20000 in
theorem gX4_lawIn_X4_doubt : GoodIn wsX4_lawIn (wsV RX4 82 RX4 yX4_doubt wsX4_doubt) := goodIn_app (goodIn_of _ (by decide +kernel)) ggX4_lawIn_X4_doubt
theorem dX4_lawIn_0 : decode cX4_lawIn 0 = .ok (.iconst 1, 1) := by decide +kernel
theorem dX4_lawIn_1 : decode cX4_lawIn 1 = .ok (.istore 4, 2) := by decide +kernel
theorem dX4_lawIn_3 : decode cX4_lawIn 3 = .ok (.iload 4, 2) := by decide +kernel
theorem dX4_lawIn_5 : decode cX4_lawIn 5 = .ok (.bipush 8, 2) := by decide +kernel
theorem dX4_lawIn_7 : decode cX4_lawIn 7 = .ok (.if_icmp .ge 30, 3) := by decide +kernel
theorem dX4_lawIn_10 : decode cX4_lawIn 10 = .ok (.aload_n 0, 1) := by decide +kernel
theorem dX4_lawIn_11 : decode cX4_lawIn 11 = .ok (.iload_n 1, 1) := by decide +kernel
theorem dX4_lawIn_12 : decode cX4_lawIn 12 = .ok (.iload 4, 2) := by decide +kernel
theorem dX4_lawIn_14 : decode cX4_lawIn 14 = .ok (.iload_n 3, 1) := by decide +kernel
theorem dX4_lawIn_15 : decode cX4_lawIn 15 = .ok (.aload_n 0, 1) := by decide +kernel
theorem dX4_lawIn_16 : decode cX4_lawIn 16 = .ok (.getfield 19, 3) := by decide +kernel
theorem dX4_lawIn_19 : decode cX4_lawIn 19 = .ok (.bipush 8, 2) := by decide +kernel
theorem dX4_lawIn_21 : decode cX4_lawIn 21 = .ok (.iload_n 2, 1) := by decide +kernel
theorem dX4_lawIn_22 : decode cX4_lawIn 22 = .ok (.imul, 1) := by decide +kernel
theorem dX4_lawIn_23 : decode cX4_lawIn 23 = .ok (.iload 4, 2) := by decide +kernel
theorem dX4_lawIn_25 : decode cX4_lawIn 25 = .ok (.iadd, 1) := by decide +kernel
theorem dX4_lawIn_26 : decode cX4_lawIn 26 = .ok (.iaload, 1) := by decide +kernel
theorem dX4_lawIn_27 : decode cX4_lawIn 27 = .ok (.imul, 1) := by decide +kernel
theorem dX4_lawIn_28 : decode cX4_lawIn 28 = .ok (.invokevirtual 82, 3) := by decide +kernel
theorem dX4_lawIn_31 : decode cX4_lawIn 31 = .ok (.iinc 4 1, 3) := by decide +kernel
theorem dX4_lawIn_34 : decode cX4_lawIn 34 = .ok (.goto (-31), 3) := by decide +kernel
theorem dX4_lawIn_37 : decode cX4_lawIn 37 = .ok (.return_, 1) := by decide +kernel
set_option maxRecDepth 20000 in
theorem ggX4_multiply_X4_times : GoodIn wsX4_multiply wsX4_times := goodIn_r _ [9, 1, 10, 11, 12, 13, 14, 15, 16, 17, 18, 19, 20, 21, 22, 23, 24, 25] (by decide +kernel) (by decide +kernel)
set_option maxRecDepth 20000 in
theorem gX4_multiply_X4_times : GoodIn wsX4_multiply (wsV RX4 91 RX4 yX4_times wsX4_times) := goodIn_app (goodIn_of _ (by decide +kernel)) ggX4_multiply_X4_times
theorem dX4_multiply_0 : decode cX4_multiply 0 = .ok (.iconst 0, 1) := by decide +kernel
theorem dX4_multiply_1 : decode cX4_multiply 1 = .ok (.istore_n 3, 1) := by decide +kernel
theorem dX4_multiply_2 : decode cX4_multiply 2 = .ok (.iload_n 3, 1) := by decide +kernel
theorem dX4_multiply_3 : decode cX4_multiply 3 = .ok (.sipush 4000, 3) := by decide +kernel
theorem dX4_multiply_6 : decode cX4_multiply 6 = .ok (.if_icmp .ge 13, 3) := by decide +kernel
theorem dX4_multiply_9 : decode cX4_multiply 9 = .ok (.aload_n 1, 1) := by decide +kernel
theorem dX4_multiply_10 : decode cX4_multiply 10 = .ok (.iload_n 3, 1) := by decide +kernel
theorem dX4_multiply_11 : decode cX4_multiply 11 = .ok (.iconst 0, 1) := by decide +kernel
theorem dX4_multiply_12 : decode cX4_multiply 12 = .ok (.iastore, 1) := by decide +kernel
theorem dX4_multiply_13 : decode cX4_multiply 13 = .ok (.iinc 3 1, 3) := by decide +kernel
theorem dX4_multiply_16 : decode cX4_multiply 16 = .ok (.goto (-14), 3) := by decide +kernel
theorem dX4_multiply_19 : decode cX4_multiply 19 = .ok (.aload_n 1, 1) := by decide +kernel
theorem dX4_multiply_20 : decode cX4_multiply 20 = .ok (.iconst 0, 1) := by decide +kernel
theorem dX4_multiply_21 : decode cX4_multiply 21 = .ok (.iconst 1, 1) := by decide +kernel
theorem dX4_multiply_22 : decode cX4_multiply 22 = .ok (.iastore, 1) := by decide +kernel
theorem dX4_multiply_23 : decode cX4_multiply 23 = .ok (.aload_n 0, 1) := by decide +kernel
theorem dX4_multiply_24 : decode cX4_multiply 24 = .ok (.iconst 1, 1) := by decide +kernel
theorem dX4_multiply_25 : decode cX4_multiply 25 = .ok (.putfield 86, 3) := by decide +kernel
theorem dX4_multiply_28 : decode cX4_multiply 28 = .ok (.iconst 0, 1) := by decide +kernel
theorem dX4_multiply_29 : decode cX4_multiply 29 = .ok (.istore_n 3, 1) := by decide +kernel
theorem dX4_multiply_30 : decode cX4_multiply 30 = .ok (.iload_n 3, 1) := by decide +kernel
theorem dX4_multiply_31 : decode cX4_multiply 31 = .ok (.bipush 6, 2) := by decide +kernel
theorem dX4_multiply_33 : decode cX4_multiply 33 = .ok (.if_icmp .ge 73, 3) := by decide +kernel
theorem dX4_multiply_36 : decode cX4_multiply 36 = .ok (.iload_n 2, 1) := by decide +kernel
theorem dX4_multiply_37 : decode cX4_multiply 37 = .ok (.aload_n 0, 1) := by decide +kernel
theorem dX4_multiply_38 : decode cX4_multiply 38 = .ok (.getfield 25, 3) := by decide +kernel
theorem dX4_multiply_41 : decode cX4_multiply 41 = .ok (.iload_n 3, 1) := by decide +kernel
theorem dX4_multiply_42 : decode cX4_multiply 42 = .ok (.iaload, 1) := by decide +kernel
theorem dX4_multiply_43 : decode cX4_multiply 43 = .ok (.imul, 1) := by decide +kernel
theorem dX4_multiply_44 : decode cX4_multiply 44 = .ok (.istore 4, 2) := by decide +kernel
theorem dX4_multiply_46 : decode cX4_multiply 46 = .ok (.iload 4, 2) := by decide +kernel
theorem dX4_multiply_48 : decode cX4_multiply 48 = .ok (.ifCond .le 52, 3) := by decide +kernel
theorem dX4_multiply_51 : decode cX4_multiply 51 = .ok (.iconst 1, 1) := by decide +kernel
theorem dX4_multiply_52 : decode cX4_multiply 52 = .ok (.istore 5, 2) := by decide +kernel
theorem dX4_multiply_54 : decode cX4_multiply 54 = .ok (.iload 4, 2) := by decide +kernel
theorem dX4_multiply_56 : decode cX4_multiply 56 = .ok (.ifCond .le 34, 3) := by decide +kernel
theorem dX4_multiply_59 : decode cX4_multiply 59 = .ok (.iload 5, 2) := by decide +kernel
theorem dX4_multiply_61 : decode cX4_multiply 61 = .ok (.aload_n 0, 1) := by decide +kernel
theorem dX4_multiply_62 : decode cX4_multiply 62 = .ok (.getfield 22, 3) := by decide +kernel
theorem dX4_multiply_65 : decode cX4_multiply 65 = .ok (.iload_n 3, 1) := by decide +kernel
theorem dX4_multiply_66 : decode cX4_multiply 66 = .ok (.iaload, 1) := by decide +kernel
theorem dX4_multiply_67 : decode cX4_multiply 67 = .ok (.imul, 1) := by decide +kernel
theorem dX4_multiply_68 : decode cX4_multiply 68 = .ok (.ldc 90, 2) := by decide +kernel
theorem dX4_multiply_70 : decode cX4_multiply 70 = .ok (.if_icmp .ge 20, 3) := by decide +kernel
theorem dX4_multiply_73 : decode cX4_multiply 73 = .ok (.iload 5, 2) := by decide +kernel
theorem dX4_multiply_75 : decode cX4_multiply 75 = .ok (.aload_n 0, 1) := by decide +kernel
theorem dX4_multiply_76 : decode cX4_multiply 76 = .ok (.getfield 22, 3) := by decide +kernel
theorem dX4_multiply_79 : decode cX4_multiply 79 = .ok (.iload_n 3, 1) := by decide +kernel
theorem dX4_multiply_80 : decode cX4_multiply 80 = .ok (.iaload, 1) := by decide +kernel
theorem dX4_multiply_81 : decode cX4_multiply 81 = .ok (.imul, 1) := by decide +kernel
theorem dX4_multiply_82 : decode cX4_multiply 82 = .ok (.istore 5, 2) := by decide +kernel
theorem dX4_multiply_84 : decode cX4_multiply 84 = .ok (.iinc 4 (-1), 3) := by decide +kernel
theorem dX4_multiply_87 : decode cX4_multiply 87 = .ok (.goto (-33), 3) := by decide +kernel
theorem dX4_multiply_90 : decode cX4_multiply 90 = .ok (.aload_n 0, 1) := by decide +kernel
theorem dX4_multiply_91 : decode cX4_multiply 91 = .ok (.aload_n 1, 1) := by decide +kernel
theorem dX4_multiply_92 : decode cX4_multiply 92 = .ok (.iload 5, 2) := by decide +kernel
theorem dX4_multiply_94 : decode cX4_multiply 94 = .ok (.invokevirtual 91, 3) := by decide +kernel
theorem dX4_multiply_97 : decode cX4_multiply 97 = .ok (.goto (-51), 3) := by decide +kernel
theorem dX4_multiply_100 : decode cX4_multiply 100 = .ok (.iinc 3 1, 3) := by decide +kernel
theorem dX4_multiply_103 : decode cX4_multiply 103 = .ok (.goto (-73), 3) := by decide +kernel
theorem dX4_multiply_106 : decode cX4_multiply 106 = .ok (.return_, 1) := by decide +kernel
theorem dX4_times_0 : decode cX4_times 0 = .ok (.iconst 0, 1) := by decide +kernel
theorem dX4_times_1 : decode cX4_times 1 = .ok (.istore_n 3, 1) := by decide +kernel
theorem dX4_times_2 : decode cX4_times 2 = .ok (.iconst 0, 1) := by decide +kernel
theorem dX4_times_3 : decode cX4_times 3 = .ok (.istore 4, 2) := by decide +kernel
theorem dX4_times_5 : decode cX4_times 5 = .ok (.iload 4, 2) := by decide +kernel
theorem dX4_times_7 : decode cX4_times 7 = .ok (.aload_n 0, 1) := by decide +kernel
theorem dX4_times_8 : decode cX4_times 8 = .ok (.getfield 86, 3) := by decide +kernel
theorem dX4_times_11 : decode cX4_times 11 = .ok (.if_icmp .ge 34, 3) := by decide +kernel
theorem dX4_times_14 : decode cX4_times 14 = .ok (.aload_n 1, 1) := by decide +kernel
theorem dX4_times_15 : decode cX4_times 15 = .ok (.iload 4, 2) := by decide +kernel
theorem dX4_times_17 : decode cX4_times 17 = .ok (.iaload, 1) := by decide +kernel
theorem dX4_times_18 : decode cX4_times 18 = .ok (.iload_n 2, 1) := by decide +kernel
theorem dX4_times_19 : decode cX4_times 19 = .ok (.imul, 1) := by decide +kernel
theorem dX4_times_20 : decode cX4_times 20 = .ok (.iload_n 3, 1) := by decide +kernel
theorem dX4_times_21 : decode cX4_times 21 = .ok (.iadd, 1) := by decide +kernel
theorem dX4_times_22 : decode cX4_times 22 = .ok (.istore 5, 2) := by decide +kernel
theorem dX4_times_24 : decode cX4_times 24 = .ok (.aload_n 1, 1) := by decide +kernel
theorem dX4_times_25 : decode cX4_times 25 = .ok (.iload 4, 2) := by decide +kernel
theorem dX4_times_27 : decode cX4_times 27 = .ok (.iload 5, 2) := by decide +kernel
theorem dX4_times_29 : decode cX4_times 29 = .ok (.ldc 95, 2) := by decide +kernel
theorem dX4_times_31 : decode cX4_times 31 = .ok (.iand, 1) := by decide +kernel
theorem dX4_times_32 : decode cX4_times 32 = .ok (.iastore, 1) := by decide +kernel
theorem dX4_times_33 : decode cX4_times 33 = .ok (.iload 5, 2) := by decide +kernel
theorem dX4_times_35 : decode cX4_times 35 = .ok (.bipush 16, 2) := by decide +kernel
theorem dX4_times_37 : decode cX4_times 37 = .ok (.iushr, 1) := by decide +kernel
theorem dX4_times_38 : decode cX4_times 38 = .ok (.istore_n 3, 1) := by decide +kernel
theorem dX4_times_39 : decode cX4_times 39 = .ok (.iinc 4 1, 3) := by decide +kernel
theorem dX4_times_42 : decode cX4_times 42 = .ok (.goto (-37), 3) := by decide +kernel
theorem dX4_times_45 : decode cX4_times 45 = .ok (.iload_n 3, 1) := by decide +kernel
theorem dX4_times_46 : decode cX4_times 46 = .ok (.ifCond .ne 4, 3) := by decide +kernel
theorem dX4_times_49 : decode cX4_times 49 = .ok (.return_, 1) := by decide +kernel
theorem dX4_times_50 : decode cX4_times 50 = .ok (.aload_n 1, 1) := by decide +kernel
theorem dX4_times_51 : decode cX4_times 51 = .ok (.aload_n 0, 1) := by decide +kernel
theorem dX4_times_52 : decode cX4_times 52 = .ok (.getfield 86, 3) := by decide +kernel
theorem dX4_times_55 : decode cX4_times 55 = .ok (.iload_n 3, 1) := by decide +kernel
theorem dX4_times_56 : decode cX4_times 56 = .ok (.iastore, 1) := by decide +kernel
theorem dX4_times_57 : decode cX4_times 57 = .ok (.aload_n 0, 1) := by decide +kernel
theorem dX4_times_58 : decode cX4_times 58 = .ok (.dup, 1) := by decide +kernel
theorem dX4_times_59 : decode cX4_times 59 = .ok (.getfield 86, 3) := by decide +kernel
theorem dX4_times_62 : decode cX4_times 62 = .ok (.iconst 1, 1) := by decide +kernel
theorem dX4_times_63 : decode cX4_times 63 = .ok (.iadd, 1) := by decide +kernel
theorem dX4_times_64 : decode cX4_times 64 = .ok (.putfield 86, 3) := by decide +kernel
theorem dX4_times_67 : decode cX4_times 67 = .ok (.return_, 1) := by decide +kernel
set_option maxRecDepth 20000 in
theorem ggX4_signOf_X4_multiply : GoodIn wsX4_signOf wsX4_multiply := goodIn_r _ [8, 9, 1, 10, 11, 12, 13, 14, 7, 15, 16, 17, 18, 19, 20, 21, 22, 23, 24, 25, 26, 27, 28, 29, 30, 31] (by decide +kernel) (by decide +kernel)
set_option maxRecDepth 20000 in
theorem gX4_signOf_X4_multiply : GoodIn wsX4_signOf (wsV RX4 96 RX4 yX4_multiply wsX4_multiply) := goodIn_app (goodIn_of _ (by decide +kernel)) ggX4_signOf_X4_multiply
theorem dX4_signOf_0 : decode cX4_signOf 0 = .ok (.iconst 0, 1) := by decide +kernel
theorem dX4_signOf_1 : decode cX4_signOf 1 = .ok (.istore_n 1, 1) := by decide +kernel
theorem dX4_signOf_2 : decode cX4_signOf 2 = .ok (.iconst 0, 1) := by decide +kernel
theorem dX4_signOf_3 : decode cX4_signOf 3 = .ok (.istore_n 2, 1) := by decide +kernel
theorem dX4_signOf_4 : decode cX4_signOf 4 = .ok (.iconst 0, 1) := by decide +kernel
theorem dX4_signOf_5 : decode cX4_signOf 5 = .ok (.istore_n 3, 1) := by decide +kernel
theorem dX4_signOf_6 : decode cX4_signOf 6 = .ok (.iload_n 3, 1) := by decide +kernel
theorem dX4_signOf_7 : decode cX4_signOf 7 = .ok (.bipush 6, 2) := by decide +kernel
theorem dX4_signOf_9 : decode cX4_signOf 9 = .ok (.if_icmp .ge 47, 3) := by decide +kernel
theorem dX4_signOf_12 : decode cX4_signOf 12 = .ok (.iload_n 1, 1) := by decide +kernel
theorem dX4_signOf_13 : decode cX4_signOf 13 = .ok (.ifCond .ne 12, 3) := by decide +kernel
theorem dX4_signOf_16 : decode cX4_signOf 16 = .ok (.aload_n 0, 1) := by decide +kernel
theorem dX4_signOf_17 : decode cX4_signOf 17 = .ok (.getfield 25, 3) := by decide +kernel
theorem dX4_signOf_20 : decode cX4_signOf 20 = .ok (.iload_n 3, 1) := by decide +kernel
theorem dX4_signOf_21 : decode cX4_signOf 21 = .ok (.iaload, 1) := by decide +kernel
theorem dX4_signOf_22 : decode cX4_signOf 22 = .ok (.ifCond .le 7, 3) := by decide +kernel
theorem dX4_signOf_25 : decode cX4_signOf 25 = .ok (.iconst 1, 1) := by decide +kernel
theorem dX4_signOf_26 : decode cX4_signOf 26 = .ok (.goto 4, 3) := by decide +kernel
theorem dX4_signOf_29 : decode cX4_signOf 29 = .ok (.iconst 0, 1) := by decide +kernel
theorem dX4_signOf_30 : decode cX4_signOf 30 = .ok (.istore_n 1, 1) := by decide +kernel
theorem dX4_signOf_31 : decode cX4_signOf 31 = .ok (.iload_n 2, 1) := by decide +kernel
theorem dX4_signOf_32 : decode cX4_signOf 32 = .ok (.ifCond .ne 12, 3) := by decide +kernel
theorem dX4_signOf_35 : decode cX4_signOf 35 = .ok (.aload_n 0, 1) := by decide +kernel
theorem dX4_signOf_36 : decode cX4_signOf 36 = .ok (.getfield 25, 3) := by decide +kernel
theorem dX4_signOf_39 : decode cX4_signOf 39 = .ok (.iload_n 3, 1) := by decide +kernel
theorem dX4_signOf_40 : decode cX4_signOf 40 = .ok (.iaload, 1) := by decide +kernel
theorem dX4_signOf_41 : decode cX4_signOf 41 = .ok (.ifCond .ge 7, 3) := by decide +kernel
theorem dX4_signOf_44 : decode cX4_signOf 44 = .ok (.iconst 1, 1) := by decide +kernel
theorem dX4_signOf_45 : decode cX4_signOf 45 = .ok (.goto 4, 3) := by decide +kernel
theorem dX4_signOf_48 : decode cX4_signOf 48 = .ok (.iconst 0, 1) := by decide +kernel
theorem dX4_signOf_49 : decode cX4_signOf 49 = .ok (.istore_n 2, 1) := by decide +kernel
theorem dX4_signOf_50 : decode cX4_signOf 50 = .ok (.iinc 3 1, 3) := by decide +kernel
theorem dX4_signOf_53 : decode cX4_signOf 53 = .ok (.goto (-47), 3) := by decide +kernel
theorem dX4_signOf_56 : decode cX4_signOf 56 = .ok (.iload_n 1, 1) := by decide +kernel
theorem dX4_signOf_57 : decode cX4_signOf 57 = .ok (.ifCond .eq 7, 3) := by decide +kernel
theorem dX4_signOf_60 : decode cX4_signOf 60 = .ok (.iload_n 2, 1) := by decide +kernel
theorem dX4_signOf_61 : decode cX4_signOf 61 = .ok (.ifCond .ne 21, 3) := by decide +kernel
theorem dX4_signOf_64 : decode cX4_signOf 64 = .ok (.iload_n 1, 1) := by decide +kernel
theorem dX4_signOf_65 : decode cX4_signOf 65 = .ok (.ifCond .eq 7, 3) := by decide +kernel
theorem dX4_signOf_68 : decode cX4_signOf 68 = .ok (.iconst 1, 1) := by decide +kernel
theorem dX4_signOf_69 : decode cX4_signOf 69 = .ok (.goto 12, 3) := by decide +kernel
theorem dX4_signOf_72 : decode cX4_signOf 72 = .ok (.iload_n 2, 1) := by decide +kernel
theorem dX4_signOf_73 : decode cX4_signOf 73 = .ok (.ifCond .eq 7, 3) := by decide +kernel
theorem dX4_signOf_76 : decode cX4_signOf 76 = .ok (.iconst (-1), 1) := by decide +kernel
theorem dX4_signOf_77 : decode cX4_signOf 77 = .ok (.goto 4, 3) := by decide +kernel
theorem dX4_signOf_80 : decode cX4_signOf 80 = .ok (.iconst 0, 1) := by decide +kernel
theorem dX4_signOf_81 : decode cX4_signOf 81 = .ok (.ireturn, 1) := by decide +kernel
theorem dX4_signOf_82 : decode cX4_signOf 82 = .ok (.aload_n 0, 1) := by decide +kernel
theorem dX4_signOf_83 : decode cX4_signOf 83 = .ok (.aload_n 0, 1) := by decide +kernel
theorem dX4_signOf_84 : decode cX4_signOf 84 = .ok (.getfield 31, 3) := by decide +kernel
theorem dX4_signOf_87 : decode cX4_signOf 87 = .ok (.iconst 1, 1) := by decide +kernel
theorem dX4_signOf_88 : decode cX4_signOf 88 = .ok (.invokevirtual 96, 3) := by decide +kernel
theorem dX4_signOf_91 : decode cX4_signOf 91 = .ok (.aload_n 0, 1) := by decide +kernel
theorem dX4_signOf_92 : decode cX4_signOf 92 = .ok (.aload_n 0, 1) := by decide +kernel
theorem dX4_signOf_93 : decode cX4_signOf 93 = .ok (.getfield 34, 3) := by decide +kernel
theorem dX4_signOf_96 : decode cX4_signOf 96 = .ok (.iconst (-1), 1) := by decide +kernel
theorem dX4_signOf_97 : decode cX4_signOf 97 = .ok (.invokevirtual 96, 3) := by decide +kernel
theorem dX4_signOf_100 : decode cX4_signOf 100 = .ok (.sipush 3999, 3) := by decide +kernel
theorem dX4_signOf_103 : decode cX4_signOf 103 = .ok (.istore_n 3, 1) := by decide +kernel
theorem dX4_signOf_104 : decode cX4_signOf 104 = .ok (.iload_n 3, 1) := by decide +kernel
theorem dX4_signOf_105 : decode cX4_signOf 105 = .ok (.ifCond .lt 45, 3) := by decide +kernel
theorem dX4_signOf_108 : decode cX4_signOf 108 = .ok (.aload_n 0, 1) := by decide +kernel
theorem dX4_signOf_109 : decode cX4_signOf 109 = .ok (.getfield 31, 3) := by decide +kernel
theorem dX4_signOf_112 : decode cX4_signOf 112 = .ok (.iload_n 3, 1) := by decide +kernel
theorem dX4_signOf_113 : decode cX4_signOf 113 = .ok (.iaload, 1) := by decide +kernel
theorem dX4_signOf_114 : decode cX4_signOf 114 = .ok (.aload_n 0, 1) := by decide +kernel
theorem dX4_signOf_115 : decode cX4_signOf 115 = .ok (.getfield 34, 3) := by decide +kernel
theorem dX4_signOf_118 : decode cX4_signOf 118 = .ok (.iload_n 3, 1) := by decide +kernel
theorem dX4_signOf_119 : decode cX4_signOf 119 = .ok (.iaload, 1) := by decide +kernel
theorem dX4_signOf_120 : decode cX4_signOf 120 = .ok (.if_icmp .eq 24, 3) := by decide +kernel
theorem dX4_signOf_123 : decode cX4_signOf 123 = .ok (.aload_n 0, 1) := by decide +kernel
theorem dX4_signOf_124 : decode cX4_signOf 124 = .ok (.getfield 31, 3) := by decide +kernel
theorem dX4_signOf_127 : decode cX4_signOf 127 = .ok (.iload_n 3, 1) := by decide +kernel
theorem dX4_signOf_128 : decode cX4_signOf 128 = .ok (.iaload, 1) := by decide +kernel
theorem dX4_signOf_129 : decode cX4_signOf 129 = .ok (.aload_n 0, 1) := by decide +kernel
theorem dX4_signOf_130 : decode cX4_signOf 130 = .ok (.getfield 34, 3) := by decide +kernel
theorem dX4_signOf_133 : decode cX4_signOf 133 = .ok (.iload_n 3, 1) := by decide +kernel
theorem dX4_signOf_134 : decode cX4_signOf 134 = .ok (.iaload, 1) := by decide +kernel
theorem dX4_signOf_135 : decode cX4_signOf 135 = .ok (.if_icmp .le 7, 3) := by decide +kernel
theorem dX4_signOf_138 : decode cX4_signOf 138 = .ok (.iconst 1, 1) := by decide +kernel
theorem dX4_signOf_139 : decode cX4_signOf 139 = .ok (.goto 4, 3) := by decide +kernel
theorem dX4_signOf_142 : decode cX4_signOf 142 = .ok (.iconst (-1), 1) := by decide +kernel
theorem dX4_signOf_143 : decode cX4_signOf 143 = .ok (.ireturn, 1) := by decide +kernel
theorem dX4_signOf_144 : decode cX4_signOf 144 = .ok (.iinc 3 (-1), 3) := by decide +kernel
theorem dX4_signOf_147 : decode cX4_signOf 147 = .ok (.goto (-43), 3) := by decide +kernel
theorem dX4_signOf_150 : decode cX4_signOf 150 = .ok (.iconst 0, 1) := by decide +kernel
theorem dX4_signOf_151 : decode cX4_signOf 151 = .ok (.ireturn, 1) := by decide +kernel
set_option maxRecDepth 20000 in
theorem ggX4_sign_X4_isMade : GoodIn wsX4_sign wsX4_isMade := goodIn_r _ [5, 6, 7, 8, 4, 9, 10, 11, 12, 58, 59, 60, 61, 62, 63, 64, 65, 66, 67, 68, 69, 70, 71, 72] (by decide +kernel) (by decide +kernel)
set_option maxRecDepth 20000 in
theorem gX4_sign_X4_isMade : GoodIn wsX4_sign (wsV RX4 62 RX4 yX4_isMade wsX4_isMade) := goodIn_app (goodIn_of _ (by decide +kernel)) ggX4_sign_X4_isMade
set_option maxRecDepth 20000 in
theorem ggX4_sign_X4_isLaw : GoodIn wsX4_sign wsX4_isLaw := goodIn_r _ [15, 10, 11, 4, 12] (by decide +kernel) (by decide +kernel)
set_option maxRecDepth 20000 in
theorem gX4_sign_X4_isLaw : GoodIn wsX4_sign (va_wsS RX4 65 yX4_isLaw wsX4_isLaw) := goodIn_app (goodIn_of _ (by decide +kernel)) ggX4_sign_X4_isLaw
set_option maxRecDepth 20000 in
theorem ggX4_sign_X4_clear : GoodIn wsX4_sign wsX4_clear := goodIn_r _ [19, 20, 58, 59, 60, 61, 62, 63, 64, 65, 66, 67, 68, 69, 70, 71, 72] (by decide +kernel) (by decide +kernel)
set_option maxRecDepth 20000 in
theorem gX4_sign_X4_clear : GoodIn wsX4_sign (wsV RX4 99 RX4 yX4_clear wsX4_clear) := goodIn_app (goodIn_of _ (by decide +kernel)) ggX4_sign_X4_clear
set_option maxRecDepth 20000 in
theorem ggX4_sign_X4_lawIn : GoodIn wsX4_sign wsX4_lawIn := goodIn_r _ [24, 25, 26, 27, 28, 4, 29, 6, 30, 31, 32, 33, 34, 35, 36, 37, 38, 39, 40, 20, 58, 59, 60, 61, 62, 63, 64, 65, 66, 67, 68, 69, 70, 71, 72] (by decide +kernel) (by decide +kernel)
set_option maxRecDepth 20000 in
theorem gX4_sign_X4_lawIn : GoodIn wsX4_sign (wsV RX4 102 RX4 yX4_lawIn wsX4_lawIn) := goodIn_app (goodIn_of _ (by decide +kernel)) ggX4_sign_X4_lawIn
set_option maxRecDepth 20000 in
theorem ggX4_sign_X4_signOf : GoodIn wsX4_sign wsX4_signOf := goodIn_r _ [44, 20, 45, 46, 47, 48, 49, 4, 50, 51, 40, 52, 53, 54, 55, 56, 57, 58, 59, 60, 61, 62, 63, 64, 65, 66, 67, 68, 69, 70, 71, 72] (by decide +kernel) (by decide +kernel)
set_option maxRecDepth 20000 in
theorem gX4_sign_X4_signOf : GoodIn wsX4_sign (wsV RX4 105 RX4 yX4_signOf wsX4_signOf) := goodIn_app (goodIn_of _ (by decide +kernel)) ggX4_sign_X4_signOf
theorem dX4_sign_0 : decode cX4_sign 0 = .ok (.aload_n 0, 1) := by decide +kernel
theorem dX4_sign_1 : decode cX4_sign 1 = .ok (.iload_n 1, 1) := by decide +kernel
theorem dX4_sign_2 : decode cX4_sign 2 = .ok (.invokevirtual 62, 3) := by decide +kernel
theorem dX4_sign_5 : decode cX4_sign 5 = .ok (.ifCond .eq 10, 3) := by decide +kernel
theorem dX4_sign_8 : decode cX4_sign 8 = .ok (.iload_n 2, 1) := by decide +kernel
theorem dX4_sign_9 : decode cX4_sign 9 = .ok (.invokestatic 65, 3) := by decide +kernel
theorem dX4_sign_12 : decode cX4_sign 12 = .ok (.ifCond .ne 6, 3) := by decide +kernel
theorem dX4_sign_15 : decode cX4_sign 15 = .ok (.bipush (-2), 2) := by decide +kernel
theorem dX4_sign_17 : decode cX4_sign 17 = .ok (.ireturn, 1) := by decide +kernel
theorem dX4_sign_18 : decode cX4_sign 18 = .ok (.aload_n 0, 1) := by decide +kernel
theorem dX4_sign_19 : decode cX4_sign 19 = .ok (.invokevirtual 99, 3) := by decide +kernel
theorem dX4_sign_22 : decode cX4_sign 22 = .ok (.aload_n 0, 1) := by decide +kernel
theorem dX4_sign_23 : decode cX4_sign 23 = .ok (.iload_n 1, 1) := by decide +kernel
theorem dX4_sign_24 : decode cX4_sign 24 = .ok (.iload_n 2, 1) := by decide +kernel
theorem dX4_sign_25 : decode cX4_sign 25 = .ok (.iconst 1, 1) := by decide +kernel
theorem dX4_sign_26 : decode cX4_sign 26 = .ok (.invokevirtual 102, 3) := by decide +kernel
theorem dX4_sign_29 : decode cX4_sign 29 = .ok (.aload_n 0, 1) := by decide +kernel
theorem dX4_sign_30 : decode cX4_sign 30 = .ok (.invokevirtual 105, 3) := by decide +kernel
theorem dX4_sign_33 : decode cX4_sign 33 = .ok (.ireturn, 1) := by decide +kernel
set_option maxRecDepth 20000 in
theorem ggX4_compare_X4_isMade : GoodIn wsX4_compare wsX4_isMade := goodIn_r _ [6, 1, 7, 8, 5, 9, 10, 11, 12, 58, 59, 60, 61, 62, 63, 64, 65, 66, 67, 68, 69, 70, 71, 72] (by decide +kernel) (by decide +kernel)
set_option maxRecDepth 20000 in
theorem gX4_compare_X4_isMade : GoodIn wsX4_compare (wsV RX4 62 RX4 yX4_isMade wsX4_isMade) := goodIn_app (goodIn_of _ (by decide +kernel)) ggX4_compare_X4_isMade
set_option maxRecDepth 20000 in
theorem ggX4_compare_X4_isLaw : GoodIn wsX4_compare wsX4_isLaw := goodIn_r _ [15, 10, 11, 5, 12] (by decide +kernel) (by decide +kernel)
set_option maxRecDepth 20000 in
theorem gX4_compare_X4_isLaw : GoodIn wsX4_compare (va_wsS RX4 65 yX4_isLaw wsX4_isLaw) := goodIn_app (goodIn_of _ (by decide +kernel)) ggX4_compare_X4_isLaw
set_option maxRecDepth 20000 in
theorem ggX4_compare_X4_clear : GoodIn wsX4_compare wsX4_clear := goodIn_r _ [19, 20, 58, 59, 60, 61, 62, 63, 64, 65, 66, 67, 68, 69, 70, 71, 72] (by decide +kernel) (by decide +kernel)
set_option maxRecDepth 20000 in
theorem gX4_compare_X4_clear : GoodIn wsX4_compare (wsV RX4 99 RX4 yX4_clear wsX4_clear) := goodIn_app (goodIn_of _ (by decide +kernel)) ggX4_compare_X4_clear
set_option maxRecDepth 20000 in
theorem ggX4_compare_X4_lawIn : GoodIn wsX4_compare wsX4_lawIn := goodIn_r _ [24, 25, 26, 27, 28, 5, 29, 1, 30, 31, 32, 33, 34, 35, 36, 37, 38, 39, 40, 20, 58, 59, 60, 61, 62, 63, 64, 65, 66, 67, 68, 69, 70, 71, 72] (by decide +kernel) (by decide +kernel)
set_option maxRecDepth 20000 in
theorem gX4_compare_X4_lawIn : GoodIn wsX4_compare (wsV RX4 102 RX4 yX4_lawIn wsX4_lawIn) := goodIn_app (goodIn_of _ (by decide +kernel)) ggX4_compare_X4_lawIn
set_option maxRecDepth 20000 in
theorem ggX4_compare_X4_signOf : GoodIn wsX4_compare wsX4_signOf := goodIn_r _ [44, 20, 45, 46, 47, 48, 49, 5, 50, 51, 40, 52, 53, 54, 55, 56, 57, 58, 59, 60, 61, 62, 63, 64, 65, 66, 67, 68, 69, 70, 71, 72] (by decide +kernel) (by decide +kernel)
set_option maxRecDepth 20000 in
theorem gX4_compare_X4_signOf : GoodIn wsX4_compare (wsV RX4 105 RX4 yX4_signOf wsX4_signOf) := goodIn_app (goodIn_of _ (by decide +kernel)) ggX4_compare_X4_signOf
theorem dX4_compare_0 : decode cX4_compare 0 = .ok (.aload_n 0, 1) := by decide +kernel
theorem dX4_compare_1 : decode cX4_compare 1 = .ok (.iload_n 1, 1) := by decide +kernel
theorem dX4_compare_2 : decode cX4_compare 2 = .ok (.invokevirtual 62, 3) := by decide +kernel
theorem dX4_compare_5 : decode cX4_compare 5 = .ok (.ifCond .eq 26, 3) := by decide +kernel
theorem dX4_compare_8 : decode cX4_compare 8 = .ok (.iload_n 2, 1) := by decide +kernel
theorem dX4_compare_9 : decode cX4_compare 9 = .ok (.invokestatic 65, 3) := by decide +kernel
theorem dX4_compare_12 : decode cX4_compare 12 = .ok (.ifCond .eq 19, 3) := by decide +kernel
theorem dX4_compare_15 : decode cX4_compare 15 = .ok (.aload_n 0, 1) := by decide +kernel
theorem dX4_compare_16 : decode cX4_compare 16 = .ok (.iload_n 3, 1) := by decide +kernel
theorem dX4_compare_17 : decode cX4_compare 17 = .ok (.invokevirtual 62, 3) := by decide +kernel
theorem dX4_compare_20 : decode cX4_compare 20 = .ok (.ifCond .eq 11, 3) := by decide +kernel
theorem dX4_compare_23 : decode cX4_compare 23 = .ok (.iload 4, 2) := by decide +kernel
theorem dX4_compare_25 : decode cX4_compare 25 = .ok (.invokestatic 65, 3) := by decide +kernel
theorem dX4_compare_28 : decode cX4_compare 28 = .ok (.ifCond .ne 6, 3) := by decide +kernel
theorem dX4_compare_31 : decode cX4_compare 31 = .ok (.bipush (-2), 2) := by decide +kernel
theorem dX4_compare_33 : decode cX4_compare 33 = .ok (.ireturn, 1) := by decide +kernel
theorem dX4_compare_34 : decode cX4_compare 34 = .ok (.aload_n 0, 1) := by decide +kernel
theorem dX4_compare_35 : decode cX4_compare 35 = .ok (.invokevirtual 99, 3) := by decide +kernel
theorem dX4_compare_38 : decode cX4_compare 38 = .ok (.aload_n 0, 1) := by decide +kernel
theorem dX4_compare_39 : decode cX4_compare 39 = .ok (.iload_n 1, 1) := by decide +kernel
theorem dX4_compare_40 : decode cX4_compare 40 = .ok (.iload_n 2, 1) := by decide +kernel
theorem dX4_compare_41 : decode cX4_compare 41 = .ok (.aload_n 0, 1) := by decide +kernel
theorem dX4_compare_42 : decode cX4_compare 42 = .ok (.getfield 16, 3) := by decide +kernel
theorem dX4_compare_45 : decode cX4_compare 45 = .ok (.iload_n 3, 1) := by decide +kernel
theorem dX4_compare_46 : decode cX4_compare 46 = .ok (.iaload, 1) := by decide +kernel
theorem dX4_compare_47 : decode cX4_compare 47 = .ok (.invokevirtual 102, 3) := by decide +kernel
theorem dX4_compare_50 : decode cX4_compare 50 = .ok (.aload_n 0, 1) := by decide +kernel
theorem dX4_compare_51 : decode cX4_compare 51 = .ok (.iload_n 3, 1) := by decide +kernel
theorem dX4_compare_52 : decode cX4_compare 52 = .ok (.iload 4, 2) := by decide +kernel
theorem dX4_compare_54 : decode cX4_compare 54 = .ok (.aload_n 0, 1) := by decide +kernel
theorem dX4_compare_55 : decode cX4_compare 55 = .ok (.getfield 16, 3) := by decide +kernel
theorem dX4_compare_58 : decode cX4_compare 58 = .ok (.iload_n 1, 1) := by decide +kernel
theorem dX4_compare_59 : decode cX4_compare 59 = .ok (.iaload, 1) := by decide +kernel
theorem dX4_compare_60 : decode cX4_compare 60 = .ok (.ineg, 1) := by decide +kernel
theorem dX4_compare_61 : decode cX4_compare 61 = .ok (.invokevirtual 102, 3) := by decide +kernel
theorem dX4_compare_64 : decode cX4_compare 64 = .ok (.aload_n 0, 1) := by decide +kernel
theorem dX4_compare_65 : decode cX4_compare 65 = .ok (.invokevirtual 105, 3) := by decide +kernel
theorem dX4_compare_68 : decode cX4_compare 68 = .ok (.ireturn, 1) := by decide +kernel
set_option maxRecDepth 20000 in
theorem ggX4_near_X4_isMade : GoodIn wsX4_near wsX4_isMade := goodIn_r _ [7, 2, 8, 9, 6, 10, 11, 12, 13, 58, 59, 60, 61, 62, 63, 64, 65, 66, 67, 68, 69, 70, 71, 72] (by decide +kernel) (by decide +kernel)
set_option maxRecDepth 20000 in
theorem gX4_near_X4_isMade : GoodIn wsX4_near (wsV RX4 62 RX4 yX4_isMade wsX4_isMade) := goodIn_app (goodIn_of _ (by decide +kernel)) ggX4_near_X4_isMade
set_option maxRecDepth 20000 in
theorem ggX4_near_X4_isLaw : GoodIn wsX4_near wsX4_isLaw := goodIn_r _ [16, 11, 12, 6, 13] (by decide +kernel) (by decide +kernel)
set_option maxRecDepth 20000 in
theorem gX4_near_X4_isLaw : GoodIn wsX4_near (va_wsS RX4 65 yX4_isLaw wsX4_isLaw) := goodIn_app (goodIn_of _ (by decide +kernel)) ggX4_near_X4_isLaw
set_option maxRecDepth 20000 in
theorem ggX4_near_X4_clear : GoodIn wsX4_near wsX4_clear := goodIn_r _ [20, 1, 58, 59, 60, 61, 62, 63, 64, 65, 66, 67, 68, 69, 70, 71, 72] (by decide +kernel) (by decide +kernel)
set_option maxRecDepth 20000 in
theorem gX4_near_X4_clear : GoodIn wsX4_near (wsV RX4 99 RX4 yX4_clear wsX4_clear) := goodIn_app (goodIn_of _ (by decide +kernel)) ggX4_near_X4_clear
set_option maxRecDepth 20000 in
theorem ggX4_near_X4_lawIn : GoodIn wsX4_near wsX4_lawIn := goodIn_r _ [24, 25, 26, 27, 28, 6, 29, 2, 30, 31, 32, 33, 34, 35, 36, 37, 38, 39, 40, 1, 58, 59, 60, 61, 62, 63, 64, 65, 66, 67, 68, 69, 70, 71, 72] (by decide +kernel) (by decide +kernel)
set_option maxRecDepth 20000 in
theorem gX4_near_X4_lawIn : GoodIn wsX4_near (wsV RX4 102 RX4 yX4_lawIn wsX4_lawIn) := goodIn_app (goodIn_of _ (by decide +kernel)) ggX4_near_X4_lawIn
set_option maxRecDepth 20000 in
theorem ggX4_near_X4_signOf : GoodIn wsX4_near wsX4_signOf := goodIn_r _ [44, 1, 45, 46, 47, 48, 49, 6, 50, 51, 40, 52, 53, 54, 55, 56, 57, 58, 59, 60, 61, 62, 63, 64, 65, 66, 67, 68, 69, 70, 71, 72] (by decide +kernel) (by decide +kernel)
set_option maxRecDepth 20000 in
theorem gX4_near_X4_signOf : GoodIn wsX4_near (wsV RX4 105 RX4 yX4_signOf wsX4_signOf) := goodIn_app (goodIn_of _ (by decide +kernel)) ggX4_near_X4_signOf
theorem dX4_near_0 : decode cX4_near 0 = .ok (.aload_n 0, 1) := by decide +kernel
theorem dX4_near_1 : decode cX4_near 1 = .ok (.iload_n 1, 1) := by decide +kernel
theorem dX4_near_2 : decode cX4_near 2 = .ok (.invokevirtual 62, 3) := by decide +kernel
theorem dX4_near_5 : decode cX4_near 5 = .ok (.ifCond .eq 10, 3) := by decide +kernel
theorem dX4_near_8 : decode cX4_near 8 = .ok (.iload_n 2, 1) := by decide +kernel
theorem dX4_near_9 : decode cX4_near 9 = .ok (.invokestatic 65, 3) := by decide +kernel
theorem dX4_near_12 : decode cX4_near 12 = .ok (.ifCond .ne 7, 3) := by decide +kernel
theorem dX4_near_15 : decode cX4_near 15 = .ok (.sipush (-10000), 3) := by decide +kernel
theorem dX4_near_18 : decode cX4_near 18 = .ok (.ireturn, 1) := by decide +kernel
theorem dX4_near_19 : decode cX4_near 19 = .ok (.sipush (-1000), 3) := by decide +kernel
end
section
theorem dX4_near_22 : decode cX4_near 22 = .ok (.istore_n 3, 1) := by decide +kernel
theorem dX4_near_23 : decode cX4_near 23 = .ok (.sipush 1000, 3) := by decide +kernel
theorem dX4_near_26 : decode cX4_near 26 = .ok (.istore 4, 2) := by decide +kernel
theorem dX4_near_28 : decode cX4_near 28 = .ok (.iload 4, 2) := by decide +kernel
theorem dX4_near_30 : decode cX4_near 30 = .ok (.iload_n 3, 1) := by decide +kernel
theorem dX4_near_31 : decode cX4_near 31 = .ok (.isub, 1) := by decide +kernel
theorem dX4_near_32 : decode cX4_near 32 = .ok (.iconst 1, 1) := by decide +kernel
theorem dX4_near_33 : decode cX4_near 33 = .ok (.if_icmp .le 63, 3) := by decide +kernel
theorem dX4_near_36 : decode cX4_near 36 = .ok (.iload_n 3, 1) := by decide +kernel
theorem dX4_near_37 : decode cX4_near 37 = .ok (.iload 4, 2) := by decide +kernel
theorem dX4_near_39 : decode cX4_near 39 = .ok (.iload_n 3, 1) := by decide +kernel
theorem dX4_near_40 : decode cX4_near 40 = .ok (.isub, 1) := by decide +kernel
theorem dX4_near_41 : decode cX4_near 41 = .ok (.iconst 2, 1) := by decide +kernel
theorem dX4_near_42 : decode cX4_near 42 = .ok (.idiv, 1) := by decide +kernel
theorem dX4_near_43 : decode cX4_near 43 = .ok (.iadd, 1) := by decide +kernel
theorem dX4_near_44 : decode cX4_near 44 = .ok (.istore 5, 2) := by decide +kernel
theorem dX4_near_46 : decode cX4_near 46 = .ok (.aload_n 0, 1) := by decide +kernel
theorem dX4_near_47 : decode cX4_near 47 = .ok (.invokevirtual 99, 3) := by decide +kernel
theorem dX4_near_50 : decode cX4_near 50 = .ok (.aload_n 0, 1) := by decide +kernel
theorem dX4_near_51 : decode cX4_near 51 = .ok (.iload_n 1, 1) := by decide +kernel
theorem dX4_near_52 : decode cX4_near 52 = .ok (.iload_n 2, 1) := by decide +kernel
theorem dX4_near_53 : decode cX4_near 53 = .ok (.bipush 16, 2) := by decide +kernel
theorem dX4_near_55 : decode cX4_near 55 = .ok (.invokevirtual 102, 3) := by decide +kernel
theorem dX4_near_58 : decode cX4_near 58 = .ok (.aload_n 0, 1) := by decide +kernel
theorem dX4_near_59 : decode cX4_near 59 = .ok (.getfield 25, 3) := by decide +kernel
theorem dX4_near_62 : decode cX4_near 62 = .ok (.iconst 0, 1) := by decide +kernel
theorem dX4_near_63 : decode cX4_near 63 = .ok (.dup2, 1) := by decide +kernel
theorem dX4_near_64 : decode cX4_near 64 = .ok (.iaload, 1) := by decide +kernel
theorem dX4_near_65 : decode cX4_near 65 = .ok (.iload 5, 2) := by decide +kernel
theorem dX4_near_67 : decode cX4_near 67 = .ok (.aload_n 0, 1) := by decide +kernel
theorem dX4_near_68 : decode cX4_near 68 = .ok (.getfield 16, 3) := by decide +kernel
theorem dX4_near_71 : decode cX4_near 71 = .ok (.iload_n 1, 1) := by decide +kernel
theorem dX4_near_72 : decode cX4_near 72 = .ok (.iaload, 1) := by decide +kernel
theorem dX4_near_73 : decode cX4_near 73 = .ok (.imul, 1) := by decide +kernel
theorem dX4_near_74 : decode cX4_near 74 = .ok (.isub, 1) := by decide +kernel
theorem dX4_near_75 : decode cX4_near 75 = .ok (.iastore, 1) := by decide +kernel
theorem dX4_near_76 : decode cX4_near 76 = .ok (.aload_n 0, 1) := by decide +kernel
theorem dX4_near_77 : decode cX4_near 77 = .ok (.invokevirtual 105, 3) := by decide +kernel
theorem dX4_near_80 : decode cX4_near 80 = .ok (.ifCond .lt 9, 3) := by decide +kernel
theorem dX4_near_83 : decode cX4_near 83 = .ok (.iload 5, 2) := by decide +kernel
theorem dX4_near_85 : decode cX4_near 85 = .ok (.istore_n 3, 1) := by decide +kernel
theorem dX4_near_86 : decode cX4_near 86 = .ok (.goto 7, 3) := by decide +kernel
theorem dX4_near_89 : decode cX4_near 89 = .ok (.iload 5, 2) := by decide +kernel
theorem dX4_near_91 : decode cX4_near 91 = .ok (.istore 4, 2) := by decide +kernel
theorem dX4_near_93 : decode cX4_near 93 = .ok (.goto (-65), 3) := by decide +kernel
theorem dX4_near_96 : decode cX4_near 96 = .ok (.iload_n 3, 1) := by decide +kernel
theorem dX4_near_97 : decode cX4_near 97 = .ok (.ireturn, 1) := by decide +kernel
theorem dX4_rowOf_0 : decode cX4_rowOf 0 = .ok (.iload_n 0, 1) := by decide +kernel
theorem dX4_rowOf_1 : decode cX4_rowOf 1 = .ok (.iconst 3, 1) := by decide +kernel
theorem dX4_rowOf_2 : decode cX4_rowOf 2 = .ok (.if_icmp .ge 9, 3) := by decide +kernel
theorem dX4_rowOf_5 : decode cX4_rowOf 5 = .ok (.iload_n 1, 1) := by decide +kernel
theorem dX4_rowOf_6 : decode cX4_rowOf 6 = .ok (.iload_n 0, 1) := by decide +kernel
theorem dX4_rowOf_7 : decode cX4_rowOf 7 = .ok (.ishr, 1) := by decide +kernel
theorem dX4_rowOf_8 : decode cX4_rowOf 8 = .ok (.iconst 1, 1) := by decide +kernel
theorem dX4_rowOf_9 : decode cX4_rowOf 9 = .ok (.iand, 1) := by decide +kernel
theorem dX4_rowOf_10 : decode cX4_rowOf 10 = .ok (.ireturn, 1) := by decide +kernel
theorem dX4_rowOf_11 : decode cX4_rowOf 11 = .ok (.iload_n 0, 1) := by decide +kernel
theorem dX4_rowOf_12 : decode cX4_rowOf 12 = .ok (.iconst 3, 1) := by decide +kernel
theorem dX4_rowOf_13 : decode cX4_rowOf 13 = .ok (.if_icmp .ne 7, 3) := by decide +kernel
theorem dX4_rowOf_16 : decode cX4_rowOf 16 = .ok (.iconst 3, 1) := by decide +kernel
theorem dX4_rowOf_17 : decode cX4_rowOf 17 = .ok (.goto 14, 3) := by decide +kernel
theorem dX4_rowOf_20 : decode cX4_rowOf 20 = .ok (.iload_n 0, 1) := by decide +kernel
theorem dX4_rowOf_21 : decode cX4_rowOf 21 = .ok (.iconst 4, 1) := by decide +kernel
theorem dX4_rowOf_22 : decode cX4_rowOf 22 = .ok (.if_icmp .ne 7, 3) := by decide +kernel
theorem dX4_rowOf_25 : decode cX4_rowOf 25 = .ok (.iconst 5, 1) := by decide +kernel
theorem dX4_rowOf_26 : decode cX4_rowOf 26 = .ok (.goto 5, 3) := by decide +kernel
theorem dX4_rowOf_29 : decode cX4_rowOf 29 = .ok (.bipush 6, 2) := by decide +kernel
theorem dX4_rowOf_31 : decode cX4_rowOf 31 = .ok (.istore_n 2, 1) := by decide +kernel
theorem dX4_rowOf_32 : decode cX4_rowOf 32 = .ok (.iload_n 0, 1) := by decide +kernel
theorem dX4_rowOf_33 : decode cX4_rowOf 33 = .ok (.bipush 6, 2) := by decide +kernel
theorem dX4_rowOf_35 : decode cX4_rowOf 35 = .ok (.if_icmp .ge 15, 3) := by decide +kernel
theorem dX4_rowOf_38 : decode cX4_rowOf 38 = .ok (.iload_n 1, 1) := by decide +kernel
theorem dX4_rowOf_39 : decode cX4_rowOf 39 = .ok (.iload_n 2, 1) := by decide +kernel
theorem dX4_rowOf_40 : decode cX4_rowOf 40 = .ok (.iand, 1) := by decide +kernel
theorem dX4_rowOf_41 : decode cX4_rowOf 41 = .ok (.ifCond .eq 7, 3) := by decide +kernel
theorem dX4_rowOf_44 : decode cX4_rowOf 44 = .ok (.iconst 1, 1) := by decide +kernel
theorem dX4_rowOf_45 : decode cX4_rowOf 45 = .ok (.goto 4, 3) := by decide +kernel
theorem dX4_rowOf_48 : decode cX4_rowOf 48 = .ok (.iconst 0, 1) := by decide +kernel
theorem dX4_rowOf_49 : decode cX4_rowOf 49 = .ok (.ireturn, 1) := by decide +kernel
theorem dX4_rowOf_50 : decode cX4_rowOf 50 = .ok (.iload_n 0, 1) := by decide +kernel
theorem dX4_rowOf_51 : decode cX4_rowOf 51 = .ok (.bipush 6, 2) := by decide +kernel
theorem dX4_rowOf_53 : decode cX4_rowOf 53 = .ok (.if_icmp .eq 18, 3) := by decide +kernel
theorem dX4_rowOf_56 : decode cX4_rowOf 56 = .ok (.iload_n 1, 1) := by decide +kernel
theorem dX4_rowOf_57 : decode cX4_rowOf 57 = .ok (.iconst 1, 1) := by decide +kernel
theorem dX4_rowOf_58 : decode cX4_rowOf 58 = .ok (.if_icmp .eq 13, 3) := by decide +kernel
theorem dX4_rowOf_61 : decode cX4_rowOf 61 = .ok (.iload_n 1, 1) := by decide +kernel
theorem dX4_rowOf_62 : decode cX4_rowOf 62 = .ok (.iconst 2, 1) := by decide +kernel
theorem dX4_rowOf_63 : decode cX4_rowOf 63 = .ok (.if_icmp .eq 8, 3) := by decide +kernel
theorem dX4_rowOf_66 : decode cX4_rowOf 66 = .ok (.iload_n 1, 1) := by decide +kernel
theorem dX4_rowOf_67 : decode cX4_rowOf 67 = .ok (.iconst 4, 1) := by decide +kernel
theorem dX4_rowOf_68 : decode cX4_rowOf 68 = .ok (.if_icmp .ne 7, 3) := by decide +kernel
theorem dX4_rowOf_71 : decode cX4_rowOf 71 = .ok (.iconst 1, 1) := by decide +kernel
theorem dX4_rowOf_72 : decode cX4_rowOf 72 = .ok (.goto 4, 3) := by decide +kernel
theorem dX4_rowOf_75 : decode cX4_rowOf 75 = .ok (.iconst 2, 1) := by decide +kernel
theorem dX4_rowOf_76 : decode cX4_rowOf 76 = .ok (.ireturn, 1) := by decide +kernel
set_option maxRecDepth 20000 in
theorem ggX4_isGiven_X4_plainOf : GoodIn wsX4_isGiven wsX4_plainOf := goodIn_r _ [4, 5, 6, 3, 7] (by decide +kernel) (by decide +kernel)
set_option maxRecDepth 20000 in
theorem gX4_isGiven_X4_plainOf : GoodIn wsX4_isGiven (va_wsS RX4 72 yX4_plainOf wsX4_plainOf) := goodIn_app (goodIn_of _ (by decide +kernel)) ggX4_isGiven_X4_plainOf
set_option maxRecDepth 20000 in
theorem ggX4_isGiven_X4_rowOf : GoodIn wsX4_isGiven wsX4_rowOf := goodIn_r _ [10] (by decide +kernel) (by decide +kernel)
set_option maxRecDepth 20000 in
theorem gX4_isGiven_X4_rowOf : GoodIn wsX4_isGiven (va_wsS RX4 109 yX4_rowOf wsX4_rowOf) := goodIn_app (goodIn_of _ (by decide +kernel)) ggX4_isGiven_X4_rowOf
theorem dX4_isGiven_0 : decode cX4_isGiven 0 = .ok (.iconst 1, 1) := by decide +kernel
theorem dX4_isGiven_1 : decode cX4_isGiven 1 = .ok (.istore_n 3, 1) := by decide +kernel
theorem dX4_isGiven_2 : decode cX4_isGiven 2 = .ok (.iconst 0, 1) := by decide +kernel
theorem dX4_isGiven_3 : decode cX4_isGiven 3 = .ok (.istore 4, 2) := by decide +kernel
theorem dX4_isGiven_5 : decode cX4_isGiven 5 = .ok (.iload 4, 2) := by decide +kernel
theorem dX4_isGiven_7 : decode cX4_isGiven 7 = .ok (.bipush 9, 2) := by decide +kernel
theorem dX4_isGiven_9 : decode cX4_isGiven 9 = .ok (.if_icmp .ge 71, 3) := by decide +kernel
theorem dX4_isGiven_12 : decode cX4_isGiven 12 = .ok (.iconst 0, 1) := by decide +kernel
theorem dX4_isGiven_13 : decode cX4_isGiven 13 = .ok (.istore 5, 2) := by decide +kernel
theorem dX4_isGiven_15 : decode cX4_isGiven 15 = .ok (.iconst 1, 1) := by decide +kernel
theorem dX4_isGiven_16 : decode cX4_isGiven 16 = .ok (.istore 6, 2) := by decide +kernel
theorem dX4_isGiven_18 : decode cX4_isGiven 18 = .ok (.iload 6, 2) := by decide +kernel
theorem dX4_isGiven_20 : decode cX4_isGiven 20 = .ok (.bipush 8, 2) := by decide +kernel
theorem dX4_isGiven_22 : decode cX4_isGiven 22 = .ok (.if_icmp .ge 28, 3) := by decide +kernel
theorem dX4_isGiven_25 : decode cX4_isGiven 25 = .ok (.iload 5, 2) := by decide +kernel
theorem dX4_isGiven_27 : decode cX4_isGiven 27 = .ok (.iload 4, 2) := by decide +kernel
theorem dX4_isGiven_29 : decode cX4_isGiven 29 = .ok (.iload 6, 2) := by decide +kernel
theorem dX4_isGiven_31 : decode cX4_isGiven 31 = .ok (.invokestatic 72, 3) := by decide +kernel
theorem dX4_isGiven_34 : decode cX4_isGiven 34 = .ok (.iload_n 1, 1) := by decide +kernel
theorem dX4_isGiven_35 : decode cX4_isGiven 35 = .ok (.iload 6, 2) := by decide +kernel
theorem dX4_isGiven_37 : decode cX4_isGiven 37 = .ok (.invokestatic 109, 3) := by decide +kernel
theorem dX4_isGiven_40 : decode cX4_isGiven 40 = .ok (.imul, 1) := by decide +kernel
theorem dX4_isGiven_41 : decode cX4_isGiven 41 = .ok (.iadd, 1) := by decide +kernel
theorem dX4_isGiven_42 : decode cX4_isGiven 42 = .ok (.istore 5, 2) := by decide +kernel
theorem dX4_isGiven_44 : decode cX4_isGiven 44 = .ok (.iinc 6 1, 3) := by decide +kernel
theorem dX4_isGiven_47 : decode cX4_isGiven 47 = .ok (.goto (-29), 3) := by decide +kernel
theorem dX4_isGiven_50 : decode cX4_isGiven 50 = .ok (.iload_n 3, 1) := by decide +kernel
theorem dX4_isGiven_51 : decode cX4_isGiven 51 = .ok (.ifCond .eq 21, 3) := by decide +kernel
theorem dX4_isGiven_54 : decode cX4_isGiven 54 = .ok (.iload_n 2, 1) := by decide +kernel
theorem dX4_isGiven_55 : decode cX4_isGiven 55 = .ok (.iload 4, 2) := by decide +kernel
theorem dX4_isGiven_57 : decode cX4_isGiven 57 = .ok (.ishr, 1) := by decide +kernel
theorem dX4_isGiven_58 : decode cX4_isGiven 58 = .ok (.iconst 1, 1) := by decide +kernel
theorem dX4_isGiven_59 : decode cX4_isGiven 59 = .ok (.iand, 1) := by decide +kernel
theorem dX4_isGiven_60 : decode cX4_isGiven 60 = .ok (.ifCond .eq 8, 3) := by decide +kernel
theorem dX4_isGiven_63 : decode cX4_isGiven 63 = .ok (.iload 5, 2) := by decide +kernel
theorem dX4_isGiven_65 : decode cX4_isGiven 65 = .ok (.ifCond .ne 7, 3) := by decide +kernel
theorem dX4_isGiven_68 : decode cX4_isGiven 68 = .ok (.iconst 1, 1) := by decide +kernel
theorem dX4_isGiven_69 : decode cX4_isGiven 69 = .ok (.goto 4, 3) := by decide +kernel
theorem dX4_isGiven_72 : decode cX4_isGiven 72 = .ok (.iconst 0, 1) := by decide +kernel
theorem dX4_isGiven_73 : decode cX4_isGiven 73 = .ok (.istore_n 3, 1) := by decide +kernel
theorem dX4_isGiven_74 : decode cX4_isGiven 74 = .ok (.iinc 4 1, 3) := by decide +kernel
theorem dX4_isGiven_77 : decode cX4_isGiven 77 = .ok (.goto (-72), 3) := by decide +kernel
theorem dX4_isGiven_80 : decode cX4_isGiven 80 = .ok (.iload_n 3, 1) := by decide +kernel
theorem dX4_isGiven_81 : decode cX4_isGiven 81 = .ok (.ireturn, 1) := by decide +kernel
set_option maxRecDepth 20000 in
theorem ggX4_always_X4_isLaw : GoodIn wsX4_always wsX4_isLaw := goodIn_r _ [4, 5, 6, 3, 7] (by decide +kernel) (by decide +kernel)
set_option maxRecDepth 20000 in
theorem gX4_always_X4_isLaw : GoodIn wsX4_always (va_wsS RX4 65 yX4_isLaw wsX4_isLaw) := goodIn_app (goodIn_of _ (by decide +kernel)) ggX4_always_X4_isLaw
set_option maxRecDepth 20000 in
theorem ggX4_always_X4_isIn : GoodIn wsX4_always wsX4_isIn := goodIn_r _ [7] (by decide +kernel) (by decide +kernel)
set_option maxRecDepth 20000 in
theorem gX4_always_X4_isIn : GoodIn wsX4_always (va_wsS RX4 50 yX4_isIn wsX4_isIn) := goodIn_app (goodIn_of _ (by decide +kernel)) ggX4_always_X4_isIn
set_option maxRecDepth 20000 in
theorem ggX4_always_X4_breaks : GoodIn wsX4_always wsX4_breaks := goodIn_r _ [11, 12, 1, 2, 3, 4, 5, 6, 7, 13, 14, 15, 16, 17, 18, 19, 20, 21, 22, 23, 24, 25, 26, 27, 28, 29, 30, 31, 32, 33, 34, 35, 36, 37, 38, 39, 40] (by decide +kernel) (by decide +kernel)
set_option maxRecDepth 20000 in
theorem gX4_always_X4_breaks : GoodIn wsX4_always (wsV RX4 112 RX4 yX4_breaks wsX4_breaks) := goodIn_app (goodIn_of _ (by decide +kernel)) ggX4_always_X4_breaks
theorem dX4_always_0 : decode cX4_always 0 = .ok (.iload_n 1, 1) := by decide +kernel
theorem dX4_always_1 : decode cX4_always 1 = .ok (.invokestatic 65, 3) := by decide +kernel
theorem dX4_always_4 : decode cX4_always 4 = .ok (.ifCond .eq 14, 3) := by decide +kernel
theorem dX4_always_7 : decode cX4_always 7 = .ok (.iload_n 2, 1) := by decide +kernel
theorem dX4_always_8 : decode cX4_always 8 = .ok (.iconst 0, 1) := by decide +kernel
theorem dX4_always_9 : decode cX4_always 9 = .ok (.sipush 511, 3) := by decide +kernel
theorem dX4_always_12 : decode cX4_always 12 = .ok (.invokestatic 50, 3) := by decide +kernel
theorem dX4_always_15 : decode cX4_always 15 = .ok (.ifCond .ne 7, 3) := by decide +kernel
theorem dX4_always_18 : decode cX4_always 18 = .ok (.iconst (-1), 1) := by decide +kernel
theorem dX4_always_19 : decode cX4_always 19 = .ok (.goto 18, 3) := by decide +kernel
theorem dX4_always_22 : decode cX4_always 22 = .ok (.aload_n 0, 1) := by decide +kernel
theorem dX4_always_23 : decode cX4_always 23 = .ok (.iload_n 1, 1) := by decide +kernel
theorem dX4_always_24 : decode cX4_always 24 = .ok (.iload_n 2, 1) := by decide +kernel
theorem dX4_always_25 : decode cX4_always 25 = .ok (.invokevirtual 112, 3) := by decide +kernel
theorem dX4_always_28 : decode cX4_always 28 = .ok (.iconst (-1), 1) := by decide +kernel
theorem dX4_always_29 : decode cX4_always 29 = .ok (.if_icmp .ne 7, 3) := by decide +kernel
theorem dX4_always_32 : decode cX4_always 32 = .ok (.iconst 1, 1) := by decide +kernel
theorem dX4_always_33 : decode cX4_always 33 = .ok (.goto 4, 3) := by decide +kernel
theorem dX4_always_36 : decode cX4_always 36 = .ok (.iconst 0, 1) := by decide +kernel
theorem dX4_always_37 : decode cX4_always 37 = .ok (.ireturn, 1) := by decide +kernel
set_option maxRecDepth 20000 in
theorem ggX4_breaks_X4_isLaw : GoodIn wsX4_breaks wsX4_isLaw := goodIn_r _ [5, 6, 7, 4, 8] (by decide +kernel) (by decide +kernel)
set_option maxRecDepth 20000 in
theorem gX4_breaks_X4_isLaw : GoodIn wsX4_breaks (va_wsS RX4 65 yX4_isLaw wsX4_isLaw) := goodIn_app (goodIn_of _ (by decide +kernel)) ggX4_breaks_X4_isLaw
set_option maxRecDepth 20000 in
theorem ggX4_breaks_X4_isIn : GoodIn wsX4_breaks wsX4_isIn := goodIn_r _ [8] (by decide +kernel) (by decide +kernel)
set_option maxRecDepth 20000 in
theorem gX4_breaks_X4_isIn : GoodIn wsX4_breaks (va_wsS RX4 50 yX4_isIn wsX4_isIn) := goodIn_app (goodIn_of _ (by decide +kernel)) ggX4_breaks_X4_isIn
set_option maxRecDepth 20000 in
theorem ggX4_breaks_X4_rowOf : GoodIn wsX4_breaks wsX4_rowOf := goodIn_r _ [11] (by decide +kernel) (by decide +kernel)
set_option maxRecDepth 20000 in
theorem gX4_breaks_X4_rowOf : GoodIn wsX4_breaks (va_wsS RX4 109 yX4_rowOf wsX4_rowOf) := goodIn_app (goodIn_of _ (by decide +kernel)) ggX4_breaks_X4_rowOf
set_option maxRecDepth 20000 in
theorem ggX4_breaks_X4_isGiven : GoodIn wsX4_breaks wsX4_isGiven := goodIn_r _ [15, 16, 17, 4, 18, 19, 20, 21, 9, 10, 11] (by decide +kernel) (by decide +kernel)
set_option maxRecDepth 20000 in
theorem gX4_breaks_X4_isGiven : GoodIn wsX4_breaks (wsV RX4 115 RX4 yX4_isGiven wsX4_isGiven) := goodIn_app (goodIn_of _ (by decide +kernel)) ggX4_breaks_X4_isGiven
theorem dX4_breaks_0 : decode cX4_breaks 0 = .ok (.iload_n 1, 1) := by decide +kernel
theorem dX4_breaks_1 : decode cX4_breaks 1 = .ok (.invokestatic 65, 3) := by decide +kernel
theorem dX4_breaks_4 : decode cX4_breaks 4 = .ok (.ifCond .eq 14, 3) := by decide +kernel
theorem dX4_breaks_7 : decode cX4_breaks 7 = .ok (.iload_n 2, 1) := by decide +kernel
theorem dX4_breaks_8 : decode cX4_breaks 8 = .ok (.iconst 0, 1) := by decide +kernel
theorem dX4_breaks_9 : decode cX4_breaks 9 = .ok (.sipush 511, 3) := by decide +kernel
theorem dX4_breaks_12 : decode cX4_breaks 12 = .ok (.invokestatic 50, 3) := by decide +kernel
theorem dX4_breaks_15 : decode cX4_breaks 15 = .ok (.ifCond .ne 5, 3) := by decide +kernel
theorem dX4_breaks_18 : decode cX4_breaks 18 = .ok (.iconst (-1), 1) := by decide +kernel
theorem dX4_breaks_19 : decode cX4_breaks 19 = .ok (.ireturn, 1) := by decide +kernel
theorem dX4_breaks_20 : decode cX4_breaks 20 = .ok (.iconst 0, 1) := by decide +kernel
theorem dX4_breaks_21 : decode cX4_breaks 21 = .ok (.istore_n 3, 1) := by decide +kernel
theorem dX4_breaks_22 : decode cX4_breaks 22 = .ok (.iload_n 3, 1) := by decide +kernel
theorem dX4_breaks_23 : decode cX4_breaks 23 = .ok (.bipush 8, 2) := by decide +kernel
theorem dX4_breaks_25 : decode cX4_breaks 25 = .ok (.if_icmp .ge 68, 3) := by decide +kernel
theorem dX4_breaks_28 : decode cX4_breaks 28 = .ok (.iconst 0, 1) := by decide +kernel
theorem dX4_breaks_29 : decode cX4_breaks 29 = .ok (.istore 4, 2) := by decide +kernel
theorem dX4_breaks_31 : decode cX4_breaks 31 = .ok (.iconst 1, 1) := by decide +kernel
theorem dX4_breaks_32 : decode cX4_breaks 32 = .ok (.istore 5, 2) := by decide +kernel
theorem dX4_breaks_34 : decode cX4_breaks 34 = .ok (.iload 5, 2) := by decide +kernel
theorem dX4_breaks_36 : decode cX4_breaks 36 = .ok (.bipush 8, 2) := by decide +kernel
theorem dX4_breaks_38 : decode cX4_breaks 38 = .ok (.if_icmp .ge 33, 3) := by decide +kernel
theorem dX4_breaks_41 : decode cX4_breaks 41 = .ok (.iload 4, 2) := by decide +kernel
theorem dX4_breaks_43 : decode cX4_breaks 43 = .ok (.aload_n 0, 1) := by decide +kernel
theorem dX4_breaks_44 : decode cX4_breaks 44 = .ok (.getfield 19, 3) := by decide +kernel
theorem dX4_breaks_47 : decode cX4_breaks 47 = .ok (.bipush 8, 2) := by decide +kernel
theorem dX4_breaks_49 : decode cX4_breaks 49 = .ok (.iload_n 1, 1) := by decide +kernel
theorem dX4_breaks_50 : decode cX4_breaks 50 = .ok (.imul, 1) := by decide +kernel
theorem dX4_breaks_51 : decode cX4_breaks 51 = .ok (.iload 5, 2) := by decide +kernel
theorem dX4_breaks_53 : decode cX4_breaks 53 = .ok (.iadd, 1) := by decide +kernel
theorem dX4_breaks_54 : decode cX4_breaks 54 = .ok (.iaload, 1) := by decide +kernel
theorem dX4_breaks_55 : decode cX4_breaks 55 = .ok (.iload_n 3, 1) := by decide +kernel
theorem dX4_breaks_56 : decode cX4_breaks 56 = .ok (.iload 5, 2) := by decide +kernel
theorem dX4_breaks_58 : decode cX4_breaks 58 = .ok (.invokestatic 109, 3) := by decide +kernel
theorem dX4_breaks_61 : decode cX4_breaks 61 = .ok (.imul, 1) := by decide +kernel
theorem dX4_breaks_62 : decode cX4_breaks 62 = .ok (.iadd, 1) := by decide +kernel
theorem dX4_breaks_63 : decode cX4_breaks 63 = .ok (.istore 4, 2) := by decide +kernel
theorem dX4_breaks_65 : decode cX4_breaks 65 = .ok (.iinc 5 1, 3) := by decide +kernel
theorem dX4_breaks_68 : decode cX4_breaks 68 = .ok (.goto (-34), 3) := by decide +kernel
theorem dX4_breaks_71 : decode cX4_breaks 71 = .ok (.iload 4, 2) := by decide +kernel
theorem dX4_breaks_73 : decode cX4_breaks 73 = .ok (.ifCond .ge 14, 3) := by decide +kernel
theorem dX4_breaks_76 : decode cX4_breaks 76 = .ok (.aload_n 0, 1) := by decide +kernel
theorem dX4_breaks_77 : decode cX4_breaks 77 = .ok (.iload_n 3, 1) := by decide +kernel
theorem dX4_breaks_78 : decode cX4_breaks 78 = .ok (.iload_n 2, 1) := by decide +kernel
theorem dX4_breaks_79 : decode cX4_breaks 79 = .ok (.invokevirtual 115, 3) := by decide +kernel
theorem dX4_breaks_82 : decode cX4_breaks 82 = .ok (.ifCond .eq 5, 3) := by decide +kernel
theorem dX4_breaks_85 : decode cX4_breaks 85 = .ok (.iload_n 3, 1) := by decide +kernel
theorem dX4_breaks_86 : decode cX4_breaks 86 = .ok (.ireturn, 1) := by decide +kernel
theorem dX4_breaks_87 : decode cX4_breaks 87 = .ok (.iinc 3 1, 3) := by decide +kernel
theorem dX4_breaks_90 : decode cX4_breaks 90 = .ok (.goto (-68), 3) := by decide +kernel
theorem dX4_breaks_93 : decode cX4_breaks 93 = .ok (.iconst (-1), 1) := by decide +kernel
theorem dX4_breaks_94 : decode cX4_breaks 94 = .ok (.ireturn, 1) := by decide +kernel
theorem dX4_common_0 : decode cX4_common 0 = .ok (.lload_n 0, 1) := by decide +kernel
theorem dX4_common_1 : decode cX4_common 1 = .ok (.invokestatic 119, 3) := by decide +kernel
theorem dX4_common_4 : decode cX4_common 4 = .ok (.lstore 4, 2) := by decide +kernel
theorem dX4_common_6 : decode cX4_common 6 = .ok (.lload_n 2, 1) := by decide +kernel
theorem dX4_common_7 : decode cX4_common 7 = .ok (.invokestatic 119, 3) := by decide +kernel
theorem dX4_common_10 : decode cX4_common 10 = .ok (.lstore 6, 2) := by decide +kernel
theorem dX4_common_12 : decode cX4_common 12 = .ok (.lload 6, 2) := by decide +kernel
theorem dX4_common_14 : decode cX4_common 14 = .ok (.lconst 0, 1) := by decide +kernel
theorem dX4_common_15 : decode cX4_common 15 = .ok (.lcmp, 1) := by decide +kernel
theorem dX4_common_16 : decode cX4_common 16 = .ok (.ifCond .eq 21, 3) := by decide +kernel
theorem dX4_common_19 : decode cX4_common 19 = .ok (.lload 4, 2) := by decide +kernel
theorem dX4_common_21 : decode cX4_common 21 = .ok (.lload 6, 2) := by decide +kernel
theorem dX4_common_23 : decode cX4_common 23 = .ok (.lrem, 1) := by decide +kernel
theorem dX4_common_24 : decode cX4_common 24 = .ok (.lstore 8, 2) := by decide +kernel
theorem dX4_common_26 : decode cX4_common 26 = .ok (.lload 6, 2) := by decide +kernel
theorem dX4_common_28 : decode cX4_common 28 = .ok (.lstore 4, 2) := by decide +kernel
theorem dX4_common_30 : decode cX4_common 30 = .ok (.lload 8, 2) := by decide +kernel
theorem dX4_common_32 : decode cX4_common 32 = .ok (.lstore 6, 2) := by decide +kernel
theorem dX4_common_34 : decode cX4_common 34 = .ok (.goto (-22), 3) := by decide +kernel
theorem dX4_common_37 : decode cX4_common 37 = .ok (.lload 4, 2) := by decide +kernel
theorem dX4_common_39 : decode cX4_common 39 = .ok (.lreturn, 1) := by decide +kernel
set_option maxRecDepth 20000 in
theorem ggX4_solve_X4_plainOf : GoodIn wsX4_solve wsX4_plainOf := goodIn_r _ [12, 13, 14, 11, 15] (by decide +kernel) (by decide +kernel)
set_option maxRecDepth 20000 in
theorem gX4_solve_X4_plainOf : GoodIn wsX4_solve (va_wsS RX4 72 yX4_plainOf wsX4_plainOf) := goodIn_app (goodIn_of _ (by decide +kernel)) ggX4_solve_X4_plainOf
set_option maxRecDepth 20000 in
theorem ggX4_solve_X4_takeOff : GoodIn wsX4_solve wsX4_takeOff := goodIn_r _ [19, 1, 20, 21, 11, 22, 5, 6, 7, 8, 23, 24, 25, 26, 27, 28, 29, 30, 31, 32, 33, 34, 35, 36, 37] (by decide +kernel) (by decide +kernel)
set_option maxRecDepth 20000 in
theorem gX4_solve_X4_takeOff : GoodIn wsX4_solve (wsV RX4 125 RX4 yX4_takeOff wsX4_takeOff) := goodIn_app (goodIn_of _ (by decide +kernel)) ggX4_solve_X4_takeOff
set_option maxRecDepth 20000 in
theorem ggX4_solve_X4_common : GoodIn wsX4_solve wsX4_common := goodIn_r _ [22, 5, 6, 7, 8] (by decide +kernel) (by decide +kernel)
set_option maxRecDepth 20000 in
theorem gX4_solve_X4_common : GoodIn wsX4_solve (va_wsS RX4 128 yX4_common wsX4_common) := goodIn_app (goodIn_of _ (by decide +kernel)) ggX4_solve_X4_common
theorem dX4_solve_0 : decode cX4_solve 0 = .ok (.iconst 1, 1) := by decide +kernel
theorem dX4_solve_1 : decode cX4_solve 1 = .ok (.istore 4, 2) := by decide +kernel
theorem dX4_solve_3 : decode cX4_solve 3 = .ok (.iload 4, 2) := by decide +kernel
theorem dX4_solve_5 : decode cX4_solve 5 = .ok (.bipush 8, 2) := by decide +kernel
theorem dX4_solve_7 : decode cX4_solve 7 = .ok (.if_icmp .ge 97, 3) := by decide +kernel
theorem dX4_solve_10 : decode cX4_solve 10 = .ok (.iconst 0, 1) := by decide +kernel
theorem dX4_solve_11 : decode cX4_solve 11 = .ok (.istore 5, 2) := by decide +kernel
theorem dX4_solve_13 : decode cX4_solve 13 = .ok (.iconst 0, 1) := by decide +kernel
theorem dX4_solve_14 : decode cX4_solve 14 = .ok (.istore 6, 2) := by decide +kernel
theorem dX4_solve_16 : decode cX4_solve 16 = .ok (.iload 6, 2) := by decide +kernel
theorem dX4_solve_18 : decode cX4_solve 18 = .ok (.bipush 9, 2) := by decide +kernel
theorem dX4_solve_20 : decode cX4_solve 20 = .ok (.if_icmp .ge 50, 3) := by decide +kernel
theorem dX4_solve_23 : decode cX4_solve 23 = .ok (.iload 6, 2) := by decide +kernel
theorem dX4_solve_25 : decode cX4_solve 25 = .ok (.iload_n 2, 1) := by decide +kernel
theorem dX4_solve_26 : decode cX4_solve 26 = .ok (.if_icmp .eq 38, 3) := by decide +kernel
theorem dX4_solve_29 : decode cX4_solve 29 = .ok (.iload 6, 2) := by decide +kernel
theorem dX4_solve_31 : decode cX4_solve 31 = .ok (.iload_n 3, 1) := by decide +kernel
theorem dX4_solve_32 : decode cX4_solve 32 = .ok (.if_icmp .ne 6, 3) := by decide +kernel
theorem dX4_solve_35 : decode cX4_solve 35 = .ok (.goto 29, 3) := by decide +kernel
theorem dX4_solve_38 : decode cX4_solve 38 = .ok (.aload_n 0, 1) := by decide +kernel
theorem dX4_solve_39 : decode cX4_solve 39 = .ok (.getfield 37, 3) := by decide +kernel
theorem dX4_solve_42 : decode cX4_solve 42 = .ok (.bipush 8, 2) := by decide +kernel
theorem dX4_solve_44 : decode cX4_solve 44 = .ok (.iload 4, 2) := by decide +kernel
theorem dX4_solve_46 : decode cX4_solve 46 = .ok (.iconst 1, 1) := by decide +kernel
theorem dX4_solve_47 : decode cX4_solve 47 = .ok (.isub, 1) := by decide +kernel
theorem dX4_solve_48 : decode cX4_solve 48 = .ok (.imul, 1) := by decide +kernel
theorem dX4_solve_49 : decode cX4_solve 49 = .ok (.iload 5, 2) := by decide +kernel
theorem dX4_solve_51 : decode cX4_solve 51 = .ok (.iadd, 1) := by decide +kernel
theorem dX4_solve_52 : decode cX4_solve 52 = .ok (.iload 6, 2) := by decide +kernel
theorem dX4_solve_54 : decode cX4_solve 54 = .ok (.iload 4, 2) := by decide +kernel
theorem dX4_solve_56 : decode cX4_solve 56 = .ok (.invokestatic 72, 3) := by decide +kernel
theorem dX4_solve_59 : decode cX4_solve 59 = .ok (.i2l, 1) := by decide +kernel
theorem dX4_solve_60 : decode cX4_solve 60 = .ok (.lastore, 1) := by decide +kernel
theorem dX4_solve_61 : decode cX4_solve 61 = .ok (.iinc 5 1, 3) := by decide +kernel
theorem dX4_solve_64 : decode cX4_solve 64 = .ok (.iinc 6 1, 3) := by decide +kernel
theorem dX4_solve_67 : decode cX4_solve 67 = .ok (.goto (-51), 3) := by decide +kernel
theorem dX4_solve_70 : decode cX4_solve 70 = .ok (.aload_n 0, 1) := by decide +kernel
theorem dX4_solve_71 : decode cX4_solve 71 = .ok (.getfield 37, 3) := by decide +kernel
theorem dX4_solve_74 : decode cX4_solve 74 = .ok (.bipush 8, 2) := by decide +kernel
theorem dX4_solve_76 : decode cX4_solve 76 = .ok (.iload 4, 2) := by decide +kernel
theorem dX4_solve_78 : decode cX4_solve 78 = .ok (.iconst 1, 1) := by decide +kernel
theorem dX4_solve_79 : decode cX4_solve 79 = .ok (.isub, 1) := by decide +kernel
theorem dX4_solve_80 : decode cX4_solve 80 = .ok (.imul, 1) := by decide +kernel
theorem dX4_solve_81 : decode cX4_solve 81 = .ok (.bipush 7, 2) := by decide +kernel
theorem dX4_solve_83 : decode cX4_solve 83 = .ok (.iadd, 1) := by decide +kernel
theorem dX4_solve_84 : decode cX4_solve 84 = .ok (.aload_n 0, 1) := by decide +kernel
theorem dX4_solve_85 : decode cX4_solve 85 = .ok (.getfield 19, 3) := by decide +kernel
theorem dX4_solve_88 : decode cX4_solve 88 = .ok (.bipush 8, 2) := by decide +kernel
theorem dX4_solve_90 : decode cX4_solve 90 = .ok (.iload_n 1, 1) := by decide +kernel
theorem dX4_solve_91 : decode cX4_solve 91 = .ok (.imul, 1) := by decide +kernel
theorem dX4_solve_92 : decode cX4_solve 92 = .ok (.iload 4, 2) := by decide +kernel
theorem dX4_solve_94 : decode cX4_solve 94 = .ok (.iadd, 1) := by decide +kernel
theorem dX4_solve_95 : decode cX4_solve 95 = .ok (.iaload, 1) := by decide +kernel
theorem dX4_solve_96 : decode cX4_solve 96 = .ok (.i2l, 1) := by decide +kernel
theorem dX4_solve_97 : decode cX4_solve 97 = .ok (.lastore, 1) := by decide +kernel
theorem dX4_solve_98 : decode cX4_solve 98 = .ok (.iinc 4 1, 3) := by decide +kernel
theorem dX4_solve_101 : decode cX4_solve 101 = .ok (.goto (-98), 3) := by decide +kernel
theorem dX4_solve_104 : decode cX4_solve 104 = .ok (.iconst 0, 1) := by decide +kernel
theorem dX4_solve_105 : decode cX4_solve 105 = .ok (.istore 4, 2) := by decide +kernel
theorem dX4_solve_107 : decode cX4_solve 107 = .ok (.iload 4, 2) := by decide +kernel
theorem dX4_solve_109 : decode cX4_solve 109 = .ok (.bipush 7, 2) := by decide +kernel
theorem dX4_solve_111 : decode cX4_solve 111 = .ok (.if_icmp .ge 174, 3) := by decide +kernel
theorem dX4_solve_114 : decode cX4_solve 114 = .ok (.iload 4, 2) := by decide +kernel
theorem dX4_solve_116 : decode cX4_solve 116 = .ok (.istore 5, 2) := by decide +kernel
theorem dX4_solve_118 : decode cX4_solve 118 = .ok (.iload 5, 2) := by decide +kernel
theorem dX4_solve_120 : decode cX4_solve 120 = .ok (.bipush 7, 2) := by decide +kernel
theorem dX4_solve_122 : decode cX4_solve 122 = .ok (.if_icmp .ge 27, 3) := by decide +kernel
theorem dX4_solve_125 : decode cX4_solve 125 = .ok (.aload_n 0, 1) := by decide +kernel
theorem dX4_solve_126 : decode cX4_solve 126 = .ok (.getfield 37, 3) := by decide +kernel
theorem dX4_solve_129 : decode cX4_solve 129 = .ok (.bipush 8, 2) := by decide +kernel
theorem dX4_solve_131 : decode cX4_solve 131 = .ok (.iload 5, 2) := by decide +kernel
theorem dX4_solve_133 : decode cX4_solve 133 = .ok (.imul, 1) := by decide +kernel
theorem dX4_solve_134 : decode cX4_solve 134 = .ok (.iload 4, 2) := by decide +kernel
theorem dX4_solve_136 : decode cX4_solve 136 = .ok (.iadd, 1) := by decide +kernel
theorem dX4_solve_137 : decode cX4_solve 137 = .ok (.laload, 1) := by decide +kernel
theorem dX4_solve_138 : decode cX4_solve 138 = .ok (.lconst 0, 1) := by decide +kernel
theorem dX4_solve_139 : decode cX4_solve 139 = .ok (.lcmp, 1) := by decide +kernel
theorem dX4_solve_140 : decode cX4_solve 140 = .ok (.ifCond .ne 9, 3) := by decide +kernel
theorem dX4_solve_143 : decode cX4_solve 143 = .ok (.iinc 5 1, 3) := by decide +kernel
theorem dX4_solve_146 : decode cX4_solve 146 = .ok (.goto (-28), 3) := by decide +kernel
theorem dX4_solve_149 : decode cX4_solve 149 = .ok (.iload 5, 2) := by decide +kernel
theorem dX4_solve_151 : decode cX4_solve 151 = .ok (.bipush 7, 2) := by decide +kernel
theorem dX4_solve_153 : decode cX4_solve 153 = .ok (.if_icmp .ne 5, 3) := by decide +kernel
theorem dX4_solve_156 : decode cX4_solve 156 = .ok (.iconst 0, 1) := by decide +kernel
theorem dX4_solve_157 : decode cX4_solve 157 = .ok (.ireturn, 1) := by decide +kernel
theorem dX4_solve_158 : decode cX4_solve 158 = .ok (.iconst 0, 1) := by decide +kernel
theorem dX4_solve_159 : decode cX4_solve 159 = .ok (.istore 6, 2) := by decide +kernel
theorem dX4_solve_161 : decode cX4_solve 161 = .ok (.iload 6, 2) := by decide +kernel
theorem dX4_solve_163 : decode cX4_solve 163 = .ok (.bipush 8, 2) := by decide +kernel
theorem dX4_solve_165 : decode cX4_solve 165 = .ok (.if_icmp .ge 65, 3) := by decide +kernel
theorem dX4_solve_168 : decode cX4_solve 168 = .ok (.aload_n 0, 1) := by decide +kernel
theorem dX4_solve_169 : decode cX4_solve 169 = .ok (.getfield 37, 3) := by decide +kernel
theorem dX4_solve_172 : decode cX4_solve 172 = .ok (.bipush 8, 2) := by decide +kernel
theorem dX4_solve_174 : decode cX4_solve 174 = .ok (.iload 4, 2) := by decide +kernel
theorem dX4_solve_176 : decode cX4_solve 176 = .ok (.imul, 1) := by decide +kernel
theorem dX4_solve_177 : decode cX4_solve 177 = .ok (.iload 6, 2) := by decide +kernel
theorem dX4_solve_179 : decode cX4_solve 179 = .ok (.iadd, 1) := by decide +kernel
theorem dX4_solve_180 : decode cX4_solve 180 = .ok (.laload, 1) := by decide +kernel
theorem dX4_solve_181 : decode cX4_solve 181 = .ok (.lstore 7, 2) := by decide +kernel
theorem dX4_solve_183 : decode cX4_solve 183 = .ok (.aload_n 0, 1) := by decide +kernel
theorem dX4_solve_184 : decode cX4_solve 184 = .ok (.getfield 37, 3) := by decide +kernel
theorem dX4_solve_187 : decode cX4_solve 187 = .ok (.bipush 8, 2) := by decide +kernel
theorem dX4_solve_189 : decode cX4_solve 189 = .ok (.iload 4, 2) := by decide +kernel
theorem dX4_solve_191 : decode cX4_solve 191 = .ok (.imul, 1) := by decide +kernel
theorem dX4_solve_192 : decode cX4_solve 192 = .ok (.iload 6, 2) := by decide +kernel
theorem dX4_solve_194 : decode cX4_solve 194 = .ok (.iadd, 1) := by decide +kernel
theorem dX4_solve_195 : decode cX4_solve 195 = .ok (.aload_n 0, 1) := by decide +kernel
theorem dX4_solve_196 : decode cX4_solve 196 = .ok (.getfield 37, 3) := by decide +kernel
theorem dX4_solve_199 : decode cX4_solve 199 = .ok (.bipush 8, 2) := by decide +kernel
theorem dX4_solve_201 : decode cX4_solve 201 = .ok (.iload 5, 2) := by decide +kernel
theorem dX4_solve_203 : decode cX4_solve 203 = .ok (.imul, 1) := by decide +kernel
theorem dX4_solve_204 : decode cX4_solve 204 = .ok (.iload 6, 2) := by decide +kernel
theorem dX4_solve_206 : decode cX4_solve 206 = .ok (.iadd, 1) := by decide +kernel
theorem dX4_solve_207 : decode cX4_solve 207 = .ok (.laload, 1) := by decide +kernel
theorem dX4_solve_208 : decode cX4_solve 208 = .ok (.lastore, 1) := by decide +kernel
theorem dX4_solve_209 : decode cX4_solve 209 = .ok (.aload_n 0, 1) := by decide +kernel
theorem dX4_solve_210 : decode cX4_solve 210 = .ok (.getfield 37, 3) := by decide +kernel
theorem dX4_solve_213 : decode cX4_solve 213 = .ok (.bipush 8, 2) := by decide +kernel
theorem dX4_solve_215 : decode cX4_solve 215 = .ok (.iload 5, 2) := by decide +kernel
theorem dX4_solve_217 : decode cX4_solve 217 = .ok (.imul, 1) := by decide +kernel
theorem dX4_solve_218 : decode cX4_solve 218 = .ok (.iload 6, 2) := by decide +kernel
theorem dX4_solve_220 : decode cX4_solve 220 = .ok (.iadd, 1) := by decide +kernel
theorem dX4_solve_221 : decode cX4_solve 221 = .ok (.lload 7, 2) := by decide +kernel
theorem dX4_solve_223 : decode cX4_solve 223 = .ok (.lastore, 1) := by decide +kernel
theorem dX4_solve_224 : decode cX4_solve 224 = .ok (.iinc 6 1, 3) := by decide +kernel
theorem dX4_solve_227 : decode cX4_solve 227 = .ok (.goto (-66), 3) := by decide +kernel
theorem dX4_solve_230 : decode cX4_solve 230 = .ok (.iconst 0, 1) := by decide +kernel
theorem dX4_solve_231 : decode cX4_solve 231 = .ok (.istore 6, 2) := by decide +kernel
theorem dX4_solve_233 : decode cX4_solve 233 = .ok (.iload 6, 2) := by decide +kernel
theorem dX4_solve_235 : decode cX4_solve 235 = .ok (.bipush 7, 2) := by decide +kernel
theorem dX4_solve_237 : decode cX4_solve 237 = .ok (.if_icmp .ge 42, 3) := by decide +kernel
theorem dX4_solve_240 : decode cX4_solve 240 = .ok (.iload 6, 2) := by decide +kernel
theorem dX4_solve_242 : decode cX4_solve 242 = .ok (.iload 4, 2) := by decide +kernel
theorem dX4_solve_244 : decode cX4_solve 244 = .ok (.if_icmp .eq 29, 3) := by decide +kernel
theorem dX4_solve_247 : decode cX4_solve 247 = .ok (.aload_n 0, 1) := by decide +kernel
theorem dX4_solve_248 : decode cX4_solve 248 = .ok (.getfield 37, 3) := by decide +kernel
theorem dX4_solve_251 : decode cX4_solve 251 = .ok (.bipush 8, 2) := by decide +kernel
theorem dX4_solve_253 : decode cX4_solve 253 = .ok (.iload 6, 2) := by decide +kernel
theorem dX4_solve_255 : decode cX4_solve 255 = .ok (.imul, 1) := by decide +kernel
theorem dX4_solve_256 : decode cX4_solve 256 = .ok (.iload 4, 2) := by decide +kernel
theorem dX4_solve_258 : decode cX4_solve 258 = .ok (.iadd, 1) := by decide +kernel
theorem dX4_solve_259 : decode cX4_solve 259 = .ok (.laload, 1) := by decide +kernel
theorem dX4_solve_260 : decode cX4_solve 260 = .ok (.lconst 0, 1) := by decide +kernel
theorem dX4_solve_261 : decode cX4_solve 261 = .ok (.lcmp, 1) := by decide +kernel
theorem dX4_solve_262 : decode cX4_solve 262 = .ok (.ifCond .eq 11, 3) := by decide +kernel
theorem dX4_solve_265 : decode cX4_solve 265 = .ok (.aload_n 0, 1) := by decide +kernel
theorem dX4_solve_266 : decode cX4_solve 266 = .ok (.iload 6, 2) := by decide +kernel
theorem dX4_solve_268 : decode cX4_solve 268 = .ok (.iload 4, 2) := by decide +kernel
theorem dX4_solve_270 : decode cX4_solve 270 = .ok (.invokevirtual 125, 3) := by decide +kernel
theorem dX4_solve_273 : decode cX4_solve 273 = .ok (.iinc 6 1, 3) := by decide +kernel
theorem dX4_solve_276 : decode cX4_solve 276 = .ok (.goto (-43), 3) := by decide +kernel
theorem dX4_solve_279 : decode cX4_solve 279 = .ok (.iinc 4 1, 3) := by decide +kernel
theorem dX4_solve_282 : decode cX4_solve 282 = .ok (.goto (-175), 3) := by decide +kernel
theorem dX4_solve_285 : decode cX4_solve 285 = .ok (.iconst 0, 1) := by decide +kernel
theorem dX4_solve_286 : decode cX4_solve 286 = .ok (.istore 4, 2) := by decide +kernel
theorem dX4_solve_288 : decode cX4_solve 288 = .ok (.iconst 0, 1) := by decide +kernel
theorem dX4_solve_289 : decode cX4_solve 289 = .ok (.istore 5, 2) := by decide +kernel
theorem dX4_solve_291 : decode cX4_solve 291 = .ok (.iload 5, 2) := by decide +kernel
theorem dX4_solve_293 : decode cX4_solve 293 = .ok (.bipush 9, 2) := by decide +kernel
theorem dX4_solve_295 : decode cX4_solve 295 = .ok (.if_icmp .ge 125, 3) := by decide +kernel
theorem dX4_solve_298 : decode cX4_solve 298 = .ok (.aload_n 0, 1) := by decide +kernel
theorem dX4_solve_299 : decode cX4_solve 299 = .ok (.getfield 41, 3) := by decide +kernel
theorem dX4_solve_302 : decode cX4_solve 302 = .ok (.iload 5, 2) := by decide +kernel
theorem dX4_solve_304 : decode cX4_solve 304 = .ok (.lconst 0, 1) := by decide +kernel
theorem dX4_solve_305 : decode cX4_solve 305 = .ok (.lastore, 1) := by decide +kernel
theorem dX4_solve_306 : decode cX4_solve 306 = .ok (.aload_n 0, 1) := by decide +kernel
theorem dX4_solve_307 : decode cX4_solve 307 = .ok (.getfield 44, 3) := by decide +kernel
theorem dX4_solve_310 : decode cX4_solve 310 = .ok (.iload 5, 2) := by decide +kernel
theorem dX4_solve_312 : decode cX4_solve 312 = .ok (.lconst 1, 1) := by decide +kernel
theorem dX4_solve_313 : decode cX4_solve 313 = .ok (.lastore, 1) := by decide +kernel
theorem dX4_solve_314 : decode cX4_solve 314 = .ok (.iload 5, 2) := by decide +kernel
theorem dX4_solve_316 : decode cX4_solve 316 = .ok (.iload_n 2, 1) := by decide +kernel
theorem dX4_solve_317 : decode cX4_solve 317 = .ok (.if_icmp .eq 97, 3) := by decide +kernel
theorem dX4_solve_320 : decode cX4_solve 320 = .ok (.iload 5, 2) := by decide +kernel
theorem dX4_solve_322 : decode cX4_solve 322 = .ok (.iload_n 3, 1) := by decide +kernel
theorem dX4_solve_323 : decode cX4_solve 323 = .ok (.if_icmp .ne 6, 3) := by decide +kernel
theorem dX4_solve_326 : decode cX4_solve 326 = .ok (.goto 88, 3) := by decide +kernel
theorem dX4_solve_329 : decode cX4_solve 329 = .ok (.aload_n 0, 1) := by decide +kernel
theorem dX4_solve_330 : decode cX4_solve 330 = .ok (.getfield 37, 3) := by decide +kernel
theorem dX4_solve_333 : decode cX4_solve 333 = .ok (.bipush 8, 2) := by decide +kernel
theorem dX4_solve_335 : decode cX4_solve 335 = .ok (.iload 4, 2) := by decide +kernel
theorem dX4_solve_337 : decode cX4_solve 337 = .ok (.imul, 1) := by decide +kernel
theorem dX4_solve_338 : decode cX4_solve 338 = .ok (.bipush 7, 2) := by decide +kernel
theorem dX4_solve_340 : decode cX4_solve 340 = .ok (.iadd, 1) := by decide +kernel
theorem dX4_solve_341 : decode cX4_solve 341 = .ok (.laload, 1) := by decide +kernel
theorem dX4_solve_342 : decode cX4_solve 342 = .ok (.lstore 6, 2) := by decide +kernel
theorem dX4_solve_344 : decode cX4_solve 344 = .ok (.aload_n 0, 1) := by decide +kernel
theorem dX4_solve_345 : decode cX4_solve 345 = .ok (.getfield 37, 3) := by decide +kernel
end
section
theorem dX4_solve_348 : decode cX4_solve 348 = .ok (.bipush 8, 2) := by decide +kernel
theorem dX4_solve_350 : decode cX4_solve 350 = .ok (.iload 4, 2) := by decide +kernel
theorem dX4_solve_352 : decode cX4_solve 352 = .ok (.imul, 1) := by decide +kernel
theorem dX4_solve_353 : decode cX4_solve 353 = .ok (.iload 4, 2) := by decide +kernel
theorem dX4_solve_355 : decode cX4_solve 355 = .ok (.iadd, 1) := by decide +kernel
theorem dX4_solve_356 : decode cX4_solve 356 = .ok (.laload, 1) := by decide +kernel
theorem dX4_solve_357 : decode cX4_solve 357 = .ok (.lstore 8, 2) := by decide +kernel
theorem dX4_solve_359 : decode cX4_solve 359 = .ok (.lload 6, 2) := by decide +kernel
theorem dX4_solve_361 : decode cX4_solve 361 = .ok (.lload 8, 2) := by decide +kernel
theorem dX4_solve_363 : decode cX4_solve 363 = .ok (.invokestatic 128, 3) := by decide +kernel
theorem dX4_solve_366 : decode cX4_solve 366 = .ok (.lstore 10, 2) := by decide +kernel
theorem dX4_solve_368 : decode cX4_solve 368 = .ok (.aload_n 0, 1) := by decide +kernel
theorem dX4_solve_369 : decode cX4_solve 369 = .ok (.getfield 41, 3) := by decide +kernel
theorem dX4_solve_372 : decode cX4_solve 372 = .ok (.iload 5, 2) := by decide +kernel
theorem dX4_solve_374 : decode cX4_solve 374 = .ok (.lload 8, 2) := by decide +kernel
theorem dX4_solve_376 : decode cX4_solve 376 = .ok (.lconst 0, 1) := by decide +kernel
theorem dX4_solve_377 : decode cX4_solve 377 = .ok (.lcmp, 1) := by decide +kernel
theorem dX4_solve_378 : decode cX4_solve 378 = .ok (.ifCond .ge 12, 3) := by decide +kernel
theorem dX4_solve_381 : decode cX4_solve 381 = .ok (.lload 6, 2) := by decide +kernel
theorem dX4_solve_383 : decode cX4_solve 383 = .ok (.lneg, 1) := by decide +kernel
theorem dX4_solve_384 : decode cX4_solve 384 = .ok (.lload 10, 2) := by decide +kernel
theorem dX4_solve_386 : decode cX4_solve 386 = .ok (.ldiv, 1) := by decide +kernel
theorem dX4_solve_387 : decode cX4_solve 387 = .ok (.goto 8, 3) := by decide +kernel
theorem dX4_solve_390 : decode cX4_solve 390 = .ok (.lload 6, 2) := by decide +kernel
theorem dX4_solve_392 : decode cX4_solve 392 = .ok (.lload 10, 2) := by decide +kernel
theorem dX4_solve_394 : decode cX4_solve 394 = .ok (.ldiv, 1) := by decide +kernel
theorem dX4_solve_395 : decode cX4_solve 395 = .ok (.lastore, 1) := by decide +kernel
theorem dX4_solve_396 : decode cX4_solve 396 = .ok (.aload_n 0, 1) := by decide +kernel
theorem dX4_solve_397 : decode cX4_solve 397 = .ok (.getfield 44, 3) := by decide +kernel
theorem dX4_solve_400 : decode cX4_solve 400 = .ok (.iload 5, 2) := by decide +kernel
theorem dX4_solve_402 : decode cX4_solve 402 = .ok (.lload 8, 2) := by decide +kernel
theorem dX4_solve_404 : decode cX4_solve 404 = .ok (.invokestatic 119, 3) := by decide +kernel
theorem dX4_solve_407 : decode cX4_solve 407 = .ok (.lload 10, 2) := by decide +kernel
theorem dX4_solve_409 : decode cX4_solve 409 = .ok (.ldiv, 1) := by decide +kernel
theorem dX4_solve_410 : decode cX4_solve 410 = .ok (.lastore, 1) := by decide +kernel
theorem dX4_solve_411 : decode cX4_solve 411 = .ok (.iinc 4 1, 3) := by decide +kernel
theorem dX4_solve_414 : decode cX4_solve 414 = .ok (.iinc 5 1, 3) := by decide +kernel
theorem dX4_solve_417 : decode cX4_solve 417 = .ok (.goto (-126), 3) := by decide +kernel
theorem dX4_solve_420 : decode cX4_solve 420 = .ok (.iconst 1, 1) := by decide +kernel
theorem dX4_solve_421 : decode cX4_solve 421 = .ok (.ireturn, 1) := by decide +kernel
set_option maxRecDepth 20000 in
theorem ggX4_takeOff_X4_common : GoodIn wsX4_takeOff wsX4_common := goodIn_r _ [5, 6, 7, 8, 9] (by decide +kernel) (by decide +kernel)
set_option maxRecDepth 20000 in
theorem gX4_takeOff_X4_common : GoodIn wsX4_takeOff (va_wsS RX4 128 yX4_common wsX4_common) := goodIn_app (goodIn_of _ (by decide +kernel)) ggX4_takeOff_X4_common
theorem dX4_takeOff_0 : decode cX4_takeOff 0 = .ok (.aload_n 0, 1) := by decide +kernel
theorem dX4_takeOff_1 : decode cX4_takeOff 1 = .ok (.getfield 37, 3) := by decide +kernel
theorem dX4_takeOff_4 : decode cX4_takeOff 4 = .ok (.bipush 8, 2) := by decide +kernel
theorem dX4_takeOff_6 : decode cX4_takeOff 6 = .ok (.iload_n 2, 1) := by decide +kernel
theorem dX4_takeOff_7 : decode cX4_takeOff 7 = .ok (.imul, 1) := by decide +kernel
theorem dX4_takeOff_8 : decode cX4_takeOff 8 = .ok (.iload_n 2, 1) := by decide +kernel
theorem dX4_takeOff_9 : decode cX4_takeOff 9 = .ok (.iadd, 1) := by decide +kernel
theorem dX4_takeOff_10 : decode cX4_takeOff 10 = .ok (.laload, 1) := by decide +kernel
theorem dX4_takeOff_11 : decode cX4_takeOff 11 = .ok (.lstore_n 3, 1) := by decide +kernel
theorem dX4_takeOff_12 : decode cX4_takeOff 12 = .ok (.aload_n 0, 1) := by decide +kernel
theorem dX4_takeOff_13 : decode cX4_takeOff 13 = .ok (.getfield 37, 3) := by decide +kernel
theorem dX4_takeOff_16 : decode cX4_takeOff 16 = .ok (.bipush 8, 2) := by decide +kernel
theorem dX4_takeOff_18 : decode cX4_takeOff 18 = .ok (.iload_n 1, 1) := by decide +kernel
theorem dX4_takeOff_19 : decode cX4_takeOff 19 = .ok (.imul, 1) := by decide +kernel
theorem dX4_takeOff_20 : decode cX4_takeOff 20 = .ok (.iload_n 2, 1) := by decide +kernel
theorem dX4_takeOff_21 : decode cX4_takeOff 21 = .ok (.iadd, 1) := by decide +kernel
theorem dX4_takeOff_22 : decode cX4_takeOff 22 = .ok (.laload, 1) := by decide +kernel
theorem dX4_takeOff_23 : decode cX4_takeOff 23 = .ok (.lstore 5, 2) := by decide +kernel
theorem dX4_takeOff_25 : decode cX4_takeOff 25 = .ok (.lconst 0, 1) := by decide +kernel
theorem dX4_takeOff_26 : decode cX4_takeOff 26 = .ok (.lstore 7, 2) := by decide +kernel
theorem dX4_takeOff_28 : decode cX4_takeOff 28 = .ok (.iconst 0, 1) := by decide +kernel
theorem dX4_takeOff_29 : decode cX4_takeOff 29 = .ok (.istore 9, 2) := by decide +kernel
theorem dX4_takeOff_31 : decode cX4_takeOff 31 = .ok (.iload 9, 2) := by decide +kernel
theorem dX4_takeOff_33 : decode cX4_takeOff 33 = .ok (.bipush 8, 2) := by decide +kernel
theorem dX4_takeOff_35 : decode cX4_takeOff 35 = .ok (.if_icmp .ge 70, 3) := by decide +kernel
theorem dX4_takeOff_38 : decode cX4_takeOff 38 = .ok (.aload_n 0, 1) := by decide +kernel
theorem dX4_takeOff_39 : decode cX4_takeOff 39 = .ok (.getfield 37, 3) := by decide +kernel
theorem dX4_takeOff_42 : decode cX4_takeOff 42 = .ok (.bipush 8, 2) := by decide +kernel
theorem dX4_takeOff_44 : decode cX4_takeOff 44 = .ok (.iload_n 1, 1) := by decide +kernel
theorem dX4_takeOff_45 : decode cX4_takeOff 45 = .ok (.imul, 1) := by decide +kernel
theorem dX4_takeOff_46 : decode cX4_takeOff 46 = .ok (.iload 9, 2) := by decide +kernel
theorem dX4_takeOff_48 : decode cX4_takeOff 48 = .ok (.iadd, 1) := by decide +kernel
theorem dX4_takeOff_49 : decode cX4_takeOff 49 = .ok (.lload_n 3, 1) := by decide +kernel
theorem dX4_takeOff_50 : decode cX4_takeOff 50 = .ok (.aload_n 0, 1) := by decide +kernel
theorem dX4_takeOff_51 : decode cX4_takeOff 51 = .ok (.getfield 37, 3) := by decide +kernel
theorem dX4_takeOff_54 : decode cX4_takeOff 54 = .ok (.bipush 8, 2) := by decide +kernel
theorem dX4_takeOff_56 : decode cX4_takeOff 56 = .ok (.iload_n 1, 1) := by decide +kernel
theorem dX4_takeOff_57 : decode cX4_takeOff 57 = .ok (.imul, 1) := by decide +kernel
theorem dX4_takeOff_58 : decode cX4_takeOff 58 = .ok (.iload 9, 2) := by decide +kernel
theorem dX4_takeOff_60 : decode cX4_takeOff 60 = .ok (.iadd, 1) := by decide +kernel
theorem dX4_takeOff_61 : decode cX4_takeOff 61 = .ok (.laload, 1) := by decide +kernel
theorem dX4_takeOff_62 : decode cX4_takeOff 62 = .ok (.lmul, 1) := by decide +kernel
theorem dX4_takeOff_63 : decode cX4_takeOff 63 = .ok (.lload 5, 2) := by decide +kernel
theorem dX4_takeOff_65 : decode cX4_takeOff 65 = .ok (.aload_n 0, 1) := by decide +kernel
theorem dX4_takeOff_66 : decode cX4_takeOff 66 = .ok (.getfield 37, 3) := by decide +kernel
theorem dX4_takeOff_69 : decode cX4_takeOff 69 = .ok (.bipush 8, 2) := by decide +kernel
theorem dX4_takeOff_71 : decode cX4_takeOff 71 = .ok (.iload_n 2, 1) := by decide +kernel
theorem dX4_takeOff_72 : decode cX4_takeOff 72 = .ok (.imul, 1) := by decide +kernel
theorem dX4_takeOff_73 : decode cX4_takeOff 73 = .ok (.iload 9, 2) := by decide +kernel
theorem dX4_takeOff_75 : decode cX4_takeOff 75 = .ok (.iadd, 1) := by decide +kernel
theorem dX4_takeOff_76 : decode cX4_takeOff 76 = .ok (.laload, 1) := by decide +kernel
theorem dX4_takeOff_77 : decode cX4_takeOff 77 = .ok (.lmul, 1) := by decide +kernel
theorem dX4_takeOff_78 : decode cX4_takeOff 78 = .ok (.lsub, 1) := by decide +kernel
theorem dX4_takeOff_79 : decode cX4_takeOff 79 = .ok (.lastore, 1) := by decide +kernel
theorem dX4_takeOff_80 : decode cX4_takeOff 80 = .ok (.lload 7, 2) := by decide +kernel
theorem dX4_takeOff_82 : decode cX4_takeOff 82 = .ok (.aload_n 0, 1) := by decide +kernel
theorem dX4_takeOff_83 : decode cX4_takeOff 83 = .ok (.getfield 37, 3) := by decide +kernel
theorem dX4_takeOff_86 : decode cX4_takeOff 86 = .ok (.bipush 8, 2) := by decide +kernel
theorem dX4_takeOff_88 : decode cX4_takeOff 88 = .ok (.iload_n 1, 1) := by decide +kernel
theorem dX4_takeOff_89 : decode cX4_takeOff 89 = .ok (.imul, 1) := by decide +kernel
theorem dX4_takeOff_90 : decode cX4_takeOff 90 = .ok (.iload 9, 2) := by decide +kernel
theorem dX4_takeOff_92 : decode cX4_takeOff 92 = .ok (.iadd, 1) := by decide +kernel
theorem dX4_takeOff_93 : decode cX4_takeOff 93 = .ok (.laload, 1) := by decide +kernel
theorem dX4_takeOff_94 : decode cX4_takeOff 94 = .ok (.invokestatic 128, 3) := by decide +kernel
theorem dX4_takeOff_97 : decode cX4_takeOff 97 = .ok (.lstore 7, 2) := by decide +kernel
theorem dX4_takeOff_99 : decode cX4_takeOff 99 = .ok (.iinc 9 1, 3) := by decide +kernel
theorem dX4_takeOff_102 : decode cX4_takeOff 102 = .ok (.goto (-71), 3) := by decide +kernel
theorem dX4_takeOff_105 : decode cX4_takeOff 105 = .ok (.iconst 0, 1) := by decide +kernel
theorem dX4_takeOff_106 : decode cX4_takeOff 106 = .ok (.istore 9, 2) := by decide +kernel
theorem dX4_takeOff_108 : decode cX4_takeOff 108 = .ok (.iload 9, 2) := by decide +kernel
theorem dX4_takeOff_110 : decode cX4_takeOff 110 = .ok (.bipush 8, 2) := by decide +kernel
theorem dX4_takeOff_112 : decode cX4_takeOff 112 = .ok (.if_icmp .ge 33, 3) := by decide +kernel
theorem dX4_takeOff_115 : decode cX4_takeOff 115 = .ok (.lload 7, 2) := by decide +kernel
theorem dX4_takeOff_117 : decode cX4_takeOff 117 = .ok (.lconst 1, 1) := by decide +kernel
theorem dX4_takeOff_118 : decode cX4_takeOff 118 = .ok (.lcmp, 1) := by decide +kernel
theorem dX4_takeOff_119 : decode cX4_takeOff 119 = .ok (.ifCond .le 26, 3) := by decide +kernel
theorem dX4_takeOff_122 : decode cX4_takeOff 122 = .ok (.aload_n 0, 1) := by decide +kernel
theorem dX4_takeOff_123 : decode cX4_takeOff 123 = .ok (.getfield 37, 3) := by decide +kernel
theorem dX4_takeOff_126 : decode cX4_takeOff 126 = .ok (.bipush 8, 2) := by decide +kernel
theorem dX4_takeOff_128 : decode cX4_takeOff 128 = .ok (.iload_n 1, 1) := by decide +kernel
theorem dX4_takeOff_129 : decode cX4_takeOff 129 = .ok (.imul, 1) := by decide +kernel
theorem dX4_takeOff_130 : decode cX4_takeOff 130 = .ok (.iload 9, 2) := by decide +kernel
theorem dX4_takeOff_132 : decode cX4_takeOff 132 = .ok (.iadd, 1) := by decide +kernel
theorem dX4_takeOff_133 : decode cX4_takeOff 133 = .ok (.dup2, 1) := by decide +kernel
theorem dX4_takeOff_134 : decode cX4_takeOff 134 = .ok (.laload, 1) := by decide +kernel
theorem dX4_takeOff_135 : decode cX4_takeOff 135 = .ok (.lload 7, 2) := by decide +kernel
theorem dX4_takeOff_137 : decode cX4_takeOff 137 = .ok (.ldiv, 1) := by decide +kernel
theorem dX4_takeOff_138 : decode cX4_takeOff 138 = .ok (.lastore, 1) := by decide +kernel
theorem dX4_takeOff_139 : decode cX4_takeOff 139 = .ok (.iinc 9 1, 3) := by decide +kernel
theorem dX4_takeOff_142 : decode cX4_takeOff 142 = .ok (.goto (-34), 3) := by decide +kernel
theorem dX4_takeOff_145 : decode cX4_takeOff 145 = .ok (.return_, 1) := by decide +kernel
set_option maxRecDepth 20000 in
theorem ggX4_prove_X4_isLaw : GoodIn wsX4_prove wsX4_isLaw := goodIn_r _ [8, 9, 10, 7, 11] (by decide +kernel) (by decide +kernel)
set_option maxRecDepth 20000 in
theorem gX4_prove_X4_isLaw : GoodIn wsX4_prove (va_wsS RX4 65 yX4_isLaw wsX4_isLaw) := goodIn_app (goodIn_of _ (by decide +kernel)) ggX4_prove_X4_isLaw
set_option maxRecDepth 20000 in
theorem ggX4_prove_X4_solve : GoodIn wsX4_prove wsX4_solve := goodIn_r _ [15, 16, 17, 1, 3, 18, 19, 20, 21, 22, 23, 7, 24, 25, 26, 27, 28, 29, 30, 31, 32, 33, 34, 35, 36, 37, 38, 39, 40, 41, 42, 43, 44, 45, 46, 47, 48, 49] (by decide +kernel) (by decide +kernel)
set_option maxRecDepth 20000 in
theorem gX4_prove_X4_solve : GoodIn wsX4_prove (wsV RX4 132 RX4 yX4_solve wsX4_solve) := goodIn_app (goodIn_of _ (by decide +kernel)) ggX4_prove_X4_solve
theorem dX4_prove_0 : decode cX4_prove 0 = .ok (.iload_n 1, 1) := by decide +kernel
theorem dX4_prove_1 : decode cX4_prove 1 = .ok (.invokestatic 65, 3) := by decide +kernel
theorem dX4_prove_4 : decode cX4_prove 4 = .ok (.ifCond .ne 5, 3) := by decide +kernel
theorem dX4_prove_7 : decode cX4_prove 7 = .ok (.iconst 0, 1) := by decide +kernel
theorem dX4_prove_8 : decode cX4_prove 8 = .ok (.ireturn, 1) := by decide +kernel
theorem dX4_prove_9 : decode cX4_prove 9 = .ok (.iconst 0, 1) := by decide +kernel
theorem dX4_prove_10 : decode cX4_prove 10 = .ok (.istore_n 2, 1) := by decide +kernel
theorem dX4_prove_11 : decode cX4_prove 11 = .ok (.iload_n 2, 1) := by decide +kernel
theorem dX4_prove_12 : decode cX4_prove 12 = .ok (.bipush 9, 2) := by decide +kernel
theorem dX4_prove_14 : decode cX4_prove 14 = .ok (.if_icmp .ge 143, 3) := by decide +kernel
theorem dX4_prove_17 : decode cX4_prove 17 = .ok (.iload_n 2, 1) := by decide +kernel
theorem dX4_prove_18 : decode cX4_prove 18 = .ok (.iconst 1, 1) := by decide +kernel
theorem dX4_prove_19 : decode cX4_prove 19 = .ok (.iadd, 1) := by decide +kernel
theorem dX4_prove_20 : decode cX4_prove 20 = .ok (.istore_n 3, 1) := by decide +kernel
theorem dX4_prove_21 : decode cX4_prove 21 = .ok (.iload_n 3, 1) := by decide +kernel
theorem dX4_prove_22 : decode cX4_prove 22 = .ok (.bipush 9, 2) := by decide +kernel
theorem dX4_prove_24 : decode cX4_prove 24 = .ok (.if_icmp .ge 127, 3) := by decide +kernel
theorem dX4_prove_27 : decode cX4_prove 27 = .ok (.aload_n 0, 1) := by decide +kernel
theorem dX4_prove_28 : decode cX4_prove 28 = .ok (.iload_n 1, 1) := by decide +kernel
theorem dX4_prove_29 : decode cX4_prove 29 = .ok (.iload_n 2, 1) := by decide +kernel
theorem dX4_prove_30 : decode cX4_prove 30 = .ok (.iload_n 3, 1) := by decide +kernel
theorem dX4_prove_31 : decode cX4_prove 31 = .ok (.invokevirtual 132, 3) := by decide +kernel
theorem dX4_prove_34 : decode cX4_prove 34 = .ok (.ifCond .ne 6, 3) := by decide +kernel
theorem dX4_prove_37 : decode cX4_prove 37 = .ok (.goto 108, 3) := by decide +kernel
theorem dX4_prove_40 : decode cX4_prove 40 = .ok (.iconst 1, 1) := by decide +kernel
theorem dX4_prove_41 : decode cX4_prove 41 = .ok (.istore 4, 2) := by decide +kernel
theorem dX4_prove_43 : decode cX4_prove 43 = .ok (.iconst 0, 1) := by decide +kernel
theorem dX4_prove_44 : decode cX4_prove 44 = .ok (.istore 5, 2) := by decide +kernel
theorem dX4_prove_46 : decode cX4_prove 46 = .ok (.iload 5, 2) := by decide +kernel
theorem dX4_prove_48 : decode cX4_prove 48 = .ok (.bipush 9, 2) := by decide +kernel
theorem dX4_prove_50 : decode cX4_prove 50 = .ok (.if_icmp .ge 33, 3) := by decide +kernel
theorem dX4_prove_53 : decode cX4_prove 53 = .ok (.iload 4, 2) := by decide +kernel
theorem dX4_prove_55 : decode cX4_prove 55 = .ok (.ifCond .eq 19, 3) := by decide +kernel
theorem dX4_prove_58 : decode cX4_prove 58 = .ok (.aload_n 0, 1) := by decide +kernel
theorem dX4_prove_59 : decode cX4_prove 59 = .ok (.getfield 41, 3) := by decide +kernel
theorem dX4_prove_62 : decode cX4_prove 62 = .ok (.iload 5, 2) := by decide +kernel
theorem dX4_prove_64 : decode cX4_prove 64 = .ok (.laload, 1) := by decide +kernel
theorem dX4_prove_65 : decode cX4_prove 65 = .ok (.lconst 0, 1) := by decide +kernel
theorem dX4_prove_66 : decode cX4_prove 66 = .ok (.lcmp, 1) := by decide +kernel
theorem dX4_prove_67 : decode cX4_prove 67 = .ok (.ifCond .lt 7, 3) := by decide +kernel
theorem dX4_prove_70 : decode cX4_prove 70 = .ok (.iconst 1, 1) := by decide +kernel
theorem dX4_prove_71 : decode cX4_prove 71 = .ok (.goto 4, 3) := by decide +kernel
theorem dX4_prove_74 : decode cX4_prove 74 = .ok (.iconst 0, 1) := by decide +kernel
theorem dX4_prove_75 : decode cX4_prove 75 = .ok (.istore 4, 2) := by decide +kernel
theorem dX4_prove_77 : decode cX4_prove 77 = .ok (.iinc 5 1, 3) := by decide +kernel
theorem dX4_prove_80 : decode cX4_prove 80 = .ok (.goto (-34), 3) := by decide +kernel
theorem dX4_prove_83 : decode cX4_prove 83 = .ok (.iload 4, 2) := by decide +kernel
theorem dX4_prove_85 : decode cX4_prove 85 = .ok (.ifCond .ne 6, 3) := by decide +kernel
theorem dX4_prove_88 : decode cX4_prove 88 = .ok (.goto 57, 3) := by decide +kernel
theorem dX4_prove_91 : decode cX4_prove 91 = .ok (.iconst 0, 1) := by decide +kernel
theorem dX4_prove_92 : decode cX4_prove 92 = .ok (.istore 5, 2) := by decide +kernel
theorem dX4_prove_94 : decode cX4_prove 94 = .ok (.iload 5, 2) := by decide +kernel
theorem dX4_prove_96 : decode cX4_prove 96 = .ok (.bipush 9, 2) := by decide +kernel
theorem dX4_prove_98 : decode cX4_prove 98 = .ok (.if_icmp .ge 40, 3) := by decide +kernel
theorem dX4_prove_101 : decode cX4_prove 101 = .ok (.aload_n 0, 1) := by decide +kernel
theorem dX4_prove_102 : decode cX4_prove 102 = .ok (.getfield 47, 3) := by decide +kernel
theorem dX4_prove_105 : decode cX4_prove 105 = .ok (.iload 5, 2) := by decide +kernel
theorem dX4_prove_107 : decode cX4_prove 107 = .ok (.aload_n 0, 1) := by decide +kernel
theorem dX4_prove_108 : decode cX4_prove 108 = .ok (.getfield 41, 3) := by decide +kernel
theorem dX4_prove_111 : decode cX4_prove 111 = .ok (.iload 5, 2) := by decide +kernel
theorem dX4_prove_113 : decode cX4_prove 113 = .ok (.laload, 1) := by decide +kernel
theorem dX4_prove_114 : decode cX4_prove 114 = .ok (.lastore, 1) := by decide +kernel
theorem dX4_prove_115 : decode cX4_prove 115 = .ok (.aload_n 0, 1) := by decide +kernel
theorem dX4_prove_116 : decode cX4_prove 116 = .ok (.getfield 47, 3) := by decide +kernel
theorem dX4_prove_119 : decode cX4_prove 119 = .ok (.bipush 9, 2) := by decide +kernel
theorem dX4_prove_121 : decode cX4_prove 121 = .ok (.iload 5, 2) := by decide +kernel
theorem dX4_prove_123 : decode cX4_prove 123 = .ok (.iadd, 1) := by decide +kernel
theorem dX4_prove_124 : decode cX4_prove 124 = .ok (.aload_n 0, 1) := by decide +kernel
theorem dX4_prove_125 : decode cX4_prove 125 = .ok (.getfield 44, 3) := by decide +kernel
theorem dX4_prove_128 : decode cX4_prove 128 = .ok (.iload 5, 2) := by decide +kernel
theorem dX4_prove_130 : decode cX4_prove 130 = .ok (.laload, 1) := by decide +kernel
theorem dX4_prove_131 : decode cX4_prove 131 = .ok (.lastore, 1) := by decide +kernel
theorem dX4_prove_132 : decode cX4_prove 132 = .ok (.iinc 5 1, 3) := by decide +kernel
theorem dX4_prove_135 : decode cX4_prove 135 = .ok (.goto (-41), 3) := by decide +kernel
theorem dX4_prove_138 : decode cX4_prove 138 = .ok (.aload_n 0, 1) := by decide +kernel
theorem dX4_prove_139 : decode cX4_prove 139 = .ok (.iconst 1, 1) := by decide +kernel
theorem dX4_prove_140 : decode cX4_prove 140 = .ok (.putfield 135, 3) := by decide +kernel
theorem dX4_prove_143 : decode cX4_prove 143 = .ok (.iconst 1, 1) := by decide +kernel
theorem dX4_prove_144 : decode cX4_prove 144 = .ok (.ireturn, 1) := by decide +kernel
theorem dX4_prove_145 : decode cX4_prove 145 = .ok (.iinc 3 1, 3) := by decide +kernel
theorem dX4_prove_148 : decode cX4_prove 148 = .ok (.goto (-127), 3) := by decide +kernel
theorem dX4_prove_151 : decode cX4_prove 151 = .ok (.iinc 2 1, 3) := by decide +kernel
theorem dX4_prove_154 : decode cX4_prove 154 = .ok (.goto (-143), 3) := by decide +kernel
theorem dX4_prove_157 : decode cX4_prove 157 = .ok (.iconst 0, 1) := by decide +kernel
theorem dX4_prove_158 : decode cX4_prove 158 = .ok (.ireturn, 1) := by decide +kernel
set_option maxRecDepth 20000 in
theorem ggX4_share_X4_isIn : GoodIn wsX4_share wsX4_isIn := goodIn_r _ [6] (by decide +kernel) (by decide +kernel)
set_option maxRecDepth 20000 in
theorem gX4_share_X4_isIn : GoodIn wsX4_share (va_wsS RX4 50 yX4_isIn wsX4_isIn) := goodIn_app (goodIn_of _ (by decide +kernel)) ggX4_share_X4_isIn
theorem dX4_share_0 : decode cX4_share 0 = .ok (.aload_n 0, 1) := by decide +kernel
theorem dX4_share_1 : decode cX4_share 1 = .ok (.getfield 135, 3) := by decide +kernel
theorem dX4_share_4 : decode cX4_share 4 = .ok (.ifCond .eq 37, 3) := by decide +kernel
theorem dX4_share_7 : decode cX4_share 7 = .ok (.iload_n 1, 1) := by decide +kernel
theorem dX4_share_8 : decode cX4_share 8 = .ok (.iconst 0, 1) := by decide +kernel
theorem dX4_share_9 : decode cX4_share 9 = .ok (.bipush 8, 2) := by decide +kernel
theorem dX4_share_11 : decode cX4_share 11 = .ok (.invokestatic 50, 3) := by decide +kernel
theorem dX4_share_14 : decode cX4_share 14 = .ok (.ifCond .eq 27, 3) := by decide +kernel
theorem dX4_share_17 : decode cX4_share 17 = .ok (.iload_n 2, 1) := by decide +kernel
theorem dX4_share_18 : decode cX4_share 18 = .ok (.iconst 0, 1) := by decide +kernel
theorem dX4_share_19 : decode cX4_share 19 = .ok (.iconst 1, 1) := by decide +kernel
theorem dX4_share_20 : decode cX4_share 20 = .ok (.invokestatic 50, 3) := by decide +kernel
theorem dX4_share_23 : decode cX4_share 23 = .ok (.ifCond .eq 18, 3) := by decide +kernel
theorem dX4_share_26 : decode cX4_share 26 = .ok (.aload_n 0, 1) := by decide +kernel
theorem dX4_share_27 : decode cX4_share 27 = .ok (.getfield 47, 3) := by decide +kernel
theorem dX4_share_30 : decode cX4_share 30 = .ok (.bipush 9, 2) := by decide +kernel
theorem dX4_share_32 : decode cX4_share 32 = .ok (.iload_n 2, 1) := by decide +kernel
theorem dX4_share_33 : decode cX4_share 33 = .ok (.imul, 1) := by decide +kernel
theorem dX4_share_34 : decode cX4_share 34 = .ok (.iload_n 1, 1) := by decide +kernel
theorem dX4_share_35 : decode cX4_share 35 = .ok (.iadd, 1) := by decide +kernel
theorem dX4_share_36 : decode cX4_share 36 = .ok (.laload, 1) := by decide +kernel
theorem dX4_share_37 : decode cX4_share 37 = .ok (.l2i, 1) := by decide +kernel
theorem dX4_share_38 : decode cX4_share 38 = .ok (.goto 4, 3) := by decide +kernel
theorem dX4_share_41 : decode cX4_share 41 = .ok (.iconst (-1), 1) := by decide +kernel
theorem dX4_share_42 : decode cX4_share 42 = .ok (.ireturn, 1) := by decide +kernel
set_option maxRecDepth 20000 in
theorem ggX4_mean_X4_isMade : GoodIn wsX4_mean wsX4_isMade := goodIn_r _ [6, 7, 8, 9, 5, 10, 11, 12, 13, 27, 28, 29, 30, 31, 32, 33, 34, 35, 36, 37, 38, 39, 40, 41] (by decide +kernel) (by decide +kernel)
set_option maxRecDepth 20000 in
theorem gX4_mean_X4_isMade : GoodIn wsX4_mean (wsV RX4 62 RX4 yX4_isMade wsX4_isMade) := goodIn_app (goodIn_of _ (by decide +kernel)) ggX4_mean_X4_isMade
set_option maxRecDepth 20000 in
theorem ggX4_mean_X4_isIn : GoodIn wsX4_mean wsX4_isIn := goodIn_r _ [13] (by decide +kernel) (by decide +kernel)
set_option maxRecDepth 20000 in
theorem gX4_mean_X4_isIn : GoodIn wsX4_mean (va_wsS RX4 50 yX4_isIn wsX4_isIn) := goodIn_app (goodIn_of _ (by decide +kernel)) ggX4_mean_X4_isIn
set_option maxRecDepth 20000 in
theorem ggX4_mean_X4_settings : GoodIn wsX4_mean wsX4_settings := goodIn_r _ [17, 1, 18, 27, 28, 29, 30, 31, 32, 33, 34, 35, 36, 37, 38, 39, 40, 41] (by decide +kernel) (by decide +kernel)
set_option maxRecDepth 20000 in
theorem gX4_mean_X4_settings : GoodIn wsX4_mean (wsV RX4 75 RX4 yX4_settings wsX4_settings) := goodIn_app (goodIn_of _ (by decide +kernel)) ggX4_mean_X4_settings
set_option maxRecDepth 20000 in
theorem ggX4_mean_X4_leastOf : GoodIn wsX4_mean wsX4_leastOf := goodIn_r _ [22, 23, 24, 25, 5, 26, 1, 27, 28, 29, 30, 31, 32, 33, 34, 35, 36, 37, 38, 39, 40, 41] (by decide +kernel) (by decide +kernel)
set_option maxRecDepth 20000 in
theorem gX4_mean_X4_leastOf : GoodIn wsX4_mean (wsV RX4 139 RX4 yX4_leastOf wsX4_leastOf) := goodIn_app (goodIn_of _ (by decide +kernel)) ggX4_mean_X4_leastOf
set_option maxRecDepth 20000 in
theorem ggX4_mean_X4_secondOf : GoodIn wsX4_mean wsX4_secondOf := goodIn_r _ [26, 1, 27, 28, 29, 30, 31, 32, 33, 34, 35, 36, 37, 38, 39, 40, 41] (by decide +kernel) (by decide +kernel)
set_option maxRecDepth 20000 in
theorem gX4_mean_X4_secondOf : GoodIn wsX4_mean (wsV RX4 142 RX4 yX4_secondOf wsX4_secondOf) := goodIn_app (goodIn_of _ (by decide +kernel)) ggX4_mean_X4_secondOf
theorem dX4_mean_0 : decode cX4_mean 0 = .ok (.aload_n 0, 1) := by decide +kernel
theorem dX4_mean_1 : decode cX4_mean 1 = .ok (.iload_n 1, 1) := by decide +kernel
theorem dX4_mean_2 : decode cX4_mean 2 = .ok (.invokevirtual 62, 3) := by decide +kernel
theorem dX4_mean_5 : decode cX4_mean 5 = .ok (.ifCond .eq 13, 3) := by decide +kernel
theorem dX4_mean_8 : decode cX4_mean 8 = .ok (.iload_n 2, 1) := by decide +kernel
theorem dX4_mean_9 : decode cX4_mean 9 = .ok (.iconst 1, 1) := by decide +kernel
theorem dX4_mean_10 : decode cX4_mean 10 = .ok (.bipush 7, 2) := by decide +kernel
theorem dX4_mean_12 : decode cX4_mean 12 = .ok (.invokestatic 50, 3) := by decide +kernel
theorem dX4_mean_15 : decode cX4_mean 15 = .ok (.ifCond .ne 5, 3) := by decide +kernel
theorem dX4_mean_18 : decode cX4_mean 18 = .ok (.iconst (-1), 1) := by decide +kernel
theorem dX4_mean_19 : decode cX4_mean 19 = .ok (.ireturn, 1) := by decide +kernel
theorem dX4_mean_20 : decode cX4_mean 20 = .ok (.aload_n 0, 1) := by decide +kernel
theorem dX4_mean_21 : decode cX4_mean 21 = .ok (.iload_n 1, 1) := by decide +kernel
theorem dX4_mean_22 : decode cX4_mean 22 = .ok (.iload_n 2, 1) := by decide +kernel
theorem dX4_mean_23 : decode cX4_mean 23 = .ok (.invokevirtual 75, 3) := by decide +kernel
theorem dX4_mean_26 : decode cX4_mean 26 = .ok (.iconst 0, 1) := by decide +kernel
theorem dX4_mean_27 : decode cX4_mean 27 = .ok (.istore_n 3, 1) := by decide +kernel
theorem dX4_mean_28 : decode cX4_mean 28 = .ok (.aload_n 0, 1) := by decide +kernel
theorem dX4_mean_29 : decode cX4_mean 29 = .ok (.invokevirtual 139, 3) := by decide +kernel
theorem dX4_mean_32 : decode cX4_mean 32 = .ok (.istore 4, 2) := by decide +kernel
theorem dX4_mean_34 : decode cX4_mean 34 = .ok (.iload 4, 2) := by decide +kernel
theorem dX4_mean_36 : decode cX4_mean 36 = .ok (.iconst (-1), 1) := by decide +kernel
theorem dX4_mean_37 : decode cX4_mean 37 = .ok (.if_icmp .ne 7, 3) := by decide +kernel
theorem dX4_mean_40 : decode cX4_mean 40 = .ok (.iconst (-1), 1) := by decide +kernel
theorem dX4_mean_41 : decode cX4_mean 41 = .ok (.goto 9, 3) := by decide +kernel
theorem dX4_mean_44 : decode cX4_mean 44 = .ok (.aload_n 0, 1) := by decide +kernel
theorem dX4_mean_45 : decode cX4_mean 45 = .ok (.iload 4, 2) := by decide +kernel
theorem dX4_mean_47 : decode cX4_mean 47 = .ok (.invokevirtual 142, 3) := by decide +kernel
theorem dX4_mean_50 : decode cX4_mean 50 = .ok (.istore 5, 2) := by decide +kernel
theorem dX4_mean_52 : decode cX4_mean 52 = .ok (.iload 5, 2) := by decide +kernel
theorem dX4_mean_54 : decode cX4_mean 54 = .ok (.iconst (-1), 1) := by decide +kernel
theorem dX4_mean_55 : decode cX4_mean 55 = .ok (.if_icmp .eq 55, 3) := by decide +kernel
theorem dX4_mean_58 : decode cX4_mean 58 = .ok (.aload_n 0, 1) := by decide +kernel
theorem dX4_mean_59 : decode cX4_mean 59 = .ok (.getfield 28, 3) := by decide +kernel
theorem dX4_mean_62 : decode cX4_mean 62 = .ok (.iload 4, 2) := by decide +kernel
theorem dX4_mean_64 : decode cX4_mean 64 = .ok (.dup2, 1) := by decide +kernel
theorem dX4_mean_65 : decode cX4_mean 65 = .ok (.iaload, 1) := by decide +kernel
theorem dX4_mean_66 : decode cX4_mean 66 = .ok (.aload_n 0, 1) := by decide +kernel
theorem dX4_mean_67 : decode cX4_mean 67 = .ok (.getfield 28, 3) := by decide +kernel
theorem dX4_mean_70 : decode cX4_mean 70 = .ok (.iload 5, 2) := by decide +kernel
theorem dX4_mean_72 : decode cX4_mean 72 = .ok (.iaload, 1) := by decide +kernel
theorem dX4_mean_73 : decode cX4_mean 73 = .ok (.iadd, 1) := by decide +kernel
theorem dX4_mean_74 : decode cX4_mean 74 = .ok (.iastore, 1) := by decide +kernel
theorem dX4_mean_75 : decode cX4_mean 75 = .ok (.iload_n 3, 1) := by decide +kernel
theorem dX4_mean_76 : decode cX4_mean 76 = .ok (.aload_n 0, 1) := by decide +kernel
theorem dX4_mean_77 : decode cX4_mean 77 = .ok (.getfield 28, 3) := by decide +kernel
theorem dX4_mean_80 : decode cX4_mean 80 = .ok (.iload 4, 2) := by decide +kernel
theorem dX4_mean_82 : decode cX4_mean 82 = .ok (.iaload, 1) := by decide +kernel
theorem dX4_mean_83 : decode cX4_mean 83 = .ok (.iadd, 1) := by decide +kernel
theorem dX4_mean_84 : decode cX4_mean 84 = .ok (.istore_n 3, 1) := by decide +kernel
theorem dX4_mean_85 : decode cX4_mean 85 = .ok (.aload_n 0, 1) := by decide +kernel
theorem dX4_mean_86 : decode cX4_mean 86 = .ok (.getfield 28, 3) := by decide +kernel
theorem dX4_mean_89 : decode cX4_mean 89 = .ok (.iload 5, 2) := by decide +kernel
theorem dX4_mean_91 : decode cX4_mean 91 = .ok (.iconst 0, 1) := by decide +kernel
theorem dX4_mean_92 : decode cX4_mean 92 = .ok (.iastore, 1) := by decide +kernel
theorem dX4_mean_93 : decode cX4_mean 93 = .ok (.aload_n 0, 1) := by decide +kernel
theorem dX4_mean_94 : decode cX4_mean 94 = .ok (.invokevirtual 139, 3) := by decide +kernel
theorem dX4_mean_97 : decode cX4_mean 97 = .ok (.istore 4, 2) := by decide +kernel
theorem dX4_mean_99 : decode cX4_mean 99 = .ok (.aload_n 0, 1) := by decide +kernel
theorem dX4_mean_100 : decode cX4_mean 100 = .ok (.iload 4, 2) := by decide +kernel
theorem dX4_mean_102 : decode cX4_mean 102 = .ok (.invokevirtual 142, 3) := by decide +kernel
theorem dX4_mean_105 : decode cX4_mean 105 = .ok (.istore 5, 2) := by decide +kernel
theorem dX4_mean_107 : decode cX4_mean 107 = .ok (.goto (-55), 3) := by decide +kernel
theorem dX4_mean_110 : decode cX4_mean 110 = .ok (.iload_n 3, 1) := by decide +kernel
theorem dX4_mean_111 : decode cX4_mean 111 = .ok (.ireturn, 1) := by decide +kernel
set_option maxRecDepth 20000 in
theorem ggX4_leastOf_X4_secondOf : GoodIn wsX4_leastOf wsX4_secondOf := goodIn_r _ [5, 6, 7, 8, 9, 10, 11, 12, 13, 14, 15, 16, 17, 18, 19, 20, 21] (by decide +kernel) (by decide +kernel)
set_option maxRecDepth 20000 in
theorem gX4_leastOf_X4_secondOf : GoodIn wsX4_leastOf (wsV RX4 142 RX4 yX4_secondOf wsX4_secondOf) := goodIn_app (goodIn_of _ (by decide +kernel)) ggX4_leastOf_X4_secondOf
theorem dX4_leastOf_0 : decode cX4_leastOf 0 = .ok (.aload_n 0, 1) := by decide +kernel
theorem dX4_leastOf_1 : decode cX4_leastOf 1 = .ok (.iconst (-1), 1) := by decide +kernel
theorem dX4_leastOf_2 : decode cX4_leastOf 2 = .ok (.invokevirtual 142, 3) := by decide +kernel
theorem dX4_leastOf_5 : decode cX4_leastOf 5 = .ok (.ireturn, 1) := by decide +kernel
theorem dX4_secondOf_0 : decode cX4_secondOf 0 = .ok (.iconst (-1), 1) := by decide +kernel
theorem dX4_secondOf_1 : decode cX4_secondOf 1 = .ok (.istore_n 2, 1) := by decide +kernel
theorem dX4_secondOf_2 : decode cX4_secondOf 2 = .ok (.iconst 0, 1) := by decide +kernel
theorem dX4_secondOf_3 : decode cX4_secondOf 3 = .ok (.istore_n 3, 1) := by decide +kernel
theorem dX4_secondOf_4 : decode cX4_secondOf 4 = .ok (.iload_n 3, 1) := by decide +kernel
theorem dX4_secondOf_5 : decode cX4_secondOf 5 = .ok (.bipush 27, 2) := by decide +kernel
theorem dX4_secondOf_7 : decode cX4_secondOf 7 = .ok (.if_icmp .ge 45, 3) := by decide +kernel
theorem dX4_secondOf_10 : decode cX4_secondOf 10 = .ok (.iload_n 3, 1) := by decide +kernel
theorem dX4_secondOf_11 : decode cX4_secondOf 11 = .ok (.iload_n 1, 1) := by decide +kernel
theorem dX4_secondOf_12 : decode cX4_secondOf 12 = .ok (.if_icmp .eq 34, 3) := by decide +kernel
theorem dX4_secondOf_15 : decode cX4_secondOf 15 = .ok (.aload_n 0, 1) := by decide +kernel
theorem dX4_secondOf_16 : decode cX4_secondOf 16 = .ok (.getfield 28, 3) := by decide +kernel
theorem dX4_secondOf_19 : decode cX4_secondOf 19 = .ok (.iload_n 3, 1) := by decide +kernel
theorem dX4_secondOf_20 : decode cX4_secondOf 20 = .ok (.iaload, 1) := by decide +kernel
theorem dX4_secondOf_21 : decode cX4_secondOf 21 = .ok (.ifCond .le 25, 3) := by decide +kernel
theorem dX4_secondOf_24 : decode cX4_secondOf 24 = .ok (.iload_n 2, 1) := by decide +kernel
theorem dX4_secondOf_25 : decode cX4_secondOf 25 = .ok (.iconst (-1), 1) := by decide +kernel
theorem dX4_secondOf_26 : decode cX4_secondOf 26 = .ok (.if_icmp .eq 18, 3) := by decide +kernel
theorem dX4_secondOf_29 : decode cX4_secondOf 29 = .ok (.aload_n 0, 1) := by decide +kernel
theorem dX4_secondOf_30 : decode cX4_secondOf 30 = .ok (.getfield 28, 3) := by decide +kernel
theorem dX4_secondOf_33 : decode cX4_secondOf 33 = .ok (.iload_n 3, 1) := by decide +kernel
theorem dX4_secondOf_34 : decode cX4_secondOf 34 = .ok (.iaload, 1) := by decide +kernel
theorem dX4_secondOf_35 : decode cX4_secondOf 35 = .ok (.aload_n 0, 1) := by decide +kernel
theorem dX4_secondOf_36 : decode cX4_secondOf 36 = .ok (.getfield 28, 3) := by decide +kernel
theorem dX4_secondOf_39 : decode cX4_secondOf 39 = .ok (.iload_n 2, 1) := by decide +kernel
theorem dX4_secondOf_40 : decode cX4_secondOf 40 = .ok (.iaload, 1) := by decide +kernel
theorem dX4_secondOf_41 : decode cX4_secondOf 41 = .ok (.if_icmp .ge 5, 3) := by decide +kernel
theorem dX4_secondOf_44 : decode cX4_secondOf 44 = .ok (.iload_n 3, 1) := by decide +kernel
theorem dX4_secondOf_45 : decode cX4_secondOf 45 = .ok (.istore_n 2, 1) := by decide +kernel
theorem dX4_secondOf_46 : decode cX4_secondOf 46 = .ok (.iinc 3 1, 3) := by decide +kernel
theorem dX4_secondOf_49 : decode cX4_secondOf 49 = .ok (.goto (-45), 3) := by decide +kernel
theorem dX4_secondOf_52 : decode cX4_secondOf 52 = .ok (.iload_n 2, 1) := by decide +kernel
theorem dX4_secondOf_53 : decode cX4_secondOf 53 = .ok (.ireturn, 1) := by decide +kernel
set_option maxRecDepth 20000 in
theorem ggX4_words_X4_isIn : GoodIn wsX4_words wsX4_isIn := goodIn_r _ [4] (by decide +kernel) (by decide +kernel)
set_option maxRecDepth 20000 in
theorem gX4_words_X4_isIn : GoodIn wsX4_words (va_wsS RX4 50 yX4_isIn wsX4_isIn) := goodIn_app (goodIn_of _ (by decide +kernel)) ggX4_words_X4_isIn
theorem dX4_words_0 : decode cX4_words 0 = .ok (.iload_n 1, 1) := by decide +kernel
theorem dX4_words_1 : decode cX4_words 1 = .ok (.iconst 1, 1) := by decide +kernel
theorem dX4_words_2 : decode cX4_words 2 = .ok (.bipush 8, 2) := by decide +kernel
theorem dX4_words_4 : decode cX4_words 4 = .ok (.invokestatic 50, 3) := by decide +kernel
theorem dX4_words_7 : decode cX4_words 7 = .ok (.ifCond .eq 7, 3) := by decide +kernel
theorem dX4_words_10 : decode cX4_words 10 = .ok (.iload_n 2, 1) := by decide +kernel
theorem dX4_words_11 : decode cX4_words 11 = .ok (.ifCond .ge 5, 3) := by decide +kernel
theorem dX4_words_14 : decode cX4_words 14 = .ok (.iconst 0, 1) := by decide +kernel
theorem dX4_words_15 : decode cX4_words 15 = .ok (.ireturn, 1) := by decide +kernel
theorem dX4_words_16 : decode cX4_words 16 = .ok (.iload_n 2, 1) := by decide +kernel
theorem dX4_words_17 : decode cX4_words 17 = .ok (.istore_n 3, 1) := by decide +kernel
theorem dX4_words_18 : decode cX4_words 18 = .ok (.iconst 0, 1) := by decide +kernel
theorem dX4_words_19 : decode cX4_words 19 = .ok (.istore 4, 2) := by decide +kernel
theorem dX4_words_21 : decode cX4_words 21 = .ok (.iconst 0, 1) := by decide +kernel
theorem dX4_words_22 : decode cX4_words 22 = .ok (.istore 5, 2) := by decide +kernel
theorem dX4_words_24 : decode cX4_words 24 = .ok (.iload 5, 2) := by decide +kernel
theorem dX4_words_26 : decode cX4_words 26 = .ok (.iload_n 1, 1) := by decide +kernel
theorem dX4_words_27 : decode cX4_words 27 = .ok (.if_icmp .ge 27, 3) := by decide +kernel
theorem dX4_words_30 : decode cX4_words 30 = .ok (.iload 4, 2) := by decide +kernel
theorem dX4_words_32 : decode cX4_words 32 = .ok (.sipush 512, 3) := by decide +kernel
theorem dX4_words_35 : decode cX4_words 35 = .ok (.iload_n 3, 1) := by decide +kernel
theorem dX4_words_36 : decode cX4_words 36 = .ok (.bipush 10, 2) := by decide +kernel
theorem dX4_words_38 : decode cX4_words 38 = .ok (.irem, 1) := by decide +kernel
theorem dX4_words_39 : decode cX4_words 39 = .ok (.ishr, 1) := by decide +kernel
theorem dX4_words_40 : decode cX4_words 40 = .ok (.iadd, 1) := by decide +kernel
theorem dX4_words_41 : decode cX4_words 41 = .ok (.istore 4, 2) := by decide +kernel
theorem dX4_words_43 : decode cX4_words 43 = .ok (.iload_n 3, 1) := by decide +kernel
theorem dX4_words_44 : decode cX4_words 44 = .ok (.bipush 10, 2) := by decide +kernel
theorem dX4_words_46 : decode cX4_words 46 = .ok (.idiv, 1) := by decide +kernel
theorem dX4_words_47 : decode cX4_words 47 = .ok (.istore_n 3, 1) := by decide +kernel
theorem dX4_words_48 : decode cX4_words 48 = .ok (.iinc 5 1, 3) := by decide +kernel
theorem dX4_words_51 : decode cX4_words 51 = .ok (.goto (-27), 3) := by decide +kernel
theorem dX4_words_54 : decode cX4_words 54 = .ok (.iload 4, 2) := by decide +kernel
theorem dX4_words_56 : decode cX4_words 56 = .ok (.sipush 512, 3) := by decide +kernel
theorem dX4_words_59 : decode cX4_words 59 = .ok (.if_icmp .gt 7, 3) := by decide +kernel
theorem dX4_words_62 : decode cX4_words 62 = .ok (.iconst 1, 1) := by decide +kernel
theorem dX4_words_63 : decode cX4_words 63 = .ok (.goto 4, 3) := by decide +kernel
theorem dX4_words_66 : decode cX4_words 66 = .ok (.iconst 0, 1) := by decide +kernel
theorem dX4_words_67 : decode cX4_words 67 = .ok (.ireturn, 1) := by decide +kernel
set_option maxRecDepth 20000 in
theorem ggX4_secret_X4_isMade : GoodIn wsX4_secret wsX4_isMade := goodIn_r _ [5, 6, 7, 8, 4, 9, 10, 11, 12, 50, 51, 52, 53, 54, 55, 56, 57, 58, 59, 60, 61, 62, 63, 64] (by decide +kernel) (by decide +kernel)
set_option maxRecDepth 20000 in
theorem gX4_secret_X4_isMade : GoodIn wsX4_secret (wsV RX4 62 RX4 yX4_isMade wsX4_isMade) := goodIn_app (goodIn_of _ (by decide +kernel)) ggX4_secret_X4_isMade
set_option maxRecDepth 20000 in
theorem ggX4_secret_X4_clear : GoodIn wsX4_secret wsX4_clear := goodIn_r _ [16, 17, 50, 51, 52, 53, 54, 55, 56, 57, 58, 59, 60, 61, 62, 63, 64] (by decide +kernel) (by decide +kernel)
set_option maxRecDepth 20000 in
theorem gX4_secret_X4_clear : GoodIn wsX4_secret (wsV RX4 99 RX4 yX4_clear wsX4_clear) := goodIn_app (goodIn_of _ (by decide +kernel)) ggX4_secret_X4_clear
set_option maxRecDepth 20000 in
theorem ggX4_secret_X4_doubt : GoodIn wsX4_secret wsX4_doubt := goodIn_r _ [21, 6, 22, 23, 24, 25, 4, 26, 27, 28, 29, 30, 31, 32, 17, 50, 51, 52, 53, 54, 55, 56, 57, 58, 59, 60, 61, 62, 63, 64] (by decide +kernel) (by decide +kernel)
set_option maxRecDepth 20000 in
theorem gX4_secret_X4_doubt : GoodIn wsX4_secret (wsV RX4 82 RX4 yX4_doubt wsX4_doubt) := goodIn_app (goodIn_of _ (by decide +kernel)) ggX4_secret_X4_doubt
set_option maxRecDepth 20000 in
theorem ggX4_secret_X4_signOf : GoodIn wsX4_secret wsX4_signOf := goodIn_r _ [36, 17, 37, 38, 39, 40, 41, 4, 42, 43, 32, 44, 45, 46, 47, 48, 49, 50, 51, 52, 53, 54, 55, 56, 57, 58, 59, 60, 61, 62, 63, 64] (by decide +kernel) (by decide +kernel)
set_option maxRecDepth 20000 in
theorem gX4_secret_X4_signOf : GoodIn wsX4_secret (wsV RX4 105 RX4 yX4_signOf wsX4_signOf) := goodIn_app (goodIn_of _ (by decide +kernel)) ggX4_secret_X4_signOf
theorem dX4_secret_0 : decode cX4_secret 0 = .ok (.aload_n 0, 1) := by decide +kernel
theorem dX4_secret_1 : decode cX4_secret 1 = .ok (.iload_n 1, 1) := by decide +kernel
theorem dX4_secret_2 : decode cX4_secret 2 = .ok (.invokevirtual 62, 3) := by decide +kernel
theorem dX4_secret_5 : decode cX4_secret 5 = .ok (.ifCond .eq 19, 3) := by decide +kernel
theorem dX4_secret_8 : decode cX4_secret 8 = .ok (.iload_n 2, 1) := by decide +kernel
theorem dX4_secret_9 : decode cX4_secret 9 = .ok (.iconst 2, 1) := by decide +kernel
theorem dX4_secret_10 : decode cX4_secret 10 = .ok (.if_icmp .eq 16, 3) := by decide +kernel
theorem dX4_secret_13 : decode cX4_secret 13 = .ok (.iload_n 2, 1) := by decide +kernel
theorem dX4_secret_14 : decode cX4_secret 14 = .ok (.iconst 4, 1) := by decide +kernel
theorem dX4_secret_15 : decode cX4_secret 15 = .ok (.if_icmp .eq 11, 3) := by decide +kernel
theorem dX4_secret_18 : decode cX4_secret 18 = .ok (.iload_n 2, 1) := by decide +kernel
theorem dX4_secret_19 : decode cX4_secret 19 = .ok (.bipush 6, 2) := by decide +kernel
theorem dX4_secret_21 : decode cX4_secret 21 = .ok (.if_icmp .eq 5, 3) := by decide +kernel
theorem dX4_secret_24 : decode cX4_secret 24 = .ok (.iconst (-1), 1) := by decide +kernel
theorem dX4_secret_25 : decode cX4_secret 25 = .ok (.ireturn, 1) := by decide +kernel
theorem dX4_secret_26 : decode cX4_secret 26 = .ok (.aload_n 0, 1) := by decide +kernel
theorem dX4_secret_27 : decode cX4_secret 27 = .ok (.invokevirtual 99, 3) := by decide +kernel
theorem dX4_secret_30 : decode cX4_secret 30 = .ok (.aload_n 0, 1) := by decide +kernel
theorem dX4_secret_31 : decode cX4_secret 31 = .ok (.iload_n 1, 1) := by decide +kernel
theorem dX4_secret_32 : decode cX4_secret 32 = .ok (.iload_n 2, 1) := by decide +kernel
theorem dX4_secret_33 : decode cX4_secret 33 = .ok (.iconst 1, 1) := by decide +kernel
theorem dX4_secret_34 : decode cX4_secret 34 = .ok (.iadd, 1) := by decide +kernel
theorem dX4_secret_35 : decode cX4_secret 35 = .ok (.iconst 1, 1) := by decide +kernel
theorem dX4_secret_36 : decode cX4_secret 36 = .ok (.invokevirtual 82, 3) := by decide +kernel
theorem dX4_secret_39 : decode cX4_secret 39 = .ok (.aload_n 0, 1) := by decide +kernel
theorem dX4_secret_40 : decode cX4_secret 40 = .ok (.iload_n 1, 1) := by decide +kernel
theorem dX4_secret_41 : decode cX4_secret 41 = .ok (.iload_n 2, 1) := by decide +kernel
theorem dX4_secret_42 : decode cX4_secret 42 = .ok (.iconst (-1), 1) := by decide +kernel
theorem dX4_secret_43 : decode cX4_secret 43 = .ok (.invokevirtual 82, 3) := by decide +kernel
theorem dX4_secret_46 : decode cX4_secret 46 = .ok (.aload_n 0, 1) := by decide +kernel
theorem dX4_secret_47 : decode cX4_secret 47 = .ok (.invokevirtual 105, 3) := by decide +kernel
theorem dX4_secret_50 : decode cX4_secret 50 = .ok (.ifCond .ne 5, 3) := by decide +kernel
theorem dX4_secret_53 : decode cX4_secret 53 = .ok (.iconst 1, 1) := by decide +kernel
theorem dX4_secret_54 : decode cX4_secret 54 = .ok (.ireturn, 1) := by decide +kernel
theorem dX4_secret_55 : decode cX4_secret 55 = .ok (.aload_n 0, 1) := by decide +kernel
theorem dX4_secret_56 : decode cX4_secret 56 = .ok (.invokevirtual 99, 3) := by decide +kernel
theorem dX4_secret_59 : decode cX4_secret 59 = .ok (.aload_n 0, 1) := by decide +kernel
theorem dX4_secret_60 : decode cX4_secret 60 = .ok (.iload_n 1, 1) := by decide +kernel
end
section
theorem dX4_secret_61 : decode cX4_secret 61 = .ok (.iconst 1, 1) := by decide +kernel
theorem dX4_secret_62 : decode cX4_secret 62 = .ok (.iconst 1, 1) := by decide +kernel
theorem dX4_secret_63 : decode cX4_secret 63 = .ok (.invokevirtual 82, 3) := by decide +kernel
theorem dX4_secret_66 : decode cX4_secret 66 = .ok (.aload_n 0, 1) := by decide +kernel
theorem dX4_secret_67 : decode cX4_secret 67 = .ok (.iload_n 1, 1) := by decide +kernel
theorem dX4_secret_68 : decode cX4_secret 68 = .ok (.iload_n 2, 1) := by decide +kernel
theorem dX4_secret_69 : decode cX4_secret 69 = .ok (.iconst 1, 1) := by decide +kernel
theorem dX4_secret_70 : decode cX4_secret 70 = .ok (.invokevirtual 82, 3) := by decide +kernel
theorem dX4_secret_73 : decode cX4_secret 73 = .ok (.aload_n 0, 1) := by decide +kernel
theorem dX4_secret_74 : decode cX4_secret 74 = .ok (.iload_n 1, 1) := by decide +kernel
theorem dX4_secret_75 : decode cX4_secret 75 = .ok (.iload_n 2, 1) := by decide +kernel
theorem dX4_secret_76 : decode cX4_secret 76 = .ok (.iconst 1, 1) := by decide +kernel
theorem dX4_secret_77 : decode cX4_secret 77 = .ok (.iadd, 1) := by decide +kernel
theorem dX4_secret_78 : decode cX4_secret 78 = .ok (.iconst (-1), 1) := by decide +kernel
theorem dX4_secret_79 : decode cX4_secret 79 = .ok (.invokevirtual 82, 3) := by decide +kernel
theorem dX4_secret_82 : decode cX4_secret 82 = .ok (.aload_n 0, 1) := by decide +kernel
theorem dX4_secret_83 : decode cX4_secret 83 = .ok (.invokevirtual 105, 3) := by decide +kernel
theorem dX4_secret_86 : decode cX4_secret 86 = .ok (.ifCond .ne 7, 3) := by decide +kernel
theorem dX4_secret_89 : decode cX4_secret 89 = .ok (.iconst 0, 1) := by decide +kernel
theorem dX4_secret_90 : decode cX4_secret 90 = .ok (.goto 4, 3) := by decide +kernel
theorem dX4_secret_93 : decode cX4_secret 93 = .ok (.iconst 2, 1) := by decide +kernel
theorem dX4_secret_94 : decode cX4_secret 94 = .ok (.ireturn, 1) := by decide +kernel
theorem dJ9_abs_0f7a4_0 : decode cJ9_abs_0f7a4 0 = .ok (.iload_n 0, 1) := by decide +kernel
theorem dJ9_abs_0f7a4_1 : decode cJ9_abs_0f7a4 1 = .ok (.ifCond .ge 8, 3) := by decide +kernel
theorem dJ9_abs_0f7a4_4 : decode cJ9_abs_0f7a4 4 = .ok (.iload_n 0, 1) := by decide +kernel
theorem dJ9_abs_0f7a4_5 : decode cJ9_abs_0f7a4 5 = .ok (.ineg, 1) := by decide +kernel
theorem dJ9_abs_0f7a4_6 : decode cJ9_abs_0f7a4 6 = .ok (.goto 4, 3) := by decide +kernel
theorem dJ9_abs_0f7a4_9 : decode cJ9_abs_0f7a4 9 = .ok (.iload_n 0, 1) := by decide +kernel
theorem dJ9_abs_0f7a4_10 : decode cJ9_abs_0f7a4 10 = .ok (.ireturn, 1) := by decide +kernel
theorem dJ9_abs_067f4_0 : decode cJ9_abs_067f4 0 = .ok (.lload_n 0, 1) := by decide +kernel
theorem dJ9_abs_067f4_1 : decode cJ9_abs_067f4 1 = .ok (.lconst 0, 1) := by decide +kernel
theorem dJ9_abs_067f4_2 : decode cJ9_abs_067f4 2 = .ok (.lcmp, 1) := by decide +kernel
theorem dJ9_abs_067f4_3 : decode cJ9_abs_067f4 3 = .ok (.ifCond .ge 8, 3) := by decide +kernel
theorem dJ9_abs_067f4_6 : decode cJ9_abs_067f4 6 = .ok (.lload_n 0, 1) := by decide +kernel
theorem dJ9_abs_067f4_7 : decode cJ9_abs_067f4 7 = .ok (.lneg, 1) := by decide +kernel
theorem dJ9_abs_067f4_8 : decode cJ9_abs_067f4 8 = .ok (.goto 4, 3) := by decide +kernel
theorem dJ9_abs_067f4_11 : decode cJ9_abs_067f4 11 = .ok (.lload_n 0, 1) := by decide +kernel
theorem dJ9_abs_067f4_12 : decode cJ9_abs_067f4 12 = .ok (.lreturn, 1) := by decide +kernel
theorem dJ7_fill_53178_0 : decode cJ7_fill_53178 0 = .ok (.iconst 0, 1) := by decide +kernel
theorem dJ7_fill_53178_1 : decode cJ7_fill_53178 1 = .ok (.istore_n 2, 1) := by decide +kernel
theorem dJ7_fill_53178_2 : decode cJ7_fill_53178 2 = .ok (.aload_n 0, 1) := by decide +kernel
theorem dJ7_fill_53178_3 : decode cJ7_fill_53178 3 = .ok (.arraylength, 1) := by decide +kernel
theorem dJ7_fill_53178_4 : decode cJ7_fill_53178 4 = .ok (.istore_n 3, 1) := by decide +kernel
theorem dJ7_fill_53178_5 : decode cJ7_fill_53178 5 = .ok (.iload_n 2, 1) := by decide +kernel
theorem dJ7_fill_53178_6 : decode cJ7_fill_53178 6 = .ok (.iload_n 3, 1) := by decide +kernel
theorem dJ7_fill_53178_7 : decode cJ7_fill_53178 7 = .ok (.if_icmp .ge 13, 3) := by decide +kernel
theorem dJ7_fill_53178_10 : decode cJ7_fill_53178 10 = .ok (.aload_n 0, 1) := by decide +kernel
theorem dJ7_fill_53178_11 : decode cJ7_fill_53178 11 = .ok (.iload_n 2, 1) := by decide +kernel
theorem dJ7_fill_53178_12 : decode cJ7_fill_53178 12 = .ok (.iload_n 1, 1) := by decide +kernel
theorem dJ7_fill_53178_13 : decode cJ7_fill_53178 13 = .ok (.iastore, 1) := by decide +kernel
theorem dJ7_fill_53178_14 : decode cJ7_fill_53178 14 = .ok (.iinc 2 1, 3) := by decide +kernel
theorem dJ7_fill_53178_17 : decode cJ7_fill_53178 17 = .ok (.goto (-12), 3) := by decide +kernel
theorem dJ7_fill_53178_20 : decode cJ7_fill_53178 20 = .ok (.return_, 1) := by decide +kernel
abbrev vwCl : List vw_C := [(RX0, TX0, 3), (RX1, TX1, 2), (RX2, TX2, 3), (RX3, TX3, 8), (RX4, TX4, 15)]
end
section
/-! THE FRAME: one shape of contract for all methods (own rows) -/
def tb_primes : List Int32 := [2, 3, 5, 7, 11, 13]
def tb_powers : List Int32 := [0, 0, 0, 0, 0, 0, 0, 0, 0, 0, 0, 0, 1, 0, 0, 0, 0, 0, 0, 1, 0, 0, 0, 0, 2, 0, 0, 0, 0, 0, 0, 0, 1, 0, 0, 0, 1, 1, 0, 0, 0, 0, 0, 0, 0, 1, 0, 0, 3, 0, 0, 0, 0, 0, 0, 2, 0, 0, 0, 0, 1, 0, 1, 0, 0, 0, 0, 0, 0, 0, 1, 0, 2, 1, 0, 0, 0, 0, 0, 0, 0, 0, 0, 1, 1, 0, 0, 1, 0, 0, 0, 1, 1, 0, 0, 0, 4, 0, 0, 0, 0, 0]
def tb_pairs : List Int32 := [3, 5, 6]
def tb_plain : List Int32 := [0, 0, 0, 0, 0, 0, -1, 1, 0, 0, 0, 0, 0, -1, 0, 1, 0, 0, 0, -1, 0, 0, 0, 1, 0, 1, 1, -1, 0, 0, 0, 0, 0, 1, 0, 0, 1, -1, 0, 0, 0, 0, 1, 0, 1, 0, -1, 0, 0, 0, 0, 0, -1, 1, 1, -1, 0, 0, -1, 1, 0, 0, 1, -1, 0, -1, 0, 1, 0, 1, 0, -1]
def tb_rows : List Int32 := [0, 1, 0, 1, 0, 1, 0, 1, 0, 0, 1, 1, 0, 0, 1, 1, 0, 0, 0, 0, 1, 1, 1, 1, 0, 1, 1, 1, 0, 1, 1, 1, 0, 1, 0, 1, 1, 1, 1, 1, 0, 0, 1, 1, 1, 1, 1, 1, 0, 1, 1, 1, 1, 1, 1, 1, 0, 1, 1, 2, 1, 2, 2, 2]
def tb_logs : List Int64 := [1099511627776, 1742684699131, 2552986939188, 3086719380096, 3803685290187, 4068676497980]
/-- a static array of the class: the field holds it, and it holds its numbers -/
def st1 (nm d : String) (ty : FieldType) (N : Nat) (f : Nat → Value) (a : Nat) (A : Nat → Prop) (U : State) (H : Heap) : Prop := va_Z RX3 nm d (.ref a) A U H ∧ va_T ty a N f A U H
theorem st1.moved {nm d : String} {ty : FieldType} {N : Nat} {f : Nat → Value} {a : Nat} {A : Nat → Prop} {u U : State} {H : Heap} (hvm : u.vm.Alike U.vm) (h : st1 nm d ty N f a A u H) : st1 nm d ty N f a A U H := ⟨va_Z.moved hvm h.1, va_T.moved hvm h.2⟩
theorem st1.kept {nm d : String} {ty : FieldType} {N : Nat} {f : Nat → Value} {a : Nat} {A : Nat → Prop} {U : State} {H H1 : Heap} (h : st1 nm d ty N f a A U H) (hq : ∀ a : Nat, a < H.size → ¬ A a → H1[a]? = H[a]?) : st1 nm d ty N f a A U H1 := ⟨h.1.kept hq, h.2.kept hq⟩
theorem st1.narrow {nm d : String} {ty : FieldType} {N : Nat} {f : Nat → Value} {a : Nat} {A B : Nat → Prop} {U : State} {H : Heap} (h : st1 nm d ty N f a A U H) (hAB : ∀ q, B q → A q) : st1 nm d ty N f a B U H := ⟨h.1.narrow hAB, h.2.narrow hAB⟩
def Sta (t : Nat → Nat) (A : Nat → Prop) (U : State) (H : Heap) : Prop :=
  st1 "PRIMES" "[I" .int 6 (fun j => .int (tb_primes.getD j 0)) (t 0) A U H ∧ st1 "PRIME_POWERS" "[I" .int 102 (fun j => .int (tb_powers.getD j 0)) (t 1) A U H ∧ st1 "PAIRS" "[I" .int 3 (fun j => .int (tb_pairs.getD j 0)) (t 2) A U H ∧ st1 "PLAIN_NUMBERS" "[I" .int 72 (fun j => .int (tb_plain.getD j 0)) (t 3) A U H ∧ st1 "ROW_NUMBERS" "[I" .int 64 (fun j => .int (tb_rows.getD j 0)) (t 4) A U H ∧ st1 "LOGS_CUT" "[J" .long 6 (fun j => .long (tb_logs.getD j 0)) (t 5) A U H
theorem Sta.moved {t : Nat → Nat} {A : Nat → Prop} {u U : State} {H : Heap} (hvm : u.vm.Alike U.vm) (h : Sta t A u H) : Sta t A U H := by
  obtain ⟨h0, h1, h2, h3, h4, h5⟩ := h
  exact ⟨st1.moved hvm h0, st1.moved hvm h1, st1.moved hvm h2, st1.moved hvm h3, st1.moved hvm h4, st1.moved hvm h5⟩
theorem Sta.kept {t : Nat → Nat} {A : Nat → Prop} {U : State} {H H1 : Heap} (h : Sta t A U H) (hq : ∀ a : Nat, a < H.size → ¬ A a → H1[a]? = H[a]?) : Sta t A U H1 := by
  obtain ⟨h0, h1, h2, h3, h4, h5⟩ := h
  exact ⟨h0.kept hq, h1.kept hq, h2.kept hq, h3.kept hq, h4.kept hq, h5.kept hq⟩
theorem Sta.narrow {t : Nat → Nat} {A B : Nat → Prop} {U : State} {H : Heap} (h : Sta t A U H) (hAB : ∀ q, B q → A q) : Sta t B U H := by
  obtain ⟨h0, h1, h2, h3, h4, h5⟩ := h
  exact ⟨h0.narrow hAB, h1.narrow hAB, h2.narrow hAB, h3.narrow hAB, h4.narrow hAB, h5.narrow hAB⟩
/-- the nest mates' links -/
def nstM : List (String × Nat × MethodName) := [(RX3, 22, yX0_init), (RX0, 20, yX1_init), (RX3, 44, yX2_init), (RX3, 52, yX2_begin), (RX3, 56, yX2_hasSetting), (RX3, 64, yX2_put), (RX3, 68, yX2_isMade), (RX3, 79, yX2_weightOf), (RX3, 86, yX2_hasStatesOf), (RX3, 90, yX2_becomeMixOf), (RX3, 97, yX2_gather), (RX2, 32, yX3_settingOf), (RX3, 101, yX2_spreadByRule), (RX3, 120, yX0_clear), (RX3, 131, yX0_addLog), (RX3, 127, yX0_signOfSum), (RX0, 55, yX1_becomeOne), (RX0, 58, yX1_multiplyByPower), (RX0, 62, yX1_against), (RX3, 162, yX0_isNought)]
def nstF : List (String × Nat × String × String × String) := [(RX0, 9, RX3, "PRIMES", "[I"), (RX3, 72, RX2, "states", "[I"), (RX3, 75, RX2, "total", "I"), (RX0, 34, RX3, "PRIME_POWERS", "[I"), (RX0, 37, RX3, "LOGS_CUT", "[J")]
def Nst (U : State) : Prop := (∀ q ∈ nstM, va_Nw (.methodLinkNest q.1 q.2.1 q.2.2 RX3) U) ∧ (∀ q ∈ nstF, va_Nw (.fieldLinkNest q.1 q.2.1 q.2.2.1 q.2.2.2.1 q.2.2.2.2 RX3) U)
theorem Nst.warm {s U : State} (hW : s.WarmedH U.vm) (h : Nst s) : Nst U := ⟨fun q hq => va_Nw.warmM hW (h.1 q hq), fun q hq => va_Nw.warmF hW (h.2 q hq)⟩
theorem Nst.same {u U : State} (hv : u.vm = U.vm) (h : Nst u) : Nst U := ⟨fun q hq => va_Nw.same rfl hv (h.1 q hq), fun q hq => va_Nw.same rfl hv (h.2 q hq)⟩
def tysC (k : Nat → ClassId) : List (ClassId × FieldType) := [(k 0, .int), (k 1, .long), (k 2, .object RX2), (k 3, .array .int)]
/-- what holds of the machine all the while: the classes, the static arrays, the nest mates' links -/
def Ev (D : va_G) (k : Nat → ClassId) (t : Nat → Nat) (A : Nat → Prop) (U : State) (H : Heap) : Prop := va_K D vwCl (tysC k) U ∧ Sta t A U H ∧ Nst U
def PcW (D : va_G) (k : Nat → ClassId) (t : Nat → Nat) (ws : va_W) (sz : Nat) (U : State) : Prop := U.heap.size = sz ∧ va_P D vwCl ws U.heap ∧ va_D (fun _ => True) ws ∧ Ev D k t (va_A ws sz) U U.heap
def BcW (D : va_G) (A : Nat → Prop) (w : va_W) (T : State) : Prop := va_P D vwCl w T.heap ∧ va_D A w
/-- contracts: an int (or boolean), nothing, a long -/
def Ci (D : va_G) (k : Nat → ClassId) (t : Nat → Nat) (l : Launch) (y : MethodName) (wl : List Cond) (rm : Room) (av : List Value) (ws : va_W) (post : Int32 → va_W → Prop) (mc ms : Nat) : Prop := ∀ sz, Met l y wl rm (va_Pc av (PcW D k t ws sz)) (va_Qi post (BcW D (va_A ws sz)) (va_A ws sz)) mc ms (va_A ws sz)
def Cv (D : va_G) (k : Nat → ClassId) (t : Nat → Nat) (l : Launch) (y : MethodName) (wl : List Cond) (rm : Room) (av : List Value) (ws : va_W) (post : va_W → Prop) (mc ms : Nat) : Prop := ∀ sz, Met l y wl rm (va_Pc av (PcW D k t ws sz)) (va_Qv post (BcW D (va_A ws sz)) (va_A ws sz)) mc ms (va_A ws sz)
def Cj (D : va_G) (k : Nat → ClassId) (t : Nat → Nat) (l : Launch) (y : MethodName) (wl : List Cond) (rm : Room) (av : List Value) (ws : va_W) (post : Int64 → va_W → Prop) (mc ms : Nat) : Prop := ∀ sz, Met l y wl rm (va_Pc av (PcW D k t ws sz)) (va_Ql post (BcW D (va_A ws sz)) (va_A ws sz)) mc ms (va_A ws sz)
theorem PcW.blind {D : va_G} {k : Nat → ClassId} {t : Nat → Nat} {ws : va_W} {sz : Nat} (av : List Value) : FrameBlind (va_Pc av (PcW D k t ws sz)) := fun a U g mk q => by
  obtain ⟨q0, q1, qP, qD, qK, qS, qN⟩ := q
  exact ⟨q0, q1, qP, qD, va_K.moved (u := U) (U := U.calling g mk a) (Vm.Alike.refl U.vm) qK, Sta.moved (u := U) (U := U.calling g mk a) (Vm.Alike.refl U.vm) qS, Nst.same (u := U) (U := U.calling g mk a) rfl qN⟩
/-- what a walk stands on -/
def Cx (own nm : String) (cc : ByteArray) (maxL : Nat) (ret : Option FieldType) (wl : List Cond) (D : va_G) (k : Nat → ClassId) (t : Nat → Nat) (A : Nat → Prop) (p : Program) (s : State) (m : MethodId) (args : Array Value) (meth : Method) (c : Code) : Prop :=
  p.tables.exec = Jvm.exec ∧ c.code = cc ∧ meth.sig.returnType = ret ∧ c.maxLocals = maxL ∧ s.vm.findClass own = some m.cls ∧ (∀ w ∈ wl, w.before args s = true) ∧ (meth.name = nm ∧ meth.locks = false) ∧ (∀ q, s.heap.size ≤ q → A q) ∧ Ev D k t A s s.heap
section FWof
variable {D : va_G} {k : Nat → ClassId} {t : Nat → Nat} {l : Launch} {y : MethodName} {wl wl' : List Cond} {rm : Room} {av : List Value} {ws : va_W} {mc ms : Nat} {cc : ByteArray} {maxL : Nat} {ret : Option FieldType}
theorem fw_of {Qc : (Nat → Prop) → Array Value → State → Outcome → State → Prop} (hy : plainName y.cls = true) (hw : wl = Cond.code y cc maxL ret :: wl') (hle : (lg_sl av).length ≤ maxL)
    (body : ∀ (p : Program) (e : Env) (s : State) (m : MethodId) (below : List Frame) (meth : Method) (c : Code) (A : Nat → Prop) (ls : Array Slot), Cx y.cls y.name cc maxL ret wl D k t A p s m av.toArray meth c → va_P D vwCl ws s.heap → va_D A ws → lv_has ls maxL (lv_args 0 av) →
      W p l e rm s m av.toArray below meth c s.heap [] 0 0 (MQ below (Qc A) av.toArray s mc ms A) (F0 m 0 ls [])) (sz : Nat) : Met l y wl rm (va_Pc av (PcW D k t ws sz)) (Qc (va_A ws sz)) mc ms (va_A ws sz) := by
  refine Met.ofW (cc := cc) (maxL := maxL) (ret := ret) hy hw ?_
  intro p e s m args below meth c s₁ B hml hv
  obtain ⟨rfl, hsz, hP, hD0, hE⟩ := hv
  subst hsz
  have hl := lv_entry av (n := maxL) hle
  rw [lg_entry_eq]
  exact body p e s m below meth c (va_A ws s.heap.size) _ ⟨B.exec, B.bytes, B.returns, hml, findClass_of_methodNamed B.named, atoms_spec (ws := wl) B.pre, ⟨(name_of_methodNamed B.named B.method).1, B.notSynchronized⟩, fun q h => Or.inr h, hE⟩ hP (hD0.self (sz := s.heap.size)) hl
end FWof
section FWret
variable {p : Program} {l : Launch} {e : Env} {R : Room} {s : State} {m : MethodId} {args : Array Value} {below : List Frame} {meth : Method} {c : Code} {H : Heap} {locs : List Loc} {cells slots mc ms : Nat} {own nm : String} {cc : ByteArray} {maxL : Nat} {ret : Option FieldType} {wl : List Cond} {D : va_G} {k : Nat → ClassId} {t : Nat → Nat} {A : Nat → Prop} {w : va_W} {pc : Nat} {ls : Array Slot} {rest : List Value}
theorem Ri {v : Int32} {post : Int32 → va_W → Prop} (C : Cx own nm cc maxL (some .int) wl D k t A p s m args meth c) (hP : va_P D vwCl w H) (hD : va_D A w) (hS : va_S A s.heap H locs) (h1 : cells ≤ mc) (h2 : slots ≤ ms) (hd : decode cc pc = .ok (.ireturn, 1)) (hp : post v w) : W p l e R s m args below meth c H locs cells slots (MQ below (va_Qi post (BcW D A) A) args s mc ms A) (F0 m pc ls [.int v]) := by
  refine W.widen h1 h2 ?_
  have hlocks := C.2.2.2.2.2.2.1.2
  exact W.iret (Qc := va_Qi post (BcW D A) A) C.1 C.2.1 C.2.2.1 (fun t ht _ => ⟨⟨v, w, rfl, hp, by rw [ht]; exact hP, hD⟩, hS.F ht⟩) hS.2.2 hd
theorem Rz {v : Int32} {post : Int32 → va_W → Prop} (C : Cx own nm cc maxL (some .boolean) wl D k t A p s m args meth c) (hP : va_P D vwCl w H) (hD : va_D A w) (hS : va_S A s.heap H locs) (h1 : cells ≤ mc) (h2 : slots ≤ ms) (hn : narrow .boolean (.int v) = .int v) (hd : decode cc pc = .ok (.ireturn, 1)) (hp : post v w) : W p l e R s m args below meth c H locs cells slots (MQ below (va_Qi post (BcW D A) A) args s mc ms A) (F0 m pc ls [.int v]) := by
  refine W.widen h1 h2 ?_
  have hlocks := C.2.2.2.2.2.2.1.2
  exact W.zret (Qc := va_Qi post (BcW D A) A) C.1 C.2.1 C.2.2.1 hn (fun t ht _ => ⟨⟨v, w, rfl, hp, by rw [ht]; exact hP, hD⟩, hS.F ht⟩) hS.2.2 hd
theorem Rv {post : va_W → Prop} (C : Cx own nm cc maxL none wl D k t A p s m args meth c) (hP : va_P D vwCl w H) (hD : va_D A w) (hS : va_S A s.heap H locs) (h1 : cells ≤ mc) (h2 : slots ≤ ms) (hd : decode cc pc = .ok (.return_, 1)) (hp : post w) : W p l e R s m args below meth c H locs cells slots (MQ below (va_Qv post (BcW D A) A) args s mc ms A) (F0 m pc ls []) := by
  refine W.widen h1 h2 ?_
  have hlocks := C.2.2.2.2.2.2.1.2
  exact W.vret (Qc := va_Qv post (BcW D A) A) C.1 C.2.1 C.2.2.1 (fun t ht _ => ⟨⟨w, rfl, hp, by rw [ht]; exact hP, hD⟩, hS.F ht⟩) hS.2.2 hd
theorem Rj {v : Int64} {post : Int64 → va_W → Prop} (C : Cx own nm cc maxL (some .long) wl D k t A p s m args meth c) (hP : va_P D vwCl w H) (hD : va_D A w) (hS : va_S A s.heap H locs) (h1 : cells ≤ mc) (h2 : slots ≤ ms) (hd : decode cc pc = .ok (.lreturn, 1)) (hp : post v w) : W p l e R s m args below meth c H locs cells slots (MQ below (va_Ql post (BcW D A) A) args s mc ms A) (F0 m pc ls [.long v]) := by
  refine W.widen h1 h2 ?_
  have hlocks := C.2.2.2.2.2.2.1.2
  exact W.lret (Qc := va_Ql post (BcW D A) A) C.1 C.2.1 C.2.2.1 (fun t ht _ => ⟨⟨v, w, rfl, hp, by rw [ht]; exact hP, hD⟩, hS.F ht⟩) hS.2.2 hd
end FWret
section FWcall
variable {p : Program} {l : Launch} {e : Env} {R : Room} {s : State} {m : MethodId} {args : Array Value} {below : List Frame} {meth : Method} {c : Code} {H : Heap} {locs : List Loc} {cells slots mc ms : Nat} {own nm : String} {cc : ByteArray} {maxL : Nat} {ret : Option FieldType} {wl : List Cond} {D : va_G} {k : Nat → ClassId} {t : Nat → Nat} {A : Nat → Prop} {ws : va_W} {pc : Nat} {ls : Array Slot} {rest st0 : List Value} {Q : State → Prop}
  {y : MethodName} {bytes : ByteArray} {maxL2 n index : Nat} {ret2 : Option FieldType} {wl2 : List Cond} {rm : Room} {As : List Value} {b : Nat} {C2 host : String}
theorem fw_free (C : Cx own nm cc maxL ret wl D k t A p s m args meth c) (hD : va_D A ws) (hS : va_S A s.heap H locs) : ∀ q, va_A ws H.size q → A q := fun q h => by
  rcases h with ⟨i, e, h⟩ | h
  · exact hD.2 i _ h
  · exact C.2.2.2.2.2.2.2.1 q (Nat.le_trans hS.1 h)
theorem fw_pre (C : Cx own nm cc maxL ret wl D k t A p s m args meth c) (hP : va_P D vwCl ws H) (hD : va_D A ws) (hS : va_S A s.heap H locs) (av : List Value) : PreS s H (va_Pc av (PcW D k t ws H.size)) av := by
  refine ⟨PcW.blind av, fun U hU hW => ⟨rfl, by rw [hU], by rw [hU]; exact hP, hD.weaken (fun _ _ _ _ => trivial), ?_⟩⟩
  obtain ⟨hK, hZ, hN⟩ := C.2.2.2.2.2.2.2.2
  refine ⟨va_K.moved hW.alike hK, ?_, hN.warm hW⟩
  rw [hU]
  exact Sta.moved hW.alike ((hZ.kept hS.2.1).narrow (fw_free C hD hS))
theorem fw_fix (C : Cx own nm cc maxL ret wl D k t A p s m args meth c) : CallFix p m c cc maxL s args wl own := ⟨C.1, C.2.1, C.2.2.2.1, C.2.2.2.2.1, C.2.2.2.2.2.1⟩
theorem fw_i {post : Int32 → va_W → Prop} {a : Array Value} (C : Cx own nm cc maxL ret wl D k t A p s m args meth c) (hD : va_D A ws) (hS : va_S A s.heap H locs)
    (hr : va_Run p l e R s m args below meth c H locs cells slots mc ms (F0 m pc ls st0) rest (va_Qi post (BcW D (va_A ws H.size)) (va_A ws H.size) a) (va_A ws H.size))
    (kk : ∀ (r : Int32) (w : va_W) (H1 : Heap) (locs1 : List Loc), post r w → va_P D vwCl w H1 → va_D A w → va_S A s.heap H1 locs1 → W p l e R s m args below meth c H1 locs1 (cells + mc) (slots + ms) Q (F0 m (pc + 3) ls (.int r :: rest))) : W p l e R s m args below meth c H locs cells slots Q (F0 m pc ls st0) := by
  have hF := fw_free C hD hS
  refine va_calli hr hS (fun q _ h => hF q h) hF (fun r u T H1 locs1 hT _ hw hB _ _ hS1 => ?_)
  rw [← hT] at hS1 ⊢
  exact kk r u _ locs1 hw hB.1 (hB.2.weaken (fun _ _ _ h => hF _ h)) hS1
theorem fw_v {post : va_W → Prop} {a : Array Value} (C : Cx own nm cc maxL ret wl D k t A p s m args meth c) (hD : va_D A ws) (hS : va_S A s.heap H locs)
    (hr : va_Run p l e R s m args below meth c H locs cells slots mc ms (F0 m pc ls st0) rest (va_Qv post (BcW D (va_A ws H.size)) (va_A ws H.size) a) (va_A ws H.size))
    (kk : ∀ (w : va_W) (H1 : Heap) (locs1 : List Loc), post w → va_P D vwCl w H1 → va_D A w → va_S A s.heap H1 locs1 → W p l e R s m args below meth c H1 locs1 (cells + mc) (slots + ms) Q (F0 m (pc + 3) ls rest)) : W p l e R s m args below meth c H locs cells slots Q (F0 m pc ls st0) := by
  have hF := fw_free C hD hS
  refine va_callv hr hS (fun q _ h => hF q h) hF (fun u T H1 locs1 hT _ hw hB _ _ hS1 => ?_)
  rw [← hT] at hS1 ⊢
  exact kk u _ locs1 hw hB.1 (hB.2.weaken (fun _ _ _ h => hF _ h)) hS1
theorem fw_j {post : Int64 → va_W → Prop} {a : Array Value} (C : Cx own nm cc maxL ret wl D k t A p s m args meth c) (hD : va_D A ws) (hS : va_S A s.heap H locs)
    (hr : va_Run p l e R s m args below meth c H locs cells slots mc ms (F0 m pc ls st0) rest (va_Ql post (BcW D (va_A ws H.size)) (va_A ws H.size) a) (va_A ws H.size))
    (kk : ∀ (r : Int64) (w : va_W) (H1 : Heap) (locs1 : List Loc), post r w → va_P D vwCl w H1 → va_D A w → va_S A s.heap H1 locs1 → W p l e R s m args below meth c H1 locs1 (cells + mc) (slots + ms) Q (F0 m (pc + 3) ls (.long r :: rest))) : W p l e R s m args below meth c H locs cells slots Q (F0 m pc ls st0) := by
  have hF := fw_free C hD hS
  refine va_calll hr hS (fun q _ h => hF q h) hF (fun r u T H1 locs1 hT _ hw hB _ _ hS1 => ?_)
  rw [← hT] at hS1 ⊢
  exact kk r u _ locs1 hw hB.1 (hB.2.weaken (fun _ _ _ h => hF _ h)) hS1
/-- how a call runs: virtual (own class), nest mate's virtual, static, nest mate's static, constructor, nest mate's constructor -/
theorem rn_V {Qc : Array Value → State → Outcome → State → Prop} {free : Addr → Prop} (C : Cx own nm cc maxL ret wl D k t A p s m args meth c) (hM : Met l y wl2 rm (va_Pc (.ref b :: As) (PcW D k t ws H.size)) Qc mc ms free) (cw : CallW R s args own C2 index y bytes maxL2 ret2 wl2 rm mc ms n)
    (q0 ci : Nat) {q : vw_C} {fs : List Value} (hc : vwCl[ci]? = some q) (he : ws[q0]? = some (b, .inr (ci, fs))) (hC2 : q.1 = C2) (hP : va_P D vwCl ws H) (hD : va_D A ws) (hS : va_S A s.heap H locs)
    (hn : As.length = n) (hsz : ls.size = maxL) (hst : st0 = As.reverse ++ .ref b :: rest) (hW : (rest.map fun v => v.category).sum ≤ 8) (hdg : decode cc pc = .ok (.invokevirtual index, 3)) (hf : cells + mc ≤ R.cells ∧ slots + ms ≤ R.slots) :
    va_Run p l e R s m args below meth c H locs cells slots mc ms (F0 m pc ls st0) rest (Qc (Value.ref b :: As).toArray) free := by
  have hp := fw_pre C hP hD hS (.ref b :: As)
  have hr := va_recv C.2.2.2.2.2.2.2.2.1 hP hc he
  rw [hC2] at hr
  exact va_runV (fw_fix C) hM cw ⟨hp.1, hr, hp.2⟩ rfl hn hsz hst (lv_room hW) hdg hf
theorem rn_VN {Qc : Array Value → State → Outcome → State → Prop} {free : Addr → Prop} (C : Cx own nm cc maxL ret wl D k t A p s m args meth c) (hM : Met l y wl2 rm (va_Pc (.ref b :: As) (PcW D k t ws H.size)) Qc mc ms free) (cw : va_CN R s args own index y host bytes maxL2 ret2 wl2 rm mc ms n) (h1 : (Cond.instanceMethod y).before args s = true) (h2 : (Cond.selects C2 y y).before args s = true)
    (q0 ci : Nat) {q : vw_C} {fs : List Value} (hc : vwCl[ci]? = some q) (he : ws[q0]? = some (b, .inr (ci, fs))) (hC2 : q.1 = C2) (hP : va_P D vwCl ws H) (hD : va_D A ws) (hS : va_S A s.heap H locs)
    (hn : As.length = n) (hsz : ls.size = maxL) (hst : st0 = As.reverse ++ .ref b :: rest) (hW : (rest.map fun v => v.category).sum ≤ 8) (hdg : decode cc pc = .ok (.invokevirtual index, 3)) (hf : cells + mc ≤ R.cells ∧ slots + ms ≤ R.slots) :
    va_Run p l e R s m args below meth c H locs cells slots mc ms (F0 m pc ls st0) rest (Qc (Value.ref b :: As).toArray) free := by
  have hp := fw_pre C hP hD hS (.ref b :: As)
  have hr := va_recv C.2.2.2.2.2.2.2.2.1 hP hc he
  rw [hC2] at hr
  exact va_runVN (fw_fix C) hM ⟨cw, h1, h2⟩ ⟨hp.1, hr, hp.2⟩ rfl hn hsz hst (lv_room hW) hdg hf
theorem rn_S {Qc : Array Value → State → Outcome → State → Prop} {free : Addr → Prop} (C : Cx own nm cc maxL ret wl D k t A p s m args meth c) (hM : Met l y wl2 rm (va_Pc As (PcW D k t ws H.size)) Qc mc ms free) (cw : CallB R s args own index y bytes maxL2 ret2 wl2 rm mc ms n ∧ (Cond.static y).before args s = true) (hP : va_P D vwCl ws H) (hD : va_D A ws) (hS : va_S A s.heap H locs)
    (hn : As.length = n) (hsz : ls.size = maxL) (hst : st0 = As.reverse ++ rest) (hW : (rest.map fun v => v.category).sum ≤ 8) (hdg : decode cc pc = .ok (.invokestatic index, 3)) (hf : cells + mc ≤ R.cells ∧ slots + ms ≤ R.slots) :
    va_Run p l e R s m args below meth c H locs cells slots mc ms (F0 m pc ls st0) rest (Qc As.toArray) free := va_runS (fw_fix C) hM cw (fw_pre C hP hD hS As) rfl hn hsz hst (lv_room hW) hdg hf
theorem rn_SN {Qc : Array Value → State → Outcome → State → Prop} {free : Addr → Prop} (C : Cx own nm cc maxL ret wl D k t A p s m args meth c) (hM : Met l y wl2 rm (va_Pc As (PcW D k t ws H.size)) Qc mc ms free) (cw : va_CN R s args own index y host bytes maxL2 ret2 wl2 rm mc ms n) (h1 : (Cond.static y).before args s = true) (hP : va_P D vwCl ws H) (hD : va_D A ws) (hS : va_S A s.heap H locs)
    (hn : As.length = n) (hsz : ls.size = maxL) (hst : st0 = As.reverse ++ rest) (hW : (rest.map fun v => v.category).sum ≤ 8) (hdg : decode cc pc = .ok (.invokestatic index, 3)) (hf : cells + mc ≤ R.cells ∧ slots + ms ≤ R.slots) :
    va_Run p l e R s m args below meth c H locs cells slots mc ms (F0 m pc ls st0) rest (Qc As.toArray) free := va_runSN (fw_fix C) hM ⟨cw, h1, trivial⟩ (fw_pre C hP hD hS As) rfl hn hsz hst (lv_room hW) hdg hf
theorem rn_I {Qc : Array Value → State → Outcome → State → Prop} {free : Addr → Prop} (C : Cx own nm cc maxL ret wl D k t A p s m args meth c) (hM : Met l y wl2 rm (va_Pc (.ref b :: As) (PcW D k t ws H.size)) Qc mc ms free) (cw : CallB R s args own index y bytes maxL2 none wl2 rm mc ms n ∧ y.name = "<init>" ∧ (Cond.instanceMethod y).before args s = true) (hP : va_P D vwCl ws H) (hD : va_D A ws) (hS : va_S A s.heap H locs)
    (hn : As.length = n) (hsz : ls.size = maxL) (hst : st0 = As.reverse ++ .ref b :: rest) (hW : (rest.map fun v => v.category).sum ≤ 8) (hdg : decode cc pc = .ok (.invokespecial index, 3)) (hf : cells + mc ≤ R.cells ∧ slots + ms ≤ R.slots) :
    va_Run p l e R s m args below meth c H locs cells slots mc ms (F0 m pc ls st0) rest (Qc (Value.ref b :: As).toArray) free := va_runI (fw_fix C) hM cw (fw_pre C hP hD hS (.ref b :: As)) rfl hn hsz hst (lv_room hW) hdg hf
theorem rn_IN {Qc : Array Value → State → Outcome → State → Prop} {free : Addr → Prop} (C : Cx own nm cc maxL ret wl D k t A p s m args meth c) (hM : Met l y wl2 rm (va_Pc (.ref b :: As) (PcW D k t ws H.size)) Qc mc ms free) (cw : va_CN R s args own index y host bytes maxL2 none wl2 rm mc ms n) (h1 : y.name = "<init>") (h2 : (Cond.instanceMethod y).before args s = true) (hP : va_P D vwCl ws H) (hD : va_D A ws) (hS : va_S A s.heap H locs)
    (hn : As.length = n) (hsz : ls.size = maxL) (hst : st0 = As.reverse ++ .ref b :: rest) (hW : (rest.map fun v => v.category).sum ≤ 8) (hdg : decode cc pc = .ok (.invokespecial index, 3)) (hf : cells + mc ≤ R.cells ∧ slots + ms ≤ R.slots) :
    va_Run p l e R s m args below meth c H locs cells slots mc ms (F0 m pc ls st0) rest (Qc (Value.ref b :: As).toArray) free := va_runIN (fw_fix C) hM ⟨cw, h1, h2⟩ (fw_pre C hP hD hS (.ref b :: As)) rfl hn hsz hst (lv_room hW) hdg hf
/-- the top of the stack, said otherwise -/
theorem tp_i {x y : Int32} (h : x = y) (kk : W p l e R s m args below meth c H locs cells slots Q (F0 m pc ls (.int y :: rest))) : W p l e R s m args below meth c H locs cells slots Q (F0 m pc ls (.int x :: rest)) := by rw [h]; exact kk
theorem tp_j {x y : Int64} (h : x = y) (kk : W p l e R s m args below meth c H locs cells slots Q (F0 m pc ls (.long y :: rest))) : W p l e R s m args below meth c H locs cells slots Q (F0 m pc ls (.long x :: rest)) := by rw [h]; exact kk
/-- an array of arrays is read -/
theorem fw_aldr (hexec : p.tables.exec = Jvm.exec) (hb : c.code = cc) {cl : List vw_C} {tys : List (ClassId × FieldType)} {a : Nat} (hK : va_K D cl tys s) (hP : va_P D cl ws H) (q0 t0 : Nat) {cA : ClassId} {n : Nat} {f : Nat → Option Nat} (ha : ws[q0]? = some (a, .inl (cA, n, .inr (.inr (.inr (.inr f)))))) (ht : tys[t0]? = some (cA, .array .int)) {i : Int32} (hin : vp_in i n) (hdg : decode cc pc = .ok (.aaload, 1))
    (kk : W p l e R s m args below meth c H locs cells slots Q (F0 m (pc + 1) ls (va_rf (f i.toNatClampNeg) :: rest))) : W p l e R s m args below meth c H locs cells slots Q (F0 m pc ls (.int i :: .ref a :: rest)) := by
  have hlt : i.toNatClampNeg < n := Nat.not_le.mp fun q => hin (Or.inr q)
  exact W.aald (v := va_rf (f i.toNatClampNeg)) (ty := .array .int) hexec hb (hP q0 _ ha) ((hK.2 t0 _ ht).1 n (fun j => va_rf (f j))) rfl (fun q => by cases q) (by show ¬ (i < 0 ∨ (arrV _ _ _).slots.size ≤ _); rw [arrV_size]; exact hin) (by show (arrV _ _ _).slots[_]? = _; rw [arrV_read _ _ hlt]) rfl rfl hdg kk
end FWcall
end
section
/-! THE TWO WORLDS: the class's object with all that hangs on it (35 cells), the reference's (14 cells) -/
def TBw (ad : Nat → Nat) (k : Nat → ClassId) (N : Nat → Int32) (S Wt L : Nat → Nat → Int32) (T : Nat → Int32) (G : Nat → Nat → Int64) (E : Nat → Int32) (su pa tr sh : Nat → Int32) (pv : Int32) : va_W :=
  [(ad 0, .inr (3, [.ref (ad 1), .ref (ad 14), .ref (ad 25), .ref (ad 31), .ref (ad 32), .ref (ad 33), .ref (ad 34), .int pv])),
   (ad 1, .inl (k 2, 4, .inr (.inr (.inr (.inr (fun g => some (ad (2 + 3 * g)))))))),
   (ad 2, .inr (2, [.ref (ad 3), .ref (ad 4), .int (N 0)])),
   (ad 3, .inl (k 0, 3, .inl (S 0))),
   (ad 4, .inl (k 0, 27, .inl (Wt 0))),
   (ad 5, .inr (2, [.ref (ad 6), .ref (ad 7), .int (N 1)])),
   (ad 6, .inl (k 0, 3, .inl (S 1))),
   (ad 7, .inl (k 0, 27, .inl (Wt 1))),
   (ad 8, .inr (2, [.ref (ad 9), .ref (ad 10), .int (N 2)])),
   (ad 9, .inl (k 0, 3, .inl (S 2))),
   (ad 10, .inl (k 0, 27, .inl (Wt 2))),
   (ad 11, .inr (2, [.ref (ad 12), .ref (ad 13), .int (N 3)])),
   (ad 12, .inl (k 0, 3, .inl (S 3))),
   (ad 13, .inl (k 0, 27, .inl (Wt 3))),
   (ad 14, .inl (k 3, 10, .inr (.inr (.inr (.inr (fun l => some (ad (15 + l)))))))),
   (ad 15, .inl (k 0, 8, .inl (L 0))),
   (ad 16, .inl (k 0, 8, .inl (L 1))),
   (ad 17, .inl (k 0, 8, .inl (L 2))),
   (ad 18, .inl (k 0, 8, .inl (L 3))),
   (ad 19, .inl (k 0, 8, .inl (L 4))),
   (ad 20, .inl (k 0, 8, .inl (L 5))),
   (ad 21, .inl (k 0, 8, .inl (L 6))),
   (ad 22, .inl (k 0, 8, .inl (L 7))),
   (ad 23, .inl (k 0, 8, .inl (L 8))),
   (ad 24, .inl (k 0, 8, .inl (L 9))),
   (ad 25, .inr (0, [.ref (ad 26), .ref (ad 27), .ref (ad 29)])),
   (ad 26, .inl (k 0, 6, .inl T)),
   (ad 27, .inr (1, [.ref (ad 28), .int (E 0)])),
   (ad 28, .inl (k 1, 1024, .inr (.inl (G 0)))),
   (ad 29, .inr (1, [.ref (ad 30), .int (E 1)])),
   (ad 30, .inl (k 1, 1024, .inr (.inl (G 1)))),
   (ad 31, .inl (k 0, 27, .inl su)),
   (ad 32, .inl (k 0, 8, .inl pa)),
   (ad 33, .inl (k 0, 9, .inl tr)),
   (ad 34, .inl (k 0, 9, .inl sh))]
theorem tb_o {ad : Nat → Nat} {k : Nat → ClassId} {N : Nat → Int32} {S Wt L : Nat → Nat → Int32} {T : Nat → Int32} {G : Nat → Nat → Int64} {E : Nat → Int32} {su pa tr sh : Nat → Int32} {pv : Int32} : (TBw ad k N S Wt L T G E su pa tr sh pv)[0]? = some (ad (0), .inr (3, [.ref (ad 1), .ref (ad 14), .ref (ad 25), .ref (ad 31), .ref (ad 32), .ref (ad 33), .ref (ad 34), .int pv])) := rfl
theorem tb_o_st {ad : Nat → Nat} {k : Nat → ClassId} {N : Nat → Int32} {S Wt L : Nat → Nat → Int32} {T : Nat → Int32} {G : Nat → Nat → Int64} {E : Nat → Int32} {su pa tr sh : Nat → Int32} {pv : Int32} (x : Int32) : (TBw ad k N S Wt L T G E su pa tr sh pv).set (0) (ad (0), .inr (3, [.ref (ad 1), .ref (ad 14), .ref (ad 25), .ref (ad 31), .ref (ad 32), .ref (ad 33), .ref (ad 34), .int x])) = TBw ad k N S Wt L T G E su pa tr sh (x) := rfl
theorem tb_ws {ad : Nat → Nat} {k : Nat → ClassId} {N : Nat → Int32} {S Wt L : Nat → Nat → Int32} {T : Nat → Int32} {G : Nat → Nat → Int64} {E : Nat → Int32} {su pa tr sh : Nat → Int32} {pv : Int32} : (TBw ad k N S Wt L T G E su pa tr sh pv)[1]? = some (ad (1), .inl (k 2, 4, .inr (.inr (.inr (.inr (fun g => some (ad (2 + 3 * g)))))))) := rfl
theorem tb_w {ad : Nat → Nat} {k : Nat → ClassId} {N : Nat → Int32} {S Wt L : Nat → Nat → Int32} {T : Nat → Int32} {G : Nat → Nat → Int64} {E : Nat → Int32} {su pa tr sh : Nat → Int32} {pv : Int32} {g : Nat} (h : g < 4) : (TBw ad k N S Wt L T G E su pa tr sh pv)[2 + 3 * g]? = some (ad (2 + 3 * g), .inr (2, [.ref (ad (3 + 3 * g)), .ref (ad (4 + 3 * g)), .int (N g)])) := match g, h with
  | 0, _ => rfl
  | 1, _ => rfl
  | 2, _ => rfl
  | 3, _ => rfl
theorem tb_w_st {ad : Nat → Nat} {k : Nat → ClassId} {N : Nat → Int32} {S Wt L : Nat → Nat → Int32} {T : Nat → Int32} {G : Nat → Nat → Int64} {E : Nat → Int32} {su pa tr sh : Nat → Int32} {pv : Int32} {g : Nat} (h : g < 4) (x : Int32) : (TBw ad k N S Wt L T G E su pa tr sh pv).set (2 + 3 * g) (ad (2 + 3 * g), .inr (2, [.ref (ad (3 + 3 * g)), .ref (ad (4 + 3 * g)), .int x])) = TBw ad k (upd N g x) S Wt L T G E su pa tr sh pv := match g, h with
  | 0, _ => rfl
  | 1, _ => rfl
  | 2, _ => rfl
  | 3, _ => rfl
theorem tb_s {ad : Nat → Nat} {k : Nat → ClassId} {N : Nat → Int32} {S Wt L : Nat → Nat → Int32} {T : Nat → Int32} {G : Nat → Nat → Int64} {E : Nat → Int32} {su pa tr sh : Nat → Int32} {pv : Int32} {g : Nat} (h : g < 4) : (TBw ad k N S Wt L T G E su pa tr sh pv)[3 + 3 * g]? = some (ad (3 + 3 * g), .inl (k 0, 3, .inl (S g))) := match g, h with
  | 0, _ => rfl
  | 1, _ => rfl
  | 2, _ => rfl
  | 3, _ => rfl
theorem tb_s_st {ad : Nat → Nat} {k : Nat → ClassId} {N : Nat → Int32} {S Wt L : Nat → Nat → Int32} {T : Nat → Int32} {G : Nat → Nat → Int64} {E : Nat → Int32} {su pa tr sh : Nat → Int32} {pv : Int32} {g : Nat} (h : g < 4) (x : Nat → Int32) : (TBw ad k N S Wt L T G E su pa tr sh pv).set (3 + 3 * g) (ad (3 + 3 * g), .inl (k 0, 3, .inl x)) = TBw ad k N (va_up S g x) Wt L T G E su pa tr sh pv := match g, h with
  | 0, _ => rfl
  | 1, _ => rfl
  | 2, _ => rfl
  | 3, _ => rfl
theorem tb_v {ad : Nat → Nat} {k : Nat → ClassId} {N : Nat → Int32} {S Wt L : Nat → Nat → Int32} {T : Nat → Int32} {G : Nat → Nat → Int64} {E : Nat → Int32} {su pa tr sh : Nat → Int32} {pv : Int32} {g : Nat} (h : g < 4) : (TBw ad k N S Wt L T G E su pa tr sh pv)[4 + 3 * g]? = some (ad (4 + 3 * g), .inl (k 0, 27, .inl (Wt g))) := match g, h with
  | 0, _ => rfl
  | 1, _ => rfl
  | 2, _ => rfl
  | 3, _ => rfl
theorem tb_v_st {ad : Nat → Nat} {k : Nat → ClassId} {N : Nat → Int32} {S Wt L : Nat → Nat → Int32} {T : Nat → Int32} {G : Nat → Nat → Int64} {E : Nat → Int32} {su pa tr sh : Nat → Int32} {pv : Int32} {g : Nat} (h : g < 4) (x : Nat → Int32) : (TBw ad k N S Wt L T G E su pa tr sh pv).set (4 + 3 * g) (ad (4 + 3 * g), .inl (k 0, 27, .inl x)) = TBw ad k N S (va_up Wt g x) L T G E su pa tr sh pv := match g, h with
  | 0, _ => rfl
  | 1, _ => rfl
  | 2, _ => rfl
  | 3, _ => rfl
theorem tb_ls {ad : Nat → Nat} {k : Nat → ClassId} {N : Nat → Int32} {S Wt L : Nat → Nat → Int32} {T : Nat → Int32} {G : Nat → Nat → Int64} {E : Nat → Int32} {su pa tr sh : Nat → Int32} {pv : Int32} : (TBw ad k N S Wt L T G E su pa tr sh pv)[14]? = some (ad (14), .inl (k 3, 10, .inr (.inr (.inr (.inr (fun l => some (ad (15 + l)))))))) := rfl
theorem tb_l {ad : Nat → Nat} {k : Nat → ClassId} {N : Nat → Int32} {S Wt L : Nat → Nat → Int32} {T : Nat → Int32} {G : Nat → Nat → Int64} {E : Nat → Int32} {su pa tr sh : Nat → Int32} {pv : Int32} {j : Nat} (h : j < 10) : (TBw ad k N S Wt L T G E su pa tr sh pv)[15 + j]? = some (ad (15 + j), .inl (k 0, 8, .inl (L j))) := match j, h with
  | 0, _ => rfl
  | 1, _ => rfl
  | 2, _ => rfl
  | 3, _ => rfl
  | 4, _ => rfl
  | 5, _ => rfl
  | 6, _ => rfl
  | 7, _ => rfl
  | 8, _ => rfl
  | 9, _ => rfl
theorem tb_l_st {ad : Nat → Nat} {k : Nat → ClassId} {N : Nat → Int32} {S Wt L : Nat → Nat → Int32} {T : Nat → Int32} {G : Nat → Nat → Int64} {E : Nat → Int32} {su pa tr sh : Nat → Int32} {pv : Int32} {j : Nat} (h : j < 10) (x : Nat → Int32) : (TBw ad k N S Wt L T G E su pa tr sh pv).set (15 + j) (ad (15 + j), .inl (k 0, 8, .inl x)) = TBw ad k N S Wt (va_up L j x) T G E su pa tr sh pv := match j, h with
  | 0, _ => rfl
  | 1, _ => rfl
  | 2, _ => rfl
  | 3, _ => rfl
  | 4, _ => rfl
  | 5, _ => rfl
  | 6, _ => rfl
  | 7, _ => rfl
  | 8, _ => rfl
  | 9, _ => rfl
theorem tb_g {ad : Nat → Nat} {k : Nat → ClassId} {N : Nat → Int32} {S Wt L : Nat → Nat → Int32} {T : Nat → Int32} {G : Nat → Nat → Int64} {E : Nat → Int32} {su pa tr sh : Nat → Int32} {pv : Int32} : (TBw ad k N S Wt L T G E su pa tr sh pv)[25]? = some (ad (25), .inr (0, [.ref (ad 26), .ref (ad 27), .ref (ad 29)])) := rfl
theorem tb_t {ad : Nat → Nat} {k : Nat → ClassId} {N : Nat → Int32} {S Wt L : Nat → Nat → Int32} {T : Nat → Int32} {G : Nat → Nat → Int64} {E : Nat → Int32} {su pa tr sh : Nat → Int32} {pv : Int32} : (TBw ad k N S Wt L T G E su pa tr sh pv)[26]? = some (ad (26), .inl (k 0, 6, .inl T)) := rfl
theorem tb_t_st {ad : Nat → Nat} {k : Nat → ClassId} {N : Nat → Int32} {S Wt L : Nat → Nat → Int32} {T : Nat → Int32} {G : Nat → Nat → Int64} {E : Nat → Int32} {su pa tr sh : Nat → Int32} {pv : Int32} (x : Nat → Int32) : (TBw ad k N S Wt L T G E su pa tr sh pv).set (26) (ad (26), .inl (k 0, 6, .inl x)) = TBw ad k N S Wt L (x) G E su pa tr sh pv := rfl
theorem tb_e {ad : Nat → Nat} {k : Nat → ClassId} {N : Nat → Int32} {S Wt L : Nat → Nat → Int32} {T : Nat → Int32} {G : Nat → Nat → Int64} {E : Nat → Int32} {su pa tr sh : Nat → Int32} {pv : Int32} {u : Nat} (h : u < 2) : (TBw ad k N S Wt L T G E su pa tr sh pv)[27 + 2 * u]? = some (ad (27 + 2 * u), .inr (1, [.ref (ad (28 + 2 * u)), .int (E u)])) := match u, h with
  | 0, _ => rfl
  | 1, _ => rfl
theorem tb_e_st {ad : Nat → Nat} {k : Nat → ClassId} {N : Nat → Int32} {S Wt L : Nat → Nat → Int32} {T : Nat → Int32} {G : Nat → Nat → Int64} {E : Nat → Int32} {su pa tr sh : Nat → Int32} {pv : Int32} {u : Nat} (h : u < 2) (x : Int32) : (TBw ad k N S Wt L T G E su pa tr sh pv).set (27 + 2 * u) (ad (27 + 2 * u), .inr (1, [.ref (ad (28 + 2 * u)), .int x])) = TBw ad k N S Wt L T G (upd E u x) su pa tr sh pv := match u, h with
  | 0, _ => rfl
  | 1, _ => rfl
theorem tb_d {ad : Nat → Nat} {k : Nat → ClassId} {N : Nat → Int32} {S Wt L : Nat → Nat → Int32} {T : Nat → Int32} {G : Nat → Nat → Int64} {E : Nat → Int32} {su pa tr sh : Nat → Int32} {pv : Int32} {u : Nat} (h : u < 2) : (TBw ad k N S Wt L T G E su pa tr sh pv)[28 + 2 * u]? = some (ad (28 + 2 * u), .inl (k 1, 1024, .inr (.inl (G u)))) := match u, h with
  | 0, _ => rfl
  | 1, _ => rfl
theorem tb_d_st {ad : Nat → Nat} {k : Nat → ClassId} {N : Nat → Int32} {S Wt L : Nat → Nat → Int32} {T : Nat → Int32} {G : Nat → Nat → Int64} {E : Nat → Int32} {su pa tr sh : Nat → Int32} {pv : Int32} {u : Nat} (h : u < 2) (x : Nat → Int64) : (TBw ad k N S Wt L T G E su pa tr sh pv).set (28 + 2 * u) (ad (28 + 2 * u), .inl (k 1, 1024, .inr (.inl x))) = TBw ad k N S Wt L T (va_up G u x) E su pa tr sh pv := match u, h with
  | 0, _ => rfl
  | 1, _ => rfl
theorem tb_su {ad : Nat → Nat} {k : Nat → ClassId} {N : Nat → Int32} {S Wt L : Nat → Nat → Int32} {T : Nat → Int32} {G : Nat → Nat → Int64} {E : Nat → Int32} {su pa tr sh : Nat → Int32} {pv : Int32} : (TBw ad k N S Wt L T G E su pa tr sh pv)[31]? = some (ad (31), .inl (k 0, 27, .inl su)) := rfl
theorem tb_su_st {ad : Nat → Nat} {k : Nat → ClassId} {N : Nat → Int32} {S Wt L : Nat → Nat → Int32} {T : Nat → Int32} {G : Nat → Nat → Int64} {E : Nat → Int32} {su pa tr sh : Nat → Int32} {pv : Int32} (x : Nat → Int32) : (TBw ad k N S Wt L T G E su pa tr sh pv).set (31) (ad (31), .inl (k 0, 27, .inl x)) = TBw ad k N S Wt L T G E (x) pa tr sh pv := rfl
theorem tb_pa {ad : Nat → Nat} {k : Nat → ClassId} {N : Nat → Int32} {S Wt L : Nat → Nat → Int32} {T : Nat → Int32} {G : Nat → Nat → Int64} {E : Nat → Int32} {su pa tr sh : Nat → Int32} {pv : Int32} : (TBw ad k N S Wt L T G E su pa tr sh pv)[32]? = some (ad (32), .inl (k 0, 8, .inl pa)) := rfl
theorem tb_pa_st {ad : Nat → Nat} {k : Nat → ClassId} {N : Nat → Int32} {S Wt L : Nat → Nat → Int32} {T : Nat → Int32} {G : Nat → Nat → Int64} {E : Nat → Int32} {su pa tr sh : Nat → Int32} {pv : Int32} (x : Nat → Int32) : (TBw ad k N S Wt L T G E su pa tr sh pv).set (32) (ad (32), .inl (k 0, 8, .inl x)) = TBw ad k N S Wt L T G E su (x) tr sh pv := rfl
theorem tb_tr {ad : Nat → Nat} {k : Nat → ClassId} {N : Nat → Int32} {S Wt L : Nat → Nat → Int32} {T : Nat → Int32} {G : Nat → Nat → Int64} {E : Nat → Int32} {su pa tr sh : Nat → Int32} {pv : Int32} : (TBw ad k N S Wt L T G E su pa tr sh pv)[33]? = some (ad (33), .inl (k 0, 9, .inl tr)) := rfl
theorem tb_tr_st {ad : Nat → Nat} {k : Nat → ClassId} {N : Nat → Int32} {S Wt L : Nat → Nat → Int32} {T : Nat → Int32} {G : Nat → Nat → Int64} {E : Nat → Int32} {su pa tr sh : Nat → Int32} {pv : Int32} (x : Nat → Int32) : (TBw ad k N S Wt L T G E su pa tr sh pv).set (33) (ad (33), .inl (k 0, 9, .inl x)) = TBw ad k N S Wt L T G E su pa (x) sh pv := rfl
theorem tb_sh {ad : Nat → Nat} {k : Nat → ClassId} {N : Nat → Int32} {S Wt L : Nat → Nat → Int32} {T : Nat → Int32} {G : Nat → Nat → Int64} {E : Nat → Int32} {su pa tr sh : Nat → Int32} {pv : Int32} : (TBw ad k N S Wt L T G E su pa tr sh pv)[34]? = some (ad (34), .inl (k 0, 9, .inl sh)) := rfl
theorem tb_sh_st {ad : Nat → Nat} {k : Nat → ClassId} {N : Nat → Int32} {S Wt L : Nat → Nat → Int32} {T : Nat → Int32} {G : Nat → Nat → Int64} {E : Nat → Int32} {su pa tr sh : Nat → Int32} {pv : Int32} (x : Nat → Int32) : (TBw ad k N S Wt L T G E su pa tr sh pv).set (34) (ad (34), .inl (k 0, 9, .inl x)) = TBw ad k N S Wt L T G E su pa tr (x) pv := rfl
def MWw (bd : Nat → Nat) (k : Nat → ClassId) (st wt sm nu po sh up lo : Nat → Int32) (li : Int32) (ro so un to : Nat → Int64) (it : Int32) : va_W :=
  [(bd 0, .inr (4, [.ref (bd 1), .ref (bd 2), .ref (bd 3), .ref (bd 4), .ref (bd 5), .ref (bd 6), .ref (bd 7), .ref (bd 8), .ref (bd 9), .int li, .ref (bd 10), .ref (bd 11), .ref (bd 12), .ref (bd 13), .int it])),
   (bd 1, .inl (k 0, 12, .inl st)),
   (bd 2, .inl (k 0, 108, .inl wt)),
   (bd 3, .inl (k 0, 4, .inl sm)),
   (bd 4, .inl (k 0, 80, .inl nu)),
   (bd 5, .inl (k 0, 6, .inl (fun j => tb_primes.getD j 0))),
   (bd 6, .inl (k 0, 6, .inl po)),
   (bd 7, .inl (k 0, 27, .inl sh)),
   (bd 8, .inl (k 0, 4000, .inl up)),
   (bd 9, .inl (k 0, 4000, .inl lo)),
   (bd 10, .inl (k 1, 56, .inr (.inl ro))),
   (bd 11, .inl (k 1, 9, .inr (.inl so))),
   (bd 12, .inl (k 1, 9, .inr (.inl un))),
   (bd 13, .inl (k 1, 18, .inr (.inl to)))]
theorem mw_o {bd : Nat → Nat} {k : Nat → ClassId} {st wt sm nu po sh up lo : Nat → Int32} {li : Int32} {ro so un to : Nat → Int64} {it : Int32} : (MWw bd k st wt sm nu po sh up lo li ro so un to it)[0]? = some (bd 0, .inr (4, [.ref (bd 1), .ref (bd 2), .ref (bd 3), .ref (bd 4), .ref (bd 5), .ref (bd 6), .ref (bd 7), .ref (bd 8), .ref (bd 9), .int li, .ref (bd 10), .ref (bd 11), .ref (bd 12), .ref (bd 13), .int it])) := rfl
theorem mw_li_st {bd : Nat → Nat} {k : Nat → ClassId} {st wt sm nu po sh up lo : Nat → Int32} {li : Int32} {ro so un to : Nat → Int64} {it : Int32} (x : Int32) : (MWw bd k st wt sm nu po sh up lo li ro so un to it).set 0 (bd 0, .inr (4, [.ref (bd 1), .ref (bd 2), .ref (bd 3), .ref (bd 4), .ref (bd 5), .ref (bd 6), .ref (bd 7), .ref (bd 8), .ref (bd 9), .int x, .ref (bd 10), .ref (bd 11), .ref (bd 12), .ref (bd 13), .int it])) = MWw bd k st wt sm nu po sh up lo (x) ro so un to it := rfl
theorem mw_it_st {bd : Nat → Nat} {k : Nat → ClassId} {st wt sm nu po sh up lo : Nat → Int32} {li : Int32} {ro so un to : Nat → Int64} {it : Int32} (x : Int32) : (MWw bd k st wt sm nu po sh up lo li ro so un to it).set 0 (bd 0, .inr (4, [.ref (bd 1), .ref (bd 2), .ref (bd 3), .ref (bd 4), .ref (bd 5), .ref (bd 6), .ref (bd 7), .ref (bd 8), .ref (bd 9), .int li, .ref (bd 10), .ref (bd 11), .ref (bd 12), .ref (bd 13), .int x])) = MWw bd k st wt sm nu po sh up lo li ro so un to (x) := rfl
theorem mw_st {bd : Nat → Nat} {k : Nat → ClassId} {st wt sm nu po sh up lo : Nat → Int32} {li : Int32} {ro so un to : Nat → Int64} {it : Int32} : (MWw bd k st wt sm nu po sh up lo li ro so un to it)[1]? = some (bd 1, .inl (k 0, 12, .inl st)) := rfl
theorem mw_st_st {bd : Nat → Nat} {k : Nat → ClassId} {st wt sm nu po sh up lo : Nat → Int32} {li : Int32} {ro so un to : Nat → Int64} {it : Int32} (x : Nat → Int32) : (MWw bd k st wt sm nu po sh up lo li ro so un to it).set 1 (bd 1, .inl (k 0, 12, .inl x)) = MWw bd k (x) wt sm nu po sh up lo li ro so un to it := rfl
theorem mw_wt {bd : Nat → Nat} {k : Nat → ClassId} {st wt sm nu po sh up lo : Nat → Int32} {li : Int32} {ro so un to : Nat → Int64} {it : Int32} : (MWw bd k st wt sm nu po sh up lo li ro so un to it)[2]? = some (bd 2, .inl (k 0, 108, .inl wt)) := rfl
theorem mw_wt_st {bd : Nat → Nat} {k : Nat → ClassId} {st wt sm nu po sh up lo : Nat → Int32} {li : Int32} {ro so un to : Nat → Int64} {it : Int32} (x : Nat → Int32) : (MWw bd k st wt sm nu po sh up lo li ro so un to it).set 2 (bd 2, .inl (k 0, 108, .inl x)) = MWw bd k st (x) sm nu po sh up lo li ro so un to it := rfl
theorem mw_sm {bd : Nat → Nat} {k : Nat → ClassId} {st wt sm nu po sh up lo : Nat → Int32} {li : Int32} {ro so un to : Nat → Int64} {it : Int32} : (MWw bd k st wt sm nu po sh up lo li ro so un to it)[3]? = some (bd 3, .inl (k 0, 4, .inl sm)) := rfl
theorem mw_sm_st {bd : Nat → Nat} {k : Nat → ClassId} {st wt sm nu po sh up lo : Nat → Int32} {li : Int32} {ro so un to : Nat → Int64} {it : Int32} (x : Nat → Int32) : (MWw bd k st wt sm nu po sh up lo li ro so un to it).set 3 (bd 3, .inl (k 0, 4, .inl x)) = MWw bd k st wt (x) nu po sh up lo li ro so un to it := rfl
theorem mw_nu {bd : Nat → Nat} {k : Nat → ClassId} {st wt sm nu po sh up lo : Nat → Int32} {li : Int32} {ro so un to : Nat → Int64} {it : Int32} : (MWw bd k st wt sm nu po sh up lo li ro so un to it)[4]? = some (bd 4, .inl (k 0, 80, .inl nu)) := rfl
theorem mw_nu_st {bd : Nat → Nat} {k : Nat → ClassId} {st wt sm nu po sh up lo : Nat → Int32} {li : Int32} {ro so un to : Nat → Int64} {it : Int32} (x : Nat → Int32) : (MWw bd k st wt sm nu po sh up lo li ro so un to it).set 4 (bd 4, .inl (k 0, 80, .inl x)) = MWw bd k st wt sm (x) po sh up lo li ro so un to it := rfl
theorem mw_PR {bd : Nat → Nat} {k : Nat → ClassId} {st wt sm nu po sh up lo : Nat → Int32} {li : Int32} {ro so un to : Nat → Int64} {it : Int32} : (MWw bd k st wt sm nu po sh up lo li ro so un to it)[5]? = some (bd 5, .inl (k 0, 6, .inl (fun j => tb_primes.getD j 0))) := rfl
theorem mw_po {bd : Nat → Nat} {k : Nat → ClassId} {st wt sm nu po sh up lo : Nat → Int32} {li : Int32} {ro so un to : Nat → Int64} {it : Int32} : (MWw bd k st wt sm nu po sh up lo li ro so un to it)[6]? = some (bd 6, .inl (k 0, 6, .inl po)) := rfl
theorem mw_po_st {bd : Nat → Nat} {k : Nat → ClassId} {st wt sm nu po sh up lo : Nat → Int32} {li : Int32} {ro so un to : Nat → Int64} {it : Int32} (x : Nat → Int32) : (MWw bd k st wt sm nu po sh up lo li ro so un to it).set 6 (bd 6, .inl (k 0, 6, .inl x)) = MWw bd k st wt sm nu (x) sh up lo li ro so un to it := rfl
theorem mw_sh {bd : Nat → Nat} {k : Nat → ClassId} {st wt sm nu po sh up lo : Nat → Int32} {li : Int32} {ro so un to : Nat → Int64} {it : Int32} : (MWw bd k st wt sm nu po sh up lo li ro so un to it)[7]? = some (bd 7, .inl (k 0, 27, .inl sh)) := rfl
theorem mw_sh_st {bd : Nat → Nat} {k : Nat → ClassId} {st wt sm nu po sh up lo : Nat → Int32} {li : Int32} {ro so un to : Nat → Int64} {it : Int32} (x : Nat → Int32) : (MWw bd k st wt sm nu po sh up lo li ro so un to it).set 7 (bd 7, .inl (k 0, 27, .inl x)) = MWw bd k st wt sm nu po (x) up lo li ro so un to it := rfl
theorem mw_up {bd : Nat → Nat} {k : Nat → ClassId} {st wt sm nu po sh up lo : Nat → Int32} {li : Int32} {ro so un to : Nat → Int64} {it : Int32} : (MWw bd k st wt sm nu po sh up lo li ro so un to it)[8]? = some (bd 8, .inl (k 0, 4000, .inl up)) := rfl
theorem mw_up_st {bd : Nat → Nat} {k : Nat → ClassId} {st wt sm nu po sh up lo : Nat → Int32} {li : Int32} {ro so un to : Nat → Int64} {it : Int32} (x : Nat → Int32) : (MWw bd k st wt sm nu po sh up lo li ro so un to it).set 8 (bd 8, .inl (k 0, 4000, .inl x)) = MWw bd k st wt sm nu po sh (x) lo li ro so un to it := rfl
theorem mw_lo {bd : Nat → Nat} {k : Nat → ClassId} {st wt sm nu po sh up lo : Nat → Int32} {li : Int32} {ro so un to : Nat → Int64} {it : Int32} : (MWw bd k st wt sm nu po sh up lo li ro so un to it)[9]? = some (bd 9, .inl (k 0, 4000, .inl lo)) := rfl
theorem mw_lo_st {bd : Nat → Nat} {k : Nat → ClassId} {st wt sm nu po sh up lo : Nat → Int32} {li : Int32} {ro so un to : Nat → Int64} {it : Int32} (x : Nat → Int32) : (MWw bd k st wt sm nu po sh up lo li ro so un to it).set 9 (bd 9, .inl (k 0, 4000, .inl x)) = MWw bd k st wt sm nu po sh up (x) li ro so un to it := rfl
theorem mw_ro {bd : Nat → Nat} {k : Nat → ClassId} {st wt sm nu po sh up lo : Nat → Int32} {li : Int32} {ro so un to : Nat → Int64} {it : Int32} : (MWw bd k st wt sm nu po sh up lo li ro so un to it)[10]? = some (bd 10, .inl (k 1, 56, .inr (.inl ro))) := rfl
theorem mw_ro_st {bd : Nat → Nat} {k : Nat → ClassId} {st wt sm nu po sh up lo : Nat → Int32} {li : Int32} {ro so un to : Nat → Int64} {it : Int32} (x : Nat → Int64) : (MWw bd k st wt sm nu po sh up lo li ro so un to it).set 10 (bd 10, .inl (k 1, 56, .inr (.inl x))) = MWw bd k st wt sm nu po sh up lo li (x) so un to it := rfl
theorem mw_so {bd : Nat → Nat} {k : Nat → ClassId} {st wt sm nu po sh up lo : Nat → Int32} {li : Int32} {ro so un to : Nat → Int64} {it : Int32} : (MWw bd k st wt sm nu po sh up lo li ro so un to it)[11]? = some (bd 11, .inl (k 1, 9, .inr (.inl so))) := rfl
theorem mw_so_st {bd : Nat → Nat} {k : Nat → ClassId} {st wt sm nu po sh up lo : Nat → Int32} {li : Int32} {ro so un to : Nat → Int64} {it : Int32} (x : Nat → Int64) : (MWw bd k st wt sm nu po sh up lo li ro so un to it).set 11 (bd 11, .inl (k 1, 9, .inr (.inl x))) = MWw bd k st wt sm nu po sh up lo li ro (x) un to it := rfl
theorem mw_un {bd : Nat → Nat} {k : Nat → ClassId} {st wt sm nu po sh up lo : Nat → Int32} {li : Int32} {ro so un to : Nat → Int64} {it : Int32} : (MWw bd k st wt sm nu po sh up lo li ro so un to it)[12]? = some (bd 12, .inl (k 1, 9, .inr (.inl un))) := rfl
theorem mw_un_st {bd : Nat → Nat} {k : Nat → ClassId} {st wt sm nu po sh up lo : Nat → Int32} {li : Int32} {ro so un to : Nat → Int64} {it : Int32} (x : Nat → Int64) : (MWw bd k st wt sm nu po sh up lo li ro so un to it).set 12 (bd 12, .inl (k 1, 9, .inr (.inl x))) = MWw bd k st wt sm nu po sh up lo li ro so (x) to it := rfl
theorem mw_to {bd : Nat → Nat} {k : Nat → ClassId} {st wt sm nu po sh up lo : Nat → Int32} {li : Int32} {ro so un to : Nat → Int64} {it : Int32} : (MWw bd k st wt sm nu po sh up lo li ro so un to it)[13]? = some (bd 13, .inl (k 1, 18, .inr (.inl to))) := rfl
theorem mw_to_st {bd : Nat → Nat} {k : Nat → ClassId} {st wt sm nu po sh up lo : Nat → Int32} {li : Int32} {ro so un to : Nat → Int64} {it : Int32} (x : Nat → Int64) : (MWw bd k st wt sm nu po sh up lo li ro so un to it).set 13 (bd 13, .inl (k 1, 18, .inr (.inl x))) = MWw bd k st wt sm nu po sh up lo li ro so un (x) it := rfl
end
section
/-! ROWS over the frame: a field, an array, a table, each in one row -/
section RW
variable {p : Program} {l : Launch} {e : Env} {R : Room} {s : State} {m : MethodId} {args : Array Value} {below : List Frame} {meth : Method} {c : Code} {H : Heap} {locs : List Loc} {cells slots : Nat} {Q : State → Prop} {own nm : String} {cc : ByteArray} {maxL : Nat} {ret : Option FieldType} {wl : List Cond} {D : va_G} {k : Nat → ClassId} {t : Nat → Nat} {A : Nat → Prop} {ws : va_W} {pc a : Nat} {ls : Array Slot} {rest : List Value}
theorem fg (C : Cx own nm cc maxL ret wl D k t A p s m args meth c) (hP : va_P D vwCl ws H) (q0 : Nat) {ci N index : Nat} {Cn : String} {T : u_T} {fs : List Value} (he : ws[q0]? = some (a, .inr (ci, fs))) (hc : vwCl[ci]? = some (Cn, T, N)) (kf : Nat) (hk : kf < N) (hin : ∀ w ∈ u_ws Cn T N, w ∈ wl) (hlk : Cond.fieldLink own index (T kf).1 (T kf).2.1 (T kf).2.2.1 ∈ wl) {v : Value} (hv : fs[kf]? = some v) (hd : decode cc pc = .ok (.getfield index, 3)) (kk : W p l e R s m args below meth c H locs cells slots Q (F0 m (pc + 3) ls (v :: rest))) : W p l e R s m args below meth c H locs cells slots Q (F0 m pc ls (.ref a :: rest)) :=
  va_get C.1 C.2.1 C.2.2.2.2.2.1 hin C.2.2.2.2.1 C.2.2.2.2.2.2.2.2.1 hP q0 he hc kf hk (C.2.2.2.2.2.1 _ hlk) (fun _ h => h) hv hd kk
theorem fg_N (C : Cx own nm cc maxL ret wl D k t A p s m args meth c) (hP : va_P D vwCl ws H) (q0 : Nat) {ci N index : Nat} {Cn : String} {T : u_T} {fs : List Value} (he : ws[q0]? = some (a, .inr (ci, fs))) (hc : vwCl[ci]? = some (Cn, T, N)) (kf : Nat) (hk : kf < N) (hin : ∀ w ∈ u_ws Cn T N, w ∈ wl) (hlk : va_Nw (.fieldLinkNest own index (T kf).1 (T kf).2.1 (T kf).2.2.1 RX3) s) {v : Value} (hv : fs[kf]? = some v) (hd : decode cc pc = .ok (.getfield index, 3)) (kk : W p l e R s m args below meth c H locs cells slots Q (F0 m (pc + 3) ls (v :: rest))) : W p l e R s m args below meth c H locs cells slots Q (F0 m pc ls (.ref a :: rest)) :=
  va_getN C.1 C.2.1 C.2.2.2.2.2.1 hin C.2.2.2.2.1 C.2.2.2.2.2.2.2.2.1 hP q0 he hc kf hk (va_Nw.use rfl hlk) (fun _ h => h) hv hd kk
theorem fp (C : Cx own nm cc maxL ret wl D k t A p s m args meth c) (hP : va_P D vwCl ws H) (hD : va_D A ws) (hS : va_S A s.heap H locs) {ci N index : Nat} {Cn : String} {T : u_T} {ty0 : Nat → FieldType} (hty : ∀ k, k < N → parseFieldDescriptor (T k).2.2.1 = some (ty0 k)) (hnm : ∀ a, a < N → ∀ b, b < N → a ≠ b → (T a).2.1 ≠ (T b).2.1) (q0 : Nat) {fs : List Value} (he : ws[q0]? = some (a, .inr (ci, fs))) (hc : vwCl[ci]? = some (Cn, T, N)) (kf : Nat) (hk : kf < N) (hin : ∀ w ∈ u_ws Cn T N, w ∈ wl) (hlk : Cond.fieldLink own index (T kf).1 (T kf).2.1 (T kf).2.2.1 ∈ wl) (hfin : (T kf).2.2.2 = false) {ty : FieldType} {v : Value} (hdd : parseFieldDescriptor (T kf).2.2.1 = some ty) (hn : narrow ty v = v) (hfit : fits ty v = true) (hl : kf < fs.length) {ws' : va_W} (hws : ws.set q0 (a, .inr (ci, fs.set kf v)) = ws') (hd : decode cc pc = .ok (.putfield index, 3))
    (kk : ∀ (H1 : Heap) (locs1 : List Loc), va_P D vwCl ws' H1 → va_D A ws' → va_S A s.heap H1 locs1 → W p l e R s m args below meth c H1 locs1 cells slots Q (F0 m (pc + 3) ls rest)) : W p l e R s m args below meth c H locs cells slots Q (F0 m pc ls (v :: .ref a :: rest)) :=
  va_put C.1 C.2.1 C.2.2.2.2.2.1 hin ty0 hty hnm C.2.2.2.2.1 C.2.2.2.2.2.2.2.2.1 hP hD hS q0 he hc kf hk (C.2.2.2.2.2.1 _ hlk) (fun _ h => h) hfin hdd hn hfit hl hd (fun H1 locs1 h1 h2 h3 => kk H1 locs1 (hws ▸ h1) (hws ▸ h2) h3)
theorem ar_i (C : Cx own nm cc maxL ret wl D k t A p s m args meth c) (hP : va_P D vwCl ws H) (q0 : Nat) {n : Nat} {f : Nat → Int32} (ha : ws[q0]? = some (a, .inl (k 0, n, .inl f))) {j : Nat} (hj : j < n) (hn : n < 2 ^ 31) (hd : decode cc pc = .ok (.iaload, 1)) (kk : W p l e R s m args below meth c H locs cells slots Q (F0 m (pc + 1) ls (.int (f j) :: rest))) : W p l e R s m args below meth c H locs cells slots Q (F0 m pc ls (.int (nI j) :: .ref a :: rest)) := by
  refine va_iald C.1 C.2.1 C.2.2.2.2.2.2.2.2.1 hP q0 0 ha rfl (vp_in_nI hj hn) hd ?_
  rw [nI_clamp (Nat.lt_trans hj hn)]
  exact kk
theorem as_i (C : Cx own nm cc maxL ret wl D k t A p s m args meth c) (hP : va_P D vwCl ws H) (hD : va_D A ws) (hS : va_S A s.heap H locs) (q0 : Nat) {n : Nat} {f : Nat → Int32} {x : Int32} (ha : ws[q0]? = some (a, .inl (k 0, n, .inl f))) {j : Nat} (hj : j < n) (hn : n < 2 ^ 31) {ws' : va_W} (hws : ws.set q0 (a, .inl (k 0, n, .inl (upd f j x))) = ws') (hd : decode cc pc = .ok (.iastore, 1)) (kk : ∀ (H1 : Heap) (locs1 : List Loc), va_P D vwCl ws' H1 → va_D A ws' → va_S A s.heap H1 locs1 → W p l e R s m args below meth c H1 locs1 cells slots Q (F0 m (pc + 1) ls rest)) : W p l e R s m args below meth c H locs cells slots Q (F0 m pc ls (.int x :: .int (nI j) :: .ref a :: rest)) := by
  refine va_iast C.1 C.2.1 C.2.2.2.2.2.2.2.2.1 hP hD hS q0 0 ha rfl (vp_in_nI hj hn) hd ?_
  rw [nI_clamp (Nat.lt_trans hj hn), hws]
  exact kk
theorem at_i (hexec : p.tables.exec = Jvm.exec) (hb : c.code = cc) {ta N : Nat} {f : Nat → Int32} (hT : va_T .int ta N (fun j => .int (f j)) A s s.heap) (hS : va_S A s.heap H locs) {j : Nat} (hj : j < N) (hn : N < 2 ^ 31) (hd : decode cc pc = .ok (.iaload, 1)) (kk : W p l e R s m args below meth c H locs cells slots Q (F0 m (pc + 1) ls (.int (f j) :: rest))) : W p l e R s m args below meth c H locs cells slots Q (F0 m pc ls (.int (nI j) :: .ref ta :: rest)) :=
  va_ti hexec hb hT hS (vp_in_nI hj hn) (v := .int (f j)) (by rw [nI_clamp (Nat.lt_trans hj hn)]) hd kk
theorem ar_j (C : Cx own nm cc maxL ret wl D k t A p s m args meth c) (hP : va_P D vwCl ws H) (q0 : Nat) {n : Nat} {f : Nat → Int64} (ha : ws[q0]? = some (a, .inl (k 1, n, .inr (.inl f)))) {j : Nat} (hj : j < n) (hn : n < 2 ^ 31) (hd : decode cc pc = .ok (.laload, 1)) (kk : W p l e R s m args below meth c H locs cells slots Q (F0 m (pc + 1) ls (.long (f j) :: rest))) : W p l e R s m args below meth c H locs cells slots Q (F0 m pc ls (.int (nI j) :: .ref a :: rest)) := by
  refine va_lald C.1 C.2.1 C.2.2.2.2.2.2.2.2.1 hP q0 1 ha rfl (vp_in_nI hj hn) hd ?_
  rw [nI_clamp (Nat.lt_trans hj hn)]
  exact kk
theorem as_j (C : Cx own nm cc maxL ret wl D k t A p s m args meth c) (hP : va_P D vwCl ws H) (hD : va_D A ws) (hS : va_S A s.heap H locs) (q0 : Nat) {n : Nat} {f : Nat → Int64} {x : Int64} (ha : ws[q0]? = some (a, .inl (k 1, n, .inr (.inl f)))) {j : Nat} (hj : j < n) (hn : n < 2 ^ 31) {ws' : va_W} (hws : ws.set q0 (a, .inl (k 1, n, .inr (.inl (vp_updL f j x)))) = ws') (hd : decode cc pc = .ok (.lastore, 1)) (kk : ∀ (H1 : Heap) (locs1 : List Loc), va_P D vwCl ws' H1 → va_D A ws' → va_S A s.heap H1 locs1 → W p l e R s m args below meth c H1 locs1 cells slots Q (F0 m (pc + 1) ls rest)) : W p l e R s m args below meth c H locs cells slots Q (F0 m pc ls (.long x :: .int (nI j) :: .ref a :: rest)) := by
  refine va_last C.1 C.2.1 C.2.2.2.2.2.2.2.2.1 hP hD hS q0 1 ha rfl (vp_in_nI hj hn) hd ?_
  rw [nI_clamp (Nat.lt_trans hj hn), hws]
  exact kk
theorem at_j (hexec : p.tables.exec = Jvm.exec) (hb : c.code = cc) {ta N : Nat} {f : Nat → Int64} (hT : va_T .long ta N (fun j => .long (f j)) A s s.heap) (hS : va_S A s.heap H locs) {j : Nat} (hj : j < N) (hn : N < 2 ^ 31) (hd : decode cc pc = .ok (.laload, 1)) (kk : W p l e R s m args below meth c H locs cells slots Q (F0 m (pc + 1) ls (.long (f j) :: rest))) : W p l e R s m args below meth c H locs cells slots Q (F0 m pc ls (.int (nI j) :: .ref ta :: rest)) :=
  va_tl hexec hb hT hS (vp_in_nI hj hn) (v := .long (f j)) (by rw [nI_clamp (Nat.lt_trans hj hn)]) hd kk
theorem ar_q (C : Cx own nm cc maxL ret wl D k t A p s m args meth c) (hP : va_P D vwCl ws H) (q0 : Nat) {n : Nat} {f : Nat → Option Nat} (ha : ws[q0]? = some (a, .inl (k 2, n, .inr (.inr (.inr (.inr f)))))) {j : Nat} {v : Value} (hv : va_rf (f j) = v) (hj : j < n) (hn : n < 2 ^ 31) (hd : decode cc pc = .ok (.aaload, 1)) (kk : W p l e R s m args below meth c H locs cells slots Q (F0 m (pc + 1) ls (v :: rest))) : W p l e R s m args below meth c H locs cells slots Q (F0 m pc ls (.int (nI j) :: .ref a :: rest)) := by
  refine va_aldq C.1 C.2.1 C.2.2.2.2.2.2.2.2.1 hP q0 2 ha rfl (vp_in_nI hj hn) hd ?_
  rw [nI_clamp (Nat.lt_trans hj hn), hv]
  exact kk
theorem ar_r (C : Cx own nm cc maxL ret wl D k t A p s m args meth c) (hP : va_P D vwCl ws H) (q0 : Nat) {n : Nat} {f : Nat → Option Nat} (ha : ws[q0]? = some (a, .inl (k 3, n, .inr (.inr (.inr (.inr f)))))) {j : Nat} {v : Value} (hv : va_rf (f j) = v) (hj : j < n) (hn : n < 2 ^ 31) (hd : decode cc pc = .ok (.aaload, 1)) (kk : W p l e R s m args below meth c H locs cells slots Q (F0 m (pc + 1) ls (v :: rest))) : W p l e R s m args below meth c H locs cells slots Q (F0 m pc ls (.int (nI j) :: .ref a :: rest)) := by
  refine fw_aldr C.1 C.2.1 C.2.2.2.2.2.2.2.2.1 hP q0 3 ha rfl (vp_in_nI hj hn) hd ?_
  rw [nI_clamp (Nat.lt_trans hj hn), hv]
  exact kk
end RW
theorem tb_w2 {ad : Nat → Nat} {k : Nat → ClassId} {N : Nat → Int32} {S Wt L : Nat → Nat → Int32} {T : Nat → Int32} {G : Nat → Nat → Int64} {E : Nat → Int32} {su pa tr sh : Nat → Int32} {pv : Int32} {g : Nat} {z : Int32} (h : g < 4) : (TBw ad k (upd N g z) S Wt L T G E su pa tr sh pv)[2 + 3 * g]? = some (ad (2 + 3 * g), .inr (2, [.ref (ad (3 + 3 * g)), .ref (ad (4 + 3 * g)), .int z])) := match g, h with
  | 0, _ => rfl
  | 1, _ => rfl
  | 2, _ => rfl
  | 3, _ => rfl
theorem tb_w2_st {ad : Nat → Nat} {k : Nat → ClassId} {N : Nat → Int32} {S Wt L : Nat → Nat → Int32} {T : Nat → Int32} {G : Nat → Nat → Int64} {E : Nat → Int32} {su pa tr sh : Nat → Int32} {pv : Int32} {g : Nat} {z : Int32} (h : g < 4) (x : Int32) : (TBw ad k (upd N g z) S Wt L T G E su pa tr sh pv).set (2 + 3 * g) (ad (2 + 3 * g), .inr (2, [.ref (ad (3 + 3 * g)), .ref (ad (4 + 3 * g)), .int x])) = TBw ad k (upd N g x) S Wt L T G E su pa tr sh pv := match g, h with
  | 0, _ => rfl
  | 1, _ => rfl
  | 2, _ => rfl
  | 3, _ => rfl
theorem tb_s2 {ad : Nat → Nat} {k : Nat → ClassId} {N : Nat → Int32} {S Wt L : Nat → Nat → Int32} {T : Nat → Int32} {G : Nat → Nat → Int64} {E : Nat → Int32} {su pa tr sh : Nat → Int32} {pv : Int32} {g : Nat} {z : Nat → Int32} (h : g < 4) : (TBw ad k N (va_up S g z) Wt L T G E su pa tr sh pv)[3 + 3 * g]? = some (ad (3 + 3 * g), .inl (k 0, 3, .inl z)) := match g, h with
  | 0, _ => rfl
  | 1, _ => rfl
  | 2, _ => rfl
  | 3, _ => rfl
theorem tb_s2_st {ad : Nat → Nat} {k : Nat → ClassId} {N : Nat → Int32} {S Wt L : Nat → Nat → Int32} {T : Nat → Int32} {G : Nat → Nat → Int64} {E : Nat → Int32} {su pa tr sh : Nat → Int32} {pv : Int32} {g : Nat} {z : Nat → Int32} (h : g < 4) (x : Nat → Int32) : (TBw ad k N (va_up S g z) Wt L T G E su pa tr sh pv).set (3 + 3 * g) (ad (3 + 3 * g), .inl (k 0, 3, .inl x)) = TBw ad k N (va_up S g x) Wt L T G E su pa tr sh pv := match g, h with
  | 0, _ => rfl
  | 1, _ => rfl
  | 2, _ => rfl
  | 3, _ => rfl
theorem tb_v2 {ad : Nat → Nat} {k : Nat → ClassId} {N : Nat → Int32} {S Wt L : Nat → Nat → Int32} {T : Nat → Int32} {G : Nat → Nat → Int64} {E : Nat → Int32} {su pa tr sh : Nat → Int32} {pv : Int32} {g : Nat} {z : Nat → Int32} (h : g < 4) : (TBw ad k N S (va_up Wt g z) L T G E su pa tr sh pv)[4 + 3 * g]? = some (ad (4 + 3 * g), .inl (k 0, 27, .inl z)) := match g, h with
  | 0, _ => rfl
  | 1, _ => rfl
  | 2, _ => rfl
  | 3, _ => rfl
theorem tb_v2_st {ad : Nat → Nat} {k : Nat → ClassId} {N : Nat → Int32} {S Wt L : Nat → Nat → Int32} {T : Nat → Int32} {G : Nat → Nat → Int64} {E : Nat → Int32} {su pa tr sh : Nat → Int32} {pv : Int32} {g : Nat} {z : Nat → Int32} (h : g < 4) (x : Nat → Int32) : (TBw ad k N S (va_up Wt g z) L T G E su pa tr sh pv).set (4 + 3 * g) (ad (4 + 3 * g), .inl (k 0, 27, .inl x)) = TBw ad k N S (va_up Wt g x) L T G E su pa tr sh pv := match g, h with
  | 0, _ => rfl
  | 1, _ => rfl
  | 2, _ => rfl
  | 3, _ => rfl
theorem tb_l2 {ad : Nat → Nat} {k : Nat → ClassId} {N : Nat → Int32} {S Wt L : Nat → Nat → Int32} {T : Nat → Int32} {G : Nat → Nat → Int64} {E : Nat → Int32} {su pa tr sh : Nat → Int32} {pv : Int32} {j : Nat} {z : Nat → Int32} (h : j < 10) : (TBw ad k N S Wt (va_up L j z) T G E su pa tr sh pv)[15 + j]? = some (ad (15 + j), .inl (k 0, 8, .inl z)) := match j, h with
  | 0, _ => rfl
  | 1, _ => rfl
  | 2, _ => rfl
  | 3, _ => rfl
  | 4, _ => rfl
  | 5, _ => rfl
  | 6, _ => rfl
  | 7, _ => rfl
  | 8, _ => rfl
  | 9, _ => rfl
theorem tb_l2_st {ad : Nat → Nat} {k : Nat → ClassId} {N : Nat → Int32} {S Wt L : Nat → Nat → Int32} {T : Nat → Int32} {G : Nat → Nat → Int64} {E : Nat → Int32} {su pa tr sh : Nat → Int32} {pv : Int32} {j : Nat} {z : Nat → Int32} (h : j < 10) (x : Nat → Int32) : (TBw ad k N S Wt (va_up L j z) T G E su pa tr sh pv).set (15 + j) (ad (15 + j), .inl (k 0, 8, .inl x)) = TBw ad k N S Wt (va_up L j x) T G E su pa tr sh pv := match j, h with
  | 0, _ => rfl
  | 1, _ => rfl
  | 2, _ => rfl
  | 3, _ => rfl
  | 4, _ => rfl
  | 5, _ => rfl
  | 6, _ => rfl
  | 7, _ => rfl
  | 8, _ => rfl
  | 9, _ => rfl
theorem tb_e2 {ad : Nat → Nat} {k : Nat → ClassId} {N : Nat → Int32} {S Wt L : Nat → Nat → Int32} {T : Nat → Int32} {G : Nat → Nat → Int64} {E : Nat → Int32} {su pa tr sh : Nat → Int32} {pv : Int32} {u : Nat} {z : Int32} (h : u < 2) : (TBw ad k N S Wt L T G (upd E u z) su pa tr sh pv)[27 + 2 * u]? = some (ad (27 + 2 * u), .inr (1, [.ref (ad (28 + 2 * u)), .int z])) := match u, h with
  | 0, _ => rfl
  | 1, _ => rfl
theorem tb_e2_st {ad : Nat → Nat} {k : Nat → ClassId} {N : Nat → Int32} {S Wt L : Nat → Nat → Int32} {T : Nat → Int32} {G : Nat → Nat → Int64} {E : Nat → Int32} {su pa tr sh : Nat → Int32} {pv : Int32} {u : Nat} {z : Int32} (h : u < 2) (x : Int32) : (TBw ad k N S Wt L T G (upd E u z) su pa tr sh pv).set (27 + 2 * u) (ad (27 + 2 * u), .inr (1, [.ref (ad (28 + 2 * u)), .int x])) = TBw ad k N S Wt L T G (upd E u x) su pa tr sh pv := match u, h with
  | 0, _ => rfl
  | 1, _ => rfl
theorem tb_d2 {ad : Nat → Nat} {k : Nat → ClassId} {N : Nat → Int32} {S Wt L : Nat → Nat → Int32} {T : Nat → Int32} {G : Nat → Nat → Int64} {E : Nat → Int32} {su pa tr sh : Nat → Int32} {pv : Int32} {u : Nat} {z : Nat → Int64} (h : u < 2) : (TBw ad k N S Wt L T (va_up G u z) E su pa tr sh pv)[28 + 2 * u]? = some (ad (28 + 2 * u), .inl (k 1, 1024, .inr (.inl z))) := match u, h with
  | 0, _ => rfl
  | 1, _ => rfl
theorem tb_d2_st {ad : Nat → Nat} {k : Nat → ClassId} {N : Nat → Int32} {S Wt L : Nat → Nat → Int32} {T : Nat → Int32} {G : Nat → Nat → Int64} {E : Nat → Int32} {su pa tr sh : Nat → Int32} {pv : Int32} {u : Nat} {z : Nat → Int64} (h : u < 2) (x : Nat → Int64) : (TBw ad k N S Wt L T (va_up G u z) E su pa tr sh pv).set (28 + 2 * u) (ad (28 + 2 * u), .inl (k 1, 1024, .inr (.inl x))) = TBw ad k N S Wt L T (va_up G u x) E su pa tr sh pv := match u, h with
  | 0, _ => rfl
  | 1, _ => rfl
theorem hdX0_init : yX0_init.cls ≠ "java/lang/invoke/MethodHandle" ∧ yX0_init.cls ≠ "java/lang/invoke/VarHandle" ∧ (parseMethodDescriptor yX0_init.desc).map (fun d => d.parameters.length) = some 0 := by decide +kernel
theorem hdX0_initC : yX0_init.cls = RX0 ∧ yX0_init.cls ≠ "java/lang/invoke/MethodHandle" ∧ yX0_init.cls ≠ "java/lang/invoke/VarHandle" ∧ (parseMethodDescriptor yX0_init.desc).map (fun d => d.parameters.length) = some 0 := ⟨rfl, hdX0_init⟩
theorem hdX0_clear : yX0_clear.cls ≠ "java/lang/invoke/MethodHandle" ∧ yX0_clear.cls ≠ "java/lang/invoke/VarHandle" ∧ (parseMethodDescriptor yX0_clear.desc).map (fun d => d.parameters.length) = some 0 := by decide +kernel
theorem hdX0_clearC : yX0_clear.cls = RX0 ∧ yX0_clear.cls ≠ "java/lang/invoke/MethodHandle" ∧ yX0_clear.cls ≠ "java/lang/invoke/VarHandle" ∧ (parseMethodDescriptor yX0_clear.desc).map (fun d => d.parameters.length) = some 0 := ⟨rfl, hdX0_clear⟩
theorem hdX0_addLog : yX0_addLog.cls ≠ "java/lang/invoke/MethodHandle" ∧ yX0_addLog.cls ≠ "java/lang/invoke/VarHandle" ∧ (parseMethodDescriptor yX0_addLog.desc).map (fun d => d.parameters.length) = some 2 := by decide +kernel
theorem hdX0_addLogC : yX0_addLog.cls = RX0 ∧ yX0_addLog.cls ≠ "java/lang/invoke/MethodHandle" ∧ yX0_addLog.cls ≠ "java/lang/invoke/VarHandle" ∧ (parseMethodDescriptor yX0_addLog.desc).map (fun d => d.parameters.length) = some 2 := ⟨rfl, hdX0_addLog⟩
theorem hdX0_isNought : yX0_isNought.cls ≠ "java/lang/invoke/MethodHandle" ∧ yX0_isNought.cls ≠ "java/lang/invoke/VarHandle" ∧ (parseMethodDescriptor yX0_isNought.desc).map (fun d => d.parameters.length) = some 0 := by decide +kernel
theorem hdX0_isNoughtC : yX0_isNought.cls = RX0 ∧ yX0_isNought.cls ≠ "java/lang/invoke/MethodHandle" ∧ yX0_isNought.cls ≠ "java/lang/invoke/VarHandle" ∧ (parseMethodDescriptor yX0_isNought.desc).map (fun d => d.parameters.length) = some 0 := ⟨rfl, hdX0_isNought⟩
theorem hdX0_signOfSum : yX0_signOfSum.cls ≠ "java/lang/invoke/MethodHandle" ∧ yX0_signOfSum.cls ≠ "java/lang/invoke/VarHandle" ∧ (parseMethodDescriptor yX0_signOfSum.desc).map (fun d => d.parameters.length) = some 0 := by decide +kernel
theorem hdX0_signOfSumC : yX0_signOfSum.cls = RX0 ∧ yX0_signOfSum.cls ≠ "java/lang/invoke/MethodHandle" ∧ yX0_signOfSum.cls ≠ "java/lang/invoke/VarHandle" ∧ (parseMethodDescriptor yX0_signOfSum.desc).map (fun d => d.parameters.length) = some 0 := ⟨rfl, hdX0_signOfSum⟩
theorem hdX0_signOfProducts : yX0_signOfProducts.cls ≠ "java/lang/invoke/MethodHandle" ∧ yX0_signOfProducts.cls ≠ "java/lang/invoke/VarHandle" ∧ (parseMethodDescriptor yX0_signOfProducts.desc).map (fun d => d.parameters.length) = some 0 := by decide +kernel
theorem hdX0_signOfProductsC : yX0_signOfProducts.cls = RX0 ∧ yX0_signOfProducts.cls ≠ "java/lang/invoke/MethodHandle" ∧ yX0_signOfProducts.cls ≠ "java/lang/invoke/VarHandle" ∧ (parseMethodDescriptor yX0_signOfProducts.desc).map (fun d => d.parameters.length) = some 0 := ⟨rfl, hdX0_signOfProducts⟩
theorem hdX1_init : yX1_init.cls ≠ "java/lang/invoke/MethodHandle" ∧ yX1_init.cls ≠ "java/lang/invoke/VarHandle" ∧ (parseMethodDescriptor yX1_init.desc).map (fun d => d.parameters.length) = some 0 := by decide +kernel
theorem hdX1_initC : yX1_init.cls = RX1 ∧ yX1_init.cls ≠ "java/lang/invoke/MethodHandle" ∧ yX1_init.cls ≠ "java/lang/invoke/VarHandle" ∧ (parseMethodDescriptor yX1_init.desc).map (fun d => d.parameters.length) = some 0 := ⟨rfl, hdX1_init⟩
theorem hdX1_becomeOne : yX1_becomeOne.cls ≠ "java/lang/invoke/MethodHandle" ∧ yX1_becomeOne.cls ≠ "java/lang/invoke/VarHandle" ∧ (parseMethodDescriptor yX1_becomeOne.desc).map (fun d => d.parameters.length) = some 0 := by decide +kernel
theorem hdX1_becomeOneC : yX1_becomeOne.cls = RX1 ∧ yX1_becomeOne.cls ≠ "java/lang/invoke/MethodHandle" ∧ yX1_becomeOne.cls ≠ "java/lang/invoke/VarHandle" ∧ (parseMethodDescriptor yX1_becomeOne.desc).map (fun d => d.parameters.length) = some 0 := ⟨rfl, hdX1_becomeOne⟩
theorem hdX1_multiplyByPower : yX1_multiplyByPower.cls ≠ "java/lang/invoke/MethodHandle" ∧ yX1_multiplyByPower.cls ≠ "java/lang/invoke/VarHandle" ∧ (parseMethodDescriptor yX1_multiplyByPower.desc).map (fun d => d.parameters.length) = some 2 := by decide +kernel
theorem hdX1_multiplyByPowerC : yX1_multiplyByPower.cls = RX1 ∧ yX1_multiplyByPower.cls ≠ "java/lang/invoke/MethodHandle" ∧ yX1_multiplyByPower.cls ≠ "java/lang/invoke/VarHandle" ∧ (parseMethodDescriptor yX1_multiplyByPower.desc).map (fun d => d.parameters.length) = some 2 := ⟨rfl, hdX1_multiplyByPower⟩
theorem hdX1_multiplyBy : yX1_multiplyBy.cls ≠ "java/lang/invoke/MethodHandle" ∧ yX1_multiplyBy.cls ≠ "java/lang/invoke/VarHandle" ∧ (parseMethodDescriptor yX1_multiplyBy.desc).map (fun d => d.parameters.length) = some 1 := by decide +kernel
theorem hdX1_multiplyByC : yX1_multiplyBy.cls = RX1 ∧ yX1_multiplyBy.cls ≠ "java/lang/invoke/MethodHandle" ∧ yX1_multiplyBy.cls ≠ "java/lang/invoke/VarHandle" ∧ (parseMethodDescriptor yX1_multiplyBy.desc).map (fun d => d.parameters.length) = some 1 := ⟨rfl, hdX1_multiplyBy⟩
theorem hdX1_against : yX1_against.cls ≠ "java/lang/invoke/MethodHandle" ∧ yX1_against.cls ≠ "java/lang/invoke/VarHandle" ∧ (parseMethodDescriptor yX1_against.desc).map (fun d => d.parameters.length) = some 1 := by decide +kernel
theorem hdX1_againstC : yX1_against.cls = RX1 ∧ yX1_against.cls ≠ "java/lang/invoke/MethodHandle" ∧ yX1_against.cls ≠ "java/lang/invoke/VarHandle" ∧ (parseMethodDescriptor yX1_against.desc).map (fun d => d.parameters.length) = some 1 := ⟨rfl, hdX1_against⟩
theorem hdX2_init : yX2_init.cls ≠ "java/lang/invoke/MethodHandle" ∧ yX2_init.cls ≠ "java/lang/invoke/VarHandle" ∧ (parseMethodDescriptor yX2_init.desc).map (fun d => d.parameters.length) = some 0 := by decide +kernel
theorem hdX2_initC : yX2_init.cls = RX2 ∧ yX2_init.cls ≠ "java/lang/invoke/MethodHandle" ∧ yX2_init.cls ≠ "java/lang/invoke/VarHandle" ∧ (parseMethodDescriptor yX2_init.desc).map (fun d => d.parameters.length) = some 0 := ⟨rfl, hdX2_init⟩
theorem hdX2_isMade : yX2_isMade.cls ≠ "java/lang/invoke/MethodHandle" ∧ yX2_isMade.cls ≠ "java/lang/invoke/VarHandle" ∧ (parseMethodDescriptor yX2_isMade.desc).map (fun d => d.parameters.length) = some 0 := by decide +kernel
theorem hdX2_isMadeC : yX2_isMade.cls = RX2 ∧ yX2_isMade.cls ≠ "java/lang/invoke/MethodHandle" ∧ yX2_isMade.cls ≠ "java/lang/invoke/VarHandle" ∧ (parseMethodDescriptor yX2_isMade.desc).map (fun d => d.parameters.length) = some 0 := ⟨rfl, hdX2_isMade⟩
theorem hdX2_begin : yX2_begin.cls ≠ "java/lang/invoke/MethodHandle" ∧ yX2_begin.cls ≠ "java/lang/invoke/VarHandle" ∧ (parseMethodDescriptor yX2_begin.desc).map (fun d => d.parameters.length) = some 3 := by decide +kernel
theorem hdX2_beginC : yX2_begin.cls = RX2 ∧ yX2_begin.cls ≠ "java/lang/invoke/MethodHandle" ∧ yX2_begin.cls ≠ "java/lang/invoke/VarHandle" ∧ (parseMethodDescriptor yX2_begin.desc).map (fun d => d.parameters.length) = some 3 := ⟨rfl, hdX2_begin⟩
theorem hdX2_hasSetting : yX2_hasSetting.cls ≠ "java/lang/invoke/MethodHandle" ∧ yX2_hasSetting.cls ≠ "java/lang/invoke/VarHandle" ∧ (parseMethodDescriptor yX2_hasSetting.desc).map (fun d => d.parameters.length) = some 3 := by decide +kernel
theorem hdX2_hasSettingC : yX2_hasSetting.cls = RX2 ∧ yX2_hasSetting.cls ≠ "java/lang/invoke/MethodHandle" ∧ yX2_hasSetting.cls ≠ "java/lang/invoke/VarHandle" ∧ (parseMethodDescriptor yX2_hasSetting.desc).map (fun d => d.parameters.length) = some 3 := ⟨rfl, hdX2_hasSetting⟩
theorem hdX2_weightOf : yX2_weightOf.cls ≠ "java/lang/invoke/MethodHandle" ∧ yX2_weightOf.cls ≠ "java/lang/invoke/VarHandle" ∧ (parseMethodDescriptor yX2_weightOf.desc).map (fun d => d.parameters.length) = some 1 := by decide +kernel
theorem hdX2_weightOfC : yX2_weightOf.cls = RX2 ∧ yX2_weightOf.cls ≠ "java/lang/invoke/MethodHandle" ∧ yX2_weightOf.cls ≠ "java/lang/invoke/VarHandle" ∧ (parseMethodDescriptor yX2_weightOf.desc).map (fun d => d.parameters.length) = some 1 := ⟨rfl, hdX2_weightOf⟩
theorem hdX2_hasStatesOf : yX2_hasStatesOf.cls ≠ "java/lang/invoke/MethodHandle" ∧ yX2_hasStatesOf.cls ≠ "java/lang/invoke/VarHandle" ∧ (parseMethodDescriptor yX2_hasStatesOf.desc).map (fun d => d.parameters.length) = some 1 := by decide +kernel
theorem hdX2_hasStatesOfC : yX2_hasStatesOf.cls = RX2 ∧ yX2_hasStatesOf.cls ≠ "java/lang/invoke/MethodHandle" ∧ yX2_hasStatesOf.cls ≠ "java/lang/invoke/VarHandle" ∧ (parseMethodDescriptor yX2_hasStatesOf.desc).map (fun d => d.parameters.length) = some 1 := ⟨rfl, hdX2_hasStatesOf⟩
theorem hdX2_put : yX2_put.cls ≠ "java/lang/invoke/MethodHandle" ∧ yX2_put.cls ≠ "java/lang/invoke/VarHandle" ∧ (parseMethodDescriptor yX2_put.desc).map (fun d => d.parameters.length) = some 2 := by decide +kernel
theorem hdX2_putC : yX2_put.cls = RX2 ∧ yX2_put.cls ≠ "java/lang/invoke/MethodHandle" ∧ yX2_put.cls ≠ "java/lang/invoke/VarHandle" ∧ (parseMethodDescriptor yX2_put.desc).map (fun d => d.parameters.length) = some 2 := ⟨rfl, hdX2_put⟩
theorem hdX2_becomeMixOf : yX2_becomeMixOf.cls ≠ "java/lang/invoke/MethodHandle" ∧ yX2_becomeMixOf.cls ≠ "java/lang/invoke/VarHandle" ∧ (parseMethodDescriptor yX2_becomeMixOf.desc).map (fun d => d.parameters.length) = some 2 := by decide +kernel
theorem hdX2_becomeMixOfC : yX2_becomeMixOf.cls = RX2 ∧ yX2_becomeMixOf.cls ≠ "java/lang/invoke/MethodHandle" ∧ yX2_becomeMixOf.cls ≠ "java/lang/invoke/VarHandle" ∧ (parseMethodDescriptor yX2_becomeMixOf.desc).map (fun d => d.parameters.length) = some 2 := ⟨rfl, hdX2_becomeMixOf⟩
theorem hdX2_gather : yX2_gather.cls ≠ "java/lang/invoke/MethodHandle" ∧ yX2_gather.cls ≠ "java/lang/invoke/VarHandle" ∧ (parseMethodDescriptor yX2_gather.desc).map (fun d => d.parameters.length) = some 2 := by decide +kernel
theorem hdX2_gatherC : yX2_gather.cls = RX2 ∧ yX2_gather.cls ≠ "java/lang/invoke/MethodHandle" ∧ yX2_gather.cls ≠ "java/lang/invoke/VarHandle" ∧ (parseMethodDescriptor yX2_gather.desc).map (fun d => d.parameters.length) = some 2 := ⟨rfl, hdX2_gather⟩
theorem hdX2_spreadByRule : yX2_spreadByRule.cls ≠ "java/lang/invoke/MethodHandle" ∧ yX2_spreadByRule.cls ≠ "java/lang/invoke/VarHandle" ∧ (parseMethodDescriptor yX2_spreadByRule.desc).map (fun d => d.parameters.length) = some 2 := by decide +kernel
theorem hdX2_spreadByRuleC : yX2_spreadByRule.cls = RX2 ∧ yX2_spreadByRule.cls ≠ "java/lang/invoke/MethodHandle" ∧ yX2_spreadByRule.cls ≠ "java/lang/invoke/VarHandle" ∧ (parseMethodDescriptor yX2_spreadByRule.desc).map (fun d => d.parameters.length) = some 2 := ⟨rfl, hdX2_spreadByRule⟩
theorem hdX3_init : yX3_init.cls ≠ "java/lang/invoke/MethodHandle" ∧ yX3_init.cls ≠ "java/lang/invoke/VarHandle" ∧ (parseMethodDescriptor yX3_init.desc).map (fun d => d.parameters.length) = some 0 := by decide +kernel
theorem hdX3_initC : yX3_init.cls = RX3 ∧ yX3_init.cls ≠ "java/lang/invoke/MethodHandle" ∧ yX3_init.cls ≠ "java/lang/invoke/VarHandle" ∧ (parseMethodDescriptor yX3_init.desc).map (fun d => d.parameters.length) = some 0 := ⟨rfl, hdX3_init⟩
theorem hdX3_world : yX3_world.cls ≠ "java/lang/invoke/MethodHandle" ∧ yX3_world.cls ≠ "java/lang/invoke/VarHandle" ∧ (parseMethodDescriptor yX3_world.desc).map (fun d => d.parameters.length) = some 4 := by decide +kernel
theorem hdX3_worldC : yX3_world.cls = RX3 ∧ yX3_world.cls ≠ "java/lang/invoke/MethodHandle" ∧ yX3_world.cls ≠ "java/lang/invoke/VarHandle" ∧ (parseMethodDescriptor yX3_world.desc).map (fun d => d.parameters.length) = some 4 := ⟨rfl, hdX3_world⟩
theorem hdX3_weight : yX3_weight.cls ≠ "java/lang/invoke/MethodHandle" ∧ yX3_weight.cls ≠ "java/lang/invoke/VarHandle" ∧ (parseMethodDescriptor yX3_weight.desc).map (fun d => d.parameters.length) = some 5 := by decide +kernel
theorem hdX3_weightC : yX3_weight.cls = RX3 ∧ yX3_weight.cls ≠ "java/lang/invoke/MethodHandle" ∧ yX3_weight.cls ≠ "java/lang/invoke/VarHandle" ∧ (parseMethodDescriptor yX3_weight.desc).map (fun d => d.parameters.length) = some 5 := ⟨rfl, hdX3_weight⟩
theorem hdX3_told : yX3_told.cls ≠ "java/lang/invoke/MethodHandle" ∧ yX3_told.cls ≠ "java/lang/invoke/VarHandle" ∧ (parseMethodDescriptor yX3_told.desc).map (fun d => d.parameters.length) = some 2 := by decide +kernel
theorem hdX3_toldC : yX3_told.cls = RX3 ∧ yX3_told.cls ≠ "java/lang/invoke/MethodHandle" ∧ yX3_told.cls ≠ "java/lang/invoke/VarHandle" ∧ (parseMethodDescriptor yX3_told.desc).map (fun d => d.parameters.length) = some 2 := ⟨rfl, hdX3_told⟩
theorem hdX3_mix : yX3_mix.cls ≠ "java/lang/invoke/MethodHandle" ∧ yX3_mix.cls ≠ "java/lang/invoke/VarHandle" ∧ (parseMethodDescriptor yX3_mix.desc).map (fun d => d.parameters.length) = some 3 := by decide +kernel
theorem hdX3_mixC : yX3_mix.cls = RX3 ∧ yX3_mix.cls ≠ "java/lang/invoke/MethodHandle" ∧ yX3_mix.cls ≠ "java/lang/invoke/VarHandle" ∧ (parseMethodDescriptor yX3_mix.desc).map (fun d => d.parameters.length) = some 3 := ⟨rfl, hdX3_mix⟩
theorem hdX3_tell : yX3_tell.cls ≠ "java/lang/invoke/MethodHandle" ∧ yX3_tell.cls ≠ "java/lang/invoke/VarHandle" ∧ (parseMethodDescriptor yX3_tell.desc).map (fun d => d.parameters.length) = some 2 := by decide +kernel
theorem hdX3_tellC : yX3_tell.cls = RX3 ∧ yX3_tell.cls ≠ "java/lang/invoke/MethodHandle" ∧ yX3_tell.cls ≠ "java/lang/invoke/VarHandle" ∧ (parseMethodDescriptor yX3_tell.desc).map (fun d => d.parameters.length) = some 2 := ⟨rfl, hdX3_tell⟩
theorem hdX3_law : yX3_law.cls ≠ "java/lang/invoke/MethodHandle" ∧ yX3_law.cls ≠ "java/lang/invoke/VarHandle" ∧ (parseMethodDescriptor yX3_law.desc).map (fun d => d.parameters.length) = some 3 := by decide +kernel
theorem hdX3_lawC : yX3_law.cls = RX3 ∧ yX3_law.cls ≠ "java/lang/invoke/MethodHandle" ∧ yX3_law.cls ≠ "java/lang/invoke/VarHandle" ∧ (parseMethodDescriptor yX3_law.desc).map (fun d => d.parameters.length) = some 3 := ⟨rfl, hdX3_law⟩
theorem hdX3_plain : yX3_plain.cls ≠ "java/lang/invoke/MethodHandle" ∧ yX3_plain.cls ≠ "java/lang/invoke/VarHandle" ∧ (parseMethodDescriptor yX3_plain.desc).map (fun d => d.parameters.length) = some 2 := by decide +kernel
theorem hdX3_plainC : yX3_plain.cls = RX3 ∧ yX3_plain.cls ≠ "java/lang/invoke/MethodHandle" ∧ yX3_plain.cls ≠ "java/lang/invoke/VarHandle" ∧ (parseMethodDescriptor yX3_plain.desc).map (fun d => d.parameters.length) = some 2 := ⟨rfl, hdX3_plain⟩
theorem hdX3_number : yX3_number.cls ≠ "java/lang/invoke/MethodHandle" ∧ yX3_number.cls ≠ "java/lang/invoke/VarHandle" ∧ (parseMethodDescriptor yX3_number.desc).map (fun d => d.parameters.length) = some 2 := by decide +kernel
theorem hdX3_numberC : yX3_number.cls = RX3 ∧ yX3_number.cls ≠ "java/lang/invoke/MethodHandle" ∧ yX3_number.cls ≠ "java/lang/invoke/VarHandle" ∧ (parseMethodDescriptor yX3_number.desc).map (fun d => d.parameters.length) = some 2 := ⟨rfl, hdX3_number⟩
theorem hdX3_sign : yX3_sign.cls ≠ "java/lang/invoke/MethodHandle" ∧ yX3_sign.cls ≠ "java/lang/invoke/VarHandle" ∧ (parseMethodDescriptor yX3_sign.desc).map (fun d => d.parameters.length) = some 2 := by decide +kernel
theorem hdX3_signC : yX3_sign.cls = RX3 ∧ yX3_sign.cls ≠ "java/lang/invoke/MethodHandle" ∧ yX3_sign.cls ≠ "java/lang/invoke/VarHandle" ∧ (parseMethodDescriptor yX3_sign.desc).map (fun d => d.parameters.length) = some 2 := ⟨rfl, hdX3_sign⟩
theorem hdX3_compare : yX3_compare.cls ≠ "java/lang/invoke/MethodHandle" ∧ yX3_compare.cls ≠ "java/lang/invoke/VarHandle" ∧ (parseMethodDescriptor yX3_compare.desc).map (fun d => d.parameters.length) = some 4 := by decide +kernel
theorem hdX3_compareC : yX3_compare.cls = RX3 ∧ yX3_compare.cls ≠ "java/lang/invoke/MethodHandle" ∧ yX3_compare.cls ≠ "java/lang/invoke/VarHandle" ∧ (parseMethodDescriptor yX3_compare.desc).map (fun d => d.parameters.length) = some 4 := ⟨rfl, hdX3_compare⟩
theorem hdX3_near : yX3_near.cls ≠ "java/lang/invoke/MethodHandle" ∧ yX3_near.cls ≠ "java/lang/invoke/VarHandle" ∧ (parseMethodDescriptor yX3_near.desc).map (fun d => d.parameters.length) = some 2 := by decide +kernel
theorem hdX3_nearC : yX3_near.cls = RX3 ∧ yX3_near.cls ≠ "java/lang/invoke/MethodHandle" ∧ yX3_near.cls ≠ "java/lang/invoke/VarHandle" ∧ (parseMethodDescriptor yX3_near.desc).map (fun d => d.parameters.length) = some 2 := ⟨rfl, hdX3_near⟩
theorem hdX3_always : yX3_always.cls ≠ "java/lang/invoke/MethodHandle" ∧ yX3_always.cls ≠ "java/lang/invoke/VarHandle" ∧ (parseMethodDescriptor yX3_always.desc).map (fun d => d.parameters.length) = some 2 := by decide +kernel
theorem hdX3_alwaysC : yX3_always.cls = RX3 ∧ yX3_always.cls ≠ "java/lang/invoke/MethodHandle" ∧ yX3_always.cls ≠ "java/lang/invoke/VarHandle" ∧ (parseMethodDescriptor yX3_always.desc).map (fun d => d.parameters.length) = some 2 := ⟨rfl, hdX3_always⟩
theorem hdX3_breaks : yX3_breaks.cls ≠ "java/lang/invoke/MethodHandle" ∧ yX3_breaks.cls ≠ "java/lang/invoke/VarHandle" ∧ (parseMethodDescriptor yX3_breaks.desc).map (fun d => d.parameters.length) = some 2 := by decide +kernel
theorem hdX3_breaksC : yX3_breaks.cls = RX3 ∧ yX3_breaks.cls ≠ "java/lang/invoke/MethodHandle" ∧ yX3_breaks.cls ≠ "java/lang/invoke/VarHandle" ∧ (parseMethodDescriptor yX3_breaks.desc).map (fun d => d.parameters.length) = some 2 := ⟨rfl, hdX3_breaks⟩
theorem hdX3_prove : yX3_prove.cls ≠ "java/lang/invoke/MethodHandle" ∧ yX3_prove.cls ≠ "java/lang/invoke/VarHandle" ∧ (parseMethodDescriptor yX3_prove.desc).map (fun d => d.parameters.length) = some 1 := by decide +kernel
theorem hdX3_proveC : yX3_prove.cls = RX3 ∧ yX3_prove.cls ≠ "java/lang/invoke/MethodHandle" ∧ yX3_prove.cls ≠ "java/lang/invoke/VarHandle" ∧ (parseMethodDescriptor yX3_prove.desc).map (fun d => d.parameters.length) = some 1 := ⟨rfl, hdX3_prove⟩
theorem hdX3_share : yX3_share.cls ≠ "java/lang/invoke/MethodHandle" ∧ yX3_share.cls ≠ "java/lang/invoke/VarHandle" ∧ (parseMethodDescriptor yX3_share.desc).map (fun d => d.parameters.length) = some 2 := by decide +kernel
theorem hdX3_shareC : yX3_share.cls = RX3 ∧ yX3_share.cls ≠ "java/lang/invoke/MethodHandle" ∧ yX3_share.cls ≠ "java/lang/invoke/VarHandle" ∧ (parseMethodDescriptor yX3_share.desc).map (fun d => d.parameters.length) = some 2 := ⟨rfl, hdX3_share⟩
theorem hdX3_mean : yX3_mean.cls ≠ "java/lang/invoke/MethodHandle" ∧ yX3_mean.cls ≠ "java/lang/invoke/VarHandle" ∧ (parseMethodDescriptor yX3_mean.desc).map (fun d => d.parameters.length) = some 2 := by decide +kernel
theorem hdX3_meanC : yX3_mean.cls = RX3 ∧ yX3_mean.cls ≠ "java/lang/invoke/MethodHandle" ∧ yX3_mean.cls ≠ "java/lang/invoke/VarHandle" ∧ (parseMethodDescriptor yX3_mean.desc).map (fun d => d.parameters.length) = some 2 := ⟨rfl, hdX3_mean⟩
theorem hdX3_words : yX3_words.cls ≠ "java/lang/invoke/MethodHandle" ∧ yX3_words.cls ≠ "java/lang/invoke/VarHandle" ∧ (parseMethodDescriptor yX3_words.desc).map (fun d => d.parameters.length) = some 2 := by decide +kernel
theorem hdX3_wordsC : yX3_words.cls = RX3 ∧ yX3_words.cls ≠ "java/lang/invoke/MethodHandle" ∧ yX3_words.cls ≠ "java/lang/invoke/VarHandle" ∧ (parseMethodDescriptor yX3_words.desc).map (fun d => d.parameters.length) = some 2 := ⟨rfl, hdX3_words⟩
theorem hdX3_secret : yX3_secret.cls ≠ "java/lang/invoke/MethodHandle" ∧ yX3_secret.cls ≠ "java/lang/invoke/VarHandle" ∧ (parseMethodDescriptor yX3_secret.desc).map (fun d => d.parameters.length) = some 2 := by decide +kernel
theorem hdX3_secretC : yX3_secret.cls = RX3 ∧ yX3_secret.cls ≠ "java/lang/invoke/MethodHandle" ∧ yX3_secret.cls ≠ "java/lang/invoke/VarHandle" ∧ (parseMethodDescriptor yX3_secret.desc).map (fun d => d.parameters.length) = some 2 := ⟨rfl, hdX3_secret⟩
theorem hdX3_isPlace : yX3_isPlace.cls ≠ "java/lang/invoke/MethodHandle" ∧ yX3_isPlace.cls ≠ "java/lang/invoke/VarHandle" ∧ (parseMethodDescriptor yX3_isPlace.desc).map (fun d => d.parameters.length) = some 1 := by decide +kernel
theorem hdX3_isPlaceC : yX3_isPlace.cls = RX3 ∧ yX3_isPlace.cls ≠ "java/lang/invoke/MethodHandle" ∧ yX3_isPlace.cls ≠ "java/lang/invoke/VarHandle" ∧ (parseMethodDescriptor yX3_isPlace.desc).map (fun d => d.parameters.length) = some 1 := ⟨rfl, hdX3_isPlace⟩
theorem hdX3_isMadePlace : yX3_isMadePlace.cls ≠ "java/lang/invoke/MethodHandle" ∧ yX3_isMadePlace.cls ≠ "java/lang/invoke/VarHandle" ∧ (parseMethodDescriptor yX3_isMadePlace.desc).map (fun d => d.parameters.length) = some 1 := by decide +kernel
theorem hdX3_isMadePlaceC : yX3_isMadePlace.cls = RX3 ∧ yX3_isMadePlace.cls ≠ "java/lang/invoke/MethodHandle" ∧ yX3_isMadePlace.cls ≠ "java/lang/invoke/VarHandle" ∧ (parseMethodDescriptor yX3_isMadePlace.desc).map (fun d => d.parameters.length) = some 1 := ⟨rfl, hdX3_isMadePlace⟩
theorem hdX3_isStateCount : yX3_isStateCount.cls ≠ "java/lang/invoke/MethodHandle" ∧ yX3_isStateCount.cls ≠ "java/lang/invoke/VarHandle" ∧ (parseMethodDescriptor yX3_isStateCount.desc).map (fun d => d.parameters.length) = some 1 := by decide +kernel
theorem hdX3_isStateCountC : yX3_isStateCount.cls = RX3 ∧ yX3_isStateCount.cls ≠ "java/lang/invoke/MethodHandle" ∧ yX3_isStateCount.cls ≠ "java/lang/invoke/VarHandle" ∧ (parseMethodDescriptor yX3_isStateCount.desc).map (fun d => d.parameters.length) = some 1 := ⟨rfl, hdX3_isStateCount⟩
theorem hdX3_isLaw : yX3_isLaw.cls ≠ "java/lang/invoke/MethodHandle" ∧ yX3_isLaw.cls ≠ "java/lang/invoke/VarHandle" ∧ (parseMethodDescriptor yX3_isLaw.desc).map (fun d => d.parameters.length) = some 1 := by decide +kernel
theorem hdX3_isLawC : yX3_isLaw.cls = RX3 ∧ yX3_isLaw.cls ≠ "java/lang/invoke/MethodHandle" ∧ yX3_isLaw.cls ≠ "java/lang/invoke/VarHandle" ∧ (parseMethodDescriptor yX3_isLaw.desc).map (fun d => d.parameters.length) = some 1 := ⟨rfl, hdX3_isLaw⟩
theorem hdX3_isSet : yX3_isSet.cls ≠ "java/lang/invoke/MethodHandle" ∧ yX3_isSet.cls ≠ "java/lang/invoke/VarHandle" ∧ (parseMethodDescriptor yX3_isSet.desc).map (fun d => d.parameters.length) = some 1 := by decide +kernel
theorem hdX3_isSetC : yX3_isSet.cls = RX3 ∧ yX3_isSet.cls ≠ "java/lang/invoke/MethodHandle" ∧ yX3_isSet.cls ≠ "java/lang/invoke/VarHandle" ∧ (parseMethodDescriptor yX3_isSet.desc).map (fun d => d.parameters.length) = some 1 := ⟨rfl, hdX3_isSet⟩
theorem hdX3_isGivens : yX3_isGivens.cls ≠ "java/lang/invoke/MethodHandle" ∧ yX3_isGivens.cls ≠ "java/lang/invoke/VarHandle" ∧ (parseMethodDescriptor yX3_isGivens.desc).map (fun d => d.parameters.length) = some 1 := by decide +kernel
theorem hdX3_isGivensC : yX3_isGivens.cls = RX3 ∧ yX3_isGivens.cls ≠ "java/lang/invoke/MethodHandle" ∧ yX3_isGivens.cls ≠ "java/lang/invoke/VarHandle" ∧ (parseMethodDescriptor yX3_isGivens.desc).map (fun d => d.parameters.length) = some 1 := ⟨rfl, hdX3_isGivens⟩
theorem hdX3_settingOf : yX3_settingOf.cls ≠ "java/lang/invoke/MethodHandle" ∧ yX3_settingOf.cls ≠ "java/lang/invoke/VarHandle" ∧ (parseMethodDescriptor yX3_settingOf.desc).map (fun d => d.parameters.length) = some 3 := by decide +kernel
theorem hdX3_settingOfC : yX3_settingOf.cls = RX3 ∧ yX3_settingOf.cls ≠ "java/lang/invoke/MethodHandle" ∧ yX3_settingOf.cls ≠ "java/lang/invoke/VarHandle" ∧ (parseMethodDescriptor yX3_settingOf.desc).map (fun d => d.parameters.length) = some 3 := ⟨rfl, hdX3_settingOf⟩
theorem hdX3_addLawSum : yX3_addLawSum.cls ≠ "java/lang/invoke/MethodHandle" ∧ yX3_addLawSum.cls ≠ "java/lang/invoke/VarHandle" ∧ (parseMethodDescriptor yX3_addLawSum.desc).map (fun d => d.parameters.length) = some 3 := by decide +kernel
theorem hdX3_addLawSumC : yX3_addLawSum.cls = RX3 ∧ yX3_addLawSum.cls ≠ "java/lang/invoke/MethodHandle" ∧ yX3_addLawSum.cls ≠ "java/lang/invoke/VarHandle" ∧ (parseMethodDescriptor yX3_addLawSum.desc).map (fun d => d.parameters.length) = some 3 := ⟨rfl, hdX3_addLawSum⟩
theorem hdX3_addDoubt : yX3_addDoubt.cls ≠ "java/lang/invoke/MethodHandle" ∧ yX3_addDoubt.cls ≠ "java/lang/invoke/VarHandle" ∧ (parseMethodDescriptor yX3_addDoubt.desc).map (fun d => d.parameters.length) = some 3 := by decide +kernel
theorem hdX3_addDoubtC : yX3_addDoubt.cls = RX3 ∧ yX3_addDoubt.cls ≠ "java/lang/invoke/MethodHandle" ∧ yX3_addDoubt.cls ≠ "java/lang/invoke/VarHandle" ∧ (parseMethodDescriptor yX3_addDoubt.desc).map (fun d => d.parameters.length) = some 3 := ⟨rfl, hdX3_addDoubt⟩
theorem hdX3_firstBreakingRow : yX3_firstBreakingRow.cls ≠ "java/lang/invoke/MethodHandle" ∧ yX3_firstBreakingRow.cls ≠ "java/lang/invoke/VarHandle" ∧ (parseMethodDescriptor yX3_firstBreakingRow.desc).map (fun d => d.parameters.length) = some 2 := by decide +kernel
theorem hdX3_firstBreakingRowC : yX3_firstBreakingRow.cls = RX3 ∧ yX3_firstBreakingRow.cls ≠ "java/lang/invoke/MethodHandle" ∧ yX3_firstBreakingRow.cls ≠ "java/lang/invoke/VarHandle" ∧ (parseMethodDescriptor yX3_firstBreakingRow.desc).map (fun d => d.parameters.length) = some 2 := ⟨rfl, hdX3_firstBreakingRow⟩
theorem hdX3_keepsGivens : yX3_keepsGivens.cls ≠ "java/lang/invoke/MethodHandle" ∧ yX3_keepsGivens.cls ≠ "java/lang/invoke/VarHandle" ∧ (parseMethodDescriptor yX3_keepsGivens.desc).map (fun d => d.parameters.length) = some 2 := by decide +kernel
theorem hdX3_keepsGivensC : yX3_keepsGivens.cls = RX3 ∧ yX3_keepsGivens.cls ≠ "java/lang/invoke/MethodHandle" ∧ yX3_keepsGivens.cls ≠ "java/lang/invoke/VarHandle" ∧ (parseMethodDescriptor yX3_keepsGivens.desc).map (fun d => d.parameters.length) = some 2 := ⟨rfl, hdX3_keepsGivens⟩
theorem hdX3_sumByRow : yX3_sumByRow.cls ≠ "java/lang/invoke/MethodHandle" ∧ yX3_sumByRow.cls ≠ "java/lang/invoke/VarHandle" ∧ (parseMethodDescriptor yX3_sumByRow.desc).map (fun d => d.parameters.length) = some 3 := by decide +kernel
theorem hdX3_sumByRowC : yX3_sumByRow.cls = RX3 ∧ yX3_sumByRow.cls ≠ "java/lang/invoke/MethodHandle" ∧ yX3_sumByRow.cls ≠ "java/lang/invoke/VarHandle" ∧ (parseMethodDescriptor yX3_sumByRow.desc).map (fun d => d.parameters.length) = some 3 := ⟨rfl, hdX3_sumByRow⟩
theorem hdX3_splitIntoParts : yX3_splitIntoParts.cls ≠ "java/lang/invoke/MethodHandle" ∧ yX3_splitIntoParts.cls ≠ "java/lang/invoke/VarHandle" ∧ (parseMethodDescriptor yX3_splitIntoParts.desc).map (fun d => d.parameters.length) = some 1 := by decide +kernel
theorem hdX3_splitIntoPartsC : yX3_splitIntoParts.cls = RX3 ∧ yX3_splitIntoParts.cls ≠ "java/lang/invoke/MethodHandle" ∧ yX3_splitIntoParts.cls ≠ "java/lang/invoke/VarHandle" ∧ (parseMethodDescriptor yX3_splitIntoParts.desc).map (fun d => d.parameters.length) = some 1 := ⟨rfl, hdX3_splitIntoParts⟩
theorem hdX3_leavesOneRow : yX3_leavesOneRow.cls ≠ "java/lang/invoke/MethodHandle" ∧ yX3_leavesOneRow.cls ≠ "java/lang/invoke/VarHandle" ∧ (parseMethodDescriptor yX3_leavesOneRow.desc).map (fun d => d.parameters.length) = some 2 := by decide +kernel
theorem hdX3_leavesOneRowC : yX3_leavesOneRow.cls = RX3 ∧ yX3_leavesOneRow.cls ≠ "java/lang/invoke/MethodHandle" ∧ yX3_leavesOneRow.cls ≠ "java/lang/invoke/VarHandle" ∧ (parseMethodDescriptor yX3_leavesOneRow.desc).map (fun d => d.parameters.length) = some 2 := ⟨rfl, hdX3_leavesOneRow⟩
theorem hdX3_tryWithout : yX3_tryWithout.cls ≠ "java/lang/invoke/MethodHandle" ∧ yX3_tryWithout.cls ≠ "java/lang/invoke/VarHandle" ∧ (parseMethodDescriptor yX3_tryWithout.desc).map (fun d => d.parameters.length) = some 2 := by decide +kernel
theorem hdX3_tryWithoutC : yX3_tryWithout.cls = RX3 ∧ yX3_tryWithout.cls ≠ "java/lang/invoke/MethodHandle" ∧ yX3_tryWithout.cls ≠ "java/lang/invoke/VarHandle" ∧ (parseMethodDescriptor yX3_tryWithout.desc).map (fun d => d.parameters.length) = some 2 := ⟨rfl, hdX3_tryWithout⟩
theorem hdX3_noneIsBelowNought : yX3_noneIsBelowNought.cls ≠ "java/lang/invoke/MethodHandle" ∧ yX3_noneIsBelowNought.cls ≠ "java/lang/invoke/VarHandle" ∧ (parseMethodDescriptor yX3_noneIsBelowNought.desc).map (fun d => d.parameters.length) = some 1 := by decide +kernel
theorem hdX3_noneIsBelowNoughtC : yX3_noneIsBelowNought.cls = RX3 ∧ yX3_noneIsBelowNought.cls ≠ "java/lang/invoke/MethodHandle" ∧ yX3_noneIsBelowNought.cls ≠ "java/lang/invoke/VarHandle" ∧ (parseMethodDescriptor yX3_noneIsBelowNought.desc).map (fun d => d.parameters.length) = some 1 := ⟨rfl, hdX3_noneIsBelowNought⟩
theorem hdX3_keepAboveNought : yX3_keepAboveNought.cls ≠ "java/lang/invoke/MethodHandle" ∧ yX3_keepAboveNought.cls ≠ "java/lang/invoke/VarHandle" ∧ (parseMethodDescriptor yX3_keepAboveNought.desc).map (fun d => d.parameters.length) = some 0 := by decide +kernel
theorem hdX3_keepAboveNoughtC : yX3_keepAboveNought.cls = RX3 ∧ yX3_keepAboveNought.cls ≠ "java/lang/invoke/MethodHandle" ∧ yX3_keepAboveNought.cls ≠ "java/lang/invoke/VarHandle" ∧ (parseMethodDescriptor yX3_keepAboveNought.desc).map (fun d => d.parameters.length) = some 0 := ⟨rfl, hdX3_keepAboveNought⟩
theorem hdX3_leastMean : yX3_leastMean.cls ≠ "java/lang/invoke/MethodHandle" ∧ yX3_leastMean.cls ≠ "java/lang/invoke/VarHandle" ∧ (parseMethodDescriptor yX3_leastMean.desc).map (fun d => d.parameters.length) = some 1 := by decide +kernel
theorem hdX3_leastMeanC : yX3_leastMean.cls = RX3 ∧ yX3_leastMean.cls ≠ "java/lang/invoke/MethodHandle" ∧ yX3_leastMean.cls ≠ "java/lang/invoke/VarHandle" ∧ (parseMethodDescriptor yX3_leastMean.desc).map (fun d => d.parameters.length) = some 1 := ⟨rfl, hdX3_leastMean⟩
theorem hdX3_moveLeastToEnd : yX3_moveLeastToEnd.cls ≠ "java/lang/invoke/MethodHandle" ∧ yX3_moveLeastToEnd.cls ≠ "java/lang/invoke/VarHandle" ∧ (parseMethodDescriptor yX3_moveLeastToEnd.desc).map (fun d => d.parameters.length) = some 1 := by decide +kernel
theorem hdX3_moveLeastToEndC : yX3_moveLeastToEnd.cls = RX3 ∧ yX3_moveLeastToEnd.cls ≠ "java/lang/invoke/MethodHandle" ∧ yX3_moveLeastToEnd.cls ≠ "java/lang/invoke/VarHandle" ∧ (parseMethodDescriptor yX3_moveLeastToEnd.desc).map (fun d => d.parameters.length) = some 1 := ⟨rfl, hdX3_moveLeastToEnd⟩
theorem hdX4_init : yX4_init.cls ≠ "java/lang/invoke/MethodHandle" ∧ yX4_init.cls ≠ "java/lang/invoke/VarHandle" ∧ (parseMethodDescriptor yX4_init.desc).map (fun d => d.parameters.length) = some 0 := by decide +kernel
theorem hdX4_initC : yX4_init.cls = RX4 ∧ yX4_init.cls ≠ "java/lang/invoke/MethodHandle" ∧ yX4_init.cls ≠ "java/lang/invoke/VarHandle" ∧ (parseMethodDescriptor yX4_init.desc).map (fun d => d.parameters.length) = some 0 := ⟨rfl, hdX4_init⟩
theorem hdX4_isIn : yX4_isIn.cls ≠ "java/lang/invoke/MethodHandle" ∧ yX4_isIn.cls ≠ "java/lang/invoke/VarHandle" ∧ (parseMethodDescriptor yX4_isIn.desc).map (fun d => d.parameters.length) = some 3 := by decide +kernel
theorem hdX4_isInC : yX4_isIn.cls = RX4 ∧ yX4_isIn.cls ≠ "java/lang/invoke/MethodHandle" ∧ yX4_isIn.cls ≠ "java/lang/invoke/VarHandle" ∧ (parseMethodDescriptor yX4_isIn.desc).map (fun d => d.parameters.length) = some 3 := ⟨rfl, hdX4_isIn⟩
theorem hdX4_isPlace : yX4_isPlace.cls ≠ "java/lang/invoke/MethodHandle" ∧ yX4_isPlace.cls ≠ "java/lang/invoke/VarHandle" ∧ (parseMethodDescriptor yX4_isPlace.desc).map (fun d => d.parameters.length) = some 1 := by decide +kernel
theorem hdX4_isPlaceC : yX4_isPlace.cls = RX4 ∧ yX4_isPlace.cls ≠ "java/lang/invoke/MethodHandle" ∧ yX4_isPlace.cls ≠ "java/lang/invoke/VarHandle" ∧ (parseMethodDescriptor yX4_isPlace.desc).map (fun d => d.parameters.length) = some 1 := ⟨rfl, hdX4_isPlace⟩
theorem hdX4_isMade : yX4_isMade.cls ≠ "java/lang/invoke/MethodHandle" ∧ yX4_isMade.cls ≠ "java/lang/invoke/VarHandle" ∧ (parseMethodDescriptor yX4_isMade.desc).map (fun d => d.parameters.length) = some 1 := by decide +kernel
theorem hdX4_isMadeC : yX4_isMade.cls = RX4 ∧ yX4_isMade.cls ≠ "java/lang/invoke/MethodHandle" ∧ yX4_isMade.cls ≠ "java/lang/invoke/VarHandle" ∧ (parseMethodDescriptor yX4_isMade.desc).map (fun d => d.parameters.length) = some 1 := ⟨rfl, hdX4_isMade⟩
theorem hdX4_isLaw : yX4_isLaw.cls ≠ "java/lang/invoke/MethodHandle" ∧ yX4_isLaw.cls ≠ "java/lang/invoke/VarHandle" ∧ (parseMethodDescriptor yX4_isLaw.desc).map (fun d => d.parameters.length) = some 1 := by decide +kernel
theorem hdX4_isLawC : yX4_isLaw.cls = RX4 ∧ yX4_isLaw.cls ≠ "java/lang/invoke/MethodHandle" ∧ yX4_isLaw.cls ≠ "java/lang/invoke/VarHandle" ∧ (parseMethodDescriptor yX4_isLaw.desc).map (fun d => d.parameters.length) = some 1 := ⟨rfl, hdX4_isLaw⟩
theorem hdX4_world : yX4_world.cls ≠ "java/lang/invoke/MethodHandle" ∧ yX4_world.cls ≠ "java/lang/invoke/VarHandle" ∧ (parseMethodDescriptor yX4_world.desc).map (fun d => d.parameters.length) = some 4 := by decide +kernel
theorem hdX4_worldC : yX4_world.cls = RX4 ∧ yX4_world.cls ≠ "java/lang/invoke/MethodHandle" ∧ yX4_world.cls ≠ "java/lang/invoke/VarHandle" ∧ (parseMethodDescriptor yX4_world.desc).map (fun d => d.parameters.length) = some 4 := ⟨rfl, hdX4_world⟩
theorem hdX4_isSetting : yX4_isSetting.cls ≠ "java/lang/invoke/MethodHandle" ∧ yX4_isSetting.cls ≠ "java/lang/invoke/VarHandle" ∧ (parseMethodDescriptor yX4_isSetting.desc).map (fun d => d.parameters.length) = some 4 := by decide +kernel
theorem hdX4_isSettingC : yX4_isSetting.cls = RX4 ∧ yX4_isSetting.cls ≠ "java/lang/invoke/MethodHandle" ∧ yX4_isSetting.cls ≠ "java/lang/invoke/VarHandle" ∧ (parseMethodDescriptor yX4_isSetting.desc).map (fun d => d.parameters.length) = some 4 := ⟨rfl, hdX4_isSetting⟩
theorem hdX4_weight : yX4_weight.cls ≠ "java/lang/invoke/MethodHandle" ∧ yX4_weight.cls ≠ "java/lang/invoke/VarHandle" ∧ (parseMethodDescriptor yX4_weight.desc).map (fun d => d.parameters.length) = some 5 := by decide +kernel
theorem hdX4_weightC : yX4_weight.cls = RX4 ∧ yX4_weight.cls ≠ "java/lang/invoke/MethodHandle" ∧ yX4_weight.cls ≠ "java/lang/invoke/VarHandle" ∧ (parseMethodDescriptor yX4_weight.desc).map (fun d => d.parameters.length) = some 5 := ⟨rfl, hdX4_weight⟩
theorem hdX4_told : yX4_told.cls ≠ "java/lang/invoke/MethodHandle" ∧ yX4_told.cls ≠ "java/lang/invoke/VarHandle" ∧ (parseMethodDescriptor yX4_told.desc).map (fun d => d.parameters.length) = some 2 := by decide +kernel
theorem hdX4_toldC : yX4_told.cls = RX4 ∧ yX4_told.cls ≠ "java/lang/invoke/MethodHandle" ∧ yX4_told.cls ≠ "java/lang/invoke/VarHandle" ∧ (parseMethodDescriptor yX4_told.desc).map (fun d => d.parameters.length) = some 2 := ⟨rfl, hdX4_told⟩
theorem hdX4_mix : yX4_mix.cls ≠ "java/lang/invoke/MethodHandle" ∧ yX4_mix.cls ≠ "java/lang/invoke/VarHandle" ∧ (parseMethodDescriptor yX4_mix.desc).map (fun d => d.parameters.length) = some 3 := by decide +kernel
theorem hdX4_mixC : yX4_mix.cls = RX4 ∧ yX4_mix.cls ≠ "java/lang/invoke/MethodHandle" ∧ yX4_mix.cls ≠ "java/lang/invoke/VarHandle" ∧ (parseMethodDescriptor yX4_mix.desc).map (fun d => d.parameters.length) = some 3 := ⟨rfl, hdX4_mix⟩
theorem hdX4_tell : yX4_tell.cls ≠ "java/lang/invoke/MethodHandle" ∧ yX4_tell.cls ≠ "java/lang/invoke/VarHandle" ∧ (parseMethodDescriptor yX4_tell.desc).map (fun d => d.parameters.length) = some 2 := by decide +kernel
theorem hdX4_tellC : yX4_tell.cls = RX4 ∧ yX4_tell.cls ≠ "java/lang/invoke/MethodHandle" ∧ yX4_tell.cls ≠ "java/lang/invoke/VarHandle" ∧ (parseMethodDescriptor yX4_tell.desc).map (fun d => d.parameters.length) = some 2 := ⟨rfl, hdX4_tell⟩
theorem hdX4_law : yX4_law.cls ≠ "java/lang/invoke/MethodHandle" ∧ yX4_law.cls ≠ "java/lang/invoke/VarHandle" ∧ (parseMethodDescriptor yX4_law.desc).map (fun d => d.parameters.length) = some 3 := by decide +kernel
theorem hdX4_lawC : yX4_law.cls = RX4 ∧ yX4_law.cls ≠ "java/lang/invoke/MethodHandle" ∧ yX4_law.cls ≠ "java/lang/invoke/VarHandle" ∧ (parseMethodDescriptor yX4_law.desc).map (fun d => d.parameters.length) = some 3 := ⟨rfl, hdX4_law⟩
theorem hdX4_bit : yX4_bit.cls ≠ "java/lang/invoke/MethodHandle" ∧ yX4_bit.cls ≠ "java/lang/invoke/VarHandle" ∧ (parseMethodDescriptor yX4_bit.desc).map (fun d => d.parameters.length) = some 2 := by decide +kernel
theorem hdX4_bitC : yX4_bit.cls = RX4 ∧ yX4_bit.cls ≠ "java/lang/invoke/MethodHandle" ∧ yX4_bit.cls ≠ "java/lang/invoke/VarHandle" ∧ (parseMethodDescriptor yX4_bit.desc).map (fun d => d.parameters.length) = some 2 := ⟨rfl, hdX4_bit⟩
theorem hdX4_plainOf : yX4_plainOf.cls ≠ "java/lang/invoke/MethodHandle" ∧ yX4_plainOf.cls ≠ "java/lang/invoke/VarHandle" ∧ (parseMethodDescriptor yX4_plainOf.desc).map (fun d => d.parameters.length) = some 2 := by decide +kernel
theorem hdX4_plainOfC : yX4_plainOf.cls = RX4 ∧ yX4_plainOf.cls ≠ "java/lang/invoke/MethodHandle" ∧ yX4_plainOf.cls ≠ "java/lang/invoke/VarHandle" ∧ (parseMethodDescriptor yX4_plainOf.desc).map (fun d => d.parameters.length) = some 2 := ⟨rfl, hdX4_plainOf⟩
theorem hdX4_plain : yX4_plain.cls ≠ "java/lang/invoke/MethodHandle" ∧ yX4_plain.cls ≠ "java/lang/invoke/VarHandle" ∧ (parseMethodDescriptor yX4_plain.desc).map (fun d => d.parameters.length) = some 2 := by decide +kernel
theorem hdX4_plainC : yX4_plain.cls = RX4 ∧ yX4_plain.cls ≠ "java/lang/invoke/MethodHandle" ∧ yX4_plain.cls ≠ "java/lang/invoke/VarHandle" ∧ (parseMethodDescriptor yX4_plain.desc).map (fun d => d.parameters.length) = some 2 := ⟨rfl, hdX4_plain⟩
theorem hdX4_number : yX4_number.cls ≠ "java/lang/invoke/MethodHandle" ∧ yX4_number.cls ≠ "java/lang/invoke/VarHandle" ∧ (parseMethodDescriptor yX4_number.desc).map (fun d => d.parameters.length) = some 2 := by decide +kernel
theorem hdX4_numberC : yX4_number.cls = RX4 ∧ yX4_number.cls ≠ "java/lang/invoke/MethodHandle" ∧ yX4_number.cls ≠ "java/lang/invoke/VarHandle" ∧ (parseMethodDescriptor yX4_number.desc).map (fun d => d.parameters.length) = some 2 := ⟨rfl, hdX4_number⟩
theorem hdX4_clear : yX4_clear.cls ≠ "java/lang/invoke/MethodHandle" ∧ yX4_clear.cls ≠ "java/lang/invoke/VarHandle" ∧ (parseMethodDescriptor yX4_clear.desc).map (fun d => d.parameters.length) = some 0 := by decide +kernel
theorem hdX4_clearC : yX4_clear.cls = RX4 ∧ yX4_clear.cls ≠ "java/lang/invoke/MethodHandle" ∧ yX4_clear.cls ≠ "java/lang/invoke/VarHandle" ∧ (parseMethodDescriptor yX4_clear.desc).map (fun d => d.parameters.length) = some 0 := ⟨rfl, hdX4_clear⟩
theorem hdX4_add : yX4_add.cls ≠ "java/lang/invoke/MethodHandle" ∧ yX4_add.cls ≠ "java/lang/invoke/VarHandle" ∧ (parseMethodDescriptor yX4_add.desc).map (fun d => d.parameters.length) = some 2 := by decide +kernel
theorem hdX4_addC : yX4_add.cls = RX4 ∧ yX4_add.cls ≠ "java/lang/invoke/MethodHandle" ∧ yX4_add.cls ≠ "java/lang/invoke/VarHandle" ∧ (parseMethodDescriptor yX4_add.desc).map (fun d => d.parameters.length) = some 2 := ⟨rfl, hdX4_add⟩
theorem hdX4_settings : yX4_settings.cls ≠ "java/lang/invoke/MethodHandle" ∧ yX4_settings.cls ≠ "java/lang/invoke/VarHandle" ∧ (parseMethodDescriptor yX4_settings.desc).map (fun d => d.parameters.length) = some 2 := by decide +kernel
theorem hdX4_settingsC : yX4_settings.cls = RX4 ∧ yX4_settings.cls ≠ "java/lang/invoke/MethodHandle" ∧ yX4_settings.cls ≠ "java/lang/invoke/VarHandle" ∧ (parseMethodDescriptor yX4_settings.desc).map (fun d => d.parameters.length) = some 2 := ⟨rfl, hdX4_settings⟩
theorem hdX4_doubt : yX4_doubt.cls ≠ "java/lang/invoke/MethodHandle" ∧ yX4_doubt.cls ≠ "java/lang/invoke/VarHandle" ∧ (parseMethodDescriptor yX4_doubt.desc).map (fun d => d.parameters.length) = some 3 := by decide +kernel
theorem hdX4_doubtC : yX4_doubt.cls = RX4 ∧ yX4_doubt.cls ≠ "java/lang/invoke/MethodHandle" ∧ yX4_doubt.cls ≠ "java/lang/invoke/VarHandle" ∧ (parseMethodDescriptor yX4_doubt.desc).map (fun d => d.parameters.length) = some 3 := ⟨rfl, hdX4_doubt⟩
theorem hdX4_lawIn : yX4_lawIn.cls ≠ "java/lang/invoke/MethodHandle" ∧ yX4_lawIn.cls ≠ "java/lang/invoke/VarHandle" ∧ (parseMethodDescriptor yX4_lawIn.desc).map (fun d => d.parameters.length) = some 3 := by decide +kernel
theorem hdX4_lawInC : yX4_lawIn.cls = RX4 ∧ yX4_lawIn.cls ≠ "java/lang/invoke/MethodHandle" ∧ yX4_lawIn.cls ≠ "java/lang/invoke/VarHandle" ∧ (parseMethodDescriptor yX4_lawIn.desc).map (fun d => d.parameters.length) = some 3 := ⟨rfl, hdX4_lawIn⟩
theorem hdX4_multiply : yX4_multiply.cls ≠ "java/lang/invoke/MethodHandle" ∧ yX4_multiply.cls ≠ "java/lang/invoke/VarHandle" ∧ (parseMethodDescriptor yX4_multiply.desc).map (fun d => d.parameters.length) = some 2 := by decide +kernel
theorem hdX4_multiplyC : yX4_multiply.cls = RX4 ∧ yX4_multiply.cls ≠ "java/lang/invoke/MethodHandle" ∧ yX4_multiply.cls ≠ "java/lang/invoke/VarHandle" ∧ (parseMethodDescriptor yX4_multiply.desc).map (fun d => d.parameters.length) = some 2 := ⟨rfl, hdX4_multiply⟩
theorem hdX4_times : yX4_times.cls ≠ "java/lang/invoke/MethodHandle" ∧ yX4_times.cls ≠ "java/lang/invoke/VarHandle" ∧ (parseMethodDescriptor yX4_times.desc).map (fun d => d.parameters.length) = some 2 := by decide +kernel
theorem hdX4_timesC : yX4_times.cls = RX4 ∧ yX4_times.cls ≠ "java/lang/invoke/MethodHandle" ∧ yX4_times.cls ≠ "java/lang/invoke/VarHandle" ∧ (parseMethodDescriptor yX4_times.desc).map (fun d => d.parameters.length) = some 2 := ⟨rfl, hdX4_times⟩
theorem hdX4_signOf : yX4_signOf.cls ≠ "java/lang/invoke/MethodHandle" ∧ yX4_signOf.cls ≠ "java/lang/invoke/VarHandle" ∧ (parseMethodDescriptor yX4_signOf.desc).map (fun d => d.parameters.length) = some 0 := by decide +kernel
theorem hdX4_signOfC : yX4_signOf.cls = RX4 ∧ yX4_signOf.cls ≠ "java/lang/invoke/MethodHandle" ∧ yX4_signOf.cls ≠ "java/lang/invoke/VarHandle" ∧ (parseMethodDescriptor yX4_signOf.desc).map (fun d => d.parameters.length) = some 0 := ⟨rfl, hdX4_signOf⟩
theorem hdX4_sign : yX4_sign.cls ≠ "java/lang/invoke/MethodHandle" ∧ yX4_sign.cls ≠ "java/lang/invoke/VarHandle" ∧ (parseMethodDescriptor yX4_sign.desc).map (fun d => d.parameters.length) = some 2 := by decide +kernel
theorem hdX4_signC : yX4_sign.cls = RX4 ∧ yX4_sign.cls ≠ "java/lang/invoke/MethodHandle" ∧ yX4_sign.cls ≠ "java/lang/invoke/VarHandle" ∧ (parseMethodDescriptor yX4_sign.desc).map (fun d => d.parameters.length) = some 2 := ⟨rfl, hdX4_sign⟩
theorem hdX4_compare : yX4_compare.cls ≠ "java/lang/invoke/MethodHandle" ∧ yX4_compare.cls ≠ "java/lang/invoke/VarHandle" ∧ (parseMethodDescriptor yX4_compare.desc).map (fun d => d.parameters.length) = some 4 := by decide +kernel
theorem hdX4_compareC : yX4_compare.cls = RX4 ∧ yX4_compare.cls ≠ "java/lang/invoke/MethodHandle" ∧ yX4_compare.cls ≠ "java/lang/invoke/VarHandle" ∧ (parseMethodDescriptor yX4_compare.desc).map (fun d => d.parameters.length) = some 4 := ⟨rfl, hdX4_compare⟩
theorem hdX4_near : yX4_near.cls ≠ "java/lang/invoke/MethodHandle" ∧ yX4_near.cls ≠ "java/lang/invoke/VarHandle" ∧ (parseMethodDescriptor yX4_near.desc).map (fun d => d.parameters.length) = some 2 := by decide +kernel
theorem hdX4_nearC : yX4_near.cls = RX4 ∧ yX4_near.cls ≠ "java/lang/invoke/MethodHandle" ∧ yX4_near.cls ≠ "java/lang/invoke/VarHandle" ∧ (parseMethodDescriptor yX4_near.desc).map (fun d => d.parameters.length) = some 2 := ⟨rfl, hdX4_near⟩
theorem hdX4_rowOf : yX4_rowOf.cls ≠ "java/lang/invoke/MethodHandle" ∧ yX4_rowOf.cls ≠ "java/lang/invoke/VarHandle" ∧ (parseMethodDescriptor yX4_rowOf.desc).map (fun d => d.parameters.length) = some 2 := by decide +kernel
theorem hdX4_rowOfC : yX4_rowOf.cls = RX4 ∧ yX4_rowOf.cls ≠ "java/lang/invoke/MethodHandle" ∧ yX4_rowOf.cls ≠ "java/lang/invoke/VarHandle" ∧ (parseMethodDescriptor yX4_rowOf.desc).map (fun d => d.parameters.length) = some 2 := ⟨rfl, hdX4_rowOf⟩
theorem hdX4_isGiven : yX4_isGiven.cls ≠ "java/lang/invoke/MethodHandle" ∧ yX4_isGiven.cls ≠ "java/lang/invoke/VarHandle" ∧ (parseMethodDescriptor yX4_isGiven.desc).map (fun d => d.parameters.length) = some 2 := by decide +kernel
theorem hdX4_isGivenC : yX4_isGiven.cls = RX4 ∧ yX4_isGiven.cls ≠ "java/lang/invoke/MethodHandle" ∧ yX4_isGiven.cls ≠ "java/lang/invoke/VarHandle" ∧ (parseMethodDescriptor yX4_isGiven.desc).map (fun d => d.parameters.length) = some 2 := ⟨rfl, hdX4_isGiven⟩
theorem hdX4_always : yX4_always.cls ≠ "java/lang/invoke/MethodHandle" ∧ yX4_always.cls ≠ "java/lang/invoke/VarHandle" ∧ (parseMethodDescriptor yX4_always.desc).map (fun d => d.parameters.length) = some 2 := by decide +kernel
theorem hdX4_alwaysC : yX4_always.cls = RX4 ∧ yX4_always.cls ≠ "java/lang/invoke/MethodHandle" ∧ yX4_always.cls ≠ "java/lang/invoke/VarHandle" ∧ (parseMethodDescriptor yX4_always.desc).map (fun d => d.parameters.length) = some 2 := ⟨rfl, hdX4_always⟩
theorem hdX4_breaks : yX4_breaks.cls ≠ "java/lang/invoke/MethodHandle" ∧ yX4_breaks.cls ≠ "java/lang/invoke/VarHandle" ∧ (parseMethodDescriptor yX4_breaks.desc).map (fun d => d.parameters.length) = some 2 := by decide +kernel
theorem hdX4_breaksC : yX4_breaks.cls = RX4 ∧ yX4_breaks.cls ≠ "java/lang/invoke/MethodHandle" ∧ yX4_breaks.cls ≠ "java/lang/invoke/VarHandle" ∧ (parseMethodDescriptor yX4_breaks.desc).map (fun d => d.parameters.length) = some 2 := ⟨rfl, hdX4_breaks⟩
theorem hdX4_common : yX4_common.cls ≠ "java/lang/invoke/MethodHandle" ∧ yX4_common.cls ≠ "java/lang/invoke/VarHandle" ∧ (parseMethodDescriptor yX4_common.desc).map (fun d => d.parameters.length) = some 2 := by decide +kernel
theorem hdX4_commonC : yX4_common.cls = RX4 ∧ yX4_common.cls ≠ "java/lang/invoke/MethodHandle" ∧ yX4_common.cls ≠ "java/lang/invoke/VarHandle" ∧ (parseMethodDescriptor yX4_common.desc).map (fun d => d.parameters.length) = some 2 := ⟨rfl, hdX4_common⟩
theorem hdX4_solve : yX4_solve.cls ≠ "java/lang/invoke/MethodHandle" ∧ yX4_solve.cls ≠ "java/lang/invoke/VarHandle" ∧ (parseMethodDescriptor yX4_solve.desc).map (fun d => d.parameters.length) = some 3 := by decide +kernel
theorem hdX4_solveC : yX4_solve.cls = RX4 ∧ yX4_solve.cls ≠ "java/lang/invoke/MethodHandle" ∧ yX4_solve.cls ≠ "java/lang/invoke/VarHandle" ∧ (parseMethodDescriptor yX4_solve.desc).map (fun d => d.parameters.length) = some 3 := ⟨rfl, hdX4_solve⟩
theorem hdX4_takeOff : yX4_takeOff.cls ≠ "java/lang/invoke/MethodHandle" ∧ yX4_takeOff.cls ≠ "java/lang/invoke/VarHandle" ∧ (parseMethodDescriptor yX4_takeOff.desc).map (fun d => d.parameters.length) = some 2 := by decide +kernel
theorem hdX4_takeOffC : yX4_takeOff.cls = RX4 ∧ yX4_takeOff.cls ≠ "java/lang/invoke/MethodHandle" ∧ yX4_takeOff.cls ≠ "java/lang/invoke/VarHandle" ∧ (parseMethodDescriptor yX4_takeOff.desc).map (fun d => d.parameters.length) = some 2 := ⟨rfl, hdX4_takeOff⟩
theorem hdX4_prove : yX4_prove.cls ≠ "java/lang/invoke/MethodHandle" ∧ yX4_prove.cls ≠ "java/lang/invoke/VarHandle" ∧ (parseMethodDescriptor yX4_prove.desc).map (fun d => d.parameters.length) = some 1 := by decide +kernel
theorem hdX4_proveC : yX4_prove.cls = RX4 ∧ yX4_prove.cls ≠ "java/lang/invoke/MethodHandle" ∧ yX4_prove.cls ≠ "java/lang/invoke/VarHandle" ∧ (parseMethodDescriptor yX4_prove.desc).map (fun d => d.parameters.length) = some 1 := ⟨rfl, hdX4_prove⟩
theorem hdX4_share : yX4_share.cls ≠ "java/lang/invoke/MethodHandle" ∧ yX4_share.cls ≠ "java/lang/invoke/VarHandle" ∧ (parseMethodDescriptor yX4_share.desc).map (fun d => d.parameters.length) = some 2 := by decide +kernel
theorem hdX4_shareC : yX4_share.cls = RX4 ∧ yX4_share.cls ≠ "java/lang/invoke/MethodHandle" ∧ yX4_share.cls ≠ "java/lang/invoke/VarHandle" ∧ (parseMethodDescriptor yX4_share.desc).map (fun d => d.parameters.length) = some 2 := ⟨rfl, hdX4_share⟩
theorem hdX4_mean : yX4_mean.cls ≠ "java/lang/invoke/MethodHandle" ∧ yX4_mean.cls ≠ "java/lang/invoke/VarHandle" ∧ (parseMethodDescriptor yX4_mean.desc).map (fun d => d.parameters.length) = some 2 := by decide +kernel
theorem hdX4_meanC : yX4_mean.cls = RX4 ∧ yX4_mean.cls ≠ "java/lang/invoke/MethodHandle" ∧ yX4_mean.cls ≠ "java/lang/invoke/VarHandle" ∧ (parseMethodDescriptor yX4_mean.desc).map (fun d => d.parameters.length) = some 2 := ⟨rfl, hdX4_mean⟩
theorem hdX4_leastOf : yX4_leastOf.cls ≠ "java/lang/invoke/MethodHandle" ∧ yX4_leastOf.cls ≠ "java/lang/invoke/VarHandle" ∧ (parseMethodDescriptor yX4_leastOf.desc).map (fun d => d.parameters.length) = some 0 := by decide +kernel
theorem hdX4_leastOfC : yX4_leastOf.cls = RX4 ∧ yX4_leastOf.cls ≠ "java/lang/invoke/MethodHandle" ∧ yX4_leastOf.cls ≠ "java/lang/invoke/VarHandle" ∧ (parseMethodDescriptor yX4_leastOf.desc).map (fun d => d.parameters.length) = some 0 := ⟨rfl, hdX4_leastOf⟩
theorem hdX4_secondOf : yX4_secondOf.cls ≠ "java/lang/invoke/MethodHandle" ∧ yX4_secondOf.cls ≠ "java/lang/invoke/VarHandle" ∧ (parseMethodDescriptor yX4_secondOf.desc).map (fun d => d.parameters.length) = some 1 := by decide +kernel
theorem hdX4_secondOfC : yX4_secondOf.cls = RX4 ∧ yX4_secondOf.cls ≠ "java/lang/invoke/MethodHandle" ∧ yX4_secondOf.cls ≠ "java/lang/invoke/VarHandle" ∧ (parseMethodDescriptor yX4_secondOf.desc).map (fun d => d.parameters.length) = some 1 := ⟨rfl, hdX4_secondOf⟩
theorem hdX4_words : yX4_words.cls ≠ "java/lang/invoke/MethodHandle" ∧ yX4_words.cls ≠ "java/lang/invoke/VarHandle" ∧ (parseMethodDescriptor yX4_words.desc).map (fun d => d.parameters.length) = some 2 := by decide +kernel
theorem hdX4_wordsC : yX4_words.cls = RX4 ∧ yX4_words.cls ≠ "java/lang/invoke/MethodHandle" ∧ yX4_words.cls ≠ "java/lang/invoke/VarHandle" ∧ (parseMethodDescriptor yX4_words.desc).map (fun d => d.parameters.length) = some 2 := ⟨rfl, hdX4_words⟩
theorem hdX4_secret : yX4_secret.cls ≠ "java/lang/invoke/MethodHandle" ∧ yX4_secret.cls ≠ "java/lang/invoke/VarHandle" ∧ (parseMethodDescriptor yX4_secret.desc).map (fun d => d.parameters.length) = some 2 := by decide +kernel
theorem hdX4_secretC : yX4_secret.cls = RX4 ∧ yX4_secret.cls ≠ "java/lang/invoke/MethodHandle" ∧ yX4_secret.cls ≠ "java/lang/invoke/VarHandle" ∧ (parseMethodDescriptor yX4_secret.desc).map (fun d => d.parameters.length) = some 2 := ⟨rfl, hdX4_secret⟩
theorem hdJ9_abs_0f7a4 : yJ9_abs_0f7a4.cls ≠ "java/lang/invoke/MethodHandle" ∧ yJ9_abs_0f7a4.cls ≠ "java/lang/invoke/VarHandle" ∧ (parseMethodDescriptor yJ9_abs_0f7a4.desc).map (fun d => d.parameters.length) = some 1 := by decide +kernel
theorem hdJ9_abs_067f4 : yJ9_abs_067f4.cls ≠ "java/lang/invoke/MethodHandle" ∧ yJ9_abs_067f4.cls ≠ "java/lang/invoke/VarHandle" ∧ (parseMethodDescriptor yJ9_abs_067f4.desc).map (fun d => d.parameters.length) = some 1 := by decide +kernel
theorem hdJ7_fill_53178 : yJ7_fill_53178.cls ≠ "java/lang/invoke/MethodHandle" ∧ yJ7_fill_53178.cls ≠ "java/lang/invoke/VarHandle" ∧ (parseMethodDescriptor yJ7_fill_53178.desc).map (fun d => d.parameters.length) = some 2 := by decide +kernel
end
section
def bI (b : Bool) : Int32 := if b then 1 else 0
def f_made (n : Int32) : Int32 := if n ≤ 0 then 0 else 1
set_option maxRecDepth 20000 in
theorem in_X2_isMade_X2 : ∀ w ∈ u_ws RX2 TX2 3, w ∈ wsX2_isMade := by decide +kernel
set_option maxRecDepth 20000 in
theorem lk_X2_isMade_18 : Cond.fieldLink RX2 18 (TX2 2).1 (TX2 2).2.1 (TX2 2).2.2.1 ∈ wsX2_isMade := by decide +kernel
set_option maxHeartbeats 4000000 in
set_option maxRecDepth 100000 in
theorem c_X2_isMade (D : va_G) (k : Nat → ClassId) (t : Nat → Nat) (l : Launch) {ad : Nat → Nat} {N : Nat → Int32} {S Wt L : Nat → Nat → Int32} {T : Nat → Int32} {G : Nat → Nat → Int64} {E : Nat → Int32} {su pa tr sh : Nat → Int32} {pv : Int32} {g : Nat} (hg : g < 4) : Ci D k t l yX2_isMade wsX2_isMade ({ frames := 0, cells := 0, slots := 0, locals := 0 }) [.ref (ad (2 + 3 * g))] (TBw ad k N S Wt L T G E su pa tr sh pv) (fun r w => r = f_made (N g) ∧ w = TBw ad k N S Wt L T G E su pa tr sh pv) 0 0 := by
  refine fw_of (cc := cX2_isMade) (maxL := 1) (ret := (some .boolean)) (Qc := fun A => va_Qi (fun r w => r = f_made (N g) ∧ w = TBw ad k N S Wt L T G E su pa tr sh pv) (BcW D A) A) (by decide) rfl (Nat.le_of_ble_eq_true rfl) ?_
  intro p e s m below meth c A ls C hP hD hl
  have hl : lv_has ls 1 [(0, .ref (ad (2 + 3 * g)))] := hl
  have hx := C.1
  have hb := C.2.1
  have hown := C.2.2.2.2.1
  have hts := C.2.2.2.2.2.1
  have hK := C.2.2.2.2.2.2.2.2.1
  have hZ := C.2.2.2.2.2.2.2.2.2.1
  have hN := C.2.2.2.2.2.2.2.2.2.2
  have hS : va_S A s.heap s.heap [] := va_S.rf
  refine lv_aload_n hx hb dX2_isMade_0 rfl (lv_at hl 0 rfl) ?_
  refine fg C hP (2 + 3 * g) (tb_w hg) (ci := 2) rfl 2 (by decide) in_X2_isMade_X2 lk_X2_isMade_18 (v := .int (N g)) rfl dX2_isMade_1 ?_
  refine lv_if_le (tgt := 11) hx hb dX2_isMade_4 (by decide) (fun c1 => ?_) (fun c1 => ?_)
  · refine lv_iconst (v := nI 0) hx hb dX2_isMade_11 (by decide) ?_
    exact Rz C hP hD hS (Nat.zero_le _) (Nat.zero_le _) rfl dX2_isMade_12 ⟨by simp only [f_made, c1, ↓reduceIte]; rfl, rfl⟩
  · refine lv_iconst (v := nI 1) hx hb dX2_isMade_7 (by decide) ?_
    refine lv_goto (tgt := 12) hx hb dX2_isMade_8 (by decide) ?_
    exact Rz C hP hD hS (Nat.zero_le _) (Nat.zero_le _) rfl dX2_isMade_12 ⟨by simp only [f_made, c1, ↓reduceIte]; rfl, rfl⟩

def f_hasS (s : Nat → Int32) (a b c : Int32) : Int32 := if a < 0 then 0 else if s 0 ≤ a then 0 else if b < 0 then 0 else if s 1 ≤ b then 0 else if c < 0 then 0 else if s 2 ≤ c then 0 else 1
set_option maxRecDepth 20000 in
theorem in_X2_hasSetting_X2 : ∀ w ∈ u_ws RX2 TX2 3, w ∈ wsX2_hasSetting := by decide +kernel
set_option maxRecDepth 20000 in
theorem lk_X2_hasSetting_9 : Cond.fieldLink RX2 9 (TX2 0).1 (TX2 0).2.1 (TX2 0).2.2.1 ∈ wsX2_hasSetting := by decide +kernel
set_option maxHeartbeats 4000000 in
set_option maxRecDepth 100000 in
theorem c_X2_hasSetting (D : va_G) (k : Nat → ClassId) (t : Nat → Nat) (l : Launch) {ad : Nat → Nat} {N : Nat → Int32} {S Wt L : Nat → Nat → Int32} {T : Nat → Int32} {G : Nat → Nat → Int64} {E : Nat → Int32} {su pa tr sh : Nat → Int32} {pv : Int32} {g : Nat} (x1 x2 x3 : Int32) (hg : g < 4) : Ci D k t l yX2_hasSetting wsX2_hasSetting ({ frames := 0, cells := 0, slots := 0, locals := 0 }) [.ref (ad (2 + 3 * g)), .int x1, .int x2, .int x3] (TBw ad k N S Wt L T G E su pa tr sh pv) (fun r w => r = f_hasS (S g) x1 x2 x3 ∧ w = TBw ad k N S Wt L T G E su pa tr sh pv) 0 0 := by
  refine fw_of (cc := cX2_hasSetting) (maxL := 4) (ret := (some .boolean)) (Qc := fun A => va_Qi (fun r w => r = f_hasS (S g) x1 x2 x3 ∧ w = TBw ad k N S Wt L T G E su pa tr sh pv) (BcW D A) A) (by decide) rfl (Nat.le_of_ble_eq_true rfl) ?_
  intro p e s m below meth c A ls C hP hD hl
  have hl : lv_has ls 4 [(0, .ref (ad (2 + 3 * g))), (1, .int x1), (2, .int x2), (3, .int x3)] := hl
  have hx := C.1
  have hb := C.2.1
  have hown := C.2.2.2.2.1
  have hts := C.2.2.2.2.2.1
  have hK := C.2.2.2.2.2.2.2.2.1
  have hZ := C.2.2.2.2.2.2.2.2.2.1
  have hN := C.2.2.2.2.2.2.2.2.2.2
  have hS : va_S A s.heap s.heap [] := va_S.rf
  refine lv_iload_n hx hb dX2_hasSetting_0 rfl (lv_at hl 1 rfl) ?_
  refine lv_if_lt (tgt := 46) hx hb dX2_hasSetting_1 (by decide) (fun c1 => ?_) (fun c1 => ?_)
  · refine lv_iconst (v := nI 0) hx hb dX2_hasSetting_46 (by decide) ?_
    exact Rz C hP hD hS (Nat.zero_le _) (Nat.zero_le _) rfl dX2_hasSetting_47 ⟨by simp only [f_hasS, c1, ↓reduceIte]; rfl, rfl⟩
  · refine lv_iload_n hx hb dX2_hasSetting_4 rfl (lv_at hl 1 rfl) ?_
    refine lv_aload_n hx hb dX2_hasSetting_5 rfl (lv_at hl 0 rfl) ?_
    refine fg C hP (2 + 3 * g) (tb_w hg) (ci := 2) rfl 0 (by decide) in_X2_hasSetting_X2 lk_X2_hasSetting_9 (v := .ref (ad (3 + 3 * g))) rfl dX2_hasSetting_6 ?_
    refine lv_iconst (v := nI 0) hx hb dX2_hasSetting_9 (by decide) ?_
    refine ar_i C hP (3 + 3 * g) (tb_s hg) (j := 0) (by decide) (by decide) dX2_hasSetting_10 ?_
    refine lv_icmp_ge (tgt := 46) hx hb dX2_hasSetting_11 (by decide) (fun c2 => ?_) (fun c2 => ?_)
    · refine lv_iconst (v := nI 0) hx hb dX2_hasSetting_46 (by decide) ?_
      exact Rz C hP hD hS (Nat.zero_le _) (Nat.zero_le _) rfl dX2_hasSetting_47 ⟨by simp only [f_hasS, c1, c2, ↓reduceIte]; rfl, rfl⟩
    · refine lv_iload_n hx hb dX2_hasSetting_14 rfl (lv_at hl 2 rfl) ?_
      refine lv_if_lt (tgt := 46) hx hb dX2_hasSetting_15 (by decide) (fun c3 => ?_) (fun c3 => ?_)
      · refine lv_iconst (v := nI 0) hx hb dX2_hasSetting_46 (by decide) ?_
        exact Rz C hP hD hS (Nat.zero_le _) (Nat.zero_le _) rfl dX2_hasSetting_47 ⟨by simp only [f_hasS, c1, c2, c3, ↓reduceIte]; rfl, rfl⟩
      · refine lv_iload_n hx hb dX2_hasSetting_18 rfl (lv_at hl 2 rfl) ?_
        refine lv_aload_n hx hb dX2_hasSetting_19 rfl (lv_at hl 0 rfl) ?_
        refine fg C hP (2 + 3 * g) (tb_w hg) (ci := 2) rfl 0 (by decide) in_X2_hasSetting_X2 lk_X2_hasSetting_9 (v := .ref (ad (3 + 3 * g))) rfl dX2_hasSetting_20 ?_
        refine lv_iconst (v := nI 1) hx hb dX2_hasSetting_23 (by decide) ?_
        refine ar_i C hP (3 + 3 * g) (tb_s hg) (j := 1) (by decide) (by decide) dX2_hasSetting_24 ?_
        refine lv_icmp_ge (tgt := 46) hx hb dX2_hasSetting_25 (by decide) (fun c4 => ?_) (fun c4 => ?_)
        · refine lv_iconst (v := nI 0) hx hb dX2_hasSetting_46 (by decide) ?_
          exact Rz C hP hD hS (Nat.zero_le _) (Nat.zero_le _) rfl dX2_hasSetting_47 ⟨by simp only [f_hasS, c1, c2, c3, c4, ↓reduceIte]; rfl, rfl⟩
        · refine lv_iload_n hx hb dX2_hasSetting_28 rfl (lv_at hl 3 rfl) ?_
          refine lv_if_lt (tgt := 46) hx hb dX2_hasSetting_29 (by decide) (fun c5 => ?_) (fun c5 => ?_)
          · refine lv_iconst (v := nI 0) hx hb dX2_hasSetting_46 (by decide) ?_
            exact Rz C hP hD hS (Nat.zero_le _) (Nat.zero_le _) rfl dX2_hasSetting_47 ⟨by simp only [f_hasS, c1, c2, c3, c4, c5, ↓reduceIte]; rfl, rfl⟩
          · refine lv_iload_n hx hb dX2_hasSetting_32 rfl (lv_at hl 3 rfl) ?_
            refine lv_aload_n hx hb dX2_hasSetting_33 rfl (lv_at hl 0 rfl) ?_
            refine fg C hP (2 + 3 * g) (tb_w hg) (ci := 2) rfl 0 (by decide) in_X2_hasSetting_X2 lk_X2_hasSetting_9 (v := .ref (ad (3 + 3 * g))) rfl dX2_hasSetting_34 ?_
            refine lv_iconst (v := nI 2) hx hb dX2_hasSetting_37 (by decide) ?_
            refine ar_i C hP (3 + 3 * g) (tb_s hg) (j := 2) (by decide) (by decide) dX2_hasSetting_38 ?_
            refine lv_icmp_ge (tgt := 46) hx hb dX2_hasSetting_39 (by decide) (fun c6 => ?_) (fun c6 => ?_)
            · refine lv_iconst (v := nI 0) hx hb dX2_hasSetting_46 (by decide) ?_
              exact Rz C hP hD hS (Nat.zero_le _) (Nat.zero_le _) rfl dX2_hasSetting_47 ⟨by simp only [f_hasS, c1, c2, c3, c4, c5, c6, ↓reduceIte]; rfl, rfl⟩
            · refine lv_iconst (v := nI 1) hx hb dX2_hasSetting_42 (by decide) ?_
              refine lv_goto (tgt := 47) hx hb dX2_hasSetting_43 (by decide) ?_
              exact Rz C hP hD hS (Nat.zero_le _) (Nat.zero_le _) rfl dX2_hasSetting_47 ⟨by simp only [f_hasS, c1, c2, c3, c4, c5, c6, ↓reduceIte]; rfl, rfl⟩
end
