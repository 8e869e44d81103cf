theorem w_2_79 : (Jvm.Cond.fieldLink "SpillForge$Colouring" (9 : Nat) "SpillForge$Colouring" "weight" "[I") ∈ gw := gw_2 79 rfl rfl
theorem w_2_78 : (Jvm.Cond.fieldLink "SpillForge$Colouring" (27 : Nat) "SpillForge$Colouring" "graph" "LSpillForge$Graph;") ∈ gw := gw_2 78 rfl rfl
theorem w_2_55 : (Jvm.Cond.fieldLink "SpillForge$Graph" (37 : Nat) "SpillForge$Graph" "names" "I") ∈ gw := gw_2 55 rfl rfl
theorem w_2_51 : (Jvm.Cond.fieldLink "SpillForge$Graph" (22 : Nat) "SpillForge$Graph" "standing" "[J") ∈ gw := gw_2 51 rfl rfl
theorem w_5_122 : (Jvm.Cond.methodLink "SpillForge$Colouring" (31 : Nat) ({ cls := "SpillForge$Graph", name := "stands", desc := "(I)Z" } : Jvm.MethodName)) ∈ gw := gw_5 122 rfl rfl
theorem w_1_9 : (Jvm.Cond.initialized "SpillForge$Graph") ∈ gw := gw_1 9 rfl rfl
theorem w_4_167 : (Jvm.Cond.code ({ cls := "SpillForge$Graph", name := "stands", desc := "(I)Z" } : Jvm.MethodName) prog_5_method_6_code (2 : Nat) (Option.some Jvm.ClassFile.FieldType.boolean)) ∈ gw := gw_4 167 rfl rfl
theorem w_4_165 : (Jvm.Cond.instanceMethod ({ cls := "SpillForge$Graph", name := "stands", desc := "(I)Z" } : Jvm.MethodName)) ∈ gw := gw_4 165 rfl rfl
theorem w_4_166 : (Jvm.Cond.selects "SpillForge$Graph" ({ cls := "SpillForge$Graph", name := "stands", desc := "(I)Z" } : Jvm.MethodName) ({ cls := "SpillForge$Graph", name := "stands", desc := "(I)Z" } : Jvm.MethodName)) ∈ gw := gw_4 166 rfl rfl
theorem w_2_83 : (Jvm.Cond.fieldLink "SpillForge$Colouring" (24 : Nat) "SpillForge$Colouring" "colour" "[I") ∈ gw := gw_2 83 rfl rfl
theorem w_4_146 : (Jvm.Cond.methodLink "SpillForge$Colouring" (37 : Nat) ({ cls := "java/util/Arrays", name := "fill", desc := "([II)V" } : Jvm.MethodName)) ∈ gw := gw_4 146 rfl rfl
theorem w_1_30 : (Jvm.Cond.initialized "java/util/Arrays") ∈ gw := gw_1 30 rfl rfl
theorem w_3_239 : (Jvm.Cond.code ({ cls := "java/util/Arrays", name := "fill", desc := "([II)V" } : Jvm.MethodName) prog_44_method_103_code (4 : Nat) (Option.none : Option Jvm.ClassFile.FieldType)) ∈ gw := gw_3 239 rfl rfl
theorem w_3_238 : (Jvm.Cond.static ({ cls := "java/util/Arrays", name := "fill", desc := "([II)V" } : Jvm.MethodName)) ∈ gw := gw_3 238 rfl rfl
theorem w_1_235 : (Jvm.Cond.fieldLink "SpillForge$Loops" (18 : Nat) "SpillForge$Loops" "depth" "[I") ∈ gw := gw_1 235 rfl rfl
theorem w_4_151 : (Jvm.Cond.methodLink "SpillForge$Loops" (22 : Nat) ({ cls := "SpillForge$Loops", name := "depth", desc := "(I)I" } : Jvm.MethodName)) ∈ gw := gw_4 151 rfl rfl
theorem w_1_7 : (Jvm.Cond.initialized "SpillForge$Loops") ∈ gw := gw_1 7 rfl rfl
theorem w_4_154 : (Jvm.Cond.code ({ cls := "SpillForge$Loops", name := "depth", desc := "(I)I" } : Jvm.MethodName) prog_8_method_2_code (2 : Nat) (Option.some Jvm.ClassFile.FieldType.int)) ∈ gw := gw_4 154 rfl rfl
theorem w_4_152 : (Jvm.Cond.instanceMethod ({ cls := "SpillForge$Loops", name := "depth", desc := "(I)I" } : Jvm.MethodName)) ∈ gw := gw_4 152 rfl rfl
theorem w_4_153 : (Jvm.Cond.selects "SpillForge$Loops" ({ cls := "SpillForge$Loops", name := "depth", desc := "(I)I" } : Jvm.MethodName) ({ cls := "SpillForge$Loops", name := "depth", desc := "(I)I" } : Jvm.MethodName)) ∈ gw := gw_4 153 rfl rfl
theorem w_4_147 : (Jvm.Cond.methodLink "SpillForge$Colouring" (49 : Nat) ({ cls := "SpillForge$Loops", name := "factor", desc := "(I)I" } : Jvm.MethodName)) ∈ gw := gw_4 147 rfl rfl
theorem w_4_150 : (Jvm.Cond.code ({ cls := "SpillForge$Loops", name := "factor", desc := "(I)I" } : Jvm.MethodName) prog_8_method_3_code (4 : Nat) (Option.some Jvm.ClassFile.FieldType.int)) ∈ gw := gw_4 150 rfl rfl
theorem w_4_148 : (Jvm.Cond.instanceMethod ({ cls := "SpillForge$Loops", name := "factor", desc := "(I)I" } : Jvm.MethodName)) ∈ gw := gw_4 148 rfl rfl
theorem w_4_149 : (Jvm.Cond.selects "SpillForge$Loops" ({ cls := "SpillForge$Loops", name := "factor", desc := "(I)I" } : Jvm.MethodName) ({ cls := "SpillForge$Loops", name := "factor", desc := "(I)I" } : Jvm.MethodName)) ∈ gw := gw_4 149 rfl rfl
theorem w_1_187 : (Jvm.Cond.fieldLink "SpillForge$Code" (45 : Nat) "SpillForge$Code" "blocks" "I") ∈ gw := gw_1 187 rfl rfl
theorem w_1_197 : (Jvm.Cond.fieldLink "SpillForge$Code" (49 : Nat) "SpillForge$Code" "lines" "I") ∈ gw := gw_1 197 rfl rfl
theorem w_1_142 : (Jvm.Cond.fieldLink "SpillForge$Code" (9 : Nat) "SpillForge$Code" "first" "[I") ∈ gw := gw_1 142 rfl rfl
theorem w_4_155 : (Jvm.Cond.methodLink "SpillForge$Colouring" (58 : Nat) ({ cls := "SpillForge$Code", name := "blockEnd", desc := "(I)I" } : Jvm.MethodName)) ∈ gw := gw_4 155 rfl rfl
theorem w_1_5 : (Jvm.Cond.initialized "SpillForge$Code") ∈ gw := gw_1 5 rfl rfl
theorem w_4_38 : (Jvm.Cond.code ({ cls := "SpillForge$Code", name := "blockEnd", desc := "(I)I" } : Jvm.MethodName) prog_2_method_4_code (2 : Nat) (Option.some Jvm.ClassFile.FieldType.int)) ∈ gw := gw_4 38 rfl rfl
theorem w_4_36 : (Jvm.Cond.instanceMethod ({ cls := "SpillForge$Code", name := "blockEnd", desc := "(I)I" } : Jvm.MethodName)) ∈ gw := gw_4 36 rfl rfl
theorem w_4_37 : (Jvm.Cond.selects "SpillForge$Code" ({ cls := "SpillForge$Code", name := "blockEnd", desc := "(I)I" } : Jvm.MethodName) ({ cls := "SpillForge$Code", name := "blockEnd", desc := "(I)I" } : Jvm.MethodName)) ∈ gw := gw_4 37 rfl rfl
theorem w_4_156 : (Jvm.Cond.methodLink "SpillForge$Colouring" (64 : Nat) ({ cls := "SpillForge$Colouring", name := "addWeight", desc := "(II)V" } : Jvm.MethodName)) ∈ gw := gw_4 156 rfl rfl
theorem w_1_11 : (Jvm.Cond.initialized "SpillForge$Colouring") ∈ gw := gw_1 11 rfl rfl
theorem w_4_159 : (Jvm.Cond.code ({ cls := "SpillForge$Colouring", name := "addWeight", desc := "(II)V" } : Jvm.MethodName) prog_3_method_6_code (3 : Nat) (Option.none : Option Jvm.ClassFile.FieldType)) ∈ gw := gw_4 159 rfl rfl
theorem w_4_158 : (Jvm.Cond.instanceMethod ({ cls := "SpillForge$Colouring", name := "addWeight", desc := "(II)V" } : Jvm.MethodName)) ∈ gw := gw_4 158 rfl rfl
theorem w_p_38 : Cond.selects "SpillForge$Colouring" ⟨"SpillForge$Colouring", "addWeight", "(II)V"⟩ ⟨"SpillForge$Colouring", "addWeight", "(II)V"⟩ ∈ gw := gw_p _ 38 rfl rfl rfl
theorem w_2_80 : (Jvm.Cond.fieldLink "SpillForge$Colouring" (15 : Nat) "SpillForge$Colouring" "degree" "[I") ∈ gw := gw_2 80 rfl rfl
theorem w_2_84 : (Jvm.Cond.fieldLink "SpillForge$Colouring" (74 : Nat) "SpillForge$Colouring" "restSize" "I") ∈ gw := gw_2 84 rfl rfl
theorem w_2_81 : (Jvm.Cond.fieldLink "SpillForge$Colouring" (18 : Nat) "SpillForge$Colouring" "rest" "[I") ∈ gw := gw_2 81 rfl rfl
theorem w_5_127 : (Jvm.Cond.methodLink "SpillForge$Colouring" (97 : Nat) ({ cls := "SpillForge$Colouring", name := "isCheaper", desc := "(II)Z" } : Jvm.MethodName)) ∈ gw := gw_5 127 rfl rfl
theorem w_5_130 : (Jvm.Cond.code ({ cls := "SpillForge$Colouring", name := "isCheaper", desc := "(II)Z" } : Jvm.MethodName) prog_3_method_9_code (3 : Nat) (Option.some Jvm.ClassFile.FieldType.boolean)) ∈ gw := gw_5 130 rfl rfl
theorem w_5_129 : (Jvm.Cond.instanceMethod ({ cls := "SpillForge$Colouring", name := "isCheaper", desc := "(II)Z" } : Jvm.MethodName)) ∈ gw := gw_5 129 rfl rfl
theorem w_p_44 : Cond.selects "SpillForge$Colouring" ⟨"SpillForge$Colouring", "isCheaper", "(II)Z"⟩ ⟨"SpillForge$Colouring", "isCheaper", "(II)Z"⟩ ∈ gw := gw_p _ 44 rfl rfl rfl
theorem w_4_96 : (Jvm.Cond.constantLong "java/lang/Long" (314 : Nat) (6148914691236517205 : Int64)) ∈ gw := gw_4 96 rfl rfl
theorem w_4_97 : (Jvm.Cond.constantLong "java/lang/Long" (316 : Nat) (3689348814741910323 : Int64)) ∈ gw := gw_4 97 rfl rfl
theorem w_4_98 : (Jvm.Cond.constantLong "java/lang/Long" (318 : Nat) (1085102592571150095 : Int64)) ∈ gw := gw_4 98 rfl rfl
theorem w_4_128 : (Jvm.Cond.methodLink "SpillForge" (228 : Nat) ({ cls := "java/lang/Long", name := "bitCount", desc := "(J)I" } : Jvm.MethodName)) ∈ gw := gw_4 128 rfl rfl
theorem w_1_31 : (Jvm.Cond.initialized "java/lang/Long") ∈ gw := gw_1 31 rfl rfl
theorem w_4_95 : (Jvm.Cond.code ({ cls := "java/lang/Long", name := "bitCount", desc := "(J)I" } : Jvm.MethodName) prog_31_method_50_code (2 : Nat) (Option.some Jvm.ClassFile.FieldType.int)) ∈ gw := gw_4 95 rfl rfl
theorem w_4_94 : (Jvm.Cond.static ({ cls := "java/lang/Long", name := "bitCount", desc := "(J)I" } : Jvm.MethodName)) ∈ gw := gw_4 94 rfl rfl
theorem w_1_1 : (Jvm.Cond.initialized "SpillForge") ∈ gw := gw_1 1 rfl rfl
theorem w_4_127 : (Jvm.Cond.code ({ cls := "SpillForge", name := "lowestBit", desc := "(J)I" } : Jvm.MethodName) prog_1_method_16_code (2 : Nat) (Option.some Jvm.ClassFile.FieldType.int)) ∈ gw := gw_4 127 rfl rfl
theorem w_4_126 : (Jvm.Cond.static ({ cls := "SpillForge", name := "lowestBit", desc := "(J)I" } : Jvm.MethodName)) ∈ gw := gw_4 126 rfl rfl
theorem w_2_85 : (Jvm.Cond.fieldLink "SpillForge$Colouring" (77 : Nat) "SpillForge$Colouring" "pileSize" "I") ∈ gw := gw_2 85 rfl rfl
theorem w_5_123 : (Jvm.Cond.methodLink "SpillForge$Colouring" (84 : Nat) ({ cls := "SpillForge$Colouring", name := "nextOfRest", desc := "(I)I" } : Jvm.MethodName)) ∈ gw := gw_5 123 rfl rfl
theorem w_5_126 : (Jvm.Cond.code ({ cls := "SpillForge$Colouring", name := "nextOfRest", desc := "(I)I" } : Jvm.MethodName) prog_3_method_8_code (4 : Nat) (Option.some Jvm.ClassFile.FieldType.int)) ∈ gw := gw_5 126 rfl rfl
theorem w_5_125 : (Jvm.Cond.instanceMethod ({ cls := "SpillForge$Colouring", name := "nextOfRest", desc := "(I)I" } : Jvm.MethodName)) ∈ gw := gw_5 125 rfl rfl
theorem w_p_43 : Cond.selects "SpillForge$Colouring" ⟨"SpillForge$Colouring", "nextOfRest", "(I)I"⟩ ⟨"SpillForge$Colouring", "nextOfRest", "(I)I"⟩ ∈ gw := gw_p _ 43 rfl rfl rfl
theorem w_5_131 : (Jvm.Cond.methodLink "SpillForge$Colouring" (87 : Nat) ({ cls := "java/lang/System", name := "arraycopy", desc := "(Ljava/lang/Object;ILjava/lang/Object;II)V" } : Jvm.MethodName)) ∈ gw := gw_5 131 rfl rfl
theorem w_5_113 : (Jvm.Cond.native ({ cls := "java/lang/System", name := "arraycopy", desc := "(Ljava/lang/Object;ILjava/lang/Object;II)V" } : Jvm.MethodName)) ∈ gw := gw_5 113 rfl rfl
theorem w_5_112 : (Jvm.Cond.static ({ cls := "java/lang/System", name := "arraycopy", desc := "(Ljava/lang/Object;ILjava/lang/Object;II)V" } : Jvm.MethodName)) ∈ gw := gw_5 112 rfl rfl
theorem w_1_34 : (Jvm.Cond.initialized "java/lang/System") ∈ gw := gw_1 34 rfl rfl
theorem w_2_82 : (Jvm.Cond.fieldLink "SpillForge$Colouring" (21 : Nat) "SpillForge$Colouring" "pile" "[I") ∈ gw := gw_2 82 rfl rfl
theorem w_5_132 : (Jvm.Cond.methodLink "SpillForge$Colouring" (93 : Nat) ({ cls := "SpillForge$Colouring", name := "leave", desc := "(I)V" } : Jvm.MethodName)) ∈ gw := gw_5 132 rfl rfl
theorem w_5_135 : (Jvm.Cond.code ({ cls := "SpillForge$Colouring", name := "leave", desc := "(I)V" } : Jvm.MethodName) prog_3_method_10_code (6 : Nat) (Option.none : Option Jvm.ClassFile.FieldType)) ∈ gw := gw_5 135 rfl rfl
theorem w_5_134 : (Jvm.Cond.instanceMethod ({ cls := "SpillForge$Colouring", name := "leave", desc := "(I)V" } : Jvm.MethodName)) ∈ gw := gw_5 134 rfl rfl
theorem w_p_45 : Cond.selects "SpillForge$Colouring" ⟨"SpillForge$Colouring", "leave", "(I)V"⟩ ⟨"SpillForge$Colouring", "leave", "(I)V"⟩ ∈ gw := gw_p _ 45 rfl rfl rfl
theorem w_5_141 : (Jvm.Cond.methodLink "SpillForge$Colouring" (112 : Nat) ({ cls := "SpillForge$Colouring", name := "coloursAround", desc := "(I)J" } : Jvm.MethodName)) ∈ gw := gw_5 141 rfl rfl
theorem w_5_144 : (Jvm.Cond.code ({ cls := "SpillForge$Colouring", name := "coloursAround", desc := "(I)J" } : Jvm.MethodName) prog_3_method_12_code (9 : Nat) (Option.some Jvm.ClassFile.FieldType.long)) ∈ gw := gw_5 144 rfl rfl
theorem w_5_143 : (Jvm.Cond.instanceMethod ({ cls := "SpillForge$Colouring", name := "coloursAround", desc := "(I)J" } : Jvm.MethodName)) ∈ gw := gw_5 143 rfl rfl
theorem w_p_46 : Cond.selects "SpillForge$Colouring" ⟨"SpillForge$Colouring", "coloursAround", "(I)J"⟩ ⟨"SpillForge$Colouring", "coloursAround", "(I)J"⟩ ∈ gw := gw_p _ 46 rfl rfl rfl
theorem w_5_145 : (Jvm.Cond.constantLong "SpillForge$Colouring" (116 : Nat) (-1 : Int64)) ∈ gw := gw_5 145 rfl rfl
theorem d_cJ13_bitCount_95d88_0 : decode cJ13_bitCount_95d88 0 = .ok (.lload_n 0, 1) := by decide +kernel
theorem d_cJ13_bitCount_95d88_1 : decode cJ13_bitCount_95d88 1 = .ok (.lload_n 0, 1) := by decide +kernel
theorem d_cJ13_bitCount_95d88_2 : decode cJ13_bitCount_95d88 2 = .ok (.iconst 1, 1) := by decide +kernel
theorem d_cJ13_bitCount_95d88_3 : decode cJ13_bitCount_95d88 3 = .ok (.lushr, 1) := by decide +kernel
theorem d_cJ13_bitCount_95d88_4 : decode cJ13_bitCount_95d88 4 = .ok (.ldc2_w 314, 3) := by decide +kernel
theorem d_cJ13_bitCount_95d88_7 : decode cJ13_bitCount_95d88 7 = .ok (.land, 1) := by decide +kernel
theorem d_cJ13_bitCount_95d88_8 : decode cJ13_bitCount_95d88 8 = .ok (.lsub, 1) := by decide +kernel
theorem d_cJ13_bitCount_95d88_9 : decode cJ13_bitCount_95d88 9 = .ok (.lstore_n 0, 1) := by decide +kernel
theorem d_cJ13_bitCount_95d88_10 : decode cJ13_bitCount_95d88 10 = .ok (.lload_n 0, 1) := by decide +kernel
theorem d_cJ13_bitCount_95d88_11 : decode cJ13_bitCount_95d88 11 = .ok (.ldc2_w 316, 3) := by decide +kernel
theorem d_cJ13_bitCount_95d88_14 : decode cJ13_bitCount_95d88 14 = .ok (.land, 1) := by decide +kernel
theorem d_cJ13_bitCount_95d88_15 : decode cJ13_bitCount_95d88 15 = .ok (.lload_n 0, 1) := by decide +kernel
theorem d_cJ13_bitCount_95d88_16 : decode cJ13_bitCount_95d88 16 = .ok (.iconst 2, 1) := by decide +kernel
theorem d_cJ13_bitCount_95d88_17 : decode cJ13_bitCount_95d88 17 = .ok (.lushr, 1) := by decide +kernel
theorem d_cJ13_bitCount_95d88_18 : decode cJ13_bitCount_95d88 18 = .ok (.ldc2_w 316, 3) := by decide +kernel
theorem d_cJ13_bitCount_95d88_21 : decode cJ13_bitCount_95d88 21 = .ok (.land, 1) := by decide +kernel
theorem d_cJ13_bitCount_95d88_22 : decode cJ13_bitCount_95d88 22 = .ok (.ladd, 1) := by decide +kernel
theorem d_cJ13_bitCount_95d88_23 : decode cJ13_bitCount_95d88 23 = .ok (.lstore_n 0, 1) := by decide +kernel
theorem d_cJ13_bitCount_95d88_24 : decode cJ13_bitCount_95d88 24 = .ok (.lload_n 0, 1) := by decide +kernel
theorem d_cJ13_bitCount_95d88_25 : decode cJ13_bitCount_95d88 25 = .ok (.lload_n 0, 1) := by decide +kernel
theorem d_cJ13_bitCount_95d88_26 : decode cJ13_bitCount_95d88 26 = .ok (.iconst 4, 1) := by decide +kernel
theorem d_cJ13_bitCount_95d88_27 : decode cJ13_bitCount_95d88 27 = .ok (.lushr, 1) := by decide +kernel
theorem d_cJ13_bitCount_95d88_28 : decode cJ13_bitCount_95d88 28 = .ok (.ladd, 1) := by decide +kernel
theorem d_cJ13_bitCount_95d88_29 : decode cJ13_bitCount_95d88 29 = .ok (.ldc2_w 318, 3) := by decide +kernel
theorem d_cJ13_bitCount_95d88_32 : decode cJ13_bitCount_95d88 32 = .ok (.land, 1) := by decide +kernel
theorem d_cJ13_bitCount_95d88_33 : decode cJ13_bitCount_95d88 33 = .ok (.lstore_n 0, 1) := by decide +kernel
theorem d_cJ13_bitCount_95d88_34 : decode cJ13_bitCount_95d88 34 = .ok (.lload_n 0, 1) := by decide +kernel
theorem d_cJ13_bitCount_95d88_35 : decode cJ13_bitCount_95d88 35 = .ok (.lload_n 0, 1) := by decide +kernel
theorem d_cJ13_bitCount_95d88_36 : decode cJ13_bitCount_95d88 36 = .ok (.bipush 8, 2) := by decide +kernel
theorem d_cJ13_bitCount_95d88_38 : decode cJ13_bitCount_95d88 38 = .ok (.lushr, 1) := by decide +kernel
theorem d_cJ13_bitCount_95d88_39 : decode cJ13_bitCount_95d88 39 = .ok (.ladd, 1) := by decide +kernel
theorem d_cJ13_bitCount_95d88_40 : decode cJ13_bitCount_95d88 40 = .ok (.lstore_n 0, 1) := by decide +kernel
theorem d_cJ13_bitCount_95d88_41 : decode cJ13_bitCount_95d88 41 = .ok (.lload_n 0, 1) := by decide +kernel
theorem d_cJ13_bitCount_95d88_42 : decode cJ13_bitCount_95d88 42 = .ok (.lload_n 0, 1) := by decide +kernel
theorem d_cJ13_bitCount_95d88_43 : decode cJ13_bitCount_95d88 43 = .ok (.bipush 16, 2) := by decide +kernel
theorem d_cJ13_bitCount_95d88_45 : decode cJ13_bitCount_95d88 45 = .ok (.lushr, 1) := by decide +kernel
theorem d_cJ13_bitCount_95d88_46 : decode cJ13_bitCount_95d88 46 = .ok (.ladd, 1) := by decide +kernel
theorem d_cJ13_bitCount_95d88_47 : decode cJ13_bitCount_95d88 47 = .ok (.lstore_n 0, 1) := by decide +kernel
theorem d_cJ13_bitCount_95d88_48 : decode cJ13_bitCount_95d88 48 = .ok (.lload_n 0, 1) := by decide +kernel
theorem d_cJ13_bitCount_95d88_49 : decode cJ13_bitCount_95d88 49 = .ok (.lload_n 0, 1) := by decide +kernel
theorem d_cJ13_bitCount_95d88_50 : decode cJ13_bitCount_95d88 50 = .ok (.bipush 32, 2) := by decide +kernel
theorem d_cJ13_bitCount_95d88_52 : decode cJ13_bitCount_95d88 52 = .ok (.lushr, 1) := by decide +kernel
theorem d_cJ13_bitCount_95d88_53 : decode cJ13_bitCount_95d88 53 = .ok (.ladd, 1) := by decide +kernel
theorem d_cJ13_bitCount_95d88_54 : decode cJ13_bitCount_95d88 54 = .ok (.lstore_n 0, 1) := by decide +kernel
theorem d_cJ13_bitCount_95d88_55 : decode cJ13_bitCount_95d88 55 = .ok (.lload_n 0, 1) := by decide +kernel
theorem d_cJ13_bitCount_95d88_56 : decode cJ13_bitCount_95d88 56 = .ok (.l2i, 1) := by decide +kernel
theorem d_cJ13_bitCount_95d88_57 : decode cJ13_bitCount_95d88 57 = .ok (.bipush 127, 2) := by decide +kernel
theorem d_cJ13_bitCount_95d88_59 : decode cJ13_bitCount_95d88 59 = .ok (.iand, 1) := by decide +kernel
theorem d_cJ13_bitCount_95d88_60 : decode cJ13_bitCount_95d88 60 = .ok (.ireturn, 1) := by decide +kernel
theorem d_cJ7_fill_53178_0 : decode cJ7_fill_53178 0 = .ok (.iconst 0, 1) := by decide +kernel
theorem d_cJ7_fill_53178_1 : decode cJ7_fill_53178 1 = .ok (.istore_n 2, 1) := by decide +kernel
theorem d_cJ7_fill_53178_2 : decode cJ7_fill_53178 2 = .ok (.aload_n 0, 1) := by decide +kernel
theorem d_cJ7_fill_53178_3 : decode cJ7_fill_53178 3 = .ok (.arraylength, 1) := by decide +kernel
theorem d_cJ7_fill_53178_4 : decode cJ7_fill_53178 4 = .ok (.istore_n 3, 1) := by decide +kernel
theorem d_cJ7_fill_53178_5 : decode cJ7_fill_53178 5 = .ok (.iload_n 2, 1) := by decide +kernel
theorem d_cJ7_fill_53178_6 : decode cJ7_fill_53178 6 = .ok (.iload_n 3, 1) := by decide +kernel
theorem d_cJ7_fill_53178_7 : decode cJ7_fill_53178 7 = .ok (.if_icmp .ge 13, 3) := by decide +kernel
theorem d_cJ7_fill_53178_10 : decode cJ7_fill_53178 10 = .ok (.aload_n 0, 1) := by decide +kernel
theorem d_cJ7_fill_53178_11 : decode cJ7_fill_53178 11 = .ok (.iload_n 2, 1) := by decide +kernel
theorem d_cJ7_fill_53178_12 : decode cJ7_fill_53178 12 = .ok (.iload_n 1, 1) := by decide +kernel
theorem d_cJ7_fill_53178_13 : decode cJ7_fill_53178 13 = .ok (.iastore, 1) := by decide +kernel
theorem d_cJ7_fill_53178_14 : decode cJ7_fill_53178 14 = .ok (.iinc 2 1, 3) := by decide +kernel
theorem d_cJ7_fill_53178_17 : decode cJ7_fill_53178 17 = .ok (.goto (-12), 3) := by decide +kernel
theorem d_cJ7_fill_53178_20 : decode cJ7_fill_53178 20 = .ok (.return_, 1) := by decide +kernel
theorem d_cX0_blockEnd_0 : decode cX0_blockEnd 0 = .ok (.iload_n 1, 1) := by decide +kernel
theorem d_cX0_blockEnd_1 : decode cX0_blockEnd 1 = .ok (.iconst 1, 1) := by decide +kernel
theorem d_cX0_blockEnd_2 : decode cX0_blockEnd 2 = .ok (.iadd, 1) := by decide +kernel
theorem d_cX0_blockEnd_3 : decode cX0_blockEnd 3 = .ok (.aload_n 0, 1) := by decide +kernel
theorem d_cX0_blockEnd_4 : decode cX0_blockEnd 4 = .ok (.getfield 45, 3) := by decide +kernel
theorem d_cX0_blockEnd_7 : decode cX0_blockEnd 7 = .ok (.if_icmp .ge 14, 3) := by decide +kernel
theorem d_cX0_blockEnd_10 : decode cX0_blockEnd 10 = .ok (.aload_n 0, 1) := by decide +kernel
theorem d_cX0_blockEnd_11 : decode cX0_blockEnd 11 = .ok (.getfield 9, 3) := by decide +kernel
theorem d_cX0_blockEnd_14 : decode cX0_blockEnd 14 = .ok (.iload_n 1, 1) := by decide +kernel
theorem d_cX0_blockEnd_15 : decode cX0_blockEnd 15 = .ok (.iconst 1, 1) := by decide +kernel
theorem d_cX0_blockEnd_16 : decode cX0_blockEnd 16 = .ok (.iadd, 1) := by decide +kernel
theorem d_cX0_blockEnd_17 : decode cX0_blockEnd 17 = .ok (.iaload, 1) := by decide +kernel
theorem d_cX0_blockEnd_18 : decode cX0_blockEnd 18 = .ok (.goto 7, 3) := by decide +kernel
theorem d_cX0_blockEnd_21 : decode cX0_blockEnd 21 = .ok (.aload_n 0, 1) := by decide +kernel
theorem d_cX0_blockEnd_22 : decode cX0_blockEnd 22 = .ok (.getfield 49, 3) := by decide +kernel
theorem d_cX0_blockEnd_25 : decode cX0_blockEnd 25 = .ok (.ireturn, 1) := by decide +kernel
theorem d_cX11_lowestBit_0 : decode cX11_lowestBit 0 = .ok (.lload_n 0, 1) := by decide +kernel
theorem d_cX11_lowestBit_1 : decode cX11_lowestBit 1 = .ok (.lload_n 0, 1) := by decide +kernel
theorem d_cX11_lowestBit_2 : decode cX11_lowestBit 2 = .ok (.lneg, 1) := by decide +kernel
theorem d_cX11_lowestBit_3 : decode cX11_lowestBit 3 = .ok (.land, 1) := by decide +kernel
theorem d_cX11_lowestBit_4 : decode cX11_lowestBit 4 = .ok (.lconst 1, 1) := by decide +kernel
theorem d_cX11_lowestBit_5 : decode cX11_lowestBit 5 = .ok (.lsub, 1) := by decide +kernel
theorem d_cX11_lowestBit_6 : decode cX11_lowestBit 6 = .ok (.invokestatic 228, 3) := by decide +kernel
theorem d_cX11_lowestBit_9 : decode cX11_lowestBit 9 = .ok (.ireturn, 1) := by decide +kernel
theorem d_cX1_addWeight_0 : decode cX1_addWeight 0 = .ok (.iload_n 1, 1) := by decide +kernel
theorem d_cX1_addWeight_1 : decode cX1_addWeight 1 = .ok (.ifCond .lt 20, 3) := by decide +kernel
theorem d_cX1_addWeight_4 : decode cX1_addWeight 4 = .ok (.iload_n 1, 1) := by decide +kernel
theorem d_cX1_addWeight_5 : decode cX1_addWeight 5 = .ok (.sipush 720, 3) := by decide +kernel
theorem d_cX1_addWeight_8 : decode cX1_addWeight 8 = .ok (.if_icmp .ge 13, 3) := by decide +kernel
theorem d_cX1_addWeight_11 : decode cX1_addWeight 11 = .ok (.aload_n 0, 1) := by decide +kernel
theorem d_cX1_addWeight_12 : decode cX1_addWeight 12 = .ok (.getfield 9, 3) := by decide +kernel
theorem d_cX1_addWeight_15 : decode cX1_addWeight 15 = .ok (.iload_n 1, 1) := by decide +kernel
theorem d_cX1_addWeight_16 : decode cX1_addWeight 16 = .ok (.dup2, 1) := by decide +kernel
theorem d_cX1_addWeight_17 : decode cX1_addWeight 17 = .ok (.iaload, 1) := by decide +kernel
theorem d_cX1_addWeight_18 : decode cX1_addWeight 18 = .ok (.iload_n 2, 1) := by decide +kernel
theorem d_cX1_addWeight_19 : decode cX1_addWeight 19 = .ok (.iadd, 1) := by decide +kernel
theorem d_cX1_addWeight_20 : decode cX1_addWeight 20 = .ok (.iastore, 1) := by decide +kernel
theorem d_cX1_addWeight_21 : decode cX1_addWeight 21 = .ok (.return_, 1) := by decide +kernel
theorem d_cX1_coloursAround_0 : decode cX1_coloursAround 0 = .ok (.lconst 0, 1) := by decide +kernel
theorem d_cX1_coloursAround_1 : decode cX1_coloursAround 1 = .ok (.lstore_n 2, 1) := by decide +kernel
theorem d_cX1_coloursAround_2 : decode cX1_coloursAround 2 = .ok (.iconst 0, 1) := by decide +kernel
theorem d_cX1_coloursAround_3 : decode cX1_coloursAround 3 = .ok (.istore 4, 2) := by decide +kernel
theorem d_cX1_coloursAround_5 : decode cX1_coloursAround 5 = .ok (.iload 4, 2) := by decide +kernel
theorem d_cX1_coloursAround_7 : decode cX1_coloursAround 7 = .ok (.aload_n 0, 1) := by decide +kernel
theorem d_cX1_coloursAround_8 : decode cX1_coloursAround 8 = .ok (.getfield 27, 3) := by decide +kernel
theorem d_cX1_coloursAround_11 : decode cX1_coloursAround 11 = .ok (.getfield 101, 3) := by decide +kernel
theorem d_cX1_coloursAround_14 : decode cX1_coloursAround 14 = .ok (.if_icmp .ge 98, 3) := by decide +kernel
theorem d_cX1_coloursAround_17 : decode cX1_coloursAround 17 = .ok (.aload_n 0, 1) := by decide +kernel
theorem d_cX1_coloursAround_18 : decode cX1_coloursAround 18 = .ok (.getfield 27, 3) := by decide +kernel
theorem d_cX1_coloursAround_21 : decode cX1_coloursAround 21 = .ok (.getfield 104, 3) := by decide +kernel
theorem d_cX1_coloursAround_24 : decode cX1_coloursAround 24 = .ok (.iload_n 1, 1) := by decide +kernel
theorem d_cX1_coloursAround_25 : decode cX1_coloursAround 25 = .ok (.aload_n 0, 1) := by decide +kernel
theorem d_cX1_coloursAround_26 : decode cX1_coloursAround 26 = .ok (.getfield 27, 3) := by decide +kernel
theorem d_cX1_coloursAround_29 : decode cX1_coloursAround 29 = .ok (.getfield 101, 3) := by decide +kernel
theorem d_cX1_coloursAround_32 : decode cX1_coloursAround 32 = .ok (.imul, 1) := by decide +kernel
theorem d_cX1_coloursAround_33 : decode cX1_coloursAround 33 = .ok (.iload 4, 2) := by decide +kernel
theorem d_cX1_coloursAround_35 : decode cX1_coloursAround 35 = .ok (.iadd, 1) := by decide +kernel
theorem d_cX1_coloursAround_36 : decode cX1_coloursAround 36 = .ok (.laload, 1) := by decide +kernel
theorem d_cX1_coloursAround_37 : decode cX1_coloursAround 37 = .ok (.lstore 5, 2) := by decide +kernel
theorem d_cX1_coloursAround_39 : decode cX1_coloursAround 39 = .ok (.iconst 0, 1) := by decide +kernel
theorem d_cX1_coloursAround_40 : decode cX1_coloursAround 40 = .ok (.istore 7, 2) := by decide +kernel
theorem d_cX1_coloursAround_42 : decode cX1_coloursAround 42 = .ok (.iload 7, 2) := by decide +kernel
theorem d_cX1_coloursAround_44 : decode cX1_coloursAround 44 = .ok (.bipush 64, 2) := by decide +kernel
theorem d_cX1_coloursAround_46 : decode cX1_coloursAround 46 = .ok (.if_icmp .ge 60, 3) := by decide +kernel
theorem d_cX1_coloursAround_49 : decode cX1_coloursAround 49 = .ok (.lload 5, 2) := by decide +kernel
theorem d_cX1_coloursAround_51 : decode cX1_coloursAround 51 = .ok (.lconst 0, 1) := by decide +kernel
theorem d_cX1_coloursAround_52 : decode cX1_coloursAround 52 = .ok (.lcmp, 1) := by decide +kernel
theorem d_cX1_coloursAround_53 : decode cX1_coloursAround 53 = .ok (.ifCond .eq 53, 3) := by decide +kernel
theorem d_cX1_coloursAround_56 : decode cX1_coloursAround 56 = .ok (.aload_n 0, 1) := by decide +kernel
theorem d_cX1_coloursAround_57 : decode cX1_coloursAround 57 = .ok (.getfield 24, 3) := by decide +kernel
theorem d_cX1_coloursAround_60 : decode cX1_coloursAround 60 = .ok (.iload 4, 2) := by decide +kernel
theorem d_cX1_coloursAround_62 : decode cX1_coloursAround 62 = .ok (.bipush 6, 2) := by decide +kernel
theorem d_cX1_coloursAround_64 : decode cX1_coloursAround 64 = .ok (.ishl, 1) := by decide +kernel
theorem d_cX1_coloursAround_65 : decode cX1_coloursAround 65 = .ok (.lload 5, 2) := by decide +kernel
theorem d_cX1_coloursAround_67 : decode cX1_coloursAround 67 = .ok (.invokestatic 108, 3) := by decide +kernel
theorem d_cX1_coloursAround_70 : decode cX1_coloursAround 70 = .ok (.ior, 1) := by decide +kernel
theorem d_cX1_coloursAround_71 : decode cX1_coloursAround 71 = .ok (.iaload, 1) := by decide +kernel
theorem d_cX1_coloursAround_72 : decode cX1_coloursAround 72 = .ok (.istore 8, 2) := by decide +kernel
theorem d_cX1_coloursAround_74 : decode cX1_coloursAround 74 = .ok (.lload 5, 2) := by decide +kernel
theorem d_cX1_coloursAround_76 : decode cX1_coloursAround 76 = .ok (.lload 5, 2) := by decide +kernel
theorem d_cX1_coloursAround_78 : decode cX1_coloursAround 78 = .ok (.lconst 1, 1) := by decide +kernel
theorem d_cX1_coloursAround_79 : decode cX1_coloursAround 79 = .ok (.lsub, 1) := by decide +kernel
theorem d_cX1_coloursAround_80 : decode cX1_coloursAround 80 = .ok (.land, 1) := by decide +kernel
theorem d_cX1_coloursAround_81 : decode cX1_coloursAround 81 = .ok (.lstore 5, 2) := by decide +kernel
theorem d_cX1_coloursAround_83 : decode cX1_coloursAround 83 = .ok (.lload_n 2, 1) := by decide +kernel
theorem d_cX1_coloursAround_84 : decode cX1_coloursAround 84 = .ok (.iload 8, 2) := by decide +kernel
theorem d_cX1_coloursAround_86 : decode cX1_coloursAround 86 = .ok (.iconst (-1), 1) := by decide +kernel
theorem d_cX1_coloursAround_87 : decode cX1_coloursAround 87 = .ok (.if_icmp .ne 7, 3) := by decide +kernel
theorem d_cX1_coloursAround_90 : decode cX1_coloursAround 90 = .ok (.lconst 0, 1) := by decide +kernel
theorem d_cX1_coloursAround_91 : decode cX1_coloursAround 91 = .ok (.goto 7, 3) := by decide +kernel
theorem d_cX1_coloursAround_94 : decode cX1_coloursAround 94 = .ok (.lconst 1, 1) := by decide +kernel
theorem d_cX1_coloursAround_95 : decode cX1_coloursAround 95 = .ok (.iload 8, 2) := by decide +kernel
theorem d_cX1_coloursAround_97 : decode cX1_coloursAround 97 = .ok (.lshl, 1) := by decide +kernel
theorem d_cX1_coloursAround_98 : decode cX1_coloursAround 98 = .ok (.lor, 1) := by decide +kernel
theorem d_cX1_coloursAround_99 : decode cX1_coloursAround 99 = .ok (.lstore_n 2, 1) := by decide +kernel
theorem d_cX1_coloursAround_100 : decode cX1_coloursAround 100 = .ok (.iinc 7 1, 3) := by decide +kernel
theorem d_cX1_coloursAround_103 : decode cX1_coloursAround 103 = .ok (.goto (-61), 3) := by decide +kernel
theorem d_cX1_coloursAround_106 : decode cX1_coloursAround 106 = .ok (.iinc 4 1, 3) := by decide +kernel
theorem d_cX1_coloursAround_109 : decode cX1_coloursAround 109 = .ok (.goto (-104), 3) := by decide +kernel
theorem d_cX1_coloursAround_112 : decode cX1_coloursAround 112 = .ok (.lload_n 2, 1) := by decide +kernel
theorem d_cX1_coloursAround_113 : decode cX1_coloursAround 113 = .ok (.lreturn, 1) := by decide +kernel
theorem d_cX1_isCheaper_0 : decode cX1_isCheaper 0 = .ok (.aload_n 0, 1) := by decide +kernel
theorem d_cX1_isCheaper_1 : decode cX1_isCheaper 1 = .ok (.getfield 9, 3) := by decide +kernel
theorem d_cX1_isCheaper_4 : decode cX1_isCheaper 4 = .ok (.iload_n 1, 1) := by decide +kernel
theorem d_cX1_isCheaper_5 : decode cX1_isCheaper 5 = .ok (.iaload, 1) := by decide +kernel
theorem d_cX1_isCheaper_6 : decode cX1_isCheaper 6 = .ok (.i2l, 1) := by decide +kernel
theorem d_cX1_isCheaper_7 : decode cX1_isCheaper 7 = .ok (.aload_n 0, 1) := by decide +kernel
theorem d_cX1_isCheaper_8 : decode cX1_isCheaper 8 = .ok (.getfield 15, 3) := by decide +kernel
theorem d_cX1_isCheaper_11 : decode cX1_isCheaper 11 = .ok (.iload_n 2, 1) := by decide +kernel
theorem d_cX1_isCheaper_12 : decode cX1_isCheaper 12 = .ok (.iaload, 1) := by decide +kernel
theorem d_cX1_isCheaper_13 : decode cX1_isCheaper 13 = .ok (.i2l, 1) := by decide +kernel
theorem d_cX1_isCheaper_14 : decode cX1_isCheaper 14 = .ok (.lmul, 1) := by decide +kernel
theorem d_cX1_isCheaper_15 : decode cX1_isCheaper 15 = .ok (.aload_n 0, 1) := by decide +kernel
theorem d_cX1_isCheaper_16 : decode cX1_isCheaper 16 = .ok (.getfield 9, 3) := by decide +kernel
theorem d_cX1_isCheaper_19 : decode cX1_isCheaper 19 = .ok (.iload_n 2, 1) := by decide +kernel
theorem d_cX1_isCheaper_20 : decode cX1_isCheaper 20 = .ok (.iaload, 1) := by decide +kernel
theorem d_cX1_isCheaper_21 : decode cX1_isCheaper 21 = .ok (.i2l, 1) := by decide +kernel
theorem d_cX1_isCheaper_22 : decode cX1_isCheaper 22 = .ok (.aload_n 0, 1) := by decide +kernel
theorem d_cX1_isCheaper_23 : decode cX1_isCheaper 23 = .ok (.getfield 15, 3) := by decide +kernel
theorem d_cX1_isCheaper_26 : decode cX1_isCheaper 26 = .ok (.iload_n 1, 1) := by decide +kernel
theorem d_cX1_isCheaper_27 : decode cX1_isCheaper 27 = .ok (.iaload, 1) := by decide +kernel
theorem d_cX1_isCheaper_28 : decode cX1_isCheaper 28 = .ok (.i2l, 1) := by decide +kernel
theorem d_cX1_isCheaper_29 : decode cX1_isCheaper 29 = .ok (.lmul, 1) := by decide +kernel
theorem d_cX1_isCheaper_30 : decode cX1_isCheaper 30 = .ok (.lcmp, 1) := by decide +kernel
theorem d_cX1_isCheaper_31 : decode cX1_isCheaper 31 = .ok (.ifCond .ge 7, 3) := by decide +kernel
theorem d_cX1_isCheaper_34 : decode cX1_isCheaper 34 = .ok (.iconst 1, 1) := by decide +kernel
theorem d_cX1_isCheaper_35 : decode cX1_isCheaper 35 = .ok (.goto 4, 3) := by decide +kernel
theorem d_cX1_isCheaper_38 : decode cX1_isCheaper 38 = .ok (.iconst 0, 1) := by decide +kernel
theorem d_cX1_isCheaper_39 : decode cX1_isCheaper 39 = .ok (.ireturn, 1) := by decide +kernel
theorem d_cX1_isWithout_0 : decode cX1_isWithout 0 = .ok (.aload_n 0, 1) := by decide +kernel
theorem d_cX1_isWithout_1 : decode cX1_isWithout 1 = .ok (.getfield 27, 3) := by decide +kernel
theorem d_cX1_isWithout_4 : decode cX1_isWithout 4 = .ok (.iload_n 1, 1) := by decide +kernel
theorem d_cX1_isWithout_5 : decode cX1_isWithout 5 = .ok (.invokevirtual 31, 3) := by decide +kernel
theorem d_cX1_isWithout_8 : decode cX1_isWithout 8 = .ok (.ifCond .eq 17, 3) := by decide +kernel
theorem d_cX1_isWithout_11 : decode cX1_isWithout 11 = .ok (.aload_n 0, 1) := by decide +kernel
theorem d_cX1_isWithout_12 : decode cX1_isWithout 12 = .ok (.getfield 24, 3) := by decide +kernel
theorem d_cX1_isWithout_15 : decode cX1_isWithout 15 = .ok (.iload_n 1, 1) := by decide +kernel
theorem d_cX1_isWithout_16 : decode cX1_isWithout 16 = .ok (.iaload, 1) := by decide +kernel
theorem d_cX1_isWithout_17 : decode cX1_isWithout 17 = .ok (.iconst (-1), 1) := by decide +kernel
theorem d_cX1_isWithout_18 : decode cX1_isWithout 18 = .ok (.if_icmp .ne 7, 3) := by decide +kernel
theorem d_cX1_isWithout_21 : decode cX1_isWithout 21 = .ok (.iconst 1, 1) := by decide +kernel
theorem d_cX1_isWithout_22 : decode cX1_isWithout 22 = .ok (.goto 4, 3) := by decide +kernel
theorem d_cX1_isWithout_25 : decode cX1_isWithout 25 = .ok (.iconst 0, 1) := by decide +kernel
theorem d_cX1_isWithout_26 : decode cX1_isWithout 26 = .ok (.ireturn, 1) := by decide +kernel
theorem d_cX1_leave_0 : decode cX1_leave 0 = .ok (.iconst 0, 1) := by decide +kernel
theorem d_cX1_leave_1 : decode cX1_leave 1 = .ok (.istore_n 2, 1) := by decide +kernel
theorem d_cX1_leave_2 : decode cX1_leave 2 = .ok (.iload_n 2, 1) := by decide +kernel
theorem d_cX1_leave_3 : decode cX1_leave 3 = .ok (.aload_n 0, 1) := by decide +kernel
theorem d_cX1_leave_4 : decode cX1_leave 4 = .ok (.getfield 27, 3) := by decide +kernel
theorem d_cX1_leave_7 : decode cX1_leave 7 = .ok (.getfield 101, 3) := by decide +kernel
theorem d_cX1_leave_10 : decode cX1_leave 10 = .ok (.if_icmp .ge 75, 3) := by decide +kernel
theorem d_cX1_leave_13 : decode cX1_leave 13 = .ok (.aload_n 0, 1) := by decide +kernel
theorem d_cX1_leave_14 : decode cX1_leave 14 = .ok (.getfield 27, 3) := by decide +kernel
theorem d_cX1_leave_17 : decode cX1_leave 17 = .ok (.getfield 104, 3) := by decide +kernel
theorem d_cX1_leave_20 : decode cX1_leave 20 = .ok (.iload_n 1, 1) := by decide +kernel
theorem d_cX1_leave_21 : decode cX1_leave 21 = .ok (.aload_n 0, 1) := by decide +kernel
theorem d_cX1_leave_22 : decode cX1_leave 22 = .ok (.getfield 27, 3) := by decide +kernel
theorem d_cX1_leave_25 : decode cX1_leave 25 = .ok (.getfield 101, 3) := by decide +kernel
theorem d_cX1_leave_28 : decode cX1_leave 28 = .ok (.imul, 1) := by decide +kernel
theorem d_cX1_leave_29 : decode cX1_leave 29 = .ok (.iload_n 2, 1) := by decide +kernel
theorem d_cX1_leave_30 : decode cX1_leave 30 = .ok (.iadd, 1) := by decide +kernel
theorem d_cX1_leave_31 : decode cX1_leave 31 = .ok (.laload, 1) := by decide +kernel
theorem d_cX1_leave_32 : decode cX1_leave 32 = .ok (.lstore_n 3, 1) := by decide +kernel
theorem d_cX1_leave_33 : decode cX1_leave 33 = .ok (.iconst 0, 1) := by decide +kernel
theorem d_cX1_leave_34 : decode cX1_leave 34 = .ok (.istore 5, 2) := by decide +kernel
theorem d_cX1_leave_36 : decode cX1_leave 36 = .ok (.iload 5, 2) := by decide +kernel
theorem d_cX1_leave_38 : decode cX1_leave 38 = .ok (.bipush 64, 2) := by decide +kernel
theorem d_cX1_leave_40 : decode cX1_leave 40 = .ok (.if_icmp .ge 39, 3) := by decide +kernel
theorem d_cX1_leave_43 : decode cX1_leave 43 = .ok (.lload_n 3, 1) := by decide +kernel
theorem d_cX1_leave_44 : decode cX1_leave 44 = .ok (.lconst 0, 1) := by decide +kernel
theorem d_cX1_leave_45 : decode cX1_leave 45 = .ok (.lcmp, 1) := by decide +kernel
theorem d_cX1_leave_46 : decode cX1_leave 46 = .ok (.ifCond .eq 33, 3) := by decide +kernel
theorem d_cX1_leave_49 : decode cX1_leave 49 = .ok (.aload_n 0, 1) := by decide +kernel
theorem d_cX1_leave_50 : decode cX1_leave 50 = .ok (.getfield 15, 3) := by decide +kernel
theorem d_cX1_leave_53 : decode cX1_leave 53 = .ok (.iload_n 2, 1) := by decide +kernel
theorem d_cX1_leave_54 : decode cX1_leave 54 = .ok (.bipush 6, 2) := by decide +kernel
theorem d_cX1_leave_56 : decode cX1_leave 56 = .ok (.ishl, 1) := by decide +kernel
theorem d_cX1_leave_57 : decode cX1_leave 57 = .ok (.lload_n 3, 1) := by decide +kernel
theorem d_cX1_leave_58 : decode cX1_leave 58 = .ok (.invokestatic 108, 3) := by decide +kernel
theorem d_cX1_leave_61 : decode cX1_leave 61 = .ok (.ior, 1) := by decide +kernel
theorem d_cX1_leave_62 : decode cX1_leave 62 = .ok (.dup2, 1) := by decide +kernel
theorem d_cX1_leave_63 : decode cX1_leave 63 = .ok (.iaload, 1) := by decide +kernel
theorem d_cX1_leave_64 : decode cX1_leave 64 = .ok (.iconst 1, 1) := by decide +kernel
theorem d_cX1_leave_65 : decode cX1_leave 65 = .ok (.isub, 1) := by decide +kernel
theorem d_cX1_leave_66 : decode cX1_leave 66 = .ok (.iastore, 1) := by decide +kernel
theorem d_cX1_leave_67 : decode cX1_leave 67 = .ok (.lload_n 3, 1) := by decide +kernel
theorem d_cX1_leave_68 : decode cX1_leave 68 = .ok (.lload_n 3, 1) := by decide +kernel
theorem d_cX1_leave_69 : decode cX1_leave 69 = .ok (.lconst 1, 1) := by decide +kernel
theorem d_cX1_leave_70 : decode cX1_leave 70 = .ok (.lsub, 1) := by decide +kernel
theorem d_cX1_leave_71 : decode cX1_leave 71 = .ok (.land, 1) := by decide +kernel
theorem d_cX1_leave_72 : decode cX1_leave 72 = .ok (.lstore_n 3, 1) := by decide +kernel
theorem d_cX1_leave_73 : decode cX1_leave 73 = .ok (.iinc 5 1, 3) := by decide +kernel
theorem d_cX1_leave_76 : decode cX1_leave 76 = .ok (.goto (-40), 3) := by decide +kernel
theorem d_cX1_leave_79 : decode cX1_leave 79 = .ok (.iinc 2 1, 3) := by decide +kernel
theorem d_cX1_leave_82 : decode cX1_leave 82 = .ok (.goto (-80), 3) := by decide +kernel
theorem d_cX1_leave_85 : decode cX1_leave 85 = .ok (.return_, 1) := by decide +kernel
theorem d_cX1_nextOfRest_0 : decode cX1_nextOfRest 0 = .ok (.iconst 0, 1) := by decide +kernel
theorem d_cX1_nextOfRest_1 : decode cX1_nextOfRest 1 = .ok (.istore_n 2, 1) := by decide +kernel
theorem d_cX1_nextOfRest_2 : decode cX1_nextOfRest 2 = .ok (.iload_n 2, 1) := by decide +kernel
theorem d_cX1_nextOfRest_3 : decode cX1_nextOfRest 3 = .ok (.aload_n 0, 1) := by decide +kernel
theorem d_cX1_nextOfRest_4 : decode cX1_nextOfRest 4 = .ok (.getfield 74, 3) := by decide +kernel
theorem d_cX1_nextOfRest_7 : decode cX1_nextOfRest 7 = .ok (.if_icmp .ge 26, 3) := by decide +kernel
theorem d_cX1_nextOfRest_10 : decode cX1_nextOfRest 10 = .ok (.aload_n 0, 1) := by decide +kernel
theorem d_cX1_nextOfRest_11 : decode cX1_nextOfRest 11 = .ok (.getfield 15, 3) := by decide +kernel
theorem d_cX1_nextOfRest_14 : decode cX1_nextOfRest 14 = .ok (.aload_n 0, 1) := by decide +kernel
theorem d_cX1_nextOfRest_15 : decode cX1_nextOfRest 15 = .ok (.getfield 18, 3) := by decide +kernel
theorem d_cX1_nextOfRest_18 : decode cX1_nextOfRest 18 = .ok (.iload_n 2, 1) := by decide +kernel
theorem d_cX1_nextOfRest_19 : decode cX1_nextOfRest 19 = .ok (.iaload, 1) := by decide +kernel
theorem d_cX1_nextOfRest_20 : decode cX1_nextOfRest 20 = .ok (.iaload, 1) := by decide +kernel
theorem d_cX1_nextOfRest_21 : decode cX1_nextOfRest 21 = .ok (.iload_n 1, 1) := by decide +kernel
theorem d_cX1_nextOfRest_22 : decode cX1_nextOfRest 22 = .ok (.if_icmp .ge 5, 3) := by decide +kernel
theorem d_cX1_nextOfRest_25 : decode cX1_nextOfRest 25 = .ok (.iload_n 2, 1) := by decide +kernel
theorem d_cX1_nextOfRest_26 : decode cX1_nextOfRest 26 = .ok (.ireturn, 1) := by decide +kernel
theorem d_cX1_nextOfRest_27 : decode cX1_nextOfRest 27 = .ok (.iinc 2 1, 3) := by decide +kernel
theorem d_cX1_nextOfRest_30 : decode cX1_nextOfRest 30 = .ok (.goto (-28), 3) := by decide +kernel
theorem d_cX1_nextOfRest_33 : decode cX1_nextOfRest 33 = .ok (.iconst 0, 1) := by decide +kernel
theorem d_cX1_nextOfRest_34 : decode cX1_nextOfRest 34 = .ok (.istore_n 2, 1) := by decide +kernel
theorem d_cX1_nextOfRest_35 : decode cX1_nextOfRest 35 = .ok (.iconst 1, 1) := by decide +kernel
theorem d_cX1_nextOfRest_36 : decode cX1_nextOfRest 36 = .ok (.istore_n 3, 1) := by decide +kernel
theorem d_cX1_nextOfRest_37 : decode cX1_nextOfRest 37 = .ok (.iload_n 3, 1) := by decide +kernel
theorem d_cX1_nextOfRest_38 : decode cX1_nextOfRest 38 = .ok (.aload_n 0, 1) := by decide +kernel
theorem d_cX1_nextOfRest_39 : decode cX1_nextOfRest 39 = .ok (.getfield 74, 3) := by decide +kernel
theorem d_cX1_nextOfRest_42 : decode cX1_nextOfRest 42 = .ok (.if_icmp .ge 52, 3) := by decide +kernel
theorem d_cX1_nextOfRest_45 : decode cX1_nextOfRest 45 = .ok (.aload_n 0, 1) := by decide +kernel
theorem d_cX1_nextOfRest_46 : decode cX1_nextOfRest 46 = .ok (.getfield 18, 3) := by decide +kernel
theorem d_cX1_nextOfRest_49 : decode cX1_nextOfRest 49 = .ok (.iload_n 3, 1) := by decide +kernel
theorem d_cX1_nextOfRest_50 : decode cX1_nextOfRest 50 = .ok (.iaload, 1) := by decide +kernel
theorem d_cX1_nextOfRest_51 : decode cX1_nextOfRest 51 = .ok (.bipush 100, 2) := by decide +kernel
theorem d_cX1_nextOfRest_53 : decode cX1_nextOfRest 53 = .ok (.if_icmp .lt 14, 3) := by decide +kernel
theorem d_cX1_nextOfRest_56 : decode cX1_nextOfRest 56 = .ok (.aload_n 0, 1) := by decide +kernel
theorem d_cX1_nextOfRest_57 : decode cX1_nextOfRest 57 = .ok (.getfield 18, 3) := by decide +kernel
theorem d_cX1_nextOfRest_60 : decode cX1_nextOfRest 60 = .ok (.iload_n 2, 1) := by decide +kernel
theorem d_cX1_nextOfRest_61 : decode cX1_nextOfRest 61 = .ok (.iaload, 1) := by decide +kernel
theorem d_cX1_nextOfRest_62 : decode cX1_nextOfRest 62 = .ok (.bipush 100, 2) := by decide +kernel
theorem d_cX1_nextOfRest_64 : decode cX1_nextOfRest 64 = .ok (.if_icmp .lt 30, 3) := by decide +kernel
theorem d_cX1_nextOfRest_67 : decode cX1_nextOfRest 67 = .ok (.aload_n 0, 1) := by decide +kernel
theorem d_cX1_nextOfRest_68 : decode cX1_nextOfRest 68 = .ok (.aload_n 0, 1) := by decide +kernel
theorem d_cX1_nextOfRest_69 : decode cX1_nextOfRest 69 = .ok (.getfield 18, 3) := by decide +kernel
theorem d_cX1_nextOfRest_72 : decode cX1_nextOfRest 72 = .ok (.iload_n 3, 1) := by decide +kernel
theorem d_cX1_nextOfRest_73 : decode cX1_nextOfRest 73 = .ok (.iaload, 1) := by decide +kernel
theorem d_cX1_nextOfRest_74 : decode cX1_nextOfRest 74 = .ok (.aload_n 0, 1) := by decide +kernel
theorem d_cX1_nextOfRest_75 : decode cX1_nextOfRest 75 = .ok (.getfield 18, 3) := by decide +kernel
theorem d_cX1_nextOfRest_78 : decode cX1_nextOfRest 78 = .ok (.iload_n 2, 1) := by decide +kernel
theorem d_cX1_nextOfRest_79 : decode cX1_nextOfRest 79 = .ok (.iaload, 1) := by decide +kernel
theorem d_cX1_nextOfRest_80 : decode cX1_nextOfRest 80 = .ok (.invokevirtual 97, 3) := by decide +kernel
theorem d_cX1_nextOfRest_83 : decode cX1_nextOfRest 83 = .ok (.ifCond .eq 5, 3) := by decide +kernel
theorem d_cX1_nextOfRest_86 : decode cX1_nextOfRest 86 = .ok (.iload_n 3, 1) := by decide +kernel
theorem d_cX1_nextOfRest_87 : decode cX1_nextOfRest 87 = .ok (.istore_n 2, 1) := by decide +kernel
theorem d_cX1_nextOfRest_88 : decode cX1_nextOfRest 88 = .ok (.iinc 3 1, 3) := by decide +kernel
theorem d_cX1_nextOfRest_91 : decode cX1_nextOfRest 91 = .ok (.goto (-54), 3) := by decide +kernel
theorem d_cX1_nextOfRest_94 : decode cX1_nextOfRest 94 = .ok (.iload_n 2, 1) := by decide +kernel
theorem d_cX1_nextOfRest_95 : decode cX1_nextOfRest 95 = .ok (.ireturn, 1) := by decide +kernel
theorem d_cX1_putTogether_0 : decode cX1_putTogether 0 = .ok (.aload_n 0, 1) := by decide +kernel
theorem d_cX1_putTogether_1 : decode cX1_putTogether 1 = .ok (.getfield 24, 3) := by decide +kernel
theorem d_cX1_putTogether_4 : decode cX1_putTogether 4 = .ok (.iconst (-1), 1) := by decide +kernel
theorem d_cX1_putTogether_5 : decode cX1_putTogether 5 = .ok (.invokestatic 37, 3) := by decide +kernel
theorem d_cX1_putTogether_8 : decode cX1_putTogether 8 = .ok (.iconst 1, 1) := by decide +kernel
theorem d_cX1_putTogether_9 : decode cX1_putTogether 9 = .ok (.istore_n 2, 1) := by decide +kernel
theorem d_cX1_putTogether_10 : decode cX1_putTogether 10 = .ok (.aload_n 0, 1) := by decide +kernel
theorem d_cX1_putTogether_11 : decode cX1_putTogether 11 = .ok (.getfield 77, 3) := by decide +kernel
theorem d_cX1_putTogether_14 : decode cX1_putTogether 14 = .ok (.iconst 1, 1) := by decide +kernel
theorem d_cX1_putTogether_15 : decode cX1_putTogether 15 = .ok (.isub, 1) := by decide +kernel
theorem d_cX1_putTogether_16 : decode cX1_putTogether 16 = .ok (.istore_n 3, 1) := by decide +kernel
theorem d_cX1_putTogether_17 : decode cX1_putTogether 17 = .ok (.iload_n 3, 1) := by decide +kernel
theorem d_cX1_putTogether_18 : decode cX1_putTogether 18 = .ok (.ifCond .lt 52, 3) := by decide +kernel
theorem d_cX1_putTogether_21 : decode cX1_putTogether 21 = .ok (.aload_n 0, 1) := by decide +kernel
theorem d_cX1_putTogether_22 : decode cX1_putTogether 22 = .ok (.getfield 21, 3) := by decide +kernel
theorem d_cX1_putTogether_25 : decode cX1_putTogether 25 = .ok (.iload_n 3, 1) := by decide +kernel
theorem d_cX1_putTogether_26 : decode cX1_putTogether 26 = .ok (.iaload, 1) := by decide +kernel
theorem d_cX1_putTogether_27 : decode cX1_putTogether 27 = .ok (.istore 4, 2) := by decide +kernel
theorem d_cX1_putTogether_29 : decode cX1_putTogether 29 = .ok (.aload_n 0, 1) := by decide +kernel
theorem d_cX1_putTogether_30 : decode cX1_putTogether 30 = .ok (.iload 4, 2) := by decide +kernel
theorem d_cX1_putTogether_32 : decode cX1_putTogether 32 = .ok (.invokevirtual 112, 3) := by decide +kernel
theorem d_cX1_putTogether_35 : decode cX1_putTogether 35 = .ok (.ldc2_w 116, 3) := by decide +kernel
theorem d_cX1_putTogether_38 : decode cX1_putTogether 38 = .ok (.lxor, 1) := by decide +kernel
theorem d_cX1_putTogether_39 : decode cX1_putTogether 39 = .ok (.invokestatic 108, 3) := by decide +kernel
theorem d_cX1_putTogether_42 : decode cX1_putTogether 42 = .ok (.istore 5, 2) := by decide +kernel
theorem d_cX1_putTogether_44 : decode cX1_putTogether 44 = .ok (.iload 5, 2) := by decide +kernel
theorem d_cX1_putTogether_46 : decode cX1_putTogether 46 = .ok (.iload_n 1, 1) := by decide +kernel
theorem d_cX1_putTogether_47 : decode cX1_putTogether 47 = .ok (.if_icmp .ge 15, 3) := by decide +kernel
theorem d_cX1_putTogether_50 : decode cX1_putTogether 50 = .ok (.aload_n 0, 1) := by decide +kernel
theorem d_cX1_putTogether_51 : decode cX1_putTogether 51 = .ok (.getfield 24, 3) := by decide +kernel
theorem d_cX1_putTogether_54 : decode cX1_putTogether 54 = .ok (.iload 4, 2) := by decide +kernel
theorem d_cX1_putTogether_56 : decode cX1_putTogether 56 = .ok (.iload 5, 2) := by decide +kernel
theorem d_cX1_putTogether_58 : decode cX1_putTogether 58 = .ok (.iastore, 1) := by decide +kernel
theorem d_cX1_putTogether_59 : decode cX1_putTogether 59 = .ok (.goto 5, 3) := by decide +kernel
theorem d_cX1_putTogether_62 : decode cX1_putTogether 62 = .ok (.iconst 0, 1) := by decide +kernel
theorem d_cX1_putTogether_63 : decode cX1_putTogether 63 = .ok (.istore_n 2, 1) := by decide +kernel
theorem d_cX1_putTogether_64 : decode cX1_putTogether 64 = .ok (.iinc 3 (-1), 3) := by decide +kernel
theorem d_cX1_putTogether_67 : decode cX1_putTogether 67 = .ok (.goto (-50), 3) := by decide +kernel
theorem d_cX1_putTogether_70 : decode cX1_putTogether 70 = .ok (.iload_n 2, 1) := by decide +kernel
theorem d_cX1_putTogether_71 : decode cX1_putTogether 71 = .ok (.ireturn, 1) := by decide +kernel
theorem d_cX1_takeApart_0 : decode cX1_takeApart 0 = .ok (.aload_n 0, 1) := by decide +kernel
theorem d_cX1_takeApart_1 : decode cX1_takeApart 1 = .ok (.iconst 0, 1) := by decide +kernel
theorem d_cX1_takeApart_2 : decode cX1_takeApart 2 = .ok (.putfield 74, 3) := by decide +kernel
theorem d_cX1_takeApart_5 : decode cX1_takeApart 5 = .ok (.aload_n 0, 1) := by decide +kernel
theorem d_cX1_takeApart_6 : decode cX1_takeApart 6 = .ok (.iconst 0, 1) := by decide +kernel
theorem d_cX1_takeApart_7 : decode cX1_takeApart 7 = .ok (.putfield 77, 3) := by decide +kernel
theorem d_cX1_takeApart_10 : decode cX1_takeApart 10 = .ok (.iconst 0, 1) := by decide +kernel
theorem d_cX1_takeApart_11 : decode cX1_takeApart 11 = .ok (.istore_n 2, 1) := by decide +kernel
theorem d_cX1_takeApart_12 : decode cX1_takeApart 12 = .ok (.iload_n 2, 1) := by decide +kernel
theorem d_cX1_takeApart_13 : decode cX1_takeApart 13 = .ok (.aload_n 0, 1) := by decide +kernel
theorem d_cX1_takeApart_14 : decode cX1_takeApart 14 = .ok (.getfield 27, 3) := by decide +kernel
theorem d_cX1_takeApart_17 : decode cX1_takeApart 17 = .ok (.getfield 80, 3) := by decide +kernel
theorem d_cX1_takeApart_20 : decode cX1_takeApart 20 = .ok (.if_icmp .ge 55, 3) := by decide +kernel
theorem d_cX1_takeApart_23 : decode cX1_takeApart 23 = .ok (.aload_n 0, 1) := by decide +kernel
theorem d_cX1_takeApart_24 : decode cX1_takeApart 24 = .ok (.getfield 15, 3) := by decide +kernel
theorem d_cX1_takeApart_27 : decode cX1_takeApart 27 = .ok (.iload_n 2, 1) := by decide +kernel
theorem d_cX1_takeApart_28 : decode cX1_takeApart 28 = .ok (.aload_n 0, 1) := by decide +kernel
theorem d_cX1_takeApart_29 : decode cX1_takeApart 29 = .ok (.getfield 27, 3) := by decide +kernel
theorem d_cX1_takeApart_32 : decode cX1_takeApart 32 = .ok (.getfield 83, 3) := by decide +kernel
theorem d_cX1_takeApart_35 : decode cX1_takeApart 35 = .ok (.iload_n 2, 1) := by decide +kernel
theorem d_cX1_takeApart_36 : decode cX1_takeApart 36 = .ok (.iaload, 1) := by decide +kernel
theorem d_cX1_takeApart_37 : decode cX1_takeApart 37 = .ok (.iastore, 1) := by decide +kernel
theorem d_cX1_takeApart_38 : decode cX1_takeApart 38 = .ok (.aload_n 0, 1) := by decide +kernel
theorem d_cX1_takeApart_39 : decode cX1_takeApart 39 = .ok (.getfield 27, 3) := by decide +kernel
theorem d_cX1_takeApart_42 : decode cX1_takeApart 42 = .ok (.iload_n 2, 1) := by decide +kernel
theorem d_cX1_takeApart_43 : decode cX1_takeApart 43 = .ok (.invokevirtual 31, 3) := by decide +kernel
theorem d_cX1_takeApart_46 : decode cX1_takeApart 46 = .ok (.ifCond .eq 23, 3) := by decide +kernel
theorem d_cX1_takeApart_49 : decode cX1_takeApart 49 = .ok (.aload_n 0, 1) := by decide +kernel
theorem d_cX1_takeApart_50 : decode cX1_takeApart 50 = .ok (.getfield 18, 3) := by decide +kernel
theorem d_cX1_takeApart_53 : decode cX1_takeApart 53 = .ok (.aload_n 0, 1) := by decide +kernel
theorem d_cX1_takeApart_54 : decode cX1_takeApart 54 = .ok (.getfield 74, 3) := by decide +kernel
theorem d_cX1_takeApart_57 : decode cX1_takeApart 57 = .ok (.iload_n 2, 1) := by decide +kernel
theorem d_cX1_takeApart_58 : decode cX1_takeApart 58 = .ok (.iastore, 1) := by decide +kernel
theorem d_cX1_takeApart_59 : decode cX1_takeApart 59 = .ok (.aload_n 0, 1) := by decide +kernel
theorem d_cX1_takeApart_60 : decode cX1_takeApart 60 = .ok (.dup, 1) := by decide +kernel
theorem d_cX1_takeApart_61 : decode cX1_takeApart 61 = .ok (.getfield 74, 3) := by decide +kernel
theorem d_cX1_takeApart_64 : decode cX1_takeApart 64 = .ok (.iconst 1, 1) := by decide +kernel
theorem d_cX1_takeApart_65 : decode cX1_takeApart 65 = .ok (.iadd, 1) := by decide +kernel
theorem d_cX1_takeApart_66 : decode cX1_takeApart 66 = .ok (.putfield 74, 3) := by decide +kernel
theorem d_cX1_takeApart_69 : decode cX1_takeApart 69 = .ok (.iinc 2 1, 3) := by decide +kernel
theorem d_cX1_takeApart_72 : decode cX1_takeApart 72 = .ok (.goto (-60), 3) := by decide +kernel
theorem d_cX1_takeApart_75 : decode cX1_takeApart 75 = .ok (.aload_n 0, 1) := by decide +kernel
theorem d_cX1_takeApart_76 : decode cX1_takeApart 76 = .ok (.getfield 74, 3) := by decide +kernel
theorem d_cX1_takeApart_79 : decode cX1_takeApart 79 = .ok (.istore_n 2, 1) := by decide +kernel
theorem d_cX1_takeApart_80 : decode cX1_takeApart 80 = .ok (.iload_n 2, 1) := by decide +kernel
theorem d_cX1_takeApart_81 : decode cX1_takeApart 81 = .ok (.ifCond .le 81, 3) := by decide +kernel
theorem d_cX1_takeApart_84 : decode cX1_takeApart 84 = .ok (.aload_n 0, 1) := by decide +kernel
theorem d_cX1_takeApart_85 : decode cX1_takeApart 85 = .ok (.iload_n 1, 1) := by decide +kernel
theorem d_cX1_takeApart_86 : decode cX1_takeApart 86 = .ok (.invokevirtual 84, 3) := by decide +kernel
theorem d_cX1_takeApart_89 : decode cX1_takeApart 89 = .ok (.istore_n 3, 1) := by decide +kernel
theorem d_cX1_takeApart_90 : decode cX1_takeApart 90 = .ok (.aload_n 0, 1) := by decide +kernel
theorem d_cX1_takeApart_91 : decode cX1_takeApart 91 = .ok (.getfield 18, 3) := by decide +kernel
theorem d_cX1_takeApart_94 : decode cX1_takeApart 94 = .ok (.iload_n 3, 1) := by decide +kernel
theorem d_cX1_takeApart_95 : decode cX1_takeApart 95 = .ok (.iaload, 1) := by decide +kernel
theorem d_cX1_takeApart_96 : decode cX1_takeApart 96 = .ok (.istore 4, 2) := by decide +kernel
theorem d_cX1_takeApart_98 : decode cX1_takeApart 98 = .ok (.aload_n 0, 1) := by decide +kernel
theorem d_cX1_takeApart_99 : decode cX1_takeApart 99 = .ok (.dup, 1) := by decide +kernel
theorem d_cX1_takeApart_100 : decode cX1_takeApart 100 = .ok (.getfield 74, 3) := by decide +kernel
theorem d_cX1_takeApart_103 : decode cX1_takeApart 103 = .ok (.iconst 1, 1) := by decide +kernel
theorem d_cX1_takeApart_104 : decode cX1_takeApart 104 = .ok (.isub, 1) := by decide +kernel
theorem d_cX1_takeApart_105 : decode cX1_takeApart 105 = .ok (.putfield 74, 3) := by decide +kernel
theorem d_cX1_takeApart_108 : decode cX1_takeApart 108 = .ok (.aload_n 0, 1) := by decide +kernel
theorem d_cX1_takeApart_109 : decode cX1_takeApart 109 = .ok (.getfield 18, 3) := by decide +kernel
theorem d_cX1_takeApart_112 : decode cX1_takeApart 112 = .ok (.iload_n 3, 1) := by decide +kernel
theorem d_cX1_takeApart_113 : decode cX1_takeApart 113 = .ok (.iconst 1, 1) := by decide +kernel
theorem d_cX1_takeApart_114 : decode cX1_takeApart 114 = .ok (.iadd, 1) := by decide +kernel
theorem d_cX1_takeApart_115 : decode cX1_takeApart 115 = .ok (.aload_n 0, 1) := by decide +kernel
theorem d_cX1_takeApart_116 : decode cX1_takeApart 116 = .ok (.getfield 18, 3) := by decide +kernel
theorem d_cX1_takeApart_119 : decode cX1_takeApart 119 = .ok (.iload_n 3, 1) := by decide +kernel
theorem d_cX1_takeApart_120 : decode cX1_takeApart 120 = .ok (.aload_n 0, 1) := by decide +kernel
theorem d_cX1_takeApart_121 : decode cX1_takeApart 121 = .ok (.getfield 74, 3) := by decide +kernel
theorem d_cX1_takeApart_124 : decode cX1_takeApart 124 = .ok (.iload_n 3, 1) := by decide +kernel
theorem d_cX1_takeApart_125 : decode cX1_takeApart 125 = .ok (.isub, 1) := by decide +kernel
theorem d_cX1_takeApart_126 : decode cX1_takeApart 126 = .ok (.invokestatic 87, 3) := by decide +kernel
theorem d_cX1_takeApart_129 : decode cX1_takeApart 129 = .ok (.aload_n 0, 1) := by decide +kernel
theorem d_cX1_takeApart_130 : decode cX1_takeApart 130 = .ok (.getfield 21, 3) := by decide +kernel
theorem d_cX1_takeApart_133 : decode cX1_takeApart 133 = .ok (.aload_n 0, 1) := by decide +kernel
theorem d_cX1_takeApart_134 : decode cX1_takeApart 134 = .ok (.getfield 77, 3) := by decide +kernel
theorem d_cX1_takeApart_137 : decode cX1_takeApart 137 = .ok (.iload 4, 2) := by decide +kernel
theorem d_cX1_takeApart_139 : decode cX1_takeApart 139 = .ok (.iastore, 1) := by decide +kernel
theorem d_cX1_takeApart_140 : decode cX1_takeApart 140 = .ok (.aload_n 0, 1) := by decide +kernel
theorem d_cX1_takeApart_141 : decode cX1_takeApart 141 = .ok (.dup, 1) := by decide +kernel
theorem d_cX1_takeApart_142 : decode cX1_takeApart 142 = .ok (.getfield 77, 3) := by decide +kernel
theorem d_cX1_takeApart_145 : decode cX1_takeApart 145 = .ok (.iconst 1, 1) := by decide +kernel
theorem d_cX1_takeApart_146 : decode cX1_takeApart 146 = .ok (.iadd, 1) := by decide +kernel
theorem d_cX1_takeApart_147 : decode cX1_takeApart 147 = .ok (.putfield 77, 3) := by decide +kernel
theorem d_cX1_takeApart_150 : decode cX1_takeApart 150 = .ok (.aload_n 0, 1) := by decide +kernel
theorem d_cX1_takeApart_151 : decode cX1_takeApart 151 = .ok (.iload 4, 2) := by decide +kernel
theorem d_cX1_takeApart_153 : decode cX1_takeApart 153 = .ok (.invokevirtual 93, 3) := by decide +kernel
theorem d_cX1_takeApart_156 : decode cX1_takeApart 156 = .ok (.iinc 2 (-1), 3) := by decide +kernel
theorem d_cX1_takeApart_159 : decode cX1_takeApart 159 = .ok (.goto (-79), 3) := by decide +kernel
theorem d_cX1_takeApart_162 : decode cX1_takeApart 162 = .ok (.return_, 1) := by decide +kernel
theorem d_cX1_weigh_0 : decode cX1_weigh 0 = .ok (.aload_n 0, 1) := by decide +kernel
theorem d_cX1_weigh_1 : decode cX1_weigh 1 = .ok (.getfield 9, 3) := by decide +kernel
theorem d_cX1_weigh_4 : decode cX1_weigh 4 = .ok (.iconst 0, 1) := by decide +kernel
theorem d_cX1_weigh_5 : decode cX1_weigh 5 = .ok (.invokestatic 37, 3) := by decide +kernel
theorem d_cX1_weigh_8 : decode cX1_weigh 8 = .ok (.iconst 0, 1) := by decide +kernel
theorem d_cX1_weigh_9 : decode cX1_weigh 9 = .ok (.istore_n 3, 1) := by decide +kernel
theorem d_cX1_weigh_10 : decode cX1_weigh 10 = .ok (.iload_n 3, 1) := by decide +kernel
theorem d_cX1_weigh_11 : decode cX1_weigh 11 = .ok (.aload_n 1, 1) := by decide +kernel
theorem d_cX1_weigh_12 : decode cX1_weigh 12 = .ok (.getfield 43, 3) := by decide +kernel
theorem d_cX1_weigh_15 : decode cX1_weigh 15 = .ok (.if_icmp .ge 79, 3) := by decide +kernel
theorem d_cX1_weigh_18 : decode cX1_weigh 18 = .ok (.aload_n 2, 1) := by decide +kernel
theorem d_cX1_weigh_19 : decode cX1_weigh 19 = .ok (.iload_n 3, 1) := by decide +kernel
theorem d_cX1_weigh_20 : decode cX1_weigh 20 = .ok (.invokevirtual 49, 3) := by decide +kernel
theorem d_cX1_weigh_23 : decode cX1_weigh 23 = .ok (.istore 4, 2) := by decide +kernel
theorem d_cX1_weigh_25 : decode cX1_weigh 25 = .ok (.aload_n 1, 1) := by decide +kernel
theorem d_cX1_weigh_26 : decode cX1_weigh 26 = .ok (.getfield 55, 3) := by decide +kernel
theorem d_cX1_weigh_29 : decode cX1_weigh 29 = .ok (.iload_n 3, 1) := by decide +kernel
theorem d_cX1_weigh_30 : decode cX1_weigh 30 = .ok (.iaload, 1) := by decide +kernel
theorem d_cX1_weigh_31 : decode cX1_weigh 31 = .ok (.istore 5, 2) := by decide +kernel
theorem d_cX1_weigh_33 : decode cX1_weigh 33 = .ok (.iload 5, 2) := by decide +kernel
theorem d_cX1_weigh_35 : decode cX1_weigh 35 = .ok (.aload_n 1, 1) := by decide +kernel
theorem d_cX1_weigh_36 : decode cX1_weigh 36 = .ok (.iload_n 3, 1) := by decide +kernel
theorem d_cX1_weigh_37 : decode cX1_weigh 37 = .ok (.invokevirtual 58, 3) := by decide +kernel
theorem d_cX1_weigh_40 : decode cX1_weigh 40 = .ok (.if_icmp .ge 48, 3) := by decide +kernel
theorem d_cX1_weigh_43 : decode cX1_weigh 43 = .ok (.aload_n 0, 1) := by decide +kernel
theorem d_cX1_weigh_44 : decode cX1_weigh 44 = .ok (.aload_n 1, 1) := by decide +kernel
theorem d_cX1_weigh_45 : decode cX1_weigh 45 = .ok (.getfield 61, 3) := by decide +kernel
theorem d_cX1_weigh_48 : decode cX1_weigh 48 = .ok (.iload 5, 2) := by decide +kernel
theorem d_cX1_weigh_50 : decode cX1_weigh 50 = .ok (.iaload, 1) := by decide +kernel
theorem d_cX1_weigh_51 : decode cX1_weigh 51 = .ok (.iload 4, 2) := by decide +kernel
theorem d_cX1_weigh_53 : decode cX1_weigh 53 = .ok (.invokevirtual 64, 3) := by decide +kernel
theorem d_cX1_weigh_56 : decode cX1_weigh 56 = .ok (.aload_n 0, 1) := by decide +kernel
theorem d_cX1_weigh_57 : decode cX1_weigh 57 = .ok (.aload_n 1, 1) := by decide +kernel
theorem d_cX1_weigh_58 : decode cX1_weigh 58 = .ok (.getfield 68, 3) := by decide +kernel
theorem d_cX1_weigh_61 : decode cX1_weigh 61 = .ok (.iload 5, 2) := by decide +kernel
theorem d_cX1_weigh_63 : decode cX1_weigh 63 = .ok (.iaload, 1) := by decide +kernel
theorem d_cX1_weigh_64 : decode cX1_weigh 64 = .ok (.iload 4, 2) := by decide +kernel
theorem d_cX1_weigh_66 : decode cX1_weigh 66 = .ok (.invokevirtual 64, 3) := by decide +kernel
theorem d_cX1_weigh_69 : decode cX1_weigh 69 = .ok (.aload_n 0, 1) := by decide +kernel
theorem d_cX1_weigh_70 : decode cX1_weigh 70 = .ok (.aload_n 1, 1) := by decide +kernel
theorem d_cX1_weigh_71 : decode cX1_weigh 71 = .ok (.getfield 71, 3) := by decide +kernel
theorem d_cX1_weigh_74 : decode cX1_weigh 74 = .ok (.iload 5, 2) := by decide +kernel
theorem d_cX1_weigh_76 : decode cX1_weigh 76 = .ok (.iaload, 1) := by decide +kernel
theorem d_cX1_weigh_77 : decode cX1_weigh 77 = .ok (.iload 4, 2) := by decide +kernel
theorem d_cX1_weigh_79 : decode cX1_weigh 79 = .ok (.invokevirtual 64, 3) := by decide +kernel
theorem d_cX1_weigh_82 : decode cX1_weigh 82 = .ok (.iinc 5 1, 3) := by decide +kernel
theorem d_cX1_weigh_85 : decode cX1_weigh 85 = .ok (.goto (-52), 3) := by decide +kernel
theorem d_cX1_weigh_88 : decode cX1_weigh 88 = .ok (.iinc 3 1, 3) := by decide +kernel
theorem d_cX1_weigh_91 : decode cX1_weigh 91 = .ok (.goto (-81), 3) := by decide +kernel
theorem d_cX1_weigh_94 : decode cX1_weigh 94 = .ok (.return_, 1) := by decide +kernel
theorem d_cX1_weight_0 : decode cX1_weight 0 = .ok (.iload_n 1, 1) := by decide +kernel
theorem d_cX1_weight_1 : decode cX1_weight 1 = .ok (.ifCond .lt 19, 3) := by decide +kernel
theorem d_cX1_weight_4 : decode cX1_weight 4 = .ok (.iload_n 1, 1) := by decide +kernel
theorem d_cX1_weight_5 : decode cX1_weight 5 = .ok (.sipush 720, 3) := by decide +kernel
theorem d_cX1_weight_8 : decode cX1_weight 8 = .ok (.if_icmp .ge 12, 3) := by decide +kernel
theorem d_cX1_weight_11 : decode cX1_weight 11 = .ok (.aload_n 0, 1) := by decide +kernel
theorem d_cX1_weight_12 : decode cX1_weight 12 = .ok (.getfield 9, 3) := by decide +kernel
theorem d_cX1_weight_15 : decode cX1_weight 15 = .ok (.iload_n 1, 1) := by decide +kernel
theorem d_cX1_weight_16 : decode cX1_weight 16 = .ok (.iaload, 1) := by decide +kernel
theorem d_cX1_weight_17 : decode cX1_weight 17 = .ok (.goto 4, 3) := by decide +kernel
theorem d_cX1_weight_20 : decode cX1_weight 20 = .ok (.iconst 0, 1) := by decide +kernel
theorem d_cX1_weight_21 : decode cX1_weight 21 = .ok (.ireturn, 1) := by decide +kernel
theorem d_cX3_stands_0 : decode cX3_stands 0 = .ok (.iload_n 1, 1) := by decide +kernel
theorem d_cX3_stands_1 : decode cX3_stands 1 = .ok (.ifCond .lt 33, 3) := by decide +kernel
theorem d_cX3_stands_4 : decode cX3_stands 4 = .ok (.iload_n 1, 1) := by decide +kernel
theorem d_cX3_stands_5 : decode cX3_stands 5 = .ok (.aload_n 0, 1) := by decide +kernel
theorem d_cX3_stands_6 : decode cX3_stands 6 = .ok (.getfield 37, 3) := by decide +kernel
theorem d_cX3_stands_9 : decode cX3_stands 9 = .ok (.if_icmp .ge 25, 3) := by decide +kernel
theorem d_cX3_stands_12 : decode cX3_stands 12 = .ok (.aload_n 0, 1) := by decide +kernel
theorem d_cX3_stands_13 : decode cX3_stands 13 = .ok (.getfield 22, 3) := by decide +kernel
theorem d_cX3_stands_16 : decode cX3_stands 16 = .ok (.iload_n 1, 1) := by decide +kernel
theorem d_cX3_stands_17 : decode cX3_stands 17 = .ok (.bipush 6, 2) := by decide +kernel
theorem d_cX3_stands_19 : decode cX3_stands 19 = .ok (.ishr, 1) := by decide +kernel
theorem d_cX3_stands_20 : decode cX3_stands 20 = .ok (.laload, 1) := by decide +kernel
theorem d_cX3_stands_21 : decode cX3_stands 21 = .ok (.iload_n 1, 1) := by decide +kernel
theorem d_cX3_stands_22 : decode cX3_stands 22 = .ok (.lshr, 1) := by decide +kernel
theorem d_cX3_stands_23 : decode cX3_stands 23 = .ok (.lconst 1, 1) := by decide +kernel
theorem d_cX3_stands_24 : decode cX3_stands 24 = .ok (.land, 1) := by decide +kernel
theorem d_cX3_stands_25 : decode cX3_stands 25 = .ok (.lconst 0, 1) := by decide +kernel
theorem d_cX3_stands_26 : decode cX3_stands 26 = .ok (.lcmp, 1) := by decide +kernel
theorem d_cX3_stands_27 : decode cX3_stands 27 = .ok (.ifCond .eq 7, 3) := by decide +kernel
theorem d_cX3_stands_30 : decode cX3_stands 30 = .ok (.iconst 1, 1) := by decide +kernel
theorem d_cX3_stands_31 : decode cX3_stands 31 = .ok (.goto 4, 3) := by decide +kernel
theorem d_cX3_stands_34 : decode cX3_stands 34 = .ok (.iconst 0, 1) := by decide +kernel
theorem d_cX3_stands_35 : decode cX3_stands 35 = .ok (.ireturn, 1) := by decide +kernel
theorem d_cX6_depth_0 : decode cX6_depth 0 = .ok (.iload_n 1, 1) := by decide +kernel
theorem d_cX6_depth_1 : decode cX6_depth 1 = .ok (.ifCond .lt 18, 3) := by decide +kernel
theorem d_cX6_depth_4 : decode cX6_depth 4 = .ok (.iload_n 1, 1) := by decide +kernel
theorem d_cX6_depth_5 : decode cX6_depth 5 = .ok (.bipush 40, 2) := by decide +kernel
theorem d_cX6_depth_7 : decode cX6_depth 7 = .ok (.if_icmp .ge 12, 3) := by decide +kernel
theorem d_cX6_depth_10 : decode cX6_depth 10 = .ok (.aload_n 0, 1) := by decide +kernel
theorem d_cX6_depth_11 : decode cX6_depth 11 = .ok (.getfield 18, 3) := by decide +kernel
theorem d_cX6_depth_14 : decode cX6_depth 14 = .ok (.iload_n 1, 1) := by decide +kernel
theorem d_cX6_depth_15 : decode cX6_depth 15 = .ok (.iaload, 1) := by decide +kernel
theorem d_cX6_depth_16 : decode cX6_depth 16 = .ok (.goto 4, 3) := by decide +kernel
theorem d_cX6_depth_19 : decode cX6_depth 19 = .ok (.iconst 0, 1) := by decide +kernel
theorem d_cX6_depth_20 : decode cX6_depth 20 = .ok (.ireturn, 1) := by decide +kernel
theorem d_cX6_factor_0 : decode cX6_factor 0 = .ok (.iconst 1, 1) := by decide +kernel
theorem d_cX6_factor_1 : decode cX6_factor 1 = .ok (.istore_n 2, 1) := by decide +kernel
theorem d_cX6_factor_2 : decode cX6_factor 2 = .ok (.iconst 0, 1) := by decide +kernel
theorem d_cX6_factor_3 : decode cX6_factor 3 = .ok (.istore_n 3, 1) := by decide +kernel
theorem d_cX6_factor_4 : decode cX6_factor 4 = .ok (.iload_n 3, 1) := by decide +kernel
theorem d_cX6_factor_5 : decode cX6_factor 5 = .ok (.aload_n 0, 1) := by decide +kernel
theorem d_cX6_factor_6 : decode cX6_factor 6 = .ok (.iload_n 1, 1) := by decide +kernel
theorem d_cX6_factor_7 : decode cX6_factor 7 = .ok (.invokevirtual 22, 3) := by decide +kernel
theorem d_cX6_factor_10 : decode cX6_factor 10 = .ok (.if_icmp .ge 14, 3) := by decide +kernel
theorem d_cX6_factor_13 : decode cX6_factor 13 = .ok (.iload_n 2, 1) := by decide +kernel
theorem d_cX6_factor_14 : decode cX6_factor 14 = .ok (.bipush 10, 2) := by decide +kernel
theorem d_cX6_factor_16 : decode cX6_factor 16 = .ok (.imul, 1) := by decide +kernel
theorem d_cX6_factor_17 : decode cX6_factor 17 = .ok (.istore_n 2, 1) := by decide +kernel
theorem d_cX6_factor_18 : decode cX6_factor 18 = .ok (.iinc 3 1, 3) := by decide +kernel
theorem d_cX6_factor_21 : decode cX6_factor 21 = .ok (.goto (-17), 3) := by decide +kernel
theorem d_cX6_factor_24 : decode cX6_factor 24 = .ok (.iload_n 2, 1) := by decide +kernel
theorem d_cX6_factor_25 : decode cX6_factor 25 = .ok (.ireturn, 1) := by decide +kernel
