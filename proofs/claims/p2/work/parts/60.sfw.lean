theorem w_2_111 : (Jvm.Cond.fieldLink "SpillForge$Giver" (37 : Nat) "SpillForge$Giver" "slotOf" "[I") ∈ gw := gw_2 111 rfl rfl
theorem w_2_115 : (Jvm.Cond.fieldLink "SpillForge$Giver" (111 : Nat) "SpillForge$Giver" "names" "I") ∈ gw := gw_2 115 rfl rfl
theorem w_2_114 : (Jvm.Cond.fieldLink "SpillForge$Giver" (52 : Nat) "SpillForge$Giver" "spare" "LSpillForge$Code;") ∈ gw := gw_2 114 rfl rfl
theorem w_5_189 : (Jvm.Cond.methodLink "SpillForge$Giver" (242 : Nat) ({ cls := "SpillForge$Giver", name := "slotFor", desc := "(I)I" } : Jvm.MethodName)) ∈ gw := gw_5 189 rfl rfl
theorem w_1_8 : (Jvm.Cond.initialized "SpillForge$Giver") ∈ gw := gw_1 8 rfl rfl
theorem w_5_192 : (Jvm.Cond.code ({ cls := "SpillForge$Giver", name := "slotFor", desc := "(I)I" } : Jvm.MethodName) prog_4_method_24_code (2 : Nat) (Option.some Jvm.ClassFile.FieldType.int)) ∈ gw := gw_5 192 rfl rfl
theorem w_5_191 : (Jvm.Cond.instanceMethod ({ cls := "SpillForge$Giver", name := "slotFor", desc := "(I)I" } : Jvm.MethodName)) ∈ gw := gw_5 191 rfl rfl
theorem w_p_53 : Cond.selects "SpillForge$Giver" ⟨"SpillForge$Giver", "slotFor", "(I)I"⟩ ⟨"SpillForge$Giver", "slotFor", "(I)I"⟩ ∈ gw := gw_p _ 53 rfl rfl rfl
theorem w_5_193 : (Jvm.Cond.methodLink "SpillForge$Giver" (245 : Nat) ({ cls := "SpillForge$Giver", name := "newTemporary", desc := "()I" } : Jvm.MethodName)) ∈ gw := gw_5 193 rfl rfl
theorem w_5_196 : (Jvm.Cond.code ({ cls := "SpillForge$Giver", name := "newTemporary", desc := "()I" } : Jvm.MethodName) prog_4_method_25_code (1 : Nat) (Option.some Jvm.ClassFile.FieldType.int)) ∈ gw := gw_5 196 rfl rfl
theorem w_5_195 : (Jvm.Cond.instanceMethod ({ cls := "SpillForge$Giver", name := "newTemporary", desc := "()I" } : Jvm.MethodName)) ∈ gw := gw_5 195 rfl rfl
theorem w_p_54 : Cond.selects "SpillForge$Giver" ⟨"SpillForge$Giver", "newTemporary", "()I"⟩ ⟨"SpillForge$Giver", "newTemporary", "()I"⟩ ∈ gw := gw_p _ 54 rfl rfl rfl
theorem w_1_197 : (Jvm.Cond.fieldLink "SpillForge$Code" (49 : Nat) "SpillForge$Code" "lines" "I") ∈ gw := gw_1 197 rfl rfl
theorem w_1_159 : (Jvm.Cond.fieldLink "SpillForge$Code" (27 : Nat) "SpillForge$Code" "op" "[I") ∈ gw := gw_1 159 rfl rfl
theorem w_1_163 : (Jvm.Cond.fieldLink "SpillForge$Code" (30 : Nat) "SpillForge$Code" "set" "[I") ∈ gw := gw_1 163 rfl rfl
theorem w_1_168 : (Jvm.Cond.fieldLink "SpillForge$Code" (33 : Nat) "SpillForge$Code" "left" "[I") ∈ gw := gw_1 168 rfl rfl
theorem w_1_174 : (Jvm.Cond.fieldLink "SpillForge$Code" (36 : Nat) "SpillForge$Code" "leftNumber" "[I") ∈ gw := gw_1 174 rfl rfl
theorem w_1_178 : (Jvm.Cond.fieldLink "SpillForge$Code" (39 : Nat) "SpillForge$Code" "right" "[I") ∈ gw := gw_1 178 rfl rfl
theorem w_1_183 : (Jvm.Cond.fieldLink "SpillForge$Code" (42 : Nat) "SpillForge$Code" "rightNumber" "[I") ∈ gw := gw_1 183 rfl rfl
theorem w_1_200 : (Jvm.Cond.fieldLink "SpillForge$Code" (52 : Nat) "SpillForge$Code" "isFull" "Z") ∈ gw := gw_1 200 rfl rfl
theorem w_4_82 : (Jvm.Cond.methodLink "SpillForge$Giver" (197 : Nat) ({ cls := "SpillForge$Code", name := "add", desc := "(IIIIII)V" } : Jvm.MethodName)) ∈ gw := gw_4 82 rfl rfl
theorem w_1_5 : (Jvm.Cond.initialized "SpillForge$Code") ∈ gw := gw_1 5 rfl rfl
theorem w_3_172 : (Jvm.Cond.code ({ cls := "SpillForge$Code", name := "add", desc := "(IIIIII)V" } : Jvm.MethodName) prog_2_method_8_code (7 : Nat) (Option.none : Option Jvm.ClassFile.FieldType)) ∈ gw := gw_3 172 rfl rfl
theorem w_3_170 : (Jvm.Cond.instanceMethod ({ cls := "SpillForge$Code", name := "add", desc := "(IIIIII)V" } : Jvm.MethodName)) ∈ gw := gw_3 170 rfl rfl
theorem w_3_171 : (Jvm.Cond.selects "SpillForge$Code" ({ cls := "SpillForge$Code", name := "add", desc := "(IIIIII)V" } : Jvm.MethodName) ({ cls := "SpillForge$Code", name := "add", desc := "(IIIIII)V" } : Jvm.MethodName)) ∈ gw := gw_3 171 rfl rfl
theorem w_2_113 : (Jvm.Cond.fieldLink "SpillForge$Giver" (48 : Nat) "SpillForge$Giver" "code" "LSpillForge$Code;") ∈ gw := gw_2 113 rfl rfl
theorem w_5_185 : (Jvm.Cond.methodLink "SpillForge$Giver" (239 : Nat) ({ cls := "SpillForge$Giver", name := "loaded", desc := "(I)I" } : Jvm.MethodName)) ∈ gw := gw_5 185 rfl rfl
theorem w_5_188 : (Jvm.Cond.code ({ cls := "SpillForge$Giver", name := "loaded", desc := "(I)I" } : Jvm.MethodName) prog_4_method_23_code (4 : Nat) (Option.some Jvm.ClassFile.FieldType.int)) ∈ gw := gw_5 188 rfl rfl
theorem w_5_187 : (Jvm.Cond.instanceMethod ({ cls := "SpillForge$Giver", name := "loaded", desc := "(I)I" } : Jvm.MethodName)) ∈ gw := gw_5 187 rfl rfl
theorem w_p_52 : Cond.selects "SpillForge$Giver" ⟨"SpillForge$Giver", "loaded", "(I)I"⟩ ⟨"SpillForge$Giver", "loaded", "(I)I"⟩ ∈ gw := gw_p _ 52 rfl rfl rfl
theorem w_2_106 : (Jvm.Cond.fieldLink "SpillForge$Giver" (12 : Nat) "SpillForge$Giver" "graph" "LSpillForge$Graph;") ∈ gw := gw_2 106 rfl rfl
theorem w_2_55 : (Jvm.Cond.fieldLink "SpillForge$Graph" (37 : Nat) "SpillForge$Graph" "names" "I") ∈ gw := gw_2 55 rfl rfl
theorem w_2_49 : (Jvm.Cond.fieldLink "SpillForge$Graph" (18 : Nat) "SpillForge$Graph" "joined" "[J") ∈ gw := gw_2 49 rfl rfl
theorem w_2_57 : (Jvm.Cond.fieldLink "SpillForge$Graph" (41 : Nat) "SpillForge$Graph" "words" "I") ∈ gw := gw_2 57 rfl rfl
theorem w_5_97 : (Jvm.Cond.methodLink "SpillForge$Giver" (227 : Nat) ({ cls := "SpillForge$Graph", name := "areJoined", desc := "(II)Z" } : Jvm.MethodName)) ∈ gw := gw_5 97 rfl rfl
theorem w_1_9 : (Jvm.Cond.initialized "SpillForge$Graph") ∈ gw := gw_1 9 rfl rfl
theorem w_5_100 : (Jvm.Cond.code ({ cls := "SpillForge$Graph", name := "areJoined", desc := "(II)Z" } : Jvm.MethodName) prog_5_method_7_code (3 : Nat) (Option.some Jvm.ClassFile.FieldType.boolean)) ∈ gw := gw_5 100 rfl rfl
theorem w_5_98 : (Jvm.Cond.instanceMethod ({ cls := "SpillForge$Graph", name := "areJoined", desc := "(II)Z" } : Jvm.MethodName)) ∈ gw := gw_5 98 rfl rfl
theorem w_5_99 : (Jvm.Cond.selects "SpillForge$Graph" ({ cls := "SpillForge$Graph", name := "areJoined", desc := "(II)Z" } : Jvm.MethodName) ({ cls := "SpillForge$Graph", name := "areJoined", desc := "(II)Z" } : Jvm.MethodName)) ∈ gw := gw_5 99 rfl rfl
theorem w_4_96 : (Jvm.Cond.constantLong "java/lang/Long" (314 : Nat) (6148914691236517205 : Int64)) ∈ gw := gw_4 96 rfl rfl
theorem w_4_97 : (Jvm.Cond.constantLong "java/lang/Long" (316 : Nat) (3689348814741910323 : Int64)) ∈ gw := gw_4 97 rfl rfl
theorem w_4_98 : (Jvm.Cond.constantLong "java/lang/Long" (318 : Nat) (1085102592571150095 : Int64)) ∈ gw := gw_4 98 rfl rfl
theorem w_4_128 : (Jvm.Cond.methodLink "SpillForge" (228 : Nat) ({ cls := "java/lang/Long", name := "bitCount", desc := "(J)I" } : Jvm.MethodName)) ∈ gw := gw_4 128 rfl rfl
theorem w_1_31 : (Jvm.Cond.initialized "java/lang/Long") ∈ gw := gw_1 31 rfl rfl
theorem w_4_95 : (Jvm.Cond.code ({ cls := "java/lang/Long", name := "bitCount", desc := "(J)I" } : Jvm.MethodName) prog_31_method_50_code (2 : Nat) (Option.some Jvm.ClassFile.FieldType.int)) ∈ gw := gw_4 95 rfl rfl
theorem w_4_94 : (Jvm.Cond.static ({ cls := "java/lang/Long", name := "bitCount", desc := "(J)I" } : Jvm.MethodName)) ∈ gw := gw_4 94 rfl rfl
theorem w_1_1 : (Jvm.Cond.initialized "SpillForge") ∈ gw := gw_1 1 rfl rfl
theorem w_4_127 : (Jvm.Cond.code ({ cls := "SpillForge", name := "lowestBit", desc := "(J)I" } : Jvm.MethodName) prog_1_method_16_code (2 : Nat) (Option.some Jvm.ClassFile.FieldType.int)) ∈ gw := gw_4 127 rfl rfl
theorem w_4_126 : (Jvm.Cond.static ({ cls := "SpillForge", name := "lowestBit", desc := "(J)I" } : Jvm.MethodName)) ∈ gw := gw_4 126 rfl rfl
theorem w_2_52 : (Jvm.Cond.fieldLink "SpillForge$Graph" (25 : Nat) "SpillForge$Graph" "degree" "[I") ∈ gw := gw_2 52 rfl rfl
theorem w_5_101 : (Jvm.Cond.methodLink "SpillForge$Giver" (230 : Nat) ({ cls := "SpillForge$Graph", name := "canBeOne", desc := "(III)Z" } : Jvm.MethodName)) ∈ gw := gw_5 101 rfl rfl
theorem w_5_104 : (Jvm.Cond.code ({ cls := "SpillForge$Graph", name := "canBeOne", desc := "(III)Z" } : Jvm.MethodName) prog_5_method_8_code (15 : Nat) (Option.some Jvm.ClassFile.FieldType.boolean)) ∈ gw := gw_5 104 rfl rfl
theorem w_5_102 : (Jvm.Cond.instanceMethod ({ cls := "SpillForge$Graph", name := "canBeOne", desc := "(III)Z" } : Jvm.MethodName)) ∈ gw := gw_5 102 rfl rfl
theorem w_5_103 : (Jvm.Cond.selects "SpillForge$Graph" ({ cls := "SpillForge$Graph", name := "canBeOne", desc := "(III)Z" } : Jvm.MethodName) ({ cls := "SpillForge$Graph", name := "canBeOne", desc := "(III)Z" } : Jvm.MethodName)) ∈ gw := gw_5 103 rfl rfl
theorem w_5_92 : (Jvm.Cond.methodLink "SpillForge$Giver" (220 : Nat) ({ cls := "SpillForge$Code", name := "copiesRegister", desc := "(I)Z" } : Jvm.MethodName)) ∈ gw := gw_5 92 rfl rfl
theorem w_4_119 : (Jvm.Cond.code ({ cls := "SpillForge$Code", name := "copiesRegister", desc := "(I)Z" } : Jvm.MethodName) prog_2_method_17_code (2 : Nat) (Option.some Jvm.ClassFile.FieldType.boolean)) ∈ gw := gw_4 119 rfl rfl
theorem w_4_117 : (Jvm.Cond.instanceMethod ({ cls := "SpillForge$Code", name := "copiesRegister", desc := "(I)Z" } : Jvm.MethodName)) ∈ gw := gw_4 117 rfl rfl
theorem w_4_118 : (Jvm.Cond.selects "SpillForge$Code" ({ cls := "SpillForge$Code", name := "copiesRegister", desc := "(I)Z" } : Jvm.MethodName) ({ cls := "SpillForge$Code", name := "copiesRegister", desc := "(I)Z" } : Jvm.MethodName)) ∈ gw := gw_4 118 rfl rfl
theorem w_5_93 : (Jvm.Cond.methodLink "SpillForge$Giver" (223 : Nat) ({ cls := "SpillForge$Giver", name := "canMerge", desc := "(III)Z" } : Jvm.MethodName)) ∈ gw := gw_5 93 rfl rfl
theorem w_5_96 : (Jvm.Cond.code ({ cls := "SpillForge$Giver", name := "canMerge", desc := "(III)Z" } : Jvm.MethodName) prog_4_method_19_code (4 : Nat) (Option.some Jvm.ClassFile.FieldType.boolean)) ∈ gw := gw_5 96 rfl rfl
theorem w_5_95 : (Jvm.Cond.instanceMethod ({ cls := "SpillForge$Giver", name := "canMerge", desc := "(III)Z" } : Jvm.MethodName)) ∈ gw := gw_5 95 rfl rfl
theorem w_p_42 : Cond.selects "SpillForge$Giver" ⟨"SpillForge$Giver", "canMerge", "(III)Z"⟩ ⟨"SpillForge$Giver", "canMerge", "(III)Z"⟩ ∈ gw := gw_p _ 42 rfl rfl rfl
theorem w_2_112 : (Jvm.Cond.fieldLink "SpillForge$Giver" (40 : Nat) "SpillForge$Giver" "sharedSlot" "[I") ∈ gw := gw_2 112 rfl rfl
theorem w_2_27 : (Jvm.Cond.fieldLink "SpillForge$Live" (33 : Nat) "SpillForge$Live" "names" "I") ∈ gw := gw_2 27 rfl rfl
theorem w_4_56 : (Jvm.Cond.methodLink "SpillForge$Live" (79 : Nat) ({ cls := "SpillForge$Live", name := "isName", desc := "(I)Z" } : Jvm.MethodName)) ∈ gw := gw_4 56 rfl rfl
theorem w_1_10 : (Jvm.Cond.initialized "SpillForge$Live") ∈ gw := gw_1 10 rfl rfl
theorem w_4_59 : (Jvm.Cond.code ({ cls := "SpillForge$Live", name := "isName", desc := "(I)Z" } : Jvm.MethodName) prog_7_method_3_code (2 : Nat) (Option.some Jvm.ClassFile.FieldType.boolean)) ∈ gw := gw_4 59 rfl rfl
theorem w_4_57 : (Jvm.Cond.instanceMethod ({ cls := "SpillForge$Live", name := "isName", desc := "(I)Z" } : Jvm.MethodName)) ∈ gw := gw_4 57 rfl rfl
theorem w_4_58 : (Jvm.Cond.selects "SpillForge$Live" ({ cls := "SpillForge$Live", name := "isName", desc := "(I)Z" } : Jvm.MethodName) ({ cls := "SpillForge$Live", name := "isName", desc := "(I)Z" } : Jvm.MethodName)) ∈ gw := gw_4 58 rfl rfl
theorem w_2_22 : (Jvm.Cond.fieldLink "SpillForge$Live" (9 : Nat) "SpillForge$Live" "in" "[J") ∈ gw := gw_2 22 rfl rfl
theorem w_2_29 : (Jvm.Cond.fieldLink "SpillForge$Live" (37 : Nat) "SpillForge$Live" "words" "I") ∈ gw := gw_2 29 rfl rfl
theorem w_4_78 : (Jvm.Cond.methodLink "SpillForge$Giver" (193 : Nat) ({ cls := "SpillForge$Live", name := "isLiveBefore", desc := "(II)Z" } : Jvm.MethodName)) ∈ gw := gw_4 78 rfl rfl
theorem w_4_81 : (Jvm.Cond.code ({ cls := "SpillForge$Live", name := "isLiveBefore", desc := "(II)Z" } : Jvm.MethodName) prog_7_method_10_code (3 : Nat) (Option.some Jvm.ClassFile.FieldType.boolean)) ∈ gw := gw_4 81 rfl rfl
theorem w_4_79 : (Jvm.Cond.instanceMethod ({ cls := "SpillForge$Live", name := "isLiveBefore", desc := "(II)Z" } : Jvm.MethodName)) ∈ gw := gw_4 79 rfl rfl
theorem w_4_80 : (Jvm.Cond.selects "SpillForge$Live" ({ cls := "SpillForge$Live", name := "isLiveBefore", desc := "(II)Z" } : Jvm.MethodName) ({ cls := "SpillForge$Live", name := "isLiveBefore", desc := "(II)Z" } : Jvm.MethodName)) ∈ gw := gw_4 80 rfl rfl
theorem w_2_107 : (Jvm.Cond.fieldLink "SpillForge$Giver" (23 : Nat) "SpillForge$Giver" "colouring" "LSpillForge$Colouring;") ∈ gw := gw_2 107 rfl rfl
theorem w_2_78 : (Jvm.Cond.fieldLink "SpillForge$Colouring" (27 : Nat) "SpillForge$Colouring" "graph" "LSpillForge$Graph;") ∈ gw := gw_2 78 rfl rfl
theorem w_2_51 : (Jvm.Cond.fieldLink "SpillForge$Graph" (22 : Nat) "SpillForge$Graph" "standing" "[J") ∈ gw := gw_2 51 rfl rfl
theorem w_5_122 : (Jvm.Cond.methodLink "SpillForge$Colouring" (31 : Nat) ({ cls := "SpillForge$Graph", name := "stands", desc := "(I)Z" } : Jvm.MethodName)) ∈ gw := gw_5 122 rfl rfl
theorem w_4_167 : (Jvm.Cond.code ({ cls := "SpillForge$Graph", name := "stands", desc := "(I)Z" } : Jvm.MethodName) prog_5_method_6_code (2 : Nat) (Option.some Jvm.ClassFile.FieldType.boolean)) ∈ gw := gw_4 167 rfl rfl
theorem w_4_165 : (Jvm.Cond.instanceMethod ({ cls := "SpillForge$Graph", name := "stands", desc := "(I)Z" } : Jvm.MethodName)) ∈ gw := gw_4 165 rfl rfl
theorem w_4_166 : (Jvm.Cond.selects "SpillForge$Graph" ({ cls := "SpillForge$Graph", name := "stands", desc := "(I)Z" } : Jvm.MethodName) ({ cls := "SpillForge$Graph", name := "stands", desc := "(I)Z" } : Jvm.MethodName)) ∈ gw := gw_4 166 rfl rfl
theorem w_2_83 : (Jvm.Cond.fieldLink "SpillForge$Colouring" (24 : Nat) "SpillForge$Colouring" "colour" "[I") ∈ gw := gw_2 83 rfl rfl
theorem w_5_173 : (Jvm.Cond.methodLink "SpillForge$Giver" (233 : Nat) ({ cls := "SpillForge$Colouring", name := "isWithout", desc := "(I)Z" } : Jvm.MethodName)) ∈ gw := gw_5 173 rfl rfl
theorem w_1_11 : (Jvm.Cond.initialized "SpillForge$Colouring") ∈ gw := gw_1 11 rfl rfl
theorem w_5_176 : (Jvm.Cond.code ({ cls := "SpillForge$Colouring", name := "isWithout", desc := "(I)Z" } : Jvm.MethodName) prog_3_method_3_code (2 : Nat) (Option.some Jvm.ClassFile.FieldType.boolean)) ∈ gw := gw_5 176 rfl rfl
theorem w_5_174 : (Jvm.Cond.instanceMethod ({ cls := "SpillForge$Colouring", name := "isWithout", desc := "(I)Z" } : Jvm.MethodName)) ∈ gw := gw_5 174 rfl rfl
theorem w_5_175 : (Jvm.Cond.selects "SpillForge$Colouring" ({ cls := "SpillForge$Colouring", name := "isWithout", desc := "(I)Z" } : Jvm.MethodName) ({ cls := "SpillForge$Colouring", name := "isWithout", desc := "(I)Z" } : Jvm.MethodName)) ∈ gw := gw_5 175 rfl rfl
theorem w_2_116 : (Jvm.Cond.fieldLink "SpillForge$Giver" (162 : Nat) "SpillForge$Giver" "slots" "I") ∈ gw := gw_2 116 rfl rfl
theorem w_2_118 : (Jvm.Cond.fieldLink "SpillForge$Giver" (67 : Nat) "SpillForge$Giver" "spilled" "I") ∈ gw := gw_2 118 rfl rfl
theorem w_5_236 : (Jvm.Cond.methodLink "SpillForge$Giver" (89 : Nat) ({ cls := "java/lang/Long", name := "bitCount", desc := "(J)I" } : Jvm.MethodName)) ∈ gw := gw_5 236 rfl rfl
theorem w_5_233 : (Jvm.Cond.methodLink "SpillForge$Giver" (79 : Nat) ({ cls := "SpillForge$Giver", name := "colourBit", desc := "(I)J" } : Jvm.MethodName)) ∈ gw := gw_5 233 rfl rfl
theorem w_5_235 : (Jvm.Cond.code ({ cls := "SpillForge$Giver", name := "colourBit", desc := "(I)J" } : Jvm.MethodName) prog_4_method_12_code (1 : Nat) (Option.some Jvm.ClassFile.FieldType.long)) ∈ gw := gw_5 235 rfl rfl
theorem w_5_234 : (Jvm.Cond.static ({ cls := "SpillForge$Giver", name := "colourBit", desc := "(I)J" } : Jvm.MethodName)) ∈ gw := gw_5 234 rfl rfl
theorem d_cJ13_bitCount_95d88_0 : decode cJ13_bitCount_95d88 0 = .ok (.lload_n 0, 1) := by decide +kernel
theorem d_cJ13_bitCount_95d88_1 : decode cJ13_bitCount_95d88 1 = .ok (.lload_n 0, 1) := by decide +kernel
theorem d_cJ13_bitCount_95d88_2 : decode cJ13_bitCount_95d88 2 = .ok (.iconst 1, 1) := by decide +kernel
theorem d_cJ13_bitCount_95d88_3 : decode cJ13_bitCount_95d88 3 = .ok (.lushr, 1) := by decide +kernel
theorem d_cJ13_bitCount_95d88_4 : decode cJ13_bitCount_95d88 4 = .ok (.ldc2_w 314, 3) := by decide +kernel
theorem d_cJ13_bitCount_95d88_7 : decode cJ13_bitCount_95d88 7 = .ok (.land, 1) := by decide +kernel
theorem d_cJ13_bitCount_95d88_8 : decode cJ13_bitCount_95d88 8 = .ok (.lsub, 1) := by decide +kernel
theorem d_cJ13_bitCount_95d88_9 : decode cJ13_bitCount_95d88 9 = .ok (.lstore_n 0, 1) := by decide +kernel
theorem d_cJ13_bitCount_95d88_10 : decode cJ13_bitCount_95d88 10 = .ok (.lload_n 0, 1) := by decide +kernel
theorem d_cJ13_bitCount_95d88_11 : decode cJ13_bitCount_95d88 11 = .ok (.ldc2_w 316, 3) := by decide +kernel
theorem d_cJ13_bitCount_95d88_14 : decode cJ13_bitCount_95d88 14 = .ok (.land, 1) := by decide +kernel
theorem d_cJ13_bitCount_95d88_15 : decode cJ13_bitCount_95d88 15 = .ok (.lload_n 0, 1) := by decide +kernel
theorem d_cJ13_bitCount_95d88_16 : decode cJ13_bitCount_95d88 16 = .ok (.iconst 2, 1) := by decide +kernel
theorem d_cJ13_bitCount_95d88_17 : decode cJ13_bitCount_95d88 17 = .ok (.lushr, 1) := by decide +kernel
theorem d_cJ13_bitCount_95d88_18 : decode cJ13_bitCount_95d88 18 = .ok (.ldc2_w 316, 3) := by decide +kernel
theorem d_cJ13_bitCount_95d88_21 : decode cJ13_bitCount_95d88 21 = .ok (.land, 1) := by decide +kernel
theorem d_cJ13_bitCount_95d88_22 : decode cJ13_bitCount_95d88 22 = .ok (.ladd, 1) := by decide +kernel
theorem d_cJ13_bitCount_95d88_23 : decode cJ13_bitCount_95d88 23 = .ok (.lstore_n 0, 1) := by decide +kernel
theorem d_cJ13_bitCount_95d88_24 : decode cJ13_bitCount_95d88 24 = .ok (.lload_n 0, 1) := by decide +kernel
theorem d_cJ13_bitCount_95d88_25 : decode cJ13_bitCount_95d88 25 = .ok (.lload_n 0, 1) := by decide +kernel
theorem d_cJ13_bitCount_95d88_26 : decode cJ13_bitCount_95d88 26 = .ok (.iconst 4, 1) := by decide +kernel
theorem d_cJ13_bitCount_95d88_27 : decode cJ13_bitCount_95d88 27 = .ok (.lushr, 1) := by decide +kernel
theorem d_cJ13_bitCount_95d88_28 : decode cJ13_bitCount_95d88 28 = .ok (.ladd, 1) := by decide +kernel
theorem d_cJ13_bitCount_95d88_29 : decode cJ13_bitCount_95d88 29 = .ok (.ldc2_w 318, 3) := by decide +kernel
theorem d_cJ13_bitCount_95d88_32 : decode cJ13_bitCount_95d88 32 = .ok (.land, 1) := by decide +kernel
theorem d_cJ13_bitCount_95d88_33 : decode cJ13_bitCount_95d88 33 = .ok (.lstore_n 0, 1) := by decide +kernel
theorem d_cJ13_bitCount_95d88_34 : decode cJ13_bitCount_95d88 34 = .ok (.lload_n 0, 1) := by decide +kernel
theorem d_cJ13_bitCount_95d88_35 : decode cJ13_bitCount_95d88 35 = .ok (.lload_n 0, 1) := by decide +kernel
theorem d_cJ13_bitCount_95d88_36 : decode cJ13_bitCount_95d88 36 = .ok (.bipush 8, 2) := by decide +kernel
theorem d_cJ13_bitCount_95d88_38 : decode cJ13_bitCount_95d88 38 = .ok (.lushr, 1) := by decide +kernel
theorem d_cJ13_bitCount_95d88_39 : decode cJ13_bitCount_95d88 39 = .ok (.ladd, 1) := by decide +kernel
theorem d_cJ13_bitCount_95d88_40 : decode cJ13_bitCount_95d88 40 = .ok (.lstore_n 0, 1) := by decide +kernel
theorem d_cJ13_bitCount_95d88_41 : decode cJ13_bitCount_95d88 41 = .ok (.lload_n 0, 1) := by decide +kernel
theorem d_cJ13_bitCount_95d88_42 : decode cJ13_bitCount_95d88 42 = .ok (.lload_n 0, 1) := by decide +kernel
theorem d_cJ13_bitCount_95d88_43 : decode cJ13_bitCount_95d88 43 = .ok (.bipush 16, 2) := by decide +kernel
theorem d_cJ13_bitCount_95d88_45 : decode cJ13_bitCount_95d88 45 = .ok (.lushr, 1) := by decide +kernel
theorem d_cJ13_bitCount_95d88_46 : decode cJ13_bitCount_95d88 46 = .ok (.ladd, 1) := by decide +kernel
theorem d_cJ13_bitCount_95d88_47 : decode cJ13_bitCount_95d88 47 = .ok (.lstore_n 0, 1) := by decide +kernel
theorem d_cJ13_bitCount_95d88_48 : decode cJ13_bitCount_95d88 48 = .ok (.lload_n 0, 1) := by decide +kernel
theorem d_cJ13_bitCount_95d88_49 : decode cJ13_bitCount_95d88 49 = .ok (.lload_n 0, 1) := by decide +kernel
theorem d_cJ13_bitCount_95d88_50 : decode cJ13_bitCount_95d88 50 = .ok (.bipush 32, 2) := by decide +kernel
theorem d_cJ13_bitCount_95d88_52 : decode cJ13_bitCount_95d88 52 = .ok (.lushr, 1) := by decide +kernel
theorem d_cJ13_bitCount_95d88_53 : decode cJ13_bitCount_95d88 53 = .ok (.ladd, 1) := by decide +kernel
theorem d_cJ13_bitCount_95d88_54 : decode cJ13_bitCount_95d88 54 = .ok (.lstore_n 0, 1) := by decide +kernel
theorem d_cJ13_bitCount_95d88_55 : decode cJ13_bitCount_95d88 55 = .ok (.lload_n 0, 1) := by decide +kernel
theorem d_cJ13_bitCount_95d88_56 : decode cJ13_bitCount_95d88 56 = .ok (.l2i, 1) := by decide +kernel
theorem d_cJ13_bitCount_95d88_57 : decode cJ13_bitCount_95d88 57 = .ok (.bipush 127, 2) := by decide +kernel
theorem d_cJ13_bitCount_95d88_59 : decode cJ13_bitCount_95d88 59 = .ok (.iand, 1) := by decide +kernel
theorem d_cJ13_bitCount_95d88_60 : decode cJ13_bitCount_95d88 60 = .ok (.ireturn, 1) := by decide +kernel
theorem d_cX0_add_0 : decode cX0_add 0 = .ok (.aload_n 0, 1) := by decide +kernel
theorem d_cX0_add_1 : decode cX0_add 1 = .ok (.getfield 49, 3) := by decide +kernel
theorem d_cX0_add_4 : decode cX0_add 4 = .ok (.aload_n 0, 1) := by decide +kernel
theorem d_cX0_add_5 : decode cX0_add 5 = .ok (.getfield 27, 3) := by decide +kernel
theorem d_cX0_add_8 : decode cX0_add 8 = .ok (.arraylength, 1) := by decide +kernel
theorem d_cX0_add_9 : decode cX0_add 9 = .ok (.if_icmp .lt 9, 3) := by decide +kernel
theorem d_cX0_add_12 : decode cX0_add 12 = .ok (.aload_n 0, 1) := by decide +kernel
theorem d_cX0_add_13 : decode cX0_add 13 = .ok (.iconst 1, 1) := by decide +kernel
theorem d_cX0_add_14 : decode cX0_add 14 = .ok (.putfield 52, 3) := by decide +kernel
theorem d_cX0_add_17 : decode cX0_add 17 = .ok (.return_, 1) := by decide +kernel
theorem d_cX0_add_18 : decode cX0_add 18 = .ok (.aload_n 0, 1) := by decide +kernel
theorem d_cX0_add_19 : decode cX0_add 19 = .ok (.getfield 27, 3) := by decide +kernel
theorem d_cX0_add_22 : decode cX0_add 22 = .ok (.aload_n 0, 1) := by decide +kernel
theorem d_cX0_add_23 : decode cX0_add 23 = .ok (.getfield 49, 3) := by decide +kernel
theorem d_cX0_add_26 : decode cX0_add 26 = .ok (.iload_n 1, 1) := by decide +kernel
theorem d_cX0_add_27 : decode cX0_add 27 = .ok (.iastore, 1) := by decide +kernel
theorem d_cX0_add_28 : decode cX0_add 28 = .ok (.aload_n 0, 1) := by decide +kernel
theorem d_cX0_add_29 : decode cX0_add 29 = .ok (.getfield 30, 3) := by decide +kernel
theorem d_cX0_add_32 : decode cX0_add 32 = .ok (.aload_n 0, 1) := by decide +kernel
theorem d_cX0_add_33 : decode cX0_add 33 = .ok (.getfield 49, 3) := by decide +kernel
theorem d_cX0_add_36 : decode cX0_add 36 = .ok (.iload_n 2, 1) := by decide +kernel
theorem d_cX0_add_37 : decode cX0_add 37 = .ok (.iastore, 1) := by decide +kernel
theorem d_cX0_add_38 : decode cX0_add 38 = .ok (.aload_n 0, 1) := by decide +kernel
theorem d_cX0_add_39 : decode cX0_add 39 = .ok (.getfield 33, 3) := by decide +kernel
theorem d_cX0_add_42 : decode cX0_add 42 = .ok (.aload_n 0, 1) := by decide +kernel
theorem d_cX0_add_43 : decode cX0_add 43 = .ok (.getfield 49, 3) := by decide +kernel
theorem d_cX0_add_46 : decode cX0_add 46 = .ok (.iload_n 3, 1) := by decide +kernel
theorem d_cX0_add_47 : decode cX0_add 47 = .ok (.iastore, 1) := by decide +kernel
theorem d_cX0_add_48 : decode cX0_add 48 = .ok (.aload_n 0, 1) := by decide +kernel
theorem d_cX0_add_49 : decode cX0_add 49 = .ok (.getfield 36, 3) := by decide +kernel
theorem d_cX0_add_52 : decode cX0_add 52 = .ok (.aload_n 0, 1) := by decide +kernel
theorem d_cX0_add_53 : decode cX0_add 53 = .ok (.getfield 49, 3) := by decide +kernel
theorem d_cX0_add_56 : decode cX0_add 56 = .ok (.iload 4, 2) := by decide +kernel
theorem d_cX0_add_58 : decode cX0_add 58 = .ok (.iastore, 1) := by decide +kernel
theorem d_cX0_add_59 : decode cX0_add 59 = .ok (.aload_n 0, 1) := by decide +kernel
theorem d_cX0_add_60 : decode cX0_add 60 = .ok (.getfield 39, 3) := by decide +kernel
theorem d_cX0_add_63 : decode cX0_add 63 = .ok (.aload_n 0, 1) := by decide +kernel
theorem d_cX0_add_64 : decode cX0_add 64 = .ok (.getfield 49, 3) := by decide +kernel
theorem d_cX0_add_67 : decode cX0_add 67 = .ok (.iload 5, 2) := by decide +kernel
theorem d_cX0_add_69 : decode cX0_add 69 = .ok (.iastore, 1) := by decide +kernel
theorem d_cX0_add_70 : decode cX0_add 70 = .ok (.aload_n 0, 1) := by decide +kernel
theorem d_cX0_add_71 : decode cX0_add 71 = .ok (.getfield 42, 3) := by decide +kernel
theorem d_cX0_add_74 : decode cX0_add 74 = .ok (.aload_n 0, 1) := by decide +kernel
theorem d_cX0_add_75 : decode cX0_add 75 = .ok (.getfield 49, 3) := by decide +kernel
theorem d_cX0_add_78 : decode cX0_add 78 = .ok (.iload 6, 2) := by decide +kernel
theorem d_cX0_add_80 : decode cX0_add 80 = .ok (.iastore, 1) := by decide +kernel
theorem d_cX0_add_81 : decode cX0_add 81 = .ok (.aload_n 0, 1) := by decide +kernel
theorem d_cX0_add_82 : decode cX0_add 82 = .ok (.dup, 1) := by decide +kernel
theorem d_cX0_add_83 : decode cX0_add 83 = .ok (.getfield 49, 3) := by decide +kernel
theorem d_cX0_add_86 : decode cX0_add 86 = .ok (.iconst 1, 1) := by decide +kernel
theorem d_cX0_add_87 : decode cX0_add 87 = .ok (.iadd, 1) := by decide +kernel
theorem d_cX0_add_88 : decode cX0_add 88 = .ok (.putfield 49, 3) := by decide +kernel
theorem d_cX0_add_91 : decode cX0_add 91 = .ok (.return_, 1) := by decide +kernel
theorem d_cX0_copiesRegister_0 : decode cX0_copiesRegister 0 = .ok (.aload_n 0, 1) := by decide +kernel
theorem d_cX0_copiesRegister_1 : decode cX0_copiesRegister 1 = .ok (.getfield 27, 3) := by decide +kernel
theorem d_cX0_copiesRegister_4 : decode cX0_copiesRegister 4 = .ok (.iload_n 1, 1) := by decide +kernel
theorem d_cX0_copiesRegister_5 : decode cX0_copiesRegister 5 = .ok (.iaload, 1) := by decide +kernel
theorem d_cX0_copiesRegister_6 : decode cX0_copiesRegister 6 = .ok (.bipush 14, 2) := by decide +kernel
theorem d_cX0_copiesRegister_8 : decode cX0_copiesRegister 8 = .ok (.if_icmp .ne 25, 3) := by decide +kernel
theorem d_cX0_copiesRegister_11 : decode cX0_copiesRegister 11 = .ok (.aload_n 0, 1) := by decide +kernel
theorem d_cX0_copiesRegister_12 : decode cX0_copiesRegister 12 = .ok (.getfield 30, 3) := by decide +kernel
theorem d_cX0_copiesRegister_15 : decode cX0_copiesRegister 15 = .ok (.iload_n 1, 1) := by decide +kernel
theorem d_cX0_copiesRegister_16 : decode cX0_copiesRegister 16 = .ok (.iaload, 1) := by decide +kernel
theorem d_cX0_copiesRegister_17 : decode cX0_copiesRegister 17 = .ok (.ifCond .lt 16, 3) := by decide +kernel
theorem d_cX0_copiesRegister_20 : decode cX0_copiesRegister 20 = .ok (.aload_n 0, 1) := by decide +kernel
theorem d_cX0_copiesRegister_21 : decode cX0_copiesRegister 21 = .ok (.getfield 33, 3) := by decide +kernel
theorem d_cX0_copiesRegister_24 : decode cX0_copiesRegister 24 = .ok (.iload_n 1, 1) := by decide +kernel
theorem d_cX0_copiesRegister_25 : decode cX0_copiesRegister 25 = .ok (.iaload, 1) := by decide +kernel
theorem d_cX0_copiesRegister_26 : decode cX0_copiesRegister 26 = .ok (.ifCond .lt 7, 3) := by decide +kernel
theorem d_cX0_copiesRegister_29 : decode cX0_copiesRegister 29 = .ok (.iconst 1, 1) := by decide +kernel
theorem d_cX0_copiesRegister_30 : decode cX0_copiesRegister 30 = .ok (.goto 4, 3) := by decide +kernel
theorem d_cX0_copiesRegister_33 : decode cX0_copiesRegister 33 = .ok (.iconst 0, 1) := by decide +kernel
theorem d_cX0_copiesRegister_34 : decode cX0_copiesRegister 34 = .ok (.ireturn, 1) := by decide +kernel
theorem d_cX11_lowestBit_0 : decode cX11_lowestBit 0 = .ok (.lload_n 0, 1) := by decide +kernel
theorem d_cX11_lowestBit_1 : decode cX11_lowestBit 1 = .ok (.lload_n 0, 1) := by decide +kernel
theorem d_cX11_lowestBit_2 : decode cX11_lowestBit 2 = .ok (.lneg, 1) := by decide +kernel
theorem d_cX11_lowestBit_3 : decode cX11_lowestBit 3 = .ok (.land, 1) := by decide +kernel
theorem d_cX11_lowestBit_4 : decode cX11_lowestBit 4 = .ok (.lconst 1, 1) := by decide +kernel
theorem d_cX11_lowestBit_5 : decode cX11_lowestBit 5 = .ok (.lsub, 1) := by decide +kernel
theorem d_cX11_lowestBit_6 : decode cX11_lowestBit 6 = .ok (.invokestatic 228, 3) := by decide +kernel
theorem d_cX11_lowestBit_9 : decode cX11_lowestBit 9 = .ok (.ireturn, 1) := by decide +kernel
theorem d_cX1_isWithout_0 : decode cX1_isWithout 0 = .ok (.aload_n 0, 1) := by decide +kernel
theorem d_cX1_isWithout_1 : decode cX1_isWithout 1 = .ok (.getfield 27, 3) := by decide +kernel
theorem d_cX1_isWithout_4 : decode cX1_isWithout 4 = .ok (.iload_n 1, 1) := by decide +kernel
theorem d_cX1_isWithout_5 : decode cX1_isWithout 5 = .ok (.invokevirtual 31, 3) := by decide +kernel
theorem d_cX1_isWithout_8 : decode cX1_isWithout 8 = .ok (.ifCond .eq 17, 3) := by decide +kernel
theorem d_cX1_isWithout_11 : decode cX1_isWithout 11 = .ok (.aload_n 0, 1) := by decide +kernel
theorem d_cX1_isWithout_12 : decode cX1_isWithout 12 = .ok (.getfield 24, 3) := by decide +kernel
theorem d_cX1_isWithout_15 : decode cX1_isWithout 15 = .ok (.iload_n 1, 1) := by decide +kernel
theorem d_cX1_isWithout_16 : decode cX1_isWithout 16 = .ok (.iaload, 1) := by decide +kernel
theorem d_cX1_isWithout_17 : decode cX1_isWithout 17 = .ok (.iconst (-1), 1) := by decide +kernel
theorem d_cX1_isWithout_18 : decode cX1_isWithout 18 = .ok (.if_icmp .ne 7, 3) := by decide +kernel
theorem d_cX1_isWithout_21 : decode cX1_isWithout 21 = .ok (.iconst 1, 1) := by decide +kernel
theorem d_cX1_isWithout_22 : decode cX1_isWithout 22 = .ok (.goto 4, 3) := by decide +kernel
theorem d_cX1_isWithout_25 : decode cX1_isWithout 25 = .ok (.iconst 0, 1) := by decide +kernel
theorem d_cX1_isWithout_26 : decode cX1_isWithout 26 = .ok (.ireturn, 1) := by decide +kernel
theorem d_cX2_canMerge_0 : decode cX2_canMerge 0 = .ok (.iload_n 1, 1) := by decide +kernel
theorem d_cX2_canMerge_1 : decode cX2_canMerge 1 = .ok (.iload_n 2, 1) := by decide +kernel
theorem d_cX2_canMerge_2 : decode cX2_canMerge 2 = .ok (.if_icmp .eq 40, 3) := by decide +kernel
theorem d_cX2_canMerge_5 : decode cX2_canMerge 5 = .ok (.iload_n 1, 1) := by decide +kernel
theorem d_cX2_canMerge_6 : decode cX2_canMerge 6 = .ok (.bipush 100, 2) := by decide +kernel
theorem d_cX2_canMerge_8 : decode cX2_canMerge 8 = .ok (.if_icmp .ge 38, 3) := by decide +kernel
theorem d_cX2_canMerge_11 : decode cX2_canMerge 11 = .ok (.iload_n 2, 1) := by decide +kernel
theorem d_cX2_canMerge_12 : decode cX2_canMerge 12 = .ok (.bipush 100, 2) := by decide +kernel
theorem d_cX2_canMerge_14 : decode cX2_canMerge 14 = .ok (.if_icmp .ge 32, 3) := by decide +kernel
theorem d_cX2_canMerge_17 : decode cX2_canMerge 17 = .ok (.aload_n 0, 1) := by decide +kernel
theorem d_cX2_canMerge_18 : decode cX2_canMerge 18 = .ok (.getfield 12, 3) := by decide +kernel
theorem d_cX2_canMerge_21 : decode cX2_canMerge 21 = .ok (.iload_n 1, 1) := by decide +kernel
theorem d_cX2_canMerge_22 : decode cX2_canMerge 22 = .ok (.iload_n 2, 1) := by decide +kernel
theorem d_cX2_canMerge_23 : decode cX2_canMerge 23 = .ok (.invokevirtual 227, 3) := by decide +kernel
theorem d_cX2_canMerge_26 : decode cX2_canMerge 26 = .ok (.ifCond .ne 20, 3) := by decide +kernel
theorem d_cX2_canMerge_29 : decode cX2_canMerge 29 = .ok (.aload_n 0, 1) := by decide +kernel
theorem d_cX2_canMerge_30 : decode cX2_canMerge 30 = .ok (.getfield 12, 3) := by decide +kernel
theorem d_cX2_canMerge_33 : decode cX2_canMerge 33 = .ok (.iload_n 1, 1) := by decide +kernel
theorem d_cX2_canMerge_34 : decode cX2_canMerge 34 = .ok (.iload_n 2, 1) := by decide +kernel
theorem d_cX2_canMerge_35 : decode cX2_canMerge 35 = .ok (.iload_n 3, 1) := by decide +kernel
theorem d_cX2_canMerge_36 : decode cX2_canMerge 36 = .ok (.invokevirtual 230, 3) := by decide +kernel
theorem d_cX2_canMerge_39 : decode cX2_canMerge 39 = .ok (.ifCond .eq 7, 3) := by decide +kernel
theorem d_cX2_canMerge_42 : decode cX2_canMerge 42 = .ok (.iconst 1, 1) := by decide +kernel
theorem d_cX2_canMerge_43 : decode cX2_canMerge 43 = .ok (.goto 4, 3) := by decide +kernel
theorem d_cX2_canMerge_46 : decode cX2_canMerge 46 = .ok (.iconst 0, 1) := by decide +kernel
theorem d_cX2_canMerge_47 : decode cX2_canMerge 47 = .ok (.ireturn, 1) := by decide +kernel
theorem d_cX2_colourBit_0 : decode cX2_colourBit 0 = .ok (.iload_n 0, 1) := by decide +kernel
theorem d_cX2_colourBit_1 : decode cX2_colourBit 1 = .ok (.ifCond .lt 9, 3) := by decide +kernel
theorem d_cX2_colourBit_4 : decode cX2_colourBit 4 = .ok (.lconst 1, 1) := by decide +kernel
theorem d_cX2_colourBit_5 : decode cX2_colourBit 5 = .ok (.iload_n 0, 1) := by decide +kernel
theorem d_cX2_colourBit_6 : decode cX2_colourBit 6 = .ok (.lshl, 1) := by decide +kernel
theorem d_cX2_colourBit_7 : decode cX2_colourBit 7 = .ok (.goto 4, 3) := by decide +kernel
theorem d_cX2_colourBit_10 : decode cX2_colourBit 10 = .ok (.lconst 0, 1) := by decide +kernel
theorem d_cX2_colourBit_11 : decode cX2_colourBit 11 = .ok (.lreturn, 1) := by decide +kernel
theorem d_cX2_colours_0 : decode cX2_colours 0 = .ok (.lconst 0, 1) := by decide +kernel
theorem d_cX2_colours_1 : decode cX2_colours 1 = .ok (.lstore_n 1, 1) := by decide +kernel
theorem d_cX2_colours_2 : decode cX2_colours 2 = .ok (.iconst 0, 1) := by decide +kernel
theorem d_cX2_colours_3 : decode cX2_colours 3 = .ok (.istore_n 3, 1) := by decide +kernel
theorem d_cX2_colours_4 : decode cX2_colours 4 = .ok (.iload_n 3, 1) := by decide +kernel
theorem d_cX2_colours_5 : decode cX2_colours 5 = .ok (.aload_n 0, 1) := by decide +kernel
theorem d_cX2_colours_6 : decode cX2_colours 6 = .ok (.getfield 48, 3) := by decide +kernel
theorem d_cX2_colours_9 : decode cX2_colours 9 = .ok (.getfield 73, 3) := by decide +kernel
theorem d_cX2_colours_12 : decode cX2_colours 12 = .ok (.if_icmp .ge 50, 3) := by decide +kernel
theorem d_cX2_colours_15 : decode cX2_colours 15 = .ok (.lload_n 1, 1) := by decide +kernel
theorem d_cX2_colours_16 : decode cX2_colours 16 = .ok (.aload_n 0, 1) := by decide +kernel
theorem d_cX2_colours_17 : decode cX2_colours 17 = .ok (.getfield 48, 3) := by decide +kernel
theorem d_cX2_colours_20 : decode cX2_colours 20 = .ok (.getfield 76, 3) := by decide +kernel
theorem d_cX2_colours_23 : decode cX2_colours 23 = .ok (.iload_n 3, 1) := by decide +kernel
theorem d_cX2_colours_24 : decode cX2_colours 24 = .ok (.iaload, 1) := by decide +kernel
theorem d_cX2_colours_25 : decode cX2_colours 25 = .ok (.invokestatic 79, 3) := by decide +kernel
theorem d_cX2_colours_28 : decode cX2_colours 28 = .ok (.aload_n 0, 1) := by decide +kernel
theorem d_cX2_colours_29 : decode cX2_colours 29 = .ok (.getfield 48, 3) := by decide +kernel
theorem d_cX2_colours_32 : decode cX2_colours 32 = .ok (.getfield 83, 3) := by decide +kernel
theorem d_cX2_colours_35 : decode cX2_colours 35 = .ok (.iload_n 3, 1) := by decide +kernel
theorem d_cX2_colours_36 : decode cX2_colours 36 = .ok (.iaload, 1) := by decide +kernel
theorem d_cX2_colours_37 : decode cX2_colours 37 = .ok (.invokestatic 79, 3) := by decide +kernel
theorem d_cX2_colours_40 : decode cX2_colours 40 = .ok (.lor, 1) := by decide +kernel
theorem d_cX2_colours_41 : decode cX2_colours 41 = .ok (.aload_n 0, 1) := by decide +kernel
theorem d_cX2_colours_42 : decode cX2_colours 42 = .ok (.getfield 48, 3) := by decide +kernel
theorem d_cX2_colours_45 : decode cX2_colours 45 = .ok (.getfield 86, 3) := by decide +kernel
theorem d_cX2_colours_48 : decode cX2_colours 48 = .ok (.iload_n 3, 1) := by decide +kernel
theorem d_cX2_colours_49 : decode cX2_colours 49 = .ok (.iaload, 1) := by decide +kernel
theorem d_cX2_colours_50 : decode cX2_colours 50 = .ok (.invokestatic 79, 3) := by decide +kernel
theorem d_cX2_colours_53 : decode cX2_colours 53 = .ok (.lor, 1) := by decide +kernel
theorem d_cX2_colours_54 : decode cX2_colours 54 = .ok (.lor, 1) := by decide +kernel
theorem d_cX2_colours_55 : decode cX2_colours 55 = .ok (.lstore_n 1, 1) := by decide +kernel
theorem d_cX2_colours_56 : decode cX2_colours 56 = .ok (.iinc 3 1, 3) := by decide +kernel
theorem d_cX2_colours_59 : decode cX2_colours 59 = .ok (.goto (-55), 3) := by decide +kernel
theorem d_cX2_colours_62 : decode cX2_colours 62 = .ok (.lload_n 1, 1) := by decide +kernel
theorem d_cX2_colours_63 : decode cX2_colours 63 = .ok (.invokestatic 89, 3) := by decide +kernel
theorem d_cX2_colours_66 : decode cX2_colours 66 = .ok (.ireturn, 1) := by decide +kernel
theorem d_cX2_giveSlots_0 : decode cX2_giveSlots 0 = .ok (.bipush 100, 2) := by decide +kernel
theorem d_cX2_giveSlots_2 : decode cX2_giveSlots 2 = .ok (.istore_n 1, 1) := by decide +kernel
theorem d_cX2_giveSlots_3 : decode cX2_giveSlots 3 = .ok (.iload_n 1, 1) := by decide +kernel
theorem d_cX2_giveSlots_4 : decode cX2_giveSlots 4 = .ok (.aload_n 0, 1) := by decide +kernel
theorem d_cX2_giveSlots_5 : decode cX2_giveSlots 5 = .ok (.getfield 111, 3) := by decide +kernel
theorem d_cX2_giveSlots_8 : decode cX2_giveSlots 8 = .ok (.if_icmp .ge 22, 3) := by decide +kernel
theorem d_cX2_giveSlots_11 : decode cX2_giveSlots 11 = .ok (.aload_n 0, 1) := by decide +kernel
theorem d_cX2_giveSlots_12 : decode cX2_giveSlots 12 = .ok (.getfield 23, 3) := by decide +kernel
theorem d_cX2_giveSlots_15 : decode cX2_giveSlots 15 = .ok (.iload_n 1, 1) := by decide +kernel
theorem d_cX2_giveSlots_16 : decode cX2_giveSlots 16 = .ok (.invokevirtual 233, 3) := by decide +kernel
theorem d_cX2_giveSlots_19 : decode cX2_giveSlots 19 = .ok (.ifCond .eq 5, 3) := by decide +kernel
theorem d_cX2_giveSlots_22 : decode cX2_giveSlots 22 = .ok (.iconst 0, 1) := by decide +kernel
theorem d_cX2_giveSlots_23 : decode cX2_giveSlots 23 = .ok (.ireturn, 1) := by decide +kernel
theorem d_cX2_giveSlots_24 : decode cX2_giveSlots 24 = .ok (.iinc 1 1, 3) := by decide +kernel
theorem d_cX2_giveSlots_27 : decode cX2_giveSlots 27 = .ok (.goto (-24), 3) := by decide +kernel
theorem d_cX2_giveSlots_30 : decode cX2_giveSlots 30 = .ok (.iconst 0, 1) := by decide +kernel
theorem d_cX2_giveSlots_31 : decode cX2_giveSlots 31 = .ok (.istore_n 1, 1) := by decide +kernel
theorem d_cX2_giveSlots_32 : decode cX2_giveSlots 32 = .ok (.iload_n 1, 1) := by decide +kernel
theorem d_cX2_giveSlots_33 : decode cX2_giveSlots 33 = .ok (.bipush 100, 2) := by decide +kernel
theorem d_cX2_giveSlots_35 : decode cX2_giveSlots 35 = .ok (.if_icmp .ge 50, 3) := by decide +kernel
theorem d_cX2_giveSlots_38 : decode cX2_giveSlots 38 = .ok (.aload_n 0, 1) := by decide +kernel
theorem d_cX2_giveSlots_39 : decode cX2_giveSlots 39 = .ok (.getfield 23, 3) := by decide +kernel
theorem d_cX2_giveSlots_42 : decode cX2_giveSlots 42 = .ok (.iload_n 1, 1) := by decide +kernel
theorem d_cX2_giveSlots_43 : decode cX2_giveSlots 43 = .ok (.invokevirtual 233, 3) := by decide +kernel
theorem d_cX2_giveSlots_46 : decode cX2_giveSlots 46 = .ok (.ifCond .eq 33, 3) := by decide +kernel
theorem d_cX2_giveSlots_49 : decode cX2_giveSlots 49 = .ok (.aload_n 0, 1) := by decide +kernel
theorem d_cX2_giveSlots_50 : decode cX2_giveSlots 50 = .ok (.getfield 37, 3) := by decide +kernel
theorem d_cX2_giveSlots_53 : decode cX2_giveSlots 53 = .ok (.iload_n 1, 1) := by decide +kernel
theorem d_cX2_giveSlots_54 : decode cX2_giveSlots 54 = .ok (.aload_n 0, 1) := by decide +kernel
theorem d_cX2_giveSlots_55 : decode cX2_giveSlots 55 = .ok (.getfield 162, 3) := by decide +kernel
theorem d_cX2_giveSlots_58 : decode cX2_giveSlots 58 = .ok (.iastore, 1) := by decide +kernel
theorem d_cX2_giveSlots_59 : decode cX2_giveSlots 59 = .ok (.aload_n 0, 1) := by decide +kernel
theorem d_cX2_giveSlots_60 : decode cX2_giveSlots 60 = .ok (.dup, 1) := by decide +kernel
theorem d_cX2_giveSlots_61 : decode cX2_giveSlots 61 = .ok (.getfield 162, 3) := by decide +kernel
theorem d_cX2_giveSlots_64 : decode cX2_giveSlots 64 = .ok (.iconst 1, 1) := by decide +kernel
theorem d_cX2_giveSlots_65 : decode cX2_giveSlots 65 = .ok (.iadd, 1) := by decide +kernel
theorem d_cX2_giveSlots_66 : decode cX2_giveSlots 66 = .ok (.putfield 162, 3) := by decide +kernel
theorem d_cX2_giveSlots_69 : decode cX2_giveSlots 69 = .ok (.aload_n 0, 1) := by decide +kernel
theorem d_cX2_giveSlots_70 : decode cX2_giveSlots 70 = .ok (.dup, 1) := by decide +kernel
theorem d_cX2_giveSlots_71 : decode cX2_giveSlots 71 = .ok (.getfield 67, 3) := by decide +kernel
theorem d_cX2_giveSlots_74 : decode cX2_giveSlots 74 = .ok (.iconst 1, 1) := by decide +kernel
theorem d_cX2_giveSlots_75 : decode cX2_giveSlots 75 = .ok (.iadd, 1) := by decide +kernel
theorem d_cX2_giveSlots_76 : decode cX2_giveSlots 76 = .ok (.putfield 67, 3) := by decide +kernel
theorem d_cX2_giveSlots_79 : decode cX2_giveSlots 79 = .ok (.iinc 1 1, 3) := by decide +kernel
theorem d_cX2_giveSlots_82 : decode cX2_giveSlots 82 = .ok (.goto (-50), 3) := by decide +kernel
theorem d_cX2_giveSlots_85 : decode cX2_giveSlots 85 = .ok (.iconst 1, 1) := by decide +kernel
theorem d_cX2_giveSlots_86 : decode cX2_giveSlots 86 = .ok (.ireturn, 1) := by decide +kernel
theorem d_cX2_isTakenAround_0 : decode cX2_isTakenAround 0 = .ok (.iconst 0, 1) := by decide +kernel
theorem d_cX2_isTakenAround_1 : decode cX2_isTakenAround 1 = .ok (.istore_n 3, 1) := by decide +kernel
theorem d_cX2_isTakenAround_2 : decode cX2_isTakenAround 2 = .ok (.iload_n 3, 1) := by decide +kernel
theorem d_cX2_isTakenAround_3 : decode cX2_isTakenAround 3 = .ok (.iload_n 1, 1) := by decide +kernel
theorem d_cX2_isTakenAround_4 : decode cX2_isTakenAround 4 = .ok (.if_icmp .ge 33, 3) := by decide +kernel
theorem d_cX2_isTakenAround_7 : decode cX2_isTakenAround 7 = .ok (.aload_n 0, 1) := by decide +kernel
theorem d_cX2_isTakenAround_8 : decode cX2_isTakenAround 8 = .ok (.getfield 40, 3) := by decide +kernel
theorem d_cX2_isTakenAround_11 : decode cX2_isTakenAround 11 = .ok (.iload_n 3, 1) := by decide +kernel
theorem d_cX2_isTakenAround_12 : decode cX2_isTakenAround 12 = .ok (.iaload, 1) := by decide +kernel
theorem d_cX2_isTakenAround_13 : decode cX2_isTakenAround 13 = .ok (.iload_n 2, 1) := by decide +kernel
theorem d_cX2_isTakenAround_14 : decode cX2_isTakenAround 14 = .ok (.if_icmp .ne 17, 3) := by decide +kernel
theorem d_cX2_isTakenAround_17 : decode cX2_isTakenAround 17 = .ok (.aload_n 0, 1) := by decide +kernel
theorem d_cX2_isTakenAround_18 : decode cX2_isTakenAround 18 = .ok (.getfield 12, 3) := by decide +kernel
theorem d_cX2_isTakenAround_21 : decode cX2_isTakenAround 21 = .ok (.iload_n 1, 1) := by decide +kernel
theorem d_cX2_isTakenAround_22 : decode cX2_isTakenAround 22 = .ok (.iload_n 3, 1) := by decide +kernel
theorem d_cX2_isTakenAround_23 : decode cX2_isTakenAround 23 = .ok (.invokevirtual 227, 3) := by decide +kernel
theorem d_cX2_isTakenAround_26 : decode cX2_isTakenAround 26 = .ok (.ifCond .eq 5, 3) := by decide +kernel
theorem d_cX2_isTakenAround_29 : decode cX2_isTakenAround 29 = .ok (.iconst 1, 1) := by decide +kernel
theorem d_cX2_isTakenAround_30 : decode cX2_isTakenAround 30 = .ok (.ireturn, 1) := by decide +kernel
theorem d_cX2_isTakenAround_31 : decode cX2_isTakenAround 31 = .ok (.iinc 3 1, 3) := by decide +kernel
theorem d_cX2_isTakenAround_34 : decode cX2_isTakenAround 34 = .ok (.goto (-32), 3) := by decide +kernel
theorem d_cX2_isTakenAround_37 : decode cX2_isTakenAround 37 = .ok (.iconst 0, 1) := by decide +kernel
theorem d_cX2_isTakenAround_38 : decode cX2_isTakenAround 38 = .ok (.ireturn, 1) := by decide +kernel
theorem d_cX2_loaded_0 : decode cX2_loaded 0 = .ok (.aload_n 0, 1) := by decide +kernel
theorem d_cX2_loaded_1 : decode cX2_loaded 1 = .ok (.iload_n 1, 1) := by decide +kernel
theorem d_cX2_loaded_2 : decode cX2_loaded 2 = .ok (.invokevirtual 242, 3) := by decide +kernel
theorem d_cX2_loaded_5 : decode cX2_loaded 5 = .ok (.istore_n 2, 1) := by decide +kernel
theorem d_cX2_loaded_6 : decode cX2_loaded 6 = .ok (.iload_n 2, 1) := by decide +kernel
theorem d_cX2_loaded_7 : decode cX2_loaded 7 = .ok (.iconst (-1), 1) := by decide +kernel
theorem d_cX2_loaded_8 : decode cX2_loaded 8 = .ok (.if_icmp .ne 5, 3) := by decide +kernel
theorem d_cX2_loaded_11 : decode cX2_loaded 11 = .ok (.iload_n 1, 1) := by decide +kernel
theorem d_cX2_loaded_12 : decode cX2_loaded 12 = .ok (.ireturn, 1) := by decide +kernel
theorem d_cX2_loaded_13 : decode cX2_loaded 13 = .ok (.aload_n 0, 1) := by decide +kernel
theorem d_cX2_loaded_14 : decode cX2_loaded 14 = .ok (.invokevirtual 245, 3) := by decide +kernel
theorem d_cX2_loaded_17 : decode cX2_loaded 17 = .ok (.istore_n 3, 1) := by decide +kernel
theorem d_cX2_loaded_18 : decode cX2_loaded 18 = .ok (.aload_n 0, 1) := by decide +kernel
theorem d_cX2_loaded_19 : decode cX2_loaded 19 = .ok (.getfield 52, 3) := by decide +kernel
theorem d_cX2_loaded_22 : decode cX2_loaded 22 = .ok (.bipush 17, 2) := by decide +kernel
theorem d_cX2_loaded_24 : decode cX2_loaded 24 = .ok (.iload_n 3, 1) := by decide +kernel
theorem d_cX2_loaded_25 : decode cX2_loaded 25 = .ok (.iconst (-1), 1) := by decide +kernel
theorem d_cX2_loaded_26 : decode cX2_loaded 26 = .ok (.iconst 0, 1) := by decide +kernel
theorem d_cX2_loaded_27 : decode cX2_loaded 27 = .ok (.iconst (-1), 1) := by decide +kernel
theorem d_cX2_loaded_28 : decode cX2_loaded 28 = .ok (.iload_n 2, 1) := by decide +kernel
theorem d_cX2_loaded_29 : decode cX2_loaded 29 = .ok (.invokevirtual 197, 3) := by decide +kernel
theorem d_cX2_loaded_32 : decode cX2_loaded 32 = .ok (.iload_n 3, 1) := by decide +kernel
theorem d_cX2_loaded_33 : decode cX2_loaded 33 = .ok (.ireturn, 1) := by decide +kernel
theorem d_cX2_newTemporary_0 : decode cX2_newTemporary 0 = .ok (.aload_n 0, 1) := by decide +kernel
theorem d_cX2_newTemporary_1 : decode cX2_newTemporary 1 = .ok (.getfield 111, 3) := by decide +kernel
theorem d_cX2_newTemporary_4 : decode cX2_newTemporary 4 = .ok (.sipush 720, 3) := by decide +kernel
theorem d_cX2_newTemporary_7 : decode cX2_newTemporary 7 = .ok (.if_icmp .lt 13, 3) := by decide +kernel
theorem d_cX2_newTemporary_10 : decode cX2_newTemporary 10 = .ok (.aload_n 0, 1) := by decide +kernel
theorem d_cX2_newTemporary_11 : decode cX2_newTemporary 11 = .ok (.getfield 52, 3) := by decide +kernel
theorem d_cX2_newTemporary_14 : decode cX2_newTemporary 14 = .ok (.iconst 1, 1) := by decide +kernel
theorem d_cX2_newTemporary_15 : decode cX2_newTemporary 15 = .ok (.putfield 159, 3) := by decide +kernel
theorem d_cX2_newTemporary_18 : decode cX2_newTemporary 18 = .ok (.iconst (-1), 1) := by decide +kernel
theorem d_cX2_newTemporary_19 : decode cX2_newTemporary 19 = .ok (.ireturn, 1) := by decide +kernel
theorem d_cX2_newTemporary_20 : decode cX2_newTemporary 20 = .ok (.aload_n 0, 1) := by decide +kernel
theorem d_cX2_newTemporary_21 : decode cX2_newTemporary 21 = .ok (.dup, 1) := by decide +kernel
theorem d_cX2_newTemporary_22 : decode cX2_newTemporary 22 = .ok (.getfield 111, 3) := by decide +kernel
theorem d_cX2_newTemporary_25 : decode cX2_newTemporary 25 = .ok (.iconst 1, 1) := by decide +kernel
theorem d_cX2_newTemporary_26 : decode cX2_newTemporary 26 = .ok (.iadd, 1) := by decide +kernel
theorem d_cX2_newTemporary_27 : decode cX2_newTemporary 27 = .ok (.putfield 111, 3) := by decide +kernel
theorem d_cX2_newTemporary_30 : decode cX2_newTemporary 30 = .ok (.aload_n 0, 1) := by decide +kernel
theorem d_cX2_newTemporary_31 : decode cX2_newTemporary 31 = .ok (.getfield 111, 3) := by decide +kernel
theorem d_cX2_newTemporary_34 : decode cX2_newTemporary 34 = .ok (.iconst 1, 1) := by decide +kernel
theorem d_cX2_newTemporary_35 : decode cX2_newTemporary 35 = .ok (.isub, 1) := by decide +kernel
theorem d_cX2_newTemporary_36 : decode cX2_newTemporary 36 = .ok (.ireturn, 1) := by decide +kernel
theorem d_cX2_nextToMerge_0 : decode cX2_nextToMerge 0 = .ok (.iconst 0, 1) := by decide +kernel
theorem d_cX2_nextToMerge_1 : decode cX2_nextToMerge 1 = .ok (.istore_n 2, 1) := by decide +kernel
theorem d_cX2_nextToMerge_2 : decode cX2_nextToMerge 2 = .ok (.iload_n 2, 1) := by decide +kernel
theorem d_cX2_nextToMerge_3 : decode cX2_nextToMerge 3 = .ok (.aload_n 0, 1) := by decide +kernel
theorem d_cX2_nextToMerge_4 : decode cX2_nextToMerge 4 = .ok (.getfield 48, 3) := by decide +kernel
theorem d_cX2_nextToMerge_7 : decode cX2_nextToMerge 7 = .ok (.getfield 73, 3) := by decide +kernel
theorem d_cX2_nextToMerge_10 : decode cX2_nextToMerge 10 = .ok (.if_icmp .ge 48, 3) := by decide +kernel
theorem d_cX2_nextToMerge_13 : decode cX2_nextToMerge 13 = .ok (.aload_n 0, 1) := by decide +kernel
theorem d_cX2_nextToMerge_14 : decode cX2_nextToMerge 14 = .ok (.getfield 48, 3) := by decide +kernel
theorem d_cX2_nextToMerge_17 : decode cX2_nextToMerge 17 = .ok (.iload_n 2, 1) := by decide +kernel
theorem d_cX2_nextToMerge_18 : decode cX2_nextToMerge 18 = .ok (.invokevirtual 220, 3) := by decide +kernel
theorem d_cX2_nextToMerge_21 : decode cX2_nextToMerge 21 = .ok (.ifCond .eq 31, 3) := by decide +kernel
theorem d_cX2_nextToMerge_24 : decode cX2_nextToMerge 24 = .ok (.aload_n 0, 1) := by decide +kernel
theorem d_cX2_nextToMerge_25 : decode cX2_nextToMerge 25 = .ok (.aload_n 0, 1) := by decide +kernel
theorem d_cX2_nextToMerge_26 : decode cX2_nextToMerge 26 = .ok (.getfield 48, 3) := by decide +kernel
theorem d_cX2_nextToMerge_29 : decode cX2_nextToMerge 29 = .ok (.getfield 76, 3) := by decide +kernel
theorem d_cX2_nextToMerge_32 : decode cX2_nextToMerge 32 = .ok (.iload_n 2, 1) := by decide +kernel
theorem d_cX2_nextToMerge_33 : decode cX2_nextToMerge 33 = .ok (.iaload, 1) := by decide +kernel
theorem d_cX2_nextToMerge_34 : decode cX2_nextToMerge 34 = .ok (.aload_n 0, 1) := by decide +kernel
theorem d_cX2_nextToMerge_35 : decode cX2_nextToMerge 35 = .ok (.getfield 48, 3) := by decide +kernel
theorem d_cX2_nextToMerge_38 : decode cX2_nextToMerge 38 = .ok (.getfield 83, 3) := by decide +kernel
theorem d_cX2_nextToMerge_41 : decode cX2_nextToMerge 41 = .ok (.iload_n 2, 1) := by decide +kernel
theorem d_cX2_nextToMerge_42 : decode cX2_nextToMerge 42 = .ok (.iaload, 1) := by decide +kernel
theorem d_cX2_nextToMerge_43 : decode cX2_nextToMerge 43 = .ok (.iload_n 1, 1) := by decide +kernel
theorem d_cX2_nextToMerge_44 : decode cX2_nextToMerge 44 = .ok (.invokevirtual 223, 3) := by decide +kernel
theorem d_cX2_nextToMerge_47 : decode cX2_nextToMerge 47 = .ok (.ifCond .eq 5, 3) := by decide +kernel
theorem d_cX2_nextToMerge_50 : decode cX2_nextToMerge 50 = .ok (.iload_n 2, 1) := by decide +kernel
theorem d_cX2_nextToMerge_51 : decode cX2_nextToMerge 51 = .ok (.ireturn, 1) := by decide +kernel
theorem d_cX2_nextToMerge_52 : decode cX2_nextToMerge 52 = .ok (.iinc 2 1, 3) := by decide +kernel
theorem d_cX2_nextToMerge_55 : decode cX2_nextToMerge 55 = .ok (.goto (-53), 3) := by decide +kernel
theorem d_cX2_nextToMerge_58 : decode cX2_nextToMerge 58 = .ok (.iconst (-1), 1) := by decide +kernel
theorem d_cX2_nextToMerge_59 : decode cX2_nextToMerge 59 = .ok (.ireturn, 1) := by decide +kernel
theorem d_cX2_setLiveToZero_0 : decode cX2_setLiveToZero 0 = .ok (.iconst 0, 1) := by decide +kernel
theorem d_cX2_setLiveToZero_1 : decode cX2_setLiveToZero 1 = .ok (.istore_n 1, 1) := by decide +kernel
theorem d_cX2_setLiveToZero_2 : decode cX2_setLiveToZero 2 = .ok (.iload_n 1, 1) := by decide +kernel
theorem d_cX2_setLiveToZero_3 : decode cX2_setLiveToZero 3 = .ok (.bipush 100, 2) := by decide +kernel
theorem d_cX2_setLiveToZero_5 : decode cX2_setLiveToZero 5 = .ok (.if_icmp .ge 38, 3) := by decide +kernel
theorem d_cX2_setLiveToZero_8 : decode cX2_setLiveToZero 8 = .ok (.aload_n 0, 1) := by decide +kernel
theorem d_cX2_setLiveToZero_9 : decode cX2_setLiveToZero 9 = .ok (.getfield 12, 3) := by decide +kernel
theorem d_cX2_setLiveToZero_12 : decode cX2_setLiveToZero 12 = .ok (.getfield 102, 3) := by decide +kernel
theorem d_cX2_setLiveToZero_15 : decode cX2_setLiveToZero 15 = .ok (.iconst 0, 1) := by decide +kernel
theorem d_cX2_setLiveToZero_16 : decode cX2_setLiveToZero 16 = .ok (.iload_n 1, 1) := by decide +kernel
theorem d_cX2_setLiveToZero_17 : decode cX2_setLiveToZero 17 = .ok (.invokevirtual 193, 3) := by decide +kernel
theorem d_cX2_setLiveToZero_20 : decode cX2_setLiveToZero 20 = .ok (.ifCond .eq 17, 3) := by decide +kernel
theorem d_cX2_setLiveToZero_23 : decode cX2_setLiveToZero 23 = .ok (.aload_n 0, 1) := by decide +kernel
theorem d_cX2_setLiveToZero_24 : decode cX2_setLiveToZero 24 = .ok (.getfield 48, 3) := by decide +kernel
theorem d_cX2_setLiveToZero_27 : decode cX2_setLiveToZero 27 = .ok (.bipush 14, 2) := by decide +kernel
theorem d_cX2_setLiveToZero_29 : decode cX2_setLiveToZero 29 = .ok (.iload_n 1, 1) := by decide +kernel
theorem d_cX2_setLiveToZero_30 : decode cX2_setLiveToZero 30 = .ok (.iconst (-1), 1) := by decide +kernel
theorem d_cX2_setLiveToZero_31 : decode cX2_setLiveToZero 31 = .ok (.iconst 0, 1) := by decide +kernel
theorem d_cX2_setLiveToZero_32 : decode cX2_setLiveToZero 32 = .ok (.iconst (-1), 1) := by decide +kernel
theorem d_cX2_setLiveToZero_33 : decode cX2_setLiveToZero 33 = .ok (.iconst 0, 1) := by decide +kernel
theorem d_cX2_setLiveToZero_34 : decode cX2_setLiveToZero 34 = .ok (.invokevirtual 197, 3) := by decide +kernel
theorem d_cX2_setLiveToZero_37 : decode cX2_setLiveToZero 37 = .ok (.iinc 1 1, 3) := by decide +kernel
theorem d_cX2_setLiveToZero_40 : decode cX2_setLiveToZero 40 = .ok (.goto (-38), 3) := by decide +kernel
theorem d_cX2_setLiveToZero_43 : decode cX2_setLiveToZero 43 = .ok (.return_, 1) := by decide +kernel
theorem d_cX2_slotFor_0 : decode cX2_slotFor 0 = .ok (.iload_n 1, 1) := by decide +kernel
theorem d_cX2_slotFor_1 : decode cX2_slotFor 1 = .ok (.ifCond .lt 18, 3) := by decide +kernel
theorem d_cX2_slotFor_4 : decode cX2_slotFor 4 = .ok (.iload_n 1, 1) := by decide +kernel
theorem d_cX2_slotFor_5 : decode cX2_slotFor 5 = .ok (.bipush 100, 2) := by decide +kernel
theorem d_cX2_slotFor_7 : decode cX2_slotFor 7 = .ok (.if_icmp .ge 12, 3) := by decide +kernel
theorem d_cX2_slotFor_10 : decode cX2_slotFor 10 = .ok (.aload_n 0, 1) := by decide +kernel
theorem d_cX2_slotFor_11 : decode cX2_slotFor 11 = .ok (.getfield 37, 3) := by decide +kernel
theorem d_cX2_slotFor_14 : decode cX2_slotFor 14 = .ok (.iload_n 1, 1) := by decide +kernel
theorem d_cX2_slotFor_15 : decode cX2_slotFor 15 = .ok (.iaload, 1) := by decide +kernel
theorem d_cX2_slotFor_16 : decode cX2_slotFor 16 = .ok (.goto 4, 3) := by decide +kernel
theorem d_cX2_slotFor_19 : decode cX2_slotFor 19 = .ok (.iconst (-1), 1) := by decide +kernel
theorem d_cX2_slotFor_20 : decode cX2_slotFor 20 = .ok (.ireturn, 1) := by decide +kernel
theorem d_cX2_spillLine_0 : decode cX2_spillLine 0 = .ok (.aload_n 0, 1) := by decide +kernel
theorem d_cX2_spillLine_1 : decode cX2_spillLine 1 = .ok (.aload_n 0, 1) := by decide +kernel
theorem d_cX2_spillLine_2 : decode cX2_spillLine 2 = .ok (.getfield 48, 3) := by decide +kernel
theorem d_cX2_spillLine_5 : decode cX2_spillLine 5 = .ok (.getfield 83, 3) := by decide +kernel
theorem d_cX2_spillLine_8 : decode cX2_spillLine 8 = .ok (.iload_n 1, 1) := by decide +kernel
theorem d_cX2_spillLine_9 : decode cX2_spillLine 9 = .ok (.iaload, 1) := by decide +kernel
theorem d_cX2_spillLine_10 : decode cX2_spillLine 10 = .ok (.invokevirtual 239, 3) := by decide +kernel
theorem d_cX2_spillLine_13 : decode cX2_spillLine 13 = .ok (.istore_n 2, 1) := by decide +kernel
theorem d_cX2_spillLine_14 : decode cX2_spillLine 14 = .ok (.aload_n 0, 1) := by decide +kernel
theorem d_cX2_spillLine_15 : decode cX2_spillLine 15 = .ok (.getfield 48, 3) := by decide +kernel
theorem d_cX2_spillLine_18 : decode cX2_spillLine 18 = .ok (.getfield 86, 3) := by decide +kernel
theorem d_cX2_spillLine_21 : decode cX2_spillLine 21 = .ok (.iload_n 1, 1) := by decide +kernel
theorem d_cX2_spillLine_22 : decode cX2_spillLine 22 = .ok (.iaload, 1) := by decide +kernel
theorem d_cX2_spillLine_23 : decode cX2_spillLine 23 = .ok (.aload_n 0, 1) := by decide +kernel
theorem d_cX2_spillLine_24 : decode cX2_spillLine 24 = .ok (.getfield 48, 3) := by decide +kernel
theorem d_cX2_spillLine_27 : decode cX2_spillLine 27 = .ok (.getfield 83, 3) := by decide +kernel
theorem d_cX2_spillLine_30 : decode cX2_spillLine 30 = .ok (.iload_n 1, 1) := by decide +kernel
theorem d_cX2_spillLine_31 : decode cX2_spillLine 31 = .ok (.iaload, 1) := by decide +kernel
theorem d_cX2_spillLine_32 : decode cX2_spillLine 32 = .ok (.if_icmp .ne 7, 3) := by decide +kernel
theorem d_cX2_spillLine_35 : decode cX2_spillLine 35 = .ok (.iload_n 2, 1) := by decide +kernel
theorem d_cX2_spillLine_36 : decode cX2_spillLine 36 = .ok (.goto 16, 3) := by decide +kernel
theorem d_cX2_spillLine_39 : decode cX2_spillLine 39 = .ok (.aload_n 0, 1) := by decide +kernel
theorem d_cX2_spillLine_40 : decode cX2_spillLine 40 = .ok (.aload_n 0, 1) := by decide +kernel
theorem d_cX2_spillLine_41 : decode cX2_spillLine 41 = .ok (.getfield 48, 3) := by decide +kernel
theorem d_cX2_spillLine_44 : decode cX2_spillLine 44 = .ok (.getfield 86, 3) := by decide +kernel
theorem d_cX2_spillLine_47 : decode cX2_spillLine 47 = .ok (.iload_n 1, 1) := by decide +kernel
theorem d_cX2_spillLine_48 : decode cX2_spillLine 48 = .ok (.iaload, 1) := by decide +kernel
theorem d_cX2_spillLine_49 : decode cX2_spillLine 49 = .ok (.invokevirtual 239, 3) := by decide +kernel
theorem d_cX2_spillLine_52 : decode cX2_spillLine 52 = .ok (.istore_n 3, 1) := by decide +kernel
theorem d_cX2_spillLine_53 : decode cX2_spillLine 53 = .ok (.aload_n 0, 1) := by decide +kernel
theorem d_cX2_spillLine_54 : decode cX2_spillLine 54 = .ok (.aload_n 0, 1) := by decide +kernel
theorem d_cX2_spillLine_55 : decode cX2_spillLine 55 = .ok (.getfield 48, 3) := by decide +kernel
theorem d_cX2_spillLine_58 : decode cX2_spillLine 58 = .ok (.getfield 76, 3) := by decide +kernel
theorem d_cX2_spillLine_61 : decode cX2_spillLine 61 = .ok (.iload_n 1, 1) := by decide +kernel
theorem d_cX2_spillLine_62 : decode cX2_spillLine 62 = .ok (.iaload, 1) := by decide +kernel
theorem d_cX2_spillLine_63 : decode cX2_spillLine 63 = .ok (.invokevirtual 242, 3) := by decide +kernel
theorem d_cX2_spillLine_66 : decode cX2_spillLine 66 = .ok (.istore 4, 2) := by decide +kernel
theorem d_cX2_spillLine_68 : decode cX2_spillLine 68 = .ok (.iload 4, 2) := by decide +kernel
theorem d_cX2_spillLine_70 : decode cX2_spillLine 70 = .ok (.iconst (-1), 1) := by decide +kernel
theorem d_cX2_spillLine_71 : decode cX2_spillLine 71 = .ok (.if_icmp .ne 15, 3) := by decide +kernel
theorem d_cX2_spillLine_74 : decode cX2_spillLine 74 = .ok (.aload_n 0, 1) := by decide +kernel
theorem d_cX2_spillLine_75 : decode cX2_spillLine 75 = .ok (.getfield 48, 3) := by decide +kernel
theorem d_cX2_spillLine_78 : decode cX2_spillLine 78 = .ok (.getfield 76, 3) := by decide +kernel
theorem d_cX2_spillLine_81 : decode cX2_spillLine 81 = .ok (.iload_n 1, 1) := by decide +kernel
theorem d_cX2_spillLine_82 : decode cX2_spillLine 82 = .ok (.iaload, 1) := by decide +kernel
theorem d_cX2_spillLine_83 : decode cX2_spillLine 83 = .ok (.goto 7, 3) := by decide +kernel
theorem d_cX2_spillLine_86 : decode cX2_spillLine 86 = .ok (.aload_n 0, 1) := by decide +kernel
theorem d_cX2_spillLine_87 : decode cX2_spillLine 87 = .ok (.invokevirtual 245, 3) := by decide +kernel
theorem d_cX2_spillLine_90 : decode cX2_spillLine 90 = .ok (.istore 5, 2) := by decide +kernel
theorem d_cX2_spillLine_92 : decode cX2_spillLine 92 = .ok (.aload_n 0, 1) := by decide +kernel
theorem d_cX2_spillLine_93 : decode cX2_spillLine 93 = .ok (.getfield 52, 3) := by decide +kernel
theorem d_cX2_spillLine_96 : decode cX2_spillLine 96 = .ok (.aload_n 0, 1) := by decide +kernel
theorem d_cX2_spillLine_97 : decode cX2_spillLine 97 = .ok (.getfield 48, 3) := by decide +kernel
theorem d_cX2_spillLine_100 : decode cX2_spillLine 100 = .ok (.getfield 249, 3) := by decide +kernel
theorem d_cX2_spillLine_103 : decode cX2_spillLine 103 = .ok (.iload_n 1, 1) := by decide +kernel
theorem d_cX2_spillLine_104 : decode cX2_spillLine 104 = .ok (.iaload, 1) := by decide +kernel
theorem d_cX2_spillLine_105 : decode cX2_spillLine 105 = .ok (.iload 5, 2) := by decide +kernel
theorem d_cX2_spillLine_107 : decode cX2_spillLine 107 = .ok (.iload_n 2, 1) := by decide +kernel
theorem d_cX2_spillLine_108 : decode cX2_spillLine 108 = .ok (.aload_n 0, 1) := by decide +kernel
theorem d_cX2_spillLine_109 : decode cX2_spillLine 109 = .ok (.getfield 48, 3) := by decide +kernel
theorem d_cX2_spillLine_112 : decode cX2_spillLine 112 = .ok (.getfield 252, 3) := by decide +kernel
theorem d_cX2_spillLine_115 : decode cX2_spillLine 115 = .ok (.iload_n 1, 1) := by decide +kernel
theorem d_cX2_spillLine_116 : decode cX2_spillLine 116 = .ok (.iaload, 1) := by decide +kernel
theorem d_cX2_spillLine_117 : decode cX2_spillLine 117 = .ok (.iload_n 3, 1) := by decide +kernel
theorem d_cX2_spillLine_118 : decode cX2_spillLine 118 = .ok (.aload_n 0, 1) := by decide +kernel
theorem d_cX2_spillLine_119 : decode cX2_spillLine 119 = .ok (.getfield 48, 3) := by decide +kernel
theorem d_cX2_spillLine_122 : decode cX2_spillLine 122 = .ok (.getfield 255, 3) := by decide +kernel
theorem d_cX2_spillLine_125 : decode cX2_spillLine 125 = .ok (.iload_n 1, 1) := by decide +kernel
theorem d_cX2_spillLine_126 : decode cX2_spillLine 126 = .ok (.iaload, 1) := by decide +kernel
theorem d_cX2_spillLine_127 : decode cX2_spillLine 127 = .ok (.invokevirtual 197, 3) := by decide +kernel
theorem d_cX2_spillLine_130 : decode cX2_spillLine 130 = .ok (.iload 4, 2) := by decide +kernel
theorem d_cX2_spillLine_132 : decode cX2_spillLine 132 = .ok (.iconst (-1), 1) := by decide +kernel
theorem d_cX2_spillLine_133 : decode cX2_spillLine 133 = .ok (.if_icmp .eq 19, 3) := by decide +kernel
theorem d_cX2_spillLine_136 : decode cX2_spillLine 136 = .ok (.aload_n 0, 1) := by decide +kernel
theorem d_cX2_spillLine_137 : decode cX2_spillLine 137 = .ok (.getfield 52, 3) := by decide +kernel
theorem d_cX2_spillLine_140 : decode cX2_spillLine 140 = .ok (.bipush 18, 2) := by decide +kernel
theorem d_cX2_spillLine_142 : decode cX2_spillLine 142 = .ok (.iconst (-1), 1) := by decide +kernel
theorem d_cX2_spillLine_143 : decode cX2_spillLine 143 = .ok (.iload 5, 2) := by decide +kernel
theorem d_cX2_spillLine_145 : decode cX2_spillLine 145 = .ok (.iconst 0, 1) := by decide +kernel
theorem d_cX2_spillLine_146 : decode cX2_spillLine 146 = .ok (.iconst (-1), 1) := by decide +kernel
theorem d_cX2_spillLine_147 : decode cX2_spillLine 147 = .ok (.iload 4, 2) := by decide +kernel
theorem d_cX2_spillLine_149 : decode cX2_spillLine 149 = .ok (.invokevirtual 197, 3) := by decide +kernel
theorem d_cX2_spillLine_152 : decode cX2_spillLine 152 = .ok (.return_, 1) := by decide +kernel
theorem d_cX3_areJoined_0 : decode cX3_areJoined 0 = .ok (.iload_n 1, 1) := by decide +kernel
theorem d_cX3_areJoined_1 : decode cX3_areJoined 1 = .ok (.ifCond .lt 52, 3) := by decide +kernel
theorem d_cX3_areJoined_4 : decode cX3_areJoined 4 = .ok (.iload_n 1, 1) := by decide +kernel
theorem d_cX3_areJoined_5 : decode cX3_areJoined 5 = .ok (.aload_n 0, 1) := by decide +kernel
theorem d_cX3_areJoined_6 : decode cX3_areJoined 6 = .ok (.getfield 37, 3) := by decide +kernel
theorem d_cX3_areJoined_9 : decode cX3_areJoined 9 = .ok (.if_icmp .ge 44, 3) := by decide +kernel
theorem d_cX3_areJoined_12 : decode cX3_areJoined 12 = .ok (.iload_n 2, 1) := by decide +kernel
theorem d_cX3_areJoined_13 : decode cX3_areJoined 13 = .ok (.ifCond .lt 40, 3) := by decide +kernel
theorem d_cX3_areJoined_16 : decode cX3_areJoined 16 = .ok (.iload_n 2, 1) := by decide +kernel
theorem d_cX3_areJoined_17 : decode cX3_areJoined 17 = .ok (.aload_n 0, 1) := by decide +kernel
theorem d_cX3_areJoined_18 : decode cX3_areJoined 18 = .ok (.getfield 37, 3) := by decide +kernel
theorem d_cX3_areJoined_21 : decode cX3_areJoined 21 = .ok (.if_icmp .ge 32, 3) := by decide +kernel
theorem d_cX3_areJoined_24 : decode cX3_areJoined 24 = .ok (.aload_n 0, 1) := by decide +kernel
theorem d_cX3_areJoined_25 : decode cX3_areJoined 25 = .ok (.getfield 18, 3) := by decide +kernel
theorem d_cX3_areJoined_28 : decode cX3_areJoined 28 = .ok (.iload_n 1, 1) := by decide +kernel
theorem d_cX3_areJoined_29 : decode cX3_areJoined 29 = .ok (.aload_n 0, 1) := by decide +kernel
theorem d_cX3_areJoined_30 : decode cX3_areJoined 30 = .ok (.getfield 41, 3) := by decide +kernel
theorem d_cX3_areJoined_33 : decode cX3_areJoined 33 = .ok (.imul, 1) := by decide +kernel
theorem d_cX3_areJoined_34 : decode cX3_areJoined 34 = .ok (.iload_n 2, 1) := by decide +kernel
theorem d_cX3_areJoined_35 : decode cX3_areJoined 35 = .ok (.bipush 6, 2) := by decide +kernel
theorem d_cX3_areJoined_37 : decode cX3_areJoined 37 = .ok (.ishr, 1) := by decide +kernel
theorem d_cX3_areJoined_38 : decode cX3_areJoined 38 = .ok (.iadd, 1) := by decide +kernel
theorem d_cX3_areJoined_39 : decode cX3_areJoined 39 = .ok (.laload, 1) := by decide +kernel
theorem d_cX3_areJoined_40 : decode cX3_areJoined 40 = .ok (.iload_n 2, 1) := by decide +kernel
theorem d_cX3_areJoined_41 : decode cX3_areJoined 41 = .ok (.lshr, 1) := by decide +kernel
theorem d_cX3_areJoined_42 : decode cX3_areJoined 42 = .ok (.lconst 1, 1) := by decide +kernel
theorem d_cX3_areJoined_43 : decode cX3_areJoined 43 = .ok (.land, 1) := by decide +kernel
theorem d_cX3_areJoined_44 : decode cX3_areJoined 44 = .ok (.lconst 0, 1) := by decide +kernel
theorem d_cX3_areJoined_45 : decode cX3_areJoined 45 = .ok (.lcmp, 1) := by decide +kernel
theorem d_cX3_areJoined_46 : decode cX3_areJoined 46 = .ok (.ifCond .eq 7, 3) := by decide +kernel
theorem d_cX3_areJoined_49 : decode cX3_areJoined 49 = .ok (.iconst 1, 1) := by decide +kernel
theorem d_cX3_areJoined_50 : decode cX3_areJoined 50 = .ok (.goto 4, 3) := by decide +kernel
theorem d_cX3_areJoined_53 : decode cX3_areJoined 53 = .ok (.iconst 0, 1) := by decide +kernel
theorem d_cX3_areJoined_54 : decode cX3_areJoined 54 = .ok (.ireturn, 1) := by decide +kernel
theorem d_cX3_canBeOne_0 : decode cX3_canBeOne 0 = .ok (.iconst 0, 1) := by decide +kernel
theorem d_cX3_canBeOne_1 : decode cX3_canBeOne 1 = .ok (.istore 4, 2) := by decide +kernel
theorem d_cX3_canBeOne_3 : decode cX3_canBeOne 3 = .ok (.iconst 0, 1) := by decide +kernel
theorem d_cX3_canBeOne_4 : decode cX3_canBeOne 4 = .ok (.istore 5, 2) := by decide +kernel
theorem d_cX3_canBeOne_6 : decode cX3_canBeOne 6 = .ok (.iload 5, 2) := by decide +kernel
theorem d_cX3_canBeOne_8 : decode cX3_canBeOne 8 = .ok (.aload_n 0, 1) := by decide +kernel
theorem d_cX3_canBeOne_9 : decode cX3_canBeOne 9 = .ok (.getfield 41, 3) := by decide +kernel
theorem d_cX3_canBeOne_12 : decode cX3_canBeOne 12 = .ok (.if_icmp .ge 130, 3) := by decide +kernel
theorem d_cX3_canBeOne_15 : decode cX3_canBeOne 15 = .ok (.aload_n 0, 1) := by decide +kernel
theorem d_cX3_canBeOne_16 : decode cX3_canBeOne 16 = .ok (.getfield 18, 3) := by decide +kernel
theorem d_cX3_canBeOne_19 : decode cX3_canBeOne 19 = .ok (.iload_n 1, 1) := by decide +kernel
theorem d_cX3_canBeOne_20 : decode cX3_canBeOne 20 = .ok (.aload_n 0, 1) := by decide +kernel
theorem d_cX3_canBeOne_21 : decode cX3_canBeOne 21 = .ok (.getfield 41, 3) := by decide +kernel
theorem d_cX3_canBeOne_24 : decode cX3_canBeOne 24 = .ok (.imul, 1) := by decide +kernel
theorem d_cX3_canBeOne_25 : decode cX3_canBeOne 25 = .ok (.iload 5, 2) := by decide +kernel
theorem d_cX3_canBeOne_27 : decode cX3_canBeOne 27 = .ok (.iadd, 1) := by decide +kernel
theorem d_cX3_canBeOne_28 : decode cX3_canBeOne 28 = .ok (.laload, 1) := by decide +kernel
theorem d_cX3_canBeOne_29 : decode cX3_canBeOne 29 = .ok (.lstore 6, 2) := by decide +kernel
theorem d_cX3_canBeOne_31 : decode cX3_canBeOne 31 = .ok (.aload_n 0, 1) := by decide +kernel
theorem d_cX3_canBeOne_32 : decode cX3_canBeOne 32 = .ok (.getfield 18, 3) := by decide +kernel
theorem d_cX3_canBeOne_35 : decode cX3_canBeOne 35 = .ok (.iload_n 2, 1) := by decide +kernel
theorem d_cX3_canBeOne_36 : decode cX3_canBeOne 36 = .ok (.aload_n 0, 1) := by decide +kernel
theorem d_cX3_canBeOne_37 : decode cX3_canBeOne 37 = .ok (.getfield 41, 3) := by decide +kernel
theorem d_cX3_canBeOne_40 : decode cX3_canBeOne 40 = .ok (.imul, 1) := by decide +kernel
theorem d_cX3_canBeOne_41 : decode cX3_canBeOne 41 = .ok (.iload 5, 2) := by decide +kernel
theorem d_cX3_canBeOne_43 : decode cX3_canBeOne 43 = .ok (.iadd, 1) := by decide +kernel
theorem d_cX3_canBeOne_44 : decode cX3_canBeOne 44 = .ok (.laload, 1) := by decide +kernel
theorem d_cX3_canBeOne_45 : decode cX3_canBeOne 45 = .ok (.lstore 8, 2) := by decide +kernel
theorem d_cX3_canBeOne_47 : decode cX3_canBeOne 47 = .ok (.lload 6, 2) := by decide +kernel
theorem d_cX3_canBeOne_49 : decode cX3_canBeOne 49 = .ok (.lload 8, 2) := by decide +kernel
theorem d_cX3_canBeOne_51 : decode cX3_canBeOne 51 = .ok (.lor, 1) := by decide +kernel
theorem d_cX3_canBeOne_52 : decode cX3_canBeOne 52 = .ok (.lstore 10, 2) := by decide +kernel
theorem d_cX3_canBeOne_54 : decode cX3_canBeOne 54 = .ok (.iconst 0, 1) := by decide +kernel
theorem d_cX3_canBeOne_55 : decode cX3_canBeOne 55 = .ok (.istore 12, 2) := by decide +kernel
theorem d_cX3_canBeOne_57 : decode cX3_canBeOne 57 = .ok (.iload 12, 2) := by decide +kernel
theorem d_cX3_canBeOne_59 : decode cX3_canBeOne 59 = .ok (.bipush 64, 2) := by decide +kernel
theorem d_cX3_canBeOne_61 : decode cX3_canBeOne 61 = .ok (.if_icmp .ge 75, 3) := by decide +kernel
theorem d_cX3_canBeOne_64 : decode cX3_canBeOne 64 = .ok (.lload 10, 2) := by decide +kernel
theorem d_cX3_canBeOne_66 : decode cX3_canBeOne 66 = .ok (.lconst 0, 1) := by decide +kernel
theorem d_cX3_canBeOne_67 : decode cX3_canBeOne 67 = .ok (.lcmp, 1) := by decide +kernel
theorem d_cX3_canBeOne_68 : decode cX3_canBeOne 68 = .ok (.ifCond .eq 68, 3) := by decide +kernel
theorem d_cX3_canBeOne_71 : decode cX3_canBeOne 71 = .ok (.lload 10, 2) := by decide +kernel
theorem d_cX3_canBeOne_73 : decode cX3_canBeOne 73 = .ok (.invokestatic 93, 3) := by decide +kernel
theorem d_cX3_canBeOne_76 : decode cX3_canBeOne 76 = .ok (.istore 13, 2) := by decide +kernel
theorem d_cX3_canBeOne_78 : decode cX3_canBeOne 78 = .ok (.lload 10, 2) := by decide +kernel
theorem d_cX3_canBeOne_80 : decode cX3_canBeOne 80 = .ok (.lload 10, 2) := by decide +kernel
theorem d_cX3_canBeOne_82 : decode cX3_canBeOne 82 = .ok (.lconst 1, 1) := by decide +kernel
theorem d_cX3_canBeOne_83 : decode cX3_canBeOne 83 = .ok (.lsub, 1) := by decide +kernel
theorem d_cX3_canBeOne_84 : decode cX3_canBeOne 84 = .ok (.land, 1) := by decide +kernel
theorem d_cX3_canBeOne_85 : decode cX3_canBeOne 85 = .ok (.lstore 10, 2) := by decide +kernel
theorem d_cX3_canBeOne_87 : decode cX3_canBeOne 87 = .ok (.aload_n 0, 1) := by decide +kernel
theorem d_cX3_canBeOne_88 : decode cX3_canBeOne 88 = .ok (.getfield 25, 3) := by decide +kernel
theorem d_cX3_canBeOne_91 : decode cX3_canBeOne 91 = .ok (.iload 5, 2) := by decide +kernel
theorem d_cX3_canBeOne_93 : decode cX3_canBeOne 93 = .ok (.bipush 6, 2) := by decide +kernel
theorem d_cX3_canBeOne_95 : decode cX3_canBeOne 95 = .ok (.ishl, 1) := by decide +kernel
theorem d_cX3_canBeOne_96 : decode cX3_canBeOne 96 = .ok (.iload 13, 2) := by decide +kernel
theorem d_cX3_canBeOne_98 : decode cX3_canBeOne 98 = .ok (.ior, 1) := by decide +kernel
theorem d_cX3_canBeOne_99 : decode cX3_canBeOne 99 = .ok (.iaload, 1) := by decide +kernel
theorem d_cX3_canBeOne_100 : decode cX3_canBeOne 100 = .ok (.lload 6, 2) := by decide +kernel
theorem d_cX3_canBeOne_102 : decode cX3_canBeOne 102 = .ok (.lload 8, 2) := by decide +kernel
theorem d_cX3_canBeOne_104 : decode cX3_canBeOne 104 = .ok (.land, 1) := by decide +kernel
theorem d_cX3_canBeOne_105 : decode cX3_canBeOne 105 = .ok (.iload 13, 2) := by decide +kernel
theorem d_cX3_canBeOne_107 : decode cX3_canBeOne 107 = .ok (.lushr, 1) := by decide +kernel
theorem d_cX3_canBeOne_108 : decode cX3_canBeOne 108 = .ok (.lconst 1, 1) := by decide +kernel
theorem d_cX3_canBeOne_109 : decode cX3_canBeOne 109 = .ok (.land, 1) := by decide +kernel
theorem d_cX3_canBeOne_110 : decode cX3_canBeOne 110 = .ok (.l2i, 1) := by decide +kernel
theorem d_cX3_canBeOne_111 : decode cX3_canBeOne 111 = .ok (.isub, 1) := by decide +kernel
theorem d_cX3_canBeOne_112 : decode cX3_canBeOne 112 = .ok (.istore 14, 2) := by decide +kernel
theorem d_cX3_canBeOne_114 : decode cX3_canBeOne 114 = .ok (.iload 4, 2) := by decide +kernel
theorem d_cX3_canBeOne_116 : decode cX3_canBeOne 116 = .ok (.iload 14, 2) := by decide +kernel
theorem d_cX3_canBeOne_118 : decode cX3_canBeOne 118 = .ok (.iload_n 3, 1) := by decide +kernel
theorem d_cX3_canBeOne_119 : decode cX3_canBeOne 119 = .ok (.if_icmp .lt 7, 3) := by decide +kernel
theorem d_cX3_canBeOne_122 : decode cX3_canBeOne 122 = .ok (.iconst 1, 1) := by decide +kernel
theorem d_cX3_canBeOne_123 : decode cX3_canBeOne 123 = .ok (.goto 4, 3) := by decide +kernel
theorem d_cX3_canBeOne_126 : decode cX3_canBeOne 126 = .ok (.iconst 0, 1) := by decide +kernel
theorem d_cX3_canBeOne_127 : decode cX3_canBeOne 127 = .ok (.iadd, 1) := by decide +kernel
theorem d_cX3_canBeOne_128 : decode cX3_canBeOne 128 = .ok (.istore 4, 2) := by decide +kernel
theorem d_cX3_canBeOne_130 : decode cX3_canBeOne 130 = .ok (.iinc 12 1, 3) := by decide +kernel
theorem d_cX3_canBeOne_133 : decode cX3_canBeOne 133 = .ok (.goto (-76), 3) := by decide +kernel
theorem d_cX3_canBeOne_136 : decode cX3_canBeOne 136 = .ok (.iinc 5 1, 3) := by decide +kernel
theorem d_cX3_canBeOne_139 : decode cX3_canBeOne 139 = .ok (.goto (-133), 3) := by decide +kernel
theorem d_cX3_canBeOne_142 : decode cX3_canBeOne 142 = .ok (.iload 4, 2) := by decide +kernel
theorem d_cX3_canBeOne_144 : decode cX3_canBeOne 144 = .ok (.iload_n 3, 1) := by decide +kernel
theorem d_cX3_canBeOne_145 : decode cX3_canBeOne 145 = .ok (.if_icmp .ge 7, 3) := by decide +kernel
theorem d_cX3_canBeOne_148 : decode cX3_canBeOne 148 = .ok (.iconst 1, 1) := by decide +kernel
theorem d_cX3_canBeOne_149 : decode cX3_canBeOne 149 = .ok (.goto 4, 3) := by decide +kernel
theorem d_cX3_canBeOne_152 : decode cX3_canBeOne 152 = .ok (.iconst 0, 1) := by decide +kernel
theorem d_cX3_canBeOne_153 : decode cX3_canBeOne 153 = .ok (.ireturn, 1) := by decide +kernel
theorem d_cX3_stands_0 : decode cX3_stands 0 = .ok (.iload_n 1, 1) := by decide +kernel
theorem d_cX3_stands_1 : decode cX3_stands 1 = .ok (.ifCond .lt 33, 3) := by decide +kernel
theorem d_cX3_stands_4 : decode cX3_stands 4 = .ok (.iload_n 1, 1) := by decide +kernel
theorem d_cX3_stands_5 : decode cX3_stands 5 = .ok (.aload_n 0, 1) := by decide +kernel
theorem d_cX3_stands_6 : decode cX3_stands 6 = .ok (.getfield 37, 3) := by decide +kernel
theorem d_cX3_stands_9 : decode cX3_stands 9 = .ok (.if_icmp .ge 25, 3) := by decide +kernel
theorem d_cX3_stands_12 : decode cX3_stands 12 = .ok (.aload_n 0, 1) := by decide +kernel
theorem d_cX3_stands_13 : decode cX3_stands 13 = .ok (.getfield 22, 3) := by decide +kernel
theorem d_cX3_stands_16 : decode cX3_stands 16 = .ok (.iload_n 1, 1) := by decide +kernel
theorem d_cX3_stands_17 : decode cX3_stands 17 = .ok (.bipush 6, 2) := by decide +kernel
theorem d_cX3_stands_19 : decode cX3_stands 19 = .ok (.ishr, 1) := by decide +kernel
theorem d_cX3_stands_20 : decode cX3_stands 20 = .ok (.laload, 1) := by decide +kernel
theorem d_cX3_stands_21 : decode cX3_stands 21 = .ok (.iload_n 1, 1) := by decide +kernel
theorem d_cX3_stands_22 : decode cX3_stands 22 = .ok (.lshr, 1) := by decide +kernel
theorem d_cX3_stands_23 : decode cX3_stands 23 = .ok (.lconst 1, 1) := by decide +kernel
theorem d_cX3_stands_24 : decode cX3_stands 24 = .ok (.land, 1) := by decide +kernel
theorem d_cX3_stands_25 : decode cX3_stands 25 = .ok (.lconst 0, 1) := by decide +kernel
theorem d_cX3_stands_26 : decode cX3_stands 26 = .ok (.lcmp, 1) := by decide +kernel
theorem d_cX3_stands_27 : decode cX3_stands 27 = .ok (.ifCond .eq 7, 3) := by decide +kernel
theorem d_cX3_stands_30 : decode cX3_stands 30 = .ok (.iconst 1, 1) := by decide +kernel
theorem d_cX3_stands_31 : decode cX3_stands 31 = .ok (.goto 4, 3) := by decide +kernel
theorem d_cX3_stands_34 : decode cX3_stands 34 = .ok (.iconst 0, 1) := by decide +kernel
theorem d_cX3_stands_35 : decode cX3_stands 35 = .ok (.ireturn, 1) := by decide +kernel
theorem d_cX5_isLiveBefore_0 : decode cX5_isLiveBefore 0 = .ok (.aload_n 0, 1) := by decide +kernel
theorem d_cX5_isLiveBefore_1 : decode cX5_isLiveBefore 1 = .ok (.iload_n 2, 1) := by decide +kernel
theorem d_cX5_isLiveBefore_2 : decode cX5_isLiveBefore 2 = .ok (.invokevirtual 79, 3) := by decide +kernel
theorem d_cX5_isLiveBefore_5 : decode cX5_isLiveBefore 5 = .ok (.ifCond .eq 42, 3) := by decide +kernel
theorem d_cX5_isLiveBefore_8 : decode cX5_isLiveBefore 8 = .ok (.iload_n 1, 1) := by decide +kernel
theorem d_cX5_isLiveBefore_9 : decode cX5_isLiveBefore 9 = .ok (.ifCond .lt 38, 3) := by decide +kernel
theorem d_cX5_isLiveBefore_12 : decode cX5_isLiveBefore 12 = .ok (.iload_n 1, 1) := by decide +kernel
theorem d_cX5_isLiveBefore_13 : decode cX5_isLiveBefore 13 = .ok (.bipush 40, 2) := by decide +kernel
theorem d_cX5_isLiveBefore_15 : decode cX5_isLiveBefore 15 = .ok (.if_icmp .ge 32, 3) := by decide +kernel
theorem d_cX5_isLiveBefore_18 : decode cX5_isLiveBefore 18 = .ok (.aload_n 0, 1) := by decide +kernel
theorem d_cX5_isLiveBefore_19 : decode cX5_isLiveBefore 19 = .ok (.getfield 9, 3) := by decide +kernel
theorem d_cX5_isLiveBefore_22 : decode cX5_isLiveBefore 22 = .ok (.iload_n 1, 1) := by decide +kernel
theorem d_cX5_isLiveBefore_23 : decode cX5_isLiveBefore 23 = .ok (.aload_n 0, 1) := by decide +kernel
theorem d_cX5_isLiveBefore_24 : decode cX5_isLiveBefore 24 = .ok (.getfield 37, 3) := by decide +kernel
theorem d_cX5_isLiveBefore_27 : decode cX5_isLiveBefore 27 = .ok (.imul, 1) := by decide +kernel
theorem d_cX5_isLiveBefore_28 : decode cX5_isLiveBefore 28 = .ok (.iload_n 2, 1) := by decide +kernel
theorem d_cX5_isLiveBefore_29 : decode cX5_isLiveBefore 29 = .ok (.bipush 6, 2) := by decide +kernel
theorem d_cX5_isLiveBefore_31 : decode cX5_isLiveBefore 31 = .ok (.ishr, 1) := by decide +kernel
theorem d_cX5_isLiveBefore_32 : decode cX5_isLiveBefore 32 = .ok (.iadd, 1) := by decide +kernel
theorem d_cX5_isLiveBefore_33 : decode cX5_isLiveBefore 33 = .ok (.laload, 1) := by decide +kernel
theorem d_cX5_isLiveBefore_34 : decode cX5_isLiveBefore 34 = .ok (.iload_n 2, 1) := by decide +kernel
theorem d_cX5_isLiveBefore_35 : decode cX5_isLiveBefore 35 = .ok (.lshr, 1) := by decide +kernel
theorem d_cX5_isLiveBefore_36 : decode cX5_isLiveBefore 36 = .ok (.lconst 1, 1) := by decide +kernel
theorem d_cX5_isLiveBefore_37 : decode cX5_isLiveBefore 37 = .ok (.land, 1) := by decide +kernel
theorem d_cX5_isLiveBefore_38 : decode cX5_isLiveBefore 38 = .ok (.lconst 0, 1) := by decide +kernel
theorem d_cX5_isLiveBefore_39 : decode cX5_isLiveBefore 39 = .ok (.lcmp, 1) := by decide +kernel
theorem d_cX5_isLiveBefore_40 : decode cX5_isLiveBefore 40 = .ok (.ifCond .eq 7, 3) := by decide +kernel
theorem d_cX5_isLiveBefore_43 : decode cX5_isLiveBefore 43 = .ok (.iconst 1, 1) := by decide +kernel
theorem d_cX5_isLiveBefore_44 : decode cX5_isLiveBefore 44 = .ok (.goto 4, 3) := by decide +kernel
theorem d_cX5_isLiveBefore_47 : decode cX5_isLiveBefore 47 = .ok (.iconst 0, 1) := by decide +kernel
theorem d_cX5_isLiveBefore_48 : decode cX5_isLiveBefore 48 = .ok (.ireturn, 1) := by decide +kernel
theorem d_cX5_isName_0 : decode cX5_isName 0 = .ok (.iload_n 1, 1) := by decide +kernel
theorem d_cX5_isName_1 : decode cX5_isName 1 = .ok (.ifCond .lt 15, 3) := by decide +kernel
theorem d_cX5_isName_4 : decode cX5_isName 4 = .ok (.iload_n 1, 1) := by decide +kernel
theorem d_cX5_isName_5 : decode cX5_isName 5 = .ok (.aload_n 0, 1) := by decide +kernel
theorem d_cX5_isName_6 : decode cX5_isName 6 = .ok (.getfield 33, 3) := by decide +kernel
theorem d_cX5_isName_9 : decode cX5_isName 9 = .ok (.if_icmp .ge 7, 3) := by decide +kernel
theorem d_cX5_isName_12 : decode cX5_isName 12 = .ok (.iconst 1, 1) := by decide +kernel
theorem d_cX5_isName_13 : decode cX5_isName 13 = .ok (.goto 4, 3) := by decide +kernel
theorem d_cX5_isName_16 : decode cX5_isName 16 = .ok (.iconst 0, 1) := by decide +kernel
theorem d_cX5_isName_17 : decode cX5_isName 17 = .ok (.ireturn, 1) := by decide +kernel
