theorem w_2_111 : (Jvm.Cond.fieldLink "SpillForge$Giver" (37 : Nat) "SpillForge$Giver" "slotOf" "[I") ∈ gw := gw_2 111 rfl rfl
theorem w_2_115 : (Jvm.Cond.fieldLink "SpillForge$Giver" (111 : Nat) "SpillForge$Giver" "names" "I") ∈ gw := gw_2 115 rfl rfl
theorem w_2_114 : (Jvm.Cond.fieldLink "SpillForge$Giver" (52 : Nat) "SpillForge$Giver" "spare" "LSpillForge$Code;") ∈ gw := gw_2 114 rfl rfl
theorem w_5_189 : (Jvm.Cond.methodLink "SpillForge$Giver" (242 : Nat) ({ cls := "SpillForge$Giver", name := "slotFor", desc := "(I)I" } : Jvm.MethodName)) ∈ gw := gw_5 189 rfl rfl
theorem w_1_8 : (Jvm.Cond.initialized "SpillForge$Giver") ∈ gw := gw_1 8 rfl rfl
theorem w_5_192 : (Jvm.Cond.code ({ cls := "SpillForge$Giver", name := "slotFor", desc := "(I)I" } : Jvm.MethodName) prog_4_method_24_code (2 : Nat) (Option.some Jvm.ClassFile.FieldType.int)) ∈ gw := gw_5 192 rfl rfl
theorem w_5_191 : (Jvm.Cond.instanceMethod ({ cls := "SpillForge$Giver", name := "slotFor", desc := "(I)I" } : Jvm.MethodName)) ∈ gw := gw_5 191 rfl rfl
theorem w_p_53 : Cond.selects "SpillForge$Giver" ⟨"SpillForge$Giver", "slotFor", "(I)I"⟩ ⟨"SpillForge$Giver", "slotFor", "(I)I"⟩ ∈ gw := gw_p _ 53 rfl rfl rfl
theorem w_5_193 : (Jvm.Cond.methodLink "SpillForge$Giver" (245 : Nat) ({ cls := "SpillForge$Giver", name := "newTemporary", desc := "()I" } : Jvm.MethodName)) ∈ gw := gw_5 193 rfl rfl
theorem w_5_196 : (Jvm.Cond.code ({ cls := "SpillForge$Giver", name := "newTemporary", desc := "()I" } : Jvm.MethodName) prog_4_method_25_code (1 : Nat) (Option.some Jvm.ClassFile.FieldType.int)) ∈ gw := gw_5 196 rfl rfl
theorem w_5_195 : (Jvm.Cond.instanceMethod ({ cls := "SpillForge$Giver", name := "newTemporary", desc := "()I" } : Jvm.MethodName)) ∈ gw := gw_5 195 rfl rfl
theorem w_p_54 : Cond.selects "SpillForge$Giver" ⟨"SpillForge$Giver", "newTemporary", "()I"⟩ ⟨"SpillForge$Giver", "newTemporary", "()I"⟩ ∈ gw := gw_p _ 54 rfl rfl rfl
theorem w_1_197 : (Jvm.Cond.fieldLink "SpillForge$Code" (49 : Nat) "SpillForge$Code" "lines" "I") ∈ gw := gw_1 197 rfl rfl
theorem w_1_159 : (Jvm.Cond.fieldLink "SpillForge$Code" (27 : Nat) "SpillForge$Code" "op" "[I") ∈ gw := gw_1 159 rfl rfl
theorem w_1_163 : (Jvm.Cond.fieldLink "SpillForge$Code" (30 : Nat) "SpillForge$Code" "set" "[I") ∈ gw := gw_1 163 rfl rfl
theorem w_1_168 : (Jvm.Cond.fieldLink "SpillForge$Code" (33 : Nat) "SpillForge$Code" "left" "[I") ∈ gw := gw_1 168 rfl rfl
theorem w_1_174 : (Jvm.Cond.fieldLink "SpillForge$Code" (36 : Nat) "SpillForge$Code" "leftNumber" "[I") ∈ gw := gw_1 174 rfl rfl
theorem w_1_178 : (Jvm.Cond.fieldLink "SpillForge$Code" (39 : Nat) "SpillForge$Code" "right" "[I") ∈ gw := gw_1 178 rfl rfl
theorem w_1_183 : (Jvm.Cond.fieldLink "SpillForge$Code" (42 : Nat) "SpillForge$Code" "rightNumber" "[I") ∈ gw := gw_1 183 rfl rfl
theorem w_1_200 : (Jvm.Cond.fieldLink "SpillForge$Code" (52 : Nat) "SpillForge$Code" "isFull" "Z") ∈ gw := gw_1 200 rfl rfl
theorem w_4_82 : (Jvm.Cond.methodLink "SpillForge$Giver" (197 : Nat) ({ cls := "SpillForge$Code", name := "add", desc := "(IIIIII)V" } : Jvm.MethodName)) ∈ gw := gw_4 82 rfl rfl
theorem w_1_5 : (Jvm.Cond.initialized "SpillForge$Code") ∈ gw := gw_1 5 rfl rfl
theorem w_3_172 : (Jvm.Cond.code ({ cls := "SpillForge$Code", name := "add", desc := "(IIIIII)V" } : Jvm.MethodName) prog_2_method_8_code (7 : Nat) (Option.none : Option Jvm.ClassFile.FieldType)) ∈ gw := gw_3 172 rfl rfl
theorem w_3_170 : (Jvm.Cond.instanceMethod ({ cls := "SpillForge$Code", name := "add", desc := "(IIIIII)V" } : Jvm.MethodName)) ∈ gw := gw_3 170 rfl rfl
theorem w_3_171 : (Jvm.Cond.selects "SpillForge$Code" ({ cls := "SpillForge$Code", name := "add", desc := "(IIIIII)V" } : Jvm.MethodName) ({ cls := "SpillForge$Code", name := "add", desc := "(IIIIII)V" } : Jvm.MethodName)) ∈ gw := gw_3 171 rfl rfl
theorem w_2_113 : (Jvm.Cond.fieldLink "SpillForge$Giver" (48 : Nat) "SpillForge$Giver" "code" "LSpillForge$Code;") ∈ gw := gw_2 113 rfl rfl
theorem w_5_185 : (Jvm.Cond.methodLink "SpillForge$Giver" (239 : Nat) ({ cls := "SpillForge$Giver", name := "loaded", desc := "(I)I" } : Jvm.MethodName)) ∈ gw := gw_5 185 rfl rfl
theorem w_5_188 : (Jvm.Cond.code ({ cls := "SpillForge$Giver", name := "loaded", desc := "(I)I" } : Jvm.MethodName) prog_4_method_23_code (4 : Nat) (Option.some Jvm.ClassFile.FieldType.int)) ∈ gw := gw_5 188 rfl rfl
theorem w_5_187 : (Jvm.Cond.instanceMethod ({ cls := "SpillForge$Giver", name := "loaded", desc := "(I)I" } : Jvm.MethodName)) ∈ gw := gw_5 187 rfl rfl
theorem w_p_52 : Cond.selects "SpillForge$Giver" ⟨"SpillForge$Giver", "loaded", "(I)I"⟩ ⟨"SpillForge$Giver", "loaded", "(I)I"⟩ ∈ gw := gw_p _ 52 rfl rfl rfl
theorem w_2_106 : (Jvm.Cond.fieldLink "SpillForge$Giver" (12 : Nat) "SpillForge$Giver" "graph" "LSpillForge$Graph;") ∈ gw := gw_2 106 rfl rfl
theorem w_2_55 : (Jvm.Cond.fieldLink "SpillForge$Graph" (37 : Nat) "SpillForge$Graph" "names" "I") ∈ gw := gw_2 55 rfl rfl
theorem w_2_49 : (Jvm.Cond.fieldLink "SpillForge$Graph" (18 : Nat) "SpillForge$Graph" "joined" "[J") ∈ gw := gw_2 49 rfl rfl
theorem w_2_57 : (Jvm.Cond.fieldLink "SpillForge$Graph" (41 : Nat) "SpillForge$Graph" "words" "I") ∈ gw := gw_2 57 rfl rfl
theorem w_5_97 : (Jvm.Cond.methodLink "SpillForge$Giver" (227 : Nat) ({ cls := "SpillForge$Graph", name := "areJoined", desc := "(II)Z" } : Jvm.MethodName)) ∈ gw := gw_5 97 rfl rfl
theorem w_1_9 : (Jvm.Cond.initialized "SpillForge$Graph") ∈ gw := gw_1 9 rfl rfl
theorem w_5_100 : (Jvm.Cond.code ({ cls := "SpillForge$Graph", name := "areJoined", desc := "(II)Z" } : Jvm.MethodName) prog_5_method_7_code (3 : Nat) (Option.some Jvm.ClassFile.FieldType.boolean)) ∈ gw := gw_5 100 rfl rfl
theorem w_5_98 : (Jvm.Cond.instanceMethod ({ cls := "SpillForge$Graph", name := "areJoined", desc := "(II)Z" } : Jvm.MethodName)) ∈ gw := gw_5 98 rfl rfl
theorem w_5_99 : (Jvm.Cond.selects "SpillForge$Graph" ({ cls := "SpillForge$Graph", name := "areJoined", desc := "(II)Z" } : Jvm.MethodName) ({ cls := "SpillForge$Graph", name := "areJoined", desc := "(II)Z" } : Jvm.MethodName)) ∈ gw := gw_5 99 rfl rfl
theorem w_4_96 : (Jvm.Cond.constantLong "java/lang/Long" (314 : Nat) (6148914691236517205 : Int64)) ∈ gw := gw_4 96 rfl rfl
theorem w_4_97 : (Jvm.Cond.constantLong "java/lang/Long" (316 : Nat) (3689348814741910323 : Int64)) ∈ gw := gw_4 97 rfl rfl
theorem w_4_98 : (Jvm.Cond.constantLong "java/lang/Long" (318 : Nat) (1085102592571150095 : Int64)) ∈ gw := gw_4 98 rfl rfl
theorem w_4_128 : (Jvm.Cond.methodLink "SpillForge" (228 : Nat) ({ cls := "java/lang/Long", name := "bitCount", desc := "(J)I" } : Jvm.MethodName)) ∈ gw := gw_4 128 rfl rfl
theorem w_1_31 : (Jvm.Cond.initialized "java/lang/Long") ∈ gw := gw_1 31 rfl rfl
theorem w_4_95 : (Jvm.Cond.code ({ cls := "java/lang/Long", name := "bitCount", desc := "(J)I" } : Jvm.MethodName) prog_31_method_50_code (2 : Nat) (Option.some Jvm.ClassFile.FieldType.int)) ∈ gw := gw_4 95 rfl rfl
theorem w_4_94 : (Jvm.Cond.static ({ cls := "java/lang/Long", name := "bitCount", desc := "(J)I" } : Jvm.MethodName)) ∈ gw := gw_4 94 rfl rfl
theorem w_1_1 : (Jvm.Cond.initialized "SpillForge") ∈ gw := gw_1 1 rfl rfl
theorem w_4_127 : (Jvm.Cond.code ({ cls := "SpillForge", name := "lowestBit", desc := "(J)I" } : Jvm.MethodName) prog_1_method_16_code (2 : Nat) (Option.some Jvm.ClassFile.FieldType.int)) ∈ gw := gw_4 127 rfl rfl
theorem w_4_126 : (Jvm.Cond.static ({ cls := "SpillForge", name := "lowestBit", desc := "(J)I" } : Jvm.MethodName)) ∈ gw := gw_4 126 rfl rfl
theorem w_2_52 : (Jvm.Cond.fieldLink "SpillForge$Graph" (25 : Nat) "SpillForge$Graph" "degree" "[I") ∈ gw := gw_2 52 rfl rfl
theorem w_5_101 : (Jvm.Cond.methodLink "SpillForge$Giver" (230 : Nat) ({ cls := "SpillForge$Graph", name := "canBeOne", desc := "(III)Z" } : Jvm.MethodName)) ∈ gw := gw_5 101 rfl rfl
theorem w_5_104 : (Jvm.Cond.code ({ cls := "SpillForge$Graph", name := "canBeOne", desc := "(III)Z" } : Jvm.MethodName) prog_5_method_8_code (15 : Nat) (Option.some Jvm.ClassFile.FieldType.boolean)) ∈ gw := gw_5 104 rfl rfl
theorem w_5_102 : (Jvm.Cond.instanceMethod ({ cls := "SpillForge$Graph", name := "canBeOne", desc := "(III)Z" } : Jvm.MethodName)) ∈ gw := gw_5 102 rfl rfl
theorem w_5_103 : (Jvm.Cond.selects "SpillForge$Graph" ({ cls := "SpillForge$Graph", name := "canBeOne", desc := "(III)Z" } : Jvm.MethodName) ({ cls := "SpillForge$Graph", name := "canBeOne", desc := "(III)Z" } : Jvm.MethodName)) ∈ gw := gw_5 103 rfl rfl
theorem w_5_92 : (Jvm.Cond.methodLink "SpillForge$Giver" (220 : Nat) ({ cls := "SpillForge$Code", name := "copiesRegister", desc := "(I)Z" } : Jvm.MethodName)) ∈ gw := gw_5 92 rfl rfl
theorem w_4_119 : (Jvm.Cond.code ({ cls := "SpillForge$Code", name := "copiesRegister", desc := "(I)Z" } : Jvm.MethodName) prog_2_method_17_code (2 : Nat) (Option.some Jvm.ClassFile.FieldType.boolean)) ∈ gw := gw_4 119 rfl rfl
theorem w_4_117 : (Jvm.Cond.instanceMethod ({ cls := "SpillForge$Code", name := "copiesRegister", desc := "(I)Z" } : Jvm.MethodName)) ∈ gw := gw_4 117 rfl rfl
theorem w_4_118 : (Jvm.Cond.selects "SpillForge$Code" ({ cls := "SpillForge$Code", name := "copiesRegister", desc := "(I)Z" } : Jvm.MethodName) ({ cls := "SpillForge$Code", name := "copiesRegister", desc := "(I)Z" } : Jvm.MethodName)) ∈ gw := gw_4 118 rfl rfl
theorem w_5_93 : (Jvm.Cond.methodLink "SpillForge$Giver" (223 : Nat) ({ cls := "SpillForge$Giver", name := "canMerge", desc := "(III)Z" } : Jvm.MethodName)) ∈ gw := gw_5 93 rfl rfl
theorem w_5_96 : (Jvm.Cond.code ({ cls := "SpillForge$Giver", name := "canMerge", desc := "(III)Z" } : Jvm.MethodName) prog_4_method_19_code (4 : Nat) (Option.some Jvm.ClassFile.FieldType.boolean)) ∈ gw := gw_5 96 rfl rfl
theorem w_5_95 : (Jvm.Cond.instanceMethod ({ cls := "SpillForge$Giver", name := "canMerge", desc := "(III)Z" } : Jvm.MethodName)) ∈ gw := gw_5 95 rfl rfl
theorem w_p_42 : Cond.selects "SpillForge$Giver" ⟨"SpillForge$Giver", "canMerge", "(III)Z"⟩ ⟨"SpillForge$Giver", "canMerge", "(III)Z"⟩ ∈ gw := gw_p _ 42 rfl rfl rfl
theorem w_2_112 : (Jvm.Cond.fieldLink "SpillForge$Giver" (40 : Nat) "SpillForge$Giver" "sharedSlot" "[I") ∈ gw := gw_2 112 rfl rfl
theorem w_2_27 : (Jvm.Cond.fieldLink "SpillForge$Live" (33 : Nat) "SpillForge$Live" "names" "I") ∈ gw := gw_2 27 rfl rfl
theorem w_4_56 : (Jvm.Cond.methodLink "SpillForge$Live" (79 : Nat) ({ cls := "SpillForge$Live", name := "isName", desc := "(I)Z" } : Jvm.MethodName)) ∈ gw := gw_4 56 rfl rfl
theorem w_1_10 : (Jvm.Cond.initialized "SpillForge$Live") ∈ gw := gw_1 10 rfl rfl
theorem w_4_59 : (Jvm.Cond.code ({ cls := "SpillForge$Live", name := "isName", desc := "(I)Z" } : Jvm.MethodName) prog_7_method_3_code (2 : Nat) (Option.some Jvm.ClassFile.FieldType.boolean)) ∈ gw := gw_4 59 rfl rfl
theorem w_4_57 : (Jvm.Cond.instanceMethod ({ cls := "SpillForge$Live", name := "isName", desc := "(I)Z" } : Jvm.MethodName)) ∈ gw := gw_4 57 rfl rfl
theorem w_4_58 : (Jvm.Cond.selects "SpillForge$Live" ({ cls := "SpillForge$Live", name := "isName", desc := "(I)Z" } : Jvm.MethodName) ({ cls := "SpillForge$Live", name := "isName", desc := "(I)Z" } : Jvm.MethodName)) ∈ gw := gw_4 58 rfl rfl
theorem w_2_22 : (Jvm.Cond.fieldLink "SpillForge$Live" (9 : Nat) "SpillForge$Live" "in" "[J") ∈ gw := gw_2 22 rfl rfl
theorem w_2_29 : (Jvm.Cond.fieldLink "SpillForge$Live" (37 : Nat) "SpillForge$Live" "words" "I") ∈ gw := gw_2 29 rfl rfl
theorem w_4_78 : (Jvm.Cond.methodLink "SpillForge$Giver" (193 : Nat) ({ cls := "SpillForge$Live", name := "isLiveBefore", desc := "(II)Z" } : Jvm.MethodName)) ∈ gw := gw_4 78 rfl rfl
theorem w_4_81 : (Jvm.Cond.code ({ cls := "SpillForge$Live", name := "isLiveBefore", desc := "(II)Z" } : Jvm.MethodName) prog_7_method_10_code (3 : Nat) (Option.some Jvm.ClassFile.FieldType.boolean)) ∈ gw := gw_4 81 rfl rfl
theorem w_4_79 : (Jvm.Cond.instanceMethod ({ cls := "SpillForge$Live", name := "isLiveBefore", desc := "(II)Z" } : Jvm.MethodName)) ∈ gw := gw_4 79 rfl rfl
theorem w_4_80 : (Jvm.Cond.selects "SpillForge$Live" ({ cls := "SpillForge$Live", name := "isLiveBefore", desc := "(II)Z" } : Jvm.MethodName) ({ cls := "SpillForge$Live", name := "isLiveBefore", desc := "(II)Z" } : Jvm.MethodName)) ∈ gw := gw_4 80 rfl rfl
theorem w_2_107 : (Jvm.Cond.fieldLink "SpillForge$Giver" (23 : Nat) "SpillForge$Giver" "colouring" "LSpillForge$Colouring;") ∈ gw := gw_2 107 rfl rfl
theorem w_2_78 : (Jvm.Cond.fieldLink "SpillForge$Colouring" (27 : Nat) "SpillForge$Colouring" "graph" "LSpillForge$Graph;") ∈ gw := gw_2 78 rfl rfl
theorem w_2_51 : (Jvm.Cond.fieldLink "SpillForge$Graph" (22 : Nat) "SpillForge$Graph" "standing" "[J") ∈ gw := gw_2 51 rfl rfl
theorem w_5_122 : (Jvm.Cond.methodLink "SpillForge$Colouring" (31 : Nat) ({ cls := "SpillForge$Graph", name := "stands", desc := "(I)Z" } : Jvm.MethodName)) ∈ gw := gw_5 122 rfl rfl
theorem w_4_167 : (Jvm.Cond.code ({ cls := "SpillForge$Graph", name := "stands", desc := "(I)Z" } : Jvm.MethodName) prog_5_method_6_code (2 : Nat) (Option.some Jvm.ClassFile.FieldType.boolean)) ∈ gw := gw_4 167 rfl rfl
theorem w_4_165 : (Jvm.Cond.instanceMethod ({ cls := "SpillForge$Graph", name := "stands", desc := "(I)Z" } : Jvm.MethodName)) ∈ gw := gw_4 165 rfl rfl
theorem w_4_166 : (Jvm.Cond.selects "SpillForge$Graph" ({ cls := "SpillForge$Graph", name := "stands", desc := "(I)Z" } : Jvm.MethodName) ({ cls := "SpillForge$Graph", name := "stands", desc := "(I)Z" } : Jvm.MethodName)) ∈ gw := gw_4 166 rfl rfl
theorem w_2_83 : (Jvm.Cond.fieldLink "SpillForge$Colouring" (24 : Nat) "SpillForge$Colouring" "colour" "[I") ∈ gw := gw_2 83 rfl rfl
theorem w_5_173 : (Jvm.Cond.methodLink "SpillForge$Giver" (233 : Nat) ({ cls := "SpillForge$Colouring", name := "isWithout", desc := "(I)Z" } : Jvm.MethodName)) ∈ gw := gw_5 173 rfl rfl
theorem w_1_11 : (Jvm.Cond.initialized "SpillForge$Colouring") ∈ gw := gw_1 11 rfl rfl
theorem w_5_176 : (Jvm.Cond.code ({ cls := "SpillForge$Colouring", name := "isWithout", desc := "(I)Z" } : Jvm.MethodName) prog_3_method_3_code (2 : Nat) (Option.some Jvm.ClassFile.FieldType.boolean)) ∈ gw := gw_5 176 rfl rfl
theorem w_5_174 : (Jvm.Cond.instanceMethod ({ cls := "SpillForge$Colouring", name := "isWithout", desc := "(I)Z" } : Jvm.MethodName)) ∈ gw := gw_5 174 rfl rfl
theorem w_5_175 : (Jvm.Cond.selects "SpillForge$Colouring" ({ cls := "SpillForge$Colouring", name := "isWithout", desc := "(I)Z" } : Jvm.MethodName) ({ cls := "SpillForge$Colouring", name := "isWithout", desc := "(I)Z" } : Jvm.MethodName)) ∈ gw := gw_5 175 rfl rfl
theorem w_2_116 : (Jvm.Cond.fieldLink "SpillForge$Giver" (162 : Nat) "SpillForge$Giver" "slots" "I") ∈ gw := gw_2 116 rfl rfl
theorem w_2_118 : (Jvm.Cond.fieldLink "SpillForge$Giver" (67 : Nat) "SpillForge$Giver" "spilled" "I") ∈ gw := gw_2 118 rfl rfl
theorem w_5_236 : (Jvm.Cond.methodLink "SpillForge$Giver" (89 : Nat) ({ cls := "java/lang/Long", name := "bitCount", desc := "(J)I" } : Jvm.MethodName)) ∈ gw := gw_5 236 rfl rfl
theorem w_5_233 : (Jvm.Cond.methodLink "SpillForge$Giver" (79 : Nat) ({ cls := "SpillForge$Giver", name := "colourBit", desc := "(I)J" } : Jvm.MethodName)) ∈ gw := gw_5 233 rfl rfl
theorem w_5_235 : (Jvm.Cond.code ({ cls := "SpillForge$Giver", name := "colourBit", desc := "(I)J" } : Jvm.MethodName) prog_4_method_12_code (1 : Nat) (Option.some Jvm.ClassFile.FieldType.long)) ∈ gw := gw_5 235 rfl rfl
theorem w_5_234 : (Jvm.Cond.static ({ cls := "SpillForge$Giver", name := "colourBit", desc := "(I)J" } : Jvm.MethodName)) ∈ gw := gw_5 234 rfl rfl
theorem w_1_187 : (Jvm.Cond.fieldLink "SpillForge$Code" (45 : Nat) "SpillForge$Code" "blocks" "I") ∈ gw := gw_1 187 rfl rfl
theorem w_4_68 : (Jvm.Cond.methodLink "SpillForge$Giver" (174 : Nat) ({ cls := "SpillForge$Code", name := "clear", desc := "()V" } : Jvm.MethodName)) ∈ gw := gw_4 68 rfl rfl
theorem w_3_3 : (Jvm.Cond.code ({ cls := "SpillForge$Code", name := "clear", desc := "()V" } : Jvm.MethodName) prog_2_method_2_code (1 : Nat) (Option.none : Option Jvm.ClassFile.FieldType)) ∈ gw := gw_3 3 rfl rfl
theorem w_3_1 : (Jvm.Cond.instanceMethod ({ cls := "SpillForge$Code", name := "clear", desc := "()V" } : Jvm.MethodName)) ∈ gw := gw_3 1 rfl rfl
theorem w_3_2 : (Jvm.Cond.selects "SpillForge$Code" ({ cls := "SpillForge$Code", name := "clear", desc := "()V" } : Jvm.MethodName) ({ cls := "SpillForge$Code", name := "clear", desc := "()V" } : Jvm.MethodName)) ∈ gw := gw_3 2 rfl rfl
theorem w_1_142 : (Jvm.Cond.fieldLink "SpillForge$Code" (9 : Nat) "SpillForge$Code" "first" "[I") ∈ gw := gw_1 142 rfl rfl
theorem w_1_149 : (Jvm.Cond.fieldLink "SpillForge$Code" (15 : Nat) "SpillForge$Code" "firstGoal" "[I") ∈ gw := gw_1 149 rfl rfl
theorem w_1_154 : (Jvm.Cond.fieldLink "SpillForge$Code" (18 : Nat) "SpillForge$Code" "secondGoal" "[I") ∈ gw := gw_1 154 rfl rfl
theorem w_4_73 : (Jvm.Cond.methodLink "SpillForge$Code" (56 : Nat) ({ cls := "SpillForge$Code", name := "openBlock", desc := "()Z" } : Jvm.MethodName)) ∈ gw := gw_4 73 rfl rfl
theorem w_3_140 : (Jvm.Cond.code ({ cls := "SpillForge$Code", name := "openBlock", desc := "()Z" } : Jvm.MethodName) prog_2_method_6_code (1 : Nat) (Option.some Jvm.ClassFile.FieldType.boolean)) ∈ gw := gw_3 140 rfl rfl
theorem w_3_138 : (Jvm.Cond.instanceMethod ({ cls := "SpillForge$Code", name := "openBlock", desc := "()Z" } : Jvm.MethodName)) ∈ gw := gw_3 138 rfl rfl
theorem w_3_139 : (Jvm.Cond.selects "SpillForge$Code" ({ cls := "SpillForge$Code", name := "openBlock", desc := "()Z" } : Jvm.MethodName) ({ cls := "SpillForge$Code", name := "openBlock", desc := "()Z" } : Jvm.MethodName)) ∈ gw := gw_3 139 rfl rfl
theorem w_4_69 : (Jvm.Cond.methodLink "SpillForge$Giver" (177 : Nat) ({ cls := "SpillForge$Code", name := "openLike", desc := "(LSpillForge$Code;)V" } : Jvm.MethodName)) ∈ gw := gw_4 69 rfl rfl
theorem w_4_72 : (Jvm.Cond.code ({ cls := "SpillForge$Code", name := "openLike", desc := "(LSpillForge$Code;)V" } : Jvm.MethodName) prog_2_method_9_code (3 : Nat) (Option.none : Option Jvm.ClassFile.FieldType)) ∈ gw := gw_4 72 rfl rfl
theorem w_4_70 : (Jvm.Cond.instanceMethod ({ cls := "SpillForge$Code", name := "openLike", desc := "(LSpillForge$Code;)V" } : Jvm.MethodName)) ∈ gw := gw_4 70 rfl rfl
theorem w_4_71 : (Jvm.Cond.selects "SpillForge$Code" ({ cls := "SpillForge$Code", name := "openLike", desc := "(LSpillForge$Code;)V" } : Jvm.MethodName) ({ cls := "SpillForge$Code", name := "openLike", desc := "(LSpillForge$Code;)V" } : Jvm.MethodName)) ∈ gw := gw_4 71 rfl rfl
theorem w_4_83 : (Jvm.Cond.methodLink "SpillForge$Giver" (186 : Nat) ({ cls := "SpillForge$Code", name := "blockEnd", desc := "(I)I" } : Jvm.MethodName)) ∈ gw := gw_4 83 rfl rfl
theorem w_4_38 : (Jvm.Cond.code ({ cls := "SpillForge$Code", name := "blockEnd", desc := "(I)I" } : Jvm.MethodName) prog_2_method_4_code (2 : Nat) (Option.some Jvm.ClassFile.FieldType.int)) ∈ gw := gw_4 38 rfl rfl
theorem w_4_36 : (Jvm.Cond.instanceMethod ({ cls := "SpillForge$Code", name := "blockEnd", desc := "(I)I" } : Jvm.MethodName)) ∈ gw := gw_4 36 rfl rfl
theorem w_4_37 : (Jvm.Cond.selects "SpillForge$Code" ({ cls := "SpillForge$Code", name := "blockEnd", desc := "(I)I" } : Jvm.MethodName) ({ cls := "SpillForge$Code", name := "blockEnd", desc := "(I)I" } : Jvm.MethodName)) ∈ gw := gw_4 37 rfl rfl
theorem w_5_181 : (Jvm.Cond.methodLink "SpillForge$Giver" (236 : Nat) ({ cls := "SpillForge$Giver", name := "spillLine", desc := "(I)V" } : Jvm.MethodName)) ∈ gw := gw_5 181 rfl rfl
theorem w_5_184 : (Jvm.Cond.code ({ cls := "SpillForge$Giver", name := "spillLine", desc := "(I)V" } : Jvm.MethodName) prog_4_method_22_code (6 : Nat) (Option.none : Option Jvm.ClassFile.FieldType)) ∈ gw := gw_5 184 rfl rfl
theorem w_5_183 : (Jvm.Cond.instanceMethod ({ cls := "SpillForge$Giver", name := "spillLine", desc := "(I)V" } : Jvm.MethodName)) ∈ gw := gw_5 183 rfl rfl
theorem w_p_51 : Cond.selects "SpillForge$Giver" ⟨"SpillForge$Giver", "spillLine", "(I)V"⟩ ⟨"SpillForge$Giver", "spillLine", "(I)V"⟩ ∈ gw := gw_p _ 51 rfl rfl rfl
theorem w_2_47 : (Jvm.Cond.fieldLink "SpillForge$Graph" (12 : Nat) "SpillForge$Graph" "live" "LSpillForge$Live;") ∈ gw := gw_2 47 rfl rfl
theorem w_4_29 : (Jvm.Cond.methodLink "SpillForge$Live" (24 : Nat) ({ cls := "java/lang/Math", name := "min", desc := "(II)I" } : Jvm.MethodName)) ∈ gw := gw_4 29 rfl rfl
theorem w_3_227 : (Jvm.Cond.static ({ cls := "java/lang/Math", name := "min", desc := "(II)I" } : Jvm.MethodName)) ∈ gw := gw_3 227 rfl rfl
theorem w_1_6 : (Jvm.Cond.initialized "java/lang/Math") ∈ gw := gw_1 6 rfl rfl
theorem w_3_228 : (Jvm.Cond.code ({ cls := "java/lang/Math", name := "min", desc := "(II)I" } : Jvm.MethodName) prog_32_method_69_code (2 : Nat) (Option.some Jvm.ClassFile.FieldType.int)) ∈ gw := gw_3 228 rfl rfl
theorem w_4_30 : (Jvm.Cond.methodLink "SpillForge$Live" (30 : Nat) ({ cls := "java/lang/Math", name := "max", desc := "(II)I" } : Jvm.MethodName)) ∈ gw := gw_4 30 rfl rfl
theorem w_1_140 : (Jvm.Cond.static ({ cls := "java/lang/Math", name := "max", desc := "(II)I" } : Jvm.MethodName)) ∈ gw := gw_1 140 rfl rfl
theorem w_1_141 : (Jvm.Cond.code ({ cls := "java/lang/Math", name := "max", desc := "(II)I" } : Jvm.MethodName) prog_32_method_65_code (2 : Nat) (Option.some Jvm.ClassFile.FieldType.int)) ∈ gw := gw_1 141 rfl rfl
theorem w_2_31 : (Jvm.Cond.fieldLink "SpillForge$Live" (40 : Nat) "SpillForge$Live" "ofSlots" "Z") ∈ gw := gw_2 31 rfl rfl
theorem w_2_25 : (Jvm.Cond.fieldLink "SpillForge$Live" (21 : Nat) "SpillForge$Live" "now" "[J") ∈ gw := gw_2 25 rfl rfl
theorem w_4_64 : (Jvm.Cond.methodLink "SpillForge$Live" (85 : Nat) ({ cls := "SpillForge$Live", name := "enterBehind", desc := "(LSpillForge$Code;I)V" } : Jvm.MethodName)) ∈ gw := gw_4 64 rfl rfl
theorem w_4_67 : (Jvm.Cond.code ({ cls := "SpillForge$Live", name := "enterBehind", desc := "(LSpillForge$Code;I)V" } : Jvm.MethodName) prog_7_method_7_code (8 : Nat) (Option.none : Option Jvm.ClassFile.FieldType)) ∈ gw := gw_4 67 rfl rfl
theorem w_4_65 : (Jvm.Cond.instanceMethod ({ cls := "SpillForge$Live", name := "enterBehind", desc := "(LSpillForge$Code;I)V" } : Jvm.MethodName)) ∈ gw := gw_4 65 rfl rfl
theorem w_4_66 : (Jvm.Cond.selects "SpillForge$Live" ({ cls := "SpillForge$Live", name := "enterBehind", desc := "(LSpillForge$Code;I)V" } : Jvm.MethodName) ({ cls := "SpillForge$Live", name := "enterBehind", desc := "(LSpillForge$Code;I)V" } : Jvm.MethodName)) ∈ gw := gw_4 66 rfl rfl
theorem w_2_23 : (Jvm.Cond.fieldLink "SpillForge$Live" (15 : Nat) "SpillForge$Live" "used" "[J") ∈ gw := gw_2 23 rfl rfl
theorem w_2_24 : (Jvm.Cond.fieldLink "SpillForge$Live" (18 : Nat) "SpillForge$Live" "set" "[J") ∈ gw := gw_2 24 rfl rfl
theorem w_4_47 : (Jvm.Cond.constantLong "SpillForge$Live" (83 : Nat) (-1 : Int64)) ∈ gw := gw_4 47 rfl rfl
theorem w_4_60 : (Jvm.Cond.methodLink "SpillForge$Live" (53 : Nat) ({ cls := "SpillForge$Live", name := "sweep", desc := "(LSpillForge$Code;)Z" } : Jvm.MethodName)) ∈ gw := gw_4 60 rfl rfl
theorem w_4_63 : (Jvm.Cond.code ({ cls := "SpillForge$Live", name := "sweep", desc := "(LSpillForge$Code;)Z" } : Jvm.MethodName) prog_7_method_6_code (8 : Nat) (Option.some Jvm.ClassFile.FieldType.boolean)) ∈ gw := gw_4 63 rfl rfl
theorem w_4_62 : (Jvm.Cond.instanceMethod ({ cls := "SpillForge$Live", name := "sweep", desc := "(LSpillForge$Code;)Z" } : Jvm.MethodName)) ∈ gw := gw_4 62 rfl rfl
theorem w_p_32 : Cond.selects "SpillForge$Live" ⟨"SpillForge$Live", "sweep", "(LSpillForge$Code;)Z"⟩ ⟨"SpillForge$Live", "sweep", "(LSpillForge$Code;)Z"⟩ ∈ gw := gw_p _ 32 rfl rfl rfl
theorem w_4_35 : (Jvm.Cond.methodLink "SpillForge$Live" (61 : Nat) ({ cls := "SpillForge$Code", name := "blockEnd", desc := "(I)I" } : Jvm.MethodName)) ∈ gw := gw_4 35 rfl rfl
theorem w_4_39 : (Jvm.Cond.methodLink "SpillForge$Live" (65 : Nat) ({ cls := "SpillForge$Code", name := "firstUse", desc := "(IZ)I" } : Jvm.MethodName)) ∈ gw := gw_4 39 rfl rfl
theorem w_4_42 : (Jvm.Cond.code ({ cls := "SpillForge$Code", name := "firstUse", desc := "(IZ)I" } : Jvm.MethodName) prog_2_method_19_code (3 : Nat) (Option.some Jvm.ClassFile.FieldType.int)) ∈ gw := gw_4 42 rfl rfl
theorem w_4_40 : (Jvm.Cond.instanceMethod ({ cls := "SpillForge$Code", name := "firstUse", desc := "(IZ)I" } : Jvm.MethodName)) ∈ gw := gw_4 40 rfl rfl
theorem w_4_41 : (Jvm.Cond.selects "SpillForge$Code" ({ cls := "SpillForge$Code", name := "firstUse", desc := "(IZ)I" } : Jvm.MethodName) ({ cls := "SpillForge$Code", name := "firstUse", desc := "(IZ)I" } : Jvm.MethodName)) ∈ gw := gw_4 41 rfl rfl
theorem w_4_43 : (Jvm.Cond.methodLink "SpillForge$Live" (69 : Nat) ({ cls := "SpillForge$Live", name := "gatherUse", desc := "(II)V" } : Jvm.MethodName)) ∈ gw := gw_4 43 rfl rfl
theorem w_4_46 : (Jvm.Cond.code ({ cls := "SpillForge$Live", name := "gatherUse", desc := "(II)V" } : Jvm.MethodName) prog_7_method_5_code (4 : Nat) (Option.none : Option Jvm.ClassFile.FieldType)) ∈ gw := gw_4 46 rfl rfl
theorem w_4_45 : (Jvm.Cond.instanceMethod ({ cls := "SpillForge$Live", name := "gatherUse", desc := "(II)V" } : Jvm.MethodName)) ∈ gw := gw_4 45 rfl rfl
theorem w_p_31 : Cond.selects "SpillForge$Live" ⟨"SpillForge$Live", "gatherUse", "(II)V"⟩ ⟨"SpillForge$Live", "gatherUse", "(II)V"⟩ ∈ gw := gw_p _ 31 rfl rfl rfl
theorem w_4_48 : (Jvm.Cond.methodLink "SpillForge$Live" (73 : Nat) ({ cls := "SpillForge$Code", name := "secondUse", desc := "(IZ)I" } : Jvm.MethodName)) ∈ gw := gw_4 48 rfl rfl
theorem w_4_51 : (Jvm.Cond.code ({ cls := "SpillForge$Code", name := "secondUse", desc := "(IZ)I" } : Jvm.MethodName) prog_2_method_20_code (3 : Nat) (Option.some Jvm.ClassFile.FieldType.int)) ∈ gw := gw_4 51 rfl rfl
theorem w_4_49 : (Jvm.Cond.instanceMethod ({ cls := "SpillForge$Code", name := "secondUse", desc := "(IZ)I" } : Jvm.MethodName)) ∈ gw := gw_4 49 rfl rfl
theorem w_4_50 : (Jvm.Cond.selects "SpillForge$Code" ({ cls := "SpillForge$Code", name := "secondUse", desc := "(IZ)I" } : Jvm.MethodName) ({ cls := "SpillForge$Code", name := "secondUse", desc := "(IZ)I" } : Jvm.MethodName)) ∈ gw := gw_4 50 rfl rfl
theorem w_4_52 : (Jvm.Cond.methodLink "SpillForge$Live" (76 : Nat) ({ cls := "SpillForge$Code", name := "setBy", desc := "(IZ)I" } : Jvm.MethodName)) ∈ gw := gw_4 52 rfl rfl
theorem w_4_55 : (Jvm.Cond.code ({ cls := "SpillForge$Code", name := "setBy", desc := "(IZ)I" } : Jvm.MethodName) prog_2_method_18_code (3 : Nat) (Option.some Jvm.ClassFile.FieldType.int)) ∈ gw := gw_4 55 rfl rfl
theorem w_4_53 : (Jvm.Cond.instanceMethod ({ cls := "SpillForge$Code", name := "setBy", desc := "(IZ)I" } : Jvm.MethodName)) ∈ gw := gw_4 53 rfl rfl
theorem w_4_54 : (Jvm.Cond.selects "SpillForge$Code" ({ cls := "SpillForge$Code", name := "setBy", desc := "(IZ)I" } : Jvm.MethodName) ({ cls := "SpillForge$Code", name := "setBy", desc := "(IZ)I" } : Jvm.MethodName)) ∈ gw := gw_4 54 rfl rfl
theorem w_4_31 : (Jvm.Cond.methodLink "SpillForge$Live" (49 : Nat) ({ cls := "SpillForge$Live", name := "gather", desc := "(LSpillForge$Code;I)V" } : Jvm.MethodName)) ∈ gw := gw_4 31 rfl rfl
theorem w_4_34 : (Jvm.Cond.code ({ cls := "SpillForge$Live", name := "gather", desc := "(LSpillForge$Code;I)V" } : Jvm.MethodName) prog_7_method_4_code (6 : Nat) (Option.none : Option Jvm.ClassFile.FieldType)) ∈ gw := gw_4 34 rfl rfl
theorem w_4_33 : (Jvm.Cond.instanceMethod ({ cls := "SpillForge$Live", name := "gather", desc := "(LSpillForge$Code;I)V" } : Jvm.MethodName)) ∈ gw := gw_4 33 rfl rfl
theorem w_p_30 : Cond.selects "SpillForge$Live" ⟨"SpillForge$Live", "gather", "(LSpillForge$Code;I)V"⟩ ⟨"SpillForge$Live", "gather", "(LSpillForge$Code;I)V"⟩ ∈ gw := gw_p _ 30 rfl rfl rfl
theorem w_4_103 : (Jvm.Cond.methodLink "SpillForge$Graph" (29 : Nat) ({ cls := "SpillForge$Live", name := "solve", desc := "(LSpillForge$Code;IZ)V" } : Jvm.MethodName)) ∈ gw := gw_4 103 rfl rfl
theorem w_4_28 : (Jvm.Cond.code ({ cls := "SpillForge$Live", name := "solve", desc := "(LSpillForge$Code;IZ)V" } : Jvm.MethodName) prog_7_method_2_code (6 : Nat) (Option.none : Option Jvm.ClassFile.FieldType)) ∈ gw := gw_4 28 rfl rfl
theorem w_4_26 : (Jvm.Cond.instanceMethod ({ cls := "SpillForge$Live", name := "solve", desc := "(LSpillForge$Code;IZ)V" } : Jvm.MethodName)) ∈ gw := gw_4 26 rfl rfl
theorem w_4_27 : (Jvm.Cond.selects "SpillForge$Live" ({ cls := "SpillForge$Live", name := "solve", desc := "(LSpillForge$Code;IZ)V" } : Jvm.MethodName) ({ cls := "SpillForge$Live", name := "solve", desc := "(LSpillForge$Code;IZ)V" } : Jvm.MethodName)) ∈ gw := gw_4 27 rfl rfl
theorem w_4_141 : (Jvm.Cond.methodLink "SpillForge$Graph" (97 : Nat) ({ cls := "java/lang/Long", name := "bitCount", desc := "(J)I" } : Jvm.MethodName)) ∈ gw := gw_4 141 rfl rfl
theorem w_4_137 : (Jvm.Cond.methodLink "SpillForge$Graph" (53 : Nat) ({ cls := "SpillForge$Graph", name := "bitsOf", desc := "(I)I" } : Jvm.MethodName)) ∈ gw := gw_4 137 rfl rfl
theorem w_4_140 : (Jvm.Cond.code ({ cls := "SpillForge$Graph", name := "bitsOf", desc := "(I)I" } : Jvm.MethodName) prog_5_method_5_code (4 : Nat) (Option.some Jvm.ClassFile.FieldType.int)) ∈ gw := gw_4 140 rfl rfl
theorem w_4_139 : (Jvm.Cond.instanceMethod ({ cls := "SpillForge$Graph", name := "bitsOf", desc := "(I)I" } : Jvm.MethodName)) ∈ gw := gw_4 139 rfl rfl
theorem w_p_37 : Cond.selects "SpillForge$Graph" ⟨"SpillForge$Graph", "bitsOf", "(I)I"⟩ ⟨"SpillForge$Graph", "bitsOf", "(I)I"⟩ ∈ gw := gw_p _ 37 rfl rfl rfl
theorem w_4_112 : (Jvm.Cond.methodLink "SpillForge$Graph" (57 : Nat) ({ cls := "SpillForge$Live", name := "enterBehind", desc := "(LSpillForge$Code;I)V" } : Jvm.MethodName)) ∈ gw := gw_4 112 rfl rfl
theorem w_4_113 : (Jvm.Cond.methodLink "SpillForge$Graph" (61 : Nat) ({ cls := "SpillForge$Code", name := "blockEnd", desc := "(I)I" } : Jvm.MethodName)) ∈ gw := gw_4 113 rfl rfl
theorem w_4_114 : (Jvm.Cond.methodLink "SpillForge$Graph" (67 : Nat) ({ cls := "SpillForge$Code", name := "setBy", desc := "(IZ)I" } : Jvm.MethodName)) ∈ gw := gw_4 114 rfl rfl
theorem w_4_115 : (Jvm.Cond.methodLink "SpillForge$Graph" (71 : Nat) ({ cls := "SpillForge$Live", name := "isName", desc := "(I)Z" } : Jvm.MethodName)) ∈ gw := gw_4 115 rfl rfl
theorem w_4_133 : (Jvm.Cond.methodLink "SpillForge$Live" (94 : Nat) ({ cls := "SpillForge$Live", name := "revive", desc := "(I)V" } : Jvm.MethodName)) ∈ gw := gw_4 133 rfl rfl
theorem w_4_136 : (Jvm.Cond.code ({ cls := "SpillForge$Live", name := "revive", desc := "(I)V" } : Jvm.MethodName) prog_7_method_9_code (2 : Nat) (Option.none : Option Jvm.ClassFile.FieldType)) ∈ gw := gw_4 136 rfl rfl
theorem w_4_135 : (Jvm.Cond.instanceMethod ({ cls := "SpillForge$Live", name := "revive", desc := "(I)V" } : Jvm.MethodName)) ∈ gw := gw_4 135 rfl rfl
theorem w_p_36 : Cond.selects "SpillForge$Live" ⟨"SpillForge$Live", "revive", "(I)V"⟩ ⟨"SpillForge$Live", "revive", "(I)V"⟩ ∈ gw := gw_p _ 36 rfl rfl rfl
theorem w_4_129 : (Jvm.Cond.methodLink "SpillForge$Graph" (85 : Nat) ({ cls := "SpillForge$Live", name := "stepOver", desc := "(LSpillForge$Code;I)V" } : Jvm.MethodName)) ∈ gw := gw_4 129 rfl rfl
theorem w_4_132 : (Jvm.Cond.code ({ cls := "SpillForge$Live", name := "stepOver", desc := "(LSpillForge$Code;I)V" } : Jvm.MethodName) prog_7_method_8_code (4 : Nat) (Option.none : Option Jvm.ClassFile.FieldType)) ∈ gw := gw_4 132 rfl rfl
theorem w_4_130 : (Jvm.Cond.instanceMethod ({ cls := "SpillForge$Live", name := "stepOver", desc := "(LSpillForge$Code;I)V" } : Jvm.MethodName)) ∈ gw := gw_4 130 rfl rfl
theorem w_4_131 : (Jvm.Cond.selects "SpillForge$Live" ({ cls := "SpillForge$Live", name := "stepOver", desc := "(LSpillForge$Code;I)V" } : Jvm.MethodName) ({ cls := "SpillForge$Live", name := "stepOver", desc := "(LSpillForge$Code;I)V" } : Jvm.MethodName)) ∈ gw := gw_4 131 rfl rfl
theorem w_4_116 : (Jvm.Cond.methodLink "SpillForge$Graph" (75 : Nat) ({ cls := "SpillForge$Code", name := "copiesRegister", desc := "(I)Z" } : Jvm.MethodName)) ∈ gw := gw_4 116 rfl rfl
theorem w_4_124 : (Jvm.Cond.constantLong "SpillForge$Graph" (91 : Nat) (-1 : Int64)) ∈ gw := gw_4 124 rfl rfl
theorem w_4_120 : (Jvm.Cond.methodLink "SpillForge$Graph" (81 : Nat) ({ cls := "SpillForge$Graph", name := "joinToLive", desc := "(II)V" } : Jvm.MethodName)) ∈ gw := gw_4 120 rfl rfl
theorem w_4_123 : (Jvm.Cond.code ({ cls := "SpillForge$Graph", name := "joinToLive", desc := "(II)V" } : Jvm.MethodName) prog_5_method_4_code (8 : Nat) (Option.none : Option Jvm.ClassFile.FieldType)) ∈ gw := gw_4 123 rfl rfl
theorem w_4_122 : (Jvm.Cond.instanceMethod ({ cls := "SpillForge$Graph", name := "joinToLive", desc := "(II)V" } : Jvm.MethodName)) ∈ gw := gw_4 122 rfl rfl
theorem w_p_35 : Cond.selects "SpillForge$Graph" ⟨"SpillForge$Graph", "joinToLive", "(II)V"⟩ ⟨"SpillForge$Graph", "joinToLive", "(II)V"⟩ ∈ gw := gw_p _ 35 rfl rfl rfl
theorem w_4_108 : (Jvm.Cond.methodLink "SpillForge$Graph" (50 : Nat) ({ cls := "SpillForge$Graph", name := "joinBlock", desc := "(LSpillForge$Code;IZ)V" } : Jvm.MethodName)) ∈ gw := gw_4 108 rfl rfl
theorem w_4_111 : (Jvm.Cond.code ({ cls := "SpillForge$Graph", name := "joinBlock", desc := "(LSpillForge$Code;IZ)V" } : Jvm.MethodName) prog_5_method_3_code (6 : Nat) (Option.none : Option Jvm.ClassFile.FieldType)) ∈ gw := gw_4 111 rfl rfl
theorem w_4_110 : (Jvm.Cond.instanceMethod ({ cls := "SpillForge$Graph", name := "joinBlock", desc := "(LSpillForge$Code;IZ)V" } : Jvm.MethodName)) ∈ gw := gw_4 110 rfl rfl
theorem w_p_34 : Cond.selects "SpillForge$Graph" ⟨"SpillForge$Graph", "joinBlock", "(LSpillForge$Code;IZ)V"⟩ ⟨"SpillForge$Graph", "joinBlock", "(LSpillForge$Code;IZ)V"⟩ ∈ gw := gw_p _ 34 rfl rfl rfl
theorem w_4_104 : (Jvm.Cond.methodLink "SpillForge$Graph" (47 : Nat) ({ cls := "SpillForge$Live", name := "standing", desc := "(II)J" } : Jvm.MethodName)) ∈ gw := gw_4 104 rfl rfl
theorem w_4_107 : (Jvm.Cond.code ({ cls := "SpillForge$Live", name := "standing", desc := "(II)J" } : Jvm.MethodName) prog_7_method_12_code (6 : Nat) (Option.some Jvm.ClassFile.FieldType.long)) ∈ gw := gw_4 107 rfl rfl
theorem w_4_105 : (Jvm.Cond.instanceMethod ({ cls := "SpillForge$Live", name := "standing", desc := "(II)J" } : Jvm.MethodName)) ∈ gw := gw_4 105 rfl rfl
theorem w_4_106 : (Jvm.Cond.selects "SpillForge$Live" ({ cls := "SpillForge$Live", name := "standing", desc := "(II)J" } : Jvm.MethodName) ({ cls := "SpillForge$Live", name := "standing", desc := "(II)J" } : Jvm.MethodName)) ∈ gw := gw_4 106 rfl rfl
theorem w_4_99 : (Jvm.Cond.methodLink "SpillForge$Giver" (114 : Nat) ({ cls := "SpillForge$Graph", name := "build", desc := "(LSpillForge$Code;IZ)V" } : Jvm.MethodName)) ∈ gw := gw_4 99 rfl rfl
theorem w_4_102 : (Jvm.Cond.code ({ cls := "SpillForge$Graph", name := "build", desc := "(LSpillForge$Code;IZ)V" } : Jvm.MethodName) prog_5_method_2_code (5 : Nat) (Option.none : Option Jvm.ClassFile.FieldType)) ∈ gw := gw_4 102 rfl rfl
theorem w_4_100 : (Jvm.Cond.instanceMethod ({ cls := "SpillForge$Graph", name := "build", desc := "(LSpillForge$Code;IZ)V" } : Jvm.MethodName)) ∈ gw := gw_4 100 rfl rfl
theorem w_4_101 : (Jvm.Cond.selects "SpillForge$Graph" ({ cls := "SpillForge$Graph", name := "build", desc := "(LSpillForge$Code;IZ)V" } : Jvm.MethodName) ({ cls := "SpillForge$Graph", name := "build", desc := "(LSpillForge$Code;IZ)V" } : Jvm.MethodName)) ∈ gw := gw_4 101 rfl rfl
theorem w_5_154 : (Jvm.Cond.methodLink "SpillForge$Code" (70 : Nat) ({ cls := "SpillForge$Code", name := "nameIn", desc := "([II)I" } : Jvm.MethodName)) ∈ gw := gw_5 154 rfl rfl
theorem w_5_156 : (Jvm.Cond.code ({ cls := "SpillForge$Code", name := "nameIn", desc := "([II)I" } : Jvm.MethodName) prog_2_method_14_code (2 : Nat) (Option.some Jvm.ClassFile.FieldType.int)) ∈ gw := gw_5 156 rfl rfl
theorem w_5_155 : (Jvm.Cond.static ({ cls := "SpillForge$Code", name := "nameIn", desc := "([II)I" } : Jvm.MethodName)) ∈ gw := gw_5 155 rfl rfl
theorem w_5_165 : (Jvm.Cond.methodLink "SpillForge$Giver" (261 : Nat) ({ cls := "SpillForge$Code", name := "renameSlots", desc := "([I)V" } : Jvm.MethodName)) ∈ gw := gw_5 165 rfl rfl
theorem w_5_168 : (Jvm.Cond.code ({ cls := "SpillForge$Code", name := "renameSlots", desc := "([I)V" } : Jvm.MethodName) prog_2_method_13_code (3 : Nat) (Option.none : Option Jvm.ClassFile.FieldType)) ∈ gw := gw_5 168 rfl rfl
theorem w_5_166 : (Jvm.Cond.instanceMethod ({ cls := "SpillForge$Code", name := "renameSlots", desc := "([I)V" } : Jvm.MethodName)) ∈ gw := gw_5 166 rfl rfl
theorem w_5_167 : (Jvm.Cond.selects "SpillForge$Code" ({ cls := "SpillForge$Code", name := "renameSlots", desc := "([I)V" } : Jvm.MethodName) ({ cls := "SpillForge$Code", name := "renameSlots", desc := "([I)V" } : Jvm.MethodName)) ∈ gw := gw_5 167 rfl rfl
theorem w_2_117 : (Jvm.Cond.fieldLink "SpillForge$Giver" (63 : Nat) "SpillForge$Giver" "sharedSlots" "I") ∈ gw := gw_2 117 rfl rfl
theorem w_5_106 : (Jvm.Cond.methodLink "SpillForge$Giver" (210 : Nat) ({ cls := "java/lang/Math", name := "max", desc := "(II)I" } : Jvm.MethodName)) ∈ gw := gw_5 106 rfl rfl
theorem w_5_161 : (Jvm.Cond.methodLink "SpillForge$Giver" (258 : Nat) ({ cls := "SpillForge$Giver", name := "isTakenAround", desc := "(II)Z" } : Jvm.MethodName)) ∈ gw := gw_5 161 rfl rfl
theorem w_5_164 : (Jvm.Cond.code ({ cls := "SpillForge$Giver", name := "isTakenAround", desc := "(II)Z" } : Jvm.MethodName) prog_4_method_27_code (4 : Nat) (Option.some Jvm.ClassFile.FieldType.boolean)) ∈ gw := gw_5 164 rfl rfl
theorem w_5_163 : (Jvm.Cond.instanceMethod ({ cls := "SpillForge$Giver", name := "isTakenAround", desc := "(II)Z" } : Jvm.MethodName)) ∈ gw := gw_5 163 rfl rfl
theorem w_p_48 : Cond.selects "SpillForge$Giver" ⟨"SpillForge$Giver", "isTakenAround", "(II)Z"⟩ ⟨"SpillForge$Giver", "isTakenAround", "(II)Z"⟩ ∈ gw := gw_p _ 48 rfl rfl rfl
theorem w_5_88 : (Jvm.Cond.methodLink "SpillForge$Giver" (201 : Nat) ({ cls := "SpillForge$Giver", name := "nextToMerge", desc := "(I)I" } : Jvm.MethodName)) ∈ gw := gw_5 88 rfl rfl
theorem w_5_91 : (Jvm.Cond.code ({ cls := "SpillForge$Giver", name := "nextToMerge", desc := "(I)I" } : Jvm.MethodName) prog_4_method_18_code (3 : Nat) (Option.some Jvm.ClassFile.FieldType.int)) ∈ gw := gw_5 91 rfl rfl
theorem w_5_90 : (Jvm.Cond.instanceMethod ({ cls := "SpillForge$Giver", name := "nextToMerge", desc := "(I)I" } : Jvm.MethodName)) ∈ gw := gw_5 90 rfl rfl
theorem w_p_41 : Cond.selects "SpillForge$Giver" ⟨"SpillForge$Giver", "nextToMerge", "(I)I"⟩ ⟨"SpillForge$Giver", "nextToMerge", "(I)I"⟩ ∈ gw := gw_p _ 41 rfl rfl rfl
theorem w_5_105 : (Jvm.Cond.methodLink "SpillForge$Giver" (204 : Nat) ({ cls := "java/lang/Math", name := "min", desc := "(II)I" } : Jvm.MethodName)) ∈ gw := gw_5 105 rfl rfl
theorem w_5_111 : (Jvm.Cond.methodLink "SpillForge$Code" (64 : Nat) ({ cls := "java/lang/System", name := "arraycopy", desc := "(Ljava/lang/Object;ILjava/lang/Object;II)V" } : Jvm.MethodName)) ∈ gw := gw_5 111 rfl rfl
theorem w_5_113 : (Jvm.Cond.native ({ cls := "java/lang/System", name := "arraycopy", desc := "(Ljava/lang/Object;ILjava/lang/Object;II)V" } : Jvm.MethodName)) ∈ gw := gw_5 113 rfl rfl
theorem w_5_112 : (Jvm.Cond.static ({ cls := "java/lang/System", name := "arraycopy", desc := "(Ljava/lang/Object;ILjava/lang/Object;II)V" } : Jvm.MethodName)) ∈ gw := gw_5 112 rfl rfl
theorem w_1_34 : (Jvm.Cond.initialized "java/lang/System") ∈ gw := gw_1 34 rfl rfl
theorem w_5_107 : (Jvm.Cond.methodLink "SpillForge$Giver" (213 : Nat) ({ cls := "SpillForge$Code", name := "drop", desc := "(I)V" } : Jvm.MethodName)) ∈ gw := gw_5 107 rfl rfl
theorem w_5_110 : (Jvm.Cond.code ({ cls := "SpillForge$Code", name := "drop", desc := "(I)V" } : Jvm.MethodName) prog_2_method_11_code (4 : Nat) (Option.none : Option Jvm.ClassFile.FieldType)) ∈ gw := gw_5 110 rfl rfl
theorem w_5_108 : (Jvm.Cond.instanceMethod ({ cls := "SpillForge$Code", name := "drop", desc := "(I)V" } : Jvm.MethodName)) ∈ gw := gw_5 108 rfl rfl
theorem w_5_109 : (Jvm.Cond.selects "SpillForge$Code" ({ cls := "SpillForge$Code", name := "drop", desc := "(I)V" } : Jvm.MethodName) ({ cls := "SpillForge$Code", name := "drop", desc := "(I)V" } : Jvm.MethodName)) ∈ gw := gw_5 109 rfl rfl
theorem w_5_114 : (Jvm.Cond.methodLink "SpillForge$Giver" (216 : Nat) ({ cls := "SpillForge$Code", name := "replace", desc := "(II)V" } : Jvm.MethodName)) ∈ gw := gw_5 114 rfl rfl
theorem w_5_117 : (Jvm.Cond.code ({ cls := "SpillForge$Code", name := "replace", desc := "(II)V" } : Jvm.MethodName) prog_2_method_15_code (4 : Nat) (Option.none : Option Jvm.ClassFile.FieldType)) ∈ gw := gw_5 117 rfl rfl
theorem w_5_115 : (Jvm.Cond.instanceMethod ({ cls := "SpillForge$Code", name := "replace", desc := "(II)V" } : Jvm.MethodName)) ∈ gw := gw_5 115 rfl rfl
theorem w_5_116 : (Jvm.Cond.selects "SpillForge$Code" ({ cls := "SpillForge$Code", name := "replace", desc := "(II)V" } : Jvm.MethodName) ({ cls := "SpillForge$Code", name := "replace", desc := "(II)V" } : Jvm.MethodName)) ∈ gw := gw_5 116 rfl rfl
theorem w_2_119 : (Jvm.Cond.fieldLink "SpillForge$Giver" (70 : Nat) "SpillForge$Giver" "merged" "I") ∈ gw := gw_2 119 rfl rfl
theorem w_2_120 : (Jvm.Cond.fieldLink "SpillForge$Giver" (59 : Nat) "SpillForge$Giver" "isDone" "Z") ∈ gw := gw_2 120 rfl rfl
theorem w_4_24 : (Jvm.Cond.methodLink "SpillForge$Giver" (165 : Nat) ({ cls := "java/util/Arrays", name := "fill", desc := "([II)V" } : Jvm.MethodName)) ∈ gw := gw_4 24 rfl rfl
theorem w_1_30 : (Jvm.Cond.initialized "java/util/Arrays") ∈ gw := gw_1 30 rfl rfl
theorem w_3_239 : (Jvm.Cond.code ({ cls := "java/util/Arrays", name := "fill", desc := "([II)V" } : Jvm.MethodName) prog_44_method_103_code (4 : Nat) (Option.none : Option Jvm.ClassFile.FieldType)) ∈ gw := gw_3 239 rfl rfl
theorem w_3_238 : (Jvm.Cond.static ({ cls := "java/util/Arrays", name := "fill", desc := "([II)V" } : Jvm.MethodName)) ∈ gw := gw_3 238 rfl rfl
theorem w_4_25 : (Jvm.Cond.methodLink "SpillForge$Giver" (171 : Nat) ({ cls := "SpillForge$Live", name := "solve", desc := "(LSpillForge$Code;IZ)V" } : Jvm.MethodName)) ∈ gw := gw_4 25 rfl rfl
theorem w_4_74 : (Jvm.Cond.methodLink "SpillForge$Giver" (180 : Nat) ({ cls := "SpillForge$Giver", name := "setLiveToZero", desc := "()V" } : Jvm.MethodName)) ∈ gw := gw_4 74 rfl rfl
theorem w_4_77 : (Jvm.Cond.code ({ cls := "SpillForge$Giver", name := "setLiveToZero", desc := "()V" } : Jvm.MethodName) prog_4_method_16_code (2 : Nat) (Option.none : Option Jvm.ClassFile.FieldType)) ∈ gw := gw_4 77 rfl rfl
theorem w_4_76 : (Jvm.Cond.instanceMethod ({ cls := "SpillForge$Giver", name := "setLiveToZero", desc := "()V" } : Jvm.MethodName)) ∈ gw := gw_4 76 rfl rfl
theorem w_p_33 : Cond.selects "SpillForge$Giver" ⟨"SpillForge$Giver", "setLiveToZero", "()V"⟩ ⟨"SpillForge$Giver", "setLiveToZero", "()V"⟩ ∈ gw := gw_p _ 33 rfl rfl rfl
theorem w_4_88 : (Jvm.Cond.methodLink "SpillForge$Code" (60 : Nat) ({ cls := "SpillForge$Code", name := "add", desc := "(IIIIII)V" } : Jvm.MethodName)) ∈ gw := gw_4 88 rfl rfl
theorem w_4_84 : (Jvm.Cond.methodLink "SpillForge$Giver" (189 : Nat) ({ cls := "SpillForge$Code", name := "addLine", desc := "(LSpillForge$Code;I)V" } : Jvm.MethodName)) ∈ gw := gw_4 84 rfl rfl
theorem w_4_87 : (Jvm.Cond.code ({ cls := "SpillForge$Code", name := "addLine", desc := "(LSpillForge$Code;I)V" } : Jvm.MethodName) prog_2_method_10_code (3 : Nat) (Option.none : Option Jvm.ClassFile.FieldType)) ∈ gw := gw_4 87 rfl rfl
theorem w_4_85 : (Jvm.Cond.instanceMethod ({ cls := "SpillForge$Code", name := "addLine", desc := "(LSpillForge$Code;I)V" } : Jvm.MethodName)) ∈ gw := gw_4 85 rfl rfl
theorem w_4_86 : (Jvm.Cond.selects "SpillForge$Code" ({ cls := "SpillForge$Code", name := "addLine", desc := "(LSpillForge$Code;I)V" } : Jvm.MethodName) ({ cls := "SpillForge$Code", name := "addLine", desc := "(LSpillForge$Code;I)V" } : Jvm.MethodName)) ∈ gw := gw_4 86 rfl rfl
theorem w_4_20 : (Jvm.Cond.methodLink "SpillForge$Giver" (95 : Nat) ({ cls := "SpillForge$Giver", name := "begin", desc := "(LSpillForge$Code;)V" } : Jvm.MethodName)) ∈ gw := gw_4 20 rfl rfl
theorem w_4_23 : (Jvm.Cond.code ({ cls := "SpillForge$Giver", name := "begin", desc := "(LSpillForge$Code;)V" } : Jvm.MethodName) prog_4_method_15_code (4 : Nat) (Option.none : Option Jvm.ClassFile.FieldType)) ∈ gw := gw_4 23 rfl rfl
theorem w_4_22 : (Jvm.Cond.instanceMethod ({ cls := "SpillForge$Giver", name := "begin", desc := "(LSpillForge$Code;)V" } : Jvm.MethodName)) ∈ gw := gw_4 22 rfl rfl
theorem w_p_29 : Cond.selects "SpillForge$Giver" ⟨"SpillForge$Giver", "begin", "(LSpillForge$Code;)V"⟩ ⟨"SpillForge$Giver", "begin", "(LSpillForge$Code;)V"⟩ ∈ gw := gw_p _ 29 rfl rfl rfl
theorem w_2_105 : (Jvm.Cond.fieldLink "SpillForge$Giver" (55 : Nat) "SpillForge$Giver" "loops" "LSpillForge$Loops;") ∈ gw := gw_2 105 rfl rfl
theorem w_2_79 : (Jvm.Cond.fieldLink "SpillForge$Colouring" (9 : Nat) "SpillForge$Colouring" "weight" "[I") ∈ gw := gw_2 79 rfl rfl
theorem w_4_146 : (Jvm.Cond.methodLink "SpillForge$Colouring" (37 : Nat) ({ cls := "java/util/Arrays", name := "fill", desc := "([II)V" } : Jvm.MethodName)) ∈ gw := gw_4 146 rfl rfl
theorem w_1_235 : (Jvm.Cond.fieldLink "SpillForge$Loops" (18 : Nat) "SpillForge$Loops" "depth" "[I") ∈ gw := gw_1 235 rfl rfl
theorem w_4_151 : (Jvm.Cond.methodLink "SpillForge$Loops" (22 : Nat) ({ cls := "SpillForge$Loops", name := "depth", desc := "(I)I" } : Jvm.MethodName)) ∈ gw := gw_4 151 rfl rfl
theorem w_1_7 : (Jvm.Cond.initialized "SpillForge$Loops") ∈ gw := gw_1 7 rfl rfl
theorem w_4_154 : (Jvm.Cond.code ({ cls := "SpillForge$Loops", name := "depth", desc := "(I)I" } : Jvm.MethodName) prog_8_method_2_code (2 : Nat) (Option.some Jvm.ClassFile.FieldType.int)) ∈ gw := gw_4 154 rfl rfl
theorem w_4_152 : (Jvm.Cond.instanceMethod ({ cls := "SpillForge$Loops", name := "depth", desc := "(I)I" } : Jvm.MethodName)) ∈ gw := gw_4 152 rfl rfl
theorem w_4_153 : (Jvm.Cond.selects "SpillForge$Loops" ({ cls := "SpillForge$Loops", name := "depth", desc := "(I)I" } : Jvm.MethodName) ({ cls := "SpillForge$Loops", name := "depth", desc := "(I)I" } : Jvm.MethodName)) ∈ gw := gw_4 153 rfl rfl
theorem w_4_147 : (Jvm.Cond.methodLink "SpillForge$Colouring" (49 : Nat) ({ cls := "SpillForge$Loops", name := "factor", desc := "(I)I" } : Jvm.MethodName)) ∈ gw := gw_4 147 rfl rfl
theorem w_4_150 : (Jvm.Cond.code ({ cls := "SpillForge$Loops", name := "factor", desc := "(I)I" } : Jvm.MethodName) prog_8_method_3_code (4 : Nat) (Option.some Jvm.ClassFile.FieldType.int)) ∈ gw := gw_4 150 rfl rfl
theorem w_4_148 : (Jvm.Cond.instanceMethod ({ cls := "SpillForge$Loops", name := "factor", desc := "(I)I" } : Jvm.MethodName)) ∈ gw := gw_4 148 rfl rfl
theorem w_4_149 : (Jvm.Cond.selects "SpillForge$Loops" ({ cls := "SpillForge$Loops", name := "factor", desc := "(I)I" } : Jvm.MethodName) ({ cls := "SpillForge$Loops", name := "factor", desc := "(I)I" } : Jvm.MethodName)) ∈ gw := gw_4 149 rfl rfl
theorem w_4_155 : (Jvm.Cond.methodLink "SpillForge$Colouring" (58 : Nat) ({ cls := "SpillForge$Code", name := "blockEnd", desc := "(I)I" } : Jvm.MethodName)) ∈ gw := gw_4 155 rfl rfl
theorem w_4_156 : (Jvm.Cond.methodLink "SpillForge$Colouring" (64 : Nat) ({ cls := "SpillForge$Colouring", name := "addWeight", desc := "(II)V" } : Jvm.MethodName)) ∈ gw := gw_4 156 rfl rfl
theorem w_4_159 : (Jvm.Cond.code ({ cls := "SpillForge$Colouring", name := "addWeight", desc := "(II)V" } : Jvm.MethodName) prog_3_method_6_code (3 : Nat) (Option.none : Option Jvm.ClassFile.FieldType)) ∈ gw := gw_4 159 rfl rfl
theorem w_4_158 : (Jvm.Cond.instanceMethod ({ cls := "SpillForge$Colouring", name := "addWeight", desc := "(II)V" } : Jvm.MethodName)) ∈ gw := gw_4 158 rfl rfl
theorem w_p_38 : Cond.selects "SpillForge$Colouring" ⟨"SpillForge$Colouring", "addWeight", "(II)V"⟩ ⟨"SpillForge$Colouring", "addWeight", "(II)V"⟩ ∈ gw := gw_p _ 38 rfl rfl rfl
theorem w_4_142 : (Jvm.Cond.methodLink "SpillForge$Giver" (118 : Nat) ({ cls := "SpillForge$Colouring", name := "weigh", desc := "(LSpillForge$Code;LSpillForge$Loops;)V" } : Jvm.MethodName)) ∈ gw := gw_4 142 rfl rfl
theorem w_4_145 : (Jvm.Cond.code ({ cls := "SpillForge$Colouring", name := "weigh", desc := "(LSpillForge$Code;LSpillForge$Loops;)V" } : Jvm.MethodName) prog_3_method_5_code (6 : Nat) (Option.none : Option Jvm.ClassFile.FieldType)) ∈ gw := gw_4 145 rfl rfl
theorem w_4_143 : (Jvm.Cond.instanceMethod ({ cls := "SpillForge$Colouring", name := "weigh", desc := "(LSpillForge$Code;LSpillForge$Loops;)V" } : Jvm.MethodName)) ∈ gw := gw_4 143 rfl rfl
theorem w_4_144 : (Jvm.Cond.selects "SpillForge$Colouring" ({ cls := "SpillForge$Colouring", name := "weigh", desc := "(LSpillForge$Code;LSpillForge$Loops;)V" } : Jvm.MethodName) ({ cls := "SpillForge$Colouring", name := "weigh", desc := "(LSpillForge$Code;LSpillForge$Loops;)V" } : Jvm.MethodName)) ∈ gw := gw_4 144 rfl rfl
theorem w_2_108 : (Jvm.Cond.fieldLink "SpillForge$Giver" (27 : Nat) "SpillForge$Giver" "firstWeight" "[I") ∈ gw := gw_2 108 rfl rfl
theorem w_4_160 : (Jvm.Cond.methodLink "SpillForge$Giver" (122 : Nat) ({ cls := "SpillForge$Colouring", name := "weight", desc := "(I)I" } : Jvm.MethodName)) ∈ gw := gw_4 160 rfl rfl
theorem w_4_163 : (Jvm.Cond.code ({ cls := "SpillForge$Colouring", name := "weight", desc := "(I)I" } : Jvm.MethodName) prog_3_method_2_code (2 : Nat) (Option.some Jvm.ClassFile.FieldType.int)) ∈ gw := gw_4 163 rfl rfl
theorem w_4_161 : (Jvm.Cond.instanceMethod ({ cls := "SpillForge$Colouring", name := "weight", desc := "(I)I" } : Jvm.MethodName)) ∈ gw := gw_4 161 rfl rfl
theorem w_4_162 : (Jvm.Cond.selects "SpillForge$Colouring" ({ cls := "SpillForge$Colouring", name := "weight", desc := "(I)I" } : Jvm.MethodName) ({ cls := "SpillForge$Colouring", name := "weight", desc := "(I)I" } : Jvm.MethodName)) ∈ gw := gw_4 162 rfl rfl
theorem w_2_109 : (Jvm.Cond.fieldLink "SpillForge$Giver" (31 : Nat) "SpillForge$Giver" "firstDegree" "[I") ∈ gw := gw_2 109 rfl rfl
theorem w_4_164 : (Jvm.Cond.methodLink "SpillForge$Giver" (125 : Nat) ({ cls := "SpillForge$Graph", name := "stands", desc := "(I)Z" } : Jvm.MethodName)) ∈ gw := gw_4 164 rfl rfl
theorem w_2_110 : (Jvm.Cond.fieldLink "SpillForge$Giver" (34 : Nat) "SpillForge$Giver" "liveBefore" "[I") ∈ gw := gw_2 110 rfl rfl
theorem w_4_93 : (Jvm.Cond.methodLink "SpillForge$Live" (98 : Nat) ({ cls := "java/lang/Long", name := "bitCount", desc := "(J)I" } : Jvm.MethodName)) ∈ gw := gw_4 93 rfl rfl
theorem w_4_89 : (Jvm.Cond.methodLink "SpillForge$Giver" (106 : Nat) ({ cls := "SpillForge$Live", name := "liveBefore", desc := "(I)I" } : Jvm.MethodName)) ∈ gw := gw_4 89 rfl rfl
theorem w_4_92 : (Jvm.Cond.code ({ cls := "SpillForge$Live", name := "liveBefore", desc := "(I)I" } : Jvm.MethodName) prog_7_method_11_code (4 : Nat) (Option.some Jvm.ClassFile.FieldType.int)) ∈ gw := gw_4 92 rfl rfl
theorem w_4_90 : (Jvm.Cond.instanceMethod ({ cls := "SpillForge$Live", name := "liveBefore", desc := "(I)I" } : Jvm.MethodName)) ∈ gw := gw_4 90 rfl rfl
theorem w_4_91 : (Jvm.Cond.selects "SpillForge$Live" ({ cls := "SpillForge$Live", name := "liveBefore", desc := "(I)I" } : Jvm.MethodName) ({ cls := "SpillForge$Live", name := "liveBefore", desc := "(I)I" } : Jvm.MethodName)) ∈ gw := gw_4 91 rfl rfl
theorem d_cJ13_bitCount_95d88_0 : decode cJ13_bitCount_95d88 0 = .ok (.lload_n 0, 1) := by decide +kernel
theorem d_cJ13_bitCount_95d88_1 : decode cJ13_bitCount_95d88 1 = .ok (.lload_n 0, 1) := by decide +kernel
theorem d_cJ13_bitCount_95d88_2 : decode cJ13_bitCount_95d88 2 = .ok (.iconst 1, 1) := by decide +kernel
theorem d_cJ13_bitCount_95d88_3 : decode cJ13_bitCount_95d88 3 = .ok (.lushr, 1) := by decide +kernel
theorem d_cJ13_bitCount_95d88_4 : decode cJ13_bitCount_95d88 4 = .ok (.ldc2_w 314, 3) := by decide +kernel
theorem d_cJ13_bitCount_95d88_7 : decode cJ13_bitCount_95d88 7 = .ok (.land, 1) := by decide +kernel
theorem d_cJ13_bitCount_95d88_8 : decode cJ13_bitCount_95d88 8 = .ok (.lsub, 1) := by decide +kernel
theorem d_cJ13_bitCount_95d88_9 : decode cJ13_bitCount_95d88 9 = .ok (.lstore_n 0, 1) := by decide +kernel
theorem d_cJ13_bitCount_95d88_10 : decode cJ13_bitCount_95d88 10 = .ok (.lload_n 0, 1) := by decide +kernel
theorem d_cJ13_bitCount_95d88_11 : decode cJ13_bitCount_95d88 11 = .ok (.ldc2_w 316, 3) := by decide +kernel
theorem d_cJ13_bitCount_95d88_14 : decode cJ13_bitCount_95d88 14 = .ok (.land, 1) := by decide +kernel
theorem d_cJ13_bitCount_95d88_15 : decode cJ13_bitCount_95d88 15 = .ok (.lload_n 0, 1) := by decide +kernel
theorem d_cJ13_bitCount_95d88_16 : decode cJ13_bitCount_95d88 16 = .ok (.iconst 2, 1) := by decide +kernel
theorem d_cJ13_bitCount_95d88_17 : decode cJ13_bitCount_95d88 17 = .ok (.lushr, 1) := by decide +kernel
theorem d_cJ13_bitCount_95d88_18 : decode cJ13_bitCount_95d88 18 = .ok (.ldc2_w 316, 3) := by decide +kernel
theorem d_cJ13_bitCount_95d88_21 : decode cJ13_bitCount_95d88 21 = .ok (.land, 1) := by decide +kernel
theorem d_cJ13_bitCount_95d88_22 : decode cJ13_bitCount_95d88 22 = .ok (.ladd, 1) := by decide +kernel
theorem d_cJ13_bitCount_95d88_23 : decode cJ13_bitCount_95d88 23 = .ok (.lstore_n 0, 1) := by decide +kernel
theorem d_cJ13_bitCount_95d88_24 : decode cJ13_bitCount_95d88 24 = .ok (.lload_n 0, 1) := by decide +kernel
theorem d_cJ13_bitCount_95d88_25 : decode cJ13_bitCount_95d88 25 = .ok (.lload_n 0, 1) := by decide +kernel
theorem d_cJ13_bitCount_95d88_26 : decode cJ13_bitCount_95d88 26 = .ok (.iconst 4, 1) := by decide +kernel
theorem d_cJ13_bitCount_95d88_27 : decode cJ13_bitCount_95d88 27 = .ok (.lushr, 1) := by decide +kernel
theorem d_cJ13_bitCount_95d88_28 : decode cJ13_bitCount_95d88 28 = .ok (.ladd, 1) := by decide +kernel
theorem d_cJ13_bitCount_95d88_29 : decode cJ13_bitCount_95d88 29 = .ok (.ldc2_w 318, 3) := by decide +kernel
theorem d_cJ13_bitCount_95d88_32 : decode cJ13_bitCount_95d88 32 = .ok (.land, 1) := by decide +kernel
theorem d_cJ13_bitCount_95d88_33 : decode cJ13_bitCount_95d88 33 = .ok (.lstore_n 0, 1) := by decide +kernel
theorem d_cJ13_bitCount_95d88_34 : decode cJ13_bitCount_95d88 34 = .ok (.lload_n 0, 1) := by decide +kernel
theorem d_cJ13_bitCount_95d88_35 : decode cJ13_bitCount_95d88 35 = .ok (.lload_n 0, 1) := by decide +kernel
theorem d_cJ13_bitCount_95d88_36 : decode cJ13_bitCount_95d88 36 = .ok (.bipush 8, 2) := by decide +kernel
theorem d_cJ13_bitCount_95d88_38 : decode cJ13_bitCount_95d88 38 = .ok (.lushr, 1) := by decide +kernel
theorem d_cJ13_bitCount_95d88_39 : decode cJ13_bitCount_95d88 39 = .ok (.ladd, 1) := by decide +kernel
theorem d_cJ13_bitCount_95d88_40 : decode cJ13_bitCount_95d88 40 = .ok (.lstore_n 0, 1) := by decide +kernel
theorem d_cJ13_bitCount_95d88_41 : decode cJ13_bitCount_95d88 41 = .ok (.lload_n 0, 1) := by decide +kernel
theorem d_cJ13_bitCount_95d88_42 : decode cJ13_bitCount_95d88 42 = .ok (.lload_n 0, 1) := by decide +kernel
theorem d_cJ13_bitCount_95d88_43 : decode cJ13_bitCount_95d88 43 = .ok (.bipush 16, 2) := by decide +kernel
theorem d_cJ13_bitCount_95d88_45 : decode cJ13_bitCount_95d88 45 = .ok (.lushr, 1) := by decide +kernel
theorem d_cJ13_bitCount_95d88_46 : decode cJ13_bitCount_95d88 46 = .ok (.ladd, 1) := by decide +kernel
theorem d_cJ13_bitCount_95d88_47 : decode cJ13_bitCount_95d88 47 = .ok (.lstore_n 0, 1) := by decide +kernel
theorem d_cJ13_bitCount_95d88_48 : decode cJ13_bitCount_95d88 48 = .ok (.lload_n 0, 1) := by decide +kernel
theorem d_cJ13_bitCount_95d88_49 : decode cJ13_bitCount_95d88 49 = .ok (.lload_n 0, 1) := by decide +kernel
theorem d_cJ13_bitCount_95d88_50 : decode cJ13_bitCount_95d88 50 = .ok (.bipush 32, 2) := by decide +kernel
theorem d_cJ13_bitCount_95d88_52 : decode cJ13_bitCount_95d88 52 = .ok (.lushr, 1) := by decide +kernel
theorem d_cJ13_bitCount_95d88_53 : decode cJ13_bitCount_95d88 53 = .ok (.ladd, 1) := by decide +kernel
theorem d_cJ13_bitCount_95d88_54 : decode cJ13_bitCount_95d88 54 = .ok (.lstore_n 0, 1) := by decide +kernel
theorem d_cJ13_bitCount_95d88_55 : decode cJ13_bitCount_95d88 55 = .ok (.lload_n 0, 1) := by decide +kernel
theorem d_cJ13_bitCount_95d88_56 : decode cJ13_bitCount_95d88 56 = .ok (.l2i, 1) := by decide +kernel
theorem d_cJ13_bitCount_95d88_57 : decode cJ13_bitCount_95d88 57 = .ok (.bipush 127, 2) := by decide +kernel
theorem d_cJ13_bitCount_95d88_59 : decode cJ13_bitCount_95d88 59 = .ok (.iand, 1) := by decide +kernel
theorem d_cJ13_bitCount_95d88_60 : decode cJ13_bitCount_95d88 60 = .ok (.ireturn, 1) := by decide +kernel
theorem d_cJ7_fill_53178_0 : decode cJ7_fill_53178 0 = .ok (.iconst 0, 1) := by decide +kernel
theorem d_cJ7_fill_53178_1 : decode cJ7_fill_53178 1 = .ok (.istore_n 2, 1) := by decide +kernel
theorem d_cJ7_fill_53178_2 : decode cJ7_fill_53178 2 = .ok (.aload_n 0, 1) := by decide +kernel
theorem d_cJ7_fill_53178_3 : decode cJ7_fill_53178 3 = .ok (.arraylength, 1) := by decide +kernel
theorem d_cJ7_fill_53178_4 : decode cJ7_fill_53178 4 = .ok (.istore_n 3, 1) := by decide +kernel
theorem d_cJ7_fill_53178_5 : decode cJ7_fill_53178 5 = .ok (.iload_n 2, 1) := by decide +kernel
theorem d_cJ7_fill_53178_6 : decode cJ7_fill_53178 6 = .ok (.iload_n 3, 1) := by decide +kernel
theorem d_cJ7_fill_53178_7 : decode cJ7_fill_53178 7 = .ok (.if_icmp .ge 13, 3) := by decide +kernel
theorem d_cJ7_fill_53178_10 : decode cJ7_fill_53178 10 = .ok (.aload_n 0, 1) := by decide +kernel
theorem d_cJ7_fill_53178_11 : decode cJ7_fill_53178 11 = .ok (.iload_n 2, 1) := by decide +kernel
theorem d_cJ7_fill_53178_12 : decode cJ7_fill_53178 12 = .ok (.iload_n 1, 1) := by decide +kernel
theorem d_cJ7_fill_53178_13 : decode cJ7_fill_53178 13 = .ok (.iastore, 1) := by decide +kernel
theorem d_cJ7_fill_53178_14 : decode cJ7_fill_53178 14 = .ok (.iinc 2 1, 3) := by decide +kernel
theorem d_cJ7_fill_53178_17 : decode cJ7_fill_53178 17 = .ok (.goto (-12), 3) := by decide +kernel
theorem d_cJ7_fill_53178_20 : decode cJ7_fill_53178 20 = .ok (.return_, 1) := by decide +kernel
theorem d_cX0_add_0 : decode cX0_add 0 = .ok (.aload_n 0, 1) := by decide +kernel
theorem d_cX0_add_1 : decode cX0_add 1 = .ok (.getfield 49, 3) := by decide +kernel
theorem d_cX0_add_4 : decode cX0_add 4 = .ok (.aload_n 0, 1) := by decide +kernel
theorem d_cX0_add_5 : decode cX0_add 5 = .ok (.getfield 27, 3) := by decide +kernel
theorem d_cX0_add_8 : decode cX0_add 8 = .ok (.arraylength, 1) := by decide +kernel
theorem d_cX0_add_9 : decode cX0_add 9 = .ok (.if_icmp .lt 9, 3) := by decide +kernel
theorem d_cX0_add_12 : decode cX0_add 12 = .ok (.aload_n 0, 1) := by decide +kernel
theorem d_cX0_add_13 : decode cX0_add 13 = .ok (.iconst 1, 1) := by decide +kernel
theorem d_cX0_add_14 : decode cX0_add 14 = .ok (.putfield 52, 3) := by decide +kernel
theorem d_cX0_add_17 : decode cX0_add 17 = .ok (.return_, 1) := by decide +kernel
theorem d_cX0_add_18 : decode cX0_add 18 = .ok (.aload_n 0, 1) := by decide +kernel
theorem d_cX0_add_19 : decode cX0_add 19 = .ok (.getfield 27, 3) := by decide +kernel
theorem d_cX0_add_22 : decode cX0_add 22 = .ok (.aload_n 0, 1) := by decide +kernel
theorem d_cX0_add_23 : decode cX0_add 23 = .ok (.getfield 49, 3) := by decide +kernel
theorem d_cX0_add_26 : decode cX0_add 26 = .ok (.iload_n 1, 1) := by decide +kernel
theorem d_cX0_add_27 : decode cX0_add 27 = .ok (.iastore, 1) := by decide +kernel
theorem d_cX0_add_28 : decode cX0_add 28 = .ok (.aload_n 0, 1) := by decide +kernel
theorem d_cX0_add_29 : decode cX0_add 29 = .ok (.getfield 30, 3) := by decide +kernel
theorem d_cX0_add_32 : decode cX0_add 32 = .ok (.aload_n 0, 1) := by decide +kernel
theorem d_cX0_add_33 : decode cX0_add 33 = .ok (.getfield 49, 3) := by decide +kernel
theorem d_cX0_add_36 : decode cX0_add 36 = .ok (.iload_n 2, 1) := by decide +kernel
theorem d_cX0_add_37 : decode cX0_add 37 = .ok (.iastore, 1) := by decide +kernel
theorem d_cX0_add_38 : decode cX0_add 38 = .ok (.aload_n 0, 1) := by decide +kernel
theorem d_cX0_add_39 : decode cX0_add 39 = .ok (.getfield 33, 3) := by decide +kernel
theorem d_cX0_add_42 : decode cX0_add 42 = .ok (.aload_n 0, 1) := by decide +kernel
theorem d_cX0_add_43 : decode cX0_add 43 = .ok (.getfield 49, 3) := by decide +kernel
theorem d_cX0_add_46 : decode cX0_add 46 = .ok (.iload_n 3, 1) := by decide +kernel
theorem d_cX0_add_47 : decode cX0_add 47 = .ok (.iastore, 1) := by decide +kernel
theorem d_cX0_add_48 : decode cX0_add 48 = .ok (.aload_n 0, 1) := by decide +kernel
theorem d_cX0_add_49 : decode cX0_add 49 = .ok (.getfield 36, 3) := by decide +kernel
theorem d_cX0_add_52 : decode cX0_add 52 = .ok (.aload_n 0, 1) := by decide +kernel
theorem d_cX0_add_53 : decode cX0_add 53 = .ok (.getfield 49, 3) := by decide +kernel
theorem d_cX0_add_56 : decode cX0_add 56 = .ok (.iload 4, 2) := by decide +kernel
theorem d_cX0_add_58 : decode cX0_add 58 = .ok (.iastore, 1) := by decide +kernel
theorem d_cX0_add_59 : decode cX0_add 59 = .ok (.aload_n 0, 1) := by decide +kernel
theorem d_cX0_add_60 : decode cX0_add 60 = .ok (.getfield 39, 3) := by decide +kernel
theorem d_cX0_add_63 : decode cX0_add 63 = .ok (.aload_n 0, 1) := by decide +kernel
theorem d_cX0_add_64 : decode cX0_add 64 = .ok (.getfield 49, 3) := by decide +kernel
theorem d_cX0_add_67 : decode cX0_add 67 = .ok (.iload 5, 2) := by decide +kernel
theorem d_cX0_add_69 : decode cX0_add 69 = .ok (.iastore, 1) := by decide +kernel
theorem d_cX0_add_70 : decode cX0_add 70 = .ok (.aload_n 0, 1) := by decide +kernel
theorem d_cX0_add_71 : decode cX0_add 71 = .ok (.getfield 42, 3) := by decide +kernel
theorem d_cX0_add_74 : decode cX0_add 74 = .ok (.aload_n 0, 1) := by decide +kernel
theorem d_cX0_add_75 : decode cX0_add 75 = .ok (.getfield 49, 3) := by decide +kernel
theorem d_cX0_add_78 : decode cX0_add 78 = .ok (.iload 6, 2) := by decide +kernel
theorem d_cX0_add_80 : decode cX0_add 80 = .ok (.iastore, 1) := by decide +kernel
theorem d_cX0_add_81 : decode cX0_add 81 = .ok (.aload_n 0, 1) := by decide +kernel
theorem d_cX0_add_82 : decode cX0_add 82 = .ok (.dup, 1) := by decide +kernel
theorem d_cX0_add_83 : decode cX0_add 83 = .ok (.getfield 49, 3) := by decide +kernel
theorem d_cX0_add_86 : decode cX0_add 86 = .ok (.iconst 1, 1) := by decide +kernel
theorem d_cX0_add_87 : decode cX0_add 87 = .ok (.iadd, 1) := by decide +kernel
theorem d_cX0_add_88 : decode cX0_add 88 = .ok (.putfield 49, 3) := by decide +kernel
theorem d_cX0_add_91 : decode cX0_add 91 = .ok (.return_, 1) := by decide +kernel
theorem d_cX0_addLine_0 : decode cX0_addLine 0 = .ok (.aload_n 0, 1) := by decide +kernel
theorem d_cX0_addLine_1 : decode cX0_addLine 1 = .ok (.aload_n 1, 1) := by decide +kernel
theorem d_cX0_addLine_2 : decode cX0_addLine 2 = .ok (.getfield 27, 3) := by decide +kernel
theorem d_cX0_addLine_5 : decode cX0_addLine 5 = .ok (.iload_n 2, 1) := by decide +kernel
theorem d_cX0_addLine_6 : decode cX0_addLine 6 = .ok (.iaload, 1) := by decide +kernel
theorem d_cX0_addLine_7 : decode cX0_addLine 7 = .ok (.aload_n 1, 1) := by decide +kernel
theorem d_cX0_addLine_8 : decode cX0_addLine 8 = .ok (.getfield 30, 3) := by decide +kernel
theorem d_cX0_addLine_11 : decode cX0_addLine 11 = .ok (.iload_n 2, 1) := by decide +kernel
theorem d_cX0_addLine_12 : decode cX0_addLine 12 = .ok (.iaload, 1) := by decide +kernel
theorem d_cX0_addLine_13 : decode cX0_addLine 13 = .ok (.aload_n 1, 1) := by decide +kernel
theorem d_cX0_addLine_14 : decode cX0_addLine 14 = .ok (.getfield 33, 3) := by decide +kernel
theorem d_cX0_addLine_17 : decode cX0_addLine 17 = .ok (.iload_n 2, 1) := by decide +kernel
theorem d_cX0_addLine_18 : decode cX0_addLine 18 = .ok (.iaload, 1) := by decide +kernel
theorem d_cX0_addLine_19 : decode cX0_addLine 19 = .ok (.aload_n 1, 1) := by decide +kernel
theorem d_cX0_addLine_20 : decode cX0_addLine 20 = .ok (.getfield 36, 3) := by decide +kernel
theorem d_cX0_addLine_23 : decode cX0_addLine 23 = .ok (.iload_n 2, 1) := by decide +kernel
theorem d_cX0_addLine_24 : decode cX0_addLine 24 = .ok (.iaload, 1) := by decide +kernel
theorem d_cX0_addLine_25 : decode cX0_addLine 25 = .ok (.aload_n 1, 1) := by decide +kernel
theorem d_cX0_addLine_26 : decode cX0_addLine 26 = .ok (.getfield 39, 3) := by decide +kernel
theorem d_cX0_addLine_29 : decode cX0_addLine 29 = .ok (.iload_n 2, 1) := by decide +kernel
theorem d_cX0_addLine_30 : decode cX0_addLine 30 = .ok (.iaload, 1) := by decide +kernel
theorem d_cX0_addLine_31 : decode cX0_addLine 31 = .ok (.aload_n 1, 1) := by decide +kernel
theorem d_cX0_addLine_32 : decode cX0_addLine 32 = .ok (.getfield 42, 3) := by decide +kernel
theorem d_cX0_addLine_35 : decode cX0_addLine 35 = .ok (.iload_n 2, 1) := by decide +kernel
theorem d_cX0_addLine_36 : decode cX0_addLine 36 = .ok (.iaload, 1) := by decide +kernel
theorem d_cX0_addLine_37 : decode cX0_addLine 37 = .ok (.invokevirtual 60, 3) := by decide +kernel
theorem d_cX0_addLine_40 : decode cX0_addLine 40 = .ok (.return_, 1) := by decide +kernel
theorem d_cX0_blockEnd_0 : decode cX0_blockEnd 0 = .ok (.iload_n 1, 1) := by decide +kernel
theorem d_cX0_blockEnd_1 : decode cX0_blockEnd 1 = .ok (.iconst 1, 1) := by decide +kernel
theorem d_cX0_blockEnd_2 : decode cX0_blockEnd 2 = .ok (.iadd, 1) := by decide +kernel
theorem d_cX0_blockEnd_3 : decode cX0_blockEnd 3 = .ok (.aload_n 0, 1) := by decide +kernel
theorem d_cX0_blockEnd_4 : decode cX0_blockEnd 4 = .ok (.getfield 45, 3) := by decide +kernel
theorem d_cX0_blockEnd_7 : decode cX0_blockEnd 7 = .ok (.if_icmp .ge 14, 3) := by decide +kernel
theorem d_cX0_blockEnd_10 : decode cX0_blockEnd 10 = .ok (.aload_n 0, 1) := by decide +kernel
theorem d_cX0_blockEnd_11 : decode cX0_blockEnd 11 = .ok (.getfield 9, 3) := by decide +kernel
theorem d_cX0_blockEnd_14 : decode cX0_blockEnd 14 = .ok (.iload_n 1, 1) := by decide +kernel
theorem d_cX0_blockEnd_15 : decode cX0_blockEnd 15 = .ok (.iconst 1, 1) := by decide +kernel
theorem d_cX0_blockEnd_16 : decode cX0_blockEnd 16 = .ok (.iadd, 1) := by decide +kernel
theorem d_cX0_blockEnd_17 : decode cX0_blockEnd 17 = .ok (.iaload, 1) := by decide +kernel
theorem d_cX0_blockEnd_18 : decode cX0_blockEnd 18 = .ok (.goto 7, 3) := by decide +kernel
theorem d_cX0_blockEnd_21 : decode cX0_blockEnd 21 = .ok (.aload_n 0, 1) := by decide +kernel
theorem d_cX0_blockEnd_22 : decode cX0_blockEnd 22 = .ok (.getfield 49, 3) := by decide +kernel
theorem d_cX0_blockEnd_25 : decode cX0_blockEnd 25 = .ok (.ireturn, 1) := by decide +kernel
theorem d_cX0_clear_0 : decode cX0_clear 0 = .ok (.aload_n 0, 1) := by decide +kernel
theorem d_cX0_clear_1 : decode cX0_clear 1 = .ok (.iconst 0, 1) := by decide +kernel
theorem d_cX0_clear_2 : decode cX0_clear 2 = .ok (.putfield 45, 3) := by decide +kernel
theorem d_cX0_clear_5 : decode cX0_clear 5 = .ok (.aload_n 0, 1) := by decide +kernel
theorem d_cX0_clear_6 : decode cX0_clear 6 = .ok (.iconst 0, 1) := by decide +kernel
theorem d_cX0_clear_7 : decode cX0_clear 7 = .ok (.putfield 49, 3) := by decide +kernel
theorem d_cX0_clear_10 : decode cX0_clear 10 = .ok (.aload_n 0, 1) := by decide +kernel
theorem d_cX0_clear_11 : decode cX0_clear 11 = .ok (.iconst 0, 1) := by decide +kernel
theorem d_cX0_clear_12 : decode cX0_clear 12 = .ok (.putfield 52, 3) := by decide +kernel
theorem d_cX0_clear_15 : decode cX0_clear 15 = .ok (.return_, 1) := by decide +kernel
theorem d_cX0_copiesRegister_0 : decode cX0_copiesRegister 0 = .ok (.aload_n 0, 1) := by decide +kernel
theorem d_cX0_copiesRegister_1 : decode cX0_copiesRegister 1 = .ok (.getfield 27, 3) := by decide +kernel
theorem d_cX0_copiesRegister_4 : decode cX0_copiesRegister 4 = .ok (.iload_n 1, 1) := by decide +kernel
theorem d_cX0_copiesRegister_5 : decode cX0_copiesRegister 5 = .ok (.iaload, 1) := by decide +kernel
theorem d_cX0_copiesRegister_6 : decode cX0_copiesRegister 6 = .ok (.bipush 14, 2) := by decide +kernel
theorem d_cX0_copiesRegister_8 : decode cX0_copiesRegister 8 = .ok (.if_icmp .ne 25, 3) := by decide +kernel
theorem d_cX0_copiesRegister_11 : decode cX0_copiesRegister 11 = .ok (.aload_n 0, 1) := by decide +kernel
theorem d_cX0_copiesRegister_12 : decode cX0_copiesRegister 12 = .ok (.getfield 30, 3) := by decide +kernel
theorem d_cX0_copiesRegister_15 : decode cX0_copiesRegister 15 = .ok (.iload_n 1, 1) := by decide +kernel
theorem d_cX0_copiesRegister_16 : decode cX0_copiesRegister 16 = .ok (.iaload, 1) := by decide +kernel
theorem d_cX0_copiesRegister_17 : decode cX0_copiesRegister 17 = .ok (.ifCond .lt 16, 3) := by decide +kernel
theorem d_cX0_copiesRegister_20 : decode cX0_copiesRegister 20 = .ok (.aload_n 0, 1) := by decide +kernel
theorem d_cX0_copiesRegister_21 : decode cX0_copiesRegister 21 = .ok (.getfield 33, 3) := by decide +kernel
theorem d_cX0_copiesRegister_24 : decode cX0_copiesRegister 24 = .ok (.iload_n 1, 1) := by decide +kernel
theorem d_cX0_copiesRegister_25 : decode cX0_copiesRegister 25 = .ok (.iaload, 1) := by decide +kernel
theorem d_cX0_copiesRegister_26 : decode cX0_copiesRegister 26 = .ok (.ifCond .lt 7, 3) := by decide +kernel
theorem d_cX0_copiesRegister_29 : decode cX0_copiesRegister 29 = .ok (.iconst 1, 1) := by decide +kernel
theorem d_cX0_copiesRegister_30 : decode cX0_copiesRegister 30 = .ok (.goto 4, 3) := by decide +kernel
theorem d_cX0_copiesRegister_33 : decode cX0_copiesRegister 33 = .ok (.iconst 0, 1) := by decide +kernel
theorem d_cX0_copiesRegister_34 : decode cX0_copiesRegister 34 = .ok (.ireturn, 1) := by decide +kernel
theorem d_cX0_drop_0 : decode cX0_drop 0 = .ok (.aload_n 0, 1) := by decide +kernel
theorem d_cX0_drop_1 : decode cX0_drop 1 = .ok (.getfield 49, 3) := by decide +kernel
theorem d_cX0_drop_4 : decode cX0_drop 4 = .ok (.iload_n 1, 1) := by decide +kernel
theorem d_cX0_drop_5 : decode cX0_drop 5 = .ok (.isub, 1) := by decide +kernel
theorem d_cX0_drop_6 : decode cX0_drop 6 = .ok (.iconst 1, 1) := by decide +kernel
theorem d_cX0_drop_7 : decode cX0_drop 7 = .ok (.isub, 1) := by decide +kernel
theorem d_cX0_drop_8 : decode cX0_drop 8 = .ok (.istore_n 2, 1) := by decide +kernel
theorem d_cX0_drop_9 : decode cX0_drop 9 = .ok (.iload_n 1, 1) := by decide +kernel
theorem d_cX0_drop_10 : decode cX0_drop 10 = .ok (.ifCond .lt 7, 3) := by decide +kernel
theorem d_cX0_drop_13 : decode cX0_drop 13 = .ok (.iload_n 2, 1) := by decide +kernel
theorem d_cX0_drop_14 : decode cX0_drop 14 = .ok (.ifCond .ge 4, 3) := by decide +kernel
theorem d_cX0_drop_17 : decode cX0_drop 17 = .ok (.return_, 1) := by decide +kernel
theorem d_cX0_drop_18 : decode cX0_drop 18 = .ok (.aload_n 0, 1) := by decide +kernel
theorem d_cX0_drop_19 : decode cX0_drop 19 = .ok (.getfield 27, 3) := by decide +kernel
theorem d_cX0_drop_22 : decode cX0_drop 22 = .ok (.iload_n 1, 1) := by decide +kernel
theorem d_cX0_drop_23 : decode cX0_drop 23 = .ok (.iconst 1, 1) := by decide +kernel
theorem d_cX0_drop_24 : decode cX0_drop 24 = .ok (.iadd, 1) := by decide +kernel
theorem d_cX0_drop_25 : decode cX0_drop 25 = .ok (.aload_n 0, 1) := by decide +kernel
theorem d_cX0_drop_26 : decode cX0_drop 26 = .ok (.getfield 27, 3) := by decide +kernel
theorem d_cX0_drop_29 : decode cX0_drop 29 = .ok (.iload_n 1, 1) := by decide +kernel
theorem d_cX0_drop_30 : decode cX0_drop 30 = .ok (.iload_n 2, 1) := by decide +kernel
theorem d_cX0_drop_31 : decode cX0_drop 31 = .ok (.invokestatic 64, 3) := by decide +kernel
theorem d_cX0_drop_34 : decode cX0_drop 34 = .ok (.aload_n 0, 1) := by decide +kernel
theorem d_cX0_drop_35 : decode cX0_drop 35 = .ok (.getfield 30, 3) := by decide +kernel
theorem d_cX0_drop_38 : decode cX0_drop 38 = .ok (.iload_n 1, 1) := by decide +kernel
theorem d_cX0_drop_39 : decode cX0_drop 39 = .ok (.iconst 1, 1) := by decide +kernel
theorem d_cX0_drop_40 : decode cX0_drop 40 = .ok (.iadd, 1) := by decide +kernel
theorem d_cX0_drop_41 : decode cX0_drop 41 = .ok (.aload_n 0, 1) := by decide +kernel
theorem d_cX0_drop_42 : decode cX0_drop 42 = .ok (.getfield 30, 3) := by decide +kernel
theorem d_cX0_drop_45 : decode cX0_drop 45 = .ok (.iload_n 1, 1) := by decide +kernel
theorem d_cX0_drop_46 : decode cX0_drop 46 = .ok (.iload_n 2, 1) := by decide +kernel
theorem d_cX0_drop_47 : decode cX0_drop 47 = .ok (.invokestatic 64, 3) := by decide +kernel
theorem d_cX0_drop_50 : decode cX0_drop 50 = .ok (.aload_n 0, 1) := by decide +kernel
theorem d_cX0_drop_51 : decode cX0_drop 51 = .ok (.getfield 33, 3) := by decide +kernel
theorem d_cX0_drop_54 : decode cX0_drop 54 = .ok (.iload_n 1, 1) := by decide +kernel
theorem d_cX0_drop_55 : decode cX0_drop 55 = .ok (.iconst 1, 1) := by decide +kernel
theorem d_cX0_drop_56 : decode cX0_drop 56 = .ok (.iadd, 1) := by decide +kernel
theorem d_cX0_drop_57 : decode cX0_drop 57 = .ok (.aload_n 0, 1) := by decide +kernel
theorem d_cX0_drop_58 : decode cX0_drop 58 = .ok (.getfield 33, 3) := by decide +kernel
theorem d_cX0_drop_61 : decode cX0_drop 61 = .ok (.iload_n 1, 1) := by decide +kernel
theorem d_cX0_drop_62 : decode cX0_drop 62 = .ok (.iload_n 2, 1) := by decide +kernel
theorem d_cX0_drop_63 : decode cX0_drop 63 = .ok (.invokestatic 64, 3) := by decide +kernel
theorem d_cX0_drop_66 : decode cX0_drop 66 = .ok (.aload_n 0, 1) := by decide +kernel
theorem d_cX0_drop_67 : decode cX0_drop 67 = .ok (.getfield 36, 3) := by decide +kernel
theorem d_cX0_drop_70 : decode cX0_drop 70 = .ok (.iload_n 1, 1) := by decide +kernel
theorem d_cX0_drop_71 : decode cX0_drop 71 = .ok (.iconst 1, 1) := by decide +kernel
theorem d_cX0_drop_72 : decode cX0_drop 72 = .ok (.iadd, 1) := by decide +kernel
theorem d_cX0_drop_73 : decode cX0_drop 73 = .ok (.aload_n 0, 1) := by decide +kernel
theorem d_cX0_drop_74 : decode cX0_drop 74 = .ok (.getfield 36, 3) := by decide +kernel
theorem d_cX0_drop_77 : decode cX0_drop 77 = .ok (.iload_n 1, 1) := by decide +kernel
theorem d_cX0_drop_78 : decode cX0_drop 78 = .ok (.iload_n 2, 1) := by decide +kernel
theorem d_cX0_drop_79 : decode cX0_drop 79 = .ok (.invokestatic 64, 3) := by decide +kernel
theorem d_cX0_drop_82 : decode cX0_drop 82 = .ok (.aload_n 0, 1) := by decide +kernel
theorem d_cX0_drop_83 : decode cX0_drop 83 = .ok (.getfield 39, 3) := by decide +kernel
theorem d_cX0_drop_86 : decode cX0_drop 86 = .ok (.iload_n 1, 1) := by decide +kernel
theorem d_cX0_drop_87 : decode cX0_drop 87 = .ok (.iconst 1, 1) := by decide +kernel
theorem d_cX0_drop_88 : decode cX0_drop 88 = .ok (.iadd, 1) := by decide +kernel
theorem d_cX0_drop_89 : decode cX0_drop 89 = .ok (.aload_n 0, 1) := by decide +kernel
theorem d_cX0_drop_90 : decode cX0_drop 90 = .ok (.getfield 39, 3) := by decide +kernel
theorem d_cX0_drop_93 : decode cX0_drop 93 = .ok (.iload_n 1, 1) := by decide +kernel
theorem d_cX0_drop_94 : decode cX0_drop 94 = .ok (.iload_n 2, 1) := by decide +kernel
theorem d_cX0_drop_95 : decode cX0_drop 95 = .ok (.invokestatic 64, 3) := by decide +kernel
theorem d_cX0_drop_98 : decode cX0_drop 98 = .ok (.aload_n 0, 1) := by decide +kernel
theorem d_cX0_drop_99 : decode cX0_drop 99 = .ok (.getfield 42, 3) := by decide +kernel
theorem d_cX0_drop_102 : decode cX0_drop 102 = .ok (.iload_n 1, 1) := by decide +kernel
theorem d_cX0_drop_103 : decode cX0_drop 103 = .ok (.iconst 1, 1) := by decide +kernel
theorem d_cX0_drop_104 : decode cX0_drop 104 = .ok (.iadd, 1) := by decide +kernel
theorem d_cX0_drop_105 : decode cX0_drop 105 = .ok (.aload_n 0, 1) := by decide +kernel
theorem d_cX0_drop_106 : decode cX0_drop 106 = .ok (.getfield 42, 3) := by decide +kernel
theorem d_cX0_drop_109 : decode cX0_drop 109 = .ok (.iload_n 1, 1) := by decide +kernel
theorem d_cX0_drop_110 : decode cX0_drop 110 = .ok (.iload_n 2, 1) := by decide +kernel
theorem d_cX0_drop_111 : decode cX0_drop 111 = .ok (.invokestatic 64, 3) := by decide +kernel
theorem d_cX0_drop_114 : decode cX0_drop 114 = .ok (.aload_n 0, 1) := by decide +kernel
theorem d_cX0_drop_115 : decode cX0_drop 115 = .ok (.dup, 1) := by decide +kernel
theorem d_cX0_drop_116 : decode cX0_drop 116 = .ok (.getfield 49, 3) := by decide +kernel
theorem d_cX0_drop_119 : decode cX0_drop 119 = .ok (.iconst 1, 1) := by decide +kernel
theorem d_cX0_drop_120 : decode cX0_drop 120 = .ok (.isub, 1) := by decide +kernel
theorem d_cX0_drop_121 : decode cX0_drop 121 = .ok (.putfield 49, 3) := by decide +kernel
theorem d_cX0_drop_124 : decode cX0_drop 124 = .ok (.iconst 0, 1) := by decide +kernel
theorem d_cX0_drop_125 : decode cX0_drop 125 = .ok (.istore_n 3, 1) := by decide +kernel
theorem d_cX0_drop_126 : decode cX0_drop 126 = .ok (.iload_n 3, 1) := by decide +kernel
theorem d_cX0_drop_127 : decode cX0_drop 127 = .ok (.aload_n 0, 1) := by decide +kernel
theorem d_cX0_drop_128 : decode cX0_drop 128 = .ok (.getfield 45, 3) := by decide +kernel
theorem d_cX0_drop_131 : decode cX0_drop 131 = .ok (.if_icmp .ge 29, 3) := by decide +kernel
theorem d_cX0_drop_134 : decode cX0_drop 134 = .ok (.aload_n 0, 1) := by decide +kernel
theorem d_cX0_drop_135 : decode cX0_drop 135 = .ok (.getfield 9, 3) := by decide +kernel
theorem d_cX0_drop_138 : decode cX0_drop 138 = .ok (.iload_n 3, 1) := by decide +kernel
theorem d_cX0_drop_139 : decode cX0_drop 139 = .ok (.iaload, 1) := by decide +kernel
theorem d_cX0_drop_140 : decode cX0_drop 140 = .ok (.iload_n 1, 1) := by decide +kernel
theorem d_cX0_drop_141 : decode cX0_drop 141 = .ok (.if_icmp .le 13, 3) := by decide +kernel
theorem d_cX0_drop_144 : decode cX0_drop 144 = .ok (.aload_n 0, 1) := by decide +kernel
theorem d_cX0_drop_145 : decode cX0_drop 145 = .ok (.getfield 9, 3) := by decide +kernel
theorem d_cX0_drop_148 : decode cX0_drop 148 = .ok (.iload_n 3, 1) := by decide +kernel
theorem d_cX0_drop_149 : decode cX0_drop 149 = .ok (.dup2, 1) := by decide +kernel
theorem d_cX0_drop_150 : decode cX0_drop 150 = .ok (.iaload, 1) := by decide +kernel
theorem d_cX0_drop_151 : decode cX0_drop 151 = .ok (.iconst 1, 1) := by decide +kernel
theorem d_cX0_drop_152 : decode cX0_drop 152 = .ok (.isub, 1) := by decide +kernel
theorem d_cX0_drop_153 : decode cX0_drop 153 = .ok (.iastore, 1) := by decide +kernel
theorem d_cX0_drop_154 : decode cX0_drop 154 = .ok (.iinc 3 1, 3) := by decide +kernel
theorem d_cX0_drop_157 : decode cX0_drop 157 = .ok (.goto (-31), 3) := by decide +kernel
theorem d_cX0_drop_160 : decode cX0_drop 160 = .ok (.return_, 1) := by decide +kernel
theorem d_cX0_firstUse_0 : decode cX0_firstUse 0 = .ok (.iload_n 2, 1) := by decide +kernel
theorem d_cX0_firstUse_1 : decode cX0_firstUse 1 = .ok (.ifCond .eq 25, 3) := by decide +kernel
theorem d_cX0_firstUse_4 : decode cX0_firstUse 4 = .ok (.aload_n 0, 1) := by decide +kernel
theorem d_cX0_firstUse_5 : decode cX0_firstUse 5 = .ok (.getfield 27, 3) := by decide +kernel
theorem d_cX0_firstUse_8 : decode cX0_firstUse 8 = .ok (.iload_n 1, 1) := by decide +kernel
theorem d_cX0_firstUse_9 : decode cX0_firstUse 9 = .ok (.iaload, 1) := by decide +kernel
theorem d_cX0_firstUse_10 : decode cX0_firstUse 10 = .ok (.bipush 17, 2) := by decide +kernel
theorem d_cX0_firstUse_12 : decode cX0_firstUse 12 = .ok (.if_icmp .ne 12, 3) := by decide +kernel
theorem d_cX0_firstUse_15 : decode cX0_firstUse 15 = .ok (.aload_n 0, 1) := by decide +kernel
theorem d_cX0_firstUse_16 : decode cX0_firstUse 16 = .ok (.getfield 42, 3) := by decide +kernel
theorem d_cX0_firstUse_19 : decode cX0_firstUse 19 = .ok (.iload_n 1, 1) := by decide +kernel
theorem d_cX0_firstUse_20 : decode cX0_firstUse 20 = .ok (.iaload, 1) := by decide +kernel
theorem d_cX0_firstUse_21 : decode cX0_firstUse 21 = .ok (.goto 4, 3) := by decide +kernel
theorem d_cX0_firstUse_24 : decode cX0_firstUse 24 = .ok (.iconst (-1), 1) := by decide +kernel
theorem d_cX0_firstUse_25 : decode cX0_firstUse 25 = .ok (.ireturn, 1) := by decide +kernel
theorem d_cX0_firstUse_26 : decode cX0_firstUse 26 = .ok (.aload_n 0, 1) := by decide +kernel
theorem d_cX0_firstUse_27 : decode cX0_firstUse 27 = .ok (.getfield 33, 3) := by decide +kernel
theorem d_cX0_firstUse_30 : decode cX0_firstUse 30 = .ok (.iload_n 1, 1) := by decide +kernel
theorem d_cX0_firstUse_31 : decode cX0_firstUse 31 = .ok (.iaload, 1) := by decide +kernel
theorem d_cX0_firstUse_32 : decode cX0_firstUse 32 = .ok (.ireturn, 1) := by decide +kernel
theorem d_cX0_nameIn_0 : decode cX0_nameIn 0 = .ok (.iload_n 1, 1) := by decide +kernel
theorem d_cX0_nameIn_1 : decode cX0_nameIn 1 = .ok (.ifCond .lt 15, 3) := by decide +kernel
theorem d_cX0_nameIn_4 : decode cX0_nameIn 4 = .ok (.iload_n 1, 1) := by decide +kernel
theorem d_cX0_nameIn_5 : decode cX0_nameIn 5 = .ok (.aload_n 0, 1) := by decide +kernel
theorem d_cX0_nameIn_6 : decode cX0_nameIn 6 = .ok (.arraylength, 1) := by decide +kernel
theorem d_cX0_nameIn_7 : decode cX0_nameIn 7 = .ok (.if_icmp .ge 9, 3) := by decide +kernel
theorem d_cX0_nameIn_10 : decode cX0_nameIn 10 = .ok (.aload_n 0, 1) := by decide +kernel
theorem d_cX0_nameIn_11 : decode cX0_nameIn 11 = .ok (.iload_n 1, 1) := by decide +kernel
theorem d_cX0_nameIn_12 : decode cX0_nameIn 12 = .ok (.iaload, 1) := by decide +kernel
theorem d_cX0_nameIn_13 : decode cX0_nameIn 13 = .ok (.goto 4, 3) := by decide +kernel
theorem d_cX0_nameIn_16 : decode cX0_nameIn 16 = .ok (.iload_n 1, 1) := by decide +kernel
theorem d_cX0_nameIn_17 : decode cX0_nameIn 17 = .ok (.ireturn, 1) := by decide +kernel
theorem d_cX0_openBlock_0 : decode cX0_openBlock 0 = .ok (.aload_n 0, 1) := by decide +kernel
theorem d_cX0_openBlock_1 : decode cX0_openBlock 1 = .ok (.getfield 45, 3) := by decide +kernel
theorem d_cX0_openBlock_4 : decode cX0_openBlock 4 = .ok (.bipush 40, 2) := by decide +kernel
theorem d_cX0_openBlock_6 : decode cX0_openBlock 6 = .ok (.if_icmp .lt 5, 3) := by decide +kernel
theorem d_cX0_openBlock_9 : decode cX0_openBlock 9 = .ok (.iconst 0, 1) := by decide +kernel
theorem d_cX0_openBlock_10 : decode cX0_openBlock 10 = .ok (.ireturn, 1) := by decide +kernel
theorem d_cX0_openBlock_11 : decode cX0_openBlock 11 = .ok (.aload_n 0, 1) := by decide +kernel
theorem d_cX0_openBlock_12 : decode cX0_openBlock 12 = .ok (.getfield 9, 3) := by decide +kernel
theorem d_cX0_openBlock_15 : decode cX0_openBlock 15 = .ok (.aload_n 0, 1) := by decide +kernel
theorem d_cX0_openBlock_16 : decode cX0_openBlock 16 = .ok (.getfield 45, 3) := by decide +kernel
theorem d_cX0_openBlock_19 : decode cX0_openBlock 19 = .ok (.aload_n 0, 1) := by decide +kernel
theorem d_cX0_openBlock_20 : decode cX0_openBlock 20 = .ok (.getfield 49, 3) := by decide +kernel
theorem d_cX0_openBlock_23 : decode cX0_openBlock 23 = .ok (.iastore, 1) := by decide +kernel
theorem d_cX0_openBlock_24 : decode cX0_openBlock 24 = .ok (.aload_n 0, 1) := by decide +kernel
theorem d_cX0_openBlock_25 : decode cX0_openBlock 25 = .ok (.getfield 15, 3) := by decide +kernel
theorem d_cX0_openBlock_28 : decode cX0_openBlock 28 = .ok (.aload_n 0, 1) := by decide +kernel
theorem d_cX0_openBlock_29 : decode cX0_openBlock 29 = .ok (.getfield 45, 3) := by decide +kernel
theorem d_cX0_openBlock_32 : decode cX0_openBlock 32 = .ok (.iconst (-1), 1) := by decide +kernel
theorem d_cX0_openBlock_33 : decode cX0_openBlock 33 = .ok (.iastore, 1) := by decide +kernel
theorem d_cX0_openBlock_34 : decode cX0_openBlock 34 = .ok (.aload_n 0, 1) := by decide +kernel
theorem d_cX0_openBlock_35 : decode cX0_openBlock 35 = .ok (.getfield 18, 3) := by decide +kernel
theorem d_cX0_openBlock_38 : decode cX0_openBlock 38 = .ok (.aload_n 0, 1) := by decide +kernel
theorem d_cX0_openBlock_39 : decode cX0_openBlock 39 = .ok (.getfield 45, 3) := by decide +kernel
theorem d_cX0_openBlock_42 : decode cX0_openBlock 42 = .ok (.iconst (-1), 1) := by decide +kernel
theorem d_cX0_openBlock_43 : decode cX0_openBlock 43 = .ok (.iastore, 1) := by decide +kernel
theorem d_cX0_openBlock_44 : decode cX0_openBlock 44 = .ok (.aload_n 0, 1) := by decide +kernel
theorem d_cX0_openBlock_45 : decode cX0_openBlock 45 = .ok (.dup, 1) := by decide +kernel
theorem d_cX0_openBlock_46 : decode cX0_openBlock 46 = .ok (.getfield 45, 3) := by decide +kernel
theorem d_cX0_openBlock_49 : decode cX0_openBlock 49 = .ok (.iconst 1, 1) := by decide +kernel
theorem d_cX0_openBlock_50 : decode cX0_openBlock 50 = .ok (.iadd, 1) := by decide +kernel
theorem d_cX0_openBlock_51 : decode cX0_openBlock 51 = .ok (.putfield 45, 3) := by decide +kernel
theorem d_cX0_openBlock_54 : decode cX0_openBlock 54 = .ok (.iconst 1, 1) := by decide +kernel
theorem d_cX0_openBlock_55 : decode cX0_openBlock 55 = .ok (.ireturn, 1) := by decide +kernel
theorem d_cX0_openLike_0 : decode cX0_openLike 0 = .ok (.aload_n 0, 1) := by decide +kernel
theorem d_cX0_openLike_1 : decode cX0_openLike 1 = .ok (.getfield 45, 3) := by decide +kernel
theorem d_cX0_openLike_4 : decode cX0_openLike 4 = .ok (.istore_n 2, 1) := by decide +kernel
theorem d_cX0_openLike_5 : decode cX0_openLike 5 = .ok (.iload_n 2, 1) := by decide +kernel
theorem d_cX0_openLike_6 : decode cX0_openLike 6 = .ok (.aload_n 1, 1) := by decide +kernel
theorem d_cX0_openLike_7 : decode cX0_openLike 7 = .ok (.getfield 45, 3) := by decide +kernel
theorem d_cX0_openLike_10 : decode cX0_openLike 10 = .ok (.if_icmp .ge 34, 3) := by decide +kernel
theorem d_cX0_openLike_13 : decode cX0_openLike 13 = .ok (.aload_n 0, 1) := by decide +kernel
theorem d_cX0_openLike_14 : decode cX0_openLike 14 = .ok (.invokevirtual 56, 3) := by decide +kernel
theorem d_cX0_openLike_17 : decode cX0_openLike 17 = .ok (.ifCond .eq 27, 3) := by decide +kernel
theorem d_cX0_openLike_20 : decode cX0_openLike 20 = .ok (.aload_n 0, 1) := by decide +kernel
theorem d_cX0_openLike_21 : decode cX0_openLike 21 = .ok (.getfield 15, 3) := by decide +kernel
theorem d_cX0_openLike_24 : decode cX0_openLike 24 = .ok (.iload_n 2, 1) := by decide +kernel
theorem d_cX0_openLike_25 : decode cX0_openLike 25 = .ok (.aload_n 1, 1) := by decide +kernel
theorem d_cX0_openLike_26 : decode cX0_openLike 26 = .ok (.getfield 15, 3) := by decide +kernel
theorem d_cX0_openLike_29 : decode cX0_openLike 29 = .ok (.iload_n 2, 1) := by decide +kernel
theorem d_cX0_openLike_30 : decode cX0_openLike 30 = .ok (.iaload, 1) := by decide +kernel
theorem d_cX0_openLike_31 : decode cX0_openLike 31 = .ok (.iastore, 1) := by decide +kernel
theorem d_cX0_openLike_32 : decode cX0_openLike 32 = .ok (.aload_n 0, 1) := by decide +kernel
theorem d_cX0_openLike_33 : decode cX0_openLike 33 = .ok (.getfield 18, 3) := by decide +kernel
theorem d_cX0_openLike_36 : decode cX0_openLike 36 = .ok (.iload_n 2, 1) := by decide +kernel
theorem d_cX0_openLike_37 : decode cX0_openLike 37 = .ok (.aload_n 1, 1) := by decide +kernel
theorem d_cX0_openLike_38 : decode cX0_openLike 38 = .ok (.getfield 18, 3) := by decide +kernel
theorem d_cX0_openLike_41 : decode cX0_openLike 41 = .ok (.iload_n 2, 1) := by decide +kernel
theorem d_cX0_openLike_42 : decode cX0_openLike 42 = .ok (.iaload, 1) := by decide +kernel
theorem d_cX0_openLike_43 : decode cX0_openLike 43 = .ok (.iastore, 1) := by decide +kernel
theorem d_cX0_openLike_44 : decode cX0_openLike 44 = .ok (.return_, 1) := by decide +kernel
theorem d_cX0_renameSlots_0 : decode cX0_renameSlots 0 = .ok (.iconst 0, 1) := by decide +kernel
theorem d_cX0_renameSlots_1 : decode cX0_renameSlots 1 = .ok (.istore_n 2, 1) := by decide +kernel
theorem d_cX0_renameSlots_2 : decode cX0_renameSlots 2 = .ok (.iload_n 2, 1) := by decide +kernel
theorem d_cX0_renameSlots_3 : decode cX0_renameSlots 3 = .ok (.aload_n 0, 1) := by decide +kernel
theorem d_cX0_renameSlots_4 : decode cX0_renameSlots 4 = .ok (.getfield 49, 3) := by decide +kernel
theorem d_cX0_renameSlots_7 : decode cX0_renameSlots 7 = .ok (.if_icmp .ge 47, 3) := by decide +kernel
theorem d_cX0_renameSlots_10 : decode cX0_renameSlots 10 = .ok (.aload_n 0, 1) := by decide +kernel
theorem d_cX0_renameSlots_11 : decode cX0_renameSlots 11 = .ok (.getfield 27, 3) := by decide +kernel
theorem d_cX0_renameSlots_14 : decode cX0_renameSlots 14 = .ok (.iload_n 2, 1) := by decide +kernel
theorem d_cX0_renameSlots_15 : decode cX0_renameSlots 15 = .ok (.iaload, 1) := by decide +kernel
theorem d_cX0_renameSlots_16 : decode cX0_renameSlots 16 = .ok (.bipush 17, 2) := by decide +kernel
theorem d_cX0_renameSlots_18 : decode cX0_renameSlots 18 = .ok (.if_icmp .eq 14, 3) := by decide +kernel
theorem d_cX0_renameSlots_21 : decode cX0_renameSlots 21 = .ok (.aload_n 0, 1) := by decide +kernel
theorem d_cX0_renameSlots_22 : decode cX0_renameSlots 22 = .ok (.getfield 27, 3) := by decide +kernel
theorem d_cX0_renameSlots_25 : decode cX0_renameSlots 25 = .ok (.iload_n 2, 1) := by decide +kernel
theorem d_cX0_renameSlots_26 : decode cX0_renameSlots 26 = .ok (.iaload, 1) := by decide +kernel
theorem d_cX0_renameSlots_27 : decode cX0_renameSlots 27 = .ok (.bipush 18, 2) := by decide +kernel
theorem d_cX0_renameSlots_29 : decode cX0_renameSlots 29 = .ok (.if_icmp .ne 19, 3) := by decide +kernel
theorem d_cX0_renameSlots_32 : decode cX0_renameSlots 32 = .ok (.aload_n 0, 1) := by decide +kernel
theorem d_cX0_renameSlots_33 : decode cX0_renameSlots 33 = .ok (.getfield 42, 3) := by decide +kernel
theorem d_cX0_renameSlots_36 : decode cX0_renameSlots 36 = .ok (.iload_n 2, 1) := by decide +kernel
theorem d_cX0_renameSlots_37 : decode cX0_renameSlots 37 = .ok (.aload_n 1, 1) := by decide +kernel
theorem d_cX0_renameSlots_38 : decode cX0_renameSlots 38 = .ok (.aload_n 0, 1) := by decide +kernel
theorem d_cX0_renameSlots_39 : decode cX0_renameSlots 39 = .ok (.getfield 42, 3) := by decide +kernel
theorem d_cX0_renameSlots_42 : decode cX0_renameSlots 42 = .ok (.iload_n 2, 1) := by decide +kernel
theorem d_cX0_renameSlots_43 : decode cX0_renameSlots 43 = .ok (.iaload, 1) := by decide +kernel
theorem d_cX0_renameSlots_44 : decode cX0_renameSlots 44 = .ok (.invokestatic 70, 3) := by decide +kernel
theorem d_cX0_renameSlots_47 : decode cX0_renameSlots 47 = .ok (.iastore, 1) := by decide +kernel
theorem d_cX0_renameSlots_48 : decode cX0_renameSlots 48 = .ok (.iinc 2 1, 3) := by decide +kernel
theorem d_cX0_renameSlots_51 : decode cX0_renameSlots 51 = .ok (.goto (-49), 3) := by decide +kernel
theorem d_cX0_renameSlots_54 : decode cX0_renameSlots 54 = .ok (.return_, 1) := by decide +kernel
theorem d_cX0_replace_0 : decode cX0_replace 0 = .ok (.iconst 0, 1) := by decide +kernel
theorem d_cX0_replace_1 : decode cX0_replace 1 = .ok (.istore_n 3, 1) := by decide +kernel
theorem d_cX0_replace_2 : decode cX0_replace 2 = .ok (.iload_n 3, 1) := by decide +kernel
theorem d_cX0_replace_3 : decode cX0_replace 3 = .ok (.aload_n 0, 1) := by decide +kernel
theorem d_cX0_replace_4 : decode cX0_replace 4 = .ok (.getfield 49, 3) := by decide +kernel
theorem d_cX0_replace_7 : decode cX0_replace 7 = .ok (.if_icmp .ge 87, 3) := by decide +kernel
theorem d_cX0_replace_10 : decode cX0_replace 10 = .ok (.aload_n 0, 1) := by decide +kernel
theorem d_cX0_replace_11 : decode cX0_replace 11 = .ok (.getfield 30, 3) := by decide +kernel
theorem d_cX0_replace_14 : decode cX0_replace 14 = .ok (.iload_n 3, 1) := by decide +kernel
theorem d_cX0_replace_15 : decode cX0_replace 15 = .ok (.aload_n 0, 1) := by decide +kernel
theorem d_cX0_replace_16 : decode cX0_replace 16 = .ok (.getfield 30, 3) := by decide +kernel
theorem d_cX0_replace_19 : decode cX0_replace 19 = .ok (.iload_n 3, 1) := by decide +kernel
theorem d_cX0_replace_20 : decode cX0_replace 20 = .ok (.iaload, 1) := by decide +kernel
theorem d_cX0_replace_21 : decode cX0_replace 21 = .ok (.iload_n 1, 1) := by decide +kernel
theorem d_cX0_replace_22 : decode cX0_replace 22 = .ok (.if_icmp .ne 7, 3) := by decide +kernel
theorem d_cX0_replace_25 : decode cX0_replace 25 = .ok (.iload_n 2, 1) := by decide +kernel
theorem d_cX0_replace_26 : decode cX0_replace 26 = .ok (.goto 9, 3) := by decide +kernel
theorem d_cX0_replace_29 : decode cX0_replace 29 = .ok (.aload_n 0, 1) := by decide +kernel
theorem d_cX0_replace_30 : decode cX0_replace 30 = .ok (.getfield 30, 3) := by decide +kernel
theorem d_cX0_replace_33 : decode cX0_replace 33 = .ok (.iload_n 3, 1) := by decide +kernel
theorem d_cX0_replace_34 : decode cX0_replace 34 = .ok (.iaload, 1) := by decide +kernel
theorem d_cX0_replace_35 : decode cX0_replace 35 = .ok (.iastore, 1) := by decide +kernel
theorem d_cX0_replace_36 : decode cX0_replace 36 = .ok (.aload_n 0, 1) := by decide +kernel
theorem d_cX0_replace_37 : decode cX0_replace 37 = .ok (.getfield 33, 3) := by decide +kernel
theorem d_cX0_replace_40 : decode cX0_replace 40 = .ok (.iload_n 3, 1) := by decide +kernel
theorem d_cX0_replace_41 : decode cX0_replace 41 = .ok (.aload_n 0, 1) := by decide +kernel
theorem d_cX0_replace_42 : decode cX0_replace 42 = .ok (.getfield 33, 3) := by decide +kernel
theorem d_cX0_replace_45 : decode cX0_replace 45 = .ok (.iload_n 3, 1) := by decide +kernel
theorem d_cX0_replace_46 : decode cX0_replace 46 = .ok (.iaload, 1) := by decide +kernel
theorem d_cX0_replace_47 : decode cX0_replace 47 = .ok (.iload_n 1, 1) := by decide +kernel
theorem d_cX0_replace_48 : decode cX0_replace 48 = .ok (.if_icmp .ne 7, 3) := by decide +kernel
theorem d_cX0_replace_51 : decode cX0_replace 51 = .ok (.iload_n 2, 1) := by decide +kernel
theorem d_cX0_replace_52 : decode cX0_replace 52 = .ok (.goto 9, 3) := by decide +kernel
theorem d_cX0_replace_55 : decode cX0_replace 55 = .ok (.aload_n 0, 1) := by decide +kernel
theorem d_cX0_replace_56 : decode cX0_replace 56 = .ok (.getfield 33, 3) := by decide +kernel
theorem d_cX0_replace_59 : decode cX0_replace 59 = .ok (.iload_n 3, 1) := by decide +kernel
theorem d_cX0_replace_60 : decode cX0_replace 60 = .ok (.iaload, 1) := by decide +kernel
theorem d_cX0_replace_61 : decode cX0_replace 61 = .ok (.iastore, 1) := by decide +kernel
theorem d_cX0_replace_62 : decode cX0_replace 62 = .ok (.aload_n 0, 1) := by decide +kernel
theorem d_cX0_replace_63 : decode cX0_replace 63 = .ok (.getfield 39, 3) := by decide +kernel
theorem d_cX0_replace_66 : decode cX0_replace 66 = .ok (.iload_n 3, 1) := by decide +kernel
theorem d_cX0_replace_67 : decode cX0_replace 67 = .ok (.aload_n 0, 1) := by decide +kernel
theorem d_cX0_replace_68 : decode cX0_replace 68 = .ok (.getfield 39, 3) := by decide +kernel
theorem d_cX0_replace_71 : decode cX0_replace 71 = .ok (.iload_n 3, 1) := by decide +kernel
theorem d_cX0_replace_72 : decode cX0_replace 72 = .ok (.iaload, 1) := by decide +kernel
theorem d_cX0_replace_73 : decode cX0_replace 73 = .ok (.iload_n 1, 1) := by decide +kernel
theorem d_cX0_replace_74 : decode cX0_replace 74 = .ok (.if_icmp .ne 7, 3) := by decide +kernel
theorem d_cX0_replace_77 : decode cX0_replace 77 = .ok (.iload_n 2, 1) := by decide +kernel
theorem d_cX0_replace_78 : decode cX0_replace 78 = .ok (.goto 9, 3) := by decide +kernel
theorem d_cX0_replace_81 : decode cX0_replace 81 = .ok (.aload_n 0, 1) := by decide +kernel
theorem d_cX0_replace_82 : decode cX0_replace 82 = .ok (.getfield 39, 3) := by decide +kernel
theorem d_cX0_replace_85 : decode cX0_replace 85 = .ok (.iload_n 3, 1) := by decide +kernel
theorem d_cX0_replace_86 : decode cX0_replace 86 = .ok (.iaload, 1) := by decide +kernel
theorem d_cX0_replace_87 : decode cX0_replace 87 = .ok (.iastore, 1) := by decide +kernel
theorem d_cX0_replace_88 : decode cX0_replace 88 = .ok (.iinc 3 1, 3) := by decide +kernel
theorem d_cX0_replace_91 : decode cX0_replace 91 = .ok (.goto (-89), 3) := by decide +kernel
theorem d_cX0_replace_94 : decode cX0_replace 94 = .ok (.return_, 1) := by decide +kernel
theorem d_cX0_secondUse_0 : decode cX0_secondUse 0 = .ok (.iload_n 2, 1) := by decide +kernel
theorem d_cX0_secondUse_1 : decode cX0_secondUse 1 = .ok (.ifCond .eq 7, 3) := by decide +kernel
theorem d_cX0_secondUse_4 : decode cX0_secondUse 4 = .ok (.iconst (-1), 1) := by decide +kernel
theorem d_cX0_secondUse_5 : decode cX0_secondUse 5 = .ok (.goto 9, 3) := by decide +kernel
theorem d_cX0_secondUse_8 : decode cX0_secondUse 8 = .ok (.aload_n 0, 1) := by decide +kernel
theorem d_cX0_secondUse_9 : decode cX0_secondUse 9 = .ok (.getfield 39, 3) := by decide +kernel
theorem d_cX0_secondUse_12 : decode cX0_secondUse 12 = .ok (.iload_n 1, 1) := by decide +kernel
theorem d_cX0_secondUse_13 : decode cX0_secondUse 13 = .ok (.iaload, 1) := by decide +kernel
theorem d_cX0_secondUse_14 : decode cX0_secondUse 14 = .ok (.ireturn, 1) := by decide +kernel
theorem d_cX0_setBy_0 : decode cX0_setBy 0 = .ok (.iload_n 2, 1) := by decide +kernel
theorem d_cX0_setBy_1 : decode cX0_setBy 1 = .ok (.ifCond .eq 25, 3) := by decide +kernel
theorem d_cX0_setBy_4 : decode cX0_setBy 4 = .ok (.aload_n 0, 1) := by decide +kernel
theorem d_cX0_setBy_5 : decode cX0_setBy 5 = .ok (.getfield 27, 3) := by decide +kernel
theorem d_cX0_setBy_8 : decode cX0_setBy 8 = .ok (.iload_n 1, 1) := by decide +kernel
theorem d_cX0_setBy_9 : decode cX0_setBy 9 = .ok (.iaload, 1) := by decide +kernel
theorem d_cX0_setBy_10 : decode cX0_setBy 10 = .ok (.bipush 18, 2) := by decide +kernel
theorem d_cX0_setBy_12 : decode cX0_setBy 12 = .ok (.if_icmp .ne 12, 3) := by decide +kernel
theorem d_cX0_setBy_15 : decode cX0_setBy 15 = .ok (.aload_n 0, 1) := by decide +kernel
theorem d_cX0_setBy_16 : decode cX0_setBy 16 = .ok (.getfield 42, 3) := by decide +kernel
theorem d_cX0_setBy_19 : decode cX0_setBy 19 = .ok (.iload_n 1, 1) := by decide +kernel
theorem d_cX0_setBy_20 : decode cX0_setBy 20 = .ok (.iaload, 1) := by decide +kernel
theorem d_cX0_setBy_21 : decode cX0_setBy 21 = .ok (.goto 4, 3) := by decide +kernel
theorem d_cX0_setBy_24 : decode cX0_setBy 24 = .ok (.iconst (-1), 1) := by decide +kernel
theorem d_cX0_setBy_25 : decode cX0_setBy 25 = .ok (.ireturn, 1) := by decide +kernel
theorem d_cX0_setBy_26 : decode cX0_setBy 26 = .ok (.aload_n 0, 1) := by decide +kernel
theorem d_cX0_setBy_27 : decode cX0_setBy 27 = .ok (.getfield 30, 3) := by decide +kernel
theorem d_cX0_setBy_30 : decode cX0_setBy 30 = .ok (.iload_n 1, 1) := by decide +kernel
theorem d_cX0_setBy_31 : decode cX0_setBy 31 = .ok (.iaload, 1) := by decide +kernel
theorem d_cX0_setBy_32 : decode cX0_setBy 32 = .ok (.ireturn, 1) := by decide +kernel
theorem d_cX11_lowestBit_0 : decode cX11_lowestBit 0 = .ok (.lload_n 0, 1) := by decide +kernel
theorem d_cX11_lowestBit_1 : decode cX11_lowestBit 1 = .ok (.lload_n 0, 1) := by decide +kernel
theorem d_cX11_lowestBit_2 : decode cX11_lowestBit 2 = .ok (.lneg, 1) := by decide +kernel
theorem d_cX11_lowestBit_3 : decode cX11_lowestBit 3 = .ok (.land, 1) := by decide +kernel
theorem d_cX11_lowestBit_4 : decode cX11_lowestBit 4 = .ok (.lconst 1, 1) := by decide +kernel
theorem d_cX11_lowestBit_5 : decode cX11_lowestBit 5 = .ok (.lsub, 1) := by decide +kernel
theorem d_cX11_lowestBit_6 : decode cX11_lowestBit 6 = .ok (.invokestatic 228, 3) := by decide +kernel
theorem d_cX11_lowestBit_9 : decode cX11_lowestBit 9 = .ok (.ireturn, 1) := by decide +kernel
theorem d_cX1_addWeight_0 : decode cX1_addWeight 0 = .ok (.iload_n 1, 1) := by decide +kernel
theorem d_cX1_addWeight_1 : decode cX1_addWeight 1 = .ok (.ifCond .lt 20, 3) := by decide +kernel
theorem d_cX1_addWeight_4 : decode cX1_addWeight 4 = .ok (.iload_n 1, 1) := by decide +kernel
theorem d_cX1_addWeight_5 : decode cX1_addWeight 5 = .ok (.sipush 720, 3) := by decide +kernel
theorem d_cX1_addWeight_8 : decode cX1_addWeight 8 = .ok (.if_icmp .ge 13, 3) := by decide +kernel
theorem d_cX1_addWeight_11 : decode cX1_addWeight 11 = .ok (.aload_n 0, 1) := by decide +kernel
theorem d_cX1_addWeight_12 : decode cX1_addWeight 12 = .ok (.getfield 9, 3) := by decide +kernel
theorem d_cX1_addWeight_15 : decode cX1_addWeight 15 = .ok (.iload_n 1, 1) := by decide +kernel
theorem d_cX1_addWeight_16 : decode cX1_addWeight 16 = .ok (.dup2, 1) := by decide +kernel
theorem d_cX1_addWeight_17 : decode cX1_addWeight 17 = .ok (.iaload, 1) := by decide +kernel
theorem d_cX1_addWeight_18 : decode cX1_addWeight 18 = .ok (.iload_n 2, 1) := by decide +kernel
theorem d_cX1_addWeight_19 : decode cX1_addWeight 19 = .ok (.iadd, 1) := by decide +kernel
theorem d_cX1_addWeight_20 : decode cX1_addWeight 20 = .ok (.iastore, 1) := by decide +kernel
theorem d_cX1_addWeight_21 : decode cX1_addWeight 21 = .ok (.return_, 1) := by decide +kernel
theorem d_cX1_isWithout_0 : decode cX1_isWithout 0 = .ok (.aload_n 0, 1) := by decide +kernel
theorem d_cX1_isWithout_1 : decode cX1_isWithout 1 = .ok (.getfield 27, 3) := by decide +kernel
theorem d_cX1_isWithout_4 : decode cX1_isWithout 4 = .ok (.iload_n 1, 1) := by decide +kernel
theorem d_cX1_isWithout_5 : decode cX1_isWithout 5 = .ok (.invokevirtual 31, 3) := by decide +kernel
theorem d_cX1_isWithout_8 : decode cX1_isWithout 8 = .ok (.ifCond .eq 17, 3) := by decide +kernel
theorem d_cX1_isWithout_11 : decode cX1_isWithout 11 = .ok (.aload_n 0, 1) := by decide +kernel
theorem d_cX1_isWithout_12 : decode cX1_isWithout 12 = .ok (.getfield 24, 3) := by decide +kernel
theorem d_cX1_isWithout_15 : decode cX1_isWithout 15 = .ok (.iload_n 1, 1) := by decide +kernel
theorem d_cX1_isWithout_16 : decode cX1_isWithout 16 = .ok (.iaload, 1) := by decide +kernel
theorem d_cX1_isWithout_17 : decode cX1_isWithout 17 = .ok (.iconst (-1), 1) := by decide +kernel
theorem d_cX1_isWithout_18 : decode cX1_isWithout 18 = .ok (.if_icmp .ne 7, 3) := by decide +kernel
theorem d_cX1_isWithout_21 : decode cX1_isWithout 21 = .ok (.iconst 1, 1) := by decide +kernel
theorem d_cX1_isWithout_22 : decode cX1_isWithout 22 = .ok (.goto 4, 3) := by decide +kernel
theorem d_cX1_isWithout_25 : decode cX1_isWithout 25 = .ok (.iconst 0, 1) := by decide +kernel
theorem d_cX1_isWithout_26 : decode cX1_isWithout 26 = .ok (.ireturn, 1) := by decide +kernel
theorem d_cX1_weigh_0 : decode cX1_weigh 0 = .ok (.aload_n 0, 1) := by decide +kernel
theorem d_cX1_weigh_1 : decode cX1_weigh 1 = .ok (.getfield 9, 3) := by decide +kernel
theorem d_cX1_weigh_4 : decode cX1_weigh 4 = .ok (.iconst 0, 1) := by decide +kernel
theorem d_cX1_weigh_5 : decode cX1_weigh 5 = .ok (.invokestatic 37, 3) := by decide +kernel
theorem d_cX1_weigh_8 : decode cX1_weigh 8 = .ok (.iconst 0, 1) := by decide +kernel
theorem d_cX1_weigh_9 : decode cX1_weigh 9 = .ok (.istore_n 3, 1) := by decide +kernel
theorem d_cX1_weigh_10 : decode cX1_weigh 10 = .ok (.iload_n 3, 1) := by decide +kernel
theorem d_cX1_weigh_11 : decode cX1_weigh 11 = .ok (.aload_n 1, 1) := by decide +kernel
theorem d_cX1_weigh_12 : decode cX1_weigh 12 = .ok (.getfield 43, 3) := by decide +kernel
theorem d_cX1_weigh_15 : decode cX1_weigh 15 = .ok (.if_icmp .ge 79, 3) := by decide +kernel
theorem d_cX1_weigh_18 : decode cX1_weigh 18 = .ok (.aload_n 2, 1) := by decide +kernel
theorem d_cX1_weigh_19 : decode cX1_weigh 19 = .ok (.iload_n 3, 1) := by decide +kernel
theorem d_cX1_weigh_20 : decode cX1_weigh 20 = .ok (.invokevirtual 49, 3) := by decide +kernel
theorem d_cX1_weigh_23 : decode cX1_weigh 23 = .ok (.istore 4, 2) := by decide +kernel
theorem d_cX1_weigh_25 : decode cX1_weigh 25 = .ok (.aload_n 1, 1) := by decide +kernel
theorem d_cX1_weigh_26 : decode cX1_weigh 26 = .ok (.getfield 55, 3) := by decide +kernel
theorem d_cX1_weigh_29 : decode cX1_weigh 29 = .ok (.iload_n 3, 1) := by decide +kernel
theorem d_cX1_weigh_30 : decode cX1_weigh 30 = .ok (.iaload, 1) := by decide +kernel
theorem d_cX1_weigh_31 : decode cX1_weigh 31 = .ok (.istore 5, 2) := by decide +kernel
theorem d_cX1_weigh_33 : decode cX1_weigh 33 = .ok (.iload 5, 2) := by decide +kernel
theorem d_cX1_weigh_35 : decode cX1_weigh 35 = .ok (.aload_n 1, 1) := by decide +kernel
theorem d_cX1_weigh_36 : decode cX1_weigh 36 = .ok (.iload_n 3, 1) := by decide +kernel
theorem d_cX1_weigh_37 : decode cX1_weigh 37 = .ok (.invokevirtual 58, 3) := by decide +kernel
theorem d_cX1_weigh_40 : decode cX1_weigh 40 = .ok (.if_icmp .ge 48, 3) := by decide +kernel
theorem d_cX1_weigh_43 : decode cX1_weigh 43 = .ok (.aload_n 0, 1) := by decide +kernel
theorem d_cX1_weigh_44 : decode cX1_weigh 44 = .ok (.aload_n 1, 1) := by decide +kernel
theorem d_cX1_weigh_45 : decode cX1_weigh 45 = .ok (.getfield 61, 3) := by decide +kernel
theorem d_cX1_weigh_48 : decode cX1_weigh 48 = .ok (.iload 5, 2) := by decide +kernel
theorem d_cX1_weigh_50 : decode cX1_weigh 50 = .ok (.iaload, 1) := by decide +kernel
theorem d_cX1_weigh_51 : decode cX1_weigh 51 = .ok (.iload 4, 2) := by decide +kernel
theorem d_cX1_weigh_53 : decode cX1_weigh 53 = .ok (.invokevirtual 64, 3) := by decide +kernel
theorem d_cX1_weigh_56 : decode cX1_weigh 56 = .ok (.aload_n 0, 1) := by decide +kernel
theorem d_cX1_weigh_57 : decode cX1_weigh 57 = .ok (.aload_n 1, 1) := by decide +kernel
theorem d_cX1_weigh_58 : decode cX1_weigh 58 = .ok (.getfield 68, 3) := by decide +kernel
theorem d_cX1_weigh_61 : decode cX1_weigh 61 = .ok (.iload 5, 2) := by decide +kernel
theorem d_cX1_weigh_63 : decode cX1_weigh 63 = .ok (.iaload, 1) := by decide +kernel
theorem d_cX1_weigh_64 : decode cX1_weigh 64 = .ok (.iload 4, 2) := by decide +kernel
theorem d_cX1_weigh_66 : decode cX1_weigh 66 = .ok (.invokevirtual 64, 3) := by decide +kernel
theorem d_cX1_weigh_69 : decode cX1_weigh 69 = .ok (.aload_n 0, 1) := by decide +kernel
theorem d_cX1_weigh_70 : decode cX1_weigh 70 = .ok (.aload_n 1, 1) := by decide +kernel
theorem d_cX1_weigh_71 : decode cX1_weigh 71 = .ok (.getfield 71, 3) := by decide +kernel
theorem d_cX1_weigh_74 : decode cX1_weigh 74 = .ok (.iload 5, 2) := by decide +kernel
theorem d_cX1_weigh_76 : decode cX1_weigh 76 = .ok (.iaload, 1) := by decide +kernel
theorem d_cX1_weigh_77 : decode cX1_weigh 77 = .ok (.iload 4, 2) := by decide +kernel
theorem d_cX1_weigh_79 : decode cX1_weigh 79 = .ok (.invokevirtual 64, 3) := by decide +kernel
theorem d_cX1_weigh_82 : decode cX1_weigh 82 = .ok (.iinc 5 1, 3) := by decide +kernel
theorem d_cX1_weigh_85 : decode cX1_weigh 85 = .ok (.goto (-52), 3) := by decide +kernel
theorem d_cX1_weigh_88 : decode cX1_weigh 88 = .ok (.iinc 3 1, 3) := by decide +kernel
theorem d_cX1_weigh_91 : decode cX1_weigh 91 = .ok (.goto (-81), 3) := by decide +kernel
theorem d_cX1_weigh_94 : decode cX1_weigh 94 = .ok (.return_, 1) := by decide +kernel
theorem d_cX1_weight_0 : decode cX1_weight 0 = .ok (.iload_n 1, 1) := by decide +kernel
theorem d_cX1_weight_1 : decode cX1_weight 1 = .ok (.ifCond .lt 19, 3) := by decide +kernel
theorem d_cX1_weight_4 : decode cX1_weight 4 = .ok (.iload_n 1, 1) := by decide +kernel
theorem d_cX1_weight_5 : decode cX1_weight 5 = .ok (.sipush 720, 3) := by decide +kernel
theorem d_cX1_weight_8 : decode cX1_weight 8 = .ok (.if_icmp .ge 12, 3) := by decide +kernel
theorem d_cX1_weight_11 : decode cX1_weight 11 = .ok (.aload_n 0, 1) := by decide +kernel
theorem d_cX1_weight_12 : decode cX1_weight 12 = .ok (.getfield 9, 3) := by decide +kernel
theorem d_cX1_weight_15 : decode cX1_weight 15 = .ok (.iload_n 1, 1) := by decide +kernel
theorem d_cX1_weight_16 : decode cX1_weight 16 = .ok (.iaload, 1) := by decide +kernel
theorem d_cX1_weight_17 : decode cX1_weight 17 = .ok (.goto 4, 3) := by decide +kernel
theorem d_cX1_weight_20 : decode cX1_weight 20 = .ok (.iconst 0, 1) := by decide +kernel
theorem d_cX1_weight_21 : decode cX1_weight 21 = .ok (.ireturn, 1) := by decide +kernel
theorem d_cX2_begin_0 : decode cX2_begin 0 = .ok (.aload_n 0, 1) := by decide +kernel
theorem d_cX2_begin_1 : decode cX2_begin 1 = .ok (.iconst 0, 1) := by decide +kernel
theorem d_cX2_begin_2 : decode cX2_begin 2 = .ok (.putfield 59, 3) := by decide +kernel
theorem d_cX2_begin_5 : decode cX2_begin 5 = .ok (.aload_n 0, 1) := by decide +kernel
theorem d_cX2_begin_6 : decode cX2_begin 6 = .ok (.bipush 100, 2) := by decide +kernel
theorem d_cX2_begin_8 : decode cX2_begin 8 = .ok (.putfield 111, 3) := by decide +kernel
theorem d_cX2_begin_11 : decode cX2_begin 11 = .ok (.aload_n 0, 1) := by decide +kernel
theorem d_cX2_begin_12 : decode cX2_begin 12 = .ok (.iconst 0, 1) := by decide +kernel
theorem d_cX2_begin_13 : decode cX2_begin 13 = .ok (.putfield 162, 3) := by decide +kernel
theorem d_cX2_begin_16 : decode cX2_begin 16 = .ok (.aload_n 0, 1) := by decide +kernel
theorem d_cX2_begin_17 : decode cX2_begin 17 = .ok (.iconst 0, 1) := by decide +kernel
theorem d_cX2_begin_18 : decode cX2_begin 18 = .ok (.putfield 63, 3) := by decide +kernel
theorem d_cX2_begin_21 : decode cX2_begin 21 = .ok (.aload_n 0, 1) := by decide +kernel
theorem d_cX2_begin_22 : decode cX2_begin 22 = .ok (.iconst 0, 1) := by decide +kernel
theorem d_cX2_begin_23 : decode cX2_begin 23 = .ok (.putfield 67, 3) := by decide +kernel
theorem d_cX2_begin_26 : decode cX2_begin 26 = .ok (.aload_n 0, 1) := by decide +kernel
theorem d_cX2_begin_27 : decode cX2_begin 27 = .ok (.iconst 0, 1) := by decide +kernel
theorem d_cX2_begin_28 : decode cX2_begin 28 = .ok (.putfield 70, 3) := by decide +kernel
theorem d_cX2_begin_31 : decode cX2_begin 31 = .ok (.aload_n 0, 1) := by decide +kernel
theorem d_cX2_begin_32 : decode cX2_begin 32 = .ok (.getfield 37, 3) := by decide +kernel
theorem d_cX2_begin_35 : decode cX2_begin 35 = .ok (.iconst (-1), 1) := by decide +kernel
theorem d_cX2_begin_36 : decode cX2_begin 36 = .ok (.invokestatic 165, 3) := by decide +kernel
theorem d_cX2_begin_39 : decode cX2_begin 39 = .ok (.aload_n 0, 1) := by decide +kernel
theorem d_cX2_begin_40 : decode cX2_begin 40 = .ok (.getfield 12, 3) := by decide +kernel
theorem d_cX2_begin_43 : decode cX2_begin 43 = .ok (.getfield 102, 3) := by decide +kernel
theorem d_cX2_begin_46 : decode cX2_begin 46 = .ok (.aload_n 1, 1) := by decide +kernel
theorem d_cX2_begin_47 : decode cX2_begin 47 = .ok (.bipush 100, 2) := by decide +kernel
theorem d_cX2_begin_49 : decode cX2_begin 49 = .ok (.iconst 0, 1) := by decide +kernel
theorem d_cX2_begin_50 : decode cX2_begin 50 = .ok (.invokevirtual 171, 3) := by decide +kernel
theorem d_cX2_begin_53 : decode cX2_begin 53 = .ok (.aload_n 0, 1) := by decide +kernel
theorem d_cX2_begin_54 : decode cX2_begin 54 = .ok (.getfield 48, 3) := by decide +kernel
theorem d_cX2_begin_57 : decode cX2_begin 57 = .ok (.invokevirtual 174, 3) := by decide +kernel
theorem d_cX2_begin_60 : decode cX2_begin 60 = .ok (.iconst 0, 1) := by decide +kernel
theorem d_cX2_begin_61 : decode cX2_begin 61 = .ok (.istore_n 2, 1) := by decide +kernel
theorem d_cX2_begin_62 : decode cX2_begin 62 = .ok (.iload_n 2, 1) := by decide +kernel
theorem d_cX2_begin_63 : decode cX2_begin 63 = .ok (.aload_n 1, 1) := by decide +kernel
theorem d_cX2_begin_64 : decode cX2_begin 64 = .ok (.getfield 99, 3) := by decide +kernel
theorem d_cX2_begin_67 : decode cX2_begin 67 = .ok (.if_icmp .ge 56, 3) := by decide +kernel
theorem d_cX2_begin_70 : decode cX2_begin 70 = .ok (.aload_n 0, 1) := by decide +kernel
theorem d_cX2_begin_71 : decode cX2_begin 71 = .ok (.getfield 48, 3) := by decide +kernel
theorem d_cX2_begin_74 : decode cX2_begin 74 = .ok (.aload_n 1, 1) := by decide +kernel
theorem d_cX2_begin_75 : decode cX2_begin 75 = .ok (.invokevirtual 177, 3) := by decide +kernel
theorem d_cX2_begin_78 : decode cX2_begin 78 = .ok (.iload_n 2, 1) := by decide +kernel
theorem d_cX2_begin_79 : decode cX2_begin 79 = .ok (.ifCond .ne 7, 3) := by decide +kernel
theorem d_cX2_begin_82 : decode cX2_begin 82 = .ok (.aload_n 0, 1) := by decide +kernel
theorem d_cX2_begin_83 : decode cX2_begin 83 = .ok (.invokevirtual 180, 3) := by decide +kernel
theorem d_cX2_begin_86 : decode cX2_begin 86 = .ok (.aload_n 1, 1) := by decide +kernel
theorem d_cX2_begin_87 : decode cX2_begin 87 = .ok (.getfield 183, 3) := by decide +kernel
theorem d_cX2_begin_90 : decode cX2_begin 90 = .ok (.iload_n 2, 1) := by decide +kernel
theorem d_cX2_begin_91 : decode cX2_begin 91 = .ok (.iaload, 1) := by decide +kernel
theorem d_cX2_begin_92 : decode cX2_begin 92 = .ok (.istore_n 3, 1) := by decide +kernel
theorem d_cX2_begin_93 : decode cX2_begin 93 = .ok (.iload_n 3, 1) := by decide +kernel
theorem d_cX2_begin_94 : decode cX2_begin 94 = .ok (.aload_n 1, 1) := by decide +kernel
theorem d_cX2_begin_95 : decode cX2_begin 95 = .ok (.iload_n 2, 1) := by decide +kernel
theorem d_cX2_begin_96 : decode cX2_begin 96 = .ok (.invokevirtual 186, 3) := by decide +kernel
theorem d_cX2_begin_99 : decode cX2_begin 99 = .ok (.if_icmp .ge 18, 3) := by decide +kernel
theorem d_cX2_begin_102 : decode cX2_begin 102 = .ok (.aload_n 0, 1) := by decide +kernel
theorem d_cX2_begin_103 : decode cX2_begin 103 = .ok (.getfield 48, 3) := by decide +kernel
theorem d_cX2_begin_106 : decode cX2_begin 106 = .ok (.aload_n 1, 1) := by decide +kernel
theorem d_cX2_begin_107 : decode cX2_begin 107 = .ok (.iload_n 3, 1) := by decide +kernel
theorem d_cX2_begin_108 : decode cX2_begin 108 = .ok (.invokevirtual 189, 3) := by decide +kernel
theorem d_cX2_begin_111 : decode cX2_begin 111 = .ok (.iinc 3 1, 3) := by decide +kernel
theorem d_cX2_begin_114 : decode cX2_begin 114 = .ok (.goto (-21), 3) := by decide +kernel
theorem d_cX2_begin_117 : decode cX2_begin 117 = .ok (.iinc 2 1, 3) := by decide +kernel
theorem d_cX2_begin_120 : decode cX2_begin 120 = .ok (.goto (-58), 3) := by decide +kernel
theorem d_cX2_begin_123 : decode cX2_begin 123 = .ok (.return_, 1) := by decide +kernel
theorem d_cX2_canMerge_0 : decode cX2_canMerge 0 = .ok (.iload_n 1, 1) := by decide +kernel
theorem d_cX2_canMerge_1 : decode cX2_canMerge 1 = .ok (.iload_n 2, 1) := by decide +kernel
theorem d_cX2_canMerge_2 : decode cX2_canMerge 2 = .ok (.if_icmp .eq 40, 3) := by decide +kernel
theorem d_cX2_canMerge_5 : decode cX2_canMerge 5 = .ok (.iload_n 1, 1) := by decide +kernel
theorem d_cX2_canMerge_6 : decode cX2_canMerge 6 = .ok (.bipush 100, 2) := by decide +kernel
theorem d_cX2_canMerge_8 : decode cX2_canMerge 8 = .ok (.if_icmp .ge 38, 3) := by decide +kernel
theorem d_cX2_canMerge_11 : decode cX2_canMerge 11 = .ok (.iload_n 2, 1) := by decide +kernel
theorem d_cX2_canMerge_12 : decode cX2_canMerge 12 = .ok (.bipush 100, 2) := by decide +kernel
theorem d_cX2_canMerge_14 : decode cX2_canMerge 14 = .ok (.if_icmp .ge 32, 3) := by decide +kernel
theorem d_cX2_canMerge_17 : decode cX2_canMerge 17 = .ok (.aload_n 0, 1) := by decide +kernel
theorem d_cX2_canMerge_18 : decode cX2_canMerge 18 = .ok (.getfield 12, 3) := by decide +kernel
theorem d_cX2_canMerge_21 : decode cX2_canMerge 21 = .ok (.iload_n 1, 1) := by decide +kernel
theorem d_cX2_canMerge_22 : decode cX2_canMerge 22 = .ok (.iload_n 2, 1) := by decide +kernel
theorem d_cX2_canMerge_23 : decode cX2_canMerge 23 = .ok (.invokevirtual 227, 3) := by decide +kernel
theorem d_cX2_canMerge_26 : decode cX2_canMerge 26 = .ok (.ifCond .ne 20, 3) := by decide +kernel
theorem d_cX2_canMerge_29 : decode cX2_canMerge 29 = .ok (.aload_n 0, 1) := by decide +kernel
theorem d_cX2_canMerge_30 : decode cX2_canMerge 30 = .ok (.getfield 12, 3) := by decide +kernel
theorem d_cX2_canMerge_33 : decode cX2_canMerge 33 = .ok (.iload_n 1, 1) := by decide +kernel
theorem d_cX2_canMerge_34 : decode cX2_canMerge 34 = .ok (.iload_n 2, 1) := by decide +kernel
theorem d_cX2_canMerge_35 : decode cX2_canMerge 35 = .ok (.iload_n 3, 1) := by decide +kernel
theorem d_cX2_canMerge_36 : decode cX2_canMerge 36 = .ok (.invokevirtual 230, 3) := by decide +kernel
theorem d_cX2_canMerge_39 : decode cX2_canMerge 39 = .ok (.ifCond .eq 7, 3) := by decide +kernel
theorem d_cX2_canMerge_42 : decode cX2_canMerge 42 = .ok (.iconst 1, 1) := by decide +kernel
theorem d_cX2_canMerge_43 : decode cX2_canMerge 43 = .ok (.goto 4, 3) := by decide +kernel
theorem d_cX2_canMerge_46 : decode cX2_canMerge 46 = .ok (.iconst 0, 1) := by decide +kernel
theorem d_cX2_canMerge_47 : decode cX2_canMerge 47 = .ok (.ireturn, 1) := by decide +kernel
theorem d_cX2_colourBit_0 : decode cX2_colourBit 0 = .ok (.iload_n 0, 1) := by decide +kernel
theorem d_cX2_colourBit_1 : decode cX2_colourBit 1 = .ok (.ifCond .lt 9, 3) := by decide +kernel
theorem d_cX2_colourBit_4 : decode cX2_colourBit 4 = .ok (.lconst 1, 1) := by decide +kernel
theorem d_cX2_colourBit_5 : decode cX2_colourBit 5 = .ok (.iload_n 0, 1) := by decide +kernel
theorem d_cX2_colourBit_6 : decode cX2_colourBit 6 = .ok (.lshl, 1) := by decide +kernel
theorem d_cX2_colourBit_7 : decode cX2_colourBit 7 = .ok (.goto 4, 3) := by decide +kernel
theorem d_cX2_colourBit_10 : decode cX2_colourBit 10 = .ok (.lconst 0, 1) := by decide +kernel
theorem d_cX2_colourBit_11 : decode cX2_colourBit 11 = .ok (.lreturn, 1) := by decide +kernel
theorem d_cX2_colours_0 : decode cX2_colours 0 = .ok (.lconst 0, 1) := by decide +kernel
theorem d_cX2_colours_1 : decode cX2_colours 1 = .ok (.lstore_n 1, 1) := by decide +kernel
theorem d_cX2_colours_2 : decode cX2_colours 2 = .ok (.iconst 0, 1) := by decide +kernel
theorem d_cX2_colours_3 : decode cX2_colours 3 = .ok (.istore_n 3, 1) := by decide +kernel
theorem d_cX2_colours_4 : decode cX2_colours 4 = .ok (.iload_n 3, 1) := by decide +kernel
theorem d_cX2_colours_5 : decode cX2_colours 5 = .ok (.aload_n 0, 1) := by decide +kernel
theorem d_cX2_colours_6 : decode cX2_colours 6 = .ok (.getfield 48, 3) := by decide +kernel
theorem d_cX2_colours_9 : decode cX2_colours 9 = .ok (.getfield 73, 3) := by decide +kernel
theorem d_cX2_colours_12 : decode cX2_colours 12 = .ok (.if_icmp .ge 50, 3) := by decide +kernel
theorem d_cX2_colours_15 : decode cX2_colours 15 = .ok (.lload_n 1, 1) := by decide +kernel
theorem d_cX2_colours_16 : decode cX2_colours 16 = .ok (.aload_n 0, 1) := by decide +kernel
theorem d_cX2_colours_17 : decode cX2_colours 17 = .ok (.getfield 48, 3) := by decide +kernel
theorem d_cX2_colours_20 : decode cX2_colours 20 = .ok (.getfield 76, 3) := by decide +kernel
theorem d_cX2_colours_23 : decode cX2_colours 23 = .ok (.iload_n 3, 1) := by decide +kernel
theorem d_cX2_colours_24 : decode cX2_colours 24 = .ok (.iaload, 1) := by decide +kernel
theorem d_cX2_colours_25 : decode cX2_colours 25 = .ok (.invokestatic 79, 3) := by decide +kernel
theorem d_cX2_colours_28 : decode cX2_colours 28 = .ok (.aload_n 0, 1) := by decide +kernel
theorem d_cX2_colours_29 : decode cX2_colours 29 = .ok (.getfield 48, 3) := by decide +kernel
theorem d_cX2_colours_32 : decode cX2_colours 32 = .ok (.getfield 83, 3) := by decide +kernel
theorem d_cX2_colours_35 : decode cX2_colours 35 = .ok (.iload_n 3, 1) := by decide +kernel
theorem d_cX2_colours_36 : decode cX2_colours 36 = .ok (.iaload, 1) := by decide +kernel
theorem d_cX2_colours_37 : decode cX2_colours 37 = .ok (.invokestatic 79, 3) := by decide +kernel
theorem d_cX2_colours_40 : decode cX2_colours 40 = .ok (.lor, 1) := by decide +kernel
theorem d_cX2_colours_41 : decode cX2_colours 41 = .ok (.aload_n 0, 1) := by decide +kernel
theorem d_cX2_colours_42 : decode cX2_colours 42 = .ok (.getfield 48, 3) := by decide +kernel
theorem d_cX2_colours_45 : decode cX2_colours 45 = .ok (.getfield 86, 3) := by decide +kernel
theorem d_cX2_colours_48 : decode cX2_colours 48 = .ok (.iload_n 3, 1) := by decide +kernel
theorem d_cX2_colours_49 : decode cX2_colours 49 = .ok (.iaload, 1) := by decide +kernel
theorem d_cX2_colours_50 : decode cX2_colours 50 = .ok (.invokestatic 79, 3) := by decide +kernel
theorem d_cX2_colours_53 : decode cX2_colours 53 = .ok (.lor, 1) := by decide +kernel
theorem d_cX2_colours_54 : decode cX2_colours 54 = .ok (.lor, 1) := by decide +kernel
theorem d_cX2_colours_55 : decode cX2_colours 55 = .ok (.lstore_n 1, 1) := by decide +kernel
theorem d_cX2_colours_56 : decode cX2_colours 56 = .ok (.iinc 3 1, 3) := by decide +kernel
theorem d_cX2_colours_59 : decode cX2_colours 59 = .ok (.goto (-55), 3) := by decide +kernel
theorem d_cX2_colours_62 : decode cX2_colours 62 = .ok (.lload_n 1, 1) := by decide +kernel
theorem d_cX2_colours_63 : decode cX2_colours 63 = .ok (.invokestatic 89, 3) := by decide +kernel
theorem d_cX2_colours_66 : decode cX2_colours 66 = .ok (.ireturn, 1) := by decide +kernel
theorem d_cX2_giveSlots_0 : decode cX2_giveSlots 0 = .ok (.bipush 100, 2) := by decide +kernel
theorem d_cX2_giveSlots_2 : decode cX2_giveSlots 2 = .ok (.istore_n 1, 1) := by decide +kernel
theorem d_cX2_giveSlots_3 : decode cX2_giveSlots 3 = .ok (.iload_n 1, 1) := by decide +kernel
theorem d_cX2_giveSlots_4 : decode cX2_giveSlots 4 = .ok (.aload_n 0, 1) := by decide +kernel
theorem d_cX2_giveSlots_5 : decode cX2_giveSlots 5 = .ok (.getfield 111, 3) := by decide +kernel
theorem d_cX2_giveSlots_8 : decode cX2_giveSlots 8 = .ok (.if_icmp .ge 22, 3) := by decide +kernel
theorem d_cX2_giveSlots_11 : decode cX2_giveSlots 11 = .ok (.aload_n 0, 1) := by decide +kernel
theorem d_cX2_giveSlots_12 : decode cX2_giveSlots 12 = .ok (.getfield 23, 3) := by decide +kernel
theorem d_cX2_giveSlots_15 : decode cX2_giveSlots 15 = .ok (.iload_n 1, 1) := by decide +kernel
theorem d_cX2_giveSlots_16 : decode cX2_giveSlots 16 = .ok (.invokevirtual 233, 3) := by decide +kernel
theorem d_cX2_giveSlots_19 : decode cX2_giveSlots 19 = .ok (.ifCond .eq 5, 3) := by decide +kernel
theorem d_cX2_giveSlots_22 : decode cX2_giveSlots 22 = .ok (.iconst 0, 1) := by decide +kernel
theorem d_cX2_giveSlots_23 : decode cX2_giveSlots 23 = .ok (.ireturn, 1) := by decide +kernel
theorem d_cX2_giveSlots_24 : decode cX2_giveSlots 24 = .ok (.iinc 1 1, 3) := by decide +kernel
theorem d_cX2_giveSlots_27 : decode cX2_giveSlots 27 = .ok (.goto (-24), 3) := by decide +kernel
theorem d_cX2_giveSlots_30 : decode cX2_giveSlots 30 = .ok (.iconst 0, 1) := by decide +kernel
theorem d_cX2_giveSlots_31 : decode cX2_giveSlots 31 = .ok (.istore_n 1, 1) := by decide +kernel
theorem d_cX2_giveSlots_32 : decode cX2_giveSlots 32 = .ok (.iload_n 1, 1) := by decide +kernel
theorem d_cX2_giveSlots_33 : decode cX2_giveSlots 33 = .ok (.bipush 100, 2) := by decide +kernel
theorem d_cX2_giveSlots_35 : decode cX2_giveSlots 35 = .ok (.if_icmp .ge 50, 3) := by decide +kernel
theorem d_cX2_giveSlots_38 : decode cX2_giveSlots 38 = .ok (.aload_n 0, 1) := by decide +kernel
theorem d_cX2_giveSlots_39 : decode cX2_giveSlots 39 = .ok (.getfield 23, 3) := by decide +kernel
theorem d_cX2_giveSlots_42 : decode cX2_giveSlots 42 = .ok (.iload_n 1, 1) := by decide +kernel
theorem d_cX2_giveSlots_43 : decode cX2_giveSlots 43 = .ok (.invokevirtual 233, 3) := by decide +kernel
theorem d_cX2_giveSlots_46 : decode cX2_giveSlots 46 = .ok (.ifCond .eq 33, 3) := by decide +kernel
theorem d_cX2_giveSlots_49 : decode cX2_giveSlots 49 = .ok (.aload_n 0, 1) := by decide +kernel
theorem d_cX2_giveSlots_50 : decode cX2_giveSlots 50 = .ok (.getfield 37, 3) := by decide +kernel
theorem d_cX2_giveSlots_53 : decode cX2_giveSlots 53 = .ok (.iload_n 1, 1) := by decide +kernel
theorem d_cX2_giveSlots_54 : decode cX2_giveSlots 54 = .ok (.aload_n 0, 1) := by decide +kernel
theorem d_cX2_giveSlots_55 : decode cX2_giveSlots 55 = .ok (.getfield 162, 3) := by decide +kernel
theorem d_cX2_giveSlots_58 : decode cX2_giveSlots 58 = .ok (.iastore, 1) := by decide +kernel
theorem d_cX2_giveSlots_59 : decode cX2_giveSlots 59 = .ok (.aload_n 0, 1) := by decide +kernel
theorem d_cX2_giveSlots_60 : decode cX2_giveSlots 60 = .ok (.dup, 1) := by decide +kernel
theorem d_cX2_giveSlots_61 : decode cX2_giveSlots 61 = .ok (.getfield 162, 3) := by decide +kernel
theorem d_cX2_giveSlots_64 : decode cX2_giveSlots 64 = .ok (.iconst 1, 1) := by decide +kernel
theorem d_cX2_giveSlots_65 : decode cX2_giveSlots 65 = .ok (.iadd, 1) := by decide +kernel
theorem d_cX2_giveSlots_66 : decode cX2_giveSlots 66 = .ok (.putfield 162, 3) := by decide +kernel
theorem d_cX2_giveSlots_69 : decode cX2_giveSlots 69 = .ok (.aload_n 0, 1) := by decide +kernel
theorem d_cX2_giveSlots_70 : decode cX2_giveSlots 70 = .ok (.dup, 1) := by decide +kernel
theorem d_cX2_giveSlots_71 : decode cX2_giveSlots 71 = .ok (.getfield 67, 3) := by decide +kernel
theorem d_cX2_giveSlots_74 : decode cX2_giveSlots 74 = .ok (.iconst 1, 1) := by decide +kernel
theorem d_cX2_giveSlots_75 : decode cX2_giveSlots 75 = .ok (.iadd, 1) := by decide +kernel
theorem d_cX2_giveSlots_76 : decode cX2_giveSlots 76 = .ok (.putfield 67, 3) := by decide +kernel
theorem d_cX2_giveSlots_79 : decode cX2_giveSlots 79 = .ok (.iinc 1 1, 3) := by decide +kernel
theorem d_cX2_giveSlots_82 : decode cX2_giveSlots 82 = .ok (.goto (-50), 3) := by decide +kernel
theorem d_cX2_giveSlots_85 : decode cX2_giveSlots 85 = .ok (.iconst 1, 1) := by decide +kernel
theorem d_cX2_giveSlots_86 : decode cX2_giveSlots 86 = .ok (.ireturn, 1) := by decide +kernel
theorem d_cX2_isTakenAround_0 : decode cX2_isTakenAround 0 = .ok (.iconst 0, 1) := by decide +kernel
theorem d_cX2_isTakenAround_1 : decode cX2_isTakenAround 1 = .ok (.istore_n 3, 1) := by decide +kernel
theorem d_cX2_isTakenAround_2 : decode cX2_isTakenAround 2 = .ok (.iload_n 3, 1) := by decide +kernel
theorem d_cX2_isTakenAround_3 : decode cX2_isTakenAround 3 = .ok (.iload_n 1, 1) := by decide +kernel
theorem d_cX2_isTakenAround_4 : decode cX2_isTakenAround 4 = .ok (.if_icmp .ge 33, 3) := by decide +kernel
theorem d_cX2_isTakenAround_7 : decode cX2_isTakenAround 7 = .ok (.aload_n 0, 1) := by decide +kernel
theorem d_cX2_isTakenAround_8 : decode cX2_isTakenAround 8 = .ok (.getfield 40, 3) := by decide +kernel
theorem d_cX2_isTakenAround_11 : decode cX2_isTakenAround 11 = .ok (.iload_n 3, 1) := by decide +kernel
theorem d_cX2_isTakenAround_12 : decode cX2_isTakenAround 12 = .ok (.iaload, 1) := by decide +kernel
theorem d_cX2_isTakenAround_13 : decode cX2_isTakenAround 13 = .ok (.iload_n 2, 1) := by decide +kernel
theorem d_cX2_isTakenAround_14 : decode cX2_isTakenAround 14 = .ok (.if_icmp .ne 17, 3) := by decide +kernel
theorem d_cX2_isTakenAround_17 : decode cX2_isTakenAround 17 = .ok (.aload_n 0, 1) := by decide +kernel
theorem d_cX2_isTakenAround_18 : decode cX2_isTakenAround 18 = .ok (.getfield 12, 3) := by decide +kernel
theorem d_cX2_isTakenAround_21 : decode cX2_isTakenAround 21 = .ok (.iload_n 1, 1) := by decide +kernel
theorem d_cX2_isTakenAround_22 : decode cX2_isTakenAround 22 = .ok (.iload_n 3, 1) := by decide +kernel
theorem d_cX2_isTakenAround_23 : decode cX2_isTakenAround 23 = .ok (.invokevirtual 227, 3) := by decide +kernel
theorem d_cX2_isTakenAround_26 : decode cX2_isTakenAround 26 = .ok (.ifCond .eq 5, 3) := by decide +kernel
theorem d_cX2_isTakenAround_29 : decode cX2_isTakenAround 29 = .ok (.iconst 1, 1) := by decide +kernel
theorem d_cX2_isTakenAround_30 : decode cX2_isTakenAround 30 = .ok (.ireturn, 1) := by decide +kernel
theorem d_cX2_isTakenAround_31 : decode cX2_isTakenAround 31 = .ok (.iinc 3 1, 3) := by decide +kernel
theorem d_cX2_isTakenAround_34 : decode cX2_isTakenAround 34 = .ok (.goto (-32), 3) := by decide +kernel
theorem d_cX2_isTakenAround_37 : decode cX2_isTakenAround 37 = .ok (.iconst 0, 1) := by decide +kernel
theorem d_cX2_isTakenAround_38 : decode cX2_isTakenAround 38 = .ok (.ireturn, 1) := by decide +kernel
theorem d_cX2_loaded_0 : decode cX2_loaded 0 = .ok (.aload_n 0, 1) := by decide +kernel
theorem d_cX2_loaded_1 : decode cX2_loaded 1 = .ok (.iload_n 1, 1) := by decide +kernel
theorem d_cX2_loaded_2 : decode cX2_loaded 2 = .ok (.invokevirtual 242, 3) := by decide +kernel
theorem d_cX2_loaded_5 : decode cX2_loaded 5 = .ok (.istore_n 2, 1) := by decide +kernel
theorem d_cX2_loaded_6 : decode cX2_loaded 6 = .ok (.iload_n 2, 1) := by decide +kernel
theorem d_cX2_loaded_7 : decode cX2_loaded 7 = .ok (.iconst (-1), 1) := by decide +kernel
theorem d_cX2_loaded_8 : decode cX2_loaded 8 = .ok (.if_icmp .ne 5, 3) := by decide +kernel
theorem d_cX2_loaded_11 : decode cX2_loaded 11 = .ok (.iload_n 1, 1) := by decide +kernel
theorem d_cX2_loaded_12 : decode cX2_loaded 12 = .ok (.ireturn, 1) := by decide +kernel
theorem d_cX2_loaded_13 : decode cX2_loaded 13 = .ok (.aload_n 0, 1) := by decide +kernel
theorem d_cX2_loaded_14 : decode cX2_loaded 14 = .ok (.invokevirtual 245, 3) := by decide +kernel
theorem d_cX2_loaded_17 : decode cX2_loaded 17 = .ok (.istore_n 3, 1) := by decide +kernel
theorem d_cX2_loaded_18 : decode cX2_loaded 18 = .ok (.aload_n 0, 1) := by decide +kernel
theorem d_cX2_loaded_19 : decode cX2_loaded 19 = .ok (.getfield 52, 3) := by decide +kernel
theorem d_cX2_loaded_22 : decode cX2_loaded 22 = .ok (.bipush 17, 2) := by decide +kernel
theorem d_cX2_loaded_24 : decode cX2_loaded 24 = .ok (.iload_n 3, 1) := by decide +kernel
theorem d_cX2_loaded_25 : decode cX2_loaded 25 = .ok (.iconst (-1), 1) := by decide +kernel
theorem d_cX2_loaded_26 : decode cX2_loaded 26 = .ok (.iconst 0, 1) := by decide +kernel
theorem d_cX2_loaded_27 : decode cX2_loaded 27 = .ok (.iconst (-1), 1) := by decide +kernel
theorem d_cX2_loaded_28 : decode cX2_loaded 28 = .ok (.iload_n 2, 1) := by decide +kernel
theorem d_cX2_loaded_29 : decode cX2_loaded 29 = .ok (.invokevirtual 197, 3) := by decide +kernel
theorem d_cX2_loaded_32 : decode cX2_loaded 32 = .ok (.iload_n 3, 1) := by decide +kernel
theorem d_cX2_loaded_33 : decode cX2_loaded 33 = .ok (.ireturn, 1) := by decide +kernel
theorem d_cX2_mergeCopies_0 : decode cX2_mergeCopies 0 = .ok (.aload_n 0, 1) := by decide +kernel
theorem d_cX2_mergeCopies_1 : decode cX2_mergeCopies 1 = .ok (.getfield 48, 3) := by decide +kernel
theorem d_cX2_mergeCopies_4 : decode cX2_mergeCopies 4 = .ok (.getfield 73, 3) := by decide +kernel
theorem d_cX2_mergeCopies_7 : decode cX2_mergeCopies 7 = .ok (.istore_n 2, 1) := by decide +kernel
theorem d_cX2_mergeCopies_8 : decode cX2_mergeCopies 8 = .ok (.iconst 0, 1) := by decide +kernel
theorem d_cX2_mergeCopies_9 : decode cX2_mergeCopies 9 = .ok (.istore_n 3, 1) := by decide +kernel
theorem d_cX2_mergeCopies_10 : decode cX2_mergeCopies 10 = .ok (.iload_n 3, 1) := by decide +kernel
theorem d_cX2_mergeCopies_11 : decode cX2_mergeCopies 11 = .ok (.iload_n 2, 1) := by decide +kernel
theorem d_cX2_mergeCopies_12 : decode cX2_mergeCopies 12 = .ok (.if_icmp .gt 119, 3) := by decide +kernel
theorem d_cX2_mergeCopies_15 : decode cX2_mergeCopies 15 = .ok (.aload_n 0, 1) := by decide +kernel
theorem d_cX2_mergeCopies_16 : decode cX2_mergeCopies 16 = .ok (.getfield 12, 3) := by decide +kernel
theorem d_cX2_mergeCopies_19 : decode cX2_mergeCopies 19 = .ok (.aload_n 0, 1) := by decide +kernel
theorem d_cX2_mergeCopies_20 : decode cX2_mergeCopies 20 = .ok (.getfield 48, 3) := by decide +kernel
theorem d_cX2_mergeCopies_23 : decode cX2_mergeCopies 23 = .ok (.aload_n 0, 1) := by decide +kernel
theorem d_cX2_mergeCopies_24 : decode cX2_mergeCopies 24 = .ok (.getfield 111, 3) := by decide +kernel
theorem d_cX2_mergeCopies_27 : decode cX2_mergeCopies 27 = .ok (.iconst 0, 1) := by decide +kernel
theorem d_cX2_mergeCopies_28 : decode cX2_mergeCopies 28 = .ok (.invokevirtual 114, 3) := by decide +kernel
theorem d_cX2_mergeCopies_31 : decode cX2_mergeCopies 31 = .ok (.aload_n 0, 1) := by decide +kernel
theorem d_cX2_mergeCopies_32 : decode cX2_mergeCopies 32 = .ok (.iload_n 1, 1) := by decide +kernel
theorem d_cX2_mergeCopies_33 : decode cX2_mergeCopies 33 = .ok (.invokevirtual 201, 3) := by decide +kernel
theorem d_cX2_mergeCopies_36 : decode cX2_mergeCopies 36 = .ok (.istore 4, 2) := by decide +kernel
theorem d_cX2_mergeCopies_38 : decode cX2_mergeCopies 38 = .ok (.iload 4, 2) := by decide +kernel
theorem d_cX2_mergeCopies_40 : decode cX2_mergeCopies 40 = .ok (.iconst (-1), 1) := by decide +kernel
theorem d_cX2_mergeCopies_41 : decode cX2_mergeCopies 41 = .ok (.if_icmp .ne 4, 3) := by decide +kernel
theorem d_cX2_mergeCopies_44 : decode cX2_mergeCopies 44 = .ok (.return_, 1) := by decide +kernel
theorem d_cX2_mergeCopies_45 : decode cX2_mergeCopies 45 = .ok (.aload_n 0, 1) := by decide +kernel
theorem d_cX2_mergeCopies_46 : decode cX2_mergeCopies 46 = .ok (.getfield 48, 3) := by decide +kernel
theorem d_cX2_mergeCopies_49 : decode cX2_mergeCopies 49 = .ok (.getfield 76, 3) := by decide +kernel
theorem d_cX2_mergeCopies_52 : decode cX2_mergeCopies 52 = .ok (.iload 4, 2) := by decide +kernel
theorem d_cX2_mergeCopies_54 : decode cX2_mergeCopies 54 = .ok (.iaload, 1) := by decide +kernel
theorem d_cX2_mergeCopies_55 : decode cX2_mergeCopies 55 = .ok (.aload_n 0, 1) := by decide +kernel
theorem d_cX2_mergeCopies_56 : decode cX2_mergeCopies 56 = .ok (.getfield 48, 3) := by decide +kernel
theorem d_cX2_mergeCopies_59 : decode cX2_mergeCopies 59 = .ok (.getfield 83, 3) := by decide +kernel
theorem d_cX2_mergeCopies_62 : decode cX2_mergeCopies 62 = .ok (.iload 4, 2) := by decide +kernel
theorem d_cX2_mergeCopies_64 : decode cX2_mergeCopies 64 = .ok (.iaload, 1) := by decide +kernel
theorem d_cX2_mergeCopies_65 : decode cX2_mergeCopies 65 = .ok (.invokestatic 204, 3) := by decide +kernel
theorem d_cX2_mergeCopies_68 : decode cX2_mergeCopies 68 = .ok (.istore 5, 2) := by decide +kernel
theorem d_cX2_mergeCopies_70 : decode cX2_mergeCopies 70 = .ok (.aload_n 0, 1) := by decide +kernel
theorem d_cX2_mergeCopies_71 : decode cX2_mergeCopies 71 = .ok (.getfield 48, 3) := by decide +kernel
theorem d_cX2_mergeCopies_74 : decode cX2_mergeCopies 74 = .ok (.getfield 76, 3) := by decide +kernel
theorem d_cX2_mergeCopies_77 : decode cX2_mergeCopies 77 = .ok (.iload 4, 2) := by decide +kernel
theorem d_cX2_mergeCopies_79 : decode cX2_mergeCopies 79 = .ok (.iaload, 1) := by decide +kernel
theorem d_cX2_mergeCopies_80 : decode cX2_mergeCopies 80 = .ok (.aload_n 0, 1) := by decide +kernel
theorem d_cX2_mergeCopies_81 : decode cX2_mergeCopies 81 = .ok (.getfield 48, 3) := by decide +kernel
theorem d_cX2_mergeCopies_84 : decode cX2_mergeCopies 84 = .ok (.getfield 83, 3) := by decide +kernel
theorem d_cX2_mergeCopies_87 : decode cX2_mergeCopies 87 = .ok (.iload 4, 2) := by decide +kernel
theorem d_cX2_mergeCopies_89 : decode cX2_mergeCopies 89 = .ok (.iaload, 1) := by decide +kernel
theorem d_cX2_mergeCopies_90 : decode cX2_mergeCopies 90 = .ok (.invokestatic 210, 3) := by decide +kernel
theorem d_cX2_mergeCopies_93 : decode cX2_mergeCopies 93 = .ok (.istore 6, 2) := by decide +kernel
theorem d_cX2_mergeCopies_95 : decode cX2_mergeCopies 95 = .ok (.aload_n 0, 1) := by decide +kernel
theorem d_cX2_mergeCopies_96 : decode cX2_mergeCopies 96 = .ok (.getfield 48, 3) := by decide +kernel
theorem d_cX2_mergeCopies_99 : decode cX2_mergeCopies 99 = .ok (.iload 4, 2) := by decide +kernel
theorem d_cX2_mergeCopies_101 : decode cX2_mergeCopies 101 = .ok (.invokevirtual 213, 3) := by decide +kernel
theorem d_cX2_mergeCopies_104 : decode cX2_mergeCopies 104 = .ok (.aload_n 0, 1) := by decide +kernel
theorem d_cX2_mergeCopies_105 : decode cX2_mergeCopies 105 = .ok (.getfield 48, 3) := by decide +kernel
theorem d_cX2_mergeCopies_108 : decode cX2_mergeCopies 108 = .ok (.iload 6, 2) := by decide +kernel
theorem d_cX2_mergeCopies_110 : decode cX2_mergeCopies 110 = .ok (.iload 5, 2) := by decide +kernel
theorem d_cX2_mergeCopies_112 : decode cX2_mergeCopies 112 = .ok (.invokevirtual 216, 3) := by decide +kernel
theorem d_cX2_mergeCopies_115 : decode cX2_mergeCopies 115 = .ok (.aload_n 0, 1) := by decide +kernel
theorem d_cX2_mergeCopies_116 : decode cX2_mergeCopies 116 = .ok (.dup, 1) := by decide +kernel
theorem d_cX2_mergeCopies_117 : decode cX2_mergeCopies 117 = .ok (.getfield 70, 3) := by decide +kernel
theorem d_cX2_mergeCopies_120 : decode cX2_mergeCopies 120 = .ok (.iconst 1, 1) := by decide +kernel
theorem d_cX2_mergeCopies_121 : decode cX2_mergeCopies 121 = .ok (.iadd, 1) := by decide +kernel
theorem d_cX2_mergeCopies_122 : decode cX2_mergeCopies 122 = .ok (.putfield 70, 3) := by decide +kernel
theorem d_cX2_mergeCopies_125 : decode cX2_mergeCopies 125 = .ok (.iinc 3 1, 3) := by decide +kernel
theorem d_cX2_mergeCopies_128 : decode cX2_mergeCopies 128 = .ok (.goto (-118), 3) := by decide +kernel
theorem d_cX2_mergeCopies_131 : decode cX2_mergeCopies 131 = .ok (.return_, 1) := by decide +kernel
theorem d_cX2_newTemporary_0 : decode cX2_newTemporary 0 = .ok (.aload_n 0, 1) := by decide +kernel
theorem d_cX2_newTemporary_1 : decode cX2_newTemporary 1 = .ok (.getfield 111, 3) := by decide +kernel
theorem d_cX2_newTemporary_4 : decode cX2_newTemporary 4 = .ok (.sipush 720, 3) := by decide +kernel
theorem d_cX2_newTemporary_7 : decode cX2_newTemporary 7 = .ok (.if_icmp .lt 13, 3) := by decide +kernel
theorem d_cX2_newTemporary_10 : decode cX2_newTemporary 10 = .ok (.aload_n 0, 1) := by decide +kernel
theorem d_cX2_newTemporary_11 : decode cX2_newTemporary 11 = .ok (.getfield 52, 3) := by decide +kernel
theorem d_cX2_newTemporary_14 : decode cX2_newTemporary 14 = .ok (.iconst 1, 1) := by decide +kernel
theorem d_cX2_newTemporary_15 : decode cX2_newTemporary 15 = .ok (.putfield 159, 3) := by decide +kernel
theorem d_cX2_newTemporary_18 : decode cX2_newTemporary 18 = .ok (.iconst (-1), 1) := by decide +kernel
theorem d_cX2_newTemporary_19 : decode cX2_newTemporary 19 = .ok (.ireturn, 1) := by decide +kernel
theorem d_cX2_newTemporary_20 : decode cX2_newTemporary 20 = .ok (.aload_n 0, 1) := by decide +kernel
theorem d_cX2_newTemporary_21 : decode cX2_newTemporary 21 = .ok (.dup, 1) := by decide +kernel
theorem d_cX2_newTemporary_22 : decode cX2_newTemporary 22 = .ok (.getfield 111, 3) := by decide +kernel
theorem d_cX2_newTemporary_25 : decode cX2_newTemporary 25 = .ok (.iconst 1, 1) := by decide +kernel
theorem d_cX2_newTemporary_26 : decode cX2_newTemporary 26 = .ok (.iadd, 1) := by decide +kernel
theorem d_cX2_newTemporary_27 : decode cX2_newTemporary 27 = .ok (.putfield 111, 3) := by decide +kernel
theorem d_cX2_newTemporary_30 : decode cX2_newTemporary 30 = .ok (.aload_n 0, 1) := by decide +kernel
theorem d_cX2_newTemporary_31 : decode cX2_newTemporary 31 = .ok (.getfield 111, 3) := by decide +kernel
theorem d_cX2_newTemporary_34 : decode cX2_newTemporary 34 = .ok (.iconst 1, 1) := by decide +kernel
theorem d_cX2_newTemporary_35 : decode cX2_newTemporary 35 = .ok (.isub, 1) := by decide +kernel
theorem d_cX2_newTemporary_36 : decode cX2_newTemporary 36 = .ok (.ireturn, 1) := by decide +kernel
theorem d_cX2_nextToMerge_0 : decode cX2_nextToMerge 0 = .ok (.iconst 0, 1) := by decide +kernel
theorem d_cX2_nextToMerge_1 : decode cX2_nextToMerge 1 = .ok (.istore_n 2, 1) := by decide +kernel
theorem d_cX2_nextToMerge_2 : decode cX2_nextToMerge 2 = .ok (.iload_n 2, 1) := by decide +kernel
theorem d_cX2_nextToMerge_3 : decode cX2_nextToMerge 3 = .ok (.aload_n 0, 1) := by decide +kernel
theorem d_cX2_nextToMerge_4 : decode cX2_nextToMerge 4 = .ok (.getfield 48, 3) := by decide +kernel
theorem d_cX2_nextToMerge_7 : decode cX2_nextToMerge 7 = .ok (.getfield 73, 3) := by decide +kernel
theorem d_cX2_nextToMerge_10 : decode cX2_nextToMerge 10 = .ok (.if_icmp .ge 48, 3) := by decide +kernel
theorem d_cX2_nextToMerge_13 : decode cX2_nextToMerge 13 = .ok (.aload_n 0, 1) := by decide +kernel
theorem d_cX2_nextToMerge_14 : decode cX2_nextToMerge 14 = .ok (.getfield 48, 3) := by decide +kernel
theorem d_cX2_nextToMerge_17 : decode cX2_nextToMerge 17 = .ok (.iload_n 2, 1) := by decide +kernel
theorem d_cX2_nextToMerge_18 : decode cX2_nextToMerge 18 = .ok (.invokevirtual 220, 3) := by decide +kernel
theorem d_cX2_nextToMerge_21 : decode cX2_nextToMerge 21 = .ok (.ifCond .eq 31, 3) := by decide +kernel
theorem d_cX2_nextToMerge_24 : decode cX2_nextToMerge 24 = .ok (.aload_n 0, 1) := by decide +kernel
theorem d_cX2_nextToMerge_25 : decode cX2_nextToMerge 25 = .ok (.aload_n 0, 1) := by decide +kernel
theorem d_cX2_nextToMerge_26 : decode cX2_nextToMerge 26 = .ok (.getfield 48, 3) := by decide +kernel
theorem d_cX2_nextToMerge_29 : decode cX2_nextToMerge 29 = .ok (.getfield 76, 3) := by decide +kernel
theorem d_cX2_nextToMerge_32 : decode cX2_nextToMerge 32 = .ok (.iload_n 2, 1) := by decide +kernel
theorem d_cX2_nextToMerge_33 : decode cX2_nextToMerge 33 = .ok (.iaload, 1) := by decide +kernel
theorem d_cX2_nextToMerge_34 : decode cX2_nextToMerge 34 = .ok (.aload_n 0, 1) := by decide +kernel
theorem d_cX2_nextToMerge_35 : decode cX2_nextToMerge 35 = .ok (.getfield 48, 3) := by decide +kernel
theorem d_cX2_nextToMerge_38 : decode cX2_nextToMerge 38 = .ok (.getfield 83, 3) := by decide +kernel
theorem d_cX2_nextToMerge_41 : decode cX2_nextToMerge 41 = .ok (.iload_n 2, 1) := by decide +kernel
theorem d_cX2_nextToMerge_42 : decode cX2_nextToMerge 42 = .ok (.iaload, 1) := by decide +kernel
theorem d_cX2_nextToMerge_43 : decode cX2_nextToMerge 43 = .ok (.iload_n 1, 1) := by decide +kernel
theorem d_cX2_nextToMerge_44 : decode cX2_nextToMerge 44 = .ok (.invokevirtual 223, 3) := by decide +kernel
theorem d_cX2_nextToMerge_47 : decode cX2_nextToMerge 47 = .ok (.ifCond .eq 5, 3) := by decide +kernel
theorem d_cX2_nextToMerge_50 : decode cX2_nextToMerge 50 = .ok (.iload_n 2, 1) := by decide +kernel
theorem d_cX2_nextToMerge_51 : decode cX2_nextToMerge 51 = .ok (.ireturn, 1) := by decide +kernel
theorem d_cX2_nextToMerge_52 : decode cX2_nextToMerge 52 = .ok (.iinc 2 1, 3) := by decide +kernel
theorem d_cX2_nextToMerge_55 : decode cX2_nextToMerge 55 = .ok (.goto (-53), 3) := by decide +kernel
theorem d_cX2_nextToMerge_58 : decode cX2_nextToMerge 58 = .ok (.iconst (-1), 1) := by decide +kernel
theorem d_cX2_nextToMerge_59 : decode cX2_nextToMerge 59 = .ok (.ireturn, 1) := by decide +kernel
theorem d_cX2_setLiveToZero_0 : decode cX2_setLiveToZero 0 = .ok (.iconst 0, 1) := by decide +kernel
theorem d_cX2_setLiveToZero_1 : decode cX2_setLiveToZero 1 = .ok (.istore_n 1, 1) := by decide +kernel
theorem d_cX2_setLiveToZero_2 : decode cX2_setLiveToZero 2 = .ok (.iload_n 1, 1) := by decide +kernel
theorem d_cX2_setLiveToZero_3 : decode cX2_setLiveToZero 3 = .ok (.bipush 100, 2) := by decide +kernel
theorem d_cX2_setLiveToZero_5 : decode cX2_setLiveToZero 5 = .ok (.if_icmp .ge 38, 3) := by decide +kernel
theorem d_cX2_setLiveToZero_8 : decode cX2_setLiveToZero 8 = .ok (.aload_n 0, 1) := by decide +kernel
theorem d_cX2_setLiveToZero_9 : decode cX2_setLiveToZero 9 = .ok (.getfield 12, 3) := by decide +kernel
theorem d_cX2_setLiveToZero_12 : decode cX2_setLiveToZero 12 = .ok (.getfield 102, 3) := by decide +kernel
theorem d_cX2_setLiveToZero_15 : decode cX2_setLiveToZero 15 = .ok (.iconst 0, 1) := by decide +kernel
theorem d_cX2_setLiveToZero_16 : decode cX2_setLiveToZero 16 = .ok (.iload_n 1, 1) := by decide +kernel
theorem d_cX2_setLiveToZero_17 : decode cX2_setLiveToZero 17 = .ok (.invokevirtual 193, 3) := by decide +kernel
theorem d_cX2_setLiveToZero_20 : decode cX2_setLiveToZero 20 = .ok (.ifCond .eq 17, 3) := by decide +kernel
theorem d_cX2_setLiveToZero_23 : decode cX2_setLiveToZero 23 = .ok (.aload_n 0, 1) := by decide +kernel
theorem d_cX2_setLiveToZero_24 : decode cX2_setLiveToZero 24 = .ok (.getfield 48, 3) := by decide +kernel
theorem d_cX2_setLiveToZero_27 : decode cX2_setLiveToZero 27 = .ok (.bipush 14, 2) := by decide +kernel
theorem d_cX2_setLiveToZero_29 : decode cX2_setLiveToZero 29 = .ok (.iload_n 1, 1) := by decide +kernel
theorem d_cX2_setLiveToZero_30 : decode cX2_setLiveToZero 30 = .ok (.iconst (-1), 1) := by decide +kernel
theorem d_cX2_setLiveToZero_31 : decode cX2_setLiveToZero 31 = .ok (.iconst 0, 1) := by decide +kernel
theorem d_cX2_setLiveToZero_32 : decode cX2_setLiveToZero 32 = .ok (.iconst (-1), 1) := by decide +kernel
theorem d_cX2_setLiveToZero_33 : decode cX2_setLiveToZero 33 = .ok (.iconst 0, 1) := by decide +kernel
theorem d_cX2_setLiveToZero_34 : decode cX2_setLiveToZero 34 = .ok (.invokevirtual 197, 3) := by decide +kernel
theorem d_cX2_setLiveToZero_37 : decode cX2_setLiveToZero 37 = .ok (.iinc 1 1, 3) := by decide +kernel
theorem d_cX2_setLiveToZero_40 : decode cX2_setLiveToZero 40 = .ok (.goto (-38), 3) := by decide +kernel
theorem d_cX2_setLiveToZero_43 : decode cX2_setLiveToZero 43 = .ok (.return_, 1) := by decide +kernel
theorem d_cX2_shareSlots_0 : decode cX2_shareSlots 0 = .ok (.aload_n 0, 1) := by decide +kernel
theorem d_cX2_shareSlots_1 : decode cX2_shareSlots 1 = .ok (.getfield 12, 3) := by decide +kernel
theorem d_cX2_shareSlots_4 : decode cX2_shareSlots 4 = .ok (.aload_n 0, 1) := by decide +kernel
theorem d_cX2_shareSlots_5 : decode cX2_shareSlots 5 = .ok (.getfield 48, 3) := by decide +kernel
theorem d_cX2_shareSlots_8 : decode cX2_shareSlots 8 = .ok (.aload_n 0, 1) := by decide +kernel
theorem d_cX2_shareSlots_9 : decode cX2_shareSlots 9 = .ok (.getfield 162, 3) := by decide +kernel
theorem d_cX2_shareSlots_12 : decode cX2_shareSlots 12 = .ok (.iconst 1, 1) := by decide +kernel
theorem d_cX2_shareSlots_13 : decode cX2_shareSlots 13 = .ok (.invokevirtual 114, 3) := by decide +kernel
theorem d_cX2_shareSlots_16 : decode cX2_shareSlots 16 = .ok (.iconst 0, 1) := by decide +kernel
theorem d_cX2_shareSlots_17 : decode cX2_shareSlots 17 = .ok (.istore_n 1, 1) := by decide +kernel
theorem d_cX2_shareSlots_18 : decode cX2_shareSlots 18 = .ok (.iload_n 1, 1) := by decide +kernel
theorem d_cX2_shareSlots_19 : decode cX2_shareSlots 19 = .ok (.aload_n 0, 1) := by decide +kernel
theorem d_cX2_shareSlots_20 : decode cX2_shareSlots 20 = .ok (.getfield 162, 3) := by decide +kernel
theorem d_cX2_shareSlots_23 : decode cX2_shareSlots 23 = .ok (.if_icmp .ge 58, 3) := by decide +kernel
theorem d_cX2_shareSlots_26 : decode cX2_shareSlots 26 = .ok (.iload_n 1, 1) := by decide +kernel
theorem d_cX2_shareSlots_27 : decode cX2_shareSlots 27 = .ok (.bipush 100, 2) := by decide +kernel
theorem d_cX2_shareSlots_29 : decode cX2_shareSlots 29 = .ok (.if_icmp .ge 52, 3) := by decide +kernel
theorem d_cX2_shareSlots_32 : decode cX2_shareSlots 32 = .ok (.iconst 0, 1) := by decide +kernel
theorem d_cX2_shareSlots_33 : decode cX2_shareSlots 33 = .ok (.istore_n 2, 1) := by decide +kernel
theorem d_cX2_shareSlots_34 : decode cX2_shareSlots 34 = .ok (.iload_n 2, 1) := by decide +kernel
theorem d_cX2_shareSlots_35 : decode cX2_shareSlots 35 = .ok (.iload_n 1, 1) := by decide +kernel
theorem d_cX2_shareSlots_36 : decode cX2_shareSlots 36 = .ok (.if_icmp .ge 18, 3) := by decide +kernel
theorem d_cX2_shareSlots_39 : decode cX2_shareSlots 39 = .ok (.aload_n 0, 1) := by decide +kernel
theorem d_cX2_shareSlots_40 : decode cX2_shareSlots 40 = .ok (.iload_n 1, 1) := by decide +kernel
theorem d_cX2_shareSlots_41 : decode cX2_shareSlots 41 = .ok (.iload_n 2, 1) := by decide +kernel
theorem d_cX2_shareSlots_42 : decode cX2_shareSlots 42 = .ok (.invokevirtual 258, 3) := by decide +kernel
theorem d_cX2_shareSlots_45 : decode cX2_shareSlots 45 = .ok (.ifCond .eq 9, 3) := by decide +kernel
theorem d_cX2_shareSlots_48 : decode cX2_shareSlots 48 = .ok (.iinc 2 1, 3) := by decide +kernel
theorem d_cX2_shareSlots_51 : decode cX2_shareSlots 51 = .ok (.goto (-17), 3) := by decide +kernel
theorem d_cX2_shareSlots_54 : decode cX2_shareSlots 54 = .ok (.aload_n 0, 1) := by decide +kernel
theorem d_cX2_shareSlots_55 : decode cX2_shareSlots 55 = .ok (.getfield 40, 3) := by decide +kernel
theorem d_cX2_shareSlots_58 : decode cX2_shareSlots 58 = .ok (.iload_n 1, 1) := by decide +kernel
theorem d_cX2_shareSlots_59 : decode cX2_shareSlots 59 = .ok (.iload_n 2, 1) := by decide +kernel
theorem d_cX2_shareSlots_60 : decode cX2_shareSlots 60 = .ok (.iastore, 1) := by decide +kernel
theorem d_cX2_shareSlots_61 : decode cX2_shareSlots 61 = .ok (.aload_n 0, 1) := by decide +kernel
theorem d_cX2_shareSlots_62 : decode cX2_shareSlots 62 = .ok (.aload_n 0, 1) := by decide +kernel
theorem d_cX2_shareSlots_63 : decode cX2_shareSlots 63 = .ok (.getfield 63, 3) := by decide +kernel
theorem d_cX2_shareSlots_66 : decode cX2_shareSlots 66 = .ok (.iload_n 2, 1) := by decide +kernel
theorem d_cX2_shareSlots_67 : decode cX2_shareSlots 67 = .ok (.iconst 1, 1) := by decide +kernel
theorem d_cX2_shareSlots_68 : decode cX2_shareSlots 68 = .ok (.iadd, 1) := by decide +kernel
theorem d_cX2_shareSlots_69 : decode cX2_shareSlots 69 = .ok (.invokestatic 210, 3) := by decide +kernel
theorem d_cX2_shareSlots_72 : decode cX2_shareSlots 72 = .ok (.putfield 63, 3) := by decide +kernel
theorem d_cX2_shareSlots_75 : decode cX2_shareSlots 75 = .ok (.iinc 1 1, 3) := by decide +kernel
theorem d_cX2_shareSlots_78 : decode cX2_shareSlots 78 = .ok (.goto (-60), 3) := by decide +kernel
theorem d_cX2_shareSlots_81 : decode cX2_shareSlots 81 = .ok (.aload_n 0, 1) := by decide +kernel
theorem d_cX2_shareSlots_82 : decode cX2_shareSlots 82 = .ok (.getfield 48, 3) := by decide +kernel
theorem d_cX2_shareSlots_85 : decode cX2_shareSlots 85 = .ok (.aload_n 0, 1) := by decide +kernel
theorem d_cX2_shareSlots_86 : decode cX2_shareSlots 86 = .ok (.getfield 40, 3) := by decide +kernel
theorem d_cX2_shareSlots_89 : decode cX2_shareSlots 89 = .ok (.invokevirtual 261, 3) := by decide +kernel
theorem d_cX2_shareSlots_92 : decode cX2_shareSlots 92 = .ok (.return_, 1) := by decide +kernel
theorem d_cX2_slotFor_0 : decode cX2_slotFor 0 = .ok (.iload_n 1, 1) := by decide +kernel
theorem d_cX2_slotFor_1 : decode cX2_slotFor 1 = .ok (.ifCond .lt 18, 3) := by decide +kernel
theorem d_cX2_slotFor_4 : decode cX2_slotFor 4 = .ok (.iload_n 1, 1) := by decide +kernel
theorem d_cX2_slotFor_5 : decode cX2_slotFor 5 = .ok (.bipush 100, 2) := by decide +kernel
theorem d_cX2_slotFor_7 : decode cX2_slotFor 7 = .ok (.if_icmp .ge 12, 3) := by decide +kernel
theorem d_cX2_slotFor_10 : decode cX2_slotFor 10 = .ok (.aload_n 0, 1) := by decide +kernel
theorem d_cX2_slotFor_11 : decode cX2_slotFor 11 = .ok (.getfield 37, 3) := by decide +kernel
theorem d_cX2_slotFor_14 : decode cX2_slotFor 14 = .ok (.iload_n 1, 1) := by decide +kernel
theorem d_cX2_slotFor_15 : decode cX2_slotFor 15 = .ok (.iaload, 1) := by decide +kernel
theorem d_cX2_slotFor_16 : decode cX2_slotFor 16 = .ok (.goto 4, 3) := by decide +kernel
theorem d_cX2_slotFor_19 : decode cX2_slotFor 19 = .ok (.iconst (-1), 1) := by decide +kernel
theorem d_cX2_slotFor_20 : decode cX2_slotFor 20 = .ok (.ireturn, 1) := by decide +kernel
theorem d_cX2_spill_0 : decode cX2_spill 0 = .ok (.aload_n 0, 1) := by decide +kernel
theorem d_cX2_spill_1 : decode cX2_spill 1 = .ok (.getfield 52, 3) := by decide +kernel
theorem d_cX2_spill_4 : decode cX2_spill 4 = .ok (.invokevirtual 174, 3) := by decide +kernel
theorem d_cX2_spill_7 : decode cX2_spill 7 = .ok (.iconst 0, 1) := by decide +kernel
theorem d_cX2_spill_8 : decode cX2_spill 8 = .ok (.istore_n 1, 1) := by decide +kernel
theorem d_cX2_spill_9 : decode cX2_spill 9 = .ok (.iload_n 1, 1) := by decide +kernel
theorem d_cX2_spill_10 : decode cX2_spill 10 = .ok (.aload_n 0, 1) := by decide +kernel
theorem d_cX2_spill_11 : decode cX2_spill 11 = .ok (.getfield 48, 3) := by decide +kernel
theorem d_cX2_spill_14 : decode cX2_spill 14 = .ok (.getfield 99, 3) := by decide +kernel
theorem d_cX2_spill_17 : decode cX2_spill 17 = .ok (.if_icmp .ge 53, 3) := by decide +kernel
theorem d_cX2_spill_20 : decode cX2_spill 20 = .ok (.aload_n 0, 1) := by decide +kernel
theorem d_cX2_spill_21 : decode cX2_spill 21 = .ok (.getfield 52, 3) := by decide +kernel
theorem d_cX2_spill_24 : decode cX2_spill 24 = .ok (.aload_n 0, 1) := by decide +kernel
theorem d_cX2_spill_25 : decode cX2_spill 25 = .ok (.getfield 48, 3) := by decide +kernel
theorem d_cX2_spill_28 : decode cX2_spill 28 = .ok (.invokevirtual 177, 3) := by decide +kernel
theorem d_cX2_spill_31 : decode cX2_spill 31 = .ok (.aload_n 0, 1) := by decide +kernel
theorem d_cX2_spill_32 : decode cX2_spill 32 = .ok (.getfield 48, 3) := by decide +kernel
theorem d_cX2_spill_35 : decode cX2_spill 35 = .ok (.getfield 183, 3) := by decide +kernel
theorem d_cX2_spill_38 : decode cX2_spill 38 = .ok (.iload_n 1, 1) := by decide +kernel
theorem d_cX2_spill_39 : decode cX2_spill 39 = .ok (.iaload, 1) := by decide +kernel
theorem d_cX2_spill_40 : decode cX2_spill 40 = .ok (.istore_n 2, 1) := by decide +kernel
theorem d_cX2_spill_41 : decode cX2_spill 41 = .ok (.iload_n 2, 1) := by decide +kernel
theorem d_cX2_spill_42 : decode cX2_spill 42 = .ok (.aload_n 0, 1) := by decide +kernel
theorem d_cX2_spill_43 : decode cX2_spill 43 = .ok (.getfield 48, 3) := by decide +kernel
theorem d_cX2_spill_46 : decode cX2_spill 46 = .ok (.iload_n 1, 1) := by decide +kernel
theorem d_cX2_spill_47 : decode cX2_spill 47 = .ok (.invokevirtual 186, 3) := by decide +kernel
theorem d_cX2_spill_50 : decode cX2_spill 50 = .ok (.if_icmp .ge 14, 3) := by decide +kernel
theorem d_cX2_spill_53 : decode cX2_spill 53 = .ok (.aload_n 0, 1) := by decide +kernel
theorem d_cX2_spill_54 : decode cX2_spill 54 = .ok (.iload_n 2, 1) := by decide +kernel
theorem d_cX2_spill_55 : decode cX2_spill 55 = .ok (.invokevirtual 236, 3) := by decide +kernel
theorem d_cX2_spill_58 : decode cX2_spill 58 = .ok (.iinc 2 1, 3) := by decide +kernel
theorem d_cX2_spill_61 : decode cX2_spill 61 = .ok (.goto (-20), 3) := by decide +kernel
theorem d_cX2_spill_64 : decode cX2_spill 64 = .ok (.iinc 1 1, 3) := by decide +kernel
theorem d_cX2_spill_67 : decode cX2_spill 67 = .ok (.goto (-58), 3) := by decide +kernel
theorem d_cX2_spill_70 : decode cX2_spill 70 = .ok (.aload_n 0, 1) := by decide +kernel
theorem d_cX2_spill_71 : decode cX2_spill 71 = .ok (.getfield 48, 3) := by decide +kernel
theorem d_cX2_spill_74 : decode cX2_spill 74 = .ok (.astore_n 1, 1) := by decide +kernel
theorem d_cX2_spill_75 : decode cX2_spill 75 = .ok (.aload_n 0, 1) := by decide +kernel
theorem d_cX2_spill_76 : decode cX2_spill 76 = .ok (.aload_n 0, 1) := by decide +kernel
theorem d_cX2_spill_77 : decode cX2_spill 77 = .ok (.getfield 52, 3) := by decide +kernel
theorem d_cX2_spill_80 : decode cX2_spill 80 = .ok (.putfield 48, 3) := by decide +kernel
theorem d_cX2_spill_83 : decode cX2_spill 83 = .ok (.aload_n 0, 1) := by decide +kernel
theorem d_cX2_spill_84 : decode cX2_spill 84 = .ok (.aload_n 1, 1) := by decide +kernel
theorem d_cX2_spill_85 : decode cX2_spill 85 = .ok (.putfield 52, 3) := by decide +kernel
theorem d_cX2_spill_88 : decode cX2_spill 88 = .ok (.return_, 1) := by decide +kernel
theorem d_cX2_spillLine_0 : decode cX2_spillLine 0 = .ok (.aload_n 0, 1) := by decide +kernel
theorem d_cX2_spillLine_1 : decode cX2_spillLine 1 = .ok (.aload_n 0, 1) := by decide +kernel
theorem d_cX2_spillLine_2 : decode cX2_spillLine 2 = .ok (.getfield 48, 3) := by decide +kernel
theorem d_cX2_spillLine_5 : decode cX2_spillLine 5 = .ok (.getfield 83, 3) := by decide +kernel
theorem d_cX2_spillLine_8 : decode cX2_spillLine 8 = .ok (.iload_n 1, 1) := by decide +kernel
theorem d_cX2_spillLine_9 : decode cX2_spillLine 9 = .ok (.iaload, 1) := by decide +kernel
theorem d_cX2_spillLine_10 : decode cX2_spillLine 10 = .ok (.invokevirtual 239, 3) := by decide +kernel
theorem d_cX2_spillLine_13 : decode cX2_spillLine 13 = .ok (.istore_n 2, 1) := by decide +kernel
theorem d_cX2_spillLine_14 : decode cX2_spillLine 14 = .ok (.aload_n 0, 1) := by decide +kernel
theorem d_cX2_spillLine_15 : decode cX2_spillLine 15 = .ok (.getfield 48, 3) := by decide +kernel
theorem d_cX2_spillLine_18 : decode cX2_spillLine 18 = .ok (.getfield 86, 3) := by decide +kernel
theorem d_cX2_spillLine_21 : decode cX2_spillLine 21 = .ok (.iload_n 1, 1) := by decide +kernel
theorem d_cX2_spillLine_22 : decode cX2_spillLine 22 = .ok (.iaload, 1) := by decide +kernel
theorem d_cX2_spillLine_23 : decode cX2_spillLine 23 = .ok (.aload_n 0, 1) := by decide +kernel
theorem d_cX2_spillLine_24 : decode cX2_spillLine 24 = .ok (.getfield 48, 3) := by decide +kernel
theorem d_cX2_spillLine_27 : decode cX2_spillLine 27 = .ok (.getfield 83, 3) := by decide +kernel
theorem d_cX2_spillLine_30 : decode cX2_spillLine 30 = .ok (.iload_n 1, 1) := by decide +kernel
theorem d_cX2_spillLine_31 : decode cX2_spillLine 31 = .ok (.iaload, 1) := by decide +kernel
theorem d_cX2_spillLine_32 : decode cX2_spillLine 32 = .ok (.if_icmp .ne 7, 3) := by decide +kernel
theorem d_cX2_spillLine_35 : decode cX2_spillLine 35 = .ok (.iload_n 2, 1) := by decide +kernel
theorem d_cX2_spillLine_36 : decode cX2_spillLine 36 = .ok (.goto 16, 3) := by decide +kernel
theorem d_cX2_spillLine_39 : decode cX2_spillLine 39 = .ok (.aload_n 0, 1) := by decide +kernel
theorem d_cX2_spillLine_40 : decode cX2_spillLine 40 = .ok (.aload_n 0, 1) := by decide +kernel
theorem d_cX2_spillLine_41 : decode cX2_spillLine 41 = .ok (.getfield 48, 3) := by decide +kernel
theorem d_cX2_spillLine_44 : decode cX2_spillLine 44 = .ok (.getfield 86, 3) := by decide +kernel
theorem d_cX2_spillLine_47 : decode cX2_spillLine 47 = .ok (.iload_n 1, 1) := by decide +kernel
theorem d_cX2_spillLine_48 : decode cX2_spillLine 48 = .ok (.iaload, 1) := by decide +kernel
theorem d_cX2_spillLine_49 : decode cX2_spillLine 49 = .ok (.invokevirtual 239, 3) := by decide +kernel
theorem d_cX2_spillLine_52 : decode cX2_spillLine 52 = .ok (.istore_n 3, 1) := by decide +kernel
theorem d_cX2_spillLine_53 : decode cX2_spillLine 53 = .ok (.aload_n 0, 1) := by decide +kernel
theorem d_cX2_spillLine_54 : decode cX2_spillLine 54 = .ok (.aload_n 0, 1) := by decide +kernel
theorem d_cX2_spillLine_55 : decode cX2_spillLine 55 = .ok (.getfield 48, 3) := by decide +kernel
theorem d_cX2_spillLine_58 : decode cX2_spillLine 58 = .ok (.getfield 76, 3) := by decide +kernel
theorem d_cX2_spillLine_61 : decode cX2_spillLine 61 = .ok (.iload_n 1, 1) := by decide +kernel
theorem d_cX2_spillLine_62 : decode cX2_spillLine 62 = .ok (.iaload, 1) := by decide +kernel
theorem d_cX2_spillLine_63 : decode cX2_spillLine 63 = .ok (.invokevirtual 242, 3) := by decide +kernel
theorem d_cX2_spillLine_66 : decode cX2_spillLine 66 = .ok (.istore 4, 2) := by decide +kernel
theorem d_cX2_spillLine_68 : decode cX2_spillLine 68 = .ok (.iload 4, 2) := by decide +kernel
theorem d_cX2_spillLine_70 : decode cX2_spillLine 70 = .ok (.iconst (-1), 1) := by decide +kernel
theorem d_cX2_spillLine_71 : decode cX2_spillLine 71 = .ok (.if_icmp .ne 15, 3) := by decide +kernel
theorem d_cX2_spillLine_74 : decode cX2_spillLine 74 = .ok (.aload_n 0, 1) := by decide +kernel
theorem d_cX2_spillLine_75 : decode cX2_spillLine 75 = .ok (.getfield 48, 3) := by decide +kernel
theorem d_cX2_spillLine_78 : decode cX2_spillLine 78 = .ok (.getfield 76, 3) := by decide +kernel
theorem d_cX2_spillLine_81 : decode cX2_spillLine 81 = .ok (.iload_n 1, 1) := by decide +kernel
theorem d_cX2_spillLine_82 : decode cX2_spillLine 82 = .ok (.iaload, 1) := by decide +kernel
theorem d_cX2_spillLine_83 : decode cX2_spillLine 83 = .ok (.goto 7, 3) := by decide +kernel
theorem d_cX2_spillLine_86 : decode cX2_spillLine 86 = .ok (.aload_n 0, 1) := by decide +kernel
theorem d_cX2_spillLine_87 : decode cX2_spillLine 87 = .ok (.invokevirtual 245, 3) := by decide +kernel
theorem d_cX2_spillLine_90 : decode cX2_spillLine 90 = .ok (.istore 5, 2) := by decide +kernel
theorem d_cX2_spillLine_92 : decode cX2_spillLine 92 = .ok (.aload_n 0, 1) := by decide +kernel
theorem d_cX2_spillLine_93 : decode cX2_spillLine 93 = .ok (.getfield 52, 3) := by decide +kernel
theorem d_cX2_spillLine_96 : decode cX2_spillLine 96 = .ok (.aload_n 0, 1) := by decide +kernel
theorem d_cX2_spillLine_97 : decode cX2_spillLine 97 = .ok (.getfield 48, 3) := by decide +kernel
theorem d_cX2_spillLine_100 : decode cX2_spillLine 100 = .ok (.getfield 249, 3) := by decide +kernel
theorem d_cX2_spillLine_103 : decode cX2_spillLine 103 = .ok (.iload_n 1, 1) := by decide +kernel
theorem d_cX2_spillLine_104 : decode cX2_spillLine 104 = .ok (.iaload, 1) := by decide +kernel
theorem d_cX2_spillLine_105 : decode cX2_spillLine 105 = .ok (.iload 5, 2) := by decide +kernel
theorem d_cX2_spillLine_107 : decode cX2_spillLine 107 = .ok (.iload_n 2, 1) := by decide +kernel
theorem d_cX2_spillLine_108 : decode cX2_spillLine 108 = .ok (.aload_n 0, 1) := by decide +kernel
theorem d_cX2_spillLine_109 : decode cX2_spillLine 109 = .ok (.getfield 48, 3) := by decide +kernel
theorem d_cX2_spillLine_112 : decode cX2_spillLine 112 = .ok (.getfield 252, 3) := by decide +kernel
theorem d_cX2_spillLine_115 : decode cX2_spillLine 115 = .ok (.iload_n 1, 1) := by decide +kernel
theorem d_cX2_spillLine_116 : decode cX2_spillLine 116 = .ok (.iaload, 1) := by decide +kernel
theorem d_cX2_spillLine_117 : decode cX2_spillLine 117 = .ok (.iload_n 3, 1) := by decide +kernel
theorem d_cX2_spillLine_118 : decode cX2_spillLine 118 = .ok (.aload_n 0, 1) := by decide +kernel
theorem d_cX2_spillLine_119 : decode cX2_spillLine 119 = .ok (.getfield 48, 3) := by decide +kernel
theorem d_cX2_spillLine_122 : decode cX2_spillLine 122 = .ok (.getfield 255, 3) := by decide +kernel
theorem d_cX2_spillLine_125 : decode cX2_spillLine 125 = .ok (.iload_n 1, 1) := by decide +kernel
theorem d_cX2_spillLine_126 : decode cX2_spillLine 126 = .ok (.iaload, 1) := by decide +kernel
theorem d_cX2_spillLine_127 : decode cX2_spillLine 127 = .ok (.invokevirtual 197, 3) := by decide +kernel
theorem d_cX2_spillLine_130 : decode cX2_spillLine 130 = .ok (.iload 4, 2) := by decide +kernel
theorem d_cX2_spillLine_132 : decode cX2_spillLine 132 = .ok (.iconst (-1), 1) := by decide +kernel
theorem d_cX2_spillLine_133 : decode cX2_spillLine 133 = .ok (.if_icmp .eq 19, 3) := by decide +kernel
theorem d_cX2_spillLine_136 : decode cX2_spillLine 136 = .ok (.aload_n 0, 1) := by decide +kernel
theorem d_cX2_spillLine_137 : decode cX2_spillLine 137 = .ok (.getfield 52, 3) := by decide +kernel
theorem d_cX2_spillLine_140 : decode cX2_spillLine 140 = .ok (.bipush 18, 2) := by decide +kernel
theorem d_cX2_spillLine_142 : decode cX2_spillLine 142 = .ok (.iconst (-1), 1) := by decide +kernel
theorem d_cX2_spillLine_143 : decode cX2_spillLine 143 = .ok (.iload 5, 2) := by decide +kernel
theorem d_cX2_spillLine_145 : decode cX2_spillLine 145 = .ok (.iconst 0, 1) := by decide +kernel
theorem d_cX2_spillLine_146 : decode cX2_spillLine 146 = .ok (.iconst (-1), 1) := by decide +kernel
theorem d_cX2_spillLine_147 : decode cX2_spillLine 147 = .ok (.iload 4, 2) := by decide +kernel
theorem d_cX2_spillLine_149 : decode cX2_spillLine 149 = .ok (.invokevirtual 197, 3) := by decide +kernel
theorem d_cX2_spillLine_152 : decode cX2_spillLine 152 = .ok (.return_, 1) := by decide +kernel
theorem d_cX2_survey_0 : decode cX2_survey 0 = .ok (.aload_n 0, 1) := by decide +kernel
theorem d_cX2_survey_1 : decode cX2_survey 1 = .ok (.aload_n 1, 1) := by decide +kernel
theorem d_cX2_survey_2 : decode cX2_survey 2 = .ok (.invokevirtual 95, 3) := by decide +kernel
theorem d_cX2_survey_5 : decode cX2_survey 5 = .ok (.iconst 0, 1) := by decide +kernel
theorem d_cX2_survey_6 : decode cX2_survey 6 = .ok (.istore_n 2, 1) := by decide +kernel
theorem d_cX2_survey_7 : decode cX2_survey 7 = .ok (.iload_n 2, 1) := by decide +kernel
theorem d_cX2_survey_8 : decode cX2_survey 8 = .ok (.aload_n 1, 1) := by decide +kernel
theorem d_cX2_survey_9 : decode cX2_survey 9 = .ok (.getfield 99, 3) := by decide +kernel
theorem d_cX2_survey_12 : decode cX2_survey 12 = .ok (.if_icmp .ge 26, 3) := by decide +kernel
theorem d_cX2_survey_15 : decode cX2_survey 15 = .ok (.aload_n 0, 1) := by decide +kernel
theorem d_cX2_survey_16 : decode cX2_survey 16 = .ok (.getfield 34, 3) := by decide +kernel
theorem d_cX2_survey_19 : decode cX2_survey 19 = .ok (.iload_n 2, 1) := by decide +kernel
theorem d_cX2_survey_20 : decode cX2_survey 20 = .ok (.aload_n 0, 1) := by decide +kernel
theorem d_cX2_survey_21 : decode cX2_survey 21 = .ok (.getfield 12, 3) := by decide +kernel
theorem d_cX2_survey_24 : decode cX2_survey 24 = .ok (.getfield 102, 3) := by decide +kernel
theorem d_cX2_survey_27 : decode cX2_survey 27 = .ok (.iload_n 2, 1) := by decide +kernel
theorem d_cX2_survey_28 : decode cX2_survey 28 = .ok (.invokevirtual 106, 3) := by decide +kernel
theorem d_cX2_survey_31 : decode cX2_survey 31 = .ok (.iastore, 1) := by decide +kernel
theorem d_cX2_survey_32 : decode cX2_survey 32 = .ok (.iinc 2 1, 3) := by decide +kernel
theorem d_cX2_survey_35 : decode cX2_survey 35 = .ok (.goto (-28), 3) := by decide +kernel
theorem d_cX2_survey_38 : decode cX2_survey 38 = .ok (.aload_n 0, 1) := by decide +kernel
theorem d_cX2_survey_39 : decode cX2_survey 39 = .ok (.getfield 12, 3) := by decide +kernel
theorem d_cX2_survey_42 : decode cX2_survey 42 = .ok (.aload_n 0, 1) := by decide +kernel
theorem d_cX2_survey_43 : decode cX2_survey 43 = .ok (.getfield 48, 3) := by decide +kernel
theorem d_cX2_survey_46 : decode cX2_survey 46 = .ok (.aload_n 0, 1) := by decide +kernel
theorem d_cX2_survey_47 : decode cX2_survey 47 = .ok (.getfield 111, 3) := by decide +kernel
theorem d_cX2_survey_50 : decode cX2_survey 50 = .ok (.iconst 0, 1) := by decide +kernel
theorem d_cX2_survey_51 : decode cX2_survey 51 = .ok (.invokevirtual 114, 3) := by decide +kernel
theorem d_cX2_survey_54 : decode cX2_survey 54 = .ok (.aload_n 0, 1) := by decide +kernel
theorem d_cX2_survey_55 : decode cX2_survey 55 = .ok (.getfield 23, 3) := by decide +kernel
theorem d_cX2_survey_58 : decode cX2_survey 58 = .ok (.aload_n 0, 1) := by decide +kernel
theorem d_cX2_survey_59 : decode cX2_survey 59 = .ok (.getfield 48, 3) := by decide +kernel
theorem d_cX2_survey_62 : decode cX2_survey 62 = .ok (.aload_n 0, 1) := by decide +kernel
theorem d_cX2_survey_63 : decode cX2_survey 63 = .ok (.getfield 55, 3) := by decide +kernel
theorem d_cX2_survey_66 : decode cX2_survey 66 = .ok (.invokevirtual 118, 3) := by decide +kernel
theorem d_cX2_survey_69 : decode cX2_survey 69 = .ok (.iconst 0, 1) := by decide +kernel
theorem d_cX2_survey_70 : decode cX2_survey 70 = .ok (.istore_n 2, 1) := by decide +kernel
theorem d_cX2_survey_71 : decode cX2_survey 71 = .ok (.iload_n 2, 1) := by decide +kernel
theorem d_cX2_survey_72 : decode cX2_survey 72 = .ok (.bipush 100, 2) := by decide +kernel
theorem d_cX2_survey_74 : decode cX2_survey 74 = .ok (.if_icmp .ge 53, 3) := by decide +kernel
theorem d_cX2_survey_77 : decode cX2_survey 77 = .ok (.aload_n 0, 1) := by decide +kernel
theorem d_cX2_survey_78 : decode cX2_survey 78 = .ok (.getfield 27, 3) := by decide +kernel
theorem d_cX2_survey_81 : decode cX2_survey 81 = .ok (.iload_n 2, 1) := by decide +kernel
theorem d_cX2_survey_82 : decode cX2_survey 82 = .ok (.aload_n 0, 1) := by decide +kernel
theorem d_cX2_survey_83 : decode cX2_survey 83 = .ok (.getfield 23, 3) := by decide +kernel
theorem d_cX2_survey_86 : decode cX2_survey 86 = .ok (.iload_n 2, 1) := by decide +kernel
theorem d_cX2_survey_87 : decode cX2_survey 87 = .ok (.invokevirtual 122, 3) := by decide +kernel
theorem d_cX2_survey_90 : decode cX2_survey 90 = .ok (.iastore, 1) := by decide +kernel
theorem d_cX2_survey_91 : decode cX2_survey 91 = .ok (.aload_n 0, 1) := by decide +kernel
theorem d_cX2_survey_92 : decode cX2_survey 92 = .ok (.getfield 31, 3) := by decide +kernel
theorem d_cX2_survey_95 : decode cX2_survey 95 = .ok (.iload_n 2, 1) := by decide +kernel
theorem d_cX2_survey_96 : decode cX2_survey 96 = .ok (.aload_n 0, 1) := by decide +kernel
theorem d_cX2_survey_97 : decode cX2_survey 97 = .ok (.getfield 12, 3) := by decide +kernel
theorem d_cX2_survey_100 : decode cX2_survey 100 = .ok (.iload_n 2, 1) := by decide +kernel
theorem d_cX2_survey_101 : decode cX2_survey 101 = .ok (.invokevirtual 125, 3) := by decide +kernel
theorem d_cX2_survey_104 : decode cX2_survey 104 = .ok (.ifCond .eq 15, 3) := by decide +kernel
theorem d_cX2_survey_107 : decode cX2_survey 107 = .ok (.aload_n 0, 1) := by decide +kernel
theorem d_cX2_survey_108 : decode cX2_survey 108 = .ok (.getfield 12, 3) := by decide +kernel
theorem d_cX2_survey_111 : decode cX2_survey 111 = .ok (.getfield 129, 3) := by decide +kernel
theorem d_cX2_survey_114 : decode cX2_survey 114 = .ok (.iload_n 2, 1) := by decide +kernel
theorem d_cX2_survey_115 : decode cX2_survey 115 = .ok (.iaload, 1) := by decide +kernel
theorem d_cX2_survey_116 : decode cX2_survey 116 = .ok (.goto 4, 3) := by decide +kernel
theorem d_cX2_survey_119 : decode cX2_survey 119 = .ok (.iconst (-1), 1) := by decide +kernel
theorem d_cX2_survey_120 : decode cX2_survey 120 = .ok (.iastore, 1) := by decide +kernel
theorem d_cX2_survey_121 : decode cX2_survey 121 = .ok (.iinc 2 1, 3) := by decide +kernel
theorem d_cX2_survey_124 : decode cX2_survey 124 = .ok (.goto (-53), 3) := by decide +kernel
theorem d_cX2_survey_127 : decode cX2_survey 127 = .ok (.return_, 1) := by decide +kernel
theorem d_cX3_areJoined_0 : decode cX3_areJoined 0 = .ok (.iload_n 1, 1) := by decide +kernel
theorem d_cX3_areJoined_1 : decode cX3_areJoined 1 = .ok (.ifCond .lt 52, 3) := by decide +kernel
theorem d_cX3_areJoined_4 : decode cX3_areJoined 4 = .ok (.iload_n 1, 1) := by decide +kernel
theorem d_cX3_areJoined_5 : decode cX3_areJoined 5 = .ok (.aload_n 0, 1) := by decide +kernel
theorem d_cX3_areJoined_6 : decode cX3_areJoined 6 = .ok (.getfield 37, 3) := by decide +kernel
theorem d_cX3_areJoined_9 : decode cX3_areJoined 9 = .ok (.if_icmp .ge 44, 3) := by decide +kernel
theorem d_cX3_areJoined_12 : decode cX3_areJoined 12 = .ok (.iload_n 2, 1) := by decide +kernel
theorem d_cX3_areJoined_13 : decode cX3_areJoined 13 = .ok (.ifCond .lt 40, 3) := by decide +kernel
theorem d_cX3_areJoined_16 : decode cX3_areJoined 16 = .ok (.iload_n 2, 1) := by decide +kernel
theorem d_cX3_areJoined_17 : decode cX3_areJoined 17 = .ok (.aload_n 0, 1) := by decide +kernel
theorem d_cX3_areJoined_18 : decode cX3_areJoined 18 = .ok (.getfield 37, 3) := by decide +kernel
theorem d_cX3_areJoined_21 : decode cX3_areJoined 21 = .ok (.if_icmp .ge 32, 3) := by decide +kernel
theorem d_cX3_areJoined_24 : decode cX3_areJoined 24 = .ok (.aload_n 0, 1) := by decide +kernel
theorem d_cX3_areJoined_25 : decode cX3_areJoined 25 = .ok (.getfield 18, 3) := by decide +kernel
theorem d_cX3_areJoined_28 : decode cX3_areJoined 28 = .ok (.iload_n 1, 1) := by decide +kernel
theorem d_cX3_areJoined_29 : decode cX3_areJoined 29 = .ok (.aload_n 0, 1) := by decide +kernel
theorem d_cX3_areJoined_30 : decode cX3_areJoined 30 = .ok (.getfield 41, 3) := by decide +kernel
theorem d_cX3_areJoined_33 : decode cX3_areJoined 33 = .ok (.imul, 1) := by decide +kernel
theorem d_cX3_areJoined_34 : decode cX3_areJoined 34 = .ok (.iload_n 2, 1) := by decide +kernel
theorem d_cX3_areJoined_35 : decode cX3_areJoined 35 = .ok (.bipush 6, 2) := by decide +kernel
theorem d_cX3_areJoined_37 : decode cX3_areJoined 37 = .ok (.ishr, 1) := by decide +kernel
theorem d_cX3_areJoined_38 : decode cX3_areJoined 38 = .ok (.iadd, 1) := by decide +kernel
theorem d_cX3_areJoined_39 : decode cX3_areJoined 39 = .ok (.laload, 1) := by decide +kernel
theorem d_cX3_areJoined_40 : decode cX3_areJoined 40 = .ok (.iload_n 2, 1) := by decide +kernel
theorem d_cX3_areJoined_41 : decode cX3_areJoined 41 = .ok (.lshr, 1) := by decide +kernel
theorem d_cX3_areJoined_42 : decode cX3_areJoined 42 = .ok (.lconst 1, 1) := by decide +kernel
theorem d_cX3_areJoined_43 : decode cX3_areJoined 43 = .ok (.land, 1) := by decide +kernel
theorem d_cX3_areJoined_44 : decode cX3_areJoined 44 = .ok (.lconst 0, 1) := by decide +kernel
theorem d_cX3_areJoined_45 : decode cX3_areJoined 45 = .ok (.lcmp, 1) := by decide +kernel
theorem d_cX3_areJoined_46 : decode cX3_areJoined 46 = .ok (.ifCond .eq 7, 3) := by decide +kernel
theorem d_cX3_areJoined_49 : decode cX3_areJoined 49 = .ok (.iconst 1, 1) := by decide +kernel
theorem d_cX3_areJoined_50 : decode cX3_areJoined 50 = .ok (.goto 4, 3) := by decide +kernel
theorem d_cX3_areJoined_53 : decode cX3_areJoined 53 = .ok (.iconst 0, 1) := by decide +kernel
theorem d_cX3_areJoined_54 : decode cX3_areJoined 54 = .ok (.ireturn, 1) := by decide +kernel
theorem d_cX3_bitsOf_0 : decode cX3_bitsOf 0 = .ok (.iconst 0, 1) := by decide +kernel
theorem d_cX3_bitsOf_1 : decode cX3_bitsOf 1 = .ok (.istore_n 2, 1) := by decide +kernel
theorem d_cX3_bitsOf_2 : decode cX3_bitsOf 2 = .ok (.iconst 0, 1) := by decide +kernel
theorem d_cX3_bitsOf_3 : decode cX3_bitsOf 3 = .ok (.istore_n 3, 1) := by decide +kernel
theorem d_cX3_bitsOf_4 : decode cX3_bitsOf 4 = .ok (.iload_n 3, 1) := by decide +kernel
theorem d_cX3_bitsOf_5 : decode cX3_bitsOf 5 = .ok (.aload_n 0, 1) := by decide +kernel
theorem d_cX3_bitsOf_6 : decode cX3_bitsOf 6 = .ok (.getfield 41, 3) := by decide +kernel
theorem d_cX3_bitsOf_9 : decode cX3_bitsOf 9 = .ok (.if_icmp .ge 28, 3) := by decide +kernel
theorem d_cX3_bitsOf_12 : decode cX3_bitsOf 12 = .ok (.iload_n 2, 1) := by decide +kernel
theorem d_cX3_bitsOf_13 : decode cX3_bitsOf 13 = .ok (.aload_n 0, 1) := by decide +kernel
theorem d_cX3_bitsOf_14 : decode cX3_bitsOf 14 = .ok (.getfield 18, 3) := by decide +kernel
theorem d_cX3_bitsOf_17 : decode cX3_bitsOf 17 = .ok (.iload_n 1, 1) := by decide +kernel
theorem d_cX3_bitsOf_18 : decode cX3_bitsOf 18 = .ok (.aload_n 0, 1) := by decide +kernel
theorem d_cX3_bitsOf_19 : decode cX3_bitsOf 19 = .ok (.getfield 41, 3) := by decide +kernel
theorem d_cX3_bitsOf_22 : decode cX3_bitsOf 22 = .ok (.imul, 1) := by decide +kernel
theorem d_cX3_bitsOf_23 : decode cX3_bitsOf 23 = .ok (.iload_n 3, 1) := by decide +kernel
theorem d_cX3_bitsOf_24 : decode cX3_bitsOf 24 = .ok (.iadd, 1) := by decide +kernel
theorem d_cX3_bitsOf_25 : decode cX3_bitsOf 25 = .ok (.laload, 1) := by decide +kernel
theorem d_cX3_bitsOf_26 : decode cX3_bitsOf 26 = .ok (.invokestatic 97, 3) := by decide +kernel
theorem d_cX3_bitsOf_29 : decode cX3_bitsOf 29 = .ok (.iadd, 1) := by decide +kernel
theorem d_cX3_bitsOf_30 : decode cX3_bitsOf 30 = .ok (.istore_n 2, 1) := by decide +kernel
theorem d_cX3_bitsOf_31 : decode cX3_bitsOf 31 = .ok (.iinc 3 1, 3) := by decide +kernel
theorem d_cX3_bitsOf_34 : decode cX3_bitsOf 34 = .ok (.goto (-30), 3) := by decide +kernel
theorem d_cX3_bitsOf_37 : decode cX3_bitsOf 37 = .ok (.iload_n 2, 1) := by decide +kernel
theorem d_cX3_bitsOf_38 : decode cX3_bitsOf 38 = .ok (.ireturn, 1) := by decide +kernel
theorem d_cX3_build_0 : decode cX3_build 0 = .ok (.aload_n 0, 1) := by decide +kernel
theorem d_cX3_build_1 : decode cX3_build 1 = .ok (.getfield 12, 3) := by decide +kernel
theorem d_cX3_build_4 : decode cX3_build 4 = .ok (.aload_n 1, 1) := by decide +kernel
theorem d_cX3_build_5 : decode cX3_build 5 = .ok (.iload_n 2, 1) := by decide +kernel
theorem d_cX3_build_6 : decode cX3_build 6 = .ok (.iload_n 3, 1) := by decide +kernel
theorem d_cX3_build_7 : decode cX3_build 7 = .ok (.invokevirtual 29, 3) := by decide +kernel
theorem d_cX3_build_10 : decode cX3_build 10 = .ok (.aload_n 0, 1) := by decide +kernel
theorem d_cX3_build_11 : decode cX3_build 11 = .ok (.aload_n 0, 1) := by decide +kernel
theorem d_cX3_build_12 : decode cX3_build 12 = .ok (.getfield 12, 3) := by decide +kernel
theorem d_cX3_build_15 : decode cX3_build 15 = .ok (.getfield 33, 3) := by decide +kernel
theorem d_cX3_build_18 : decode cX3_build 18 = .ok (.putfield 37, 3) := by decide +kernel
theorem d_cX3_build_21 : decode cX3_build 21 = .ok (.aload_n 0, 1) := by decide +kernel
theorem d_cX3_build_22 : decode cX3_build 22 = .ok (.aload_n 0, 1) := by decide +kernel
theorem d_cX3_build_23 : decode cX3_build 23 = .ok (.getfield 12, 3) := by decide +kernel
theorem d_cX3_build_26 : decode cX3_build 26 = .ok (.getfield 38, 3) := by decide +kernel
theorem d_cX3_build_29 : decode cX3_build 29 = .ok (.putfield 41, 3) := by decide +kernel
theorem d_cX3_build_32 : decode cX3_build 32 = .ok (.iconst 0, 1) := by decide +kernel
theorem d_cX3_build_33 : decode cX3_build 33 = .ok (.istore 4, 2) := by decide +kernel
theorem d_cX3_build_35 : decode cX3_build 35 = .ok (.iload 4, 2) := by decide +kernel
theorem d_cX3_build_37 : decode cX3_build 37 = .ok (.aload_n 0, 1) := by decide +kernel
theorem d_cX3_build_38 : decode cX3_build 38 = .ok (.getfield 37, 3) := by decide +kernel
theorem d_cX3_build_41 : decode cX3_build 41 = .ok (.aload_n 0, 1) := by decide +kernel
theorem d_cX3_build_42 : decode cX3_build 42 = .ok (.getfield 41, 3) := by decide +kernel
theorem d_cX3_build_45 : decode cX3_build 45 = .ok (.imul, 1) := by decide +kernel
theorem d_cX3_build_46 : decode cX3_build 46 = .ok (.if_icmp .ge 17, 3) := by decide +kernel
theorem d_cX3_build_49 : decode cX3_build 49 = .ok (.aload_n 0, 1) := by decide +kernel
theorem d_cX3_build_50 : decode cX3_build 50 = .ok (.getfield 18, 3) := by decide +kernel
theorem d_cX3_build_53 : decode cX3_build 53 = .ok (.iload 4, 2) := by decide +kernel
theorem d_cX3_build_55 : decode cX3_build 55 = .ok (.lconst 0, 1) := by decide +kernel
theorem d_cX3_build_56 : decode cX3_build 56 = .ok (.lastore, 1) := by decide +kernel
theorem d_cX3_build_57 : decode cX3_build 57 = .ok (.iinc 4 1, 3) := by decide +kernel
theorem d_cX3_build_60 : decode cX3_build 60 = .ok (.goto (-25), 3) := by decide +kernel
theorem d_cX3_build_63 : decode cX3_build 63 = .ok (.iconst 0, 1) := by decide +kernel
theorem d_cX3_build_64 : decode cX3_build 64 = .ok (.istore 4, 2) := by decide +kernel
theorem d_cX3_build_66 : decode cX3_build 66 = .ok (.iload 4, 2) := by decide +kernel
theorem d_cX3_build_68 : decode cX3_build 68 = .ok (.aload_n 0, 1) := by decide +kernel
theorem d_cX3_build_69 : decode cX3_build 69 = .ok (.getfield 41, 3) := by decide +kernel
theorem d_cX3_build_72 : decode cX3_build 72 = .ok (.if_icmp .ge 29, 3) := by decide +kernel
theorem d_cX3_build_75 : decode cX3_build 75 = .ok (.aload_n 0, 1) := by decide +kernel
theorem d_cX3_build_76 : decode cX3_build 76 = .ok (.getfield 22, 3) := by decide +kernel
theorem d_cX3_build_79 : decode cX3_build 79 = .ok (.iload 4, 2) := by decide +kernel
theorem d_cX3_build_81 : decode cX3_build 81 = .ok (.aload_n 0, 1) := by decide +kernel
theorem d_cX3_build_82 : decode cX3_build 82 = .ok (.getfield 12, 3) := by decide +kernel
theorem d_cX3_build_85 : decode cX3_build 85 = .ok (.iload 4, 2) := by decide +kernel
theorem d_cX3_build_87 : decode cX3_build 87 = .ok (.aload_n 1, 1) := by decide +kernel
theorem d_cX3_build_88 : decode cX3_build 88 = .ok (.getfield 42, 3) := by decide +kernel
theorem d_cX3_build_91 : decode cX3_build 91 = .ok (.invokevirtual 47, 3) := by decide +kernel
theorem d_cX3_build_94 : decode cX3_build 94 = .ok (.lastore, 1) := by decide +kernel
theorem d_cX3_build_95 : decode cX3_build 95 = .ok (.iinc 4 1, 3) := by decide +kernel
theorem d_cX3_build_98 : decode cX3_build 98 = .ok (.goto (-32), 3) := by decide +kernel
theorem d_cX3_build_101 : decode cX3_build 101 = .ok (.iconst 0, 1) := by decide +kernel
theorem d_cX3_build_102 : decode cX3_build 102 = .ok (.istore 4, 2) := by decide +kernel
theorem d_cX3_build_104 : decode cX3_build 104 = .ok (.iload 4, 2) := by decide +kernel
theorem d_cX3_build_106 : decode cX3_build 106 = .ok (.aload_n 1, 1) := by decide +kernel
theorem d_cX3_build_107 : decode cX3_build 107 = .ok (.getfield 42, 3) := by decide +kernel
theorem d_cX3_build_110 : decode cX3_build 110 = .ok (.if_icmp .ge 17, 3) := by decide +kernel
theorem d_cX3_build_113 : decode cX3_build 113 = .ok (.aload_n 0, 1) := by decide +kernel
theorem d_cX3_build_114 : decode cX3_build 114 = .ok (.aload_n 1, 1) := by decide +kernel
theorem d_cX3_build_115 : decode cX3_build 115 = .ok (.iload 4, 2) := by decide +kernel
theorem d_cX3_build_117 : decode cX3_build 117 = .ok (.iload_n 3, 1) := by decide +kernel
theorem d_cX3_build_118 : decode cX3_build 118 = .ok (.invokevirtual 50, 3) := by decide +kernel
theorem d_cX3_build_121 : decode cX3_build 121 = .ok (.iinc 4 1, 3) := by decide +kernel
theorem d_cX3_build_124 : decode cX3_build 124 = .ok (.goto (-20), 3) := by decide +kernel
theorem d_cX3_build_127 : decode cX3_build 127 = .ok (.iconst 0, 1) := by decide +kernel
theorem d_cX3_build_128 : decode cX3_build 128 = .ok (.istore 4, 2) := by decide +kernel
theorem d_cX3_build_130 : decode cX3_build 130 = .ok (.iload 4, 2) := by decide +kernel
theorem d_cX3_build_132 : decode cX3_build 132 = .ok (.aload_n 0, 1) := by decide +kernel
theorem d_cX3_build_133 : decode cX3_build 133 = .ok (.getfield 37, 3) := by decide +kernel
theorem d_cX3_build_136 : decode cX3_build 136 = .ok (.if_icmp .ge 22, 3) := by decide +kernel
theorem d_cX3_build_139 : decode cX3_build 139 = .ok (.aload_n 0, 1) := by decide +kernel
theorem d_cX3_build_140 : decode cX3_build 140 = .ok (.getfield 25, 3) := by decide +kernel
theorem d_cX3_build_143 : decode cX3_build 143 = .ok (.iload 4, 2) := by decide +kernel
theorem d_cX3_build_145 : decode cX3_build 145 = .ok (.aload_n 0, 1) := by decide +kernel
theorem d_cX3_build_146 : decode cX3_build 146 = .ok (.iload 4, 2) := by decide +kernel
theorem d_cX3_build_148 : decode cX3_build 148 = .ok (.invokevirtual 53, 3) := by decide +kernel
theorem d_cX3_build_151 : decode cX3_build 151 = .ok (.iastore, 1) := by decide +kernel
theorem d_cX3_build_152 : decode cX3_build 152 = .ok (.iinc 4 1, 3) := by decide +kernel
theorem d_cX3_build_155 : decode cX3_build 155 = .ok (.goto (-25), 3) := by decide +kernel
theorem d_cX3_build_158 : decode cX3_build 158 = .ok (.return_, 1) := by decide +kernel
theorem d_cX3_canBeOne_0 : decode cX3_canBeOne 0 = .ok (.iconst 0, 1) := by decide +kernel
theorem d_cX3_canBeOne_1 : decode cX3_canBeOne 1 = .ok (.istore 4, 2) := by decide +kernel
theorem d_cX3_canBeOne_3 : decode cX3_canBeOne 3 = .ok (.iconst 0, 1) := by decide +kernel
theorem d_cX3_canBeOne_4 : decode cX3_canBeOne 4 = .ok (.istore 5, 2) := by decide +kernel
theorem d_cX3_canBeOne_6 : decode cX3_canBeOne 6 = .ok (.iload 5, 2) := by decide +kernel
theorem d_cX3_canBeOne_8 : decode cX3_canBeOne 8 = .ok (.aload_n 0, 1) := by decide +kernel
theorem d_cX3_canBeOne_9 : decode cX3_canBeOne 9 = .ok (.getfield 41, 3) := by decide +kernel
theorem d_cX3_canBeOne_12 : decode cX3_canBeOne 12 = .ok (.if_icmp .ge 130, 3) := by decide +kernel
theorem d_cX3_canBeOne_15 : decode cX3_canBeOne 15 = .ok (.aload_n 0, 1) := by decide +kernel
theorem d_cX3_canBeOne_16 : decode cX3_canBeOne 16 = .ok (.getfield 18, 3) := by decide +kernel
theorem d_cX3_canBeOne_19 : decode cX3_canBeOne 19 = .ok (.iload_n 1, 1) := by decide +kernel
theorem d_cX3_canBeOne_20 : decode cX3_canBeOne 20 = .ok (.aload_n 0, 1) := by decide +kernel
theorem d_cX3_canBeOne_21 : decode cX3_canBeOne 21 = .ok (.getfield 41, 3) := by decide +kernel
theorem d_cX3_canBeOne_24 : decode cX3_canBeOne 24 = .ok (.imul, 1) := by decide +kernel
theorem d_cX3_canBeOne_25 : decode cX3_canBeOne 25 = .ok (.iload 5, 2) := by decide +kernel
theorem d_cX3_canBeOne_27 : decode cX3_canBeOne 27 = .ok (.iadd, 1) := by decide +kernel
theorem d_cX3_canBeOne_28 : decode cX3_canBeOne 28 = .ok (.laload, 1) := by decide +kernel
theorem d_cX3_canBeOne_29 : decode cX3_canBeOne 29 = .ok (.lstore 6, 2) := by decide +kernel
theorem d_cX3_canBeOne_31 : decode cX3_canBeOne 31 = .ok (.aload_n 0, 1) := by decide +kernel
theorem d_cX3_canBeOne_32 : decode cX3_canBeOne 32 = .ok (.getfield 18, 3) := by decide +kernel
theorem d_cX3_canBeOne_35 : decode cX3_canBeOne 35 = .ok (.iload_n 2, 1) := by decide +kernel
theorem d_cX3_canBeOne_36 : decode cX3_canBeOne 36 = .ok (.aload_n 0, 1) := by decide +kernel
theorem d_cX3_canBeOne_37 : decode cX3_canBeOne 37 = .ok (.getfield 41, 3) := by decide +kernel
theorem d_cX3_canBeOne_40 : decode cX3_canBeOne 40 = .ok (.imul, 1) := by decide +kernel
theorem d_cX3_canBeOne_41 : decode cX3_canBeOne 41 = .ok (.iload 5, 2) := by decide +kernel
theorem d_cX3_canBeOne_43 : decode cX3_canBeOne 43 = .ok (.iadd, 1) := by decide +kernel
theorem d_cX3_canBeOne_44 : decode cX3_canBeOne 44 = .ok (.laload, 1) := by decide +kernel
theorem d_cX3_canBeOne_45 : decode cX3_canBeOne 45 = .ok (.lstore 8, 2) := by decide +kernel
theorem d_cX3_canBeOne_47 : decode cX3_canBeOne 47 = .ok (.lload 6, 2) := by decide +kernel
theorem d_cX3_canBeOne_49 : decode cX3_canBeOne 49 = .ok (.lload 8, 2) := by decide +kernel
theorem d_cX3_canBeOne_51 : decode cX3_canBeOne 51 = .ok (.lor, 1) := by decide +kernel
theorem d_cX3_canBeOne_52 : decode cX3_canBeOne 52 = .ok (.lstore 10, 2) := by decide +kernel
theorem d_cX3_canBeOne_54 : decode cX3_canBeOne 54 = .ok (.iconst 0, 1) := by decide +kernel
theorem d_cX3_canBeOne_55 : decode cX3_canBeOne 55 = .ok (.istore 12, 2) := by decide +kernel
theorem d_cX3_canBeOne_57 : decode cX3_canBeOne 57 = .ok (.iload 12, 2) := by decide +kernel
theorem d_cX3_canBeOne_59 : decode cX3_canBeOne 59 = .ok (.bipush 64, 2) := by decide +kernel
theorem d_cX3_canBeOne_61 : decode cX3_canBeOne 61 = .ok (.if_icmp .ge 75, 3) := by decide +kernel
theorem d_cX3_canBeOne_64 : decode cX3_canBeOne 64 = .ok (.lload 10, 2) := by decide +kernel
theorem d_cX3_canBeOne_66 : decode cX3_canBeOne 66 = .ok (.lconst 0, 1) := by decide +kernel
theorem d_cX3_canBeOne_67 : decode cX3_canBeOne 67 = .ok (.lcmp, 1) := by decide +kernel
theorem d_cX3_canBeOne_68 : decode cX3_canBeOne 68 = .ok (.ifCond .eq 68, 3) := by decide +kernel
theorem d_cX3_canBeOne_71 : decode cX3_canBeOne 71 = .ok (.lload 10, 2) := by decide +kernel
theorem d_cX3_canBeOne_73 : decode cX3_canBeOne 73 = .ok (.invokestatic 93, 3) := by decide +kernel
theorem d_cX3_canBeOne_76 : decode cX3_canBeOne 76 = .ok (.istore 13, 2) := by decide +kernel
theorem d_cX3_canBeOne_78 : decode cX3_canBeOne 78 = .ok (.lload 10, 2) := by decide +kernel
theorem d_cX3_canBeOne_80 : decode cX3_canBeOne 80 = .ok (.lload 10, 2) := by decide +kernel
theorem d_cX3_canBeOne_82 : decode cX3_canBeOne 82 = .ok (.lconst 1, 1) := by decide +kernel
theorem d_cX3_canBeOne_83 : decode cX3_canBeOne 83 = .ok (.lsub, 1) := by decide +kernel
theorem d_cX3_canBeOne_84 : decode cX3_canBeOne 84 = .ok (.land, 1) := by decide +kernel
theorem d_cX3_canBeOne_85 : decode cX3_canBeOne 85 = .ok (.lstore 10, 2) := by decide +kernel
theorem d_cX3_canBeOne_87 : decode cX3_canBeOne 87 = .ok (.aload_n 0, 1) := by decide +kernel
theorem d_cX3_canBeOne_88 : decode cX3_canBeOne 88 = .ok (.getfield 25, 3) := by decide +kernel
theorem d_cX3_canBeOne_91 : decode cX3_canBeOne 91 = .ok (.iload 5, 2) := by decide +kernel
theorem d_cX3_canBeOne_93 : decode cX3_canBeOne 93 = .ok (.bipush 6, 2) := by decide +kernel
theorem d_cX3_canBeOne_95 : decode cX3_canBeOne 95 = .ok (.ishl, 1) := by decide +kernel
theorem d_cX3_canBeOne_96 : decode cX3_canBeOne 96 = .ok (.iload 13, 2) := by decide +kernel
theorem d_cX3_canBeOne_98 : decode cX3_canBeOne 98 = .ok (.ior, 1) := by decide +kernel
theorem d_cX3_canBeOne_99 : decode cX3_canBeOne 99 = .ok (.iaload, 1) := by decide +kernel
theorem d_cX3_canBeOne_100 : decode cX3_canBeOne 100 = .ok (.lload 6, 2) := by decide +kernel
theorem d_cX3_canBeOne_102 : decode cX3_canBeOne 102 = .ok (.lload 8, 2) := by decide +kernel
theorem d_cX3_canBeOne_104 : decode cX3_canBeOne 104 = .ok (.land, 1) := by decide +kernel
theorem d_cX3_canBeOne_105 : decode cX3_canBeOne 105 = .ok (.iload 13, 2) := by decide +kernel
theorem d_cX3_canBeOne_107 : decode cX3_canBeOne 107 = .ok (.lushr, 1) := by decide +kernel
theorem d_cX3_canBeOne_108 : decode cX3_canBeOne 108 = .ok (.lconst 1, 1) := by decide +kernel
theorem d_cX3_canBeOne_109 : decode cX3_canBeOne 109 = .ok (.land, 1) := by decide +kernel
theorem d_cX3_canBeOne_110 : decode cX3_canBeOne 110 = .ok (.l2i, 1) := by decide +kernel
theorem d_cX3_canBeOne_111 : decode cX3_canBeOne 111 = .ok (.isub, 1) := by decide +kernel
theorem d_cX3_canBeOne_112 : decode cX3_canBeOne 112 = .ok (.istore 14, 2) := by decide +kernel
theorem d_cX3_canBeOne_114 : decode cX3_canBeOne 114 = .ok (.iload 4, 2) := by decide +kernel
theorem d_cX3_canBeOne_116 : decode cX3_canBeOne 116 = .ok (.iload 14, 2) := by decide +kernel
theorem d_cX3_canBeOne_118 : decode cX3_canBeOne 118 = .ok (.iload_n 3, 1) := by decide +kernel
theorem d_cX3_canBeOne_119 : decode cX3_canBeOne 119 = .ok (.if_icmp .lt 7, 3) := by decide +kernel
theorem d_cX3_canBeOne_122 : decode cX3_canBeOne 122 = .ok (.iconst 1, 1) := by decide +kernel
theorem d_cX3_canBeOne_123 : decode cX3_canBeOne 123 = .ok (.goto 4, 3) := by decide +kernel
theorem d_cX3_canBeOne_126 : decode cX3_canBeOne 126 = .ok (.iconst 0, 1) := by decide +kernel
theorem d_cX3_canBeOne_127 : decode cX3_canBeOne 127 = .ok (.iadd, 1) := by decide +kernel
theorem d_cX3_canBeOne_128 : decode cX3_canBeOne 128 = .ok (.istore 4, 2) := by decide +kernel
theorem d_cX3_canBeOne_130 : decode cX3_canBeOne 130 = .ok (.iinc 12 1, 3) := by decide +kernel
theorem d_cX3_canBeOne_133 : decode cX3_canBeOne 133 = .ok (.goto (-76), 3) := by decide +kernel
theorem d_cX3_canBeOne_136 : decode cX3_canBeOne 136 = .ok (.iinc 5 1, 3) := by decide +kernel
theorem d_cX3_canBeOne_139 : decode cX3_canBeOne 139 = .ok (.goto (-133), 3) := by decide +kernel
theorem d_cX3_canBeOne_142 : decode cX3_canBeOne 142 = .ok (.iload 4, 2) := by decide +kernel
theorem d_cX3_canBeOne_144 : decode cX3_canBeOne 144 = .ok (.iload_n 3, 1) := by decide +kernel
theorem d_cX3_canBeOne_145 : decode cX3_canBeOne 145 = .ok (.if_icmp .ge 7, 3) := by decide +kernel
theorem d_cX3_canBeOne_148 : decode cX3_canBeOne 148 = .ok (.iconst 1, 1) := by decide +kernel
theorem d_cX3_canBeOne_149 : decode cX3_canBeOne 149 = .ok (.goto 4, 3) := by decide +kernel
theorem d_cX3_canBeOne_152 : decode cX3_canBeOne 152 = .ok (.iconst 0, 1) := by decide +kernel
theorem d_cX3_canBeOne_153 : decode cX3_canBeOne 153 = .ok (.ireturn, 1) := by decide +kernel
theorem d_cX3_joinBlock_0 : decode cX3_joinBlock 0 = .ok (.aload_n 0, 1) := by decide +kernel
theorem d_cX3_joinBlock_1 : decode cX3_joinBlock 1 = .ok (.getfield 12, 3) := by decide +kernel
theorem d_cX3_joinBlock_4 : decode cX3_joinBlock 4 = .ok (.aload_n 1, 1) := by decide +kernel
theorem d_cX3_joinBlock_5 : decode cX3_joinBlock 5 = .ok (.iload_n 2, 1) := by decide +kernel
theorem d_cX3_joinBlock_6 : decode cX3_joinBlock 6 = .ok (.invokevirtual 57, 3) := by decide +kernel
theorem d_cX3_joinBlock_9 : decode cX3_joinBlock 9 = .ok (.aload_n 1, 1) := by decide +kernel
theorem d_cX3_joinBlock_10 : decode cX3_joinBlock 10 = .ok (.iload_n 2, 1) := by decide +kernel
theorem d_cX3_joinBlock_11 : decode cX3_joinBlock 11 = .ok (.invokevirtual 61, 3) := by decide +kernel
theorem d_cX3_joinBlock_14 : decode cX3_joinBlock 14 = .ok (.iconst 1, 1) := by decide +kernel
theorem d_cX3_joinBlock_15 : decode cX3_joinBlock 15 = .ok (.isub, 1) := by decide +kernel
theorem d_cX3_joinBlock_16 : decode cX3_joinBlock 16 = .ok (.istore 4, 2) := by decide +kernel
theorem d_cX3_joinBlock_18 : decode cX3_joinBlock 18 = .ok (.iload 4, 2) := by decide +kernel
theorem d_cX3_joinBlock_20 : decode cX3_joinBlock 20 = .ok (.aload_n 1, 1) := by decide +kernel
theorem d_cX3_joinBlock_21 : decode cX3_joinBlock 21 = .ok (.getfield 64, 3) := by decide +kernel
theorem d_cX3_joinBlock_24 : decode cX3_joinBlock 24 = .ok (.iload_n 2, 1) := by decide +kernel
theorem d_cX3_joinBlock_25 : decode cX3_joinBlock 25 = .ok (.iaload, 1) := by decide +kernel
theorem d_cX3_joinBlock_26 : decode cX3_joinBlock 26 = .ok (.if_icmp .lt 71, 3) := by decide +kernel
theorem d_cX3_joinBlock_29 : decode cX3_joinBlock 29 = .ok (.aload_n 1, 1) := by decide +kernel
theorem d_cX3_joinBlock_30 : decode cX3_joinBlock 30 = .ok (.iload 4, 2) := by decide +kernel
theorem d_cX3_joinBlock_32 : decode cX3_joinBlock 32 = .ok (.iload_n 3, 1) := by decide +kernel
theorem d_cX3_joinBlock_33 : decode cX3_joinBlock 33 = .ok (.invokevirtual 67, 3) := by decide +kernel
theorem d_cX3_joinBlock_36 : decode cX3_joinBlock 36 = .ok (.istore 5, 2) := by decide +kernel
theorem d_cX3_joinBlock_38 : decode cX3_joinBlock 38 = .ok (.aload_n 0, 1) := by decide +kernel
theorem d_cX3_joinBlock_39 : decode cX3_joinBlock 39 = .ok (.getfield 12, 3) := by decide +kernel
theorem d_cX3_joinBlock_42 : decode cX3_joinBlock 42 = .ok (.iload 5, 2) := by decide +kernel
theorem d_cX3_joinBlock_44 : decode cX3_joinBlock 44 = .ok (.invokevirtual 71, 3) := by decide +kernel
theorem d_cX3_joinBlock_47 : decode cX3_joinBlock 47 = .ok (.ifCond .eq 34, 3) := by decide +kernel
theorem d_cX3_joinBlock_50 : decode cX3_joinBlock 50 = .ok (.aload_n 0, 1) := by decide +kernel
theorem d_cX3_joinBlock_51 : decode cX3_joinBlock 51 = .ok (.iload 5, 2) := by decide +kernel
theorem d_cX3_joinBlock_53 : decode cX3_joinBlock 53 = .ok (.iload_n 3, 1) := by decide +kernel
theorem d_cX3_joinBlock_54 : decode cX3_joinBlock 54 = .ok (.ifCond .ne 22, 3) := by decide +kernel
theorem d_cX3_joinBlock_57 : decode cX3_joinBlock 57 = .ok (.aload_n 1, 1) := by decide +kernel
theorem d_cX3_joinBlock_58 : decode cX3_joinBlock 58 = .ok (.iload 4, 2) := by decide +kernel
theorem d_cX3_joinBlock_60 : decode cX3_joinBlock 60 = .ok (.invokevirtual 75, 3) := by decide +kernel
theorem d_cX3_joinBlock_63 : decode cX3_joinBlock 63 = .ok (.ifCond .eq 13, 3) := by decide +kernel
theorem d_cX3_joinBlock_66 : decode cX3_joinBlock 66 = .ok (.aload_n 1, 1) := by decide +kernel
theorem d_cX3_joinBlock_67 : decode cX3_joinBlock 67 = .ok (.getfield 78, 3) := by decide +kernel
theorem d_cX3_joinBlock_70 : decode cX3_joinBlock 70 = .ok (.iload 4, 2) := by decide +kernel
theorem d_cX3_joinBlock_72 : decode cX3_joinBlock 72 = .ok (.iaload, 1) := by decide +kernel
theorem d_cX3_joinBlock_73 : decode cX3_joinBlock 73 = .ok (.goto 5, 3) := by decide +kernel
theorem d_cX3_joinBlock_76 : decode cX3_joinBlock 76 = .ok (.iload 5, 2) := by decide +kernel
theorem d_cX3_joinBlock_78 : decode cX3_joinBlock 78 = .ok (.invokevirtual 81, 3) := by decide +kernel
theorem d_cX3_joinBlock_81 : decode cX3_joinBlock 81 = .ok (.aload_n 0, 1) := by decide +kernel
theorem d_cX3_joinBlock_82 : decode cX3_joinBlock 82 = .ok (.getfield 12, 3) := by decide +kernel
theorem d_cX3_joinBlock_85 : decode cX3_joinBlock 85 = .ok (.aload_n 1, 1) := by decide +kernel
theorem d_cX3_joinBlock_86 : decode cX3_joinBlock 86 = .ok (.iload 4, 2) := by decide +kernel
theorem d_cX3_joinBlock_88 : decode cX3_joinBlock 88 = .ok (.invokevirtual 85, 3) := by decide +kernel
theorem d_cX3_joinBlock_91 : decode cX3_joinBlock 91 = .ok (.iinc 4 (-1), 3) := by decide +kernel
theorem d_cX3_joinBlock_94 : decode cX3_joinBlock 94 = .ok (.goto (-76), 3) := by decide +kernel
theorem d_cX3_joinBlock_97 : decode cX3_joinBlock 97 = .ok (.return_, 1) := by decide +kernel
theorem d_cX3_joinToLive_0 : decode cX3_joinToLive 0 = .ok (.iconst 0, 1) := by decide +kernel
theorem d_cX3_joinToLive_1 : decode cX3_joinToLive 1 = .ok (.istore_n 3, 1) := by decide +kernel
theorem d_cX3_joinToLive_2 : decode cX3_joinToLive 2 = .ok (.iload_n 3, 1) := by decide +kernel
theorem d_cX3_joinToLive_3 : decode cX3_joinToLive 3 = .ok (.aload_n 0, 1) := by decide +kernel
theorem d_cX3_joinToLive_4 : decode cX3_joinToLive 4 = .ok (.getfield 41, 3) := by decide +kernel
theorem d_cX3_joinToLive_7 : decode cX3_joinToLive 7 = .ok (.if_icmp .ge 137, 3) := by decide +kernel
theorem d_cX3_joinToLive_10 : decode cX3_joinToLive 10 = .ok (.aload_n 0, 1) := by decide +kernel
theorem d_cX3_joinToLive_11 : decode cX3_joinToLive 11 = .ok (.getfield 12, 3) := by decide +kernel
theorem d_cX3_joinToLive_14 : decode cX3_joinToLive 14 = .ok (.getfield 88, 3) := by decide +kernel
theorem d_cX3_joinToLive_17 : decode cX3_joinToLive 17 = .ok (.iload_n 3, 1) := by decide +kernel
theorem d_cX3_joinToLive_18 : decode cX3_joinToLive 18 = .ok (.laload, 1) := by decide +kernel
theorem d_cX3_joinToLive_19 : decode cX3_joinToLive 19 = .ok (.aload_n 0, 1) := by decide +kernel
theorem d_cX3_joinToLive_20 : decode cX3_joinToLive 20 = .ok (.getfield 18, 3) := by decide +kernel
theorem d_cX3_joinToLive_23 : decode cX3_joinToLive 23 = .ok (.iload_n 1, 1) := by decide +kernel
theorem d_cX3_joinToLive_24 : decode cX3_joinToLive 24 = .ok (.aload_n 0, 1) := by decide +kernel
theorem d_cX3_joinToLive_25 : decode cX3_joinToLive 25 = .ok (.getfield 41, 3) := by decide +kernel
theorem d_cX3_joinToLive_28 : decode cX3_joinToLive 28 = .ok (.imul, 1) := by decide +kernel
theorem d_cX3_joinToLive_29 : decode cX3_joinToLive 29 = .ok (.iload_n 3, 1) := by decide +kernel
theorem d_cX3_joinToLive_30 : decode cX3_joinToLive 30 = .ok (.iadd, 1) := by decide +kernel
theorem d_cX3_joinToLive_31 : decode cX3_joinToLive 31 = .ok (.laload, 1) := by decide +kernel
theorem d_cX3_joinToLive_32 : decode cX3_joinToLive 32 = .ok (.ldc2_w 91, 3) := by decide +kernel
theorem d_cX3_joinToLive_35 : decode cX3_joinToLive 35 = .ok (.lxor, 1) := by decide +kernel
theorem d_cX3_joinToLive_36 : decode cX3_joinToLive 36 = .ok (.land, 1) := by decide +kernel
theorem d_cX3_joinToLive_37 : decode cX3_joinToLive 37 = .ok (.lstore 4, 2) := by decide +kernel
theorem d_cX3_joinToLive_39 : decode cX3_joinToLive 39 = .ok (.iconst 0, 1) := by decide +kernel
theorem d_cX3_joinToLive_40 : decode cX3_joinToLive 40 = .ok (.istore 6, 2) := by decide +kernel
theorem d_cX3_joinToLive_42 : decode cX3_joinToLive 42 = .ok (.iload 6, 2) := by decide +kernel
theorem d_cX3_joinToLive_44 : decode cX3_joinToLive 44 = .ok (.bipush 64, 2) := by decide +kernel
theorem d_cX3_joinToLive_46 : decode cX3_joinToLive 46 = .ok (.if_icmp .ge 92, 3) := by decide +kernel
theorem d_cX3_joinToLive_49 : decode cX3_joinToLive 49 = .ok (.lload 4, 2) := by decide +kernel
theorem d_cX3_joinToLive_51 : decode cX3_joinToLive 51 = .ok (.lconst 0, 1) := by decide +kernel
theorem d_cX3_joinToLive_52 : decode cX3_joinToLive 52 = .ok (.lcmp, 1) := by decide +kernel
theorem d_cX3_joinToLive_53 : decode cX3_joinToLive 53 = .ok (.ifCond .eq 85, 3) := by decide +kernel
theorem d_cX3_joinToLive_56 : decode cX3_joinToLive 56 = .ok (.iload_n 3, 1) := by decide +kernel
theorem d_cX3_joinToLive_57 : decode cX3_joinToLive 57 = .ok (.bipush 6, 2) := by decide +kernel
theorem d_cX3_joinToLive_59 : decode cX3_joinToLive 59 = .ok (.ishl, 1) := by decide +kernel
theorem d_cX3_joinToLive_60 : decode cX3_joinToLive 60 = .ok (.lload 4, 2) := by decide +kernel
theorem d_cX3_joinToLive_62 : decode cX3_joinToLive 62 = .ok (.invokestatic 93, 3) := by decide +kernel
theorem d_cX3_joinToLive_65 : decode cX3_joinToLive 65 = .ok (.ior, 1) := by decide +kernel
theorem d_cX3_joinToLive_66 : decode cX3_joinToLive 66 = .ok (.istore 7, 2) := by decide +kernel
theorem d_cX3_joinToLive_68 : decode cX3_joinToLive 68 = .ok (.lload 4, 2) := by decide +kernel
theorem d_cX3_joinToLive_70 : decode cX3_joinToLive 70 = .ok (.lload 4, 2) := by decide +kernel
theorem d_cX3_joinToLive_72 : decode cX3_joinToLive 72 = .ok (.lconst 1, 1) := by decide +kernel
theorem d_cX3_joinToLive_73 : decode cX3_joinToLive 73 = .ok (.lsub, 1) := by decide +kernel
theorem d_cX3_joinToLive_74 : decode cX3_joinToLive 74 = .ok (.land, 1) := by decide +kernel
theorem d_cX3_joinToLive_75 : decode cX3_joinToLive 75 = .ok (.lstore 4, 2) := by decide +kernel
theorem d_cX3_joinToLive_77 : decode cX3_joinToLive 77 = .ok (.iload 7, 2) := by decide +kernel
theorem d_cX3_joinToLive_79 : decode cX3_joinToLive 79 = .ok (.iload_n 1, 1) := by decide +kernel
theorem d_cX3_joinToLive_80 : decode cX3_joinToLive 80 = .ok (.if_icmp .eq 52, 3) := by decide +kernel
theorem d_cX3_joinToLive_83 : decode cX3_joinToLive 83 = .ok (.iload 7, 2) := by decide +kernel
theorem d_cX3_joinToLive_85 : decode cX3_joinToLive 85 = .ok (.iload_n 2, 1) := by decide +kernel
theorem d_cX3_joinToLive_86 : decode cX3_joinToLive 86 = .ok (.if_icmp .eq 46, 3) := by decide +kernel
theorem d_cX3_joinToLive_89 : decode cX3_joinToLive 89 = .ok (.aload_n 0, 1) := by decide +kernel
theorem d_cX3_joinToLive_90 : decode cX3_joinToLive 90 = .ok (.getfield 18, 3) := by decide +kernel
theorem d_cX3_joinToLive_93 : decode cX3_joinToLive 93 = .ok (.iload_n 1, 1) := by decide +kernel
theorem d_cX3_joinToLive_94 : decode cX3_joinToLive 94 = .ok (.aload_n 0, 1) := by decide +kernel
theorem d_cX3_joinToLive_95 : decode cX3_joinToLive 95 = .ok (.getfield 41, 3) := by decide +kernel
theorem d_cX3_joinToLive_98 : decode cX3_joinToLive 98 = .ok (.imul, 1) := by decide +kernel
theorem d_cX3_joinToLive_99 : decode cX3_joinToLive 99 = .ok (.iload_n 3, 1) := by decide +kernel
theorem d_cX3_joinToLive_100 : decode cX3_joinToLive 100 = .ok (.iadd, 1) := by decide +kernel
theorem d_cX3_joinToLive_101 : decode cX3_joinToLive 101 = .ok (.dup2, 1) := by decide +kernel
theorem d_cX3_joinToLive_102 : decode cX3_joinToLive 102 = .ok (.laload, 1) := by decide +kernel
theorem d_cX3_joinToLive_103 : decode cX3_joinToLive 103 = .ok (.lconst 1, 1) := by decide +kernel
theorem d_cX3_joinToLive_104 : decode cX3_joinToLive 104 = .ok (.iload 7, 2) := by decide +kernel
theorem d_cX3_joinToLive_106 : decode cX3_joinToLive 106 = .ok (.lshl, 1) := by decide +kernel
theorem d_cX3_joinToLive_107 : decode cX3_joinToLive 107 = .ok (.lor, 1) := by decide +kernel
theorem d_cX3_joinToLive_108 : decode cX3_joinToLive 108 = .ok (.lastore, 1) := by decide +kernel
theorem d_cX3_joinToLive_109 : decode cX3_joinToLive 109 = .ok (.aload_n 0, 1) := by decide +kernel
theorem d_cX3_joinToLive_110 : decode cX3_joinToLive 110 = .ok (.getfield 18, 3) := by decide +kernel
theorem d_cX3_joinToLive_113 : decode cX3_joinToLive 113 = .ok (.iload 7, 2) := by decide +kernel
theorem d_cX3_joinToLive_115 : decode cX3_joinToLive 115 = .ok (.aload_n 0, 1) := by decide +kernel
theorem d_cX3_joinToLive_116 : decode cX3_joinToLive 116 = .ok (.getfield 41, 3) := by decide +kernel
theorem d_cX3_joinToLive_119 : decode cX3_joinToLive 119 = .ok (.imul, 1) := by decide +kernel
theorem d_cX3_joinToLive_120 : decode cX3_joinToLive 120 = .ok (.iload_n 1, 1) := by decide +kernel
theorem d_cX3_joinToLive_121 : decode cX3_joinToLive 121 = .ok (.bipush 6, 2) := by decide +kernel
theorem d_cX3_joinToLive_123 : decode cX3_joinToLive 123 = .ok (.ishr, 1) := by decide +kernel
theorem d_cX3_joinToLive_124 : decode cX3_joinToLive 124 = .ok (.iadd, 1) := by decide +kernel
theorem d_cX3_joinToLive_125 : decode cX3_joinToLive 125 = .ok (.dup2, 1) := by decide +kernel
theorem d_cX3_joinToLive_126 : decode cX3_joinToLive 126 = .ok (.laload, 1) := by decide +kernel
theorem d_cX3_joinToLive_127 : decode cX3_joinToLive 127 = .ok (.lconst 1, 1) := by decide +kernel
theorem d_cX3_joinToLive_128 : decode cX3_joinToLive 128 = .ok (.iload_n 1, 1) := by decide +kernel
theorem d_cX3_joinToLive_129 : decode cX3_joinToLive 129 = .ok (.lshl, 1) := by decide +kernel
theorem d_cX3_joinToLive_130 : decode cX3_joinToLive 130 = .ok (.lor, 1) := by decide +kernel
theorem d_cX3_joinToLive_131 : decode cX3_joinToLive 131 = .ok (.lastore, 1) := by decide +kernel
theorem d_cX3_joinToLive_132 : decode cX3_joinToLive 132 = .ok (.iinc 6 1, 3) := by decide +kernel
theorem d_cX3_joinToLive_135 : decode cX3_joinToLive 135 = .ok (.goto (-93), 3) := by decide +kernel
theorem d_cX3_joinToLive_138 : decode cX3_joinToLive 138 = .ok (.iinc 3 1, 3) := by decide +kernel
theorem d_cX3_joinToLive_141 : decode cX3_joinToLive 141 = .ok (.goto (-139), 3) := by decide +kernel
theorem d_cX3_joinToLive_144 : decode cX3_joinToLive 144 = .ok (.return_, 1) := by decide +kernel
theorem d_cX3_stands_0 : decode cX3_stands 0 = .ok (.iload_n 1, 1) := by decide +kernel
theorem d_cX3_stands_1 : decode cX3_stands 1 = .ok (.ifCond .lt 33, 3) := by decide +kernel
theorem d_cX3_stands_4 : decode cX3_stands 4 = .ok (.iload_n 1, 1) := by decide +kernel
theorem d_cX3_stands_5 : decode cX3_stands 5 = .ok (.aload_n 0, 1) := by decide +kernel
theorem d_cX3_stands_6 : decode cX3_stands 6 = .ok (.getfield 37, 3) := by decide +kernel
theorem d_cX3_stands_9 : decode cX3_stands 9 = .ok (.if_icmp .ge 25, 3) := by decide +kernel
theorem d_cX3_stands_12 : decode cX3_stands 12 = .ok (.aload_n 0, 1) := by decide +kernel
theorem d_cX3_stands_13 : decode cX3_stands 13 = .ok (.getfield 22, 3) := by decide +kernel
theorem d_cX3_stands_16 : decode cX3_stands 16 = .ok (.iload_n 1, 1) := by decide +kernel
theorem d_cX3_stands_17 : decode cX3_stands 17 = .ok (.bipush 6, 2) := by decide +kernel
theorem d_cX3_stands_19 : decode cX3_stands 19 = .ok (.ishr, 1) := by decide +kernel
theorem d_cX3_stands_20 : decode cX3_stands 20 = .ok (.laload, 1) := by decide +kernel
theorem d_cX3_stands_21 : decode cX3_stands 21 = .ok (.iload_n 1, 1) := by decide +kernel
theorem d_cX3_stands_22 : decode cX3_stands 22 = .ok (.lshr, 1) := by decide +kernel
theorem d_cX3_stands_23 : decode cX3_stands 23 = .ok (.lconst 1, 1) := by decide +kernel
theorem d_cX3_stands_24 : decode cX3_stands 24 = .ok (.land, 1) := by decide +kernel
theorem d_cX3_stands_25 : decode cX3_stands 25 = .ok (.lconst 0, 1) := by decide +kernel
theorem d_cX3_stands_26 : decode cX3_stands 26 = .ok (.lcmp, 1) := by decide +kernel
theorem d_cX3_stands_27 : decode cX3_stands 27 = .ok (.ifCond .eq 7, 3) := by decide +kernel
theorem d_cX3_stands_30 : decode cX3_stands 30 = .ok (.iconst 1, 1) := by decide +kernel
theorem d_cX3_stands_31 : decode cX3_stands 31 = .ok (.goto 4, 3) := by decide +kernel
theorem d_cX3_stands_34 : decode cX3_stands 34 = .ok (.iconst 0, 1) := by decide +kernel
theorem d_cX3_stands_35 : decode cX3_stands 35 = .ok (.ireturn, 1) := by decide +kernel
theorem d_cX5_enterBehind_0 : decode cX5_enterBehind 0 = .ok (.aload_n 1, 1) := by decide +kernel
theorem d_cX5_enterBehind_1 : decode cX5_enterBehind 1 = .ok (.getfield 88, 3) := by decide +kernel
theorem d_cX5_enterBehind_4 : decode cX5_enterBehind 4 = .ok (.iload_n 2, 1) := by decide +kernel
theorem d_cX5_enterBehind_5 : decode cX5_enterBehind 5 = .ok (.iaload, 1) := by decide +kernel
theorem d_cX5_enterBehind_6 : decode cX5_enterBehind 6 = .ok (.istore_n 3, 1) := by decide +kernel
theorem d_cX5_enterBehind_7 : decode cX5_enterBehind 7 = .ok (.aload_n 1, 1) := by decide +kernel
theorem d_cX5_enterBehind_8 : decode cX5_enterBehind 8 = .ok (.getfield 91, 3) := by decide +kernel
theorem d_cX5_enterBehind_11 : decode cX5_enterBehind 11 = .ok (.iload_n 2, 1) := by decide +kernel
theorem d_cX5_enterBehind_12 : decode cX5_enterBehind 12 = .ok (.iaload, 1) := by decide +kernel
theorem d_cX5_enterBehind_13 : decode cX5_enterBehind 13 = .ok (.istore 4, 2) := by decide +kernel
theorem d_cX5_enterBehind_15 : decode cX5_enterBehind 15 = .ok (.iconst 0, 1) := by decide +kernel
theorem d_cX5_enterBehind_16 : decode cX5_enterBehind 16 = .ok (.istore 5, 2) := by decide +kernel
theorem d_cX5_enterBehind_18 : decode cX5_enterBehind 18 = .ok (.iload 5, 2) := by decide +kernel
theorem d_cX5_enterBehind_20 : decode cX5_enterBehind 20 = .ok (.aload_n 0, 1) := by decide +kernel
theorem d_cX5_enterBehind_21 : decode cX5_enterBehind 21 = .ok (.getfield 37, 3) := by decide +kernel
theorem d_cX5_enterBehind_24 : decode cX5_enterBehind 24 = .ok (.if_icmp .ge 85, 3) := by decide +kernel
theorem d_cX5_enterBehind_27 : decode cX5_enterBehind 27 = .ok (.iload_n 3, 1) := by decide +kernel
theorem d_cX5_enterBehind_28 : decode cX5_enterBehind 28 = .ok (.ifCond .lt 28, 3) := by decide +kernel
theorem d_cX5_enterBehind_31 : decode cX5_enterBehind 31 = .ok (.iload_n 3, 1) := by decide +kernel
theorem d_cX5_enterBehind_32 : decode cX5_enterBehind 32 = .ok (.aload_n 1, 1) := by decide +kernel
theorem d_cX5_enterBehind_33 : decode cX5_enterBehind 33 = .ok (.getfield 44, 3) := by decide +kernel
theorem d_cX5_enterBehind_36 : decode cX5_enterBehind 36 = .ok (.if_icmp .ge 20, 3) := by decide +kernel
theorem d_cX5_enterBehind_39 : decode cX5_enterBehind 39 = .ok (.aload_n 0, 1) := by decide +kernel
theorem d_cX5_enterBehind_40 : decode cX5_enterBehind 40 = .ok (.getfield 9, 3) := by decide +kernel
theorem d_cX5_enterBehind_43 : decode cX5_enterBehind 43 = .ok (.iload_n 3, 1) := by decide +kernel
theorem d_cX5_enterBehind_44 : decode cX5_enterBehind 44 = .ok (.aload_n 0, 1) := by decide +kernel
theorem d_cX5_enterBehind_45 : decode cX5_enterBehind 45 = .ok (.getfield 37, 3) := by decide +kernel
theorem d_cX5_enterBehind_48 : decode cX5_enterBehind 48 = .ok (.imul, 1) := by decide +kernel
theorem d_cX5_enterBehind_49 : decode cX5_enterBehind 49 = .ok (.iload 5, 2) := by decide +kernel
theorem d_cX5_enterBehind_51 : decode cX5_enterBehind 51 = .ok (.iadd, 1) := by decide +kernel
theorem d_cX5_enterBehind_52 : decode cX5_enterBehind 52 = .ok (.laload, 1) := by decide +kernel
theorem d_cX5_enterBehind_53 : decode cX5_enterBehind 53 = .ok (.goto 4, 3) := by decide +kernel
theorem d_cX5_enterBehind_56 : decode cX5_enterBehind 56 = .ok (.lconst 0, 1) := by decide +kernel
theorem d_cX5_enterBehind_57 : decode cX5_enterBehind 57 = .ok (.lstore 6, 2) := by decide +kernel
theorem d_cX5_enterBehind_59 : decode cX5_enterBehind 59 = .ok (.aload_n 0, 1) := by decide +kernel
theorem d_cX5_enterBehind_60 : decode cX5_enterBehind 60 = .ok (.getfield 21, 3) := by decide +kernel
theorem d_cX5_enterBehind_63 : decode cX5_enterBehind 63 = .ok (.iload 5, 2) := by decide +kernel
theorem d_cX5_enterBehind_65 : decode cX5_enterBehind 65 = .ok (.iload 4, 2) := by decide +kernel
theorem d_cX5_enterBehind_67 : decode cX5_enterBehind 67 = .ok (.ifCond .lt 33, 3) := by decide +kernel
theorem d_cX5_enterBehind_70 : decode cX5_enterBehind 70 = .ok (.iload 4, 2) := by decide +kernel
theorem d_cX5_enterBehind_72 : decode cX5_enterBehind 72 = .ok (.aload_n 1, 1) := by decide +kernel
theorem d_cX5_enterBehind_73 : decode cX5_enterBehind 73 = .ok (.getfield 44, 3) := by decide +kernel
theorem d_cX5_enterBehind_76 : decode cX5_enterBehind 76 = .ok (.if_icmp .ge 24, 3) := by decide +kernel
theorem d_cX5_enterBehind_79 : decode cX5_enterBehind 79 = .ok (.lload 6, 2) := by decide +kernel
theorem d_cX5_enterBehind_81 : decode cX5_enterBehind 81 = .ok (.aload_n 0, 1) := by decide +kernel
theorem d_cX5_enterBehind_82 : decode cX5_enterBehind 82 = .ok (.getfield 9, 3) := by decide +kernel
theorem d_cX5_enterBehind_85 : decode cX5_enterBehind 85 = .ok (.iload 4, 2) := by decide +kernel
theorem d_cX5_enterBehind_87 : decode cX5_enterBehind 87 = .ok (.aload_n 0, 1) := by decide +kernel
theorem d_cX5_enterBehind_88 : decode cX5_enterBehind 88 = .ok (.getfield 37, 3) := by decide +kernel
theorem d_cX5_enterBehind_91 : decode cX5_enterBehind 91 = .ok (.imul, 1) := by decide +kernel
theorem d_cX5_enterBehind_92 : decode cX5_enterBehind 92 = .ok (.iload 5, 2) := by decide +kernel
theorem d_cX5_enterBehind_94 : decode cX5_enterBehind 94 = .ok (.iadd, 1) := by decide +kernel
theorem d_cX5_enterBehind_95 : decode cX5_enterBehind 95 = .ok (.laload, 1) := by decide +kernel
theorem d_cX5_enterBehind_96 : decode cX5_enterBehind 96 = .ok (.lor, 1) := by decide +kernel
theorem d_cX5_enterBehind_97 : decode cX5_enterBehind 97 = .ok (.goto 5, 3) := by decide +kernel
theorem d_cX5_enterBehind_100 : decode cX5_enterBehind 100 = .ok (.lload 6, 2) := by decide +kernel
theorem d_cX5_enterBehind_102 : decode cX5_enterBehind 102 = .ok (.lastore, 1) := by decide +kernel
theorem d_cX5_enterBehind_103 : decode cX5_enterBehind 103 = .ok (.iinc 5 1, 3) := by decide +kernel
theorem d_cX5_enterBehind_106 : decode cX5_enterBehind 106 = .ok (.goto (-88), 3) := by decide +kernel
theorem d_cX5_enterBehind_109 : decode cX5_enterBehind 109 = .ok (.return_, 1) := by decide +kernel
theorem d_cX5_gather_0 : decode cX5_gather 0 = .ok (.iload_n 2, 1) := by decide +kernel
theorem d_cX5_gather_1 : decode cX5_gather 1 = .ok (.aload_n 0, 1) := by decide +kernel
theorem d_cX5_gather_2 : decode cX5_gather 2 = .ok (.getfield 37, 3) := by decide +kernel
theorem d_cX5_gather_5 : decode cX5_gather 5 = .ok (.imul, 1) := by decide +kernel
theorem d_cX5_gather_6 : decode cX5_gather 6 = .ok (.istore_n 3, 1) := by decide +kernel
theorem d_cX5_gather_7 : decode cX5_gather 7 = .ok (.aload_n 1, 1) := by decide +kernel
theorem d_cX5_gather_8 : decode cX5_gather 8 = .ok (.getfield 57, 3) := by decide +kernel
theorem d_cX5_gather_11 : decode cX5_gather 11 = .ok (.iload_n 2, 1) := by decide +kernel
theorem d_cX5_gather_12 : decode cX5_gather 12 = .ok (.iaload, 1) := by decide +kernel
theorem d_cX5_gather_13 : decode cX5_gather 13 = .ok (.istore 4, 2) := by decide +kernel
theorem d_cX5_gather_15 : decode cX5_gather 15 = .ok (.iload 4, 2) := by decide +kernel
theorem d_cX5_gather_17 : decode cX5_gather 17 = .ok (.aload_n 1, 1) := by decide +kernel
theorem d_cX5_gather_18 : decode cX5_gather 18 = .ok (.iload_n 2, 1) := by decide +kernel
theorem d_cX5_gather_19 : decode cX5_gather 19 = .ok (.invokevirtual 61, 3) := by decide +kernel
theorem d_cX5_gather_22 : decode cX5_gather 22 = .ok (.if_icmp .ge 79, 3) := by decide +kernel
theorem d_cX5_gather_25 : decode cX5_gather 25 = .ok (.aload_n 0, 1) := by decide +kernel
theorem d_cX5_gather_26 : decode cX5_gather 26 = .ok (.iload_n 3, 1) := by decide +kernel
theorem d_cX5_gather_27 : decode cX5_gather 27 = .ok (.aload_n 1, 1) := by decide +kernel
theorem d_cX5_gather_28 : decode cX5_gather 28 = .ok (.iload 4, 2) := by decide +kernel
theorem d_cX5_gather_30 : decode cX5_gather 30 = .ok (.aload_n 0, 1) := by decide +kernel
theorem d_cX5_gather_31 : decode cX5_gather 31 = .ok (.getfield 40, 3) := by decide +kernel
theorem d_cX5_gather_34 : decode cX5_gather 34 = .ok (.invokevirtual 65, 3) := by decide +kernel
theorem d_cX5_gather_37 : decode cX5_gather 37 = .ok (.invokevirtual 69, 3) := by decide +kernel
theorem d_cX5_gather_40 : decode cX5_gather 40 = .ok (.aload_n 0, 1) := by decide +kernel
theorem d_cX5_gather_41 : decode cX5_gather 41 = .ok (.iload_n 3, 1) := by decide +kernel
theorem d_cX5_gather_42 : decode cX5_gather 42 = .ok (.aload_n 1, 1) := by decide +kernel
theorem d_cX5_gather_43 : decode cX5_gather 43 = .ok (.iload 4, 2) := by decide +kernel
theorem d_cX5_gather_45 : decode cX5_gather 45 = .ok (.aload_n 0, 1) := by decide +kernel
theorem d_cX5_gather_46 : decode cX5_gather 46 = .ok (.getfield 40, 3) := by decide +kernel
theorem d_cX5_gather_49 : decode cX5_gather 49 = .ok (.invokevirtual 73, 3) := by decide +kernel
theorem d_cX5_gather_52 : decode cX5_gather 52 = .ok (.invokevirtual 69, 3) := by decide +kernel
theorem d_cX5_gather_55 : decode cX5_gather 55 = .ok (.aload_n 1, 1) := by decide +kernel
theorem d_cX5_gather_56 : decode cX5_gather 56 = .ok (.iload 4, 2) := by decide +kernel
theorem d_cX5_gather_58 : decode cX5_gather 58 = .ok (.aload_n 0, 1) := by decide +kernel
theorem d_cX5_gather_59 : decode cX5_gather 59 = .ok (.getfield 40, 3) := by decide +kernel
theorem d_cX5_gather_62 : decode cX5_gather 62 = .ok (.invokevirtual 76, 3) := by decide +kernel
theorem d_cX5_gather_65 : decode cX5_gather 65 = .ok (.istore 5, 2) := by decide +kernel
theorem d_cX5_gather_67 : decode cX5_gather 67 = .ok (.aload_n 0, 1) := by decide +kernel
theorem d_cX5_gather_68 : decode cX5_gather 68 = .ok (.iload 5, 2) := by decide +kernel
theorem d_cX5_gather_70 : decode cX5_gather 70 = .ok (.invokevirtual 79, 3) := by decide +kernel
theorem d_cX5_gather_73 : decode cX5_gather 73 = .ok (.ifCond .eq 22, 3) := by decide +kernel
theorem d_cX5_gather_76 : decode cX5_gather 76 = .ok (.aload_n 0, 1) := by decide +kernel
theorem d_cX5_gather_77 : decode cX5_gather 77 = .ok (.getfield 18, 3) := by decide +kernel
theorem d_cX5_gather_80 : decode cX5_gather 80 = .ok (.iload_n 3, 1) := by decide +kernel
theorem d_cX5_gather_81 : decode cX5_gather 81 = .ok (.iload 5, 2) := by decide +kernel
theorem d_cX5_gather_83 : decode cX5_gather 83 = .ok (.bipush 6, 2) := by decide +kernel
theorem d_cX5_gather_85 : decode cX5_gather 85 = .ok (.ishr, 1) := by decide +kernel
theorem d_cX5_gather_86 : decode cX5_gather 86 = .ok (.iadd, 1) := by decide +kernel
theorem d_cX5_gather_87 : decode cX5_gather 87 = .ok (.dup2, 1) := by decide +kernel
theorem d_cX5_gather_88 : decode cX5_gather 88 = .ok (.laload, 1) := by decide +kernel
theorem d_cX5_gather_89 : decode cX5_gather 89 = .ok (.lconst 1, 1) := by decide +kernel
theorem d_cX5_gather_90 : decode cX5_gather 90 = .ok (.iload 5, 2) := by decide +kernel
theorem d_cX5_gather_92 : decode cX5_gather 92 = .ok (.lshl, 1) := by decide +kernel
theorem d_cX5_gather_93 : decode cX5_gather 93 = .ok (.lor, 1) := by decide +kernel
theorem d_cX5_gather_94 : decode cX5_gather 94 = .ok (.lastore, 1) := by decide +kernel
theorem d_cX5_gather_95 : decode cX5_gather 95 = .ok (.iinc 4 1, 3) := by decide +kernel
theorem d_cX5_gather_98 : decode cX5_gather 98 = .ok (.goto (-83), 3) := by decide +kernel
theorem d_cX5_gather_101 : decode cX5_gather 101 = .ok (.return_, 1) := by decide +kernel
theorem d_cX5_gatherUse_0 : decode cX5_gatherUse 0 = .ok (.iload_n 2, 1) := by decide +kernel
theorem d_cX5_gatherUse_1 : decode cX5_gatherUse 1 = .ok (.ifCond .lt 41, 3) := by decide +kernel
theorem d_cX5_gatherUse_4 : decode cX5_gatherUse 4 = .ok (.iload_n 2, 1) := by decide +kernel
theorem d_cX5_gatherUse_5 : decode cX5_gatherUse 5 = .ok (.aload_n 0, 1) := by decide +kernel
theorem d_cX5_gatherUse_6 : decode cX5_gatherUse 6 = .ok (.getfield 33, 3) := by decide +kernel
theorem d_cX5_gatherUse_9 : decode cX5_gatherUse 9 = .ok (.if_icmp .ge 33, 3) := by decide +kernel
theorem d_cX5_gatherUse_12 : decode cX5_gatherUse 12 = .ok (.iload_n 1, 1) := by decide +kernel
theorem d_cX5_gatherUse_13 : decode cX5_gatherUse 13 = .ok (.iload_n 2, 1) := by decide +kernel
theorem d_cX5_gatherUse_14 : decode cX5_gatherUse 14 = .ok (.bipush 6, 2) := by decide +kernel
theorem d_cX5_gatherUse_16 : decode cX5_gatherUse 16 = .ok (.ishr, 1) := by decide +kernel
theorem d_cX5_gatherUse_17 : decode cX5_gatherUse 17 = .ok (.iadd, 1) := by decide +kernel
theorem d_cX5_gatherUse_18 : decode cX5_gatherUse 18 = .ok (.istore_n 3, 1) := by decide +kernel
theorem d_cX5_gatherUse_19 : decode cX5_gatherUse 19 = .ok (.aload_n 0, 1) := by decide +kernel
theorem d_cX5_gatherUse_20 : decode cX5_gatherUse 20 = .ok (.getfield 15, 3) := by decide +kernel
theorem d_cX5_gatherUse_23 : decode cX5_gatherUse 23 = .ok (.iload_n 3, 1) := by decide +kernel
theorem d_cX5_gatherUse_24 : decode cX5_gatherUse 24 = .ok (.dup2, 1) := by decide +kernel
theorem d_cX5_gatherUse_25 : decode cX5_gatherUse 25 = .ok (.laload, 1) := by decide +kernel
theorem d_cX5_gatherUse_26 : decode cX5_gatherUse 26 = .ok (.lconst 1, 1) := by decide +kernel
theorem d_cX5_gatherUse_27 : decode cX5_gatherUse 27 = .ok (.iload_n 2, 1) := by decide +kernel
theorem d_cX5_gatherUse_28 : decode cX5_gatherUse 28 = .ok (.lshl, 1) := by decide +kernel
theorem d_cX5_gatherUse_29 : decode cX5_gatherUse 29 = .ok (.aload_n 0, 1) := by decide +kernel
theorem d_cX5_gatherUse_30 : decode cX5_gatherUse 30 = .ok (.getfield 18, 3) := by decide +kernel
theorem d_cX5_gatherUse_33 : decode cX5_gatherUse 33 = .ok (.iload_n 3, 1) := by decide +kernel
theorem d_cX5_gatherUse_34 : decode cX5_gatherUse 34 = .ok (.laload, 1) := by decide +kernel
theorem d_cX5_gatherUse_35 : decode cX5_gatherUse 35 = .ok (.ldc2_w 83, 3) := by decide +kernel
theorem d_cX5_gatherUse_38 : decode cX5_gatherUse 38 = .ok (.lxor, 1) := by decide +kernel
theorem d_cX5_gatherUse_39 : decode cX5_gatherUse 39 = .ok (.land, 1) := by decide +kernel
theorem d_cX5_gatherUse_40 : decode cX5_gatherUse 40 = .ok (.lor, 1) := by decide +kernel
theorem d_cX5_gatherUse_41 : decode cX5_gatherUse 41 = .ok (.lastore, 1) := by decide +kernel
theorem d_cX5_gatherUse_42 : decode cX5_gatherUse 42 = .ok (.return_, 1) := by decide +kernel
theorem d_cX5_isLiveBefore_0 : decode cX5_isLiveBefore 0 = .ok (.aload_n 0, 1) := by decide +kernel
theorem d_cX5_isLiveBefore_1 : decode cX5_isLiveBefore 1 = .ok (.iload_n 2, 1) := by decide +kernel
theorem d_cX5_isLiveBefore_2 : decode cX5_isLiveBefore 2 = .ok (.invokevirtual 79, 3) := by decide +kernel
theorem d_cX5_isLiveBefore_5 : decode cX5_isLiveBefore 5 = .ok (.ifCond .eq 42, 3) := by decide +kernel
theorem d_cX5_isLiveBefore_8 : decode cX5_isLiveBefore 8 = .ok (.iload_n 1, 1) := by decide +kernel
theorem d_cX5_isLiveBefore_9 : decode cX5_isLiveBefore 9 = .ok (.ifCond .lt 38, 3) := by decide +kernel
theorem d_cX5_isLiveBefore_12 : decode cX5_isLiveBefore 12 = .ok (.iload_n 1, 1) := by decide +kernel
theorem d_cX5_isLiveBefore_13 : decode cX5_isLiveBefore 13 = .ok (.bipush 40, 2) := by decide +kernel
theorem d_cX5_isLiveBefore_15 : decode cX5_isLiveBefore 15 = .ok (.if_icmp .ge 32, 3) := by decide +kernel
theorem d_cX5_isLiveBefore_18 : decode cX5_isLiveBefore 18 = .ok (.aload_n 0, 1) := by decide +kernel
theorem d_cX5_isLiveBefore_19 : decode cX5_isLiveBefore 19 = .ok (.getfield 9, 3) := by decide +kernel
theorem d_cX5_isLiveBefore_22 : decode cX5_isLiveBefore 22 = .ok (.iload_n 1, 1) := by decide +kernel
theorem d_cX5_isLiveBefore_23 : decode cX5_isLiveBefore 23 = .ok (.aload_n 0, 1) := by decide +kernel
theorem d_cX5_isLiveBefore_24 : decode cX5_isLiveBefore 24 = .ok (.getfield 37, 3) := by decide +kernel
theorem d_cX5_isLiveBefore_27 : decode cX5_isLiveBefore 27 = .ok (.imul, 1) := by decide +kernel
theorem d_cX5_isLiveBefore_28 : decode cX5_isLiveBefore 28 = .ok (.iload_n 2, 1) := by decide +kernel
theorem d_cX5_isLiveBefore_29 : decode cX5_isLiveBefore 29 = .ok (.bipush 6, 2) := by decide +kernel
theorem d_cX5_isLiveBefore_31 : decode cX5_isLiveBefore 31 = .ok (.ishr, 1) := by decide +kernel
theorem d_cX5_isLiveBefore_32 : decode cX5_isLiveBefore 32 = .ok (.iadd, 1) := by decide +kernel
theorem d_cX5_isLiveBefore_33 : decode cX5_isLiveBefore 33 = .ok (.laload, 1) := by decide +kernel
theorem d_cX5_isLiveBefore_34 : decode cX5_isLiveBefore 34 = .ok (.iload_n 2, 1) := by decide +kernel
theorem d_cX5_isLiveBefore_35 : decode cX5_isLiveBefore 35 = .ok (.lshr, 1) := by decide +kernel
theorem d_cX5_isLiveBefore_36 : decode cX5_isLiveBefore 36 = .ok (.lconst 1, 1) := by decide +kernel
theorem d_cX5_isLiveBefore_37 : decode cX5_isLiveBefore 37 = .ok (.land, 1) := by decide +kernel
theorem d_cX5_isLiveBefore_38 : decode cX5_isLiveBefore 38 = .ok (.lconst 0, 1) := by decide +kernel
theorem d_cX5_isLiveBefore_39 : decode cX5_isLiveBefore 39 = .ok (.lcmp, 1) := by decide +kernel
theorem d_cX5_isLiveBefore_40 : decode cX5_isLiveBefore 40 = .ok (.ifCond .eq 7, 3) := by decide +kernel
theorem d_cX5_isLiveBefore_43 : decode cX5_isLiveBefore 43 = .ok (.iconst 1, 1) := by decide +kernel
theorem d_cX5_isLiveBefore_44 : decode cX5_isLiveBefore 44 = .ok (.goto 4, 3) := by decide +kernel
theorem d_cX5_isLiveBefore_47 : decode cX5_isLiveBefore 47 = .ok (.iconst 0, 1) := by decide +kernel
theorem d_cX5_isLiveBefore_48 : decode cX5_isLiveBefore 48 = .ok (.ireturn, 1) := by decide +kernel
theorem d_cX5_isName_0 : decode cX5_isName 0 = .ok (.iload_n 1, 1) := by decide +kernel
theorem d_cX5_isName_1 : decode cX5_isName 1 = .ok (.ifCond .lt 15, 3) := by decide +kernel
theorem d_cX5_isName_4 : decode cX5_isName 4 = .ok (.iload_n 1, 1) := by decide +kernel
theorem d_cX5_isName_5 : decode cX5_isName 5 = .ok (.aload_n 0, 1) := by decide +kernel
theorem d_cX5_isName_6 : decode cX5_isName 6 = .ok (.getfield 33, 3) := by decide +kernel
theorem d_cX5_isName_9 : decode cX5_isName 9 = .ok (.if_icmp .ge 7, 3) := by decide +kernel
theorem d_cX5_isName_12 : decode cX5_isName 12 = .ok (.iconst 1, 1) := by decide +kernel
theorem d_cX5_isName_13 : decode cX5_isName 13 = .ok (.goto 4, 3) := by decide +kernel
theorem d_cX5_isName_16 : decode cX5_isName 16 = .ok (.iconst 0, 1) := by decide +kernel
theorem d_cX5_isName_17 : decode cX5_isName 17 = .ok (.ireturn, 1) := by decide +kernel
theorem d_cX5_liveBefore_0 : decode cX5_liveBefore 0 = .ok (.iconst 0, 1) := by decide +kernel
theorem d_cX5_liveBefore_1 : decode cX5_liveBefore 1 = .ok (.istore_n 2, 1) := by decide +kernel
theorem d_cX5_liveBefore_2 : decode cX5_liveBefore 2 = .ok (.iconst 0, 1) := by decide +kernel
theorem d_cX5_liveBefore_3 : decode cX5_liveBefore 3 = .ok (.istore_n 3, 1) := by decide +kernel
theorem d_cX5_liveBefore_4 : decode cX5_liveBefore 4 = .ok (.iload_n 3, 1) := by decide +kernel
theorem d_cX5_liveBefore_5 : decode cX5_liveBefore 5 = .ok (.aload_n 0, 1) := by decide +kernel
theorem d_cX5_liveBefore_6 : decode cX5_liveBefore 6 = .ok (.getfield 37, 3) := by decide +kernel
theorem d_cX5_liveBefore_9 : decode cX5_liveBefore 9 = .ok (.if_icmp .ge 28, 3) := by decide +kernel
theorem d_cX5_liveBefore_12 : decode cX5_liveBefore 12 = .ok (.iload_n 2, 1) := by decide +kernel
theorem d_cX5_liveBefore_13 : decode cX5_liveBefore 13 = .ok (.aload_n 0, 1) := by decide +kernel
theorem d_cX5_liveBefore_14 : decode cX5_liveBefore 14 = .ok (.getfield 9, 3) := by decide +kernel
theorem d_cX5_liveBefore_17 : decode cX5_liveBefore 17 = .ok (.iload_n 1, 1) := by decide +kernel
theorem d_cX5_liveBefore_18 : decode cX5_liveBefore 18 = .ok (.aload_n 0, 1) := by decide +kernel
theorem d_cX5_liveBefore_19 : decode cX5_liveBefore 19 = .ok (.getfield 37, 3) := by decide +kernel
theorem d_cX5_liveBefore_22 : decode cX5_liveBefore 22 = .ok (.imul, 1) := by decide +kernel
theorem d_cX5_liveBefore_23 : decode cX5_liveBefore 23 = .ok (.iload_n 3, 1) := by decide +kernel
theorem d_cX5_liveBefore_24 : decode cX5_liveBefore 24 = .ok (.iadd, 1) := by decide +kernel
theorem d_cX5_liveBefore_25 : decode cX5_liveBefore 25 = .ok (.laload, 1) := by decide +kernel
theorem d_cX5_liveBefore_26 : decode cX5_liveBefore 26 = .ok (.invokestatic 98, 3) := by decide +kernel
theorem d_cX5_liveBefore_29 : decode cX5_liveBefore 29 = .ok (.iadd, 1) := by decide +kernel
theorem d_cX5_liveBefore_30 : decode cX5_liveBefore 30 = .ok (.istore_n 2, 1) := by decide +kernel
theorem d_cX5_liveBefore_31 : decode cX5_liveBefore 31 = .ok (.iinc 3 1, 3) := by decide +kernel
theorem d_cX5_liveBefore_34 : decode cX5_liveBefore 34 = .ok (.goto (-30), 3) := by decide +kernel
theorem d_cX5_liveBefore_37 : decode cX5_liveBefore 37 = .ok (.iload_n 2, 1) := by decide +kernel
theorem d_cX5_liveBefore_38 : decode cX5_liveBefore 38 = .ok (.ireturn, 1) := by decide +kernel
theorem d_cX5_revive_0 : decode cX5_revive 0 = .ok (.iload_n 1, 1) := by decide +kernel
theorem d_cX5_revive_1 : decode cX5_revive 1 = .ok (.ifCond .lt 26, 3) := by decide +kernel
theorem d_cX5_revive_4 : decode cX5_revive 4 = .ok (.iload_n 1, 1) := by decide +kernel
theorem d_cX5_revive_5 : decode cX5_revive 5 = .ok (.aload_n 0, 1) := by decide +kernel
theorem d_cX5_revive_6 : decode cX5_revive 6 = .ok (.getfield 33, 3) := by decide +kernel
theorem d_cX5_revive_9 : decode cX5_revive 9 = .ok (.if_icmp .ge 18, 3) := by decide +kernel
theorem d_cX5_revive_12 : decode cX5_revive 12 = .ok (.aload_n 0, 1) := by decide +kernel
theorem d_cX5_revive_13 : decode cX5_revive 13 = .ok (.getfield 21, 3) := by decide +kernel
theorem d_cX5_revive_16 : decode cX5_revive 16 = .ok (.iload_n 1, 1) := by decide +kernel
theorem d_cX5_revive_17 : decode cX5_revive 17 = .ok (.bipush 6, 2) := by decide +kernel
theorem d_cX5_revive_19 : decode cX5_revive 19 = .ok (.ishr, 1) := by decide +kernel
theorem d_cX5_revive_20 : decode cX5_revive 20 = .ok (.dup2, 1) := by decide +kernel
theorem d_cX5_revive_21 : decode cX5_revive 21 = .ok (.laload, 1) := by decide +kernel
theorem d_cX5_revive_22 : decode cX5_revive 22 = .ok (.lconst 1, 1) := by decide +kernel
theorem d_cX5_revive_23 : decode cX5_revive 23 = .ok (.iload_n 1, 1) := by decide +kernel
theorem d_cX5_revive_24 : decode cX5_revive 24 = .ok (.lshl, 1) := by decide +kernel
theorem d_cX5_revive_25 : decode cX5_revive 25 = .ok (.lor, 1) := by decide +kernel
theorem d_cX5_revive_26 : decode cX5_revive 26 = .ok (.lastore, 1) := by decide +kernel
theorem d_cX5_revive_27 : decode cX5_revive 27 = .ok (.return_, 1) := by decide +kernel
theorem d_cX5_solve_0 : decode cX5_solve 0 = .ok (.aload_n 0, 1) := by decide +kernel
theorem d_cX5_solve_1 : decode cX5_solve 1 = .ok (.iconst 0, 1) := by decide +kernel
theorem d_cX5_solve_2 : decode cX5_solve 2 = .ok (.iload_n 2, 1) := by decide +kernel
theorem d_cX5_solve_3 : decode cX5_solve 3 = .ok (.sipush 720, 3) := by decide +kernel
theorem d_cX5_solve_6 : decode cX5_solve 6 = .ok (.invokestatic 24, 3) := by decide +kernel
theorem d_cX5_solve_9 : decode cX5_solve 9 = .ok (.invokestatic 30, 3) := by decide +kernel
theorem d_cX5_solve_12 : decode cX5_solve 12 = .ok (.putfield 33, 3) := by decide +kernel
theorem d_cX5_solve_15 : decode cX5_solve 15 = .ok (.aload_n 0, 1) := by decide +kernel
theorem d_cX5_solve_16 : decode cX5_solve 16 = .ok (.aload_n 0, 1) := by decide +kernel
theorem d_cX5_solve_17 : decode cX5_solve 17 = .ok (.getfield 33, 3) := by decide +kernel
theorem d_cX5_solve_20 : decode cX5_solve 20 = .ok (.bipush 63, 2) := by decide +kernel
theorem d_cX5_solve_22 : decode cX5_solve 22 = .ok (.iadd, 1) := by decide +kernel
theorem d_cX5_solve_23 : decode cX5_solve 23 = .ok (.bipush 6, 2) := by decide +kernel
theorem d_cX5_solve_25 : decode cX5_solve 25 = .ok (.ishr, 1) := by decide +kernel
theorem d_cX5_solve_26 : decode cX5_solve 26 = .ok (.putfield 37, 3) := by decide +kernel
theorem d_cX5_solve_29 : decode cX5_solve 29 = .ok (.aload_n 0, 1) := by decide +kernel
theorem d_cX5_solve_30 : decode cX5_solve 30 = .ok (.iload_n 3, 1) := by decide +kernel
theorem d_cX5_solve_31 : decode cX5_solve 31 = .ok (.putfield 40, 3) := by decide +kernel
theorem d_cX5_solve_34 : decode cX5_solve 34 = .ok (.iconst 0, 1) := by decide +kernel
theorem d_cX5_solve_35 : decode cX5_solve 35 = .ok (.istore 4, 2) := by decide +kernel
theorem d_cX5_solve_37 : decode cX5_solve 37 = .ok (.iload 4, 2) := by decide +kernel
theorem d_cX5_solve_39 : decode cX5_solve 39 = .ok (.aload_n 1, 1) := by decide +kernel
theorem d_cX5_solve_40 : decode cX5_solve 40 = .ok (.getfield 44, 3) := by decide +kernel
theorem d_cX5_solve_43 : decode cX5_solve 43 = .ok (.aload_n 0, 1) := by decide +kernel
theorem d_cX5_solve_44 : decode cX5_solve 44 = .ok (.getfield 37, 3) := by decide +kernel
theorem d_cX5_solve_47 : decode cX5_solve 47 = .ok (.imul, 1) := by decide +kernel
theorem d_cX5_solve_48 : decode cX5_solve 48 = .ok (.if_icmp .ge 33, 3) := by decide +kernel
theorem d_cX5_solve_51 : decode cX5_solve 51 = .ok (.aload_n 0, 1) := by decide +kernel
theorem d_cX5_solve_52 : decode cX5_solve 52 = .ok (.getfield 9, 3) := by decide +kernel
theorem d_cX5_solve_55 : decode cX5_solve 55 = .ok (.iload 4, 2) := by decide +kernel
theorem d_cX5_solve_57 : decode cX5_solve 57 = .ok (.lconst 0, 1) := by decide +kernel
theorem d_cX5_solve_58 : decode cX5_solve 58 = .ok (.lastore, 1) := by decide +kernel
theorem d_cX5_solve_59 : decode cX5_solve 59 = .ok (.aload_n 0, 1) := by decide +kernel
theorem d_cX5_solve_60 : decode cX5_solve 60 = .ok (.getfield 15, 3) := by decide +kernel
theorem d_cX5_solve_63 : decode cX5_solve 63 = .ok (.iload 4, 2) := by decide +kernel
theorem d_cX5_solve_65 : decode cX5_solve 65 = .ok (.lconst 0, 1) := by decide +kernel
theorem d_cX5_solve_66 : decode cX5_solve 66 = .ok (.lastore, 1) := by decide +kernel
theorem d_cX5_solve_67 : decode cX5_solve 67 = .ok (.aload_n 0, 1) := by decide +kernel
theorem d_cX5_solve_68 : decode cX5_solve 68 = .ok (.getfield 18, 3) := by decide +kernel
theorem d_cX5_solve_71 : decode cX5_solve 71 = .ok (.iload 4, 2) := by decide +kernel
theorem d_cX5_solve_73 : decode cX5_solve 73 = .ok (.lconst 0, 1) := by decide +kernel
theorem d_cX5_solve_74 : decode cX5_solve 74 = .ok (.lastore, 1) := by decide +kernel
theorem d_cX5_solve_75 : decode cX5_solve 75 = .ok (.iinc 4 1, 3) := by decide +kernel
theorem d_cX5_solve_78 : decode cX5_solve 78 = .ok (.goto (-41), 3) := by decide +kernel
theorem d_cX5_solve_81 : decode cX5_solve 81 = .ok (.iconst 0, 1) := by decide +kernel
theorem d_cX5_solve_82 : decode cX5_solve 82 = .ok (.istore 4, 2) := by decide +kernel
theorem d_cX5_solve_84 : decode cX5_solve 84 = .ok (.iload 4, 2) := by decide +kernel
theorem d_cX5_solve_86 : decode cX5_solve 86 = .ok (.aload_n 1, 1) := by decide +kernel
theorem d_cX5_solve_87 : decode cX5_solve 87 = .ok (.getfield 44, 3) := by decide +kernel
theorem d_cX5_solve_90 : decode cX5_solve 90 = .ok (.if_icmp .ge 16, 3) := by decide +kernel
theorem d_cX5_solve_93 : decode cX5_solve 93 = .ok (.aload_n 0, 1) := by decide +kernel
theorem d_cX5_solve_94 : decode cX5_solve 94 = .ok (.aload_n 1, 1) := by decide +kernel
theorem d_cX5_solve_95 : decode cX5_solve 95 = .ok (.iload 4, 2) := by decide +kernel
theorem d_cX5_solve_97 : decode cX5_solve 97 = .ok (.invokevirtual 49, 3) := by decide +kernel
theorem d_cX5_solve_100 : decode cX5_solve 100 = .ok (.iinc 4 1, 3) := by decide +kernel
theorem d_cX5_solve_103 : decode cX5_solve 103 = .ok (.goto (-19), 3) := by decide +kernel
theorem d_cX5_solve_106 : decode cX5_solve 106 = .ok (.iconst 1, 1) := by decide +kernel
theorem d_cX5_solve_107 : decode cX5_solve 107 = .ok (.istore 4, 2) := by decide +kernel
theorem d_cX5_solve_109 : decode cX5_solve 109 = .ok (.iconst 0, 1) := by decide +kernel
theorem d_cX5_solve_110 : decode cX5_solve 110 = .ok (.istore 5, 2) := by decide +kernel
theorem d_cX5_solve_112 : decode cX5_solve 112 = .ok (.iload 5, 2) := by decide +kernel
theorem d_cX5_solve_114 : decode cX5_solve 114 = .ok (.aload_n 1, 1) := by decide +kernel
theorem d_cX5_solve_115 : decode cX5_solve 115 = .ok (.getfield 44, 3) := by decide +kernel
theorem d_cX5_solve_118 : decode cX5_solve 118 = .ok (.if_icmp .gt 21, 3) := by decide +kernel
theorem d_cX5_solve_121 : decode cX5_solve 121 = .ok (.iload 4, 2) := by decide +kernel
theorem d_cX5_solve_123 : decode cX5_solve 123 = .ok (.ifCond .eq 16, 3) := by decide +kernel
theorem d_cX5_solve_126 : decode cX5_solve 126 = .ok (.aload_n 0, 1) := by decide +kernel
theorem d_cX5_solve_127 : decode cX5_solve 127 = .ok (.aload_n 1, 1) := by decide +kernel
theorem d_cX5_solve_128 : decode cX5_solve 128 = .ok (.invokevirtual 53, 3) := by decide +kernel
theorem d_cX5_solve_131 : decode cX5_solve 131 = .ok (.istore 4, 2) := by decide +kernel
theorem d_cX5_solve_133 : decode cX5_solve 133 = .ok (.iinc 5 1, 3) := by decide +kernel
theorem d_cX5_solve_136 : decode cX5_solve 136 = .ok (.goto (-24), 3) := by decide +kernel
theorem d_cX5_solve_139 : decode cX5_solve 139 = .ok (.return_, 1) := by decide +kernel
theorem d_cX5_standing_0 : decode cX5_standing 0 = .ok (.lconst 0, 1) := by decide +kernel
theorem d_cX5_standing_1 : decode cX5_standing 1 = .ok (.lstore_n 3, 1) := by decide +kernel
theorem d_cX5_standing_2 : decode cX5_standing 2 = .ok (.iconst 0, 1) := by decide +kernel
theorem d_cX5_standing_3 : decode cX5_standing 3 = .ok (.istore 5, 2) := by decide +kernel
theorem d_cX5_standing_5 : decode cX5_standing 5 = .ok (.iload 5, 2) := by decide +kernel
theorem d_cX5_standing_7 : decode cX5_standing 7 = .ok (.iload_n 2, 1) := by decide +kernel
theorem d_cX5_standing_8 : decode cX5_standing 8 = .ok (.if_icmp .ge 41, 3) := by decide +kernel
theorem d_cX5_standing_11 : decode cX5_standing 11 = .ok (.lload_n 3, 1) := by decide +kernel
theorem d_cX5_standing_12 : decode cX5_standing 12 = .ok (.aload_n 0, 1) := by decide +kernel
theorem d_cX5_standing_13 : decode cX5_standing 13 = .ok (.getfield 15, 3) := by decide +kernel
theorem d_cX5_standing_16 : decode cX5_standing 16 = .ok (.iload 5, 2) := by decide +kernel
theorem d_cX5_standing_18 : decode cX5_standing 18 = .ok (.aload_n 0, 1) := by decide +kernel
theorem d_cX5_standing_19 : decode cX5_standing 19 = .ok (.getfield 37, 3) := by decide +kernel
theorem d_cX5_standing_22 : decode cX5_standing 22 = .ok (.imul, 1) := by decide +kernel
theorem d_cX5_standing_23 : decode cX5_standing 23 = .ok (.iload_n 1, 1) := by decide +kernel
theorem d_cX5_standing_24 : decode cX5_standing 24 = .ok (.iadd, 1) := by decide +kernel
theorem d_cX5_standing_25 : decode cX5_standing 25 = .ok (.laload, 1) := by decide +kernel
theorem d_cX5_standing_26 : decode cX5_standing 26 = .ok (.aload_n 0, 1) := by decide +kernel
theorem d_cX5_standing_27 : decode cX5_standing 27 = .ok (.getfield 18, 3) := by decide +kernel
theorem d_cX5_standing_30 : decode cX5_standing 30 = .ok (.iload 5, 2) := by decide +kernel
theorem d_cX5_standing_32 : decode cX5_standing 32 = .ok (.aload_n 0, 1) := by decide +kernel
theorem d_cX5_standing_33 : decode cX5_standing 33 = .ok (.getfield 37, 3) := by decide +kernel
theorem d_cX5_standing_36 : decode cX5_standing 36 = .ok (.imul, 1) := by decide +kernel
theorem d_cX5_standing_37 : decode cX5_standing 37 = .ok (.iload_n 1, 1) := by decide +kernel
theorem d_cX5_standing_38 : decode cX5_standing 38 = .ok (.iadd, 1) := by decide +kernel
theorem d_cX5_standing_39 : decode cX5_standing 39 = .ok (.laload, 1) := by decide +kernel
theorem d_cX5_standing_40 : decode cX5_standing 40 = .ok (.lor, 1) := by decide +kernel
theorem d_cX5_standing_41 : decode cX5_standing 41 = .ok (.lor, 1) := by decide +kernel
theorem d_cX5_standing_42 : decode cX5_standing 42 = .ok (.lstore_n 3, 1) := by decide +kernel
theorem d_cX5_standing_43 : decode cX5_standing 43 = .ok (.iinc 5 1, 3) := by decide +kernel
theorem d_cX5_standing_46 : decode cX5_standing 46 = .ok (.goto (-41), 3) := by decide +kernel
theorem d_cX5_standing_49 : decode cX5_standing 49 = .ok (.lload_n 3, 1) := by decide +kernel
theorem d_cX5_standing_50 : decode cX5_standing 50 = .ok (.lreturn, 1) := by decide +kernel
theorem d_cX5_stepOver_0 : decode cX5_stepOver 0 = .ok (.aload_n 1, 1) := by decide +kernel
theorem d_cX5_stepOver_1 : decode cX5_stepOver 1 = .ok (.iload_n 2, 1) := by decide +kernel
theorem d_cX5_stepOver_2 : decode cX5_stepOver 2 = .ok (.aload_n 0, 1) := by decide +kernel
theorem d_cX5_stepOver_3 : decode cX5_stepOver 3 = .ok (.getfield 40, 3) := by decide +kernel
theorem d_cX5_stepOver_6 : decode cX5_stepOver 6 = .ok (.invokevirtual 76, 3) := by decide +kernel
theorem d_cX5_stepOver_9 : decode cX5_stepOver 9 = .ok (.istore_n 3, 1) := by decide +kernel
theorem d_cX5_stepOver_10 : decode cX5_stepOver 10 = .ok (.aload_n 0, 1) := by decide +kernel
theorem d_cX5_stepOver_11 : decode cX5_stepOver 11 = .ok (.iload_n 3, 1) := by decide +kernel
theorem d_cX5_stepOver_12 : decode cX5_stepOver 12 = .ok (.invokevirtual 79, 3) := by decide +kernel
theorem d_cX5_stepOver_15 : decode cX5_stepOver 15 = .ok (.ifCond .eq 22, 3) := by decide +kernel
theorem d_cX5_stepOver_18 : decode cX5_stepOver 18 = .ok (.aload_n 0, 1) := by decide +kernel
theorem d_cX5_stepOver_19 : decode cX5_stepOver 19 = .ok (.getfield 21, 3) := by decide +kernel
theorem d_cX5_stepOver_22 : decode cX5_stepOver 22 = .ok (.iload_n 3, 1) := by decide +kernel
theorem d_cX5_stepOver_23 : decode cX5_stepOver 23 = .ok (.bipush 6, 2) := by decide +kernel
theorem d_cX5_stepOver_25 : decode cX5_stepOver 25 = .ok (.ishr, 1) := by decide +kernel
theorem d_cX5_stepOver_26 : decode cX5_stepOver 26 = .ok (.dup2, 1) := by decide +kernel
theorem d_cX5_stepOver_27 : decode cX5_stepOver 27 = .ok (.laload, 1) := by decide +kernel
theorem d_cX5_stepOver_28 : decode cX5_stepOver 28 = .ok (.lconst 1, 1) := by decide +kernel
theorem d_cX5_stepOver_29 : decode cX5_stepOver 29 = .ok (.iload_n 3, 1) := by decide +kernel
theorem d_cX5_stepOver_30 : decode cX5_stepOver 30 = .ok (.lshl, 1) := by decide +kernel
theorem d_cX5_stepOver_31 : decode cX5_stepOver 31 = .ok (.ldc2_w 83, 3) := by decide +kernel
theorem d_cX5_stepOver_34 : decode cX5_stepOver 34 = .ok (.lxor, 1) := by decide +kernel
theorem d_cX5_stepOver_35 : decode cX5_stepOver 35 = .ok (.land, 1) := by decide +kernel
theorem d_cX5_stepOver_36 : decode cX5_stepOver 36 = .ok (.lastore, 1) := by decide +kernel
theorem d_cX5_stepOver_37 : decode cX5_stepOver 37 = .ok (.aload_n 0, 1) := by decide +kernel
theorem d_cX5_stepOver_38 : decode cX5_stepOver 38 = .ok (.aload_n 1, 1) := by decide +kernel
theorem d_cX5_stepOver_39 : decode cX5_stepOver 39 = .ok (.iload_n 2, 1) := by decide +kernel
theorem d_cX5_stepOver_40 : decode cX5_stepOver 40 = .ok (.aload_n 0, 1) := by decide +kernel
theorem d_cX5_stepOver_41 : decode cX5_stepOver 41 = .ok (.getfield 40, 3) := by decide +kernel
theorem d_cX5_stepOver_44 : decode cX5_stepOver 44 = .ok (.invokevirtual 65, 3) := by decide +kernel
theorem d_cX5_stepOver_47 : decode cX5_stepOver 47 = .ok (.invokevirtual 94, 3) := by decide +kernel
theorem d_cX5_stepOver_50 : decode cX5_stepOver 50 = .ok (.aload_n 0, 1) := by decide +kernel
theorem d_cX5_stepOver_51 : decode cX5_stepOver 51 = .ok (.aload_n 1, 1) := by decide +kernel
theorem d_cX5_stepOver_52 : decode cX5_stepOver 52 = .ok (.iload_n 2, 1) := by decide +kernel
theorem d_cX5_stepOver_53 : decode cX5_stepOver 53 = .ok (.aload_n 0, 1) := by decide +kernel
theorem d_cX5_stepOver_54 : decode cX5_stepOver 54 = .ok (.getfield 40, 3) := by decide +kernel
theorem d_cX5_stepOver_57 : decode cX5_stepOver 57 = .ok (.invokevirtual 73, 3) := by decide +kernel
theorem d_cX5_stepOver_60 : decode cX5_stepOver 60 = .ok (.invokevirtual 94, 3) := by decide +kernel
theorem d_cX5_stepOver_63 : decode cX5_stepOver 63 = .ok (.return_, 1) := by decide +kernel
theorem d_cX5_sweep_0 : decode cX5_sweep 0 = .ok (.iconst 0, 1) := by decide +kernel
theorem d_cX5_sweep_1 : decode cX5_sweep 1 = .ok (.istore_n 2, 1) := by decide +kernel
theorem d_cX5_sweep_2 : decode cX5_sweep 2 = .ok (.aload_n 1, 1) := by decide +kernel
theorem d_cX5_sweep_3 : decode cX5_sweep 3 = .ok (.getfield 44, 3) := by decide +kernel
theorem d_cX5_sweep_6 : decode cX5_sweep 6 = .ok (.iconst 1, 1) := by decide +kernel
theorem d_cX5_sweep_7 : decode cX5_sweep 7 = .ok (.isub, 1) := by decide +kernel
theorem d_cX5_sweep_8 : decode cX5_sweep 8 = .ok (.istore_n 3, 1) := by decide +kernel
theorem d_cX5_sweep_9 : decode cX5_sweep 9 = .ok (.iload_n 3, 1) := by decide +kernel
theorem d_cX5_sweep_10 : decode cX5_sweep 10 = .ok (.ifCond .lt 105, 3) := by decide +kernel
theorem d_cX5_sweep_13 : decode cX5_sweep 13 = .ok (.aload_n 0, 1) := by decide +kernel
theorem d_cX5_sweep_14 : decode cX5_sweep 14 = .ok (.aload_n 1, 1) := by decide +kernel
theorem d_cX5_sweep_15 : decode cX5_sweep 15 = .ok (.iload_n 3, 1) := by decide +kernel
theorem d_cX5_sweep_16 : decode cX5_sweep 16 = .ok (.invokevirtual 85, 3) := by decide +kernel
theorem d_cX5_sweep_19 : decode cX5_sweep 19 = .ok (.iconst 0, 1) := by decide +kernel
theorem d_cX5_sweep_20 : decode cX5_sweep 20 = .ok (.istore 4, 2) := by decide +kernel
theorem d_cX5_sweep_22 : decode cX5_sweep 22 = .ok (.iload 4, 2) := by decide +kernel
theorem d_cX5_sweep_24 : decode cX5_sweep 24 = .ok (.aload_n 0, 1) := by decide +kernel
theorem d_cX5_sweep_25 : decode cX5_sweep 25 = .ok (.getfield 37, 3) := by decide +kernel
theorem d_cX5_sweep_28 : decode cX5_sweep 28 = .ok (.if_icmp .ge 81, 3) := by decide +kernel
theorem d_cX5_sweep_31 : decode cX5_sweep 31 = .ok (.iload_n 3, 1) := by decide +kernel
theorem d_cX5_sweep_32 : decode cX5_sweep 32 = .ok (.aload_n 0, 1) := by decide +kernel
theorem d_cX5_sweep_33 : decode cX5_sweep 33 = .ok (.getfield 37, 3) := by decide +kernel
theorem d_cX5_sweep_36 : decode cX5_sweep 36 = .ok (.imul, 1) := by decide +kernel
theorem d_cX5_sweep_37 : decode cX5_sweep 37 = .ok (.iload 4, 2) := by decide +kernel
theorem d_cX5_sweep_39 : decode cX5_sweep 39 = .ok (.iadd, 1) := by decide +kernel
theorem d_cX5_sweep_40 : decode cX5_sweep 40 = .ok (.istore 5, 2) := by decide +kernel
theorem d_cX5_sweep_42 : decode cX5_sweep 42 = .ok (.aload_n 0, 1) := by decide +kernel
theorem d_cX5_sweep_43 : decode cX5_sweep 43 = .ok (.getfield 15, 3) := by decide +kernel
theorem d_cX5_sweep_46 : decode cX5_sweep 46 = .ok (.iload 5, 2) := by decide +kernel
theorem d_cX5_sweep_48 : decode cX5_sweep 48 = .ok (.laload, 1) := by decide +kernel
theorem d_cX5_sweep_49 : decode cX5_sweep 49 = .ok (.aload_n 0, 1) := by decide +kernel
theorem d_cX5_sweep_50 : decode cX5_sweep 50 = .ok (.getfield 21, 3) := by decide +kernel
theorem d_cX5_sweep_53 : decode cX5_sweep 53 = .ok (.iload 4, 2) := by decide +kernel
theorem d_cX5_sweep_55 : decode cX5_sweep 55 = .ok (.laload, 1) := by decide +kernel
theorem d_cX5_sweep_56 : decode cX5_sweep 56 = .ok (.aload_n 0, 1) := by decide +kernel
theorem d_cX5_sweep_57 : decode cX5_sweep 57 = .ok (.getfield 18, 3) := by decide +kernel
theorem d_cX5_sweep_60 : decode cX5_sweep 60 = .ok (.iload 5, 2) := by decide +kernel
theorem d_cX5_sweep_62 : decode cX5_sweep 62 = .ok (.laload, 1) := by decide +kernel
theorem d_cX5_sweep_63 : decode cX5_sweep 63 = .ok (.ldc2_w 83, 3) := by decide +kernel
theorem d_cX5_sweep_66 : decode cX5_sweep 66 = .ok (.lxor, 1) := by decide +kernel
theorem d_cX5_sweep_67 : decode cX5_sweep 67 = .ok (.land, 1) := by decide +kernel
theorem d_cX5_sweep_68 : decode cX5_sweep 68 = .ok (.lor, 1) := by decide +kernel
theorem d_cX5_sweep_69 : decode cX5_sweep 69 = .ok (.lstore 6, 2) := by decide +kernel
theorem d_cX5_sweep_71 : decode cX5_sweep 71 = .ok (.iload_n 2, 1) := by decide +kernel
theorem d_cX5_sweep_72 : decode cX5_sweep 72 = .ok (.ifCond .ne 16, 3) := by decide +kernel
theorem d_cX5_sweep_75 : decode cX5_sweep 75 = .ok (.lload 6, 2) := by decide +kernel
theorem d_cX5_sweep_77 : decode cX5_sweep 77 = .ok (.aload_n 0, 1) := by decide +kernel
theorem d_cX5_sweep_78 : decode cX5_sweep 78 = .ok (.getfield 9, 3) := by decide +kernel
theorem d_cX5_sweep_81 : decode cX5_sweep 81 = .ok (.iload 5, 2) := by decide +kernel
theorem d_cX5_sweep_83 : decode cX5_sweep 83 = .ok (.laload, 1) := by decide +kernel
theorem d_cX5_sweep_84 : decode cX5_sweep 84 = .ok (.lcmp, 1) := by decide +kernel
theorem d_cX5_sweep_85 : decode cX5_sweep 85 = .ok (.ifCond .eq 7, 3) := by decide +kernel
theorem d_cX5_sweep_88 : decode cX5_sweep 88 = .ok (.iconst 1, 1) := by decide +kernel
theorem d_cX5_sweep_89 : decode cX5_sweep 89 = .ok (.goto 4, 3) := by decide +kernel
theorem d_cX5_sweep_92 : decode cX5_sweep 92 = .ok (.iconst 0, 1) := by decide +kernel
theorem d_cX5_sweep_93 : decode cX5_sweep 93 = .ok (.istore_n 2, 1) := by decide +kernel
theorem d_cX5_sweep_94 : decode cX5_sweep 94 = .ok (.aload_n 0, 1) := by decide +kernel
theorem d_cX5_sweep_95 : decode cX5_sweep 95 = .ok (.getfield 9, 3) := by decide +kernel
theorem d_cX5_sweep_98 : decode cX5_sweep 98 = .ok (.iload 5, 2) := by decide +kernel
theorem d_cX5_sweep_100 : decode cX5_sweep 100 = .ok (.lload 6, 2) := by decide +kernel
theorem d_cX5_sweep_102 : decode cX5_sweep 102 = .ok (.lastore, 1) := by decide +kernel
theorem d_cX5_sweep_103 : decode cX5_sweep 103 = .ok (.iinc 4 1, 3) := by decide +kernel
theorem d_cX5_sweep_106 : decode cX5_sweep 106 = .ok (.goto (-84), 3) := by decide +kernel
theorem d_cX5_sweep_109 : decode cX5_sweep 109 = .ok (.iinc 3 (-1), 3) := by decide +kernel
theorem d_cX5_sweep_112 : decode cX5_sweep 112 = .ok (.goto (-103), 3) := by decide +kernel
theorem d_cX5_sweep_115 : decode cX5_sweep 115 = .ok (.iload_n 2, 1) := by decide +kernel
theorem d_cX5_sweep_116 : decode cX5_sweep 116 = .ok (.ireturn, 1) := by decide +kernel
theorem d_cX6_depth_0 : decode cX6_depth 0 = .ok (.iload_n 1, 1) := by decide +kernel
theorem d_cX6_depth_1 : decode cX6_depth 1 = .ok (.ifCond .lt 18, 3) := by decide +kernel
theorem d_cX6_depth_4 : decode cX6_depth 4 = .ok (.iload_n 1, 1) := by decide +kernel
theorem d_cX6_depth_5 : decode cX6_depth 5 = .ok (.bipush 40, 2) := by decide +kernel
theorem d_cX6_depth_7 : decode cX6_depth 7 = .ok (.if_icmp .ge 12, 3) := by decide +kernel
theorem d_cX6_depth_10 : decode cX6_depth 10 = .ok (.aload_n 0, 1) := by decide +kernel
theorem d_cX6_depth_11 : decode cX6_depth 11 = .ok (.getfield 18, 3) := by decide +kernel
theorem d_cX6_depth_14 : decode cX6_depth 14 = .ok (.iload_n 1, 1) := by decide +kernel
theorem d_cX6_depth_15 : decode cX6_depth 15 = .ok (.iaload, 1) := by decide +kernel
theorem d_cX6_depth_16 : decode cX6_depth 16 = .ok (.goto 4, 3) := by decide +kernel
theorem d_cX6_depth_19 : decode cX6_depth 19 = .ok (.iconst 0, 1) := by decide +kernel
theorem d_cX6_depth_20 : decode cX6_depth 20 = .ok (.ireturn, 1) := by decide +kernel
theorem d_cX6_factor_0 : decode cX6_factor 0 = .ok (.iconst 1, 1) := by decide +kernel
theorem d_cX6_factor_1 : decode cX6_factor 1 = .ok (.istore_n 2, 1) := by decide +kernel
theorem d_cX6_factor_2 : decode cX6_factor 2 = .ok (.iconst 0, 1) := by decide +kernel
theorem d_cX6_factor_3 : decode cX6_factor 3 = .ok (.istore_n 3, 1) := by decide +kernel
theorem d_cX6_factor_4 : decode cX6_factor 4 = .ok (.iload_n 3, 1) := by decide +kernel
theorem d_cX6_factor_5 : decode cX6_factor 5 = .ok (.aload_n 0, 1) := by decide +kernel
theorem d_cX6_factor_6 : decode cX6_factor 6 = .ok (.iload_n 1, 1) := by decide +kernel
theorem d_cX6_factor_7 : decode cX6_factor 7 = .ok (.invokevirtual 22, 3) := by decide +kernel
theorem d_cX6_factor_10 : decode cX6_factor 10 = .ok (.if_icmp .ge 14, 3) := by decide +kernel
theorem d_cX6_factor_13 : decode cX6_factor 13 = .ok (.iload_n 2, 1) := by decide +kernel
theorem d_cX6_factor_14 : decode cX6_factor 14 = .ok (.bipush 10, 2) := by decide +kernel
theorem d_cX6_factor_16 : decode cX6_factor 16 = .ok (.imul, 1) := by decide +kernel
theorem d_cX6_factor_17 : decode cX6_factor 17 = .ok (.istore_n 2, 1) := by decide +kernel
theorem d_cX6_factor_18 : decode cX6_factor 18 = .ok (.iinc 3 1, 3) := by decide +kernel
theorem d_cX6_factor_21 : decode cX6_factor 21 = .ok (.goto (-17), 3) := by decide +kernel
theorem d_cX6_factor_24 : decode cX6_factor 24 = .ok (.iload_n 2, 1) := by decide +kernel
theorem d_cX6_factor_25 : decode cX6_factor 25 = .ok (.ireturn, 1) := by decide +kernel
