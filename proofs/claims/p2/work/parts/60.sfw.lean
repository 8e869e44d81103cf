theorem w_1_60 : (Jvm.Cond.fieldLink "SpillForge$Tape" (15 : Nat) "SpillForge$Tape" "size" "I") ∈ gw := gw_1 60 rfl rfl
theorem w_1_59 : (Jvm.Cond.fieldLink "SpillForge$Tape" (9 : Nat) "SpillForge$Tape" "bytes" "[B") ∈ gw := gw_1 59 rfl rfl
theorem w_3_226 : (Jvm.Cond.methodLink "SpillForge$Tape" (19 : Nat) ({ cls := "java/lang/Math", name := "min", desc := "(II)I" } : Jvm.MethodName)) ∈ gw := gw_3 226 rfl rfl
theorem w_3_227 : (Jvm.Cond.static ({ cls := "java/lang/Math", name := "min", desc := "(II)I" } : Jvm.MethodName)) ∈ gw := gw_3 227 rfl rfl
theorem w_1_6 : (Jvm.Cond.initialized "java/lang/Math") ∈ gw := gw_1 6 rfl rfl
theorem w_3_228 : (Jvm.Cond.code ({ cls := "java/lang/Math", name := "min", desc := "(II)I" } : Jvm.MethodName) prog_32_method_69_code (2 : Nat) (Option.some Jvm.ClassFile.FieldType.int)) ∈ gw := gw_3 228 rfl rfl
theorem w_3_229 : (Jvm.Cond.methodLink "SpillForge$Tape" (25 : Nat) ({ cls := "java/lang/Math", name := "max", desc := "(II)I" } : Jvm.MethodName)) ∈ gw := gw_3 229 rfl rfl
theorem w_1_140 : (Jvm.Cond.static ({ cls := "java/lang/Math", name := "max", desc := "(II)I" } : Jvm.MethodName)) ∈ gw := gw_1 140 rfl rfl
theorem w_1_141 : (Jvm.Cond.code ({ cls := "java/lang/Math", name := "max", desc := "(II)I" } : Jvm.MethodName) prog_32_method_65_code (2 : Nat) (Option.some Jvm.ClassFile.FieldType.int)) ∈ gw := gw_1 141 rfl rfl
theorem w_4_182 : (Jvm.Cond.methodLink "SpillForge$Tape" (28 : Nat) ({ cls := "SpillForge$Tape", name := "byteAt", desc := "(I)I" } : Jvm.MethodName)) ∈ gw := gw_4 182 rfl rfl
theorem w_1_2 : (Jvm.Cond.initialized "SpillForge$Tape") ∈ gw := gw_1 2 rfl rfl
theorem w_3_23 : (Jvm.Cond.code ({ cls := "SpillForge$Tape", name := "byteAt", desc := "(I)I" } : Jvm.MethodName) prog_12_method_6_code (2 : Nat) (Option.some Jvm.ClassFile.FieldType.int)) ∈ gw := gw_3 23 rfl rfl
theorem w_3_21 : (Jvm.Cond.instanceMethod ({ cls := "SpillForge$Tape", name := "byteAt", desc := "(I)I" } : Jvm.MethodName)) ∈ gw := gw_3 21 rfl rfl
theorem w_3_22 : (Jvm.Cond.selects "SpillForge$Tape" ({ cls := "SpillForge$Tape", name := "byteAt", desc := "(I)I" } : Jvm.MethodName) ({ cls := "SpillForge$Tape", name := "byteAt", desc := "(I)I" } : Jvm.MethodName)) ∈ gw := gw_3 22 rfl rfl
theorem w_1_80 : (Jvm.Cond.fieldLink "SpillForge$Signs" (15 : Nat) "SpillForge$Signs" "kind" "I") ∈ gw := gw_1 80 rfl rfl
theorem w_1_81 : (Jvm.Cond.fieldLink "SpillForge$Signs" (19 : Nat) "SpillForge$Signs" "value" "I") ∈ gw := gw_1 81 rfl rfl
theorem w_1_82 : (Jvm.Cond.fieldLink "SpillForge$Signs" (22 : Nat) "SpillForge$Signs" "place" "I") ∈ gw := gw_1 82 rfl rfl
theorem w_1_79 : (Jvm.Cond.fieldLink "SpillForge$Signs" (9 : Nat) "SpillForge$Signs" "tape" "LSpillForge$Tape;") ∈ gw := gw_1 79 rfl rfl
theorem w_3_16 : (Jvm.Cond.methodLink "SpillForge$Signs" (61 : Nat) ({ cls := "SpillForge$Tape", name := "size", desc := "()I" } : Jvm.MethodName)) ∈ gw := gw_3 16 rfl rfl
theorem w_3_19 : (Jvm.Cond.code ({ cls := "SpillForge$Tape", name := "size", desc := "()I" } : Jvm.MethodName) prog_12_method_2_code (1 : Nat) (Option.some Jvm.ClassFile.FieldType.int)) ∈ gw := gw_3 19 rfl rfl
theorem w_3_17 : (Jvm.Cond.instanceMethod ({ cls := "SpillForge$Tape", name := "size", desc := "()I" } : Jvm.MethodName)) ∈ gw := gw_3 17 rfl rfl
theorem w_3_18 : (Jvm.Cond.selects "SpillForge$Tape" ({ cls := "SpillForge$Tape", name := "size", desc := "()I" } : Jvm.MethodName) ({ cls := "SpillForge$Tape", name := "size", desc := "()I" } : Jvm.MethodName)) ∈ gw := gw_3 18 rfl rfl
theorem w_3_20 : (Jvm.Cond.methodLink "SpillForge$Signs" (35 : Nat) ({ cls := "SpillForge$Tape", name := "byteAt", desc := "(I)I" } : Jvm.MethodName)) ∈ gw := gw_3 20 rfl rfl
theorem w_1_83 : (Jvm.Cond.fieldLink "SpillForge$Signs" (25 : Nat) "SpillForge$Signs" "behind" "I") ∈ gw := gw_1 83 rfl rfl
theorem w_3_24 : (Jvm.Cond.methodLink "SpillForge$Signs" (40 : Nat) ({ cls := "SpillForge$Signs", name := "isDigit", desc := "(I)Z" } : Jvm.MethodName)) ∈ gw := gw_3 24 rfl rfl
theorem w_1_4 : (Jvm.Cond.initialized "SpillForge$Signs") ∈ gw := gw_1 4 rfl rfl
theorem w_3_26 : (Jvm.Cond.code ({ cls := "SpillForge$Signs", name := "isDigit", desc := "(I)Z" } : Jvm.MethodName) prog_11_method_15_code (1 : Nat) (Option.some Jvm.ClassFile.FieldType.boolean)) ∈ gw := gw_3 26 rfl rfl
theorem w_3_25 : (Jvm.Cond.static ({ cls := "SpillForge$Signs", name := "isDigit", desc := "(I)Z" } : Jvm.MethodName)) ∈ gw := gw_3 25 rfl rfl
theorem w_3_35 : (Jvm.Cond.constantLong "SpillForge$Signs" (69 : Nat) (10 : Int64)) ∈ gw := gw_3 35 rfl rfl
theorem w_3_36 : (Jvm.Cond.constantLong "SpillForge$Signs" (71 : Nat) (48 : Int64)) ∈ gw := gw_3 36 rfl rfl
theorem w_3_37 : (Jvm.Cond.constantLong "SpillForge$Signs" (73 : Nat) (1099511627776 : Int64)) ∈ gw := gw_3 37 rfl rfl
theorem w_3_38 : (Jvm.Cond.methodLink "SpillForge$Signs" (75 : Nat) ({ cls := "java/lang/Math", name := "min", desc := "(JJ)J" } : Jvm.MethodName)) ∈ gw := gw_3 38 rfl rfl
theorem w_3_40 : (Jvm.Cond.code ({ cls := "java/lang/Math", name := "min", desc := "(JJ)J" } : Jvm.MethodName) prog_32_method_70_code (4 : Nat) (Option.some Jvm.ClassFile.FieldType.long)) ∈ gw := gw_3 40 rfl rfl
theorem w_3_39 : (Jvm.Cond.static ({ cls := "java/lang/Math", name := "min", desc := "(JJ)J" } : Jvm.MethodName)) ∈ gw := gw_3 39 rfl rfl
theorem w_3_31 : (Jvm.Cond.methodLink "SpillForge$Signs" (65 : Nat) ({ cls := "SpillForge$Signs", name := "takeDigits", desc := "(I)J" } : Jvm.MethodName)) ∈ gw := gw_3 31 rfl rfl
theorem w_3_34 : (Jvm.Cond.code ({ cls := "SpillForge$Signs", name := "takeDigits", desc := "(I)J" } : Jvm.MethodName) prog_11_method_10_code (5 : Nat) (Option.some Jvm.ClassFile.FieldType.long)) ∈ gw := gw_3 34 rfl rfl
theorem w_3_33 : (Jvm.Cond.instanceMethod ({ cls := "SpillForge$Signs", name := "takeDigits", desc := "(I)J" } : Jvm.MethodName)) ∈ gw := gw_3 33 rfl rfl
theorem w_p_2 : Cond.selects "SpillForge$Signs" ⟨"SpillForge$Signs", "takeDigits", "(I)J"⟩ ⟨"SpillForge$Signs", "takeDigits", "(I)J"⟩ ∈ gw := gw_p _ 2 rfl rfl rfl
theorem w_1_187 : (Jvm.Cond.fieldLink "SpillForge$Code" (45 : Nat) "SpillForge$Code" "blocks" "I") ∈ gw := gw_1 187 rfl rfl
theorem w_1_197 : (Jvm.Cond.fieldLink "SpillForge$Code" (49 : Nat) "SpillForge$Code" "lines" "I") ∈ gw := gw_1 197 rfl rfl
theorem w_1_200 : (Jvm.Cond.fieldLink "SpillForge$Code" (52 : Nat) "SpillForge$Code" "isFull" "Z") ∈ gw := gw_1 200 rfl rfl
theorem w_1_142 : (Jvm.Cond.fieldLink "SpillForge$Code" (9 : Nat) "SpillForge$Code" "first" "[I") ∈ gw := gw_1 142 rfl rfl
theorem w_1_154 : (Jvm.Cond.fieldLink "SpillForge$Code" (18 : Nat) "SpillForge$Code" "secondGoal" "[I") ∈ gw := gw_1 154 rfl rfl
theorem w_1_149 : (Jvm.Cond.fieldLink "SpillForge$Code" (15 : Nat) "SpillForge$Code" "firstGoal" "[I") ∈ gw := gw_1 149 rfl rfl
theorem w_1_159 : (Jvm.Cond.fieldLink "SpillForge$Code" (27 : Nat) "SpillForge$Code" "op" "[I") ∈ gw := gw_1 159 rfl rfl
theorem w_1_163 : (Jvm.Cond.fieldLink "SpillForge$Code" (30 : Nat) "SpillForge$Code" "set" "[I") ∈ gw := gw_1 163 rfl rfl
theorem w_1_168 : (Jvm.Cond.fieldLink "SpillForge$Code" (33 : Nat) "SpillForge$Code" "left" "[I") ∈ gw := gw_1 168 rfl rfl
theorem w_1_174 : (Jvm.Cond.fieldLink "SpillForge$Code" (36 : Nat) "SpillForge$Code" "leftNumber" "[I") ∈ gw := gw_1 174 rfl rfl
theorem w_1_178 : (Jvm.Cond.fieldLink "SpillForge$Code" (39 : Nat) "SpillForge$Code" "right" "[I") ∈ gw := gw_1 178 rfl rfl
theorem w_1_183 : (Jvm.Cond.fieldLink "SpillForge$Code" (42 : Nat) "SpillForge$Code" "rightNumber" "[I") ∈ gw := gw_1 183 rfl rfl
theorem w_5_154 : (Jvm.Cond.methodLink "SpillForge$Code" (70 : Nat) ({ cls := "SpillForge$Code", name := "nameIn", desc := "([II)I" } : Jvm.MethodName)) ∈ gw := gw_5 154 rfl rfl
theorem w_1_5 : (Jvm.Cond.initialized "SpillForge$Code") ∈ gw := gw_1 5 rfl rfl
theorem w_5_156 : (Jvm.Cond.code ({ cls := "SpillForge$Code", name := "nameIn", desc := "([II)I" } : Jvm.MethodName) prog_2_method_14_code (2 : Nat) (Option.some Jvm.ClassFile.FieldType.int)) ∈ gw := gw_5 156 rfl rfl
theorem w_5_155 : (Jvm.Cond.static ({ cls := "SpillForge$Code", name := "nameIn", desc := "([II)I" } : Jvm.MethodName)) ∈ gw := gw_5 155 rfl rfl
theorem w_5_111 : (Jvm.Cond.methodLink "SpillForge$Code" (64 : Nat) ({ cls := "java/lang/System", name := "arraycopy", desc := "(Ljava/lang/Object;ILjava/lang/Object;II)V" } : Jvm.MethodName)) ∈ gw := gw_5 111 rfl rfl
theorem w_5_113 : (Jvm.Cond.native ({ cls := "java/lang/System", name := "arraycopy", desc := "(Ljava/lang/Object;ILjava/lang/Object;II)V" } : Jvm.MethodName)) ∈ gw := gw_5 113 rfl rfl
theorem w_5_112 : (Jvm.Cond.static ({ cls := "java/lang/System", name := "arraycopy", desc := "(Ljava/lang/Object;ILjava/lang/Object;II)V" } : Jvm.MethodName)) ∈ gw := gw_5 112 rfl rfl
theorem w_1_34 : (Jvm.Cond.initialized "java/lang/System") ∈ gw := gw_1 34 rfl rfl
theorem w_1_235 : (Jvm.Cond.fieldLink "SpillForge$Loops" (18 : Nat) "SpillForge$Loops" "depth" "[I") ∈ gw := gw_1 235 rfl rfl
theorem w_4_151 : (Jvm.Cond.methodLink "SpillForge$Loops" (22 : Nat) ({ cls := "SpillForge$Loops", name := "depth", desc := "(I)I" } : Jvm.MethodName)) ∈ gw := gw_4 151 rfl rfl
theorem w_1_7 : (Jvm.Cond.initialized "SpillForge$Loops") ∈ gw := gw_1 7 rfl rfl
theorem w_4_154 : (Jvm.Cond.code ({ cls := "SpillForge$Loops", name := "depth", desc := "(I)I" } : Jvm.MethodName) prog_8_method_2_code (2 : Nat) (Option.some Jvm.ClassFile.FieldType.int)) ∈ gw := gw_4 154 rfl rfl
theorem w_4_152 : (Jvm.Cond.instanceMethod ({ cls := "SpillForge$Loops", name := "depth", desc := "(I)I" } : Jvm.MethodName)) ∈ gw := gw_4 152 rfl rfl
theorem w_4_153 : (Jvm.Cond.selects "SpillForge$Loops" ({ cls := "SpillForge$Loops", name := "depth", desc := "(I)I" } : Jvm.MethodName) ({ cls := "SpillForge$Loops", name := "depth", desc := "(I)I" } : Jvm.MethodName)) ∈ gw := gw_4 153 rfl rfl
theorem w_1_233 : (Jvm.Cond.fieldLink "SpillForge$Loops" (9 : Nat) "SpillForge$Loops" "goals" "[J") ∈ gw := gw_1 233 rfl rfl
theorem w_1_234 : (Jvm.Cond.fieldLink "SpillForge$Loops" (15 : Nat) "SpillForge$Loops" "sources" "[J") ∈ gw := gw_1 234 rfl rfl
theorem w_4_7 : (Jvm.Cond.constantLong "SpillForge$Loops" (62 : Nat) (-1 : Int64)) ∈ gw := gw_4 7 rfl rfl
theorem w_4_4 : (Jvm.Cond.methodLink "SpillForge$Loops" (50 : Nat) ({ cls := "SpillForge$Loops", name := "walk", desc := "([JJJ)J" } : Jvm.MethodName)) ∈ gw := gw_4 4 rfl rfl
theorem w_4_6 : (Jvm.Cond.code ({ cls := "SpillForge$Loops", name := "walk", desc := "([JJJ)J" } : Jvm.MethodName) prog_8_method_8_code (11 : Nat) (Option.some Jvm.ClassFile.FieldType.long)) ∈ gw := gw_4 6 rfl rfl
theorem w_4_5 : (Jvm.Cond.static ({ cls := "SpillForge$Loops", name := "walk", desc := "([JJJ)J" } : Jvm.MethodName)) ∈ gw := gw_4 5 rfl rfl
theorem w_3_234 : (Jvm.Cond.methodLink "SpillForge$Loops" (25 : Nat) ({ cls := "java/util/Arrays", name := "fill", desc := "([JJ)V" } : Jvm.MethodName)) ∈ gw := gw_3 234 rfl rfl
theorem w_1_30 : (Jvm.Cond.initialized "java/util/Arrays") ∈ gw := gw_1 30 rfl rfl
theorem w_3_236 : (Jvm.Cond.code ({ cls := "java/util/Arrays", name := "fill", desc := "([JJ)V" } : Jvm.MethodName) prog_44_method_101_code (5 : Nat) (Option.none : Option Jvm.ClassFile.FieldType)) ∈ gw := gw_3 236 rfl rfl
theorem w_3_235 : (Jvm.Cond.static ({ cls := "java/util/Arrays", name := "fill", desc := "([JJ)V" } : Jvm.MethodName)) ∈ gw := gw_3 235 rfl rfl
theorem w_3_237 : (Jvm.Cond.methodLink "SpillForge$Loops" (31 : Nat) ({ cls := "java/util/Arrays", name := "fill", desc := "([II)V" } : Jvm.MethodName)) ∈ gw := gw_3 237 rfl rfl
theorem w_3_239 : (Jvm.Cond.code ({ cls := "java/util/Arrays", name := "fill", desc := "([II)V" } : Jvm.MethodName) prog_44_method_103_code (4 : Nat) (Option.none : Option Jvm.ClassFile.FieldType)) ∈ gw := gw_3 239 rfl rfl
theorem w_3_238 : (Jvm.Cond.static ({ cls := "java/util/Arrays", name := "fill", desc := "([II)V" } : Jvm.MethodName)) ∈ gw := gw_3 238 rfl rfl
theorem w_4_0 : (Jvm.Cond.methodLink "SpillForge$Loops" (43 : Nat) ({ cls := "SpillForge$Loops", name := "link", desc := "(II)V" } : Jvm.MethodName)) ∈ gw := gw_4 0 rfl rfl
theorem w_4_3 : (Jvm.Cond.code ({ cls := "SpillForge$Loops", name := "link", desc := "(II)V" } : Jvm.MethodName) prog_8_method_5_code (3 : Nat) (Option.none : Option Jvm.ClassFile.FieldType)) ∈ gw := gw_4 3 rfl rfl
theorem w_4_2 : (Jvm.Cond.instanceMethod ({ cls := "SpillForge$Loops", name := "link", desc := "(II)V" } : Jvm.MethodName)) ∈ gw := gw_4 2 rfl rfl
theorem w_p_26 : Cond.selects "SpillForge$Loops" ⟨"SpillForge$Loops", "link", "(II)V"⟩ ⟨"SpillForge$Loops", "link", "(II)V"⟩ ∈ gw := gw_p _ 26 rfl rfl rfl
theorem w_4_8 : (Jvm.Cond.methodLink "SpillForge$Loops" (54 : Nat) ({ cls := "SpillForge$Loops", name := "loopOf", desc := "(IJ)J" } : Jvm.MethodName)) ∈ gw := gw_4 8 rfl rfl
theorem w_4_11 : (Jvm.Cond.code ({ cls := "SpillForge$Loops", name := "loopOf", desc := "(IJ)J" } : Jvm.MethodName) prog_8_method_6_code (10 : Nat) (Option.some Jvm.ClassFile.FieldType.long)) ∈ gw := gw_4 11 rfl rfl
theorem w_4_10 : (Jvm.Cond.instanceMethod ({ cls := "SpillForge$Loops", name := "loopOf", desc := "(IJ)J" } : Jvm.MethodName)) ∈ gw := gw_4 10 rfl rfl
theorem w_p_27 : Cond.selects "SpillForge$Loops" ⟨"SpillForge$Loops", "loopOf", "(IJ)J"⟩ ⟨"SpillForge$Loops", "loopOf", "(IJ)J"⟩ ∈ gw := gw_p _ 27 rfl rfl rfl
theorem w_4_12 : (Jvm.Cond.methodLink "SpillForge$Loops" (58 : Nat) ({ cls := "SpillForge$Loops", name := "deepen", desc := "(J)V" } : Jvm.MethodName)) ∈ gw := gw_4 12 rfl rfl
theorem w_4_15 : (Jvm.Cond.code ({ cls := "SpillForge$Loops", name := "deepen", desc := "(J)V" } : Jvm.MethodName) prog_8_method_7_code (4 : Nat) (Option.none : Option Jvm.ClassFile.FieldType)) ∈ gw := gw_4 15 rfl rfl
theorem w_4_14 : (Jvm.Cond.instanceMethod ({ cls := "SpillForge$Loops", name := "deepen", desc := "(J)V" } : Jvm.MethodName)) ∈ gw := gw_4 14 rfl rfl
theorem w_p_28 : Cond.selects "SpillForge$Loops" ⟨"SpillForge$Loops", "deepen", "(J)V"⟩ ⟨"SpillForge$Loops", "deepen", "(J)V"⟩ ∈ gw := gw_p _ 28 rfl rfl rfl
theorem w_4_176 : (Jvm.Cond.methodLink "SpillForge$Machine" (28 : Nat) ({ cls := "SpillForge$Tape", name := "size", desc := "()I" } : Jvm.MethodName)) ∈ gw := gw_4 176 rfl rfl
theorem w_2_160 : (Jvm.Cond.fieldLink "SpillForge$Machine" (9 : Nat) "SpillForge$Machine" "given" "[I") ∈ gw := gw_2 160 rfl rfl
theorem w_4_177 : (Jvm.Cond.methodLink "SpillForge$Machine" (34 : Nat) ({ cls := "java/lang/Math", name := "min", desc := "(II)I" } : Jvm.MethodName)) ∈ gw := gw_4 177 rfl rfl
theorem w_2_164 : (Jvm.Cond.fieldLink "SpillForge$Machine" (40 : Nat) "SpillForge$Machine" "givens" "I") ∈ gw := gw_2 164 rfl rfl
theorem w_4_178 : (Jvm.Cond.methodLink "SpillForge$Machine" (43 : Nat) ({ cls := "SpillForge$Tape", name := "intAt", desc := "(I)I" } : Jvm.MethodName)) ∈ gw := gw_4 178 rfl rfl
theorem w_4_181 : (Jvm.Cond.code ({ cls := "SpillForge$Tape", name := "intAt", desc := "(I)I" } : Jvm.MethodName) prog_12_method_7_code (4 : Nat) (Option.some Jvm.ClassFile.FieldType.int)) ∈ gw := gw_4 181 rfl rfl
theorem w_4_179 : (Jvm.Cond.instanceMethod ({ cls := "SpillForge$Tape", name := "intAt", desc := "(I)I" } : Jvm.MethodName)) ∈ gw := gw_4 179 rfl rfl
theorem w_4_180 : (Jvm.Cond.selects "SpillForge$Tape" ({ cls := "SpillForge$Tape", name := "intAt", desc := "(I)I" } : Jvm.MethodName) ({ cls := "SpillForge$Tape", name := "intAt", desc := "(I)I" } : Jvm.MethodName)) ∈ gw := gw_4 180 rfl rfl
theorem w_2_166 : (Jvm.Cond.fieldLink "SpillForge$Machine" (47 : Nat) "SpillForge$Machine" "answer" "I") ∈ gw := gw_2 166 rfl rfl
theorem w_2_167 : (Jvm.Cond.fieldLink "SpillForge$Machine" (50 : Nat) "SpillForge$Machine" "showCount" "I") ∈ gw := gw_2 167 rfl rfl
theorem w_2_163 : (Jvm.Cond.fieldLink "SpillForge$Machine" (21 : Nat) "SpillForge$Machine" "shows" "[I") ∈ gw := gw_2 163 rfl rfl
theorem w_2_168 : (Jvm.Cond.fieldLink "SpillForge$Machine" (53 : Nat) "SpillForge$Machine" "steps" "I") ∈ gw := gw_2 168 rfl rfl
theorem w_2_169 : (Jvm.Cond.fieldLink "SpillForge$Machine" (56 : Nat) "SpillForge$Machine" "taken" "I") ∈ gw := gw_2 169 rfl rfl
theorem w_2_170 : (Jvm.Cond.fieldLink "SpillForge$Machine" (24 : Nat) "SpillForge$Machine" "ending" "I") ∈ gw := gw_2 170 rfl rfl
theorem w_6_86 : (Jvm.Cond.methodLink "SpillForge$Machine" (77 : Nat) ({ cls := "SpillForge$Machine", name := "halt", desc := "(I)I" } : Jvm.MethodName)) ∈ gw := gw_6 86 rfl rfl
theorem w_1_12 : (Jvm.Cond.initialized "SpillForge$Machine") ∈ gw := gw_1 12 rfl rfl
theorem w_6_89 : (Jvm.Cond.code ({ cls := "SpillForge$Machine", name := "halt", desc := "(I)I" } : Jvm.MethodName) prog_9_method_12_code (2 : Nat) (Option.some Jvm.ClassFile.FieldType.int)) ∈ gw := gw_6 89 rfl rfl
theorem w_6_88 : (Jvm.Cond.instanceMethod ({ cls := "SpillForge$Machine", name := "halt", desc := "(I)I" } : Jvm.MethodName)) ∈ gw := gw_6 88 rfl rfl
theorem w_p_60 : Cond.selects "SpillForge$Machine" ⟨"SpillForge$Machine", "halt", "(I)I"⟩ ⟨"SpillForge$Machine", "halt", "(I)I"⟩ ∈ gw := gw_p _ 60 rfl rfl rfl
theorem w_2_165 : (Jvm.Cond.fieldLink "SpillForge$Machine" (65 : Nat) "SpillForge$Machine" "block" "I") ∈ gw := gw_2 165 rfl rfl
theorem w_2_161 : (Jvm.Cond.fieldLink "SpillForge$Machine" (15 : Nat) "SpillForge$Machine" "registers" "[I") ∈ gw := gw_2 161 rfl rfl
theorem w_2_162 : (Jvm.Cond.fieldLink "SpillForge$Machine" (18 : Nat) "SpillForge$Machine" "slots" "[I") ∈ gw := gw_2 162 rfl rfl
theorem w_6_78 : (Jvm.Cond.methodLink "SpillForge$Machine" (89 : Nat) ({ cls := "SpillForge$Machine", name := "valueOf", desc := "(II)I" } : Jvm.MethodName)) ∈ gw := gw_6 78 rfl rfl
theorem w_6_81 : (Jvm.Cond.code ({ cls := "SpillForge$Machine", name := "valueOf", desc := "(II)I" } : Jvm.MethodName) prog_9_method_15_code (3 : Nat) (Option.some Jvm.ClassFile.FieldType.int)) ∈ gw := gw_6 81 rfl rfl
theorem w_6_80 : (Jvm.Cond.instanceMethod ({ cls := "SpillForge$Machine", name := "valueOf", desc := "(II)I" } : Jvm.MethodName)) ∈ gw := gw_6 80 rfl rfl
theorem w_p_58 : Cond.selects "SpillForge$Machine" ⟨"SpillForge$Machine", "valueOf", "(II)I"⟩ ⟨"SpillForge$Machine", "valueOf", "(II)I"⟩ ∈ gw := gw_p _ 58 rfl rfl rfl
theorem w_6_94 : (Jvm.Cond.methodLink "SpillForge$Machine" (108 : Nat) ({ cls := "SpillForge$Machine", name := "put", desc := "([III)V" } : Jvm.MethodName)) ∈ gw := gw_6 94 rfl rfl
theorem w_6_96 : (Jvm.Cond.code ({ cls := "SpillForge$Machine", name := "put", desc := "([III)V" } : Jvm.MethodName) prog_9_method_17_code (3 : Nat) (Option.none : Option Jvm.ClassFile.FieldType)) ∈ gw := gw_6 96 rfl rfl
theorem w_6_95 : (Jvm.Cond.static ({ cls := "SpillForge$Machine", name := "put", desc := "([III)V" } : Jvm.MethodName)) ∈ gw := gw_6 95 rfl rfl
theorem w_6_101 : (Jvm.Cond.methodLink "SpillForge$Machine" (118 : Nat) ({ cls := "SpillForge$Machine", name := "takeNext", desc := "()I" } : Jvm.MethodName)) ∈ gw := gw_6 101 rfl rfl
theorem w_6_104 : (Jvm.Cond.code ({ cls := "SpillForge$Machine", name := "takeNext", desc := "()I" } : Jvm.MethodName) prog_9_method_14_code (1 : Nat) (Option.some Jvm.ClassFile.FieldType.int)) ∈ gw := gw_6 104 rfl rfl
theorem w_6_103 : (Jvm.Cond.instanceMethod ({ cls := "SpillForge$Machine", name := "takeNext", desc := "()I" } : Jvm.MethodName)) ∈ gw := gw_6 103 rfl rfl
theorem w_p_63 : Cond.selects "SpillForge$Machine" ⟨"SpillForge$Machine", "takeNext", "()I"⟩ ⟨"SpillForge$Machine", "takeNext", "()I"⟩ ∈ gw := gw_p _ 63 rfl rfl rfl
theorem w_6_90 : (Jvm.Cond.methodLink "SpillForge$Machine" (101 : Nat) ({ cls := "SpillForge$Machine", name := "addShow", desc := "(I)Z" } : Jvm.MethodName)) ∈ gw := gw_6 90 rfl rfl
theorem w_6_93 : (Jvm.Cond.code ({ cls := "SpillForge$Machine", name := "addShow", desc := "(I)Z" } : Jvm.MethodName) prog_9_method_13_code (2 : Nat) (Option.some Jvm.ClassFile.FieldType.boolean)) ∈ gw := gw_6 93 rfl rfl
theorem w_6_92 : (Jvm.Cond.instanceMethod ({ cls := "SpillForge$Machine", name := "addShow", desc := "(I)Z" } : Jvm.MethodName)) ∈ gw := gw_6 92 rfl rfl
theorem w_p_61 : Cond.selects "SpillForge$Machine" ⟨"SpillForge$Machine", "addShow", "(I)Z"⟩ ⟨"SpillForge$Machine", "addShow", "(I)Z"⟩ ∈ gw := gw_p _ 61 rfl rfl rfl
theorem w_6_97 : (Jvm.Cond.methodLink "SpillForge$Machine" (115 : Nat) ({ cls := "SpillForge$Machine", name := "slotAt", desc := "(I)I" } : Jvm.MethodName)) ∈ gw := gw_6 97 rfl rfl
theorem w_6_100 : (Jvm.Cond.code ({ cls := "SpillForge$Machine", name := "slotAt", desc := "(I)I" } : Jvm.MethodName) prog_9_method_16_code (2 : Nat) (Option.some Jvm.ClassFile.FieldType.int)) ∈ gw := gw_6 100 rfl rfl
theorem w_6_99 : (Jvm.Cond.instanceMethod ({ cls := "SpillForge$Machine", name := "slotAt", desc := "(I)I" } : Jvm.MethodName)) ∈ gw := gw_6 99 rfl rfl
theorem w_p_62 : Cond.selects "SpillForge$Machine" ⟨"SpillForge$Machine", "slotAt", "(I)I"⟩ ⟨"SpillForge$Machine", "slotAt", "(I)I"⟩ ∈ gw := gw_p _ 62 rfl rfl rfl
theorem w_6_82 : (Jvm.Cond.methodLink "SpillForge$Machine" (95 : Nat) ({ cls := "SpillForge$Machine", name := "enter", desc := "(LSpillForge$Code;I)I" } : Jvm.MethodName)) ∈ gw := gw_6 82 rfl rfl
theorem w_6_85 : (Jvm.Cond.code ({ cls := "SpillForge$Machine", name := "enter", desc := "(LSpillForge$Code;I)I" } : Jvm.MethodName) prog_9_method_11_code (3 : Nat) (Option.some Jvm.ClassFile.FieldType.int)) ∈ gw := gw_6 85 rfl rfl
theorem w_6_84 : (Jvm.Cond.instanceMethod ({ cls := "SpillForge$Machine", name := "enter", desc := "(LSpillForge$Code;I)I" } : Jvm.MethodName)) ∈ gw := gw_6 84 rfl rfl
theorem w_p_59 : Cond.selects "SpillForge$Machine" ⟨"SpillForge$Machine", "enter", "(LSpillForge$Code;I)I"⟩ ⟨"SpillForge$Machine", "enter", "(LSpillForge$Code;I)I"⟩ ∈ gw := gw_p _ 59 rfl rfl rfl
theorem w_6_105 : (Jvm.Cond.methodLink "SpillForge$Machine" (124 : Nat) ({ cls := "SpillForge$Machine", name := "calculate", desc := "(III)I" } : Jvm.MethodName)) ∈ gw := gw_6 105 rfl rfl
theorem w_6_107 : (Jvm.Cond.code ({ cls := "SpillForge$Machine", name := "calculate", desc := "(III)I" } : Jvm.MethodName) prog_9_method_18_code (3 : Nat) (Option.some Jvm.ClassFile.FieldType.int)) ∈ gw := gw_6 107 rfl rfl
theorem w_6_106 : (Jvm.Cond.static ({ cls := "SpillForge$Machine", name := "calculate", desc := "(III)I" } : Jvm.MethodName)) ∈ gw := gw_6 106 rfl rfl
theorem w_6_73 : (Jvm.Cond.methodLink "SpillForge$Machine" (59 : Nat) ({ cls := "java/util/Arrays", name := "fill", desc := "([II)V" } : Jvm.MethodName)) ∈ gw := gw_6 73 rfl rfl
theorem w_6_74 : (Jvm.Cond.methodLink "SpillForge$Machine" (73 : Nat) ({ cls := "SpillForge$Machine", name := "step", desc := "(LSpillForge$Code;I)I" } : Jvm.MethodName)) ∈ gw := gw_6 74 rfl rfl
theorem w_6_77 : (Jvm.Cond.code ({ cls := "SpillForge$Machine", name := "step", desc := "(LSpillForge$Code;I)I" } : Jvm.MethodName) prog_9_method_10_code (6 : Nat) (Option.some Jvm.ClassFile.FieldType.int)) ∈ gw := gw_6 77 rfl rfl
theorem w_6_76 : (Jvm.Cond.instanceMethod ({ cls := "SpillForge$Machine", name := "step", desc := "(LSpillForge$Code;I)I" } : Jvm.MethodName)) ∈ gw := gw_6 76 rfl rfl
theorem w_p_57 : Cond.selects "SpillForge$Machine" ⟨"SpillForge$Machine", "step", "(LSpillForge$Code;I)I"⟩ ⟨"SpillForge$Machine", "step", "(LSpillForge$Code;I)I"⟩ ∈ gw := gw_p _ 57 rfl rfl rfl
theorem w_2_27 : (Jvm.Cond.fieldLink "SpillForge$Live" (33 : Nat) "SpillForge$Live" "names" "I") ∈ gw := gw_2 27 rfl rfl
theorem w_2_23 : (Jvm.Cond.fieldLink "SpillForge$Live" (15 : Nat) "SpillForge$Live" "used" "[J") ∈ gw := gw_2 23 rfl rfl
theorem w_2_24 : (Jvm.Cond.fieldLink "SpillForge$Live" (18 : Nat) "SpillForge$Live" "set" "[J") ∈ gw := gw_2 24 rfl rfl
theorem w_4_47 : (Jvm.Cond.constantLong "SpillForge$Live" (83 : Nat) (-1 : Int64)) ∈ gw := gw_4 47 rfl rfl
theorem w_2_29 : (Jvm.Cond.fieldLink "SpillForge$Live" (37 : Nat) "SpillForge$Live" "words" "I") ∈ gw := gw_2 29 rfl rfl
theorem w_4_35 : (Jvm.Cond.methodLink "SpillForge$Live" (61 : Nat) ({ cls := "SpillForge$Code", name := "blockEnd", desc := "(I)I" } : Jvm.MethodName)) ∈ gw := gw_4 35 rfl rfl
theorem w_4_38 : (Jvm.Cond.code ({ cls := "SpillForge$Code", name := "blockEnd", desc := "(I)I" } : Jvm.MethodName) prog_2_method_4_code (2 : Nat) (Option.some Jvm.ClassFile.FieldType.int)) ∈ gw := gw_4 38 rfl rfl
theorem w_4_36 : (Jvm.Cond.instanceMethod ({ cls := "SpillForge$Code", name := "blockEnd", desc := "(I)I" } : Jvm.MethodName)) ∈ gw := gw_4 36 rfl rfl
theorem w_4_37 : (Jvm.Cond.selects "SpillForge$Code" ({ cls := "SpillForge$Code", name := "blockEnd", desc := "(I)I" } : Jvm.MethodName) ({ cls := "SpillForge$Code", name := "blockEnd", desc := "(I)I" } : Jvm.MethodName)) ∈ gw := gw_4 37 rfl rfl
theorem w_2_31 : (Jvm.Cond.fieldLink "SpillForge$Live" (40 : Nat) "SpillForge$Live" "ofSlots" "Z") ∈ gw := gw_2 31 rfl rfl
theorem w_4_39 : (Jvm.Cond.methodLink "SpillForge$Live" (65 : Nat) ({ cls := "SpillForge$Code", name := "firstUse", desc := "(IZ)I" } : Jvm.MethodName)) ∈ gw := gw_4 39 rfl rfl
theorem w_4_42 : (Jvm.Cond.code ({ cls := "SpillForge$Code", name := "firstUse", desc := "(IZ)I" } : Jvm.MethodName) prog_2_method_19_code (3 : Nat) (Option.some Jvm.ClassFile.FieldType.int)) ∈ gw := gw_4 42 rfl rfl
theorem w_4_40 : (Jvm.Cond.instanceMethod ({ cls := "SpillForge$Code", name := "firstUse", desc := "(IZ)I" } : Jvm.MethodName)) ∈ gw := gw_4 40 rfl rfl
theorem w_4_41 : (Jvm.Cond.selects "SpillForge$Code" ({ cls := "SpillForge$Code", name := "firstUse", desc := "(IZ)I" } : Jvm.MethodName) ({ cls := "SpillForge$Code", name := "firstUse", desc := "(IZ)I" } : Jvm.MethodName)) ∈ gw := gw_4 41 rfl rfl
theorem w_4_43 : (Jvm.Cond.methodLink "SpillForge$Live" (69 : Nat) ({ cls := "SpillForge$Live", name := "gatherUse", desc := "(II)V" } : Jvm.MethodName)) ∈ gw := gw_4 43 rfl rfl
theorem w_1_10 : (Jvm.Cond.initialized "SpillForge$Live") ∈ gw := gw_1 10 rfl rfl
theorem w_4_46 : (Jvm.Cond.code ({ cls := "SpillForge$Live", name := "gatherUse", desc := "(II)V" } : Jvm.MethodName) prog_7_method_5_code (4 : Nat) (Option.none : Option Jvm.ClassFile.FieldType)) ∈ gw := gw_4 46 rfl rfl
theorem w_4_45 : (Jvm.Cond.instanceMethod ({ cls := "SpillForge$Live", name := "gatherUse", desc := "(II)V" } : Jvm.MethodName)) ∈ gw := gw_4 45 rfl rfl
theorem w_p_31 : Cond.selects "SpillForge$Live" ⟨"SpillForge$Live", "gatherUse", "(II)V"⟩ ⟨"SpillForge$Live", "gatherUse", "(II)V"⟩ ∈ gw := gw_p _ 31 rfl rfl rfl
theorem w_4_48 : (Jvm.Cond.methodLink "SpillForge$Live" (73 : Nat) ({ cls := "SpillForge$Code", name := "secondUse", desc := "(IZ)I" } : Jvm.MethodName)) ∈ gw := gw_4 48 rfl rfl
theorem w_4_51 : (Jvm.Cond.code ({ cls := "SpillForge$Code", name := "secondUse", desc := "(IZ)I" } : Jvm.MethodName) prog_2_method_20_code (3 : Nat) (Option.some Jvm.ClassFile.FieldType.int)) ∈ gw := gw_4 51 rfl rfl
theorem w_4_49 : (Jvm.Cond.instanceMethod ({ cls := "SpillForge$Code", name := "secondUse", desc := "(IZ)I" } : Jvm.MethodName)) ∈ gw := gw_4 49 rfl rfl
theorem w_4_50 : (Jvm.Cond.selects "SpillForge$Code" ({ cls := "SpillForge$Code", name := "secondUse", desc := "(IZ)I" } : Jvm.MethodName) ({ cls := "SpillForge$Code", name := "secondUse", desc := "(IZ)I" } : Jvm.MethodName)) ∈ gw := gw_4 50 rfl rfl
theorem w_4_52 : (Jvm.Cond.methodLink "SpillForge$Live" (76 : Nat) ({ cls := "SpillForge$Code", name := "setBy", desc := "(IZ)I" } : Jvm.MethodName)) ∈ gw := gw_4 52 rfl rfl
theorem w_4_55 : (Jvm.Cond.code ({ cls := "SpillForge$Code", name := "setBy", desc := "(IZ)I" } : Jvm.MethodName) prog_2_method_18_code (3 : Nat) (Option.some Jvm.ClassFile.FieldType.int)) ∈ gw := gw_4 55 rfl rfl
theorem w_4_53 : (Jvm.Cond.instanceMethod ({ cls := "SpillForge$Code", name := "setBy", desc := "(IZ)I" } : Jvm.MethodName)) ∈ gw := gw_4 53 rfl rfl
theorem w_4_54 : (Jvm.Cond.selects "SpillForge$Code" ({ cls := "SpillForge$Code", name := "setBy", desc := "(IZ)I" } : Jvm.MethodName) ({ cls := "SpillForge$Code", name := "setBy", desc := "(IZ)I" } : Jvm.MethodName)) ∈ gw := gw_4 54 rfl rfl
theorem w_4_56 : (Jvm.Cond.methodLink "SpillForge$Live" (79 : Nat) ({ cls := "SpillForge$Live", name := "isName", desc := "(I)Z" } : Jvm.MethodName)) ∈ gw := gw_4 56 rfl rfl
theorem w_4_59 : (Jvm.Cond.code ({ cls := "SpillForge$Live", name := "isName", desc := "(I)Z" } : Jvm.MethodName) prog_7_method_3_code (2 : Nat) (Option.some Jvm.ClassFile.FieldType.boolean)) ∈ gw := gw_4 59 rfl rfl
theorem w_4_57 : (Jvm.Cond.instanceMethod ({ cls := "SpillForge$Live", name := "isName", desc := "(I)Z" } : Jvm.MethodName)) ∈ gw := gw_4 57 rfl rfl
theorem w_4_58 : (Jvm.Cond.selects "SpillForge$Live" ({ cls := "SpillForge$Live", name := "isName", desc := "(I)Z" } : Jvm.MethodName) ({ cls := "SpillForge$Live", name := "isName", desc := "(I)Z" } : Jvm.MethodName)) ∈ gw := gw_4 58 rfl rfl
theorem w_2_25 : (Jvm.Cond.fieldLink "SpillForge$Live" (21 : Nat) "SpillForge$Live" "now" "[J") ∈ gw := gw_2 25 rfl rfl
theorem w_2_22 : (Jvm.Cond.fieldLink "SpillForge$Live" (9 : Nat) "SpillForge$Live" "in" "[J") ∈ gw := gw_2 22 rfl rfl
theorem w_4_64 : (Jvm.Cond.methodLink "SpillForge$Live" (85 : Nat) ({ cls := "SpillForge$Live", name := "enterBehind", desc := "(LSpillForge$Code;I)V" } : Jvm.MethodName)) ∈ gw := gw_4 64 rfl rfl
theorem w_4_67 : (Jvm.Cond.code ({ cls := "SpillForge$Live", name := "enterBehind", desc := "(LSpillForge$Code;I)V" } : Jvm.MethodName) prog_7_method_7_code (8 : Nat) (Option.none : Option Jvm.ClassFile.FieldType)) ∈ gw := gw_4 67 rfl rfl
theorem w_4_65 : (Jvm.Cond.instanceMethod ({ cls := "SpillForge$Live", name := "enterBehind", desc := "(LSpillForge$Code;I)V" } : Jvm.MethodName)) ∈ gw := gw_4 65 rfl rfl
theorem w_4_66 : (Jvm.Cond.selects "SpillForge$Live" ({ cls := "SpillForge$Live", name := "enterBehind", desc := "(LSpillForge$Code;I)V" } : Jvm.MethodName) ({ cls := "SpillForge$Live", name := "enterBehind", desc := "(LSpillForge$Code;I)V" } : Jvm.MethodName)) ∈ gw := gw_4 66 rfl rfl
theorem w_4_29 : (Jvm.Cond.methodLink "SpillForge$Live" (24 : Nat) ({ cls := "java/lang/Math", name := "min", desc := "(II)I" } : Jvm.MethodName)) ∈ gw := gw_4 29 rfl rfl
theorem w_4_30 : (Jvm.Cond.methodLink "SpillForge$Live" (30 : Nat) ({ cls := "java/lang/Math", name := "max", desc := "(II)I" } : Jvm.MethodName)) ∈ gw := gw_4 30 rfl rfl
theorem w_4_60 : (Jvm.Cond.methodLink "SpillForge$Live" (53 : Nat) ({ cls := "SpillForge$Live", name := "sweep", desc := "(LSpillForge$Code;)Z" } : Jvm.MethodName)) ∈ gw := gw_4 60 rfl rfl
theorem w_4_63 : (Jvm.Cond.code ({ cls := "SpillForge$Live", name := "sweep", desc := "(LSpillForge$Code;)Z" } : Jvm.MethodName) prog_7_method_6_code (8 : Nat) (Option.some Jvm.ClassFile.FieldType.boolean)) ∈ gw := gw_4 63 rfl rfl
theorem w_4_62 : (Jvm.Cond.instanceMethod ({ cls := "SpillForge$Live", name := "sweep", desc := "(LSpillForge$Code;)Z" } : Jvm.MethodName)) ∈ gw := gw_4 62 rfl rfl
theorem w_p_32 : Cond.selects "SpillForge$Live" ⟨"SpillForge$Live", "sweep", "(LSpillForge$Code;)Z"⟩ ⟨"SpillForge$Live", "sweep", "(LSpillForge$Code;)Z"⟩ ∈ gw := gw_p _ 32 rfl rfl rfl
theorem w_4_31 : (Jvm.Cond.methodLink "SpillForge$Live" (49 : Nat) ({ cls := "SpillForge$Live", name := "gather", desc := "(LSpillForge$Code;I)V" } : Jvm.MethodName)) ∈ gw := gw_4 31 rfl rfl
theorem w_4_34 : (Jvm.Cond.code ({ cls := "SpillForge$Live", name := "gather", desc := "(LSpillForge$Code;I)V" } : Jvm.MethodName) prog_7_method_4_code (6 : Nat) (Option.none : Option Jvm.ClassFile.FieldType)) ∈ gw := gw_4 34 rfl rfl
theorem w_4_33 : (Jvm.Cond.instanceMethod ({ cls := "SpillForge$Live", name := "gather", desc := "(LSpillForge$Code;I)V" } : Jvm.MethodName)) ∈ gw := gw_4 33 rfl rfl
theorem w_p_30 : Cond.selects "SpillForge$Live" ⟨"SpillForge$Live", "gather", "(LSpillForge$Code;I)V"⟩ ⟨"SpillForge$Live", "gather", "(LSpillForge$Code;I)V"⟩ ∈ gw := gw_p _ 30 rfl rfl rfl
theorem w_4_133 : (Jvm.Cond.methodLink "SpillForge$Live" (94 : Nat) ({ cls := "SpillForge$Live", name := "revive", desc := "(I)V" } : Jvm.MethodName)) ∈ gw := gw_4 133 rfl rfl
theorem w_4_136 : (Jvm.Cond.code ({ cls := "SpillForge$Live", name := "revive", desc := "(I)V" } : Jvm.MethodName) prog_7_method_9_code (2 : Nat) (Option.none : Option Jvm.ClassFile.FieldType)) ∈ gw := gw_4 136 rfl rfl
theorem w_4_135 : (Jvm.Cond.instanceMethod ({ cls := "SpillForge$Live", name := "revive", desc := "(I)V" } : Jvm.MethodName)) ∈ gw := gw_4 135 rfl rfl
theorem w_p_36 : Cond.selects "SpillForge$Live" ⟨"SpillForge$Live", "revive", "(I)V"⟩ ⟨"SpillForge$Live", "revive", "(I)V"⟩ ∈ gw := gw_p _ 36 rfl rfl rfl
theorem w_4_96 : (Jvm.Cond.constantLong "java/lang/Long" (314 : Nat) (6148914691236517205 : Int64)) ∈ gw := gw_4 96 rfl rfl
theorem w_4_97 : (Jvm.Cond.constantLong "java/lang/Long" (316 : Nat) (3689348814741910323 : Int64)) ∈ gw := gw_4 97 rfl rfl
theorem w_4_98 : (Jvm.Cond.constantLong "java/lang/Long" (318 : Nat) (1085102592571150095 : Int64)) ∈ gw := gw_4 98 rfl rfl
theorem w_4_93 : (Jvm.Cond.methodLink "SpillForge$Live" (98 : Nat) ({ cls := "java/lang/Long", name := "bitCount", desc := "(J)I" } : Jvm.MethodName)) ∈ gw := gw_4 93 rfl rfl
theorem w_1_31 : (Jvm.Cond.initialized "java/lang/Long") ∈ gw := gw_1 31 rfl rfl
theorem w_4_95 : (Jvm.Cond.code ({ cls := "java/lang/Long", name := "bitCount", desc := "(J)I" } : Jvm.MethodName) prog_31_method_50_code (2 : Nat) (Option.some Jvm.ClassFile.FieldType.int)) ∈ gw := gw_4 95 rfl rfl
theorem w_4_94 : (Jvm.Cond.static ({ cls := "java/lang/Long", name := "bitCount", desc := "(J)I" } : Jvm.MethodName)) ∈ gw := gw_4 94 rfl rfl
theorem w_8_182 : (Jvm.Cond.fieldLink "java/lang/String" (9 : Nat) "java/lang/String" "value" "[B") ∈ gw := gw_8 182 rfl rfl
theorem w_3_65 : (Jvm.Cond.fieldLink "java/lang/String" (38 : Nat) "java/lang/String" "COMPACT_STRINGS" "Z") ∈ gw := gw_3 65 rfl rfl
theorem w_8_183 : (Jvm.Cond.fieldLink "java/lang/String" (15 : Nat) "java/lang/String" "coder" "B") ∈ gw := gw_8 183 rfl rfl
theorem w_3_61 : (Jvm.Cond.methodLink "java/lang/String" (335 : Nat) ({ cls := "java/lang/String", name := "coder", desc := "()B" } : Jvm.MethodName)) ∈ gw := gw_3 61 rfl rfl
theorem w_1_21 : (Jvm.Cond.initialized "java/lang/String") ∈ gw := gw_1 21 rfl rfl
theorem w_3_64 : (Jvm.Cond.code ({ cls := "java/lang/String", name := "coder", desc := "()B" } : Jvm.MethodName) prog_34_method_152_code (1 : Nat) (Option.some Jvm.ClassFile.FieldType.byte)) ∈ gw := gw_3 64 rfl rfl
theorem w_3_62 : (Jvm.Cond.instanceMethod ({ cls := "java/lang/String", name := "coder", desc := "()B" } : Jvm.MethodName)) ∈ gw := gw_3 62 rfl rfl
theorem w_3_63 : (Jvm.Cond.selects "java/lang/String" ({ cls := "java/lang/String", name := "coder", desc := "()B" } : Jvm.MethodName) ({ cls := "java/lang/String", name := "coder", desc := "()B" } : Jvm.MethodName)) ∈ gw := gw_3 63 rfl rfl
theorem w_3_57 : (Jvm.Cond.methodLink "SpillForge$Signs" (95 : Nat) ({ cls := "java/lang/String", name := "length", desc := "()I" } : Jvm.MethodName)) ∈ gw := gw_3 57 rfl rfl
theorem w_3_60 : (Jvm.Cond.code ({ cls := "java/lang/String", name := "length", desc := "()I" } : Jvm.MethodName) prog_34_method_54_code (1 : Nat) (Option.some Jvm.ClassFile.FieldType.int)) ∈ gw := gw_3 60 rfl rfl
theorem w_3_58 : (Jvm.Cond.instanceMethod ({ cls := "java/lang/String", name := "length", desc := "()I" } : Jvm.MethodName)) ∈ gw := gw_3 58 rfl rfl
theorem w_3_59 : (Jvm.Cond.selects "java/lang/String" ({ cls := "java/lang/String", name := "length", desc := "()I" } : Jvm.MethodName) ({ cls := "java/lang/String", name := "length", desc := "()I" } : Jvm.MethodName)) ∈ gw := gw_3 59 rfl rfl
theorem w_3_71 : (Jvm.Cond.methodLink "java/lang/String" (492 : Nat) ({ cls := "java/lang/String", name := "isLatin1", desc := "()Z" } : Jvm.MethodName)) ∈ gw := gw_3 71 rfl rfl
theorem w_3_74 : (Jvm.Cond.code ({ cls := "java/lang/String", name := "isLatin1", desc := "()Z" } : Jvm.MethodName) prog_34_method_154_code (1 : Nat) (Option.some Jvm.ClassFile.FieldType.boolean)) ∈ gw := gw_3 74 rfl rfl
theorem w_3_72 : (Jvm.Cond.instanceMethod ({ cls := "java/lang/String", name := "isLatin1", desc := "()Z" } : Jvm.MethodName)) ∈ gw := gw_3 72 rfl rfl
theorem w_3_73 : (Jvm.Cond.selects "java/lang/String" ({ cls := "java/lang/String", name := "isLatin1", desc := "()Z" } : Jvm.MethodName) ({ cls := "java/lang/String", name := "isLatin1", desc := "()Z" } : Jvm.MethodName)) ∈ gw := gw_3 73 rfl rfl
theorem w_3_81 : (Jvm.Cond.fieldLink "java/lang/String" (1053 : Nat) "jdk/internal/util/Preconditions" "SIOOBE_FORMATTER" "Ljava/util/function/BiFunction;") ∈ gw := gw_3 81 rfl rfl
theorem w_3_83 : (Jvm.Cond.methodLink "java/lang/String" (1059 : Nat) ({ cls := "jdk/internal/util/Preconditions", name := "checkIndex", desc := "(IILjava/util/function/BiFunction;)I" } : Jvm.MethodName)) ∈ gw := gw_3 83 rfl rfl
theorem w_1_29 : (Jvm.Cond.initialized "jdk/internal/util/Preconditions") ∈ gw := gw_1 29 rfl rfl
theorem w_3_85 : (Jvm.Cond.code ({ cls := "jdk/internal/util/Preconditions", name := "checkIndex", desc := "(IILjava/util/function/BiFunction;)I" } : Jvm.MethodName) prog_52_method_11_code (3 : Nat) (Option.some Jvm.ClassFile.FieldType.int)) ∈ gw := gw_3 85 rfl rfl
theorem w_3_84 : (Jvm.Cond.static ({ cls := "jdk/internal/util/Preconditions", name := "checkIndex", desc := "(IILjava/util/function/BiFunction;)I" } : Jvm.MethodName)) ∈ gw := gw_3 84 rfl rfl
theorem w_3_78 : (Jvm.Cond.methodLink "java/lang/StringLatin1" (9 : Nat) ({ cls := "java/lang/String", name := "checkIndex", desc := "(II)V" } : Jvm.MethodName)) ∈ gw := gw_3 78 rfl rfl
theorem w_3_80 : (Jvm.Cond.code ({ cls := "java/lang/String", name := "checkIndex", desc := "(II)V" } : Jvm.MethodName) prog_34_method_155_code (2 : Nat) (Option.none : Option Jvm.ClassFile.FieldType)) ∈ gw := gw_3 80 rfl rfl
theorem w_3_79 : (Jvm.Cond.static ({ cls := "java/lang/String", name := "checkIndex", desc := "(II)V" } : Jvm.MethodName)) ∈ gw := gw_3 79 rfl rfl
theorem w_3_75 : (Jvm.Cond.methodLink "java/lang/String" (495 : Nat) ({ cls := "java/lang/StringLatin1", name := "charAt", desc := "([BI)C" } : Jvm.MethodName)) ∈ gw := gw_3 75 rfl rfl
theorem w_1_28 : (Jvm.Cond.initialized "java/lang/StringLatin1") ∈ gw := gw_1 28 rfl rfl
theorem w_3_77 : (Jvm.Cond.code ({ cls := "java/lang/StringLatin1", name := "charAt", desc := "([BI)C" } : Jvm.MethodName) prog_37_method_2_code (2 : Nat) (Option.some Jvm.ClassFile.FieldType.char)) ∈ gw := gw_3 77 rfl rfl
theorem w_3_76 : (Jvm.Cond.static ({ cls := "java/lang/StringLatin1", name := "charAt", desc := "([BI)C" } : Jvm.MethodName)) ∈ gw := gw_3 76 rfl rfl
theorem w_3_67 : (Jvm.Cond.methodLink "SpillForge$Signs" (100 : Nat) ({ cls := "java/lang/String", name := "charAt", desc := "(I)C" } : Jvm.MethodName)) ∈ gw := gw_3 67 rfl rfl
theorem w_3_70 : (Jvm.Cond.code ({ cls := "java/lang/String", name := "charAt", desc := "(I)C" } : Jvm.MethodName) prog_34_method_56_code (2 : Nat) (Option.some Jvm.ClassFile.FieldType.char)) ∈ gw := gw_3 70 rfl rfl
theorem w_3_68 : (Jvm.Cond.instanceMethod ({ cls := "java/lang/String", name := "charAt", desc := "(I)C" } : Jvm.MethodName)) ∈ gw := gw_3 68 rfl rfl
theorem w_3_69 : (Jvm.Cond.selects "java/lang/String" ({ cls := "java/lang/String", name := "charAt", desc := "(I)C" } : Jvm.MethodName) ({ cls := "java/lang/String", name := "charAt", desc := "(I)C" } : Jvm.MethodName)) ∈ gw := gw_3 69 rfl rfl
theorem w_3_53 : (Jvm.Cond.methodLink "SpillForge$Signs" (83 : Nat) ({ cls := "SpillForge$Signs", name := "isWord", desc := "(Ljava/lang/String;)Z" } : Jvm.MethodName)) ∈ gw := gw_3 53 rfl rfl
theorem w_3_56 : (Jvm.Cond.code ({ cls := "SpillForge$Signs", name := "isWord", desc := "(Ljava/lang/String;)Z" } : Jvm.MethodName) prog_11_method_12_code (3 : Nat) (Option.some Jvm.ClassFile.FieldType.boolean)) ∈ gw := gw_3 56 rfl rfl
theorem w_3_55 : (Jvm.Cond.instanceMethod ({ cls := "SpillForge$Signs", name := "isWord", desc := "(Ljava/lang/String;)Z" } : Jvm.MethodName)) ∈ gw := gw_3 55 rfl rfl
theorem w_p_5 : Cond.selects "SpillForge$Signs" ⟨"SpillForge$Signs", "isWord", "(Ljava/lang/String;)Z"⟩ ⟨"SpillForge$Signs", "isWord", "(Ljava/lang/String;)Z"⟩ ∈ gw := gw_p _ 5 rfl rfl rfl
theorem w_3_45 : (Jvm.Cond.methodLink "SpillForge$Signs" (52 : Nat) ({ cls := "SpillForge$Signs", name := "isLetter", desc := "(I)Z" } : Jvm.MethodName)) ∈ gw := gw_3 45 rfl rfl
theorem w_3_47 : (Jvm.Cond.code ({ cls := "SpillForge$Signs", name := "isLetter", desc := "(I)Z" } : Jvm.MethodName) prog_11_method_16_code (1 : Nat) (Option.some Jvm.ClassFile.FieldType.boolean)) ∈ gw := gw_3 47 rfl rfl
theorem w_3_46 : (Jvm.Cond.static ({ cls := "SpillForge$Signs", name := "isLetter", desc := "(I)Z" } : Jvm.MethodName)) ∈ gw := gw_3 46 rfl rfl
theorem w_3_113 : (Jvm.Cond.methodLink "SpillForge$Signs" (104 : Nat) ({ cls := "SpillForge$Signs", name := "opOf", desc := "(II)I" } : Jvm.MethodName)) ∈ gw := gw_3 113 rfl rfl
theorem w_3_115 : (Jvm.Cond.code ({ cls := "SpillForge$Signs", name := "opOf", desc := "(II)I" } : Jvm.MethodName) prog_11_method_14_code (3 : Nat) (Option.some Jvm.ClassFile.FieldType.int)) ∈ gw := gw_3 115 rfl rfl
theorem w_3_114 : (Jvm.Cond.static ({ cls := "SpillForge$Signs", name := "opOf", desc := "(II)I" } : Jvm.MethodName)) ∈ gw := gw_3 114 rfl rfl
theorem w_3_12 : (Jvm.Cond.methodLink "SpillForge$Signs" (31 : Nat) ({ cls := "SpillForge$Signs", name := "skipBlanks", desc := "(I)I" } : Jvm.MethodName)) ∈ gw := gw_3 12 rfl rfl
theorem w_3_15 : (Jvm.Cond.code ({ cls := "SpillForge$Signs", name := "skipBlanks", desc := "(I)I" } : Jvm.MethodName) prog_11_method_7_code (5 : Nat) (Option.some Jvm.ClassFile.FieldType.int)) ∈ gw := gw_3 15 rfl rfl
theorem w_3_14 : (Jvm.Cond.instanceMethod ({ cls := "SpillForge$Signs", name := "skipBlanks", desc := "(I)I" } : Jvm.MethodName)) ∈ gw := gw_3 14 rfl rfl
theorem w_p_0 : Cond.selects "SpillForge$Signs" ⟨"SpillForge$Signs", "skipBlanks", "(I)I"⟩ ⟨"SpillForge$Signs", "skipBlanks", "(I)I"⟩ ∈ gw := gw_p _ 0 rfl rfl rfl
theorem w_3_109 : (Jvm.Cond.methodLink "SpillForge$Signs" (58 : Nat) ({ cls := "SpillForge$Signs", name := "takeMark", desc := "(II)V" } : Jvm.MethodName)) ∈ gw := gw_3 109 rfl rfl
theorem w_3_112 : (Jvm.Cond.code ({ cls := "SpillForge$Signs", name := "takeMark", desc := "(II)V" } : Jvm.MethodName) prog_11_method_13_code (4 : Nat) (Option.none : Option Jvm.ClassFile.FieldType)) ∈ gw := gw_3 112 rfl rfl
theorem w_3_111 : (Jvm.Cond.instanceMethod ({ cls := "SpillForge$Signs", name := "takeMark", desc := "(II)V" } : Jvm.MethodName)) ∈ gw := gw_3 111 rfl rfl
theorem w_p_6 : Cond.selects "SpillForge$Signs" ⟨"SpillForge$Signs", "takeMark", "(II)V"⟩ ⟨"SpillForge$Signs", "takeMark", "(II)V"⟩ ∈ gw := gw_p _ 6 rfl rfl rfl
theorem w_3_48 : (Jvm.Cond.methodLink "SpillForge$Signs" (55 : Nat) ({ cls := "SpillForge$Signs", name := "takeWord", desc := "()V" } : Jvm.MethodName)) ∈ gw := gw_3 48 rfl rfl
theorem w_3_51 : (Jvm.Cond.code ({ cls := "SpillForge$Signs", name := "takeWord", desc := "()V" } : Jvm.MethodName) prog_11_method_11_code (2 : Nat) (Option.none : Option Jvm.ClassFile.FieldType)) ∈ gw := gw_3 51 rfl rfl
theorem w_3_50 : (Jvm.Cond.instanceMethod ({ cls := "SpillForge$Signs", name := "takeWord", desc := "()V" } : Jvm.MethodName)) ∈ gw := gw_3 50 rfl rfl
theorem w_p_4 : Cond.selects "SpillForge$Signs" ⟨"SpillForge$Signs", "takeWord", "()V"⟩ ⟨"SpillForge$Signs", "takeWord", "()V"⟩ ∈ gw := gw_p _ 4 rfl rfl rfl
theorem w_3_27 : (Jvm.Cond.methodLink "SpillForge$Signs" (44 : Nat) ({ cls := "SpillForge$Signs", name := "takeNumber", desc := "(Z)V" } : Jvm.MethodName)) ∈ gw := gw_3 27 rfl rfl
theorem w_3_30 : (Jvm.Cond.code ({ cls := "SpillForge$Signs", name := "takeNumber", desc := "(Z)V" } : Jvm.MethodName) prog_11_method_8_code (6 : Nat) (Option.none : Option Jvm.ClassFile.FieldType)) ∈ gw := gw_3 30 rfl rfl
theorem w_3_29 : (Jvm.Cond.instanceMethod ({ cls := "SpillForge$Signs", name := "takeNumber", desc := "(Z)V" } : Jvm.MethodName)) ∈ gw := gw_3 29 rfl rfl
theorem w_p_1 : Cond.selects "SpillForge$Signs" ⟨"SpillForge$Signs", "takeNumber", "(Z)V"⟩ ⟨"SpillForge$Signs", "takeNumber", "(Z)V"⟩ ∈ gw := gw_p _ 1 rfl rfl rfl
theorem w_3_41 : (Jvm.Cond.methodLink "SpillForge$Signs" (48 : Nat) ({ cls := "SpillForge$Signs", name := "takeNamed", desc := "(II)V" } : Jvm.MethodName)) ∈ gw := gw_3 41 rfl rfl
theorem w_3_44 : (Jvm.Cond.code ({ cls := "SpillForge$Signs", name := "takeNamed", desc := "(II)V" } : Jvm.MethodName) prog_11_method_9_code (5 : Nat) (Option.none : Option Jvm.ClassFile.FieldType)) ∈ gw := gw_3 44 rfl rfl
theorem w_3_43 : (Jvm.Cond.instanceMethod ({ cls := "SpillForge$Signs", name := "takeNamed", desc := "(II)V" } : Jvm.MethodName)) ∈ gw := gw_3 43 rfl rfl
theorem w_p_3 : Cond.selects "SpillForge$Signs" ⟨"SpillForge$Signs", "takeNamed", "(II)V"⟩ ⟨"SpillForge$Signs", "takeNamed", "(II)V"⟩ ∈ gw := gw_p _ 3 rfl rfl rfl
theorem w_3_8 : (Jvm.Cond.methodLink "SpillForge$Signs" (28 : Nat) ({ cls := "SpillForge$Signs", name := "advance", desc := "()V" } : Jvm.MethodName)) ∈ gw := gw_3 8 rfl rfl
theorem w_3_11 : (Jvm.Cond.code ({ cls := "SpillForge$Signs", name := "advance", desc := "()V" } : Jvm.MethodName) prog_11_method_6_code (4 : Nat) (Option.none : Option Jvm.ClassFile.FieldType)) ∈ gw := gw_3 11 rfl rfl
theorem w_3_9 : (Jvm.Cond.instanceMethod ({ cls := "SpillForge$Signs", name := "advance", desc := "()V" } : Jvm.MethodName)) ∈ gw := gw_3 9 rfl rfl
theorem w_3_10 : (Jvm.Cond.selects "SpillForge$Signs" ({ cls := "SpillForge$Signs", name := "advance", desc := "()V" } : Jvm.MethodName) ({ cls := "SpillForge$Signs", name := "advance", desc := "()V" } : Jvm.MethodName)) ∈ gw := gw_3 10 rfl rfl
theorem w_3_0 : (Jvm.Cond.methodLink "SpillForge$Reader" (28 : Nat) ({ cls := "SpillForge$Code", name := "clear", desc := "()V" } : Jvm.MethodName)) ∈ gw := gw_3 0 rfl rfl
theorem w_3_3 : (Jvm.Cond.code ({ cls := "SpillForge$Code", name := "clear", desc := "()V" } : Jvm.MethodName) prog_2_method_2_code (1 : Nat) (Option.none : Option Jvm.ClassFile.FieldType)) ∈ gw := gw_3 3 rfl rfl
theorem w_3_1 : (Jvm.Cond.instanceMethod ({ cls := "SpillForge$Code", name := "clear", desc := "()V" } : Jvm.MethodName)) ∈ gw := gw_3 1 rfl rfl
theorem w_3_2 : (Jvm.Cond.selects "SpillForge$Code" ({ cls := "SpillForge$Code", name := "clear", desc := "()V" } : Jvm.MethodName) ({ cls := "SpillForge$Code", name := "clear", desc := "()V" } : Jvm.MethodName)) ∈ gw := gw_3 2 rfl rfl
theorem w_1_101 : (Jvm.Cond.fieldLink "SpillForge$Reader" (33 : Nat) "SpillForge$Reader" "labels" "J") ∈ gw := gw_1 101 rfl rfl
theorem w_1_102 : (Jvm.Cond.fieldLink "SpillForge$Reader" (37 : Nat) "SpillForge$Reader" "rows" "I") ∈ gw := gw_1 102 rfl rfl
theorem w_1_99 : (Jvm.Cond.fieldLink "SpillForge$Reader" (40 : Nat) "SpillForge$Reader" "rulePlace" "I") ∈ gw := gw_1 99 rfl rfl
theorem w_1_100 : (Jvm.Cond.fieldLink "SpillForge$Reader" (43 : Nat) "SpillForge$Reader" "ruleReason" "I") ∈ gw := gw_1 100 rfl rfl
theorem w_1_103 : (Jvm.Cond.fieldLink "SpillForge$Reader" (46 : Nat) "SpillForge$Reader" "due" "I") ∈ gw := gw_1 103 rfl rfl
theorem w_1_96 : (Jvm.Cond.fieldLink "SpillForge$Reader" (20 : Nat) "SpillForge$Reader" "signs" "LSpillForge$Signs;") ∈ gw := gw_1 96 rfl rfl
theorem w_3_4 : (Jvm.Cond.methodLink "SpillForge$Reader" (49 : Nat) ({ cls := "SpillForge$Signs", name := "open", desc := "()V" } : Jvm.MethodName)) ∈ gw := gw_3 4 rfl rfl
theorem w_3_7 : (Jvm.Cond.code ({ cls := "SpillForge$Signs", name := "open", desc := "()V" } : Jvm.MethodName) prog_11_method_5_code (1 : Nat) (Option.none : Option Jvm.ClassFile.FieldType)) ∈ gw := gw_3 7 rfl rfl
theorem w_3_5 : (Jvm.Cond.instanceMethod ({ cls := "SpillForge$Signs", name := "open", desc := "()V" } : Jvm.MethodName)) ∈ gw := gw_3 5 rfl rfl
theorem w_3_6 : (Jvm.Cond.selects "SpillForge$Signs" ({ cls := "SpillForge$Signs", name := "open", desc := "()V" } : Jvm.MethodName) ({ cls := "SpillForge$Signs", name := "open", desc := "()V" } : Jvm.MethodName)) ∈ gw := gw_3 6 rfl rfl
theorem w_3_117 : (Jvm.Cond.methodLink "SpillForge$Reader" (52 : Nat) ({ cls := "SpillForge$Signs", name := "kind", desc := "()I" } : Jvm.MethodName)) ∈ gw := gw_3 117 rfl rfl
theorem w_3_120 : (Jvm.Cond.code ({ cls := "SpillForge$Signs", name := "kind", desc := "()I" } : Jvm.MethodName) prog_11_method_2_code (1 : Nat) (Option.some Jvm.ClassFile.FieldType.int)) ∈ gw := gw_3 120 rfl rfl
theorem w_3_118 : (Jvm.Cond.instanceMethod ({ cls := "SpillForge$Signs", name := "kind", desc := "()I" } : Jvm.MethodName)) ∈ gw := gw_3 118 rfl rfl
theorem w_3_119 : (Jvm.Cond.selects "SpillForge$Signs" ({ cls := "SpillForge$Signs", name := "kind", desc := "()I" } : Jvm.MethodName) ({ cls := "SpillForge$Signs", name := "kind", desc := "()I" } : Jvm.MethodName)) ∈ gw := gw_3 119 rfl rfl
theorem w_1_98 : (Jvm.Cond.fieldLink "SpillForge$Reader" (24 : Nat) "SpillForge$Reader" "reason" "I") ∈ gw := gw_1 98 rfl rfl
theorem w_3_145 : (Jvm.Cond.methodLink "SpillForge$Reader" (63 : Nat) ({ cls := "SpillForge$Signs", name := "place", desc := "()I" } : Jvm.MethodName)) ∈ gw := gw_3 145 rfl rfl
theorem w_3_148 : (Jvm.Cond.code ({ cls := "SpillForge$Signs", name := "place", desc := "()I" } : Jvm.MethodName) prog_11_method_4_code (1 : Nat) (Option.some Jvm.ClassFile.FieldType.int)) ∈ gw := gw_3 148 rfl rfl
theorem w_3_146 : (Jvm.Cond.instanceMethod ({ cls := "SpillForge$Signs", name := "place", desc := "()I" } : Jvm.MethodName)) ∈ gw := gw_3 146 rfl rfl
theorem w_3_147 : (Jvm.Cond.selects "SpillForge$Signs" ({ cls := "SpillForge$Signs", name := "place", desc := "()I" } : Jvm.MethodName) ({ cls := "SpillForge$Signs", name := "place", desc := "()I" } : Jvm.MethodName)) ∈ gw := gw_3 147 rfl rfl
theorem w_3_129 : (Jvm.Cond.methodLink "SpillForge$Reader" (97 : Nat) ({ cls := "SpillForge$Signs", name := "value", desc := "()I" } : Jvm.MethodName)) ∈ gw := gw_3 129 rfl rfl
theorem w_3_132 : (Jvm.Cond.code ({ cls := "SpillForge$Signs", name := "value", desc := "()I" } : Jvm.MethodName) prog_11_method_3_code (1 : Nat) (Option.some Jvm.ClassFile.FieldType.int)) ∈ gw := gw_3 132 rfl rfl
theorem w_3_130 : (Jvm.Cond.instanceMethod ({ cls := "SpillForge$Signs", name := "value", desc := "()I" } : Jvm.MethodName)) ∈ gw := gw_3 130 rfl rfl
theorem w_3_131 : (Jvm.Cond.selects "SpillForge$Signs" ({ cls := "SpillForge$Signs", name := "value", desc := "()I" } : Jvm.MethodName) ({ cls := "SpillForge$Signs", name := "value", desc := "()I" } : Jvm.MethodName)) ∈ gw := gw_3 131 rfl rfl
theorem w_3_133 : (Jvm.Cond.methodLink "SpillForge$Reader" (100 : Nat) ({ cls := "SpillForge$Reader", name := "isBroken", desc := "()Z" } : Jvm.MethodName)) ∈ gw := gw_3 133 rfl rfl
theorem w_1_3 : (Jvm.Cond.initialized "SpillForge$Reader") ∈ gw := gw_1 3 rfl rfl
theorem w_3_136 : (Jvm.Cond.code ({ cls := "SpillForge$Reader", name := "isBroken", desc := "()Z" } : Jvm.MethodName) prog_10_method_20_code (1 : Nat) (Option.some Jvm.ClassFile.FieldType.boolean)) ∈ gw := gw_3 136 rfl rfl
theorem w_3_135 : (Jvm.Cond.instanceMethod ({ cls := "SpillForge$Reader", name := "isBroken", desc := "()Z" } : Jvm.MethodName)) ∈ gw := gw_3 135 rfl rfl
theorem w_p_9 : Cond.selects "SpillForge$Reader" ⟨"SpillForge$Reader", "isBroken", "()Z"⟩ ⟨"SpillForge$Reader", "isBroken", "()Z"⟩ ∈ gw := gw_p _ 9 rfl rfl rfl
theorem w_3_141 : (Jvm.Cond.methodLink "SpillForge$Reader" (110 : Nat) ({ cls := "SpillForge$Reader", name := "breakRule", desc := "(I)V" } : Jvm.MethodName)) ∈ gw := gw_3 141 rfl rfl
theorem w_3_144 : (Jvm.Cond.code ({ cls := "SpillForge$Reader", name := "breakRule", desc := "(I)V" } : Jvm.MethodName) prog_10_method_21_code (2 : Nat) (Option.none : Option Jvm.ClassFile.FieldType)) ∈ gw := gw_3 144 rfl rfl
theorem w_3_143 : (Jvm.Cond.instanceMethod ({ cls := "SpillForge$Reader", name := "breakRule", desc := "(I)V" } : Jvm.MethodName)) ∈ gw := gw_3 143 rfl rfl
theorem w_p_10 : Cond.selects "SpillForge$Reader" ⟨"SpillForge$Reader", "breakRule", "(I)V"⟩ ⟨"SpillForge$Reader", "breakRule", "(I)V"⟩ ∈ gw := gw_p _ 10 rfl rfl rfl
theorem w_3_137 : (Jvm.Cond.methodLink "SpillForge$Reader" (107 : Nat) ({ cls := "SpillForge$Code", name := "openBlock", desc := "()Z" } : Jvm.MethodName)) ∈ gw := gw_3 137 rfl rfl
theorem w_3_140 : (Jvm.Cond.code ({ cls := "SpillForge$Code", name := "openBlock", desc := "()Z" } : Jvm.MethodName) prog_2_method_6_code (1 : Nat) (Option.some Jvm.ClassFile.FieldType.boolean)) ∈ gw := gw_3 140 rfl rfl
theorem w_3_138 : (Jvm.Cond.instanceMethod ({ cls := "SpillForge$Code", name := "openBlock", desc := "()Z" } : Jvm.MethodName)) ∈ gw := gw_3 138 rfl rfl
theorem w_3_139 : (Jvm.Cond.selects "SpillForge$Code" ({ cls := "SpillForge$Code", name := "openBlock", desc := "()Z" } : Jvm.MethodName) ({ cls := "SpillForge$Code", name := "openBlock", desc := "()Z" } : Jvm.MethodName)) ∈ gw := gw_3 139 rfl rfl
theorem w_3_125 : (Jvm.Cond.methodLink "SpillForge$Reader" (70 : Nat) ({ cls := "SpillForge$Reader", name := "acceptLabel", desc := "(LSpillForge$Code;)Z" } : Jvm.MethodName)) ∈ gw := gw_3 125 rfl rfl
theorem w_3_128 : (Jvm.Cond.code ({ cls := "SpillForge$Reader", name := "acceptLabel", desc := "(LSpillForge$Code;)Z" } : Jvm.MethodName) prog_10_method_5_code (2 : Nat) (Option.some Jvm.ClassFile.FieldType.boolean)) ∈ gw := gw_3 128 rfl rfl
theorem w_3_127 : (Jvm.Cond.instanceMethod ({ cls := "SpillForge$Reader", name := "acceptLabel", desc := "(LSpillForge$Code;)Z" } : Jvm.MethodName)) ∈ gw := gw_3 127 rfl rfl
theorem w_p_8 : Cond.selects "SpillForge$Reader" ⟨"SpillForge$Reader", "acceptLabel", "(LSpillForge$Code;)Z"⟩ ⟨"SpillForge$Reader", "acceptLabel", "(LSpillForge$Code;)Z"⟩ ∈ gw := gw_p _ 8 rfl rfl rfl
theorem w_3_149 : (Jvm.Cond.methodLink "SpillForge$Reader" (73 : Nat) ({ cls := "SpillForge$Reader", name := "acceptMark", desc := "(II)Z" } : Jvm.MethodName)) ∈ gw := gw_3 149 rfl rfl
theorem w_3_152 : (Jvm.Cond.code ({ cls := "SpillForge$Reader", name := "acceptMark", desc := "(II)Z" } : Jvm.MethodName) prog_10_method_6_code (3 : Nat) (Option.some Jvm.ClassFile.FieldType.boolean)) ∈ gw := gw_3 152 rfl rfl
theorem w_3_151 : (Jvm.Cond.instanceMethod ({ cls := "SpillForge$Reader", name := "acceptMark", desc := "(II)Z" } : Jvm.MethodName)) ∈ gw := gw_3 151 rfl rfl
theorem w_p_11 : Cond.selects "SpillForge$Reader" ⟨"SpillForge$Reader", "acceptMark", "(II)Z"⟩ ⟨"SpillForge$Reader", "acceptMark", "(II)Z"⟩ ∈ gw := gw_p _ 11 rfl rfl rfl
theorem w_3_157 : (Jvm.Cond.methodLink "SpillForge$Reader" (114 : Nat) ({ cls := "SpillForge$Reader", name := "beginRow", desc := "()V" } : Jvm.MethodName)) ∈ gw := gw_3 157 rfl rfl
theorem w_3_160 : (Jvm.Cond.code ({ cls := "SpillForge$Reader", name := "beginRow", desc := "()V" } : Jvm.MethodName) prog_10_method_8_code (1 : Nat) (Option.none : Option Jvm.ClassFile.FieldType)) ∈ gw := gw_3 160 rfl rfl
theorem w_3_159 : (Jvm.Cond.instanceMethod ({ cls := "SpillForge$Reader", name := "beginRow", desc := "()V" } : Jvm.MethodName)) ∈ gw := gw_3 159 rfl rfl
theorem w_p_13 : Cond.selects "SpillForge$Reader" ⟨"SpillForge$Reader", "beginRow", "()V"⟩ ⟨"SpillForge$Reader", "beginRow", "()V"⟩ ∈ gw := gw_p _ 13 rfl rfl rfl
theorem w_1_105 : (Jvm.Cond.fieldLink "SpillForge$Reader" (124 : Nat) "SpillForge$Reader" "set" "I") ∈ gw := gw_1 105 rfl rfl
theorem w_1_106 : (Jvm.Cond.fieldLink "SpillForge$Reader" (127 : Nat) "SpillForge$Reader" "left" "I") ∈ gw := gw_1 106 rfl rfl
theorem w_1_107 : (Jvm.Cond.fieldLink "SpillForge$Reader" (130 : Nat) "SpillForge$Reader" "leftNumber" "I") ∈ gw := gw_1 107 rfl rfl
theorem w_3_161 : (Jvm.Cond.methodLink "SpillForge$Reader" (117 : Nat) ({ cls := "SpillForge$Reader", name := "beginLine", desc := "(II)Z" } : Jvm.MethodName)) ∈ gw := gw_3 161 rfl rfl
theorem w_3_164 : (Jvm.Cond.code ({ cls := "SpillForge$Reader", name := "beginLine", desc := "(II)Z" } : Jvm.MethodName) prog_10_method_9_code (3 : Nat) (Option.some Jvm.ClassFile.FieldType.boolean)) ∈ gw := gw_3 164 rfl rfl
theorem w_3_163 : (Jvm.Cond.instanceMethod ({ cls := "SpillForge$Reader", name := "beginLine", desc := "(II)Z" } : Jvm.MethodName)) ∈ gw := gw_3 163 rfl rfl
theorem w_p_14 : Cond.selects "SpillForge$Reader" ⟨"SpillForge$Reader", "beginLine", "(II)Z"⟩ ⟨"SpillForge$Reader", "beginLine", "(II)Z"⟩ ∈ gw := gw_p _ 14 rfl rfl rfl
theorem w_3_169 : (Jvm.Cond.methodLink "SpillForge$Reader" (152 : Nat) ({ cls := "SpillForge$Code", name := "add", desc := "(IIIIII)V" } : Jvm.MethodName)) ∈ gw := gw_3 169 rfl rfl
theorem w_3_172 : (Jvm.Cond.code ({ cls := "SpillForge$Code", name := "add", desc := "(IIIIII)V" } : Jvm.MethodName) prog_2_method_8_code (7 : Nat) (Option.none : Option Jvm.ClassFile.FieldType)) ∈ gw := gw_3 172 rfl rfl
theorem w_3_170 : (Jvm.Cond.instanceMethod ({ cls := "SpillForge$Code", name := "add", desc := "(IIIIII)V" } : Jvm.MethodName)) ∈ gw := gw_3 170 rfl rfl
theorem w_3_171 : (Jvm.Cond.selects "SpillForge$Code" ({ cls := "SpillForge$Code", name := "add", desc := "(IIIIII)V" } : Jvm.MethodName) ({ cls := "SpillForge$Code", name := "add", desc := "(IIIIII)V" } : Jvm.MethodName)) ∈ gw := gw_3 171 rfl rfl
theorem w_3_165 : (Jvm.Cond.methodLink "SpillForge$Reader" (120 : Nat) ({ cls := "SpillForge$Reader", name := "keep", desc := "(LSpillForge$Code;III)V" } : Jvm.MethodName)) ∈ gw := gw_3 165 rfl rfl
theorem w_3_168 : (Jvm.Cond.code ({ cls := "SpillForge$Reader", name := "keep", desc := "(LSpillForge$Code;III)V" } : Jvm.MethodName) prog_10_method_19_code (5 : Nat) (Option.none : Option Jvm.ClassFile.FieldType)) ∈ gw := gw_3 168 rfl rfl
theorem w_3_167 : (Jvm.Cond.instanceMethod ({ cls := "SpillForge$Reader", name := "keep", desc := "(LSpillForge$Code;III)V" } : Jvm.MethodName)) ∈ gw := gw_3 167 rfl rfl
theorem w_p_15 : Cond.selects "SpillForge$Reader" ⟨"SpillForge$Reader", "keep", "(LSpillForge$Code;III)V"⟩ ⟨"SpillForge$Reader", "keep", "(LSpillForge$Code;III)V"⟩ ∈ gw := gw_p _ 15 rfl rfl rfl
theorem w_3_153 : (Jvm.Cond.methodLink "SpillForge$Reader" (77 : Nat) ({ cls := "SpillForge$Reader", name := "acceptLine", desc := "(LSpillForge$Code;)Z" } : Jvm.MethodName)) ∈ gw := gw_3 153 rfl rfl
theorem w_3_156 : (Jvm.Cond.code ({ cls := "SpillForge$Reader", name := "acceptLine", desc := "(LSpillForge$Code;)Z" } : Jvm.MethodName) prog_10_method_7_code (2 : Nat) (Option.some Jvm.ClassFile.FieldType.boolean)) ∈ gw := gw_3 156 rfl rfl
theorem w_3_155 : (Jvm.Cond.instanceMethod ({ cls := "SpillForge$Reader", name := "acceptLine", desc := "(LSpillForge$Code;)Z" } : Jvm.MethodName)) ∈ gw := gw_3 155 rfl rfl
theorem w_p_12 : Cond.selects "SpillForge$Reader" ⟨"SpillForge$Reader", "acceptLine", "(LSpillForge$Code;)Z"⟩ ⟨"SpillForge$Reader", "acceptLine", "(LSpillForge$Code;)Z"⟩ ∈ gw := gw_p _ 12 rfl rfl rfl
theorem w_3_181 : (Jvm.Cond.methodLink "SpillForge$Reader" (142 : Nat) ({ cls := "SpillForge$Reader", name := "registerOrNone", desc := "()I" } : Jvm.MethodName)) ∈ gw := gw_3 181 rfl rfl
theorem w_3_184 : (Jvm.Cond.code ({ cls := "SpillForge$Reader", name := "registerOrNone", desc := "()I" } : Jvm.MethodName) prog_10_method_16_code (1 : Nat) (Option.some Jvm.ClassFile.FieldType.int)) ∈ gw := gw_3 184 rfl rfl
theorem w_3_183 : (Jvm.Cond.instanceMethod ({ cls := "SpillForge$Reader", name := "registerOrNone", desc := "()I" } : Jvm.MethodName)) ∈ gw := gw_3 183 rfl rfl
theorem w_p_18 : Cond.selects "SpillForge$Reader" ⟨"SpillForge$Reader", "registerOrNone", "()I"⟩ ⟨"SpillForge$Reader", "registerOrNone", "()I"⟩ ∈ gw := gw_p _ 18 rfl rfl rfl
theorem w_3_185 : (Jvm.Cond.methodLink "SpillForge$Reader" (145 : Nat) ({ cls := "SpillForge$Reader", name := "numberOrZero", desc := "()I" } : Jvm.MethodName)) ∈ gw := gw_3 185 rfl rfl
theorem w_3_188 : (Jvm.Cond.code ({ cls := "SpillForge$Reader", name := "numberOrZero", desc := "()I" } : Jvm.MethodName) prog_10_method_17_code (1 : Nat) (Option.some Jvm.ClassFile.FieldType.int)) ∈ gw := gw_3 188 rfl rfl
theorem w_3_187 : (Jvm.Cond.instanceMethod ({ cls := "SpillForge$Reader", name := "numberOrZero", desc := "()I" } : Jvm.MethodName)) ∈ gw := gw_3 187 rfl rfl
theorem w_p_19 : Cond.selects "SpillForge$Reader" ⟨"SpillForge$Reader", "numberOrZero", "()I"⟩ ⟨"SpillForge$Reader", "numberOrZero", "()I"⟩ ∈ gw := gw_p _ 19 rfl rfl rfl
theorem w_3_177 : (Jvm.Cond.methodLink "SpillForge$Reader" (133 : Nat) ({ cls := "SpillForge$Reader", name := "takeLeft", desc := "()V" } : Jvm.MethodName)) ∈ gw := gw_3 177 rfl rfl
theorem w_3_180 : (Jvm.Cond.code ({ cls := "SpillForge$Reader", name := "takeLeft", desc := "()V" } : Jvm.MethodName) prog_10_method_18_code (1 : Nat) (Option.none : Option Jvm.ClassFile.FieldType)) ∈ gw := gw_3 180 rfl rfl
theorem w_3_179 : (Jvm.Cond.instanceMethod ({ cls := "SpillForge$Reader", name := "takeLeft", desc := "()V" } : Jvm.MethodName)) ∈ gw := gw_3 179 rfl rfl
theorem w_p_17 : Cond.selects "SpillForge$Reader" ⟨"SpillForge$Reader", "takeLeft", "()V"⟩ ⟨"SpillForge$Reader", "takeLeft", "()V"⟩ ∈ gw := gw_p _ 17 rfl rfl rfl
theorem w_3_189 : (Jvm.Cond.methodLink "SpillForge$Reader" (136 : Nat) ({ cls := "SpillForge$Reader", name := "isOperand", desc := "()Z" } : Jvm.MethodName)) ∈ gw := gw_3 189 rfl rfl
theorem w_3_192 : (Jvm.Cond.code ({ cls := "SpillForge$Reader", name := "isOperand", desc := "()Z" } : Jvm.MethodName) prog_10_method_15_code (1 : Nat) (Option.some Jvm.ClassFile.FieldType.boolean)) ∈ gw := gw_3 192 rfl rfl
theorem w_3_191 : (Jvm.Cond.instanceMethod ({ cls := "SpillForge$Reader", name := "isOperand", desc := "()Z" } : Jvm.MethodName)) ∈ gw := gw_3 191 rfl rfl
theorem w_p_20 : Cond.selects "SpillForge$Reader" ⟨"SpillForge$Reader", "isOperand", "()Z"⟩ ⟨"SpillForge$Reader", "isOperand", "()Z"⟩ ∈ gw := gw_p _ 20 rfl rfl rfl
theorem w_3_173 : (Jvm.Cond.methodLink "SpillForge$Reader" (80 : Nat) ({ cls := "SpillForge$Reader", name := "acceptSource", desc := "(LSpillForge$Code;)Z" } : Jvm.MethodName)) ∈ gw := gw_3 173 rfl rfl
theorem w_3_176 : (Jvm.Cond.code ({ cls := "SpillForge$Reader", name := "acceptSource", desc := "(LSpillForge$Code;)Z" } : Jvm.MethodName) prog_10_method_10_code (2 : Nat) (Option.some Jvm.ClassFile.FieldType.boolean)) ∈ gw := gw_3 176 rfl rfl
theorem w_3_175 : (Jvm.Cond.instanceMethod ({ cls := "SpillForge$Reader", name := "acceptSource", desc := "(LSpillForge$Code;)Z" } : Jvm.MethodName)) ∈ gw := gw_3 175 rfl rfl
theorem w_p_16 : Cond.selects "SpillForge$Reader" ⟨"SpillForge$Reader", "acceptSource", "(LSpillForge$Code;)Z"⟩ ⟨"SpillForge$Reader", "acceptSource", "(LSpillForge$Code;)Z"⟩ ∈ gw := gw_p _ 16 rfl rfl rfl
theorem w_1_104 : (Jvm.Cond.fieldLink "SpillForge$Reader" (139 : Nat) "SpillForge$Reader" "op" "I") ∈ gw := gw_1 104 rfl rfl
theorem w_3_193 : (Jvm.Cond.methodLink "SpillForge$Reader" (83 : Nat) ({ cls := "SpillForge$Reader", name := "acceptOpOrLine", desc := "(LSpillForge$Code;)Z" } : Jvm.MethodName)) ∈ gw := gw_3 193 rfl rfl
theorem w_3_196 : (Jvm.Cond.code ({ cls := "SpillForge$Reader", name := "acceptOpOrLine", desc := "(LSpillForge$Code;)Z" } : Jvm.MethodName) prog_10_method_11_code (2 : Nat) (Option.some Jvm.ClassFile.FieldType.boolean)) ∈ gw := gw_3 196 rfl rfl
theorem w_3_195 : (Jvm.Cond.instanceMethod ({ cls := "SpillForge$Reader", name := "acceptOpOrLine", desc := "(LSpillForge$Code;)Z" } : Jvm.MethodName)) ∈ gw := gw_3 195 rfl rfl
theorem w_p_21 : Cond.selects "SpillForge$Reader" ⟨"SpillForge$Reader", "acceptOpOrLine", "(LSpillForge$Code;)Z"⟩ ⟨"SpillForge$Reader", "acceptOpOrLine", "(LSpillForge$Code;)Z"⟩ ∈ gw := gw_p _ 21 rfl rfl rfl
theorem w_3_197 : (Jvm.Cond.methodLink "SpillForge$Reader" (86 : Nat) ({ cls := "SpillForge$Reader", name := "acceptRight", desc := "(LSpillForge$Code;)Z" } : Jvm.MethodName)) ∈ gw := gw_3 197 rfl rfl
theorem w_3_200 : (Jvm.Cond.code ({ cls := "SpillForge$Reader", name := "acceptRight", desc := "(LSpillForge$Code;)Z" } : Jvm.MethodName) prog_10_method_12_code (2 : Nat) (Option.some Jvm.ClassFile.FieldType.boolean)) ∈ gw := gw_3 200 rfl rfl
theorem w_3_199 : (Jvm.Cond.instanceMethod ({ cls := "SpillForge$Reader", name := "acceptRight", desc := "(LSpillForge$Code;)Z" } : Jvm.MethodName)) ∈ gw := gw_3 199 rfl rfl
theorem w_p_22 : Cond.selects "SpillForge$Reader" ⟨"SpillForge$Reader", "acceptRight", "(LSpillForge$Code;)Z"⟩ ⟨"SpillForge$Reader", "acceptRight", "(LSpillForge$Code;)Z"⟩ ∈ gw := gw_p _ 22 rfl rfl rfl
theorem w_3_201 : (Jvm.Cond.methodLink "SpillForge$Reader" (89 : Nat) ({ cls := "SpillForge$Reader", name := "acceptOnly", desc := "(LSpillForge$Code;II)Z" } : Jvm.MethodName)) ∈ gw := gw_3 201 rfl rfl
theorem w_3_204 : (Jvm.Cond.code ({ cls := "SpillForge$Reader", name := "acceptOnly", desc := "(LSpillForge$Code;II)Z" } : Jvm.MethodName) prog_10_method_13_code (4 : Nat) (Option.some Jvm.ClassFile.FieldType.boolean)) ∈ gw := gw_3 204 rfl rfl
theorem w_3_203 : (Jvm.Cond.instanceMethod ({ cls := "SpillForge$Reader", name := "acceptOnly", desc := "(LSpillForge$Code;II)Z" } : Jvm.MethodName)) ∈ gw := gw_3 203 rfl rfl
theorem w_p_23 : Cond.selects "SpillForge$Reader" ⟨"SpillForge$Reader", "acceptOnly", "(LSpillForge$Code;II)Z"⟩ ⟨"SpillForge$Reader", "acceptOnly", "(LSpillForge$Code;II)Z"⟩ ∈ gw := gw_p _ 23 rfl rfl rfl
theorem w_3_209 : (Jvm.Cond.methodLink "SpillForge$Reader" (148 : Nat) ({ cls := "SpillForge$Code", name := "addGoal", desc := "(I)I" } : Jvm.MethodName)) ∈ gw := gw_3 209 rfl rfl
theorem w_3_212 : (Jvm.Cond.code ({ cls := "SpillForge$Code", name := "addGoal", desc := "(I)I" } : Jvm.MethodName) prog_2_method_7_code (5 : Nat) (Option.some Jvm.ClassFile.FieldType.int)) ∈ gw := gw_3 212 rfl rfl
theorem w_3_210 : (Jvm.Cond.instanceMethod ({ cls := "SpillForge$Code", name := "addGoal", desc := "(I)I" } : Jvm.MethodName)) ∈ gw := gw_3 210 rfl rfl
theorem w_3_211 : (Jvm.Cond.selects "SpillForge$Code" ({ cls := "SpillForge$Code", name := "addGoal", desc := "(I)I" } : Jvm.MethodName) ({ cls := "SpillForge$Code", name := "addGoal", desc := "(I)I" } : Jvm.MethodName)) ∈ gw := gw_3 211 rfl rfl
theorem w_1_97 : (Jvm.Cond.fieldLink "SpillForge$Reader" (9 : Nat) "SpillForge$Reader" "goalPlaces" "[I") ∈ gw := gw_1 97 rfl rfl
theorem w_3_205 : (Jvm.Cond.methodLink "SpillForge$Reader" (93 : Nat) ({ cls := "SpillForge$Reader", name := "acceptGoal", desc := "(LSpillForge$Code;I)Z" } : Jvm.MethodName)) ∈ gw := gw_3 205 rfl rfl
theorem w_3_208 : (Jvm.Cond.code ({ cls := "SpillForge$Reader", name := "acceptGoal", desc := "(LSpillForge$Code;I)Z" } : Jvm.MethodName) prog_10_method_14_code (4 : Nat) (Option.some Jvm.ClassFile.FieldType.boolean)) ∈ gw := gw_3 208 rfl rfl
theorem w_3_207 : (Jvm.Cond.instanceMethod ({ cls := "SpillForge$Reader", name := "acceptGoal", desc := "(LSpillForge$Code;I)Z" } : Jvm.MethodName)) ∈ gw := gw_3 207 rfl rfl
theorem w_p_24 : Cond.selects "SpillForge$Reader" ⟨"SpillForge$Reader", "acceptGoal", "(LSpillForge$Code;I)Z"⟩ ⟨"SpillForge$Reader", "acceptGoal", "(LSpillForge$Code;I)Z"⟩ ∈ gw := gw_p _ 24 rfl rfl rfl
theorem w_3_121 : (Jvm.Cond.methodLink "SpillForge$Reader" (56 : Nat) ({ cls := "SpillForge$Reader", name := "accept", desc := "(LSpillForge$Code;)Z" } : Jvm.MethodName)) ∈ gw := gw_3 121 rfl rfl
theorem w_3_124 : (Jvm.Cond.code ({ cls := "SpillForge$Reader", name := "accept", desc := "(LSpillForge$Code;)Z" } : Jvm.MethodName) prog_10_method_4_code (2 : Nat) (Option.some Jvm.ClassFile.FieldType.boolean)) ∈ gw := gw_3 124 rfl rfl
theorem w_3_123 : (Jvm.Cond.instanceMethod ({ cls := "SpillForge$Reader", name := "accept", desc := "(LSpillForge$Code;)Z" } : Jvm.MethodName)) ∈ gw := gw_3 123 rfl rfl
theorem w_p_7 : Cond.selects "SpillForge$Reader" ⟨"SpillForge$Reader", "accept", "(LSpillForge$Code;)Z"⟩ ⟨"SpillForge$Reader", "accept", "(LSpillForge$Code;)Z"⟩ ∈ gw := gw_p _ 7 rfl rfl rfl
theorem w_3_213 : (Jvm.Cond.methodLink "SpillForge$Reader" (60 : Nat) ({ cls := "SpillForge$Signs", name := "advance", desc := "()V" } : Jvm.MethodName)) ∈ gw := gw_3 213 rfl rfl
theorem w_3_218 : (Jvm.Cond.methodLink "SpillForge$Reader" (156 : Nat) ({ cls := "SpillForge$Code", name := "goal", desc := "(II)I" } : Jvm.MethodName)) ∈ gw := gw_3 218 rfl rfl
theorem w_3_221 : (Jvm.Cond.code ({ cls := "SpillForge$Code", name := "goal", desc := "(II)I" } : Jvm.MethodName) prog_2_method_5_code (3 : Nat) (Option.some Jvm.ClassFile.FieldType.int)) ∈ gw := gw_3 221 rfl rfl
theorem w_3_219 : (Jvm.Cond.instanceMethod ({ cls := "SpillForge$Code", name := "goal", desc := "(II)I" } : Jvm.MethodName)) ∈ gw := gw_3 219 rfl rfl
theorem w_3_220 : (Jvm.Cond.selects "SpillForge$Code" ({ cls := "SpillForge$Code", name := "goal", desc := "(II)I" } : Jvm.MethodName) ({ cls := "SpillForge$Code", name := "goal", desc := "(II)I" } : Jvm.MethodName)) ∈ gw := gw_3 220 rfl rfl
theorem w_3_214 : (Jvm.Cond.methodLink "SpillForge$Reader" (66 : Nat) ({ cls := "SpillForge$Reader", name := "checkGoals", desc := "(LSpillForge$Code;)V" } : Jvm.MethodName)) ∈ gw := gw_3 214 rfl rfl
theorem w_3_217 : (Jvm.Cond.code ({ cls := "SpillForge$Reader", name := "checkGoals", desc := "(LSpillForge$Code;)V" } : Jvm.MethodName) prog_10_method_22_code (4 : Nat) (Option.none : Option Jvm.ClassFile.FieldType)) ∈ gw := gw_3 217 rfl rfl
theorem w_3_216 : (Jvm.Cond.instanceMethod ({ cls := "SpillForge$Reader", name := "checkGoals", desc := "(LSpillForge$Code;)V" } : Jvm.MethodName)) ∈ gw := gw_3 216 rfl rfl
theorem w_p_25 : Cond.selects "SpillForge$Reader" ⟨"SpillForge$Reader", "checkGoals", "(LSpillForge$Code;)V"⟩ ⟨"SpillForge$Reader", "checkGoals", "(LSpillForge$Code;)V"⟩ ∈ gw := gw_p _ 25 rfl rfl rfl
theorem w_2_201 : (Jvm.Cond.fieldLink "SpillForge$Listing" (15 : Nat) "SpillForge$Listing" "size" "I") ∈ gw := gw_2 201 rfl rfl
theorem w_2_200 : (Jvm.Cond.fieldLink "SpillForge$Listing" (9 : Nat) "SpillForge$Listing" "bytes" "[B") ∈ gw := gw_2 200 rfl rfl
theorem w_6_169 : (Jvm.Cond.methodLink "SpillForge$Listing" (122 : Nat) ({ cls := "java/lang/String", name := "length", desc := "()I" } : Jvm.MethodName)) ∈ gw := gw_6 169 rfl rfl
theorem w_6_170 : (Jvm.Cond.methodLink "SpillForge$Listing" (113 : Nat) ({ cls := "java/lang/String", name := "charAt", desc := "(I)C" } : Jvm.MethodName)) ∈ gw := gw_6 170 rfl rfl
theorem w_6_171 : (Jvm.Cond.methodLink "SpillForge$Listing" (55 : Nat) ({ cls := "SpillForge$Listing", name := "addByte", desc := "(C)V" } : Jvm.MethodName)) ∈ gw := gw_6 171 rfl rfl
theorem w_1_13 : (Jvm.Cond.initialized "SpillForge$Listing") ∈ gw := gw_1 13 rfl rfl
theorem w_6_174 : (Jvm.Cond.code ({ cls := "SpillForge$Listing", name := "addByte", desc := "(C)V" } : Jvm.MethodName) prog_6_method_13_code (2 : Nat) (Option.none : Option Jvm.ClassFile.FieldType)) ∈ gw := gw_6 174 rfl rfl
theorem w_6_173 : (Jvm.Cond.instanceMethod ({ cls := "SpillForge$Listing", name := "addByte", desc := "(C)V" } : Jvm.MethodName)) ∈ gw := gw_6 173 rfl rfl
theorem w_p_66 : Cond.selects "SpillForge$Listing" ⟨"SpillForge$Listing", "addByte", "(C)V"⟩ ⟨"SpillForge$Listing", "addByte", "(C)V"⟩ ∈ gw := gw_p _ 66 rfl rfl rfl
theorem w_6_165 : (Jvm.Cond.methodLink "SpillForge$Listing" (32 : Nat) ({ cls := "SpillForge$Listing", name := "addText", desc := "(Ljava/lang/String;)V" } : Jvm.MethodName)) ∈ gw := gw_6 165 rfl rfl
theorem w_6_168 : (Jvm.Cond.code ({ cls := "SpillForge$Listing", name := "addText", desc := "(Ljava/lang/String;)V" } : Jvm.MethodName) prog_6_method_11_code (3 : Nat) (Option.none : Option Jvm.ClassFile.FieldType)) ∈ gw := gw_6 168 rfl rfl
theorem w_6_167 : (Jvm.Cond.instanceMethod ({ cls := "SpillForge$Listing", name := "addText", desc := "(Ljava/lang/String;)V" } : Jvm.MethodName)) ∈ gw := gw_6 167 rfl rfl
theorem w_p_65 : Cond.selects "SpillForge$Listing" ⟨"SpillForge$Listing", "addText", "(Ljava/lang/String;)V"⟩ ⟨"SpillForge$Listing", "addText", "(Ljava/lang/String;)V"⟩ ∈ gw := gw_p _ 65 rfl rfl rfl
theorem w_6_179 : (Jvm.Cond.methodLink "SpillForge$Listing" (126 : Nat) ({ cls := "java/lang/Math", name := "abs", desc := "(J)J" } : Jvm.MethodName)) ∈ gw := gw_6 179 rfl rfl
theorem w_6_181 : (Jvm.Cond.code ({ cls := "java/lang/Math", name := "abs", desc := "(J)J" } : Jvm.MethodName) prog_32_method_61_code (2 : Nat) (Option.some Jvm.ClassFile.FieldType.long)) ∈ gw := gw_6 181 rfl rfl
theorem w_6_180 : (Jvm.Cond.static ({ cls := "java/lang/Math", name := "abs", desc := "(J)J" } : Jvm.MethodName)) ∈ gw := gw_6 180 rfl rfl
theorem w_6_182 : (Jvm.Cond.constantLong "SpillForge$Listing" (132 : Nat) (10 : Int64)) ∈ gw := gw_6 182 rfl rfl
theorem w_6_183 : (Jvm.Cond.constantLong "SpillForge$Listing" (134 : Nat) (48 : Int64)) ∈ gw := gw_6 183 rfl rfl
theorem w_6_175 : (Jvm.Cond.methodLink "SpillForge$Listing" (119 : Nat) ({ cls := "SpillForge$Listing", name := "addNumber", desc := "(I)V" } : Jvm.MethodName)) ∈ gw := gw_6 175 rfl rfl
theorem w_6_178 : (Jvm.Cond.code ({ cls := "SpillForge$Listing", name := "addNumber", desc := "(I)V" } : Jvm.MethodName) prog_6_method_12_code (7 : Nat) (Option.none : Option Jvm.ClassFile.FieldType)) ∈ gw := gw_6 178 rfl rfl
theorem w_6_177 : (Jvm.Cond.instanceMethod ({ cls := "SpillForge$Listing", name := "addNumber", desc := "(I)V" } : Jvm.MethodName)) ∈ gw := gw_6 177 rfl rfl
theorem w_p_67 : Cond.selects "SpillForge$Listing" ⟨"SpillForge$Listing", "addNumber", "(I)V"⟩ ⟨"SpillForge$Listing", "addNumber", "(I)V"⟩ ∈ gw := gw_p _ 67 rfl rfl rfl
theorem w_6_161 : (Jvm.Cond.methodLink "SpillForge$Listing" (26 : Nat) ({ cls := "SpillForge$Listing", name := "addNamed", desc := "(Ljava/lang/String;I)V" } : Jvm.MethodName)) ∈ gw := gw_6 161 rfl rfl
theorem w_6_164 : (Jvm.Cond.code ({ cls := "SpillForge$Listing", name := "addNamed", desc := "(Ljava/lang/String;I)V" } : Jvm.MethodName) prog_6_method_10_code (3 : Nat) (Option.none : Option Jvm.ClassFile.FieldType)) ∈ gw := gw_6 164 rfl rfl
theorem w_6_163 : (Jvm.Cond.instanceMethod ({ cls := "SpillForge$Listing", name := "addNamed", desc := "(Ljava/lang/String;I)V" } : Jvm.MethodName)) ∈ gw := gw_6 163 rfl rfl
theorem w_p_64 : Cond.selects "SpillForge$Listing" ⟨"SpillForge$Listing", "addNamed", "(Ljava/lang/String;I)V"⟩ ⟨"SpillForge$Listing", "addNamed", "(Ljava/lang/String;I)V"⟩ ∈ gw := gw_p _ 64 rfl rfl rfl
theorem w_6_185 : (Jvm.Cond.methodLink "SpillForge$Listing" (40 : Nat) ({ cls := "SpillForge$Code", name := "blockEnd", desc := "(I)I" } : Jvm.MethodName)) ∈ gw := gw_6 185 rfl rfl
theorem w_6_191 : (Jvm.Cond.methodLink "SpillForge$Listing" (67 : Nat) ({ cls := "SpillForge$Listing", name := "addOperand", desc := "(II)V" } : Jvm.MethodName)) ∈ gw := gw_6 191 rfl rfl
theorem w_6_194 : (Jvm.Cond.code ({ cls := "SpillForge$Listing", name := "addOperand", desc := "(II)V" } : Jvm.MethodName) prog_6_method_9_code (3 : Nat) (Option.none : Option Jvm.ClassFile.FieldType)) ∈ gw := gw_6 194 rfl rfl
theorem w_6_193 : (Jvm.Cond.instanceMethod ({ cls := "SpillForge$Listing", name := "addOperand", desc := "(II)V" } : Jvm.MethodName)) ∈ gw := gw_6 193 rfl rfl
theorem w_p_69 : Cond.selects "SpillForge$Listing" ⟨"SpillForge$Listing", "addOperand", "(II)V"⟩ ⟨"SpillForge$Listing", "addOperand", "(II)V"⟩ ∈ gw := gw_p _ 69 rfl rfl rfl
theorem w_6_212 : (Jvm.Cond.methodLink "SpillForge$Listing" (104 : Nat) ({ cls := "SpillForge$Listing", name := "addOp", desc := "(I)V" } : Jvm.MethodName)) ∈ gw := gw_6 212 rfl rfl
theorem w_6_215 : (Jvm.Cond.code ({ cls := "SpillForge$Listing", name := "addOp", desc := "(I)V" } : Jvm.MethodName) prog_6_method_8_code (2 : Nat) (Option.none : Option Jvm.ClassFile.FieldType)) ∈ gw := gw_6 215 rfl rfl
theorem w_6_214 : (Jvm.Cond.instanceMethod ({ cls := "SpillForge$Listing", name := "addOp", desc := "(I)V" } : Jvm.MethodName)) ∈ gw := gw_6 214 rfl rfl
theorem w_p_72 : Cond.selects "SpillForge$Listing" ⟨"SpillForge$Listing", "addOp", "(I)V"⟩ ⟨"SpillForge$Listing", "addOp", "(I)V"⟩ ∈ gw := gw_p _ 72 rfl rfl rfl
theorem w_6_207 : (Jvm.Cond.methodLink "SpillForge$Listing" (99 : Nat) ({ cls := "SpillForge$Listing", name := "addSource", desc := "(LSpillForge$Code;I)V" } : Jvm.MethodName)) ∈ gw := gw_6 207 rfl rfl
theorem w_6_210 : (Jvm.Cond.code ({ cls := "SpillForge$Listing", name := "addSource", desc := "(LSpillForge$Code;I)V" } : Jvm.MethodName) prog_6_method_7_code (3 : Nat) (Option.none : Option Jvm.ClassFile.FieldType)) ∈ gw := gw_6 210 rfl rfl
theorem w_6_209 : (Jvm.Cond.instanceMethod ({ cls := "SpillForge$Listing", name := "addSource", desc := "(LSpillForge$Code;I)V" } : Jvm.MethodName)) ∈ gw := gw_6 209 rfl rfl
theorem w_p_71 : Cond.selects "SpillForge$Listing" ⟨"SpillForge$Listing", "addSource", "(LSpillForge$Code;I)V"⟩ ⟨"SpillForge$Listing", "addSource", "(LSpillForge$Code;I)V"⟩ ∈ gw := gw_p _ 71 rfl rfl rfl
theorem w_6_199 : (Jvm.Cond.methodLink "SpillForge$Listing" (51 : Nat) ({ cls := "SpillForge$Listing", name := "addRow", desc := "(LSpillForge$Code;I)V" } : Jvm.MethodName)) ∈ gw := gw_6 199 rfl rfl
theorem w_6_202 : (Jvm.Cond.code ({ cls := "SpillForge$Listing", name := "addRow", desc := "(LSpillForge$Code;I)V" } : Jvm.MethodName) prog_6_method_6_code (3 : Nat) (Option.none : Option Jvm.ClassFile.FieldType)) ∈ gw := gw_6 202 rfl rfl
theorem w_6_201 : (Jvm.Cond.instanceMethod ({ cls := "SpillForge$Listing", name := "addRow", desc := "(LSpillForge$Code;I)V" } : Jvm.MethodName)) ∈ gw := gw_6 201 rfl rfl
theorem w_p_70 : Cond.selects "SpillForge$Listing" ⟨"SpillForge$Listing", "addRow", "(LSpillForge$Code;I)V"⟩ ⟨"SpillForge$Listing", "addRow", "(LSpillForge$Code;I)V"⟩ ∈ gw := gw_p _ 70 rfl rfl rfl
theorem w_6_186 : (Jvm.Cond.methodLink "SpillForge$Listing" (47 : Nat) ({ cls := "SpillForge$Listing", name := "addEnd", desc := "(LSpillForge$Code;II)V" } : Jvm.MethodName)) ∈ gw := gw_6 186 rfl rfl
theorem w_6_189 : (Jvm.Cond.code ({ cls := "SpillForge$Listing", name := "addEnd", desc := "(LSpillForge$Code;II)V" } : Jvm.MethodName) prog_6_method_5_code (4 : Nat) (Option.none : Option Jvm.ClassFile.FieldType)) ∈ gw := gw_6 189 rfl rfl
theorem w_6_188 : (Jvm.Cond.instanceMethod ({ cls := "SpillForge$Listing", name := "addEnd", desc := "(LSpillForge$Code;II)V" } : Jvm.MethodName)) ∈ gw := gw_6 188 rfl rfl
theorem w_p_68 : Cond.selects "SpillForge$Listing" ⟨"SpillForge$Listing", "addEnd", "(LSpillForge$Code;II)V"⟩ ⟨"SpillForge$Listing", "addEnd", "(LSpillForge$Code;II)V"⟩ ∈ gw := gw_p _ 68 rfl rfl rfl
theorem w_2_207 : (Jvm.Cond.fieldLink "SpillForge" (12 : Nat) "SpillForge" "tape" "LSpillForge$Tape;") ∈ gw := gw_2 207 rfl rfl
theorem w_4_191 : (Jvm.Cond.methodLink "SpillForge" (64 : Nat) ({ cls := "SpillForge$Tape", name := "hasRoom", desc := "(I)Z" } : Jvm.MethodName)) ∈ gw := gw_4 191 rfl rfl
theorem w_4_194 : (Jvm.Cond.code ({ cls := "SpillForge$Tape", name := "hasRoom", desc := "(I)Z" } : Jvm.MethodName) prog_12_method_3_code (2 : Nat) (Option.some Jvm.ClassFile.FieldType.boolean)) ∈ gw := gw_4 194 rfl rfl
theorem w_4_192 : (Jvm.Cond.instanceMethod ({ cls := "SpillForge$Tape", name := "hasRoom", desc := "(I)Z" } : Jvm.MethodName)) ∈ gw := gw_4 192 rfl rfl
theorem w_4_193 : (Jvm.Cond.selects "SpillForge$Tape" ({ cls := "SpillForge$Tape", name := "hasRoom", desc := "(I)Z" } : Jvm.MethodName) ({ cls := "SpillForge$Tape", name := "hasRoom", desc := "(I)Z" } : Jvm.MethodName)) ∈ gw := gw_4 193 rfl rfl
theorem w_4_214 : (Jvm.Cond.lays "java/lang/IndexOutOfBoundsException" "java/lang/Throwable" "backtrace" "Ljava/lang/Object;") ∈ gw := gw_4 214 rfl rfl
theorem w_4_215 : (Jvm.Cond.lays "java/lang/Throwable" "java/lang/Throwable" "backtrace" "Ljava/lang/Object;") ∈ gw := gw_4 215 rfl rfl
theorem w_4_216 : (Jvm.Cond.fieldLink "java/lang/Throwable" (198 : Nat) "java/lang/Throwable" "backtrace" "Ljava/lang/Object;") ∈ gw := gw_4 216 rfl rfl
theorem w_4_212 : (Jvm.Cond.lays "java/lang/IndexOutOfBoundsException" "java/lang/Throwable" "detailMessage" "Ljava/lang/String;") ∈ gw := gw_4 212 rfl rfl
theorem w_4_210 : (Jvm.Cond.lays "java/lang/IndexOutOfBoundsException" "java/lang/Throwable" "suppressedExceptions" "Ljava/util/List;") ∈ gw := gw_4 210 rfl rfl
theorem w_4_208 : (Jvm.Cond.lays "java/lang/IndexOutOfBoundsException" "java/lang/Throwable" "stackTrace" "[Ljava/lang/StackTraceElement;") ∈ gw := gw_4 208 rfl rfl
theorem w_4_206 : (Jvm.Cond.lays "java/lang/IndexOutOfBoundsException" "java/lang/Throwable" "cause" "Ljava/lang/Throwable;") ∈ gw := gw_4 206 rfl rfl
theorem w_4_205 : (Jvm.Cond.selects "java/lang/IndexOutOfBoundsException" ({ cls := "java/lang/Throwable", name := "fillInStackTrace", desc := "()Ljava/lang/Throwable;" } : Jvm.MethodName) ({ cls := "java/lang/Throwable", name := "fillInStackTrace", desc := "()Ljava/lang/Throwable;" } : Jvm.MethodName)) ∈ gw := gw_4 205 rfl rfl
theorem w_4_204 : (Jvm.Cond.selects "java/lang/IndexOutOfBoundsException" ({ cls := "java/lang/Throwable", name := "fillInStackTrace", desc := "(I)Ljava/lang/Throwable;" } : Jvm.MethodName) ({ cls := "java/lang/Throwable", name := "fillInStackTrace", desc := "(I)Ljava/lang/Throwable;" } : Jvm.MethodName)) ∈ gw := gw_4 204 rfl rfl
theorem w_4_196 : (Jvm.Cond.instantiable "java/lang/IndexOutOfBoundsException" (6 : Nat)) ∈ gw := gw_4 196 rfl rfl
theorem w_5_1 : (Jvm.Cond.methodLink "SpillForge" (72 : Nat) ({ cls := "java/lang/IndexOutOfBoundsException", name := "<init>", desc := "(Ljava/lang/String;)V" } : Jvm.MethodName)) ∈ gw := gw_5 1 rfl rfl
theorem w_5_11 : (Jvm.Cond.instanceMethod ({ cls := "java/lang/Throwable", name := "<init>", desc := "(Ljava/lang/String;)V" } : Jvm.MethodName)) ∈ gw := gw_5 11 rfl rfl
theorem w_5_10 : (Jvm.Cond.methodLink "java/lang/Exception" (7 : Nat) ({ cls := "java/lang/Throwable", name := "<init>", desc := "(Ljava/lang/String;)V" } : Jvm.MethodName)) ∈ gw := gw_5 10 rfl rfl
theorem w_5_9 : (Jvm.Cond.code ({ cls := "java/lang/Exception", name := "<init>", desc := "(Ljava/lang/String;)V" } : Jvm.MethodName) prog_25_method_2_code (2 : Nat) (Option.none : Option Jvm.ClassFile.FieldType)) ∈ gw := gw_5 9 rfl rfl
theorem w_5_8 : (Jvm.Cond.instanceMethod ({ cls := "java/lang/Exception", name := "<init>", desc := "(Ljava/lang/String;)V" } : Jvm.MethodName)) ∈ gw := gw_5 8 rfl rfl
theorem w_5_7 : (Jvm.Cond.methodLink "java/lang/RuntimeException" (7 : Nat) ({ cls := "java/lang/Exception", name := "<init>", desc := "(Ljava/lang/String;)V" } : Jvm.MethodName)) ∈ gw := gw_5 7 rfl rfl
theorem w_5_6 : (Jvm.Cond.code ({ cls := "java/lang/RuntimeException", name := "<init>", desc := "(Ljava/lang/String;)V" } : Jvm.MethodName) prog_33_method_2_code (2 : Nat) (Option.none : Option Jvm.ClassFile.FieldType)) ∈ gw := gw_5 6 rfl rfl
theorem w_5_5 : (Jvm.Cond.instanceMethod ({ cls := "java/lang/RuntimeException", name := "<init>", desc := "(Ljava/lang/String;)V" } : Jvm.MethodName)) ∈ gw := gw_5 5 rfl rfl
theorem w_5_4 : (Jvm.Cond.methodLink "java/lang/IndexOutOfBoundsException" (7 : Nat) ({ cls := "java/lang/RuntimeException", name := "<init>", desc := "(Ljava/lang/String;)V" } : Jvm.MethodName)) ∈ gw := gw_5 4 rfl rfl
theorem w_5_3 : (Jvm.Cond.code ({ cls := "java/lang/IndexOutOfBoundsException", name := "<init>", desc := "(Ljava/lang/String;)V" } : Jvm.MethodName) prog_28_method_2_code (2 : Nat) (Option.none : Option Jvm.ClassFile.FieldType)) ∈ gw := gw_5 3 rfl rfl
theorem w_5_2 : (Jvm.Cond.instanceMethod ({ cls := "java/lang/IndexOutOfBoundsException", name := "<init>", desc := "(Ljava/lang/String;)V" } : Jvm.MethodName)) ∈ gw := gw_5 2 rfl rfl
theorem w_4_213 : (Jvm.Cond.lays "java/lang/Throwable" "java/lang/Throwable" "detailMessage" "Ljava/lang/String;") ∈ gw := gw_4 213 rfl rfl
theorem w_5_14 : (Jvm.Cond.fieldLink "java/lang/Throwable" (31 : Nat) "java/lang/Throwable" "detailMessage" "Ljava/lang/String;") ∈ gw := gw_5 14 rfl rfl
theorem w_5_12 : (Jvm.Cond.code ({ cls := "java/lang/Throwable", name := "<init>", desc := "(Ljava/lang/String;)V" } : Jvm.MethodName) prog_40_method_2_code (2 : Nat) (Option.none : Option Jvm.ClassFile.FieldType)) ∈ gw := gw_5 12 rfl rfl
theorem w_4_223 : (Jvm.Cond.fieldLink "java/lang/Throwable" (20 : Nat) "java/lang/Throwable" "SUPPRESSED_SENTINEL" "Ljava/util/List;") ∈ gw := gw_4 223 rfl rfl
theorem w_4_221 : (Jvm.Cond.fieldLink "java/lang/Throwable" (13 : Nat) "java/lang/Throwable" "UNASSIGNED_STACK" "[Ljava/lang/StackTraceElement;") ∈ gw := gw_4 221 rfl rfl
theorem w_4_211 : (Jvm.Cond.lays "java/lang/Throwable" "java/lang/Throwable" "suppressedExceptions" "Ljava/util/List;") ∈ gw := gw_4 211 rfl rfl
theorem w_5_17 : (Jvm.Cond.fieldLink "java/lang/Throwable" (24 : Nat) "java/lang/Throwable" "suppressedExceptions" "Ljava/util/List;") ∈ gw := gw_5 17 rfl rfl
theorem w_4_209 : (Jvm.Cond.lays "java/lang/Throwable" "java/lang/Throwable" "stackTrace" "[Ljava/lang/StackTraceElement;") ∈ gw := gw_4 209 rfl rfl
theorem w_5_16 : (Jvm.Cond.fieldLink "java/lang/Throwable" (17 : Nat) "java/lang/Throwable" "stackTrace" "[Ljava/lang/StackTraceElement;") ∈ gw := gw_5 16 rfl rfl
theorem w_4_207 : (Jvm.Cond.lays "java/lang/Throwable" "java/lang/Throwable" "cause" "Ljava/lang/Throwable;") ∈ gw := gw_4 207 rfl rfl
theorem w_5_15 : (Jvm.Cond.fieldLink "java/lang/Throwable" (7 : Nat) "java/lang/Throwable" "cause" "Ljava/lang/Throwable;") ∈ gw := gw_5 15 rfl rfl
theorem w_4_235 : (Jvm.Cond.methodLink "java/lang/Throwable" (202 : Nat) ({ cls := "java/lang/Throwable", name := "fillInStackTrace", desc := "(I)Ljava/lang/Throwable;" } : Jvm.MethodName)) ∈ gw := gw_4 235 rfl rfl
theorem w_4_225 : (Jvm.Cond.methodLink "java/lang/Throwable" (27 : Nat) ({ cls := "java/lang/Throwable", name := "fillInStackTrace", desc := "()Ljava/lang/Throwable;" } : Jvm.MethodName)) ∈ gw := gw_4 225 rfl rfl
theorem w_4_220 : (Jvm.Cond.methodLink "java/lang/Throwable" (1 : Nat) ({ cls := "java/lang/Object", name := "<init>", desc := "()V" } : Jvm.MethodName)) ∈ gw := gw_4 220 rfl rfl
theorem w_1_52 : (Jvm.Cond.code ({ cls := "java/lang/Object", name := "<init>", desc := "()V" } : Jvm.MethodName) object_method_1_code (1 : Nat) (Option.none : Option Jvm.ClassFile.FieldType)) ∈ gw := gw_1 52 rfl rfl
theorem w_1_51 : (Jvm.Cond.instanceMethod ({ cls := "java/lang/Object", name := "<init>", desc := "()V" } : Jvm.MethodName)) ∈ gw := gw_1 51 rfl rfl
theorem w_4_219 : (Jvm.Cond.code ({ cls := "java/lang/Throwable", name := "<init>", desc := "()V" } : Jvm.MethodName) prog_40_method_1_code (1 : Nat) (Option.none : Option Jvm.ClassFile.FieldType)) ∈ gw := gw_4 219 rfl rfl
theorem w_4_218 : (Jvm.Cond.instanceMethod ({ cls := "java/lang/Throwable", name := "<init>", desc := "()V" } : Jvm.MethodName)) ∈ gw := gw_4 218 rfl rfl
theorem w_4_239 : (Jvm.Cond.native ({ cls := "java/lang/Throwable", name := "fillInStackTrace", desc := "(I)Ljava/lang/Throwable;" } : Jvm.MethodName)) ∈ gw := gw_4 239 rfl rfl
theorem w_4_237 : (Jvm.Cond.instanceMethod ({ cls := "java/lang/Throwable", name := "fillInStackTrace", desc := "(I)Ljava/lang/Throwable;" } : Jvm.MethodName)) ∈ gw := gw_4 237 rfl rfl
theorem w_4_234 : (Jvm.Cond.codeSync ({ cls := "java/lang/Throwable", name := "fillInStackTrace", desc := "()Ljava/lang/Throwable;" } : Jvm.MethodName) prog_40_method_18_code (1 : Nat) (Option.some (Jvm.ClassFile.FieldType.object "java/lang/Throwable"))) ∈ gw := gw_4 234 rfl rfl
theorem w_4_226 : (Jvm.Cond.instanceMethod ({ cls := "java/lang/Throwable", name := "fillInStackTrace", desc := "()Ljava/lang/Throwable;" } : Jvm.MethodName)) ∈ gw := gw_4 226 rfl rfl
theorem w_4_217 : (Jvm.Cond.superclass "java/lang/Throwable" "java/lang/Object") ∈ gw := gw_4 217 rfl rfl
theorem w_1_23 : (Jvm.Cond.initialized "java/lang/Throwable") ∈ gw := gw_1 23 rfl rfl
theorem th_68_72_SpillForge_g : (vx_atS "SpillForge" 72 "java/lang/IndexOutOfBoundsException" ["java/lang/RuntimeException", "java/lang/Exception"]).filter goodWord = [(Jvm.Cond.initialized "java/lang/Throwable"), (Jvm.Cond.superclass "java/lang/Throwable" "java/lang/Object"), (Jvm.Cond.instanceMethod ({ cls := "java/lang/Throwable", name := "fillInStackTrace", desc := "()Ljava/lang/Throwable;" } : Jvm.MethodName)), (Jvm.Cond.codeSync ({ cls := "java/lang/Throwable", name := "fillInStackTrace", desc := "()Ljava/lang/Throwable;" } : Jvm.MethodName) prog_40_method_18_code (1 : Nat) (Option.some (Jvm.ClassFile.FieldType.object "java/lang/Throwable"))), (Jvm.Cond.instanceMethod ({ cls := "java/lang/Throwable", name := "fillInStackTrace", desc := "(I)Ljava/lang/Throwable;" } : Jvm.MethodName)), (Jvm.Cond.native ({ cls := "java/lang/Throwable", name := "fillInStackTrace", desc := "(I)Ljava/lang/Throwable;" } : Jvm.MethodName)), (Jvm.Cond.instanceMethod ({ cls := "java/lang/Throwable", name := "<init>", desc := "()V" } : Jvm.MethodName)), (Jvm.Cond.code ({ cls := "java/lang/Throwable", name := "<init>", desc := "()V" } : Jvm.MethodName) prog_40_method_1_code (1 : Nat) (Option.none : Option Jvm.ClassFile.FieldType)), (Jvm.Cond.instanceMethod ({ cls := "java/lang/Object", name := "<init>", desc := "()V" } : Jvm.MethodName)), (Jvm.Cond.code ({ cls := "java/lang/Object", name := "<init>", desc := "()V" } : Jvm.MethodName) object_method_1_code (1 : Nat) (Option.none : Option Jvm.ClassFile.FieldType)), (Jvm.Cond.methodLink "java/lang/Throwable" (1 : Nat) ({ cls := "java/lang/Object", name := "<init>", desc := "()V" } : Jvm.MethodName)), (Jvm.Cond.methodLink "java/lang/Throwable" (27 : Nat) ({ cls := "java/lang/Throwable", name := "fillInStackTrace", desc := "()Ljava/lang/Throwable;" } : Jvm.MethodName)), (Jvm.Cond.methodLink "java/lang/Throwable" (202 : Nat) ({ cls := "java/lang/Throwable", name := "fillInStackTrace", desc := "(I)Ljava/lang/Throwable;" } : Jvm.MethodName)), (Jvm.Cond.fieldLink "java/lang/Throwable" (7 : Nat) "java/lang/Throwable" "cause" "Ljava/lang/Throwable;"), (Jvm.Cond.lays "java/lang/Throwable" "java/lang/Throwable" "cause" "Ljava/lang/Throwable;"), (Jvm.Cond.fieldLink "java/lang/Throwable" (17 : Nat) "java/lang/Throwable" "stackTrace" "[Ljava/lang/StackTraceElement;"), (Jvm.Cond.lays "java/lang/Throwable" "java/lang/Throwable" "stackTrace" "[Ljava/lang/StackTraceElement;"), (Jvm.Cond.fieldLink "java/lang/Throwable" (24 : Nat) "java/lang/Throwable" "suppressedExceptions" "Ljava/util/List;"), (Jvm.Cond.lays "java/lang/Throwable" "java/lang/Throwable" "suppressedExceptions" "Ljava/util/List;"), (Jvm.Cond.fieldLink "java/lang/Throwable" (13 : Nat) "java/lang/Throwable" "UNASSIGNED_STACK" "[Ljava/lang/StackTraceElement;"), (Jvm.Cond.fieldLink "java/lang/Throwable" (20 : Nat) "java/lang/Throwable" "SUPPRESSED_SENTINEL" "Ljava/util/List;"), (Jvm.Cond.lays "java/lang/Throwable" "java/lang/Throwable" "detailMessage" "Ljava/lang/String;"), (Jvm.Cond.instanceMethod ({ cls := "java/lang/Throwable", name := "<init>", desc := "(Ljava/lang/String;)V" } : Jvm.MethodName)), (Jvm.Cond.code ({ cls := "java/lang/Throwable", name := "<init>", desc := "(Ljava/lang/String;)V" } : Jvm.MethodName) prog_40_method_2_code (2 : Nat) (Option.none : Option Jvm.ClassFile.FieldType)), (Jvm.Cond.fieldLink "java/lang/Throwable" (31 : Nat) "java/lang/Throwable" "detailMessage" "Ljava/lang/String;"), (Jvm.Cond.lays "java/lang/Throwable" "java/lang/Throwable" "detailMessage" "Ljava/lang/String;"), (Jvm.Cond.instanceMethod ({ cls := "java/lang/IndexOutOfBoundsException", name := "<init>", desc := "(Ljava/lang/String;)V" } : Jvm.MethodName)), (Jvm.Cond.code ({ cls := "java/lang/IndexOutOfBoundsException", name := "<init>", desc := "(Ljava/lang/String;)V" } : Jvm.MethodName) prog_28_method_2_code (2 : Nat) (Option.none : Option Jvm.ClassFile.FieldType)), (Jvm.Cond.methodLink "java/lang/IndexOutOfBoundsException" (7 : Nat) ({ cls := "java/lang/RuntimeException", name := "<init>", desc := "(Ljava/lang/String;)V" } : Jvm.MethodName)), (Jvm.Cond.instanceMethod ({ cls := "java/lang/RuntimeException", name := "<init>", desc := "(Ljava/lang/String;)V" } : Jvm.MethodName)), (Jvm.Cond.instanceMethod ({ cls := "java/lang/RuntimeException", name := "<init>", desc := "(Ljava/lang/String;)V" } : Jvm.MethodName)), (Jvm.Cond.code ({ cls := "java/lang/RuntimeException", name := "<init>", desc := "(Ljava/lang/String;)V" } : Jvm.MethodName) prog_33_method_2_code (2 : Nat) (Option.none : Option Jvm.ClassFile.FieldType)), (Jvm.Cond.methodLink "java/lang/RuntimeException" (7 : Nat) ({ cls := "java/lang/Exception", name := "<init>", desc := "(Ljava/lang/String;)V" } : Jvm.MethodName)), (Jvm.Cond.instanceMethod ({ cls := "java/lang/Exception", name := "<init>", desc := "(Ljava/lang/String;)V" } : Jvm.MethodName)), (Jvm.Cond.instanceMethod ({ cls := "java/lang/Exception", name := "<init>", desc := "(Ljava/lang/String;)V" } : Jvm.MethodName)), (Jvm.Cond.code ({ cls := "java/lang/Exception", name := "<init>", desc := "(Ljava/lang/String;)V" } : Jvm.MethodName) prog_25_method_2_code (2 : Nat) (Option.none : Option Jvm.ClassFile.FieldType)), (Jvm.Cond.methodLink "java/lang/Exception" (7 : Nat) ({ cls := "java/lang/Throwable", name := "<init>", desc := "(Ljava/lang/String;)V" } : Jvm.MethodName)), (Jvm.Cond.instanceMethod ({ cls := "java/lang/Throwable", name := "<init>", desc := "(Ljava/lang/String;)V" } : Jvm.MethodName)), (Jvm.Cond.methodLink "SpillForge" (72 : Nat) ({ cls := "java/lang/IndexOutOfBoundsException", name := "<init>", desc := "(Ljava/lang/String;)V" } : Jvm.MethodName)), (Jvm.Cond.instantiable "java/lang/IndexOutOfBoundsException" (6 : Nat)), (Jvm.Cond.selects "java/lang/IndexOutOfBoundsException" ({ cls := "java/lang/Throwable", name := "fillInStackTrace", desc := "(I)Ljava/lang/Throwable;" } : Jvm.MethodName) ({ cls := "java/lang/Throwable", name := "fillInStackTrace", desc := "(I)Ljava/lang/Throwable;" } : Jvm.MethodName)), (Jvm.Cond.selects "java/lang/IndexOutOfBoundsException" ({ cls := "java/lang/Throwable", name := "fillInStackTrace", desc := "()Ljava/lang/Throwable;" } : Jvm.MethodName) ({ cls := "java/lang/Throwable", name := "fillInStackTrace", desc := "()Ljava/lang/Throwable;" } : Jvm.MethodName)), (Jvm.Cond.lays "java/lang/IndexOutOfBoundsException" "java/lang/Throwable" "cause" "Ljava/lang/Throwable;"), (Jvm.Cond.lays "java/lang/IndexOutOfBoundsException" "java/lang/Throwable" "stackTrace" "[Ljava/lang/StackTraceElement;"), (Jvm.Cond.lays "java/lang/IndexOutOfBoundsException" "java/lang/Throwable" "suppressedExceptions" "Ljava/util/List;"), (Jvm.Cond.lays "java/lang/IndexOutOfBoundsException" "java/lang/Throwable" "detailMessage" "Ljava/lang/String;"), (Jvm.Cond.fieldLink "java/lang/Throwable" (198 : Nat) "java/lang/Throwable" "backtrace" "Ljava/lang/Object;"), (Jvm.Cond.lays "java/lang/Throwable" "java/lang/Throwable" "backtrace" "Ljava/lang/Object;"), (Jvm.Cond.lays "java/lang/IndexOutOfBoundsException" "java/lang/Throwable" "backtrace" "Ljava/lang/Object;")] := by rfl
theorem th_68_72_SpillForge_b : (vx_atS "SpillForge" 72 "java/lang/IndexOutOfBoundsException" ["java/lang/RuntimeException", "java/lang/Exception"]).filter (fun w => !goodWord w) = [(Jvm.Cond.declares ({ cls := "java/lang/RuntimeException", name := "<init>", desc := "(Ljava/lang/String;)V" } : Jvm.MethodName)), (Jvm.Cond.declares ({ cls := "java/lang/Exception", name := "<init>", desc := "(Ljava/lang/String;)V" } : Jvm.MethodName)), (Jvm.Cond.declares ({ cls := "java/lang/Throwable", name := "<init>", desc := "(Ljava/lang/String;)V" } : Jvm.MethodName)), (Jvm.Cond.castable "java/lang/IndexOutOfBoundsException" "java/lang/IndexOutOfBoundsException")] := by rfl
theorem th_68_72_SpillForge_o : (Cond.classLink "SpillForge" 68 "java/lang/IndexOutOfBoundsException" :: Cond.initialized "java/lang/IndexOutOfBoundsException" :: vx_atS "SpillForge" 72 "java/lang/IndexOutOfBoundsException" ["java/lang/RuntimeException", "java/lang/Exception"]).all vx_ot = true := by rfl
theorem th_68_72_SpillForge : (∀ w ∈ (vx_atS "SpillForge" 72 "java/lang/IndexOutOfBoundsException" ["java/lang/RuntimeException", "java/lang/Exception"]).filter goodWord, w ∈ gw) ∧ (∀ w ∈ (vx_atS "SpillForge" 72 "java/lang/IndexOutOfBoundsException" ["java/lang/RuntimeException", "java/lang/Exception"]).filter (fun w => !goodWord w), w ∈ gNest) ∧ ∀ w ∈ (Cond.classLink "SpillForge" 68 "java/lang/IndexOutOfBoundsException" :: Cond.initialized "java/lang/IndexOutOfBoundsException" :: vx_atS "SpillForge" 72 "java/lang/IndexOutOfBoundsException" ["java/lang/RuntimeException", "java/lang/Exception"]), vx_ot w = true := by
  refine ⟨?_, ?_, List.all_eq_true.mp th_68_72_SpillForge_o⟩
  · rw [th_68_72_SpillForge_g]; exact List.forall_mem_cons.mpr ⟨w_1_23, List.forall_mem_cons.mpr ⟨w_4_217, List.forall_mem_cons.mpr ⟨w_4_226, List.forall_mem_cons.mpr ⟨w_4_234, List.forall_mem_cons.mpr ⟨w_4_237, List.forall_mem_cons.mpr ⟨w_4_239, List.forall_mem_cons.mpr ⟨w_4_218, List.forall_mem_cons.mpr ⟨w_4_219, List.forall_mem_cons.mpr ⟨w_1_51, List.forall_mem_cons.mpr ⟨w_1_52, List.forall_mem_cons.mpr ⟨w_4_220, List.forall_mem_cons.mpr ⟨w_4_225, List.forall_mem_cons.mpr ⟨w_4_235, List.forall_mem_cons.mpr ⟨w_5_15, List.forall_mem_cons.mpr ⟨w_4_207, List.forall_mem_cons.mpr ⟨w_5_16, List.forall_mem_cons.mpr ⟨w_4_209, List.forall_mem_cons.mpr ⟨w_5_17, List.forall_mem_cons.mpr ⟨w_4_211, List.forall_mem_cons.mpr ⟨w_4_221, List.forall_mem_cons.mpr ⟨w_4_223, List.forall_mem_cons.mpr ⟨w_4_213, List.forall_mem_cons.mpr ⟨w_5_11, List.forall_mem_cons.mpr ⟨w_5_12, List.forall_mem_cons.mpr ⟨w_5_14, List.forall_mem_cons.mpr ⟨w_4_213, List.forall_mem_cons.mpr ⟨w_5_2, List.forall_mem_cons.mpr ⟨w_5_3, List.forall_mem_cons.mpr ⟨w_5_4, List.forall_mem_cons.mpr ⟨w_5_5, List.forall_mem_cons.mpr ⟨w_5_5, List.forall_mem_cons.mpr ⟨w_5_6, List.forall_mem_cons.mpr ⟨w_5_7, List.forall_mem_cons.mpr ⟨w_5_8, List.forall_mem_cons.mpr ⟨w_5_8, List.forall_mem_cons.mpr ⟨w_5_9, List.forall_mem_cons.mpr ⟨w_5_10, List.forall_mem_cons.mpr ⟨w_5_11, List.forall_mem_cons.mpr ⟨w_5_1, List.forall_mem_cons.mpr ⟨w_4_196, List.forall_mem_cons.mpr ⟨w_4_204, List.forall_mem_cons.mpr ⟨w_4_205, List.forall_mem_cons.mpr ⟨w_4_206, List.forall_mem_cons.mpr ⟨w_4_208, List.forall_mem_cons.mpr ⟨w_4_210, List.forall_mem_cons.mpr ⟨w_4_212, List.forall_mem_cons.mpr ⟨w_4_216, List.forall_mem_cons.mpr ⟨w_4_215, List.forall_mem_cons.mpr ⟨w_4_214, fun _ h => absurd h List.not_mem_nil⟩⟩⟩⟩⟩⟩⟩⟩⟩⟩⟩⟩⟩⟩⟩⟩⟩⟩⟩⟩⟩⟩⟩⟩⟩⟩⟩⟩⟩⟩⟩⟩⟩⟩⟩⟩⟩⟩⟩⟩⟩⟩⟩⟩⟩⟩⟩⟩⟩
  · rw [th_68_72_SpillForge_b]; exact List.forall_mem_cons.mpr ⟨List.mem_of_getElem? (i := 66) rfl, List.forall_mem_cons.mpr ⟨List.mem_of_getElem? (i := 68) rfl, List.forall_mem_cons.mpr ⟨List.mem_of_getElem? (i := 70) rfl, List.forall_mem_cons.mpr ⟨List.mem_of_getElem? (i := 64) rfl, fun _ h => absurd h List.not_mem_nil⟩⟩⟩⟩
theorem w_4_195 : (Jvm.Cond.classLink "SpillForge" (68 : Nat) "java/lang/IndexOutOfBoundsException") ∈ gw := gw_4 195 rfl rfl
theorem w_1_26 : (Jvm.Cond.initialized "java/lang/IndexOutOfBoundsException") ∈ gw := gw_1 26 rfl rfl
theorem w_5_26 : (Jvm.Cond.methodLink "SpillForge" (75 : Nat) ({ cls := "SpillForge$Tape", name := "addInt", desc := "(I)V" } : Jvm.MethodName)) ∈ gw := gw_5 26 rfl rfl
theorem w_5_29 : (Jvm.Cond.code ({ cls := "SpillForge$Tape", name := "addInt", desc := "(I)V" } : Jvm.MethodName) prog_12_method_4_code (3 : Nat) (Option.none : Option Jvm.ClassFile.FieldType)) ∈ gw := gw_5 29 rfl rfl
theorem w_5_27 : (Jvm.Cond.instanceMethod ({ cls := "SpillForge$Tape", name := "addInt", desc := "(I)V" } : Jvm.MethodName)) ∈ gw := gw_5 27 rfl rfl
theorem w_5_28 : (Jvm.Cond.selects "SpillForge$Tape" ({ cls := "SpillForge$Tape", name := "addInt", desc := "(I)V" } : Jvm.MethodName) ({ cls := "SpillForge$Tape", name := "addInt", desc := "(I)V" } : Jvm.MethodName)) ∈ gw := gw_5 28 rfl rfl
theorem w_5_30 : (Jvm.Cond.methodLink "SpillForge" (78 : Nat) ({ cls := "SpillForge$Tape", name := "size", desc := "()I" } : Jvm.MethodName)) ∈ gw := gw_5 30 rfl rfl
theorem w_5_47 : (Jvm.Cond.lays "java/lang/IllegalArgumentException" "java/lang/Throwable" "backtrace" "Ljava/lang/Object;") ∈ gw := gw_5 47 rfl rfl
theorem w_5_46 : (Jvm.Cond.lays "java/lang/IllegalArgumentException" "java/lang/Throwable" "detailMessage" "Ljava/lang/String;") ∈ gw := gw_5 46 rfl rfl
theorem w_5_45 : (Jvm.Cond.lays "java/lang/IllegalArgumentException" "java/lang/Throwable" "suppressedExceptions" "Ljava/util/List;") ∈ gw := gw_5 45 rfl rfl
theorem w_5_44 : (Jvm.Cond.lays "java/lang/IllegalArgumentException" "java/lang/Throwable" "stackTrace" "[Ljava/lang/StackTraceElement;") ∈ gw := gw_5 44 rfl rfl
theorem w_5_43 : (Jvm.Cond.lays "java/lang/IllegalArgumentException" "java/lang/Throwable" "cause" "Ljava/lang/Throwable;") ∈ gw := gw_5 43 rfl rfl
theorem w_4_230 : (Jvm.Cond.selects "java/lang/IllegalArgumentException" ({ cls := "java/lang/Throwable", name := "fillInStackTrace", desc := "()Ljava/lang/Throwable;" } : Jvm.MethodName) ({ cls := "java/lang/Throwable", name := "fillInStackTrace", desc := "()Ljava/lang/Throwable;" } : Jvm.MethodName)) ∈ gw := gw_4 230 rfl rfl
theorem w_5_42 : (Jvm.Cond.selects "java/lang/IllegalArgumentException" ({ cls := "java/lang/Throwable", name := "fillInStackTrace", desc := "(I)Ljava/lang/Throwable;" } : Jvm.MethodName) ({ cls := "java/lang/Throwable", name := "fillInStackTrace", desc := "(I)Ljava/lang/Throwable;" } : Jvm.MethodName)) ∈ gw := gw_5 42 rfl rfl
theorem w_5_40 : (Jvm.Cond.instantiable "java/lang/IllegalArgumentException" (6 : Nat)) ∈ gw := gw_5 40 rfl rfl
theorem w_5_49 : (Jvm.Cond.methodLink "SpillForge" (86 : Nat) ({ cls := "java/lang/IllegalArgumentException", name := "<init>", desc := "(Ljava/lang/String;)V" } : Jvm.MethodName)) ∈ gw := gw_5 49 rfl rfl
theorem w_5_52 : (Jvm.Cond.methodLink "java/lang/IllegalArgumentException" (7 : Nat) ({ cls := "java/lang/RuntimeException", name := "<init>", desc := "(Ljava/lang/String;)V" } : Jvm.MethodName)) ∈ gw := gw_5 52 rfl rfl
theorem w_5_51 : (Jvm.Cond.code ({ cls := "java/lang/IllegalArgumentException", name := "<init>", desc := "(Ljava/lang/String;)V" } : Jvm.MethodName) prog_26_method_2_code (2 : Nat) (Option.none : Option Jvm.ClassFile.FieldType)) ∈ gw := gw_5 51 rfl rfl
theorem w_5_50 : (Jvm.Cond.instanceMethod ({ cls := "java/lang/IllegalArgumentException", name := "<init>", desc := "(Ljava/lang/String;)V" } : Jvm.MethodName)) ∈ gw := gw_5 50 rfl rfl
theorem th_82_86_SpillForge_g : (vx_atS "SpillForge" 86 "java/lang/IllegalArgumentException" ["java/lang/RuntimeException", "java/lang/Exception"]).filter goodWord = [(Jvm.Cond.initialized "java/lang/Throwable"), (Jvm.Cond.superclass "java/lang/Throwable" "java/lang/Object"), (Jvm.Cond.instanceMethod ({ cls := "java/lang/Throwable", name := "fillInStackTrace", desc := "()Ljava/lang/Throwable;" } : Jvm.MethodName)), (Jvm.Cond.codeSync ({ cls := "java/lang/Throwable", name := "fillInStackTrace", desc := "()Ljava/lang/Throwable;" } : Jvm.MethodName) prog_40_method_18_code (1 : Nat) (Option.some (Jvm.ClassFile.FieldType.object "java/lang/Throwable"))), (Jvm.Cond.instanceMethod ({ cls := "java/lang/Throwable", name := "fillInStackTrace", desc := "(I)Ljava/lang/Throwable;" } : Jvm.MethodName)), (Jvm.Cond.native ({ cls := "java/lang/Throwable", name := "fillInStackTrace", desc := "(I)Ljava/lang/Throwable;" } : Jvm.MethodName)), (Jvm.Cond.instanceMethod ({ cls := "java/lang/Throwable", name := "<init>", desc := "()V" } : Jvm.MethodName)), (Jvm.Cond.code ({ cls := "java/lang/Throwable", name := "<init>", desc := "()V" } : Jvm.MethodName) prog_40_method_1_code (1 : Nat) (Option.none : Option Jvm.ClassFile.FieldType)), (Jvm.Cond.instanceMethod ({ cls := "java/lang/Object", name := "<init>", desc := "()V" } : Jvm.MethodName)), (Jvm.Cond.code ({ cls := "java/lang/Object", name := "<init>", desc := "()V" } : Jvm.MethodName) object_method_1_code (1 : Nat) (Option.none : Option Jvm.ClassFile.FieldType)), (Jvm.Cond.methodLink "java/lang/Throwable" (1 : Nat) ({ cls := "java/lang/Object", name := "<init>", desc := "()V" } : Jvm.MethodName)), (Jvm.Cond.methodLink "java/lang/Throwable" (27 : Nat) ({ cls := "java/lang/Throwable", name := "fillInStackTrace", desc := "()Ljava/lang/Throwable;" } : Jvm.MethodName)), (Jvm.Cond.methodLink "java/lang/Throwable" (202 : Nat) ({ cls := "java/lang/Throwable", name := "fillInStackTrace", desc := "(I)Ljava/lang/Throwable;" } : Jvm.MethodName)), (Jvm.Cond.fieldLink "java/lang/Throwable" (7 : Nat) "java/lang/Throwable" "cause" "Ljava/lang/Throwable;"), (Jvm.Cond.lays "java/lang/Throwable" "java/lang/Throwable" "cause" "Ljava/lang/Throwable;"), (Jvm.Cond.fieldLink "java/lang/Throwable" (17 : Nat) "java/lang/Throwable" "stackTrace" "[Ljava/lang/StackTraceElement;"), (Jvm.Cond.lays "java/lang/Throwable" "java/lang/Throwable" "stackTrace" "[Ljava/lang/StackTraceElement;"), (Jvm.Cond.fieldLink "java/lang/Throwable" (24 : Nat) "java/lang/Throwable" "suppressedExceptions" "Ljava/util/List;"), (Jvm.Cond.lays "java/lang/Throwable" "java/lang/Throwable" "suppressedExceptions" "Ljava/util/List;"), (Jvm.Cond.fieldLink "java/lang/Throwable" (13 : Nat) "java/lang/Throwable" "UNASSIGNED_STACK" "[Ljava/lang/StackTraceElement;"), (Jvm.Cond.fieldLink "java/lang/Throwable" (20 : Nat) "java/lang/Throwable" "SUPPRESSED_SENTINEL" "Ljava/util/List;"), (Jvm.Cond.lays "java/lang/Throwable" "java/lang/Throwable" "detailMessage" "Ljava/lang/String;"), (Jvm.Cond.instanceMethod ({ cls := "java/lang/Throwable", name := "<init>", desc := "(Ljava/lang/String;)V" } : Jvm.MethodName)), (Jvm.Cond.code ({ cls := "java/lang/Throwable", name := "<init>", desc := "(Ljava/lang/String;)V" } : Jvm.MethodName) prog_40_method_2_code (2 : Nat) (Option.none : Option Jvm.ClassFile.FieldType)), (Jvm.Cond.fieldLink "java/lang/Throwable" (31 : Nat) "java/lang/Throwable" "detailMessage" "Ljava/lang/String;"), (Jvm.Cond.lays "java/lang/Throwable" "java/lang/Throwable" "detailMessage" "Ljava/lang/String;"), (Jvm.Cond.instanceMethod ({ cls := "java/lang/IllegalArgumentException", name := "<init>", desc := "(Ljava/lang/String;)V" } : Jvm.MethodName)), (Jvm.Cond.code ({ cls := "java/lang/IllegalArgumentException", name := "<init>", desc := "(Ljava/lang/String;)V" } : Jvm.MethodName) prog_26_method_2_code (2 : Nat) (Option.none : Option Jvm.ClassFile.FieldType)), (Jvm.Cond.methodLink "java/lang/IllegalArgumentException" (7 : Nat) ({ cls := "java/lang/RuntimeException", name := "<init>", desc := "(Ljava/lang/String;)V" } : Jvm.MethodName)), (Jvm.Cond.instanceMethod ({ cls := "java/lang/RuntimeException", name := "<init>", desc := "(Ljava/lang/String;)V" } : Jvm.MethodName)), (Jvm.Cond.instanceMethod ({ cls := "java/lang/RuntimeException", name := "<init>", desc := "(Ljava/lang/String;)V" } : Jvm.MethodName)), (Jvm.Cond.code ({ cls := "java/lang/RuntimeException", name := "<init>", desc := "(Ljava/lang/String;)V" } : Jvm.MethodName) prog_33_method_2_code (2 : Nat) (Option.none : Option Jvm.ClassFile.FieldType)), (Jvm.Cond.methodLink "java/lang/RuntimeException" (7 : Nat) ({ cls := "java/lang/Exception", name := "<init>", desc := "(Ljava/lang/String;)V" } : Jvm.MethodName)), (Jvm.Cond.instanceMethod ({ cls := "java/lang/Exception", name := "<init>", desc := "(Ljava/lang/String;)V" } : Jvm.MethodName)), (Jvm.Cond.instanceMethod ({ cls := "java/lang/Exception", name := "<init>", desc := "(Ljava/lang/String;)V" } : Jvm.MethodName)), (Jvm.Cond.code ({ cls := "java/lang/Exception", name := "<init>", desc := "(Ljava/lang/String;)V" } : Jvm.MethodName) prog_25_method_2_code (2 : Nat) (Option.none : Option Jvm.ClassFile.FieldType)), (Jvm.Cond.methodLink "java/lang/Exception" (7 : Nat) ({ cls := "java/lang/Throwable", name := "<init>", desc := "(Ljava/lang/String;)V" } : Jvm.MethodName)), (Jvm.Cond.instanceMethod ({ cls := "java/lang/Throwable", name := "<init>", desc := "(Ljava/lang/String;)V" } : Jvm.MethodName)), (Jvm.Cond.methodLink "SpillForge" (86 : Nat) ({ cls := "java/lang/IllegalArgumentException", name := "<init>", desc := "(Ljava/lang/String;)V" } : Jvm.MethodName)), (Jvm.Cond.instantiable "java/lang/IllegalArgumentException" (6 : Nat)), (Jvm.Cond.selects "java/lang/IllegalArgumentException" ({ cls := "java/lang/Throwable", name := "fillInStackTrace", desc := "(I)Ljava/lang/Throwable;" } : Jvm.MethodName) ({ cls := "java/lang/Throwable", name := "fillInStackTrace", desc := "(I)Ljava/lang/Throwable;" } : Jvm.MethodName)), (Jvm.Cond.selects "java/lang/IllegalArgumentException" ({ cls := "java/lang/Throwable", name := "fillInStackTrace", desc := "()Ljava/lang/Throwable;" } : Jvm.MethodName) ({ cls := "java/lang/Throwable", name := "fillInStackTrace", desc := "()Ljava/lang/Throwable;" } : Jvm.MethodName)), (Jvm.Cond.lays "java/lang/IllegalArgumentException" "java/lang/Throwable" "cause" "Ljava/lang/Throwable;"), (Jvm.Cond.lays "java/lang/IllegalArgumentException" "java/lang/Throwable" "stackTrace" "[Ljava/lang/StackTraceElement;"), (Jvm.Cond.lays "java/lang/IllegalArgumentException" "java/lang/Throwable" "suppressedExceptions" "Ljava/util/List;"), (Jvm.Cond.lays "java/lang/IllegalArgumentException" "java/lang/Throwable" "detailMessage" "Ljava/lang/String;"), (Jvm.Cond.fieldLink "java/lang/Throwable" (198 : Nat) "java/lang/Throwable" "backtrace" "Ljava/lang/Object;"), (Jvm.Cond.lays "java/lang/Throwable" "java/lang/Throwable" "backtrace" "Ljava/lang/Object;"), (Jvm.Cond.lays "java/lang/IllegalArgumentException" "java/lang/Throwable" "backtrace" "Ljava/lang/Object;")] := by rfl
theorem th_82_86_SpillForge_b : (vx_atS "SpillForge" 86 "java/lang/IllegalArgumentException" ["java/lang/RuntimeException", "java/lang/Exception"]).filter (fun w => !goodWord w) = [(Jvm.Cond.declares ({ cls := "java/lang/RuntimeException", name := "<init>", desc := "(Ljava/lang/String;)V" } : Jvm.MethodName)), (Jvm.Cond.declares ({ cls := "java/lang/Exception", name := "<init>", desc := "(Ljava/lang/String;)V" } : Jvm.MethodName)), (Jvm.Cond.declares ({ cls := "java/lang/Throwable", name := "<init>", desc := "(Ljava/lang/String;)V" } : Jvm.MethodName)), (Jvm.Cond.castable "java/lang/IllegalArgumentException" "java/lang/IllegalArgumentException")] := by rfl
theorem th_82_86_SpillForge_o : (Cond.classLink "SpillForge" 82 "java/lang/IllegalArgumentException" :: Cond.initialized "java/lang/IllegalArgumentException" :: vx_atS "SpillForge" 86 "java/lang/IllegalArgumentException" ["java/lang/RuntimeException", "java/lang/Exception"]).all vx_ot = true := by rfl
theorem th_82_86_SpillForge : (∀ w ∈ (vx_atS "SpillForge" 86 "java/lang/IllegalArgumentException" ["java/lang/RuntimeException", "java/lang/Exception"]).filter goodWord, w ∈ gw) ∧ (∀ w ∈ (vx_atS "SpillForge" 86 "java/lang/IllegalArgumentException" ["java/lang/RuntimeException", "java/lang/Exception"]).filter (fun w => !goodWord w), w ∈ gNest) ∧ ∀ w ∈ (Cond.classLink "SpillForge" 82 "java/lang/IllegalArgumentException" :: Cond.initialized "java/lang/IllegalArgumentException" :: vx_atS "SpillForge" 86 "java/lang/IllegalArgumentException" ["java/lang/RuntimeException", "java/lang/Exception"]), vx_ot w = true := by
  refine ⟨?_, ?_, List.all_eq_true.mp th_82_86_SpillForge_o⟩
  · rw [th_82_86_SpillForge_g]; exact List.forall_mem_cons.mpr ⟨w_1_23, List.forall_mem_cons.mpr ⟨w_4_217, List.forall_mem_cons.mpr ⟨w_4_226, List.forall_mem_cons.mpr ⟨w_4_234, List.forall_mem_cons.mpr ⟨w_4_237, List.forall_mem_cons.mpr ⟨w_4_239, List.forall_mem_cons.mpr ⟨w_4_218, List.forall_mem_cons.mpr ⟨w_4_219, List.forall_mem_cons.mpr ⟨w_1_51, List.forall_mem_cons.mpr ⟨w_1_52, List.forall_mem_cons.mpr ⟨w_4_220, List.forall_mem_cons.mpr ⟨w_4_225, List.forall_mem_cons.mpr ⟨w_4_235, List.forall_mem_cons.mpr ⟨w_5_15, List.forall_mem_cons.mpr ⟨w_4_207, List.forall_mem_cons.mpr ⟨w_5_16, List.forall_mem_cons.mpr ⟨w_4_209, List.forall_mem_cons.mpr ⟨w_5_17, List.forall_mem_cons.mpr ⟨w_4_211, List.forall_mem_cons.mpr ⟨w_4_221, List.forall_mem_cons.mpr ⟨w_4_223, List.forall_mem_cons.mpr ⟨w_4_213, List.forall_mem_cons.mpr ⟨w_5_11, List.forall_mem_cons.mpr ⟨w_5_12, List.forall_mem_cons.mpr ⟨w_5_14, List.forall_mem_cons.mpr ⟨w_4_213, List.forall_mem_cons.mpr ⟨w_5_50, List.forall_mem_cons.mpr ⟨w_5_51, List.forall_mem_cons.mpr ⟨w_5_52, List.forall_mem_cons.mpr ⟨w_5_5, List.forall_mem_cons.mpr ⟨w_5_5, List.forall_mem_cons.mpr ⟨w_5_6, List.forall_mem_cons.mpr ⟨w_5_7, List.forall_mem_cons.mpr ⟨w_5_8, List.forall_mem_cons.mpr ⟨w_5_8, List.forall_mem_cons.mpr ⟨w_5_9, List.forall_mem_cons.mpr ⟨w_5_10, List.forall_mem_cons.mpr ⟨w_5_11, List.forall_mem_cons.mpr ⟨w_5_49, List.forall_mem_cons.mpr ⟨w_5_40, List.forall_mem_cons.mpr ⟨w_5_42, List.forall_mem_cons.mpr ⟨w_4_230, List.forall_mem_cons.mpr ⟨w_5_43, List.forall_mem_cons.mpr ⟨w_5_44, List.forall_mem_cons.mpr ⟨w_5_45, List.forall_mem_cons.mpr ⟨w_5_46, List.forall_mem_cons.mpr ⟨w_4_216, List.forall_mem_cons.mpr ⟨w_4_215, List.forall_mem_cons.mpr ⟨w_5_47, fun _ h => absurd h List.not_mem_nil⟩⟩⟩⟩⟩⟩⟩⟩⟩⟩⟩⟩⟩⟩⟩⟩⟩⟩⟩⟩⟩⟩⟩⟩⟩⟩⟩⟩⟩⟩⟩⟩⟩⟩⟩⟩⟩⟩⟩⟩⟩⟩⟩⟩⟩⟩⟩⟩⟩
  · rw [th_82_86_SpillForge_b]; exact List.forall_mem_cons.mpr ⟨List.mem_of_getElem? (i := 66) rfl, List.forall_mem_cons.mpr ⟨List.mem_of_getElem? (i := 68) rfl, List.forall_mem_cons.mpr ⟨List.mem_of_getElem? (i := 70) rfl, List.forall_mem_cons.mpr ⟨List.mem_of_getElem? (i := 71) rfl, fun _ h => absurd h List.not_mem_nil⟩⟩⟩⟩
theorem w_5_39 : (Jvm.Cond.classLink "SpillForge" (82 : Nat) "java/lang/IllegalArgumentException") ∈ gw := gw_5 39 rfl rfl
theorem w_1_27 : (Jvm.Cond.initialized "java/lang/IllegalArgumentException") ∈ gw := gw_1 27 rfl rfl
theorem w_3_222 : (Jvm.Cond.methodLink "SpillForge" (87 : Nat) ({ cls := "SpillForge$Tape", name := "cutTo", desc := "(I)V" } : Jvm.MethodName)) ∈ gw := gw_3 222 rfl rfl
theorem w_3_225 : (Jvm.Cond.code ({ cls := "SpillForge$Tape", name := "cutTo", desc := "(I)V" } : Jvm.MethodName) prog_12_method_5_code (2 : Nat) (Option.none : Option Jvm.ClassFile.FieldType)) ∈ gw := gw_3 225 rfl rfl
theorem w_3_223 : (Jvm.Cond.instanceMethod ({ cls := "SpillForge$Tape", name := "cutTo", desc := "(I)V" } : Jvm.MethodName)) ∈ gw := gw_3 223 rfl rfl
theorem w_3_224 : (Jvm.Cond.selects "SpillForge$Tape" ({ cls := "SpillForge$Tape", name := "cutTo", desc := "(I)V" } : Jvm.MethodName) ({ cls := "SpillForge$Tape", name := "cutTo", desc := "(I)V" } : Jvm.MethodName)) ∈ gw := gw_3 224 rfl rfl
theorem w_2_212 : (Jvm.Cond.fieldLink "SpillForge" (53 : Nat) "SpillForge" "machine" "LSpillForge$Machine;") ∈ gw := gw_2 212 rfl rfl
theorem w_4_172 : (Jvm.Cond.methodLink "SpillForge" (105 : Nat) ({ cls := "SpillForge$Machine", name := "takeInput", desc := "(LSpillForge$Tape;)I" } : Jvm.MethodName)) ∈ gw := gw_4 172 rfl rfl
theorem w_4_175 : (Jvm.Cond.code ({ cls := "SpillForge$Machine", name := "takeInput", desc := "(LSpillForge$Tape;)I" } : Jvm.MethodName) prog_9_method_2_code (3 : Nat) (Option.some Jvm.ClassFile.FieldType.int)) ∈ gw := gw_4 175 rfl rfl
theorem w_4_173 : (Jvm.Cond.instanceMethod ({ cls := "SpillForge$Machine", name := "takeInput", desc := "(LSpillForge$Tape;)I" } : Jvm.MethodName)) ∈ gw := gw_4 173 rfl rfl
theorem w_4_174 : (Jvm.Cond.selects "SpillForge$Machine" ({ cls := "SpillForge$Machine", name := "takeInput", desc := "(LSpillForge$Tape;)I" } : Jvm.MethodName) ({ cls := "SpillForge$Machine", name := "takeInput", desc := "(LSpillForge$Tape;)I" } : Jvm.MethodName)) ∈ gw := gw_4 174 rfl rfl
theorem w_2_213 : (Jvm.Cond.fieldLink "SpillForge" (60 : Nat) "SpillForge" "listing" "LSpillForge$Listing;") ∈ gw := gw_2 213 rfl rfl
theorem w_5_212 : (Jvm.Cond.methodLink "SpillForge" (130 : Nat) ({ cls := "SpillForge$Listing", name := "size", desc := "()I" } : Jvm.MethodName)) ∈ gw := gw_5 212 rfl rfl
theorem w_5_215 : (Jvm.Cond.code ({ cls := "SpillForge$Listing", name := "size", desc := "()I" } : Jvm.MethodName) prog_6_method_2_code (1 : Nat) (Option.some Jvm.ClassFile.FieldType.int)) ∈ gw := gw_5 215 rfl rfl
theorem w_5_213 : (Jvm.Cond.instanceMethod ({ cls := "SpillForge$Listing", name := "size", desc := "()I" } : Jvm.MethodName)) ∈ gw := gw_5 213 rfl rfl
theorem w_5_214 : (Jvm.Cond.selects "SpillForge$Listing" ({ cls := "SpillForge$Listing", name := "size", desc := "()I" } : Jvm.MethodName) ({ cls := "SpillForge$Listing", name := "size", desc := "()I" } : Jvm.MethodName)) ∈ gw := gw_5 214 rfl rfl
theorem w_6_225 : (Jvm.Cond.methodLink "SpillForge" (224 : Nat) ({ cls := "SpillForge$Listing", name := "eightFrom", desc := "(I)J" } : Jvm.MethodName)) ∈ gw := gw_6 225 rfl rfl
theorem w_6_228 : (Jvm.Cond.code ({ cls := "SpillForge$Listing", name := "eightFrom", desc := "(I)J" } : Jvm.MethodName) prog_6_method_3_code (5 : Nat) (Option.some Jvm.ClassFile.FieldType.long)) ∈ gw := gw_6 228 rfl rfl
theorem w_6_226 : (Jvm.Cond.instanceMethod ({ cls := "SpillForge$Listing", name := "eightFrom", desc := "(I)J" } : Jvm.MethodName)) ∈ gw := gw_6 226 rfl rfl
theorem w_6_227 : (Jvm.Cond.selects "SpillForge$Listing" ({ cls := "SpillForge$Listing", name := "eightFrom", desc := "(I)J" } : Jvm.MethodName) ({ cls := "SpillForge$Listing", name := "eightFrom", desc := "(I)J" } : Jvm.MethodName)) ∈ gw := gw_6 227 rfl rfl
theorem w_2_214 : (Jvm.Cond.fieldLink "SpillForge" (94 : Nat) "SpillForge" "hasProgram" "Z") ∈ gw := gw_2 214 rfl rfl
theorem w_2_211 : (Jvm.Cond.fieldLink "SpillForge" (46 : Nat) "SpillForge" "giver" "LSpillForge$Giver;") ∈ gw := gw_2 211 rfl rfl
theorem w_2_120 : (Jvm.Cond.fieldLink "SpillForge$Giver" (59 : Nat) "SpillForge$Giver" "isDone" "Z") ∈ gw := gw_2 120 rfl rfl
theorem w_5_217 : (Jvm.Cond.methodLink "SpillForge" (133 : Nat) ({ cls := "SpillForge$Giver", name := "isDone", desc := "()Z" } : Jvm.MethodName)) ∈ gw := gw_5 217 rfl rfl
theorem w_1_8 : (Jvm.Cond.initialized "SpillForge$Giver") ∈ gw := gw_1 8 rfl rfl
theorem w_5_220 : (Jvm.Cond.code ({ cls := "SpillForge$Giver", name := "isDone", desc := "()Z" } : Jvm.MethodName) prog_4_method_2_code (1 : Nat) (Option.some Jvm.ClassFile.FieldType.boolean)) ∈ gw := gw_5 220 rfl rfl
theorem w_5_218 : (Jvm.Cond.instanceMethod ({ cls := "SpillForge$Giver", name := "isDone", desc := "()Z" } : Jvm.MethodName)) ∈ gw := gw_5 218 rfl rfl
theorem w_5_219 : (Jvm.Cond.selects "SpillForge$Giver" ({ cls := "SpillForge$Giver", name := "isDone", desc := "()Z" } : Jvm.MethodName) ({ cls := "SpillForge$Giver", name := "isDone", desc := "()Z" } : Jvm.MethodName)) ∈ gw := gw_5 219 rfl rfl
theorem w_6_64 : (Jvm.Cond.methodLink "SpillForge" (185 : Nat) ({ cls := "SpillForge", name := "exists", desc := "(Z)Z" } : Jvm.MethodName)) ∈ gw := gw_6 64 rfl rfl
theorem w_1_1 : (Jvm.Cond.initialized "SpillForge") ∈ gw := gw_1 1 rfl rfl
theorem w_6_67 : (Jvm.Cond.code ({ cls := "SpillForge", name := "exists", desc := "(Z)Z" } : Jvm.MethodName) prog_1_method_11_code (2 : Nat) (Option.some Jvm.ClassFile.FieldType.boolean)) ∈ gw := gw_6 67 rfl rfl
theorem w_6_66 : (Jvm.Cond.instanceMethod ({ cls := "SpillForge", name := "exists", desc := "(Z)Z" } : Jvm.MethodName)) ∈ gw := gw_6 66 rfl rfl
theorem w_p_56 : Cond.selects "SpillForge" ⟨"SpillForge", "exists", "(Z)Z"⟩ ⟨"SpillForge", "exists", "(Z)Z"⟩ ∈ gw := gw_p _ 56 rfl rfl rfl
theorem w_2_209 : (Jvm.Cond.fieldLink "SpillForge" (30 : Nat) "SpillForge" "program" "LSpillForge$Code;") ∈ gw := gw_2 209 rfl rfl
theorem w_6_156 : (Jvm.Cond.methodLink "SpillForge" (219 : Nat) ({ cls := "SpillForge$Listing", name := "write", desc := "(LSpillForge$Code;)V" } : Jvm.MethodName)) ∈ gw := gw_6 156 rfl rfl
theorem w_6_159 : (Jvm.Cond.code ({ cls := "SpillForge$Listing", name := "write", desc := "(LSpillForge$Code;)V" } : Jvm.MethodName) prog_6_method_4_code (4 : Nat) (Option.none : Option Jvm.ClassFile.FieldType)) ∈ gw := gw_6 159 rfl rfl
theorem w_6_157 : (Jvm.Cond.instanceMethod ({ cls := "SpillForge$Listing", name := "write", desc := "(LSpillForge$Code;)V" } : Jvm.MethodName)) ∈ gw := gw_6 157 rfl rfl
theorem w_6_158 : (Jvm.Cond.selects "SpillForge$Listing" ({ cls := "SpillForge$Listing", name := "write", desc := "(LSpillForge$Code;)V" } : Jvm.MethodName) ({ cls := "SpillForge$Listing", name := "write", desc := "(LSpillForge$Code;)V" } : Jvm.MethodName)) ∈ gw := gw_6 158 rfl rfl
theorem w_5_72 : (Jvm.Cond.lays "java/lang/IllegalStateException" "java/lang/Throwable" "backtrace" "Ljava/lang/Object;") ∈ gw := gw_5 72 rfl rfl
theorem w_5_71 : (Jvm.Cond.lays "java/lang/IllegalStateException" "java/lang/Throwable" "detailMessage" "Ljava/lang/String;") ∈ gw := gw_5 71 rfl rfl
theorem w_5_70 : (Jvm.Cond.lays "java/lang/IllegalStateException" "java/lang/Throwable" "suppressedExceptions" "Ljava/util/List;") ∈ gw := gw_5 70 rfl rfl
theorem w_5_69 : (Jvm.Cond.lays "java/lang/IllegalStateException" "java/lang/Throwable" "stackTrace" "[Ljava/lang/StackTraceElement;") ∈ gw := gw_5 69 rfl rfl
theorem w_5_68 : (Jvm.Cond.lays "java/lang/IllegalStateException" "java/lang/Throwable" "cause" "Ljava/lang/Throwable;") ∈ gw := gw_5 68 rfl rfl
theorem w_4_231 : (Jvm.Cond.selects "java/lang/IllegalStateException" ({ cls := "java/lang/Throwable", name := "fillInStackTrace", desc := "()Ljava/lang/Throwable;" } : Jvm.MethodName) ({ cls := "java/lang/Throwable", name := "fillInStackTrace", desc := "()Ljava/lang/Throwable;" } : Jvm.MethodName)) ∈ gw := gw_4 231 rfl rfl
theorem w_5_67 : (Jvm.Cond.selects "java/lang/IllegalStateException" ({ cls := "java/lang/Throwable", name := "fillInStackTrace", desc := "(I)Ljava/lang/Throwable;" } : Jvm.MethodName) ({ cls := "java/lang/Throwable", name := "fillInStackTrace", desc := "(I)Ljava/lang/Throwable;" } : Jvm.MethodName)) ∈ gw := gw_5 67 rfl rfl
theorem w_5_65 : (Jvm.Cond.instantiable "java/lang/IllegalStateException" (6 : Nat)) ∈ gw := gw_5 65 rfl rfl
theorem w_5_74 : (Jvm.Cond.methodLink "SpillForge" (115 : Nat) ({ cls := "java/lang/IllegalStateException", name := "<init>", desc := "(Ljava/lang/String;)V" } : Jvm.MethodName)) ∈ gw := gw_5 74 rfl rfl
theorem w_5_77 : (Jvm.Cond.methodLink "java/lang/IllegalStateException" (7 : Nat) ({ cls := "java/lang/RuntimeException", name := "<init>", desc := "(Ljava/lang/String;)V" } : Jvm.MethodName)) ∈ gw := gw_5 77 rfl rfl
theorem w_5_76 : (Jvm.Cond.code ({ cls := "java/lang/IllegalStateException", name := "<init>", desc := "(Ljava/lang/String;)V" } : Jvm.MethodName) prog_27_method_2_code (2 : Nat) (Option.none : Option Jvm.ClassFile.FieldType)) ∈ gw := gw_5 76 rfl rfl
theorem w_5_75 : (Jvm.Cond.instanceMethod ({ cls := "java/lang/IllegalStateException", name := "<init>", desc := "(Ljava/lang/String;)V" } : Jvm.MethodName)) ∈ gw := gw_5 75 rfl rfl
theorem th_111_115_SpillForge_g : (vx_atS "SpillForge" 115 "java/lang/IllegalStateException" ["java/lang/RuntimeException", "java/lang/Exception"]).filter goodWord = [(Jvm.Cond.initialized "java/lang/Throwable"), (Jvm.Cond.superclass "java/lang/Throwable" "java/lang/Object"), (Jvm.Cond.instanceMethod ({ cls := "java/lang/Throwable", name := "fillInStackTrace", desc := "()Ljava/lang/Throwable;" } : Jvm.MethodName)), (Jvm.Cond.codeSync ({ cls := "java/lang/Throwable", name := "fillInStackTrace", desc := "()Ljava/lang/Throwable;" } : Jvm.MethodName) prog_40_method_18_code (1 : Nat) (Option.some (Jvm.ClassFile.FieldType.object "java/lang/Throwable"))), (Jvm.Cond.instanceMethod ({ cls := "java/lang/Throwable", name := "fillInStackTrace", desc := "(I)Ljava/lang/Throwable;" } : Jvm.MethodName)), (Jvm.Cond.native ({ cls := "java/lang/Throwable", name := "fillInStackTrace", desc := "(I)Ljava/lang/Throwable;" } : Jvm.MethodName)), (Jvm.Cond.instanceMethod ({ cls := "java/lang/Throwable", name := "<init>", desc := "()V" } : Jvm.MethodName)), (Jvm.Cond.code ({ cls := "java/lang/Throwable", name := "<init>", desc := "()V" } : Jvm.MethodName) prog_40_method_1_code (1 : Nat) (Option.none : Option Jvm.ClassFile.FieldType)), (Jvm.Cond.instanceMethod ({ cls := "java/lang/Object", name := "<init>", desc := "()V" } : Jvm.MethodName)), (Jvm.Cond.code ({ cls := "java/lang/Object", name := "<init>", desc := "()V" } : Jvm.MethodName) object_method_1_code (1 : Nat) (Option.none : Option Jvm.ClassFile.FieldType)), (Jvm.Cond.methodLink "java/lang/Throwable" (1 : Nat) ({ cls := "java/lang/Object", name := "<init>", desc := "()V" } : Jvm.MethodName)), (Jvm.Cond.methodLink "java/lang/Throwable" (27 : Nat) ({ cls := "java/lang/Throwable", name := "fillInStackTrace", desc := "()Ljava/lang/Throwable;" } : Jvm.MethodName)), (Jvm.Cond.methodLink "java/lang/Throwable" (202 : Nat) ({ cls := "java/lang/Throwable", name := "fillInStackTrace", desc := "(I)Ljava/lang/Throwable;" } : Jvm.MethodName)), (Jvm.Cond.fieldLink "java/lang/Throwable" (7 : Nat) "java/lang/Throwable" "cause" "Ljava/lang/Throwable;"), (Jvm.Cond.lays "java/lang/Throwable" "java/lang/Throwable" "cause" "Ljava/lang/Throwable;"), (Jvm.Cond.fieldLink "java/lang/Throwable" (17 : Nat) "java/lang/Throwable" "stackTrace" "[Ljava/lang/StackTraceElement;"), (Jvm.Cond.lays "java/lang/Throwable" "java/lang/Throwable" "stackTrace" "[Ljava/lang/StackTraceElement;"), (Jvm.Cond.fieldLink "java/lang/Throwable" (24 : Nat) "java/lang/Throwable" "suppressedExceptions" "Ljava/util/List;"), (Jvm.Cond.lays "java/lang/Throwable" "java/lang/Throwable" "suppressedExceptions" "Ljava/util/List;"), (Jvm.Cond.fieldLink "java/lang/Throwable" (13 : Nat) "java/lang/Throwable" "UNASSIGNED_STACK" "[Ljava/lang/StackTraceElement;"), (Jvm.Cond.fieldLink "java/lang/Throwable" (20 : Nat) "java/lang/Throwable" "SUPPRESSED_SENTINEL" "Ljava/util/List;"), (Jvm.Cond.lays "java/lang/Throwable" "java/lang/Throwable" "detailMessage" "Ljava/lang/String;"), (Jvm.Cond.instanceMethod ({ cls := "java/lang/Throwable", name := "<init>", desc := "(Ljava/lang/String;)V" } : Jvm.MethodName)), (Jvm.Cond.code ({ cls := "java/lang/Throwable", name := "<init>", desc := "(Ljava/lang/String;)V" } : Jvm.MethodName) prog_40_method_2_code (2 : Nat) (Option.none : Option Jvm.ClassFile.FieldType)), (Jvm.Cond.fieldLink "java/lang/Throwable" (31 : Nat) "java/lang/Throwable" "detailMessage" "Ljava/lang/String;"), (Jvm.Cond.lays "java/lang/Throwable" "java/lang/Throwable" "detailMessage" "Ljava/lang/String;"), (Jvm.Cond.instanceMethod ({ cls := "java/lang/IllegalStateException", name := "<init>", desc := "(Ljava/lang/String;)V" } : Jvm.MethodName)), (Jvm.Cond.code ({ cls := "java/lang/IllegalStateException", name := "<init>", desc := "(Ljava/lang/String;)V" } : Jvm.MethodName) prog_27_method_2_code (2 : Nat) (Option.none : Option Jvm.ClassFile.FieldType)), (Jvm.Cond.methodLink "java/lang/IllegalStateException" (7 : Nat) ({ cls := "java/lang/RuntimeException", name := "<init>", desc := "(Ljava/lang/String;)V" } : Jvm.MethodName)), (Jvm.Cond.instanceMethod ({ cls := "java/lang/RuntimeException", name := "<init>", desc := "(Ljava/lang/String;)V" } : Jvm.MethodName)), (Jvm.Cond.instanceMethod ({ cls := "java/lang/RuntimeException", name := "<init>", desc := "(Ljava/lang/String;)V" } : Jvm.MethodName)), (Jvm.Cond.code ({ cls := "java/lang/RuntimeException", name := "<init>", desc := "(Ljava/lang/String;)V" } : Jvm.MethodName) prog_33_method_2_code (2 : Nat) (Option.none : Option Jvm.ClassFile.FieldType)), (Jvm.Cond.methodLink "java/lang/RuntimeException" (7 : Nat) ({ cls := "java/lang/Exception", name := "<init>", desc := "(Ljava/lang/String;)V" } : Jvm.MethodName)), (Jvm.Cond.instanceMethod ({ cls := "java/lang/Exception", name := "<init>", desc := "(Ljava/lang/String;)V" } : Jvm.MethodName)), (Jvm.Cond.instanceMethod ({ cls := "java/lang/Exception", name := "<init>", desc := "(Ljava/lang/String;)V" } : Jvm.MethodName)), (Jvm.Cond.code ({ cls := "java/lang/Exception", name := "<init>", desc := "(Ljava/lang/String;)V" } : Jvm.MethodName) prog_25_method_2_code (2 : Nat) (Option.none : Option Jvm.ClassFile.FieldType)), (Jvm.Cond.methodLink "java/lang/Exception" (7 : Nat) ({ cls := "java/lang/Throwable", name := "<init>", desc := "(Ljava/lang/String;)V" } : Jvm.MethodName)), (Jvm.Cond.instanceMethod ({ cls := "java/lang/Throwable", name := "<init>", desc := "(Ljava/lang/String;)V" } : Jvm.MethodName)), (Jvm.Cond.methodLink "SpillForge" (115 : Nat) ({ cls := "java/lang/IllegalStateException", name := "<init>", desc := "(Ljava/lang/String;)V" } : Jvm.MethodName)), (Jvm.Cond.instantiable "java/lang/IllegalStateException" (6 : Nat)), (Jvm.Cond.selects "java/lang/IllegalStateException" ({ cls := "java/lang/Throwable", name := "fillInStackTrace", desc := "(I)Ljava/lang/Throwable;" } : Jvm.MethodName) ({ cls := "java/lang/Throwable", name := "fillInStackTrace", desc := "(I)Ljava/lang/Throwable;" } : Jvm.MethodName)), (Jvm.Cond.selects "java/lang/IllegalStateException" ({ cls := "java/lang/Throwable", name := "fillInStackTrace", desc := "()Ljava/lang/Throwable;" } : Jvm.MethodName) ({ cls := "java/lang/Throwable", name := "fillInStackTrace", desc := "()Ljava/lang/Throwable;" } : Jvm.MethodName)), (Jvm.Cond.lays "java/lang/IllegalStateException" "java/lang/Throwable" "cause" "Ljava/lang/Throwable;"), (Jvm.Cond.lays "java/lang/IllegalStateException" "java/lang/Throwable" "stackTrace" "[Ljava/lang/StackTraceElement;"), (Jvm.Cond.lays "java/lang/IllegalStateException" "java/lang/Throwable" "suppressedExceptions" "Ljava/util/List;"), (Jvm.Cond.lays "java/lang/IllegalStateException" "java/lang/Throwable" "detailMessage" "Ljava/lang/String;"), (Jvm.Cond.fieldLink "java/lang/Throwable" (198 : Nat) "java/lang/Throwable" "backtrace" "Ljava/lang/Object;"), (Jvm.Cond.lays "java/lang/Throwable" "java/lang/Throwable" "backtrace" "Ljava/lang/Object;"), (Jvm.Cond.lays "java/lang/IllegalStateException" "java/lang/Throwable" "backtrace" "Ljava/lang/Object;")] := by rfl
theorem th_111_115_SpillForge_b : (vx_atS "SpillForge" 115 "java/lang/IllegalStateException" ["java/lang/RuntimeException", "java/lang/Exception"]).filter (fun w => !goodWord w) = [(Jvm.Cond.declares ({ cls := "java/lang/RuntimeException", name := "<init>", desc := "(Ljava/lang/String;)V" } : Jvm.MethodName)), (Jvm.Cond.declares ({ cls := "java/lang/Exception", name := "<init>", desc := "(Ljava/lang/String;)V" } : Jvm.MethodName)), (Jvm.Cond.declares ({ cls := "java/lang/Throwable", name := "<init>", desc := "(Ljava/lang/String;)V" } : Jvm.MethodName)), (Jvm.Cond.castable "java/lang/IllegalStateException" "java/lang/IllegalStateException")] := by rfl
theorem th_111_115_SpillForge_o : (Cond.classLink "SpillForge" 111 "java/lang/IllegalStateException" :: Cond.initialized "java/lang/IllegalStateException" :: vx_atS "SpillForge" 115 "java/lang/IllegalStateException" ["java/lang/RuntimeException", "java/lang/Exception"]).all vx_ot = true := by rfl
theorem th_111_115_SpillForge : (∀ w ∈ (vx_atS "SpillForge" 115 "java/lang/IllegalStateException" ["java/lang/RuntimeException", "java/lang/Exception"]).filter goodWord, w ∈ gw) ∧ (∀ w ∈ (vx_atS "SpillForge" 115 "java/lang/IllegalStateException" ["java/lang/RuntimeException", "java/lang/Exception"]).filter (fun w => !goodWord w), w ∈ gNest) ∧ ∀ w ∈ (Cond.classLink "SpillForge" 111 "java/lang/IllegalStateException" :: Cond.initialized "java/lang/IllegalStateException" :: vx_atS "SpillForge" 115 "java/lang/IllegalStateException" ["java/lang/RuntimeException", "java/lang/Exception"]), vx_ot w = true := by
  refine ⟨?_, ?_, List.all_eq_true.mp th_111_115_SpillForge_o⟩
  · rw [th_111_115_SpillForge_g]; exact List.forall_mem_cons.mpr ⟨w_1_23, List.forall_mem_cons.mpr ⟨w_4_217, List.forall_mem_cons.mpr ⟨w_4_226, List.forall_mem_cons.mpr ⟨w_4_234, List.forall_mem_cons.mpr ⟨w_4_237, List.forall_mem_cons.mpr ⟨w_4_239, List.forall_mem_cons.mpr ⟨w_4_218, List.forall_mem_cons.mpr ⟨w_4_219, List.forall_mem_cons.mpr ⟨w_1_51, List.forall_mem_cons.mpr ⟨w_1_52, List.forall_mem_cons.mpr ⟨w_4_220, List.forall_mem_cons.mpr ⟨w_4_225, List.forall_mem_cons.mpr ⟨w_4_235, List.forall_mem_cons.mpr ⟨w_5_15, List.forall_mem_cons.mpr ⟨w_4_207, List.forall_mem_cons.mpr ⟨w_5_16, List.forall_mem_cons.mpr ⟨w_4_209, List.forall_mem_cons.mpr ⟨w_5_17, List.forall_mem_cons.mpr ⟨w_4_211, List.forall_mem_cons.mpr ⟨w_4_221, List.forall_mem_cons.mpr ⟨w_4_223, List.forall_mem_cons.mpr ⟨w_4_213, List.forall_mem_cons.mpr ⟨w_5_11, List.forall_mem_cons.mpr ⟨w_5_12, List.forall_mem_cons.mpr ⟨w_5_14, List.forall_mem_cons.mpr ⟨w_4_213, List.forall_mem_cons.mpr ⟨w_5_75, List.forall_mem_cons.mpr ⟨w_5_76, List.forall_mem_cons.mpr ⟨w_5_77, List.forall_mem_cons.mpr ⟨w_5_5, List.forall_mem_cons.mpr ⟨w_5_5, List.forall_mem_cons.mpr ⟨w_5_6, List.forall_mem_cons.mpr ⟨w_5_7, List.forall_mem_cons.mpr ⟨w_5_8, List.forall_mem_cons.mpr ⟨w_5_8, List.forall_mem_cons.mpr ⟨w_5_9, List.forall_mem_cons.mpr ⟨w_5_10, List.forall_mem_cons.mpr ⟨w_5_11, List.forall_mem_cons.mpr ⟨w_5_74, List.forall_mem_cons.mpr ⟨w_5_65, List.forall_mem_cons.mpr ⟨w_5_67, List.forall_mem_cons.mpr ⟨w_4_231, List.forall_mem_cons.mpr ⟨w_5_68, List.forall_mem_cons.mpr ⟨w_5_69, List.forall_mem_cons.mpr ⟨w_5_70, List.forall_mem_cons.mpr ⟨w_5_71, List.forall_mem_cons.mpr ⟨w_4_216, List.forall_mem_cons.mpr ⟨w_4_215, List.forall_mem_cons.mpr ⟨w_5_72, fun _ h => absurd h List.not_mem_nil⟩⟩⟩⟩⟩⟩⟩⟩⟩⟩⟩⟩⟩⟩⟩⟩⟩⟩⟩⟩⟩⟩⟩⟩⟩⟩⟩⟩⟩⟩⟩⟩⟩⟩⟩⟩⟩⟩⟩⟩⟩⟩⟩⟩⟩⟩⟩⟩⟩
  · rw [th_111_115_SpillForge_b]; exact List.forall_mem_cons.mpr ⟨List.mem_of_getElem? (i := 66) rfl, List.forall_mem_cons.mpr ⟨List.mem_of_getElem? (i := 68) rfl, List.forall_mem_cons.mpr ⟨List.mem_of_getElem? (i := 70) rfl, List.forall_mem_cons.mpr ⟨List.mem_of_getElem? (i := 72) rfl, fun _ h => absurd h List.not_mem_nil⟩⟩⟩⟩
theorem w_5_64 : (Jvm.Cond.classLink "SpillForge" (111 : Nat) "java/lang/IllegalStateException") ∈ gw := gw_5 64 rfl rfl
theorem w_1_41 : (Jvm.Cond.initialized "java/lang/IllegalStateException") ∈ gw := gw_1 41 rfl rfl
theorem w_2_113 : (Jvm.Cond.fieldLink "SpillForge$Giver" (48 : Nat) "SpillForge$Giver" "code" "LSpillForge$Code;") ∈ gw := gw_2 113 rfl rfl
theorem w_5_225 : (Jvm.Cond.methodLink "SpillForge" (141 : Nat) ({ cls := "SpillForge$Giver", name := "result", desc := "()LSpillForge$Code;" } : Jvm.MethodName)) ∈ gw := gw_5 225 rfl rfl
theorem w_5_228 : (Jvm.Cond.code ({ cls := "SpillForge$Giver", name := "result", desc := "()LSpillForge$Code;" } : Jvm.MethodName) prog_4_method_3_code (1 : Nat) (Option.some (Jvm.ClassFile.FieldType.object "SpillForge$Code"))) ∈ gw := gw_5 228 rfl rfl
theorem w_5_226 : (Jvm.Cond.instanceMethod ({ cls := "SpillForge$Giver", name := "result", desc := "()LSpillForge$Code;" } : Jvm.MethodName)) ∈ gw := gw_5 226 rfl rfl
theorem w_5_227 : (Jvm.Cond.selects "SpillForge$Giver" ({ cls := "SpillForge$Giver", name := "result", desc := "()LSpillForge$Code;" } : Jvm.MethodName) ({ cls := "SpillForge$Giver", name := "result", desc := "()LSpillForge$Code;" } : Jvm.MethodName)) ∈ gw := gw_5 227 rfl rfl
theorem w_6_123 : (Jvm.Cond.methodLink "SpillForge" (201 : Nat) ({ cls := "SpillForge$Machine", name := "shows", desc := "()I" } : Jvm.MethodName)) ∈ gw := gw_6 123 rfl rfl
theorem w_6_126 : (Jvm.Cond.code ({ cls := "SpillForge$Machine", name := "shows", desc := "()I" } : Jvm.MethodName) prog_9_method_4_code (1 : Nat) (Option.some Jvm.ClassFile.FieldType.int)) ∈ gw := gw_6 126 rfl rfl
theorem w_6_124 : (Jvm.Cond.instanceMethod ({ cls := "SpillForge$Machine", name := "shows", desc := "()I" } : Jvm.MethodName)) ∈ gw := gw_6 124 rfl rfl
theorem w_6_125 : (Jvm.Cond.selects "SpillForge$Machine" ({ cls := "SpillForge$Machine", name := "shows", desc := "()I" } : Jvm.MethodName) ({ cls := "SpillForge$Machine", name := "shows", desc := "()I" } : Jvm.MethodName)) ∈ gw := gw_6 125 rfl rfl
theorem w_6_144 : (Jvm.Cond.methodLink "SpillForge" (214 : Nat) ({ cls := "SpillForge$Machine", name := "showAt", desc := "(I)I" } : Jvm.MethodName)) ∈ gw := gw_6 144 rfl rfl
theorem w_6_147 : (Jvm.Cond.code ({ cls := "SpillForge$Machine", name := "showAt", desc := "(I)I" } : Jvm.MethodName) prog_9_method_5_code (2 : Nat) (Option.some Jvm.ClassFile.FieldType.int)) ∈ gw := gw_6 147 rfl rfl
theorem w_6_145 : (Jvm.Cond.instanceMethod ({ cls := "SpillForge$Machine", name := "showAt", desc := "(I)I" } : Jvm.MethodName)) ∈ gw := gw_6 145 rfl rfl
theorem w_6_146 : (Jvm.Cond.selects "SpillForge$Machine" ({ cls := "SpillForge$Machine", name := "showAt", desc := "(I)I" } : Jvm.MethodName) ({ cls := "SpillForge$Machine", name := "showAt", desc := "(I)I" } : Jvm.MethodName)) ∈ gw := gw_6 146 rfl rfl
theorem w_6_119 : (Jvm.Cond.methodLink "SpillForge" (198 : Nat) ({ cls := "SpillForge$Machine", name := "answer", desc := "()I" } : Jvm.MethodName)) ∈ gw := gw_6 119 rfl rfl
theorem w_6_122 : (Jvm.Cond.code ({ cls := "SpillForge$Machine", name := "answer", desc := "()I" } : Jvm.MethodName) prog_9_method_3_code (1 : Nat) (Option.some Jvm.ClassFile.FieldType.int)) ∈ gw := gw_6 122 rfl rfl
theorem w_6_120 : (Jvm.Cond.instanceMethod ({ cls := "SpillForge$Machine", name := "answer", desc := "()I" } : Jvm.MethodName)) ∈ gw := gw_6 120 rfl rfl
theorem w_6_121 : (Jvm.Cond.selects "SpillForge$Machine" ({ cls := "SpillForge$Machine", name := "answer", desc := "()I" } : Jvm.MethodName) ({ cls := "SpillForge$Machine", name := "answer", desc := "()I" } : Jvm.MethodName)) ∈ gw := gw_6 121 rfl rfl
theorem w_6_127 : (Jvm.Cond.methodLink "SpillForge" (204 : Nat) ({ cls := "SpillForge$Machine", name := "steps", desc := "()I" } : Jvm.MethodName)) ∈ gw := gw_6 127 rfl rfl
theorem w_6_130 : (Jvm.Cond.code ({ cls := "SpillForge$Machine", name := "steps", desc := "()I" } : Jvm.MethodName) prog_9_method_6_code (1 : Nat) (Option.some Jvm.ClassFile.FieldType.int)) ∈ gw := gw_6 130 rfl rfl
theorem w_6_128 : (Jvm.Cond.instanceMethod ({ cls := "SpillForge$Machine", name := "steps", desc := "()I" } : Jvm.MethodName)) ∈ gw := gw_6 128 rfl rfl
theorem w_6_129 : (Jvm.Cond.selects "SpillForge$Machine" ({ cls := "SpillForge$Machine", name := "steps", desc := "()I" } : Jvm.MethodName) ({ cls := "SpillForge$Machine", name := "steps", desc := "()I" } : Jvm.MethodName)) ∈ gw := gw_6 129 rfl rfl
theorem w_6_131 : (Jvm.Cond.methodLink "SpillForge" (207 : Nat) ({ cls := "SpillForge$Machine", name := "taken", desc := "()I" } : Jvm.MethodName)) ∈ gw := gw_6 131 rfl rfl
theorem w_6_134 : (Jvm.Cond.code ({ cls := "SpillForge$Machine", name := "taken", desc := "()I" } : Jvm.MethodName) prog_9_method_7_code (1 : Nat) (Option.some Jvm.ClassFile.FieldType.int)) ∈ gw := gw_6 134 rfl rfl
theorem w_6_132 : (Jvm.Cond.instanceMethod ({ cls := "SpillForge$Machine", name := "taken", desc := "()I" } : Jvm.MethodName)) ∈ gw := gw_6 132 rfl rfl
theorem w_6_133 : (Jvm.Cond.selects "SpillForge$Machine" ({ cls := "SpillForge$Machine", name := "taken", desc := "()I" } : Jvm.MethodName) ({ cls := "SpillForge$Machine", name := "taken", desc := "()I" } : Jvm.MethodName)) ∈ gw := gw_6 133 rfl rfl
theorem w_6_108 : (Jvm.Cond.methodLink "SpillForge" (195 : Nat) ({ cls := "SpillForge$Machine", name := "ending", desc := "()I" } : Jvm.MethodName)) ∈ gw := gw_6 108 rfl rfl
theorem w_6_111 : (Jvm.Cond.code ({ cls := "SpillForge$Machine", name := "ending", desc := "()I" } : Jvm.MethodName) prog_9_method_8_code (1 : Nat) (Option.some Jvm.ClassFile.FieldType.int)) ∈ gw := gw_6 111 rfl rfl
theorem w_6_109 : (Jvm.Cond.instanceMethod ({ cls := "SpillForge$Machine", name := "ending", desc := "()I" } : Jvm.MethodName)) ∈ gw := gw_6 109 rfl rfl
theorem w_6_110 : (Jvm.Cond.selects "SpillForge$Machine" ({ cls := "SpillForge$Machine", name := "ending", desc := "()I" } : Jvm.MethodName) ({ cls := "SpillForge$Machine", name := "ending", desc := "()I" } : Jvm.MethodName)) ∈ gw := gw_6 110 rfl rfl
theorem d_cJ0_charAt_5068e_0 : decode cJ0_charAt_5068e 0 = .ok (.aload_n 0, 1) := by decide +kernel
theorem d_cJ0_charAt_5068e_1 : decode cJ0_charAt_5068e 1 = .ok (.invokevirtual 492, 3) := by decide +kernel
theorem d_cJ0_charAt_5068e_4 : decode cJ0_charAt_5068e 4 = .ok (.ifCond .eq 12, 3) := by decide +kernel
theorem d_cJ0_charAt_5068e_7 : decode cJ0_charAt_5068e 7 = .ok (.aload_n 0, 1) := by decide +kernel
theorem d_cJ0_charAt_5068e_8 : decode cJ0_charAt_5068e 8 = .ok (.getfield 9, 3) := by decide +kernel
theorem d_cJ0_charAt_5068e_11 : decode cJ0_charAt_5068e 11 = .ok (.iload_n 1, 1) := by decide +kernel
theorem d_cJ0_charAt_5068e_12 : decode cJ0_charAt_5068e 12 = .ok (.invokestatic 495, 3) := by decide +kernel
theorem d_cJ0_charAt_5068e_15 : decode cJ0_charAt_5068e 15 = .ok (.ireturn, 1) := by decide +kernel
theorem d_cJ0_checkIndex_df160_0 : decode cJ0_checkIndex_df160 0 = .ok (.iload_n 0, 1) := by decide +kernel
theorem d_cJ0_checkIndex_df160_1 : decode cJ0_checkIndex_df160 1 = .ok (.iload_n 1, 1) := by decide +kernel
theorem d_cJ0_checkIndex_df160_2 : decode cJ0_checkIndex_df160 2 = .ok (.getstatic 1053, 3) := by decide +kernel
theorem d_cJ0_checkIndex_df160_5 : decode cJ0_checkIndex_df160 5 = .ok (.invokestatic 1059, 3) := by decide +kernel
theorem d_cJ0_checkIndex_df160_8 : decode cJ0_checkIndex_df160 8 = .ok (.pop, 1) := by decide +kernel
theorem d_cJ0_checkIndex_df160_9 : decode cJ0_checkIndex_df160 9 = .ok (.return_, 1) := by decide +kernel
theorem d_cJ0_coder_7d493_0 : decode cJ0_coder_7d493 0 = .ok (.getstatic 38, 3) := by decide +kernel
theorem d_cJ0_coder_7d493_3 : decode cJ0_coder_7d493 3 = .ok (.ifCond .eq 10, 3) := by decide +kernel
theorem d_cJ0_coder_7d493_6 : decode cJ0_coder_7d493 6 = .ok (.aload_n 0, 1) := by decide +kernel
theorem d_cJ0_coder_7d493_7 : decode cJ0_coder_7d493 7 = .ok (.getfield 15, 3) := by decide +kernel
theorem d_cJ0_coder_7d493_10 : decode cJ0_coder_7d493 10 = .ok (.goto 4, 3) := by decide +kernel
theorem d_cJ0_coder_7d493_14 : decode cJ0_coder_7d493 14 = .ok (.ireturn, 1) := by decide +kernel
theorem d_cJ0_isLatin1_aae02_0 : decode cJ0_isLatin1_aae02 0 = .ok (.getstatic 38, 3) := by decide +kernel
theorem d_cJ0_isLatin1_aae02_3 : decode cJ0_isLatin1_aae02 3 = .ok (.ifCond .eq 14, 3) := by decide +kernel
theorem d_cJ0_isLatin1_aae02_6 : decode cJ0_isLatin1_aae02 6 = .ok (.aload_n 0, 1) := by decide +kernel
theorem d_cJ0_isLatin1_aae02_7 : decode cJ0_isLatin1_aae02 7 = .ok (.getfield 15, 3) := by decide +kernel
theorem d_cJ0_isLatin1_aae02_10 : decode cJ0_isLatin1_aae02 10 = .ok (.ifCond .ne 7, 3) := by decide +kernel
theorem d_cJ0_isLatin1_aae02_13 : decode cJ0_isLatin1_aae02 13 = .ok (.iconst 1, 1) := by decide +kernel
theorem d_cJ0_isLatin1_aae02_14 : decode cJ0_isLatin1_aae02 14 = .ok (.goto 4, 3) := by decide +kernel
theorem d_cJ0_isLatin1_aae02_18 : decode cJ0_isLatin1_aae02 18 = .ok (.ireturn, 1) := by decide +kernel
theorem d_cJ0_length_8abf5_0 : decode cJ0_length_8abf5 0 = .ok (.aload_n 0, 1) := by decide +kernel
theorem d_cJ0_length_8abf5_1 : decode cJ0_length_8abf5 1 = .ok (.getfield 9, 3) := by decide +kernel
theorem d_cJ0_length_8abf5_4 : decode cJ0_length_8abf5 4 = .ok (.arraylength, 1) := by decide +kernel
theorem d_cJ0_length_8abf5_5 : decode cJ0_length_8abf5 5 = .ok (.aload_n 0, 1) := by decide +kernel
theorem d_cJ0_length_8abf5_6 : decode cJ0_length_8abf5 6 = .ok (.invokevirtual 335, 3) := by decide +kernel
theorem d_cJ0_length_8abf5_9 : decode cJ0_length_8abf5 9 = .ok (.ishr, 1) := by decide +kernel
theorem d_cJ0_length_8abf5_10 : decode cJ0_length_8abf5 10 = .ok (.ireturn, 1) := by decide +kernel
theorem d_cJ13_bitCount_95d88_0 : decode cJ13_bitCount_95d88 0 = .ok (.lload_n 0, 1) := by decide +kernel
theorem d_cJ13_bitCount_95d88_1 : decode cJ13_bitCount_95d88 1 = .ok (.lload_n 0, 1) := by decide +kernel
theorem d_cJ13_bitCount_95d88_2 : decode cJ13_bitCount_95d88 2 = .ok (.iconst 1, 1) := by decide +kernel
theorem d_cJ13_bitCount_95d88_3 : decode cJ13_bitCount_95d88 3 = .ok (.lushr, 1) := by decide +kernel
theorem d_cJ13_bitCount_95d88_4 : decode cJ13_bitCount_95d88 4 = .ok (.ldc2_w 314, 3) := by decide +kernel
theorem d_cJ13_bitCount_95d88_7 : decode cJ13_bitCount_95d88 7 = .ok (.land, 1) := by decide +kernel
theorem d_cJ13_bitCount_95d88_8 : decode cJ13_bitCount_95d88 8 = .ok (.lsub, 1) := by decide +kernel
theorem d_cJ13_bitCount_95d88_9 : decode cJ13_bitCount_95d88 9 = .ok (.lstore_n 0, 1) := by decide +kernel
theorem d_cJ13_bitCount_95d88_10 : decode cJ13_bitCount_95d88 10 = .ok (.lload_n 0, 1) := by decide +kernel
theorem d_cJ13_bitCount_95d88_11 : decode cJ13_bitCount_95d88 11 = .ok (.ldc2_w 316, 3) := by decide +kernel
theorem d_cJ13_bitCount_95d88_14 : decode cJ13_bitCount_95d88 14 = .ok (.land, 1) := by decide +kernel
theorem d_cJ13_bitCount_95d88_15 : decode cJ13_bitCount_95d88 15 = .ok (.lload_n 0, 1) := by decide +kernel
theorem d_cJ13_bitCount_95d88_16 : decode cJ13_bitCount_95d88 16 = .ok (.iconst 2, 1) := by decide +kernel
theorem d_cJ13_bitCount_95d88_17 : decode cJ13_bitCount_95d88 17 = .ok (.lushr, 1) := by decide +kernel
theorem d_cJ13_bitCount_95d88_18 : decode cJ13_bitCount_95d88 18 = .ok (.ldc2_w 316, 3) := by decide +kernel
theorem d_cJ13_bitCount_95d88_21 : decode cJ13_bitCount_95d88 21 = .ok (.land, 1) := by decide +kernel
theorem d_cJ13_bitCount_95d88_22 : decode cJ13_bitCount_95d88 22 = .ok (.ladd, 1) := by decide +kernel
theorem d_cJ13_bitCount_95d88_23 : decode cJ13_bitCount_95d88 23 = .ok (.lstore_n 0, 1) := by decide +kernel
theorem d_cJ13_bitCount_95d88_24 : decode cJ13_bitCount_95d88 24 = .ok (.lload_n 0, 1) := by decide +kernel
theorem d_cJ13_bitCount_95d88_25 : decode cJ13_bitCount_95d88 25 = .ok (.lload_n 0, 1) := by decide +kernel
theorem d_cJ13_bitCount_95d88_26 : decode cJ13_bitCount_95d88 26 = .ok (.iconst 4, 1) := by decide +kernel
theorem d_cJ13_bitCount_95d88_27 : decode cJ13_bitCount_95d88 27 = .ok (.lushr, 1) := by decide +kernel
theorem d_cJ13_bitCount_95d88_28 : decode cJ13_bitCount_95d88 28 = .ok (.ladd, 1) := by decide +kernel
theorem d_cJ13_bitCount_95d88_29 : decode cJ13_bitCount_95d88 29 = .ok (.ldc2_w 318, 3) := by decide +kernel
theorem d_cJ13_bitCount_95d88_32 : decode cJ13_bitCount_95d88 32 = .ok (.land, 1) := by decide +kernel
theorem d_cJ13_bitCount_95d88_33 : decode cJ13_bitCount_95d88 33 = .ok (.lstore_n 0, 1) := by decide +kernel
theorem d_cJ13_bitCount_95d88_34 : decode cJ13_bitCount_95d88 34 = .ok (.lload_n 0, 1) := by decide +kernel
theorem d_cJ13_bitCount_95d88_35 : decode cJ13_bitCount_95d88 35 = .ok (.lload_n 0, 1) := by decide +kernel
theorem d_cJ13_bitCount_95d88_36 : decode cJ13_bitCount_95d88 36 = .ok (.bipush 8, 2) := by decide +kernel
theorem d_cJ13_bitCount_95d88_38 : decode cJ13_bitCount_95d88 38 = .ok (.lushr, 1) := by decide +kernel
theorem d_cJ13_bitCount_95d88_39 : decode cJ13_bitCount_95d88 39 = .ok (.ladd, 1) := by decide +kernel
theorem d_cJ13_bitCount_95d88_40 : decode cJ13_bitCount_95d88 40 = .ok (.lstore_n 0, 1) := by decide +kernel
theorem d_cJ13_bitCount_95d88_41 : decode cJ13_bitCount_95d88 41 = .ok (.lload_n 0, 1) := by decide +kernel
theorem d_cJ13_bitCount_95d88_42 : decode cJ13_bitCount_95d88 42 = .ok (.lload_n 0, 1) := by decide +kernel
theorem d_cJ13_bitCount_95d88_43 : decode cJ13_bitCount_95d88 43 = .ok (.bipush 16, 2) := by decide +kernel
theorem d_cJ13_bitCount_95d88_45 : decode cJ13_bitCount_95d88 45 = .ok (.lushr, 1) := by decide +kernel
theorem d_cJ13_bitCount_95d88_46 : decode cJ13_bitCount_95d88 46 = .ok (.ladd, 1) := by decide +kernel
theorem d_cJ13_bitCount_95d88_47 : decode cJ13_bitCount_95d88 47 = .ok (.lstore_n 0, 1) := by decide +kernel
theorem d_cJ13_bitCount_95d88_48 : decode cJ13_bitCount_95d88 48 = .ok (.lload_n 0, 1) := by decide +kernel
theorem d_cJ13_bitCount_95d88_49 : decode cJ13_bitCount_95d88 49 = .ok (.lload_n 0, 1) := by decide +kernel
theorem d_cJ13_bitCount_95d88_50 : decode cJ13_bitCount_95d88 50 = .ok (.bipush 32, 2) := by decide +kernel
theorem d_cJ13_bitCount_95d88_52 : decode cJ13_bitCount_95d88 52 = .ok (.lushr, 1) := by decide +kernel
theorem d_cJ13_bitCount_95d88_53 : decode cJ13_bitCount_95d88 53 = .ok (.ladd, 1) := by decide +kernel
theorem d_cJ13_bitCount_95d88_54 : decode cJ13_bitCount_95d88 54 = .ok (.lstore_n 0, 1) := by decide +kernel
theorem d_cJ13_bitCount_95d88_55 : decode cJ13_bitCount_95d88 55 = .ok (.lload_n 0, 1) := by decide +kernel
theorem d_cJ13_bitCount_95d88_56 : decode cJ13_bitCount_95d88 56 = .ok (.l2i, 1) := by decide +kernel
theorem d_cJ13_bitCount_95d88_57 : decode cJ13_bitCount_95d88 57 = .ok (.bipush 127, 2) := by decide +kernel
theorem d_cJ13_bitCount_95d88_59 : decode cJ13_bitCount_95d88 59 = .ok (.iand, 1) := by decide +kernel
theorem d_cJ13_bitCount_95d88_60 : decode cJ13_bitCount_95d88 60 = .ok (.ireturn, 1) := by decide +kernel
theorem d_cJ1_charAt_3b067_0 : decode cJ1_charAt_3b067 0 = .ok (.iload_n 1, 1) := by decide +kernel
theorem d_cJ1_charAt_3b067_1 : decode cJ1_charAt_3b067 1 = .ok (.aload_n 0, 1) := by decide +kernel
theorem d_cJ1_charAt_3b067_2 : decode cJ1_charAt_3b067 2 = .ok (.arraylength, 1) := by decide +kernel
theorem d_cJ1_charAt_3b067_3 : decode cJ1_charAt_3b067 3 = .ok (.invokestatic 9, 3) := by decide +kernel
theorem d_cJ1_charAt_3b067_6 : decode cJ1_charAt_3b067 6 = .ok (.aload_n 0, 1) := by decide +kernel
theorem d_cJ1_charAt_3b067_7 : decode cJ1_charAt_3b067 7 = .ok (.iload_n 1, 1) := by decide +kernel
theorem d_cJ1_charAt_3b067_8 : decode cJ1_charAt_3b067 8 = .ok (.baload, 1) := by decide +kernel
theorem d_cJ1_charAt_3b067_9 : decode cJ1_charAt_3b067 9 = .ok (.sipush 255, 3) := by decide +kernel
theorem d_cJ1_charAt_3b067_12 : decode cJ1_charAt_3b067 12 = .ok (.iand, 1) := by decide +kernel
theorem d_cJ1_charAt_3b067_13 : decode cJ1_charAt_3b067 13 = .ok (.i2c, 1) := by decide +kernel
theorem d_cJ1_charAt_3b067_14 : decode cJ1_charAt_3b067 14 = .ok (.ireturn, 1) := by decide +kernel
theorem d_cJ3_checkIndex_8e157_0 : decode cJ3_checkIndex_8e157 0 = .ok (.iload_n 0, 1) := by decide +kernel
theorem d_cJ3_checkIndex_8e157_1 : decode cJ3_checkIndex_8e157 1 = .ok (.ifCond .lt 8, 3) := by decide +kernel
theorem d_cJ3_checkIndex_8e157_4 : decode cJ3_checkIndex_8e157 4 = .ok (.iload_n 0, 1) := by decide +kernel
theorem d_cJ3_checkIndex_8e157_5 : decode cJ3_checkIndex_8e157 5 = .ok (.iload_n 1, 1) := by decide +kernel
theorem d_cJ3_checkIndex_8e157_6 : decode cJ3_checkIndex_8e157 6 = .ok (.if_icmp .lt 10, 3) := by decide +kernel
theorem d_cJ3_checkIndex_8e157_9 : decode cJ3_checkIndex_8e157 9 = .ok (.aload_n 2, 1) := by decide +kernel
theorem d_cJ3_checkIndex_8e157_16 : decode cJ3_checkIndex_8e157 16 = .ok (.iload_n 0, 1) := by decide +kernel
theorem d_cJ3_checkIndex_8e157_17 : decode cJ3_checkIndex_8e157 17 = .ok (.ireturn, 1) := by decide +kernel
theorem d_cJ7_fill_53178_0 : decode cJ7_fill_53178 0 = .ok (.iconst 0, 1) := by decide +kernel
theorem d_cJ7_fill_53178_1 : decode cJ7_fill_53178 1 = .ok (.istore_n 2, 1) := by decide +kernel
theorem d_cJ7_fill_53178_2 : decode cJ7_fill_53178 2 = .ok (.aload_n 0, 1) := by decide +kernel
theorem d_cJ7_fill_53178_3 : decode cJ7_fill_53178 3 = .ok (.arraylength, 1) := by decide +kernel
theorem d_cJ7_fill_53178_4 : decode cJ7_fill_53178 4 = .ok (.istore_n 3, 1) := by decide +kernel
theorem d_cJ7_fill_53178_5 : decode cJ7_fill_53178 5 = .ok (.iload_n 2, 1) := by decide +kernel
theorem d_cJ7_fill_53178_6 : decode cJ7_fill_53178 6 = .ok (.iload_n 3, 1) := by decide +kernel
theorem d_cJ7_fill_53178_7 : decode cJ7_fill_53178 7 = .ok (.if_icmp .ge 13, 3) := by decide +kernel
theorem d_cJ7_fill_53178_10 : decode cJ7_fill_53178 10 = .ok (.aload_n 0, 1) := by decide +kernel
theorem d_cJ7_fill_53178_11 : decode cJ7_fill_53178 11 = .ok (.iload_n 2, 1) := by decide +kernel
theorem d_cJ7_fill_53178_12 : decode cJ7_fill_53178 12 = .ok (.iload_n 1, 1) := by decide +kernel
theorem d_cJ7_fill_53178_13 : decode cJ7_fill_53178 13 = .ok (.iastore, 1) := by decide +kernel
theorem d_cJ7_fill_53178_14 : decode cJ7_fill_53178 14 = .ok (.iinc 2 1, 3) := by decide +kernel
theorem d_cJ7_fill_53178_17 : decode cJ7_fill_53178 17 = .ok (.goto (-12), 3) := by decide +kernel
theorem d_cJ7_fill_53178_20 : decode cJ7_fill_53178 20 = .ok (.return_, 1) := by decide +kernel
theorem d_cJ7_fill_d0a16_0 : decode cJ7_fill_d0a16 0 = .ok (.iconst 0, 1) := by decide +kernel
theorem d_cJ7_fill_d0a16_1 : decode cJ7_fill_d0a16 1 = .ok (.istore_n 3, 1) := by decide +kernel
theorem d_cJ7_fill_d0a16_2 : decode cJ7_fill_d0a16 2 = .ok (.aload_n 0, 1) := by decide +kernel
theorem d_cJ7_fill_d0a16_3 : decode cJ7_fill_d0a16 3 = .ok (.arraylength, 1) := by decide +kernel
theorem d_cJ7_fill_d0a16_4 : decode cJ7_fill_d0a16 4 = .ok (.istore 4, 2) := by decide +kernel
theorem d_cJ7_fill_d0a16_6 : decode cJ7_fill_d0a16 6 = .ok (.iload_n 3, 1) := by decide +kernel
theorem d_cJ7_fill_d0a16_7 : decode cJ7_fill_d0a16 7 = .ok (.iload 4, 2) := by decide +kernel
theorem d_cJ7_fill_d0a16_9 : decode cJ7_fill_d0a16 9 = .ok (.if_icmp .ge 13, 3) := by decide +kernel
theorem d_cJ7_fill_d0a16_12 : decode cJ7_fill_d0a16 12 = .ok (.aload_n 0, 1) := by decide +kernel
theorem d_cJ7_fill_d0a16_13 : decode cJ7_fill_d0a16 13 = .ok (.iload_n 3, 1) := by decide +kernel
theorem d_cJ7_fill_d0a16_14 : decode cJ7_fill_d0a16 14 = .ok (.lload_n 1, 1) := by decide +kernel
theorem d_cJ7_fill_d0a16_15 : decode cJ7_fill_d0a16 15 = .ok (.lastore, 1) := by decide +kernel
theorem d_cJ7_fill_d0a16_16 : decode cJ7_fill_d0a16 16 = .ok (.iinc 3 1, 3) := by decide +kernel
theorem d_cJ7_fill_d0a16_19 : decode cJ7_fill_d0a16 19 = .ok (.goto (-13), 3) := by decide +kernel
theorem d_cJ7_fill_d0a16_22 : decode cJ7_fill_d0a16 22 = .ok (.return_, 1) := by decide +kernel
theorem d_cJ9_abs_067f4_0 : decode cJ9_abs_067f4 0 = .ok (.lload_n 0, 1) := by decide +kernel
theorem d_cJ9_abs_067f4_1 : decode cJ9_abs_067f4 1 = .ok (.lconst 0, 1) := by decide +kernel
theorem d_cJ9_abs_067f4_2 : decode cJ9_abs_067f4 2 = .ok (.lcmp, 1) := by decide +kernel
theorem d_cJ9_abs_067f4_3 : decode cJ9_abs_067f4 3 = .ok (.ifCond .ge 8, 3) := by decide +kernel
theorem d_cJ9_abs_067f4_6 : decode cJ9_abs_067f4 6 = .ok (.lload_n 0, 1) := by decide +kernel
theorem d_cJ9_abs_067f4_7 : decode cJ9_abs_067f4 7 = .ok (.lneg, 1) := by decide +kernel
theorem d_cJ9_abs_067f4_8 : decode cJ9_abs_067f4 8 = .ok (.goto 4, 3) := by decide +kernel
theorem d_cJ9_abs_067f4_11 : decode cJ9_abs_067f4 11 = .ok (.lload_n 0, 1) := by decide +kernel
theorem d_cJ9_abs_067f4_12 : decode cJ9_abs_067f4 12 = .ok (.lreturn, 1) := by decide +kernel
theorem d_cJ9_min_f86c9_0 : decode cJ9_min_f86c9 0 = .ok (.lload_n 0, 1) := by decide +kernel
theorem d_cJ9_min_f86c9_1 : decode cJ9_min_f86c9 1 = .ok (.lload_n 2, 1) := by decide +kernel
theorem d_cJ9_min_f86c9_2 : decode cJ9_min_f86c9 2 = .ok (.lcmp, 1) := by decide +kernel
theorem d_cJ9_min_f86c9_3 : decode cJ9_min_f86c9 3 = .ok (.ifCond .gt 7, 3) := by decide +kernel
theorem d_cJ9_min_f86c9_6 : decode cJ9_min_f86c9 6 = .ok (.lload_n 0, 1) := by decide +kernel
theorem d_cJ9_min_f86c9_7 : decode cJ9_min_f86c9 7 = .ok (.goto 4, 3) := by decide +kernel
theorem d_cJ9_min_f86c9_10 : decode cJ9_min_f86c9 10 = .ok (.lload_n 2, 1) := by decide +kernel
theorem d_cJ9_min_f86c9_11 : decode cJ9_min_f86c9 11 = .ok (.lreturn, 1) := by decide +kernel
theorem d_cX0_add_0 : decode cX0_add 0 = .ok (.aload_n 0, 1) := by decide +kernel
theorem d_cX0_add_1 : decode cX0_add 1 = .ok (.getfield 49, 3) := by decide +kernel
theorem d_cX0_add_4 : decode cX0_add 4 = .ok (.aload_n 0, 1) := by decide +kernel
theorem d_cX0_add_5 : decode cX0_add 5 = .ok (.getfield 27, 3) := by decide +kernel
theorem d_cX0_add_8 : decode cX0_add 8 = .ok (.arraylength, 1) := by decide +kernel
theorem d_cX0_add_9 : decode cX0_add 9 = .ok (.if_icmp .lt 9, 3) := by decide +kernel
theorem d_cX0_add_12 : decode cX0_add 12 = .ok (.aload_n 0, 1) := by decide +kernel
theorem d_cX0_add_13 : decode cX0_add 13 = .ok (.iconst 1, 1) := by decide +kernel
theorem d_cX0_add_14 : decode cX0_add 14 = .ok (.putfield 52, 3) := by decide +kernel
theorem d_cX0_add_17 : decode cX0_add 17 = .ok (.return_, 1) := by decide +kernel
theorem d_cX0_add_18 : decode cX0_add 18 = .ok (.aload_n 0, 1) := by decide +kernel
theorem d_cX0_add_19 : decode cX0_add 19 = .ok (.getfield 27, 3) := by decide +kernel
theorem d_cX0_add_22 : decode cX0_add 22 = .ok (.aload_n 0, 1) := by decide +kernel
theorem d_cX0_add_23 : decode cX0_add 23 = .ok (.getfield 49, 3) := by decide +kernel
theorem d_cX0_add_26 : decode cX0_add 26 = .ok (.iload_n 1, 1) := by decide +kernel
theorem d_cX0_add_27 : decode cX0_add 27 = .ok (.iastore, 1) := by decide +kernel
theorem d_cX0_add_28 : decode cX0_add 28 = .ok (.aload_n 0, 1) := by decide +kernel
theorem d_cX0_add_29 : decode cX0_add 29 = .ok (.getfield 30, 3) := by decide +kernel
theorem d_cX0_add_32 : decode cX0_add 32 = .ok (.aload_n 0, 1) := by decide +kernel
theorem d_cX0_add_33 : decode cX0_add 33 = .ok (.getfield 49, 3) := by decide +kernel
theorem d_cX0_add_36 : decode cX0_add 36 = .ok (.iload_n 2, 1) := by decide +kernel
theorem d_cX0_add_37 : decode cX0_add 37 = .ok (.iastore, 1) := by decide +kernel
theorem d_cX0_add_38 : decode cX0_add 38 = .ok (.aload_n 0, 1) := by decide +kernel
theorem d_cX0_add_39 : decode cX0_add 39 = .ok (.getfield 33, 3) := by decide +kernel
theorem d_cX0_add_42 : decode cX0_add 42 = .ok (.aload_n 0, 1) := by decide +kernel
theorem d_cX0_add_43 : decode cX0_add 43 = .ok (.getfield 49, 3) := by decide +kernel
theorem d_cX0_add_46 : decode cX0_add 46 = .ok (.iload_n 3, 1) := by decide +kernel
theorem d_cX0_add_47 : decode cX0_add 47 = .ok (.iastore, 1) := by decide +kernel
theorem d_cX0_add_48 : decode cX0_add 48 = .ok (.aload_n 0, 1) := by decide +kernel
theorem d_cX0_add_49 : decode cX0_add 49 = .ok (.getfield 36, 3) := by decide +kernel
theorem d_cX0_add_52 : decode cX0_add 52 = .ok (.aload_n 0, 1) := by decide +kernel
theorem d_cX0_add_53 : decode cX0_add 53 = .ok (.getfield 49, 3) := by decide +kernel
theorem d_cX0_add_56 : decode cX0_add 56 = .ok (.iload 4, 2) := by decide +kernel
theorem d_cX0_add_58 : decode cX0_add 58 = .ok (.iastore, 1) := by decide +kernel
theorem d_cX0_add_59 : decode cX0_add 59 = .ok (.aload_n 0, 1) := by decide +kernel
theorem d_cX0_add_60 : decode cX0_add 60 = .ok (.getfield 39, 3) := by decide +kernel
theorem d_cX0_add_63 : decode cX0_add 63 = .ok (.aload_n 0, 1) := by decide +kernel
theorem d_cX0_add_64 : decode cX0_add 64 = .ok (.getfield 49, 3) := by decide +kernel
theorem d_cX0_add_67 : decode cX0_add 67 = .ok (.iload 5, 2) := by decide +kernel
theorem d_cX0_add_69 : decode cX0_add 69 = .ok (.iastore, 1) := by decide +kernel
theorem d_cX0_add_70 : decode cX0_add 70 = .ok (.aload_n 0, 1) := by decide +kernel
theorem d_cX0_add_71 : decode cX0_add 71 = .ok (.getfield 42, 3) := by decide +kernel
theorem d_cX0_add_74 : decode cX0_add 74 = .ok (.aload_n 0, 1) := by decide +kernel
theorem d_cX0_add_75 : decode cX0_add 75 = .ok (.getfield 49, 3) := by decide +kernel
theorem d_cX0_add_78 : decode cX0_add 78 = .ok (.iload 6, 2) := by decide +kernel
theorem d_cX0_add_80 : decode cX0_add 80 = .ok (.iastore, 1) := by decide +kernel
theorem d_cX0_add_81 : decode cX0_add 81 = .ok (.aload_n 0, 1) := by decide +kernel
theorem d_cX0_add_82 : decode cX0_add 82 = .ok (.dup, 1) := by decide +kernel
theorem d_cX0_add_83 : decode cX0_add 83 = .ok (.getfield 49, 3) := by decide +kernel
theorem d_cX0_add_86 : decode cX0_add 86 = .ok (.iconst 1, 1) := by decide +kernel
theorem d_cX0_add_87 : decode cX0_add 87 = .ok (.iadd, 1) := by decide +kernel
theorem d_cX0_add_88 : decode cX0_add 88 = .ok (.putfield 49, 3) := by decide +kernel
theorem d_cX0_add_91 : decode cX0_add 91 = .ok (.return_, 1) := by decide +kernel
theorem d_cX0_addGoal_0 : decode cX0_addGoal 0 = .ok (.aload_n 0, 1) := by decide +kernel
theorem d_cX0_addGoal_1 : decode cX0_addGoal 1 = .ok (.getfield 45, 3) := by decide +kernel
theorem d_cX0_addGoal_4 : decode cX0_addGoal 4 = .ok (.iconst 1, 1) := by decide +kernel
theorem d_cX0_addGoal_5 : decode cX0_addGoal 5 = .ok (.isub, 1) := by decide +kernel
theorem d_cX0_addGoal_6 : decode cX0_addGoal 6 = .ok (.istore_n 2, 1) := by decide +kernel
theorem d_cX0_addGoal_7 : decode cX0_addGoal 7 = .ok (.iload_n 2, 1) := by decide +kernel
theorem d_cX0_addGoal_8 : decode cX0_addGoal 8 = .ok (.ifCond .ge 5, 3) := by decide +kernel
theorem d_cX0_addGoal_11 : decode cX0_addGoal 11 = .ok (.iconst (-1), 1) := by decide +kernel
theorem d_cX0_addGoal_12 : decode cX0_addGoal 12 = .ok (.ireturn, 1) := by decide +kernel
theorem d_cX0_addGoal_13 : decode cX0_addGoal 13 = .ok (.aload_n 0, 1) := by decide +kernel
theorem d_cX0_addGoal_14 : decode cX0_addGoal 14 = .ok (.getfield 15, 3) := by decide +kernel
theorem d_cX0_addGoal_17 : decode cX0_addGoal 17 = .ok (.iload_n 2, 1) := by decide +kernel
theorem d_cX0_addGoal_18 : decode cX0_addGoal 18 = .ok (.iaload, 1) := by decide +kernel
theorem d_cX0_addGoal_19 : decode cX0_addGoal 19 = .ok (.iconst (-1), 1) := by decide +kernel
theorem d_cX0_addGoal_20 : decode cX0_addGoal 20 = .ok (.if_icmp .eq 7, 3) := by decide +kernel
theorem d_cX0_addGoal_23 : decode cX0_addGoal 23 = .ok (.iconst 1, 1) := by decide +kernel
theorem d_cX0_addGoal_24 : decode cX0_addGoal 24 = .ok (.goto 4, 3) := by decide +kernel
theorem d_cX0_addGoal_27 : decode cX0_addGoal 27 = .ok (.iconst 0, 1) := by decide +kernel
theorem d_cX0_addGoal_28 : decode cX0_addGoal 28 = .ok (.istore_n 3, 1) := by decide +kernel
theorem d_cX0_addGoal_29 : decode cX0_addGoal 29 = .ok (.iload_n 3, 1) := by decide +kernel
theorem d_cX0_addGoal_30 : decode cX0_addGoal 30 = .ok (.ifCond .eq 10, 3) := by decide +kernel
theorem d_cX0_addGoal_33 : decode cX0_addGoal 33 = .ok (.aload_n 0, 1) := by decide +kernel
theorem d_cX0_addGoal_34 : decode cX0_addGoal 34 = .ok (.getfield 18, 3) := by decide +kernel
theorem d_cX0_addGoal_37 : decode cX0_addGoal 37 = .ok (.goto 7, 3) := by decide +kernel
theorem d_cX0_addGoal_40 : decode cX0_addGoal 40 = .ok (.aload_n 0, 1) := by decide +kernel
theorem d_cX0_addGoal_41 : decode cX0_addGoal 41 = .ok (.getfield 15, 3) := by decide +kernel
theorem d_cX0_addGoal_44 : decode cX0_addGoal 44 = .ok (.astore 4, 2) := by decide +kernel
theorem d_cX0_addGoal_46 : decode cX0_addGoal 46 = .ok (.aload 4, 2) := by decide +kernel
theorem d_cX0_addGoal_48 : decode cX0_addGoal 48 = .ok (.iload_n 2, 1) := by decide +kernel
theorem d_cX0_addGoal_49 : decode cX0_addGoal 49 = .ok (.iload_n 1, 1) := by decide +kernel
theorem d_cX0_addGoal_50 : decode cX0_addGoal 50 = .ok (.iastore, 1) := by decide +kernel
theorem d_cX0_addGoal_51 : decode cX0_addGoal 51 = .ok (.iload_n 3, 1) := by decide +kernel
theorem d_cX0_addGoal_52 : decode cX0_addGoal 52 = .ok (.ifCond .eq 11, 3) := by decide +kernel
theorem d_cX0_addGoal_55 : decode cX0_addGoal 55 = .ok (.iconst 2, 1) := by decide +kernel
theorem d_cX0_addGoal_56 : decode cX0_addGoal 56 = .ok (.iload_n 2, 1) := by decide +kernel
theorem d_cX0_addGoal_57 : decode cX0_addGoal 57 = .ok (.imul, 1) := by decide +kernel
theorem d_cX0_addGoal_58 : decode cX0_addGoal 58 = .ok (.iconst 1, 1) := by decide +kernel
theorem d_cX0_addGoal_59 : decode cX0_addGoal 59 = .ok (.iadd, 1) := by decide +kernel
theorem d_cX0_addGoal_60 : decode cX0_addGoal 60 = .ok (.goto 6, 3) := by decide +kernel
theorem d_cX0_addGoal_63 : decode cX0_addGoal 63 = .ok (.iconst 2, 1) := by decide +kernel
theorem d_cX0_addGoal_64 : decode cX0_addGoal 64 = .ok (.iload_n 2, 1) := by decide +kernel
theorem d_cX0_addGoal_65 : decode cX0_addGoal 65 = .ok (.imul, 1) := by decide +kernel
theorem d_cX0_addGoal_66 : decode cX0_addGoal 66 = .ok (.ireturn, 1) := by decide +kernel
theorem d_cX0_blockEnd_0 : decode cX0_blockEnd 0 = .ok (.iload_n 1, 1) := by decide +kernel
theorem d_cX0_blockEnd_1 : decode cX0_blockEnd 1 = .ok (.iconst 1, 1) := by decide +kernel
theorem d_cX0_blockEnd_2 : decode cX0_blockEnd 2 = .ok (.iadd, 1) := by decide +kernel
theorem d_cX0_blockEnd_3 : decode cX0_blockEnd 3 = .ok (.aload_n 0, 1) := by decide +kernel
theorem d_cX0_blockEnd_4 : decode cX0_blockEnd 4 = .ok (.getfield 45, 3) := by decide +kernel
theorem d_cX0_blockEnd_7 : decode cX0_blockEnd 7 = .ok (.if_icmp .ge 14, 3) := by decide +kernel
theorem d_cX0_blockEnd_10 : decode cX0_blockEnd 10 = .ok (.aload_n 0, 1) := by decide +kernel
theorem d_cX0_blockEnd_11 : decode cX0_blockEnd 11 = .ok (.getfield 9, 3) := by decide +kernel
theorem d_cX0_blockEnd_14 : decode cX0_blockEnd 14 = .ok (.iload_n 1, 1) := by decide +kernel
theorem d_cX0_blockEnd_15 : decode cX0_blockEnd 15 = .ok (.iconst 1, 1) := by decide +kernel
theorem d_cX0_blockEnd_16 : decode cX0_blockEnd 16 = .ok (.iadd, 1) := by decide +kernel
theorem d_cX0_blockEnd_17 : decode cX0_blockEnd 17 = .ok (.iaload, 1) := by decide +kernel
theorem d_cX0_blockEnd_18 : decode cX0_blockEnd 18 = .ok (.goto 7, 3) := by decide +kernel
theorem d_cX0_blockEnd_21 : decode cX0_blockEnd 21 = .ok (.aload_n 0, 1) := by decide +kernel
theorem d_cX0_blockEnd_22 : decode cX0_blockEnd 22 = .ok (.getfield 49, 3) := by decide +kernel
theorem d_cX0_blockEnd_25 : decode cX0_blockEnd 25 = .ok (.ireturn, 1) := by decide +kernel
theorem d_cX0_clear_0 : decode cX0_clear 0 = .ok (.aload_n 0, 1) := by decide +kernel
theorem d_cX0_clear_1 : decode cX0_clear 1 = .ok (.iconst 0, 1) := by decide +kernel
theorem d_cX0_clear_2 : decode cX0_clear 2 = .ok (.putfield 45, 3) := by decide +kernel
theorem d_cX0_clear_5 : decode cX0_clear 5 = .ok (.aload_n 0, 1) := by decide +kernel
theorem d_cX0_clear_6 : decode cX0_clear 6 = .ok (.iconst 0, 1) := by decide +kernel
theorem d_cX0_clear_7 : decode cX0_clear 7 = .ok (.putfield 49, 3) := by decide +kernel
theorem d_cX0_clear_10 : decode cX0_clear 10 = .ok (.aload_n 0, 1) := by decide +kernel
theorem d_cX0_clear_11 : decode cX0_clear 11 = .ok (.iconst 0, 1) := by decide +kernel
theorem d_cX0_clear_12 : decode cX0_clear 12 = .ok (.putfield 52, 3) := by decide +kernel
theorem d_cX0_clear_15 : decode cX0_clear 15 = .ok (.return_, 1) := by decide +kernel
theorem d_cX0_copiesRegister_0 : decode cX0_copiesRegister 0 = .ok (.aload_n 0, 1) := by decide +kernel
theorem d_cX0_copiesRegister_1 : decode cX0_copiesRegister 1 = .ok (.getfield 27, 3) := by decide +kernel
theorem d_cX0_copiesRegister_4 : decode cX0_copiesRegister 4 = .ok (.iload_n 1, 1) := by decide +kernel
theorem d_cX0_copiesRegister_5 : decode cX0_copiesRegister 5 = .ok (.iaload, 1) := by decide +kernel
theorem d_cX0_copiesRegister_6 : decode cX0_copiesRegister 6 = .ok (.bipush 14, 2) := by decide +kernel
theorem d_cX0_copiesRegister_8 : decode cX0_copiesRegister 8 = .ok (.if_icmp .ne 25, 3) := by decide +kernel
theorem d_cX0_copiesRegister_11 : decode cX0_copiesRegister 11 = .ok (.aload_n 0, 1) := by decide +kernel
theorem d_cX0_copiesRegister_12 : decode cX0_copiesRegister 12 = .ok (.getfield 30, 3) := by decide +kernel
theorem d_cX0_copiesRegister_15 : decode cX0_copiesRegister 15 = .ok (.iload_n 1, 1) := by decide +kernel
theorem d_cX0_copiesRegister_16 : decode cX0_copiesRegister 16 = .ok (.iaload, 1) := by decide +kernel
theorem d_cX0_copiesRegister_17 : decode cX0_copiesRegister 17 = .ok (.ifCond .lt 16, 3) := by decide +kernel
theorem d_cX0_copiesRegister_20 : decode cX0_copiesRegister 20 = .ok (.aload_n 0, 1) := by decide +kernel
theorem d_cX0_copiesRegister_21 : decode cX0_copiesRegister 21 = .ok (.getfield 33, 3) := by decide +kernel
theorem d_cX0_copiesRegister_24 : decode cX0_copiesRegister 24 = .ok (.iload_n 1, 1) := by decide +kernel
theorem d_cX0_copiesRegister_25 : decode cX0_copiesRegister 25 = .ok (.iaload, 1) := by decide +kernel
theorem d_cX0_copiesRegister_26 : decode cX0_copiesRegister 26 = .ok (.ifCond .lt 7, 3) := by decide +kernel
theorem d_cX0_copiesRegister_29 : decode cX0_copiesRegister 29 = .ok (.iconst 1, 1) := by decide +kernel
theorem d_cX0_copiesRegister_30 : decode cX0_copiesRegister 30 = .ok (.goto 4, 3) := by decide +kernel
theorem d_cX0_copiesRegister_33 : decode cX0_copiesRegister 33 = .ok (.iconst 0, 1) := by decide +kernel
theorem d_cX0_copiesRegister_34 : decode cX0_copiesRegister 34 = .ok (.ireturn, 1) := by decide +kernel
theorem d_cX0_drop_0 : decode cX0_drop 0 = .ok (.aload_n 0, 1) := by decide +kernel
theorem d_cX0_drop_1 : decode cX0_drop 1 = .ok (.getfield 49, 3) := by decide +kernel
theorem d_cX0_drop_4 : decode cX0_drop 4 = .ok (.iload_n 1, 1) := by decide +kernel
theorem d_cX0_drop_5 : decode cX0_drop 5 = .ok (.isub, 1) := by decide +kernel
theorem d_cX0_drop_6 : decode cX0_drop 6 = .ok (.iconst 1, 1) := by decide +kernel
theorem d_cX0_drop_7 : decode cX0_drop 7 = .ok (.isub, 1) := by decide +kernel
theorem d_cX0_drop_8 : decode cX0_drop 8 = .ok (.istore_n 2, 1) := by decide +kernel
theorem d_cX0_drop_9 : decode cX0_drop 9 = .ok (.iload_n 1, 1) := by decide +kernel
theorem d_cX0_drop_10 : decode cX0_drop 10 = .ok (.ifCond .lt 7, 3) := by decide +kernel
theorem d_cX0_drop_13 : decode cX0_drop 13 = .ok (.iload_n 2, 1) := by decide +kernel
theorem d_cX0_drop_14 : decode cX0_drop 14 = .ok (.ifCond .ge 4, 3) := by decide +kernel
theorem d_cX0_drop_17 : decode cX0_drop 17 = .ok (.return_, 1) := by decide +kernel
theorem d_cX0_drop_18 : decode cX0_drop 18 = .ok (.aload_n 0, 1) := by decide +kernel
theorem d_cX0_drop_19 : decode cX0_drop 19 = .ok (.getfield 27, 3) := by decide +kernel
theorem d_cX0_drop_22 : decode cX0_drop 22 = .ok (.iload_n 1, 1) := by decide +kernel
theorem d_cX0_drop_23 : decode cX0_drop 23 = .ok (.iconst 1, 1) := by decide +kernel
theorem d_cX0_drop_24 : decode cX0_drop 24 = .ok (.iadd, 1) := by decide +kernel
theorem d_cX0_drop_25 : decode cX0_drop 25 = .ok (.aload_n 0, 1) := by decide +kernel
theorem d_cX0_drop_26 : decode cX0_drop 26 = .ok (.getfield 27, 3) := by decide +kernel
theorem d_cX0_drop_29 : decode cX0_drop 29 = .ok (.iload_n 1, 1) := by decide +kernel
theorem d_cX0_drop_30 : decode cX0_drop 30 = .ok (.iload_n 2, 1) := by decide +kernel
theorem d_cX0_drop_31 : decode cX0_drop 31 = .ok (.invokestatic 64, 3) := by decide +kernel
theorem d_cX0_drop_34 : decode cX0_drop 34 = .ok (.aload_n 0, 1) := by decide +kernel
theorem d_cX0_drop_35 : decode cX0_drop 35 = .ok (.getfield 30, 3) := by decide +kernel
theorem d_cX0_drop_38 : decode cX0_drop 38 = .ok (.iload_n 1, 1) := by decide +kernel
theorem d_cX0_drop_39 : decode cX0_drop 39 = .ok (.iconst 1, 1) := by decide +kernel
theorem d_cX0_drop_40 : decode cX0_drop 40 = .ok (.iadd, 1) := by decide +kernel
theorem d_cX0_drop_41 : decode cX0_drop 41 = .ok (.aload_n 0, 1) := by decide +kernel
theorem d_cX0_drop_42 : decode cX0_drop 42 = .ok (.getfield 30, 3) := by decide +kernel
theorem d_cX0_drop_45 : decode cX0_drop 45 = .ok (.iload_n 1, 1) := by decide +kernel
theorem d_cX0_drop_46 : decode cX0_drop 46 = .ok (.iload_n 2, 1) := by decide +kernel
theorem d_cX0_drop_47 : decode cX0_drop 47 = .ok (.invokestatic 64, 3) := by decide +kernel
theorem d_cX0_drop_50 : decode cX0_drop 50 = .ok (.aload_n 0, 1) := by decide +kernel
theorem d_cX0_drop_51 : decode cX0_drop 51 = .ok (.getfield 33, 3) := by decide +kernel
theorem d_cX0_drop_54 : decode cX0_drop 54 = .ok (.iload_n 1, 1) := by decide +kernel
theorem d_cX0_drop_55 : decode cX0_drop 55 = .ok (.iconst 1, 1) := by decide +kernel
theorem d_cX0_drop_56 : decode cX0_drop 56 = .ok (.iadd, 1) := by decide +kernel
theorem d_cX0_drop_57 : decode cX0_drop 57 = .ok (.aload_n 0, 1) := by decide +kernel
theorem d_cX0_drop_58 : decode cX0_drop 58 = .ok (.getfield 33, 3) := by decide +kernel
theorem d_cX0_drop_61 : decode cX0_drop 61 = .ok (.iload_n 1, 1) := by decide +kernel
theorem d_cX0_drop_62 : decode cX0_drop 62 = .ok (.iload_n 2, 1) := by decide +kernel
theorem d_cX0_drop_63 : decode cX0_drop 63 = .ok (.invokestatic 64, 3) := by decide +kernel
theorem d_cX0_drop_66 : decode cX0_drop 66 = .ok (.aload_n 0, 1) := by decide +kernel
theorem d_cX0_drop_67 : decode cX0_drop 67 = .ok (.getfield 36, 3) := by decide +kernel
theorem d_cX0_drop_70 : decode cX0_drop 70 = .ok (.iload_n 1, 1) := by decide +kernel
theorem d_cX0_drop_71 : decode cX0_drop 71 = .ok (.iconst 1, 1) := by decide +kernel
theorem d_cX0_drop_72 : decode cX0_drop 72 = .ok (.iadd, 1) := by decide +kernel
theorem d_cX0_drop_73 : decode cX0_drop 73 = .ok (.aload_n 0, 1) := by decide +kernel
theorem d_cX0_drop_74 : decode cX0_drop 74 = .ok (.getfield 36, 3) := by decide +kernel
theorem d_cX0_drop_77 : decode cX0_drop 77 = .ok (.iload_n 1, 1) := by decide +kernel
theorem d_cX0_drop_78 : decode cX0_drop 78 = .ok (.iload_n 2, 1) := by decide +kernel
theorem d_cX0_drop_79 : decode cX0_drop 79 = .ok (.invokestatic 64, 3) := by decide +kernel
theorem d_cX0_drop_82 : decode cX0_drop 82 = .ok (.aload_n 0, 1) := by decide +kernel
theorem d_cX0_drop_83 : decode cX0_drop 83 = .ok (.getfield 39, 3) := by decide +kernel
theorem d_cX0_drop_86 : decode cX0_drop 86 = .ok (.iload_n 1, 1) := by decide +kernel
theorem d_cX0_drop_87 : decode cX0_drop 87 = .ok (.iconst 1, 1) := by decide +kernel
theorem d_cX0_drop_88 : decode cX0_drop 88 = .ok (.iadd, 1) := by decide +kernel
theorem d_cX0_drop_89 : decode cX0_drop 89 = .ok (.aload_n 0, 1) := by decide +kernel
theorem d_cX0_drop_90 : decode cX0_drop 90 = .ok (.getfield 39, 3) := by decide +kernel
theorem d_cX0_drop_93 : decode cX0_drop 93 = .ok (.iload_n 1, 1) := by decide +kernel
theorem d_cX0_drop_94 : decode cX0_drop 94 = .ok (.iload_n 2, 1) := by decide +kernel
theorem d_cX0_drop_95 : decode cX0_drop 95 = .ok (.invokestatic 64, 3) := by decide +kernel
theorem d_cX0_drop_98 : decode cX0_drop 98 = .ok (.aload_n 0, 1) := by decide +kernel
theorem d_cX0_drop_99 : decode cX0_drop 99 = .ok (.getfield 42, 3) := by decide +kernel
theorem d_cX0_drop_102 : decode cX0_drop 102 = .ok (.iload_n 1, 1) := by decide +kernel
theorem d_cX0_drop_103 : decode cX0_drop 103 = .ok (.iconst 1, 1) := by decide +kernel
theorem d_cX0_drop_104 : decode cX0_drop 104 = .ok (.iadd, 1) := by decide +kernel
theorem d_cX0_drop_105 : decode cX0_drop 105 = .ok (.aload_n 0, 1) := by decide +kernel
theorem d_cX0_drop_106 : decode cX0_drop 106 = .ok (.getfield 42, 3) := by decide +kernel
theorem d_cX0_drop_109 : decode cX0_drop 109 = .ok (.iload_n 1, 1) := by decide +kernel
theorem d_cX0_drop_110 : decode cX0_drop 110 = .ok (.iload_n 2, 1) := by decide +kernel
theorem d_cX0_drop_111 : decode cX0_drop 111 = .ok (.invokestatic 64, 3) := by decide +kernel
theorem d_cX0_drop_114 : decode cX0_drop 114 = .ok (.aload_n 0, 1) := by decide +kernel
theorem d_cX0_drop_115 : decode cX0_drop 115 = .ok (.dup, 1) := by decide +kernel
theorem d_cX0_drop_116 : decode cX0_drop 116 = .ok (.getfield 49, 3) := by decide +kernel
theorem d_cX0_drop_119 : decode cX0_drop 119 = .ok (.iconst 1, 1) := by decide +kernel
theorem d_cX0_drop_120 : decode cX0_drop 120 = .ok (.isub, 1) := by decide +kernel
theorem d_cX0_drop_121 : decode cX0_drop 121 = .ok (.putfield 49, 3) := by decide +kernel
theorem d_cX0_drop_124 : decode cX0_drop 124 = .ok (.iconst 0, 1) := by decide +kernel
theorem d_cX0_drop_125 : decode cX0_drop 125 = .ok (.istore_n 3, 1) := by decide +kernel
theorem d_cX0_drop_126 : decode cX0_drop 126 = .ok (.iload_n 3, 1) := by decide +kernel
theorem d_cX0_drop_127 : decode cX0_drop 127 = .ok (.aload_n 0, 1) := by decide +kernel
theorem d_cX0_drop_128 : decode cX0_drop 128 = .ok (.getfield 45, 3) := by decide +kernel
theorem d_cX0_drop_131 : decode cX0_drop 131 = .ok (.if_icmp .ge 29, 3) := by decide +kernel
theorem d_cX0_drop_134 : decode cX0_drop 134 = .ok (.aload_n 0, 1) := by decide +kernel
theorem d_cX0_drop_135 : decode cX0_drop 135 = .ok (.getfield 9, 3) := by decide +kernel
theorem d_cX0_drop_138 : decode cX0_drop 138 = .ok (.iload_n 3, 1) := by decide +kernel
theorem d_cX0_drop_139 : decode cX0_drop 139 = .ok (.iaload, 1) := by decide +kernel
theorem d_cX0_drop_140 : decode cX0_drop 140 = .ok (.iload_n 1, 1) := by decide +kernel
theorem d_cX0_drop_141 : decode cX0_drop 141 = .ok (.if_icmp .le 13, 3) := by decide +kernel
theorem d_cX0_drop_144 : decode cX0_drop 144 = .ok (.aload_n 0, 1) := by decide +kernel
theorem d_cX0_drop_145 : decode cX0_drop 145 = .ok (.getfield 9, 3) := by decide +kernel
theorem d_cX0_drop_148 : decode cX0_drop 148 = .ok (.iload_n 3, 1) := by decide +kernel
theorem d_cX0_drop_149 : decode cX0_drop 149 = .ok (.dup2, 1) := by decide +kernel
theorem d_cX0_drop_150 : decode cX0_drop 150 = .ok (.iaload, 1) := by decide +kernel
theorem d_cX0_drop_151 : decode cX0_drop 151 = .ok (.iconst 1, 1) := by decide +kernel
theorem d_cX0_drop_152 : decode cX0_drop 152 = .ok (.isub, 1) := by decide +kernel
theorem d_cX0_drop_153 : decode cX0_drop 153 = .ok (.iastore, 1) := by decide +kernel
theorem d_cX0_drop_154 : decode cX0_drop 154 = .ok (.iinc 3 1, 3) := by decide +kernel
theorem d_cX0_drop_157 : decode cX0_drop 157 = .ok (.goto (-31), 3) := by decide +kernel
theorem d_cX0_drop_160 : decode cX0_drop 160 = .ok (.return_, 1) := by decide +kernel
theorem d_cX0_firstUse_0 : decode cX0_firstUse 0 = .ok (.iload_n 2, 1) := by decide +kernel
theorem d_cX0_firstUse_1 : decode cX0_firstUse 1 = .ok (.ifCond .eq 25, 3) := by decide +kernel
theorem d_cX0_firstUse_4 : decode cX0_firstUse 4 = .ok (.aload_n 0, 1) := by decide +kernel
theorem d_cX0_firstUse_5 : decode cX0_firstUse 5 = .ok (.getfield 27, 3) := by decide +kernel
theorem d_cX0_firstUse_8 : decode cX0_firstUse 8 = .ok (.iload_n 1, 1) := by decide +kernel
theorem d_cX0_firstUse_9 : decode cX0_firstUse 9 = .ok (.iaload, 1) := by decide +kernel
theorem d_cX0_firstUse_10 : decode cX0_firstUse 10 = .ok (.bipush 17, 2) := by decide +kernel
theorem d_cX0_firstUse_12 : decode cX0_firstUse 12 = .ok (.if_icmp .ne 12, 3) := by decide +kernel
theorem d_cX0_firstUse_15 : decode cX0_firstUse 15 = .ok (.aload_n 0, 1) := by decide +kernel
theorem d_cX0_firstUse_16 : decode cX0_firstUse 16 = .ok (.getfield 42, 3) := by decide +kernel
theorem d_cX0_firstUse_19 : decode cX0_firstUse 19 = .ok (.iload_n 1, 1) := by decide +kernel
theorem d_cX0_firstUse_20 : decode cX0_firstUse 20 = .ok (.iaload, 1) := by decide +kernel
theorem d_cX0_firstUse_21 : decode cX0_firstUse 21 = .ok (.goto 4, 3) := by decide +kernel
theorem d_cX0_firstUse_24 : decode cX0_firstUse 24 = .ok (.iconst (-1), 1) := by decide +kernel
theorem d_cX0_firstUse_25 : decode cX0_firstUse 25 = .ok (.ireturn, 1) := by decide +kernel
theorem d_cX0_firstUse_26 : decode cX0_firstUse 26 = .ok (.aload_n 0, 1) := by decide +kernel
theorem d_cX0_firstUse_27 : decode cX0_firstUse 27 = .ok (.getfield 33, 3) := by decide +kernel
theorem d_cX0_firstUse_30 : decode cX0_firstUse 30 = .ok (.iload_n 1, 1) := by decide +kernel
theorem d_cX0_firstUse_31 : decode cX0_firstUse 31 = .ok (.iaload, 1) := by decide +kernel
theorem d_cX0_firstUse_32 : decode cX0_firstUse 32 = .ok (.ireturn, 1) := by decide +kernel
theorem d_cX0_goal_0 : decode cX0_goal 0 = .ok (.iload_n 2, 1) := by decide +kernel
theorem d_cX0_goal_1 : decode cX0_goal 1 = .ok (.ifCond .ne 12, 3) := by decide +kernel
theorem d_cX0_goal_4 : decode cX0_goal 4 = .ok (.aload_n 0, 1) := by decide +kernel
theorem d_cX0_goal_5 : decode cX0_goal 5 = .ok (.getfield 15, 3) := by decide +kernel
theorem d_cX0_goal_8 : decode cX0_goal 8 = .ok (.iload_n 1, 1) := by decide +kernel
theorem d_cX0_goal_9 : decode cX0_goal 9 = .ok (.iaload, 1) := by decide +kernel
theorem d_cX0_goal_10 : decode cX0_goal 10 = .ok (.goto 9, 3) := by decide +kernel
theorem d_cX0_goal_13 : decode cX0_goal 13 = .ok (.aload_n 0, 1) := by decide +kernel
theorem d_cX0_goal_14 : decode cX0_goal 14 = .ok (.getfield 18, 3) := by decide +kernel
theorem d_cX0_goal_17 : decode cX0_goal 17 = .ok (.iload_n 1, 1) := by decide +kernel
theorem d_cX0_goal_18 : decode cX0_goal 18 = .ok (.iaload, 1) := by decide +kernel
theorem d_cX0_goal_19 : decode cX0_goal 19 = .ok (.ireturn, 1) := by decide +kernel
theorem d_cX0_linesThat_0 : decode cX0_linesThat 0 = .ok (.iconst 0, 1) := by decide +kernel
theorem d_cX0_linesThat_1 : decode cX0_linesThat 1 = .ok (.istore_n 2, 1) := by decide +kernel
theorem d_cX0_linesThat_2 : decode cX0_linesThat 2 = .ok (.iconst 0, 1) := by decide +kernel
theorem d_cX0_linesThat_3 : decode cX0_linesThat 3 = .ok (.istore_n 3, 1) := by decide +kernel
theorem d_cX0_linesThat_4 : decode cX0_linesThat 4 = .ok (.iload_n 3, 1) := by decide +kernel
theorem d_cX0_linesThat_5 : decode cX0_linesThat 5 = .ok (.aload_n 0, 1) := by decide +kernel
theorem d_cX0_linesThat_6 : decode cX0_linesThat 6 = .ok (.getfield 49, 3) := by decide +kernel
theorem d_cX0_linesThat_9 : decode cX0_linesThat 9 = .ok (.if_icmp .ge 27, 3) := by decide +kernel
theorem d_cX0_linesThat_12 : decode cX0_linesThat 12 = .ok (.iload_n 2, 1) := by decide +kernel
theorem d_cX0_linesThat_13 : decode cX0_linesThat 13 = .ok (.aload_n 0, 1) := by decide +kernel
theorem d_cX0_linesThat_14 : decode cX0_linesThat 14 = .ok (.getfield 27, 3) := by decide +kernel
theorem d_cX0_linesThat_17 : decode cX0_linesThat 17 = .ok (.iload_n 3, 1) := by decide +kernel
theorem d_cX0_linesThat_18 : decode cX0_linesThat 18 = .ok (.iaload, 1) := by decide +kernel
theorem d_cX0_linesThat_19 : decode cX0_linesThat 19 = .ok (.iload_n 1, 1) := by decide +kernel
theorem d_cX0_linesThat_20 : decode cX0_linesThat 20 = .ok (.if_icmp .ne 7, 3) := by decide +kernel
theorem d_cX0_linesThat_23 : decode cX0_linesThat 23 = .ok (.iconst 1, 1) := by decide +kernel
theorem d_cX0_linesThat_24 : decode cX0_linesThat 24 = .ok (.goto 4, 3) := by decide +kernel
theorem d_cX0_linesThat_27 : decode cX0_linesThat 27 = .ok (.iconst 0, 1) := by decide +kernel
theorem d_cX0_linesThat_28 : decode cX0_linesThat 28 = .ok (.iadd, 1) := by decide +kernel
theorem d_cX0_linesThat_29 : decode cX0_linesThat 29 = .ok (.istore_n 2, 1) := by decide +kernel
theorem d_cX0_linesThat_30 : decode cX0_linesThat 30 = .ok (.iinc 3 1, 3) := by decide +kernel
theorem d_cX0_linesThat_33 : decode cX0_linesThat 33 = .ok (.goto (-29), 3) := by decide +kernel
theorem d_cX0_linesThat_36 : decode cX0_linesThat 36 = .ok (.iload_n 2, 1) := by decide +kernel
theorem d_cX0_linesThat_37 : decode cX0_linesThat 37 = .ok (.ireturn, 1) := by decide +kernel
theorem d_cX0_nameIn_0 : decode cX0_nameIn 0 = .ok (.iload_n 1, 1) := by decide +kernel
theorem d_cX0_nameIn_1 : decode cX0_nameIn 1 = .ok (.ifCond .lt 15, 3) := by decide +kernel
theorem d_cX0_nameIn_4 : decode cX0_nameIn 4 = .ok (.iload_n 1, 1) := by decide +kernel
theorem d_cX0_nameIn_5 : decode cX0_nameIn 5 = .ok (.aload_n 0, 1) := by decide +kernel
theorem d_cX0_nameIn_6 : decode cX0_nameIn 6 = .ok (.arraylength, 1) := by decide +kernel
theorem d_cX0_nameIn_7 : decode cX0_nameIn 7 = .ok (.if_icmp .ge 9, 3) := by decide +kernel
theorem d_cX0_nameIn_10 : decode cX0_nameIn 10 = .ok (.aload_n 0, 1) := by decide +kernel
theorem d_cX0_nameIn_11 : decode cX0_nameIn 11 = .ok (.iload_n 1, 1) := by decide +kernel
theorem d_cX0_nameIn_12 : decode cX0_nameIn 12 = .ok (.iaload, 1) := by decide +kernel
theorem d_cX0_nameIn_13 : decode cX0_nameIn 13 = .ok (.goto 4, 3) := by decide +kernel
theorem d_cX0_nameIn_16 : decode cX0_nameIn 16 = .ok (.iload_n 1, 1) := by decide +kernel
theorem d_cX0_nameIn_17 : decode cX0_nameIn 17 = .ok (.ireturn, 1) := by decide +kernel
theorem d_cX0_openBlock_0 : decode cX0_openBlock 0 = .ok (.aload_n 0, 1) := by decide +kernel
theorem d_cX0_openBlock_1 : decode cX0_openBlock 1 = .ok (.getfield 45, 3) := by decide +kernel
theorem d_cX0_openBlock_4 : decode cX0_openBlock 4 = .ok (.bipush 40, 2) := by decide +kernel
theorem d_cX0_openBlock_6 : decode cX0_openBlock 6 = .ok (.if_icmp .lt 5, 3) := by decide +kernel
theorem d_cX0_openBlock_9 : decode cX0_openBlock 9 = .ok (.iconst 0, 1) := by decide +kernel
theorem d_cX0_openBlock_10 : decode cX0_openBlock 10 = .ok (.ireturn, 1) := by decide +kernel
theorem d_cX0_openBlock_11 : decode cX0_openBlock 11 = .ok (.aload_n 0, 1) := by decide +kernel
theorem d_cX0_openBlock_12 : decode cX0_openBlock 12 = .ok (.getfield 9, 3) := by decide +kernel
theorem d_cX0_openBlock_15 : decode cX0_openBlock 15 = .ok (.aload_n 0, 1) := by decide +kernel
theorem d_cX0_openBlock_16 : decode cX0_openBlock 16 = .ok (.getfield 45, 3) := by decide +kernel
theorem d_cX0_openBlock_19 : decode cX0_openBlock 19 = .ok (.aload_n 0, 1) := by decide +kernel
theorem d_cX0_openBlock_20 : decode cX0_openBlock 20 = .ok (.getfield 49, 3) := by decide +kernel
theorem d_cX0_openBlock_23 : decode cX0_openBlock 23 = .ok (.iastore, 1) := by decide +kernel
theorem d_cX0_openBlock_24 : decode cX0_openBlock 24 = .ok (.aload_n 0, 1) := by decide +kernel
theorem d_cX0_openBlock_25 : decode cX0_openBlock 25 = .ok (.getfield 15, 3) := by decide +kernel
theorem d_cX0_openBlock_28 : decode cX0_openBlock 28 = .ok (.aload_n 0, 1) := by decide +kernel
theorem d_cX0_openBlock_29 : decode cX0_openBlock 29 = .ok (.getfield 45, 3) := by decide +kernel
theorem d_cX0_openBlock_32 : decode cX0_openBlock 32 = .ok (.iconst (-1), 1) := by decide +kernel
theorem d_cX0_openBlock_33 : decode cX0_openBlock 33 = .ok (.iastore, 1) := by decide +kernel
theorem d_cX0_openBlock_34 : decode cX0_openBlock 34 = .ok (.aload_n 0, 1) := by decide +kernel
theorem d_cX0_openBlock_35 : decode cX0_openBlock 35 = .ok (.getfield 18, 3) := by decide +kernel
theorem d_cX0_openBlock_38 : decode cX0_openBlock 38 = .ok (.aload_n 0, 1) := by decide +kernel
theorem d_cX0_openBlock_39 : decode cX0_openBlock 39 = .ok (.getfield 45, 3) := by decide +kernel
theorem d_cX0_openBlock_42 : decode cX0_openBlock 42 = .ok (.iconst (-1), 1) := by decide +kernel
theorem d_cX0_openBlock_43 : decode cX0_openBlock 43 = .ok (.iastore, 1) := by decide +kernel
theorem d_cX0_openBlock_44 : decode cX0_openBlock 44 = .ok (.aload_n 0, 1) := by decide +kernel
theorem d_cX0_openBlock_45 : decode cX0_openBlock 45 = .ok (.dup, 1) := by decide +kernel
theorem d_cX0_openBlock_46 : decode cX0_openBlock 46 = .ok (.getfield 45, 3) := by decide +kernel
theorem d_cX0_openBlock_49 : decode cX0_openBlock 49 = .ok (.iconst 1, 1) := by decide +kernel
theorem d_cX0_openBlock_50 : decode cX0_openBlock 50 = .ok (.iadd, 1) := by decide +kernel
theorem d_cX0_openBlock_51 : decode cX0_openBlock 51 = .ok (.putfield 45, 3) := by decide +kernel
theorem d_cX0_openBlock_54 : decode cX0_openBlock 54 = .ok (.iconst 1, 1) := by decide +kernel
theorem d_cX0_openBlock_55 : decode cX0_openBlock 55 = .ok (.ireturn, 1) := by decide +kernel
theorem d_cX0_openLike_0 : decode cX0_openLike 0 = .ok (.aload_n 0, 1) := by decide +kernel
theorem d_cX0_openLike_1 : decode cX0_openLike 1 = .ok (.getfield 45, 3) := by decide +kernel
theorem d_cX0_openLike_4 : decode cX0_openLike 4 = .ok (.istore_n 2, 1) := by decide +kernel
theorem d_cX0_openLike_5 : decode cX0_openLike 5 = .ok (.iload_n 2, 1) := by decide +kernel
theorem d_cX0_openLike_6 : decode cX0_openLike 6 = .ok (.aload_n 1, 1) := by decide +kernel
theorem d_cX0_openLike_7 : decode cX0_openLike 7 = .ok (.getfield 45, 3) := by decide +kernel
theorem d_cX0_openLike_10 : decode cX0_openLike 10 = .ok (.if_icmp .ge 34, 3) := by decide +kernel
theorem d_cX0_openLike_44 : decode cX0_openLike 44 = .ok (.return_, 1) := by decide +kernel
theorem d_cX0_rename_0 : decode cX0_rename 0 = .ok (.iconst 0, 1) := by decide +kernel
theorem d_cX0_rename_1 : decode cX0_rename 1 = .ok (.istore_n 2, 1) := by decide +kernel
theorem d_cX0_rename_2 : decode cX0_rename 2 = .ok (.iload_n 2, 1) := by decide +kernel
theorem d_cX0_rename_3 : decode cX0_rename 3 = .ok (.aload_n 0, 1) := by decide +kernel
theorem d_cX0_rename_4 : decode cX0_rename 4 = .ok (.getfield 49, 3) := by decide +kernel
theorem d_cX0_rename_7 : decode cX0_rename 7 = .ok (.if_icmp .ge 57, 3) := by decide +kernel
theorem d_cX0_rename_10 : decode cX0_rename 10 = .ok (.aload_n 0, 1) := by decide +kernel
theorem d_cX0_rename_11 : decode cX0_rename 11 = .ok (.getfield 30, 3) := by decide +kernel
theorem d_cX0_rename_14 : decode cX0_rename 14 = .ok (.iload_n 2, 1) := by decide +kernel
theorem d_cX0_rename_15 : decode cX0_rename 15 = .ok (.aload_n 1, 1) := by decide +kernel
theorem d_cX0_rename_16 : decode cX0_rename 16 = .ok (.aload_n 0, 1) := by decide +kernel
theorem d_cX0_rename_17 : decode cX0_rename 17 = .ok (.getfield 30, 3) := by decide +kernel
theorem d_cX0_rename_20 : decode cX0_rename 20 = .ok (.iload_n 2, 1) := by decide +kernel
theorem d_cX0_rename_21 : decode cX0_rename 21 = .ok (.iaload, 1) := by decide +kernel
theorem d_cX0_rename_22 : decode cX0_rename 22 = .ok (.invokestatic 70, 3) := by decide +kernel
theorem d_cX0_rename_25 : decode cX0_rename 25 = .ok (.iastore, 1) := by decide +kernel
theorem d_cX0_rename_26 : decode cX0_rename 26 = .ok (.aload_n 0, 1) := by decide +kernel
theorem d_cX0_rename_27 : decode cX0_rename 27 = .ok (.getfield 33, 3) := by decide +kernel
theorem d_cX0_rename_30 : decode cX0_rename 30 = .ok (.iload_n 2, 1) := by decide +kernel
theorem d_cX0_rename_31 : decode cX0_rename 31 = .ok (.aload_n 1, 1) := by decide +kernel
theorem d_cX0_rename_32 : decode cX0_rename 32 = .ok (.aload_n 0, 1) := by decide +kernel
theorem d_cX0_rename_33 : decode cX0_rename 33 = .ok (.getfield 33, 3) := by decide +kernel
theorem d_cX0_rename_36 : decode cX0_rename 36 = .ok (.iload_n 2, 1) := by decide +kernel
theorem d_cX0_rename_37 : decode cX0_rename 37 = .ok (.iaload, 1) := by decide +kernel
theorem d_cX0_rename_38 : decode cX0_rename 38 = .ok (.invokestatic 70, 3) := by decide +kernel
theorem d_cX0_rename_41 : decode cX0_rename 41 = .ok (.iastore, 1) := by decide +kernel
theorem d_cX0_rename_42 : decode cX0_rename 42 = .ok (.aload_n 0, 1) := by decide +kernel
theorem d_cX0_rename_43 : decode cX0_rename 43 = .ok (.getfield 39, 3) := by decide +kernel
theorem d_cX0_rename_46 : decode cX0_rename 46 = .ok (.iload_n 2, 1) := by decide +kernel
theorem d_cX0_rename_47 : decode cX0_rename 47 = .ok (.aload_n 1, 1) := by decide +kernel
theorem d_cX0_rename_48 : decode cX0_rename 48 = .ok (.aload_n 0, 1) := by decide +kernel
theorem d_cX0_rename_49 : decode cX0_rename 49 = .ok (.getfield 39, 3) := by decide +kernel
theorem d_cX0_rename_52 : decode cX0_rename 52 = .ok (.iload_n 2, 1) := by decide +kernel
theorem d_cX0_rename_53 : decode cX0_rename 53 = .ok (.iaload, 1) := by decide +kernel
theorem d_cX0_rename_54 : decode cX0_rename 54 = .ok (.invokestatic 70, 3) := by decide +kernel
theorem d_cX0_rename_57 : decode cX0_rename 57 = .ok (.iastore, 1) := by decide +kernel
theorem d_cX0_rename_58 : decode cX0_rename 58 = .ok (.iinc 2 1, 3) := by decide +kernel
theorem d_cX0_rename_61 : decode cX0_rename 61 = .ok (.goto (-59), 3) := by decide +kernel
theorem d_cX0_rename_64 : decode cX0_rename 64 = .ok (.return_, 1) := by decide +kernel
theorem d_cX0_renameSlots_0 : decode cX0_renameSlots 0 = .ok (.iconst 0, 1) := by decide +kernel
theorem d_cX0_renameSlots_1 : decode cX0_renameSlots 1 = .ok (.istore_n 2, 1) := by decide +kernel
theorem d_cX0_renameSlots_2 : decode cX0_renameSlots 2 = .ok (.iload_n 2, 1) := by decide +kernel
theorem d_cX0_renameSlots_3 : decode cX0_renameSlots 3 = .ok (.aload_n 0, 1) := by decide +kernel
theorem d_cX0_renameSlots_4 : decode cX0_renameSlots 4 = .ok (.getfield 49, 3) := by decide +kernel
theorem d_cX0_renameSlots_7 : decode cX0_renameSlots 7 = .ok (.if_icmp .ge 47, 3) := by decide +kernel
theorem d_cX0_renameSlots_10 : decode cX0_renameSlots 10 = .ok (.aload_n 0, 1) := by decide +kernel
theorem d_cX0_renameSlots_11 : decode cX0_renameSlots 11 = .ok (.getfield 27, 3) := by decide +kernel
theorem d_cX0_renameSlots_14 : decode cX0_renameSlots 14 = .ok (.iload_n 2, 1) := by decide +kernel
theorem d_cX0_renameSlots_15 : decode cX0_renameSlots 15 = .ok (.iaload, 1) := by decide +kernel
theorem d_cX0_renameSlots_16 : decode cX0_renameSlots 16 = .ok (.bipush 17, 2) := by decide +kernel
theorem d_cX0_renameSlots_18 : decode cX0_renameSlots 18 = .ok (.if_icmp .eq 14, 3) := by decide +kernel
theorem d_cX0_renameSlots_21 : decode cX0_renameSlots 21 = .ok (.aload_n 0, 1) := by decide +kernel
theorem d_cX0_renameSlots_22 : decode cX0_renameSlots 22 = .ok (.getfield 27, 3) := by decide +kernel
theorem d_cX0_renameSlots_25 : decode cX0_renameSlots 25 = .ok (.iload_n 2, 1) := by decide +kernel
theorem d_cX0_renameSlots_26 : decode cX0_renameSlots 26 = .ok (.iaload, 1) := by decide +kernel
theorem d_cX0_renameSlots_27 : decode cX0_renameSlots 27 = .ok (.bipush 18, 2) := by decide +kernel
theorem d_cX0_renameSlots_29 : decode cX0_renameSlots 29 = .ok (.if_icmp .ne 19, 3) := by decide +kernel
theorem d_cX0_renameSlots_32 : decode cX0_renameSlots 32 = .ok (.aload_n 0, 1) := by decide +kernel
theorem d_cX0_renameSlots_33 : decode cX0_renameSlots 33 = .ok (.getfield 42, 3) := by decide +kernel
theorem d_cX0_renameSlots_36 : decode cX0_renameSlots 36 = .ok (.iload_n 2, 1) := by decide +kernel
theorem d_cX0_renameSlots_37 : decode cX0_renameSlots 37 = .ok (.aload_n 1, 1) := by decide +kernel
theorem d_cX0_renameSlots_38 : decode cX0_renameSlots 38 = .ok (.aload_n 0, 1) := by decide +kernel
theorem d_cX0_renameSlots_39 : decode cX0_renameSlots 39 = .ok (.getfield 42, 3) := by decide +kernel
theorem d_cX0_renameSlots_42 : decode cX0_renameSlots 42 = .ok (.iload_n 2, 1) := by decide +kernel
theorem d_cX0_renameSlots_43 : decode cX0_renameSlots 43 = .ok (.iaload, 1) := by decide +kernel
theorem d_cX0_renameSlots_44 : decode cX0_renameSlots 44 = .ok (.invokestatic 70, 3) := by decide +kernel
theorem d_cX0_renameSlots_47 : decode cX0_renameSlots 47 = .ok (.iastore, 1) := by decide +kernel
theorem d_cX0_renameSlots_48 : decode cX0_renameSlots 48 = .ok (.iinc 2 1, 3) := by decide +kernel
theorem d_cX0_renameSlots_51 : decode cX0_renameSlots 51 = .ok (.goto (-49), 3) := by decide +kernel
theorem d_cX0_renameSlots_54 : decode cX0_renameSlots 54 = .ok (.return_, 1) := by decide +kernel
theorem d_cX0_replace_0 : decode cX0_replace 0 = .ok (.iconst 0, 1) := by decide +kernel
theorem d_cX0_replace_1 : decode cX0_replace 1 = .ok (.istore_n 3, 1) := by decide +kernel
theorem d_cX0_replace_2 : decode cX0_replace 2 = .ok (.iload_n 3, 1) := by decide +kernel
theorem d_cX0_replace_3 : decode cX0_replace 3 = .ok (.aload_n 0, 1) := by decide +kernel
theorem d_cX0_replace_4 : decode cX0_replace 4 = .ok (.getfield 49, 3) := by decide +kernel
theorem d_cX0_replace_7 : decode cX0_replace 7 = .ok (.if_icmp .ge 87, 3) := by decide +kernel
theorem d_cX0_replace_10 : decode cX0_replace 10 = .ok (.aload_n 0, 1) := by decide +kernel
theorem d_cX0_replace_11 : decode cX0_replace 11 = .ok (.getfield 30, 3) := by decide +kernel
theorem d_cX0_replace_14 : decode cX0_replace 14 = .ok (.iload_n 3, 1) := by decide +kernel
theorem d_cX0_replace_15 : decode cX0_replace 15 = .ok (.aload_n 0, 1) := by decide +kernel
theorem d_cX0_replace_16 : decode cX0_replace 16 = .ok (.getfield 30, 3) := by decide +kernel
theorem d_cX0_replace_19 : decode cX0_replace 19 = .ok (.iload_n 3, 1) := by decide +kernel
theorem d_cX0_replace_20 : decode cX0_replace 20 = .ok (.iaload, 1) := by decide +kernel
theorem d_cX0_replace_21 : decode cX0_replace 21 = .ok (.iload_n 1, 1) := by decide +kernel
theorem d_cX0_replace_22 : decode cX0_replace 22 = .ok (.if_icmp .ne 7, 3) := by decide +kernel
theorem d_cX0_replace_25 : decode cX0_replace 25 = .ok (.iload_n 2, 1) := by decide +kernel
theorem d_cX0_replace_26 : decode cX0_replace 26 = .ok (.goto 9, 3) := by decide +kernel
theorem d_cX0_replace_29 : decode cX0_replace 29 = .ok (.aload_n 0, 1) := by decide +kernel
theorem d_cX0_replace_30 : decode cX0_replace 30 = .ok (.getfield 30, 3) := by decide +kernel
theorem d_cX0_replace_33 : decode cX0_replace 33 = .ok (.iload_n 3, 1) := by decide +kernel
theorem d_cX0_replace_34 : decode cX0_replace 34 = .ok (.iaload, 1) := by decide +kernel
theorem d_cX0_replace_35 : decode cX0_replace 35 = .ok (.iastore, 1) := by decide +kernel
theorem d_cX0_replace_36 : decode cX0_replace 36 = .ok (.aload_n 0, 1) := by decide +kernel
theorem d_cX0_replace_37 : decode cX0_replace 37 = .ok (.getfield 33, 3) := by decide +kernel
theorem d_cX0_replace_40 : decode cX0_replace 40 = .ok (.iload_n 3, 1) := by decide +kernel
theorem d_cX0_replace_41 : decode cX0_replace 41 = .ok (.aload_n 0, 1) := by decide +kernel
theorem d_cX0_replace_42 : decode cX0_replace 42 = .ok (.getfield 33, 3) := by decide +kernel
theorem d_cX0_replace_45 : decode cX0_replace 45 = .ok (.iload_n 3, 1) := by decide +kernel
theorem d_cX0_replace_46 : decode cX0_replace 46 = .ok (.iaload, 1) := by decide +kernel
theorem d_cX0_replace_47 : decode cX0_replace 47 = .ok (.iload_n 1, 1) := by decide +kernel
theorem d_cX0_replace_48 : decode cX0_replace 48 = .ok (.if_icmp .ne 7, 3) := by decide +kernel
theorem d_cX0_replace_51 : decode cX0_replace 51 = .ok (.iload_n 2, 1) := by decide +kernel
theorem d_cX0_replace_52 : decode cX0_replace 52 = .ok (.goto 9, 3) := by decide +kernel
theorem d_cX0_replace_55 : decode cX0_replace 55 = .ok (.aload_n 0, 1) := by decide +kernel
theorem d_cX0_replace_56 : decode cX0_replace 56 = .ok (.getfield 33, 3) := by decide +kernel
theorem d_cX0_replace_59 : decode cX0_replace 59 = .ok (.iload_n 3, 1) := by decide +kernel
theorem d_cX0_replace_60 : decode cX0_replace 60 = .ok (.iaload, 1) := by decide +kernel
theorem d_cX0_replace_61 : decode cX0_replace 61 = .ok (.iastore, 1) := by decide +kernel
theorem d_cX0_replace_62 : decode cX0_replace 62 = .ok (.aload_n 0, 1) := by decide +kernel
theorem d_cX0_replace_63 : decode cX0_replace 63 = .ok (.getfield 39, 3) := by decide +kernel
theorem d_cX0_replace_66 : decode cX0_replace 66 = .ok (.iload_n 3, 1) := by decide +kernel
theorem d_cX0_replace_67 : decode cX0_replace 67 = .ok (.aload_n 0, 1) := by decide +kernel
theorem d_cX0_replace_68 : decode cX0_replace 68 = .ok (.getfield 39, 3) := by decide +kernel
theorem d_cX0_replace_71 : decode cX0_replace 71 = .ok (.iload_n 3, 1) := by decide +kernel
theorem d_cX0_replace_72 : decode cX0_replace 72 = .ok (.iaload, 1) := by decide +kernel
theorem d_cX0_replace_73 : decode cX0_replace 73 = .ok (.iload_n 1, 1) := by decide +kernel
theorem d_cX0_replace_74 : decode cX0_replace 74 = .ok (.if_icmp .ne 7, 3) := by decide +kernel
theorem d_cX0_replace_77 : decode cX0_replace 77 = .ok (.iload_n 2, 1) := by decide +kernel
theorem d_cX0_replace_78 : decode cX0_replace 78 = .ok (.goto 9, 3) := by decide +kernel
theorem d_cX0_replace_81 : decode cX0_replace 81 = .ok (.aload_n 0, 1) := by decide +kernel
theorem d_cX0_replace_82 : decode cX0_replace 82 = .ok (.getfield 39, 3) := by decide +kernel
theorem d_cX0_replace_85 : decode cX0_replace 85 = .ok (.iload_n 3, 1) := by decide +kernel
theorem d_cX0_replace_86 : decode cX0_replace 86 = .ok (.iaload, 1) := by decide +kernel
theorem d_cX0_replace_87 : decode cX0_replace 87 = .ok (.iastore, 1) := by decide +kernel
theorem d_cX0_replace_88 : decode cX0_replace 88 = .ok (.iinc 3 1, 3) := by decide +kernel
theorem d_cX0_replace_91 : decode cX0_replace 91 = .ok (.goto (-89), 3) := by decide +kernel
theorem d_cX0_replace_94 : decode cX0_replace 94 = .ok (.return_, 1) := by decide +kernel
theorem d_cX0_rows_0 : decode cX0_rows 0 = .ok (.aload_n 0, 1) := by decide +kernel
theorem d_cX0_rows_1 : decode cX0_rows 1 = .ok (.getfield 49, 3) := by decide +kernel
theorem d_cX0_rows_4 : decode cX0_rows 4 = .ok (.aload_n 0, 1) := by decide +kernel
theorem d_cX0_rows_5 : decode cX0_rows 5 = .ok (.getfield 45, 3) := by decide +kernel
theorem d_cX0_rows_8 : decode cX0_rows 8 = .ok (.isub, 1) := by decide +kernel
theorem d_cX0_rows_9 : decode cX0_rows 9 = .ok (.ireturn, 1) := by decide +kernel
theorem d_cX0_secondUse_0 : decode cX0_secondUse 0 = .ok (.iload_n 2, 1) := by decide +kernel
theorem d_cX0_secondUse_1 : decode cX0_secondUse 1 = .ok (.ifCond .eq 7, 3) := by decide +kernel
theorem d_cX0_secondUse_4 : decode cX0_secondUse 4 = .ok (.iconst (-1), 1) := by decide +kernel
theorem d_cX0_secondUse_5 : decode cX0_secondUse 5 = .ok (.goto 9, 3) := by decide +kernel
theorem d_cX0_secondUse_8 : decode cX0_secondUse 8 = .ok (.aload_n 0, 1) := by decide +kernel
theorem d_cX0_secondUse_9 : decode cX0_secondUse 9 = .ok (.getfield 39, 3) := by decide +kernel
theorem d_cX0_secondUse_12 : decode cX0_secondUse 12 = .ok (.iload_n 1, 1) := by decide +kernel
theorem d_cX0_secondUse_13 : decode cX0_secondUse 13 = .ok (.iaload, 1) := by decide +kernel
theorem d_cX0_secondUse_14 : decode cX0_secondUse 14 = .ok (.ireturn, 1) := by decide +kernel
theorem d_cX0_setBy_0 : decode cX0_setBy 0 = .ok (.iload_n 2, 1) := by decide +kernel
theorem d_cX0_setBy_1 : decode cX0_setBy 1 = .ok (.ifCond .eq 25, 3) := by decide +kernel
theorem d_cX0_setBy_4 : decode cX0_setBy 4 = .ok (.aload_n 0, 1) := by decide +kernel
theorem d_cX0_setBy_5 : decode cX0_setBy 5 = .ok (.getfield 27, 3) := by decide +kernel
theorem d_cX0_setBy_8 : decode cX0_setBy 8 = .ok (.iload_n 1, 1) := by decide +kernel
theorem d_cX0_setBy_9 : decode cX0_setBy 9 = .ok (.iaload, 1) := by decide +kernel
theorem d_cX0_setBy_10 : decode cX0_setBy 10 = .ok (.bipush 18, 2) := by decide +kernel
theorem d_cX0_setBy_12 : decode cX0_setBy 12 = .ok (.if_icmp .ne 12, 3) := by decide +kernel
theorem d_cX0_setBy_15 : decode cX0_setBy 15 = .ok (.aload_n 0, 1) := by decide +kernel
theorem d_cX0_setBy_16 : decode cX0_setBy 16 = .ok (.getfield 42, 3) := by decide +kernel
theorem d_cX0_setBy_19 : decode cX0_setBy 19 = .ok (.iload_n 1, 1) := by decide +kernel
theorem d_cX0_setBy_20 : decode cX0_setBy 20 = .ok (.iaload, 1) := by decide +kernel
theorem d_cX0_setBy_21 : decode cX0_setBy 21 = .ok (.goto 4, 3) := by decide +kernel
theorem d_cX0_setBy_24 : decode cX0_setBy 24 = .ok (.iconst (-1), 1) := by decide +kernel
theorem d_cX0_setBy_25 : decode cX0_setBy 25 = .ok (.ireturn, 1) := by decide +kernel
theorem d_cX0_setBy_26 : decode cX0_setBy 26 = .ok (.aload_n 0, 1) := by decide +kernel
theorem d_cX0_setBy_27 : decode cX0_setBy 27 = .ok (.getfield 30, 3) := by decide +kernel
theorem d_cX0_setBy_30 : decode cX0_setBy 30 = .ok (.iload_n 1, 1) := by decide +kernel
theorem d_cX0_setBy_31 : decode cX0_setBy 31 = .ok (.iaload, 1) := by decide +kernel
theorem d_cX0_setBy_32 : decode cX0_setBy 32 = .ok (.ireturn, 1) := by decide +kernel
theorem d_cX10_addInt_0 : decode cX10_addInt 0 = .ok (.bipush 24, 2) := by decide +kernel
theorem d_cX10_addInt_2 : decode cX10_addInt 2 = .ok (.istore_n 2, 1) := by decide +kernel
theorem d_cX10_addInt_3 : decode cX10_addInt 3 = .ok (.iload_n 2, 1) := by decide +kernel
theorem d_cX10_addInt_4 : decode cX10_addInt 4 = .ok (.ifCond .lt 44, 3) := by decide +kernel
theorem d_cX10_addInt_7 : decode cX10_addInt 7 = .ok (.aload_n 0, 1) := by decide +kernel
theorem d_cX10_addInt_8 : decode cX10_addInt 8 = .ok (.getfield 15, 3) := by decide +kernel
theorem d_cX10_addInt_11 : decode cX10_addInt 11 = .ok (.aload_n 0, 1) := by decide +kernel
theorem d_cX10_addInt_12 : decode cX10_addInt 12 = .ok (.getfield 9, 3) := by decide +kernel
theorem d_cX10_addInt_15 : decode cX10_addInt 15 = .ok (.arraylength, 1) := by decide +kernel
theorem d_cX10_addInt_16 : decode cX10_addInt 16 = .ok (.if_icmp .ge 32, 3) := by decide +kernel
theorem d_cX10_addInt_19 : decode cX10_addInt 19 = .ok (.aload_n 0, 1) := by decide +kernel
theorem d_cX10_addInt_20 : decode cX10_addInt 20 = .ok (.getfield 9, 3) := by decide +kernel
theorem d_cX10_addInt_23 : decode cX10_addInt 23 = .ok (.aload_n 0, 1) := by decide +kernel
theorem d_cX10_addInt_24 : decode cX10_addInt 24 = .ok (.getfield 15, 3) := by decide +kernel
theorem d_cX10_addInt_27 : decode cX10_addInt 27 = .ok (.iload_n 1, 1) := by decide +kernel
theorem d_cX10_addInt_28 : decode cX10_addInt 28 = .ok (.iload_n 2, 1) := by decide +kernel
theorem d_cX10_addInt_29 : decode cX10_addInt 29 = .ok (.ishr, 1) := by decide +kernel
theorem d_cX10_addInt_30 : decode cX10_addInt 30 = .ok (.i2b, 1) := by decide +kernel
theorem d_cX10_addInt_31 : decode cX10_addInt 31 = .ok (.bastore, 1) := by decide +kernel
theorem d_cX10_addInt_32 : decode cX10_addInt 32 = .ok (.aload_n 0, 1) := by decide +kernel
theorem d_cX10_addInt_33 : decode cX10_addInt 33 = .ok (.dup, 1) := by decide +kernel
theorem d_cX10_addInt_34 : decode cX10_addInt 34 = .ok (.getfield 15, 3) := by decide +kernel
theorem d_cX10_addInt_37 : decode cX10_addInt 37 = .ok (.iconst 1, 1) := by decide +kernel
theorem d_cX10_addInt_38 : decode cX10_addInt 38 = .ok (.iadd, 1) := by decide +kernel
theorem d_cX10_addInt_39 : decode cX10_addInt 39 = .ok (.putfield 15, 3) := by decide +kernel
theorem d_cX10_addInt_42 : decode cX10_addInt 42 = .ok (.iinc 2 (-8), 3) := by decide +kernel
theorem d_cX10_addInt_45 : decode cX10_addInt 45 = .ok (.goto (-42), 3) := by decide +kernel
theorem d_cX10_addInt_48 : decode cX10_addInt 48 = .ok (.return_, 1) := by decide +kernel
theorem d_cX10_byteAt_0 : decode cX10_byteAt 0 = .ok (.iload_n 1, 1) := by decide +kernel
theorem d_cX10_byteAt_1 : decode cX10_byteAt 1 = .ok (.ifCond .lt 24, 3) := by decide +kernel
theorem d_cX10_byteAt_4 : decode cX10_byteAt 4 = .ok (.iload_n 1, 1) := by decide +kernel
theorem d_cX10_byteAt_5 : decode cX10_byteAt 5 = .ok (.aload_n 0, 1) := by decide +kernel
theorem d_cX10_byteAt_6 : decode cX10_byteAt 6 = .ok (.getfield 15, 3) := by decide +kernel
theorem d_cX10_byteAt_9 : decode cX10_byteAt 9 = .ok (.if_icmp .ge 16, 3) := by decide +kernel
theorem d_cX10_byteAt_12 : decode cX10_byteAt 12 = .ok (.aload_n 0, 1) := by decide +kernel
theorem d_cX10_byteAt_13 : decode cX10_byteAt 13 = .ok (.getfield 9, 3) := by decide +kernel
theorem d_cX10_byteAt_16 : decode cX10_byteAt 16 = .ok (.iload_n 1, 1) := by decide +kernel
theorem d_cX10_byteAt_17 : decode cX10_byteAt 17 = .ok (.baload, 1) := by decide +kernel
theorem d_cX10_byteAt_18 : decode cX10_byteAt 18 = .ok (.sipush 255, 3) := by decide +kernel
theorem d_cX10_byteAt_21 : decode cX10_byteAt 21 = .ok (.iand, 1) := by decide +kernel
theorem d_cX10_byteAt_22 : decode cX10_byteAt 22 = .ok (.goto 4, 3) := by decide +kernel
theorem d_cX10_byteAt_25 : decode cX10_byteAt 25 = .ok (.iconst (-1), 1) := by decide +kernel
theorem d_cX10_byteAt_26 : decode cX10_byteAt 26 = .ok (.ireturn, 1) := by decide +kernel
theorem d_cX10_cutTo_0 : decode cX10_cutTo 0 = .ok (.aload_n 0, 1) := by decide +kernel
theorem d_cX10_cutTo_1 : decode cX10_cutTo 1 = .ok (.iconst 0, 1) := by decide +kernel
theorem d_cX10_cutTo_2 : decode cX10_cutTo 2 = .ok (.iload_n 1, 1) := by decide +kernel
theorem d_cX10_cutTo_3 : decode cX10_cutTo 3 = .ok (.aload_n 0, 1) := by decide +kernel
theorem d_cX10_cutTo_4 : decode cX10_cutTo 4 = .ok (.getfield 15, 3) := by decide +kernel
theorem d_cX10_cutTo_7 : decode cX10_cutTo 7 = .ok (.invokestatic 19, 3) := by decide +kernel
theorem d_cX10_cutTo_10 : decode cX10_cutTo 10 = .ok (.invokestatic 25, 3) := by decide +kernel
theorem d_cX10_cutTo_13 : decode cX10_cutTo 13 = .ok (.putfield 15, 3) := by decide +kernel
theorem d_cX10_cutTo_16 : decode cX10_cutTo 16 = .ok (.return_, 1) := by decide +kernel
theorem d_cX10_hasRoom_0 : decode cX10_hasRoom 0 = .ok (.aload_n 0, 1) := by decide +kernel
theorem d_cX10_hasRoom_1 : decode cX10_hasRoom 1 = .ok (.getfield 15, 3) := by decide +kernel
theorem d_cX10_hasRoom_4 : decode cX10_hasRoom 4 = .ok (.iload_n 1, 1) := by decide +kernel
theorem d_cX10_hasRoom_5 : decode cX10_hasRoom 5 = .ok (.iadd, 1) := by decide +kernel
theorem d_cX10_hasRoom_6 : decode cX10_hasRoom 6 = .ok (.aload_n 0, 1) := by decide +kernel
theorem d_cX10_hasRoom_7 : decode cX10_hasRoom 7 = .ok (.getfield 9, 3) := by decide +kernel
theorem d_cX10_hasRoom_10 : decode cX10_hasRoom 10 = .ok (.arraylength, 1) := by decide +kernel
theorem d_cX10_hasRoom_11 : decode cX10_hasRoom 11 = .ok (.if_icmp .gt 7, 3) := by decide +kernel
theorem d_cX10_hasRoom_14 : decode cX10_hasRoom 14 = .ok (.iconst 1, 1) := by decide +kernel
theorem d_cX10_hasRoom_15 : decode cX10_hasRoom 15 = .ok (.goto 4, 3) := by decide +kernel
theorem d_cX10_hasRoom_18 : decode cX10_hasRoom 18 = .ok (.iconst 0, 1) := by decide +kernel
theorem d_cX10_hasRoom_19 : decode cX10_hasRoom 19 = .ok (.ireturn, 1) := by decide +kernel
theorem d_cX10_intAt_0 : decode cX10_intAt 0 = .ok (.iconst 0, 1) := by decide +kernel
theorem d_cX10_intAt_1 : decode cX10_intAt 1 = .ok (.istore_n 2, 1) := by decide +kernel
theorem d_cX10_intAt_2 : decode cX10_intAt 2 = .ok (.iconst 0, 1) := by decide +kernel
theorem d_cX10_intAt_3 : decode cX10_intAt 3 = .ok (.istore_n 3, 1) := by decide +kernel
theorem d_cX10_intAt_4 : decode cX10_intAt 4 = .ok (.iload_n 3, 1) := by decide +kernel
theorem d_cX10_intAt_5 : decode cX10_intAt 5 = .ok (.iconst 4, 1) := by decide +kernel
theorem d_cX10_intAt_6 : decode cX10_intAt 6 = .ok (.if_icmp .ge 26, 3) := by decide +kernel
theorem d_cX10_intAt_9 : decode cX10_intAt 9 = .ok (.iload_n 2, 1) := by decide +kernel
theorem d_cX10_intAt_10 : decode cX10_intAt 10 = .ok (.bipush 8, 2) := by decide +kernel
theorem d_cX10_intAt_12 : decode cX10_intAt 12 = .ok (.ishl, 1) := by decide +kernel
theorem d_cX10_intAt_13 : decode cX10_intAt 13 = .ok (.aload_n 0, 1) := by decide +kernel
theorem d_cX10_intAt_14 : decode cX10_intAt 14 = .ok (.iload_n 1, 1) := by decide +kernel
theorem d_cX10_intAt_15 : decode cX10_intAt 15 = .ok (.iload_n 3, 1) := by decide +kernel
theorem d_cX10_intAt_16 : decode cX10_intAt 16 = .ok (.iadd, 1) := by decide +kernel
theorem d_cX10_intAt_17 : decode cX10_intAt 17 = .ok (.invokevirtual 28, 3) := by decide +kernel
theorem d_cX10_intAt_20 : decode cX10_intAt 20 = .ok (.sipush 255, 3) := by decide +kernel
theorem d_cX10_intAt_23 : decode cX10_intAt 23 = .ok (.iand, 1) := by decide +kernel
theorem d_cX10_intAt_24 : decode cX10_intAt 24 = .ok (.ior, 1) := by decide +kernel
theorem d_cX10_intAt_25 : decode cX10_intAt 25 = .ok (.istore_n 2, 1) := by decide +kernel
theorem d_cX10_intAt_26 : decode cX10_intAt 26 = .ok (.iinc 3 1, 3) := by decide +kernel
theorem d_cX10_intAt_29 : decode cX10_intAt 29 = .ok (.goto (-25), 3) := by decide +kernel
theorem d_cX10_intAt_32 : decode cX10_intAt 32 = .ok (.iload_n 2, 1) := by decide +kernel
theorem d_cX10_intAt_33 : decode cX10_intAt 33 = .ok (.ireturn, 1) := by decide +kernel
theorem d_cX10_size_0 : decode cX10_size 0 = .ok (.aload_n 0, 1) := by decide +kernel
theorem d_cX10_size_1 : decode cX10_size 1 = .ok (.getfield 15, 3) := by decide +kernel
theorem d_cX10_size_4 : decode cX10_size 4 = .ok (.ireturn, 1) := by decide +kernel
theorem d_cX11_end_0 : decode cX11_end 0 = .ok (.iload_n 1, 1) := by decide +kernel
theorem d_cX11_end_1 : decode cX11_end 1 = .ok (.ifCond .lt 14, 3) := by decide +kernel
theorem d_cX11_end_4 : decode cX11_end 4 = .ok (.iload_n 1, 1) := by decide +kernel
theorem d_cX11_end_5 : decode cX11_end 5 = .ok (.aload_n 0, 1) := by decide +kernel
theorem d_cX11_end_6 : decode cX11_end 6 = .ok (.getfield 12, 3) := by decide +kernel
theorem d_cX11_end_9 : decode cX11_end 9 = .ok (.invokevirtual 78, 3) := by decide +kernel
theorem d_cX11_end_12 : decode cX11_end 12 = .ok (.if_icmp .le 13, 3) := by decide +kernel
theorem d_cX11_end_15 : decode cX11_end 15 = .ok (.new 82, 3) := by decide +kernel
theorem d_cX11_end_18 : decode cX11_end 18 = .ok (.dup, 1) := by decide +kernel
theorem d_cX11_end_19 : decode cX11_end 19 = .ok (.ldc 84, 2) := by decide +kernel
theorem d_cX11_end_21 : decode cX11_end 21 = .ok (.invokespecial 86, 3) := by decide +kernel
theorem d_cX11_end_24 : decode cX11_end 24 = .ok (.athrow, 1) := by decide +kernel
theorem d_cX11_end_25 : decode cX11_end 25 = .ok (.aload_n 0, 1) := by decide +kernel
theorem d_cX11_end_26 : decode cX11_end 26 = .ok (.getfield 12, 3) := by decide +kernel
theorem d_cX11_end_29 : decode cX11_end 29 = .ok (.iload_n 1, 1) := by decide +kernel
theorem d_cX11_end_30 : decode cX11_end 30 = .ok (.invokevirtual 87, 3) := by decide +kernel
theorem d_cX11_end_33 : decode cX11_end 33 = .ok (.iload_n 1, 1) := by decide +kernel
theorem d_cX11_end_34 : decode cX11_end 34 = .ok (.ireturn, 1) := by decide +kernel
theorem d_cX11_exists_0 : decode cX11_exists 0 = .ok (.iload_n 1, 1) := by decide +kernel
theorem d_cX11_exists_1 : decode cX11_exists 1 = .ok (.ifCond .eq 13, 3) := by decide +kernel
theorem d_cX11_exists_4 : decode cX11_exists 4 = .ok (.aload_n 0, 1) := by decide +kernel
theorem d_cX11_exists_5 : decode cX11_exists 5 = .ok (.getfield 46, 3) := by decide +kernel
theorem d_cX11_exists_8 : decode cX11_exists 8 = .ok (.invokevirtual 133, 3) := by decide +kernel
theorem d_cX11_exists_11 : decode cX11_exists 11 = .ok (.goto 7, 3) := by decide +kernel
theorem d_cX11_exists_14 : decode cX11_exists 14 = .ok (.aload_n 0, 1) := by decide +kernel
theorem d_cX11_exists_15 : decode cX11_exists 15 = .ok (.getfield 94, 3) := by decide +kernel
theorem d_cX11_exists_18 : decode cX11_exists 18 = .ok (.ireturn, 1) := by decide +kernel
theorem d_cX11_feed_0 : decode cX11_feed 0 = .ok (.aload_n 0, 1) := by decide +kernel
theorem d_cX11_feed_1 : decode cX11_feed 1 = .ok (.getfield 12, 3) := by decide +kernel
theorem d_cX11_feed_4 : decode cX11_feed 4 = .ok (.bipush 20, 2) := by decide +kernel
theorem d_cX11_feed_6 : decode cX11_feed 6 = .ok (.invokevirtual 64, 3) := by decide +kernel
theorem d_cX11_feed_9 : decode cX11_feed 9 = .ok (.ifCond .ne 13, 3) := by decide +kernel
theorem d_cX11_feed_12 : decode cX11_feed 12 = .ok (.new 68, 3) := by decide +kernel
theorem d_cX11_feed_15 : decode cX11_feed 15 = .ok (.dup, 1) := by decide +kernel
theorem d_cX11_feed_16 : decode cX11_feed 16 = .ok (.ldc 70, 2) := by decide +kernel
theorem d_cX11_feed_18 : decode cX11_feed 18 = .ok (.invokespecial 72, 3) := by decide +kernel
theorem d_cX11_feed_21 : decode cX11_feed 21 = .ok (.athrow, 1) := by decide +kernel
theorem d_cX11_feed_22 : decode cX11_feed 22 = .ok (.aload_n 0, 1) := by decide +kernel
theorem d_cX11_feed_23 : decode cX11_feed 23 = .ok (.getfield 12, 3) := by decide +kernel
theorem d_cX11_feed_26 : decode cX11_feed 26 = .ok (.iload_n 1, 1) := by decide +kernel
theorem d_cX11_feed_27 : decode cX11_feed 27 = .ok (.invokevirtual 75, 3) := by decide +kernel
theorem d_cX11_feed_30 : decode cX11_feed 30 = .ok (.aload_n 0, 1) := by decide +kernel
theorem d_cX11_feed_31 : decode cX11_feed 31 = .ok (.getfield 12, 3) := by decide +kernel
theorem d_cX11_feed_34 : decode cX11_feed 34 = .ok (.iload_n 2, 1) := by decide +kernel
theorem d_cX11_feed_35 : decode cX11_feed 35 = .ok (.invokevirtual 75, 3) := by decide +kernel
theorem d_cX11_feed_38 : decode cX11_feed 38 = .ok (.aload_n 0, 1) := by decide +kernel
theorem d_cX11_feed_39 : decode cX11_feed 39 = .ok (.getfield 12, 3) := by decide +kernel
theorem d_cX11_feed_42 : decode cX11_feed 42 = .ok (.iload_n 3, 1) := by decide +kernel
theorem d_cX11_feed_43 : decode cX11_feed 43 = .ok (.invokevirtual 75, 3) := by decide +kernel
theorem d_cX11_feed_46 : decode cX11_feed 46 = .ok (.aload_n 0, 1) := by decide +kernel
theorem d_cX11_feed_47 : decode cX11_feed 47 = .ok (.getfield 12, 3) := by decide +kernel
theorem d_cX11_feed_50 : decode cX11_feed 50 = .ok (.iload 4, 2) := by decide +kernel
theorem d_cX11_feed_52 : decode cX11_feed 52 = .ok (.invokevirtual 75, 3) := by decide +kernel
theorem d_cX11_feed_55 : decode cX11_feed 55 = .ok (.aload_n 0, 1) := by decide +kernel
theorem d_cX11_feed_56 : decode cX11_feed 56 = .ok (.getfield 12, 3) := by decide +kernel
theorem d_cX11_feed_59 : decode cX11_feed 59 = .ok (.iload 5, 2) := by decide +kernel
theorem d_cX11_feed_61 : decode cX11_feed 61 = .ok (.invokevirtual 75, 3) := by decide +kernel
theorem d_cX11_feed_64 : decode cX11_feed 64 = .ok (.aload_n 0, 1) := by decide +kernel
theorem d_cX11_feed_65 : decode cX11_feed 65 = .ok (.getfield 12, 3) := by decide +kernel
theorem d_cX11_feed_68 : decode cX11_feed 68 = .ok (.invokevirtual 78, 3) := by decide +kernel
theorem d_cX11_feed_71 : decode cX11_feed 71 = .ok (.ireturn, 1) := by decide +kernel
theorem d_cX11_input_0 : decode cX11_input 0 = .ok (.aload_n 0, 1) := by decide +kernel
theorem d_cX11_input_1 : decode cX11_input 1 = .ok (.getfield 53, 3) := by decide +kernel
theorem d_cX11_input_4 : decode cX11_input 4 = .ok (.aload_n 0, 1) := by decide +kernel
theorem d_cX11_input_5 : decode cX11_input 5 = .ok (.getfield 12, 3) := by decide +kernel
theorem d_cX11_input_8 : decode cX11_input 8 = .ok (.invokevirtual 105, 3) := by decide +kernel
theorem d_cX11_input_11 : decode cX11_input 11 = .ok (.istore_n 1, 1) := by decide +kernel
theorem d_cX11_input_12 : decode cX11_input 12 = .ok (.aload_n 0, 1) := by decide +kernel
theorem d_cX11_input_13 : decode cX11_input 13 = .ok (.getfield 12, 3) := by decide +kernel
theorem d_cX11_input_16 : decode cX11_input 16 = .ok (.iconst 0, 1) := by decide +kernel
theorem d_cX11_input_17 : decode cX11_input 17 = .ok (.invokevirtual 87, 3) := by decide +kernel
theorem d_cX11_input_20 : decode cX11_input 20 = .ok (.iload_n 1, 1) := by decide +kernel
theorem d_cX11_input_21 : decode cX11_input 21 = .ok (.ireturn, 1) := by decide +kernel
theorem d_cX11_list_0 : decode cX11_list 0 = .ok (.aload_n 0, 1) := by decide +kernel
theorem d_cX11_list_1 : decode cX11_list 1 = .ok (.iload_n 1, 1) := by decide +kernel
theorem d_cX11_list_2 : decode cX11_list 2 = .ok (.invokevirtual 185, 3) := by decide +kernel
theorem d_cX11_list_5 : decode cX11_list 5 = .ok (.ifCond .ne 13, 3) := by decide +kernel
theorem d_cX11_list_8 : decode cX11_list 8 = .ok (.new 111, 3) := by decide +kernel
theorem d_cX11_list_11 : decode cX11_list 11 = .ok (.dup, 1) := by decide +kernel
theorem d_cX11_list_12 : decode cX11_list 12 = .ok (.ldc 217, 2) := by decide +kernel
theorem d_cX11_list_14 : decode cX11_list 14 = .ok (.invokespecial 115, 3) := by decide +kernel
theorem d_cX11_list_17 : decode cX11_list 17 = .ok (.athrow, 1) := by decide +kernel
theorem d_cX11_list_18 : decode cX11_list 18 = .ok (.aload_n 0, 1) := by decide +kernel
theorem d_cX11_list_19 : decode cX11_list 19 = .ok (.getfield 60, 3) := by decide +kernel
theorem d_cX11_list_22 : decode cX11_list 22 = .ok (.iload_n 1, 1) := by decide +kernel
theorem d_cX11_list_23 : decode cX11_list 23 = .ok (.ifCond .eq 13, 3) := by decide +kernel
theorem d_cX11_list_26 : decode cX11_list 26 = .ok (.aload_n 0, 1) := by decide +kernel
theorem d_cX11_list_27 : decode cX11_list 27 = .ok (.getfield 46, 3) := by decide +kernel
theorem d_cX11_list_30 : decode cX11_list 30 = .ok (.invokevirtual 141, 3) := by decide +kernel
theorem d_cX11_list_33 : decode cX11_list 33 = .ok (.goto 7, 3) := by decide +kernel
theorem d_cX11_list_36 : decode cX11_list 36 = .ok (.aload_n 0, 1) := by decide +kernel
theorem d_cX11_list_37 : decode cX11_list 37 = .ok (.getfield 30, 3) := by decide +kernel
theorem d_cX11_list_40 : decode cX11_list 40 = .ok (.invokevirtual 219, 3) := by decide +kernel
theorem d_cX11_list_43 : decode cX11_list 43 = .ok (.aload_n 0, 1) := by decide +kernel
theorem d_cX11_list_44 : decode cX11_list 44 = .ok (.getfield 60, 3) := by decide +kernel
theorem d_cX11_list_47 : decode cX11_list 47 = .ok (.invokevirtual 130, 3) := by decide +kernel
theorem d_cX11_list_50 : decode cX11_list 50 = .ok (.ireturn, 1) := by decide +kernel
theorem d_cX11_shown_0 : decode cX11_shown 0 = .ok (.iload_n 1, 1) := by decide +kernel
theorem d_cX11_shown_1 : decode cX11_shown 1 = .ok (.ifCond .lt 14, 3) := by decide +kernel
theorem d_cX11_shown_4 : decode cX11_shown 4 = .ok (.iload_n 1, 1) := by decide +kernel
theorem d_cX11_shown_5 : decode cX11_shown 5 = .ok (.aload_n 0, 1) := by decide +kernel
theorem d_cX11_shown_6 : decode cX11_shown 6 = .ok (.getfield 53, 3) := by decide +kernel
theorem d_cX11_shown_9 : decode cX11_shown 9 = .ok (.invokevirtual 201, 3) := by decide +kernel
theorem d_cX11_shown_12 : decode cX11_shown 12 = .ok (.if_icmp .lt 13, 3) := by decide +kernel
theorem d_cX11_shown_15 : decode cX11_shown 15 = .ok (.new 68, 3) := by decide +kernel
theorem d_cX11_shown_18 : decode cX11_shown 18 = .ok (.dup, 1) := by decide +kernel
theorem d_cX11_shown_19 : decode cX11_shown 19 = .ok (.ldc 212, 2) := by decide +kernel
theorem d_cX11_shown_21 : decode cX11_shown 21 = .ok (.invokespecial 72, 3) := by decide +kernel
theorem d_cX11_shown_24 : decode cX11_shown 24 = .ok (.athrow, 1) := by decide +kernel
theorem d_cX11_shown_25 : decode cX11_shown 25 = .ok (.aload_n 0, 1) := by decide +kernel
theorem d_cX11_shown_26 : decode cX11_shown 26 = .ok (.getfield 53, 3) := by decide +kernel
theorem d_cX11_shown_29 : decode cX11_shown 29 = .ok (.iload_n 1, 1) := by decide +kernel
theorem d_cX11_shown_30 : decode cX11_shown 30 = .ok (.invokevirtual 214, 3) := by decide +kernel
theorem d_cX11_shown_33 : decode cX11_shown 33 = .ok (.ireturn, 1) := by decide +kernel
theorem d_cX11_told_0 : decode cX11_told 0 = .ok (.iload_n 1, 1) := by decide +kernel
theorem d_cX11_told_1 : decode cX11_told 1 = .ok (.tableswitch 75 0 4 #[35, 43, 51, 59, 67], 35) := by decide +kernel
theorem d_cX11_told_36 : decode cX11_told 36 = .ok (.aload_n 0, 1) := by decide +kernel
theorem d_cX11_told_37 : decode cX11_told 37 = .ok (.getfield 53, 3) := by decide +kernel
theorem d_cX11_told_40 : decode cX11_told 40 = .ok (.invokevirtual 198, 3) := by decide +kernel
theorem d_cX11_told_43 : decode cX11_told 43 = .ok (.ireturn, 1) := by decide +kernel
theorem d_cX11_told_44 : decode cX11_told 44 = .ok (.aload_n 0, 1) := by decide +kernel
theorem d_cX11_told_45 : decode cX11_told 45 = .ok (.getfield 53, 3) := by decide +kernel
theorem d_cX11_told_48 : decode cX11_told 48 = .ok (.invokevirtual 201, 3) := by decide +kernel
theorem d_cX11_told_51 : decode cX11_told 51 = .ok (.ireturn, 1) := by decide +kernel
theorem d_cX11_told_52 : decode cX11_told 52 = .ok (.aload_n 0, 1) := by decide +kernel
theorem d_cX11_told_53 : decode cX11_told 53 = .ok (.getfield 53, 3) := by decide +kernel
theorem d_cX11_told_56 : decode cX11_told 56 = .ok (.invokevirtual 204, 3) := by decide +kernel
theorem d_cX11_told_59 : decode cX11_told 59 = .ok (.ireturn, 1) := by decide +kernel
theorem d_cX11_told_60 : decode cX11_told 60 = .ok (.aload_n 0, 1) := by decide +kernel
theorem d_cX11_told_61 : decode cX11_told 61 = .ok (.getfield 53, 3) := by decide +kernel
theorem d_cX11_told_64 : decode cX11_told 64 = .ok (.invokevirtual 207, 3) := by decide +kernel
theorem d_cX11_told_67 : decode cX11_told 67 = .ok (.ireturn, 1) := by decide +kernel
theorem d_cX11_told_68 : decode cX11_told 68 = .ok (.aload_n 0, 1) := by decide +kernel
theorem d_cX11_told_69 : decode cX11_told 69 = .ok (.getfield 53, 3) := by decide +kernel
theorem d_cX11_told_72 : decode cX11_told 72 = .ok (.invokevirtual 195, 3) := by decide +kernel
theorem d_cX11_told_75 : decode cX11_told 75 = .ok (.ireturn, 1) := by decide +kernel
theorem d_cX11_told_76 : decode cX11_told 76 = .ok (.new 82, 3) := by decide +kernel
theorem d_cX11_told_79 : decode cX11_told 79 = .ok (.dup, 1) := by decide +kernel
theorem d_cX11_told_80 : decode cX11_told 80 = .ok (.ldc 210, 2) := by decide +kernel
theorem d_cX11_told_82 : decode cX11_told 82 = .ok (.invokespecial 86, 3) := by decide +kernel
theorem d_cX11_told_85 : decode cX11_told 85 = .ok (.athrow, 1) := by decide +kernel
theorem d_cX11_word_0 : decode cX11_word 0 = .ok (.iload_n 1, 1) := by decide +kernel
theorem d_cX11_word_1 : decode cX11_word 1 = .ok (.ifCond .lt 14, 3) := by decide +kernel
theorem d_cX11_word_4 : decode cX11_word 4 = .ok (.iload_n 1, 1) := by decide +kernel
theorem d_cX11_word_5 : decode cX11_word 5 = .ok (.aload_n 0, 1) := by decide +kernel
theorem d_cX11_word_6 : decode cX11_word 6 = .ok (.getfield 60, 3) := by decide +kernel
theorem d_cX11_word_9 : decode cX11_word 9 = .ok (.invokevirtual 130, 3) := by decide +kernel
theorem d_cX11_word_12 : decode cX11_word 12 = .ok (.if_icmp .lt 13, 3) := by decide +kernel
theorem d_cX11_word_15 : decode cX11_word 15 = .ok (.new 68, 3) := by decide +kernel
theorem d_cX11_word_18 : decode cX11_word 18 = .ok (.dup, 1) := by decide +kernel
theorem d_cX11_word_19 : decode cX11_word 19 = .ok (.ldc 222, 2) := by decide +kernel
theorem d_cX11_word_21 : decode cX11_word 21 = .ok (.invokespecial 72, 3) := by decide +kernel
theorem d_cX11_word_24 : decode cX11_word 24 = .ok (.athrow, 1) := by decide +kernel
theorem d_cX11_word_25 : decode cX11_word 25 = .ok (.aload_n 0, 1) := by decide +kernel
theorem d_cX11_word_26 : decode cX11_word 26 = .ok (.getfield 60, 3) := by decide +kernel
theorem d_cX11_word_29 : decode cX11_word 29 = .ok (.iload_n 1, 1) := by decide +kernel
theorem d_cX11_word_30 : decode cX11_word 30 = .ok (.invokevirtual 224, 3) := by decide +kernel
theorem d_cX11_word_33 : decode cX11_word 33 = .ok (.lreturn, 1) := by decide +kernel
theorem d_cX2_isDone_0 : decode cX2_isDone 0 = .ok (.aload_n 0, 1) := by decide +kernel
theorem d_cX2_isDone_1 : decode cX2_isDone 1 = .ok (.getfield 59, 3) := by decide +kernel
theorem d_cX2_isDone_4 : decode cX2_isDone 4 = .ok (.ireturn, 1) := by decide +kernel
theorem d_cX2_result_0 : decode cX2_result 0 = .ok (.aload_n 0, 1) := by decide +kernel
theorem d_cX2_result_1 : decode cX2_result 1 = .ok (.getfield 48, 3) := by decide +kernel
theorem d_cX2_result_4 : decode cX2_result 4 = .ok (.areturn, 1) := by decide +kernel
theorem d_cX4_addByte_0 : decode cX4_addByte 0 = .ok (.aload_n 0, 1) := by decide +kernel
theorem d_cX4_addByte_1 : decode cX4_addByte 1 = .ok (.getfield 15, 3) := by decide +kernel
theorem d_cX4_addByte_4 : decode cX4_addByte 4 = .ok (.aload_n 0, 1) := by decide +kernel
theorem d_cX4_addByte_5 : decode cX4_addByte 5 = .ok (.getfield 9, 3) := by decide +kernel
theorem d_cX4_addByte_8 : decode cX4_addByte 8 = .ok (.arraylength, 1) := by decide +kernel
theorem d_cX4_addByte_9 : decode cX4_addByte 9 = .ok (.if_icmp .ge 24, 3) := by decide +kernel
theorem d_cX4_addByte_12 : decode cX4_addByte 12 = .ok (.aload_n 0, 1) := by decide +kernel
theorem d_cX4_addByte_13 : decode cX4_addByte 13 = .ok (.getfield 9, 3) := by decide +kernel
theorem d_cX4_addByte_16 : decode cX4_addByte 16 = .ok (.aload_n 0, 1) := by decide +kernel
theorem d_cX4_addByte_17 : decode cX4_addByte 17 = .ok (.getfield 15, 3) := by decide +kernel
theorem d_cX4_addByte_20 : decode cX4_addByte 20 = .ok (.iload_n 1, 1) := by decide +kernel
theorem d_cX4_addByte_21 : decode cX4_addByte 21 = .ok (.i2b, 1) := by decide +kernel
theorem d_cX4_addByte_22 : decode cX4_addByte 22 = .ok (.bastore, 1) := by decide +kernel
theorem d_cX4_addByte_23 : decode cX4_addByte 23 = .ok (.aload_n 0, 1) := by decide +kernel
theorem d_cX4_addByte_24 : decode cX4_addByte 24 = .ok (.dup, 1) := by decide +kernel
theorem d_cX4_addByte_25 : decode cX4_addByte 25 = .ok (.getfield 15, 3) := by decide +kernel
theorem d_cX4_addByte_28 : decode cX4_addByte 28 = .ok (.iconst 1, 1) := by decide +kernel
theorem d_cX4_addByte_29 : decode cX4_addByte 29 = .ok (.iadd, 1) := by decide +kernel
theorem d_cX4_addByte_30 : decode cX4_addByte 30 = .ok (.putfield 15, 3) := by decide +kernel
theorem d_cX4_addByte_33 : decode cX4_addByte 33 = .ok (.return_, 1) := by decide +kernel
theorem d_cX4_addEnd_0 : decode cX4_addEnd 0 = .ok (.aload_n 1, 1) := by decide +kernel
theorem d_cX4_addEnd_1 : decode cX4_addEnd 1 = .ok (.getfield 44, 3) := by decide +kernel
theorem d_cX4_addEnd_4 : decode cX4_addEnd 4 = .ok (.iload_n 3, 1) := by decide +kernel
theorem d_cX4_addEnd_5 : decode cX4_addEnd 5 = .ok (.iaload, 1) := by decide +kernel
theorem d_cX4_addEnd_6 : decode cX4_addEnd 6 = .ok (.bipush 21, 2) := by decide +kernel
theorem d_cX4_addEnd_8 : decode cX4_addEnd 8 = .ok (.if_icmp .ne 28, 3) := by decide +kernel
theorem d_cX4_addEnd_11 : decode cX4_addEnd 11 = .ok (.aload_n 0, 1) := by decide +kernel
theorem d_cX4_addEnd_12 : decode cX4_addEnd 12 = .ok (.ldc 59, 2) := by decide +kernel
theorem d_cX4_addEnd_14 : decode cX4_addEnd 14 = .ok (.invokevirtual 32, 3) := by decide +kernel
theorem d_cX4_addEnd_17 : decode cX4_addEnd 17 = .ok (.aload_n 0, 1) := by decide +kernel
theorem d_cX4_addEnd_18 : decode cX4_addEnd 18 = .ok (.aload_n 1, 1) := by decide +kernel
theorem d_cX4_addEnd_19 : decode cX4_addEnd 19 = .ok (.getfield 61, 3) := by decide +kernel
theorem d_cX4_addEnd_22 : decode cX4_addEnd 22 = .ok (.iload_n 3, 1) := by decide +kernel
theorem d_cX4_addEnd_23 : decode cX4_addEnd 23 = .ok (.iaload, 1) := by decide +kernel
theorem d_cX4_addEnd_24 : decode cX4_addEnd 24 = .ok (.aload_n 1, 1) := by decide +kernel
theorem d_cX4_addEnd_25 : decode cX4_addEnd 25 = .ok (.getfield 64, 3) := by decide +kernel
theorem d_cX4_addEnd_28 : decode cX4_addEnd 28 = .ok (.iload_n 3, 1) := by decide +kernel
theorem d_cX4_addEnd_29 : decode cX4_addEnd 29 = .ok (.iaload, 1) := by decide +kernel
theorem d_cX4_addEnd_30 : decode cX4_addEnd 30 = .ok (.invokevirtual 67, 3) := by decide +kernel
theorem d_cX4_addEnd_33 : decode cX4_addEnd 33 = .ok (.goto 75, 3) := by decide +kernel
theorem d_cX4_addEnd_36 : decode cX4_addEnd 36 = .ok (.aload_n 1, 1) := by decide +kernel
theorem d_cX4_addEnd_37 : decode cX4_addEnd 37 = .ok (.getfield 44, 3) := by decide +kernel
theorem d_cX4_addEnd_40 : decode cX4_addEnd 40 = .ok (.iload_n 3, 1) := by decide +kernel
theorem d_cX4_addEnd_41 : decode cX4_addEnd 41 = .ok (.iaload, 1) := by decide +kernel
theorem d_cX4_addEnd_42 : decode cX4_addEnd 42 = .ok (.bipush 19, 2) := by decide +kernel
theorem d_cX4_addEnd_44 : decode cX4_addEnd 44 = .ok (.if_icmp .ne 18, 3) := by decide +kernel
theorem d_cX4_addEnd_47 : decode cX4_addEnd 47 = .ok (.aload_n 0, 1) := by decide +kernel
theorem d_cX4_addEnd_48 : decode cX4_addEnd 48 = .ok (.ldc 71, 2) := by decide +kernel
theorem d_cX4_addEnd_50 : decode cX4_addEnd 50 = .ok (.aload_n 1, 1) := by decide +kernel
theorem d_cX4_addEnd_51 : decode cX4_addEnd 51 = .ok (.getfield 73, 3) := by decide +kernel
theorem d_cX4_addEnd_54 : decode cX4_addEnd 54 = .ok (.iload_n 2, 1) := by decide +kernel
theorem d_cX4_addEnd_55 : decode cX4_addEnd 55 = .ok (.iaload, 1) := by decide +kernel
theorem d_cX4_addEnd_56 : decode cX4_addEnd 56 = .ok (.invokevirtual 26, 3) := by decide +kernel
theorem d_cX4_addEnd_59 : decode cX4_addEnd 59 = .ok (.goto 49, 3) := by decide +kernel
theorem d_cX4_addEnd_62 : decode cX4_addEnd 62 = .ok (.aload_n 0, 1) := by decide +kernel
theorem d_cX4_addEnd_63 : decode cX4_addEnd 63 = .ok (.ldc 76, 2) := by decide +kernel
theorem d_cX4_addEnd_65 : decode cX4_addEnd 65 = .ok (.invokevirtual 32, 3) := by decide +kernel
theorem d_cX4_addEnd_68 : decode cX4_addEnd 68 = .ok (.aload_n 0, 1) := by decide +kernel
theorem d_cX4_addEnd_69 : decode cX4_addEnd 69 = .ok (.aload_n 1, 1) := by decide +kernel
theorem d_cX4_addEnd_70 : decode cX4_addEnd 70 = .ok (.getfield 61, 3) := by decide +kernel
theorem d_cX4_addEnd_73 : decode cX4_addEnd 73 = .ok (.iload_n 3, 1) := by decide +kernel
theorem d_cX4_addEnd_74 : decode cX4_addEnd 74 = .ok (.iaload, 1) := by decide +kernel
theorem d_cX4_addEnd_75 : decode cX4_addEnd 75 = .ok (.aload_n 1, 1) := by decide +kernel
theorem d_cX4_addEnd_76 : decode cX4_addEnd 76 = .ok (.getfield 64, 3) := by decide +kernel
theorem d_cX4_addEnd_79 : decode cX4_addEnd 79 = .ok (.iload_n 3, 1) := by decide +kernel
theorem d_cX4_addEnd_80 : decode cX4_addEnd 80 = .ok (.iaload, 1) := by decide +kernel
theorem d_cX4_addEnd_81 : decode cX4_addEnd 81 = .ok (.invokevirtual 67, 3) := by decide +kernel
theorem d_cX4_addEnd_84 : decode cX4_addEnd 84 = .ok (.aload_n 0, 1) := by decide +kernel
theorem d_cX4_addEnd_85 : decode cX4_addEnd 85 = .ok (.ldc 78, 2) := by decide +kernel
theorem d_cX4_addEnd_87 : decode cX4_addEnd 87 = .ok (.aload_n 1, 1) := by decide +kernel
theorem d_cX4_addEnd_88 : decode cX4_addEnd 88 = .ok (.getfield 73, 3) := by decide +kernel
theorem d_cX4_addEnd_91 : decode cX4_addEnd 91 = .ok (.iload_n 2, 1) := by decide +kernel
theorem d_cX4_addEnd_92 : decode cX4_addEnd 92 = .ok (.iaload, 1) := by decide +kernel
theorem d_cX4_addEnd_93 : decode cX4_addEnd 93 = .ok (.invokevirtual 26, 3) := by decide +kernel
theorem d_cX4_addEnd_96 : decode cX4_addEnd 96 = .ok (.aload_n 0, 1) := by decide +kernel
theorem d_cX4_addEnd_97 : decode cX4_addEnd 97 = .ok (.ldc 78, 2) := by decide +kernel
theorem d_cX4_addEnd_99 : decode cX4_addEnd 99 = .ok (.aload_n 1, 1) := by decide +kernel
theorem d_cX4_addEnd_100 : decode cX4_addEnd 100 = .ok (.getfield 80, 3) := by decide +kernel
theorem d_cX4_addEnd_103 : decode cX4_addEnd 103 = .ok (.iload_n 2, 1) := by decide +kernel
theorem d_cX4_addEnd_104 : decode cX4_addEnd 104 = .ok (.iaload, 1) := by decide +kernel
theorem d_cX4_addEnd_105 : decode cX4_addEnd 105 = .ok (.invokevirtual 26, 3) := by decide +kernel
theorem d_cX4_addEnd_108 : decode cX4_addEnd 108 = .ok (.return_, 1) := by decide +kernel
theorem d_cX4_addNamed_0 : decode cX4_addNamed 0 = .ok (.aload_n 0, 1) := by decide +kernel
theorem d_cX4_addNamed_1 : decode cX4_addNamed 1 = .ok (.aload_n 1, 1) := by decide +kernel
theorem d_cX4_addNamed_2 : decode cX4_addNamed 2 = .ok (.invokevirtual 32, 3) := by decide +kernel
theorem d_cX4_addNamed_5 : decode cX4_addNamed 5 = .ok (.aload_n 0, 1) := by decide +kernel
theorem d_cX4_addNamed_6 : decode cX4_addNamed 6 = .ok (.iload_n 2, 1) := by decide +kernel
theorem d_cX4_addNamed_7 : decode cX4_addNamed 7 = .ok (.invokevirtual 119, 3) := by decide +kernel
theorem d_cX4_addNamed_10 : decode cX4_addNamed 10 = .ok (.return_, 1) := by decide +kernel
theorem d_cX4_addNumber_0 : decode cX4_addNumber 0 = .ok (.iload_n 1, 1) := by decide +kernel
theorem d_cX4_addNumber_1 : decode cX4_addNumber 1 = .ok (.ifCond .ge 9, 3) := by decide +kernel
theorem d_cX4_addNumber_4 : decode cX4_addNumber 4 = .ok (.aload_n 0, 1) := by decide +kernel
theorem d_cX4_addNumber_5 : decode cX4_addNumber 5 = .ok (.bipush 45, 2) := by decide +kernel
theorem d_cX4_addNumber_7 : decode cX4_addNumber 7 = .ok (.invokevirtual 55, 3) := by decide +kernel
theorem d_cX4_addNumber_10 : decode cX4_addNumber 10 = .ok (.iload_n 1, 1) := by decide +kernel
theorem d_cX4_addNumber_11 : decode cX4_addNumber 11 = .ok (.i2l, 1) := by decide +kernel
theorem d_cX4_addNumber_12 : decode cX4_addNumber 12 = .ok (.invokestatic 126, 3) := by decide +kernel
theorem d_cX4_addNumber_15 : decode cX4_addNumber 15 = .ok (.lstore_n 2, 1) := by decide +kernel
theorem d_cX4_addNumber_16 : decode cX4_addNumber 16 = .ok (.lconst 1, 1) := by decide +kernel
theorem d_cX4_addNumber_17 : decode cX4_addNumber 17 = .ok (.lstore 4, 2) := by decide +kernel
theorem d_cX4_addNumber_19 : decode cX4_addNumber 19 = .ok (.iconst 0, 1) := by decide +kernel
theorem d_cX4_addNumber_20 : decode cX4_addNumber 20 = .ok (.istore 6, 2) := by decide +kernel
theorem d_cX4_addNumber_22 : decode cX4_addNumber 22 = .ok (.iload 6, 2) := by decide +kernel
theorem d_cX4_addNumber_24 : decode cX4_addNumber 24 = .ok (.bipush 9, 2) := by decide +kernel
theorem d_cX4_addNumber_26 : decode cX4_addNumber 26 = .ok (.if_icmp .ge 28, 3) := by decide +kernel
theorem d_cX4_addNumber_29 : decode cX4_addNumber 29 = .ok (.lload 4, 2) := by decide +kernel
theorem d_cX4_addNumber_31 : decode cX4_addNumber 31 = .ok (.lload_n 2, 1) := by decide +kernel
theorem d_cX4_addNumber_32 : decode cX4_addNumber 32 = .ok (.ldc2_w 132, 3) := by decide +kernel
theorem d_cX4_addNumber_35 : decode cX4_addNumber 35 = .ok (.ldiv, 1) := by decide +kernel
theorem d_cX4_addNumber_36 : decode cX4_addNumber 36 = .ok (.lcmp, 1) := by decide +kernel
theorem d_cX4_addNumber_37 : decode cX4_addNumber 37 = .ok (.ifCond .gt 17, 3) := by decide +kernel
theorem d_cX4_addNumber_40 : decode cX4_addNumber 40 = .ok (.lload 4, 2) := by decide +kernel
theorem d_cX4_addNumber_42 : decode cX4_addNumber 42 = .ok (.ldc2_w 132, 3) := by decide +kernel
theorem d_cX4_addNumber_45 : decode cX4_addNumber 45 = .ok (.lmul, 1) := by decide +kernel
theorem d_cX4_addNumber_46 : decode cX4_addNumber 46 = .ok (.lstore 4, 2) := by decide +kernel
theorem d_cX4_addNumber_48 : decode cX4_addNumber 48 = .ok (.iinc 6 1, 3) := by decide +kernel
theorem d_cX4_addNumber_51 : decode cX4_addNumber 51 = .ok (.goto (-29), 3) := by decide +kernel
theorem d_cX4_addNumber_54 : decode cX4_addNumber 54 = .ok (.iconst 0, 1) := by decide +kernel
theorem d_cX4_addNumber_55 : decode cX4_addNumber 55 = .ok (.istore 6, 2) := by decide +kernel
theorem d_cX4_addNumber_57 : decode cX4_addNumber 57 = .ok (.iload 6, 2) := by decide +kernel
theorem d_cX4_addNumber_59 : decode cX4_addNumber 59 = .ok (.bipush 10, 2) := by decide +kernel
theorem d_cX4_addNumber_61 : decode cX4_addNumber 61 = .ok (.if_icmp .ge 42, 3) := by decide +kernel
theorem d_cX4_addNumber_64 : decode cX4_addNumber 64 = .ok (.lload 4, 2) := by decide +kernel
theorem d_cX4_addNumber_66 : decode cX4_addNumber 66 = .ok (.lconst 0, 1) := by decide +kernel
theorem d_cX4_addNumber_67 : decode cX4_addNumber 67 = .ok (.lcmp, 1) := by decide +kernel
theorem d_cX4_addNumber_68 : decode cX4_addNumber 68 = .ok (.ifCond .le 35, 3) := by decide +kernel
theorem d_cX4_addNumber_71 : decode cX4_addNumber 71 = .ok (.aload_n 0, 1) := by decide +kernel
theorem d_cX4_addNumber_72 : decode cX4_addNumber 72 = .ok (.ldc2_w 134, 3) := by decide +kernel
theorem d_cX4_addNumber_75 : decode cX4_addNumber 75 = .ok (.lload_n 2, 1) := by decide +kernel
theorem d_cX4_addNumber_76 : decode cX4_addNumber 76 = .ok (.lload 4, 2) := by decide +kernel
theorem d_cX4_addNumber_78 : decode cX4_addNumber 78 = .ok (.ldiv, 1) := by decide +kernel
theorem d_cX4_addNumber_79 : decode cX4_addNumber 79 = .ok (.ldc2_w 132, 3) := by decide +kernel
theorem d_cX4_addNumber_82 : decode cX4_addNumber 82 = .ok (.lrem, 1) := by decide +kernel
theorem d_cX4_addNumber_83 : decode cX4_addNumber 83 = .ok (.ladd, 1) := by decide +kernel
theorem d_cX4_addNumber_84 : decode cX4_addNumber 84 = .ok (.l2i, 1) := by decide +kernel
theorem d_cX4_addNumber_85 : decode cX4_addNumber 85 = .ok (.i2c, 1) := by decide +kernel
theorem d_cX4_addNumber_86 : decode cX4_addNumber 86 = .ok (.invokevirtual 55, 3) := by decide +kernel
theorem d_cX4_addNumber_89 : decode cX4_addNumber 89 = .ok (.lload 4, 2) := by decide +kernel
theorem d_cX4_addNumber_91 : decode cX4_addNumber 91 = .ok (.ldc2_w 132, 3) := by decide +kernel
theorem d_cX4_addNumber_94 : decode cX4_addNumber 94 = .ok (.ldiv, 1) := by decide +kernel
theorem d_cX4_addNumber_95 : decode cX4_addNumber 95 = .ok (.lstore 4, 2) := by decide +kernel
theorem d_cX4_addNumber_97 : decode cX4_addNumber 97 = .ok (.iinc 6 1, 3) := by decide +kernel
theorem d_cX4_addNumber_100 : decode cX4_addNumber 100 = .ok (.goto (-43), 3) := by decide +kernel
theorem d_cX4_addNumber_103 : decode cX4_addNumber 103 = .ok (.return_, 1) := by decide +kernel
theorem d_cX4_addOp_0 : decode cX4_addOp 0 = .ok (.aload_n 0, 1) := by decide +kernel
theorem d_cX4_addOp_1 : decode cX4_addOp 1 = .ok (.bipush 32, 2) := by decide +kernel
theorem d_cX4_addOp_3 : decode cX4_addOp 3 = .ok (.invokevirtual 55, 3) := by decide +kernel
theorem d_cX4_addOp_6 : decode cX4_addOp 6 = .ok (.aload_n 0, 1) := by decide +kernel
theorem d_cX4_addOp_7 : decode cX4_addOp 7 = .ok (.ldc 111, 2) := by decide +kernel
theorem d_cX4_addOp_9 : decode cX4_addOp 9 = .ok (.iconst 2, 1) := by decide +kernel
theorem d_cX4_addOp_10 : decode cX4_addOp 10 = .ok (.iload_n 1, 1) := by decide +kernel
theorem d_cX4_addOp_11 : decode cX4_addOp 11 = .ok (.imul, 1) := by decide +kernel
theorem d_cX4_addOp_12 : decode cX4_addOp 12 = .ok (.invokevirtual 113, 3) := by decide +kernel
theorem d_cX4_addOp_15 : decode cX4_addOp 15 = .ok (.invokevirtual 55, 3) := by decide +kernel
theorem d_cX4_addOp_18 : decode cX4_addOp 18 = .ok (.ldc 111, 2) := by decide +kernel
theorem d_cX4_addOp_20 : decode cX4_addOp 20 = .ok (.iconst 2, 1) := by decide +kernel
theorem d_cX4_addOp_21 : decode cX4_addOp 21 = .ok (.iload_n 1, 1) := by decide +kernel
theorem d_cX4_addOp_22 : decode cX4_addOp 22 = .ok (.imul, 1) := by decide +kernel
theorem d_cX4_addOp_23 : decode cX4_addOp 23 = .ok (.iconst 1, 1) := by decide +kernel
theorem d_cX4_addOp_24 : decode cX4_addOp 24 = .ok (.iadd, 1) := by decide +kernel
theorem d_cX4_addOp_25 : decode cX4_addOp 25 = .ok (.invokevirtual 113, 3) := by decide +kernel
theorem d_cX4_addOp_28 : decode cX4_addOp 28 = .ok (.bipush 32, 2) := by decide +kernel
theorem d_cX4_addOp_30 : decode cX4_addOp 30 = .ok (.if_icmp .eq 17, 3) := by decide +kernel
theorem d_cX4_addOp_33 : decode cX4_addOp 33 = .ok (.aload_n 0, 1) := by decide +kernel
theorem d_cX4_addOp_34 : decode cX4_addOp 34 = .ok (.ldc 111, 2) := by decide +kernel
theorem d_cX4_addOp_36 : decode cX4_addOp 36 = .ok (.iconst 2, 1) := by decide +kernel
theorem d_cX4_addOp_37 : decode cX4_addOp 37 = .ok (.iload_n 1, 1) := by decide +kernel
theorem d_cX4_addOp_38 : decode cX4_addOp 38 = .ok (.imul, 1) := by decide +kernel
theorem d_cX4_addOp_39 : decode cX4_addOp 39 = .ok (.iconst 1, 1) := by decide +kernel
theorem d_cX4_addOp_40 : decode cX4_addOp 40 = .ok (.iadd, 1) := by decide +kernel
theorem d_cX4_addOp_41 : decode cX4_addOp 41 = .ok (.invokevirtual 113, 3) := by decide +kernel
theorem d_cX4_addOp_44 : decode cX4_addOp 44 = .ok (.invokevirtual 55, 3) := by decide +kernel
theorem d_cX4_addOp_47 : decode cX4_addOp 47 = .ok (.aload_n 0, 1) := by decide +kernel
theorem d_cX4_addOp_48 : decode cX4_addOp 48 = .ok (.bipush 32, 2) := by decide +kernel
theorem d_cX4_addOp_50 : decode cX4_addOp 50 = .ok (.invokevirtual 55, 3) := by decide +kernel
theorem d_cX4_addOp_53 : decode cX4_addOp 53 = .ok (.return_, 1) := by decide +kernel
theorem d_cX4_addOperand_0 : decode cX4_addOperand 0 = .ok (.iload_n 1, 1) := by decide +kernel
theorem d_cX4_addOperand_1 : decode cX4_addOperand 1 = .ok (.iconst (-1), 1) := by decide +kernel
theorem d_cX4_addOperand_2 : decode cX4_addOperand 2 = .ok (.if_icmp .ne 11, 3) := by decide +kernel
theorem d_cX4_addOperand_5 : decode cX4_addOperand 5 = .ok (.aload_n 0, 1) := by decide +kernel
theorem d_cX4_addOperand_6 : decode cX4_addOperand 6 = .ok (.iload_n 2, 1) := by decide +kernel
theorem d_cX4_addOperand_7 : decode cX4_addOperand 7 = .ok (.invokevirtual 119, 3) := by decide +kernel
theorem d_cX4_addOperand_10 : decode cX4_addOperand 10 = .ok (.goto 10, 3) := by decide +kernel
theorem d_cX4_addOperand_13 : decode cX4_addOperand 13 = .ok (.aload_n 0, 1) := by decide +kernel
theorem d_cX4_addOperand_14 : decode cX4_addOperand 14 = .ok (.ldc 92, 2) := by decide +kernel
theorem d_cX4_addOperand_16 : decode cX4_addOperand 16 = .ok (.iload_n 1, 1) := by decide +kernel
theorem d_cX4_addOperand_17 : decode cX4_addOperand 17 = .ok (.invokevirtual 26, 3) := by decide +kernel
theorem d_cX4_addOperand_20 : decode cX4_addOperand 20 = .ok (.return_, 1) := by decide +kernel
theorem d_cX4_addRow_0 : decode cX4_addRow 0 = .ok (.aload_n 1, 1) := by decide +kernel
theorem d_cX4_addRow_1 : decode cX4_addRow 1 = .ok (.getfield 44, 3) := by decide +kernel
theorem d_cX4_addRow_4 : decode cX4_addRow 4 = .ok (.iload_n 2, 1) := by decide +kernel
theorem d_cX4_addRow_5 : decode cX4_addRow 5 = .ok (.iaload, 1) := by decide +kernel
theorem d_cX4_addRow_6 : decode cX4_addRow 6 = .ok (.bipush 16, 2) := by decide +kernel
theorem d_cX4_addRow_8 : decode cX4_addRow 8 = .ok (.if_icmp .ne 28, 3) := by decide +kernel
theorem d_cX4_addRow_11 : decode cX4_addRow 11 = .ok (.aload_n 0, 1) := by decide +kernel
theorem d_cX4_addRow_12 : decode cX4_addRow 12 = .ok (.ldc 83, 2) := by decide +kernel
theorem d_cX4_addRow_14 : decode cX4_addRow 14 = .ok (.invokevirtual 32, 3) := by decide +kernel
theorem d_cX4_addRow_17 : decode cX4_addRow 17 = .ok (.aload_n 0, 1) := by decide +kernel
theorem d_cX4_addRow_18 : decode cX4_addRow 18 = .ok (.aload_n 1, 1) := by decide +kernel
theorem d_cX4_addRow_19 : decode cX4_addRow 19 = .ok (.getfield 61, 3) := by decide +kernel
theorem d_cX4_addRow_22 : decode cX4_addRow 22 = .ok (.iload_n 2, 1) := by decide +kernel
theorem d_cX4_addRow_23 : decode cX4_addRow 23 = .ok (.iaload, 1) := by decide +kernel
theorem d_cX4_addRow_24 : decode cX4_addRow 24 = .ok (.aload_n 1, 1) := by decide +kernel
theorem d_cX4_addRow_25 : decode cX4_addRow 25 = .ok (.getfield 64, 3) := by decide +kernel
theorem d_cX4_addRow_28 : decode cX4_addRow 28 = .ok (.iload_n 2, 1) := by decide +kernel
theorem d_cX4_addRow_29 : decode cX4_addRow 29 = .ok (.iaload, 1) := by decide +kernel
theorem d_cX4_addRow_30 : decode cX4_addRow 30 = .ok (.invokevirtual 67, 3) := by decide +kernel
theorem d_cX4_addRow_33 : decode cX4_addRow 33 = .ok (.goto 65, 3) := by decide +kernel
theorem d_cX4_addRow_36 : decode cX4_addRow 36 = .ok (.aload_n 1, 1) := by decide +kernel
theorem d_cX4_addRow_37 : decode cX4_addRow 37 = .ok (.getfield 44, 3) := by decide +kernel
theorem d_cX4_addRow_40 : decode cX4_addRow 40 = .ok (.iload_n 2, 1) := by decide +kernel
theorem d_cX4_addRow_41 : decode cX4_addRow 41 = .ok (.iaload, 1) := by decide +kernel
theorem d_cX4_addRow_42 : decode cX4_addRow 42 = .ok (.bipush 18, 2) := by decide +kernel
theorem d_cX4_addRow_44 : decode cX4_addRow 44 = .ok (.if_icmp .ne 30, 3) := by decide +kernel
theorem d_cX4_addRow_47 : decode cX4_addRow 47 = .ok (.aload_n 0, 1) := by decide +kernel
theorem d_cX4_addRow_48 : decode cX4_addRow 48 = .ok (.ldc 85, 2) := by decide +kernel
theorem d_cX4_addRow_50 : decode cX4_addRow 50 = .ok (.aload_n 1, 1) := by decide +kernel
theorem d_cX4_addRow_51 : decode cX4_addRow 51 = .ok (.getfield 87, 3) := by decide +kernel
theorem d_cX4_addRow_54 : decode cX4_addRow 54 = .ok (.iload_n 2, 1) := by decide +kernel
theorem d_cX4_addRow_55 : decode cX4_addRow 55 = .ok (.iaload, 1) := by decide +kernel
theorem d_cX4_addRow_56 : decode cX4_addRow 56 = .ok (.invokevirtual 26, 3) := by decide +kernel
theorem d_cX4_addRow_59 : decode cX4_addRow 59 = .ok (.aload_n 0, 1) := by decide +kernel
theorem d_cX4_addRow_60 : decode cX4_addRow 60 = .ok (.ldc 90, 2) := by decide +kernel
theorem d_cX4_addRow_62 : decode cX4_addRow 62 = .ok (.aload_n 1, 1) := by decide +kernel
theorem d_cX4_addRow_63 : decode cX4_addRow 63 = .ok (.getfield 61, 3) := by decide +kernel
theorem d_cX4_addRow_66 : decode cX4_addRow 66 = .ok (.iload_n 2, 1) := by decide +kernel
theorem d_cX4_addRow_67 : decode cX4_addRow 67 = .ok (.iaload, 1) := by decide +kernel
theorem d_cX4_addRow_68 : decode cX4_addRow 68 = .ok (.invokevirtual 26, 3) := by decide +kernel
theorem d_cX4_addRow_71 : decode cX4_addRow 71 = .ok (.goto 27, 3) := by decide +kernel
theorem d_cX4_addRow_74 : decode cX4_addRow 74 = .ok (.aload_n 0, 1) := by decide +kernel
theorem d_cX4_addRow_75 : decode cX4_addRow 75 = .ok (.ldc 92, 2) := by decide +kernel
theorem d_cX4_addRow_77 : decode cX4_addRow 77 = .ok (.aload_n 1, 1) := by decide +kernel
theorem d_cX4_addRow_78 : decode cX4_addRow 78 = .ok (.getfield 94, 3) := by decide +kernel
theorem d_cX4_addRow_81 : decode cX4_addRow 81 = .ok (.iload_n 2, 1) := by decide +kernel
theorem d_cX4_addRow_82 : decode cX4_addRow 82 = .ok (.iaload, 1) := by decide +kernel
theorem d_cX4_addRow_83 : decode cX4_addRow 83 = .ok (.invokevirtual 26, 3) := by decide +kernel
theorem d_cX4_addRow_86 : decode cX4_addRow 86 = .ok (.aload_n 0, 1) := by decide +kernel
theorem d_cX4_addRow_87 : decode cX4_addRow 87 = .ok (.ldc 97, 2) := by decide +kernel
theorem d_cX4_addRow_89 : decode cX4_addRow 89 = .ok (.invokevirtual 32, 3) := by decide +kernel
theorem d_cX4_addRow_92 : decode cX4_addRow 92 = .ok (.aload_n 0, 1) := by decide +kernel
theorem d_cX4_addRow_93 : decode cX4_addRow 93 = .ok (.aload_n 1, 1) := by decide +kernel
theorem d_cX4_addRow_94 : decode cX4_addRow 94 = .ok (.iload_n 2, 1) := by decide +kernel
theorem d_cX4_addRow_95 : decode cX4_addRow 95 = .ok (.invokevirtual 99, 3) := by decide +kernel
theorem d_cX4_addRow_98 : decode cX4_addRow 98 = .ok (.return_, 1) := by decide +kernel
theorem d_cX4_addSource_0 : decode cX4_addSource 0 = .ok (.aload_n 1, 1) := by decide +kernel
theorem d_cX4_addSource_1 : decode cX4_addSource 1 = .ok (.getfield 44, 3) := by decide +kernel
theorem d_cX4_addSource_4 : decode cX4_addSource 4 = .ok (.iload_n 2, 1) := by decide +kernel
theorem d_cX4_addSource_5 : decode cX4_addSource 5 = .ok (.iaload, 1) := by decide +kernel
theorem d_cX4_addSource_6 : decode cX4_addSource 6 = .ok (.bipush 15, 2) := by decide +kernel
theorem d_cX4_addSource_8 : decode cX4_addSource 8 = .ok (.if_icmp .ne 12, 3) := by decide +kernel
theorem d_cX4_addSource_11 : decode cX4_addSource 11 = .ok (.aload_n 0, 1) := by decide +kernel
theorem d_cX4_addSource_12 : decode cX4_addSource 12 = .ok (.ldc 102, 2) := by decide +kernel
theorem d_cX4_addSource_14 : decode cX4_addSource 14 = .ok (.invokevirtual 32, 3) := by decide +kernel
theorem d_cX4_addSource_17 : decode cX4_addSource 17 = .ok (.goto 82, 3) := by decide +kernel
theorem d_cX4_addSource_20 : decode cX4_addSource 20 = .ok (.aload_n 1, 1) := by decide +kernel
theorem d_cX4_addSource_21 : decode cX4_addSource 21 = .ok (.getfield 44, 3) := by decide +kernel
theorem d_cX4_addSource_24 : decode cX4_addSource 24 = .ok (.iload_n 2, 1) := by decide +kernel
theorem d_cX4_addSource_25 : decode cX4_addSource 25 = .ok (.iaload, 1) := by decide +kernel
theorem d_cX4_addSource_26 : decode cX4_addSource 26 = .ok (.bipush 17, 2) := by decide +kernel
theorem d_cX4_addSource_28 : decode cX4_addSource 28 = .ok (.if_icmp .ne 18, 3) := by decide +kernel
theorem d_cX4_addSource_31 : decode cX4_addSource 31 = .ok (.aload_n 0, 1) := by decide +kernel
theorem d_cX4_addSource_32 : decode cX4_addSource 32 = .ok (.ldc 85, 2) := by decide +kernel
theorem d_cX4_addSource_34 : decode cX4_addSource 34 = .ok (.aload_n 1, 1) := by decide +kernel
theorem d_cX4_addSource_35 : decode cX4_addSource 35 = .ok (.getfield 87, 3) := by decide +kernel
theorem d_cX4_addSource_38 : decode cX4_addSource 38 = .ok (.iload_n 2, 1) := by decide +kernel
theorem d_cX4_addSource_39 : decode cX4_addSource 39 = .ok (.iaload, 1) := by decide +kernel
theorem d_cX4_addSource_40 : decode cX4_addSource 40 = .ok (.invokevirtual 26, 3) := by decide +kernel
theorem d_cX4_addSource_43 : decode cX4_addSource 43 = .ok (.goto 56, 3) := by decide +kernel
theorem d_cX4_addSource_46 : decode cX4_addSource 46 = .ok (.aload_n 0, 1) := by decide +kernel
theorem d_cX4_addSource_47 : decode cX4_addSource 47 = .ok (.aload_n 1, 1) := by decide +kernel
theorem d_cX4_addSource_48 : decode cX4_addSource 48 = .ok (.getfield 61, 3) := by decide +kernel
theorem d_cX4_addSource_51 : decode cX4_addSource 51 = .ok (.iload_n 2, 1) := by decide +kernel
theorem d_cX4_addSource_52 : decode cX4_addSource 52 = .ok (.iaload, 1) := by decide +kernel
theorem d_cX4_addSource_53 : decode cX4_addSource 53 = .ok (.aload_n 1, 1) := by decide +kernel
theorem d_cX4_addSource_54 : decode cX4_addSource 54 = .ok (.getfield 64, 3) := by decide +kernel
theorem d_cX4_addSource_57 : decode cX4_addSource 57 = .ok (.iload_n 2, 1) := by decide +kernel
theorem d_cX4_addSource_58 : decode cX4_addSource 58 = .ok (.iaload, 1) := by decide +kernel
theorem d_cX4_addSource_59 : decode cX4_addSource 59 = .ok (.invokevirtual 67, 3) := by decide +kernel
theorem d_cX4_addSource_62 : decode cX4_addSource 62 = .ok (.aload_n 1, 1) := by decide +kernel
theorem d_cX4_addSource_63 : decode cX4_addSource 63 = .ok (.getfield 44, 3) := by decide +kernel
theorem d_cX4_addSource_66 : decode cX4_addSource 66 = .ok (.iload_n 2, 1) := by decide +kernel
theorem d_cX4_addSource_67 : decode cX4_addSource 67 = .ok (.iaload, 1) := by decide +kernel
theorem d_cX4_addSource_68 : decode cX4_addSource 68 = .ok (.bipush 14, 2) := by decide +kernel
theorem d_cX4_addSource_70 : decode cX4_addSource 70 = .ok (.if_icmp .ge 29, 3) := by decide +kernel
theorem d_cX4_addSource_73 : decode cX4_addSource 73 = .ok (.aload_n 0, 1) := by decide +kernel
theorem d_cX4_addSource_74 : decode cX4_addSource 74 = .ok (.aload_n 1, 1) := by decide +kernel
theorem d_cX4_addSource_75 : decode cX4_addSource 75 = .ok (.getfield 44, 3) := by decide +kernel
theorem d_cX4_addSource_78 : decode cX4_addSource 78 = .ok (.iload_n 2, 1) := by decide +kernel
theorem d_cX4_addSource_79 : decode cX4_addSource 79 = .ok (.iaload, 1) := by decide +kernel
theorem d_cX4_addSource_80 : decode cX4_addSource 80 = .ok (.invokevirtual 104, 3) := by decide +kernel
theorem d_cX4_addSource_83 : decode cX4_addSource 83 = .ok (.aload_n 0, 1) := by decide +kernel
theorem d_cX4_addSource_84 : decode cX4_addSource 84 = .ok (.aload_n 1, 1) := by decide +kernel
theorem d_cX4_addSource_85 : decode cX4_addSource 85 = .ok (.getfield 108, 3) := by decide +kernel
theorem d_cX4_addSource_88 : decode cX4_addSource 88 = .ok (.iload_n 2, 1) := by decide +kernel
theorem d_cX4_addSource_89 : decode cX4_addSource 89 = .ok (.iaload, 1) := by decide +kernel
theorem d_cX4_addSource_90 : decode cX4_addSource 90 = .ok (.aload_n 1, 1) := by decide +kernel
theorem d_cX4_addSource_91 : decode cX4_addSource 91 = .ok (.getfield 87, 3) := by decide +kernel
theorem d_cX4_addSource_94 : decode cX4_addSource 94 = .ok (.iload_n 2, 1) := by decide +kernel
theorem d_cX4_addSource_95 : decode cX4_addSource 95 = .ok (.iaload, 1) := by decide +kernel
theorem d_cX4_addSource_96 : decode cX4_addSource 96 = .ok (.invokevirtual 67, 3) := by decide +kernel
theorem d_cX4_addSource_99 : decode cX4_addSource 99 = .ok (.return_, 1) := by decide +kernel
theorem d_cX4_addText_0 : decode cX4_addText 0 = .ok (.iconst 0, 1) := by decide +kernel
theorem d_cX4_addText_1 : decode cX4_addText 1 = .ok (.istore_n 2, 1) := by decide +kernel
theorem d_cX4_addText_2 : decode cX4_addText 2 = .ok (.iload_n 2, 1) := by decide +kernel
theorem d_cX4_addText_3 : decode cX4_addText 3 = .ok (.aload_n 1, 1) := by decide +kernel
theorem d_cX4_addText_4 : decode cX4_addText 4 = .ok (.invokevirtual 122, 3) := by decide +kernel
theorem d_cX4_addText_7 : decode cX4_addText 7 = .ok (.if_icmp .ge 18, 3) := by decide +kernel
theorem d_cX4_addText_10 : decode cX4_addText 10 = .ok (.aload_n 0, 1) := by decide +kernel
theorem d_cX4_addText_11 : decode cX4_addText 11 = .ok (.aload_n 1, 1) := by decide +kernel
theorem d_cX4_addText_12 : decode cX4_addText 12 = .ok (.iload_n 2, 1) := by decide +kernel
theorem d_cX4_addText_13 : decode cX4_addText 13 = .ok (.invokevirtual 113, 3) := by decide +kernel
theorem d_cX4_addText_16 : decode cX4_addText 16 = .ok (.invokevirtual 55, 3) := by decide +kernel
theorem d_cX4_addText_19 : decode cX4_addText 19 = .ok (.iinc 2 1, 3) := by decide +kernel
theorem d_cX4_addText_22 : decode cX4_addText 22 = .ok (.goto (-20), 3) := by decide +kernel
theorem d_cX4_addText_25 : decode cX4_addText 25 = .ok (.return_, 1) := by decide +kernel
theorem d_cX4_eightFrom_0 : decode cX4_eightFrom 0 = .ok (.lconst 0, 1) := by decide +kernel
theorem d_cX4_eightFrom_1 : decode cX4_eightFrom 1 = .ok (.lstore_n 2, 1) := by decide +kernel
theorem d_cX4_eightFrom_2 : decode cX4_eightFrom 2 = .ok (.iload_n 1, 1) := by decide +kernel
theorem d_cX4_eightFrom_3 : decode cX4_eightFrom 3 = .ok (.istore 4, 2) := by decide +kernel
theorem d_cX4_eightFrom_5 : decode cX4_eightFrom 5 = .ok (.iload 4, 2) := by decide +kernel
theorem d_cX4_eightFrom_7 : decode cX4_eightFrom 7 = .ok (.iload_n 1, 1) := by decide +kernel
theorem d_cX4_eightFrom_8 : decode cX4_eightFrom 8 = .ok (.bipush 8, 2) := by decide +kernel
theorem d_cX4_eightFrom_10 : decode cX4_eightFrom 10 = .ok (.iadd, 1) := by decide +kernel
theorem d_cX4_eightFrom_11 : decode cX4_eightFrom 11 = .ok (.if_icmp .ge 45, 3) := by decide +kernel
theorem d_cX4_eightFrom_14 : decode cX4_eightFrom 14 = .ok (.lload_n 2, 1) := by decide +kernel
theorem d_cX4_eightFrom_15 : decode cX4_eightFrom 15 = .ok (.bipush 8, 2) := by decide +kernel
theorem d_cX4_eightFrom_17 : decode cX4_eightFrom 17 = .ok (.lshl, 1) := by decide +kernel
theorem d_cX4_eightFrom_18 : decode cX4_eightFrom 18 = .ok (.iload 4, 2) := by decide +kernel
theorem d_cX4_eightFrom_20 : decode cX4_eightFrom 20 = .ok (.ifCond .lt 26, 3) := by decide +kernel
theorem d_cX4_eightFrom_23 : decode cX4_eightFrom 23 = .ok (.iload 4, 2) := by decide +kernel
theorem d_cX4_eightFrom_25 : decode cX4_eightFrom 25 = .ok (.aload_n 0, 1) := by decide +kernel
theorem d_cX4_eightFrom_26 : decode cX4_eightFrom 26 = .ok (.getfield 15, 3) := by decide +kernel
theorem d_cX4_eightFrom_29 : decode cX4_eightFrom 29 = .ok (.if_icmp .ge 17, 3) := by decide +kernel
theorem d_cX4_eightFrom_32 : decode cX4_eightFrom 32 = .ok (.aload_n 0, 1) := by decide +kernel
theorem d_cX4_eightFrom_33 : decode cX4_eightFrom 33 = .ok (.getfield 9, 3) := by decide +kernel
theorem d_cX4_eightFrom_36 : decode cX4_eightFrom 36 = .ok (.iload 4, 2) := by decide +kernel
theorem d_cX4_eightFrom_38 : decode cX4_eightFrom 38 = .ok (.baload, 1) := by decide +kernel
theorem d_cX4_eightFrom_39 : decode cX4_eightFrom 39 = .ok (.sipush 255, 3) := by decide +kernel
theorem d_cX4_eightFrom_42 : decode cX4_eightFrom 42 = .ok (.iand, 1) := by decide +kernel
theorem d_cX4_eightFrom_43 : decode cX4_eightFrom 43 = .ok (.goto 4, 3) := by decide +kernel
theorem d_cX4_eightFrom_46 : decode cX4_eightFrom 46 = .ok (.iconst 0, 1) := by decide +kernel
theorem d_cX4_eightFrom_47 : decode cX4_eightFrom 47 = .ok (.i2l, 1) := by decide +kernel
theorem d_cX4_eightFrom_48 : decode cX4_eightFrom 48 = .ok (.lor, 1) := by decide +kernel
theorem d_cX4_eightFrom_49 : decode cX4_eightFrom 49 = .ok (.lstore_n 2, 1) := by decide +kernel
theorem d_cX4_eightFrom_50 : decode cX4_eightFrom 50 = .ok (.iinc 4 1, 3) := by decide +kernel
theorem d_cX4_eightFrom_53 : decode cX4_eightFrom 53 = .ok (.goto (-48), 3) := by decide +kernel
theorem d_cX4_eightFrom_56 : decode cX4_eightFrom 56 = .ok (.lload_n 2, 1) := by decide +kernel
theorem d_cX4_eightFrom_57 : decode cX4_eightFrom 57 = .ok (.lreturn, 1) := by decide +kernel
theorem d_cX4_size_0 : decode cX4_size 0 = .ok (.aload_n 0, 1) := by decide +kernel
theorem d_cX4_size_1 : decode cX4_size 1 = .ok (.getfield 15, 3) := by decide +kernel
theorem d_cX4_size_4 : decode cX4_size 4 = .ok (.ireturn, 1) := by decide +kernel
theorem d_cX4_write_0 : decode cX4_write 0 = .ok (.aload_n 0, 1) := by decide +kernel
theorem d_cX4_write_1 : decode cX4_write 1 = .ok (.iconst 0, 1) := by decide +kernel
theorem d_cX4_write_2 : decode cX4_write 2 = .ok (.putfield 15, 3) := by decide +kernel
theorem d_cX4_write_5 : decode cX4_write 5 = .ok (.iconst 0, 1) := by decide +kernel
theorem d_cX4_write_6 : decode cX4_write 6 = .ok (.istore_n 2, 1) := by decide +kernel
theorem d_cX4_write_7 : decode cX4_write 7 = .ok (.iload_n 2, 1) := by decide +kernel
theorem d_cX4_write_8 : decode cX4_write 8 = .ok (.aload_n 1, 1) := by decide +kernel
theorem d_cX4_write_9 : decode cX4_write 9 = .ok (.getfield 19, 3) := by decide +kernel
theorem d_cX4_write_12 : decode cX4_write 12 = .ok (.if_icmp .ge 77, 3) := by decide +kernel
theorem d_cX4_write_15 : decode cX4_write 15 = .ok (.aload_n 0, 1) := by decide +kernel
theorem d_cX4_write_16 : decode cX4_write 16 = .ok (.ldc 24, 2) := by decide +kernel
theorem d_cX4_write_18 : decode cX4_write 18 = .ok (.iload_n 2, 1) := by decide +kernel
theorem d_cX4_write_19 : decode cX4_write 19 = .ok (.invokevirtual 26, 3) := by decide +kernel
theorem d_cX4_write_22 : decode cX4_write 22 = .ok (.aload_n 0, 1) := by decide +kernel
theorem d_cX4_write_23 : decode cX4_write 23 = .ok (.ldc 30, 2) := by decide +kernel
theorem d_cX4_write_25 : decode cX4_write 25 = .ok (.invokevirtual 32, 3) := by decide +kernel
theorem d_cX4_write_28 : decode cX4_write 28 = .ok (.aload_n 1, 1) := by decide +kernel
theorem d_cX4_write_29 : decode cX4_write 29 = .ok (.getfield 36, 3) := by decide +kernel
theorem d_cX4_write_32 : decode cX4_write 32 = .ok (.iload_n 2, 1) := by decide +kernel
theorem d_cX4_write_33 : decode cX4_write 33 = .ok (.iaload, 1) := by decide +kernel
theorem d_cX4_write_34 : decode cX4_write 34 = .ok (.istore_n 3, 1) := by decide +kernel
theorem d_cX4_write_35 : decode cX4_write 35 = .ok (.iload_n 3, 1) := by decide +kernel
theorem d_cX4_write_36 : decode cX4_write 36 = .ok (.aload_n 1, 1) := by decide +kernel
theorem d_cX4_write_37 : decode cX4_write 37 = .ok (.iload_n 2, 1) := by decide +kernel
theorem d_cX4_write_38 : decode cX4_write 38 = .ok (.invokevirtual 40, 3) := by decide +kernel
theorem d_cX4_write_41 : decode cX4_write 41 = .ok (.if_icmp .ge 42, 3) := by decide +kernel
theorem d_cX4_write_44 : decode cX4_write 44 = .ok (.aload_n 1, 1) := by decide +kernel
theorem d_cX4_write_45 : decode cX4_write 45 = .ok (.getfield 44, 3) := by decide +kernel
theorem d_cX4_write_48 : decode cX4_write 48 = .ok (.iload_n 3, 1) := by decide +kernel
theorem d_cX4_write_49 : decode cX4_write 49 = .ok (.iaload, 1) := by decide +kernel
theorem d_cX4_write_50 : decode cX4_write 50 = .ok (.bipush 19, 2) := by decide +kernel
theorem d_cX4_write_52 : decode cX4_write 52 = .ok (.if_icmp .lt 13, 3) := by decide +kernel
theorem d_cX4_write_55 : decode cX4_write 55 = .ok (.aload_n 0, 1) := by decide +kernel
theorem d_cX4_write_56 : decode cX4_write 56 = .ok (.aload_n 1, 1) := by decide +kernel
theorem d_cX4_write_57 : decode cX4_write 57 = .ok (.iload_n 2, 1) := by decide +kernel
theorem d_cX4_write_58 : decode cX4_write 58 = .ok (.iload_n 3, 1) := by decide +kernel
theorem d_cX4_write_59 : decode cX4_write 59 = .ok (.invokevirtual 47, 3) := by decide +kernel
theorem d_cX4_write_62 : decode cX4_write 62 = .ok (.goto 9, 3) := by decide +kernel
theorem d_cX4_write_65 : decode cX4_write 65 = .ok (.aload_n 0, 1) := by decide +kernel
theorem d_cX4_write_66 : decode cX4_write 66 = .ok (.aload_n 1, 1) := by decide +kernel
theorem d_cX4_write_67 : decode cX4_write 67 = .ok (.iload_n 3, 1) := by decide +kernel
theorem d_cX4_write_68 : decode cX4_write 68 = .ok (.invokevirtual 51, 3) := by decide +kernel
theorem d_cX4_write_71 : decode cX4_write 71 = .ok (.aload_n 0, 1) := by decide +kernel
theorem d_cX4_write_72 : decode cX4_write 72 = .ok (.bipush 10, 2) := by decide +kernel
theorem d_cX4_write_74 : decode cX4_write 74 = .ok (.invokevirtual 55, 3) := by decide +kernel
theorem d_cX4_write_77 : decode cX4_write 77 = .ok (.iinc 3 1, 3) := by decide +kernel
theorem d_cX4_write_80 : decode cX4_write 80 = .ok (.goto (-45), 3) := by decide +kernel
theorem d_cX4_write_83 : decode cX4_write 83 = .ok (.iinc 2 1, 3) := by decide +kernel
theorem d_cX4_write_86 : decode cX4_write 86 = .ok (.goto (-79), 3) := by decide +kernel
theorem d_cX4_write_89 : decode cX4_write 89 = .ok (.return_, 1) := by decide +kernel
theorem d_cX5_enterBehind_0 : decode cX5_enterBehind 0 = .ok (.aload_n 1, 1) := by decide +kernel
theorem d_cX5_enterBehind_1 : decode cX5_enterBehind 1 = .ok (.getfield 88, 3) := by decide +kernel
theorem d_cX5_enterBehind_4 : decode cX5_enterBehind 4 = .ok (.iload_n 2, 1) := by decide +kernel
theorem d_cX5_enterBehind_5 : decode cX5_enterBehind 5 = .ok (.iaload, 1) := by decide +kernel
theorem d_cX5_enterBehind_6 : decode cX5_enterBehind 6 = .ok (.istore_n 3, 1) := by decide +kernel
theorem d_cX5_enterBehind_7 : decode cX5_enterBehind 7 = .ok (.aload_n 1, 1) := by decide +kernel
theorem d_cX5_enterBehind_8 : decode cX5_enterBehind 8 = .ok (.getfield 91, 3) := by decide +kernel
theorem d_cX5_enterBehind_11 : decode cX5_enterBehind 11 = .ok (.iload_n 2, 1) := by decide +kernel
theorem d_cX5_enterBehind_12 : decode cX5_enterBehind 12 = .ok (.iaload, 1) := by decide +kernel
theorem d_cX5_enterBehind_13 : decode cX5_enterBehind 13 = .ok (.istore 4, 2) := by decide +kernel
theorem d_cX5_enterBehind_15 : decode cX5_enterBehind 15 = .ok (.iconst 0, 1) := by decide +kernel
theorem d_cX5_enterBehind_16 : decode cX5_enterBehind 16 = .ok (.istore 5, 2) := by decide +kernel
theorem d_cX5_enterBehind_18 : decode cX5_enterBehind 18 = .ok (.iload 5, 2) := by decide +kernel
theorem d_cX5_enterBehind_20 : decode cX5_enterBehind 20 = .ok (.aload_n 0, 1) := by decide +kernel
theorem d_cX5_enterBehind_21 : decode cX5_enterBehind 21 = .ok (.getfield 37, 3) := by decide +kernel
theorem d_cX5_enterBehind_24 : decode cX5_enterBehind 24 = .ok (.if_icmp .ge 85, 3) := by decide +kernel
theorem d_cX5_enterBehind_27 : decode cX5_enterBehind 27 = .ok (.iload_n 3, 1) := by decide +kernel
theorem d_cX5_enterBehind_28 : decode cX5_enterBehind 28 = .ok (.ifCond .lt 28, 3) := by decide +kernel
theorem d_cX5_enterBehind_31 : decode cX5_enterBehind 31 = .ok (.iload_n 3, 1) := by decide +kernel
theorem d_cX5_enterBehind_32 : decode cX5_enterBehind 32 = .ok (.aload_n 1, 1) := by decide +kernel
theorem d_cX5_enterBehind_33 : decode cX5_enterBehind 33 = .ok (.getfield 44, 3) := by decide +kernel
theorem d_cX5_enterBehind_36 : decode cX5_enterBehind 36 = .ok (.if_icmp .ge 20, 3) := by decide +kernel
theorem d_cX5_enterBehind_39 : decode cX5_enterBehind 39 = .ok (.aload_n 0, 1) := by decide +kernel
theorem d_cX5_enterBehind_40 : decode cX5_enterBehind 40 = .ok (.getfield 9, 3) := by decide +kernel
theorem d_cX5_enterBehind_43 : decode cX5_enterBehind 43 = .ok (.iload_n 3, 1) := by decide +kernel
theorem d_cX5_enterBehind_44 : decode cX5_enterBehind 44 = .ok (.aload_n 0, 1) := by decide +kernel
theorem d_cX5_enterBehind_45 : decode cX5_enterBehind 45 = .ok (.getfield 37, 3) := by decide +kernel
theorem d_cX5_enterBehind_48 : decode cX5_enterBehind 48 = .ok (.imul, 1) := by decide +kernel
theorem d_cX5_enterBehind_49 : decode cX5_enterBehind 49 = .ok (.iload 5, 2) := by decide +kernel
theorem d_cX5_enterBehind_51 : decode cX5_enterBehind 51 = .ok (.iadd, 1) := by decide +kernel
theorem d_cX5_enterBehind_52 : decode cX5_enterBehind 52 = .ok (.laload, 1) := by decide +kernel
theorem d_cX5_enterBehind_53 : decode cX5_enterBehind 53 = .ok (.goto 4, 3) := by decide +kernel
theorem d_cX5_enterBehind_56 : decode cX5_enterBehind 56 = .ok (.lconst 0, 1) := by decide +kernel
theorem d_cX5_enterBehind_57 : decode cX5_enterBehind 57 = .ok (.lstore 6, 2) := by decide +kernel
theorem d_cX5_enterBehind_59 : decode cX5_enterBehind 59 = .ok (.aload_n 0, 1) := by decide +kernel
theorem d_cX5_enterBehind_60 : decode cX5_enterBehind 60 = .ok (.getfield 21, 3) := by decide +kernel
theorem d_cX5_enterBehind_63 : decode cX5_enterBehind 63 = .ok (.iload 5, 2) := by decide +kernel
theorem d_cX5_enterBehind_65 : decode cX5_enterBehind 65 = .ok (.iload 4, 2) := by decide +kernel
theorem d_cX5_enterBehind_67 : decode cX5_enterBehind 67 = .ok (.ifCond .lt 33, 3) := by decide +kernel
theorem d_cX5_enterBehind_70 : decode cX5_enterBehind 70 = .ok (.iload 4, 2) := by decide +kernel
theorem d_cX5_enterBehind_72 : decode cX5_enterBehind 72 = .ok (.aload_n 1, 1) := by decide +kernel
theorem d_cX5_enterBehind_73 : decode cX5_enterBehind 73 = .ok (.getfield 44, 3) := by decide +kernel
theorem d_cX5_enterBehind_76 : decode cX5_enterBehind 76 = .ok (.if_icmp .ge 24, 3) := by decide +kernel
theorem d_cX5_enterBehind_79 : decode cX5_enterBehind 79 = .ok (.lload 6, 2) := by decide +kernel
theorem d_cX5_enterBehind_81 : decode cX5_enterBehind 81 = .ok (.aload_n 0, 1) := by decide +kernel
theorem d_cX5_enterBehind_82 : decode cX5_enterBehind 82 = .ok (.getfield 9, 3) := by decide +kernel
theorem d_cX5_enterBehind_85 : decode cX5_enterBehind 85 = .ok (.iload 4, 2) := by decide +kernel
theorem d_cX5_enterBehind_87 : decode cX5_enterBehind 87 = .ok (.aload_n 0, 1) := by decide +kernel
theorem d_cX5_enterBehind_88 : decode cX5_enterBehind 88 = .ok (.getfield 37, 3) := by decide +kernel
theorem d_cX5_enterBehind_91 : decode cX5_enterBehind 91 = .ok (.imul, 1) := by decide +kernel
theorem d_cX5_enterBehind_92 : decode cX5_enterBehind 92 = .ok (.iload 5, 2) := by decide +kernel
theorem d_cX5_enterBehind_94 : decode cX5_enterBehind 94 = .ok (.iadd, 1) := by decide +kernel
theorem d_cX5_enterBehind_95 : decode cX5_enterBehind 95 = .ok (.laload, 1) := by decide +kernel
theorem d_cX5_enterBehind_96 : decode cX5_enterBehind 96 = .ok (.lor, 1) := by decide +kernel
theorem d_cX5_enterBehind_97 : decode cX5_enterBehind 97 = .ok (.goto 5, 3) := by decide +kernel
theorem d_cX5_enterBehind_100 : decode cX5_enterBehind 100 = .ok (.lload 6, 2) := by decide +kernel
theorem d_cX5_enterBehind_102 : decode cX5_enterBehind 102 = .ok (.lastore, 1) := by decide +kernel
theorem d_cX5_enterBehind_103 : decode cX5_enterBehind 103 = .ok (.iinc 5 1, 3) := by decide +kernel
theorem d_cX5_enterBehind_106 : decode cX5_enterBehind 106 = .ok (.goto (-88), 3) := by decide +kernel
theorem d_cX5_enterBehind_109 : decode cX5_enterBehind 109 = .ok (.return_, 1) := by decide +kernel
theorem d_cX5_gather_0 : decode cX5_gather 0 = .ok (.iload_n 2, 1) := by decide +kernel
theorem d_cX5_gather_1 : decode cX5_gather 1 = .ok (.aload_n 0, 1) := by decide +kernel
theorem d_cX5_gather_2 : decode cX5_gather 2 = .ok (.getfield 37, 3) := by decide +kernel
theorem d_cX5_gather_5 : decode cX5_gather 5 = .ok (.imul, 1) := by decide +kernel
theorem d_cX5_gather_6 : decode cX5_gather 6 = .ok (.istore_n 3, 1) := by decide +kernel
theorem d_cX5_gather_7 : decode cX5_gather 7 = .ok (.aload_n 1, 1) := by decide +kernel
theorem d_cX5_gather_8 : decode cX5_gather 8 = .ok (.getfield 57, 3) := by decide +kernel
theorem d_cX5_gather_11 : decode cX5_gather 11 = .ok (.iload_n 2, 1) := by decide +kernel
theorem d_cX5_gather_12 : decode cX5_gather 12 = .ok (.iaload, 1) := by decide +kernel
theorem d_cX5_gather_13 : decode cX5_gather 13 = .ok (.istore 4, 2) := by decide +kernel
theorem d_cX5_gather_15 : decode cX5_gather 15 = .ok (.iload 4, 2) := by decide +kernel
theorem d_cX5_gather_17 : decode cX5_gather 17 = .ok (.aload_n 1, 1) := by decide +kernel
theorem d_cX5_gather_18 : decode cX5_gather 18 = .ok (.iload_n 2, 1) := by decide +kernel
theorem d_cX5_gather_19 : decode cX5_gather 19 = .ok (.invokevirtual 61, 3) := by decide +kernel
theorem d_cX5_gather_22 : decode cX5_gather 22 = .ok (.if_icmp .ge 79, 3) := by decide +kernel
theorem d_cX5_gather_25 : decode cX5_gather 25 = .ok (.aload_n 0, 1) := by decide +kernel
theorem d_cX5_gather_26 : decode cX5_gather 26 = .ok (.iload_n 3, 1) := by decide +kernel
theorem d_cX5_gather_27 : decode cX5_gather 27 = .ok (.aload_n 1, 1) := by decide +kernel
theorem d_cX5_gather_28 : decode cX5_gather 28 = .ok (.iload 4, 2) := by decide +kernel
theorem d_cX5_gather_30 : decode cX5_gather 30 = .ok (.aload_n 0, 1) := by decide +kernel
theorem d_cX5_gather_31 : decode cX5_gather 31 = .ok (.getfield 40, 3) := by decide +kernel
theorem d_cX5_gather_34 : decode cX5_gather 34 = .ok (.invokevirtual 65, 3) := by decide +kernel
theorem d_cX5_gather_37 : decode cX5_gather 37 = .ok (.invokevirtual 69, 3) := by decide +kernel
theorem d_cX5_gather_40 : decode cX5_gather 40 = .ok (.aload_n 0, 1) := by decide +kernel
theorem d_cX5_gather_41 : decode cX5_gather 41 = .ok (.iload_n 3, 1) := by decide +kernel
theorem d_cX5_gather_42 : decode cX5_gather 42 = .ok (.aload_n 1, 1) := by decide +kernel
theorem d_cX5_gather_43 : decode cX5_gather 43 = .ok (.iload 4, 2) := by decide +kernel
theorem d_cX5_gather_45 : decode cX5_gather 45 = .ok (.aload_n 0, 1) := by decide +kernel
theorem d_cX5_gather_46 : decode cX5_gather 46 = .ok (.getfield 40, 3) := by decide +kernel
theorem d_cX5_gather_49 : decode cX5_gather 49 = .ok (.invokevirtual 73, 3) := by decide +kernel
theorem d_cX5_gather_52 : decode cX5_gather 52 = .ok (.invokevirtual 69, 3) := by decide +kernel
theorem d_cX5_gather_55 : decode cX5_gather 55 = .ok (.aload_n 1, 1) := by decide +kernel
theorem d_cX5_gather_56 : decode cX5_gather 56 = .ok (.iload 4, 2) := by decide +kernel
theorem d_cX5_gather_58 : decode cX5_gather 58 = .ok (.aload_n 0, 1) := by decide +kernel
theorem d_cX5_gather_59 : decode cX5_gather 59 = .ok (.getfield 40, 3) := by decide +kernel
theorem d_cX5_gather_62 : decode cX5_gather 62 = .ok (.invokevirtual 76, 3) := by decide +kernel
theorem d_cX5_gather_65 : decode cX5_gather 65 = .ok (.istore 5, 2) := by decide +kernel
theorem d_cX5_gather_67 : decode cX5_gather 67 = .ok (.aload_n 0, 1) := by decide +kernel
theorem d_cX5_gather_68 : decode cX5_gather 68 = .ok (.iload 5, 2) := by decide +kernel
theorem d_cX5_gather_70 : decode cX5_gather 70 = .ok (.invokevirtual 79, 3) := by decide +kernel
theorem d_cX5_gather_73 : decode cX5_gather 73 = .ok (.ifCond .eq 22, 3) := by decide +kernel
theorem d_cX5_gather_76 : decode cX5_gather 76 = .ok (.aload_n 0, 1) := by decide +kernel
theorem d_cX5_gather_77 : decode cX5_gather 77 = .ok (.getfield 18, 3) := by decide +kernel
theorem d_cX5_gather_80 : decode cX5_gather 80 = .ok (.iload_n 3, 1) := by decide +kernel
theorem d_cX5_gather_81 : decode cX5_gather 81 = .ok (.iload 5, 2) := by decide +kernel
theorem d_cX5_gather_83 : decode cX5_gather 83 = .ok (.bipush 6, 2) := by decide +kernel
theorem d_cX5_gather_85 : decode cX5_gather 85 = .ok (.ishr, 1) := by decide +kernel
theorem d_cX5_gather_86 : decode cX5_gather 86 = .ok (.iadd, 1) := by decide +kernel
theorem d_cX5_gather_87 : decode cX5_gather 87 = .ok (.dup2, 1) := by decide +kernel
theorem d_cX5_gather_88 : decode cX5_gather 88 = .ok (.laload, 1) := by decide +kernel
theorem d_cX5_gather_89 : decode cX5_gather 89 = .ok (.lconst 1, 1) := by decide +kernel
theorem d_cX5_gather_90 : decode cX5_gather 90 = .ok (.iload 5, 2) := by decide +kernel
theorem d_cX5_gather_92 : decode cX5_gather 92 = .ok (.lshl, 1) := by decide +kernel
theorem d_cX5_gather_93 : decode cX5_gather 93 = .ok (.lor, 1) := by decide +kernel
theorem d_cX5_gather_94 : decode cX5_gather 94 = .ok (.lastore, 1) := by decide +kernel
theorem d_cX5_gather_95 : decode cX5_gather 95 = .ok (.iinc 4 1, 3) := by decide +kernel
theorem d_cX5_gather_98 : decode cX5_gather 98 = .ok (.goto (-83), 3) := by decide +kernel
theorem d_cX5_gather_101 : decode cX5_gather 101 = .ok (.return_, 1) := by decide +kernel
theorem d_cX5_gatherUse_0 : decode cX5_gatherUse 0 = .ok (.iload_n 2, 1) := by decide +kernel
theorem d_cX5_gatherUse_1 : decode cX5_gatherUse 1 = .ok (.ifCond .lt 41, 3) := by decide +kernel
theorem d_cX5_gatherUse_4 : decode cX5_gatherUse 4 = .ok (.iload_n 2, 1) := by decide +kernel
theorem d_cX5_gatherUse_5 : decode cX5_gatherUse 5 = .ok (.aload_n 0, 1) := by decide +kernel
theorem d_cX5_gatherUse_6 : decode cX5_gatherUse 6 = .ok (.getfield 33, 3) := by decide +kernel
theorem d_cX5_gatherUse_9 : decode cX5_gatherUse 9 = .ok (.if_icmp .ge 33, 3) := by decide +kernel
theorem d_cX5_gatherUse_12 : decode cX5_gatherUse 12 = .ok (.iload_n 1, 1) := by decide +kernel
theorem d_cX5_gatherUse_13 : decode cX5_gatherUse 13 = .ok (.iload_n 2, 1) := by decide +kernel
theorem d_cX5_gatherUse_14 : decode cX5_gatherUse 14 = .ok (.bipush 6, 2) := by decide +kernel
theorem d_cX5_gatherUse_16 : decode cX5_gatherUse 16 = .ok (.ishr, 1) := by decide +kernel
theorem d_cX5_gatherUse_17 : decode cX5_gatherUse 17 = .ok (.iadd, 1) := by decide +kernel
theorem d_cX5_gatherUse_18 : decode cX5_gatherUse 18 = .ok (.istore_n 3, 1) := by decide +kernel
theorem d_cX5_gatherUse_19 : decode cX5_gatherUse 19 = .ok (.aload_n 0, 1) := by decide +kernel
theorem d_cX5_gatherUse_20 : decode cX5_gatherUse 20 = .ok (.getfield 15, 3) := by decide +kernel
theorem d_cX5_gatherUse_23 : decode cX5_gatherUse 23 = .ok (.iload_n 3, 1) := by decide +kernel
theorem d_cX5_gatherUse_24 : decode cX5_gatherUse 24 = .ok (.dup2, 1) := by decide +kernel
theorem d_cX5_gatherUse_25 : decode cX5_gatherUse 25 = .ok (.laload, 1) := by decide +kernel
theorem d_cX5_gatherUse_26 : decode cX5_gatherUse 26 = .ok (.lconst 1, 1) := by decide +kernel
theorem d_cX5_gatherUse_27 : decode cX5_gatherUse 27 = .ok (.iload_n 2, 1) := by decide +kernel
theorem d_cX5_gatherUse_28 : decode cX5_gatherUse 28 = .ok (.lshl, 1) := by decide +kernel
theorem d_cX5_gatherUse_29 : decode cX5_gatherUse 29 = .ok (.aload_n 0, 1) := by decide +kernel
theorem d_cX5_gatherUse_30 : decode cX5_gatherUse 30 = .ok (.getfield 18, 3) := by decide +kernel
theorem d_cX5_gatherUse_33 : decode cX5_gatherUse 33 = .ok (.iload_n 3, 1) := by decide +kernel
theorem d_cX5_gatherUse_34 : decode cX5_gatherUse 34 = .ok (.laload, 1) := by decide +kernel
theorem d_cX5_gatherUse_35 : decode cX5_gatherUse 35 = .ok (.ldc2_w 83, 3) := by decide +kernel
theorem d_cX5_gatherUse_38 : decode cX5_gatherUse 38 = .ok (.lxor, 1) := by decide +kernel
theorem d_cX5_gatherUse_39 : decode cX5_gatherUse 39 = .ok (.land, 1) := by decide +kernel
theorem d_cX5_gatherUse_40 : decode cX5_gatherUse 40 = .ok (.lor, 1) := by decide +kernel
theorem d_cX5_gatherUse_41 : decode cX5_gatherUse 41 = .ok (.lastore, 1) := by decide +kernel
theorem d_cX5_gatherUse_42 : decode cX5_gatherUse 42 = .ok (.return_, 1) := by decide +kernel
theorem d_cX5_isLiveBefore_0 : decode cX5_isLiveBefore 0 = .ok (.aload_n 0, 1) := by decide +kernel
theorem d_cX5_isLiveBefore_1 : decode cX5_isLiveBefore 1 = .ok (.iload_n 2, 1) := by decide +kernel
theorem d_cX5_isLiveBefore_2 : decode cX5_isLiveBefore 2 = .ok (.invokevirtual 79, 3) := by decide +kernel
theorem d_cX5_isLiveBefore_5 : decode cX5_isLiveBefore 5 = .ok (.ifCond .eq 42, 3) := by decide +kernel
theorem d_cX5_isLiveBefore_8 : decode cX5_isLiveBefore 8 = .ok (.iload_n 1, 1) := by decide +kernel
theorem d_cX5_isLiveBefore_9 : decode cX5_isLiveBefore 9 = .ok (.ifCond .lt 38, 3) := by decide +kernel
theorem d_cX5_isLiveBefore_12 : decode cX5_isLiveBefore 12 = .ok (.iload_n 1, 1) := by decide +kernel
theorem d_cX5_isLiveBefore_13 : decode cX5_isLiveBefore 13 = .ok (.bipush 40, 2) := by decide +kernel
theorem d_cX5_isLiveBefore_15 : decode cX5_isLiveBefore 15 = .ok (.if_icmp .ge 32, 3) := by decide +kernel
theorem d_cX5_isLiveBefore_18 : decode cX5_isLiveBefore 18 = .ok (.aload_n 0, 1) := by decide +kernel
theorem d_cX5_isLiveBefore_19 : decode cX5_isLiveBefore 19 = .ok (.getfield 9, 3) := by decide +kernel
theorem d_cX5_isLiveBefore_22 : decode cX5_isLiveBefore 22 = .ok (.iload_n 1, 1) := by decide +kernel
theorem d_cX5_isLiveBefore_23 : decode cX5_isLiveBefore 23 = .ok (.aload_n 0, 1) := by decide +kernel
theorem d_cX5_isLiveBefore_24 : decode cX5_isLiveBefore 24 = .ok (.getfield 37, 3) := by decide +kernel
theorem d_cX5_isLiveBefore_27 : decode cX5_isLiveBefore 27 = .ok (.imul, 1) := by decide +kernel
theorem d_cX5_isLiveBefore_28 : decode cX5_isLiveBefore 28 = .ok (.iload_n 2, 1) := by decide +kernel
theorem d_cX5_isLiveBefore_29 : decode cX5_isLiveBefore 29 = .ok (.bipush 6, 2) := by decide +kernel
theorem d_cX5_isLiveBefore_31 : decode cX5_isLiveBefore 31 = .ok (.ishr, 1) := by decide +kernel
theorem d_cX5_isLiveBefore_32 : decode cX5_isLiveBefore 32 = .ok (.iadd, 1) := by decide +kernel
theorem d_cX5_isLiveBefore_33 : decode cX5_isLiveBefore 33 = .ok (.laload, 1) := by decide +kernel
theorem d_cX5_isLiveBefore_34 : decode cX5_isLiveBefore 34 = .ok (.iload_n 2, 1) := by decide +kernel
theorem d_cX5_isLiveBefore_35 : decode cX5_isLiveBefore 35 = .ok (.lshr, 1) := by decide +kernel
theorem d_cX5_isLiveBefore_36 : decode cX5_isLiveBefore 36 = .ok (.lconst 1, 1) := by decide +kernel
theorem d_cX5_isLiveBefore_37 : decode cX5_isLiveBefore 37 = .ok (.land, 1) := by decide +kernel
theorem d_cX5_isLiveBefore_38 : decode cX5_isLiveBefore 38 = .ok (.lconst 0, 1) := by decide +kernel
theorem d_cX5_isLiveBefore_39 : decode cX5_isLiveBefore 39 = .ok (.lcmp, 1) := by decide +kernel
theorem d_cX5_isLiveBefore_40 : decode cX5_isLiveBefore 40 = .ok (.ifCond .eq 7, 3) := by decide +kernel
theorem d_cX5_isLiveBefore_43 : decode cX5_isLiveBefore 43 = .ok (.iconst 1, 1) := by decide +kernel
theorem d_cX5_isLiveBefore_44 : decode cX5_isLiveBefore 44 = .ok (.goto 4, 3) := by decide +kernel
theorem d_cX5_isLiveBefore_47 : decode cX5_isLiveBefore 47 = .ok (.iconst 0, 1) := by decide +kernel
theorem d_cX5_isLiveBefore_48 : decode cX5_isLiveBefore 48 = .ok (.ireturn, 1) := by decide +kernel
theorem d_cX5_isName_0 : decode cX5_isName 0 = .ok (.iload_n 1, 1) := by decide +kernel
theorem d_cX5_isName_1 : decode cX5_isName 1 = .ok (.ifCond .lt 15, 3) := by decide +kernel
theorem d_cX5_isName_4 : decode cX5_isName 4 = .ok (.iload_n 1, 1) := by decide +kernel
theorem d_cX5_isName_5 : decode cX5_isName 5 = .ok (.aload_n 0, 1) := by decide +kernel
theorem d_cX5_isName_6 : decode cX5_isName 6 = .ok (.getfield 33, 3) := by decide +kernel
theorem d_cX5_isName_9 : decode cX5_isName 9 = .ok (.if_icmp .ge 7, 3) := by decide +kernel
theorem d_cX5_isName_12 : decode cX5_isName 12 = .ok (.iconst 1, 1) := by decide +kernel
theorem d_cX5_isName_13 : decode cX5_isName 13 = .ok (.goto 4, 3) := by decide +kernel
theorem d_cX5_isName_16 : decode cX5_isName 16 = .ok (.iconst 0, 1) := by decide +kernel
theorem d_cX5_isName_17 : decode cX5_isName 17 = .ok (.ireturn, 1) := by decide +kernel
theorem d_cX5_liveBefore_0 : decode cX5_liveBefore 0 = .ok (.iconst 0, 1) := by decide +kernel
theorem d_cX5_liveBefore_1 : decode cX5_liveBefore 1 = .ok (.istore_n 2, 1) := by decide +kernel
theorem d_cX5_liveBefore_2 : decode cX5_liveBefore 2 = .ok (.iconst 0, 1) := by decide +kernel
theorem d_cX5_liveBefore_3 : decode cX5_liveBefore 3 = .ok (.istore_n 3, 1) := by decide +kernel
theorem d_cX5_liveBefore_4 : decode cX5_liveBefore 4 = .ok (.iload_n 3, 1) := by decide +kernel
theorem d_cX5_liveBefore_5 : decode cX5_liveBefore 5 = .ok (.aload_n 0, 1) := by decide +kernel
theorem d_cX5_liveBefore_6 : decode cX5_liveBefore 6 = .ok (.getfield 37, 3) := by decide +kernel
theorem d_cX5_liveBefore_9 : decode cX5_liveBefore 9 = .ok (.if_icmp .ge 28, 3) := by decide +kernel
theorem d_cX5_liveBefore_12 : decode cX5_liveBefore 12 = .ok (.iload_n 2, 1) := by decide +kernel
theorem d_cX5_liveBefore_13 : decode cX5_liveBefore 13 = .ok (.aload_n 0, 1) := by decide +kernel
theorem d_cX5_liveBefore_14 : decode cX5_liveBefore 14 = .ok (.getfield 9, 3) := by decide +kernel
theorem d_cX5_liveBefore_17 : decode cX5_liveBefore 17 = .ok (.iload_n 1, 1) := by decide +kernel
theorem d_cX5_liveBefore_18 : decode cX5_liveBefore 18 = .ok (.aload_n 0, 1) := by decide +kernel
theorem d_cX5_liveBefore_19 : decode cX5_liveBefore 19 = .ok (.getfield 37, 3) := by decide +kernel
theorem d_cX5_liveBefore_22 : decode cX5_liveBefore 22 = .ok (.imul, 1) := by decide +kernel
theorem d_cX5_liveBefore_23 : decode cX5_liveBefore 23 = .ok (.iload_n 3, 1) := by decide +kernel
theorem d_cX5_liveBefore_24 : decode cX5_liveBefore 24 = .ok (.iadd, 1) := by decide +kernel
theorem d_cX5_liveBefore_25 : decode cX5_liveBefore 25 = .ok (.laload, 1) := by decide +kernel
theorem d_cX5_liveBefore_26 : decode cX5_liveBefore 26 = .ok (.invokestatic 98, 3) := by decide +kernel
theorem d_cX5_liveBefore_29 : decode cX5_liveBefore 29 = .ok (.iadd, 1) := by decide +kernel
theorem d_cX5_liveBefore_30 : decode cX5_liveBefore 30 = .ok (.istore_n 2, 1) := by decide +kernel
theorem d_cX5_liveBefore_31 : decode cX5_liveBefore 31 = .ok (.iinc 3 1, 3) := by decide +kernel
theorem d_cX5_liveBefore_34 : decode cX5_liveBefore 34 = .ok (.goto (-30), 3) := by decide +kernel
theorem d_cX5_liveBefore_37 : decode cX5_liveBefore 37 = .ok (.iload_n 2, 1) := by decide +kernel
theorem d_cX5_liveBefore_38 : decode cX5_liveBefore 38 = .ok (.ireturn, 1) := by decide +kernel
theorem d_cX5_revive_0 : decode cX5_revive 0 = .ok (.iload_n 1, 1) := by decide +kernel
theorem d_cX5_revive_1 : decode cX5_revive 1 = .ok (.ifCond .lt 26, 3) := by decide +kernel
theorem d_cX5_revive_4 : decode cX5_revive 4 = .ok (.iload_n 1, 1) := by decide +kernel
theorem d_cX5_revive_5 : decode cX5_revive 5 = .ok (.aload_n 0, 1) := by decide +kernel
theorem d_cX5_revive_6 : decode cX5_revive 6 = .ok (.getfield 33, 3) := by decide +kernel
theorem d_cX5_revive_9 : decode cX5_revive 9 = .ok (.if_icmp .ge 18, 3) := by decide +kernel
theorem d_cX5_revive_12 : decode cX5_revive 12 = .ok (.aload_n 0, 1) := by decide +kernel
theorem d_cX5_revive_13 : decode cX5_revive 13 = .ok (.getfield 21, 3) := by decide +kernel
theorem d_cX5_revive_16 : decode cX5_revive 16 = .ok (.iload_n 1, 1) := by decide +kernel
theorem d_cX5_revive_17 : decode cX5_revive 17 = .ok (.bipush 6, 2) := by decide +kernel
theorem d_cX5_revive_19 : decode cX5_revive 19 = .ok (.ishr, 1) := by decide +kernel
theorem d_cX5_revive_20 : decode cX5_revive 20 = .ok (.dup2, 1) := by decide +kernel
theorem d_cX5_revive_21 : decode cX5_revive 21 = .ok (.laload, 1) := by decide +kernel
theorem d_cX5_revive_22 : decode cX5_revive 22 = .ok (.lconst 1, 1) := by decide +kernel
theorem d_cX5_revive_23 : decode cX5_revive 23 = .ok (.iload_n 1, 1) := by decide +kernel
theorem d_cX5_revive_24 : decode cX5_revive 24 = .ok (.lshl, 1) := by decide +kernel
theorem d_cX5_revive_25 : decode cX5_revive 25 = .ok (.lor, 1) := by decide +kernel
theorem d_cX5_revive_26 : decode cX5_revive 26 = .ok (.lastore, 1) := by decide +kernel
theorem d_cX5_revive_27 : decode cX5_revive 27 = .ok (.return_, 1) := by decide +kernel
theorem d_cX5_solve_0 : decode cX5_solve 0 = .ok (.aload_n 0, 1) := by decide +kernel
theorem d_cX5_solve_1 : decode cX5_solve 1 = .ok (.iconst 0, 1) := by decide +kernel
theorem d_cX5_solve_2 : decode cX5_solve 2 = .ok (.iload_n 2, 1) := by decide +kernel
theorem d_cX5_solve_3 : decode cX5_solve 3 = .ok (.sipush 720, 3) := by decide +kernel
theorem d_cX5_solve_6 : decode cX5_solve 6 = .ok (.invokestatic 24, 3) := by decide +kernel
theorem d_cX5_solve_9 : decode cX5_solve 9 = .ok (.invokestatic 30, 3) := by decide +kernel
theorem d_cX5_solve_12 : decode cX5_solve 12 = .ok (.putfield 33, 3) := by decide +kernel
theorem d_cX5_solve_15 : decode cX5_solve 15 = .ok (.aload_n 0, 1) := by decide +kernel
theorem d_cX5_solve_16 : decode cX5_solve 16 = .ok (.aload_n 0, 1) := by decide +kernel
theorem d_cX5_solve_17 : decode cX5_solve 17 = .ok (.getfield 33, 3) := by decide +kernel
theorem d_cX5_solve_20 : decode cX5_solve 20 = .ok (.bipush 63, 2) := by decide +kernel
theorem d_cX5_solve_22 : decode cX5_solve 22 = .ok (.iadd, 1) := by decide +kernel
theorem d_cX5_solve_23 : decode cX5_solve 23 = .ok (.bipush 6, 2) := by decide +kernel
theorem d_cX5_solve_25 : decode cX5_solve 25 = .ok (.ishr, 1) := by decide +kernel
theorem d_cX5_solve_26 : decode cX5_solve 26 = .ok (.putfield 37, 3) := by decide +kernel
theorem d_cX5_solve_29 : decode cX5_solve 29 = .ok (.aload_n 0, 1) := by decide +kernel
theorem d_cX5_solve_30 : decode cX5_solve 30 = .ok (.iload_n 3, 1) := by decide +kernel
theorem d_cX5_solve_31 : decode cX5_solve 31 = .ok (.putfield 40, 3) := by decide +kernel
theorem d_cX5_solve_34 : decode cX5_solve 34 = .ok (.iconst 0, 1) := by decide +kernel
theorem d_cX5_solve_35 : decode cX5_solve 35 = .ok (.istore 4, 2) := by decide +kernel
theorem d_cX5_solve_37 : decode cX5_solve 37 = .ok (.iload 4, 2) := by decide +kernel
theorem d_cX5_solve_39 : decode cX5_solve 39 = .ok (.aload_n 1, 1) := by decide +kernel
theorem d_cX5_solve_40 : decode cX5_solve 40 = .ok (.getfield 44, 3) := by decide +kernel
theorem d_cX5_solve_43 : decode cX5_solve 43 = .ok (.aload_n 0, 1) := by decide +kernel
theorem d_cX5_solve_44 : decode cX5_solve 44 = .ok (.getfield 37, 3) := by decide +kernel
theorem d_cX5_solve_47 : decode cX5_solve 47 = .ok (.imul, 1) := by decide +kernel
theorem d_cX5_solve_48 : decode cX5_solve 48 = .ok (.if_icmp .ge 33, 3) := by decide +kernel
theorem d_cX5_solve_51 : decode cX5_solve 51 = .ok (.aload_n 0, 1) := by decide +kernel
theorem d_cX5_solve_52 : decode cX5_solve 52 = .ok (.getfield 9, 3) := by decide +kernel
theorem d_cX5_solve_55 : decode cX5_solve 55 = .ok (.iload 4, 2) := by decide +kernel
theorem d_cX5_solve_57 : decode cX5_solve 57 = .ok (.lconst 0, 1) := by decide +kernel
theorem d_cX5_solve_58 : decode cX5_solve 58 = .ok (.lastore, 1) := by decide +kernel
theorem d_cX5_solve_59 : decode cX5_solve 59 = .ok (.aload_n 0, 1) := by decide +kernel
theorem d_cX5_solve_60 : decode cX5_solve 60 = .ok (.getfield 15, 3) := by decide +kernel
theorem d_cX5_solve_63 : decode cX5_solve 63 = .ok (.iload 4, 2) := by decide +kernel
theorem d_cX5_solve_65 : decode cX5_solve 65 = .ok (.lconst 0, 1) := by decide +kernel
theorem d_cX5_solve_66 : decode cX5_solve 66 = .ok (.lastore, 1) := by decide +kernel
theorem d_cX5_solve_67 : decode cX5_solve 67 = .ok (.aload_n 0, 1) := by decide +kernel
theorem d_cX5_solve_68 : decode cX5_solve 68 = .ok (.getfield 18, 3) := by decide +kernel
theorem d_cX5_solve_71 : decode cX5_solve 71 = .ok (.iload 4, 2) := by decide +kernel
theorem d_cX5_solve_73 : decode cX5_solve 73 = .ok (.lconst 0, 1) := by decide +kernel
theorem d_cX5_solve_74 : decode cX5_solve 74 = .ok (.lastore, 1) := by decide +kernel
theorem d_cX5_solve_75 : decode cX5_solve 75 = .ok (.iinc 4 1, 3) := by decide +kernel
theorem d_cX5_solve_78 : decode cX5_solve 78 = .ok (.goto (-41), 3) := by decide +kernel
theorem d_cX5_solve_81 : decode cX5_solve 81 = .ok (.iconst 0, 1) := by decide +kernel
theorem d_cX5_solve_82 : decode cX5_solve 82 = .ok (.istore 4, 2) := by decide +kernel
theorem d_cX5_solve_84 : decode cX5_solve 84 = .ok (.iload 4, 2) := by decide +kernel
theorem d_cX5_solve_86 : decode cX5_solve 86 = .ok (.aload_n 1, 1) := by decide +kernel
theorem d_cX5_solve_87 : decode cX5_solve 87 = .ok (.getfield 44, 3) := by decide +kernel
theorem d_cX5_solve_90 : decode cX5_solve 90 = .ok (.if_icmp .ge 16, 3) := by decide +kernel
theorem d_cX5_solve_93 : decode cX5_solve 93 = .ok (.aload_n 0, 1) := by decide +kernel
theorem d_cX5_solve_94 : decode cX5_solve 94 = .ok (.aload_n 1, 1) := by decide +kernel
theorem d_cX5_solve_95 : decode cX5_solve 95 = .ok (.iload 4, 2) := by decide +kernel
theorem d_cX5_solve_97 : decode cX5_solve 97 = .ok (.invokevirtual 49, 3) := by decide +kernel
theorem d_cX5_solve_100 : decode cX5_solve 100 = .ok (.iinc 4 1, 3) := by decide +kernel
theorem d_cX5_solve_103 : decode cX5_solve 103 = .ok (.goto (-19), 3) := by decide +kernel
theorem d_cX5_solve_106 : decode cX5_solve 106 = .ok (.iconst 1, 1) := by decide +kernel
theorem d_cX5_solve_107 : decode cX5_solve 107 = .ok (.istore 4, 2) := by decide +kernel
theorem d_cX5_solve_109 : decode cX5_solve 109 = .ok (.iconst 0, 1) := by decide +kernel
theorem d_cX5_solve_110 : decode cX5_solve 110 = .ok (.istore 5, 2) := by decide +kernel
theorem d_cX5_solve_112 : decode cX5_solve 112 = .ok (.iload 5, 2) := by decide +kernel
theorem d_cX5_solve_114 : decode cX5_solve 114 = .ok (.aload_n 1, 1) := by decide +kernel
theorem d_cX5_solve_115 : decode cX5_solve 115 = .ok (.getfield 44, 3) := by decide +kernel
theorem d_cX5_solve_118 : decode cX5_solve 118 = .ok (.if_icmp .gt 21, 3) := by decide +kernel
theorem d_cX5_solve_121 : decode cX5_solve 121 = .ok (.iload 4, 2) := by decide +kernel
theorem d_cX5_solve_123 : decode cX5_solve 123 = .ok (.ifCond .eq 16, 3) := by decide +kernel
theorem d_cX5_solve_126 : decode cX5_solve 126 = .ok (.aload_n 0, 1) := by decide +kernel
theorem d_cX5_solve_127 : decode cX5_solve 127 = .ok (.aload_n 1, 1) := by decide +kernel
theorem d_cX5_solve_128 : decode cX5_solve 128 = .ok (.invokevirtual 53, 3) := by decide +kernel
theorem d_cX5_solve_131 : decode cX5_solve 131 = .ok (.istore 4, 2) := by decide +kernel
theorem d_cX5_solve_133 : decode cX5_solve 133 = .ok (.iinc 5 1, 3) := by decide +kernel
theorem d_cX5_solve_136 : decode cX5_solve 136 = .ok (.goto (-24), 3) := by decide +kernel
theorem d_cX5_solve_139 : decode cX5_solve 139 = .ok (.return_, 1) := by decide +kernel
theorem d_cX5_standing_0 : decode cX5_standing 0 = .ok (.lconst 0, 1) := by decide +kernel
theorem d_cX5_standing_1 : decode cX5_standing 1 = .ok (.lstore_n 3, 1) := by decide +kernel
theorem d_cX5_standing_2 : decode cX5_standing 2 = .ok (.iconst 0, 1) := by decide +kernel
theorem d_cX5_standing_3 : decode cX5_standing 3 = .ok (.istore 5, 2) := by decide +kernel
theorem d_cX5_standing_5 : decode cX5_standing 5 = .ok (.iload 5, 2) := by decide +kernel
theorem d_cX5_standing_7 : decode cX5_standing 7 = .ok (.iload_n 2, 1) := by decide +kernel
theorem d_cX5_standing_8 : decode cX5_standing 8 = .ok (.if_icmp .ge 41, 3) := by decide +kernel
theorem d_cX5_standing_11 : decode cX5_standing 11 = .ok (.lload_n 3, 1) := by decide +kernel
theorem d_cX5_standing_12 : decode cX5_standing 12 = .ok (.aload_n 0, 1) := by decide +kernel
theorem d_cX5_standing_13 : decode cX5_standing 13 = .ok (.getfield 15, 3) := by decide +kernel
theorem d_cX5_standing_16 : decode cX5_standing 16 = .ok (.iload 5, 2) := by decide +kernel
theorem d_cX5_standing_18 : decode cX5_standing 18 = .ok (.aload_n 0, 1) := by decide +kernel
theorem d_cX5_standing_19 : decode cX5_standing 19 = .ok (.getfield 37, 3) := by decide +kernel
theorem d_cX5_standing_22 : decode cX5_standing 22 = .ok (.imul, 1) := by decide +kernel
theorem d_cX5_standing_23 : decode cX5_standing 23 = .ok (.iload_n 1, 1) := by decide +kernel
theorem d_cX5_standing_24 : decode cX5_standing 24 = .ok (.iadd, 1) := by decide +kernel
theorem d_cX5_standing_25 : decode cX5_standing 25 = .ok (.laload, 1) := by decide +kernel
theorem d_cX5_standing_26 : decode cX5_standing 26 = .ok (.aload_n 0, 1) := by decide +kernel
theorem d_cX5_standing_27 : decode cX5_standing 27 = .ok (.getfield 18, 3) := by decide +kernel
theorem d_cX5_standing_30 : decode cX5_standing 30 = .ok (.iload 5, 2) := by decide +kernel
theorem d_cX5_standing_32 : decode cX5_standing 32 = .ok (.aload_n 0, 1) := by decide +kernel
theorem d_cX5_standing_33 : decode cX5_standing 33 = .ok (.getfield 37, 3) := by decide +kernel
theorem d_cX5_standing_36 : decode cX5_standing 36 = .ok (.imul, 1) := by decide +kernel
theorem d_cX5_standing_37 : decode cX5_standing 37 = .ok (.iload_n 1, 1) := by decide +kernel
theorem d_cX5_standing_38 : decode cX5_standing 38 = .ok (.iadd, 1) := by decide +kernel
theorem d_cX5_standing_39 : decode cX5_standing 39 = .ok (.laload, 1) := by decide +kernel
theorem d_cX5_standing_40 : decode cX5_standing 40 = .ok (.lor, 1) := by decide +kernel
theorem d_cX5_standing_41 : decode cX5_standing 41 = .ok (.lor, 1) := by decide +kernel
theorem d_cX5_standing_42 : decode cX5_standing 42 = .ok (.lstore_n 3, 1) := by decide +kernel
theorem d_cX5_standing_43 : decode cX5_standing 43 = .ok (.iinc 5 1, 3) := by decide +kernel
theorem d_cX5_standing_46 : decode cX5_standing 46 = .ok (.goto (-41), 3) := by decide +kernel
theorem d_cX5_standing_49 : decode cX5_standing 49 = .ok (.lload_n 3, 1) := by decide +kernel
theorem d_cX5_standing_50 : decode cX5_standing 50 = .ok (.lreturn, 1) := by decide +kernel
theorem d_cX5_stepOver_0 : decode cX5_stepOver 0 = .ok (.aload_n 1, 1) := by decide +kernel
theorem d_cX5_stepOver_1 : decode cX5_stepOver 1 = .ok (.iload_n 2, 1) := by decide +kernel
theorem d_cX5_stepOver_2 : decode cX5_stepOver 2 = .ok (.aload_n 0, 1) := by decide +kernel
theorem d_cX5_stepOver_3 : decode cX5_stepOver 3 = .ok (.getfield 40, 3) := by decide +kernel
theorem d_cX5_stepOver_6 : decode cX5_stepOver 6 = .ok (.invokevirtual 76, 3) := by decide +kernel
theorem d_cX5_stepOver_9 : decode cX5_stepOver 9 = .ok (.istore_n 3, 1) := by decide +kernel
theorem d_cX5_stepOver_10 : decode cX5_stepOver 10 = .ok (.aload_n 0, 1) := by decide +kernel
theorem d_cX5_stepOver_11 : decode cX5_stepOver 11 = .ok (.iload_n 3, 1) := by decide +kernel
theorem d_cX5_stepOver_12 : decode cX5_stepOver 12 = .ok (.invokevirtual 79, 3) := by decide +kernel
theorem d_cX5_stepOver_15 : decode cX5_stepOver 15 = .ok (.ifCond .eq 22, 3) := by decide +kernel
theorem d_cX5_stepOver_18 : decode cX5_stepOver 18 = .ok (.aload_n 0, 1) := by decide +kernel
theorem d_cX5_stepOver_19 : decode cX5_stepOver 19 = .ok (.getfield 21, 3) := by decide +kernel
theorem d_cX5_stepOver_22 : decode cX5_stepOver 22 = .ok (.iload_n 3, 1) := by decide +kernel
theorem d_cX5_stepOver_23 : decode cX5_stepOver 23 = .ok (.bipush 6, 2) := by decide +kernel
theorem d_cX5_stepOver_25 : decode cX5_stepOver 25 = .ok (.ishr, 1) := by decide +kernel
theorem d_cX5_stepOver_26 : decode cX5_stepOver 26 = .ok (.dup2, 1) := by decide +kernel
theorem d_cX5_stepOver_27 : decode cX5_stepOver 27 = .ok (.laload, 1) := by decide +kernel
theorem d_cX5_stepOver_28 : decode cX5_stepOver 28 = .ok (.lconst 1, 1) := by decide +kernel
theorem d_cX5_stepOver_29 : decode cX5_stepOver 29 = .ok (.iload_n 3, 1) := by decide +kernel
theorem d_cX5_stepOver_30 : decode cX5_stepOver 30 = .ok (.lshl, 1) := by decide +kernel
theorem d_cX5_stepOver_31 : decode cX5_stepOver 31 = .ok (.ldc2_w 83, 3) := by decide +kernel
theorem d_cX5_stepOver_34 : decode cX5_stepOver 34 = .ok (.lxor, 1) := by decide +kernel
theorem d_cX5_stepOver_35 : decode cX5_stepOver 35 = .ok (.land, 1) := by decide +kernel
theorem d_cX5_stepOver_36 : decode cX5_stepOver 36 = .ok (.lastore, 1) := by decide +kernel
theorem d_cX5_stepOver_37 : decode cX5_stepOver 37 = .ok (.aload_n 0, 1) := by decide +kernel
theorem d_cX5_stepOver_38 : decode cX5_stepOver 38 = .ok (.aload_n 1, 1) := by decide +kernel
theorem d_cX5_stepOver_39 : decode cX5_stepOver 39 = .ok (.iload_n 2, 1) := by decide +kernel
theorem d_cX5_stepOver_40 : decode cX5_stepOver 40 = .ok (.aload_n 0, 1) := by decide +kernel
theorem d_cX5_stepOver_41 : decode cX5_stepOver 41 = .ok (.getfield 40, 3) := by decide +kernel
theorem d_cX5_stepOver_44 : decode cX5_stepOver 44 = .ok (.invokevirtual 65, 3) := by decide +kernel
theorem d_cX5_stepOver_47 : decode cX5_stepOver 47 = .ok (.invokevirtual 94, 3) := by decide +kernel
theorem d_cX5_stepOver_50 : decode cX5_stepOver 50 = .ok (.aload_n 0, 1) := by decide +kernel
theorem d_cX5_stepOver_51 : decode cX5_stepOver 51 = .ok (.aload_n 1, 1) := by decide +kernel
theorem d_cX5_stepOver_52 : decode cX5_stepOver 52 = .ok (.iload_n 2, 1) := by decide +kernel
theorem d_cX5_stepOver_53 : decode cX5_stepOver 53 = .ok (.aload_n 0, 1) := by decide +kernel
theorem d_cX5_stepOver_54 : decode cX5_stepOver 54 = .ok (.getfield 40, 3) := by decide +kernel
theorem d_cX5_stepOver_57 : decode cX5_stepOver 57 = .ok (.invokevirtual 73, 3) := by decide +kernel
theorem d_cX5_stepOver_60 : decode cX5_stepOver 60 = .ok (.invokevirtual 94, 3) := by decide +kernel
theorem d_cX5_stepOver_63 : decode cX5_stepOver 63 = .ok (.return_, 1) := by decide +kernel
theorem d_cX5_sweep_0 : decode cX5_sweep 0 = .ok (.iconst 0, 1) := by decide +kernel
theorem d_cX5_sweep_1 : decode cX5_sweep 1 = .ok (.istore_n 2, 1) := by decide +kernel
theorem d_cX5_sweep_2 : decode cX5_sweep 2 = .ok (.aload_n 1, 1) := by decide +kernel
theorem d_cX5_sweep_3 : decode cX5_sweep 3 = .ok (.getfield 44, 3) := by decide +kernel
theorem d_cX5_sweep_6 : decode cX5_sweep 6 = .ok (.iconst 1, 1) := by decide +kernel
theorem d_cX5_sweep_7 : decode cX5_sweep 7 = .ok (.isub, 1) := by decide +kernel
theorem d_cX5_sweep_8 : decode cX5_sweep 8 = .ok (.istore_n 3, 1) := by decide +kernel
theorem d_cX5_sweep_9 : decode cX5_sweep 9 = .ok (.iload_n 3, 1) := by decide +kernel
theorem d_cX5_sweep_10 : decode cX5_sweep 10 = .ok (.ifCond .lt 105, 3) := by decide +kernel
theorem d_cX5_sweep_13 : decode cX5_sweep 13 = .ok (.aload_n 0, 1) := by decide +kernel
theorem d_cX5_sweep_14 : decode cX5_sweep 14 = .ok (.aload_n 1, 1) := by decide +kernel
theorem d_cX5_sweep_15 : decode cX5_sweep 15 = .ok (.iload_n 3, 1) := by decide +kernel
theorem d_cX5_sweep_16 : decode cX5_sweep 16 = .ok (.invokevirtual 85, 3) := by decide +kernel
theorem d_cX5_sweep_19 : decode cX5_sweep 19 = .ok (.iconst 0, 1) := by decide +kernel
theorem d_cX5_sweep_20 : decode cX5_sweep 20 = .ok (.istore 4, 2) := by decide +kernel
theorem d_cX5_sweep_22 : decode cX5_sweep 22 = .ok (.iload 4, 2) := by decide +kernel
theorem d_cX5_sweep_24 : decode cX5_sweep 24 = .ok (.aload_n 0, 1) := by decide +kernel
theorem d_cX5_sweep_25 : decode cX5_sweep 25 = .ok (.getfield 37, 3) := by decide +kernel
theorem d_cX5_sweep_28 : decode cX5_sweep 28 = .ok (.if_icmp .ge 81, 3) := by decide +kernel
theorem d_cX5_sweep_31 : decode cX5_sweep 31 = .ok (.iload_n 3, 1) := by decide +kernel
theorem d_cX5_sweep_32 : decode cX5_sweep 32 = .ok (.aload_n 0, 1) := by decide +kernel
theorem d_cX5_sweep_33 : decode cX5_sweep 33 = .ok (.getfield 37, 3) := by decide +kernel
theorem d_cX5_sweep_36 : decode cX5_sweep 36 = .ok (.imul, 1) := by decide +kernel
theorem d_cX5_sweep_37 : decode cX5_sweep 37 = .ok (.iload 4, 2) := by decide +kernel
theorem d_cX5_sweep_39 : decode cX5_sweep 39 = .ok (.iadd, 1) := by decide +kernel
theorem d_cX5_sweep_40 : decode cX5_sweep 40 = .ok (.istore 5, 2) := by decide +kernel
theorem d_cX5_sweep_42 : decode cX5_sweep 42 = .ok (.aload_n 0, 1) := by decide +kernel
theorem d_cX5_sweep_43 : decode cX5_sweep 43 = .ok (.getfield 15, 3) := by decide +kernel
theorem d_cX5_sweep_46 : decode cX5_sweep 46 = .ok (.iload 5, 2) := by decide +kernel
theorem d_cX5_sweep_48 : decode cX5_sweep 48 = .ok (.laload, 1) := by decide +kernel
theorem d_cX5_sweep_49 : decode cX5_sweep 49 = .ok (.aload_n 0, 1) := by decide +kernel
theorem d_cX5_sweep_50 : decode cX5_sweep 50 = .ok (.getfield 21, 3) := by decide +kernel
theorem d_cX5_sweep_53 : decode cX5_sweep 53 = .ok (.iload 4, 2) := by decide +kernel
theorem d_cX5_sweep_55 : decode cX5_sweep 55 = .ok (.laload, 1) := by decide +kernel
theorem d_cX5_sweep_56 : decode cX5_sweep 56 = .ok (.aload_n 0, 1) := by decide +kernel
theorem d_cX5_sweep_57 : decode cX5_sweep 57 = .ok (.getfield 18, 3) := by decide +kernel
theorem d_cX5_sweep_60 : decode cX5_sweep 60 = .ok (.iload 5, 2) := by decide +kernel
theorem d_cX5_sweep_62 : decode cX5_sweep 62 = .ok (.laload, 1) := by decide +kernel
theorem d_cX5_sweep_63 : decode cX5_sweep 63 = .ok (.ldc2_w 83, 3) := by decide +kernel
theorem d_cX5_sweep_66 : decode cX5_sweep 66 = .ok (.lxor, 1) := by decide +kernel
theorem d_cX5_sweep_67 : decode cX5_sweep 67 = .ok (.land, 1) := by decide +kernel
theorem d_cX5_sweep_68 : decode cX5_sweep 68 = .ok (.lor, 1) := by decide +kernel
theorem d_cX5_sweep_69 : decode cX5_sweep 69 = .ok (.lstore 6, 2) := by decide +kernel
theorem d_cX5_sweep_71 : decode cX5_sweep 71 = .ok (.iload_n 2, 1) := by decide +kernel
theorem d_cX5_sweep_72 : decode cX5_sweep 72 = .ok (.ifCond .ne 16, 3) := by decide +kernel
theorem d_cX5_sweep_75 : decode cX5_sweep 75 = .ok (.lload 6, 2) := by decide +kernel
theorem d_cX5_sweep_77 : decode cX5_sweep 77 = .ok (.aload_n 0, 1) := by decide +kernel
theorem d_cX5_sweep_78 : decode cX5_sweep 78 = .ok (.getfield 9, 3) := by decide +kernel
theorem d_cX5_sweep_81 : decode cX5_sweep 81 = .ok (.iload 5, 2) := by decide +kernel
theorem d_cX5_sweep_83 : decode cX5_sweep 83 = .ok (.laload, 1) := by decide +kernel
theorem d_cX5_sweep_84 : decode cX5_sweep 84 = .ok (.lcmp, 1) := by decide +kernel
theorem d_cX5_sweep_85 : decode cX5_sweep 85 = .ok (.ifCond .eq 7, 3) := by decide +kernel
theorem d_cX5_sweep_88 : decode cX5_sweep 88 = .ok (.iconst 1, 1) := by decide +kernel
theorem d_cX5_sweep_89 : decode cX5_sweep 89 = .ok (.goto 4, 3) := by decide +kernel
theorem d_cX5_sweep_92 : decode cX5_sweep 92 = .ok (.iconst 0, 1) := by decide +kernel
theorem d_cX5_sweep_93 : decode cX5_sweep 93 = .ok (.istore_n 2, 1) := by decide +kernel
theorem d_cX5_sweep_94 : decode cX5_sweep 94 = .ok (.aload_n 0, 1) := by decide +kernel
theorem d_cX5_sweep_95 : decode cX5_sweep 95 = .ok (.getfield 9, 3) := by decide +kernel
theorem d_cX5_sweep_98 : decode cX5_sweep 98 = .ok (.iload 5, 2) := by decide +kernel
theorem d_cX5_sweep_100 : decode cX5_sweep 100 = .ok (.lload 6, 2) := by decide +kernel
theorem d_cX5_sweep_102 : decode cX5_sweep 102 = .ok (.lastore, 1) := by decide +kernel
theorem d_cX5_sweep_103 : decode cX5_sweep 103 = .ok (.iinc 4 1, 3) := by decide +kernel
theorem d_cX5_sweep_106 : decode cX5_sweep 106 = .ok (.goto (-84), 3) := by decide +kernel
theorem d_cX5_sweep_109 : decode cX5_sweep 109 = .ok (.iinc 3 (-1), 3) := by decide +kernel
theorem d_cX5_sweep_112 : decode cX5_sweep 112 = .ok (.goto (-103), 3) := by decide +kernel
theorem d_cX5_sweep_115 : decode cX5_sweep 115 = .ok (.iload_n 2, 1) := by decide +kernel
theorem d_cX5_sweep_116 : decode cX5_sweep 116 = .ok (.ireturn, 1) := by decide +kernel
theorem d_cX6_deepen_0 : decode cX6_deepen 0 = .ok (.iconst 0, 1) := by decide +kernel
theorem d_cX6_deepen_1 : decode cX6_deepen 1 = .ok (.istore_n 3, 1) := by decide +kernel
theorem d_cX6_deepen_2 : decode cX6_deepen 2 = .ok (.iload_n 3, 1) := by decide +kernel
theorem d_cX6_deepen_3 : decode cX6_deepen 3 = .ok (.bipush 40, 2) := by decide +kernel
theorem d_cX6_deepen_5 : decode cX6_deepen 5 = .ok (.if_icmp .ge 39, 3) := by decide +kernel
theorem d_cX6_deepen_8 : decode cX6_deepen 8 = .ok (.lload_n 1, 1) := by decide +kernel
theorem d_cX6_deepen_9 : decode cX6_deepen 9 = .ok (.iload_n 3, 1) := by decide +kernel
theorem d_cX6_deepen_10 : decode cX6_deepen 10 = .ok (.lshr, 1) := by decide +kernel
theorem d_cX6_deepen_11 : decode cX6_deepen 11 = .ok (.lconst 1, 1) := by decide +kernel
theorem d_cX6_deepen_12 : decode cX6_deepen 12 = .ok (.land, 1) := by decide +kernel
theorem d_cX6_deepen_13 : decode cX6_deepen 13 = .ok (.lconst 0, 1) := by decide +kernel
theorem d_cX6_deepen_14 : decode cX6_deepen 14 = .ok (.lcmp, 1) := by decide +kernel
theorem d_cX6_deepen_15 : decode cX6_deepen 15 = .ok (.ifCond .eq 23, 3) := by decide +kernel
theorem d_cX6_deepen_18 : decode cX6_deepen 18 = .ok (.aload_n 0, 1) := by decide +kernel
theorem d_cX6_deepen_19 : decode cX6_deepen 19 = .ok (.getfield 18, 3) := by decide +kernel
theorem d_cX6_deepen_22 : decode cX6_deepen 22 = .ok (.iload_n 3, 1) := by decide +kernel
theorem d_cX6_deepen_23 : decode cX6_deepen 23 = .ok (.iaload, 1) := by decide +kernel
theorem d_cX6_deepen_24 : decode cX6_deepen 24 = .ok (.iconst 4, 1) := by decide +kernel
theorem d_cX6_deepen_25 : decode cX6_deepen 25 = .ok (.if_icmp .ge 13, 3) := by decide +kernel
theorem d_cX6_deepen_28 : decode cX6_deepen 28 = .ok (.aload_n 0, 1) := by decide +kernel
theorem d_cX6_deepen_29 : decode cX6_deepen 29 = .ok (.getfield 18, 3) := by decide +kernel
theorem d_cX6_deepen_32 : decode cX6_deepen 32 = .ok (.iload_n 3, 1) := by decide +kernel
theorem d_cX6_deepen_33 : decode cX6_deepen 33 = .ok (.dup2, 1) := by decide +kernel
theorem d_cX6_deepen_34 : decode cX6_deepen 34 = .ok (.iaload, 1) := by decide +kernel
theorem d_cX6_deepen_35 : decode cX6_deepen 35 = .ok (.iconst 1, 1) := by decide +kernel
theorem d_cX6_deepen_36 : decode cX6_deepen 36 = .ok (.iadd, 1) := by decide +kernel
theorem d_cX6_deepen_37 : decode cX6_deepen 37 = .ok (.iastore, 1) := by decide +kernel
theorem d_cX6_deepen_38 : decode cX6_deepen 38 = .ok (.iinc 3 1, 3) := by decide +kernel
theorem d_cX6_deepen_41 : decode cX6_deepen 41 = .ok (.goto (-39), 3) := by decide +kernel
theorem d_cX6_deepen_44 : decode cX6_deepen 44 = .ok (.return_, 1) := by decide +kernel
theorem d_cX6_depth_0 : decode cX6_depth 0 = .ok (.iload_n 1, 1) := by decide +kernel
theorem d_cX6_depth_1 : decode cX6_depth 1 = .ok (.ifCond .lt 18, 3) := by decide +kernel
theorem d_cX6_depth_4 : decode cX6_depth 4 = .ok (.iload_n 1, 1) := by decide +kernel
theorem d_cX6_depth_5 : decode cX6_depth 5 = .ok (.bipush 40, 2) := by decide +kernel
theorem d_cX6_depth_7 : decode cX6_depth 7 = .ok (.if_icmp .ge 12, 3) := by decide +kernel
theorem d_cX6_depth_10 : decode cX6_depth 10 = .ok (.aload_n 0, 1) := by decide +kernel
theorem d_cX6_depth_11 : decode cX6_depth 11 = .ok (.getfield 18, 3) := by decide +kernel
theorem d_cX6_depth_14 : decode cX6_depth 14 = .ok (.iload_n 1, 1) := by decide +kernel
theorem d_cX6_depth_15 : decode cX6_depth 15 = .ok (.iaload, 1) := by decide +kernel
theorem d_cX6_depth_16 : decode cX6_depth 16 = .ok (.goto 4, 3) := by decide +kernel
theorem d_cX6_depth_19 : decode cX6_depth 19 = .ok (.iconst 0, 1) := by decide +kernel
theorem d_cX6_depth_20 : decode cX6_depth 20 = .ok (.ireturn, 1) := by decide +kernel
theorem d_cX6_factor_0 : decode cX6_factor 0 = .ok (.iconst 1, 1) := by decide +kernel
theorem d_cX6_factor_1 : decode cX6_factor 1 = .ok (.istore_n 2, 1) := by decide +kernel
theorem d_cX6_factor_2 : decode cX6_factor 2 = .ok (.iconst 0, 1) := by decide +kernel
theorem d_cX6_factor_3 : decode cX6_factor 3 = .ok (.istore_n 3, 1) := by decide +kernel
theorem d_cX6_factor_4 : decode cX6_factor 4 = .ok (.iload_n 3, 1) := by decide +kernel
theorem d_cX6_factor_5 : decode cX6_factor 5 = .ok (.aload_n 0, 1) := by decide +kernel
theorem d_cX6_factor_6 : decode cX6_factor 6 = .ok (.iload_n 1, 1) := by decide +kernel
theorem d_cX6_factor_7 : decode cX6_factor 7 = .ok (.invokevirtual 22, 3) := by decide +kernel
theorem d_cX6_factor_10 : decode cX6_factor 10 = .ok (.if_icmp .ge 14, 3) := by decide +kernel
theorem d_cX6_factor_13 : decode cX6_factor 13 = .ok (.iload_n 2, 1) := by decide +kernel
theorem d_cX6_factor_14 : decode cX6_factor 14 = .ok (.bipush 10, 2) := by decide +kernel
theorem d_cX6_factor_16 : decode cX6_factor 16 = .ok (.imul, 1) := by decide +kernel
theorem d_cX6_factor_17 : decode cX6_factor 17 = .ok (.istore_n 2, 1) := by decide +kernel
theorem d_cX6_factor_18 : decode cX6_factor 18 = .ok (.iinc 3 1, 3) := by decide +kernel
theorem d_cX6_factor_21 : decode cX6_factor 21 = .ok (.goto (-17), 3) := by decide +kernel
theorem d_cX6_factor_24 : decode cX6_factor 24 = .ok (.iload_n 2, 1) := by decide +kernel
theorem d_cX6_factor_25 : decode cX6_factor 25 = .ok (.ireturn, 1) := by decide +kernel
theorem d_cX6_find_0 : decode cX6_find 0 = .ok (.aload_n 0, 1) := by decide +kernel
theorem d_cX6_find_1 : decode cX6_find 1 = .ok (.getfield 9, 3) := by decide +kernel
theorem d_cX6_find_4 : decode cX6_find 4 = .ok (.lconst 0, 1) := by decide +kernel
theorem d_cX6_find_5 : decode cX6_find 5 = .ok (.invokestatic 25, 3) := by decide +kernel
theorem d_cX6_find_8 : decode cX6_find 8 = .ok (.aload_n 0, 1) := by decide +kernel
theorem d_cX6_find_9 : decode cX6_find 9 = .ok (.getfield 15, 3) := by decide +kernel
theorem d_cX6_find_12 : decode cX6_find 12 = .ok (.lconst 0, 1) := by decide +kernel
theorem d_cX6_find_13 : decode cX6_find 13 = .ok (.invokestatic 25, 3) := by decide +kernel
theorem d_cX6_find_16 : decode cX6_find 16 = .ok (.aload_n 0, 1) := by decide +kernel
theorem d_cX6_find_17 : decode cX6_find 17 = .ok (.getfield 18, 3) := by decide +kernel
theorem d_cX6_find_20 : decode cX6_find 20 = .ok (.iconst 0, 1) := by decide +kernel
theorem d_cX6_find_21 : decode cX6_find 21 = .ok (.invokestatic 31, 3) := by decide +kernel
theorem d_cX6_find_24 : decode cX6_find 24 = .ok (.iconst 0, 1) := by decide +kernel
theorem d_cX6_find_25 : decode cX6_find 25 = .ok (.istore_n 2, 1) := by decide +kernel
theorem d_cX6_find_26 : decode cX6_find 26 = .ok (.iload_n 2, 1) := by decide +kernel
theorem d_cX6_find_27 : decode cX6_find 27 = .ok (.aload_n 1, 1) := by decide +kernel
theorem d_cX6_find_28 : decode cX6_find 28 = .ok (.getfield 34, 3) := by decide +kernel
theorem d_cX6_find_31 : decode cX6_find 31 = .ok (.if_icmp .ge 31, 3) := by decide +kernel
theorem d_cX6_find_34 : decode cX6_find 34 = .ok (.aload_n 0, 1) := by decide +kernel
theorem d_cX6_find_35 : decode cX6_find 35 = .ok (.iload_n 2, 1) := by decide +kernel
theorem d_cX6_find_36 : decode cX6_find 36 = .ok (.aload_n 1, 1) := by decide +kernel
theorem d_cX6_find_37 : decode cX6_find 37 = .ok (.getfield 40, 3) := by decide +kernel
theorem d_cX6_find_40 : decode cX6_find 40 = .ok (.iload_n 2, 1) := by decide +kernel
theorem d_cX6_find_41 : decode cX6_find 41 = .ok (.iaload, 1) := by decide +kernel
theorem d_cX6_find_42 : decode cX6_find 42 = .ok (.invokevirtual 43, 3) := by decide +kernel
theorem d_cX6_find_45 : decode cX6_find 45 = .ok (.aload_n 0, 1) := by decide +kernel
theorem d_cX6_find_46 : decode cX6_find 46 = .ok (.iload_n 2, 1) := by decide +kernel
theorem d_cX6_find_47 : decode cX6_find 47 = .ok (.aload_n 1, 1) := by decide +kernel
theorem d_cX6_find_48 : decode cX6_find 48 = .ok (.getfield 47, 3) := by decide +kernel
theorem d_cX6_find_51 : decode cX6_find 51 = .ok (.iload_n 2, 1) := by decide +kernel
theorem d_cX6_find_52 : decode cX6_find 52 = .ok (.iaload, 1) := by decide +kernel
theorem d_cX6_find_53 : decode cX6_find 53 = .ok (.invokevirtual 43, 3) := by decide +kernel
theorem d_cX6_find_56 : decode cX6_find 56 = .ok (.iinc 2 1, 3) := by decide +kernel
theorem d_cX6_find_59 : decode cX6_find 59 = .ok (.goto (-33), 3) := by decide +kernel
theorem d_cX6_find_62 : decode cX6_find 62 = .ok (.aload_n 0, 1) := by decide +kernel
theorem d_cX6_find_63 : decode cX6_find 63 = .ok (.getfield 9, 3) := by decide +kernel
theorem d_cX6_find_66 : decode cX6_find 66 = .ok (.lconst 1, 1) := by decide +kernel
theorem d_cX6_find_67 : decode cX6_find 67 = .ok (.lconst 0, 1) := by decide +kernel
theorem d_cX6_find_68 : decode cX6_find 68 = .ok (.invokestatic 50, 3) := by decide +kernel
theorem d_cX6_find_71 : decode cX6_find 71 = .ok (.lstore_n 2, 1) := by decide +kernel
theorem d_cX6_find_72 : decode cX6_find 72 = .ok (.iconst 0, 1) := by decide +kernel
theorem d_cX6_find_73 : decode cX6_find 73 = .ok (.istore 4, 2) := by decide +kernel
theorem d_cX6_find_75 : decode cX6_find 75 = .ok (.iload 4, 2) := by decide +kernel
theorem d_cX6_find_77 : decode cX6_find 77 = .ok (.aload_n 1, 1) := by decide +kernel
theorem d_cX6_find_78 : decode cX6_find 78 = .ok (.getfield 34, 3) := by decide +kernel
theorem d_cX6_find_81 : decode cX6_find 81 = .ok (.if_icmp .ge 20, 3) := by decide +kernel
theorem d_cX6_find_84 : decode cX6_find 84 = .ok (.aload_n 0, 1) := by decide +kernel
theorem d_cX6_find_85 : decode cX6_find 85 = .ok (.aload_n 0, 1) := by decide +kernel
theorem d_cX6_find_86 : decode cX6_find 86 = .ok (.iload 4, 2) := by decide +kernel
theorem d_cX6_find_88 : decode cX6_find 88 = .ok (.lload_n 2, 1) := by decide +kernel
theorem d_cX6_find_89 : decode cX6_find 89 = .ok (.invokevirtual 54, 3) := by decide +kernel
theorem d_cX6_find_92 : decode cX6_find 92 = .ok (.invokevirtual 58, 3) := by decide +kernel
theorem d_cX6_find_95 : decode cX6_find 95 = .ok (.iinc 4 1, 3) := by decide +kernel
theorem d_cX6_find_98 : decode cX6_find 98 = .ok (.goto (-23), 3) := by decide +kernel
theorem d_cX6_find_101 : decode cX6_find 101 = .ok (.return_, 1) := by decide +kernel
theorem d_cX6_link_0 : decode cX6_link 0 = .ok (.iload_n 2, 1) := by decide +kernel
theorem d_cX6_link_1 : decode cX6_link 1 = .ok (.ifCond .lt 33, 3) := by decide +kernel
theorem d_cX6_link_4 : decode cX6_link 4 = .ok (.iload_n 2, 1) := by decide +kernel
theorem d_cX6_link_5 : decode cX6_link 5 = .ok (.bipush 40, 2) := by decide +kernel
theorem d_cX6_link_7 : decode cX6_link 7 = .ok (.if_icmp .ge 27, 3) := by decide +kernel
theorem d_cX6_link_10 : decode cX6_link 10 = .ok (.aload_n 0, 1) := by decide +kernel
theorem d_cX6_link_11 : decode cX6_link 11 = .ok (.getfield 9, 3) := by decide +kernel
theorem d_cX6_link_14 : decode cX6_link 14 = .ok (.iload_n 1, 1) := by decide +kernel
theorem d_cX6_link_15 : decode cX6_link 15 = .ok (.dup2, 1) := by decide +kernel
theorem d_cX6_link_16 : decode cX6_link 16 = .ok (.laload, 1) := by decide +kernel
theorem d_cX6_link_17 : decode cX6_link 17 = .ok (.lconst 1, 1) := by decide +kernel
theorem d_cX6_link_18 : decode cX6_link 18 = .ok (.iload_n 2, 1) := by decide +kernel
theorem d_cX6_link_19 : decode cX6_link 19 = .ok (.lshl, 1) := by decide +kernel
theorem d_cX6_link_20 : decode cX6_link 20 = .ok (.lor, 1) := by decide +kernel
theorem d_cX6_link_21 : decode cX6_link 21 = .ok (.lastore, 1) := by decide +kernel
theorem d_cX6_link_22 : decode cX6_link 22 = .ok (.aload_n 0, 1) := by decide +kernel
theorem d_cX6_link_23 : decode cX6_link 23 = .ok (.getfield 15, 3) := by decide +kernel
theorem d_cX6_link_26 : decode cX6_link 26 = .ok (.iload_n 2, 1) := by decide +kernel
theorem d_cX6_link_27 : decode cX6_link 27 = .ok (.dup2, 1) := by decide +kernel
theorem d_cX6_link_28 : decode cX6_link 28 = .ok (.laload, 1) := by decide +kernel
theorem d_cX6_link_29 : decode cX6_link 29 = .ok (.lconst 1, 1) := by decide +kernel
theorem d_cX6_link_30 : decode cX6_link 30 = .ok (.iload_n 1, 1) := by decide +kernel
theorem d_cX6_link_31 : decode cX6_link 31 = .ok (.lshl, 1) := by decide +kernel
theorem d_cX6_link_32 : decode cX6_link 32 = .ok (.lor, 1) := by decide +kernel
theorem d_cX6_link_33 : decode cX6_link 33 = .ok (.lastore, 1) := by decide +kernel
theorem d_cX6_link_34 : decode cX6_link 34 = .ok (.return_, 1) := by decide +kernel
theorem d_cX6_loopOf_0 : decode cX6_loopOf 0 = .ok (.lconst 1, 1) := by decide +kernel
theorem d_cX6_loopOf_1 : decode cX6_loopOf 1 = .ok (.iload_n 1, 1) := by decide +kernel
theorem d_cX6_loopOf_2 : decode cX6_loopOf 2 = .ok (.lshl, 1) := by decide +kernel
theorem d_cX6_loopOf_3 : decode cX6_loopOf 3 = .ok (.lstore 4, 2) := by decide +kernel
theorem d_cX6_loopOf_5 : decode cX6_loopOf 5 = .ok (.aload_n 0, 1) := by decide +kernel
theorem d_cX6_loopOf_6 : decode cX6_loopOf 6 = .ok (.getfield 9, 3) := by decide +kernel
theorem d_cX6_loopOf_9 : decode cX6_loopOf 9 = .ok (.lconst 1, 1) := by decide +kernel
theorem d_cX6_loopOf_10 : decode cX6_loopOf 10 = .ok (.lload 4, 2) := by decide +kernel
theorem d_cX6_loopOf_12 : decode cX6_loopOf 12 = .ok (.invokestatic 50, 3) := by decide +kernel
theorem d_cX6_loopOf_15 : decode cX6_loopOf 15 = .ok (.lstore 6, 2) := by decide +kernel
theorem d_cX6_loopOf_17 : decode cX6_loopOf 17 = .ok (.aload_n 0, 1) := by decide +kernel
theorem d_cX6_loopOf_18 : decode cX6_loopOf 18 = .ok (.getfield 15, 3) := by decide +kernel
theorem d_cX6_loopOf_21 : decode cX6_loopOf 21 = .ok (.iload_n 1, 1) := by decide +kernel
theorem d_cX6_loopOf_22 : decode cX6_loopOf 22 = .ok (.laload, 1) := by decide +kernel
theorem d_cX6_loopOf_23 : decode cX6_loopOf 23 = .ok (.lload_n 2, 1) := by decide +kernel
theorem d_cX6_loopOf_24 : decode cX6_loopOf 24 = .ok (.land, 1) := by decide +kernel
theorem d_cX6_loopOf_25 : decode cX6_loopOf 25 = .ok (.lload 6, 2) := by decide +kernel
theorem d_cX6_loopOf_27 : decode cX6_loopOf 27 = .ok (.ldc2_w 62, 3) := by decide +kernel
theorem d_cX6_loopOf_30 : decode cX6_loopOf 30 = .ok (.lxor, 1) := by decide +kernel
theorem d_cX6_loopOf_31 : decode cX6_loopOf 31 = .ok (.land, 1) := by decide +kernel
theorem d_cX6_loopOf_32 : decode cX6_loopOf 32 = .ok (.lstore 8, 2) := by decide +kernel
theorem d_cX6_loopOf_34 : decode cX6_loopOf 34 = .ok (.lload 8, 2) := by decide +kernel
theorem d_cX6_loopOf_36 : decode cX6_loopOf 36 = .ok (.lconst 0, 1) := by decide +kernel
theorem d_cX6_loopOf_37 : decode cX6_loopOf 37 = .ok (.lcmp, 1) := by decide +kernel
theorem d_cX6_loopOf_38 : decode cX6_loopOf 38 = .ok (.ifCond .ne 7, 3) := by decide +kernel
theorem d_cX6_loopOf_41 : decode cX6_loopOf 41 = .ok (.lconst 0, 1) := by decide +kernel
theorem d_cX6_loopOf_42 : decode cX6_loopOf 42 = .ok (.goto 23, 3) := by decide +kernel
theorem d_cX6_loopOf_45 : decode cX6_loopOf 45 = .ok (.lload 4, 2) := by decide +kernel
theorem d_cX6_loopOf_47 : decode cX6_loopOf 47 = .ok (.aload_n 0, 1) := by decide +kernel
theorem d_cX6_loopOf_48 : decode cX6_loopOf 48 = .ok (.getfield 15, 3) := by decide +kernel
theorem d_cX6_loopOf_51 : decode cX6_loopOf 51 = .ok (.lload 8, 2) := by decide +kernel
theorem d_cX6_loopOf_53 : decode cX6_loopOf 53 = .ok (.lload 4, 2) := by decide +kernel
theorem d_cX6_loopOf_55 : decode cX6_loopOf 55 = .ok (.lload_n 2, 1) := by decide +kernel
theorem d_cX6_loopOf_56 : decode cX6_loopOf 56 = .ok (.ldc2_w 62, 3) := by decide +kernel
theorem d_cX6_loopOf_59 : decode cX6_loopOf 59 = .ok (.lxor, 1) := by decide +kernel
theorem d_cX6_loopOf_60 : decode cX6_loopOf 60 = .ok (.lor, 1) := by decide +kernel
theorem d_cX6_loopOf_61 : decode cX6_loopOf 61 = .ok (.invokestatic 50, 3) := by decide +kernel
theorem d_cX6_loopOf_64 : decode cX6_loopOf 64 = .ok (.lor, 1) := by decide +kernel
theorem d_cX6_loopOf_65 : decode cX6_loopOf 65 = .ok (.lreturn, 1) := by decide +kernel
theorem d_cX6_walk_0 : decode cX6_walk 0 = .ok (.lload_n 1, 1) := by decide +kernel
theorem d_cX6_walk_1 : decode cX6_walk 1 = .ok (.lload_n 3, 1) := by decide +kernel
theorem d_cX6_walk_2 : decode cX6_walk 2 = .ok (.ldc2_w 62, 3) := by decide +kernel
theorem d_cX6_walk_5 : decode cX6_walk 5 = .ok (.lxor, 1) := by decide +kernel
theorem d_cX6_walk_6 : decode cX6_walk 6 = .ok (.land, 1) := by decide +kernel
theorem d_cX6_walk_7 : decode cX6_walk 7 = .ok (.lstore 5, 2) := by decide +kernel
theorem d_cX6_walk_9 : decode cX6_walk 9 = .ok (.iconst 0, 1) := by decide +kernel
theorem d_cX6_walk_10 : decode cX6_walk 10 = .ok (.istore 7, 2) := by decide +kernel
theorem d_cX6_walk_12 : decode cX6_walk 12 = .ok (.iload 7, 2) := by decide +kernel
theorem d_cX6_walk_14 : decode cX6_walk 14 = .ok (.aload_n 0, 1) := by decide +kernel
theorem d_cX6_walk_15 : decode cX6_walk 15 = .ok (.arraylength, 1) := by decide +kernel
theorem d_cX6_walk_16 : decode cX6_walk 16 = .ok (.if_icmp .ge 71, 3) := by decide +kernel
theorem d_cX6_walk_19 : decode cX6_walk 19 = .ok (.lload 5, 2) := by decide +kernel
theorem d_cX6_walk_21 : decode cX6_walk 21 = .ok (.lstore 8, 2) := by decide +kernel
theorem d_cX6_walk_23 : decode cX6_walk 23 = .ok (.iconst 0, 1) := by decide +kernel
theorem d_cX6_walk_24 : decode cX6_walk 24 = .ok (.istore 10, 2) := by decide +kernel
theorem d_cX6_walk_26 : decode cX6_walk 26 = .ok (.iload 10, 2) := by decide +kernel
theorem d_cX6_walk_28 : decode cX6_walk 28 = .ok (.aload_n 0, 1) := by decide +kernel
theorem d_cX6_walk_29 : decode cX6_walk 29 = .ok (.arraylength, 1) := by decide +kernel
theorem d_cX6_walk_30 : decode cX6_walk 30 = .ok (.if_icmp .ge 36, 3) := by decide +kernel
theorem d_cX6_walk_33 : decode cX6_walk 33 = .ok (.lload 5, 2) := by decide +kernel
theorem d_cX6_walk_35 : decode cX6_walk 35 = .ok (.iload 10, 2) := by decide +kernel
theorem d_cX6_walk_37 : decode cX6_walk 37 = .ok (.lshr, 1) := by decide +kernel
theorem d_cX6_walk_38 : decode cX6_walk 38 = .ok (.lconst 1, 1) := by decide +kernel
theorem d_cX6_walk_39 : decode cX6_walk 39 = .ok (.land, 1) := by decide +kernel
theorem d_cX6_walk_40 : decode cX6_walk 40 = .ok (.lconst 0, 1) := by decide +kernel
theorem d_cX6_walk_41 : decode cX6_walk 41 = .ok (.lcmp, 1) := by decide +kernel
theorem d_cX6_walk_42 : decode cX6_walk 42 = .ok (.ifCond .eq 18, 3) := by decide +kernel
theorem d_cX6_walk_45 : decode cX6_walk 45 = .ok (.lload 8, 2) := by decide +kernel
theorem d_cX6_walk_47 : decode cX6_walk 47 = .ok (.aload_n 0, 1) := by decide +kernel
theorem d_cX6_walk_48 : decode cX6_walk 48 = .ok (.iload 10, 2) := by decide +kernel
theorem d_cX6_walk_50 : decode cX6_walk 50 = .ok (.laload, 1) := by decide +kernel
theorem d_cX6_walk_51 : decode cX6_walk 51 = .ok (.lload_n 3, 1) := by decide +kernel
theorem d_cX6_walk_52 : decode cX6_walk 52 = .ok (.ldc2_w 62, 3) := by decide +kernel
theorem d_cX6_walk_55 : decode cX6_walk 55 = .ok (.lxor, 1) := by decide +kernel
theorem d_cX6_walk_56 : decode cX6_walk 56 = .ok (.land, 1) := by decide +kernel
theorem d_cX6_walk_57 : decode cX6_walk 57 = .ok (.lor, 1) := by decide +kernel
theorem d_cX6_walk_58 : decode cX6_walk 58 = .ok (.lstore 8, 2) := by decide +kernel
theorem d_cX6_walk_60 : decode cX6_walk 60 = .ok (.iinc 10 1, 3) := by decide +kernel
theorem d_cX6_walk_63 : decode cX6_walk 63 = .ok (.goto (-37), 3) := by decide +kernel
theorem d_cX6_walk_66 : decode cX6_walk 66 = .ok (.lload 8, 2) := by decide +kernel
theorem d_cX6_walk_68 : decode cX6_walk 68 = .ok (.lload 5, 2) := by decide +kernel
theorem d_cX6_walk_70 : decode cX6_walk 70 = .ok (.lcmp, 1) := by decide +kernel
theorem d_cX6_walk_71 : decode cX6_walk 71 = .ok (.ifCond .ne 6, 3) := by decide +kernel
theorem d_cX6_walk_74 : decode cX6_walk 74 = .ok (.lload 5, 2) := by decide +kernel
theorem d_cX6_walk_76 : decode cX6_walk 76 = .ok (.lreturn, 1) := by decide +kernel
theorem d_cX6_walk_77 : decode cX6_walk 77 = .ok (.lload 8, 2) := by decide +kernel
theorem d_cX6_walk_79 : decode cX6_walk 79 = .ok (.lstore 5, 2) := by decide +kernel
theorem d_cX6_walk_81 : decode cX6_walk 81 = .ok (.iinc 7 1, 3) := by decide +kernel
theorem d_cX6_walk_84 : decode cX6_walk 84 = .ok (.goto (-72), 3) := by decide +kernel
theorem d_cX6_walk_87 : decode cX6_walk 87 = .ok (.lload 5, 2) := by decide +kernel
theorem d_cX6_walk_89 : decode cX6_walk 89 = .ok (.lreturn, 1) := by decide +kernel
theorem d_cX7_addShow_0 : decode cX7_addShow 0 = .ok (.aload_n 0, 1) := by decide +kernel
theorem d_cX7_addShow_1 : decode cX7_addShow 1 = .ok (.getfield 50, 3) := by decide +kernel
theorem d_cX7_addShow_4 : decode cX7_addShow 4 = .ok (.sipush 512, 3) := by decide +kernel
theorem d_cX7_addShow_7 : decode cX7_addShow 7 = .ok (.if_icmp .lt 5, 3) := by decide +kernel
theorem d_cX7_addShow_10 : decode cX7_addShow 10 = .ok (.iconst 0, 1) := by decide +kernel
theorem d_cX7_addShow_11 : decode cX7_addShow 11 = .ok (.ireturn, 1) := by decide +kernel
theorem d_cX7_addShow_12 : decode cX7_addShow 12 = .ok (.aload_n 0, 1) := by decide +kernel
theorem d_cX7_addShow_13 : decode cX7_addShow 13 = .ok (.getfield 21, 3) := by decide +kernel
theorem d_cX7_addShow_16 : decode cX7_addShow 16 = .ok (.aload_n 0, 1) := by decide +kernel
theorem d_cX7_addShow_17 : decode cX7_addShow 17 = .ok (.getfield 50, 3) := by decide +kernel
theorem d_cX7_addShow_20 : decode cX7_addShow 20 = .ok (.iload_n 1, 1) := by decide +kernel
theorem d_cX7_addShow_21 : decode cX7_addShow 21 = .ok (.iastore, 1) := by decide +kernel
theorem d_cX7_addShow_22 : decode cX7_addShow 22 = .ok (.aload_n 0, 1) := by decide +kernel
theorem d_cX7_addShow_23 : decode cX7_addShow 23 = .ok (.dup, 1) := by decide +kernel
theorem d_cX7_addShow_24 : decode cX7_addShow 24 = .ok (.getfield 50, 3) := by decide +kernel
theorem d_cX7_addShow_27 : decode cX7_addShow 27 = .ok (.iconst 1, 1) := by decide +kernel
theorem d_cX7_addShow_28 : decode cX7_addShow 28 = .ok (.iadd, 1) := by decide +kernel
theorem d_cX7_addShow_29 : decode cX7_addShow 29 = .ok (.putfield 50, 3) := by decide +kernel
theorem d_cX7_addShow_32 : decode cX7_addShow 32 = .ok (.iconst 1, 1) := by decide +kernel
theorem d_cX7_addShow_33 : decode cX7_addShow 33 = .ok (.ireturn, 1) := by decide +kernel
theorem d_cX7_answer_0 : decode cX7_answer 0 = .ok (.aload_n 0, 1) := by decide +kernel
theorem d_cX7_answer_1 : decode cX7_answer 1 = .ok (.getfield 47, 3) := by decide +kernel
theorem d_cX7_answer_4 : decode cX7_answer 4 = .ok (.ireturn, 1) := by decide +kernel
theorem d_cX7_calculate_0 : decode cX7_calculate 0 = .ok (.iload_n 0, 1) := by decide +kernel
theorem d_cX7_calculate_1 : decode cX7_calculate 1 = .ok (.tableswitch 171 0 13 #[71, 75, 79, 83, 95, 107, 111, 115, 119, 123, 127, 138, 149, 160], 71) := by decide +kernel
theorem d_cX7_calculate_72 : decode cX7_calculate 72 = .ok (.iload_n 1, 1) := by decide +kernel
theorem d_cX7_calculate_73 : decode cX7_calculate 73 = .ok (.iload_n 2, 1) := by decide +kernel
theorem d_cX7_calculate_74 : decode cX7_calculate 74 = .ok (.iadd, 1) := by decide +kernel
theorem d_cX7_calculate_75 : decode cX7_calculate 75 = .ok (.ireturn, 1) := by decide +kernel
theorem d_cX7_calculate_76 : decode cX7_calculate 76 = .ok (.iload_n 1, 1) := by decide +kernel
theorem d_cX7_calculate_77 : decode cX7_calculate 77 = .ok (.iload_n 2, 1) := by decide +kernel
theorem d_cX7_calculate_78 : decode cX7_calculate 78 = .ok (.isub, 1) := by decide +kernel
theorem d_cX7_calculate_79 : decode cX7_calculate 79 = .ok (.ireturn, 1) := by decide +kernel
theorem d_cX7_calculate_80 : decode cX7_calculate 80 = .ok (.iload_n 1, 1) := by decide +kernel
theorem d_cX7_calculate_81 : decode cX7_calculate 81 = .ok (.iload_n 2, 1) := by decide +kernel
theorem d_cX7_calculate_82 : decode cX7_calculate 82 = .ok (.imul, 1) := by decide +kernel
theorem d_cX7_calculate_83 : decode cX7_calculate 83 = .ok (.ireturn, 1) := by decide +kernel
theorem d_cX7_calculate_84 : decode cX7_calculate 84 = .ok (.iload_n 2, 1) := by decide +kernel
theorem d_cX7_calculate_85 : decode cX7_calculate 85 = .ok (.ifCond .ne 7, 3) := by decide +kernel
theorem d_cX7_calculate_88 : decode cX7_calculate 88 = .ok (.iconst 0, 1) := by decide +kernel
theorem d_cX7_calculate_89 : decode cX7_calculate 89 = .ok (.goto 6, 3) := by decide +kernel
theorem d_cX7_calculate_92 : decode cX7_calculate 92 = .ok (.iload_n 1, 1) := by decide +kernel
theorem d_cX7_calculate_93 : decode cX7_calculate 93 = .ok (.iload_n 2, 1) := by decide +kernel
theorem d_cX7_calculate_94 : decode cX7_calculate 94 = .ok (.idiv, 1) := by decide +kernel
theorem d_cX7_calculate_95 : decode cX7_calculate 95 = .ok (.ireturn, 1) := by decide +kernel
theorem d_cX7_calculate_96 : decode cX7_calculate 96 = .ok (.iload_n 2, 1) := by decide +kernel
theorem d_cX7_calculate_97 : decode cX7_calculate 97 = .ok (.ifCond .ne 7, 3) := by decide +kernel
theorem d_cX7_calculate_100 : decode cX7_calculate 100 = .ok (.iconst 0, 1) := by decide +kernel
theorem d_cX7_calculate_101 : decode cX7_calculate 101 = .ok (.goto 6, 3) := by decide +kernel
theorem d_cX7_calculate_104 : decode cX7_calculate 104 = .ok (.iload_n 1, 1) := by decide +kernel
theorem d_cX7_calculate_105 : decode cX7_calculate 105 = .ok (.iload_n 2, 1) := by decide +kernel
theorem d_cX7_calculate_106 : decode cX7_calculate 106 = .ok (.irem, 1) := by decide +kernel
theorem d_cX7_calculate_107 : decode cX7_calculate 107 = .ok (.ireturn, 1) := by decide +kernel
theorem d_cX7_calculate_108 : decode cX7_calculate 108 = .ok (.iload_n 1, 1) := by decide +kernel
theorem d_cX7_calculate_109 : decode cX7_calculate 109 = .ok (.iload_n 2, 1) := by decide +kernel
theorem d_cX7_calculate_110 : decode cX7_calculate 110 = .ok (.iand, 1) := by decide +kernel
theorem d_cX7_calculate_111 : decode cX7_calculate 111 = .ok (.ireturn, 1) := by decide +kernel
theorem d_cX7_calculate_112 : decode cX7_calculate 112 = .ok (.iload_n 1, 1) := by decide +kernel
theorem d_cX7_calculate_113 : decode cX7_calculate 113 = .ok (.iload_n 2, 1) := by decide +kernel
theorem d_cX7_calculate_114 : decode cX7_calculate 114 = .ok (.ior, 1) := by decide +kernel
theorem d_cX7_calculate_115 : decode cX7_calculate 115 = .ok (.ireturn, 1) := by decide +kernel
theorem d_cX7_calculate_116 : decode cX7_calculate 116 = .ok (.iload_n 1, 1) := by decide +kernel
theorem d_cX7_calculate_117 : decode cX7_calculate 117 = .ok (.iload_n 2, 1) := by decide +kernel
theorem d_cX7_calculate_118 : decode cX7_calculate 118 = .ok (.ixor, 1) := by decide +kernel
theorem d_cX7_calculate_119 : decode cX7_calculate 119 = .ok (.ireturn, 1) := by decide +kernel
theorem d_cX7_calculate_120 : decode cX7_calculate 120 = .ok (.iload_n 1, 1) := by decide +kernel
theorem d_cX7_calculate_121 : decode cX7_calculate 121 = .ok (.iload_n 2, 1) := by decide +kernel
theorem d_cX7_calculate_122 : decode cX7_calculate 122 = .ok (.ishl, 1) := by decide +kernel
theorem d_cX7_calculate_123 : decode cX7_calculate 123 = .ok (.ireturn, 1) := by decide +kernel
theorem d_cX7_calculate_124 : decode cX7_calculate 124 = .ok (.iload_n 1, 1) := by decide +kernel
theorem d_cX7_calculate_125 : decode cX7_calculate 125 = .ok (.iload_n 2, 1) := by decide +kernel
theorem d_cX7_calculate_126 : decode cX7_calculate 126 = .ok (.ishr, 1) := by decide +kernel
theorem d_cX7_calculate_127 : decode cX7_calculate 127 = .ok (.ireturn, 1) := by decide +kernel
theorem d_cX7_calculate_128 : decode cX7_calculate 128 = .ok (.iload_n 1, 1) := by decide +kernel
theorem d_cX7_calculate_129 : decode cX7_calculate 129 = .ok (.iload_n 2, 1) := by decide +kernel
theorem d_cX7_calculate_130 : decode cX7_calculate 130 = .ok (.if_icmp .ge 7, 3) := by decide +kernel
theorem d_cX7_calculate_133 : decode cX7_calculate 133 = .ok (.iconst 1, 1) := by decide +kernel
theorem d_cX7_calculate_134 : decode cX7_calculate 134 = .ok (.goto 4, 3) := by decide +kernel
theorem d_cX7_calculate_137 : decode cX7_calculate 137 = .ok (.iconst 0, 1) := by decide +kernel
theorem d_cX7_calculate_138 : decode cX7_calculate 138 = .ok (.ireturn, 1) := by decide +kernel
theorem d_cX7_calculate_139 : decode cX7_calculate 139 = .ok (.iload_n 1, 1) := by decide +kernel
theorem d_cX7_calculate_140 : decode cX7_calculate 140 = .ok (.iload_n 2, 1) := by decide +kernel
theorem d_cX7_calculate_141 : decode cX7_calculate 141 = .ok (.if_icmp .gt 7, 3) := by decide +kernel
theorem d_cX7_calculate_144 : decode cX7_calculate 144 = .ok (.iconst 1, 1) := by decide +kernel
theorem d_cX7_calculate_145 : decode cX7_calculate 145 = .ok (.goto 4, 3) := by decide +kernel
theorem d_cX7_calculate_148 : decode cX7_calculate 148 = .ok (.iconst 0, 1) := by decide +kernel
theorem d_cX7_calculate_149 : decode cX7_calculate 149 = .ok (.ireturn, 1) := by decide +kernel
theorem d_cX7_calculate_150 : decode cX7_calculate 150 = .ok (.iload_n 1, 1) := by decide +kernel
theorem d_cX7_calculate_151 : decode cX7_calculate 151 = .ok (.iload_n 2, 1) := by decide +kernel
theorem d_cX7_calculate_152 : decode cX7_calculate 152 = .ok (.if_icmp .ne 7, 3) := by decide +kernel
theorem d_cX7_calculate_155 : decode cX7_calculate 155 = .ok (.iconst 1, 1) := by decide +kernel
theorem d_cX7_calculate_156 : decode cX7_calculate 156 = .ok (.goto 4, 3) := by decide +kernel
theorem d_cX7_calculate_159 : decode cX7_calculate 159 = .ok (.iconst 0, 1) := by decide +kernel
theorem d_cX7_calculate_160 : decode cX7_calculate 160 = .ok (.ireturn, 1) := by decide +kernel
theorem d_cX7_calculate_161 : decode cX7_calculate 161 = .ok (.iload_n 1, 1) := by decide +kernel
theorem d_cX7_calculate_162 : decode cX7_calculate 162 = .ok (.iload_n 2, 1) := by decide +kernel
theorem d_cX7_calculate_163 : decode cX7_calculate 163 = .ok (.if_icmp .eq 7, 3) := by decide +kernel
theorem d_cX7_calculate_166 : decode cX7_calculate 166 = .ok (.iconst 1, 1) := by decide +kernel
theorem d_cX7_calculate_167 : decode cX7_calculate 167 = .ok (.goto 4, 3) := by decide +kernel
theorem d_cX7_calculate_170 : decode cX7_calculate 170 = .ok (.iconst 0, 1) := by decide +kernel
theorem d_cX7_calculate_171 : decode cX7_calculate 171 = .ok (.ireturn, 1) := by decide +kernel
theorem d_cX7_calculate_172 : decode cX7_calculate 172 = .ok (.iconst 0, 1) := by decide +kernel
theorem d_cX7_calculate_173 : decode cX7_calculate 173 = .ok (.ireturn, 1) := by decide +kernel
theorem d_cX7_ending_0 : decode cX7_ending 0 = .ok (.aload_n 0, 1) := by decide +kernel
theorem d_cX7_ending_1 : decode cX7_ending 1 = .ok (.getfield 24, 3) := by decide +kernel
theorem d_cX7_ending_4 : decode cX7_ending 4 = .ok (.ireturn, 1) := by decide +kernel
theorem d_cX7_enter_0 : decode cX7_enter 0 = .ok (.iload_n 2, 1) := by decide +kernel
theorem d_cX7_enter_1 : decode cX7_enter 1 = .ok (.ifCond .lt 11, 3) := by decide +kernel
theorem d_cX7_enter_4 : decode cX7_enter 4 = .ok (.iload_n 2, 1) := by decide +kernel
theorem d_cX7_enter_5 : decode cX7_enter 5 = .ok (.aload_n 1, 1) := by decide +kernel
theorem d_cX7_enter_6 : decode cX7_enter 6 = .ok (.getfield 128, 3) := by decide +kernel
theorem d_cX7_enter_9 : decode cX7_enter 9 = .ok (.if_icmp .lt 9, 3) := by decide +kernel
theorem d_cX7_enter_12 : decode cX7_enter 12 = .ok (.aload_n 0, 1) := by decide +kernel
theorem d_cX7_enter_13 : decode cX7_enter 13 = .ok (.iconst 4, 1) := by decide +kernel
theorem d_cX7_enter_14 : decode cX7_enter 14 = .ok (.invokevirtual 77, 3) := by decide +kernel
theorem d_cX7_enter_17 : decode cX7_enter 17 = .ok (.ireturn, 1) := by decide +kernel
theorem d_cX7_enter_18 : decode cX7_enter 18 = .ok (.aload_n 0, 1) := by decide +kernel
theorem d_cX7_enter_19 : decode cX7_enter 19 = .ok (.iload_n 2, 1) := by decide +kernel
theorem d_cX7_enter_20 : decode cX7_enter 20 = .ok (.putfield 65, 3) := by decide +kernel
theorem d_cX7_enter_23 : decode cX7_enter 23 = .ok (.aload_n 1, 1) := by decide +kernel
theorem d_cX7_enter_24 : decode cX7_enter 24 = .ok (.getfield 131, 3) := by decide +kernel
theorem d_cX7_enter_27 : decode cX7_enter 27 = .ok (.iload_n 2, 1) := by decide +kernel
theorem d_cX7_enter_28 : decode cX7_enter 28 = .ok (.iaload, 1) := by decide +kernel
theorem d_cX7_enter_29 : decode cX7_enter 29 = .ok (.ireturn, 1) := by decide +kernel
theorem d_cX7_halt_0 : decode cX7_halt 0 = .ok (.aload_n 0, 1) := by decide +kernel
theorem d_cX7_halt_1 : decode cX7_halt 1 = .ok (.iload_n 1, 1) := by decide +kernel
theorem d_cX7_halt_2 : decode cX7_halt 2 = .ok (.putfield 24, 3) := by decide +kernel
theorem d_cX7_halt_5 : decode cX7_halt 5 = .ok (.iconst (-1), 1) := by decide +kernel
theorem d_cX7_halt_6 : decode cX7_halt 6 = .ok (.ireturn, 1) := by decide +kernel
theorem d_cX7_perform_0 : decode cX7_perform 0 = .ok (.aload_n 0, 1) := by decide +kernel
theorem d_cX7_perform_1 : decode cX7_perform 1 = .ok (.getfield 15, 3) := by decide +kernel
theorem d_cX7_perform_4 : decode cX7_perform 4 = .ok (.iconst 0, 1) := by decide +kernel
theorem d_cX7_perform_5 : decode cX7_perform 5 = .ok (.invokestatic 59, 3) := by decide +kernel
theorem d_cX7_perform_8 : decode cX7_perform 8 = .ok (.aload_n 0, 1) := by decide +kernel
theorem d_cX7_perform_9 : decode cX7_perform 9 = .ok (.getfield 18, 3) := by decide +kernel
theorem d_cX7_perform_12 : decode cX7_perform 12 = .ok (.iconst 0, 1) := by decide +kernel
theorem d_cX7_perform_13 : decode cX7_perform 13 = .ok (.invokestatic 59, 3) := by decide +kernel
theorem d_cX7_perform_16 : decode cX7_perform 16 = .ok (.aload_n 0, 1) := by decide +kernel
theorem d_cX7_perform_17 : decode cX7_perform 17 = .ok (.iconst 0, 1) := by decide +kernel
theorem d_cX7_perform_18 : decode cX7_perform 18 = .ok (.putfield 65, 3) := by decide +kernel
theorem d_cX7_perform_21 : decode cX7_perform 21 = .ok (.aload_n 0, 1) := by decide +kernel
theorem d_cX7_perform_22 : decode cX7_perform 22 = .ok (.iconst 0, 1) := by decide +kernel
theorem d_cX7_perform_23 : decode cX7_perform 23 = .ok (.putfield 47, 3) := by decide +kernel
theorem d_cX7_perform_26 : decode cX7_perform 26 = .ok (.aload_n 0, 1) := by decide +kernel
theorem d_cX7_perform_27 : decode cX7_perform 27 = .ok (.iconst 0, 1) := by decide +kernel
theorem d_cX7_perform_28 : decode cX7_perform 28 = .ok (.putfield 50, 3) := by decide +kernel
theorem d_cX7_perform_31 : decode cX7_perform 31 = .ok (.aload_n 0, 1) := by decide +kernel
theorem d_cX7_perform_32 : decode cX7_perform 32 = .ok (.iconst 0, 1) := by decide +kernel
theorem d_cX7_perform_33 : decode cX7_perform 33 = .ok (.putfield 56, 3) := by decide +kernel
theorem d_cX7_perform_36 : decode cX7_perform 36 = .ok (.aload_n 0, 1) := by decide +kernel
theorem d_cX7_perform_37 : decode cX7_perform 37 = .ok (.bipush (-2), 2) := by decide +kernel
theorem d_cX7_perform_39 : decode cX7_perform 39 = .ok (.putfield 24, 3) := by decide +kernel
theorem d_cX7_perform_42 : decode cX7_perform 42 = .ok (.iconst 0, 1) := by decide +kernel
theorem d_cX7_perform_43 : decode cX7_perform 43 = .ok (.istore_n 3, 1) := by decide +kernel
theorem d_cX7_perform_44 : decode cX7_perform 44 = .ok (.aload_n 0, 1) := by decide +kernel
theorem d_cX7_perform_45 : decode cX7_perform 45 = .ok (.iconst 0, 1) := by decide +kernel
theorem d_cX7_perform_46 : decode cX7_perform 46 = .ok (.putfield 53, 3) := by decide +kernel
theorem d_cX7_perform_49 : decode cX7_perform 49 = .ok (.aload_n 0, 1) := by decide +kernel
theorem d_cX7_perform_50 : decode cX7_perform 50 = .ok (.getfield 53, 3) := by decide +kernel
theorem d_cX7_perform_53 : decode cX7_perform 53 = .ok (.iload_n 2, 1) := by decide +kernel
theorem d_cX7_perform_54 : decode cX7_perform 54 = .ok (.if_icmp .ge 52, 3) := by decide +kernel
theorem d_cX7_perform_57 : decode cX7_perform 57 = .ok (.aload_n 0, 1) := by decide +kernel
theorem d_cX7_perform_58 : decode cX7_perform 58 = .ok (.getfield 24, 3) := by decide +kernel
theorem d_cX7_perform_61 : decode cX7_perform 61 = .ok (.bipush (-2), 2) := by decide +kernel
theorem d_cX7_perform_63 : decode cX7_perform 63 = .ok (.if_icmp .ne 43, 3) := by decide +kernel
theorem d_cX7_perform_66 : decode cX7_perform 66 = .ok (.iload_n 3, 1) := by decide +kernel
theorem d_cX7_perform_67 : decode cX7_perform 67 = .ok (.ifCond .lt 20, 3) := by decide +kernel
theorem d_cX7_perform_70 : decode cX7_perform 70 = .ok (.iload_n 3, 1) := by decide +kernel
theorem d_cX7_perform_71 : decode cX7_perform 71 = .ok (.aload_n 1, 1) := by decide +kernel
theorem d_cX7_perform_72 : decode cX7_perform 72 = .ok (.getfield 68, 3) := by decide +kernel
theorem d_cX7_perform_75 : decode cX7_perform 75 = .ok (.if_icmp .ge 12, 3) := by decide +kernel
theorem d_cX7_perform_78 : decode cX7_perform 78 = .ok (.aload_n 0, 1) := by decide +kernel
theorem d_cX7_perform_79 : decode cX7_perform 79 = .ok (.aload_n 1, 1) := by decide +kernel
theorem d_cX7_perform_80 : decode cX7_perform 80 = .ok (.iload_n 3, 1) := by decide +kernel
theorem d_cX7_perform_81 : decode cX7_perform 81 = .ok (.invokevirtual 73, 3) := by decide +kernel
theorem d_cX7_perform_84 : decode cX7_perform 84 = .ok (.goto 8, 3) := by decide +kernel
theorem d_cX7_perform_87 : decode cX7_perform 87 = .ok (.aload_n 0, 1) := by decide +kernel
theorem d_cX7_perform_88 : decode cX7_perform 88 = .ok (.iconst 4, 1) := by decide +kernel
theorem d_cX7_perform_89 : decode cX7_perform 89 = .ok (.invokevirtual 77, 3) := by decide +kernel
theorem d_cX7_perform_92 : decode cX7_perform 92 = .ok (.istore_n 3, 1) := by decide +kernel
theorem d_cX7_perform_93 : decode cX7_perform 93 = .ok (.aload_n 0, 1) := by decide +kernel
theorem d_cX7_perform_94 : decode cX7_perform 94 = .ok (.dup, 1) := by decide +kernel
theorem d_cX7_perform_95 : decode cX7_perform 95 = .ok (.getfield 53, 3) := by decide +kernel
theorem d_cX7_perform_98 : decode cX7_perform 98 = .ok (.iconst 1, 1) := by decide +kernel
theorem d_cX7_perform_99 : decode cX7_perform 99 = .ok (.iadd, 1) := by decide +kernel
theorem d_cX7_perform_100 : decode cX7_perform 100 = .ok (.putfield 53, 3) := by decide +kernel
theorem d_cX7_perform_103 : decode cX7_perform 103 = .ok (.goto (-54), 3) := by decide +kernel
theorem d_cX7_perform_106 : decode cX7_perform 106 = .ok (.aload_n 0, 1) := by decide +kernel
theorem d_cX7_perform_107 : decode cX7_perform 107 = .ok (.getfield 24, 3) := by decide +kernel
theorem d_cX7_perform_110 : decode cX7_perform 110 = .ok (.bipush (-2), 2) := by decide +kernel
theorem d_cX7_perform_112 : decode cX7_perform 112 = .ok (.if_icmp .ne 8, 3) := by decide +kernel
theorem d_cX7_perform_115 : decode cX7_perform 115 = .ok (.aload_n 0, 1) := by decide +kernel
theorem d_cX7_perform_116 : decode cX7_perform 116 = .ok (.iconst 4, 1) := by decide +kernel
theorem d_cX7_perform_117 : decode cX7_perform 117 = .ok (.putfield 24, 3) := by decide +kernel
theorem d_cX7_perform_120 : decode cX7_perform 120 = .ok (.return_, 1) := by decide +kernel
theorem d_cX7_put_0 : decode cX7_put 0 = .ok (.iload_n 1, 1) := by decide +kernel
theorem d_cX7_put_1 : decode cX7_put 1 = .ok (.ifCond .lt 13, 3) := by decide +kernel
theorem d_cX7_put_4 : decode cX7_put 4 = .ok (.iload_n 1, 1) := by decide +kernel
theorem d_cX7_put_5 : decode cX7_put 5 = .ok (.aload_n 0, 1) := by decide +kernel
theorem d_cX7_put_6 : decode cX7_put 6 = .ok (.arraylength, 1) := by decide +kernel
theorem d_cX7_put_7 : decode cX7_put 7 = .ok (.if_icmp .ge 7, 3) := by decide +kernel
theorem d_cX7_put_10 : decode cX7_put 10 = .ok (.aload_n 0, 1) := by decide +kernel
theorem d_cX7_put_11 : decode cX7_put 11 = .ok (.iload_n 1, 1) := by decide +kernel
theorem d_cX7_put_12 : decode cX7_put 12 = .ok (.iload_n 2, 1) := by decide +kernel
theorem d_cX7_put_13 : decode cX7_put 13 = .ok (.iastore, 1) := by decide +kernel
theorem d_cX7_put_14 : decode cX7_put 14 = .ok (.return_, 1) := by decide +kernel
theorem d_cX7_showAt_0 : decode cX7_showAt 0 = .ok (.iload_n 1, 1) := by decide +kernel
theorem d_cX7_showAt_1 : decode cX7_showAt 1 = .ok (.ifCond .lt 19, 3) := by decide +kernel
theorem d_cX7_showAt_4 : decode cX7_showAt 4 = .ok (.iload_n 1, 1) := by decide +kernel
theorem d_cX7_showAt_5 : decode cX7_showAt 5 = .ok (.sipush 512, 3) := by decide +kernel
theorem d_cX7_showAt_8 : decode cX7_showAt 8 = .ok (.if_icmp .ge 12, 3) := by decide +kernel
theorem d_cX7_showAt_11 : decode cX7_showAt 11 = .ok (.aload_n 0, 1) := by decide +kernel
theorem d_cX7_showAt_12 : decode cX7_showAt 12 = .ok (.getfield 21, 3) := by decide +kernel
theorem d_cX7_showAt_15 : decode cX7_showAt 15 = .ok (.iload_n 1, 1) := by decide +kernel
theorem d_cX7_showAt_16 : decode cX7_showAt 16 = .ok (.iaload, 1) := by decide +kernel
theorem d_cX7_showAt_17 : decode cX7_showAt 17 = .ok (.goto 4, 3) := by decide +kernel
theorem d_cX7_showAt_20 : decode cX7_showAt 20 = .ok (.iconst 0, 1) := by decide +kernel
theorem d_cX7_showAt_21 : decode cX7_showAt 21 = .ok (.ireturn, 1) := by decide +kernel
theorem d_cX7_shows_0 : decode cX7_shows 0 = .ok (.aload_n 0, 1) := by decide +kernel
theorem d_cX7_shows_1 : decode cX7_shows 1 = .ok (.getfield 50, 3) := by decide +kernel
theorem d_cX7_shows_4 : decode cX7_shows 4 = .ok (.ireturn, 1) := by decide +kernel
theorem d_cX7_slotAt_0 : decode cX7_slotAt 0 = .ok (.iload_n 1, 1) := by decide +kernel
theorem d_cX7_slotAt_1 : decode cX7_slotAt 1 = .ok (.ifCond .lt 18, 3) := by decide +kernel
theorem d_cX7_slotAt_4 : decode cX7_slotAt 4 = .ok (.iload_n 1, 1) := by decide +kernel
theorem d_cX7_slotAt_5 : decode cX7_slotAt 5 = .ok (.bipush 100, 2) := by decide +kernel
theorem d_cX7_slotAt_7 : decode cX7_slotAt 7 = .ok (.if_icmp .ge 12, 3) := by decide +kernel
theorem d_cX7_slotAt_10 : decode cX7_slotAt 10 = .ok (.aload_n 0, 1) := by decide +kernel
theorem d_cX7_slotAt_11 : decode cX7_slotAt 11 = .ok (.getfield 18, 3) := by decide +kernel
theorem d_cX7_slotAt_14 : decode cX7_slotAt 14 = .ok (.iload_n 1, 1) := by decide +kernel
theorem d_cX7_slotAt_15 : decode cX7_slotAt 15 = .ok (.iaload, 1) := by decide +kernel
theorem d_cX7_slotAt_16 : decode cX7_slotAt 16 = .ok (.goto 4, 3) := by decide +kernel
theorem d_cX7_slotAt_19 : decode cX7_slotAt 19 = .ok (.iconst 0, 1) := by decide +kernel
theorem d_cX7_slotAt_20 : decode cX7_slotAt 20 = .ok (.ireturn, 1) := by decide +kernel
theorem d_cX7_step_0 : decode cX7_step 0 = .ok (.aload_n 1, 1) := by decide +kernel
theorem d_cX7_step_1 : decode cX7_step 1 = .ok (.getfield 80, 3) := by decide +kernel
theorem d_cX7_step_4 : decode cX7_step 4 = .ok (.iload_n 2, 1) := by decide +kernel
theorem d_cX7_step_5 : decode cX7_step 5 = .ok (.iaload, 1) := by decide +kernel
theorem d_cX7_step_6 : decode cX7_step 6 = .ok (.istore_n 3, 1) := by decide +kernel
theorem d_cX7_step_7 : decode cX7_step 7 = .ok (.aload_n 0, 1) := by decide +kernel
theorem d_cX7_step_8 : decode cX7_step 8 = .ok (.aload_n 1, 1) := by decide +kernel
theorem d_cX7_step_9 : decode cX7_step 9 = .ok (.getfield 83, 3) := by decide +kernel
theorem d_cX7_step_12 : decode cX7_step 12 = .ok (.iload_n 2, 1) := by decide +kernel
theorem d_cX7_step_13 : decode cX7_step 13 = .ok (.iaload, 1) := by decide +kernel
theorem d_cX7_step_14 : decode cX7_step 14 = .ok (.aload_n 1, 1) := by decide +kernel
theorem d_cX7_step_15 : decode cX7_step 15 = .ok (.getfield 86, 3) := by decide +kernel
theorem d_cX7_step_18 : decode cX7_step 18 = .ok (.iload_n 2, 1) := by decide +kernel
theorem d_cX7_step_19 : decode cX7_step 19 = .ok (.iaload, 1) := by decide +kernel
theorem d_cX7_step_20 : decode cX7_step 20 = .ok (.invokevirtual 89, 3) := by decide +kernel
theorem d_cX7_step_23 : decode cX7_step 23 = .ok (.istore 4, 2) := by decide +kernel
theorem d_cX7_step_25 : decode cX7_step 25 = .ok (.iload_n 3, 1) := by decide +kernel
theorem d_cX7_step_26 : decode cX7_step 26 = .ok (.tableswitch 212 14 21 #[172, 191, 105, 145, 126, 46, 61, 93], 46) := by decide +kernel
theorem d_cX7_step_72 : decode cX7_step 72 = .ok (.aload_n 0, 1) := by decide +kernel
theorem d_cX7_step_73 : decode cX7_step 73 = .ok (.aload_n 1, 1) := by decide +kernel
theorem d_cX7_step_74 : decode cX7_step 74 = .ok (.aload_n 1, 1) := by decide +kernel
theorem d_cX7_step_75 : decode cX7_step 75 = .ok (.getfield 92, 3) := by decide +kernel
theorem d_cX7_step_78 : decode cX7_step 78 = .ok (.aload_n 0, 1) := by decide +kernel
theorem d_cX7_step_79 : decode cX7_step 79 = .ok (.getfield 65, 3) := by decide +kernel
theorem d_cX7_step_82 : decode cX7_step 82 = .ok (.iaload, 1) := by decide +kernel
theorem d_cX7_step_83 : decode cX7_step 83 = .ok (.invokevirtual 95, 3) := by decide +kernel
theorem d_cX7_step_86 : decode cX7_step 86 = .ok (.ireturn, 1) := by decide +kernel
theorem d_cX7_step_87 : decode cX7_step 87 = .ok (.aload_n 0, 1) := by decide +kernel
theorem d_cX7_step_88 : decode cX7_step 88 = .ok (.aload_n 1, 1) := by decide +kernel
theorem d_cX7_step_89 : decode cX7_step 89 = .ok (.iload 4, 2) := by decide +kernel
theorem d_cX7_step_91 : decode cX7_step 91 = .ok (.ifCond .eq 15, 3) := by decide +kernel
theorem d_cX7_step_94 : decode cX7_step 94 = .ok (.aload_n 1, 1) := by decide +kernel
theorem d_cX7_step_95 : decode cX7_step 95 = .ok (.getfield 92, 3) := by decide +kernel
theorem d_cX7_step_98 : decode cX7_step 98 = .ok (.aload_n 0, 1) := by decide +kernel
theorem d_cX7_step_99 : decode cX7_step 99 = .ok (.getfield 65, 3) := by decide +kernel
theorem d_cX7_step_102 : decode cX7_step 102 = .ok (.iaload, 1) := by decide +kernel
theorem d_cX7_step_103 : decode cX7_step 103 = .ok (.goto 12, 3) := by decide +kernel
theorem d_cX7_step_106 : decode cX7_step 106 = .ok (.aload_n 1, 1) := by decide +kernel
theorem d_cX7_step_107 : decode cX7_step 107 = .ok (.getfield 98, 3) := by decide +kernel
theorem d_cX7_step_110 : decode cX7_step 110 = .ok (.aload_n 0, 1) := by decide +kernel
theorem d_cX7_step_111 : decode cX7_step 111 = .ok (.getfield 65, 3) := by decide +kernel
theorem d_cX7_step_114 : decode cX7_step 114 = .ok (.iaload, 1) := by decide +kernel
theorem d_cX7_step_115 : decode cX7_step 115 = .ok (.invokevirtual 95, 3) := by decide +kernel
theorem d_cX7_step_118 : decode cX7_step 118 = .ok (.ireturn, 1) := by decide +kernel
theorem d_cX7_step_119 : decode cX7_step 119 = .ok (.aload_n 0, 1) := by decide +kernel
theorem d_cX7_step_120 : decode cX7_step 120 = .ok (.iload 4, 2) := by decide +kernel
theorem d_cX7_step_122 : decode cX7_step 122 = .ok (.putfield 47, 3) := by decide +kernel
theorem d_cX7_step_125 : decode cX7_step 125 = .ok (.aload_n 0, 1) := by decide +kernel
theorem d_cX7_step_126 : decode cX7_step 126 = .ok (.iconst 0, 1) := by decide +kernel
theorem d_cX7_step_127 : decode cX7_step 127 = .ok (.invokevirtual 77, 3) := by decide +kernel
theorem d_cX7_step_130 : decode cX7_step 130 = .ok (.ireturn, 1) := by decide +kernel
theorem d_cX7_step_131 : decode cX7_step 131 = .ok (.aload_n 0, 1) := by decide +kernel
theorem d_cX7_step_132 : decode cX7_step 132 = .ok (.iload 4, 2) := by decide +kernel
theorem d_cX7_step_134 : decode cX7_step 134 = .ok (.invokevirtual 101, 3) := by decide +kernel
theorem d_cX7_step_137 : decode cX7_step 137 = .ok (.ifCond .eq 9, 3) := by decide +kernel
theorem d_cX7_step_140 : decode cX7_step 140 = .ok (.iload_n 2, 1) := by decide +kernel
theorem d_cX7_step_141 : decode cX7_step 141 = .ok (.iconst 1, 1) := by decide +kernel
theorem d_cX7_step_142 : decode cX7_step 142 = .ok (.iadd, 1) := by decide +kernel
theorem d_cX7_step_143 : decode cX7_step 143 = .ok (.goto 8, 3) := by decide +kernel
theorem d_cX7_step_146 : decode cX7_step 146 = .ok (.aload_n 0, 1) := by decide +kernel
theorem d_cX7_step_147 : decode cX7_step 147 = .ok (.iconst 5, 1) := by decide +kernel
theorem d_cX7_step_148 : decode cX7_step 148 = .ok (.invokevirtual 77, 3) := by decide +kernel
theorem d_cX7_step_151 : decode cX7_step 151 = .ok (.ireturn, 1) := by decide +kernel
theorem d_cX7_step_152 : decode cX7_step 152 = .ok (.aload_n 0, 1) := by decide +kernel
theorem d_cX7_step_153 : decode cX7_step 153 = .ok (.getfield 18, 3) := by decide +kernel
theorem d_cX7_step_156 : decode cX7_step 156 = .ok (.aload_n 1, 1) := by decide +kernel
theorem d_cX7_step_157 : decode cX7_step 157 = .ok (.getfield 105, 3) := by decide +kernel
theorem d_cX7_step_160 : decode cX7_step 160 = .ok (.iload_n 2, 1) := by decide +kernel
theorem d_cX7_step_161 : decode cX7_step 161 = .ok (.iaload, 1) := by decide +kernel
theorem d_cX7_step_162 : decode cX7_step 162 = .ok (.iload 4, 2) := by decide +kernel
theorem d_cX7_step_164 : decode cX7_step 164 = .ok (.invokestatic 108, 3) := by decide +kernel
theorem d_cX7_step_167 : decode cX7_step 167 = .ok (.iload_n 2, 1) := by decide +kernel
theorem d_cX7_step_168 : decode cX7_step 168 = .ok (.iconst 1, 1) := by decide +kernel
theorem d_cX7_step_169 : decode cX7_step 169 = .ok (.iadd, 1) := by decide +kernel
theorem d_cX7_step_170 : decode cX7_step 170 = .ok (.ireturn, 1) := by decide +kernel
theorem d_cX7_step_171 : decode cX7_step 171 = .ok (.aload_n 0, 1) := by decide +kernel
theorem d_cX7_step_172 : decode cX7_step 172 = .ok (.getfield 15, 3) := by decide +kernel
theorem d_cX7_step_175 : decode cX7_step 175 = .ok (.aload_n 1, 1) := by decide +kernel
theorem d_cX7_step_176 : decode cX7_step 176 = .ok (.getfield 112, 3) := by decide +kernel
theorem d_cX7_step_179 : decode cX7_step 179 = .ok (.iload_n 2, 1) := by decide +kernel
theorem d_cX7_step_180 : decode cX7_step 180 = .ok (.iaload, 1) := by decide +kernel
theorem d_cX7_step_181 : decode cX7_step 181 = .ok (.aload_n 0, 1) := by decide +kernel
theorem d_cX7_step_182 : decode cX7_step 182 = .ok (.aload_n 1, 1) := by decide +kernel
theorem d_cX7_step_183 : decode cX7_step 183 = .ok (.getfield 105, 3) := by decide +kernel
theorem d_cX7_step_186 : decode cX7_step 186 = .ok (.iload_n 2, 1) := by decide +kernel
theorem d_cX7_step_187 : decode cX7_step 187 = .ok (.iaload, 1) := by decide +kernel
theorem d_cX7_step_188 : decode cX7_step 188 = .ok (.invokevirtual 115, 3) := by decide +kernel
theorem d_cX7_step_191 : decode cX7_step 191 = .ok (.invokestatic 108, 3) := by decide +kernel
theorem d_cX7_step_194 : decode cX7_step 194 = .ok (.iload_n 2, 1) := by decide +kernel
theorem d_cX7_step_195 : decode cX7_step 195 = .ok (.iconst 1, 1) := by decide +kernel
theorem d_cX7_step_196 : decode cX7_step 196 = .ok (.iadd, 1) := by decide +kernel
theorem d_cX7_step_197 : decode cX7_step 197 = .ok (.ireturn, 1) := by decide +kernel
theorem d_cX7_step_198 : decode cX7_step 198 = .ok (.aload_n 0, 1) := by decide +kernel
theorem d_cX7_step_199 : decode cX7_step 199 = .ok (.getfield 15, 3) := by decide +kernel
theorem d_cX7_step_202 : decode cX7_step 202 = .ok (.aload_n 1, 1) := by decide +kernel
theorem d_cX7_step_203 : decode cX7_step 203 = .ok (.getfield 112, 3) := by decide +kernel
theorem d_cX7_step_206 : decode cX7_step 206 = .ok (.iload_n 2, 1) := by decide +kernel
theorem d_cX7_step_207 : decode cX7_step 207 = .ok (.iaload, 1) := by decide +kernel
theorem d_cX7_step_208 : decode cX7_step 208 = .ok (.iload 4, 2) := by decide +kernel
theorem d_cX7_step_210 : decode cX7_step 210 = .ok (.invokestatic 108, 3) := by decide +kernel
theorem d_cX7_step_213 : decode cX7_step 213 = .ok (.iload_n 2, 1) := by decide +kernel
theorem d_cX7_step_214 : decode cX7_step 214 = .ok (.iconst 1, 1) := by decide +kernel
theorem d_cX7_step_215 : decode cX7_step 215 = .ok (.iadd, 1) := by decide +kernel
theorem d_cX7_step_216 : decode cX7_step 216 = .ok (.ireturn, 1) := by decide +kernel
theorem d_cX7_step_217 : decode cX7_step 217 = .ok (.aload_n 0, 1) := by decide +kernel
theorem d_cX7_step_218 : decode cX7_step 218 = .ok (.getfield 15, 3) := by decide +kernel
theorem d_cX7_step_221 : decode cX7_step 221 = .ok (.aload_n 1, 1) := by decide +kernel
theorem d_cX7_step_222 : decode cX7_step 222 = .ok (.getfield 112, 3) := by decide +kernel
theorem d_cX7_step_225 : decode cX7_step 225 = .ok (.iload_n 2, 1) := by decide +kernel
theorem d_cX7_step_226 : decode cX7_step 226 = .ok (.iaload, 1) := by decide +kernel
theorem d_cX7_step_227 : decode cX7_step 227 = .ok (.aload_n 0, 1) := by decide +kernel
theorem d_cX7_step_228 : decode cX7_step 228 = .ok (.invokevirtual 118, 3) := by decide +kernel
theorem d_cX7_step_231 : decode cX7_step 231 = .ok (.invokestatic 108, 3) := by decide +kernel
theorem d_cX7_step_234 : decode cX7_step 234 = .ok (.iload_n 2, 1) := by decide +kernel
theorem d_cX7_step_235 : decode cX7_step 235 = .ok (.iconst 1, 1) := by decide +kernel
theorem d_cX7_step_236 : decode cX7_step 236 = .ok (.iadd, 1) := by decide +kernel
theorem d_cX7_step_237 : decode cX7_step 237 = .ok (.ireturn, 1) := by decide +kernel
theorem d_cX7_step_238 : decode cX7_step 238 = .ok (.aload_n 0, 1) := by decide +kernel
theorem d_cX7_step_239 : decode cX7_step 239 = .ok (.aload_n 1, 1) := by decide +kernel
theorem d_cX7_step_240 : decode cX7_step 240 = .ok (.getfield 121, 3) := by decide +kernel
theorem d_cX7_step_243 : decode cX7_step 243 = .ok (.iload_n 2, 1) := by decide +kernel
theorem d_cX7_step_244 : decode cX7_step 244 = .ok (.iaload, 1) := by decide +kernel
theorem d_cX7_step_245 : decode cX7_step 245 = .ok (.aload_n 1, 1) := by decide +kernel
theorem d_cX7_step_246 : decode cX7_step 246 = .ok (.getfield 105, 3) := by decide +kernel
theorem d_cX7_step_249 : decode cX7_step 249 = .ok (.iload_n 2, 1) := by decide +kernel
theorem d_cX7_step_250 : decode cX7_step 250 = .ok (.iaload, 1) := by decide +kernel
theorem d_cX7_step_251 : decode cX7_step 251 = .ok (.invokevirtual 89, 3) := by decide +kernel
theorem d_cX7_step_254 : decode cX7_step 254 = .ok (.istore 5, 2) := by decide +kernel
theorem d_cX7_step_256 : decode cX7_step 256 = .ok (.iload 5, 2) := by decide +kernel
theorem d_cX7_step_258 : decode cX7_step 258 = .ok (.ifCond .ne 19, 3) := by decide +kernel
theorem d_cX7_step_261 : decode cX7_step 261 = .ok (.iload_n 3, 1) := by decide +kernel
theorem d_cX7_step_262 : decode cX7_step 262 = .ok (.iconst 3, 1) := by decide +kernel
theorem d_cX7_step_263 : decode cX7_step 263 = .ok (.if_icmp .eq 8, 3) := by decide +kernel
theorem d_cX7_step_266 : decode cX7_step 266 = .ok (.iload_n 3, 1) := by decide +kernel
theorem d_cX7_step_267 : decode cX7_step 267 = .ok (.iconst 4, 1) := by decide +kernel
theorem d_cX7_step_268 : decode cX7_step 268 = .ok (.if_icmp .ne 9, 3) := by decide +kernel
theorem d_cX7_step_271 : decode cX7_step 271 = .ok (.aload_n 0, 1) := by decide +kernel
theorem d_cX7_step_272 : decode cX7_step 272 = .ok (.iconst 1, 1) := by decide +kernel
theorem d_cX7_step_273 : decode cX7_step 273 = .ok (.invokevirtual 77, 3) := by decide +kernel
theorem d_cX7_step_276 : decode cX7_step 276 = .ok (.ireturn, 1) := by decide +kernel
theorem d_cX7_step_277 : decode cX7_step 277 = .ok (.aload_n 0, 1) := by decide +kernel
theorem d_cX7_step_278 : decode cX7_step 278 = .ok (.getfield 15, 3) := by decide +kernel
theorem d_cX7_step_281 : decode cX7_step 281 = .ok (.aload_n 1, 1) := by decide +kernel
theorem d_cX7_step_282 : decode cX7_step 282 = .ok (.getfield 112, 3) := by decide +kernel
theorem d_cX7_step_285 : decode cX7_step 285 = .ok (.iload_n 2, 1) := by decide +kernel
theorem d_cX7_step_286 : decode cX7_step 286 = .ok (.iaload, 1) := by decide +kernel
theorem d_cX7_step_287 : decode cX7_step 287 = .ok (.iload_n 3, 1) := by decide +kernel
theorem d_cX7_step_288 : decode cX7_step 288 = .ok (.iload 4, 2) := by decide +kernel
theorem d_cX7_step_290 : decode cX7_step 290 = .ok (.iload 5, 2) := by decide +kernel
theorem d_cX7_step_292 : decode cX7_step 292 = .ok (.invokestatic 124, 3) := by decide +kernel
theorem d_cX7_step_295 : decode cX7_step 295 = .ok (.invokestatic 108, 3) := by decide +kernel
theorem d_cX7_step_298 : decode cX7_step 298 = .ok (.iload_n 2, 1) := by decide +kernel
theorem d_cX7_step_299 : decode cX7_step 299 = .ok (.iconst 1, 1) := by decide +kernel
theorem d_cX7_step_300 : decode cX7_step 300 = .ok (.iadd, 1) := by decide +kernel
theorem d_cX7_step_301 : decode cX7_step 301 = .ok (.ireturn, 1) := by decide +kernel
theorem d_cX7_steps_0 : decode cX7_steps 0 = .ok (.aload_n 0, 1) := by decide +kernel
theorem d_cX7_steps_1 : decode cX7_steps 1 = .ok (.getfield 53, 3) := by decide +kernel
theorem d_cX7_steps_4 : decode cX7_steps 4 = .ok (.ireturn, 1) := by decide +kernel
theorem d_cX7_takeInput_0 : decode cX7_takeInput 0 = .ok (.aload_n 0, 1) := by decide +kernel
theorem d_cX7_takeInput_1 : decode cX7_takeInput 1 = .ok (.aload_n 1, 1) := by decide +kernel
theorem d_cX7_takeInput_2 : decode cX7_takeInput 2 = .ok (.invokevirtual 28, 3) := by decide +kernel
theorem d_cX7_takeInput_5 : decode cX7_takeInput 5 = .ok (.iconst 4, 1) := by decide +kernel
theorem d_cX7_takeInput_6 : decode cX7_takeInput 6 = .ok (.idiv, 1) := by decide +kernel
theorem d_cX7_takeInput_7 : decode cX7_takeInput 7 = .ok (.aload_n 0, 1) := by decide +kernel
theorem d_cX7_takeInput_8 : decode cX7_takeInput 8 = .ok (.getfield 9, 3) := by decide +kernel
theorem d_cX7_takeInput_11 : decode cX7_takeInput 11 = .ok (.arraylength, 1) := by decide +kernel
theorem d_cX7_takeInput_12 : decode cX7_takeInput 12 = .ok (.invokestatic 34, 3) := by decide +kernel
theorem d_cX7_takeInput_15 : decode cX7_takeInput 15 = .ok (.putfield 40, 3) := by decide +kernel
theorem d_cX7_takeInput_18 : decode cX7_takeInput 18 = .ok (.iconst 0, 1) := by decide +kernel
theorem d_cX7_takeInput_19 : decode cX7_takeInput 19 = .ok (.istore_n 2, 1) := by decide +kernel
theorem d_cX7_takeInput_20 : decode cX7_takeInput 20 = .ok (.iload_n 2, 1) := by decide +kernel
theorem d_cX7_takeInput_21 : decode cX7_takeInput 21 = .ok (.aload_n 0, 1) := by decide +kernel
theorem d_cX7_takeInput_22 : decode cX7_takeInput 22 = .ok (.getfield 40, 3) := by decide +kernel
theorem d_cX7_takeInput_25 : decode cX7_takeInput 25 = .ok (.if_icmp .ge 22, 3) := by decide +kernel
theorem d_cX7_takeInput_28 : decode cX7_takeInput 28 = .ok (.aload_n 0, 1) := by decide +kernel
theorem d_cX7_takeInput_29 : decode cX7_takeInput 29 = .ok (.getfield 9, 3) := by decide +kernel
theorem d_cX7_takeInput_32 : decode cX7_takeInput 32 = .ok (.iload_n 2, 1) := by decide +kernel
theorem d_cX7_takeInput_33 : decode cX7_takeInput 33 = .ok (.aload_n 1, 1) := by decide +kernel
theorem d_cX7_takeInput_34 : decode cX7_takeInput 34 = .ok (.iconst 4, 1) := by decide +kernel
theorem d_cX7_takeInput_35 : decode cX7_takeInput 35 = .ok (.iload_n 2, 1) := by decide +kernel
theorem d_cX7_takeInput_36 : decode cX7_takeInput 36 = .ok (.imul, 1) := by decide +kernel
theorem d_cX7_takeInput_37 : decode cX7_takeInput 37 = .ok (.invokevirtual 43, 3) := by decide +kernel
theorem d_cX7_takeInput_40 : decode cX7_takeInput 40 = .ok (.iastore, 1) := by decide +kernel
theorem d_cX7_takeInput_41 : decode cX7_takeInput 41 = .ok (.iinc 2 1, 3) := by decide +kernel
theorem d_cX7_takeInput_44 : decode cX7_takeInput 44 = .ok (.goto (-24), 3) := by decide +kernel
theorem d_cX7_takeInput_47 : decode cX7_takeInput 47 = .ok (.aload_n 0, 1) := by decide +kernel
theorem d_cX7_takeInput_48 : decode cX7_takeInput 48 = .ok (.getfield 40, 3) := by decide +kernel
theorem d_cX7_takeInput_51 : decode cX7_takeInput 51 = .ok (.ireturn, 1) := by decide +kernel
theorem d_cX7_takeNext_0 : decode cX7_takeNext 0 = .ok (.aload_n 0, 1) := by decide +kernel
theorem d_cX7_takeNext_1 : decode cX7_takeNext 1 = .ok (.getfield 56, 3) := by decide +kernel
theorem d_cX7_takeNext_4 : decode cX7_takeNext 4 = .ok (.aload_n 0, 1) := by decide +kernel
theorem d_cX7_takeNext_5 : decode cX7_takeNext 5 = .ok (.getfield 40, 3) := by decide +kernel
theorem d_cX7_takeNext_8 : decode cX7_takeNext 8 = .ok (.if_icmp .lt 5, 3) := by decide +kernel
theorem d_cX7_takeNext_11 : decode cX7_takeNext 11 = .ok (.iconst 0, 1) := by decide +kernel
theorem d_cX7_takeNext_12 : decode cX7_takeNext 12 = .ok (.ireturn, 1) := by decide +kernel
theorem d_cX7_takeNext_13 : decode cX7_takeNext 13 = .ok (.aload_n 0, 1) := by decide +kernel
theorem d_cX7_takeNext_14 : decode cX7_takeNext 14 = .ok (.dup, 1) := by decide +kernel
theorem d_cX7_takeNext_15 : decode cX7_takeNext 15 = .ok (.getfield 56, 3) := by decide +kernel
theorem d_cX7_takeNext_18 : decode cX7_takeNext 18 = .ok (.iconst 1, 1) := by decide +kernel
theorem d_cX7_takeNext_19 : decode cX7_takeNext 19 = .ok (.iadd, 1) := by decide +kernel
theorem d_cX7_takeNext_20 : decode cX7_takeNext 20 = .ok (.putfield 56, 3) := by decide +kernel
theorem d_cX7_takeNext_23 : decode cX7_takeNext 23 = .ok (.aload_n 0, 1) := by decide +kernel
theorem d_cX7_takeNext_24 : decode cX7_takeNext 24 = .ok (.getfield 9, 3) := by decide +kernel
theorem d_cX7_takeNext_27 : decode cX7_takeNext 27 = .ok (.aload_n 0, 1) := by decide +kernel
theorem d_cX7_takeNext_28 : decode cX7_takeNext 28 = .ok (.getfield 56, 3) := by decide +kernel
theorem d_cX7_takeNext_31 : decode cX7_takeNext 31 = .ok (.iconst 1, 1) := by decide +kernel
theorem d_cX7_takeNext_32 : decode cX7_takeNext 32 = .ok (.isub, 1) := by decide +kernel
theorem d_cX7_takeNext_33 : decode cX7_takeNext 33 = .ok (.iaload, 1) := by decide +kernel
theorem d_cX7_takeNext_34 : decode cX7_takeNext 34 = .ok (.ireturn, 1) := by decide +kernel
theorem d_cX7_taken_0 : decode cX7_taken 0 = .ok (.aload_n 0, 1) := by decide +kernel
theorem d_cX7_taken_1 : decode cX7_taken 1 = .ok (.getfield 56, 3) := by decide +kernel
theorem d_cX7_taken_4 : decode cX7_taken 4 = .ok (.ireturn, 1) := by decide +kernel
theorem d_cX7_valueOf_0 : decode cX7_valueOf 0 = .ok (.iload_n 1, 1) := by decide +kernel
theorem d_cX7_valueOf_1 : decode cX7_valueOf 1 = .ok (.ifCond .lt 18, 3) := by decide +kernel
theorem d_cX7_valueOf_4 : decode cX7_valueOf 4 = .ok (.iload_n 1, 1) := by decide +kernel
theorem d_cX7_valueOf_5 : decode cX7_valueOf 5 = .ok (.bipush 100, 2) := by decide +kernel
theorem d_cX7_valueOf_7 : decode cX7_valueOf 7 = .ok (.if_icmp .ge 12, 3) := by decide +kernel
theorem d_cX7_valueOf_10 : decode cX7_valueOf 10 = .ok (.aload_n 0, 1) := by decide +kernel
theorem d_cX7_valueOf_11 : decode cX7_valueOf 11 = .ok (.getfield 15, 3) := by decide +kernel
theorem d_cX7_valueOf_14 : decode cX7_valueOf 14 = .ok (.iload_n 1, 1) := by decide +kernel
theorem d_cX7_valueOf_15 : decode cX7_valueOf 15 = .ok (.iaload, 1) := by decide +kernel
theorem d_cX7_valueOf_16 : decode cX7_valueOf 16 = .ok (.goto 4, 3) := by decide +kernel
theorem d_cX7_valueOf_19 : decode cX7_valueOf 19 = .ok (.iload_n 2, 1) := by decide +kernel
theorem d_cX7_valueOf_20 : decode cX7_valueOf 20 = .ok (.ireturn, 1) := by decide +kernel
theorem d_cX8_accept_0 : decode cX8_accept 0 = .ok (.aload_n 0, 1) := by decide +kernel
theorem d_cX8_accept_1 : decode cX8_accept 1 = .ok (.getfield 46, 3) := by decide +kernel
theorem d_cX8_accept_4 : decode cX8_accept 4 = .ok (.tableswitch 146 0 11 #[64, 64, 70, 86, 78, 92, 98, 104, 110, 119, 129, 138], 64) := by decide +kernel
theorem d_cX8_accept_68 : decode cX8_accept 68 = .ok (.aload_n 0, 1) := by decide +kernel
theorem d_cX8_accept_69 : decode cX8_accept 69 = .ok (.aload_n 1, 1) := by decide +kernel
theorem d_cX8_accept_70 : decode cX8_accept 70 = .ok (.invokevirtual 70, 3) := by decide +kernel
theorem d_cX8_accept_73 : decode cX8_accept 73 = .ok (.ireturn, 1) := by decide +kernel
theorem d_cX8_accept_74 : decode cX8_accept 74 = .ok (.aload_n 0, 1) := by decide +kernel
theorem d_cX8_accept_75 : decode cX8_accept 75 = .ok (.bipush 6, 2) := by decide +kernel
theorem d_cX8_accept_77 : decode cX8_accept 77 = .ok (.iconst 3, 1) := by decide +kernel
theorem d_cX8_accept_78 : decode cX8_accept 78 = .ok (.invokevirtual 73, 3) := by decide +kernel
theorem d_cX8_accept_81 : decode cX8_accept 81 = .ok (.ireturn, 1) := by decide +kernel
theorem d_cX8_accept_82 : decode cX8_accept 82 = .ok (.aload_n 0, 1) := by decide +kernel
theorem d_cX8_accept_83 : decode cX8_accept 83 = .ok (.bipush 7, 2) := by decide +kernel
theorem d_cX8_accept_85 : decode cX8_accept 85 = .ok (.iconst 5, 1) := by decide +kernel
theorem d_cX8_accept_86 : decode cX8_accept 86 = .ok (.invokevirtual 73, 3) := by decide +kernel
theorem d_cX8_accept_89 : decode cX8_accept 89 = .ok (.ireturn, 1) := by decide +kernel
theorem d_cX8_accept_90 : decode cX8_accept 90 = .ok (.aload_n 0, 1) := by decide +kernel
theorem d_cX8_accept_91 : decode cX8_accept 91 = .ok (.aload_n 1, 1) := by decide +kernel
theorem d_cX8_accept_92 : decode cX8_accept 92 = .ok (.invokevirtual 77, 3) := by decide +kernel
theorem d_cX8_accept_95 : decode cX8_accept 95 = .ok (.ireturn, 1) := by decide +kernel
theorem d_cX8_accept_96 : decode cX8_accept 96 = .ok (.aload_n 0, 1) := by decide +kernel
theorem d_cX8_accept_97 : decode cX8_accept 97 = .ok (.aload_n 1, 1) := by decide +kernel
theorem d_cX8_accept_98 : decode cX8_accept 98 = .ok (.invokevirtual 80, 3) := by decide +kernel
theorem d_cX8_accept_101 : decode cX8_accept 101 = .ok (.ireturn, 1) := by decide +kernel
theorem d_cX8_accept_102 : decode cX8_accept 102 = .ok (.aload_n 0, 1) := by decide +kernel
theorem d_cX8_accept_103 : decode cX8_accept 103 = .ok (.aload_n 1, 1) := by decide +kernel
theorem d_cX8_accept_104 : decode cX8_accept 104 = .ok (.invokevirtual 83, 3) := by decide +kernel
theorem d_cX8_accept_107 : decode cX8_accept 107 = .ok (.ireturn, 1) := by decide +kernel
theorem d_cX8_accept_108 : decode cX8_accept 108 = .ok (.aload_n 0, 1) := by decide +kernel
theorem d_cX8_accept_109 : decode cX8_accept 109 = .ok (.aload_n 1, 1) := by decide +kernel
theorem d_cX8_accept_110 : decode cX8_accept 110 = .ok (.invokevirtual 86, 3) := by decide +kernel
theorem d_cX8_accept_113 : decode cX8_accept 113 = .ok (.ireturn, 1) := by decide +kernel
theorem d_cX8_accept_114 : decode cX8_accept 114 = .ok (.aload_n 0, 1) := by decide +kernel
theorem d_cX8_accept_115 : decode cX8_accept 115 = .ok (.aload_n 1, 1) := by decide +kernel
theorem d_cX8_accept_116 : decode cX8_accept 116 = .ok (.bipush 16, 2) := by decide +kernel
theorem d_cX8_accept_118 : decode cX8_accept 118 = .ok (.iconst 3, 1) := by decide +kernel
theorem d_cX8_accept_119 : decode cX8_accept 119 = .ok (.invokevirtual 89, 3) := by decide +kernel
theorem d_cX8_accept_122 : decode cX8_accept 122 = .ok (.ireturn, 1) := by decide +kernel
theorem d_cX8_accept_123 : decode cX8_accept 123 = .ok (.aload_n 0, 1) := by decide +kernel
theorem d_cX8_accept_124 : decode cX8_accept 124 = .ok (.aload_n 1, 1) := by decide +kernel
theorem d_cX8_accept_125 : decode cX8_accept 125 = .ok (.bipush 20, 2) := by decide +kernel
theorem d_cX8_accept_127 : decode cX8_accept 127 = .ok (.bipush 11, 2) := by decide +kernel
theorem d_cX8_accept_129 : decode cX8_accept 129 = .ok (.invokevirtual 89, 3) := by decide +kernel
theorem d_cX8_accept_132 : decode cX8_accept 132 = .ok (.ireturn, 1) := by decide +kernel
theorem d_cX8_accept_133 : decode cX8_accept 133 = .ok (.aload_n 0, 1) := by decide +kernel
theorem d_cX8_accept_134 : decode cX8_accept 134 = .ok (.aload_n 1, 1) := by decide +kernel
theorem d_cX8_accept_135 : decode cX8_accept 135 = .ok (.bipush 21, 2) := by decide +kernel
theorem d_cX8_accept_137 : decode cX8_accept 137 = .ok (.iconst 1, 1) := by decide +kernel
theorem d_cX8_accept_138 : decode cX8_accept 138 = .ok (.invokevirtual 89, 3) := by decide +kernel
theorem d_cX8_accept_141 : decode cX8_accept 141 = .ok (.ireturn, 1) := by decide +kernel
theorem d_cX8_accept_142 : decode cX8_accept 142 = .ok (.aload_n 0, 1) := by decide +kernel
theorem d_cX8_accept_143 : decode cX8_accept 143 = .ok (.aload_n 1, 1) := by decide +kernel
theorem d_cX8_accept_144 : decode cX8_accept 144 = .ok (.bipush 12, 2) := by decide +kernel
theorem d_cX8_accept_146 : decode cX8_accept 146 = .ok (.invokevirtual 93, 3) := by decide +kernel
theorem d_cX8_accept_149 : decode cX8_accept 149 = .ok (.ireturn, 1) := by decide +kernel
theorem d_cX8_accept_150 : decode cX8_accept 150 = .ok (.aload_n 0, 1) := by decide +kernel
theorem d_cX8_accept_151 : decode cX8_accept 151 = .ok (.aload_n 1, 1) := by decide +kernel
theorem d_cX8_accept_152 : decode cX8_accept 152 = .ok (.iconst 1, 1) := by decide +kernel
theorem d_cX8_accept_153 : decode cX8_accept 153 = .ok (.invokevirtual 93, 3) := by decide +kernel
theorem d_cX8_accept_156 : decode cX8_accept 156 = .ok (.ireturn, 1) := by decide +kernel
theorem d_cX8_acceptGoal_0 : decode cX8_acceptGoal 0 = .ok (.aload_n 0, 1) := by decide +kernel
theorem d_cX8_acceptGoal_1 : decode cX8_acceptGoal 1 = .ok (.getfield 20, 3) := by decide +kernel
theorem d_cX8_acceptGoal_4 : decode cX8_acceptGoal 4 = .ok (.invokevirtual 52, 3) := by decide +kernel
theorem d_cX8_acceptGoal_7 : decode cX8_acceptGoal 7 = .ok (.iconst 3, 1) := by decide +kernel
theorem d_cX8_acceptGoal_8 : decode cX8_acceptGoal 8 = .ok (.if_icmp .eq 5, 3) := by decide +kernel
theorem d_cX8_acceptGoal_11 : decode cX8_acceptGoal 11 = .ok (.iconst 0, 1) := by decide +kernel
theorem d_cX8_acceptGoal_12 : decode cX8_acceptGoal 12 = .ok (.ireturn, 1) := by decide +kernel
theorem d_cX8_acceptGoal_13 : decode cX8_acceptGoal 13 = .ok (.aload_n 0, 1) := by decide +kernel
theorem d_cX8_acceptGoal_14 : decode cX8_acceptGoal 14 = .ok (.invokevirtual 100, 3) := by decide +kernel
theorem d_cX8_acceptGoal_17 : decode cX8_acceptGoal 17 = .ok (.ifCond .eq 7, 3) := by decide +kernel
theorem d_cX8_acceptGoal_20 : decode cX8_acceptGoal 20 = .ok (.iconst (-1), 1) := by decide +kernel
theorem d_cX8_acceptGoal_21 : decode cX8_acceptGoal 21 = .ok (.goto 14, 3) := by decide +kernel
theorem d_cX8_acceptGoal_24 : decode cX8_acceptGoal 24 = .ok (.aload_n 1, 1) := by decide +kernel
theorem d_cX8_acceptGoal_25 : decode cX8_acceptGoal 25 = .ok (.aload_n 0, 1) := by decide +kernel
theorem d_cX8_acceptGoal_26 : decode cX8_acceptGoal 26 = .ok (.getfield 20, 3) := by decide +kernel
theorem d_cX8_acceptGoal_29 : decode cX8_acceptGoal 29 = .ok (.invokevirtual 97, 3) := by decide +kernel
theorem d_cX8_acceptGoal_32 : decode cX8_acceptGoal 32 = .ok (.invokevirtual 148, 3) := by decide +kernel
theorem d_cX8_acceptGoal_35 : decode cX8_acceptGoal 35 = .ok (.istore_n 3, 1) := by decide +kernel
theorem d_cX8_acceptGoal_36 : decode cX8_acceptGoal 36 = .ok (.iload_n 3, 1) := by decide +kernel
theorem d_cX8_acceptGoal_37 : decode cX8_acceptGoal 37 = .ok (.ifCond .lt 25, 3) := by decide +kernel
theorem d_cX8_acceptGoal_40 : decode cX8_acceptGoal 40 = .ok (.iload_n 3, 1) := by decide +kernel
theorem d_cX8_acceptGoal_41 : decode cX8_acceptGoal 41 = .ok (.aload_n 0, 1) := by decide +kernel
theorem d_cX8_acceptGoal_42 : decode cX8_acceptGoal 42 = .ok (.getfield 9, 3) := by decide +kernel
theorem d_cX8_acceptGoal_45 : decode cX8_acceptGoal 45 = .ok (.arraylength, 1) := by decide +kernel
theorem d_cX8_acceptGoal_46 : decode cX8_acceptGoal 46 = .ok (.if_icmp .ge 16, 3) := by decide +kernel
theorem d_cX8_acceptGoal_49 : decode cX8_acceptGoal 49 = .ok (.aload_n 0, 1) := by decide +kernel
theorem d_cX8_acceptGoal_50 : decode cX8_acceptGoal 50 = .ok (.getfield 9, 3) := by decide +kernel
theorem d_cX8_acceptGoal_53 : decode cX8_acceptGoal 53 = .ok (.iload_n 3, 1) := by decide +kernel
theorem d_cX8_acceptGoal_54 : decode cX8_acceptGoal 54 = .ok (.aload_n 0, 1) := by decide +kernel
theorem d_cX8_acceptGoal_55 : decode cX8_acceptGoal 55 = .ok (.getfield 20, 3) := by decide +kernel
theorem d_cX8_acceptGoal_58 : decode cX8_acceptGoal 58 = .ok (.invokevirtual 63, 3) := by decide +kernel
theorem d_cX8_acceptGoal_61 : decode cX8_acceptGoal 61 = .ok (.iastore, 1) := by decide +kernel
theorem d_cX8_acceptGoal_62 : decode cX8_acceptGoal 62 = .ok (.aload_n 0, 1) := by decide +kernel
theorem d_cX8_acceptGoal_63 : decode cX8_acceptGoal 63 = .ok (.iload_n 2, 1) := by decide +kernel
theorem d_cX8_acceptGoal_64 : decode cX8_acceptGoal 64 = .ok (.putfield 46, 3) := by decide +kernel
theorem d_cX8_acceptGoal_67 : decode cX8_acceptGoal 67 = .ok (.iconst 1, 1) := by decide +kernel
theorem d_cX8_acceptGoal_68 : decode cX8_acceptGoal 68 = .ok (.ireturn, 1) := by decide +kernel
theorem d_cX8_acceptLabel_0 : decode cX8_acceptLabel 0 = .ok (.aload_n 0, 1) := by decide +kernel
theorem d_cX8_acceptLabel_1 : decode cX8_acceptLabel 1 = .ok (.getfield 20, 3) := by decide +kernel
theorem d_cX8_acceptLabel_4 : decode cX8_acceptLabel 4 = .ok (.invokevirtual 52, 3) := by decide +kernel
theorem d_cX8_acceptLabel_7 : decode cX8_acceptLabel 7 = .ok (.iconst 3, 1) := by decide +kernel
theorem d_cX8_acceptLabel_8 : decode cX8_acceptLabel 8 = .ok (.if_icmp .eq 5, 3) := by decide +kernel
theorem d_cX8_acceptLabel_11 : decode cX8_acceptLabel 11 = .ok (.iconst 0, 1) := by decide +kernel
theorem d_cX8_acceptLabel_12 : decode cX8_acceptLabel 12 = .ok (.ireturn, 1) := by decide +kernel
theorem d_cX8_acceptLabel_13 : decode cX8_acceptLabel 13 = .ok (.aload_n 0, 1) := by decide +kernel
theorem d_cX8_acceptLabel_14 : decode cX8_acceptLabel 14 = .ok (.dup, 1) := by decide +kernel
theorem d_cX8_acceptLabel_15 : decode cX8_acceptLabel 15 = .ok (.getfield 33, 3) := by decide +kernel
theorem d_cX8_acceptLabel_18 : decode cX8_acceptLabel 18 = .ok (.lconst 1, 1) := by decide +kernel
theorem d_cX8_acceptLabel_19 : decode cX8_acceptLabel 19 = .ok (.aload_n 0, 1) := by decide +kernel
theorem d_cX8_acceptLabel_20 : decode cX8_acceptLabel 20 = .ok (.getfield 20, 3) := by decide +kernel
theorem d_cX8_acceptLabel_23 : decode cX8_acceptLabel 23 = .ok (.invokevirtual 97, 3) := by decide +kernel
theorem d_cX8_acceptLabel_26 : decode cX8_acceptLabel 26 = .ok (.lshl, 1) := by decide +kernel
theorem d_cX8_acceptLabel_27 : decode cX8_acceptLabel 27 = .ok (.lor, 1) := by decide +kernel
theorem d_cX8_acceptLabel_28 : decode cX8_acceptLabel 28 = .ok (.putfield 33, 3) := by decide +kernel
theorem d_cX8_acceptLabel_31 : decode cX8_acceptLabel 31 = .ok (.aload_n 0, 1) := by decide +kernel
theorem d_cX8_acceptLabel_32 : decode cX8_acceptLabel 32 = .ok (.invokevirtual 100, 3) := by decide +kernel
theorem d_cX8_acceptLabel_35 : decode cX8_acceptLabel 35 = .ok (.ifCond .ne 29, 3) := by decide +kernel
theorem d_cX8_acceptLabel_38 : decode cX8_acceptLabel 38 = .ok (.aload_n 0, 1) := by decide +kernel
theorem d_cX8_acceptLabel_39 : decode cX8_acceptLabel 39 = .ok (.getfield 20, 3) := by decide +kernel
theorem d_cX8_acceptLabel_42 : decode cX8_acceptLabel 42 = .ok (.invokevirtual 97, 3) := by decide +kernel
theorem d_cX8_acceptLabel_45 : decode cX8_acceptLabel 45 = .ok (.aload_n 1, 1) := by decide +kernel
theorem d_cX8_acceptLabel_46 : decode cX8_acceptLabel 46 = .ok (.getfield 104, 3) := by decide +kernel
theorem d_cX8_acceptLabel_49 : decode cX8_acceptLabel 49 = .ok (.if_icmp .ne 10, 3) := by decide +kernel
theorem d_cX8_acceptLabel_52 : decode cX8_acceptLabel 52 = .ok (.aload_n 1, 1) := by decide +kernel
theorem d_cX8_acceptLabel_53 : decode cX8_acceptLabel 53 = .ok (.invokevirtual 107, 3) := by decide +kernel
theorem d_cX8_acceptLabel_56 : decode cX8_acceptLabel 56 = .ok (.ifCond .ne 8, 3) := by decide +kernel
theorem d_cX8_acceptLabel_59 : decode cX8_acceptLabel 59 = .ok (.aload_n 0, 1) := by decide +kernel
theorem d_cX8_acceptLabel_60 : decode cX8_acceptLabel 60 = .ok (.iconst 2, 1) := by decide +kernel
theorem d_cX8_acceptLabel_61 : decode cX8_acceptLabel 61 = .ok (.invokevirtual 110, 3) := by decide +kernel
theorem d_cX8_acceptLabel_64 : decode cX8_acceptLabel 64 = .ok (.aload_n 0, 1) := by decide +kernel
theorem d_cX8_acceptLabel_65 : decode cX8_acceptLabel 65 = .ok (.iconst 2, 1) := by decide +kernel
theorem d_cX8_acceptLabel_66 : decode cX8_acceptLabel 66 = .ok (.putfield 46, 3) := by decide +kernel
theorem d_cX8_acceptLabel_69 : decode cX8_acceptLabel 69 = .ok (.iconst 1, 1) := by decide +kernel
theorem d_cX8_acceptLabel_70 : decode cX8_acceptLabel 70 = .ok (.ireturn, 1) := by decide +kernel
theorem d_cX8_acceptLine_0 : decode cX8_acceptLine 0 = .ok (.aload_n 0, 1) := by decide +kernel
theorem d_cX8_acceptLine_1 : decode cX8_acceptLine 1 = .ok (.getfield 20, 3) := by decide +kernel
theorem d_cX8_acceptLine_4 : decode cX8_acceptLine 4 = .ok (.invokevirtual 52, 3) := by decide +kernel
theorem d_cX8_acceptLine_7 : decode cX8_acceptLine 7 = .ok (.tableswitch 121 2 12 #[57, 121, 121, 121, 121, 121, 121, 74, 86, 102, 94], 57) := by decide +kernel
theorem d_cX8_acceptLine_64 : decode cX8_acceptLine 64 = .ok (.aload_n 0, 1) := by decide +kernel
theorem d_cX8_acceptLine_65 : decode cX8_acceptLine 65 = .ok (.invokevirtual 114, 3) := by decide +kernel
theorem d_cX8_acceptLine_68 : decode cX8_acceptLine 68 = .ok (.aload_n 0, 1) := by decide +kernel
theorem d_cX8_acceptLine_69 : decode cX8_acceptLine 69 = .ok (.aload_n 0, 1) := by decide +kernel
theorem d_cX8_acceptLine_70 : decode cX8_acceptLine 70 = .ok (.getfield 20, 3) := by decide +kernel
theorem d_cX8_acceptLine_73 : decode cX8_acceptLine 73 = .ok (.invokevirtual 97, 3) := by decide +kernel
theorem d_cX8_acceptLine_76 : decode cX8_acceptLine 76 = .ok (.iconst 4, 1) := by decide +kernel
theorem d_cX8_acceptLine_77 : decode cX8_acceptLine 77 = .ok (.invokevirtual 117, 3) := by decide +kernel
theorem d_cX8_acceptLine_80 : decode cX8_acceptLine 80 = .ok (.ireturn, 1) := by decide +kernel
theorem d_cX8_acceptLine_81 : decode cX8_acceptLine 81 = .ok (.aload_n 0, 1) := by decide +kernel
theorem d_cX8_acceptLine_82 : decode cX8_acceptLine 82 = .ok (.invokevirtual 114, 3) := by decide +kernel
theorem d_cX8_acceptLine_85 : decode cX8_acceptLine 85 = .ok (.aload_n 0, 1) := by decide +kernel
theorem d_cX8_acceptLine_86 : decode cX8_acceptLine 86 = .ok (.iconst (-1), 1) := by decide +kernel
theorem d_cX8_acceptLine_87 : decode cX8_acceptLine 87 = .ok (.bipush 8, 2) := by decide +kernel
theorem d_cX8_acceptLine_89 : decode cX8_acceptLine 89 = .ok (.invokevirtual 117, 3) := by decide +kernel
theorem d_cX8_acceptLine_92 : decode cX8_acceptLine 92 = .ok (.ireturn, 1) := by decide +kernel
theorem d_cX8_acceptLine_93 : decode cX8_acceptLine 93 = .ok (.aload_n 0, 1) := by decide +kernel
theorem d_cX8_acceptLine_94 : decode cX8_acceptLine 94 = .ok (.iconst (-1), 1) := by decide +kernel
theorem d_cX8_acceptLine_95 : decode cX8_acceptLine 95 = .ok (.bipush 9, 2) := by decide +kernel
theorem d_cX8_acceptLine_97 : decode cX8_acceptLine 97 = .ok (.invokevirtual 117, 3) := by decide +kernel
theorem d_cX8_acceptLine_100 : decode cX8_acceptLine 100 = .ok (.ireturn, 1) := by decide +kernel
theorem d_cX8_acceptLine_101 : decode cX8_acceptLine 101 = .ok (.aload_n 0, 1) := by decide +kernel
theorem d_cX8_acceptLine_102 : decode cX8_acceptLine 102 = .ok (.iconst (-1), 1) := by decide +kernel
theorem d_cX8_acceptLine_103 : decode cX8_acceptLine 103 = .ok (.bipush 10, 2) := by decide +kernel
theorem d_cX8_acceptLine_105 : decode cX8_acceptLine 105 = .ok (.invokevirtual 117, 3) := by decide +kernel
theorem d_cX8_acceptLine_108 : decode cX8_acceptLine 108 = .ok (.ireturn, 1) := by decide +kernel
theorem d_cX8_acceptLine_109 : decode cX8_acceptLine 109 = .ok (.aload_n 0, 1) := by decide +kernel
theorem d_cX8_acceptLine_110 : decode cX8_acceptLine 110 = .ok (.iconst (-1), 1) := by decide +kernel
theorem d_cX8_acceptLine_111 : decode cX8_acceptLine 111 = .ok (.bipush 12, 2) := by decide +kernel
theorem d_cX8_acceptLine_113 : decode cX8_acceptLine 113 = .ok (.invokevirtual 117, 3) := by decide +kernel
theorem d_cX8_acceptLine_116 : decode cX8_acceptLine 116 = .ok (.pop, 1) := by decide +kernel
theorem d_cX8_acceptLine_117 : decode cX8_acceptLine 117 = .ok (.aload_n 0, 1) := by decide +kernel
theorem d_cX8_acceptLine_118 : decode cX8_acceptLine 118 = .ok (.aload_n 1, 1) := by decide +kernel
theorem d_cX8_acceptLine_119 : decode cX8_acceptLine 119 = .ok (.bipush 19, 2) := by decide +kernel
theorem d_cX8_acceptLine_121 : decode cX8_acceptLine 121 = .ok (.iconst (-1), 1) := by decide +kernel
theorem d_cX8_acceptLine_122 : decode cX8_acceptLine 122 = .ok (.iconst 0, 1) := by decide +kernel
theorem d_cX8_acceptLine_123 : decode cX8_acceptLine 123 = .ok (.invokevirtual 120, 3) := by decide +kernel
theorem d_cX8_acceptLine_126 : decode cX8_acceptLine 126 = .ok (.iconst 1, 1) := by decide +kernel
theorem d_cX8_acceptLine_127 : decode cX8_acceptLine 127 = .ok (.ireturn, 1) := by decide +kernel
theorem d_cX8_acceptLine_128 : decode cX8_acceptLine 128 = .ok (.iconst 0, 1) := by decide +kernel
theorem d_cX8_acceptLine_129 : decode cX8_acceptLine 129 = .ok (.ireturn, 1) := by decide +kernel
theorem d_cX8_acceptMark_0 : decode cX8_acceptMark 0 = .ok (.aload_n 0, 1) := by decide +kernel
theorem d_cX8_acceptMark_1 : decode cX8_acceptMark 1 = .ok (.iload_n 2, 1) := by decide +kernel
theorem d_cX8_acceptMark_2 : decode cX8_acceptMark 2 = .ok (.putfield 46, 3) := by decide +kernel
theorem d_cX8_acceptMark_5 : decode cX8_acceptMark 5 = .ok (.aload_n 0, 1) := by decide +kernel
theorem d_cX8_acceptMark_6 : decode cX8_acceptMark 6 = .ok (.getfield 20, 3) := by decide +kernel
theorem d_cX8_acceptMark_9 : decode cX8_acceptMark 9 = .ok (.invokevirtual 52, 3) := by decide +kernel
theorem d_cX8_acceptMark_12 : decode cX8_acceptMark 12 = .ok (.iload_n 1, 1) := by decide +kernel
theorem d_cX8_acceptMark_13 : decode cX8_acceptMark 13 = .ok (.if_icmp .ne 7, 3) := by decide +kernel
theorem d_cX8_acceptMark_16 : decode cX8_acceptMark 16 = .ok (.iconst 1, 1) := by decide +kernel
theorem d_cX8_acceptMark_17 : decode cX8_acceptMark 17 = .ok (.goto 4, 3) := by decide +kernel
theorem d_cX8_acceptMark_20 : decode cX8_acceptMark 20 = .ok (.iconst 0, 1) := by decide +kernel
theorem d_cX8_acceptMark_21 : decode cX8_acceptMark 21 = .ok (.ireturn, 1) := by decide +kernel
theorem d_cX8_acceptOnly_0 : decode cX8_acceptOnly 0 = .ok (.aload_n 0, 1) := by decide +kernel
theorem d_cX8_acceptOnly_1 : decode cX8_acceptOnly 1 = .ok (.invokevirtual 133, 3) := by decide +kernel
theorem d_cX8_acceptOnly_4 : decode cX8_acceptOnly 4 = .ok (.aload_n 0, 1) := by decide +kernel
theorem d_cX8_acceptOnly_5 : decode cX8_acceptOnly 5 = .ok (.aload_n 1, 1) := by decide +kernel
theorem d_cX8_acceptOnly_6 : decode cX8_acceptOnly 6 = .ok (.iload_n 2, 1) := by decide +kernel
theorem d_cX8_acceptOnly_7 : decode cX8_acceptOnly 7 = .ok (.iconst (-1), 1) := by decide +kernel
theorem d_cX8_acceptOnly_8 : decode cX8_acceptOnly 8 = .ok (.iconst 0, 1) := by decide +kernel
theorem d_cX8_acceptOnly_9 : decode cX8_acceptOnly 9 = .ok (.invokevirtual 120, 3) := by decide +kernel
theorem d_cX8_acceptOnly_12 : decode cX8_acceptOnly 12 = .ok (.aload_n 0, 1) := by decide +kernel
theorem d_cX8_acceptOnly_13 : decode cX8_acceptOnly 13 = .ok (.iload_n 3, 1) := by decide +kernel
theorem d_cX8_acceptOnly_14 : decode cX8_acceptOnly 14 = .ok (.putfield 46, 3) := by decide +kernel
theorem d_cX8_acceptOnly_17 : decode cX8_acceptOnly 17 = .ok (.aload_n 0, 1) := by decide +kernel
theorem d_cX8_acceptOnly_18 : decode cX8_acceptOnly 18 = .ok (.invokevirtual 136, 3) := by decide +kernel
theorem d_cX8_acceptOnly_21 : decode cX8_acceptOnly 21 = .ok (.ireturn, 1) := by decide +kernel
theorem d_cX8_acceptOpOrLine_0 : decode cX8_acceptOpOrLine 0 = .ok (.aload_n 0, 1) := by decide +kernel
theorem d_cX8_acceptOpOrLine_1 : decode cX8_acceptOpOrLine 1 = .ok (.getfield 20, 3) := by decide +kernel
theorem d_cX8_acceptOpOrLine_4 : decode cX8_acceptOpOrLine 4 = .ok (.invokevirtual 52, 3) := by decide +kernel
theorem d_cX8_acceptOpOrLine_7 : decode cX8_acceptOpOrLine 7 = .ok (.iconst 5, 1) := by decide +kernel
theorem d_cX8_acceptOpOrLine_8 : decode cX8_acceptOpOrLine 8 = .ok (.if_icmp .ne 22, 3) := by decide +kernel
theorem d_cX8_acceptOpOrLine_11 : decode cX8_acceptOpOrLine 11 = .ok (.aload_n 0, 1) := by decide +kernel
theorem d_cX8_acceptOpOrLine_12 : decode cX8_acceptOpOrLine 12 = .ok (.aload_n 0, 1) := by decide +kernel
theorem d_cX8_acceptOpOrLine_13 : decode cX8_acceptOpOrLine 13 = .ok (.getfield 20, 3) := by decide +kernel
theorem d_cX8_acceptOpOrLine_16 : decode cX8_acceptOpOrLine 16 = .ok (.invokevirtual 97, 3) := by decide +kernel
theorem d_cX8_acceptOpOrLine_19 : decode cX8_acceptOpOrLine 19 = .ok (.putfield 139, 3) := by decide +kernel
theorem d_cX8_acceptOpOrLine_22 : decode cX8_acceptOpOrLine 22 = .ok (.aload_n 0, 1) := by decide +kernel
theorem d_cX8_acceptOpOrLine_23 : decode cX8_acceptOpOrLine 23 = .ok (.bipush 7, 2) := by decide +kernel
theorem d_cX8_acceptOpOrLine_25 : decode cX8_acceptOpOrLine 25 = .ok (.putfield 46, 3) := by decide +kernel
theorem d_cX8_acceptOpOrLine_28 : decode cX8_acceptOpOrLine 28 = .ok (.iconst 1, 1) := by decide +kernel
theorem d_cX8_acceptOpOrLine_29 : decode cX8_acceptOpOrLine 29 = .ok (.ireturn, 1) := by decide +kernel
theorem d_cX8_acceptOpOrLine_30 : decode cX8_acceptOpOrLine 30 = .ok (.aload_n 0, 1) := by decide +kernel
theorem d_cX8_acceptOpOrLine_31 : decode cX8_acceptOpOrLine 31 = .ok (.aload_n 1, 1) := by decide +kernel
theorem d_cX8_acceptOpOrLine_32 : decode cX8_acceptOpOrLine 32 = .ok (.bipush 14, 2) := by decide +kernel
theorem d_cX8_acceptOpOrLine_34 : decode cX8_acceptOpOrLine 34 = .ok (.iconst (-1), 1) := by decide +kernel
theorem d_cX8_acceptOpOrLine_35 : decode cX8_acceptOpOrLine 35 = .ok (.iconst 0, 1) := by decide +kernel
theorem d_cX8_acceptOpOrLine_36 : decode cX8_acceptOpOrLine 36 = .ok (.invokevirtual 120, 3) := by decide +kernel
theorem d_cX8_acceptOpOrLine_39 : decode cX8_acceptOpOrLine 39 = .ok (.aload_n 0, 1) := by decide +kernel
theorem d_cX8_acceptOpOrLine_40 : decode cX8_acceptOpOrLine 40 = .ok (.aload_n 1, 1) := by decide +kernel
theorem d_cX8_acceptOpOrLine_41 : decode cX8_acceptOpOrLine 41 = .ok (.invokevirtual 77, 3) := by decide +kernel
theorem d_cX8_acceptOpOrLine_44 : decode cX8_acceptOpOrLine 44 = .ok (.ireturn, 1) := by decide +kernel
theorem d_cX8_acceptRight_0 : decode cX8_acceptRight 0 = .ok (.aload_n 0, 1) := by decide +kernel
theorem d_cX8_acceptRight_1 : decode cX8_acceptRight 1 = .ok (.aload_n 1, 1) := by decide +kernel
theorem d_cX8_acceptRight_2 : decode cX8_acceptRight 2 = .ok (.aload_n 0, 1) := by decide +kernel
theorem d_cX8_acceptRight_3 : decode cX8_acceptRight 3 = .ok (.getfield 139, 3) := by decide +kernel
theorem d_cX8_acceptRight_6 : decode cX8_acceptRight 6 = .ok (.aload_n 0, 1) := by decide +kernel
theorem d_cX8_acceptRight_7 : decode cX8_acceptRight 7 = .ok (.invokevirtual 142, 3) := by decide +kernel
theorem d_cX8_acceptRight_10 : decode cX8_acceptRight 10 = .ok (.aload_n 0, 1) := by decide +kernel
theorem d_cX8_acceptRight_11 : decode cX8_acceptRight 11 = .ok (.invokevirtual 145, 3) := by decide +kernel
theorem d_cX8_acceptRight_14 : decode cX8_acceptRight 14 = .ok (.invokevirtual 120, 3) := by decide +kernel
theorem d_cX8_acceptRight_17 : decode cX8_acceptRight 17 = .ok (.aload_n 0, 1) := by decide +kernel
theorem d_cX8_acceptRight_18 : decode cX8_acceptRight 18 = .ok (.iconst 3, 1) := by decide +kernel
theorem d_cX8_acceptRight_19 : decode cX8_acceptRight 19 = .ok (.putfield 46, 3) := by decide +kernel
theorem d_cX8_acceptRight_22 : decode cX8_acceptRight 22 = .ok (.aload_n 0, 1) := by decide +kernel
theorem d_cX8_acceptRight_23 : decode cX8_acceptRight 23 = .ok (.invokevirtual 136, 3) := by decide +kernel
theorem d_cX8_acceptRight_26 : decode cX8_acceptRight 26 = .ok (.ireturn, 1) := by decide +kernel
theorem d_cX8_acceptSource_0 : decode cX8_acceptSource 0 = .ok (.aload_n 0, 1) := by decide +kernel
theorem d_cX8_acceptSource_1 : decode cX8_acceptSource 1 = .ok (.getfield 20, 3) := by decide +kernel
theorem d_cX8_acceptSource_4 : decode cX8_acceptSource 4 = .ok (.invokevirtual 52, 3) := by decide +kernel
theorem d_cX8_acceptSource_7 : decode cX8_acceptSource 7 = .ok (.bipush 8, 2) := by decide +kernel
theorem d_cX8_acceptSource_9 : decode cX8_acceptSource 9 = .ok (.if_icmp .ne 19, 3) := by decide +kernel
theorem d_cX8_acceptSource_12 : decode cX8_acceptSource 12 = .ok (.aload_n 0, 1) := by decide +kernel
theorem d_cX8_acceptSource_13 : decode cX8_acceptSource 13 = .ok (.aload_n 1, 1) := by decide +kernel
theorem d_cX8_acceptSource_14 : decode cX8_acceptSource 14 = .ok (.bipush 15, 2) := by decide +kernel
theorem d_cX8_acceptSource_16 : decode cX8_acceptSource 16 = .ok (.iconst (-1), 1) := by decide +kernel
theorem d_cX8_acceptSource_17 : decode cX8_acceptSource 17 = .ok (.iconst 0, 1) := by decide +kernel
theorem d_cX8_acceptSource_18 : decode cX8_acceptSource 18 = .ok (.invokevirtual 120, 3) := by decide +kernel
theorem d_cX8_acceptSource_21 : decode cX8_acceptSource 21 = .ok (.aload_n 0, 1) := by decide +kernel
theorem d_cX8_acceptSource_22 : decode cX8_acceptSource 22 = .ok (.iconst 3, 1) := by decide +kernel
theorem d_cX8_acceptSource_23 : decode cX8_acceptSource 23 = .ok (.putfield 46, 3) := by decide +kernel
theorem d_cX8_acceptSource_26 : decode cX8_acceptSource 26 = .ok (.iconst 1, 1) := by decide +kernel
theorem d_cX8_acceptSource_27 : decode cX8_acceptSource 27 = .ok (.ireturn, 1) := by decide +kernel
theorem d_cX8_acceptSource_28 : decode cX8_acceptSource 28 = .ok (.aload_n 0, 1) := by decide +kernel
theorem d_cX8_acceptSource_29 : decode cX8_acceptSource 29 = .ok (.invokevirtual 133, 3) := by decide +kernel
theorem d_cX8_acceptSource_32 : decode cX8_acceptSource 32 = .ok (.aload_n 0, 1) := by decide +kernel
theorem d_cX8_acceptSource_33 : decode cX8_acceptSource 33 = .ok (.bipush 6, 2) := by decide +kernel
theorem d_cX8_acceptSource_35 : decode cX8_acceptSource 35 = .ok (.putfield 46, 3) := by decide +kernel
theorem d_cX8_acceptSource_38 : decode cX8_acceptSource 38 = .ok (.aload_n 0, 1) := by decide +kernel
theorem d_cX8_acceptSource_39 : decode cX8_acceptSource 39 = .ok (.invokevirtual 136, 3) := by decide +kernel
theorem d_cX8_acceptSource_42 : decode cX8_acceptSource 42 = .ok (.ireturn, 1) := by decide +kernel
theorem d_cX8_beginLine_0 : decode cX8_beginLine 0 = .ok (.aload_n 0, 1) := by decide +kernel
theorem d_cX8_beginLine_1 : decode cX8_beginLine 1 = .ok (.iload_n 1, 1) := by decide +kernel
theorem d_cX8_beginLine_2 : decode cX8_beginLine 2 = .ok (.putfield 124, 3) := by decide +kernel
theorem d_cX8_beginLine_5 : decode cX8_beginLine 5 = .ok (.aload_n 0, 1) := by decide +kernel
theorem d_cX8_beginLine_6 : decode cX8_beginLine 6 = .ok (.iconst (-1), 1) := by decide +kernel
theorem d_cX8_beginLine_7 : decode cX8_beginLine 7 = .ok (.putfield 127, 3) := by decide +kernel
theorem d_cX8_beginLine_10 : decode cX8_beginLine 10 = .ok (.aload_n 0, 1) := by decide +kernel
theorem d_cX8_beginLine_11 : decode cX8_beginLine 11 = .ok (.iconst 0, 1) := by decide +kernel
theorem d_cX8_beginLine_12 : decode cX8_beginLine 12 = .ok (.putfield 130, 3) := by decide +kernel
theorem d_cX8_beginLine_15 : decode cX8_beginLine 15 = .ok (.aload_n 0, 1) := by decide +kernel
theorem d_cX8_beginLine_16 : decode cX8_beginLine 16 = .ok (.iload_n 2, 1) := by decide +kernel
theorem d_cX8_beginLine_17 : decode cX8_beginLine 17 = .ok (.putfield 46, 3) := by decide +kernel
theorem d_cX8_beginLine_20 : decode cX8_beginLine 20 = .ok (.iconst 1, 1) := by decide +kernel
theorem d_cX8_beginLine_21 : decode cX8_beginLine 21 = .ok (.ireturn, 1) := by decide +kernel
theorem d_cX8_beginRow_0 : decode cX8_beginRow 0 = .ok (.aload_n 0, 1) := by decide +kernel
theorem d_cX8_beginRow_1 : decode cX8_beginRow 1 = .ok (.dup, 1) := by decide +kernel
theorem d_cX8_beginRow_2 : decode cX8_beginRow 2 = .ok (.getfield 37, 3) := by decide +kernel
theorem d_cX8_beginRow_5 : decode cX8_beginRow 5 = .ok (.iconst 1, 1) := by decide +kernel
theorem d_cX8_beginRow_6 : decode cX8_beginRow 6 = .ok (.iadd, 1) := by decide +kernel
theorem d_cX8_beginRow_7 : decode cX8_beginRow 7 = .ok (.putfield 37, 3) := by decide +kernel
theorem d_cX8_beginRow_10 : decode cX8_beginRow 10 = .ok (.aload_n 0, 1) := by decide +kernel
theorem d_cX8_beginRow_11 : decode cX8_beginRow 11 = .ok (.invokevirtual 100, 3) := by decide +kernel
theorem d_cX8_beginRow_14 : decode cX8_beginRow 14 = .ok (.ifCond .ne 18, 3) := by decide +kernel
theorem d_cX8_beginRow_17 : decode cX8_beginRow 17 = .ok (.aload_n 0, 1) := by decide +kernel
theorem d_cX8_beginRow_18 : decode cX8_beginRow 18 = .ok (.getfield 37, 3) := by decide +kernel
theorem d_cX8_beginRow_21 : decode cX8_beginRow 21 = .ok (.sipush 160, 3) := by decide +kernel
theorem d_cX8_beginRow_24 : decode cX8_beginRow 24 = .ok (.if_icmp .le 8, 3) := by decide +kernel
theorem d_cX8_beginRow_27 : decode cX8_beginRow 27 = .ok (.aload_n 0, 1) := by decide +kernel
theorem d_cX8_beginRow_28 : decode cX8_beginRow 28 = .ok (.iconst 4, 1) := by decide +kernel
theorem d_cX8_beginRow_29 : decode cX8_beginRow 29 = .ok (.invokevirtual 110, 3) := by decide +kernel
theorem d_cX8_beginRow_32 : decode cX8_beginRow 32 = .ok (.return_, 1) := by decide +kernel
theorem d_cX8_breakRule_0 : decode cX8_breakRule 0 = .ok (.aload_n 0, 1) := by decide +kernel
theorem d_cX8_breakRule_1 : decode cX8_breakRule 1 = .ok (.aload_n 0, 1) := by decide +kernel
theorem d_cX8_breakRule_2 : decode cX8_breakRule 2 = .ok (.getfield 20, 3) := by decide +kernel
theorem d_cX8_breakRule_5 : decode cX8_breakRule 5 = .ok (.invokevirtual 63, 3) := by decide +kernel
theorem d_cX8_breakRule_8 : decode cX8_breakRule 8 = .ok (.putfield 40, 3) := by decide +kernel
theorem d_cX8_breakRule_11 : decode cX8_breakRule 11 = .ok (.aload_n 0, 1) := by decide +kernel
theorem d_cX8_breakRule_12 : decode cX8_breakRule 12 = .ok (.iload_n 1, 1) := by decide +kernel
theorem d_cX8_breakRule_13 : decode cX8_breakRule 13 = .ok (.putfield 43, 3) := by decide +kernel
theorem d_cX8_breakRule_16 : decode cX8_breakRule 16 = .ok (.return_, 1) := by decide +kernel
theorem d_cX8_checkGoals_0 : decode cX8_checkGoals 0 = .ok (.iconst 0, 1) := by decide +kernel
theorem d_cX8_checkGoals_1 : decode cX8_checkGoals 1 = .ok (.istore_n 2, 1) := by decide +kernel
theorem d_cX8_checkGoals_2 : decode cX8_checkGoals 2 = .ok (.iload_n 2, 1) := by decide +kernel
theorem d_cX8_checkGoals_3 : decode cX8_checkGoals 3 = .ok (.iconst 2, 1) := by decide +kernel
theorem d_cX8_checkGoals_4 : decode cX8_checkGoals 4 = .ok (.aload_n 1, 1) := by decide +kernel
theorem d_cX8_checkGoals_5 : decode cX8_checkGoals 5 = .ok (.getfield 104, 3) := by decide +kernel
theorem d_cX8_checkGoals_8 : decode cX8_checkGoals 8 = .ok (.imul, 1) := by decide +kernel
theorem d_cX8_checkGoals_9 : decode cX8_checkGoals 9 = .ok (.if_icmp .ge 67, 3) := by decide +kernel
theorem d_cX8_checkGoals_12 : decode cX8_checkGoals 12 = .ok (.iload_n 2, 1) := by decide +kernel
theorem d_cX8_checkGoals_13 : decode cX8_checkGoals 13 = .ok (.aload_n 0, 1) := by decide +kernel
theorem d_cX8_checkGoals_14 : decode cX8_checkGoals 14 = .ok (.getfield 9, 3) := by decide +kernel
theorem d_cX8_checkGoals_17 : decode cX8_checkGoals 17 = .ok (.arraylength, 1) := by decide +kernel
theorem d_cX8_checkGoals_18 : decode cX8_checkGoals 18 = .ok (.if_icmp .ge 58, 3) := by decide +kernel
theorem d_cX8_checkGoals_21 : decode cX8_checkGoals 21 = .ok (.aload_n 1, 1) := by decide +kernel
theorem d_cX8_checkGoals_22 : decode cX8_checkGoals 22 = .ok (.iload_n 2, 1) := by decide +kernel
theorem d_cX8_checkGoals_23 : decode cX8_checkGoals 23 = .ok (.iconst 1, 1) := by decide +kernel
theorem d_cX8_checkGoals_24 : decode cX8_checkGoals 24 = .ok (.ishr, 1) := by decide +kernel
theorem d_cX8_checkGoals_25 : decode cX8_checkGoals 25 = .ok (.iload_n 2, 1) := by decide +kernel
theorem d_cX8_checkGoals_26 : decode cX8_checkGoals 26 = .ok (.iconst 1, 1) := by decide +kernel
theorem d_cX8_checkGoals_27 : decode cX8_checkGoals 27 = .ok (.iand, 1) := by decide +kernel
theorem d_cX8_checkGoals_28 : decode cX8_checkGoals 28 = .ok (.invokevirtual 156, 3) := by decide +kernel
theorem d_cX8_checkGoals_31 : decode cX8_checkGoals 31 = .ok (.istore_n 3, 1) := by decide +kernel
theorem d_cX8_checkGoals_32 : decode cX8_checkGoals 32 = .ok (.iload_n 3, 1) := by decide +kernel
theorem d_cX8_checkGoals_33 : decode cX8_checkGoals 33 = .ok (.iconst (-1), 1) := by decide +kernel
theorem d_cX8_checkGoals_34 : decode cX8_checkGoals 34 = .ok (.if_icmp .eq 36, 3) := by decide +kernel
theorem d_cX8_checkGoals_37 : decode cX8_checkGoals 37 = .ok (.iload_n 3, 1) := by decide +kernel
theorem d_cX8_checkGoals_38 : decode cX8_checkGoals 38 = .ok (.ifCond .eq 16, 3) := by decide +kernel
theorem d_cX8_checkGoals_41 : decode cX8_checkGoals 41 = .ok (.aload_n 0, 1) := by decide +kernel
theorem d_cX8_checkGoals_42 : decode cX8_checkGoals 42 = .ok (.getfield 33, 3) := by decide +kernel
theorem d_cX8_checkGoals_45 : decode cX8_checkGoals 45 = .ok (.iload_n 3, 1) := by decide +kernel
theorem d_cX8_checkGoals_46 : decode cX8_checkGoals 46 = .ok (.lshr, 1) := by decide +kernel
theorem d_cX8_checkGoals_47 : decode cX8_checkGoals 47 = .ok (.lconst 1, 1) := by decide +kernel
theorem d_cX8_checkGoals_48 : decode cX8_checkGoals 48 = .ok (.land, 1) := by decide +kernel
theorem d_cX8_checkGoals_49 : decode cX8_checkGoals 49 = .ok (.lconst 0, 1) := by decide +kernel
theorem d_cX8_checkGoals_50 : decode cX8_checkGoals 50 = .ok (.lcmp, 1) := by decide +kernel
theorem d_cX8_checkGoals_51 : decode cX8_checkGoals 51 = .ok (.ifCond .ne 19, 3) := by decide +kernel
theorem d_cX8_checkGoals_54 : decode cX8_checkGoals 54 = .ok (.aload_n 0, 1) := by decide +kernel
theorem d_cX8_checkGoals_55 : decode cX8_checkGoals 55 = .ok (.aload_n 0, 1) := by decide +kernel
theorem d_cX8_checkGoals_56 : decode cX8_checkGoals 56 = .ok (.getfield 9, 3) := by decide +kernel
theorem d_cX8_checkGoals_59 : decode cX8_checkGoals 59 = .ok (.iload_n 2, 1) := by decide +kernel
theorem d_cX8_checkGoals_60 : decode cX8_checkGoals 60 = .ok (.iaload, 1) := by decide +kernel
theorem d_cX8_checkGoals_61 : decode cX8_checkGoals 61 = .ok (.putfield 40, 3) := by decide +kernel
theorem d_cX8_checkGoals_64 : decode cX8_checkGoals 64 = .ok (.aload_n 0, 1) := by decide +kernel
theorem d_cX8_checkGoals_65 : decode cX8_checkGoals 65 = .ok (.iconst 3, 1) := by decide +kernel
theorem d_cX8_checkGoals_66 : decode cX8_checkGoals 66 = .ok (.putfield 43, 3) := by decide +kernel
theorem d_cX8_checkGoals_69 : decode cX8_checkGoals 69 = .ok (.return_, 1) := by decide +kernel
theorem d_cX8_checkGoals_70 : decode cX8_checkGoals 70 = .ok (.iinc 2 1, 3) := by decide +kernel
theorem d_cX8_checkGoals_73 : decode cX8_checkGoals 73 = .ok (.goto (-71), 3) := by decide +kernel
theorem d_cX8_checkGoals_76 : decode cX8_checkGoals 76 = .ok (.return_, 1) := by decide +kernel
theorem d_cX8_isBroken_0 : decode cX8_isBroken 0 = .ok (.aload_n 0, 1) := by decide +kernel
theorem d_cX8_isBroken_1 : decode cX8_isBroken 1 = .ok (.getfield 40, 3) := by decide +kernel
theorem d_cX8_isBroken_4 : decode cX8_isBroken 4 = .ok (.iconst (-1), 1) := by decide +kernel
theorem d_cX8_isBroken_5 : decode cX8_isBroken 5 = .ok (.if_icmp .eq 7, 3) := by decide +kernel
theorem d_cX8_isBroken_8 : decode cX8_isBroken 8 = .ok (.iconst 1, 1) := by decide +kernel
theorem d_cX8_isBroken_9 : decode cX8_isBroken 9 = .ok (.goto 4, 3) := by decide +kernel
theorem d_cX8_isBroken_12 : decode cX8_isBroken 12 = .ok (.iconst 0, 1) := by decide +kernel
theorem d_cX8_isBroken_13 : decode cX8_isBroken 13 = .ok (.ireturn, 1) := by decide +kernel
theorem d_cX8_isOperand_0 : decode cX8_isOperand 0 = .ok (.aload_n 0, 1) := by decide +kernel
theorem d_cX8_isOperand_1 : decode cX8_isOperand 1 = .ok (.getfield 20, 3) := by decide +kernel
theorem d_cX8_isOperand_4 : decode cX8_isOperand 4 = .ok (.invokevirtual 52, 3) := by decide +kernel
theorem d_cX8_isOperand_7 : decode cX8_isOperand 7 = .ok (.iconst 2, 1) := by decide +kernel
theorem d_cX8_isOperand_8 : decode cX8_isOperand 8 = .ok (.if_icmp .eq 14, 3) := by decide +kernel
theorem d_cX8_isOperand_11 : decode cX8_isOperand 11 = .ok (.aload_n 0, 1) := by decide +kernel
theorem d_cX8_isOperand_12 : decode cX8_isOperand 12 = .ok (.getfield 20, 3) := by decide +kernel
theorem d_cX8_isOperand_15 : decode cX8_isOperand 15 = .ok (.invokevirtual 52, 3) := by decide +kernel
theorem d_cX8_isOperand_18 : decode cX8_isOperand 18 = .ok (.iconst 4, 1) := by decide +kernel
theorem d_cX8_isOperand_19 : decode cX8_isOperand 19 = .ok (.if_icmp .ne 7, 3) := by decide +kernel
theorem d_cX8_isOperand_22 : decode cX8_isOperand 22 = .ok (.iconst 1, 1) := by decide +kernel
theorem d_cX8_isOperand_23 : decode cX8_isOperand 23 = .ok (.goto 4, 3) := by decide +kernel
theorem d_cX8_isOperand_26 : decode cX8_isOperand 26 = .ok (.iconst 0, 1) := by decide +kernel
theorem d_cX8_isOperand_27 : decode cX8_isOperand 27 = .ok (.ireturn, 1) := by decide +kernel
theorem d_cX8_keep_0 : decode cX8_keep 0 = .ok (.aload_n 0, 1) := by decide +kernel
theorem d_cX8_keep_1 : decode cX8_keep 1 = .ok (.invokevirtual 100, 3) := by decide +kernel
theorem d_cX8_keep_4 : decode cX8_keep 4 = .ok (.ifCond .ne 23, 3) := by decide +kernel
theorem d_cX8_keep_7 : decode cX8_keep 7 = .ok (.aload_n 1, 1) := by decide +kernel
theorem d_cX8_keep_8 : decode cX8_keep 8 = .ok (.iload_n 2, 1) := by decide +kernel
theorem d_cX8_keep_9 : decode cX8_keep 9 = .ok (.aload_n 0, 1) := by decide +kernel
theorem d_cX8_keep_10 : decode cX8_keep 10 = .ok (.getfield 124, 3) := by decide +kernel
theorem d_cX8_keep_13 : decode cX8_keep 13 = .ok (.aload_n 0, 1) := by decide +kernel
theorem d_cX8_keep_14 : decode cX8_keep 14 = .ok (.getfield 127, 3) := by decide +kernel
theorem d_cX8_keep_17 : decode cX8_keep 17 = .ok (.aload_n 0, 1) := by decide +kernel
theorem d_cX8_keep_18 : decode cX8_keep 18 = .ok (.getfield 130, 3) := by decide +kernel
theorem d_cX8_keep_21 : decode cX8_keep 21 = .ok (.iload_n 3, 1) := by decide +kernel
theorem d_cX8_keep_22 : decode cX8_keep 22 = .ok (.iload 4, 2) := by decide +kernel
theorem d_cX8_keep_24 : decode cX8_keep 24 = .ok (.invokevirtual 152, 3) := by decide +kernel
theorem d_cX8_keep_27 : decode cX8_keep 27 = .ok (.return_, 1) := by decide +kernel
theorem d_cX8_numberOrZero_0 : decode cX8_numberOrZero 0 = .ok (.aload_n 0, 1) := by decide +kernel
theorem d_cX8_numberOrZero_1 : decode cX8_numberOrZero 1 = .ok (.getfield 20, 3) := by decide +kernel
theorem d_cX8_numberOrZero_4 : decode cX8_numberOrZero 4 = .ok (.invokevirtual 52, 3) := by decide +kernel
theorem d_cX8_numberOrZero_7 : decode cX8_numberOrZero 7 = .ok (.iconst 4, 1) := by decide +kernel
theorem d_cX8_numberOrZero_8 : decode cX8_numberOrZero 8 = .ok (.if_icmp .ne 13, 3) := by decide +kernel
theorem d_cX8_numberOrZero_11 : decode cX8_numberOrZero 11 = .ok (.aload_n 0, 1) := by decide +kernel
theorem d_cX8_numberOrZero_12 : decode cX8_numberOrZero 12 = .ok (.getfield 20, 3) := by decide +kernel
theorem d_cX8_numberOrZero_15 : decode cX8_numberOrZero 15 = .ok (.invokevirtual 97, 3) := by decide +kernel
theorem d_cX8_numberOrZero_18 : decode cX8_numberOrZero 18 = .ok (.goto 4, 3) := by decide +kernel
theorem d_cX8_numberOrZero_21 : decode cX8_numberOrZero 21 = .ok (.iconst 0, 1) := by decide +kernel
theorem d_cX8_numberOrZero_22 : decode cX8_numberOrZero 22 = .ok (.ireturn, 1) := by decide +kernel
theorem d_cX8_readInto_0 : decode cX8_readInto 0 = .ok (.aload_n 1, 1) := by decide +kernel
theorem d_cX8_readInto_1 : decode cX8_readInto 1 = .ok (.invokevirtual 28, 3) := by decide +kernel
theorem d_cX8_readInto_4 : decode cX8_readInto 4 = .ok (.aload_n 0, 1) := by decide +kernel
theorem d_cX8_readInto_5 : decode cX8_readInto 5 = .ok (.lconst 0, 1) := by decide +kernel
theorem d_cX8_readInto_6 : decode cX8_readInto 6 = .ok (.putfield 33, 3) := by decide +kernel
theorem d_cX8_readInto_9 : decode cX8_readInto 9 = .ok (.aload_n 0, 1) := by decide +kernel
theorem d_cX8_readInto_10 : decode cX8_readInto 10 = .ok (.iconst 0, 1) := by decide +kernel
theorem d_cX8_readInto_11 : decode cX8_readInto 11 = .ok (.putfield 37, 3) := by decide +kernel
theorem d_cX8_readInto_14 : decode cX8_readInto 14 = .ok (.aload_n 0, 1) := by decide +kernel
theorem d_cX8_readInto_15 : decode cX8_readInto 15 = .ok (.iconst (-1), 1) := by decide +kernel
theorem d_cX8_readInto_16 : decode cX8_readInto 16 = .ok (.putfield 40, 3) := by decide +kernel
theorem d_cX8_readInto_19 : decode cX8_readInto 19 = .ok (.aload_n 0, 1) := by decide +kernel
theorem d_cX8_readInto_20 : decode cX8_readInto 20 = .ok (.iconst 0, 1) := by decide +kernel
theorem d_cX8_readInto_21 : decode cX8_readInto 21 = .ok (.putfield 43, 3) := by decide +kernel
theorem d_cX8_readInto_24 : decode cX8_readInto 24 = .ok (.aload_n 0, 1) := by decide +kernel
theorem d_cX8_readInto_25 : decode cX8_readInto 25 = .ok (.iconst 0, 1) := by decide +kernel
theorem d_cX8_readInto_26 : decode cX8_readInto 26 = .ok (.putfield 46, 3) := by decide +kernel
theorem d_cX8_readInto_29 : decode cX8_readInto 29 = .ok (.aload_n 0, 1) := by decide +kernel
theorem d_cX8_readInto_30 : decode cX8_readInto 30 = .ok (.getfield 20, 3) := by decide +kernel
theorem d_cX8_readInto_33 : decode cX8_readInto 33 = .ok (.invokevirtual 49, 3) := by decide +kernel
theorem d_cX8_readInto_36 : decode cX8_readInto 36 = .ok (.iconst 1, 1) := by decide +kernel
theorem d_cX8_readInto_37 : decode cX8_readInto 37 = .ok (.istore_n 2, 1) := by decide +kernel
theorem d_cX8_readInto_38 : decode cX8_readInto 38 = .ok (.iconst 0, 1) := by decide +kernel
theorem d_cX8_readInto_39 : decode cX8_readInto 39 = .ok (.istore_n 3, 1) := by decide +kernel
theorem d_cX8_readInto_40 : decode cX8_readInto 40 = .ok (.iload_n 3, 1) := by decide +kernel
theorem d_cX8_readInto_41 : decode cX8_readInto 41 = .ok (.sipush 8192, 3) := by decide +kernel
theorem d_cX8_readInto_44 : decode cX8_readInto 44 = .ok (.if_icmp .ge 41, 3) := by decide +kernel
theorem d_cX8_readInto_47 : decode cX8_readInto 47 = .ok (.iload_n 2, 1) := by decide +kernel
theorem d_cX8_readInto_48 : decode cX8_readInto 48 = .ok (.ifCond .eq 37, 3) := by decide +kernel
theorem d_cX8_readInto_51 : decode cX8_readInto 51 = .ok (.aload_n 0, 1) := by decide +kernel
theorem d_cX8_readInto_52 : decode cX8_readInto 52 = .ok (.getfield 20, 3) := by decide +kernel
theorem d_cX8_readInto_55 : decode cX8_readInto 55 = .ok (.invokevirtual 52, 3) := by decide +kernel
theorem d_cX8_readInto_58 : decode cX8_readInto 58 = .ok (.iconst 1, 1) := by decide +kernel
theorem d_cX8_readInto_59 : decode cX8_readInto 59 = .ok (.if_icmp .eq 26, 3) := by decide +kernel
theorem d_cX8_readInto_62 : decode cX8_readInto 62 = .ok (.aload_n 0, 1) := by decide +kernel
theorem d_cX8_readInto_63 : decode cX8_readInto 63 = .ok (.aload_n 1, 1) := by decide +kernel
theorem d_cX8_readInto_64 : decode cX8_readInto 64 = .ok (.invokevirtual 56, 3) := by decide +kernel
theorem d_cX8_readInto_67 : decode cX8_readInto 67 = .ok (.istore_n 2, 1) := by decide +kernel
theorem d_cX8_readInto_68 : decode cX8_readInto 68 = .ok (.iload_n 2, 1) := by decide +kernel
theorem d_cX8_readInto_69 : decode cX8_readInto 69 = .ok (.ifCond .eq 10, 3) := by decide +kernel
theorem d_cX8_readInto_72 : decode cX8_readInto 72 = .ok (.aload_n 0, 1) := by decide +kernel
theorem d_cX8_readInto_73 : decode cX8_readInto 73 = .ok (.getfield 20, 3) := by decide +kernel
theorem d_cX8_readInto_76 : decode cX8_readInto 76 = .ok (.invokevirtual 60, 3) := by decide +kernel
theorem d_cX8_readInto_79 : decode cX8_readInto 79 = .ok (.iinc 3 1, 3) := by decide +kernel
theorem d_cX8_readInto_82 : decode cX8_readInto 82 = .ok (.goto (-42), 3) := by decide +kernel
theorem d_cX8_readInto_85 : decode cX8_readInto 85 = .ok (.iload_n 2, 1) := by decide +kernel
theorem d_cX8_readInto_86 : decode cX8_readInto 86 = .ok (.ifCond .eq 11, 3) := by decide +kernel
theorem d_cX8_readInto_89 : decode cX8_readInto 89 = .ok (.aload_n 0, 1) := by decide +kernel
theorem d_cX8_readInto_90 : decode cX8_readInto 90 = .ok (.getfield 46, 3) := by decide +kernel
theorem d_cX8_readInto_93 : decode cX8_readInto 93 = .ok (.iconst 1, 1) := by decide +kernel
theorem d_cX8_readInto_94 : decode cX8_readInto 94 = .ok (.if_icmp .eq 16, 3) := by decide +kernel
theorem d_cX8_readInto_97 : decode cX8_readInto 97 = .ok (.aload_n 0, 1) := by decide +kernel
theorem d_cX8_readInto_98 : decode cX8_readInto 98 = .ok (.iconst 1, 1) := by decide +kernel
theorem d_cX8_readInto_99 : decode cX8_readInto 99 = .ok (.putfield 24, 3) := by decide +kernel
theorem d_cX8_readInto_102 : decode cX8_readInto 102 = .ok (.aload_n 0, 1) := by decide +kernel
theorem d_cX8_readInto_103 : decode cX8_readInto 103 = .ok (.getfield 20, 3) := by decide +kernel
theorem d_cX8_readInto_106 : decode cX8_readInto 106 = .ok (.invokevirtual 63, 3) := by decide +kernel
theorem d_cX8_readInto_109 : decode cX8_readInto 109 = .ok (.ireturn, 1) := by decide +kernel
theorem d_cX8_readInto_110 : decode cX8_readInto 110 = .ok (.aload_n 0, 1) := by decide +kernel
theorem d_cX8_readInto_111 : decode cX8_readInto 111 = .ok (.aload_n 1, 1) := by decide +kernel
theorem d_cX8_readInto_112 : decode cX8_readInto 112 = .ok (.invokevirtual 66, 3) := by decide +kernel
theorem d_cX8_readInto_115 : decode cX8_readInto 115 = .ok (.aload_n 0, 1) := by decide +kernel
theorem d_cX8_readInto_116 : decode cX8_readInto 116 = .ok (.aload_n 0, 1) := by decide +kernel
theorem d_cX8_readInto_117 : decode cX8_readInto 117 = .ok (.getfield 43, 3) := by decide +kernel
theorem d_cX8_readInto_120 : decode cX8_readInto 120 = .ok (.putfield 24, 3) := by decide +kernel
theorem d_cX8_readInto_123 : decode cX8_readInto 123 = .ok (.aload_n 0, 1) := by decide +kernel
theorem d_cX8_readInto_124 : decode cX8_readInto 124 = .ok (.getfield 40, 3) := by decide +kernel
theorem d_cX8_readInto_127 : decode cX8_readInto 127 = .ok (.ireturn, 1) := by decide +kernel
theorem d_cX8_registerOrNone_0 : decode cX8_registerOrNone 0 = .ok (.aload_n 0, 1) := by decide +kernel
theorem d_cX8_registerOrNone_1 : decode cX8_registerOrNone 1 = .ok (.getfield 20, 3) := by decide +kernel
theorem d_cX8_registerOrNone_4 : decode cX8_registerOrNone 4 = .ok (.invokevirtual 52, 3) := by decide +kernel
theorem d_cX8_registerOrNone_7 : decode cX8_registerOrNone 7 = .ok (.iconst 2, 1) := by decide +kernel
theorem d_cX8_registerOrNone_8 : decode cX8_registerOrNone 8 = .ok (.if_icmp .ne 13, 3) := by decide +kernel
theorem d_cX8_registerOrNone_11 : decode cX8_registerOrNone 11 = .ok (.aload_n 0, 1) := by decide +kernel
theorem d_cX8_registerOrNone_12 : decode cX8_registerOrNone 12 = .ok (.getfield 20, 3) := by decide +kernel
theorem d_cX8_registerOrNone_15 : decode cX8_registerOrNone 15 = .ok (.invokevirtual 97, 3) := by decide +kernel
theorem d_cX8_registerOrNone_18 : decode cX8_registerOrNone 18 = .ok (.goto 4, 3) := by decide +kernel
theorem d_cX8_registerOrNone_21 : decode cX8_registerOrNone 21 = .ok (.iconst (-1), 1) := by decide +kernel
theorem d_cX8_registerOrNone_22 : decode cX8_registerOrNone 22 = .ok (.ireturn, 1) := by decide +kernel
theorem d_cX8_takeLeft_0 : decode cX8_takeLeft 0 = .ok (.aload_n 0, 1) := by decide +kernel
theorem d_cX8_takeLeft_1 : decode cX8_takeLeft 1 = .ok (.aload_n 0, 1) := by decide +kernel
theorem d_cX8_takeLeft_2 : decode cX8_takeLeft 2 = .ok (.invokevirtual 142, 3) := by decide +kernel
theorem d_cX8_takeLeft_5 : decode cX8_takeLeft 5 = .ok (.putfield 127, 3) := by decide +kernel
theorem d_cX8_takeLeft_8 : decode cX8_takeLeft 8 = .ok (.aload_n 0, 1) := by decide +kernel
theorem d_cX8_takeLeft_9 : decode cX8_takeLeft 9 = .ok (.aload_n 0, 1) := by decide +kernel
theorem d_cX8_takeLeft_10 : decode cX8_takeLeft 10 = .ok (.invokevirtual 145, 3) := by decide +kernel
theorem d_cX8_takeLeft_13 : decode cX8_takeLeft 13 = .ok (.putfield 130, 3) := by decide +kernel
theorem d_cX8_takeLeft_16 : decode cX8_takeLeft 16 = .ok (.return_, 1) := by decide +kernel
theorem d_cX9_advance_0 : decode cX9_advance 0 = .ok (.aload_n 0, 1) := by decide +kernel
theorem d_cX9_advance_1 : decode cX9_advance 1 = .ok (.getfield 15, 3) := by decide +kernel
theorem d_cX9_advance_4 : decode cX9_advance 4 = .ok (.iconst 2, 1) := by decide +kernel
theorem d_cX9_advance_5 : decode cX9_advance 5 = .ok (.if_icmp .eq 11, 3) := by decide +kernel
theorem d_cX9_advance_8 : decode cX9_advance 8 = .ok (.aload_n 0, 1) := by decide +kernel
theorem d_cX9_advance_9 : decode cX9_advance 9 = .ok (.getfield 15, 3) := by decide +kernel
theorem d_cX9_advance_12 : decode cX9_advance 12 = .ok (.iconst 4, 1) := by decide +kernel
theorem d_cX9_advance_13 : decode cX9_advance 13 = .ok (.if_icmp .ne 7, 3) := by decide +kernel
theorem d_cX9_advance_16 : decode cX9_advance 16 = .ok (.iconst 1, 1) := by decide +kernel
theorem d_cX9_advance_17 : decode cX9_advance 17 = .ok (.goto 4, 3) := by decide +kernel
theorem d_cX9_advance_20 : decode cX9_advance 20 = .ok (.iconst 0, 1) := by decide +kernel
theorem d_cX9_advance_21 : decode cX9_advance 21 = .ok (.istore_n 1, 1) := by decide +kernel
theorem d_cX9_advance_22 : decode cX9_advance 22 = .ok (.aload_n 0, 1) := by decide +kernel
theorem d_cX9_advance_23 : decode cX9_advance 23 = .ok (.aload_n 0, 1) := by decide +kernel
theorem d_cX9_advance_24 : decode cX9_advance 24 = .ok (.aload_n 0, 1) := by decide +kernel
theorem d_cX9_advance_25 : decode cX9_advance 25 = .ok (.getfield 25, 3) := by decide +kernel
theorem d_cX9_advance_28 : decode cX9_advance 28 = .ok (.invokevirtual 31, 3) := by decide +kernel
theorem d_cX9_advance_31 : decode cX9_advance 31 = .ok (.putfield 22, 3) := by decide +kernel
theorem d_cX9_advance_34 : decode cX9_advance 34 = .ok (.aload_n 0, 1) := by decide +kernel
theorem d_cX9_advance_35 : decode cX9_advance 35 = .ok (.getfield 9, 3) := by decide +kernel
theorem d_cX9_advance_38 : decode cX9_advance 38 = .ok (.aload_n 0, 1) := by decide +kernel
theorem d_cX9_advance_39 : decode cX9_advance 39 = .ok (.getfield 22, 3) := by decide +kernel
theorem d_cX9_advance_42 : decode cX9_advance 42 = .ok (.invokevirtual 35, 3) := by decide +kernel
theorem d_cX9_advance_45 : decode cX9_advance 45 = .ok (.istore_n 2, 1) := by decide +kernel
theorem d_cX9_advance_46 : decode cX9_advance 46 = .ok (.aload_n 0, 1) := by decide +kernel
theorem d_cX9_advance_47 : decode cX9_advance 47 = .ok (.getfield 9, 3) := by decide +kernel
theorem d_cX9_advance_50 : decode cX9_advance 50 = .ok (.aload_n 0, 1) := by decide +kernel
theorem d_cX9_advance_51 : decode cX9_advance 51 = .ok (.getfield 22, 3) := by decide +kernel
theorem d_cX9_advance_54 : decode cX9_advance 54 = .ok (.iconst 1, 1) := by decide +kernel
theorem d_cX9_advance_55 : decode cX9_advance 55 = .ok (.iadd, 1) := by decide +kernel
theorem d_cX9_advance_56 : decode cX9_advance 56 = .ok (.invokevirtual 35, 3) := by decide +kernel
theorem d_cX9_advance_59 : decode cX9_advance 59 = .ok (.istore_n 3, 1) := by decide +kernel
theorem d_cX9_advance_60 : decode cX9_advance 60 = .ok (.aload_n 0, 1) := by decide +kernel
theorem d_cX9_advance_61 : decode cX9_advance 61 = .ok (.iconst 0, 1) := by decide +kernel
theorem d_cX9_advance_62 : decode cX9_advance 62 = .ok (.putfield 19, 3) := by decide +kernel
theorem d_cX9_advance_65 : decode cX9_advance 65 = .ok (.iload_n 2, 1) := by decide +kernel
theorem d_cX9_advance_66 : decode cX9_advance 66 = .ok (.iconst (-1), 1) := by decide +kernel
theorem d_cX9_advance_67 : decode cX9_advance 67 = .ok (.if_icmp .ne 19, 3) := by decide +kernel
theorem d_cX9_advance_70 : decode cX9_advance 70 = .ok (.aload_n 0, 1) := by decide +kernel
theorem d_cX9_advance_71 : decode cX9_advance 71 = .ok (.iconst 1, 1) := by decide +kernel
theorem d_cX9_advance_72 : decode cX9_advance 72 = .ok (.putfield 15, 3) := by decide +kernel
theorem d_cX9_advance_75 : decode cX9_advance 75 = .ok (.aload_n 0, 1) := by decide +kernel
theorem d_cX9_advance_76 : decode cX9_advance 76 = .ok (.aload_n 0, 1) := by decide +kernel
theorem d_cX9_advance_77 : decode cX9_advance 77 = .ok (.getfield 22, 3) := by decide +kernel
theorem d_cX9_advance_80 : decode cX9_advance 80 = .ok (.putfield 25, 3) := by decide +kernel
theorem d_cX9_advance_83 : decode cX9_advance 83 = .ok (.goto 111, 3) := by decide +kernel
theorem d_cX9_advance_86 : decode cX9_advance 86 = .ok (.iload_n 2, 1) := by decide +kernel
theorem d_cX9_advance_87 : decode cX9_advance 87 = .ok (.invokestatic 40, 3) := by decide +kernel
theorem d_cX9_advance_90 : decode cX9_advance 90 = .ok (.ifCond .ne 20, 3) := by decide +kernel
theorem d_cX9_advance_93 : decode cX9_advance 93 = .ok (.iload_n 2, 1) := by decide +kernel
theorem d_cX9_advance_94 : decode cX9_advance 94 = .ok (.bipush 45, 2) := by decide +kernel
theorem d_cX9_advance_96 : decode cX9_advance 96 = .ok (.if_icmp .ne 32, 3) := by decide +kernel
theorem d_cX9_advance_99 : decode cX9_advance 99 = .ok (.iload_n 3, 1) := by decide +kernel
theorem d_cX9_advance_100 : decode cX9_advance 100 = .ok (.invokestatic 40, 3) := by decide +kernel
theorem d_cX9_advance_103 : decode cX9_advance 103 = .ok (.ifCond .eq 25, 3) := by decide +kernel
theorem d_cX9_advance_106 : decode cX9_advance 106 = .ok (.iload_n 1, 1) := by decide +kernel
theorem d_cX9_advance_107 : decode cX9_advance 107 = .ok (.ifCond .ne 21, 3) := by decide +kernel
theorem d_cX9_advance_110 : decode cX9_advance 110 = .ok (.aload_n 0, 1) := by decide +kernel
theorem d_cX9_advance_111 : decode cX9_advance 111 = .ok (.iload_n 2, 1) := by decide +kernel
theorem d_cX9_advance_112 : decode cX9_advance 112 = .ok (.bipush 45, 2) := by decide +kernel
theorem d_cX9_advance_114 : decode cX9_advance 114 = .ok (.if_icmp .ne 7, 3) := by decide +kernel
theorem d_cX9_advance_117 : decode cX9_advance 117 = .ok (.iconst 1, 1) := by decide +kernel
theorem d_cX9_advance_118 : decode cX9_advance 118 = .ok (.goto 4, 3) := by decide +kernel
theorem d_cX9_advance_121 : decode cX9_advance 121 = .ok (.iconst 0, 1) := by decide +kernel
theorem d_cX9_advance_122 : decode cX9_advance 122 = .ok (.invokevirtual 44, 3) := by decide +kernel
theorem d_cX9_advance_125 : decode cX9_advance 125 = .ok (.goto 69, 3) := by decide +kernel
theorem d_cX9_advance_128 : decode cX9_advance 128 = .ok (.iload_n 2, 1) := by decide +kernel
theorem d_cX9_advance_129 : decode cX9_advance 129 = .ok (.bipush 118, 2) := by decide +kernel
theorem d_cX9_advance_131 : decode cX9_advance 131 = .ok (.if_icmp .ne 20, 3) := by decide +kernel
theorem d_cX9_advance_134 : decode cX9_advance 134 = .ok (.iload_n 3, 1) := by decide +kernel
theorem d_cX9_advance_135 : decode cX9_advance 135 = .ok (.invokestatic 40, 3) := by decide +kernel
theorem d_cX9_advance_138 : decode cX9_advance 138 = .ok (.ifCond .eq 13, 3) := by decide +kernel
theorem d_cX9_advance_141 : decode cX9_advance 141 = .ok (.aload_n 0, 1) := by decide +kernel
theorem d_cX9_advance_142 : decode cX9_advance 142 = .ok (.iconst 2, 1) := by decide +kernel
theorem d_cX9_advance_143 : decode cX9_advance 143 = .ok (.bipush 100, 2) := by decide +kernel
theorem d_cX9_advance_145 : decode cX9_advance 145 = .ok (.invokevirtual 48, 3) := by decide +kernel
theorem d_cX9_advance_148 : decode cX9_advance 148 = .ok (.goto 46, 3) := by decide +kernel
theorem d_cX9_advance_151 : decode cX9_advance 151 = .ok (.iload_n 2, 1) := by decide +kernel
theorem d_cX9_advance_152 : decode cX9_advance 152 = .ok (.bipush 98, 2) := by decide +kernel
theorem d_cX9_advance_154 : decode cX9_advance 154 = .ok (.if_icmp .ne 20, 3) := by decide +kernel
theorem d_cX9_advance_157 : decode cX9_advance 157 = .ok (.iload_n 3, 1) := by decide +kernel
theorem d_cX9_advance_158 : decode cX9_advance 158 = .ok (.invokestatic 40, 3) := by decide +kernel
theorem d_cX9_advance_161 : decode cX9_advance 161 = .ok (.ifCond .eq 13, 3) := by decide +kernel
theorem d_cX9_advance_164 : decode cX9_advance 164 = .ok (.aload_n 0, 1) := by decide +kernel
theorem d_cX9_advance_165 : decode cX9_advance 165 = .ok (.iconst 3, 1) := by decide +kernel
theorem d_cX9_advance_166 : decode cX9_advance 166 = .ok (.bipush 40, 2) := by decide +kernel
theorem d_cX9_advance_168 : decode cX9_advance 168 = .ok (.invokevirtual 48, 3) := by decide +kernel
theorem d_cX9_advance_171 : decode cX9_advance 171 = .ok (.goto 23, 3) := by decide +kernel
theorem d_cX9_advance_174 : decode cX9_advance 174 = .ok (.iload_n 2, 1) := by decide +kernel
theorem d_cX9_advance_175 : decode cX9_advance 175 = .ok (.invokestatic 52, 3) := by decide +kernel
theorem d_cX9_advance_178 : decode cX9_advance 178 = .ok (.ifCond .eq 10, 3) := by decide +kernel
theorem d_cX9_advance_181 : decode cX9_advance 181 = .ok (.aload_n 0, 1) := by decide +kernel
theorem d_cX9_advance_182 : decode cX9_advance 182 = .ok (.invokevirtual 55, 3) := by decide +kernel
theorem d_cX9_advance_185 : decode cX9_advance 185 = .ok (.goto 9, 3) := by decide +kernel
theorem d_cX9_advance_188 : decode cX9_advance 188 = .ok (.aload_n 0, 1) := by decide +kernel
theorem d_cX9_advance_189 : decode cX9_advance 189 = .ok (.iload_n 2, 1) := by decide +kernel
theorem d_cX9_advance_190 : decode cX9_advance 190 = .ok (.iload_n 3, 1) := by decide +kernel
theorem d_cX9_advance_191 : decode cX9_advance 191 = .ok (.invokevirtual 58, 3) := by decide +kernel
theorem d_cX9_advance_194 : decode cX9_advance 194 = .ok (.return_, 1) := by decide +kernel
theorem d_cX9_isDigit_0 : decode cX9_isDigit 0 = .ok (.iload_n 0, 1) := by decide +kernel
theorem d_cX9_isDigit_1 : decode cX9_isDigit 1 = .ok (.bipush 48, 2) := by decide +kernel
theorem d_cX9_isDigit_3 : decode cX9_isDigit 3 = .ok (.if_icmp .lt 13, 3) := by decide +kernel
theorem d_cX9_isDigit_6 : decode cX9_isDigit 6 = .ok (.iload_n 0, 1) := by decide +kernel
theorem d_cX9_isDigit_7 : decode cX9_isDigit 7 = .ok (.bipush 57, 2) := by decide +kernel
theorem d_cX9_isDigit_9 : decode cX9_isDigit 9 = .ok (.if_icmp .gt 7, 3) := by decide +kernel
theorem d_cX9_isDigit_12 : decode cX9_isDigit 12 = .ok (.iconst 1, 1) := by decide +kernel
theorem d_cX9_isDigit_13 : decode cX9_isDigit 13 = .ok (.goto 4, 3) := by decide +kernel
theorem d_cX9_isDigit_16 : decode cX9_isDigit 16 = .ok (.iconst 0, 1) := by decide +kernel
theorem d_cX9_isDigit_17 : decode cX9_isDigit 17 = .ok (.ireturn, 1) := by decide +kernel
theorem d_cX9_isLetter_0 : decode cX9_isLetter 0 = .ok (.iload_n 0, 1) := by decide +kernel
theorem d_cX9_isLetter_1 : decode cX9_isLetter 1 = .ok (.bipush 97, 2) := by decide +kernel
theorem d_cX9_isLetter_3 : decode cX9_isLetter 3 = .ok (.if_icmp .lt 13, 3) := by decide +kernel
theorem d_cX9_isLetter_6 : decode cX9_isLetter 6 = .ok (.iload_n 0, 1) := by decide +kernel
theorem d_cX9_isLetter_7 : decode cX9_isLetter 7 = .ok (.bipush 122, 2) := by decide +kernel
theorem d_cX9_isLetter_9 : decode cX9_isLetter 9 = .ok (.if_icmp .gt 7, 3) := by decide +kernel
theorem d_cX9_isLetter_12 : decode cX9_isLetter 12 = .ok (.iconst 1, 1) := by decide +kernel
theorem d_cX9_isLetter_13 : decode cX9_isLetter 13 = .ok (.goto 4, 3) := by decide +kernel
theorem d_cX9_isLetter_16 : decode cX9_isLetter 16 = .ok (.iconst 0, 1) := by decide +kernel
theorem d_cX9_isLetter_17 : decode cX9_isLetter 17 = .ok (.ireturn, 1) := by decide +kernel
theorem d_cX9_isWord_0 : decode cX9_isWord 0 = .ok (.aload_n 0, 1) := by decide +kernel
theorem d_cX9_isWord_1 : decode cX9_isWord 1 = .ok (.getfield 25, 3) := by decide +kernel
theorem d_cX9_isWord_4 : decode cX9_isWord 4 = .ok (.aload_n 0, 1) := by decide +kernel
theorem d_cX9_isWord_5 : decode cX9_isWord 5 = .ok (.getfield 22, 3) := by decide +kernel
theorem d_cX9_isWord_8 : decode cX9_isWord 8 = .ok (.isub, 1) := by decide +kernel
theorem d_cX9_isWord_9 : decode cX9_isWord 9 = .ok (.aload_n 1, 1) := by decide +kernel
theorem d_cX9_isWord_10 : decode cX9_isWord 10 = .ok (.invokevirtual 95, 3) := by decide +kernel
theorem d_cX9_isWord_13 : decode cX9_isWord 13 = .ok (.if_icmp .eq 5, 3) := by decide +kernel
theorem d_cX9_isWord_16 : decode cX9_isWord 16 = .ok (.iconst 0, 1) := by decide +kernel
theorem d_cX9_isWord_17 : decode cX9_isWord 17 = .ok (.ireturn, 1) := by decide +kernel
theorem d_cX9_isWord_18 : decode cX9_isWord 18 = .ok (.iconst 0, 1) := by decide +kernel
theorem d_cX9_isWord_19 : decode cX9_isWord 19 = .ok (.istore_n 2, 1) := by decide +kernel
theorem d_cX9_isWord_20 : decode cX9_isWord 20 = .ok (.iload_n 2, 1) := by decide +kernel
theorem d_cX9_isWord_21 : decode cX9_isWord 21 = .ok (.aload_n 1, 1) := by decide +kernel
theorem d_cX9_isWord_22 : decode cX9_isWord 22 = .ok (.invokevirtual 95, 3) := by decide +kernel
theorem d_cX9_isWord_25 : decode cX9_isWord 25 = .ok (.if_icmp .ge 32, 3) := by decide +kernel
theorem d_cX9_isWord_28 : decode cX9_isWord 28 = .ok (.aload_n 0, 1) := by decide +kernel
theorem d_cX9_isWord_29 : decode cX9_isWord 29 = .ok (.getfield 9, 3) := by decide +kernel
theorem d_cX9_isWord_32 : decode cX9_isWord 32 = .ok (.aload_n 0, 1) := by decide +kernel
theorem d_cX9_isWord_33 : decode cX9_isWord 33 = .ok (.getfield 22, 3) := by decide +kernel
theorem d_cX9_isWord_36 : decode cX9_isWord 36 = .ok (.iload_n 2, 1) := by decide +kernel
theorem d_cX9_isWord_37 : decode cX9_isWord 37 = .ok (.iadd, 1) := by decide +kernel
theorem d_cX9_isWord_38 : decode cX9_isWord 38 = .ok (.invokevirtual 35, 3) := by decide +kernel
theorem d_cX9_isWord_41 : decode cX9_isWord 41 = .ok (.aload_n 1, 1) := by decide +kernel
theorem d_cX9_isWord_42 : decode cX9_isWord 42 = .ok (.iload_n 2, 1) := by decide +kernel
theorem d_cX9_isWord_43 : decode cX9_isWord 43 = .ok (.invokevirtual 100, 3) := by decide +kernel
theorem d_cX9_isWord_46 : decode cX9_isWord 46 = .ok (.if_icmp .eq 5, 3) := by decide +kernel
theorem d_cX9_isWord_49 : decode cX9_isWord 49 = .ok (.iconst 0, 1) := by decide +kernel
theorem d_cX9_isWord_50 : decode cX9_isWord 50 = .ok (.ireturn, 1) := by decide +kernel
theorem d_cX9_isWord_51 : decode cX9_isWord 51 = .ok (.iinc 2 1, 3) := by decide +kernel
theorem d_cX9_isWord_54 : decode cX9_isWord 54 = .ok (.goto (-34), 3) := by decide +kernel
theorem d_cX9_isWord_57 : decode cX9_isWord 57 = .ok (.iconst 1, 1) := by decide +kernel
theorem d_cX9_isWord_58 : decode cX9_isWord 58 = .ok (.ireturn, 1) := by decide +kernel
theorem d_cX9_kind_0 : decode cX9_kind 0 = .ok (.aload_n 0, 1) := by decide +kernel
theorem d_cX9_kind_1 : decode cX9_kind 1 = .ok (.getfield 15, 3) := by decide +kernel
theorem d_cX9_kind_4 : decode cX9_kind 4 = .ok (.ireturn, 1) := by decide +kernel
theorem d_cX9_opOf_0 : decode cX9_opOf 0 = .ok (.iconst 0, 1) := by decide +kernel
theorem d_cX9_opOf_1 : decode cX9_opOf 1 = .ok (.istore_n 2, 1) := by decide +kernel
theorem d_cX9_opOf_2 : decode cX9_opOf 2 = .ok (.iload_n 2, 1) := by decide +kernel
theorem d_cX9_opOf_3 : decode cX9_opOf 3 = .ok (.bipush 14, 2) := by decide +kernel
theorem d_cX9_opOf_5 : decode cX9_opOf 5 = .ok (.if_icmp .ge 37, 3) := by decide +kernel
theorem d_cX9_opOf_8 : decode cX9_opOf 8 = .ok (.ldc 108, 2) := by decide +kernel
theorem d_cX9_opOf_10 : decode cX9_opOf 10 = .ok (.iconst 2, 1) := by decide +kernel
theorem d_cX9_opOf_11 : decode cX9_opOf 11 = .ok (.iload_n 2, 1) := by decide +kernel
theorem d_cX9_opOf_12 : decode cX9_opOf 12 = .ok (.imul, 1) := by decide +kernel
theorem d_cX9_opOf_13 : decode cX9_opOf 13 = .ok (.invokevirtual 100, 3) := by decide +kernel
theorem d_cX9_opOf_16 : decode cX9_opOf 16 = .ok (.iload_n 0, 1) := by decide +kernel
theorem d_cX9_opOf_17 : decode cX9_opOf 17 = .ok (.if_icmp .ne 19, 3) := by decide +kernel
theorem d_cX9_opOf_20 : decode cX9_opOf 20 = .ok (.ldc 108, 2) := by decide +kernel
theorem d_cX9_opOf_22 : decode cX9_opOf 22 = .ok (.iconst 2, 1) := by decide +kernel
theorem d_cX9_opOf_23 : decode cX9_opOf 23 = .ok (.iload_n 2, 1) := by decide +kernel
theorem d_cX9_opOf_24 : decode cX9_opOf 24 = .ok (.imul, 1) := by decide +kernel
theorem d_cX9_opOf_25 : decode cX9_opOf 25 = .ok (.iconst 1, 1) := by decide +kernel
theorem d_cX9_opOf_26 : decode cX9_opOf 26 = .ok (.iadd, 1) := by decide +kernel
theorem d_cX9_opOf_27 : decode cX9_opOf 27 = .ok (.invokevirtual 100, 3) := by decide +kernel
theorem d_cX9_opOf_30 : decode cX9_opOf 30 = .ok (.iload_n 1, 1) := by decide +kernel
theorem d_cX9_opOf_31 : decode cX9_opOf 31 = .ok (.if_icmp .ne 5, 3) := by decide +kernel
theorem d_cX9_opOf_34 : decode cX9_opOf 34 = .ok (.iload_n 2, 1) := by decide +kernel
theorem d_cX9_opOf_35 : decode cX9_opOf 35 = .ok (.ireturn, 1) := by decide +kernel
theorem d_cX9_opOf_36 : decode cX9_opOf 36 = .ok (.iinc 2 1, 3) := by decide +kernel
theorem d_cX9_opOf_39 : decode cX9_opOf 39 = .ok (.goto (-37), 3) := by decide +kernel
theorem d_cX9_opOf_42 : decode cX9_opOf 42 = .ok (.iconst (-1), 1) := by decide +kernel
theorem d_cX9_opOf_43 : decode cX9_opOf 43 = .ok (.ireturn, 1) := by decide +kernel
theorem d_cX9_open_0 : decode cX9_open 0 = .ok (.aload_n 0, 1) := by decide +kernel
theorem d_cX9_open_1 : decode cX9_open 1 = .ok (.iconst 0, 1) := by decide +kernel
theorem d_cX9_open_2 : decode cX9_open 2 = .ok (.putfield 15, 3) := by decide +kernel
theorem d_cX9_open_5 : decode cX9_open 5 = .ok (.aload_n 0, 1) := by decide +kernel
theorem d_cX9_open_6 : decode cX9_open 6 = .ok (.iconst 0, 1) := by decide +kernel
theorem d_cX9_open_7 : decode cX9_open 7 = .ok (.putfield 25, 3) := by decide +kernel
theorem d_cX9_open_10 : decode cX9_open 10 = .ok (.aload_n 0, 1) := by decide +kernel
theorem d_cX9_open_11 : decode cX9_open 11 = .ok (.invokevirtual 28, 3) := by decide +kernel
theorem d_cX9_open_14 : decode cX9_open 14 = .ok (.return_, 1) := by decide +kernel
theorem d_cX9_place_0 : decode cX9_place 0 = .ok (.aload_n 0, 1) := by decide +kernel
theorem d_cX9_place_1 : decode cX9_place 1 = .ok (.getfield 22, 3) := by decide +kernel
theorem d_cX9_place_4 : decode cX9_place 4 = .ok (.ireturn, 1) := by decide +kernel
theorem d_cX9_skipBlanks_0 : decode cX9_skipBlanks 0 = .ok (.iconst 0, 1) := by decide +kernel
theorem d_cX9_skipBlanks_1 : decode cX9_skipBlanks 1 = .ok (.istore_n 2, 1) := by decide +kernel
theorem d_cX9_skipBlanks_2 : decode cX9_skipBlanks 2 = .ok (.iload_n 1, 1) := by decide +kernel
theorem d_cX9_skipBlanks_3 : decode cX9_skipBlanks 3 = .ok (.istore_n 3, 1) := by decide +kernel
theorem d_cX9_skipBlanks_4 : decode cX9_skipBlanks 4 = .ok (.iload_n 3, 1) := by decide +kernel
theorem d_cX9_skipBlanks_5 : decode cX9_skipBlanks 5 = .ok (.aload_n 0, 1) := by decide +kernel
theorem d_cX9_skipBlanks_6 : decode cX9_skipBlanks 6 = .ok (.getfield 9, 3) := by decide +kernel
theorem d_cX9_skipBlanks_9 : decode cX9_skipBlanks 9 = .ok (.invokevirtual 61, 3) := by decide +kernel
theorem d_cX9_skipBlanks_12 : decode cX9_skipBlanks 12 = .ok (.if_icmp .ge 77, 3) := by decide +kernel
theorem d_cX9_skipBlanks_15 : decode cX9_skipBlanks 15 = .ok (.aload_n 0, 1) := by decide +kernel
theorem d_cX9_skipBlanks_16 : decode cX9_skipBlanks 16 = .ok (.getfield 9, 3) := by decide +kernel
theorem d_cX9_skipBlanks_19 : decode cX9_skipBlanks 19 = .ok (.iload_n 3, 1) := by decide +kernel
theorem d_cX9_skipBlanks_20 : decode cX9_skipBlanks 20 = .ok (.invokevirtual 35, 3) := by decide +kernel
theorem d_cX9_skipBlanks_23 : decode cX9_skipBlanks 23 = .ok (.istore 4, 2) := by decide +kernel
theorem d_cX9_skipBlanks_25 : decode cX9_skipBlanks 25 = .ok (.iload 4, 2) := by decide +kernel
theorem d_cX9_skipBlanks_27 : decode cX9_skipBlanks 27 = .ok (.bipush 10, 2) := by decide +kernel
theorem d_cX9_skipBlanks_29 : decode cX9_skipBlanks 29 = .ok (.if_icmp .eq 18, 3) := by decide +kernel
theorem d_cX9_skipBlanks_32 : decode cX9_skipBlanks 32 = .ok (.iload_n 2, 1) := by decide +kernel
theorem d_cX9_skipBlanks_33 : decode cX9_skipBlanks 33 = .ok (.ifCond .ne 10, 3) := by decide +kernel
theorem d_cX9_skipBlanks_36 : decode cX9_skipBlanks 36 = .ok (.iload 4, 2) := by decide +kernel
theorem d_cX9_skipBlanks_38 : decode cX9_skipBlanks 38 = .ok (.bipush 59, 2) := by decide +kernel
theorem d_cX9_skipBlanks_40 : decode cX9_skipBlanks 40 = .ok (.if_icmp .ne 7, 3) := by decide +kernel
theorem d_cX9_skipBlanks_43 : decode cX9_skipBlanks 43 = .ok (.iconst 1, 1) := by decide +kernel
theorem d_cX9_skipBlanks_44 : decode cX9_skipBlanks 44 = .ok (.goto 4, 3) := by decide +kernel
theorem d_cX9_skipBlanks_47 : decode cX9_skipBlanks 47 = .ok (.iconst 0, 1) := by decide +kernel
theorem d_cX9_skipBlanks_48 : decode cX9_skipBlanks 48 = .ok (.istore_n 2, 1) := by decide +kernel
theorem d_cX9_skipBlanks_49 : decode cX9_skipBlanks 49 = .ok (.iload_n 2, 1) := by decide +kernel
theorem d_cX9_skipBlanks_50 : decode cX9_skipBlanks 50 = .ok (.ifCond .ne 33, 3) := by decide +kernel
theorem d_cX9_skipBlanks_53 : decode cX9_skipBlanks 53 = .ok (.iload 4, 2) := by decide +kernel
theorem d_cX9_skipBlanks_55 : decode cX9_skipBlanks 55 = .ok (.bipush 9, 2) := by decide +kernel
theorem d_cX9_skipBlanks_57 : decode cX9_skipBlanks 57 = .ok (.if_icmp .eq 26, 3) := by decide +kernel
theorem d_cX9_skipBlanks_60 : decode cX9_skipBlanks 60 = .ok (.iload 4, 2) := by decide +kernel
theorem d_cX9_skipBlanks_62 : decode cX9_skipBlanks 62 = .ok (.bipush 10, 2) := by decide +kernel
theorem d_cX9_skipBlanks_64 : decode cX9_skipBlanks 64 = .ok (.if_icmp .eq 19, 3) := by decide +kernel
theorem d_cX9_skipBlanks_67 : decode cX9_skipBlanks 67 = .ok (.iload 4, 2) := by decide +kernel
theorem d_cX9_skipBlanks_69 : decode cX9_skipBlanks 69 = .ok (.bipush 13, 2) := by decide +kernel
theorem d_cX9_skipBlanks_71 : decode cX9_skipBlanks 71 = .ok (.if_icmp .eq 12, 3) := by decide +kernel
theorem d_cX9_skipBlanks_74 : decode cX9_skipBlanks 74 = .ok (.iload 4, 2) := by decide +kernel
theorem d_cX9_skipBlanks_76 : decode cX9_skipBlanks 76 = .ok (.bipush 32, 2) := by decide +kernel
theorem d_cX9_skipBlanks_78 : decode cX9_skipBlanks 78 = .ok (.if_icmp .eq 5, 3) := by decide +kernel
theorem d_cX9_skipBlanks_81 : decode cX9_skipBlanks 81 = .ok (.iload_n 3, 1) := by decide +kernel
theorem d_cX9_skipBlanks_82 : decode cX9_skipBlanks 82 = .ok (.ireturn, 1) := by decide +kernel
theorem d_cX9_skipBlanks_83 : decode cX9_skipBlanks 83 = .ok (.iinc 3 1, 3) := by decide +kernel
theorem d_cX9_skipBlanks_86 : decode cX9_skipBlanks 86 = .ok (.goto (-82), 3) := by decide +kernel
theorem d_cX9_skipBlanks_89 : decode cX9_skipBlanks 89 = .ok (.aload_n 0, 1) := by decide +kernel
theorem d_cX9_skipBlanks_90 : decode cX9_skipBlanks 90 = .ok (.getfield 9, 3) := by decide +kernel
theorem d_cX9_skipBlanks_93 : decode cX9_skipBlanks 93 = .ok (.invokevirtual 61, 3) := by decide +kernel
theorem d_cX9_skipBlanks_96 : decode cX9_skipBlanks 96 = .ok (.ireturn, 1) := by decide +kernel
theorem d_cX9_takeDigits_0 : decode cX9_takeDigits 0 = .ok (.lconst 0, 1) := by decide +kernel
theorem d_cX9_takeDigits_1 : decode cX9_takeDigits 1 = .ok (.lstore_n 2, 1) := by decide +kernel
theorem d_cX9_takeDigits_2 : decode cX9_takeDigits 2 = .ok (.iload_n 1, 1) := by decide +kernel
theorem d_cX9_takeDigits_3 : decode cX9_takeDigits 3 = .ok (.istore 4, 2) := by decide +kernel
theorem d_cX9_takeDigits_5 : decode cX9_takeDigits 5 = .ok (.iload 4, 2) := by decide +kernel
theorem d_cX9_takeDigits_7 : decode cX9_takeDigits 7 = .ok (.aload_n 0, 1) := by decide +kernel
theorem d_cX9_takeDigits_8 : decode cX9_takeDigits 8 = .ok (.getfield 9, 3) := by decide +kernel
theorem d_cX9_takeDigits_11 : decode cX9_takeDigits 11 = .ok (.invokevirtual 61, 3) := by decide +kernel
theorem d_cX9_takeDigits_14 : decode cX9_takeDigits 14 = .ok (.if_icmp .ge 51, 3) := by decide +kernel
theorem d_cX9_takeDigits_17 : decode cX9_takeDigits 17 = .ok (.aload_n 0, 1) := by decide +kernel
theorem d_cX9_takeDigits_18 : decode cX9_takeDigits 18 = .ok (.getfield 9, 3) := by decide +kernel
theorem d_cX9_takeDigits_21 : decode cX9_takeDigits 21 = .ok (.iload 4, 2) := by decide +kernel
theorem d_cX9_takeDigits_23 : decode cX9_takeDigits 23 = .ok (.invokevirtual 35, 3) := by decide +kernel
theorem d_cX9_takeDigits_26 : decode cX9_takeDigits 26 = .ok (.invokestatic 40, 3) := by decide +kernel
theorem d_cX9_takeDigits_29 : decode cX9_takeDigits 29 = .ok (.ifCond .eq 36, 3) := by decide +kernel
theorem d_cX9_takeDigits_32 : decode cX9_takeDigits 32 = .ok (.lload_n 2, 1) := by decide +kernel
theorem d_cX9_takeDigits_33 : decode cX9_takeDigits 33 = .ok (.ldc2_w 69, 3) := by decide +kernel
theorem d_cX9_takeDigits_36 : decode cX9_takeDigits 36 = .ok (.lmul, 1) := by decide +kernel
theorem d_cX9_takeDigits_37 : decode cX9_takeDigits 37 = .ok (.aload_n 0, 1) := by decide +kernel
theorem d_cX9_takeDigits_38 : decode cX9_takeDigits 38 = .ok (.getfield 9, 3) := by decide +kernel
theorem d_cX9_takeDigits_41 : decode cX9_takeDigits 41 = .ok (.iload 4, 2) := by decide +kernel
theorem d_cX9_takeDigits_43 : decode cX9_takeDigits 43 = .ok (.invokevirtual 35, 3) := by decide +kernel
theorem d_cX9_takeDigits_46 : decode cX9_takeDigits 46 = .ok (.i2l, 1) := by decide +kernel
theorem d_cX9_takeDigits_47 : decode cX9_takeDigits 47 = .ok (.ladd, 1) := by decide +kernel
theorem d_cX9_takeDigits_48 : decode cX9_takeDigits 48 = .ok (.ldc2_w 71, 3) := by decide +kernel
theorem d_cX9_takeDigits_51 : decode cX9_takeDigits 51 = .ok (.lsub, 1) := by decide +kernel
theorem d_cX9_takeDigits_52 : decode cX9_takeDigits 52 = .ok (.ldc2_w 73, 3) := by decide +kernel
theorem d_cX9_takeDigits_55 : decode cX9_takeDigits 55 = .ok (.invokestatic 75, 3) := by decide +kernel
theorem d_cX9_takeDigits_58 : decode cX9_takeDigits 58 = .ok (.lstore_n 2, 1) := by decide +kernel
theorem d_cX9_takeDigits_59 : decode cX9_takeDigits 59 = .ok (.iinc 4 1, 3) := by decide +kernel
theorem d_cX9_takeDigits_62 : decode cX9_takeDigits 62 = .ok (.goto (-57), 3) := by decide +kernel
theorem d_cX9_takeDigits_65 : decode cX9_takeDigits 65 = .ok (.aload_n 0, 1) := by decide +kernel
theorem d_cX9_takeDigits_66 : decode cX9_takeDigits 66 = .ok (.iload 4, 2) := by decide +kernel
theorem d_cX9_takeDigits_68 : decode cX9_takeDigits 68 = .ok (.putfield 25, 3) := by decide +kernel
theorem d_cX9_takeDigits_71 : decode cX9_takeDigits 71 = .ok (.lload_n 2, 1) := by decide +kernel
theorem d_cX9_takeDigits_72 : decode cX9_takeDigits 72 = .ok (.lreturn, 1) := by decide +kernel
theorem d_cX9_takeMark_0 : decode cX9_takeMark 0 = .ok (.iload_n 1, 1) := by decide +kernel
theorem d_cX9_takeMark_1 : decode cX9_takeMark 1 = .ok (.iload_n 2, 1) := by decide +kernel
theorem d_cX9_takeMark_2 : decode cX9_takeMark 2 = .ok (.invokestatic 104, 3) := by decide +kernel
theorem d_cX9_takeMark_5 : decode cX9_takeMark 5 = .ok (.istore_n 3, 1) := by decide +kernel
theorem d_cX9_takeMark_6 : decode cX9_takeMark 6 = .ok (.aload_n 0, 1) := by decide +kernel
theorem d_cX9_takeMark_7 : decode cX9_takeMark 7 = .ok (.aload_n 0, 1) := by decide +kernel
theorem d_cX9_takeMark_8 : decode cX9_takeMark 8 = .ok (.getfield 22, 3) := by decide +kernel
theorem d_cX9_takeMark_11 : decode cX9_takeMark 11 = .ok (.iconst 2, 1) := by decide +kernel
theorem d_cX9_takeMark_12 : decode cX9_takeMark 12 = .ok (.iadd, 1) := by decide +kernel
theorem d_cX9_takeMark_13 : decode cX9_takeMark 13 = .ok (.putfield 25, 3) := by decide +kernel
theorem d_cX9_takeMark_16 : decode cX9_takeMark 16 = .ok (.iload_n 3, 1) := by decide +kernel
theorem d_cX9_takeMark_17 : decode cX9_takeMark 17 = .ok (.iconst (-1), 1) := by decide +kernel
theorem d_cX9_takeMark_18 : decode cX9_takeMark 18 = .ok (.if_icmp .eq 9, 3) := by decide +kernel
theorem d_cX9_takeMark_21 : decode cX9_takeMark 21 = .ok (.iload_n 2, 1) := by decide +kernel
theorem d_cX9_takeMark_22 : decode cX9_takeMark 22 = .ok (.bipush 32, 2) := by decide +kernel
theorem d_cX9_takeMark_24 : decode cX9_takeMark 24 = .ok (.if_icmp .ne 20, 3) := by decide +kernel
theorem d_cX9_takeMark_27 : decode cX9_takeMark 27 = .ok (.iload_n 1, 1) := by decide +kernel
theorem d_cX9_takeMark_28 : decode cX9_takeMark 28 = .ok (.bipush 32, 2) := by decide +kernel
theorem d_cX9_takeMark_30 : decode cX9_takeMark 30 = .ok (.invokestatic 104, 3) := by decide +kernel
theorem d_cX9_takeMark_33 : decode cX9_takeMark 33 = .ok (.istore_n 3, 1) := by decide +kernel
theorem d_cX9_takeMark_34 : decode cX9_takeMark 34 = .ok (.aload_n 0, 1) := by decide +kernel
theorem d_cX9_takeMark_35 : decode cX9_takeMark 35 = .ok (.aload_n 0, 1) := by decide +kernel
theorem d_cX9_takeMark_36 : decode cX9_takeMark 36 = .ok (.getfield 22, 3) := by decide +kernel
theorem d_cX9_takeMark_39 : decode cX9_takeMark 39 = .ok (.iconst 1, 1) := by decide +kernel
theorem d_cX9_takeMark_40 : decode cX9_takeMark 40 = .ok (.iadd, 1) := by decide +kernel
theorem d_cX9_takeMark_41 : decode cX9_takeMark 41 = .ok (.putfield 25, 3) := by decide +kernel
theorem d_cX9_takeMark_44 : decode cX9_takeMark 44 = .ok (.aload_n 0, 1) := by decide +kernel
theorem d_cX9_takeMark_45 : decode cX9_takeMark 45 = .ok (.iload_n 3, 1) := by decide +kernel
theorem d_cX9_takeMark_46 : decode cX9_takeMark 46 = .ok (.putfield 19, 3) := by decide +kernel
theorem d_cX9_takeMark_49 : decode cX9_takeMark 49 = .ok (.aload_n 0, 1) := by decide +kernel
theorem d_cX9_takeMark_50 : decode cX9_takeMark 50 = .ok (.iload_n 3, 1) := by decide +kernel
theorem d_cX9_takeMark_51 : decode cX9_takeMark 51 = .ok (.iconst (-1), 1) := by decide +kernel
theorem d_cX9_takeMark_52 : decode cX9_takeMark 52 = .ok (.if_icmp .eq 7, 3) := by decide +kernel
theorem d_cX9_takeMark_55 : decode cX9_takeMark 55 = .ok (.iconst 5, 1) := by decide +kernel
theorem d_cX9_takeMark_56 : decode cX9_takeMark 56 = .ok (.goto 26, 3) := by decide +kernel
theorem d_cX9_takeMark_59 : decode cX9_takeMark 59 = .ok (.iload_n 1, 1) := by decide +kernel
theorem d_cX9_takeMark_60 : decode cX9_takeMark 60 = .ok (.bipush 58, 2) := by decide +kernel
theorem d_cX9_takeMark_62 : decode cX9_takeMark 62 = .ok (.if_icmp .ne 8, 3) := by decide +kernel
theorem d_cX9_takeMark_65 : decode cX9_takeMark 65 = .ok (.bipush 6, 2) := by decide +kernel
theorem d_cX9_takeMark_67 : decode cX9_takeMark 67 = .ok (.goto 15, 3) := by decide +kernel
theorem d_cX9_takeMark_70 : decode cX9_takeMark 70 = .ok (.iload_n 1, 1) := by decide +kernel
theorem d_cX9_takeMark_71 : decode cX9_takeMark 71 = .ok (.bipush 61, 2) := by decide +kernel
theorem d_cX9_takeMark_73 : decode cX9_takeMark 73 = .ok (.if_icmp .ne 8, 3) := by decide +kernel
theorem d_cX9_takeMark_76 : decode cX9_takeMark 76 = .ok (.bipush 7, 2) := by decide +kernel
theorem d_cX9_takeMark_78 : decode cX9_takeMark 78 = .ok (.goto 4, 3) := by decide +kernel
theorem d_cX9_takeMark_81 : decode cX9_takeMark 81 = .ok (.iconst 0, 1) := by decide +kernel
theorem d_cX9_takeMark_82 : decode cX9_takeMark 82 = .ok (.putfield 15, 3) := by decide +kernel
theorem d_cX9_takeMark_85 : decode cX9_takeMark 85 = .ok (.return_, 1) := by decide +kernel
theorem d_cX9_takeNamed_0 : decode cX9_takeNamed 0 = .ok (.aload_n 0, 1) := by decide +kernel
theorem d_cX9_takeNamed_1 : decode cX9_takeNamed 1 = .ok (.aload_n 0, 1) := by decide +kernel
theorem d_cX9_takeNamed_2 : decode cX9_takeNamed 2 = .ok (.getfield 22, 3) := by decide +kernel
theorem d_cX9_takeNamed_5 : decode cX9_takeNamed 5 = .ok (.iconst 1, 1) := by decide +kernel
theorem d_cX9_takeNamed_6 : decode cX9_takeNamed 6 = .ok (.iadd, 1) := by decide +kernel
theorem d_cX9_takeNamed_7 : decode cX9_takeNamed 7 = .ok (.invokevirtual 65, 3) := by decide +kernel
theorem d_cX9_takeNamed_10 : decode cX9_takeNamed 10 = .ok (.lstore_n 3, 1) := by decide +kernel
theorem d_cX9_takeNamed_11 : decode cX9_takeNamed 11 = .ok (.aload_n 0, 1) := by decide +kernel
theorem d_cX9_takeNamed_12 : decode cX9_takeNamed 12 = .ok (.lload_n 3, 1) := by decide +kernel
theorem d_cX9_takeNamed_13 : decode cX9_takeNamed 13 = .ok (.l2i, 1) := by decide +kernel
theorem d_cX9_takeNamed_14 : decode cX9_takeNamed 14 = .ok (.putfield 19, 3) := by decide +kernel
theorem d_cX9_takeNamed_17 : decode cX9_takeNamed 17 = .ok (.aload_n 0, 1) := by decide +kernel
theorem d_cX9_takeNamed_18 : decode cX9_takeNamed 18 = .ok (.lload_n 3, 1) := by decide +kernel
theorem d_cX9_takeNamed_19 : decode cX9_takeNamed 19 = .ok (.iload_n 2, 1) := by decide +kernel
theorem d_cX9_takeNamed_20 : decode cX9_takeNamed 20 = .ok (.i2l, 1) := by decide +kernel
theorem d_cX9_takeNamed_21 : decode cX9_takeNamed 21 = .ok (.lcmp, 1) := by decide +kernel
theorem d_cX9_takeNamed_22 : decode cX9_takeNamed 22 = .ok (.ifCond .ge 7, 3) := by decide +kernel
theorem d_cX9_takeNamed_25 : decode cX9_takeNamed 25 = .ok (.iload_n 1, 1) := by decide +kernel
theorem d_cX9_takeNamed_26 : decode cX9_takeNamed 26 = .ok (.goto 4, 3) := by decide +kernel
theorem d_cX9_takeNamed_29 : decode cX9_takeNamed 29 = .ok (.iconst 0, 1) := by decide +kernel
theorem d_cX9_takeNamed_30 : decode cX9_takeNamed 30 = .ok (.putfield 15, 3) := by decide +kernel
theorem d_cX9_takeNamed_33 : decode cX9_takeNamed 33 = .ok (.return_, 1) := by decide +kernel
theorem d_cX9_takeNumber_0 : decode cX9_takeNumber 0 = .ok (.aload_n 0, 1) := by decide +kernel
theorem d_cX9_takeNumber_1 : decode cX9_takeNumber 1 = .ok (.iload_n 1, 1) := by decide +kernel
theorem d_cX9_takeNumber_2 : decode cX9_takeNumber 2 = .ok (.ifCond .eq 12, 3) := by decide +kernel
theorem d_cX9_takeNumber_5 : decode cX9_takeNumber 5 = .ok (.aload_n 0, 1) := by decide +kernel
theorem d_cX9_takeNumber_6 : decode cX9_takeNumber 6 = .ok (.getfield 22, 3) := by decide +kernel
theorem d_cX9_takeNumber_9 : decode cX9_takeNumber 9 = .ok (.iconst 1, 1) := by decide +kernel
theorem d_cX9_takeNumber_10 : decode cX9_takeNumber 10 = .ok (.iadd, 1) := by decide +kernel
theorem d_cX9_takeNumber_11 : decode cX9_takeNumber 11 = .ok (.goto 7, 3) := by decide +kernel
theorem d_cX9_takeNumber_14 : decode cX9_takeNumber 14 = .ok (.aload_n 0, 1) := by decide +kernel
theorem d_cX9_takeNumber_15 : decode cX9_takeNumber 15 = .ok (.getfield 22, 3) := by decide +kernel
theorem d_cX9_takeNumber_18 : decode cX9_takeNumber 18 = .ok (.invokevirtual 65, 3) := by decide +kernel
theorem d_cX9_takeNumber_21 : decode cX9_takeNumber 21 = .ok (.lstore_n 2, 1) := by decide +kernel
theorem d_cX9_takeNumber_22 : decode cX9_takeNumber 22 = .ok (.iload_n 1, 1) := by decide +kernel
theorem d_cX9_takeNumber_23 : decode cX9_takeNumber 23 = .ok (.ifCond .eq 8, 3) := by decide +kernel
theorem d_cX9_takeNumber_26 : decode cX9_takeNumber 26 = .ok (.lload_n 2, 1) := by decide +kernel
theorem d_cX9_takeNumber_27 : decode cX9_takeNumber 27 = .ok (.lneg, 1) := by decide +kernel
theorem d_cX9_takeNumber_28 : decode cX9_takeNumber 28 = .ok (.goto 4, 3) := by decide +kernel
theorem d_cX9_takeNumber_31 : decode cX9_takeNumber 31 = .ok (.lload_n 2, 1) := by decide +kernel
theorem d_cX9_takeNumber_32 : decode cX9_takeNumber 32 = .ok (.lstore 4, 2) := by decide +kernel
theorem d_cX9_takeNumber_34 : decode cX9_takeNumber 34 = .ok (.aload_n 0, 1) := by decide +kernel
theorem d_cX9_takeNumber_35 : decode cX9_takeNumber 35 = .ok (.lload 4, 2) := by decide +kernel
theorem d_cX9_takeNumber_37 : decode cX9_takeNumber 37 = .ok (.l2i, 1) := by decide +kernel
theorem d_cX9_takeNumber_38 : decode cX9_takeNumber 38 = .ok (.putfield 19, 3) := by decide +kernel
theorem d_cX9_takeNumber_41 : decode cX9_takeNumber 41 = .ok (.aload_n 0, 1) := by decide +kernel
theorem d_cX9_takeNumber_42 : decode cX9_takeNumber 42 = .ok (.aload_n 0, 1) := by decide +kernel
theorem d_cX9_takeNumber_43 : decode cX9_takeNumber 43 = .ok (.getfield 19, 3) := by decide +kernel
theorem d_cX9_takeNumber_46 : decode cX9_takeNumber 46 = .ok (.i2l, 1) := by decide +kernel
theorem d_cX9_takeNumber_47 : decode cX9_takeNumber 47 = .ok (.lload 4, 2) := by decide +kernel
theorem d_cX9_takeNumber_49 : decode cX9_takeNumber 49 = .ok (.lcmp, 1) := by decide +kernel
theorem d_cX9_takeNumber_50 : decode cX9_takeNumber 50 = .ok (.ifCond .ne 7, 3) := by decide +kernel
theorem d_cX9_takeNumber_53 : decode cX9_takeNumber 53 = .ok (.iconst 4, 1) := by decide +kernel
theorem d_cX9_takeNumber_54 : decode cX9_takeNumber 54 = .ok (.goto 4, 3) := by decide +kernel
theorem d_cX9_takeNumber_57 : decode cX9_takeNumber 57 = .ok (.iconst 0, 1) := by decide +kernel
theorem d_cX9_takeNumber_58 : decode cX9_takeNumber 58 = .ok (.putfield 15, 3) := by decide +kernel
theorem d_cX9_takeNumber_61 : decode cX9_takeNumber 61 = .ok (.return_, 1) := by decide +kernel
theorem d_cX9_takeWord_0 : decode cX9_takeWord 0 = .ok (.aload_n 0, 1) := by decide +kernel
theorem d_cX9_takeWord_1 : decode cX9_takeWord 1 = .ok (.getfield 22, 3) := by decide +kernel
theorem d_cX9_takeWord_4 : decode cX9_takeWord 4 = .ok (.istore_n 1, 1) := by decide +kernel
theorem d_cX9_takeWord_5 : decode cX9_takeWord 5 = .ok (.iload_n 1, 1) := by decide +kernel
theorem d_cX9_takeWord_6 : decode cX9_takeWord 6 = .ok (.aload_n 0, 1) := by decide +kernel
theorem d_cX9_takeWord_7 : decode cX9_takeWord 7 = .ok (.getfield 9, 3) := by decide +kernel
theorem d_cX9_takeWord_10 : decode cX9_takeWord 10 = .ok (.invokevirtual 61, 3) := by decide +kernel
theorem d_cX9_takeWord_13 : decode cX9_takeWord 13 = .ok (.if_icmp .ge 23, 3) := by decide +kernel
theorem d_cX9_takeWord_16 : decode cX9_takeWord 16 = .ok (.aload_n 0, 1) := by decide +kernel
theorem d_cX9_takeWord_17 : decode cX9_takeWord 17 = .ok (.getfield 9, 3) := by decide +kernel
theorem d_cX9_takeWord_20 : decode cX9_takeWord 20 = .ok (.iload_n 1, 1) := by decide +kernel
theorem d_cX9_takeWord_21 : decode cX9_takeWord 21 = .ok (.invokevirtual 35, 3) := by decide +kernel
theorem d_cX9_takeWord_24 : decode cX9_takeWord 24 = .ok (.invokestatic 52, 3) := by decide +kernel
theorem d_cX9_takeWord_27 : decode cX9_takeWord 27 = .ok (.ifCond .eq 9, 3) := by decide +kernel
theorem d_cX9_takeWord_30 : decode cX9_takeWord 30 = .ok (.iinc 1 1, 3) := by decide +kernel
theorem d_cX9_takeWord_33 : decode cX9_takeWord 33 = .ok (.goto (-28), 3) := by decide +kernel
theorem d_cX9_takeWord_36 : decode cX9_takeWord 36 = .ok (.aload_n 0, 1) := by decide +kernel
theorem d_cX9_takeWord_37 : decode cX9_takeWord 37 = .ok (.iload_n 1, 1) := by decide +kernel
theorem d_cX9_takeWord_38 : decode cX9_takeWord 38 = .ok (.putfield 25, 3) := by decide +kernel
theorem d_cX9_takeWord_41 : decode cX9_takeWord 41 = .ok (.aload_n 0, 1) := by decide +kernel
theorem d_cX9_takeWord_42 : decode cX9_takeWord 42 = .ok (.aload_n 0, 1) := by decide +kernel
theorem d_cX9_takeWord_43 : decode cX9_takeWord 43 = .ok (.ldc 81, 2) := by decide +kernel
theorem d_cX9_takeWord_45 : decode cX9_takeWord 45 = .ok (.invokevirtual 83, 3) := by decide +kernel
theorem d_cX9_takeWord_48 : decode cX9_takeWord 48 = .ok (.ifCond .eq 8, 3) := by decide +kernel
theorem d_cX9_takeWord_51 : decode cX9_takeWord 51 = .ok (.bipush 8, 2) := by decide +kernel
theorem d_cX9_takeWord_53 : decode cX9_takeWord 53 = .ok (.goto 60, 3) := by decide +kernel
theorem d_cX9_takeWord_56 : decode cX9_takeWord 56 = .ok (.aload_n 0, 1) := by decide +kernel
theorem d_cX9_takeWord_57 : decode cX9_takeWord 57 = .ok (.ldc 87, 2) := by decide +kernel
theorem d_cX9_takeWord_59 : decode cX9_takeWord 59 = .ok (.invokevirtual 83, 3) := by decide +kernel
theorem d_cX9_takeWord_62 : decode cX9_takeWord 62 = .ok (.ifCond .eq 8, 3) := by decide +kernel
theorem d_cX9_takeWord_65 : decode cX9_takeWord 65 = .ok (.bipush 9, 2) := by decide +kernel
theorem d_cX9_takeWord_67 : decode cX9_takeWord 67 = .ok (.goto 46, 3) := by decide +kernel
theorem d_cX9_takeWord_70 : decode cX9_takeWord 70 = .ok (.aload_n 0, 1) := by decide +kernel
theorem d_cX9_takeWord_71 : decode cX9_takeWord 71 = .ok (.ldc 89, 2) := by decide +kernel
theorem d_cX9_takeWord_73 : decode cX9_takeWord 73 = .ok (.invokevirtual 83, 3) := by decide +kernel
theorem d_cX9_takeWord_76 : decode cX9_takeWord 76 = .ok (.ifCond .eq 8, 3) := by decide +kernel
theorem d_cX9_takeWord_79 : decode cX9_takeWord 79 = .ok (.bipush 10, 2) := by decide +kernel
theorem d_cX9_takeWord_81 : decode cX9_takeWord 81 = .ok (.goto 32, 3) := by decide +kernel
theorem d_cX9_takeWord_84 : decode cX9_takeWord 84 = .ok (.aload_n 0, 1) := by decide +kernel
theorem d_cX9_takeWord_85 : decode cX9_takeWord 85 = .ok (.ldc 91, 2) := by decide +kernel
theorem d_cX9_takeWord_87 : decode cX9_takeWord 87 = .ok (.invokevirtual 83, 3) := by decide +kernel
theorem d_cX9_takeWord_90 : decode cX9_takeWord 90 = .ok (.ifCond .eq 8, 3) := by decide +kernel
theorem d_cX9_takeWord_93 : decode cX9_takeWord 93 = .ok (.bipush 11, 2) := by decide +kernel
theorem d_cX9_takeWord_95 : decode cX9_takeWord 95 = .ok (.goto 18, 3) := by decide +kernel
theorem d_cX9_takeWord_98 : decode cX9_takeWord 98 = .ok (.aload_n 0, 1) := by decide +kernel
theorem d_cX9_takeWord_99 : decode cX9_takeWord 99 = .ok (.ldc 93, 2) := by decide +kernel
theorem d_cX9_takeWord_101 : decode cX9_takeWord 101 = .ok (.invokevirtual 83, 3) := by decide +kernel
theorem d_cX9_takeWord_104 : decode cX9_takeWord 104 = .ok (.ifCond .eq 8, 3) := by decide +kernel
theorem d_cX9_takeWord_107 : decode cX9_takeWord 107 = .ok (.bipush 12, 2) := by decide +kernel
theorem d_cX9_takeWord_109 : decode cX9_takeWord 109 = .ok (.goto 4, 3) := by decide +kernel
theorem d_cX9_takeWord_112 : decode cX9_takeWord 112 = .ok (.iconst 0, 1) := by decide +kernel
theorem d_cX9_takeWord_113 : decode cX9_takeWord 113 = .ok (.putfield 15, 3) := by decide +kernel
theorem d_cX9_takeWord_116 : decode cX9_takeWord 116 = .ok (.return_, 1) := by decide +kernel
theorem d_cX9_value_0 : decode cX9_value 0 = .ok (.aload_n 0, 1) := by decide +kernel
theorem d_cX9_value_1 : decode cX9_value 1 = .ok (.getfield 19, 3) := by decide +kernel
theorem d_cX9_value_4 : decode cX9_value 4 = .ok (.ireturn, 1) := by decide +kernel
