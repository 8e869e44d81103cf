theorem w_2_57 : (Jvm.Cond.fieldLink "SpillForge$Graph" (41 : Nat) "SpillForge$Graph" "words" "I") ∈ gw := gw_2 57 rfl rfl
theorem w_2_47 : (Jvm.Cond.fieldLink "SpillForge$Graph" (12 : Nat) "SpillForge$Graph" "live" "LSpillForge$Live;") ∈ gw := gw_2 47 rfl rfl
theorem w_2_49 : (Jvm.Cond.fieldLink "SpillForge$Graph" (18 : Nat) "SpillForge$Graph" "joined" "[J") ∈ gw := gw_2 49 rfl rfl
theorem w_4_124 : (Jvm.Cond.constantLong "SpillForge$Graph" (91 : Nat) (-1 : Int64)) ∈ gw := gw_4 124 rfl rfl
theorem w_4_96 : (Jvm.Cond.constantLong "java/lang/Long" (314 : Nat) (6148914691236517205 : Int64)) ∈ gw := gw_4 96 rfl rfl
theorem w_4_97 : (Jvm.Cond.constantLong "java/lang/Long" (316 : Nat) (3689348814741910323 : Int64)) ∈ gw := gw_4 97 rfl rfl
theorem w_4_98 : (Jvm.Cond.constantLong "java/lang/Long" (318 : Nat) (1085102592571150095 : Int64)) ∈ gw := gw_4 98 rfl rfl
theorem w_4_128 : (Jvm.Cond.methodLink "SpillForge" (228 : Nat) ({ cls := "java/lang/Long", name := "bitCount", desc := "(J)I" } : Jvm.MethodName)) ∈ gw := gw_4 128 rfl rfl
theorem w_1_31 : (Jvm.Cond.initialized "java/lang/Long") ∈ gw := gw_1 31 rfl rfl
theorem w_4_95 : (Jvm.Cond.code ({ cls := "java/lang/Long", name := "bitCount", desc := "(J)I" } : Jvm.MethodName) prog_31_method_50_code (2 : Nat) (Option.some Jvm.ClassFile.FieldType.int)) ∈ gw := gw_4 95 rfl rfl
theorem w_4_94 : (Jvm.Cond.static ({ cls := "java/lang/Long", name := "bitCount", desc := "(J)I" } : Jvm.MethodName)) ∈ gw := gw_4 94 rfl rfl
theorem w_1_1 : (Jvm.Cond.initialized "SpillForge") ∈ gw := gw_1 1 rfl rfl
theorem w_4_127 : (Jvm.Cond.code ({ cls := "SpillForge", name := "lowestBit", desc := "(J)I" } : Jvm.MethodName) prog_1_method_16_code (2 : Nat) (Option.some Jvm.ClassFile.FieldType.int)) ∈ gw := gw_4 127 rfl rfl
theorem w_4_126 : (Jvm.Cond.static ({ cls := "SpillForge", name := "lowestBit", desc := "(J)I" } : Jvm.MethodName)) ∈ gw := gw_4 126 rfl rfl
theorem w_4_141 : (Jvm.Cond.methodLink "SpillForge$Graph" (97 : Nat) ({ cls := "java/lang/Long", name := "bitCount", desc := "(J)I" } : Jvm.MethodName)) ∈ gw := gw_4 141 rfl rfl
theorem w_2_55 : (Jvm.Cond.fieldLink "SpillForge$Graph" (37 : Nat) "SpillForge$Graph" "names" "I") ∈ gw := gw_2 55 rfl rfl
theorem w_2_51 : (Jvm.Cond.fieldLink "SpillForge$Graph" (22 : Nat) "SpillForge$Graph" "standing" "[J") ∈ gw := gw_2 51 rfl rfl
theorem w_2_52 : (Jvm.Cond.fieldLink "SpillForge$Graph" (25 : Nat) "SpillForge$Graph" "degree" "[I") ∈ gw := gw_2 52 rfl rfl
theorem w_2_29 : (Jvm.Cond.fieldLink "SpillForge$Live" (37 : Nat) "SpillForge$Live" "words" "I") ∈ gw := gw_2 29 rfl rfl
theorem w_2_25 : (Jvm.Cond.fieldLink "SpillForge$Live" (21 : Nat) "SpillForge$Live" "now" "[J") ∈ gw := gw_2 25 rfl rfl
theorem w_2_22 : (Jvm.Cond.fieldLink "SpillForge$Live" (9 : Nat) "SpillForge$Live" "in" "[J") ∈ gw := gw_2 22 rfl rfl
theorem w_4_112 : (Jvm.Cond.methodLink "SpillForge$Graph" (57 : Nat) ({ cls := "SpillForge$Live", name := "enterBehind", desc := "(LSpillForge$Code;I)V" } : Jvm.MethodName)) ∈ gw := gw_4 112 rfl rfl
theorem w_1_10 : (Jvm.Cond.initialized "SpillForge$Live") ∈ gw := gw_1 10 rfl rfl
theorem w_4_67 : (Jvm.Cond.code ({ cls := "SpillForge$Live", name := "enterBehind", desc := "(LSpillForge$Code;I)V" } : Jvm.MethodName) prog_7_method_7_code (8 : Nat) (Option.none : Option Jvm.ClassFile.FieldType)) ∈ gw := gw_4 67 rfl rfl
theorem w_4_65 : (Jvm.Cond.instanceMethod ({ cls := "SpillForge$Live", name := "enterBehind", desc := "(LSpillForge$Code;I)V" } : Jvm.MethodName)) ∈ gw := gw_4 65 rfl rfl
theorem w_4_66 : (Jvm.Cond.selects "SpillForge$Live" ({ cls := "SpillForge$Live", name := "enterBehind", desc := "(LSpillForge$Code;I)V" } : Jvm.MethodName) ({ cls := "SpillForge$Live", name := "enterBehind", desc := "(LSpillForge$Code;I)V" } : Jvm.MethodName)) ∈ gw := gw_4 66 rfl rfl
theorem w_1_187 : (Jvm.Cond.fieldLink "SpillForge$Code" (45 : Nat) "SpillForge$Code" "blocks" "I") ∈ gw := gw_1 187 rfl rfl
theorem w_1_197 : (Jvm.Cond.fieldLink "SpillForge$Code" (49 : Nat) "SpillForge$Code" "lines" "I") ∈ gw := gw_1 197 rfl rfl
theorem w_1_142 : (Jvm.Cond.fieldLink "SpillForge$Code" (9 : Nat) "SpillForge$Code" "first" "[I") ∈ gw := gw_1 142 rfl rfl
theorem w_4_113 : (Jvm.Cond.methodLink "SpillForge$Graph" (61 : Nat) ({ cls := "SpillForge$Code", name := "blockEnd", desc := "(I)I" } : Jvm.MethodName)) ∈ gw := gw_4 113 rfl rfl
theorem w_1_5 : (Jvm.Cond.initialized "SpillForge$Code") ∈ gw := gw_1 5 rfl rfl
theorem w_4_38 : (Jvm.Cond.code ({ cls := "SpillForge$Code", name := "blockEnd", desc := "(I)I" } : Jvm.MethodName) prog_2_method_4_code (2 : Nat) (Option.some Jvm.ClassFile.FieldType.int)) ∈ gw := gw_4 38 rfl rfl
theorem w_4_36 : (Jvm.Cond.instanceMethod ({ cls := "SpillForge$Code", name := "blockEnd", desc := "(I)I" } : Jvm.MethodName)) ∈ gw := gw_4 36 rfl rfl
theorem w_4_37 : (Jvm.Cond.selects "SpillForge$Code" ({ cls := "SpillForge$Code", name := "blockEnd", desc := "(I)I" } : Jvm.MethodName) ({ cls := "SpillForge$Code", name := "blockEnd", desc := "(I)I" } : Jvm.MethodName)) ∈ gw := gw_4 37 rfl rfl
theorem w_1_163 : (Jvm.Cond.fieldLink "SpillForge$Code" (30 : Nat) "SpillForge$Code" "set" "[I") ∈ gw := gw_1 163 rfl rfl
theorem w_1_159 : (Jvm.Cond.fieldLink "SpillForge$Code" (27 : Nat) "SpillForge$Code" "op" "[I") ∈ gw := gw_1 159 rfl rfl
theorem w_1_183 : (Jvm.Cond.fieldLink "SpillForge$Code" (42 : Nat) "SpillForge$Code" "rightNumber" "[I") ∈ gw := gw_1 183 rfl rfl
theorem w_4_114 : (Jvm.Cond.methodLink "SpillForge$Graph" (67 : Nat) ({ cls := "SpillForge$Code", name := "setBy", desc := "(IZ)I" } : Jvm.MethodName)) ∈ gw := gw_4 114 rfl rfl
theorem w_4_55 : (Jvm.Cond.code ({ cls := "SpillForge$Code", name := "setBy", desc := "(IZ)I" } : Jvm.MethodName) prog_2_method_18_code (3 : Nat) (Option.some Jvm.ClassFile.FieldType.int)) ∈ gw := gw_4 55 rfl rfl
theorem w_4_53 : (Jvm.Cond.instanceMethod ({ cls := "SpillForge$Code", name := "setBy", desc := "(IZ)I" } : Jvm.MethodName)) ∈ gw := gw_4 53 rfl rfl
theorem w_4_54 : (Jvm.Cond.selects "SpillForge$Code" ({ cls := "SpillForge$Code", name := "setBy", desc := "(IZ)I" } : Jvm.MethodName) ({ cls := "SpillForge$Code", name := "setBy", desc := "(IZ)I" } : Jvm.MethodName)) ∈ gw := gw_4 54 rfl rfl
theorem w_2_27 : (Jvm.Cond.fieldLink "SpillForge$Live" (33 : Nat) "SpillForge$Live" "names" "I") ∈ gw := gw_2 27 rfl rfl
theorem w_4_115 : (Jvm.Cond.methodLink "SpillForge$Graph" (71 : Nat) ({ cls := "SpillForge$Live", name := "isName", desc := "(I)Z" } : Jvm.MethodName)) ∈ gw := gw_4 115 rfl rfl
theorem w_4_59 : (Jvm.Cond.code ({ cls := "SpillForge$Live", name := "isName", desc := "(I)Z" } : Jvm.MethodName) prog_7_method_3_code (2 : Nat) (Option.some Jvm.ClassFile.FieldType.boolean)) ∈ gw := gw_4 59 rfl rfl
theorem w_4_57 : (Jvm.Cond.instanceMethod ({ cls := "SpillForge$Live", name := "isName", desc := "(I)Z" } : Jvm.MethodName)) ∈ gw := gw_4 57 rfl rfl
theorem w_4_58 : (Jvm.Cond.selects "SpillForge$Live" ({ cls := "SpillForge$Live", name := "isName", desc := "(I)Z" } : Jvm.MethodName) ({ cls := "SpillForge$Live", name := "isName", desc := "(I)Z" } : Jvm.MethodName)) ∈ gw := gw_4 58 rfl rfl
theorem w_2_31 : (Jvm.Cond.fieldLink "SpillForge$Live" (40 : Nat) "SpillForge$Live" "ofSlots" "Z") ∈ gw := gw_2 31 rfl rfl
theorem w_4_52 : (Jvm.Cond.methodLink "SpillForge$Live" (76 : Nat) ({ cls := "SpillForge$Code", name := "setBy", desc := "(IZ)I" } : Jvm.MethodName)) ∈ gw := gw_4 52 rfl rfl
theorem w_4_56 : (Jvm.Cond.methodLink "SpillForge$Live" (79 : Nat) ({ cls := "SpillForge$Live", name := "isName", desc := "(I)Z" } : Jvm.MethodName)) ∈ gw := gw_4 56 rfl rfl
theorem w_1_168 : (Jvm.Cond.fieldLink "SpillForge$Code" (33 : Nat) "SpillForge$Code" "left" "[I") ∈ gw := gw_1 168 rfl rfl
theorem w_4_39 : (Jvm.Cond.methodLink "SpillForge$Live" (65 : Nat) ({ cls := "SpillForge$Code", name := "firstUse", desc := "(IZ)I" } : Jvm.MethodName)) ∈ gw := gw_4 39 rfl rfl
theorem w_4_42 : (Jvm.Cond.code ({ cls := "SpillForge$Code", name := "firstUse", desc := "(IZ)I" } : Jvm.MethodName) prog_2_method_19_code (3 : Nat) (Option.some Jvm.ClassFile.FieldType.int)) ∈ gw := gw_4 42 rfl rfl
theorem w_4_40 : (Jvm.Cond.instanceMethod ({ cls := "SpillForge$Code", name := "firstUse", desc := "(IZ)I" } : Jvm.MethodName)) ∈ gw := gw_4 40 rfl rfl
theorem w_4_41 : (Jvm.Cond.selects "SpillForge$Code" ({ cls := "SpillForge$Code", name := "firstUse", desc := "(IZ)I" } : Jvm.MethodName) ({ cls := "SpillForge$Code", name := "firstUse", desc := "(IZ)I" } : Jvm.MethodName)) ∈ gw := gw_4 41 rfl rfl
theorem w_4_133 : (Jvm.Cond.methodLink "SpillForge$Live" (94 : Nat) ({ cls := "SpillForge$Live", name := "revive", desc := "(I)V" } : Jvm.MethodName)) ∈ gw := gw_4 133 rfl rfl
theorem w_4_136 : (Jvm.Cond.code ({ cls := "SpillForge$Live", name := "revive", desc := "(I)V" } : Jvm.MethodName) prog_7_method_9_code (2 : Nat) (Option.none : Option Jvm.ClassFile.FieldType)) ∈ gw := gw_4 136 rfl rfl
theorem w_4_135 : (Jvm.Cond.instanceMethod ({ cls := "SpillForge$Live", name := "revive", desc := "(I)V" } : Jvm.MethodName)) ∈ gw := gw_4 135 rfl rfl
theorem w_p_36 : Cond.selects "SpillForge$Live" ⟨"SpillForge$Live", "revive", "(I)V"⟩ ⟨"SpillForge$Live", "revive", "(I)V"⟩ ∈ gw := gw_p _ 36 rfl rfl rfl
theorem w_1_178 : (Jvm.Cond.fieldLink "SpillForge$Code" (39 : Nat) "SpillForge$Code" "right" "[I") ∈ gw := gw_1 178 rfl rfl
theorem w_4_48 : (Jvm.Cond.methodLink "SpillForge$Live" (73 : Nat) ({ cls := "SpillForge$Code", name := "secondUse", desc := "(IZ)I" } : Jvm.MethodName)) ∈ gw := gw_4 48 rfl rfl
theorem w_4_51 : (Jvm.Cond.code ({ cls := "SpillForge$Code", name := "secondUse", desc := "(IZ)I" } : Jvm.MethodName) prog_2_method_20_code (3 : Nat) (Option.some Jvm.ClassFile.FieldType.int)) ∈ gw := gw_4 51 rfl rfl
theorem w_4_49 : (Jvm.Cond.instanceMethod ({ cls := "SpillForge$Code", name := "secondUse", desc := "(IZ)I" } : Jvm.MethodName)) ∈ gw := gw_4 49 rfl rfl
theorem w_4_50 : (Jvm.Cond.selects "SpillForge$Code" ({ cls := "SpillForge$Code", name := "secondUse", desc := "(IZ)I" } : Jvm.MethodName) ({ cls := "SpillForge$Code", name := "secondUse", desc := "(IZ)I" } : Jvm.MethodName)) ∈ gw := gw_4 50 rfl rfl
theorem w_4_47 : (Jvm.Cond.constantLong "SpillForge$Live" (83 : Nat) (-1 : Int64)) ∈ gw := gw_4 47 rfl rfl
theorem w_4_129 : (Jvm.Cond.methodLink "SpillForge$Graph" (85 : Nat) ({ cls := "SpillForge$Live", name := "stepOver", desc := "(LSpillForge$Code;I)V" } : Jvm.MethodName)) ∈ gw := gw_4 129 rfl rfl
theorem w_4_132 : (Jvm.Cond.code ({ cls := "SpillForge$Live", name := "stepOver", desc := "(LSpillForge$Code;I)V" } : Jvm.MethodName) prog_7_method_8_code (4 : Nat) (Option.none : Option Jvm.ClassFile.FieldType)) ∈ gw := gw_4 132 rfl rfl
theorem w_4_130 : (Jvm.Cond.instanceMethod ({ cls := "SpillForge$Live", name := "stepOver", desc := "(LSpillForge$Code;I)V" } : Jvm.MethodName)) ∈ gw := gw_4 130 rfl rfl
theorem w_4_131 : (Jvm.Cond.selects "SpillForge$Live" ({ cls := "SpillForge$Live", name := "stepOver", desc := "(LSpillForge$Code;I)V" } : Jvm.MethodName) ({ cls := "SpillForge$Live", name := "stepOver", desc := "(LSpillForge$Code;I)V" } : Jvm.MethodName)) ∈ gw := gw_4 131 rfl rfl
theorem w_4_116 : (Jvm.Cond.methodLink "SpillForge$Graph" (75 : Nat) ({ cls := "SpillForge$Code", name := "copiesRegister", desc := "(I)Z" } : Jvm.MethodName)) ∈ gw := gw_4 116 rfl rfl
theorem w_4_119 : (Jvm.Cond.code ({ cls := "SpillForge$Code", name := "copiesRegister", desc := "(I)Z" } : Jvm.MethodName) prog_2_method_17_code (2 : Nat) (Option.some Jvm.ClassFile.FieldType.boolean)) ∈ gw := gw_4 119 rfl rfl
theorem w_4_117 : (Jvm.Cond.instanceMethod ({ cls := "SpillForge$Code", name := "copiesRegister", desc := "(I)Z" } : Jvm.MethodName)) ∈ gw := gw_4 117 rfl rfl
theorem w_4_118 : (Jvm.Cond.selects "SpillForge$Code" ({ cls := "SpillForge$Code", name := "copiesRegister", desc := "(I)Z" } : Jvm.MethodName) ({ cls := "SpillForge$Code", name := "copiesRegister", desc := "(I)Z" } : Jvm.MethodName)) ∈ gw := gw_4 118 rfl rfl
theorem w_4_120 : (Jvm.Cond.methodLink "SpillForge$Graph" (81 : Nat) ({ cls := "SpillForge$Graph", name := "joinToLive", desc := "(II)V" } : Jvm.MethodName)) ∈ gw := gw_4 120 rfl rfl
theorem w_1_9 : (Jvm.Cond.initialized "SpillForge$Graph") ∈ gw := gw_1 9 rfl rfl
theorem w_4_123 : (Jvm.Cond.code ({ cls := "SpillForge$Graph", name := "joinToLive", desc := "(II)V" } : Jvm.MethodName) prog_5_method_4_code (8 : Nat) (Option.none : Option Jvm.ClassFile.FieldType)) ∈ gw := gw_4 123 rfl rfl
theorem w_4_122 : (Jvm.Cond.instanceMethod ({ cls := "SpillForge$Graph", name := "joinToLive", desc := "(II)V" } : Jvm.MethodName)) ∈ gw := gw_4 122 rfl rfl
theorem w_p_35 : Cond.selects "SpillForge$Graph" ⟨"SpillForge$Graph", "joinToLive", "(II)V"⟩ ⟨"SpillForge$Graph", "joinToLive", "(II)V"⟩ ∈ gw := gw_p _ 35 rfl rfl rfl
theorem w_4_29 : (Jvm.Cond.methodLink "SpillForge$Live" (24 : Nat) ({ cls := "java/lang/Math", name := "min", desc := "(II)I" } : Jvm.MethodName)) ∈ gw := gw_4 29 rfl rfl
theorem w_3_227 : (Jvm.Cond.static ({ cls := "java/lang/Math", name := "min", desc := "(II)I" } : Jvm.MethodName)) ∈ gw := gw_3 227 rfl rfl
theorem w_1_6 : (Jvm.Cond.initialized "java/lang/Math") ∈ gw := gw_1 6 rfl rfl
theorem w_3_228 : (Jvm.Cond.code ({ cls := "java/lang/Math", name := "min", desc := "(II)I" } : Jvm.MethodName) prog_32_method_69_code (2 : Nat) (Option.some Jvm.ClassFile.FieldType.int)) ∈ gw := gw_3 228 rfl rfl
theorem w_4_30 : (Jvm.Cond.methodLink "SpillForge$Live" (30 : Nat) ({ cls := "java/lang/Math", name := "max", desc := "(II)I" } : Jvm.MethodName)) ∈ gw := gw_4 30 rfl rfl
theorem w_1_140 : (Jvm.Cond.static ({ cls := "java/lang/Math", name := "max", desc := "(II)I" } : Jvm.MethodName)) ∈ gw := gw_1 140 rfl rfl
theorem w_1_141 : (Jvm.Cond.code ({ cls := "java/lang/Math", name := "max", desc := "(II)I" } : Jvm.MethodName) prog_32_method_65_code (2 : Nat) (Option.some Jvm.ClassFile.FieldType.int)) ∈ gw := gw_1 141 rfl rfl
theorem w_4_64 : (Jvm.Cond.methodLink "SpillForge$Live" (85 : Nat) ({ cls := "SpillForge$Live", name := "enterBehind", desc := "(LSpillForge$Code;I)V" } : Jvm.MethodName)) ∈ gw := gw_4 64 rfl rfl
theorem w_2_23 : (Jvm.Cond.fieldLink "SpillForge$Live" (15 : Nat) "SpillForge$Live" "used" "[J") ∈ gw := gw_2 23 rfl rfl
theorem w_2_24 : (Jvm.Cond.fieldLink "SpillForge$Live" (18 : Nat) "SpillForge$Live" "set" "[J") ∈ gw := gw_2 24 rfl rfl
theorem w_4_60 : (Jvm.Cond.methodLink "SpillForge$Live" (53 : Nat) ({ cls := "SpillForge$Live", name := "sweep", desc := "(LSpillForge$Code;)Z" } : Jvm.MethodName)) ∈ gw := gw_4 60 rfl rfl
theorem w_4_63 : (Jvm.Cond.code ({ cls := "SpillForge$Live", name := "sweep", desc := "(LSpillForge$Code;)Z" } : Jvm.MethodName) prog_7_method_6_code (8 : Nat) (Option.some Jvm.ClassFile.FieldType.boolean)) ∈ gw := gw_4 63 rfl rfl
theorem w_4_62 : (Jvm.Cond.instanceMethod ({ cls := "SpillForge$Live", name := "sweep", desc := "(LSpillForge$Code;)Z" } : Jvm.MethodName)) ∈ gw := gw_4 62 rfl rfl
theorem w_p_32 : Cond.selects "SpillForge$Live" ⟨"SpillForge$Live", "sweep", "(LSpillForge$Code;)Z"⟩ ⟨"SpillForge$Live", "sweep", "(LSpillForge$Code;)Z"⟩ ∈ gw := gw_p _ 32 rfl rfl rfl
theorem w_4_35 : (Jvm.Cond.methodLink "SpillForge$Live" (61 : Nat) ({ cls := "SpillForge$Code", name := "blockEnd", desc := "(I)I" } : Jvm.MethodName)) ∈ gw := gw_4 35 rfl rfl
theorem w_4_43 : (Jvm.Cond.methodLink "SpillForge$Live" (69 : Nat) ({ cls := "SpillForge$Live", name := "gatherUse", desc := "(II)V" } : Jvm.MethodName)) ∈ gw := gw_4 43 rfl rfl
theorem w_4_46 : (Jvm.Cond.code ({ cls := "SpillForge$Live", name := "gatherUse", desc := "(II)V" } : Jvm.MethodName) prog_7_method_5_code (4 : Nat) (Option.none : Option Jvm.ClassFile.FieldType)) ∈ gw := gw_4 46 rfl rfl
theorem w_4_45 : (Jvm.Cond.instanceMethod ({ cls := "SpillForge$Live", name := "gatherUse", desc := "(II)V" } : Jvm.MethodName)) ∈ gw := gw_4 45 rfl rfl
theorem w_p_31 : Cond.selects "SpillForge$Live" ⟨"SpillForge$Live", "gatherUse", "(II)V"⟩ ⟨"SpillForge$Live", "gatherUse", "(II)V"⟩ ∈ gw := gw_p _ 31 rfl rfl rfl
theorem w_4_31 : (Jvm.Cond.methodLink "SpillForge$Live" (49 : Nat) ({ cls := "SpillForge$Live", name := "gather", desc := "(LSpillForge$Code;I)V" } : Jvm.MethodName)) ∈ gw := gw_4 31 rfl rfl
theorem w_4_34 : (Jvm.Cond.code ({ cls := "SpillForge$Live", name := "gather", desc := "(LSpillForge$Code;I)V" } : Jvm.MethodName) prog_7_method_4_code (6 : Nat) (Option.none : Option Jvm.ClassFile.FieldType)) ∈ gw := gw_4 34 rfl rfl
theorem w_4_33 : (Jvm.Cond.instanceMethod ({ cls := "SpillForge$Live", name := "gather", desc := "(LSpillForge$Code;I)V" } : Jvm.MethodName)) ∈ gw := gw_4 33 rfl rfl
theorem w_p_30 : Cond.selects "SpillForge$Live" ⟨"SpillForge$Live", "gather", "(LSpillForge$Code;I)V"⟩ ⟨"SpillForge$Live", "gather", "(LSpillForge$Code;I)V"⟩ ∈ gw := gw_p _ 30 rfl rfl rfl
theorem w_4_103 : (Jvm.Cond.methodLink "SpillForge$Graph" (29 : Nat) ({ cls := "SpillForge$Live", name := "solve", desc := "(LSpillForge$Code;IZ)V" } : Jvm.MethodName)) ∈ gw := gw_4 103 rfl rfl
theorem w_4_28 : (Jvm.Cond.code ({ cls := "SpillForge$Live", name := "solve", desc := "(LSpillForge$Code;IZ)V" } : Jvm.MethodName) prog_7_method_2_code (6 : Nat) (Option.none : Option Jvm.ClassFile.FieldType)) ∈ gw := gw_4 28 rfl rfl
theorem w_4_26 : (Jvm.Cond.instanceMethod ({ cls := "SpillForge$Live", name := "solve", desc := "(LSpillForge$Code;IZ)V" } : Jvm.MethodName)) ∈ gw := gw_4 26 rfl rfl
theorem w_4_27 : (Jvm.Cond.selects "SpillForge$Live" ({ cls := "SpillForge$Live", name := "solve", desc := "(LSpillForge$Code;IZ)V" } : Jvm.MethodName) ({ cls := "SpillForge$Live", name := "solve", desc := "(LSpillForge$Code;IZ)V" } : Jvm.MethodName)) ∈ gw := gw_4 27 rfl rfl
theorem w_4_137 : (Jvm.Cond.methodLink "SpillForge$Graph" (53 : Nat) ({ cls := "SpillForge$Graph", name := "bitsOf", desc := "(I)I" } : Jvm.MethodName)) ∈ gw := gw_4 137 rfl rfl
theorem w_4_140 : (Jvm.Cond.code ({ cls := "SpillForge$Graph", name := "bitsOf", desc := "(I)I" } : Jvm.MethodName) prog_5_method_5_code (4 : Nat) (Option.some Jvm.ClassFile.FieldType.int)) ∈ gw := gw_4 140 rfl rfl
theorem w_4_139 : (Jvm.Cond.instanceMethod ({ cls := "SpillForge$Graph", name := "bitsOf", desc := "(I)I" } : Jvm.MethodName)) ∈ gw := gw_4 139 rfl rfl
theorem w_p_37 : Cond.selects "SpillForge$Graph" ⟨"SpillForge$Graph", "bitsOf", "(I)I"⟩ ⟨"SpillForge$Graph", "bitsOf", "(I)I"⟩ ∈ gw := gw_p _ 37 rfl rfl rfl
theorem w_4_108 : (Jvm.Cond.methodLink "SpillForge$Graph" (50 : Nat) ({ cls := "SpillForge$Graph", name := "joinBlock", desc := "(LSpillForge$Code;IZ)V" } : Jvm.MethodName)) ∈ gw := gw_4 108 rfl rfl
theorem w_4_111 : (Jvm.Cond.code ({ cls := "SpillForge$Graph", name := "joinBlock", desc := "(LSpillForge$Code;IZ)V" } : Jvm.MethodName) prog_5_method_3_code (6 : Nat) (Option.none : Option Jvm.ClassFile.FieldType)) ∈ gw := gw_4 111 rfl rfl
theorem w_4_110 : (Jvm.Cond.instanceMethod ({ cls := "SpillForge$Graph", name := "joinBlock", desc := "(LSpillForge$Code;IZ)V" } : Jvm.MethodName)) ∈ gw := gw_4 110 rfl rfl
theorem w_p_34 : Cond.selects "SpillForge$Graph" ⟨"SpillForge$Graph", "joinBlock", "(LSpillForge$Code;IZ)V"⟩ ⟨"SpillForge$Graph", "joinBlock", "(LSpillForge$Code;IZ)V"⟩ ∈ gw := gw_p _ 34 rfl rfl rfl
theorem w_4_104 : (Jvm.Cond.methodLink "SpillForge$Graph" (47 : Nat) ({ cls := "SpillForge$Live", name := "standing", desc := "(II)J" } : Jvm.MethodName)) ∈ gw := gw_4 104 rfl rfl
theorem w_4_107 : (Jvm.Cond.code ({ cls := "SpillForge$Live", name := "standing", desc := "(II)J" } : Jvm.MethodName) prog_7_method_12_code (6 : Nat) (Option.some Jvm.ClassFile.FieldType.long)) ∈ gw := gw_4 107 rfl rfl
theorem w_4_105 : (Jvm.Cond.instanceMethod ({ cls := "SpillForge$Live", name := "standing", desc := "(II)J" } : Jvm.MethodName)) ∈ gw := gw_4 105 rfl rfl
theorem w_4_106 : (Jvm.Cond.selects "SpillForge$Live" ({ cls := "SpillForge$Live", name := "standing", desc := "(II)J" } : Jvm.MethodName) ({ cls := "SpillForge$Live", name := "standing", desc := "(II)J" } : Jvm.MethodName)) ∈ gw := gw_4 106 rfl rfl
theorem d_cJ13_bitCount_95d88_0 : decode cJ13_bitCount_95d88 0 = .ok (.lload_n 0, 1) := by decide +kernel
theorem d_cJ13_bitCount_95d88_1 : decode cJ13_bitCount_95d88 1 = .ok (.lload_n 0, 1) := by decide +kernel
theorem d_cJ13_bitCount_95d88_2 : decode cJ13_bitCount_95d88 2 = .ok (.iconst 1, 1) := by decide +kernel
theorem d_cJ13_bitCount_95d88_3 : decode cJ13_bitCount_95d88 3 = .ok (.lushr, 1) := by decide +kernel
theorem d_cJ13_bitCount_95d88_4 : decode cJ13_bitCount_95d88 4 = .ok (.ldc2_w 314, 3) := by decide +kernel
theorem d_cJ13_bitCount_95d88_7 : decode cJ13_bitCount_95d88 7 = .ok (.land, 1) := by decide +kernel
theorem d_cJ13_bitCount_95d88_8 : decode cJ13_bitCount_95d88 8 = .ok (.lsub, 1) := by decide +kernel
theorem d_cJ13_bitCount_95d88_9 : decode cJ13_bitCount_95d88 9 = .ok (.lstore_n 0, 1) := by decide +kernel
theorem d_cJ13_bitCount_95d88_10 : decode cJ13_bitCount_95d88 10 = .ok (.lload_n 0, 1) := by decide +kernel
theorem d_cJ13_bitCount_95d88_11 : decode cJ13_bitCount_95d88 11 = .ok (.ldc2_w 316, 3) := by decide +kernel
theorem d_cJ13_bitCount_95d88_14 : decode cJ13_bitCount_95d88 14 = .ok (.land, 1) := by decide +kernel
theorem d_cJ13_bitCount_95d88_15 : decode cJ13_bitCount_95d88 15 = .ok (.lload_n 0, 1) := by decide +kernel
theorem d_cJ13_bitCount_95d88_16 : decode cJ13_bitCount_95d88 16 = .ok (.iconst 2, 1) := by decide +kernel
theorem d_cJ13_bitCount_95d88_17 : decode cJ13_bitCount_95d88 17 = .ok (.lushr, 1) := by decide +kernel
theorem d_cJ13_bitCount_95d88_18 : decode cJ13_bitCount_95d88 18 = .ok (.ldc2_w 316, 3) := by decide +kernel
theorem d_cJ13_bitCount_95d88_21 : decode cJ13_bitCount_95d88 21 = .ok (.land, 1) := by decide +kernel
theorem d_cJ13_bitCount_95d88_22 : decode cJ13_bitCount_95d88 22 = .ok (.ladd, 1) := by decide +kernel
theorem d_cJ13_bitCount_95d88_23 : decode cJ13_bitCount_95d88 23 = .ok (.lstore_n 0, 1) := by decide +kernel
theorem d_cJ13_bitCount_95d88_24 : decode cJ13_bitCount_95d88 24 = .ok (.lload_n 0, 1) := by decide +kernel
theorem d_cJ13_bitCount_95d88_25 : decode cJ13_bitCount_95d88 25 = .ok (.lload_n 0, 1) := by decide +kernel
theorem d_cJ13_bitCount_95d88_26 : decode cJ13_bitCount_95d88 26 = .ok (.iconst 4, 1) := by decide +kernel
theorem d_cJ13_bitCount_95d88_27 : decode cJ13_bitCount_95d88 27 = .ok (.lushr, 1) := by decide +kernel
theorem d_cJ13_bitCount_95d88_28 : decode cJ13_bitCount_95d88 28 = .ok (.ladd, 1) := by decide +kernel
theorem d_cJ13_bitCount_95d88_29 : decode cJ13_bitCount_95d88 29 = .ok (.ldc2_w 318, 3) := by decide +kernel
theorem d_cJ13_bitCount_95d88_32 : decode cJ13_bitCount_95d88 32 = .ok (.land, 1) := by decide +kernel
theorem d_cJ13_bitCount_95d88_33 : decode cJ13_bitCount_95d88 33 = .ok (.lstore_n 0, 1) := by decide +kernel
theorem d_cJ13_bitCount_95d88_34 : decode cJ13_bitCount_95d88 34 = .ok (.lload_n 0, 1) := by decide +kernel
theorem d_cJ13_bitCount_95d88_35 : decode cJ13_bitCount_95d88 35 = .ok (.lload_n 0, 1) := by decide +kernel
theorem d_cJ13_bitCount_95d88_36 : decode cJ13_bitCount_95d88 36 = .ok (.bipush 8, 2) := by decide +kernel
theorem d_cJ13_bitCount_95d88_38 : decode cJ13_bitCount_95d88 38 = .ok (.lushr, 1) := by decide +kernel
theorem d_cJ13_bitCount_95d88_39 : decode cJ13_bitCount_95d88 39 = .ok (.ladd, 1) := by decide +kernel
theorem d_cJ13_bitCount_95d88_40 : decode cJ13_bitCount_95d88 40 = .ok (.lstore_n 0, 1) := by decide +kernel
theorem d_cJ13_bitCount_95d88_41 : decode cJ13_bitCount_95d88 41 = .ok (.lload_n 0, 1) := by decide +kernel
theorem d_cJ13_bitCount_95d88_42 : decode cJ13_bitCount_95d88 42 = .ok (.lload_n 0, 1) := by decide +kernel
theorem d_cJ13_bitCount_95d88_43 : decode cJ13_bitCount_95d88 43 = .ok (.bipush 16, 2) := by decide +kernel
theorem d_cJ13_bitCount_95d88_45 : decode cJ13_bitCount_95d88 45 = .ok (.lushr, 1) := by decide +kernel
theorem d_cJ13_bitCount_95d88_46 : decode cJ13_bitCount_95d88 46 = .ok (.ladd, 1) := by decide +kernel
theorem d_cJ13_bitCount_95d88_47 : decode cJ13_bitCount_95d88 47 = .ok (.lstore_n 0, 1) := by decide +kernel
theorem d_cJ13_bitCount_95d88_48 : decode cJ13_bitCount_95d88 48 = .ok (.lload_n 0, 1) := by decide +kernel
theorem d_cJ13_bitCount_95d88_49 : decode cJ13_bitCount_95d88 49 = .ok (.lload_n 0, 1) := by decide +kernel
theorem d_cJ13_bitCount_95d88_50 : decode cJ13_bitCount_95d88 50 = .ok (.bipush 32, 2) := by decide +kernel
theorem d_cJ13_bitCount_95d88_52 : decode cJ13_bitCount_95d88 52 = .ok (.lushr, 1) := by decide +kernel
theorem d_cJ13_bitCount_95d88_53 : decode cJ13_bitCount_95d88 53 = .ok (.ladd, 1) := by decide +kernel
theorem d_cJ13_bitCount_95d88_54 : decode cJ13_bitCount_95d88 54 = .ok (.lstore_n 0, 1) := by decide +kernel
theorem d_cJ13_bitCount_95d88_55 : decode cJ13_bitCount_95d88 55 = .ok (.lload_n 0, 1) := by decide +kernel
theorem d_cJ13_bitCount_95d88_56 : decode cJ13_bitCount_95d88 56 = .ok (.l2i, 1) := by decide +kernel
theorem d_cJ13_bitCount_95d88_57 : decode cJ13_bitCount_95d88 57 = .ok (.bipush 127, 2) := by decide +kernel
theorem d_cJ13_bitCount_95d88_59 : decode cJ13_bitCount_95d88 59 = .ok (.iand, 1) := by decide +kernel
theorem d_cJ13_bitCount_95d88_60 : decode cJ13_bitCount_95d88 60 = .ok (.ireturn, 1) := by decide +kernel
theorem d_cX0_blockEnd_0 : decode cX0_blockEnd 0 = .ok (.iload_n 1, 1) := by decide +kernel
theorem d_cX0_blockEnd_1 : decode cX0_blockEnd 1 = .ok (.iconst 1, 1) := by decide +kernel
theorem d_cX0_blockEnd_2 : decode cX0_blockEnd 2 = .ok (.iadd, 1) := by decide +kernel
theorem d_cX0_blockEnd_3 : decode cX0_blockEnd 3 = .ok (.aload_n 0, 1) := by decide +kernel
theorem d_cX0_blockEnd_4 : decode cX0_blockEnd 4 = .ok (.getfield 45, 3) := by decide +kernel
theorem d_cX0_blockEnd_7 : decode cX0_blockEnd 7 = .ok (.if_icmp .ge 14, 3) := by decide +kernel
theorem d_cX0_blockEnd_10 : decode cX0_blockEnd 10 = .ok (.aload_n 0, 1) := by decide +kernel
theorem d_cX0_blockEnd_11 : decode cX0_blockEnd 11 = .ok (.getfield 9, 3) := by decide +kernel
theorem d_cX0_blockEnd_14 : decode cX0_blockEnd 14 = .ok (.iload_n 1, 1) := by decide +kernel
theorem d_cX0_blockEnd_15 : decode cX0_blockEnd 15 = .ok (.iconst 1, 1) := by decide +kernel
theorem d_cX0_blockEnd_16 : decode cX0_blockEnd 16 = .ok (.iadd, 1) := by decide +kernel
theorem d_cX0_blockEnd_17 : decode cX0_blockEnd 17 = .ok (.iaload, 1) := by decide +kernel
theorem d_cX0_blockEnd_18 : decode cX0_blockEnd 18 = .ok (.goto 7, 3) := by decide +kernel
theorem d_cX0_blockEnd_21 : decode cX0_blockEnd 21 = .ok (.aload_n 0, 1) := by decide +kernel
theorem d_cX0_blockEnd_22 : decode cX0_blockEnd 22 = .ok (.getfield 49, 3) := by decide +kernel
theorem d_cX0_blockEnd_25 : decode cX0_blockEnd 25 = .ok (.ireturn, 1) := by decide +kernel
theorem d_cX0_copiesRegister_0 : decode cX0_copiesRegister 0 = .ok (.aload_n 0, 1) := by decide +kernel
theorem d_cX0_copiesRegister_1 : decode cX0_copiesRegister 1 = .ok (.getfield 27, 3) := by decide +kernel
theorem d_cX0_copiesRegister_4 : decode cX0_copiesRegister 4 = .ok (.iload_n 1, 1) := by decide +kernel
theorem d_cX0_copiesRegister_5 : decode cX0_copiesRegister 5 = .ok (.iaload, 1) := by decide +kernel
theorem d_cX0_copiesRegister_6 : decode cX0_copiesRegister 6 = .ok (.bipush 14, 2) := by decide +kernel
theorem d_cX0_copiesRegister_8 : decode cX0_copiesRegister 8 = .ok (.if_icmp .ne 25, 3) := by decide +kernel
theorem d_cX0_copiesRegister_11 : decode cX0_copiesRegister 11 = .ok (.aload_n 0, 1) := by decide +kernel
theorem d_cX0_copiesRegister_12 : decode cX0_copiesRegister 12 = .ok (.getfield 30, 3) := by decide +kernel
theorem d_cX0_copiesRegister_15 : decode cX0_copiesRegister 15 = .ok (.iload_n 1, 1) := by decide +kernel
theorem d_cX0_copiesRegister_16 : decode cX0_copiesRegister 16 = .ok (.iaload, 1) := by decide +kernel
theorem d_cX0_copiesRegister_17 : decode cX0_copiesRegister 17 = .ok (.ifCond .lt 16, 3) := by decide +kernel
theorem d_cX0_copiesRegister_20 : decode cX0_copiesRegister 20 = .ok (.aload_n 0, 1) := by decide +kernel
theorem d_cX0_copiesRegister_21 : decode cX0_copiesRegister 21 = .ok (.getfield 33, 3) := by decide +kernel
theorem d_cX0_copiesRegister_24 : decode cX0_copiesRegister 24 = .ok (.iload_n 1, 1) := by decide +kernel
theorem d_cX0_copiesRegister_25 : decode cX0_copiesRegister 25 = .ok (.iaload, 1) := by decide +kernel
theorem d_cX0_copiesRegister_26 : decode cX0_copiesRegister 26 = .ok (.ifCond .lt 7, 3) := by decide +kernel
theorem d_cX0_copiesRegister_29 : decode cX0_copiesRegister 29 = .ok (.iconst 1, 1) := by decide +kernel
theorem d_cX0_copiesRegister_30 : decode cX0_copiesRegister 30 = .ok (.goto 4, 3) := by decide +kernel
theorem d_cX0_copiesRegister_33 : decode cX0_copiesRegister 33 = .ok (.iconst 0, 1) := by decide +kernel
theorem d_cX0_copiesRegister_34 : decode cX0_copiesRegister 34 = .ok (.ireturn, 1) := by decide +kernel
theorem d_cX0_firstUse_0 : decode cX0_firstUse 0 = .ok (.iload_n 2, 1) := by decide +kernel
theorem d_cX0_firstUse_1 : decode cX0_firstUse 1 = .ok (.ifCond .eq 25, 3) := by decide +kernel
theorem d_cX0_firstUse_4 : decode cX0_firstUse 4 = .ok (.aload_n 0, 1) := by decide +kernel
theorem d_cX0_firstUse_5 : decode cX0_firstUse 5 = .ok (.getfield 27, 3) := by decide +kernel
theorem d_cX0_firstUse_8 : decode cX0_firstUse 8 = .ok (.iload_n 1, 1) := by decide +kernel
theorem d_cX0_firstUse_9 : decode cX0_firstUse 9 = .ok (.iaload, 1) := by decide +kernel
theorem d_cX0_firstUse_10 : decode cX0_firstUse 10 = .ok (.bipush 17, 2) := by decide +kernel
theorem d_cX0_firstUse_12 : decode cX0_firstUse 12 = .ok (.if_icmp .ne 12, 3) := by decide +kernel
theorem d_cX0_firstUse_15 : decode cX0_firstUse 15 = .ok (.aload_n 0, 1) := by decide +kernel
theorem d_cX0_firstUse_16 : decode cX0_firstUse 16 = .ok (.getfield 42, 3) := by decide +kernel
theorem d_cX0_firstUse_19 : decode cX0_firstUse 19 = .ok (.iload_n 1, 1) := by decide +kernel
theorem d_cX0_firstUse_20 : decode cX0_firstUse 20 = .ok (.iaload, 1) := by decide +kernel
theorem d_cX0_firstUse_21 : decode cX0_firstUse 21 = .ok (.goto 4, 3) := by decide +kernel
theorem d_cX0_firstUse_24 : decode cX0_firstUse 24 = .ok (.iconst (-1), 1) := by decide +kernel
theorem d_cX0_firstUse_25 : decode cX0_firstUse 25 = .ok (.ireturn, 1) := by decide +kernel
theorem d_cX0_firstUse_26 : decode cX0_firstUse 26 = .ok (.aload_n 0, 1) := by decide +kernel
theorem d_cX0_firstUse_27 : decode cX0_firstUse 27 = .ok (.getfield 33, 3) := by decide +kernel
theorem d_cX0_firstUse_30 : decode cX0_firstUse 30 = .ok (.iload_n 1, 1) := by decide +kernel
theorem d_cX0_firstUse_31 : decode cX0_firstUse 31 = .ok (.iaload, 1) := by decide +kernel
theorem d_cX0_firstUse_32 : decode cX0_firstUse 32 = .ok (.ireturn, 1) := by decide +kernel
theorem d_cX0_secondUse_0 : decode cX0_secondUse 0 = .ok (.iload_n 2, 1) := by decide +kernel
theorem d_cX0_secondUse_1 : decode cX0_secondUse 1 = .ok (.ifCond .eq 7, 3) := by decide +kernel
theorem d_cX0_secondUse_4 : decode cX0_secondUse 4 = .ok (.iconst (-1), 1) := by decide +kernel
theorem d_cX0_secondUse_5 : decode cX0_secondUse 5 = .ok (.goto 9, 3) := by decide +kernel
theorem d_cX0_secondUse_8 : decode cX0_secondUse 8 = .ok (.aload_n 0, 1) := by decide +kernel
theorem d_cX0_secondUse_9 : decode cX0_secondUse 9 = .ok (.getfield 39, 3) := by decide +kernel
theorem d_cX0_secondUse_12 : decode cX0_secondUse 12 = .ok (.iload_n 1, 1) := by decide +kernel
theorem d_cX0_secondUse_13 : decode cX0_secondUse 13 = .ok (.iaload, 1) := by decide +kernel
theorem d_cX0_secondUse_14 : decode cX0_secondUse 14 = .ok (.ireturn, 1) := by decide +kernel
theorem d_cX0_setBy_0 : decode cX0_setBy 0 = .ok (.iload_n 2, 1) := by decide +kernel
theorem d_cX0_setBy_1 : decode cX0_setBy 1 = .ok (.ifCond .eq 25, 3) := by decide +kernel
theorem d_cX0_setBy_4 : decode cX0_setBy 4 = .ok (.aload_n 0, 1) := by decide +kernel
theorem d_cX0_setBy_5 : decode cX0_setBy 5 = .ok (.getfield 27, 3) := by decide +kernel
theorem d_cX0_setBy_8 : decode cX0_setBy 8 = .ok (.iload_n 1, 1) := by decide +kernel
theorem d_cX0_setBy_9 : decode cX0_setBy 9 = .ok (.iaload, 1) := by decide +kernel
theorem d_cX0_setBy_10 : decode cX0_setBy 10 = .ok (.bipush 18, 2) := by decide +kernel
theorem d_cX0_setBy_12 : decode cX0_setBy 12 = .ok (.if_icmp .ne 12, 3) := by decide +kernel
theorem d_cX0_setBy_15 : decode cX0_setBy 15 = .ok (.aload_n 0, 1) := by decide +kernel
theorem d_cX0_setBy_16 : decode cX0_setBy 16 = .ok (.getfield 42, 3) := by decide +kernel
theorem d_cX0_setBy_19 : decode cX0_setBy 19 = .ok (.iload_n 1, 1) := by decide +kernel
theorem d_cX0_setBy_20 : decode cX0_setBy 20 = .ok (.iaload, 1) := by decide +kernel
theorem d_cX0_setBy_21 : decode cX0_setBy 21 = .ok (.goto 4, 3) := by decide +kernel
theorem d_cX0_setBy_24 : decode cX0_setBy 24 = .ok (.iconst (-1), 1) := by decide +kernel
theorem d_cX0_setBy_25 : decode cX0_setBy 25 = .ok (.ireturn, 1) := by decide +kernel
theorem d_cX0_setBy_26 : decode cX0_setBy 26 = .ok (.aload_n 0, 1) := by decide +kernel
theorem d_cX0_setBy_27 : decode cX0_setBy 27 = .ok (.getfield 30, 3) := by decide +kernel
theorem d_cX0_setBy_30 : decode cX0_setBy 30 = .ok (.iload_n 1, 1) := by decide +kernel
theorem d_cX0_setBy_31 : decode cX0_setBy 31 = .ok (.iaload, 1) := by decide +kernel
theorem d_cX0_setBy_32 : decode cX0_setBy 32 = .ok (.ireturn, 1) := by decide +kernel
theorem d_cX11_lowestBit_0 : decode cX11_lowestBit 0 = .ok (.lload_n 0, 1) := by decide +kernel
theorem d_cX11_lowestBit_1 : decode cX11_lowestBit 1 = .ok (.lload_n 0, 1) := by decide +kernel
theorem d_cX11_lowestBit_2 : decode cX11_lowestBit 2 = .ok (.lneg, 1) := by decide +kernel
theorem d_cX11_lowestBit_3 : decode cX11_lowestBit 3 = .ok (.land, 1) := by decide +kernel
theorem d_cX11_lowestBit_4 : decode cX11_lowestBit 4 = .ok (.lconst 1, 1) := by decide +kernel
theorem d_cX11_lowestBit_5 : decode cX11_lowestBit 5 = .ok (.lsub, 1) := by decide +kernel
theorem d_cX11_lowestBit_6 : decode cX11_lowestBit 6 = .ok (.invokestatic 228, 3) := by decide +kernel
theorem d_cX11_lowestBit_9 : decode cX11_lowestBit 9 = .ok (.ireturn, 1) := by decide +kernel
theorem d_cX3_areJoined_0 : decode cX3_areJoined 0 = .ok (.iload_n 1, 1) := by decide +kernel
theorem d_cX3_areJoined_1 : decode cX3_areJoined 1 = .ok (.ifCond .lt 52, 3) := by decide +kernel
theorem d_cX3_areJoined_4 : decode cX3_areJoined 4 = .ok (.iload_n 1, 1) := by decide +kernel
theorem d_cX3_areJoined_5 : decode cX3_areJoined 5 = .ok (.aload_n 0, 1) := by decide +kernel
theorem d_cX3_areJoined_6 : decode cX3_areJoined 6 = .ok (.getfield 37, 3) := by decide +kernel
theorem d_cX3_areJoined_9 : decode cX3_areJoined 9 = .ok (.if_icmp .ge 44, 3) := by decide +kernel
theorem d_cX3_areJoined_12 : decode cX3_areJoined 12 = .ok (.iload_n 2, 1) := by decide +kernel
theorem d_cX3_areJoined_13 : decode cX3_areJoined 13 = .ok (.ifCond .lt 40, 3) := by decide +kernel
theorem d_cX3_areJoined_16 : decode cX3_areJoined 16 = .ok (.iload_n 2, 1) := by decide +kernel
theorem d_cX3_areJoined_17 : decode cX3_areJoined 17 = .ok (.aload_n 0, 1) := by decide +kernel
theorem d_cX3_areJoined_18 : decode cX3_areJoined 18 = .ok (.getfield 37, 3) := by decide +kernel
theorem d_cX3_areJoined_21 : decode cX3_areJoined 21 = .ok (.if_icmp .ge 32, 3) := by decide +kernel
theorem d_cX3_areJoined_24 : decode cX3_areJoined 24 = .ok (.aload_n 0, 1) := by decide +kernel
theorem d_cX3_areJoined_25 : decode cX3_areJoined 25 = .ok (.getfield 18, 3) := by decide +kernel
theorem d_cX3_areJoined_28 : decode cX3_areJoined 28 = .ok (.iload_n 1, 1) := by decide +kernel
theorem d_cX3_areJoined_29 : decode cX3_areJoined 29 = .ok (.aload_n 0, 1) := by decide +kernel
theorem d_cX3_areJoined_30 : decode cX3_areJoined 30 = .ok (.getfield 41, 3) := by decide +kernel
theorem d_cX3_areJoined_33 : decode cX3_areJoined 33 = .ok (.imul, 1) := by decide +kernel
theorem d_cX3_areJoined_34 : decode cX3_areJoined 34 = .ok (.iload_n 2, 1) := by decide +kernel
theorem d_cX3_areJoined_35 : decode cX3_areJoined 35 = .ok (.bipush 6, 2) := by decide +kernel
theorem d_cX3_areJoined_37 : decode cX3_areJoined 37 = .ok (.ishr, 1) := by decide +kernel
theorem d_cX3_areJoined_38 : decode cX3_areJoined 38 = .ok (.iadd, 1) := by decide +kernel
theorem d_cX3_areJoined_39 : decode cX3_areJoined 39 = .ok (.laload, 1) := by decide +kernel
theorem d_cX3_areJoined_40 : decode cX3_areJoined 40 = .ok (.iload_n 2, 1) := by decide +kernel
theorem d_cX3_areJoined_41 : decode cX3_areJoined 41 = .ok (.lshr, 1) := by decide +kernel
theorem d_cX3_areJoined_42 : decode cX3_areJoined 42 = .ok (.lconst 1, 1) := by decide +kernel
theorem d_cX3_areJoined_43 : decode cX3_areJoined 43 = .ok (.land, 1) := by decide +kernel
theorem d_cX3_areJoined_44 : decode cX3_areJoined 44 = .ok (.lconst 0, 1) := by decide +kernel
theorem d_cX3_areJoined_45 : decode cX3_areJoined 45 = .ok (.lcmp, 1) := by decide +kernel
theorem d_cX3_areJoined_46 : decode cX3_areJoined 46 = .ok (.ifCond .eq 7, 3) := by decide +kernel
theorem d_cX3_areJoined_49 : decode cX3_areJoined 49 = .ok (.iconst 1, 1) := by decide +kernel
theorem d_cX3_areJoined_50 : decode cX3_areJoined 50 = .ok (.goto 4, 3) := by decide +kernel
theorem d_cX3_areJoined_53 : decode cX3_areJoined 53 = .ok (.iconst 0, 1) := by decide +kernel
theorem d_cX3_areJoined_54 : decode cX3_areJoined 54 = .ok (.ireturn, 1) := by decide +kernel
theorem d_cX3_bitsOf_0 : decode cX3_bitsOf 0 = .ok (.iconst 0, 1) := by decide +kernel
theorem d_cX3_bitsOf_1 : decode cX3_bitsOf 1 = .ok (.istore_n 2, 1) := by decide +kernel
theorem d_cX3_bitsOf_2 : decode cX3_bitsOf 2 = .ok (.iconst 0, 1) := by decide +kernel
theorem d_cX3_bitsOf_3 : decode cX3_bitsOf 3 = .ok (.istore_n 3, 1) := by decide +kernel
theorem d_cX3_bitsOf_4 : decode cX3_bitsOf 4 = .ok (.iload_n 3, 1) := by decide +kernel
theorem d_cX3_bitsOf_5 : decode cX3_bitsOf 5 = .ok (.aload_n 0, 1) := by decide +kernel
theorem d_cX3_bitsOf_6 : decode cX3_bitsOf 6 = .ok (.getfield 41, 3) := by decide +kernel
theorem d_cX3_bitsOf_9 : decode cX3_bitsOf 9 = .ok (.if_icmp .ge 28, 3) := by decide +kernel
theorem d_cX3_bitsOf_12 : decode cX3_bitsOf 12 = .ok (.iload_n 2, 1) := by decide +kernel
theorem d_cX3_bitsOf_13 : decode cX3_bitsOf 13 = .ok (.aload_n 0, 1) := by decide +kernel
theorem d_cX3_bitsOf_14 : decode cX3_bitsOf 14 = .ok (.getfield 18, 3) := by decide +kernel
theorem d_cX3_bitsOf_17 : decode cX3_bitsOf 17 = .ok (.iload_n 1, 1) := by decide +kernel
theorem d_cX3_bitsOf_18 : decode cX3_bitsOf 18 = .ok (.aload_n 0, 1) := by decide +kernel
theorem d_cX3_bitsOf_19 : decode cX3_bitsOf 19 = .ok (.getfield 41, 3) := by decide +kernel
theorem d_cX3_bitsOf_22 : decode cX3_bitsOf 22 = .ok (.imul, 1) := by decide +kernel
theorem d_cX3_bitsOf_23 : decode cX3_bitsOf 23 = .ok (.iload_n 3, 1) := by decide +kernel
theorem d_cX3_bitsOf_24 : decode cX3_bitsOf 24 = .ok (.iadd, 1) := by decide +kernel
theorem d_cX3_bitsOf_25 : decode cX3_bitsOf 25 = .ok (.laload, 1) := by decide +kernel
theorem d_cX3_bitsOf_26 : decode cX3_bitsOf 26 = .ok (.invokestatic 97, 3) := by decide +kernel
theorem d_cX3_bitsOf_29 : decode cX3_bitsOf 29 = .ok (.iadd, 1) := by decide +kernel
theorem d_cX3_bitsOf_30 : decode cX3_bitsOf 30 = .ok (.istore_n 2, 1) := by decide +kernel
theorem d_cX3_bitsOf_31 : decode cX3_bitsOf 31 = .ok (.iinc 3 1, 3) := by decide +kernel
theorem d_cX3_bitsOf_34 : decode cX3_bitsOf 34 = .ok (.goto (-30), 3) := by decide +kernel
theorem d_cX3_bitsOf_37 : decode cX3_bitsOf 37 = .ok (.iload_n 2, 1) := by decide +kernel
theorem d_cX3_bitsOf_38 : decode cX3_bitsOf 38 = .ok (.ireturn, 1) := by decide +kernel
theorem d_cX3_build_0 : decode cX3_build 0 = .ok (.aload_n 0, 1) := by decide +kernel
theorem d_cX3_build_1 : decode cX3_build 1 = .ok (.getfield 12, 3) := by decide +kernel
theorem d_cX3_build_4 : decode cX3_build 4 = .ok (.aload_n 1, 1) := by decide +kernel
theorem d_cX3_build_5 : decode cX3_build 5 = .ok (.iload_n 2, 1) := by decide +kernel
theorem d_cX3_build_6 : decode cX3_build 6 = .ok (.iload_n 3, 1) := by decide +kernel
theorem d_cX3_build_7 : decode cX3_build 7 = .ok (.invokevirtual 29, 3) := by decide +kernel
theorem d_cX3_build_10 : decode cX3_build 10 = .ok (.aload_n 0, 1) := by decide +kernel
theorem d_cX3_build_11 : decode cX3_build 11 = .ok (.aload_n 0, 1) := by decide +kernel
theorem d_cX3_build_12 : decode cX3_build 12 = .ok (.getfield 12, 3) := by decide +kernel
theorem d_cX3_build_15 : decode cX3_build 15 = .ok (.getfield 33, 3) := by decide +kernel
theorem d_cX3_build_18 : decode cX3_build 18 = .ok (.putfield 37, 3) := by decide +kernel
theorem d_cX3_build_21 : decode cX3_build 21 = .ok (.aload_n 0, 1) := by decide +kernel
theorem d_cX3_build_22 : decode cX3_build 22 = .ok (.aload_n 0, 1) := by decide +kernel
theorem d_cX3_build_23 : decode cX3_build 23 = .ok (.getfield 12, 3) := by decide +kernel
theorem d_cX3_build_26 : decode cX3_build 26 = .ok (.getfield 38, 3) := by decide +kernel
theorem d_cX3_build_29 : decode cX3_build 29 = .ok (.putfield 41, 3) := by decide +kernel
theorem d_cX3_build_32 : decode cX3_build 32 = .ok (.iconst 0, 1) := by decide +kernel
theorem d_cX3_build_33 : decode cX3_build 33 = .ok (.istore 4, 2) := by decide +kernel
theorem d_cX3_build_35 : decode cX3_build 35 = .ok (.iload 4, 2) := by decide +kernel
theorem d_cX3_build_37 : decode cX3_build 37 = .ok (.aload_n 0, 1) := by decide +kernel
theorem d_cX3_build_38 : decode cX3_build 38 = .ok (.getfield 37, 3) := by decide +kernel
theorem d_cX3_build_41 : decode cX3_build 41 = .ok (.aload_n 0, 1) := by decide +kernel
theorem d_cX3_build_42 : decode cX3_build 42 = .ok (.getfield 41, 3) := by decide +kernel
theorem d_cX3_build_45 : decode cX3_build 45 = .ok (.imul, 1) := by decide +kernel
theorem d_cX3_build_46 : decode cX3_build 46 = .ok (.if_icmp .ge 17, 3) := by decide +kernel
theorem d_cX3_build_49 : decode cX3_build 49 = .ok (.aload_n 0, 1) := by decide +kernel
theorem d_cX3_build_50 : decode cX3_build 50 = .ok (.getfield 18, 3) := by decide +kernel
theorem d_cX3_build_53 : decode cX3_build 53 = .ok (.iload 4, 2) := by decide +kernel
theorem d_cX3_build_55 : decode cX3_build 55 = .ok (.lconst 0, 1) := by decide +kernel
theorem d_cX3_build_56 : decode cX3_build 56 = .ok (.lastore, 1) := by decide +kernel
theorem d_cX3_build_57 : decode cX3_build 57 = .ok (.iinc 4 1, 3) := by decide +kernel
theorem d_cX3_build_60 : decode cX3_build 60 = .ok (.goto (-25), 3) := by decide +kernel
theorem d_cX3_build_63 : decode cX3_build 63 = .ok (.iconst 0, 1) := by decide +kernel
theorem d_cX3_build_64 : decode cX3_build 64 = .ok (.istore 4, 2) := by decide +kernel
theorem d_cX3_build_66 : decode cX3_build 66 = .ok (.iload 4, 2) := by decide +kernel
theorem d_cX3_build_68 : decode cX3_build 68 = .ok (.aload_n 0, 1) := by decide +kernel
theorem d_cX3_build_69 : decode cX3_build 69 = .ok (.getfield 41, 3) := by decide +kernel
theorem d_cX3_build_72 : decode cX3_build 72 = .ok (.if_icmp .ge 29, 3) := by decide +kernel
theorem d_cX3_build_75 : decode cX3_build 75 = .ok (.aload_n 0, 1) := by decide +kernel
theorem d_cX3_build_76 : decode cX3_build 76 = .ok (.getfield 22, 3) := by decide +kernel
theorem d_cX3_build_79 : decode cX3_build 79 = .ok (.iload 4, 2) := by decide +kernel
theorem d_cX3_build_81 : decode cX3_build 81 = .ok (.aload_n 0, 1) := by decide +kernel
theorem d_cX3_build_82 : decode cX3_build 82 = .ok (.getfield 12, 3) := by decide +kernel
theorem d_cX3_build_85 : decode cX3_build 85 = .ok (.iload 4, 2) := by decide +kernel
theorem d_cX3_build_87 : decode cX3_build 87 = .ok (.aload_n 1, 1) := by decide +kernel
theorem d_cX3_build_88 : decode cX3_build 88 = .ok (.getfield 42, 3) := by decide +kernel
theorem d_cX3_build_91 : decode cX3_build 91 = .ok (.invokevirtual 47, 3) := by decide +kernel
theorem d_cX3_build_94 : decode cX3_build 94 = .ok (.lastore, 1) := by decide +kernel
theorem d_cX3_build_95 : decode cX3_build 95 = .ok (.iinc 4 1, 3) := by decide +kernel
theorem d_cX3_build_98 : decode cX3_build 98 = .ok (.goto (-32), 3) := by decide +kernel
theorem d_cX3_build_101 : decode cX3_build 101 = .ok (.iconst 0, 1) := by decide +kernel
theorem d_cX3_build_102 : decode cX3_build 102 = .ok (.istore 4, 2) := by decide +kernel
theorem d_cX3_build_104 : decode cX3_build 104 = .ok (.iload 4, 2) := by decide +kernel
theorem d_cX3_build_106 : decode cX3_build 106 = .ok (.aload_n 1, 1) := by decide +kernel
theorem d_cX3_build_107 : decode cX3_build 107 = .ok (.getfield 42, 3) := by decide +kernel
theorem d_cX3_build_110 : decode cX3_build 110 = .ok (.if_icmp .ge 17, 3) := by decide +kernel
theorem d_cX3_build_113 : decode cX3_build 113 = .ok (.aload_n 0, 1) := by decide +kernel
theorem d_cX3_build_114 : decode cX3_build 114 = .ok (.aload_n 1, 1) := by decide +kernel
theorem d_cX3_build_115 : decode cX3_build 115 = .ok (.iload 4, 2) := by decide +kernel
theorem d_cX3_build_117 : decode cX3_build 117 = .ok (.iload_n 3, 1) := by decide +kernel
theorem d_cX3_build_118 : decode cX3_build 118 = .ok (.invokevirtual 50, 3) := by decide +kernel
theorem d_cX3_build_121 : decode cX3_build 121 = .ok (.iinc 4 1, 3) := by decide +kernel
theorem d_cX3_build_124 : decode cX3_build 124 = .ok (.goto (-20), 3) := by decide +kernel
theorem d_cX3_build_127 : decode cX3_build 127 = .ok (.iconst 0, 1) := by decide +kernel
theorem d_cX3_build_128 : decode cX3_build 128 = .ok (.istore 4, 2) := by decide +kernel
theorem d_cX3_build_130 : decode cX3_build 130 = .ok (.iload 4, 2) := by decide +kernel
theorem d_cX3_build_132 : decode cX3_build 132 = .ok (.aload_n 0, 1) := by decide +kernel
theorem d_cX3_build_133 : decode cX3_build 133 = .ok (.getfield 37, 3) := by decide +kernel
theorem d_cX3_build_136 : decode cX3_build 136 = .ok (.if_icmp .ge 22, 3) := by decide +kernel
theorem d_cX3_build_139 : decode cX3_build 139 = .ok (.aload_n 0, 1) := by decide +kernel
theorem d_cX3_build_140 : decode cX3_build 140 = .ok (.getfield 25, 3) := by decide +kernel
theorem d_cX3_build_143 : decode cX3_build 143 = .ok (.iload 4, 2) := by decide +kernel
theorem d_cX3_build_145 : decode cX3_build 145 = .ok (.aload_n 0, 1) := by decide +kernel
theorem d_cX3_build_146 : decode cX3_build 146 = .ok (.iload 4, 2) := by decide +kernel
theorem d_cX3_build_148 : decode cX3_build 148 = .ok (.invokevirtual 53, 3) := by decide +kernel
theorem d_cX3_build_151 : decode cX3_build 151 = .ok (.iastore, 1) := by decide +kernel
theorem d_cX3_build_152 : decode cX3_build 152 = .ok (.iinc 4 1, 3) := by decide +kernel
theorem d_cX3_build_155 : decode cX3_build 155 = .ok (.goto (-25), 3) := by decide +kernel
theorem d_cX3_build_158 : decode cX3_build 158 = .ok (.return_, 1) := by decide +kernel
theorem d_cX3_canBeOne_0 : decode cX3_canBeOne 0 = .ok (.iconst 0, 1) := by decide +kernel
theorem d_cX3_canBeOne_1 : decode cX3_canBeOne 1 = .ok (.istore 4, 2) := by decide +kernel
theorem d_cX3_canBeOne_3 : decode cX3_canBeOne 3 = .ok (.iconst 0, 1) := by decide +kernel
theorem d_cX3_canBeOne_4 : decode cX3_canBeOne 4 = .ok (.istore 5, 2) := by decide +kernel
theorem d_cX3_canBeOne_6 : decode cX3_canBeOne 6 = .ok (.iload 5, 2) := by decide +kernel
theorem d_cX3_canBeOne_8 : decode cX3_canBeOne 8 = .ok (.aload_n 0, 1) := by decide +kernel
theorem d_cX3_canBeOne_9 : decode cX3_canBeOne 9 = .ok (.getfield 41, 3) := by decide +kernel
theorem d_cX3_canBeOne_12 : decode cX3_canBeOne 12 = .ok (.if_icmp .ge 130, 3) := by decide +kernel
theorem d_cX3_canBeOne_15 : decode cX3_canBeOne 15 = .ok (.aload_n 0, 1) := by decide +kernel
theorem d_cX3_canBeOne_16 : decode cX3_canBeOne 16 = .ok (.getfield 18, 3) := by decide +kernel
theorem d_cX3_canBeOne_19 : decode cX3_canBeOne 19 = .ok (.iload_n 1, 1) := by decide +kernel
theorem d_cX3_canBeOne_20 : decode cX3_canBeOne 20 = .ok (.aload_n 0, 1) := by decide +kernel
theorem d_cX3_canBeOne_21 : decode cX3_canBeOne 21 = .ok (.getfield 41, 3) := by decide +kernel
theorem d_cX3_canBeOne_24 : decode cX3_canBeOne 24 = .ok (.imul, 1) := by decide +kernel
theorem d_cX3_canBeOne_25 : decode cX3_canBeOne 25 = .ok (.iload 5, 2) := by decide +kernel
theorem d_cX3_canBeOne_27 : decode cX3_canBeOne 27 = .ok (.iadd, 1) := by decide +kernel
theorem d_cX3_canBeOne_28 : decode cX3_canBeOne 28 = .ok (.laload, 1) := by decide +kernel
theorem d_cX3_canBeOne_29 : decode cX3_canBeOne 29 = .ok (.lstore 6, 2) := by decide +kernel
theorem d_cX3_canBeOne_31 : decode cX3_canBeOne 31 = .ok (.aload_n 0, 1) := by decide +kernel
theorem d_cX3_canBeOne_32 : decode cX3_canBeOne 32 = .ok (.getfield 18, 3) := by decide +kernel
theorem d_cX3_canBeOne_35 : decode cX3_canBeOne 35 = .ok (.iload_n 2, 1) := by decide +kernel
theorem d_cX3_canBeOne_36 : decode cX3_canBeOne 36 = .ok (.aload_n 0, 1) := by decide +kernel
theorem d_cX3_canBeOne_37 : decode cX3_canBeOne 37 = .ok (.getfield 41, 3) := by decide +kernel
theorem d_cX3_canBeOne_40 : decode cX3_canBeOne 40 = .ok (.imul, 1) := by decide +kernel
theorem d_cX3_canBeOne_41 : decode cX3_canBeOne 41 = .ok (.iload 5, 2) := by decide +kernel
theorem d_cX3_canBeOne_43 : decode cX3_canBeOne 43 = .ok (.iadd, 1) := by decide +kernel
theorem d_cX3_canBeOne_44 : decode cX3_canBeOne 44 = .ok (.laload, 1) := by decide +kernel
theorem d_cX3_canBeOne_45 : decode cX3_canBeOne 45 = .ok (.lstore 8, 2) := by decide +kernel
theorem d_cX3_canBeOne_47 : decode cX3_canBeOne 47 = .ok (.lload 6, 2) := by decide +kernel
theorem d_cX3_canBeOne_49 : decode cX3_canBeOne 49 = .ok (.lload 8, 2) := by decide +kernel
theorem d_cX3_canBeOne_51 : decode cX3_canBeOne 51 = .ok (.lor, 1) := by decide +kernel
theorem d_cX3_canBeOne_52 : decode cX3_canBeOne 52 = .ok (.lstore 10, 2) := by decide +kernel
theorem d_cX3_canBeOne_54 : decode cX3_canBeOne 54 = .ok (.iconst 0, 1) := by decide +kernel
theorem d_cX3_canBeOne_55 : decode cX3_canBeOne 55 = .ok (.istore 12, 2) := by decide +kernel
theorem d_cX3_canBeOne_57 : decode cX3_canBeOne 57 = .ok (.iload 12, 2) := by decide +kernel
theorem d_cX3_canBeOne_59 : decode cX3_canBeOne 59 = .ok (.bipush 64, 2) := by decide +kernel
theorem d_cX3_canBeOne_61 : decode cX3_canBeOne 61 = .ok (.if_icmp .ge 75, 3) := by decide +kernel
theorem d_cX3_canBeOne_64 : decode cX3_canBeOne 64 = .ok (.lload 10, 2) := by decide +kernel
theorem d_cX3_canBeOne_66 : decode cX3_canBeOne 66 = .ok (.lconst 0, 1) := by decide +kernel
theorem d_cX3_canBeOne_67 : decode cX3_canBeOne 67 = .ok (.lcmp, 1) := by decide +kernel
theorem d_cX3_canBeOne_68 : decode cX3_canBeOne 68 = .ok (.ifCond .eq 68, 3) := by decide +kernel
theorem d_cX3_canBeOne_71 : decode cX3_canBeOne 71 = .ok (.lload 10, 2) := by decide +kernel
theorem d_cX3_canBeOne_73 : decode cX3_canBeOne 73 = .ok (.invokestatic 93, 3) := by decide +kernel
theorem d_cX3_canBeOne_76 : decode cX3_canBeOne 76 = .ok (.istore 13, 2) := by decide +kernel
theorem d_cX3_canBeOne_78 : decode cX3_canBeOne 78 = .ok (.lload 10, 2) := by decide +kernel
theorem d_cX3_canBeOne_80 : decode cX3_canBeOne 80 = .ok (.lload 10, 2) := by decide +kernel
theorem d_cX3_canBeOne_82 : decode cX3_canBeOne 82 = .ok (.lconst 1, 1) := by decide +kernel
theorem d_cX3_canBeOne_83 : decode cX3_canBeOne 83 = .ok (.lsub, 1) := by decide +kernel
theorem d_cX3_canBeOne_84 : decode cX3_canBeOne 84 = .ok (.land, 1) := by decide +kernel
theorem d_cX3_canBeOne_85 : decode cX3_canBeOne 85 = .ok (.lstore 10, 2) := by decide +kernel
theorem d_cX3_canBeOne_87 : decode cX3_canBeOne 87 = .ok (.aload_n 0, 1) := by decide +kernel
theorem d_cX3_canBeOne_88 : decode cX3_canBeOne 88 = .ok (.getfield 25, 3) := by decide +kernel
theorem d_cX3_canBeOne_91 : decode cX3_canBeOne 91 = .ok (.iload 5, 2) := by decide +kernel
theorem d_cX3_canBeOne_93 : decode cX3_canBeOne 93 = .ok (.bipush 6, 2) := by decide +kernel
theorem d_cX3_canBeOne_95 : decode cX3_canBeOne 95 = .ok (.ishl, 1) := by decide +kernel
theorem d_cX3_canBeOne_96 : decode cX3_canBeOne 96 = .ok (.iload 13, 2) := by decide +kernel
theorem d_cX3_canBeOne_98 : decode cX3_canBeOne 98 = .ok (.ior, 1) := by decide +kernel
theorem d_cX3_canBeOne_99 : decode cX3_canBeOne 99 = .ok (.iaload, 1) := by decide +kernel
theorem d_cX3_canBeOne_100 : decode cX3_canBeOne 100 = .ok (.lload 6, 2) := by decide +kernel
theorem d_cX3_canBeOne_102 : decode cX3_canBeOne 102 = .ok (.lload 8, 2) := by decide +kernel
theorem d_cX3_canBeOne_104 : decode cX3_canBeOne 104 = .ok (.land, 1) := by decide +kernel
theorem d_cX3_canBeOne_105 : decode cX3_canBeOne 105 = .ok (.iload 13, 2) := by decide +kernel
theorem d_cX3_canBeOne_107 : decode cX3_canBeOne 107 = .ok (.lushr, 1) := by decide +kernel
theorem d_cX3_canBeOne_108 : decode cX3_canBeOne 108 = .ok (.lconst 1, 1) := by decide +kernel
theorem d_cX3_canBeOne_109 : decode cX3_canBeOne 109 = .ok (.land, 1) := by decide +kernel
theorem d_cX3_canBeOne_110 : decode cX3_canBeOne 110 = .ok (.l2i, 1) := by decide +kernel
theorem d_cX3_canBeOne_111 : decode cX3_canBeOne 111 = .ok (.isub, 1) := by decide +kernel
theorem d_cX3_canBeOne_112 : decode cX3_canBeOne 112 = .ok (.istore 14, 2) := by decide +kernel
theorem d_cX3_canBeOne_114 : decode cX3_canBeOne 114 = .ok (.iload 4, 2) := by decide +kernel
theorem d_cX3_canBeOne_116 : decode cX3_canBeOne 116 = .ok (.iload 14, 2) := by decide +kernel
theorem d_cX3_canBeOne_118 : decode cX3_canBeOne 118 = .ok (.iload_n 3, 1) := by decide +kernel
theorem d_cX3_canBeOne_119 : decode cX3_canBeOne 119 = .ok (.if_icmp .lt 7, 3) := by decide +kernel
theorem d_cX3_canBeOne_122 : decode cX3_canBeOne 122 = .ok (.iconst 1, 1) := by decide +kernel
theorem d_cX3_canBeOne_123 : decode cX3_canBeOne 123 = .ok (.goto 4, 3) := by decide +kernel
theorem d_cX3_canBeOne_126 : decode cX3_canBeOne 126 = .ok (.iconst 0, 1) := by decide +kernel
theorem d_cX3_canBeOne_127 : decode cX3_canBeOne 127 = .ok (.iadd, 1) := by decide +kernel
theorem d_cX3_canBeOne_128 : decode cX3_canBeOne 128 = .ok (.istore 4, 2) := by decide +kernel
theorem d_cX3_canBeOne_130 : decode cX3_canBeOne 130 = .ok (.iinc 12 1, 3) := by decide +kernel
theorem d_cX3_canBeOne_133 : decode cX3_canBeOne 133 = .ok (.goto (-76), 3) := by decide +kernel
theorem d_cX3_canBeOne_136 : decode cX3_canBeOne 136 = .ok (.iinc 5 1, 3) := by decide +kernel
theorem d_cX3_canBeOne_139 : decode cX3_canBeOne 139 = .ok (.goto (-133), 3) := by decide +kernel
theorem d_cX3_canBeOne_142 : decode cX3_canBeOne 142 = .ok (.iload 4, 2) := by decide +kernel
theorem d_cX3_canBeOne_144 : decode cX3_canBeOne 144 = .ok (.iload_n 3, 1) := by decide +kernel
theorem d_cX3_canBeOne_145 : decode cX3_canBeOne 145 = .ok (.if_icmp .ge 7, 3) := by decide +kernel
theorem d_cX3_canBeOne_148 : decode cX3_canBeOne 148 = .ok (.iconst 1, 1) := by decide +kernel
theorem d_cX3_canBeOne_149 : decode cX3_canBeOne 149 = .ok (.goto 4, 3) := by decide +kernel
theorem d_cX3_canBeOne_152 : decode cX3_canBeOne 152 = .ok (.iconst 0, 1) := by decide +kernel
theorem d_cX3_canBeOne_153 : decode cX3_canBeOne 153 = .ok (.ireturn, 1) := by decide +kernel
theorem d_cX3_joinBlock_0 : decode cX3_joinBlock 0 = .ok (.aload_n 0, 1) := by decide +kernel
theorem d_cX3_joinBlock_1 : decode cX3_joinBlock 1 = .ok (.getfield 12, 3) := by decide +kernel
theorem d_cX3_joinBlock_4 : decode cX3_joinBlock 4 = .ok (.aload_n 1, 1) := by decide +kernel
theorem d_cX3_joinBlock_5 : decode cX3_joinBlock 5 = .ok (.iload_n 2, 1) := by decide +kernel
theorem d_cX3_joinBlock_6 : decode cX3_joinBlock 6 = .ok (.invokevirtual 57, 3) := by decide +kernel
theorem d_cX3_joinBlock_9 : decode cX3_joinBlock 9 = .ok (.aload_n 1, 1) := by decide +kernel
theorem d_cX3_joinBlock_10 : decode cX3_joinBlock 10 = .ok (.iload_n 2, 1) := by decide +kernel
theorem d_cX3_joinBlock_11 : decode cX3_joinBlock 11 = .ok (.invokevirtual 61, 3) := by decide +kernel
theorem d_cX3_joinBlock_14 : decode cX3_joinBlock 14 = .ok (.iconst 1, 1) := by decide +kernel
theorem d_cX3_joinBlock_15 : decode cX3_joinBlock 15 = .ok (.isub, 1) := by decide +kernel
theorem d_cX3_joinBlock_16 : decode cX3_joinBlock 16 = .ok (.istore 4, 2) := by decide +kernel
theorem d_cX3_joinBlock_18 : decode cX3_joinBlock 18 = .ok (.iload 4, 2) := by decide +kernel
theorem d_cX3_joinBlock_20 : decode cX3_joinBlock 20 = .ok (.aload_n 1, 1) := by decide +kernel
theorem d_cX3_joinBlock_21 : decode cX3_joinBlock 21 = .ok (.getfield 64, 3) := by decide +kernel
theorem d_cX3_joinBlock_24 : decode cX3_joinBlock 24 = .ok (.iload_n 2, 1) := by decide +kernel
theorem d_cX3_joinBlock_25 : decode cX3_joinBlock 25 = .ok (.iaload, 1) := by decide +kernel
theorem d_cX3_joinBlock_26 : decode cX3_joinBlock 26 = .ok (.if_icmp .lt 71, 3) := by decide +kernel
theorem d_cX3_joinBlock_29 : decode cX3_joinBlock 29 = .ok (.aload_n 1, 1) := by decide +kernel
theorem d_cX3_joinBlock_30 : decode cX3_joinBlock 30 = .ok (.iload 4, 2) := by decide +kernel
theorem d_cX3_joinBlock_32 : decode cX3_joinBlock 32 = .ok (.iload_n 3, 1) := by decide +kernel
theorem d_cX3_joinBlock_33 : decode cX3_joinBlock 33 = .ok (.invokevirtual 67, 3) := by decide +kernel
theorem d_cX3_joinBlock_36 : decode cX3_joinBlock 36 = .ok (.istore 5, 2) := by decide +kernel
theorem d_cX3_joinBlock_38 : decode cX3_joinBlock 38 = .ok (.aload_n 0, 1) := by decide +kernel
theorem d_cX3_joinBlock_39 : decode cX3_joinBlock 39 = .ok (.getfield 12, 3) := by decide +kernel
theorem d_cX3_joinBlock_42 : decode cX3_joinBlock 42 = .ok (.iload 5, 2) := by decide +kernel
theorem d_cX3_joinBlock_44 : decode cX3_joinBlock 44 = .ok (.invokevirtual 71, 3) := by decide +kernel
theorem d_cX3_joinBlock_47 : decode cX3_joinBlock 47 = .ok (.ifCond .eq 34, 3) := by decide +kernel
theorem d_cX3_joinBlock_50 : decode cX3_joinBlock 50 = .ok (.aload_n 0, 1) := by decide +kernel
theorem d_cX3_joinBlock_51 : decode cX3_joinBlock 51 = .ok (.iload 5, 2) := by decide +kernel
theorem d_cX3_joinBlock_53 : decode cX3_joinBlock 53 = .ok (.iload_n 3, 1) := by decide +kernel
theorem d_cX3_joinBlock_54 : decode cX3_joinBlock 54 = .ok (.ifCond .ne 22, 3) := by decide +kernel
theorem d_cX3_joinBlock_57 : decode cX3_joinBlock 57 = .ok (.aload_n 1, 1) := by decide +kernel
theorem d_cX3_joinBlock_58 : decode cX3_joinBlock 58 = .ok (.iload 4, 2) := by decide +kernel
theorem d_cX3_joinBlock_60 : decode cX3_joinBlock 60 = .ok (.invokevirtual 75, 3) := by decide +kernel
theorem d_cX3_joinBlock_63 : decode cX3_joinBlock 63 = .ok (.ifCond .eq 13, 3) := by decide +kernel
theorem d_cX3_joinBlock_66 : decode cX3_joinBlock 66 = .ok (.aload_n 1, 1) := by decide +kernel
theorem d_cX3_joinBlock_67 : decode cX3_joinBlock 67 = .ok (.getfield 78, 3) := by decide +kernel
theorem d_cX3_joinBlock_70 : decode cX3_joinBlock 70 = .ok (.iload 4, 2) := by decide +kernel
theorem d_cX3_joinBlock_72 : decode cX3_joinBlock 72 = .ok (.iaload, 1) := by decide +kernel
theorem d_cX3_joinBlock_73 : decode cX3_joinBlock 73 = .ok (.goto 5, 3) := by decide +kernel
theorem d_cX3_joinBlock_76 : decode cX3_joinBlock 76 = .ok (.iload 5, 2) := by decide +kernel
theorem d_cX3_joinBlock_78 : decode cX3_joinBlock 78 = .ok (.invokevirtual 81, 3) := by decide +kernel
theorem d_cX3_joinBlock_81 : decode cX3_joinBlock 81 = .ok (.aload_n 0, 1) := by decide +kernel
theorem d_cX3_joinBlock_82 : decode cX3_joinBlock 82 = .ok (.getfield 12, 3) := by decide +kernel
theorem d_cX3_joinBlock_85 : decode cX3_joinBlock 85 = .ok (.aload_n 1, 1) := by decide +kernel
theorem d_cX3_joinBlock_86 : decode cX3_joinBlock 86 = .ok (.iload 4, 2) := by decide +kernel
theorem d_cX3_joinBlock_88 : decode cX3_joinBlock 88 = .ok (.invokevirtual 85, 3) := by decide +kernel
theorem d_cX3_joinBlock_91 : decode cX3_joinBlock 91 = .ok (.iinc 4 (-1), 3) := by decide +kernel
theorem d_cX3_joinBlock_94 : decode cX3_joinBlock 94 = .ok (.goto (-76), 3) := by decide +kernel
theorem d_cX3_joinBlock_97 : decode cX3_joinBlock 97 = .ok (.return_, 1) := by decide +kernel
theorem d_cX3_joinToLive_0 : decode cX3_joinToLive 0 = .ok (.iconst 0, 1) := by decide +kernel
theorem d_cX3_joinToLive_1 : decode cX3_joinToLive 1 = .ok (.istore_n 3, 1) := by decide +kernel
theorem d_cX3_joinToLive_2 : decode cX3_joinToLive 2 = .ok (.iload_n 3, 1) := by decide +kernel
theorem d_cX3_joinToLive_3 : decode cX3_joinToLive 3 = .ok (.aload_n 0, 1) := by decide +kernel
theorem d_cX3_joinToLive_4 : decode cX3_joinToLive 4 = .ok (.getfield 41, 3) := by decide +kernel
theorem d_cX3_joinToLive_7 : decode cX3_joinToLive 7 = .ok (.if_icmp .ge 137, 3) := by decide +kernel
theorem d_cX3_joinToLive_10 : decode cX3_joinToLive 10 = .ok (.aload_n 0, 1) := by decide +kernel
theorem d_cX3_joinToLive_11 : decode cX3_joinToLive 11 = .ok (.getfield 12, 3) := by decide +kernel
theorem d_cX3_joinToLive_14 : decode cX3_joinToLive 14 = .ok (.getfield 88, 3) := by decide +kernel
theorem d_cX3_joinToLive_17 : decode cX3_joinToLive 17 = .ok (.iload_n 3, 1) := by decide +kernel
theorem d_cX3_joinToLive_18 : decode cX3_joinToLive 18 = .ok (.laload, 1) := by decide +kernel
theorem d_cX3_joinToLive_19 : decode cX3_joinToLive 19 = .ok (.aload_n 0, 1) := by decide +kernel
theorem d_cX3_joinToLive_20 : decode cX3_joinToLive 20 = .ok (.getfield 18, 3) := by decide +kernel
theorem d_cX3_joinToLive_23 : decode cX3_joinToLive 23 = .ok (.iload_n 1, 1) := by decide +kernel
theorem d_cX3_joinToLive_24 : decode cX3_joinToLive 24 = .ok (.aload_n 0, 1) := by decide +kernel
theorem d_cX3_joinToLive_25 : decode cX3_joinToLive 25 = .ok (.getfield 41, 3) := by decide +kernel
theorem d_cX3_joinToLive_28 : decode cX3_joinToLive 28 = .ok (.imul, 1) := by decide +kernel
theorem d_cX3_joinToLive_29 : decode cX3_joinToLive 29 = .ok (.iload_n 3, 1) := by decide +kernel
theorem d_cX3_joinToLive_30 : decode cX3_joinToLive 30 = .ok (.iadd, 1) := by decide +kernel
theorem d_cX3_joinToLive_31 : decode cX3_joinToLive 31 = .ok (.laload, 1) := by decide +kernel
theorem d_cX3_joinToLive_32 : decode cX3_joinToLive 32 = .ok (.ldc2_w 91, 3) := by decide +kernel
theorem d_cX3_joinToLive_35 : decode cX3_joinToLive 35 = .ok (.lxor, 1) := by decide +kernel
theorem d_cX3_joinToLive_36 : decode cX3_joinToLive 36 = .ok (.land, 1) := by decide +kernel
theorem d_cX3_joinToLive_37 : decode cX3_joinToLive 37 = .ok (.lstore 4, 2) := by decide +kernel
theorem d_cX3_joinToLive_39 : decode cX3_joinToLive 39 = .ok (.iconst 0, 1) := by decide +kernel
theorem d_cX3_joinToLive_40 : decode cX3_joinToLive 40 = .ok (.istore 6, 2) := by decide +kernel
theorem d_cX3_joinToLive_42 : decode cX3_joinToLive 42 = .ok (.iload 6, 2) := by decide +kernel
theorem d_cX3_joinToLive_44 : decode cX3_joinToLive 44 = .ok (.bipush 64, 2) := by decide +kernel
theorem d_cX3_joinToLive_46 : decode cX3_joinToLive 46 = .ok (.if_icmp .ge 92, 3) := by decide +kernel
theorem d_cX3_joinToLive_49 : decode cX3_joinToLive 49 = .ok (.lload 4, 2) := by decide +kernel
theorem d_cX3_joinToLive_51 : decode cX3_joinToLive 51 = .ok (.lconst 0, 1) := by decide +kernel
theorem d_cX3_joinToLive_52 : decode cX3_joinToLive 52 = .ok (.lcmp, 1) := by decide +kernel
theorem d_cX3_joinToLive_53 : decode cX3_joinToLive 53 = .ok (.ifCond .eq 85, 3) := by decide +kernel
theorem d_cX3_joinToLive_56 : decode cX3_joinToLive 56 = .ok (.iload_n 3, 1) := by decide +kernel
theorem d_cX3_joinToLive_57 : decode cX3_joinToLive 57 = .ok (.bipush 6, 2) := by decide +kernel
theorem d_cX3_joinToLive_59 : decode cX3_joinToLive 59 = .ok (.ishl, 1) := by decide +kernel
theorem d_cX3_joinToLive_60 : decode cX3_joinToLive 60 = .ok (.lload 4, 2) := by decide +kernel
theorem d_cX3_joinToLive_62 : decode cX3_joinToLive 62 = .ok (.invokestatic 93, 3) := by decide +kernel
theorem d_cX3_joinToLive_65 : decode cX3_joinToLive 65 = .ok (.ior, 1) := by decide +kernel
theorem d_cX3_joinToLive_66 : decode cX3_joinToLive 66 = .ok (.istore 7, 2) := by decide +kernel
theorem d_cX3_joinToLive_68 : decode cX3_joinToLive 68 = .ok (.lload 4, 2) := by decide +kernel
theorem d_cX3_joinToLive_70 : decode cX3_joinToLive 70 = .ok (.lload 4, 2) := by decide +kernel
theorem d_cX3_joinToLive_72 : decode cX3_joinToLive 72 = .ok (.lconst 1, 1) := by decide +kernel
theorem d_cX3_joinToLive_73 : decode cX3_joinToLive 73 = .ok (.lsub, 1) := by decide +kernel
theorem d_cX3_joinToLive_74 : decode cX3_joinToLive 74 = .ok (.land, 1) := by decide +kernel
theorem d_cX3_joinToLive_75 : decode cX3_joinToLive 75 = .ok (.lstore 4, 2) := by decide +kernel
theorem d_cX3_joinToLive_77 : decode cX3_joinToLive 77 = .ok (.iload 7, 2) := by decide +kernel
theorem d_cX3_joinToLive_79 : decode cX3_joinToLive 79 = .ok (.iload_n 1, 1) := by decide +kernel
theorem d_cX3_joinToLive_80 : decode cX3_joinToLive 80 = .ok (.if_icmp .eq 52, 3) := by decide +kernel
theorem d_cX3_joinToLive_83 : decode cX3_joinToLive 83 = .ok (.iload 7, 2) := by decide +kernel
theorem d_cX3_joinToLive_85 : decode cX3_joinToLive 85 = .ok (.iload_n 2, 1) := by decide +kernel
theorem d_cX3_joinToLive_86 : decode cX3_joinToLive 86 = .ok (.if_icmp .eq 46, 3) := by decide +kernel
theorem d_cX3_joinToLive_89 : decode cX3_joinToLive 89 = .ok (.aload_n 0, 1) := by decide +kernel
theorem d_cX3_joinToLive_90 : decode cX3_joinToLive 90 = .ok (.getfield 18, 3) := by decide +kernel
theorem d_cX3_joinToLive_93 : decode cX3_joinToLive 93 = .ok (.iload_n 1, 1) := by decide +kernel
theorem d_cX3_joinToLive_94 : decode cX3_joinToLive 94 = .ok (.aload_n 0, 1) := by decide +kernel
theorem d_cX3_joinToLive_95 : decode cX3_joinToLive 95 = .ok (.getfield 41, 3) := by decide +kernel
theorem d_cX3_joinToLive_98 : decode cX3_joinToLive 98 = .ok (.imul, 1) := by decide +kernel
theorem d_cX3_joinToLive_99 : decode cX3_joinToLive 99 = .ok (.iload_n 3, 1) := by decide +kernel
theorem d_cX3_joinToLive_100 : decode cX3_joinToLive 100 = .ok (.iadd, 1) := by decide +kernel
theorem d_cX3_joinToLive_101 : decode cX3_joinToLive 101 = .ok (.dup2, 1) := by decide +kernel
theorem d_cX3_joinToLive_102 : decode cX3_joinToLive 102 = .ok (.laload, 1) := by decide +kernel
theorem d_cX3_joinToLive_103 : decode cX3_joinToLive 103 = .ok (.lconst 1, 1) := by decide +kernel
theorem d_cX3_joinToLive_104 : decode cX3_joinToLive 104 = .ok (.iload 7, 2) := by decide +kernel
theorem d_cX3_joinToLive_106 : decode cX3_joinToLive 106 = .ok (.lshl, 1) := by decide +kernel
theorem d_cX3_joinToLive_107 : decode cX3_joinToLive 107 = .ok (.lor, 1) := by decide +kernel
theorem d_cX3_joinToLive_108 : decode cX3_joinToLive 108 = .ok (.lastore, 1) := by decide +kernel
theorem d_cX3_joinToLive_109 : decode cX3_joinToLive 109 = .ok (.aload_n 0, 1) := by decide +kernel
theorem d_cX3_joinToLive_110 : decode cX3_joinToLive 110 = .ok (.getfield 18, 3) := by decide +kernel
theorem d_cX3_joinToLive_113 : decode cX3_joinToLive 113 = .ok (.iload 7, 2) := by decide +kernel
theorem d_cX3_joinToLive_115 : decode cX3_joinToLive 115 = .ok (.aload_n 0, 1) := by decide +kernel
theorem d_cX3_joinToLive_116 : decode cX3_joinToLive 116 = .ok (.getfield 41, 3) := by decide +kernel
theorem d_cX3_joinToLive_119 : decode cX3_joinToLive 119 = .ok (.imul, 1) := by decide +kernel
theorem d_cX3_joinToLive_120 : decode cX3_joinToLive 120 = .ok (.iload_n 1, 1) := by decide +kernel
theorem d_cX3_joinToLive_121 : decode cX3_joinToLive 121 = .ok (.bipush 6, 2) := by decide +kernel
theorem d_cX3_joinToLive_123 : decode cX3_joinToLive 123 = .ok (.ishr, 1) := by decide +kernel
theorem d_cX3_joinToLive_124 : decode cX3_joinToLive 124 = .ok (.iadd, 1) := by decide +kernel
theorem d_cX3_joinToLive_125 : decode cX3_joinToLive 125 = .ok (.dup2, 1) := by decide +kernel
theorem d_cX3_joinToLive_126 : decode cX3_joinToLive 126 = .ok (.laload, 1) := by decide +kernel
theorem d_cX3_joinToLive_127 : decode cX3_joinToLive 127 = .ok (.lconst 1, 1) := by decide +kernel
theorem d_cX3_joinToLive_128 : decode cX3_joinToLive 128 = .ok (.iload_n 1, 1) := by decide +kernel
theorem d_cX3_joinToLive_129 : decode cX3_joinToLive 129 = .ok (.lshl, 1) := by decide +kernel
theorem d_cX3_joinToLive_130 : decode cX3_joinToLive 130 = .ok (.lor, 1) := by decide +kernel
theorem d_cX3_joinToLive_131 : decode cX3_joinToLive 131 = .ok (.lastore, 1) := by decide +kernel
theorem d_cX3_joinToLive_132 : decode cX3_joinToLive 132 = .ok (.iinc 6 1, 3) := by decide +kernel
theorem d_cX3_joinToLive_135 : decode cX3_joinToLive 135 = .ok (.goto (-93), 3) := by decide +kernel
theorem d_cX3_joinToLive_138 : decode cX3_joinToLive 138 = .ok (.iinc 3 1, 3) := by decide +kernel
theorem d_cX3_joinToLive_141 : decode cX3_joinToLive 141 = .ok (.goto (-139), 3) := by decide +kernel
theorem d_cX3_joinToLive_144 : decode cX3_joinToLive 144 = .ok (.return_, 1) := by decide +kernel
theorem d_cX3_stands_0 : decode cX3_stands 0 = .ok (.iload_n 1, 1) := by decide +kernel
theorem d_cX3_stands_1 : decode cX3_stands 1 = .ok (.ifCond .lt 33, 3) := by decide +kernel
theorem d_cX3_stands_4 : decode cX3_stands 4 = .ok (.iload_n 1, 1) := by decide +kernel
theorem d_cX3_stands_5 : decode cX3_stands 5 = .ok (.aload_n 0, 1) := by decide +kernel
theorem d_cX3_stands_6 : decode cX3_stands 6 = .ok (.getfield 37, 3) := by decide +kernel
theorem d_cX3_stands_9 : decode cX3_stands 9 = .ok (.if_icmp .ge 25, 3) := by decide +kernel
theorem d_cX3_stands_12 : decode cX3_stands 12 = .ok (.aload_n 0, 1) := by decide +kernel
theorem d_cX3_stands_13 : decode cX3_stands 13 = .ok (.getfield 22, 3) := by decide +kernel
theorem d_cX3_stands_16 : decode cX3_stands 16 = .ok (.iload_n 1, 1) := by decide +kernel
theorem d_cX3_stands_17 : decode cX3_stands 17 = .ok (.bipush 6, 2) := by decide +kernel
theorem d_cX3_stands_19 : decode cX3_stands 19 = .ok (.ishr, 1) := by decide +kernel
theorem d_cX3_stands_20 : decode cX3_stands 20 = .ok (.laload, 1) := by decide +kernel
theorem d_cX3_stands_21 : decode cX3_stands 21 = .ok (.iload_n 1, 1) := by decide +kernel
theorem d_cX3_stands_22 : decode cX3_stands 22 = .ok (.lshr, 1) := by decide +kernel
theorem d_cX3_stands_23 : decode cX3_stands 23 = .ok (.lconst 1, 1) := by decide +kernel
theorem d_cX3_stands_24 : decode cX3_stands 24 = .ok (.land, 1) := by decide +kernel
theorem d_cX3_stands_25 : decode cX3_stands 25 = .ok (.lconst 0, 1) := by decide +kernel
theorem d_cX3_stands_26 : decode cX3_stands 26 = .ok (.lcmp, 1) := by decide +kernel
theorem d_cX3_stands_27 : decode cX3_stands 27 = .ok (.ifCond .eq 7, 3) := by decide +kernel
theorem d_cX3_stands_30 : decode cX3_stands 30 = .ok (.iconst 1, 1) := by decide +kernel
theorem d_cX3_stands_31 : decode cX3_stands 31 = .ok (.goto 4, 3) := by decide +kernel
theorem d_cX3_stands_34 : decode cX3_stands 34 = .ok (.iconst 0, 1) := by decide +kernel
theorem d_cX3_stands_35 : decode cX3_stands 35 = .ok (.ireturn, 1) := by decide +kernel
theorem d_cX5_enterBehind_0 : decode cX5_enterBehind 0 = .ok (.aload_n 1, 1) := by decide +kernel
theorem d_cX5_enterBehind_1 : decode cX5_enterBehind 1 = .ok (.getfield 88, 3) := by decide +kernel
theorem d_cX5_enterBehind_4 : decode cX5_enterBehind 4 = .ok (.iload_n 2, 1) := by decide +kernel
theorem d_cX5_enterBehind_5 : decode cX5_enterBehind 5 = .ok (.iaload, 1) := by decide +kernel
theorem d_cX5_enterBehind_6 : decode cX5_enterBehind 6 = .ok (.istore_n 3, 1) := by decide +kernel
theorem d_cX5_enterBehind_7 : decode cX5_enterBehind 7 = .ok (.aload_n 1, 1) := by decide +kernel
theorem d_cX5_enterBehind_8 : decode cX5_enterBehind 8 = .ok (.getfield 91, 3) := by decide +kernel
theorem d_cX5_enterBehind_11 : decode cX5_enterBehind 11 = .ok (.iload_n 2, 1) := by decide +kernel
theorem d_cX5_enterBehind_12 : decode cX5_enterBehind 12 = .ok (.iaload, 1) := by decide +kernel
theorem d_cX5_enterBehind_13 : decode cX5_enterBehind 13 = .ok (.istore 4, 2) := by decide +kernel
theorem d_cX5_enterBehind_15 : decode cX5_enterBehind 15 = .ok (.iconst 0, 1) := by decide +kernel
theorem d_cX5_enterBehind_16 : decode cX5_enterBehind 16 = .ok (.istore 5, 2) := by decide +kernel
theorem d_cX5_enterBehind_18 : decode cX5_enterBehind 18 = .ok (.iload 5, 2) := by decide +kernel
theorem d_cX5_enterBehind_20 : decode cX5_enterBehind 20 = .ok (.aload_n 0, 1) := by decide +kernel
theorem d_cX5_enterBehind_21 : decode cX5_enterBehind 21 = .ok (.getfield 37, 3) := by decide +kernel
theorem d_cX5_enterBehind_24 : decode cX5_enterBehind 24 = .ok (.if_icmp .ge 85, 3) := by decide +kernel
theorem d_cX5_enterBehind_27 : decode cX5_enterBehind 27 = .ok (.iload_n 3, 1) := by decide +kernel
theorem d_cX5_enterBehind_28 : decode cX5_enterBehind 28 = .ok (.ifCond .lt 28, 3) := by decide +kernel
theorem d_cX5_enterBehind_31 : decode cX5_enterBehind 31 = .ok (.iload_n 3, 1) := by decide +kernel
theorem d_cX5_enterBehind_32 : decode cX5_enterBehind 32 = .ok (.aload_n 1, 1) := by decide +kernel
theorem d_cX5_enterBehind_33 : decode cX5_enterBehind 33 = .ok (.getfield 44, 3) := by decide +kernel
theorem d_cX5_enterBehind_36 : decode cX5_enterBehind 36 = .ok (.if_icmp .ge 20, 3) := by decide +kernel
theorem d_cX5_enterBehind_39 : decode cX5_enterBehind 39 = .ok (.aload_n 0, 1) := by decide +kernel
theorem d_cX5_enterBehind_40 : decode cX5_enterBehind 40 = .ok (.getfield 9, 3) := by decide +kernel
theorem d_cX5_enterBehind_43 : decode cX5_enterBehind 43 = .ok (.iload_n 3, 1) := by decide +kernel
theorem d_cX5_enterBehind_44 : decode cX5_enterBehind 44 = .ok (.aload_n 0, 1) := by decide +kernel
theorem d_cX5_enterBehind_45 : decode cX5_enterBehind 45 = .ok (.getfield 37, 3) := by decide +kernel
theorem d_cX5_enterBehind_48 : decode cX5_enterBehind 48 = .ok (.imul, 1) := by decide +kernel
theorem d_cX5_enterBehind_49 : decode cX5_enterBehind 49 = .ok (.iload 5, 2) := by decide +kernel
theorem d_cX5_enterBehind_51 : decode cX5_enterBehind 51 = .ok (.iadd, 1) := by decide +kernel
theorem d_cX5_enterBehind_52 : decode cX5_enterBehind 52 = .ok (.laload, 1) := by decide +kernel
theorem d_cX5_enterBehind_53 : decode cX5_enterBehind 53 = .ok (.goto 4, 3) := by decide +kernel
theorem d_cX5_enterBehind_56 : decode cX5_enterBehind 56 = .ok (.lconst 0, 1) := by decide +kernel
theorem d_cX5_enterBehind_57 : decode cX5_enterBehind 57 = .ok (.lstore 6, 2) := by decide +kernel
theorem d_cX5_enterBehind_59 : decode cX5_enterBehind 59 = .ok (.aload_n 0, 1) := by decide +kernel
theorem d_cX5_enterBehind_60 : decode cX5_enterBehind 60 = .ok (.getfield 21, 3) := by decide +kernel
theorem d_cX5_enterBehind_63 : decode cX5_enterBehind 63 = .ok (.iload 5, 2) := by decide +kernel
theorem d_cX5_enterBehind_65 : decode cX5_enterBehind 65 = .ok (.iload 4, 2) := by decide +kernel
theorem d_cX5_enterBehind_67 : decode cX5_enterBehind 67 = .ok (.ifCond .lt 33, 3) := by decide +kernel
theorem d_cX5_enterBehind_70 : decode cX5_enterBehind 70 = .ok (.iload 4, 2) := by decide +kernel
theorem d_cX5_enterBehind_72 : decode cX5_enterBehind 72 = .ok (.aload_n 1, 1) := by decide +kernel
theorem d_cX5_enterBehind_73 : decode cX5_enterBehind 73 = .ok (.getfield 44, 3) := by decide +kernel
theorem d_cX5_enterBehind_76 : decode cX5_enterBehind 76 = .ok (.if_icmp .ge 24, 3) := by decide +kernel
theorem d_cX5_enterBehind_79 : decode cX5_enterBehind 79 = .ok (.lload 6, 2) := by decide +kernel
theorem d_cX5_enterBehind_81 : decode cX5_enterBehind 81 = .ok (.aload_n 0, 1) := by decide +kernel
theorem d_cX5_enterBehind_82 : decode cX5_enterBehind 82 = .ok (.getfield 9, 3) := by decide +kernel
theorem d_cX5_enterBehind_85 : decode cX5_enterBehind 85 = .ok (.iload 4, 2) := by decide +kernel
theorem d_cX5_enterBehind_87 : decode cX5_enterBehind 87 = .ok (.aload_n 0, 1) := by decide +kernel
theorem d_cX5_enterBehind_88 : decode cX5_enterBehind 88 = .ok (.getfield 37, 3) := by decide +kernel
theorem d_cX5_enterBehind_91 : decode cX5_enterBehind 91 = .ok (.imul, 1) := by decide +kernel
theorem d_cX5_enterBehind_92 : decode cX5_enterBehind 92 = .ok (.iload 5, 2) := by decide +kernel
theorem d_cX5_enterBehind_94 : decode cX5_enterBehind 94 = .ok (.iadd, 1) := by decide +kernel
theorem d_cX5_enterBehind_95 : decode cX5_enterBehind 95 = .ok (.laload, 1) := by decide +kernel
theorem d_cX5_enterBehind_96 : decode cX5_enterBehind 96 = .ok (.lor, 1) := by decide +kernel
theorem d_cX5_enterBehind_97 : decode cX5_enterBehind 97 = .ok (.goto 5, 3) := by decide +kernel
theorem d_cX5_enterBehind_100 : decode cX5_enterBehind 100 = .ok (.lload 6, 2) := by decide +kernel
theorem d_cX5_enterBehind_102 : decode cX5_enterBehind 102 = .ok (.lastore, 1) := by decide +kernel
theorem d_cX5_enterBehind_103 : decode cX5_enterBehind 103 = .ok (.iinc 5 1, 3) := by decide +kernel
theorem d_cX5_enterBehind_106 : decode cX5_enterBehind 106 = .ok (.goto (-88), 3) := by decide +kernel
theorem d_cX5_enterBehind_109 : decode cX5_enterBehind 109 = .ok (.return_, 1) := by decide +kernel
theorem d_cX5_gather_0 : decode cX5_gather 0 = .ok (.iload_n 2, 1) := by decide +kernel
theorem d_cX5_gather_1 : decode cX5_gather 1 = .ok (.aload_n 0, 1) := by decide +kernel
theorem d_cX5_gather_2 : decode cX5_gather 2 = .ok (.getfield 37, 3) := by decide +kernel
theorem d_cX5_gather_5 : decode cX5_gather 5 = .ok (.imul, 1) := by decide +kernel
theorem d_cX5_gather_6 : decode cX5_gather 6 = .ok (.istore_n 3, 1) := by decide +kernel
theorem d_cX5_gather_7 : decode cX5_gather 7 = .ok (.aload_n 1, 1) := by decide +kernel
theorem d_cX5_gather_8 : decode cX5_gather 8 = .ok (.getfield 57, 3) := by decide +kernel
theorem d_cX5_gather_11 : decode cX5_gather 11 = .ok (.iload_n 2, 1) := by decide +kernel
theorem d_cX5_gather_12 : decode cX5_gather 12 = .ok (.iaload, 1) := by decide +kernel
theorem d_cX5_gather_13 : decode cX5_gather 13 = .ok (.istore 4, 2) := by decide +kernel
theorem d_cX5_gather_15 : decode cX5_gather 15 = .ok (.iload 4, 2) := by decide +kernel
theorem d_cX5_gather_17 : decode cX5_gather 17 = .ok (.aload_n 1, 1) := by decide +kernel
theorem d_cX5_gather_18 : decode cX5_gather 18 = .ok (.iload_n 2, 1) := by decide +kernel
theorem d_cX5_gather_19 : decode cX5_gather 19 = .ok (.invokevirtual 61, 3) := by decide +kernel
theorem d_cX5_gather_22 : decode cX5_gather 22 = .ok (.if_icmp .ge 79, 3) := by decide +kernel
theorem d_cX5_gather_25 : decode cX5_gather 25 = .ok (.aload_n 0, 1) := by decide +kernel
theorem d_cX5_gather_26 : decode cX5_gather 26 = .ok (.iload_n 3, 1) := by decide +kernel
theorem d_cX5_gather_27 : decode cX5_gather 27 = .ok (.aload_n 1, 1) := by decide +kernel
theorem d_cX5_gather_28 : decode cX5_gather 28 = .ok (.iload 4, 2) := by decide +kernel
theorem d_cX5_gather_30 : decode cX5_gather 30 = .ok (.aload_n 0, 1) := by decide +kernel
theorem d_cX5_gather_31 : decode cX5_gather 31 = .ok (.getfield 40, 3) := by decide +kernel
theorem d_cX5_gather_34 : decode cX5_gather 34 = .ok (.invokevirtual 65, 3) := by decide +kernel
theorem d_cX5_gather_37 : decode cX5_gather 37 = .ok (.invokevirtual 69, 3) := by decide +kernel
theorem d_cX5_gather_40 : decode cX5_gather 40 = .ok (.aload_n 0, 1) := by decide +kernel
theorem d_cX5_gather_41 : decode cX5_gather 41 = .ok (.iload_n 3, 1) := by decide +kernel
theorem d_cX5_gather_42 : decode cX5_gather 42 = .ok (.aload_n 1, 1) := by decide +kernel
theorem d_cX5_gather_43 : decode cX5_gather 43 = .ok (.iload 4, 2) := by decide +kernel
theorem d_cX5_gather_45 : decode cX5_gather 45 = .ok (.aload_n 0, 1) := by decide +kernel
theorem d_cX5_gather_46 : decode cX5_gather 46 = .ok (.getfield 40, 3) := by decide +kernel
theorem d_cX5_gather_49 : decode cX5_gather 49 = .ok (.invokevirtual 73, 3) := by decide +kernel
theorem d_cX5_gather_52 : decode cX5_gather 52 = .ok (.invokevirtual 69, 3) := by decide +kernel
theorem d_cX5_gather_55 : decode cX5_gather 55 = .ok (.aload_n 1, 1) := by decide +kernel
theorem d_cX5_gather_56 : decode cX5_gather 56 = .ok (.iload 4, 2) := by decide +kernel
theorem d_cX5_gather_58 : decode cX5_gather 58 = .ok (.aload_n 0, 1) := by decide +kernel
theorem d_cX5_gather_59 : decode cX5_gather 59 = .ok (.getfield 40, 3) := by decide +kernel
theorem d_cX5_gather_62 : decode cX5_gather 62 = .ok (.invokevirtual 76, 3) := by decide +kernel
theorem d_cX5_gather_65 : decode cX5_gather 65 = .ok (.istore 5, 2) := by decide +kernel
theorem d_cX5_gather_67 : decode cX5_gather 67 = .ok (.aload_n 0, 1) := by decide +kernel
theorem d_cX5_gather_68 : decode cX5_gather 68 = .ok (.iload 5, 2) := by decide +kernel
theorem d_cX5_gather_70 : decode cX5_gather 70 = .ok (.invokevirtual 79, 3) := by decide +kernel
theorem d_cX5_gather_73 : decode cX5_gather 73 = .ok (.ifCond .eq 22, 3) := by decide +kernel
theorem d_cX5_gather_76 : decode cX5_gather 76 = .ok (.aload_n 0, 1) := by decide +kernel
theorem d_cX5_gather_77 : decode cX5_gather 77 = .ok (.getfield 18, 3) := by decide +kernel
theorem d_cX5_gather_80 : decode cX5_gather 80 = .ok (.iload_n 3, 1) := by decide +kernel
theorem d_cX5_gather_81 : decode cX5_gather 81 = .ok (.iload 5, 2) := by decide +kernel
theorem d_cX5_gather_83 : decode cX5_gather 83 = .ok (.bipush 6, 2) := by decide +kernel
theorem d_cX5_gather_85 : decode cX5_gather 85 = .ok (.ishr, 1) := by decide +kernel
theorem d_cX5_gather_86 : decode cX5_gather 86 = .ok (.iadd, 1) := by decide +kernel
theorem d_cX5_gather_87 : decode cX5_gather 87 = .ok (.dup2, 1) := by decide +kernel
theorem d_cX5_gather_88 : decode cX5_gather 88 = .ok (.laload, 1) := by decide +kernel
theorem d_cX5_gather_89 : decode cX5_gather 89 = .ok (.lconst 1, 1) := by decide +kernel
theorem d_cX5_gather_90 : decode cX5_gather 90 = .ok (.iload 5, 2) := by decide +kernel
theorem d_cX5_gather_92 : decode cX5_gather 92 = .ok (.lshl, 1) := by decide +kernel
theorem d_cX5_gather_93 : decode cX5_gather 93 = .ok (.lor, 1) := by decide +kernel
theorem d_cX5_gather_94 : decode cX5_gather 94 = .ok (.lastore, 1) := by decide +kernel
theorem d_cX5_gather_95 : decode cX5_gather 95 = .ok (.iinc 4 1, 3) := by decide +kernel
theorem d_cX5_gather_98 : decode cX5_gather 98 = .ok (.goto (-83), 3) := by decide +kernel
theorem d_cX5_gather_101 : decode cX5_gather 101 = .ok (.return_, 1) := by decide +kernel
theorem d_cX5_gatherUse_0 : decode cX5_gatherUse 0 = .ok (.iload_n 2, 1) := by decide +kernel
theorem d_cX5_gatherUse_1 : decode cX5_gatherUse 1 = .ok (.ifCond .lt 41, 3) := by decide +kernel
theorem d_cX5_gatherUse_4 : decode cX5_gatherUse 4 = .ok (.iload_n 2, 1) := by decide +kernel
theorem d_cX5_gatherUse_5 : decode cX5_gatherUse 5 = .ok (.aload_n 0, 1) := by decide +kernel
theorem d_cX5_gatherUse_6 : decode cX5_gatherUse 6 = .ok (.getfield 33, 3) := by decide +kernel
theorem d_cX5_gatherUse_9 : decode cX5_gatherUse 9 = .ok (.if_icmp .ge 33, 3) := by decide +kernel
theorem d_cX5_gatherUse_12 : decode cX5_gatherUse 12 = .ok (.iload_n 1, 1) := by decide +kernel
theorem d_cX5_gatherUse_13 : decode cX5_gatherUse 13 = .ok (.iload_n 2, 1) := by decide +kernel
theorem d_cX5_gatherUse_14 : decode cX5_gatherUse 14 = .ok (.bipush 6, 2) := by decide +kernel
theorem d_cX5_gatherUse_16 : decode cX5_gatherUse 16 = .ok (.ishr, 1) := by decide +kernel
theorem d_cX5_gatherUse_17 : decode cX5_gatherUse 17 = .ok (.iadd, 1) := by decide +kernel
theorem d_cX5_gatherUse_18 : decode cX5_gatherUse 18 = .ok (.istore_n 3, 1) := by decide +kernel
theorem d_cX5_gatherUse_19 : decode cX5_gatherUse 19 = .ok (.aload_n 0, 1) := by decide +kernel
theorem d_cX5_gatherUse_20 : decode cX5_gatherUse 20 = .ok (.getfield 15, 3) := by decide +kernel
theorem d_cX5_gatherUse_23 : decode cX5_gatherUse 23 = .ok (.iload_n 3, 1) := by decide +kernel
theorem d_cX5_gatherUse_24 : decode cX5_gatherUse 24 = .ok (.dup2, 1) := by decide +kernel
theorem d_cX5_gatherUse_25 : decode cX5_gatherUse 25 = .ok (.laload, 1) := by decide +kernel
theorem d_cX5_gatherUse_26 : decode cX5_gatherUse 26 = .ok (.lconst 1, 1) := by decide +kernel
theorem d_cX5_gatherUse_27 : decode cX5_gatherUse 27 = .ok (.iload_n 2, 1) := by decide +kernel
theorem d_cX5_gatherUse_28 : decode cX5_gatherUse 28 = .ok (.lshl, 1) := by decide +kernel
theorem d_cX5_gatherUse_29 : decode cX5_gatherUse 29 = .ok (.aload_n 0, 1) := by decide +kernel
theorem d_cX5_gatherUse_30 : decode cX5_gatherUse 30 = .ok (.getfield 18, 3) := by decide +kernel
theorem d_cX5_gatherUse_33 : decode cX5_gatherUse 33 = .ok (.iload_n 3, 1) := by decide +kernel
theorem d_cX5_gatherUse_34 : decode cX5_gatherUse 34 = .ok (.laload, 1) := by decide +kernel
theorem d_cX5_gatherUse_35 : decode cX5_gatherUse 35 = .ok (.ldc2_w 83, 3) := by decide +kernel
theorem d_cX5_gatherUse_38 : decode cX5_gatherUse 38 = .ok (.lxor, 1) := by decide +kernel
theorem d_cX5_gatherUse_39 : decode cX5_gatherUse 39 = .ok (.land, 1) := by decide +kernel
theorem d_cX5_gatherUse_40 : decode cX5_gatherUse 40 = .ok (.lor, 1) := by decide +kernel
theorem d_cX5_gatherUse_41 : decode cX5_gatherUse 41 = .ok (.lastore, 1) := by decide +kernel
theorem d_cX5_gatherUse_42 : decode cX5_gatherUse 42 = .ok (.return_, 1) := by decide +kernel
theorem d_cX5_isName_0 : decode cX5_isName 0 = .ok (.iload_n 1, 1) := by decide +kernel
theorem d_cX5_isName_1 : decode cX5_isName 1 = .ok (.ifCond .lt 15, 3) := by decide +kernel
theorem d_cX5_isName_4 : decode cX5_isName 4 = .ok (.iload_n 1, 1) := by decide +kernel
theorem d_cX5_isName_5 : decode cX5_isName 5 = .ok (.aload_n 0, 1) := by decide +kernel
theorem d_cX5_isName_6 : decode cX5_isName 6 = .ok (.getfield 33, 3) := by decide +kernel
theorem d_cX5_isName_9 : decode cX5_isName 9 = .ok (.if_icmp .ge 7, 3) := by decide +kernel
theorem d_cX5_isName_12 : decode cX5_isName 12 = .ok (.iconst 1, 1) := by decide +kernel
theorem d_cX5_isName_13 : decode cX5_isName 13 = .ok (.goto 4, 3) := by decide +kernel
theorem d_cX5_isName_16 : decode cX5_isName 16 = .ok (.iconst 0, 1) := by decide +kernel
theorem d_cX5_isName_17 : decode cX5_isName 17 = .ok (.ireturn, 1) := by decide +kernel
theorem d_cX5_revive_0 : decode cX5_revive 0 = .ok (.iload_n 1, 1) := by decide +kernel
theorem d_cX5_revive_1 : decode cX5_revive 1 = .ok (.ifCond .lt 26, 3) := by decide +kernel
theorem d_cX5_revive_4 : decode cX5_revive 4 = .ok (.iload_n 1, 1) := by decide +kernel
theorem d_cX5_revive_5 : decode cX5_revive 5 = .ok (.aload_n 0, 1) := by decide +kernel
theorem d_cX5_revive_6 : decode cX5_revive 6 = .ok (.getfield 33, 3) := by decide +kernel
theorem d_cX5_revive_9 : decode cX5_revive 9 = .ok (.if_icmp .ge 18, 3) := by decide +kernel
theorem d_cX5_revive_12 : decode cX5_revive 12 = .ok (.aload_n 0, 1) := by decide +kernel
theorem d_cX5_revive_13 : decode cX5_revive 13 = .ok (.getfield 21, 3) := by decide +kernel
theorem d_cX5_revive_16 : decode cX5_revive 16 = .ok (.iload_n 1, 1) := by decide +kernel
theorem d_cX5_revive_17 : decode cX5_revive 17 = .ok (.bipush 6, 2) := by decide +kernel
theorem d_cX5_revive_19 : decode cX5_revive 19 = .ok (.ishr, 1) := by decide +kernel
theorem d_cX5_revive_20 : decode cX5_revive 20 = .ok (.dup2, 1) := by decide +kernel
theorem d_cX5_revive_21 : decode cX5_revive 21 = .ok (.laload, 1) := by decide +kernel
theorem d_cX5_revive_22 : decode cX5_revive 22 = .ok (.lconst 1, 1) := by decide +kernel
theorem d_cX5_revive_23 : decode cX5_revive 23 = .ok (.iload_n 1, 1) := by decide +kernel
theorem d_cX5_revive_24 : decode cX5_revive 24 = .ok (.lshl, 1) := by decide +kernel
theorem d_cX5_revive_25 : decode cX5_revive 25 = .ok (.lor, 1) := by decide +kernel
theorem d_cX5_revive_26 : decode cX5_revive 26 = .ok (.lastore, 1) := by decide +kernel
theorem d_cX5_revive_27 : decode cX5_revive 27 = .ok (.return_, 1) := by decide +kernel
theorem d_cX5_solve_0 : decode cX5_solve 0 = .ok (.aload_n 0, 1) := by decide +kernel
theorem d_cX5_solve_1 : decode cX5_solve 1 = .ok (.iconst 0, 1) := by decide +kernel
theorem d_cX5_solve_2 : decode cX5_solve 2 = .ok (.iload_n 2, 1) := by decide +kernel
theorem d_cX5_solve_3 : decode cX5_solve 3 = .ok (.sipush 720, 3) := by decide +kernel
theorem d_cX5_solve_6 : decode cX5_solve 6 = .ok (.invokestatic 24, 3) := by decide +kernel
theorem d_cX5_solve_9 : decode cX5_solve 9 = .ok (.invokestatic 30, 3) := by decide +kernel
theorem d_cX5_solve_12 : decode cX5_solve 12 = .ok (.putfield 33, 3) := by decide +kernel
theorem d_cX5_solve_15 : decode cX5_solve 15 = .ok (.aload_n 0, 1) := by decide +kernel
theorem d_cX5_solve_16 : decode cX5_solve 16 = .ok (.aload_n 0, 1) := by decide +kernel
theorem d_cX5_solve_17 : decode cX5_solve 17 = .ok (.getfield 33, 3) := by decide +kernel
theorem d_cX5_solve_20 : decode cX5_solve 20 = .ok (.bipush 63, 2) := by decide +kernel
theorem d_cX5_solve_22 : decode cX5_solve 22 = .ok (.iadd, 1) := by decide +kernel
theorem d_cX5_solve_23 : decode cX5_solve 23 = .ok (.bipush 6, 2) := by decide +kernel
theorem d_cX5_solve_25 : decode cX5_solve 25 = .ok (.ishr, 1) := by decide +kernel
theorem d_cX5_solve_26 : decode cX5_solve 26 = .ok (.putfield 37, 3) := by decide +kernel
theorem d_cX5_solve_29 : decode cX5_solve 29 = .ok (.aload_n 0, 1) := by decide +kernel
theorem d_cX5_solve_30 : decode cX5_solve 30 = .ok (.iload_n 3, 1) := by decide +kernel
theorem d_cX5_solve_31 : decode cX5_solve 31 = .ok (.putfield 40, 3) := by decide +kernel
theorem d_cX5_solve_34 : decode cX5_solve 34 = .ok (.iconst 0, 1) := by decide +kernel
theorem d_cX5_solve_35 : decode cX5_solve 35 = .ok (.istore 4, 2) := by decide +kernel
theorem d_cX5_solve_37 : decode cX5_solve 37 = .ok (.iload 4, 2) := by decide +kernel
theorem d_cX5_solve_39 : decode cX5_solve 39 = .ok (.aload_n 1, 1) := by decide +kernel
theorem d_cX5_solve_40 : decode cX5_solve 40 = .ok (.getfield 44, 3) := by decide +kernel
theorem d_cX5_solve_43 : decode cX5_solve 43 = .ok (.aload_n 0, 1) := by decide +kernel
theorem d_cX5_solve_44 : decode cX5_solve 44 = .ok (.getfield 37, 3) := by decide +kernel
theorem d_cX5_solve_47 : decode cX5_solve 47 = .ok (.imul, 1) := by decide +kernel
theorem d_cX5_solve_48 : decode cX5_solve 48 = .ok (.if_icmp .ge 33, 3) := by decide +kernel
theorem d_cX5_solve_51 : decode cX5_solve 51 = .ok (.aload_n 0, 1) := by decide +kernel
theorem d_cX5_solve_52 : decode cX5_solve 52 = .ok (.getfield 9, 3) := by decide +kernel
theorem d_cX5_solve_55 : decode cX5_solve 55 = .ok (.iload 4, 2) := by decide +kernel
theorem d_cX5_solve_57 : decode cX5_solve 57 = .ok (.lconst 0, 1) := by decide +kernel
theorem d_cX5_solve_58 : decode cX5_solve 58 = .ok (.lastore, 1) := by decide +kernel
theorem d_cX5_solve_59 : decode cX5_solve 59 = .ok (.aload_n 0, 1) := by decide +kernel
theorem d_cX5_solve_60 : decode cX5_solve 60 = .ok (.getfield 15, 3) := by decide +kernel
theorem d_cX5_solve_63 : decode cX5_solve 63 = .ok (.iload 4, 2) := by decide +kernel
theorem d_cX5_solve_65 : decode cX5_solve 65 = .ok (.lconst 0, 1) := by decide +kernel
theorem d_cX5_solve_66 : decode cX5_solve 66 = .ok (.lastore, 1) := by decide +kernel
theorem d_cX5_solve_67 : decode cX5_solve 67 = .ok (.aload_n 0, 1) := by decide +kernel
theorem d_cX5_solve_68 : decode cX5_solve 68 = .ok (.getfield 18, 3) := by decide +kernel
theorem d_cX5_solve_71 : decode cX5_solve 71 = .ok (.iload 4, 2) := by decide +kernel
theorem d_cX5_solve_73 : decode cX5_solve 73 = .ok (.lconst 0, 1) := by decide +kernel
theorem d_cX5_solve_74 : decode cX5_solve 74 = .ok (.lastore, 1) := by decide +kernel
theorem d_cX5_solve_75 : decode cX5_solve 75 = .ok (.iinc 4 1, 3) := by decide +kernel
theorem d_cX5_solve_78 : decode cX5_solve 78 = .ok (.goto (-41), 3) := by decide +kernel
theorem d_cX5_solve_81 : decode cX5_solve 81 = .ok (.iconst 0, 1) := by decide +kernel
theorem d_cX5_solve_82 : decode cX5_solve 82 = .ok (.istore 4, 2) := by decide +kernel
theorem d_cX5_solve_84 : decode cX5_solve 84 = .ok (.iload 4, 2) := by decide +kernel
theorem d_cX5_solve_86 : decode cX5_solve 86 = .ok (.aload_n 1, 1) := by decide +kernel
theorem d_cX5_solve_87 : decode cX5_solve 87 = .ok (.getfield 44, 3) := by decide +kernel
theorem d_cX5_solve_90 : decode cX5_solve 90 = .ok (.if_icmp .ge 16, 3) := by decide +kernel
theorem d_cX5_solve_93 : decode cX5_solve 93 = .ok (.aload_n 0, 1) := by decide +kernel
theorem d_cX5_solve_94 : decode cX5_solve 94 = .ok (.aload_n 1, 1) := by decide +kernel
theorem d_cX5_solve_95 : decode cX5_solve 95 = .ok (.iload 4, 2) := by decide +kernel
theorem d_cX5_solve_97 : decode cX5_solve 97 = .ok (.invokevirtual 49, 3) := by decide +kernel
theorem d_cX5_solve_100 : decode cX5_solve 100 = .ok (.iinc 4 1, 3) := by decide +kernel
theorem d_cX5_solve_103 : decode cX5_solve 103 = .ok (.goto (-19), 3) := by decide +kernel
theorem d_cX5_solve_106 : decode cX5_solve 106 = .ok (.iconst 1, 1) := by decide +kernel
theorem d_cX5_solve_107 : decode cX5_solve 107 = .ok (.istore 4, 2) := by decide +kernel
theorem d_cX5_solve_109 : decode cX5_solve 109 = .ok (.iconst 0, 1) := by decide +kernel
theorem d_cX5_solve_110 : decode cX5_solve 110 = .ok (.istore 5, 2) := by decide +kernel
theorem d_cX5_solve_112 : decode cX5_solve 112 = .ok (.iload 5, 2) := by decide +kernel
theorem d_cX5_solve_114 : decode cX5_solve 114 = .ok (.aload_n 1, 1) := by decide +kernel
theorem d_cX5_solve_115 : decode cX5_solve 115 = .ok (.getfield 44, 3) := by decide +kernel
theorem d_cX5_solve_118 : decode cX5_solve 118 = .ok (.if_icmp .gt 21, 3) := by decide +kernel
theorem d_cX5_solve_121 : decode cX5_solve 121 = .ok (.iload 4, 2) := by decide +kernel
theorem d_cX5_solve_123 : decode cX5_solve 123 = .ok (.ifCond .eq 16, 3) := by decide +kernel
theorem d_cX5_solve_126 : decode cX5_solve 126 = .ok (.aload_n 0, 1) := by decide +kernel
theorem d_cX5_solve_127 : decode cX5_solve 127 = .ok (.aload_n 1, 1) := by decide +kernel
theorem d_cX5_solve_128 : decode cX5_solve 128 = .ok (.invokevirtual 53, 3) := by decide +kernel
theorem d_cX5_solve_131 : decode cX5_solve 131 = .ok (.istore 4, 2) := by decide +kernel
theorem d_cX5_solve_133 : decode cX5_solve 133 = .ok (.iinc 5 1, 3) := by decide +kernel
theorem d_cX5_solve_136 : decode cX5_solve 136 = .ok (.goto (-24), 3) := by decide +kernel
theorem d_cX5_solve_139 : decode cX5_solve 139 = .ok (.return_, 1) := by decide +kernel
theorem d_cX5_standing_0 : decode cX5_standing 0 = .ok (.lconst 0, 1) := by decide +kernel
theorem d_cX5_standing_1 : decode cX5_standing 1 = .ok (.lstore_n 3, 1) := by decide +kernel
theorem d_cX5_standing_2 : decode cX5_standing 2 = .ok (.iconst 0, 1) := by decide +kernel
theorem d_cX5_standing_3 : decode cX5_standing 3 = .ok (.istore 5, 2) := by decide +kernel
theorem d_cX5_standing_5 : decode cX5_standing 5 = .ok (.iload 5, 2) := by decide +kernel
theorem d_cX5_standing_7 : decode cX5_standing 7 = .ok (.iload_n 2, 1) := by decide +kernel
theorem d_cX5_standing_8 : decode cX5_standing 8 = .ok (.if_icmp .ge 41, 3) := by decide +kernel
theorem d_cX5_standing_11 : decode cX5_standing 11 = .ok (.lload_n 3, 1) := by decide +kernel
theorem d_cX5_standing_12 : decode cX5_standing 12 = .ok (.aload_n 0, 1) := by decide +kernel
theorem d_cX5_standing_13 : decode cX5_standing 13 = .ok (.getfield 15, 3) := by decide +kernel
theorem d_cX5_standing_16 : decode cX5_standing 16 = .ok (.iload 5, 2) := by decide +kernel
theorem d_cX5_standing_18 : decode cX5_standing 18 = .ok (.aload_n 0, 1) := by decide +kernel
theorem d_cX5_standing_19 : decode cX5_standing 19 = .ok (.getfield 37, 3) := by decide +kernel
theorem d_cX5_standing_22 : decode cX5_standing 22 = .ok (.imul, 1) := by decide +kernel
theorem d_cX5_standing_23 : decode cX5_standing 23 = .ok (.iload_n 1, 1) := by decide +kernel
theorem d_cX5_standing_24 : decode cX5_standing 24 = .ok (.iadd, 1) := by decide +kernel
theorem d_cX5_standing_25 : decode cX5_standing 25 = .ok (.laload, 1) := by decide +kernel
theorem d_cX5_standing_26 : decode cX5_standing 26 = .ok (.aload_n 0, 1) := by decide +kernel
theorem d_cX5_standing_27 : decode cX5_standing 27 = .ok (.getfield 18, 3) := by decide +kernel
theorem d_cX5_standing_30 : decode cX5_standing 30 = .ok (.iload 5, 2) := by decide +kernel
theorem d_cX5_standing_32 : decode cX5_standing 32 = .ok (.aload_n 0, 1) := by decide +kernel
theorem d_cX5_standing_33 : decode cX5_standing 33 = .ok (.getfield 37, 3) := by decide +kernel
theorem d_cX5_standing_36 : decode cX5_standing 36 = .ok (.imul, 1) := by decide +kernel
theorem d_cX5_standing_37 : decode cX5_standing 37 = .ok (.iload_n 1, 1) := by decide +kernel
theorem d_cX5_standing_38 : decode cX5_standing 38 = .ok (.iadd, 1) := by decide +kernel
theorem d_cX5_standing_39 : decode cX5_standing 39 = .ok (.laload, 1) := by decide +kernel
theorem d_cX5_standing_40 : decode cX5_standing 40 = .ok (.lor, 1) := by decide +kernel
theorem d_cX5_standing_41 : decode cX5_standing 41 = .ok (.lor, 1) := by decide +kernel
theorem d_cX5_standing_42 : decode cX5_standing 42 = .ok (.lstore_n 3, 1) := by decide +kernel
theorem d_cX5_standing_43 : decode cX5_standing 43 = .ok (.iinc 5 1, 3) := by decide +kernel
theorem d_cX5_standing_46 : decode cX5_standing 46 = .ok (.goto (-41), 3) := by decide +kernel
theorem d_cX5_standing_49 : decode cX5_standing 49 = .ok (.lload_n 3, 1) := by decide +kernel
theorem d_cX5_standing_50 : decode cX5_standing 50 = .ok (.lreturn, 1) := by decide +kernel
theorem d_cX5_stepOver_0 : decode cX5_stepOver 0 = .ok (.aload_n 1, 1) := by decide +kernel
theorem d_cX5_stepOver_1 : decode cX5_stepOver 1 = .ok (.iload_n 2, 1) := by decide +kernel
theorem d_cX5_stepOver_2 : decode cX5_stepOver 2 = .ok (.aload_n 0, 1) := by decide +kernel
theorem d_cX5_stepOver_3 : decode cX5_stepOver 3 = .ok (.getfield 40, 3) := by decide +kernel
theorem d_cX5_stepOver_6 : decode cX5_stepOver 6 = .ok (.invokevirtual 76, 3) := by decide +kernel
theorem d_cX5_stepOver_9 : decode cX5_stepOver 9 = .ok (.istore_n 3, 1) := by decide +kernel
theorem d_cX5_stepOver_10 : decode cX5_stepOver 10 = .ok (.aload_n 0, 1) := by decide +kernel
theorem d_cX5_stepOver_11 : decode cX5_stepOver 11 = .ok (.iload_n 3, 1) := by decide +kernel
theorem d_cX5_stepOver_12 : decode cX5_stepOver 12 = .ok (.invokevirtual 79, 3) := by decide +kernel
theorem d_cX5_stepOver_15 : decode cX5_stepOver 15 = .ok (.ifCond .eq 22, 3) := by decide +kernel
theorem d_cX5_stepOver_18 : decode cX5_stepOver 18 = .ok (.aload_n 0, 1) := by decide +kernel
theorem d_cX5_stepOver_19 : decode cX5_stepOver 19 = .ok (.getfield 21, 3) := by decide +kernel
theorem d_cX5_stepOver_22 : decode cX5_stepOver 22 = .ok (.iload_n 3, 1) := by decide +kernel
theorem d_cX5_stepOver_23 : decode cX5_stepOver 23 = .ok (.bipush 6, 2) := by decide +kernel
theorem d_cX5_stepOver_25 : decode cX5_stepOver 25 = .ok (.ishr, 1) := by decide +kernel
theorem d_cX5_stepOver_26 : decode cX5_stepOver 26 = .ok (.dup2, 1) := by decide +kernel
theorem d_cX5_stepOver_27 : decode cX5_stepOver 27 = .ok (.laload, 1) := by decide +kernel
theorem d_cX5_stepOver_28 : decode cX5_stepOver 28 = .ok (.lconst 1, 1) := by decide +kernel
theorem d_cX5_stepOver_29 : decode cX5_stepOver 29 = .ok (.iload_n 3, 1) := by decide +kernel
theorem d_cX5_stepOver_30 : decode cX5_stepOver 30 = .ok (.lshl, 1) := by decide +kernel
theorem d_cX5_stepOver_31 : decode cX5_stepOver 31 = .ok (.ldc2_w 83, 3) := by decide +kernel
theorem d_cX5_stepOver_34 : decode cX5_stepOver 34 = .ok (.lxor, 1) := by decide +kernel
theorem d_cX5_stepOver_35 : decode cX5_stepOver 35 = .ok (.land, 1) := by decide +kernel
theorem d_cX5_stepOver_36 : decode cX5_stepOver 36 = .ok (.lastore, 1) := by decide +kernel
theorem d_cX5_stepOver_37 : decode cX5_stepOver 37 = .ok (.aload_n 0, 1) := by decide +kernel
theorem d_cX5_stepOver_38 : decode cX5_stepOver 38 = .ok (.aload_n 1, 1) := by decide +kernel
theorem d_cX5_stepOver_39 : decode cX5_stepOver 39 = .ok (.iload_n 2, 1) := by decide +kernel
theorem d_cX5_stepOver_40 : decode cX5_stepOver 40 = .ok (.aload_n 0, 1) := by decide +kernel
theorem d_cX5_stepOver_41 : decode cX5_stepOver 41 = .ok (.getfield 40, 3) := by decide +kernel
theorem d_cX5_stepOver_44 : decode cX5_stepOver 44 = .ok (.invokevirtual 65, 3) := by decide +kernel
theorem d_cX5_stepOver_47 : decode cX5_stepOver 47 = .ok (.invokevirtual 94, 3) := by decide +kernel
theorem d_cX5_stepOver_50 : decode cX5_stepOver 50 = .ok (.aload_n 0, 1) := by decide +kernel
theorem d_cX5_stepOver_51 : decode cX5_stepOver 51 = .ok (.aload_n 1, 1) := by decide +kernel
theorem d_cX5_stepOver_52 : decode cX5_stepOver 52 = .ok (.iload_n 2, 1) := by decide +kernel
theorem d_cX5_stepOver_53 : decode cX5_stepOver 53 = .ok (.aload_n 0, 1) := by decide +kernel
theorem d_cX5_stepOver_54 : decode cX5_stepOver 54 = .ok (.getfield 40, 3) := by decide +kernel
theorem d_cX5_stepOver_57 : decode cX5_stepOver 57 = .ok (.invokevirtual 73, 3) := by decide +kernel
theorem d_cX5_stepOver_60 : decode cX5_stepOver 60 = .ok (.invokevirtual 94, 3) := by decide +kernel
theorem d_cX5_stepOver_63 : decode cX5_stepOver 63 = .ok (.return_, 1) := by decide +kernel
theorem d_cX5_sweep_0 : decode cX5_sweep 0 = .ok (.iconst 0, 1) := by decide +kernel
theorem d_cX5_sweep_1 : decode cX5_sweep 1 = .ok (.istore_n 2, 1) := by decide +kernel
theorem d_cX5_sweep_2 : decode cX5_sweep 2 = .ok (.aload_n 1, 1) := by decide +kernel
theorem d_cX5_sweep_3 : decode cX5_sweep 3 = .ok (.getfield 44, 3) := by decide +kernel
theorem d_cX5_sweep_6 : decode cX5_sweep 6 = .ok (.iconst 1, 1) := by decide +kernel
theorem d_cX5_sweep_7 : decode cX5_sweep 7 = .ok (.isub, 1) := by decide +kernel
theorem d_cX5_sweep_8 : decode cX5_sweep 8 = .ok (.istore_n 3, 1) := by decide +kernel
theorem d_cX5_sweep_9 : decode cX5_sweep 9 = .ok (.iload_n 3, 1) := by decide +kernel
theorem d_cX5_sweep_10 : decode cX5_sweep 10 = .ok (.ifCond .lt 105, 3) := by decide +kernel
theorem d_cX5_sweep_13 : decode cX5_sweep 13 = .ok (.aload_n 0, 1) := by decide +kernel
theorem d_cX5_sweep_14 : decode cX5_sweep 14 = .ok (.aload_n 1, 1) := by decide +kernel
theorem d_cX5_sweep_15 : decode cX5_sweep 15 = .ok (.iload_n 3, 1) := by decide +kernel
theorem d_cX5_sweep_16 : decode cX5_sweep 16 = .ok (.invokevirtual 85, 3) := by decide +kernel
theorem d_cX5_sweep_19 : decode cX5_sweep 19 = .ok (.iconst 0, 1) := by decide +kernel
theorem d_cX5_sweep_20 : decode cX5_sweep 20 = .ok (.istore 4, 2) := by decide +kernel
theorem d_cX5_sweep_22 : decode cX5_sweep 22 = .ok (.iload 4, 2) := by decide +kernel
theorem d_cX5_sweep_24 : decode cX5_sweep 24 = .ok (.aload_n 0, 1) := by decide +kernel
theorem d_cX5_sweep_25 : decode cX5_sweep 25 = .ok (.getfield 37, 3) := by decide +kernel
theorem d_cX5_sweep_28 : decode cX5_sweep 28 = .ok (.if_icmp .ge 81, 3) := by decide +kernel
theorem d_cX5_sweep_31 : decode cX5_sweep 31 = .ok (.iload_n 3, 1) := by decide +kernel
theorem d_cX5_sweep_32 : decode cX5_sweep 32 = .ok (.aload_n 0, 1) := by decide +kernel
theorem d_cX5_sweep_33 : decode cX5_sweep 33 = .ok (.getfield 37, 3) := by decide +kernel
theorem d_cX5_sweep_36 : decode cX5_sweep 36 = .ok (.imul, 1) := by decide +kernel
theorem d_cX5_sweep_37 : decode cX5_sweep 37 = .ok (.iload 4, 2) := by decide +kernel
theorem d_cX5_sweep_39 : decode cX5_sweep 39 = .ok (.iadd, 1) := by decide +kernel
theorem d_cX5_sweep_40 : decode cX5_sweep 40 = .ok (.istore 5, 2) := by decide +kernel
theorem d_cX5_sweep_42 : decode cX5_sweep 42 = .ok (.aload_n 0, 1) := by decide +kernel
theorem d_cX5_sweep_43 : decode cX5_sweep 43 = .ok (.getfield 15, 3) := by decide +kernel
theorem d_cX5_sweep_46 : decode cX5_sweep 46 = .ok (.iload 5, 2) := by decide +kernel
theorem d_cX5_sweep_48 : decode cX5_sweep 48 = .ok (.laload, 1) := by decide +kernel
theorem d_cX5_sweep_49 : decode cX5_sweep 49 = .ok (.aload_n 0, 1) := by decide +kernel
theorem d_cX5_sweep_50 : decode cX5_sweep 50 = .ok (.getfield 21, 3) := by decide +kernel
theorem d_cX5_sweep_53 : decode cX5_sweep 53 = .ok (.iload 4, 2) := by decide +kernel
theorem d_cX5_sweep_55 : decode cX5_sweep 55 = .ok (.laload, 1) := by decide +kernel
theorem d_cX5_sweep_56 : decode cX5_sweep 56 = .ok (.aload_n 0, 1) := by decide +kernel
theorem d_cX5_sweep_57 : decode cX5_sweep 57 = .ok (.getfield 18, 3) := by decide +kernel
theorem d_cX5_sweep_60 : decode cX5_sweep 60 = .ok (.iload 5, 2) := by decide +kernel
theorem d_cX5_sweep_62 : decode cX5_sweep 62 = .ok (.laload, 1) := by decide +kernel
theorem d_cX5_sweep_63 : decode cX5_sweep 63 = .ok (.ldc2_w 83, 3) := by decide +kernel
theorem d_cX5_sweep_66 : decode cX5_sweep 66 = .ok (.lxor, 1) := by decide +kernel
theorem d_cX5_sweep_67 : decode cX5_sweep 67 = .ok (.land, 1) := by decide +kernel
theorem d_cX5_sweep_68 : decode cX5_sweep 68 = .ok (.lor, 1) := by decide +kernel
theorem d_cX5_sweep_69 : decode cX5_sweep 69 = .ok (.lstore 6, 2) := by decide +kernel
theorem d_cX5_sweep_71 : decode cX5_sweep 71 = .ok (.iload_n 2, 1) := by decide +kernel
theorem d_cX5_sweep_72 : decode cX5_sweep 72 = .ok (.ifCond .ne 16, 3) := by decide +kernel
theorem d_cX5_sweep_75 : decode cX5_sweep 75 = .ok (.lload 6, 2) := by decide +kernel
theorem d_cX5_sweep_77 : decode cX5_sweep 77 = .ok (.aload_n 0, 1) := by decide +kernel
theorem d_cX5_sweep_78 : decode cX5_sweep 78 = .ok (.getfield 9, 3) := by decide +kernel
theorem d_cX5_sweep_81 : decode cX5_sweep 81 = .ok (.iload 5, 2) := by decide +kernel
theorem d_cX5_sweep_83 : decode cX5_sweep 83 = .ok (.laload, 1) := by decide +kernel
theorem d_cX5_sweep_84 : decode cX5_sweep 84 = .ok (.lcmp, 1) := by decide +kernel
theorem d_cX5_sweep_85 : decode cX5_sweep 85 = .ok (.ifCond .eq 7, 3) := by decide +kernel
theorem d_cX5_sweep_88 : decode cX5_sweep 88 = .ok (.iconst 1, 1) := by decide +kernel
theorem d_cX5_sweep_89 : decode cX5_sweep 89 = .ok (.goto 4, 3) := by decide +kernel
theorem d_cX5_sweep_92 : decode cX5_sweep 92 = .ok (.iconst 0, 1) := by decide +kernel
theorem d_cX5_sweep_93 : decode cX5_sweep 93 = .ok (.istore_n 2, 1) := by decide +kernel
theorem d_cX5_sweep_94 : decode cX5_sweep 94 = .ok (.aload_n 0, 1) := by decide +kernel
theorem d_cX5_sweep_95 : decode cX5_sweep 95 = .ok (.getfield 9, 3) := by decide +kernel
theorem d_cX5_sweep_98 : decode cX5_sweep 98 = .ok (.iload 5, 2) := by decide +kernel
theorem d_cX5_sweep_100 : decode cX5_sweep 100 = .ok (.lload 6, 2) := by decide +kernel
theorem d_cX5_sweep_102 : decode cX5_sweep 102 = .ok (.lastore, 1) := by decide +kernel
theorem d_cX5_sweep_103 : decode cX5_sweep 103 = .ok (.iinc 4 1, 3) := by decide +kernel
theorem d_cX5_sweep_106 : decode cX5_sweep 106 = .ok (.goto (-84), 3) := by decide +kernel
theorem d_cX5_sweep_109 : decode cX5_sweep 109 = .ok (.iinc 3 (-1), 3) := by decide +kernel
theorem d_cX5_sweep_112 : decode cX5_sweep 112 = .ok (.goto (-103), 3) := by decide +kernel
theorem d_cX5_sweep_115 : decode cX5_sweep 115 = .ok (.iload_n 2, 1) := by decide +kernel
theorem d_cX5_sweep_116 : decode cX5_sweep 116 = .ok (.ireturn, 1) := by decide +kernel
