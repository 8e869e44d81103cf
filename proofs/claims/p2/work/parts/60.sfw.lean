theorem w_2_27 : (Jvm.Cond.fieldLink "SpillForge$Live" (33 : Nat) "SpillForge$Live" "names" "I") ∈ gw := gw_2 27 rfl rfl
theorem w_2_23 : (Jvm.Cond.fieldLink "SpillForge$Live" (15 : Nat) "SpillForge$Live" "used" "[J") ∈ gw := gw_2 23 rfl rfl
theorem w_2_24 : (Jvm.Cond.fieldLink "SpillForge$Live" (18 : Nat) "SpillForge$Live" "set" "[J") ∈ gw := gw_2 24 rfl rfl
theorem w_4_47 : (Jvm.Cond.constantLong "SpillForge$Live" (83 : Nat) (-1 : Int64)) ∈ gw := gw_4 47 rfl rfl
theorem w_2_29 : (Jvm.Cond.fieldLink "SpillForge$Live" (37 : Nat) "SpillForge$Live" "words" "I") ∈ gw := gw_2 29 rfl rfl
theorem w_1_187 : (Jvm.Cond.fieldLink "SpillForge$Code" (45 : Nat) "SpillForge$Code" "blocks" "I") ∈ gw := gw_1 187 rfl rfl
theorem w_1_197 : (Jvm.Cond.fieldLink "SpillForge$Code" (49 : Nat) "SpillForge$Code" "lines" "I") ∈ gw := gw_1 197 rfl rfl
theorem w_1_142 : (Jvm.Cond.fieldLink "SpillForge$Code" (9 : Nat) "SpillForge$Code" "first" "[I") ∈ gw := gw_1 142 rfl rfl
theorem w_4_35 : (Jvm.Cond.methodLink "SpillForge$Live" (61 : Nat) ({ cls := "SpillForge$Code", name := "blockEnd", desc := "(I)I" } : Jvm.MethodName)) ∈ gw := gw_4 35 rfl rfl
theorem w_1_5 : (Jvm.Cond.initialized "SpillForge$Code") ∈ gw := gw_1 5 rfl rfl
theorem w_4_38 : (Jvm.Cond.code ({ cls := "SpillForge$Code", name := "blockEnd", desc := "(I)I" } : Jvm.MethodName) prog_2_method_4_code (2 : Nat) (Option.some Jvm.ClassFile.FieldType.int)) ∈ gw := gw_4 38 rfl rfl
theorem w_4_36 : (Jvm.Cond.instanceMethod ({ cls := "SpillForge$Code", name := "blockEnd", desc := "(I)I" } : Jvm.MethodName)) ∈ gw := gw_4 36 rfl rfl
theorem w_4_37 : (Jvm.Cond.selects "SpillForge$Code" ({ cls := "SpillForge$Code", name := "blockEnd", desc := "(I)I" } : Jvm.MethodName) ({ cls := "SpillForge$Code", name := "blockEnd", desc := "(I)I" } : Jvm.MethodName)) ∈ gw := gw_4 37 rfl rfl
theorem w_2_31 : (Jvm.Cond.fieldLink "SpillForge$Live" (40 : Nat) "SpillForge$Live" "ofSlots" "Z") ∈ gw := gw_2 31 rfl rfl
theorem w_1_168 : (Jvm.Cond.fieldLink "SpillForge$Code" (33 : Nat) "SpillForge$Code" "left" "[I") ∈ gw := gw_1 168 rfl rfl
theorem w_1_159 : (Jvm.Cond.fieldLink "SpillForge$Code" (27 : Nat) "SpillForge$Code" "op" "[I") ∈ gw := gw_1 159 rfl rfl
theorem w_1_183 : (Jvm.Cond.fieldLink "SpillForge$Code" (42 : Nat) "SpillForge$Code" "rightNumber" "[I") ∈ gw := gw_1 183 rfl rfl
theorem w_4_39 : (Jvm.Cond.methodLink "SpillForge$Live" (65 : Nat) ({ cls := "SpillForge$Code", name := "firstUse", desc := "(IZ)I" } : Jvm.MethodName)) ∈ gw := gw_4 39 rfl rfl
theorem w_4_42 : (Jvm.Cond.code ({ cls := "SpillForge$Code", name := "firstUse", desc := "(IZ)I" } : Jvm.MethodName) prog_2_method_19_code (3 : Nat) (Option.some Jvm.ClassFile.FieldType.int)) ∈ gw := gw_4 42 rfl rfl
theorem w_4_40 : (Jvm.Cond.instanceMethod ({ cls := "SpillForge$Code", name := "firstUse", desc := "(IZ)I" } : Jvm.MethodName)) ∈ gw := gw_4 40 rfl rfl
theorem w_4_41 : (Jvm.Cond.selects "SpillForge$Code" ({ cls := "SpillForge$Code", name := "firstUse", desc := "(IZ)I" } : Jvm.MethodName) ({ cls := "SpillForge$Code", name := "firstUse", desc := "(IZ)I" } : Jvm.MethodName)) ∈ gw := gw_4 41 rfl rfl
theorem w_4_43 : (Jvm.Cond.methodLink "SpillForge$Live" (69 : Nat) ({ cls := "SpillForge$Live", name := "gatherUse", desc := "(II)V" } : Jvm.MethodName)) ∈ gw := gw_4 43 rfl rfl
theorem w_1_10 : (Jvm.Cond.initialized "SpillForge$Live") ∈ gw := gw_1 10 rfl rfl
theorem w_4_46 : (Jvm.Cond.code ({ cls := "SpillForge$Live", name := "gatherUse", desc := "(II)V" } : Jvm.MethodName) prog_7_method_5_code (4 : Nat) (Option.none : Option Jvm.ClassFile.FieldType)) ∈ gw := gw_4 46 rfl rfl
theorem w_4_45 : (Jvm.Cond.instanceMethod ({ cls := "SpillForge$Live", name := "gatherUse", desc := "(II)V" } : Jvm.MethodName)) ∈ gw := gw_4 45 rfl rfl
theorem w_p_31 : Cond.selects "SpillForge$Live" ⟨"SpillForge$Live", "gatherUse", "(II)V"⟩ ⟨"SpillForge$Live", "gatherUse", "(II)V"⟩ ∈ gw := gw_p _ 31 rfl rfl rfl
theorem w_1_178 : (Jvm.Cond.fieldLink "SpillForge$Code" (39 : Nat) "SpillForge$Code" "right" "[I") ∈ gw := gw_1 178 rfl rfl
theorem w_4_48 : (Jvm.Cond.methodLink "SpillForge$Live" (73 : Nat) ({ cls := "SpillForge$Code", name := "secondUse", desc := "(IZ)I" } : Jvm.MethodName)) ∈ gw := gw_4 48 rfl rfl
theorem w_4_51 : (Jvm.Cond.code ({ cls := "SpillForge$Code", name := "secondUse", desc := "(IZ)I" } : Jvm.MethodName) prog_2_method_20_code (3 : Nat) (Option.some Jvm.ClassFile.FieldType.int)) ∈ gw := gw_4 51 rfl rfl
theorem w_4_49 : (Jvm.Cond.instanceMethod ({ cls := "SpillForge$Code", name := "secondUse", desc := "(IZ)I" } : Jvm.MethodName)) ∈ gw := gw_4 49 rfl rfl
theorem w_4_50 : (Jvm.Cond.selects "SpillForge$Code" ({ cls := "SpillForge$Code", name := "secondUse", desc := "(IZ)I" } : Jvm.MethodName) ({ cls := "SpillForge$Code", name := "secondUse", desc := "(IZ)I" } : Jvm.MethodName)) ∈ gw := gw_4 50 rfl rfl
theorem w_1_163 : (Jvm.Cond.fieldLink "SpillForge$Code" (30 : Nat) "SpillForge$Code" "set" "[I") ∈ gw := gw_1 163 rfl rfl
theorem w_4_52 : (Jvm.Cond.methodLink "SpillForge$Live" (76 : Nat) ({ cls := "SpillForge$Code", name := "setBy", desc := "(IZ)I" } : Jvm.MethodName)) ∈ gw := gw_4 52 rfl rfl
theorem w_4_55 : (Jvm.Cond.code ({ cls := "SpillForge$Code", name := "setBy", desc := "(IZ)I" } : Jvm.MethodName) prog_2_method_18_code (3 : Nat) (Option.some Jvm.ClassFile.FieldType.int)) ∈ gw := gw_4 55 rfl rfl
theorem w_4_53 : (Jvm.Cond.instanceMethod ({ cls := "SpillForge$Code", name := "setBy", desc := "(IZ)I" } : Jvm.MethodName)) ∈ gw := gw_4 53 rfl rfl
theorem w_4_54 : (Jvm.Cond.selects "SpillForge$Code" ({ cls := "SpillForge$Code", name := "setBy", desc := "(IZ)I" } : Jvm.MethodName) ({ cls := "SpillForge$Code", name := "setBy", desc := "(IZ)I" } : Jvm.MethodName)) ∈ gw := gw_4 54 rfl rfl
theorem w_4_56 : (Jvm.Cond.methodLink "SpillForge$Live" (79 : Nat) ({ cls := "SpillForge$Live", name := "isName", desc := "(I)Z" } : Jvm.MethodName)) ∈ gw := gw_4 56 rfl rfl
theorem w_4_59 : (Jvm.Cond.code ({ cls := "SpillForge$Live", name := "isName", desc := "(I)Z" } : Jvm.MethodName) prog_7_method_3_code (2 : Nat) (Option.some Jvm.ClassFile.FieldType.boolean)) ∈ gw := gw_4 59 rfl rfl
theorem w_4_57 : (Jvm.Cond.instanceMethod ({ cls := "SpillForge$Live", name := "isName", desc := "(I)Z" } : Jvm.MethodName)) ∈ gw := gw_4 57 rfl rfl
theorem w_4_58 : (Jvm.Cond.selects "SpillForge$Live" ({ cls := "SpillForge$Live", name := "isName", desc := "(I)Z" } : Jvm.MethodName) ({ cls := "SpillForge$Live", name := "isName", desc := "(I)Z" } : Jvm.MethodName)) ∈ gw := gw_4 58 rfl rfl
theorem w_2_25 : (Jvm.Cond.fieldLink "SpillForge$Live" (21 : Nat) "SpillForge$Live" "now" "[J") ∈ gw := gw_2 25 rfl rfl
theorem w_2_22 : (Jvm.Cond.fieldLink "SpillForge$Live" (9 : Nat) "SpillForge$Live" "in" "[J") ∈ gw := gw_2 22 rfl rfl
theorem w_4_64 : (Jvm.Cond.methodLink "SpillForge$Live" (85 : Nat) ({ cls := "SpillForge$Live", name := "enterBehind", desc := "(LSpillForge$Code;I)V" } : Jvm.MethodName)) ∈ gw := gw_4 64 rfl rfl
theorem w_4_67 : (Jvm.Cond.code ({ cls := "SpillForge$Live", name := "enterBehind", desc := "(LSpillForge$Code;I)V" } : Jvm.MethodName) prog_7_method_7_code (8 : Nat) (Option.none : Option Jvm.ClassFile.FieldType)) ∈ gw := gw_4 67 rfl rfl
theorem w_4_65 : (Jvm.Cond.instanceMethod ({ cls := "SpillForge$Live", name := "enterBehind", desc := "(LSpillForge$Code;I)V" } : Jvm.MethodName)) ∈ gw := gw_4 65 rfl rfl
theorem w_4_66 : (Jvm.Cond.selects "SpillForge$Live" ({ cls := "SpillForge$Live", name := "enterBehind", desc := "(LSpillForge$Code;I)V" } : Jvm.MethodName) ({ cls := "SpillForge$Live", name := "enterBehind", desc := "(LSpillForge$Code;I)V" } : Jvm.MethodName)) ∈ gw := gw_4 66 rfl rfl
theorem w_4_29 : (Jvm.Cond.methodLink "SpillForge$Live" (24 : Nat) ({ cls := "java/lang/Math", name := "min", desc := "(II)I" } : Jvm.MethodName)) ∈ gw := gw_4 29 rfl rfl
theorem w_3_227 : (Jvm.Cond.static ({ cls := "java/lang/Math", name := "min", desc := "(II)I" } : Jvm.MethodName)) ∈ gw := gw_3 227 rfl rfl
theorem w_1_6 : (Jvm.Cond.initialized "java/lang/Math") ∈ gw := gw_1 6 rfl rfl
theorem w_3_228 : (Jvm.Cond.code ({ cls := "java/lang/Math", name := "min", desc := "(II)I" } : Jvm.MethodName) prog_32_method_69_code (2 : Nat) (Option.some Jvm.ClassFile.FieldType.int)) ∈ gw := gw_3 228 rfl rfl
theorem w_4_30 : (Jvm.Cond.methodLink "SpillForge$Live" (30 : Nat) ({ cls := "java/lang/Math", name := "max", desc := "(II)I" } : Jvm.MethodName)) ∈ gw := gw_4 30 rfl rfl
theorem w_1_140 : (Jvm.Cond.static ({ cls := "java/lang/Math", name := "max", desc := "(II)I" } : Jvm.MethodName)) ∈ gw := gw_1 140 rfl rfl
theorem w_1_141 : (Jvm.Cond.code ({ cls := "java/lang/Math", name := "max", desc := "(II)I" } : Jvm.MethodName) prog_32_method_65_code (2 : Nat) (Option.some Jvm.ClassFile.FieldType.int)) ∈ gw := gw_1 141 rfl rfl
theorem w_4_60 : (Jvm.Cond.methodLink "SpillForge$Live" (53 : Nat) ({ cls := "SpillForge$Live", name := "sweep", desc := "(LSpillForge$Code;)Z" } : Jvm.MethodName)) ∈ gw := gw_4 60 rfl rfl
theorem w_4_63 : (Jvm.Cond.code ({ cls := "SpillForge$Live", name := "sweep", desc := "(LSpillForge$Code;)Z" } : Jvm.MethodName) prog_7_method_6_code (8 : Nat) (Option.some Jvm.ClassFile.FieldType.boolean)) ∈ gw := gw_4 63 rfl rfl
theorem w_4_62 : (Jvm.Cond.instanceMethod ({ cls := "SpillForge$Live", name := "sweep", desc := "(LSpillForge$Code;)Z" } : Jvm.MethodName)) ∈ gw := gw_4 62 rfl rfl
theorem w_p_32 : Cond.selects "SpillForge$Live" ⟨"SpillForge$Live", "sweep", "(LSpillForge$Code;)Z"⟩ ⟨"SpillForge$Live", "sweep", "(LSpillForge$Code;)Z"⟩ ∈ gw := gw_p _ 32 rfl rfl rfl
theorem w_4_31 : (Jvm.Cond.methodLink "SpillForge$Live" (49 : Nat) ({ cls := "SpillForge$Live", name := "gather", desc := "(LSpillForge$Code;I)V" } : Jvm.MethodName)) ∈ gw := gw_4 31 rfl rfl
theorem w_4_34 : (Jvm.Cond.code ({ cls := "SpillForge$Live", name := "gather", desc := "(LSpillForge$Code;I)V" } : Jvm.MethodName) prog_7_method_4_code (6 : Nat) (Option.none : Option Jvm.ClassFile.FieldType)) ∈ gw := gw_4 34 rfl rfl
theorem w_4_33 : (Jvm.Cond.instanceMethod ({ cls := "SpillForge$Live", name := "gather", desc := "(LSpillForge$Code;I)V" } : Jvm.MethodName)) ∈ gw := gw_4 33 rfl rfl
theorem w_p_30 : Cond.selects "SpillForge$Live" ⟨"SpillForge$Live", "gather", "(LSpillForge$Code;I)V"⟩ ⟨"SpillForge$Live", "gather", "(LSpillForge$Code;I)V"⟩ ∈ gw := gw_p _ 30 rfl rfl rfl
theorem w_4_133 : (Jvm.Cond.methodLink "SpillForge$Live" (94 : Nat) ({ cls := "SpillForge$Live", name := "revive", desc := "(I)V" } : Jvm.MethodName)) ∈ gw := gw_4 133 rfl rfl
theorem w_4_136 : (Jvm.Cond.code ({ cls := "SpillForge$Live", name := "revive", desc := "(I)V" } : Jvm.MethodName) prog_7_method_9_code (2 : Nat) (Option.none : Option Jvm.ClassFile.FieldType)) ∈ gw := gw_4 136 rfl rfl
theorem w_4_135 : (Jvm.Cond.instanceMethod ({ cls := "SpillForge$Live", name := "revive", desc := "(I)V" } : Jvm.MethodName)) ∈ gw := gw_4 135 rfl rfl
theorem w_p_36 : Cond.selects "SpillForge$Live" ⟨"SpillForge$Live", "revive", "(I)V"⟩ ⟨"SpillForge$Live", "revive", "(I)V"⟩ ∈ gw := gw_p _ 36 rfl rfl rfl
theorem d_cX0_blockEnd_0 : decode cX0_blockEnd 0 = .ok (.iload_n 1, 1) := by decide +kernel
theorem d_cX0_blockEnd_1 : decode cX0_blockEnd 1 = .ok (.iconst 1, 1) := by decide +kernel
theorem d_cX0_blockEnd_2 : decode cX0_blockEnd 2 = .ok (.iadd, 1) := by decide +kernel
theorem d_cX0_blockEnd_3 : decode cX0_blockEnd 3 = .ok (.aload_n 0, 1) := by decide +kernel
theorem d_cX0_blockEnd_4 : decode cX0_blockEnd 4 = .ok (.getfield 45, 3) := by decide +kernel
theorem d_cX0_blockEnd_7 : decode cX0_blockEnd 7 = .ok (.if_icmp .ge 14, 3) := by decide +kernel
theorem d_cX0_blockEnd_10 : decode cX0_blockEnd 10 = .ok (.aload_n 0, 1) := by decide +kernel
theorem d_cX0_blockEnd_11 : decode cX0_blockEnd 11 = .ok (.getfield 9, 3) := by decide +kernel
theorem d_cX0_blockEnd_14 : decode cX0_blockEnd 14 = .ok (.iload_n 1, 1) := by decide +kernel
theorem d_cX0_blockEnd_15 : decode cX0_blockEnd 15 = .ok (.iconst 1, 1) := by decide +kernel
theorem d_cX0_blockEnd_16 : decode cX0_blockEnd 16 = .ok (.iadd, 1) := by decide +kernel
theorem d_cX0_blockEnd_17 : decode cX0_blockEnd 17 = .ok (.iaload, 1) := by decide +kernel
theorem d_cX0_blockEnd_18 : decode cX0_blockEnd 18 = .ok (.goto 7, 3) := by decide +kernel
theorem d_cX0_blockEnd_21 : decode cX0_blockEnd 21 = .ok (.aload_n 0, 1) := by decide +kernel
theorem d_cX0_blockEnd_22 : decode cX0_blockEnd 22 = .ok (.getfield 49, 3) := by decide +kernel
theorem d_cX0_blockEnd_25 : decode cX0_blockEnd 25 = .ok (.ireturn, 1) := by decide +kernel
theorem d_cX0_firstUse_0 : decode cX0_firstUse 0 = .ok (.iload_n 2, 1) := by decide +kernel
theorem d_cX0_firstUse_1 : decode cX0_firstUse 1 = .ok (.ifCond .eq 25, 3) := by decide +kernel
theorem d_cX0_firstUse_4 : decode cX0_firstUse 4 = .ok (.aload_n 0, 1) := by decide +kernel
theorem d_cX0_firstUse_5 : decode cX0_firstUse 5 = .ok (.getfield 27, 3) := by decide +kernel
theorem d_cX0_firstUse_8 : decode cX0_firstUse 8 = .ok (.iload_n 1, 1) := by decide +kernel
theorem d_cX0_firstUse_9 : decode cX0_firstUse 9 = .ok (.iaload, 1) := by decide +kernel
theorem d_cX0_firstUse_10 : decode cX0_firstUse 10 = .ok (.bipush 17, 2) := by decide +kernel
theorem d_cX0_firstUse_12 : decode cX0_firstUse 12 = .ok (.if_icmp .ne 12, 3) := by decide +kernel
theorem d_cX0_firstUse_15 : decode cX0_firstUse 15 = .ok (.aload_n 0, 1) := by decide +kernel
theorem d_cX0_firstUse_16 : decode cX0_firstUse 16 = .ok (.getfield 42, 3) := by decide +kernel
theorem d_cX0_firstUse_19 : decode cX0_firstUse 19 = .ok (.iload_n 1, 1) := by decide +kernel
theorem d_cX0_firstUse_20 : decode cX0_firstUse 20 = .ok (.iaload, 1) := by decide +kernel
theorem d_cX0_firstUse_21 : decode cX0_firstUse 21 = .ok (.goto 4, 3) := by decide +kernel
theorem d_cX0_firstUse_24 : decode cX0_firstUse 24 = .ok (.iconst (-1), 1) := by decide +kernel
theorem d_cX0_firstUse_25 : decode cX0_firstUse 25 = .ok (.ireturn, 1) := by decide +kernel
theorem d_cX0_firstUse_26 : decode cX0_firstUse 26 = .ok (.aload_n 0, 1) := by decide +kernel
theorem d_cX0_firstUse_27 : decode cX0_firstUse 27 = .ok (.getfield 33, 3) := by decide +kernel
theorem d_cX0_firstUse_30 : decode cX0_firstUse 30 = .ok (.iload_n 1, 1) := by decide +kernel
theorem d_cX0_firstUse_31 : decode cX0_firstUse 31 = .ok (.iaload, 1) := by decide +kernel
theorem d_cX0_firstUse_32 : decode cX0_firstUse 32 = .ok (.ireturn, 1) := by decide +kernel
theorem d_cX0_secondUse_0 : decode cX0_secondUse 0 = .ok (.iload_n 2, 1) := by decide +kernel
theorem d_cX0_secondUse_1 : decode cX0_secondUse 1 = .ok (.ifCond .eq 7, 3) := by decide +kernel
theorem d_cX0_secondUse_4 : decode cX0_secondUse 4 = .ok (.iconst (-1), 1) := by decide +kernel
theorem d_cX0_secondUse_5 : decode cX0_secondUse 5 = .ok (.goto 9, 3) := by decide +kernel
theorem d_cX0_secondUse_8 : decode cX0_secondUse 8 = .ok (.aload_n 0, 1) := by decide +kernel
theorem d_cX0_secondUse_9 : decode cX0_secondUse 9 = .ok (.getfield 39, 3) := by decide +kernel
theorem d_cX0_secondUse_12 : decode cX0_secondUse 12 = .ok (.iload_n 1, 1) := by decide +kernel
theorem d_cX0_secondUse_13 : decode cX0_secondUse 13 = .ok (.iaload, 1) := by decide +kernel
theorem d_cX0_secondUse_14 : decode cX0_secondUse 14 = .ok (.ireturn, 1) := by decide +kernel
theorem d_cX0_setBy_0 : decode cX0_setBy 0 = .ok (.iload_n 2, 1) := by decide +kernel
theorem d_cX0_setBy_1 : decode cX0_setBy 1 = .ok (.ifCond .eq 25, 3) := by decide +kernel
theorem d_cX0_setBy_4 : decode cX0_setBy 4 = .ok (.aload_n 0, 1) := by decide +kernel
theorem d_cX0_setBy_5 : decode cX0_setBy 5 = .ok (.getfield 27, 3) := by decide +kernel
theorem d_cX0_setBy_8 : decode cX0_setBy 8 = .ok (.iload_n 1, 1) := by decide +kernel
theorem d_cX0_setBy_9 : decode cX0_setBy 9 = .ok (.iaload, 1) := by decide +kernel
theorem d_cX0_setBy_10 : decode cX0_setBy 10 = .ok (.bipush 18, 2) := by decide +kernel
theorem d_cX0_setBy_12 : decode cX0_setBy 12 = .ok (.if_icmp .ne 12, 3) := by decide +kernel
theorem d_cX0_setBy_15 : decode cX0_setBy 15 = .ok (.aload_n 0, 1) := by decide +kernel
theorem d_cX0_setBy_16 : decode cX0_setBy 16 = .ok (.getfield 42, 3) := by decide +kernel
theorem d_cX0_setBy_19 : decode cX0_setBy 19 = .ok (.iload_n 1, 1) := by decide +kernel
theorem d_cX0_setBy_20 : decode cX0_setBy 20 = .ok (.iaload, 1) := by decide +kernel
theorem d_cX0_setBy_21 : decode cX0_setBy 21 = .ok (.goto 4, 3) := by decide +kernel
theorem d_cX0_setBy_24 : decode cX0_setBy 24 = .ok (.iconst (-1), 1) := by decide +kernel
theorem d_cX0_setBy_25 : decode cX0_setBy 25 = .ok (.ireturn, 1) := by decide +kernel
theorem d_cX0_setBy_26 : decode cX0_setBy 26 = .ok (.aload_n 0, 1) := by decide +kernel
theorem d_cX0_setBy_27 : decode cX0_setBy 27 = .ok (.getfield 30, 3) := by decide +kernel
theorem d_cX0_setBy_30 : decode cX0_setBy 30 = .ok (.iload_n 1, 1) := by decide +kernel
theorem d_cX0_setBy_31 : decode cX0_setBy 31 = .ok (.iaload, 1) := by decide +kernel
theorem d_cX0_setBy_32 : decode cX0_setBy 32 = .ok (.ireturn, 1) := by decide +kernel
theorem d_cX5_enterBehind_0 : decode cX5_enterBehind 0 = .ok (.aload_n 1, 1) := by decide +kernel
theorem d_cX5_enterBehind_1 : decode cX5_enterBehind 1 = .ok (.getfield 88, 3) := by decide +kernel
theorem d_cX5_enterBehind_4 : decode cX5_enterBehind 4 = .ok (.iload_n 2, 1) := by decide +kernel
theorem d_cX5_enterBehind_5 : decode cX5_enterBehind 5 = .ok (.iaload, 1) := by decide +kernel
theorem d_cX5_enterBehind_6 : decode cX5_enterBehind 6 = .ok (.istore_n 3, 1) := by decide +kernel
theorem d_cX5_enterBehind_7 : decode cX5_enterBehind 7 = .ok (.aload_n 1, 1) := by decide +kernel
theorem d_cX5_enterBehind_8 : decode cX5_enterBehind 8 = .ok (.getfield 91, 3) := by decide +kernel
theorem d_cX5_enterBehind_11 : decode cX5_enterBehind 11 = .ok (.iload_n 2, 1) := by decide +kernel
theorem d_cX5_enterBehind_12 : decode cX5_enterBehind 12 = .ok (.iaload, 1) := by decide +kernel
theorem d_cX5_enterBehind_13 : decode cX5_enterBehind 13 = .ok (.istore 4, 2) := by decide +kernel
theorem d_cX5_enterBehind_15 : decode cX5_enterBehind 15 = .ok (.iconst 0, 1) := by decide +kernel
theorem d_cX5_enterBehind_16 : decode cX5_enterBehind 16 = .ok (.istore 5, 2) := by decide +kernel
theorem d_cX5_enterBehind_18 : decode cX5_enterBehind 18 = .ok (.iload 5, 2) := by decide +kernel
theorem d_cX5_enterBehind_20 : decode cX5_enterBehind 20 = .ok (.aload_n 0, 1) := by decide +kernel
theorem d_cX5_enterBehind_21 : decode cX5_enterBehind 21 = .ok (.getfield 37, 3) := by decide +kernel
theorem d_cX5_enterBehind_24 : decode cX5_enterBehind 24 = .ok (.if_icmp .ge 85, 3) := by decide +kernel
theorem d_cX5_enterBehind_27 : decode cX5_enterBehind 27 = .ok (.iload_n 3, 1) := by decide +kernel
theorem d_cX5_enterBehind_28 : decode cX5_enterBehind 28 = .ok (.ifCond .lt 28, 3) := by decide +kernel
theorem d_cX5_enterBehind_31 : decode cX5_enterBehind 31 = .ok (.iload_n 3, 1) := by decide +kernel
theorem d_cX5_enterBehind_32 : decode cX5_enterBehind 32 = .ok (.aload_n 1, 1) := by decide +kernel
theorem d_cX5_enterBehind_33 : decode cX5_enterBehind 33 = .ok (.getfield 44, 3) := by decide +kernel
theorem d_cX5_enterBehind_36 : decode cX5_enterBehind 36 = .ok (.if_icmp .ge 20, 3) := by decide +kernel
theorem d_cX5_enterBehind_39 : decode cX5_enterBehind 39 = .ok (.aload_n 0, 1) := by decide +kernel
theorem d_cX5_enterBehind_40 : decode cX5_enterBehind 40 = .ok (.getfield 9, 3) := by decide +kernel
theorem d_cX5_enterBehind_43 : decode cX5_enterBehind 43 = .ok (.iload_n 3, 1) := by decide +kernel
theorem d_cX5_enterBehind_44 : decode cX5_enterBehind 44 = .ok (.aload_n 0, 1) := by decide +kernel
theorem d_cX5_enterBehind_45 : decode cX5_enterBehind 45 = .ok (.getfield 37, 3) := by decide +kernel
theorem d_cX5_enterBehind_48 : decode cX5_enterBehind 48 = .ok (.imul, 1) := by decide +kernel
theorem d_cX5_enterBehind_49 : decode cX5_enterBehind 49 = .ok (.iload 5, 2) := by decide +kernel
theorem d_cX5_enterBehind_51 : decode cX5_enterBehind 51 = .ok (.iadd, 1) := by decide +kernel
theorem d_cX5_enterBehind_52 : decode cX5_enterBehind 52 = .ok (.laload, 1) := by decide +kernel
theorem d_cX5_enterBehind_53 : decode cX5_enterBehind 53 = .ok (.goto 4, 3) := by decide +kernel
theorem d_cX5_enterBehind_56 : decode cX5_enterBehind 56 = .ok (.lconst 0, 1) := by decide +kernel
theorem d_cX5_enterBehind_57 : decode cX5_enterBehind 57 = .ok (.lstore 6, 2) := by decide +kernel
theorem d_cX5_enterBehind_59 : decode cX5_enterBehind 59 = .ok (.aload_n 0, 1) := by decide +kernel
theorem d_cX5_enterBehind_60 : decode cX5_enterBehind 60 = .ok (.getfield 21, 3) := by decide +kernel
theorem d_cX5_enterBehind_63 : decode cX5_enterBehind 63 = .ok (.iload 5, 2) := by decide +kernel
theorem d_cX5_enterBehind_65 : decode cX5_enterBehind 65 = .ok (.iload 4, 2) := by decide +kernel
theorem d_cX5_enterBehind_67 : decode cX5_enterBehind 67 = .ok (.ifCond .lt 33, 3) := by decide +kernel
theorem d_cX5_enterBehind_70 : decode cX5_enterBehind 70 = .ok (.iload 4, 2) := by decide +kernel
theorem d_cX5_enterBehind_72 : decode cX5_enterBehind 72 = .ok (.aload_n 1, 1) := by decide +kernel
theorem d_cX5_enterBehind_73 : decode cX5_enterBehind 73 = .ok (.getfield 44, 3) := by decide +kernel
theorem d_cX5_enterBehind_76 : decode cX5_enterBehind 76 = .ok (.if_icmp .ge 24, 3) := by decide +kernel
theorem d_cX5_enterBehind_79 : decode cX5_enterBehind 79 = .ok (.lload 6, 2) := by decide +kernel
theorem d_cX5_enterBehind_81 : decode cX5_enterBehind 81 = .ok (.aload_n 0, 1) := by decide +kernel
theorem d_cX5_enterBehind_82 : decode cX5_enterBehind 82 = .ok (.getfield 9, 3) := by decide +kernel
theorem d_cX5_enterBehind_85 : decode cX5_enterBehind 85 = .ok (.iload 4, 2) := by decide +kernel
theorem d_cX5_enterBehind_87 : decode cX5_enterBehind 87 = .ok (.aload_n 0, 1) := by decide +kernel
theorem d_cX5_enterBehind_88 : decode cX5_enterBehind 88 = .ok (.getfield 37, 3) := by decide +kernel
theorem d_cX5_enterBehind_91 : decode cX5_enterBehind 91 = .ok (.imul, 1) := by decide +kernel
theorem d_cX5_enterBehind_92 : decode cX5_enterBehind 92 = .ok (.iload 5, 2) := by decide +kernel
theorem d_cX5_enterBehind_94 : decode cX5_enterBehind 94 = .ok (.iadd, 1) := by decide +kernel
theorem d_cX5_enterBehind_95 : decode cX5_enterBehind 95 = .ok (.laload, 1) := by decide +kernel
theorem d_cX5_enterBehind_96 : decode cX5_enterBehind 96 = .ok (.lor, 1) := by decide +kernel
theorem d_cX5_enterBehind_97 : decode cX5_enterBehind 97 = .ok (.goto 5, 3) := by decide +kernel
theorem d_cX5_enterBehind_100 : decode cX5_enterBehind 100 = .ok (.lload 6, 2) := by decide +kernel
theorem d_cX5_enterBehind_102 : decode cX5_enterBehind 102 = .ok (.lastore, 1) := by decide +kernel
theorem d_cX5_enterBehind_103 : decode cX5_enterBehind 103 = .ok (.iinc 5 1, 3) := by decide +kernel
theorem d_cX5_enterBehind_106 : decode cX5_enterBehind 106 = .ok (.goto (-88), 3) := by decide +kernel
theorem d_cX5_enterBehind_109 : decode cX5_enterBehind 109 = .ok (.return_, 1) := by decide +kernel
theorem d_cX5_gather_0 : decode cX5_gather 0 = .ok (.iload_n 2, 1) := by decide +kernel
theorem d_cX5_gather_1 : decode cX5_gather 1 = .ok (.aload_n 0, 1) := by decide +kernel
theorem d_cX5_gather_2 : decode cX5_gather 2 = .ok (.getfield 37, 3) := by decide +kernel
theorem d_cX5_gather_5 : decode cX5_gather 5 = .ok (.imul, 1) := by decide +kernel
theorem d_cX5_gather_6 : decode cX5_gather 6 = .ok (.istore_n 3, 1) := by decide +kernel
theorem d_cX5_gather_7 : decode cX5_gather 7 = .ok (.aload_n 1, 1) := by decide +kernel
theorem d_cX5_gather_8 : decode cX5_gather 8 = .ok (.getfield 57, 3) := by decide +kernel
theorem d_cX5_gather_11 : decode cX5_gather 11 = .ok (.iload_n 2, 1) := by decide +kernel
theorem d_cX5_gather_12 : decode cX5_gather 12 = .ok (.iaload, 1) := by decide +kernel
theorem d_cX5_gather_13 : decode cX5_gather 13 = .ok (.istore 4, 2) := by decide +kernel
theorem d_cX5_gather_15 : decode cX5_gather 15 = .ok (.iload 4, 2) := by decide +kernel
theorem d_cX5_gather_17 : decode cX5_gather 17 = .ok (.aload_n 1, 1) := by decide +kernel
theorem d_cX5_gather_18 : decode cX5_gather 18 = .ok (.iload_n 2, 1) := by decide +kernel
theorem d_cX5_gather_19 : decode cX5_gather 19 = .ok (.invokevirtual 61, 3) := by decide +kernel
theorem d_cX5_gather_22 : decode cX5_gather 22 = .ok (.if_icmp .ge 79, 3) := by decide +kernel
theorem d_cX5_gather_25 : decode cX5_gather 25 = .ok (.aload_n 0, 1) := by decide +kernel
theorem d_cX5_gather_26 : decode cX5_gather 26 = .ok (.iload_n 3, 1) := by decide +kernel
theorem d_cX5_gather_27 : decode cX5_gather 27 = .ok (.aload_n 1, 1) := by decide +kernel
theorem d_cX5_gather_28 : decode cX5_gather 28 = .ok (.iload 4, 2) := by decide +kernel
theorem d_cX5_gather_30 : decode cX5_gather 30 = .ok (.aload_n 0, 1) := by decide +kernel
theorem d_cX5_gather_31 : decode cX5_gather 31 = .ok (.getfield 40, 3) := by decide +kernel
theorem d_cX5_gather_34 : decode cX5_gather 34 = .ok (.invokevirtual 65, 3) := by decide +kernel
theorem d_cX5_gather_37 : decode cX5_gather 37 = .ok (.invokevirtual 69, 3) := by decide +kernel
theorem d_cX5_gather_40 : decode cX5_gather 40 = .ok (.aload_n 0, 1) := by decide +kernel
theorem d_cX5_gather_41 : decode cX5_gather 41 = .ok (.iload_n 3, 1) := by decide +kernel
theorem d_cX5_gather_42 : decode cX5_gather 42 = .ok (.aload_n 1, 1) := by decide +kernel
theorem d_cX5_gather_43 : decode cX5_gather 43 = .ok (.iload 4, 2) := by decide +kernel
theorem d_cX5_gather_45 : decode cX5_gather 45 = .ok (.aload_n 0, 1) := by decide +kernel
theorem d_cX5_gather_46 : decode cX5_gather 46 = .ok (.getfield 40, 3) := by decide +kernel
theorem d_cX5_gather_49 : decode cX5_gather 49 = .ok (.invokevirtual 73, 3) := by decide +kernel
theorem d_cX5_gather_52 : decode cX5_gather 52 = .ok (.invokevirtual 69, 3) := by decide +kernel
theorem d_cX5_gather_55 : decode cX5_gather 55 = .ok (.aload_n 1, 1) := by decide +kernel
theorem d_cX5_gather_56 : decode cX5_gather 56 = .ok (.iload 4, 2) := by decide +kernel
theorem d_cX5_gather_58 : decode cX5_gather 58 = .ok (.aload_n 0, 1) := by decide +kernel
theorem d_cX5_gather_59 : decode cX5_gather 59 = .ok (.getfield 40, 3) := by decide +kernel
theorem d_cX5_gather_62 : decode cX5_gather 62 = .ok (.invokevirtual 76, 3) := by decide +kernel
theorem d_cX5_gather_65 : decode cX5_gather 65 = .ok (.istore 5, 2) := by decide +kernel
theorem d_cX5_gather_67 : decode cX5_gather 67 = .ok (.aload_n 0, 1) := by decide +kernel
theorem d_cX5_gather_68 : decode cX5_gather 68 = .ok (.iload 5, 2) := by decide +kernel
theorem d_cX5_gather_70 : decode cX5_gather 70 = .ok (.invokevirtual 79, 3) := by decide +kernel
theorem d_cX5_gather_73 : decode cX5_gather 73 = .ok (.ifCond .eq 22, 3) := by decide +kernel
theorem d_cX5_gather_76 : decode cX5_gather 76 = .ok (.aload_n 0, 1) := by decide +kernel
theorem d_cX5_gather_77 : decode cX5_gather 77 = .ok (.getfield 18, 3) := by decide +kernel
theorem d_cX5_gather_80 : decode cX5_gather 80 = .ok (.iload_n 3, 1) := by decide +kernel
theorem d_cX5_gather_81 : decode cX5_gather 81 = .ok (.iload 5, 2) := by decide +kernel
theorem d_cX5_gather_83 : decode cX5_gather 83 = .ok (.bipush 6, 2) := by decide +kernel
theorem d_cX5_gather_85 : decode cX5_gather 85 = .ok (.ishr, 1) := by decide +kernel
theorem d_cX5_gather_86 : decode cX5_gather 86 = .ok (.iadd, 1) := by decide +kernel
theorem d_cX5_gather_87 : decode cX5_gather 87 = .ok (.dup2, 1) := by decide +kernel
theorem d_cX5_gather_88 : decode cX5_gather 88 = .ok (.laload, 1) := by decide +kernel
theorem d_cX5_gather_89 : decode cX5_gather 89 = .ok (.lconst 1, 1) := by decide +kernel
theorem d_cX5_gather_90 : decode cX5_gather 90 = .ok (.iload 5, 2) := by decide +kernel
theorem d_cX5_gather_92 : decode cX5_gather 92 = .ok (.lshl, 1) := by decide +kernel
theorem d_cX5_gather_93 : decode cX5_gather 93 = .ok (.lor, 1) := by decide +kernel
theorem d_cX5_gather_94 : decode cX5_gather 94 = .ok (.lastore, 1) := by decide +kernel
theorem d_cX5_gather_95 : decode cX5_gather 95 = .ok (.iinc 4 1, 3) := by decide +kernel
theorem d_cX5_gather_98 : decode cX5_gather 98 = .ok (.goto (-83), 3) := by decide +kernel
theorem d_cX5_gather_101 : decode cX5_gather 101 = .ok (.return_, 1) := by decide +kernel
theorem d_cX5_gatherUse_0 : decode cX5_gatherUse 0 = .ok (.iload_n 2, 1) := by decide +kernel
theorem d_cX5_gatherUse_1 : decode cX5_gatherUse 1 = .ok (.ifCond .lt 41, 3) := by decide +kernel
theorem d_cX5_gatherUse_4 : decode cX5_gatherUse 4 = .ok (.iload_n 2, 1) := by decide +kernel
theorem d_cX5_gatherUse_5 : decode cX5_gatherUse 5 = .ok (.aload_n 0, 1) := by decide +kernel
theorem d_cX5_gatherUse_6 : decode cX5_gatherUse 6 = .ok (.getfield 33, 3) := by decide +kernel
theorem d_cX5_gatherUse_9 : decode cX5_gatherUse 9 = .ok (.if_icmp .ge 33, 3) := by decide +kernel
theorem d_cX5_gatherUse_12 : decode cX5_gatherUse 12 = .ok (.iload_n 1, 1) := by decide +kernel
theorem d_cX5_gatherUse_13 : decode cX5_gatherUse 13 = .ok (.iload_n 2, 1) := by decide +kernel
theorem d_cX5_gatherUse_14 : decode cX5_gatherUse 14 = .ok (.bipush 6, 2) := by decide +kernel
theorem d_cX5_gatherUse_16 : decode cX5_gatherUse 16 = .ok (.ishr, 1) := by decide +kernel
theorem d_cX5_gatherUse_17 : decode cX5_gatherUse 17 = .ok (.iadd, 1) := by decide +kernel
theorem d_cX5_gatherUse_18 : decode cX5_gatherUse 18 = .ok (.istore_n 3, 1) := by decide +kernel
theorem d_cX5_gatherUse_19 : decode cX5_gatherUse 19 = .ok (.aload_n 0, 1) := by decide +kernel
theorem d_cX5_gatherUse_20 : decode cX5_gatherUse 20 = .ok (.getfield 15, 3) := by decide +kernel
theorem d_cX5_gatherUse_23 : decode cX5_gatherUse 23 = .ok (.iload_n 3, 1) := by decide +kernel
theorem d_cX5_gatherUse_24 : decode cX5_gatherUse 24 = .ok (.dup2, 1) := by decide +kernel
theorem d_cX5_gatherUse_25 : decode cX5_gatherUse 25 = .ok (.laload, 1) := by decide +kernel
theorem d_cX5_gatherUse_26 : decode cX5_gatherUse 26 = .ok (.lconst 1, 1) := by decide +kernel
theorem d_cX5_gatherUse_27 : decode cX5_gatherUse 27 = .ok (.iload_n 2, 1) := by decide +kernel
theorem d_cX5_gatherUse_28 : decode cX5_gatherUse 28 = .ok (.lshl, 1) := by decide +kernel
theorem d_cX5_gatherUse_29 : decode cX5_gatherUse 29 = .ok (.aload_n 0, 1) := by decide +kernel
theorem d_cX5_gatherUse_30 : decode cX5_gatherUse 30 = .ok (.getfield 18, 3) := by decide +kernel
theorem d_cX5_gatherUse_33 : decode cX5_gatherUse 33 = .ok (.iload_n 3, 1) := by decide +kernel
theorem d_cX5_gatherUse_34 : decode cX5_gatherUse 34 = .ok (.laload, 1) := by decide +kernel
theorem d_cX5_gatherUse_35 : decode cX5_gatherUse 35 = .ok (.ldc2_w 83, 3) := by decide +kernel
theorem d_cX5_gatherUse_38 : decode cX5_gatherUse 38 = .ok (.lxor, 1) := by decide +kernel
theorem d_cX5_gatherUse_39 : decode cX5_gatherUse 39 = .ok (.land, 1) := by decide +kernel
theorem d_cX5_gatherUse_40 : decode cX5_gatherUse 40 = .ok (.lor, 1) := by decide +kernel
theorem d_cX5_gatherUse_41 : decode cX5_gatherUse 41 = .ok (.lastore, 1) := by decide +kernel
theorem d_cX5_gatherUse_42 : decode cX5_gatherUse 42 = .ok (.return_, 1) := by decide +kernel
theorem d_cX5_isName_0 : decode cX5_isName 0 = .ok (.iload_n 1, 1) := by decide +kernel
theorem d_cX5_isName_1 : decode cX5_isName 1 = .ok (.ifCond .lt 15, 3) := by decide +kernel
theorem d_cX5_isName_4 : decode cX5_isName 4 = .ok (.iload_n 1, 1) := by decide +kernel
theorem d_cX5_isName_5 : decode cX5_isName 5 = .ok (.aload_n 0, 1) := by decide +kernel
theorem d_cX5_isName_6 : decode cX5_isName 6 = .ok (.getfield 33, 3) := by decide +kernel
theorem d_cX5_isName_9 : decode cX5_isName 9 = .ok (.if_icmp .ge 7, 3) := by decide +kernel
theorem d_cX5_isName_12 : decode cX5_isName 12 = .ok (.iconst 1, 1) := by decide +kernel
theorem d_cX5_isName_13 : decode cX5_isName 13 = .ok (.goto 4, 3) := by decide +kernel
theorem d_cX5_isName_16 : decode cX5_isName 16 = .ok (.iconst 0, 1) := by decide +kernel
theorem d_cX5_isName_17 : decode cX5_isName 17 = .ok (.ireturn, 1) := by decide +kernel
theorem d_cX5_revive_0 : decode cX5_revive 0 = .ok (.iload_n 1, 1) := by decide +kernel
theorem d_cX5_revive_1 : decode cX5_revive 1 = .ok (.ifCond .lt 26, 3) := by decide +kernel
theorem d_cX5_revive_4 : decode cX5_revive 4 = .ok (.iload_n 1, 1) := by decide +kernel
theorem d_cX5_revive_5 : decode cX5_revive 5 = .ok (.aload_n 0, 1) := by decide +kernel
theorem d_cX5_revive_6 : decode cX5_revive 6 = .ok (.getfield 33, 3) := by decide +kernel
theorem d_cX5_revive_9 : decode cX5_revive 9 = .ok (.if_icmp .ge 18, 3) := by decide +kernel
theorem d_cX5_revive_12 : decode cX5_revive 12 = .ok (.aload_n 0, 1) := by decide +kernel
theorem d_cX5_revive_13 : decode cX5_revive 13 = .ok (.getfield 21, 3) := by decide +kernel
theorem d_cX5_revive_16 : decode cX5_revive 16 = .ok (.iload_n 1, 1) := by decide +kernel
theorem d_cX5_revive_17 : decode cX5_revive 17 = .ok (.bipush 6, 2) := by decide +kernel
theorem d_cX5_revive_19 : decode cX5_revive 19 = .ok (.ishr, 1) := by decide +kernel
theorem d_cX5_revive_20 : decode cX5_revive 20 = .ok (.dup2, 1) := by decide +kernel
theorem d_cX5_revive_21 : decode cX5_revive 21 = .ok (.laload, 1) := by decide +kernel
theorem d_cX5_revive_22 : decode cX5_revive 22 = .ok (.lconst 1, 1) := by decide +kernel
theorem d_cX5_revive_23 : decode cX5_revive 23 = .ok (.iload_n 1, 1) := by decide +kernel
theorem d_cX5_revive_24 : decode cX5_revive 24 = .ok (.lshl, 1) := by decide +kernel
theorem d_cX5_revive_25 : decode cX5_revive 25 = .ok (.lor, 1) := by decide +kernel
theorem d_cX5_revive_26 : decode cX5_revive 26 = .ok (.lastore, 1) := by decide +kernel
theorem d_cX5_revive_27 : decode cX5_revive 27 = .ok (.return_, 1) := by decide +kernel
theorem d_cX5_solve_0 : decode cX5_solve 0 = .ok (.aload_n 0, 1) := by decide +kernel
theorem d_cX5_solve_1 : decode cX5_solve 1 = .ok (.iconst 0, 1) := by decide +kernel
theorem d_cX5_solve_2 : decode cX5_solve 2 = .ok (.iload_n 2, 1) := by decide +kernel
theorem d_cX5_solve_3 : decode cX5_solve 3 = .ok (.sipush 720, 3) := by decide +kernel
theorem d_cX5_solve_6 : decode cX5_solve 6 = .ok (.invokestatic 24, 3) := by decide +kernel
theorem d_cX5_solve_9 : decode cX5_solve 9 = .ok (.invokestatic 30, 3) := by decide +kernel
theorem d_cX5_solve_12 : decode cX5_solve 12 = .ok (.putfield 33, 3) := by decide +kernel
theorem d_cX5_solve_15 : decode cX5_solve 15 = .ok (.aload_n 0, 1) := by decide +kernel
theorem d_cX5_solve_16 : decode cX5_solve 16 = .ok (.aload_n 0, 1) := by decide +kernel
theorem d_cX5_solve_17 : decode cX5_solve 17 = .ok (.getfield 33, 3) := by decide +kernel
theorem d_cX5_solve_20 : decode cX5_solve 20 = .ok (.bipush 63, 2) := by decide +kernel
theorem d_cX5_solve_22 : decode cX5_solve 22 = .ok (.iadd, 1) := by decide +kernel
theorem d_cX5_solve_23 : decode cX5_solve 23 = .ok (.bipush 6, 2) := by decide +kernel
theorem d_cX5_solve_25 : decode cX5_solve 25 = .ok (.ishr, 1) := by decide +kernel
theorem d_cX5_solve_26 : decode cX5_solve 26 = .ok (.putfield 37, 3) := by decide +kernel
theorem d_cX5_solve_29 : decode cX5_solve 29 = .ok (.aload_n 0, 1) := by decide +kernel
theorem d_cX5_solve_30 : decode cX5_solve 30 = .ok (.iload_n 3, 1) := by decide +kernel
theorem d_cX5_solve_31 : decode cX5_solve 31 = .ok (.putfield 40, 3) := by decide +kernel
theorem d_cX5_solve_34 : decode cX5_solve 34 = .ok (.iconst 0, 1) := by decide +kernel
theorem d_cX5_solve_35 : decode cX5_solve 35 = .ok (.istore 4, 2) := by decide +kernel
theorem d_cX5_solve_37 : decode cX5_solve 37 = .ok (.iload 4, 2) := by decide +kernel
theorem d_cX5_solve_39 : decode cX5_solve 39 = .ok (.aload_n 1, 1) := by decide +kernel
theorem d_cX5_solve_40 : decode cX5_solve 40 = .ok (.getfield 44, 3) := by decide +kernel
theorem d_cX5_solve_43 : decode cX5_solve 43 = .ok (.aload_n 0, 1) := by decide +kernel
theorem d_cX5_solve_44 : decode cX5_solve 44 = .ok (.getfield 37, 3) := by decide +kernel
theorem d_cX5_solve_47 : decode cX5_solve 47 = .ok (.imul, 1) := by decide +kernel
theorem d_cX5_solve_48 : decode cX5_solve 48 = .ok (.if_icmp .ge 33, 3) := by decide +kernel
theorem d_cX5_solve_51 : decode cX5_solve 51 = .ok (.aload_n 0, 1) := by decide +kernel
theorem d_cX5_solve_52 : decode cX5_solve 52 = .ok (.getfield 9, 3) := by decide +kernel
theorem d_cX5_solve_55 : decode cX5_solve 55 = .ok (.iload 4, 2) := by decide +kernel
theorem d_cX5_solve_57 : decode cX5_solve 57 = .ok (.lconst 0, 1) := by decide +kernel
theorem d_cX5_solve_58 : decode cX5_solve 58 = .ok (.lastore, 1) := by decide +kernel
theorem d_cX5_solve_59 : decode cX5_solve 59 = .ok (.aload_n 0, 1) := by decide +kernel
theorem d_cX5_solve_60 : decode cX5_solve 60 = .ok (.getfield 15, 3) := by decide +kernel
theorem d_cX5_solve_63 : decode cX5_solve 63 = .ok (.iload 4, 2) := by decide +kernel
theorem d_cX5_solve_65 : decode cX5_solve 65 = .ok (.lconst 0, 1) := by decide +kernel
theorem d_cX5_solve_66 : decode cX5_solve 66 = .ok (.lastore, 1) := by decide +kernel
theorem d_cX5_solve_67 : decode cX5_solve 67 = .ok (.aload_n 0, 1) := by decide +kernel
theorem d_cX5_solve_68 : decode cX5_solve 68 = .ok (.getfield 18, 3) := by decide +kernel
theorem d_cX5_solve_71 : decode cX5_solve 71 = .ok (.iload 4, 2) := by decide +kernel
theorem d_cX5_solve_73 : decode cX5_solve 73 = .ok (.lconst 0, 1) := by decide +kernel
theorem d_cX5_solve_74 : decode cX5_solve 74 = .ok (.lastore, 1) := by decide +kernel
theorem d_cX5_solve_75 : decode cX5_solve 75 = .ok (.iinc 4 1, 3) := by decide +kernel
theorem d_cX5_solve_78 : decode cX5_solve 78 = .ok (.goto (-41), 3) := by decide +kernel
theorem d_cX5_solve_81 : decode cX5_solve 81 = .ok (.iconst 0, 1) := by decide +kernel
theorem d_cX5_solve_82 : decode cX5_solve 82 = .ok (.istore 4, 2) := by decide +kernel
theorem d_cX5_solve_84 : decode cX5_solve 84 = .ok (.iload 4, 2) := by decide +kernel
theorem d_cX5_solve_86 : decode cX5_solve 86 = .ok (.aload_n 1, 1) := by decide +kernel
theorem d_cX5_solve_87 : decode cX5_solve 87 = .ok (.getfield 44, 3) := by decide +kernel
theorem d_cX5_solve_90 : decode cX5_solve 90 = .ok (.if_icmp .ge 16, 3) := by decide +kernel
theorem d_cX5_solve_93 : decode cX5_solve 93 = .ok (.aload_n 0, 1) := by decide +kernel
theorem d_cX5_solve_94 : decode cX5_solve 94 = .ok (.aload_n 1, 1) := by decide +kernel
theorem d_cX5_solve_95 : decode cX5_solve 95 = .ok (.iload 4, 2) := by decide +kernel
theorem d_cX5_solve_97 : decode cX5_solve 97 = .ok (.invokevirtual 49, 3) := by decide +kernel
theorem d_cX5_solve_100 : decode cX5_solve 100 = .ok (.iinc 4 1, 3) := by decide +kernel
theorem d_cX5_solve_103 : decode cX5_solve 103 = .ok (.goto (-19), 3) := by decide +kernel
theorem d_cX5_solve_106 : decode cX5_solve 106 = .ok (.iconst 1, 1) := by decide +kernel
theorem d_cX5_solve_107 : decode cX5_solve 107 = .ok (.istore 4, 2) := by decide +kernel
theorem d_cX5_solve_109 : decode cX5_solve 109 = .ok (.iconst 0, 1) := by decide +kernel
theorem d_cX5_solve_110 : decode cX5_solve 110 = .ok (.istore 5, 2) := by decide +kernel
theorem d_cX5_solve_112 : decode cX5_solve 112 = .ok (.iload 5, 2) := by decide +kernel
theorem d_cX5_solve_114 : decode cX5_solve 114 = .ok (.aload_n 1, 1) := by decide +kernel
theorem d_cX5_solve_115 : decode cX5_solve 115 = .ok (.getfield 44, 3) := by decide +kernel
theorem d_cX5_solve_118 : decode cX5_solve 118 = .ok (.if_icmp .gt 21, 3) := by decide +kernel
theorem d_cX5_solve_121 : decode cX5_solve 121 = .ok (.iload 4, 2) := by decide +kernel
theorem d_cX5_solve_123 : decode cX5_solve 123 = .ok (.ifCond .eq 16, 3) := by decide +kernel
theorem d_cX5_solve_126 : decode cX5_solve 126 = .ok (.aload_n 0, 1) := by decide +kernel
theorem d_cX5_solve_127 : decode cX5_solve 127 = .ok (.aload_n 1, 1) := by decide +kernel
theorem d_cX5_solve_128 : decode cX5_solve 128 = .ok (.invokevirtual 53, 3) := by decide +kernel
theorem d_cX5_solve_131 : decode cX5_solve 131 = .ok (.istore 4, 2) := by decide +kernel
theorem d_cX5_solve_133 : decode cX5_solve 133 = .ok (.iinc 5 1, 3) := by decide +kernel
theorem d_cX5_solve_136 : decode cX5_solve 136 = .ok (.goto (-24), 3) := by decide +kernel
theorem d_cX5_solve_139 : decode cX5_solve 139 = .ok (.return_, 1) := by decide +kernel
theorem d_cX5_stepOver_0 : decode cX5_stepOver 0 = .ok (.aload_n 1, 1) := by decide +kernel
theorem d_cX5_stepOver_1 : decode cX5_stepOver 1 = .ok (.iload_n 2, 1) := by decide +kernel
theorem d_cX5_stepOver_2 : decode cX5_stepOver 2 = .ok (.aload_n 0, 1) := by decide +kernel
theorem d_cX5_stepOver_3 : decode cX5_stepOver 3 = .ok (.getfield 40, 3) := by decide +kernel
theorem d_cX5_stepOver_6 : decode cX5_stepOver 6 = .ok (.invokevirtual 76, 3) := by decide +kernel
theorem d_cX5_stepOver_9 : decode cX5_stepOver 9 = .ok (.istore_n 3, 1) := by decide +kernel
theorem d_cX5_stepOver_10 : decode cX5_stepOver 10 = .ok (.aload_n 0, 1) := by decide +kernel
theorem d_cX5_stepOver_11 : decode cX5_stepOver 11 = .ok (.iload_n 3, 1) := by decide +kernel
theorem d_cX5_stepOver_12 : decode cX5_stepOver 12 = .ok (.invokevirtual 79, 3) := by decide +kernel
theorem d_cX5_stepOver_15 : decode cX5_stepOver 15 = .ok (.ifCond .eq 22, 3) := by decide +kernel
theorem d_cX5_stepOver_18 : decode cX5_stepOver 18 = .ok (.aload_n 0, 1) := by decide +kernel
theorem d_cX5_stepOver_19 : decode cX5_stepOver 19 = .ok (.getfield 21, 3) := by decide +kernel
theorem d_cX5_stepOver_22 : decode cX5_stepOver 22 = .ok (.iload_n 3, 1) := by decide +kernel
theorem d_cX5_stepOver_23 : decode cX5_stepOver 23 = .ok (.bipush 6, 2) := by decide +kernel
theorem d_cX5_stepOver_25 : decode cX5_stepOver 25 = .ok (.ishr, 1) := by decide +kernel
theorem d_cX5_stepOver_26 : decode cX5_stepOver 26 = .ok (.dup2, 1) := by decide +kernel
theorem d_cX5_stepOver_27 : decode cX5_stepOver 27 = .ok (.laload, 1) := by decide +kernel
theorem d_cX5_stepOver_28 : decode cX5_stepOver 28 = .ok (.lconst 1, 1) := by decide +kernel
theorem d_cX5_stepOver_29 : decode cX5_stepOver 29 = .ok (.iload_n 3, 1) := by decide +kernel
theorem d_cX5_stepOver_30 : decode cX5_stepOver 30 = .ok (.lshl, 1) := by decide +kernel
theorem d_cX5_stepOver_31 : decode cX5_stepOver 31 = .ok (.ldc2_w 83, 3) := by decide +kernel
theorem d_cX5_stepOver_34 : decode cX5_stepOver 34 = .ok (.lxor, 1) := by decide +kernel
theorem d_cX5_stepOver_35 : decode cX5_stepOver 35 = .ok (.land, 1) := by decide +kernel
theorem d_cX5_stepOver_36 : decode cX5_stepOver 36 = .ok (.lastore, 1) := by decide +kernel
theorem d_cX5_stepOver_37 : decode cX5_stepOver 37 = .ok (.aload_n 0, 1) := by decide +kernel
theorem d_cX5_stepOver_38 : decode cX5_stepOver 38 = .ok (.aload_n 1, 1) := by decide +kernel
theorem d_cX5_stepOver_39 : decode cX5_stepOver 39 = .ok (.iload_n 2, 1) := by decide +kernel
theorem d_cX5_stepOver_40 : decode cX5_stepOver 40 = .ok (.aload_n 0, 1) := by decide +kernel
theorem d_cX5_stepOver_41 : decode cX5_stepOver 41 = .ok (.getfield 40, 3) := by decide +kernel
theorem d_cX5_stepOver_44 : decode cX5_stepOver 44 = .ok (.invokevirtual 65, 3) := by decide +kernel
theorem d_cX5_stepOver_47 : decode cX5_stepOver 47 = .ok (.invokevirtual 94, 3) := by decide +kernel
theorem d_cX5_stepOver_50 : decode cX5_stepOver 50 = .ok (.aload_n 0, 1) := by decide +kernel
theorem d_cX5_stepOver_51 : decode cX5_stepOver 51 = .ok (.aload_n 1, 1) := by decide +kernel
theorem d_cX5_stepOver_52 : decode cX5_stepOver 52 = .ok (.iload_n 2, 1) := by decide +kernel
theorem d_cX5_stepOver_53 : decode cX5_stepOver 53 = .ok (.aload_n 0, 1) := by decide +kernel
theorem d_cX5_stepOver_54 : decode cX5_stepOver 54 = .ok (.getfield 40, 3) := by decide +kernel
theorem d_cX5_stepOver_57 : decode cX5_stepOver 57 = .ok (.invokevirtual 73, 3) := by decide +kernel
theorem d_cX5_stepOver_60 : decode cX5_stepOver 60 = .ok (.invokevirtual 94, 3) := by decide +kernel
theorem d_cX5_stepOver_63 : decode cX5_stepOver 63 = .ok (.return_, 1) := by decide +kernel
theorem d_cX5_sweep_0 : decode cX5_sweep 0 = .ok (.iconst 0, 1) := by decide +kernel
theorem d_cX5_sweep_1 : decode cX5_sweep 1 = .ok (.istore_n 2, 1) := by decide +kernel
theorem d_cX5_sweep_2 : decode cX5_sweep 2 = .ok (.aload_n 1, 1) := by decide +kernel
theorem d_cX5_sweep_3 : decode cX5_sweep 3 = .ok (.getfield 44, 3) := by decide +kernel
theorem d_cX5_sweep_6 : decode cX5_sweep 6 = .ok (.iconst 1, 1) := by decide +kernel
theorem d_cX5_sweep_7 : decode cX5_sweep 7 = .ok (.isub, 1) := by decide +kernel
theorem d_cX5_sweep_8 : decode cX5_sweep 8 = .ok (.istore_n 3, 1) := by decide +kernel
theorem d_cX5_sweep_9 : decode cX5_sweep 9 = .ok (.iload_n 3, 1) := by decide +kernel
theorem d_cX5_sweep_10 : decode cX5_sweep 10 = .ok (.ifCond .lt 105, 3) := by decide +kernel
theorem d_cX5_sweep_13 : decode cX5_sweep 13 = .ok (.aload_n 0, 1) := by decide +kernel
theorem d_cX5_sweep_14 : decode cX5_sweep 14 = .ok (.aload_n 1, 1) := by decide +kernel
theorem d_cX5_sweep_15 : decode cX5_sweep 15 = .ok (.iload_n 3, 1) := by decide +kernel
theorem d_cX5_sweep_16 : decode cX5_sweep 16 = .ok (.invokevirtual 85, 3) := by decide +kernel
theorem d_cX5_sweep_19 : decode cX5_sweep 19 = .ok (.iconst 0, 1) := by decide +kernel
theorem d_cX5_sweep_20 : decode cX5_sweep 20 = .ok (.istore 4, 2) := by decide +kernel
theorem d_cX5_sweep_22 : decode cX5_sweep 22 = .ok (.iload 4, 2) := by decide +kernel
theorem d_cX5_sweep_24 : decode cX5_sweep 24 = .ok (.aload_n 0, 1) := by decide +kernel
theorem d_cX5_sweep_25 : decode cX5_sweep 25 = .ok (.getfield 37, 3) := by decide +kernel
theorem d_cX5_sweep_28 : decode cX5_sweep 28 = .ok (.if_icmp .ge 81, 3) := by decide +kernel
theorem d_cX5_sweep_31 : decode cX5_sweep 31 = .ok (.iload_n 3, 1) := by decide +kernel
theorem d_cX5_sweep_32 : decode cX5_sweep 32 = .ok (.aload_n 0, 1) := by decide +kernel
theorem d_cX5_sweep_33 : decode cX5_sweep 33 = .ok (.getfield 37, 3) := by decide +kernel
theorem d_cX5_sweep_36 : decode cX5_sweep 36 = .ok (.imul, 1) := by decide +kernel
theorem d_cX5_sweep_37 : decode cX5_sweep 37 = .ok (.iload 4, 2) := by decide +kernel
theorem d_cX5_sweep_39 : decode cX5_sweep 39 = .ok (.iadd, 1) := by decide +kernel
theorem d_cX5_sweep_40 : decode cX5_sweep 40 = .ok (.istore 5, 2) := by decide +kernel
theorem d_cX5_sweep_42 : decode cX5_sweep 42 = .ok (.aload_n 0, 1) := by decide +kernel
theorem d_cX5_sweep_43 : decode cX5_sweep 43 = .ok (.getfield 15, 3) := by decide +kernel
theorem d_cX5_sweep_46 : decode cX5_sweep 46 = .ok (.iload 5, 2) := by decide +kernel
theorem d_cX5_sweep_48 : decode cX5_sweep 48 = .ok (.laload, 1) := by decide +kernel
theorem d_cX5_sweep_49 : decode cX5_sweep 49 = .ok (.aload_n 0, 1) := by decide +kernel
theorem d_cX5_sweep_50 : decode cX5_sweep 50 = .ok (.getfield 21, 3) := by decide +kernel
theorem d_cX5_sweep_53 : decode cX5_sweep 53 = .ok (.iload 4, 2) := by decide +kernel
theorem d_cX5_sweep_55 : decode cX5_sweep 55 = .ok (.laload, 1) := by decide +kernel
theorem d_cX5_sweep_56 : decode cX5_sweep 56 = .ok (.aload_n 0, 1) := by decide +kernel
theorem d_cX5_sweep_57 : decode cX5_sweep 57 = .ok (.getfield 18, 3) := by decide +kernel
theorem d_cX5_sweep_60 : decode cX5_sweep 60 = .ok (.iload 5, 2) := by decide +kernel
theorem d_cX5_sweep_62 : decode cX5_sweep 62 = .ok (.laload, 1) := by decide +kernel
theorem d_cX5_sweep_63 : decode cX5_sweep 63 = .ok (.ldc2_w 83, 3) := by decide +kernel
theorem d_cX5_sweep_66 : decode cX5_sweep 66 = .ok (.lxor, 1) := by decide +kernel
theorem d_cX5_sweep_67 : decode cX5_sweep 67 = .ok (.land, 1) := by decide +kernel
theorem d_cX5_sweep_68 : decode cX5_sweep 68 = .ok (.lor, 1) := by decide +kernel
theorem d_cX5_sweep_69 : decode cX5_sweep 69 = .ok (.lstore 6, 2) := by decide +kernel
theorem d_cX5_sweep_71 : decode cX5_sweep 71 = .ok (.iload_n 2, 1) := by decide +kernel
theorem d_cX5_sweep_72 : decode cX5_sweep 72 = .ok (.ifCond .ne 16, 3) := by decide +kernel
theorem d_cX5_sweep_75 : decode cX5_sweep 75 = .ok (.lload 6, 2) := by decide +kernel
theorem d_cX5_sweep_77 : decode cX5_sweep 77 = .ok (.aload_n 0, 1) := by decide +kernel
theorem d_cX5_sweep_78 : decode cX5_sweep 78 = .ok (.getfield 9, 3) := by decide +kernel
theorem d_cX5_sweep_81 : decode cX5_sweep 81 = .ok (.iload 5, 2) := by decide +kernel
theorem d_cX5_sweep_83 : decode cX5_sweep 83 = .ok (.laload, 1) := by decide +kernel
theorem d_cX5_sweep_84 : decode cX5_sweep 84 = .ok (.lcmp, 1) := by decide +kernel
theorem d_cX5_sweep_85 : decode cX5_sweep 85 = .ok (.ifCond .eq 7, 3) := by decide +kernel
theorem d_cX5_sweep_88 : decode cX5_sweep 88 = .ok (.iconst 1, 1) := by decide +kernel
theorem d_cX5_sweep_89 : decode cX5_sweep 89 = .ok (.goto 4, 3) := by decide +kernel
theorem d_cX5_sweep_92 : decode cX5_sweep 92 = .ok (.iconst 0, 1) := by decide +kernel
theorem d_cX5_sweep_93 : decode cX5_sweep 93 = .ok (.istore_n 2, 1) := by decide +kernel
theorem d_cX5_sweep_94 : decode cX5_sweep 94 = .ok (.aload_n 0, 1) := by decide +kernel
theorem d_cX5_sweep_95 : decode cX5_sweep 95 = .ok (.getfield 9, 3) := by decide +kernel
theorem d_cX5_sweep_98 : decode cX5_sweep 98 = .ok (.iload 5, 2) := by decide +kernel
theorem d_cX5_sweep_100 : decode cX5_sweep 100 = .ok (.lload 6, 2) := by decide +kernel
theorem d_cX5_sweep_102 : decode cX5_sweep 102 = .ok (.lastore, 1) := by decide +kernel
theorem d_cX5_sweep_103 : decode cX5_sweep 103 = .ok (.iinc 4 1, 3) := by decide +kernel
theorem d_cX5_sweep_106 : decode cX5_sweep 106 = .ok (.goto (-84), 3) := by decide +kernel
theorem d_cX5_sweep_109 : decode cX5_sweep 109 = .ok (.iinc 3 (-1), 3) := by decide +kernel
theorem d_cX5_sweep_112 : decode cX5_sweep 112 = .ok (.goto (-103), 3) := by decide +kernel
theorem d_cX5_sweep_115 : decode cX5_sweep 115 = .ok (.iload_n 2, 1) := by decide +kernel
theorem d_cX5_sweep_116 : decode cX5_sweep 116 = .ok (.ireturn, 1) := by decide +kernel
