theorem d_cX8_acceptOnly_0 : decode cX8_acceptOnly 0 = .ok (.aload_n 0, 1) := by decide +kernel
theorem d_cX8_acceptOnly_1 : decode cX8_acceptOnly 1 = .ok (.invokevirtual 133, 3) := by decide +kernel
theorem d_cX8_acceptOnly_4 : decode cX8_acceptOnly 4 = .ok (.aload_n 0, 1) := by decide +kernel
theorem d_cX8_acceptOnly_5 : decode cX8_acceptOnly 5 = .ok (.aload_n 1, 1) := by decide +kernel
theorem d_cX8_acceptOnly_6 : decode cX8_acceptOnly 6 = .ok (.iload_n 2, 1) := by decide +kernel
theorem d_cX8_acceptOnly_7 : decode cX8_acceptOnly 7 = .ok (.iconst (-1), 1) := by decide +kernel
theorem d_cX8_acceptOnly_8 : decode cX8_acceptOnly 8 = .ok (.iconst 0, 1) := by decide +kernel
theorem d_cX8_acceptOnly_9 : decode cX8_acceptOnly 9 = .ok (.invokevirtual 120, 3) := by decide +kernel
theorem d_cX8_acceptOnly_12 : decode cX8_acceptOnly 12 = .ok (.aload_n 0, 1) := by decide +kernel
theorem d_cX8_acceptOnly_13 : decode cX8_acceptOnly 13 = .ok (.iload_n 3, 1) := by decide +kernel
theorem d_cX8_acceptOnly_14 : decode cX8_acceptOnly 14 = .ok (.putfield 46, 3) := by decide +kernel
theorem d_cX8_acceptOnly_17 : decode cX8_acceptOnly 17 = .ok (.aload_n 0, 1) := by decide +kernel
theorem d_cX8_acceptOnly_18 : decode cX8_acceptOnly 18 = .ok (.invokevirtual 136, 3) := by decide +kernel
theorem d_cX8_acceptOnly_21 : decode cX8_acceptOnly 21 = .ok (.ireturn, 1) := by decide +kernel
theorem d_cX8_acceptGoal_0 : decode cX8_acceptGoal 0 = .ok (.aload_n 0, 1) := by decide +kernel
theorem d_cX8_acceptGoal_1 : decode cX8_acceptGoal 1 = .ok (.getfield 20, 3) := by decide +kernel
theorem d_cX8_acceptGoal_4 : decode cX8_acceptGoal 4 = .ok (.invokevirtual 52, 3) := by decide +kernel
theorem d_cX8_acceptGoal_7 : decode cX8_acceptGoal 7 = .ok (.iconst 3, 1) := by decide +kernel
theorem d_cX8_acceptGoal_8 : decode cX8_acceptGoal 8 = .ok (.if_icmp .eq 5, 3) := by decide +kernel
theorem d_cX8_acceptGoal_13 : decode cX8_acceptGoal 13 = .ok (.aload_n 0, 1) := by decide +kernel
theorem d_cX8_acceptGoal_14 : decode cX8_acceptGoal 14 = .ok (.invokevirtual 100, 3) := by decide +kernel
theorem d_cX8_acceptGoal_17 : decode cX8_acceptGoal 17 = .ok (.ifCond .eq 7, 3) := by decide +kernel
theorem d_cX8_acceptGoal_24 : decode cX8_acceptGoal 24 = .ok (.aload_n 1, 1) := by decide +kernel
theorem d_cX8_acceptGoal_25 : decode cX8_acceptGoal 25 = .ok (.aload_n 0, 1) := by decide +kernel
theorem d_cX8_acceptGoal_26 : decode cX8_acceptGoal 26 = .ok (.getfield 20, 3) := by decide +kernel
theorem d_cX8_acceptGoal_29 : decode cX8_acceptGoal 29 = .ok (.invokevirtual 97, 3) := by decide +kernel
theorem d_cX8_acceptGoal_32 : decode cX8_acceptGoal 32 = .ok (.invokevirtual 148, 3) := by decide +kernel
theorem w_3_209 : (Jvm.Cond.methodLink "SpillForge$Reader" (148 : Nat) ({ cls := "SpillForge$Code", name := "addGoal", desc := "(I)I" } : Jvm.MethodName)) ∈ gw := gw_3 209 rfl rfl
theorem w_3_212 : (Jvm.Cond.code ({ cls := "SpillForge$Code", name := "addGoal", desc := "(I)I" } : Jvm.MethodName) prog_2_method_7_code (5 : Nat) (Option.some Jvm.ClassFile.FieldType.int)) ∈ gw := gw_3 212 rfl rfl
theorem w_3_210 : (Jvm.Cond.instanceMethod ({ cls := "SpillForge$Code", name := "addGoal", desc := "(I)I" } : Jvm.MethodName)) ∈ gw := gw_3 210 rfl rfl
theorem w_3_211 : (Jvm.Cond.selects "SpillForge$Code" ({ cls := "SpillForge$Code", name := "addGoal", desc := "(I)I" } : Jvm.MethodName) ({ cls := "SpillForge$Code", name := "addGoal", desc := "(I)I" } : Jvm.MethodName)) ∈ gw := gw_3 211 rfl rfl
theorem d_cX8_acceptGoal_35 : decode cX8_acceptGoal 35 = .ok (.istore_n 3, 1) := by decide +kernel
theorem d_cX8_acceptGoal_36 : decode cX8_acceptGoal 36 = .ok (.iload_n 3, 1) := by decide +kernel
theorem d_cX8_acceptGoal_37 : decode cX8_acceptGoal 37 = .ok (.ifCond .lt 25, 3) := by decide +kernel
theorem d_cX8_acceptGoal_62 : decode cX8_acceptGoal 62 = .ok (.aload_n 0, 1) := by decide +kernel
theorem d_cX8_acceptGoal_63 : decode cX8_acceptGoal 63 = .ok (.iload_n 2, 1) := by decide +kernel
theorem d_cX8_acceptGoal_64 : decode cX8_acceptGoal 64 = .ok (.putfield 46, 3) := by decide +kernel
theorem d_cX8_acceptGoal_67 : decode cX8_acceptGoal 67 = .ok (.iconst 1, 1) := by decide +kernel
theorem d_cX8_acceptGoal_68 : decode cX8_acceptGoal 68 = .ok (.ireturn, 1) := by decide +kernel
theorem d_cX8_acceptGoal_40 : decode cX8_acceptGoal 40 = .ok (.iload_n 3, 1) := by decide +kernel
theorem d_cX8_acceptGoal_41 : decode cX8_acceptGoal 41 = .ok (.aload_n 0, 1) := by decide +kernel
theorem d_cX8_acceptGoal_42 : decode cX8_acceptGoal 42 = .ok (.getfield 9, 3) := by decide +kernel
theorem w_1_97 : (Jvm.Cond.fieldLink "SpillForge$Reader" (9 : Nat) "SpillForge$Reader" "goalPlaces" "[I") ∈ gw := gw_1 97 rfl rfl
theorem d_cX8_acceptGoal_45 : decode cX8_acceptGoal 45 = .ok (.arraylength, 1) := by decide +kernel
theorem d_cX8_acceptGoal_46 : decode cX8_acceptGoal 46 = .ok (.if_icmp .ge 16, 3) := by decide +kernel
theorem d_cX8_acceptGoal_49 : decode cX8_acceptGoal 49 = .ok (.aload_n 0, 1) := by decide +kernel
theorem d_cX8_acceptGoal_50 : decode cX8_acceptGoal 50 = .ok (.getfield 9, 3) := by decide +kernel
theorem d_cX8_acceptGoal_53 : decode cX8_acceptGoal 53 = .ok (.iload_n 3, 1) := by decide +kernel
theorem d_cX8_acceptGoal_54 : decode cX8_acceptGoal 54 = .ok (.aload_n 0, 1) := by decide +kernel
theorem d_cX8_acceptGoal_55 : decode cX8_acceptGoal 55 = .ok (.getfield 20, 3) := by decide +kernel
theorem d_cX8_acceptGoal_58 : decode cX8_acceptGoal 58 = .ok (.invokevirtual 63, 3) := by decide +kernel
theorem d_cX8_acceptGoal_61 : decode cX8_acceptGoal 61 = .ok (.iastore, 1) := by decide +kernel
theorem d_cX8_acceptGoal_20 : decode cX8_acceptGoal 20 = .ok (.iconst (-1), 1) := by decide +kernel
theorem d_cX8_acceptGoal_21 : decode cX8_acceptGoal 21 = .ok (.goto 14, 3) := by decide +kernel
theorem d_cX8_acceptGoal_11 : decode cX8_acceptGoal 11 = .ok (.iconst 0, 1) := by decide +kernel
theorem d_cX8_acceptGoal_12 : decode cX8_acceptGoal 12 = .ok (.ireturn, 1) := by decide +kernel
theorem d_cX8_accept_0 : decode cX8_accept 0 = .ok (.aload_n 0, 1) := by decide +kernel
theorem d_cX8_accept_1 : decode cX8_accept 1 = .ok (.getfield 46, 3) := by decide +kernel
theorem d_cX8_accept_4 : decode cX8_accept 4 = .ok (.tableswitch 146 0 11 #[64, 64, 70, 86, 78, 92, 98, 104, 110, 119, 129, 138], 64) := by decide +kernel
theorem d_cX8_accept_68 : decode cX8_accept 68 = .ok (.aload_n 0, 1) := by decide +kernel
theorem d_cX8_accept_69 : decode cX8_accept 69 = .ok (.aload_n 1, 1) := by decide +kernel
theorem d_cX8_accept_70 : decode cX8_accept 70 = .ok (.invokevirtual 70, 3) := by decide +kernel
theorem w_3_125 : (Jvm.Cond.methodLink "SpillForge$Reader" (70 : Nat) ({ cls := "SpillForge$Reader", name := "acceptLabel", desc := "(LSpillForge$Code;)Z" } : Jvm.MethodName)) ∈ gw := gw_3 125 rfl rfl
theorem w_3_128 : (Jvm.Cond.code ({ cls := "SpillForge$Reader", name := "acceptLabel", desc := "(LSpillForge$Code;)Z" } : Jvm.MethodName) prog_10_method_5_code (2 : Nat) (Option.some Jvm.ClassFile.FieldType.boolean)) ∈ gw := gw_3 128 rfl rfl
theorem w_3_127 : (Jvm.Cond.instanceMethod ({ cls := "SpillForge$Reader", name := "acceptLabel", desc := "(LSpillForge$Code;)Z" } : Jvm.MethodName)) ∈ gw := gw_3 127 rfl rfl
theorem w_p_8 : Cond.selects "SpillForge$Reader" ⟨"SpillForge$Reader", "acceptLabel", "(LSpillForge$Code;)Z"⟩ ⟨"SpillForge$Reader", "acceptLabel", "(LSpillForge$Code;)Z"⟩ ∈ gw := gw_p _ 8 rfl rfl rfl
theorem d_cX8_accept_73 : decode cX8_accept 73 = .ok (.ireturn, 1) := by decide +kernel
theorem d_cX8_accept_74 : decode cX8_accept 74 = .ok (.aload_n 0, 1) := by decide +kernel
theorem d_cX8_accept_75 : decode cX8_accept 75 = .ok (.bipush 6, 2) := by decide +kernel
theorem d_cX8_accept_77 : decode cX8_accept 77 = .ok (.iconst 3, 1) := by decide +kernel
theorem d_cX8_accept_78 : decode cX8_accept 78 = .ok (.invokevirtual 73, 3) := by decide +kernel
theorem w_3_149 : (Jvm.Cond.methodLink "SpillForge$Reader" (73 : Nat) ({ cls := "SpillForge$Reader", name := "acceptMark", desc := "(II)Z" } : Jvm.MethodName)) ∈ gw := gw_3 149 rfl rfl
theorem w_3_152 : (Jvm.Cond.code ({ cls := "SpillForge$Reader", name := "acceptMark", desc := "(II)Z" } : Jvm.MethodName) prog_10_method_6_code (3 : Nat) (Option.some Jvm.ClassFile.FieldType.boolean)) ∈ gw := gw_3 152 rfl rfl
theorem w_3_151 : (Jvm.Cond.instanceMethod ({ cls := "SpillForge$Reader", name := "acceptMark", desc := "(II)Z" } : Jvm.MethodName)) ∈ gw := gw_3 151 rfl rfl
theorem w_p_11 : Cond.selects "SpillForge$Reader" ⟨"SpillForge$Reader", "acceptMark", "(II)Z"⟩ ⟨"SpillForge$Reader", "acceptMark", "(II)Z"⟩ ∈ gw := gw_p _ 11 rfl rfl rfl
theorem d_cX8_accept_81 : decode cX8_accept 81 = .ok (.ireturn, 1) := by decide +kernel
theorem d_cX8_accept_90 : decode cX8_accept 90 = .ok (.aload_n 0, 1) := by decide +kernel
theorem d_cX8_accept_91 : decode cX8_accept 91 = .ok (.aload_n 1, 1) := by decide +kernel
theorem d_cX8_accept_92 : decode cX8_accept 92 = .ok (.invokevirtual 77, 3) := by decide +kernel
theorem d_cX8_accept_95 : decode cX8_accept 95 = .ok (.ireturn, 1) := by decide +kernel
theorem d_cX8_accept_82 : decode cX8_accept 82 = .ok (.aload_n 0, 1) := by decide +kernel
theorem d_cX8_accept_83 : decode cX8_accept 83 = .ok (.bipush 7, 2) := by decide +kernel
theorem d_cX8_accept_85 : decode cX8_accept 85 = .ok (.iconst 5, 1) := by decide +kernel
theorem d_cX8_accept_86 : decode cX8_accept 86 = .ok (.invokevirtual 73, 3) := by decide +kernel
theorem d_cX8_accept_89 : decode cX8_accept 89 = .ok (.ireturn, 1) := by decide +kernel
theorem d_cX8_accept_96 : decode cX8_accept 96 = .ok (.aload_n 0, 1) := by decide +kernel
theorem d_cX8_accept_97 : decode cX8_accept 97 = .ok (.aload_n 1, 1) := by decide +kernel
theorem d_cX8_accept_98 : decode cX8_accept 98 = .ok (.invokevirtual 80, 3) := by decide +kernel
theorem w_3_173 : (Jvm.Cond.methodLink "SpillForge$Reader" (80 : Nat) ({ cls := "SpillForge$Reader", name := "acceptSource", desc := "(LSpillForge$Code;)Z" } : Jvm.MethodName)) ∈ gw := gw_3 173 rfl rfl
theorem w_3_176 : (Jvm.Cond.code ({ cls := "SpillForge$Reader", name := "acceptSource", desc := "(LSpillForge$Code;)Z" } : Jvm.MethodName) prog_10_method_10_code (2 : Nat) (Option.some Jvm.ClassFile.FieldType.boolean)) ∈ gw := gw_3 176 rfl rfl
theorem w_3_175 : (Jvm.Cond.instanceMethod ({ cls := "SpillForge$Reader", name := "acceptSource", desc := "(LSpillForge$Code;)Z" } : Jvm.MethodName)) ∈ gw := gw_3 175 rfl rfl
theorem w_p_16 : Cond.selects "SpillForge$Reader" ⟨"SpillForge$Reader", "acceptSource", "(LSpillForge$Code;)Z"⟩ ⟨"SpillForge$Reader", "acceptSource", "(LSpillForge$Code;)Z"⟩ ∈ gw := gw_p _ 16 rfl rfl rfl
theorem d_cX8_accept_101 : decode cX8_accept 101 = .ok (.ireturn, 1) := by decide +kernel
theorem d_cX8_accept_102 : decode cX8_accept 102 = .ok (.aload_n 0, 1) := by decide +kernel
theorem d_cX8_accept_103 : decode cX8_accept 103 = .ok (.aload_n 1, 1) := by decide +kernel
theorem d_cX8_accept_104 : decode cX8_accept 104 = .ok (.invokevirtual 83, 3) := by decide +kernel
theorem w_3_193 : (Jvm.Cond.methodLink "SpillForge$Reader" (83 : Nat) ({ cls := "SpillForge$Reader", name := "acceptOpOrLine", desc := "(LSpillForge$Code;)Z" } : Jvm.MethodName)) ∈ gw := gw_3 193 rfl rfl
theorem w_3_196 : (Jvm.Cond.code ({ cls := "SpillForge$Reader", name := "acceptOpOrLine", desc := "(LSpillForge$Code;)Z" } : Jvm.MethodName) prog_10_method_11_code (2 : Nat) (Option.some Jvm.ClassFile.FieldType.boolean)) ∈ gw := gw_3 196 rfl rfl
theorem w_3_195 : (Jvm.Cond.instanceMethod ({ cls := "SpillForge$Reader", name := "acceptOpOrLine", desc := "(LSpillForge$Code;)Z" } : Jvm.MethodName)) ∈ gw := gw_3 195 rfl rfl
theorem w_p_21 : Cond.selects "SpillForge$Reader" ⟨"SpillForge$Reader", "acceptOpOrLine", "(LSpillForge$Code;)Z"⟩ ⟨"SpillForge$Reader", "acceptOpOrLine", "(LSpillForge$Code;)Z"⟩ ∈ gw := gw_p _ 21 rfl rfl rfl
theorem d_cX8_accept_107 : decode cX8_accept 107 = .ok (.ireturn, 1) := by decide +kernel
theorem d_cX8_accept_108 : decode cX8_accept 108 = .ok (.aload_n 0, 1) := by decide +kernel
theorem d_cX8_accept_109 : decode cX8_accept 109 = .ok (.aload_n 1, 1) := by decide +kernel
theorem d_cX8_accept_110 : decode cX8_accept 110 = .ok (.invokevirtual 86, 3) := by decide +kernel
theorem w_3_197 : (Jvm.Cond.methodLink "SpillForge$Reader" (86 : Nat) ({ cls := "SpillForge$Reader", name := "acceptRight", desc := "(LSpillForge$Code;)Z" } : Jvm.MethodName)) ∈ gw := gw_3 197 rfl rfl
theorem w_3_200 : (Jvm.Cond.code ({ cls := "SpillForge$Reader", name := "acceptRight", desc := "(LSpillForge$Code;)Z" } : Jvm.MethodName) prog_10_method_12_code (2 : Nat) (Option.some Jvm.ClassFile.FieldType.boolean)) ∈ gw := gw_3 200 rfl rfl
theorem w_3_199 : (Jvm.Cond.instanceMethod ({ cls := "SpillForge$Reader", name := "acceptRight", desc := "(LSpillForge$Code;)Z" } : Jvm.MethodName)) ∈ gw := gw_3 199 rfl rfl
theorem w_p_22 : Cond.selects "SpillForge$Reader" ⟨"SpillForge$Reader", "acceptRight", "(LSpillForge$Code;)Z"⟩ ⟨"SpillForge$Reader", "acceptRight", "(LSpillForge$Code;)Z"⟩ ∈ gw := gw_p _ 22 rfl rfl rfl
theorem d_cX8_accept_113 : decode cX8_accept 113 = .ok (.ireturn, 1) := by decide +kernel
theorem d_cX8_accept_114 : decode cX8_accept 114 = .ok (.aload_n 0, 1) := by decide +kernel
theorem d_cX8_accept_115 : decode cX8_accept 115 = .ok (.aload_n 1, 1) := by decide +kernel
theorem d_cX8_accept_116 : decode cX8_accept 116 = .ok (.bipush 16, 2) := by decide +kernel
theorem d_cX8_accept_118 : decode cX8_accept 118 = .ok (.iconst 3, 1) := by decide +kernel
theorem d_cX8_accept_119 : decode cX8_accept 119 = .ok (.invokevirtual 89, 3) := by decide +kernel
theorem w_3_201 : (Jvm.Cond.methodLink "SpillForge$Reader" (89 : Nat) ({ cls := "SpillForge$Reader", name := "acceptOnly", desc := "(LSpillForge$Code;II)Z" } : Jvm.MethodName)) ∈ gw := gw_3 201 rfl rfl
theorem w_3_204 : (Jvm.Cond.code ({ cls := "SpillForge$Reader", name := "acceptOnly", desc := "(LSpillForge$Code;II)Z" } : Jvm.MethodName) prog_10_method_13_code (4 : Nat) (Option.some Jvm.ClassFile.FieldType.boolean)) ∈ gw := gw_3 204 rfl rfl
theorem w_3_203 : (Jvm.Cond.instanceMethod ({ cls := "SpillForge$Reader", name := "acceptOnly", desc := "(LSpillForge$Code;II)Z" } : Jvm.MethodName)) ∈ gw := gw_3 203 rfl rfl
theorem w_p_23 : Cond.selects "SpillForge$Reader" ⟨"SpillForge$Reader", "acceptOnly", "(LSpillForge$Code;II)Z"⟩ ⟨"SpillForge$Reader", "acceptOnly", "(LSpillForge$Code;II)Z"⟩ ∈ gw := gw_p _ 23 rfl rfl rfl
theorem d_cX8_accept_122 : decode cX8_accept 122 = .ok (.ireturn, 1) := by decide +kernel
theorem d_cX8_accept_123 : decode cX8_accept 123 = .ok (.aload_n 0, 1) := by decide +kernel
theorem d_cX8_accept_124 : decode cX8_accept 124 = .ok (.aload_n 1, 1) := by decide +kernel
theorem d_cX8_accept_125 : decode cX8_accept 125 = .ok (.bipush 20, 2) := by decide +kernel
theorem d_cX8_accept_127 : decode cX8_accept 127 = .ok (.bipush 11, 2) := by decide +kernel
theorem d_cX8_accept_129 : decode cX8_accept 129 = .ok (.invokevirtual 89, 3) := by decide +kernel
theorem d_cX8_accept_132 : decode cX8_accept 132 = .ok (.ireturn, 1) := by decide +kernel
theorem d_cX8_accept_133 : decode cX8_accept 133 = .ok (.aload_n 0, 1) := by decide +kernel
theorem d_cX8_accept_134 : decode cX8_accept 134 = .ok (.aload_n 1, 1) := by decide +kernel
theorem d_cX8_accept_135 : decode cX8_accept 135 = .ok (.bipush 21, 2) := by decide +kernel
theorem d_cX8_accept_137 : decode cX8_accept 137 = .ok (.iconst 1, 1) := by decide +kernel
theorem d_cX8_accept_138 : decode cX8_accept 138 = .ok (.invokevirtual 89, 3) := by decide +kernel
theorem d_cX8_accept_141 : decode cX8_accept 141 = .ok (.ireturn, 1) := by decide +kernel
theorem d_cX8_accept_142 : decode cX8_accept 142 = .ok (.aload_n 0, 1) := by decide +kernel
theorem d_cX8_accept_143 : decode cX8_accept 143 = .ok (.aload_n 1, 1) := by decide +kernel
theorem d_cX8_accept_144 : decode cX8_accept 144 = .ok (.bipush 12, 2) := by decide +kernel
theorem d_cX8_accept_146 : decode cX8_accept 146 = .ok (.invokevirtual 93, 3) := by decide +kernel
theorem w_3_205 : (Jvm.Cond.methodLink "SpillForge$Reader" (93 : Nat) ({ cls := "SpillForge$Reader", name := "acceptGoal", desc := "(LSpillForge$Code;I)Z" } : Jvm.MethodName)) ∈ gw := gw_3 205 rfl rfl
theorem w_3_208 : (Jvm.Cond.code ({ cls := "SpillForge$Reader", name := "acceptGoal", desc := "(LSpillForge$Code;I)Z" } : Jvm.MethodName) prog_10_method_14_code (4 : Nat) (Option.some Jvm.ClassFile.FieldType.boolean)) ∈ gw := gw_3 208 rfl rfl
theorem w_3_207 : (Jvm.Cond.instanceMethod ({ cls := "SpillForge$Reader", name := "acceptGoal", desc := "(LSpillForge$Code;I)Z" } : Jvm.MethodName)) ∈ gw := gw_3 207 rfl rfl
theorem w_p_24 : Cond.selects "SpillForge$Reader" ⟨"SpillForge$Reader", "acceptGoal", "(LSpillForge$Code;I)Z"⟩ ⟨"SpillForge$Reader", "acceptGoal", "(LSpillForge$Code;I)Z"⟩ ∈ gw := gw_p _ 24 rfl rfl rfl
theorem d_cX8_accept_149 : decode cX8_accept 149 = .ok (.ireturn, 1) := by decide +kernel
theorem d_cX8_accept_150 : decode cX8_accept 150 = .ok (.aload_n 0, 1) := by decide +kernel
theorem d_cX8_accept_151 : decode cX8_accept 151 = .ok (.aload_n 1, 1) := by decide +kernel
theorem d_cX8_accept_152 : decode cX8_accept 152 = .ok (.iconst 1, 1) := by decide +kernel
theorem d_cX8_accept_153 : decode cX8_accept 153 = .ok (.invokevirtual 93, 3) := by decide +kernel
theorem d_cX8_accept_156 : decode cX8_accept 156 = .ok (.ireturn, 1) := by decide +kernel
abbrev ky_6434_Reader_acceptOnly : gKey := (cX8_acceptOnly, 4, yX8_acceptOnly.cls, (some FieldType.boolean), [], yX8_acceptOnly.name, fun _ _ => True)
abbrev po_6434_Reader_acceptOnly (I : FieldType → ClassId) (q6387 : Nat) (q6388 : Nat) (q6389 : Nat) (q6390 : Nat) (q6391 : Nat) (q6392 : Nat) (q6393 : Nat) (q6394 : Nat) (q6395 : Nat) (q6396 : Nat) (q6397 : Nat) (q6398 : Nat) (q6399 : Nat) (q6400 : Nat) (q6401 : Nat) (p6402 : Int32) (p6403 : Int32) (p6404 : Int32) (p6405 : Int32) (p6406 : Int32) (pl6407 : Int64) (p6408 : Int32) (p6409 : Int32) (p6410 : Int32) (p6411 : Int32) (p6412 : Int32) (p6413 : Int32) (p6414 : Int32) (p6415 : Int32) (p6416 : Int32) (p6417 : Int32) (p6418 : Int32) (p6419 : Int32) (p6420 : Int32) (f6421 : Nat → Int32) (f6422 : Nat → Int32) (f6423 : Nat → Int32) (f6424 : Nat → Int32) (f6425 : Nat → Int32) (f6426 : Nat → Int32) (f6427 : Nat → Int32) (f6428 : Nat → Int32) (f6429 : Nat → Int32) (f6430 : Nat → Int32) (p6431 : Int32) (f6432 : Nat → Int32) : Option Value → va_W → Prop := fun r w => ∃ (o6461 : Int32) (o6450 : Int32) (o6451 : Int32) (o6452 : Int32) (o6453 : Int32) (o6454 : Int32) (f6455 : Nat → Int32) (f6456 : Nat → Int32) (f6457 : Nat → Int32) (f6458 : Nat → Int32) (f6459 : Nat → Int32) (f6460 : Nat → Int32), r = some (.int o6461) ∧ w = [(q6387, .inr (13, [.ref q6389, .ref q6390, .int p6404, .int p6405, .int p6406, .long pl6407, .int p6408, .int o6450, .int p6410, .int p6411, .int o6451, .int o6452])), (q6388, .inr (5, [.ref q6391, .ref q6392, .ref q6393, .ref q6394, .ref q6395, .ref q6396, .ref q6397, .ref q6398, .ref q6399, .int p6414, .int o6453, .int o6454])), (q6389, .inr (14, [.ref q6400, .int p6417, .int p6418, .int p6419, .int p6420])), (q6390, .inl (I .int, 80, .inl f6421)), (q6391, .inl (I .int, 40, .inl f6422)), (q6392, .inl (I .int, 40, .inl f6423)), (q6393, .inl (I .int, 40, .inl f6424)), (q6394, .inl (I .int, 200, .inl f6455)), (q6395, .inl (I .int, 200, .inl f6456)), (q6396, .inl (I .int, 200, .inl f6457)), (q6397, .inl (I .int, 200, .inl f6458)), (q6398, .inl (I .int, 200, .inl f6459)), (q6399, .inl (I .int, 200, .inl f6460)), (q6400, .inr (15, [.ref q6401, .int p6431])), (q6401, .inl (I .byte, 8192, .inl f6432))] ∧ gB o6461 0 1 ∧ gB o6450 (-2147483648) 2147483647 ∧ gB o6451 (-2147483648) 2147483647 ∧ gB o6452 (-2147483648) 2147483647 ∧ gB o6453 0 200 ∧ gB o6454 0 1 ∧ gF f6455 0 21 ∧ gF f6456 (-2147483648) 2147483647 ∧ gF f6457 (-2147483648) 2147483647 ∧ gF f6458 (-2147483648) 2147483647 ∧ gF f6459 (-2147483648) 2147483647 ∧ gF f6460 (-2147483648) 2147483647
set_option maxRecDepth 100000 in
set_option maxHeartbeats 4000000 in
theorem ct_6434_Reader_acceptOnly (l : Launch) (hl0 : l.stackTraces = false) (D : va_G) (I : FieldType → ClassId) (q6387 : Nat) (q6388 : Nat) (q6389 : Nat) (q6390 : Nat) (q6391 : Nat) (q6392 : Nat) (q6393 : Nat) (q6394 : Nat) (q6395 : Nat) (q6396 : Nat) (q6397 : Nat) (q6398 : Nat) (q6399 : Nat) (q6400 : Nat) (q6401 : Nat) (p6402 : Int32) (p6403 : Int32) (p6404 : Int32) (p6405 : Int32) (p6406 : Int32) (pl6407 : Int64) (p6408 : Int32) (p6409 : Int32) (p6410 : Int32) (p6411 : Int32) (p6412 : Int32) (p6413 : Int32) (p6414 : Int32) (p6415 : Int32) (p6416 : Int32) (p6417 : Int32) (p6418 : Int32) (p6419 : Int32) (p6420 : Int32) (f6421 : Nat → Int32) (f6422 : Nat → Int32) (f6423 : Nat → Int32) (f6424 : Nat → Int32) (f6425 : Nat → Int32) (f6426 : Nat → Int32) (f6427 : Nat → Int32) (f6428 : Nat → Int32) (f6429 : Nat → Int32) (f6430 : Nat → Int32) (p6431 : Int32) (f6432 : Nat → Int32) (bp6402 : gB p6402 0 21) (bp6410 : gB p6410 0 13) (bp6414 : gB p6414 0 40) (bp6415 : gB p6415 0 200) (bp6416 : gB p6416 0 1) (bf6422 : gF f6422 0 200) (bf6425 : gF f6425 0 21) (bp6431 : gB p6431 0 8192) (bf6432 : gF f6432 (-128) 127) (x6433 : (p6417.toInt ≠ 5 ∨ (0 ≤ p6418.toInt ∧ p6418.toInt ≤ 13))) : Ct (gV D I) l yX8_acceptOnly cX8_acceptOnly 4 (some FieldType.boolean) 3 60 0 0 [.ref q6387, .ref q6388, .int p6402, .int p6403] [(q6387, .inr (13, [.ref q6389, .ref q6390, .int p6404, .int p6405, .int p6406, .long pl6407, .int p6408, .int p6409, .int p6410, .int p6411, .int p6412, .int p6413])), (q6388, .inr (5, [.ref q6391, .ref q6392, .ref q6393, .ref q6394, .ref q6395, .ref q6396, .ref q6397, .ref q6398, .ref q6399, .int p6414, .int p6415, .int p6416])), (q6389, .inr (14, [.ref q6400, .int p6417, .int p6418, .int p6419, .int p6420])), (q6390, .inl (I .int, 80, .inl f6421)), (q6391, .inl (I .int, 40, .inl f6422)), (q6392, .inl (I .int, 40, .inl f6423)), (q6393, .inl (I .int, 40, .inl f6424)), (q6394, .inl (I .int, 200, .inl f6425)), (q6395, .inl (I .int, 200, .inl f6426)), (q6396, .inl (I .int, 200, .inl f6427)), (q6397, .inl (I .int, 200, .inl f6428)), (q6398, .inl (I .int, 200, .inl f6429)), (q6399, .inl (I .int, 200, .inl f6430)), (q6400, .inr (15, [.ref q6401, .int p6431])), (q6401, .inl (I .byte, 8192, .inl f6432))] (po_6434_Reader_acceptOnly I q6387 q6388 q6389 q6390 q6391 q6392 q6393 q6394 q6395 q6396 q6397 q6398 q6399 q6400 q6401 p6402 p6403 p6404 p6405 p6406 pl6407 p6408 p6409 p6410 p6411 p6412 p6413 p6414 p6415 p6416 p6417 p6418 p6419 p6420 f6421 f6422 f6423 f6424 f6425 f6426 f6427 f6428 f6429 f6430 p6431 f6432) gN := by
  refine Ct_of hl0 (by decide) (Nat.le_of_ble_eq_true rfl) ?_
  have bp6403 := gB_any p6403
  have bp6404 := gB_any p6404
  have bp6405 := gB_any p6405
  have bp6406 := gB_any p6406
  have bp6408 := gB_any p6408
  have bp6409 := gB_any p6409
  have bp6411 := gB_any p6411
  have bp6412 := gB_any p6412
  have bp6413 := gB_any p6413
  have bp6417 := gB_any p6417
  have bp6418 := gB_any p6418
  have bp6419 := gB_any p6419
  have bp6420 := gB_any p6420
  refine G_aload_n 0 d_cX8_acceptOnly_0 rfl ?_
  refine G_callV (As := []) (wr := [(q6388, .inr (5, [.ref q6391, .ref q6392, .ref q6393, .ref q6394, .ref q6395, .ref q6396, .ref q6397, .ref q6398, .ref q6399, .int p6414, .int p6415, .int p6416])), (q6391, .inl (I .int, 40, .inl f6422)), (q6392, .inl (I .int, 40, .inl f6423)), (q6393, .inl (I .int, 40, .inl f6424)), (q6394, .inl (I .int, 200, .inl f6425)), (q6395, .inl (I .int, 200, .inl f6426)), (q6396, .inl (I .int, 200, .inl f6427)), (q6397, .inl (I .int, 200, .inl f6428)), (q6398, .inl (I .int, 200, .inl f6429)), (q6399, .inl (I .int, 200, .inl f6430))]) (gV_ok D I) (ct_6033_Reader_takeLeft l hl0 D I q6387 q6389 q6390 q6400 q6401 p6404 p6405 p6406 pl6407 p6408 p6409 p6410 p6411 p6412 p6413 p6417 p6418 p6419 p6420 f6421 p6431 f6432 bp6410 bp6431 bf6432 (by omega)) d_cX8_acceptOnly_1 ⟨w_3_177, w_1_3, w_3_180, by decide, rfl, (Nat.le_of_ble_eq_true rfl), (Nat.le_of_ble_eq_true rfl)⟩ w_3_179 w_p_17 0 rfl rfl [0, 2, 3, 13, 14] [1, 4, 5, 6, 7, 8, 9, 10, 11, 12] rfl rfl rfl rfl (by decide) (Nat.le_of_ble_eq_true rfl) (Nat.le_of_ble_eq_true rfl) (Nat.le_of_ble_eq_true rfl) (fun r w hp => ?_) (fun _ _ _ z => z.elim)
  obtain ⟨o6435, o6436, rfl, rfl, bo6435, bo6436⟩ := hp
  change G _ _ _ _ _ _ _ _ _ _ _
  refine G_ws (ws' := [(q6388, .inr (5, [.ref q6391, .ref q6392, .ref q6393, .ref q6394, .ref q6395, .ref q6396, .ref q6397, .ref q6398, .ref q6399, .int p6414, .int p6415, .int p6416])), (q6391, .inl (I .int, 40, .inl f6422)), (q6392, .inl (I .int, 40, .inl f6423)), (q6393, .inl (I .int, 40, .inl f6424)), (q6394, .inl (I .int, 200, .inl f6425)), (q6395, .inl (I .int, 200, .inl f6426)), (q6396, .inl (I .int, 200, .inl f6427)), (q6397, .inl (I .int, 200, .inl f6428)), (q6398, .inl (I .int, 200, .inl f6429)), (q6399, .inl (I .int, 200, .inl f6430)), (q6387, .inr (13, [.ref q6389, .ref q6390, .int p6404, .int p6405, .int p6406, .long pl6407, .int p6408, .int p6409, .int p6410, .int p6411, .int o6435, .int o6436])), (q6389, .inr (14, [.ref q6400, .int p6417, .int p6418, .int p6419, .int p6420])), (q6390, .inl (I .int, 80, .inl f6421)), (q6400, .inr (15, [.ref q6401, .int p6431])), (q6401, .inl (I .byte, 8192, .inl f6432))]) (cs' := 0) (sl' := 0) rfl rfl rfl ?_
  refine G_aload_n 0 d_cX8_acceptOnly_4 rfl ?_
  refine G_aload_n 1 d_cX8_acceptOnly_5 rfl ?_
  refine G_iload_n 2 d_cX8_acceptOnly_6 rfl ?_
  refine G_iconst (-1) d_cX8_acceptOnly_7 (by decide +kernel) ?_
  refine G_iconst 0 d_cX8_acceptOnly_8 (by decide +kernel) ?_
  refine G_callV (As := [.ref q6388, .int p6402, .int (-1), .int 0]) (wr := []) (gV_ok D I) (ct_5894_Reader_keep l hl0 D I q6387 q6388 q6389 q6390 q6391 q6392 q6393 q6394 q6395 q6396 q6397 q6398 q6399 q6400 q6401 p6402 (-1) 0 p6404 p6405 p6406 pl6407 p6408 p6409 p6410 p6411 o6435 o6436 p6414 p6415 p6416 p6417 p6418 p6419 p6420 f6421 f6422 f6423 f6424 f6425 f6426 f6427 f6428 f6429 f6430 p6431 f6432 bp6402 bp6410 bp6414 bp6415 bp6416 bf6422 bf6425 bp6431 bf6432 (by have qa0 : Int32.toInt (-1) = (-1) := (by decide); have qa1 : Int32.toInt 0 = 0 := (by decide); omega)) d_cX8_acceptOnly_9 ⟨w_3_165, w_1_3, w_3_168, by decide, rfl, (Nat.le_of_ble_eq_true rfl), (Nat.le_of_ble_eq_true rfl)⟩ w_3_167 w_p_15 10 rfl rfl [10, 0, 11, 12, 1, 2, 3, 4, 5, 6, 7, 8, 9, 13, 14] [] rfl rfl rfl rfl (by decide) (Nat.le_of_ble_eq_true rfl) (Nat.le_of_ble_eq_true rfl) (Nat.le_of_ble_eq_true rfl) (fun r w hp => ?_) (fun _ _ _ z => z.elim)
  obtain ⟨o6437, o6438, f6439, f6440, f6441, f6442, f6443, f6444, rfl, rfl, bo6437, bo6438, bf6439, bf6440, bf6441, bf6442, bf6443, bf6444⟩ := hp
  change G _ _ _ _ _ _ _ _ _ _ _
  refine G_ws (ws' := [(q6387, .inr (13, [.ref q6389, .ref q6390, .int p6404, .int p6405, .int p6406, .long pl6407, .int p6408, .int p6409, .int p6410, .int p6411, .int o6435, .int o6436])), (q6388, .inr (5, [.ref q6391, .ref q6392, .ref q6393, .ref q6394, .ref q6395, .ref q6396, .ref q6397, .ref q6398, .ref q6399, .int p6414, .int o6437, .int o6438])), (q6389, .inr (14, [.ref q6400, .int p6417, .int p6418, .int p6419, .int p6420])), (q6390, .inl (I .int, 80, .inl f6421)), (q6391, .inl (I .int, 40, .inl f6422)), (q6392, .inl (I .int, 40, .inl f6423)), (q6393, .inl (I .int, 40, .inl f6424)), (q6394, .inl (I .int, 200, .inl f6439)), (q6395, .inl (I .int, 200, .inl f6440)), (q6396, .inl (I .int, 200, .inl f6441)), (q6397, .inl (I .int, 200, .inl f6442)), (q6398, .inl (I .int, 200, .inl f6443)), (q6399, .inl (I .int, 200, .inl f6444)), (q6400, .inr (15, [.ref q6401, .int p6431])), (q6401, .inl (I .byte, 8192, .inl f6432))]) (cs' := 0) (sl' := 0) rfl rfl rfl ?_
  refine G_aload_n 0 d_cX8_acceptOnly_12 rfl ?_
  refine G_iload_n 3 d_cX8_acceptOnly_13 rfl ?_
  refine G_putf (ws' := [(q6387, .inr (13, [.ref q6389, .ref q6390, .int p6404, .int p6405, .int p6406, .long pl6407, .int p6408, .int p6403, .int p6410, .int p6411, .int o6435, .int o6436])), (q6388, .inr (5, [.ref q6391, .ref q6392, .ref q6393, .ref q6394, .ref q6395, .ref q6396, .ref q6397, .ref q6398, .ref q6399, .int p6414, .int o6437, .int o6438])), (q6389, .inr (14, [.ref q6400, .int p6417, .int p6418, .int p6419, .int p6420])), (q6390, .inl (I .int, 80, .inl f6421)), (q6391, .inl (I .int, 40, .inl f6422)), (q6392, .inl (I .int, 40, .inl f6423)), (q6393, .inl (I .int, 40, .inl f6424)), (q6394, .inl (I .int, 200, .inl f6439)), (q6395, .inl (I .int, 200, .inl f6440)), (q6396, .inl (I .int, 200, .inl f6441)), (q6397, .inl (I .int, 200, .inl f6442)), (q6398, .inl (I .int, 200, .inl f6443)), (q6399, .inl (I .int, 200, .inl f6444)), (q6400, .inr (15, [.ref q6401, .int p6431])), (q6401, .inl (I .byte, 8192, .inl f6432))]) 0 7 d_cX8_acceptOnly_14 rfl (gk_X8 D I) (Nat.le_of_ble_eq_true rfl) w_1_103 rfl rfl rfl (Nat.le_of_ble_eq_true rfl) rfl ?_
  refine G_aload_n 0 d_cX8_acceptOnly_17 rfl ?_
  refine G_callV (As := []) (wr := [(q6388, .inr (5, [.ref q6391, .ref q6392, .ref q6393, .ref q6394, .ref q6395, .ref q6396, .ref q6397, .ref q6398, .ref q6399, .int p6414, .int o6437, .int o6438])), (q6391, .inl (I .int, 40, .inl f6422)), (q6392, .inl (I .int, 40, .inl f6423)), (q6393, .inl (I .int, 40, .inl f6424)), (q6394, .inl (I .int, 200, .inl f6439)), (q6395, .inl (I .int, 200, .inl f6440)), (q6396, .inl (I .int, 200, .inl f6441)), (q6397, .inl (I .int, 200, .inl f6442)), (q6398, .inl (I .int, 200, .inl f6443)), (q6399, .inl (I .int, 200, .inl f6444))]) (gV_ok D I) (ct_6121_Reader_isOperand l hl0 D I q6387 q6389 q6390 q6400 q6401 p6404 p6405 p6406 pl6407 p6408 p6403 p6410 p6411 o6435 o6436 p6417 p6418 p6419 p6420 f6421 p6431 f6432 bp6410 bp6431 bf6432 (by omega)) d_cX8_acceptOnly_18 ⟨w_3_189, w_1_3, w_3_192, by decide, rfl, (Nat.le_of_ble_eq_true rfl), (Nat.le_of_ble_eq_true rfl)⟩ w_3_191 w_p_20 0 rfl rfl [0, 2, 3, 13, 14] [1, 4, 5, 6, 7, 8, 9, 10, 11, 12] rfl rfl rfl rfl (by decide) (Nat.le_of_ble_eq_true rfl) (Nat.le_of_ble_eq_true rfl) (Nat.le_of_ble_eq_true rfl) (fun r w hp => ?_) (fun _ _ _ z => z.elim)
  rcases hp with ⟨rfl, rfl, r6445⟩ | ⟨rfl, rfl, r6446, r6447⟩ | ⟨rfl, rfl, r6448, r6449⟩
  · have bp6417' : gB p6417 2 2 := ⟨by omega, by omega⟩
    change G _ _ _ _ _ _ _ (.int 1 :: _) _ _ _
    refine G_ws (ws' := [(q6388, .inr (5, [.ref q6391, .ref q6392, .ref q6393, .ref q6394, .ref q6395, .ref q6396, .ref q6397, .ref q6398, .ref q6399, .int p6414, .int o6437, .int o6438])), (q6391, .inl (I .int, 40, .inl f6422)), (q6392, .inl (I .int, 40, .inl f6423)), (q6393, .inl (I .int, 40, .inl f6424)), (q6394, .inl (I .int, 200, .inl f6439)), (q6395, .inl (I .int, 200, .inl f6440)), (q6396, .inl (I .int, 200, .inl f6441)), (q6397, .inl (I .int, 200, .inl f6442)), (q6398, .inl (I .int, 200, .inl f6443)), (q6399, .inl (I .int, 200, .inl f6444)), (q6387, .inr (13, [.ref q6389, .ref q6390, .int p6404, .int p6405, .int p6406, .long pl6407, .int p6408, .int p6403, .int p6410, .int p6411, .int o6435, .int o6436])), (q6389, .inr (14, [.ref q6400, .int p6417, .int p6418, .int p6419, .int p6420])), (q6390, .inl (I .int, 80, .inl f6421)), (q6400, .inr (15, [.ref q6401, .int p6431])), (q6401, .inl (I .byte, 8192, .inl f6432))]) (cs' := 0) (sl' := 0) rfl rfl rfl ?_
    refine G_sub (ws' := [(q6387, .inr (13, [.ref q6389, .ref q6390, .int p6404, .int p6405, .int p6406, .long pl6407, .int p6408, .int p6403, .int p6410, .int p6411, .int o6435, .int o6436])), (q6388, .inr (5, [.ref q6391, .ref q6392, .ref q6393, .ref q6394, .ref q6395, .ref q6396, .ref q6397, .ref q6398, .ref q6399, .int p6414, .int o6437, .int o6438])), (q6389, .inr (14, [.ref q6400, .int p6417, .int p6418, .int p6419, .int p6420])), (q6390, .inl (I .int, 80, .inl f6421)), (q6391, .inl (I .int, 40, .inl f6422)), (q6392, .inl (I .int, 40, .inl f6423)), (q6393, .inl (I .int, 40, .inl f6424)), (q6394, .inl (I .int, 200, .inl f6439)), (q6395, .inl (I .int, 200, .inl f6440)), (q6396, .inl (I .int, 200, .inl f6441)), (q6397, .inl (I .int, 200, .inl f6442)), (q6398, .inl (I .int, 200, .inl f6443)), (q6399, .inl (I .int, 200, .inl f6444)), (q6400, .inr (15, [.ref q6401, .int p6431])), (q6401, .inl (I .byte, 8192, .inl f6432))]) [10, 0, 11, 12, 1, 2, 3, 4, 5, 6, 7, 8, 9, 13, 14] rfl rfl ?_
    exact G_zret FieldType.boolean d_cX8_acceptOnly_21 rfl rfl (Nat.le_of_ble_eq_true rfl) (Nat.le_of_ble_eq_true rfl) ⟨1, p6403, o6435, o6436, o6437, o6438, f6439, f6440, f6441, f6442, f6443, f6444, rfl, rfl, (gB_w (gBl (show Int32.toInt 1 = 1 by decide)) (by decide) (by decide)), bp6403, bo6435, bo6436, bo6437, bo6438, bf6439, bf6440, bf6441, bf6442, bf6443, bf6444⟩
  · change G _ _ _ _ _ _ _ (.int 0 :: _) _ _ _
    refine G_ws (ws' := [(q6388, .inr (5, [.ref q6391, .ref q6392, .ref q6393, .ref q6394, .ref q6395, .ref q6396, .ref q6397, .ref q6398, .ref q6399, .int p6414, .int o6437, .int o6438])), (q6391, .inl (I .int, 40, .inl f6422)), (q6392, .inl (I .int, 40, .inl f6423)), (q6393, .inl (I .int, 40, .inl f6424)), (q6394, .inl (I .int, 200, .inl f6439)), (q6395, .inl (I .int, 200, .inl f6440)), (q6396, .inl (I .int, 200, .inl f6441)), (q6397, .inl (I .int, 200, .inl f6442)), (q6398, .inl (I .int, 200, .inl f6443)), (q6399, .inl (I .int, 200, .inl f6444)), (q6387, .inr (13, [.ref q6389, .ref q6390, .int p6404, .int p6405, .int p6406, .long pl6407, .int p6408, .int p6403, .int p6410, .int p6411, .int o6435, .int o6436])), (q6389, .inr (14, [.ref q6400, .int p6417, .int p6418, .int p6419, .int p6420])), (q6390, .inl (I .int, 80, .inl f6421)), (q6400, .inr (15, [.ref q6401, .int p6431])), (q6401, .inl (I .byte, 8192, .inl f6432))]) (cs' := 0) (sl' := 0) rfl rfl rfl ?_
    refine G_sub (ws' := [(q6387, .inr (13, [.ref q6389, .ref q6390, .int p6404, .int p6405, .int p6406, .long pl6407, .int p6408, .int p6403, .int p6410, .int p6411, .int o6435, .int o6436])), (q6388, .inr (5, [.ref q6391, .ref q6392, .ref q6393, .ref q6394, .ref q6395, .ref q6396, .ref q6397, .ref q6398, .ref q6399, .int p6414, .int o6437, .int o6438])), (q6389, .inr (14, [.ref q6400, .int p6417, .int p6418, .int p6419, .int p6420])), (q6390, .inl (I .int, 80, .inl f6421)), (q6391, .inl (I .int, 40, .inl f6422)), (q6392, .inl (I .int, 40, .inl f6423)), (q6393, .inl (I .int, 40, .inl f6424)), (q6394, .inl (I .int, 200, .inl f6439)), (q6395, .inl (I .int, 200, .inl f6440)), (q6396, .inl (I .int, 200, .inl f6441)), (q6397, .inl (I .int, 200, .inl f6442)), (q6398, .inl (I .int, 200, .inl f6443)), (q6399, .inl (I .int, 200, .inl f6444)), (q6400, .inr (15, [.ref q6401, .int p6431])), (q6401, .inl (I .byte, 8192, .inl f6432))]) [10, 0, 11, 12, 1, 2, 3, 4, 5, 6, 7, 8, 9, 13, 14] rfl rfl ?_
    exact G_zret FieldType.boolean d_cX8_acceptOnly_21 rfl rfl (Nat.le_of_ble_eq_true rfl) (Nat.le_of_ble_eq_true rfl) ⟨0, p6403, o6435, o6436, o6437, o6438, f6439, f6440, f6441, f6442, f6443, f6444, rfl, rfl, (gB_w (gBl (show Int32.toInt 0 = 0 by decide)) (by decide) (by decide)), bp6403, bo6435, bo6436, bo6437, bo6438, bf6439, bf6440, bf6441, bf6442, bf6443, bf6444⟩
  · have bp6417' : gB p6417 4 4 := ⟨by omega, by omega⟩
    change G _ _ _ _ _ _ _ (.int 1 :: _) _ _ _
    refine G_ws (ws' := [(q6388, .inr (5, [.ref q6391, .ref q6392, .ref q6393, .ref q6394, .ref q6395, .ref q6396, .ref q6397, .ref q6398, .ref q6399, .int p6414, .int o6437, .int o6438])), (q6391, .inl (I .int, 40, .inl f6422)), (q6392, .inl (I .int, 40, .inl f6423)), (q6393, .inl (I .int, 40, .inl f6424)), (q6394, .inl (I .int, 200, .inl f6439)), (q6395, .inl (I .int, 200, .inl f6440)), (q6396, .inl (I .int, 200, .inl f6441)), (q6397, .inl (I .int, 200, .inl f6442)), (q6398, .inl (I .int, 200, .inl f6443)), (q6399, .inl (I .int, 200, .inl f6444)), (q6387, .inr (13, [.ref q6389, .ref q6390, .int p6404, .int p6405, .int p6406, .long pl6407, .int p6408, .int p6403, .int p6410, .int p6411, .int o6435, .int o6436])), (q6389, .inr (14, [.ref q6400, .int p6417, .int p6418, .int p6419, .int p6420])), (q6390, .inl (I .int, 80, .inl f6421)), (q6400, .inr (15, [.ref q6401, .int p6431])), (q6401, .inl (I .byte, 8192, .inl f6432))]) (cs' := 0) (sl' := 0) rfl rfl rfl ?_
    refine G_sub (ws' := [(q6387, .inr (13, [.ref q6389, .ref q6390, .int p6404, .int p6405, .int p6406, .long pl6407, .int p6408, .int p6403, .int p6410, .int p6411, .int o6435, .int o6436])), (q6388, .inr (5, [.ref q6391, .ref q6392, .ref q6393, .ref q6394, .ref q6395, .ref q6396, .ref q6397, .ref q6398, .ref q6399, .int p6414, .int o6437, .int o6438])), (q6389, .inr (14, [.ref q6400, .int p6417, .int p6418, .int p6419, .int p6420])), (q6390, .inl (I .int, 80, .inl f6421)), (q6391, .inl (I .int, 40, .inl f6422)), (q6392, .inl (I .int, 40, .inl f6423)), (q6393, .inl (I .int, 40, .inl f6424)), (q6394, .inl (I .int, 200, .inl f6439)), (q6395, .inl (I .int, 200, .inl f6440)), (q6396, .inl (I .int, 200, .inl f6441)), (q6397, .inl (I .int, 200, .inl f6442)), (q6398, .inl (I .int, 200, .inl f6443)), (q6399, .inl (I .int, 200, .inl f6444)), (q6400, .inr (15, [.ref q6401, .int p6431])), (q6401, .inl (I .byte, 8192, .inl f6432))]) [10, 0, 11, 12, 1, 2, 3, 4, 5, 6, 7, 8, 9, 13, 14] rfl rfl ?_
    exact G_zret FieldType.boolean d_cX8_acceptOnly_21 rfl rfl (Nat.le_of_ble_eq_true rfl) (Nat.le_of_ble_eq_true rfl) ⟨1, p6403, o6435, o6436, o6437, o6438, f6439, f6440, f6441, f6442, f6443, f6444, rfl, rfl, (gB_w (gBl (show Int32.toInt 1 = 1 by decide)) (by decide) (by decide)), bp6403, bo6435, bo6436, bo6437, bo6438, bf6439, bf6440, bf6441, bf6442, bf6443, bf6444⟩
abbrev ky_6547_Reader_acceptGoal : gKey := (cX8_acceptGoal, 4, yX8_acceptGoal.cls, (some FieldType.boolean), [], yX8_acceptGoal.name, fun _ _ => True)
abbrev po_6547_Reader_acceptGoal (I : FieldType → ClassId) (q6501 : Nat) (q6502 : Nat) (q6503 : Nat) (q6504 : Nat) (q6505 : Nat) (q6506 : Nat) (q6507 : Nat) (q6508 : Nat) (q6509 : Nat) (q6510 : Nat) (q6511 : Nat) (q6512 : Nat) (q6513 : Nat) (q6514 : Nat) (q6515 : Nat) (p6516 : Int32) (p6517 : Int32) (p6518 : Int32) (p6519 : Int32) (pl6520 : Int64) (p6521 : Int32) (p6522 : Int32) (p6523 : Int32) (p6524 : Int32) (p6525 : Int32) (p6526 : Int32) (p6527 : Int32) (p6528 : Int32) (p6529 : Int32) (p6530 : Int32) (p6531 : Int32) (p6532 : Int32) (p6533 : Int32) (f6534 : Nat → Int32) (f6535 : Nat → Int32) (f6536 : Nat → Int32) (f6537 : Nat → Int32) (f6538 : Nat → Int32) (f6539 : Nat → Int32) (f6540 : Nat → Int32) (f6541 : Nat → Int32) (f6542 : Nat → Int32) (f6543 : Nat → Int32) (p6544 : Int32) (f6545 : Nat → Int32) : Option Value → va_W → Prop := fun r w => ∃ (o6564 : Int32) (o6560 : Int32) (f6561 : Nat → Int32) (f6562 : Nat → Int32) (f6563 : Nat → Int32), r = some (.int o6564) ∧ w = [(q6501, .inr (13, [.ref q6503, .ref q6504, .int p6517, .int p6518, .int p6519, .long pl6520, .int p6521, .int o6560, .int p6523, .int p6524, .int p6525, .int p6526])), (q6502, .inr (5, [.ref q6505, .ref q6506, .ref q6507, .ref q6508, .ref q6509, .ref q6510, .ref q6511, .ref q6512, .ref q6513, .int p6527, .int p6528, .int p6529])), (q6503, .inr (14, [.ref q6514, .int p6530, .int p6531, .int p6532, .int p6533])), (q6504, .inl (I .int, 80, .inl f6563)), (q6505, .inl (I .int, 40, .inl f6535)), (q6506, .inl (I .int, 40, .inl f6561)), (q6507, .inl (I .int, 40, .inl f6562)), (q6508, .inl (I .int, 200, .inl f6538)), (q6509, .inl (I .int, 200, .inl f6539)), (q6510, .inl (I .int, 200, .inl f6540)), (q6511, .inl (I .int, 200, .inl f6541)), (q6512, .inl (I .int, 200, .inl f6542)), (q6513, .inl (I .int, 200, .inl f6543)), (q6514, .inr (15, [.ref q6515, .int p6544])), (q6515, .inl (I .byte, 8192, .inl f6545))] ∧ gB o6564 0 1 ∧ gB o6560 (-2147483648) 2147483647 ∧ gF f6561 (-2147483648) 2147483647 ∧ gF f6562 (-2147483648) 2147483647 ∧ gF f6563 (-2147483648) 2147483647
set_option maxRecDepth 100000 in
set_option maxHeartbeats 4000000 in
theorem ct_6547_Reader_acceptGoal (l : Launch) (hl0 : l.stackTraces = false) (D : va_G) (I : FieldType → ClassId) (q6501 : Nat) (q6502 : Nat) (q6503 : Nat) (q6504 : Nat) (q6505 : Nat) (q6506 : Nat) (q6507 : Nat) (q6508 : Nat) (q6509 : Nat) (q6510 : Nat) (q6511 : Nat) (q6512 : Nat) (q6513 : Nat) (q6514 : Nat) (q6515 : Nat) (p6516 : Int32) (p6517 : Int32) (p6518 : Int32) (p6519 : Int32) (pl6520 : Int64) (p6521 : Int32) (p6522 : Int32) (p6523 : Int32) (p6524 : Int32) (p6525 : Int32) (p6526 : Int32) (p6527 : Int32) (p6528 : Int32) (p6529 : Int32) (p6530 : Int32) (p6531 : Int32) (p6532 : Int32) (p6533 : Int32) (f6534 : Nat → Int32) (f6535 : Nat → Int32) (f6536 : Nat → Int32) (f6537 : Nat → Int32) (f6538 : Nat → Int32) (f6539 : Nat → Int32) (f6540 : Nat → Int32) (f6541 : Nat → Int32) (f6542 : Nat → Int32) (f6543 : Nat → Int32) (p6544 : Int32) (f6545 : Nat → Int32) (bp6523 : gB p6523 0 13) (bp6527 : gB p6527 0 40) (bp6528 : gB p6528 0 200) (bp6529 : gB p6529 0 1) (bf6535 : gF f6535 0 200) (bf6538 : gF f6538 0 21) (bp6544 : gB p6544 0 8192) (bf6545 : gF f6545 (-128) 127) (x6546 : (p6530.toInt ≠ 5 ∨ (0 ≤ p6531.toInt ∧ p6531.toInt ≤ 13))) : Ct (gV D I) l yX8_acceptGoal cX8_acceptGoal 4 (some FieldType.boolean) 1 24 0 0 [.ref q6501, .ref q6502, .int p6516] [(q6501, .inr (13, [.ref q6503, .ref q6504, .int p6517, .int p6518, .int p6519, .long pl6520, .int p6521, .int p6522, .int p6523, .int p6524, .int p6525, .int p6526])), (q6502, .inr (5, [.ref q6505, .ref q6506, .ref q6507, .ref q6508, .ref q6509, .ref q6510, .ref q6511, .ref q6512, .ref q6513, .int p6527, .int p6528, .int p6529])), (q6503, .inr (14, [.ref q6514, .int p6530, .int p6531, .int p6532, .int p6533])), (q6504, .inl (I .int, 80, .inl f6534)), (q6505, .inl (I .int, 40, .inl f6535)), (q6506, .inl (I .int, 40, .inl f6536)), (q6507, .inl (I .int, 40, .inl f6537)), (q6508, .inl (I .int, 200, .inl f6538)), (q6509, .inl (I .int, 200, .inl f6539)), (q6510, .inl (I .int, 200, .inl f6540)), (q6511, .inl (I .int, 200, .inl f6541)), (q6512, .inl (I .int, 200, .inl f6542)), (q6513, .inl (I .int, 200, .inl f6543)), (q6514, .inr (15, [.ref q6515, .int p6544])), (q6515, .inl (I .byte, 8192, .inl f6545))] (po_6547_Reader_acceptGoal I q6501 q6502 q6503 q6504 q6505 q6506 q6507 q6508 q6509 q6510 q6511 q6512 q6513 q6514 q6515 p6516 p6517 p6518 p6519 pl6520 p6521 p6522 p6523 p6524 p6525 p6526 p6527 p6528 p6529 p6530 p6531 p6532 p6533 f6534 f6535 f6536 f6537 f6538 f6539 f6540 f6541 f6542 f6543 p6544 f6545) gN := by
  refine Ct_of hl0 (by decide) (Nat.le_of_ble_eq_true rfl) ?_
  have bp6516 := gB_any p6516
  have bp6517 := gB_any p6517
  have bp6518 := gB_any p6518
  have bp6519 := gB_any p6519
  have bp6521 := gB_any p6521
  have bp6522 := gB_any p6522
  have bp6524 := gB_any p6524
  have bp6525 := gB_any p6525
  have bp6526 := gB_any p6526
  have bp6530 := gB_any p6530
  have bp6531 := gB_any p6531
  have bp6532 := gB_any p6532
  have bp6533 := gB_any p6533
  refine G_aload_n 0 d_cX8_acceptGoal_0 rfl ?_
  refine G_getf 0 0 d_cX8_acceptGoal_1 rfl (gk_X8 D I) (Nat.le_of_ble_eq_true rfl) w_1_96 rfl ?_
  refine G_callV (As := []) (wr := [(q6501, .inr (13, [.ref q6503, .ref q6504, .int p6517, .int p6518, .int p6519, .long pl6520, .int p6521, .int p6522, .int p6523, .int p6524, .int p6525, .int p6526])), (q6502, .inr (5, [.ref q6505, .ref q6506, .ref q6507, .ref q6508, .ref q6509, .ref q6510, .ref q6511, .ref q6512, .ref q6513, .int p6527, .int p6528, .int p6529])), (q6504, .inl (I .int, 80, .inl f6534)), (q6505, .inl (I .int, 40, .inl f6535)), (q6506, .inl (I .int, 40, .inl f6536)), (q6507, .inl (I .int, 40, .inl f6537)), (q6508, .inl (I .int, 200, .inl f6538)), (q6509, .inl (I .int, 200, .inl f6539)), (q6510, .inl (I .int, 200, .inl f6540)), (q6511, .inl (I .int, 200, .inl f6541)), (q6512, .inl (I .int, 200, .inl f6542)), (q6513, .inl (I .int, 200, .inl f6543))]) (gV_ok D I) (ct_280_Signs_kind l hl0 D I q6503 q6514 q6515 p6530 p6531 p6532 p6533 p6544 f6545 bp6544 bf6545 (by omega)) d_cX8_acceptGoal_4 ⟨w_3_117, w_1_4, w_3_120, by decide, rfl, (Nat.le_of_ble_eq_true rfl), (Nat.le_of_ble_eq_true rfl)⟩ w_3_118 w_3_119 2 rfl rfl [2, 13, 14] [0, 1, 3, 4, 5, 6, 7, 8, 9, 10, 11, 12] rfl rfl rfl rfl (by decide) (Nat.le_of_ble_eq_true rfl) (Nat.le_of_ble_eq_true rfl) (Nat.le_of_ble_eq_true rfl) (fun r w hp => ?_) (fun _ _ _ z => z.elim)
  obtain ⟨rfl, rfl⟩ := hp
  change G _ _ _ _ _ _ _ (.int p6530 :: _) _ _ _
  refine G_ws (ws' := [(q6501, .inr (13, [.ref q6503, .ref q6504, .int p6517, .int p6518, .int p6519, .long pl6520, .int p6521, .int p6522, .int p6523, .int p6524, .int p6525, .int p6526])), (q6502, .inr (5, [.ref q6505, .ref q6506, .ref q6507, .ref q6508, .ref q6509, .ref q6510, .ref q6511, .ref q6512, .ref q6513, .int p6527, .int p6528, .int p6529])), (q6504, .inl (I .int, 80, .inl f6534)), (q6505, .inl (I .int, 40, .inl f6535)), (q6506, .inl (I .int, 40, .inl f6536)), (q6507, .inl (I .int, 40, .inl f6537)), (q6508, .inl (I .int, 200, .inl f6538)), (q6509, .inl (I .int, 200, .inl f6539)), (q6510, .inl (I .int, 200, .inl f6540)), (q6511, .inl (I .int, 200, .inl f6541)), (q6512, .inl (I .int, 200, .inl f6542)), (q6513, .inl (I .int, 200, .inl f6543)), (q6503, .inr (14, [.ref q6514, .int p6530, .int p6531, .int p6532, .int p6533])), (q6514, .inr (15, [.ref q6515, .int p6544])), (q6515, .inl (I .byte, 8192, .inl f6545))]) (cs' := 0) (sl' := 0) rfl rfl rfl ?_
  refine G_iconst 3 d_cX8_acceptGoal_7 (by decide +kernel) ?_
  refine G_icmp_eq 13 d_cX8_acceptGoal_8 (by decide +kernel) (fun hc6548 => ?_) (fun hc6548 => ?_)
  · have r6549 : p6530.toInt = 3 := gj_eq hc6548 (show Int32.toInt 3 = 3 by decide)
    have bp6530' : gB p6530 3 3 := ⟨by omega, by omega⟩
    refine G_aload_n 0 d_cX8_acceptGoal_13 rfl ?_
    refine G_callV (As := []) (wr := [(q6502, .inr (5, [.ref q6505, .ref q6506, .ref q6507, .ref q6508, .ref q6509, .ref q6510, .ref q6511, .ref q6512, .ref q6513, .int p6527, .int p6528, .int p6529])), (q6505, .inl (I .int, 40, .inl f6535)), (q6506, .inl (I .int, 40, .inl f6536)), (q6507, .inl (I .int, 40, .inl f6537)), (q6508, .inl (I .int, 200, .inl f6538)), (q6509, .inl (I .int, 200, .inl f6539)), (q6510, .inl (I .int, 200, .inl f6540)), (q6511, .inl (I .int, 200, .inl f6541)), (q6512, .inl (I .int, 200, .inl f6542)), (q6513, .inl (I .int, 200, .inl f6543))]) (gV_ok D I) (ct_5591_Reader_isBroken l hl0 D I q6501 q6503 q6504 q6514 q6515 p6517 p6518 p6519 pl6520 p6521 p6522 p6523 p6524 p6525 p6526 p6530 p6531 p6532 p6533 f6534 p6544 f6545 bp6523 bp6544 bf6545 (by omega)) d_cX8_acceptGoal_14 ⟨w_3_133, w_1_3, w_3_136, by decide, rfl, (Nat.le_of_ble_eq_true rfl), (Nat.le_of_ble_eq_true rfl)⟩ w_3_135 w_p_9 0 rfl rfl [0, 12, 2, 13, 14] [1, 3, 4, 5, 6, 7, 8, 9, 10, 11] rfl rfl rfl rfl (by decide) (Nat.le_of_ble_eq_true rfl) (Nat.le_of_ble_eq_true rfl) (Nat.le_of_ble_eq_true rfl) (fun r w hp => ?_) (fun _ _ _ z => z.elim)
    rcases hp with ⟨rfl, rfl, r6550⟩ | ⟨rfl, rfl, r6551⟩
    · have bp6518' : gB p6518 (-1) (-1) := ⟨by omega, by omega⟩
      change G _ _ _ _ _ _ _ (.int 0 :: _) _ _ _
      refine G_ws (ws' := [(q6502, .inr (5, [.ref q6505, .ref q6506, .ref q6507, .ref q6508, .ref q6509, .ref q6510, .ref q6511, .ref q6512, .ref q6513, .int p6527, .int p6528, .int p6529])), (q6505, .inl (I .int, 40, .inl f6535)), (q6506, .inl (I .int, 40, .inl f6536)), (q6507, .inl (I .int, 40, .inl f6537)), (q6508, .inl (I .int, 200, .inl f6538)), (q6509, .inl (I .int, 200, .inl f6539)), (q6510, .inl (I .int, 200, .inl f6540)), (q6511, .inl (I .int, 200, .inl f6541)), (q6512, .inl (I .int, 200, .inl f6542)), (q6513, .inl (I .int, 200, .inl f6543)), (q6501, .inr (13, [.ref q6503, .ref q6504, .int p6517, .int p6518, .int p6519, .long pl6520, .int p6521, .int p6522, .int p6523, .int p6524, .int p6525, .int p6526])), (q6503, .inr (14, [.ref q6514, .int p6530, .int p6531, .int p6532, .int p6533])), (q6504, .inl (I .int, 80, .inl f6534)), (q6514, .inr (15, [.ref q6515, .int p6544])), (q6515, .inl (I .byte, 8192, .inl f6545))]) (cs' := 0) (sl' := 0) rfl rfl rfl ?_
      refine G_if_eq 24 d_cX8_acceptGoal_17 (by decide +kernel) (fun _ => ?_) (fun hc => absurd hc (by decide))
      refine G_aload_n 1 d_cX8_acceptGoal_24 rfl ?_
      refine G_aload_n 0 d_cX8_acceptGoal_25 rfl ?_
      refine G_getf 10 0 d_cX8_acceptGoal_26 rfl (gk_X8 D I) (Nat.le_of_ble_eq_true rfl) w_1_96 rfl ?_
      refine G_callV (As := []) (wr := [(q6502, .inr (5, [.ref q6505, .ref q6506, .ref q6507, .ref q6508, .ref q6509, .ref q6510, .ref q6511, .ref q6512, .ref q6513, .int p6527, .int p6528, .int p6529])), (q6505, .inl (I .int, 40, .inl f6535)), (q6506, .inl (I .int, 40, .inl f6536)), (q6507, .inl (I .int, 40, .inl f6537)), (q6508, .inl (I .int, 200, .inl f6538)), (q6509, .inl (I .int, 200, .inl f6539)), (q6510, .inl (I .int, 200, .inl f6540)), (q6511, .inl (I .int, 200, .inl f6541)), (q6512, .inl (I .int, 200, .inl f6542)), (q6513, .inl (I .int, 200, .inl f6543)), (q6501, .inr (13, [.ref q6503, .ref q6504, .int p6517, .int p6518, .int p6519, .long pl6520, .int p6521, .int p6522, .int p6523, .int p6524, .int p6525, .int p6526])), (q6504, .inl (I .int, 80, .inl f6534))]) (gV_ok D I) (ct_291_Signs_value l hl0 D I q6503 q6514 q6515 p6530 p6531 p6532 p6533 p6544 f6545 bp6544 bf6545 (by omega)) d_cX8_acceptGoal_29 ⟨w_3_129, w_1_4, w_3_132, by decide, rfl, (Nat.le_of_ble_eq_true rfl), (Nat.le_of_ble_eq_true rfl)⟩ w_3_130 w_3_131 11 rfl rfl [11, 13, 14] [0, 1, 2, 3, 4, 5, 6, 7, 8, 9, 10, 12] rfl rfl rfl rfl (by decide) (Nat.le_of_ble_eq_true rfl) (Nat.le_of_ble_eq_true rfl) (Nat.le_of_ble_eq_true rfl) (fun r w hp => ?_) (fun _ _ _ z => z.elim)
      obtain ⟨rfl, rfl⟩ := hp
      change G _ _ _ _ _ _ _ (.int p6531 :: _) _ _ _
      refine G_ws (ws' := [(q6502, .inr (5, [.ref q6505, .ref q6506, .ref q6507, .ref q6508, .ref q6509, .ref q6510, .ref q6511, .ref q6512, .ref q6513, .int p6527, .int p6528, .int p6529])), (q6505, .inl (I .int, 40, .inl f6535)), (q6506, .inl (I .int, 40, .inl f6536)), (q6507, .inl (I .int, 40, .inl f6537)), (q6508, .inl (I .int, 200, .inl f6538)), (q6509, .inl (I .int, 200, .inl f6539)), (q6510, .inl (I .int, 200, .inl f6540)), (q6511, .inl (I .int, 200, .inl f6541)), (q6512, .inl (I .int, 200, .inl f6542)), (q6513, .inl (I .int, 200, .inl f6543)), (q6501, .inr (13, [.ref q6503, .ref q6504, .int p6517, .int p6518, .int p6519, .long pl6520, .int p6521, .int p6522, .int p6523, .int p6524, .int p6525, .int p6526])), (q6504, .inl (I .int, 80, .inl f6534)), (q6503, .inr (14, [.ref q6514, .int p6530, .int p6531, .int p6532, .int p6533])), (q6514, .inr (15, [.ref q6515, .int p6544])), (q6515, .inl (I .byte, 8192, .inl f6545))]) (cs' := 0) (sl' := 0) rfl rfl rfl ?_
      refine G_callV (As := [.int p6531]) (wr := [(q6501, .inr (13, [.ref q6503, .ref q6504, .int p6517, .int p6518, .int p6519, .long pl6520, .int p6521, .int p6522, .int p6523, .int p6524, .int p6525, .int p6526])), (q6504, .inl (I .int, 80, .inl f6534)), (q6503, .inr (14, [.ref q6514, .int p6530, .int p6531, .int p6532, .int p6533])), (q6514, .inr (15, [.ref q6515, .int p6544])), (q6515, .inl (I .byte, 8192, .inl f6545))]) (gV_ok D I) (ct_847_Code_addGoal l hl0 D I q6502 q6505 q6506 q6507 q6508 q6509 q6510 q6511 q6512 q6513 p6531 p6527 p6528 p6529 f6535 f6536 f6537 f6538 f6539 f6540 f6541 f6542 f6543 bp6527 bp6528 bp6529 bf6535 bf6538) d_cX8_acceptGoal_32 ⟨w_3_209, w_1_5, w_3_212, by decide, rfl, (Nat.le_of_ble_eq_true rfl), (Nat.le_of_ble_eq_true rfl)⟩ w_3_210 w_3_211 0 rfl rfl [0, 1, 2, 3, 4, 5, 6, 7, 8, 9] [10, 11, 12, 13, 14] rfl rfl rfl rfl (by decide) (Nat.le_of_ble_eq_true rfl) (Nat.le_of_ble_eq_true rfl) (Nat.le_of_ble_eq_true rfl) (fun r w hp => ?_) (fun _ _ _ z => z.elim)
      obtain ⟨o6552, f6553, f6554, rfl, rfl, bo6552, bf6553, bf6554⟩ := hp
      change G _ _ _ _ _ _ _ (.int o6552 :: _) _ _ _
      refine G_ws (ws' := [(q6501, .inr (13, [.ref q6503, .ref q6504, .int p6517, .int p6518, .int p6519, .long pl6520, .int p6521, .int p6522, .int p6523, .int p6524, .int p6525, .int p6526])), (q6504, .inl (I .int, 80, .inl f6534)), (q6503, .inr (14, [.ref q6514, .int p6530, .int p6531, .int p6532, .int p6533])), (q6514, .inr (15, [.ref q6515, .int p6544])), (q6515, .inl (I .byte, 8192, .inl f6545)), (q6502, .inr (5, [.ref q6505, .ref q6506, .ref q6507, .ref q6508, .ref q6509, .ref q6510, .ref q6511, .ref q6512, .ref q6513, .int p6527, .int p6528, .int p6529])), (q6505, .inl (I .int, 40, .inl f6535)), (q6506, .inl (I .int, 40, .inl f6553)), (q6507, .inl (I .int, 40, .inl f6554)), (q6508, .inl (I .int, 200, .inl f6538)), (q6509, .inl (I .int, 200, .inl f6539)), (q6510, .inl (I .int, 200, .inl f6540)), (q6511, .inl (I .int, 200, .inl f6541)), (q6512, .inl (I .int, 200, .inl f6542)), (q6513, .inl (I .int, 200, .inl f6543))]) (cs' := 0) (sl' := 0) rfl rfl rfl ?_
      refine G_istore_n (L' := [(3, .int o6552), (0, .ref q6501), (1, .ref q6502), (2, .int p6516)]) d_cX8_acceptGoal_35 (Nat.le_of_ble_eq_true rfl) rfl ?_
      refine G_iload_n 0 d_cX8_acceptGoal_36 rfl ?_
      refine G_if_lt 62 d_cX8_acceptGoal_37 (by decide +kernel) (fun hc6555 => ?_) (fun hc6555 => ?_)
      · have r6556 : o6552.toInt < 0 := gj_lt hc6555 (show Int32.toInt 0 = 0 by decide)
        have bo6552' : gB o6552 (-1) (-1) := ⟨by omega, by omega⟩
        refine G_aload_n 1 d_cX8_acceptGoal_62 rfl ?_
        refine G_iload_n 3 d_cX8_acceptGoal_63 rfl ?_
        refine G_putf (ws' := [(q6501, .inr (13, [.ref q6503, .ref q6504, .int p6517, .int p6518, .int p6519, .long pl6520, .int p6521, .int p6516, .int p6523, .int p6524, .int p6525, .int p6526])), (q6504, .inl (I .int, 80, .inl f6534)), (q6503, .inr (14, [.ref q6514, .int p6530, .int p6531, .int p6532, .int p6533])), (q6514, .inr (15, [.ref q6515, .int p6544])), (q6515, .inl (I .byte, 8192, .inl f6545)), (q6502, .inr (5, [.ref q6505, .ref q6506, .ref q6507, .ref q6508, .ref q6509, .ref q6510, .ref q6511, .ref q6512, .ref q6513, .int p6527, .int p6528, .int p6529])), (q6505, .inl (I .int, 40, .inl f6535)), (q6506, .inl (I .int, 40, .inl f6553)), (q6507, .inl (I .int, 40, .inl f6554)), (q6508, .inl (I .int, 200, .inl f6538)), (q6509, .inl (I .int, 200, .inl f6539)), (q6510, .inl (I .int, 200, .inl f6540)), (q6511, .inl (I .int, 200, .inl f6541)), (q6512, .inl (I .int, 200, .inl f6542)), (q6513, .inl (I .int, 200, .inl f6543))]) 0 7 d_cX8_acceptGoal_64 rfl (gk_X8 D I) (Nat.le_of_ble_eq_true rfl) w_1_103 rfl rfl rfl (Nat.le_of_ble_eq_true rfl) rfl ?_
        refine G_iconst 1 d_cX8_acceptGoal_67 (by decide +kernel) ?_
        refine G_sub (ws' := [(q6501, .inr (13, [.ref q6503, .ref q6504, .int p6517, .int p6518, .int p6519, .long pl6520, .int p6521, .int p6516, .int p6523, .int p6524, .int p6525, .int p6526])), (q6502, .inr (5, [.ref q6505, .ref q6506, .ref q6507, .ref q6508, .ref q6509, .ref q6510, .ref q6511, .ref q6512, .ref q6513, .int p6527, .int p6528, .int p6529])), (q6503, .inr (14, [.ref q6514, .int p6530, .int p6531, .int p6532, .int p6533])), (q6504, .inl (I .int, 80, .inl f6534)), (q6505, .inl (I .int, 40, .inl f6535)), (q6506, .inl (I .int, 40, .inl f6553)), (q6507, .inl (I .int, 40, .inl f6554)), (q6508, .inl (I .int, 200, .inl f6538)), (q6509, .inl (I .int, 200, .inl f6539)), (q6510, .inl (I .int, 200, .inl f6540)), (q6511, .inl (I .int, 200, .inl f6541)), (q6512, .inl (I .int, 200, .inl f6542)), (q6513, .inl (I .int, 200, .inl f6543)), (q6514, .inr (15, [.ref q6515, .int p6544])), (q6515, .inl (I .byte, 8192, .inl f6545))]) [0, 5, 2, 1, 6, 7, 8, 9, 10, 11, 12, 13, 14, 3, 4] rfl rfl ?_
        exact G_zret FieldType.boolean d_cX8_acceptGoal_68 rfl rfl (Nat.le_of_ble_eq_true rfl) (Nat.le_of_ble_eq_true rfl) ⟨1, p6516, f6553, f6554, f6534, rfl, rfl, (gB_w (gBl (show Int32.toInt 1 = 1 by decide)) (by decide) (by decide)), bp6516, bf6553, bf6554, (gF_any f6534)⟩
      · have r6557 : 0 ≤ o6552.toInt := gj_nlt hc6555 (show Int32.toInt 0 = 0 by decide)
        have bo6552' : gB o6552 0 79 := ⟨by omega, by omega⟩
        refine G_iload_n 0 d_cX8_acceptGoal_40 rfl ?_
        refine G_aload_n 1 d_cX8_acceptGoal_41 rfl ?_
        refine G_getf 0 1 d_cX8_acceptGoal_42 rfl (gk_X8 D I) (Nat.le_of_ble_eq_true rfl) w_1_97 rfl ?_
        refine G_alen 80 1 0 d_cX8_acceptGoal_45 rfl rfl rfl ?_
        refine G_icmp_ge 62 d_cX8_acceptGoal_46 (by decide +kernel) (fun hc => absurd (show False by have := gj_leL hc (show Int32.toInt 80 = 80 by decide); omega) not_false) (fun _ => ?_)
        refine G_aload_n 1 d_cX8_acceptGoal_49 rfl ?_
        refine G_getf 0 1 d_cX8_acceptGoal_50 rfl (gk_X8 D I) (Nat.le_of_ble_eq_true rfl) w_1_97 rfl ?_
        refine G_iload_n 0 d_cX8_acceptGoal_53 rfl ?_
        refine G_aload_n 1 d_cX8_acceptGoal_54 rfl ?_
        refine G_getf 0 0 d_cX8_acceptGoal_55 rfl (gk_X8 D I) (Nat.le_of_ble_eq_true rfl) w_1_96 rfl ?_
        refine G_callV (As := []) (wr := [(q6501, .inr (13, [.ref q6503, .ref q6504, .int p6517, .int p6518, .int p6519, .long pl6520, .int p6521, .int p6522, .int p6523, .int p6524, .int p6525, .int p6526])), (q6504, .inl (I .int, 80, .inl f6534)), (q6502, .inr (5, [.ref q6505, .ref q6506, .ref q6507, .ref q6508, .ref q6509, .ref q6510, .ref q6511, .ref q6512, .ref q6513, .int p6527, .int p6528, .int p6529])), (q6505, .inl (I .int, 40, .inl f6535)), (q6506, .inl (I .int, 40, .inl f6553)), (q6507, .inl (I .int, 40, .inl f6554)), (q6508, .inl (I .int, 200, .inl f6538)), (q6509, .inl (I .int, 200, .inl f6539)), (q6510, .inl (I .int, 200, .inl f6540)), (q6511, .inl (I .int, 200, .inl f6541)), (q6512, .inl (I .int, 200, .inl f6542)), (q6513, .inl (I .int, 200, .inl f6543))]) (gV_ok D I) (ct_302_Signs_place l hl0 D I q6503 q6514 q6515 p6530 p6531 p6532 p6533 p6544 f6545 bp6544 bf6545 (by omega)) d_cX8_acceptGoal_58 ⟨w_3_145, w_1_4, w_3_148, by decide, rfl, (Nat.le_of_ble_eq_true rfl), (Nat.le_of_ble_eq_true rfl)⟩ w_3_146 w_3_147 2 rfl rfl [2, 3, 4] [0, 1, 5, 6, 7, 8, 9, 10, 11, 12, 13, 14] rfl rfl rfl rfl (by decide) (Nat.le_of_ble_eq_true rfl) (Nat.le_of_ble_eq_true rfl) (Nat.le_of_ble_eq_true rfl) (fun r w hp => ?_) (fun _ _ _ z => z.elim)
        obtain ⟨rfl, rfl⟩ := hp
        change G _ _ _ _ _ _ _ (.int p6532 :: _) _ _ _
        refine G_ws (ws' := [(q6501, .inr (13, [.ref q6503, .ref q6504, .int p6517, .int p6518, .int p6519, .long pl6520, .int p6521, .int p6522, .int p6523, .int p6524, .int p6525, .int p6526])), (q6504, .inl (I .int, 80, .inl f6534)), (q6502, .inr (5, [.ref q6505, .ref q6506, .ref q6507, .ref q6508, .ref q6509, .ref q6510, .ref q6511, .ref q6512, .ref q6513, .int p6527, .int p6528, .int p6529])), (q6505, .inl (I .int, 40, .inl f6535)), (q6506, .inl (I .int, 40, .inl f6553)), (q6507, .inl (I .int, 40, .inl f6554)), (q6508, .inl (I .int, 200, .inl f6538)), (q6509, .inl (I .int, 200, .inl f6539)), (q6510, .inl (I .int, 200, .inl f6540)), (q6511, .inl (I .int, 200, .inl f6541)), (q6512, .inl (I .int, 200, .inl f6542)), (q6513, .inl (I .int, 200, .inl f6543)), (q6503, .inr (14, [.ref q6514, .int p6530, .int p6531, .int p6532, .int p6533])), (q6514, .inr (15, [.ref q6515, .int p6544])), (q6515, .inl (I .byte, 8192, .inl f6545))]) (cs' := 0) (sl' := 0) rfl rfl rfl ?_
        refine G_iastN 1 0 d_cX8_acceptGoal_61 rfl rfl (gB_in bo6552' (by decide) (by decide)) (fun f6558 hf6558 => ?_)
        refine G_ws (ws' := [(q6501, .inr (13, [.ref q6503, .ref q6504, .int p6517, .int p6518, .int p6519, .long pl6520, .int p6521, .int p6522, .int p6523, .int p6524, .int p6525, .int p6526])), (q6504, .inl (I .int, 80, .inl f6558)), (q6502, .inr (5, [.ref q6505, .ref q6506, .ref q6507, .ref q6508, .ref q6509, .ref q6510, .ref q6511, .ref q6512, .ref q6513, .int p6527, .int p6528, .int p6529])), (q6505, .inl (I .int, 40, .inl f6535)), (q6506, .inl (I .int, 40, .inl f6553)), (q6507, .inl (I .int, 40, .inl f6554)), (q6508, .inl (I .int, 200, .inl f6538)), (q6509, .inl (I .int, 200, .inl f6539)), (q6510, .inl (I .int, 200, .inl f6540)), (q6511, .inl (I .int, 200, .inl f6541)), (q6512, .inl (I .int, 200, .inl f6542)), (q6513, .inl (I .int, 200, .inl f6543)), (q6503, .inr (14, [.ref q6514, .int p6530, .int p6531, .int p6532, .int p6533])), (q6514, .inr (15, [.ref q6515, .int p6544])), (q6515, .inl (I .byte, 8192, .inl f6545))]) (cs' := 0) (sl' := 0) rfl rfl rfl ?_
        refine G_aload_n 1 d_cX8_acceptGoal_62 rfl ?_
        refine G_iload_n 3 d_cX8_acceptGoal_63 rfl ?_
        refine G_putf (ws' := [(q6501, .inr (13, [.ref q6503, .ref q6504, .int p6517, .int p6518, .int p6519, .long pl6520, .int p6521, .int p6516, .int p6523, .int p6524, .int p6525, .int p6526])), (q6504, .inl (I .int, 80, .inl f6558)), (q6502, .inr (5, [.ref q6505, .ref q6506, .ref q6507, .ref q6508, .ref q6509, .ref q6510, .ref q6511, .ref q6512, .ref q6513, .int p6527, .int p6528, .int p6529])), (q6505, .inl (I .int, 40, .inl f6535)), (q6506, .inl (I .int, 40, .inl f6553)), (q6507, .inl (I .int, 40, .inl f6554)), (q6508, .inl (I .int, 200, .inl f6538)), (q6509, .inl (I .int, 200, .inl f6539)), (q6510, .inl (I .int, 200, .inl f6540)), (q6511, .inl (I .int, 200, .inl f6541)), (q6512, .inl (I .int, 200, .inl f6542)), (q6513, .inl (I .int, 200, .inl f6543)), (q6503, .inr (14, [.ref q6514, .int p6530, .int p6531, .int p6532, .int p6533])), (q6514, .inr (15, [.ref q6515, .int p6544])), (q6515, .inl (I .byte, 8192, .inl f6545))]) 0 7 d_cX8_acceptGoal_64 rfl (gk_X8 D I) (Nat.le_of_ble_eq_true rfl) w_1_103 rfl rfl rfl (Nat.le_of_ble_eq_true rfl) rfl ?_
        refine G_iconst 1 d_cX8_acceptGoal_67 (by decide +kernel) ?_
        refine G_sub (ws' := [(q6501, .inr (13, [.ref q6503, .ref q6504, .int p6517, .int p6518, .int p6519, .long pl6520, .int p6521, .int p6516, .int p6523, .int p6524, .int p6525, .int p6526])), (q6502, .inr (5, [.ref q6505, .ref q6506, .ref q6507, .ref q6508, .ref q6509, .ref q6510, .ref q6511, .ref q6512, .ref q6513, .int p6527, .int p6528, .int p6529])), (q6503, .inr (14, [.ref q6514, .int p6530, .int p6531, .int p6532, .int p6533])), (q6504, .inl (I .int, 80, .inl f6558)), (q6505, .inl (I .int, 40, .inl f6535)), (q6506, .inl (I .int, 40, .inl f6553)), (q6507, .inl (I .int, 40, .inl f6554)), (q6508, .inl (I .int, 200, .inl f6538)), (q6509, .inl (I .int, 200, .inl f6539)), (q6510, .inl (I .int, 200, .inl f6540)), (q6511, .inl (I .int, 200, .inl f6541)), (q6512, .inl (I .int, 200, .inl f6542)), (q6513, .inl (I .int, 200, .inl f6543)), (q6514, .inr (15, [.ref q6515, .int p6544])), (q6515, .inl (I .byte, 8192, .inl f6545))]) [0, 2, 12, 1, 3, 4, 5, 6, 7, 8, 9, 10, 11, 13, 14] rfl rfl ?_
        exact G_zret FieldType.boolean d_cX8_acceptGoal_68 rfl rfl (Nat.le_of_ble_eq_true rfl) (Nat.le_of_ble_eq_true rfl) ⟨1, p6516, f6553, f6554, f6558, rfl, rfl, (gB_w (gBl (show Int32.toInt 1 = 1 by decide)) (by decide) (by decide)), bp6516, bf6553, bf6554, (gF_any f6558)⟩
    · change G _ _ _ _ _ _ _ (.int 1 :: _) _ _ _
      refine G_ws (ws' := [(q6502, .inr (5, [.ref q6505, .ref q6506, .ref q6507, .ref q6508, .ref q6509, .ref q6510, .ref q6511, .ref q6512, .ref q6513, .int p6527, .int p6528, .int p6529])), (q6505, .inl (I .int, 40, .inl f6535)), (q6506, .inl (I .int, 40, .inl f6536)), (q6507, .inl (I .int, 40, .inl f6537)), (q6508, .inl (I .int, 200, .inl f6538)), (q6509, .inl (I .int, 200, .inl f6539)), (q6510, .inl (I .int, 200, .inl f6540)), (q6511, .inl (I .int, 200, .inl f6541)), (q6512, .inl (I .int, 200, .inl f6542)), (q6513, .inl (I .int, 200, .inl f6543)), (q6501, .inr (13, [.ref q6503, .ref q6504, .int p6517, .int p6518, .int p6519, .long pl6520, .int p6521, .int p6522, .int p6523, .int p6524, .int p6525, .int p6526])), (q6503, .inr (14, [.ref q6514, .int p6530, .int p6531, .int p6532, .int p6533])), (q6504, .inl (I .int, 80, .inl f6534)), (q6514, .inr (15, [.ref q6515, .int p6544])), (q6515, .inl (I .byte, 8192, .inl f6545))]) (cs' := 0) (sl' := 0) rfl rfl rfl ?_
      refine G_if_eq 24 d_cX8_acceptGoal_17 (by decide +kernel) (fun hc => absurd hc (by decide)) (fun _ => ?_)
      refine G_iconst (-1) d_cX8_acceptGoal_20 (by decide +kernel) ?_
      refine G_goto 35 d_cX8_acceptGoal_21 (by decide +kernel) ?_
      refine G_istore_n (L' := [(3, .int (-1)), (0, .ref q6501), (1, .ref q6502), (2, .int p6516)]) d_cX8_acceptGoal_35 (Nat.le_of_ble_eq_true rfl) rfl ?_
      refine G_iload_n 0 d_cX8_acceptGoal_36 rfl ?_
      refine G_if_lt 62 d_cX8_acceptGoal_37 (by decide +kernel) (fun _ => ?_) (fun hc => absurd hc (by decide))
      refine G_aload_n 1 d_cX8_acceptGoal_62 rfl ?_
      refine G_iload_n 3 d_cX8_acceptGoal_63 rfl ?_
      refine G_putf (ws' := [(q6502, .inr (5, [.ref q6505, .ref q6506, .ref q6507, .ref q6508, .ref q6509, .ref q6510, .ref q6511, .ref q6512, .ref q6513, .int p6527, .int p6528, .int p6529])), (q6505, .inl (I .int, 40, .inl f6535)), (q6506, .inl (I .int, 40, .inl f6536)), (q6507, .inl (I .int, 40, .inl f6537)), (q6508, .inl (I .int, 200, .inl f6538)), (q6509, .inl (I .int, 200, .inl f6539)), (q6510, .inl (I .int, 200, .inl f6540)), (q6511, .inl (I .int, 200, .inl f6541)), (q6512, .inl (I .int, 200, .inl f6542)), (q6513, .inl (I .int, 200, .inl f6543)), (q6501, .inr (13, [.ref q6503, .ref q6504, .int p6517, .int p6518, .int p6519, .long pl6520, .int p6521, .int p6516, .int p6523, .int p6524, .int p6525, .int p6526])), (q6503, .inr (14, [.ref q6514, .int p6530, .int p6531, .int p6532, .int p6533])), (q6504, .inl (I .int, 80, .inl f6534)), (q6514, .inr (15, [.ref q6515, .int p6544])), (q6515, .inl (I .byte, 8192, .inl f6545))]) 10 7 d_cX8_acceptGoal_64 rfl (gk_X8 D I) (Nat.le_of_ble_eq_true rfl) w_1_103 rfl rfl rfl (Nat.le_of_ble_eq_true rfl) rfl ?_
      refine G_iconst 1 d_cX8_acceptGoal_67 (by decide +kernel) ?_
      refine G_sub (ws' := [(q6501, .inr (13, [.ref q6503, .ref q6504, .int p6517, .int p6518, .int p6519, .long pl6520, .int p6521, .int p6516, .int p6523, .int p6524, .int p6525, .int p6526])), (q6502, .inr (5, [.ref q6505, .ref q6506, .ref q6507, .ref q6508, .ref q6509, .ref q6510, .ref q6511, .ref q6512, .ref q6513, .int p6527, .int p6528, .int p6529])), (q6503, .inr (14, [.ref q6514, .int p6530, .int p6531, .int p6532, .int p6533])), (q6504, .inl (I .int, 80, .inl f6534)), (q6505, .inl (I .int, 40, .inl f6535)), (q6506, .inl (I .int, 40, .inl f6536)), (q6507, .inl (I .int, 40, .inl f6537)), (q6508, .inl (I .int, 200, .inl f6538)), (q6509, .inl (I .int, 200, .inl f6539)), (q6510, .inl (I .int, 200, .inl f6540)), (q6511, .inl (I .int, 200, .inl f6541)), (q6512, .inl (I .int, 200, .inl f6542)), (q6513, .inl (I .int, 200, .inl f6543)), (q6514, .inr (15, [.ref q6515, .int p6544])), (q6515, .inl (I .byte, 8192, .inl f6545))]) [10, 0, 11, 12, 1, 2, 3, 4, 5, 6, 7, 8, 9, 13, 14] rfl rfl ?_
      exact G_zret FieldType.boolean d_cX8_acceptGoal_68 rfl rfl (Nat.le_of_ble_eq_true rfl) (Nat.le_of_ble_eq_true rfl) ⟨1, p6516, f6536, f6537, f6534, rfl, rfl, (gB_w (gBl (show Int32.toInt 1 = 1 by decide)) (by decide) (by decide)), bp6516, (gF_any f6536), (gF_any f6537), (gF_any f6534)⟩
  · have r6559 : p6530.toInt ≠ 3 := gj_neq hc6548 (show Int32.toInt 3 = 3 by decide)
    refine G_iconst 0 d_cX8_acceptGoal_11 (by decide +kernel) ?_
    refine G_sub (ws' := [(q6501, .inr (13, [.ref q6503, .ref q6504, .int p6517, .int p6518, .int p6519, .long pl6520, .int p6521, .int p6522, .int p6523, .int p6524, .int p6525, .int p6526])), (q6502, .inr (5, [.ref q6505, .ref q6506, .ref q6507, .ref q6508, .ref q6509, .ref q6510, .ref q6511, .ref q6512, .ref q6513, .int p6527, .int p6528, .int p6529])), (q6503, .inr (14, [.ref q6514, .int p6530, .int p6531, .int p6532, .int p6533])), (q6504, .inl (I .int, 80, .inl f6534)), (q6505, .inl (I .int, 40, .inl f6535)), (q6506, .inl (I .int, 40, .inl f6536)), (q6507, .inl (I .int, 40, .inl f6537)), (q6508, .inl (I .int, 200, .inl f6538)), (q6509, .inl (I .int, 200, .inl f6539)), (q6510, .inl (I .int, 200, .inl f6540)), (q6511, .inl (I .int, 200, .inl f6541)), (q6512, .inl (I .int, 200, .inl f6542)), (q6513, .inl (I .int, 200, .inl f6543)), (q6514, .inr (15, [.ref q6515, .int p6544])), (q6515, .inl (I .byte, 8192, .inl f6545))]) [0, 1, 12, 2, 3, 4, 5, 6, 7, 8, 9, 10, 11, 13, 14] rfl rfl ?_
    exact G_zret FieldType.boolean d_cX8_acceptGoal_12 rfl rfl (Nat.le_of_ble_eq_true rfl) (Nat.le_of_ble_eq_true rfl) ⟨0, p6522, f6536, f6537, f6534, rfl, rfl, (gB_w (gBl (show Int32.toInt 0 = 0 by decide)) (by decide) (by decide)), bp6522, (gF_any f6536), (gF_any f6537), (gF_any f6534)⟩
abbrev ky_5516_Reader_accept : gKey := (cX8_accept, 2, yX8_accept.cls, (some FieldType.boolean), [], yX8_accept.name, fun _ _ => True)
abbrev po_5516_Reader_accept (I : FieldType → ClassId) (q5471 : Nat) (q5472 : Nat) (q5473 : Nat) (q5474 : Nat) (q5475 : Nat) (q5476 : Nat) (q5477 : Nat) (q5478 : Nat) (q5479 : Nat) (q5480 : Nat) (q5481 : Nat) (q5482 : Nat) (q5483 : Nat) (q5484 : Nat) (q5485 : Nat) (p5486 : Int32) (p5487 : Int32) (p5488 : Int32) (pl5489 : Int64) (p5490 : Int32) (p5491 : Int32) (p5492 : Int32) (p5493 : Int32) (p5494 : Int32) (p5495 : Int32) (p5496 : Int32) (p5497 : Int32) (p5498 : Int32) (p5499 : Int32) (p5500 : Int32) (p5501 : Int32) (p5502 : Int32) (f5503 : Nat → Int32) (f5504 : Nat → Int32) (f5505 : Nat → Int32) (f5506 : Nat → Int32) (f5507 : Nat → Int32) (f5508 : Nat → Int32) (f5509 : Nat → Int32) (f5510 : Nat → Int32) (f5511 : Nat → Int32) (f5512 : Nat → Int32) (p5513 : Int32) (f5514 : Nat → Int32) : Option Value → va_W → Prop := fun r w => ∃ (o6597 : Int32) (o6575 : Int32) (o6576 : Int32) (ol6577 : Int64) (o6578 : Int32) (o6579 : Int32) (f6580 : Nat → Int32) (f6581 : Nat → Int32) (f6582 : Nat → Int32) (o6583 : Int32) (o6584 : Int32) (o6585 : Int32) (o6586 : Int32) (o6587 : Int32) (o6588 : Int32) (f6589 : Nat → Int32) (f6590 : Nat → Int32) (f6591 : Nat → Int32) (f6592 : Nat → Int32) (f6593 : Nat → Int32) (f6594 : Nat → Int32) (o6595 : Int32) (f6596 : Nat → Int32), r = some (.int o6597) ∧ w = [(q5471, .inr (13, [.ref q5473, .ref q5474, .int p5486, .int o6575, .int o6576, .long ol6577, .int o6583, .int o6578, .int o6595, .int o6584, .int o6585, .int o6586])), (q5472, .inr (5, [.ref q5475, .ref q5476, .ref q5477, .ref q5478, .ref q5479, .ref q5480, .ref q5481, .ref q5482, .ref q5483, .int o6579, .int o6587, .int o6588])), (q5473, .inr (14, [.ref q5484, .int p5499, .int p5500, .int p5501, .int p5502])), (q5474, .inl (I .int, 80, .inl f6596)), (q5475, .inl (I .int, 40, .inl f6580)), (q5476, .inl (I .int, 40, .inl f6581)), (q5477, .inl (I .int, 40, .inl f6582)), (q5478, .inl (I .int, 200, .inl f6589)), (q5479, .inl (I .int, 200, .inl f6590)), (q5480, .inl (I .int, 200, .inl f6591)), (q5481, .inl (I .int, 200, .inl f6592)), (q5482, .inl (I .int, 200, .inl f6593)), (q5483, .inl (I .int, 200, .inl f6594)), (q5484, .inr (15, [.ref q5485, .int p5513])), (q5485, .inl (I .byte, 8192, .inl f5514))] ∧ gB o6597 0 1 ∧ gB o6575 (-2147483648) 2147483647 ∧ gB o6576 (-2147483648) 2147483647 ∧ gB o6578 (-2147483648) 2147483647 ∧ gB o6579 0 40 ∧ gF f6580 0 200 ∧ gF f6581 (-2147483648) 2147483647 ∧ gF f6582 (-2147483648) 2147483647 ∧ gB o6583 (-2147483648) 2147483647 ∧ gB o6584 (-2147483648) 2147483647 ∧ gB o6585 (-2147483648) 2147483647 ∧ gB o6586 (-2147483648) 2147483647 ∧ gB o6587 0 200 ∧ gB o6588 0 1 ∧ gF f6589 0 21 ∧ gF f6590 (-2147483648) 2147483647 ∧ gF f6591 (-2147483648) 2147483647 ∧ gF f6592 (-2147483648) 2147483647 ∧ gF f6593 (-2147483648) 2147483647 ∧ gF f6594 (-2147483648) 2147483647 ∧ gB o6595 0 13 ∧ gF f6596 (-2147483648) 2147483647
set_option maxRecDepth 100000 in
set_option maxHeartbeats 4000000 in
theorem ct_5516_Reader_accept (l : Launch) (hl0 : l.stackTraces = false) (D : va_G) (I : FieldType → ClassId) (q5471 : Nat) (q5472 : Nat) (q5473 : Nat) (q5474 : Nat) (q5475 : Nat) (q5476 : Nat) (q5477 : Nat) (q5478 : Nat) (q5479 : Nat) (q5480 : Nat) (q5481 : Nat) (q5482 : Nat) (q5483 : Nat) (q5484 : Nat) (q5485 : Nat) (p5486 : Int32) (p5487 : Int32) (p5488 : Int32) (pl5489 : Int64) (p5490 : Int32) (p5491 : Int32) (p5492 : Int32) (p5493 : Int32) (p5494 : Int32) (p5495 : Int32) (p5496 : Int32) (p5497 : Int32) (p5498 : Int32) (p5499 : Int32) (p5500 : Int32) (p5501 : Int32) (p5502 : Int32) (f5503 : Nat → Int32) (f5504 : Nat → Int32) (f5505 : Nat → Int32) (f5506 : Nat → Int32) (f5507 : Nat → Int32) (f5508 : Nat → Int32) (f5509 : Nat → Int32) (f5510 : Nat → Int32) (f5511 : Nat → Int32) (f5512 : Nat → Int32) (p5513 : Int32) (f5514 : Nat → Int32) (bp5492 : gB p5492 0 13) (bp5496 : gB p5496 0 40) (bp5497 : gB p5497 0 200) (bp5498 : gB p5498 0 1) (bf5504 : gF f5504 0 200) (bf5507 : gF f5507 0 21) (bp5513 : gB p5513 0 8192) (bf5514 : gF f5514 (-128) 127) (x5515 : (p5499.toInt ≠ 5 ∨ (0 ≤ p5500.toInt ∧ p5500.toInt ≤ 13))) : Ct (gV D I) l yX8_accept cX8_accept 2 (some FieldType.boolean) 5 103 0 0 [.ref q5471, .ref q5472] [(q5471, .inr (13, [.ref q5473, .ref q5474, .int p5486, .int p5487, .int p5488, .long pl5489, .int p5490, .int p5491, .int p5492, .int p5493, .int p5494, .int p5495])), (q5472, .inr (5, [.ref q5475, .ref q5476, .ref q5477, .ref q5478, .ref q5479, .ref q5480, .ref q5481, .ref q5482, .ref q5483, .int p5496, .int p5497, .int p5498])), (q5473, .inr (14, [.ref q5484, .int p5499, .int p5500, .int p5501, .int p5502])), (q5474, .inl (I .int, 80, .inl f5503)), (q5475, .inl (I .int, 40, .inl f5504)), (q5476, .inl (I .int, 40, .inl f5505)), (q5477, .inl (I .int, 40, .inl f5506)), (q5478, .inl (I .int, 200, .inl f5507)), (q5479, .inl (I .int, 200, .inl f5508)), (q5480, .inl (I .int, 200, .inl f5509)), (q5481, .inl (I .int, 200, .inl f5510)), (q5482, .inl (I .int, 200, .inl f5511)), (q5483, .inl (I .int, 200, .inl f5512)), (q5484, .inr (15, [.ref q5485, .int p5513])), (q5485, .inl (I .byte, 8192, .inl f5514))] (po_5516_Reader_accept I q5471 q5472 q5473 q5474 q5475 q5476 q5477 q5478 q5479 q5480 q5481 q5482 q5483 q5484 q5485 p5486 p5487 p5488 pl5489 p5490 p5491 p5492 p5493 p5494 p5495 p5496 p5497 p5498 p5499 p5500 p5501 p5502 f5503 f5504 f5505 f5506 f5507 f5508 f5509 f5510 f5511 f5512 p5513 f5514) gN := by
  refine Ct_of hl0 (by decide) (Nat.le_of_ble_eq_true rfl) ?_
  have bp5486 := gB_any p5486
  have bp5487 := gB_any p5487
  have bp5488 := gB_any p5488
  have bp5490 := gB_any p5490
  have bp5491 := gB_any p5491
  have bp5493 := gB_any p5493
  have bp5494 := gB_any p5494
  have bp5495 := gB_any p5495
  have bp5499 := gB_any p5499
  have bp5500 := gB_any p5500
  have bp5501 := gB_any p5501
  have bp5502 := gB_any p5502
  refine G_aload_n 0 d_cX8_accept_0 rfl ?_
  refine G_getf 0 7 d_cX8_accept_1 rfl (gk_X8 D I) (Nat.le_of_ble_eq_true rfl) w_1_103 rfl ?_
  by_cases hs5517 : p5491 = 0
  · have ehs5517 : p5491.toInt = 0 := gj_eq hs5517 (show Int32.toInt 0 = 0 by decide)
    have bp5491' : gB p5491 0 0 := ⟨by omega, by omega⟩
    refine G_eqi (y := 0) hs5517 ?_
    refine G_tableIn 68 d_cX8_accept_4 (by decide) (by decide) (by first | rfl | decide) (by decide) ?_
    refine G_aload_n 0 d_cX8_accept_68 rfl ?_
    refine G_aload_n 1 d_cX8_accept_69 rfl ?_
    refine G_callV (As := [.ref q5472]) (wr := []) (gV_ok D I) (ct_5563_Reader_acceptLabel l hl0 D I q5471 q5472 q5473 q5474 q5475 q5476 q5477 q5478 q5479 q5480 q5481 q5482 q5483 q5484 q5485 p5486 p5487 p5488 pl5489 p5490 p5491 p5492 p5493 p5494 p5495 p5496 p5497 p5498 p5499 p5500 p5501 p5502 f5503 f5504 f5505 f5506 f5507 f5508 f5509 f5510 f5511 f5512 p5513 f5514 bp5492 bp5496 bp5497 bp5498 bf5504 bf5507 bp5513 bf5514 (by omega)) d_cX8_accept_70 ⟨w_3_125, w_1_3, w_3_128, by decide, rfl, (Nat.le_of_ble_eq_true rfl), (Nat.le_of_ble_eq_true rfl)⟩ w_3_127 w_p_8 0 rfl rfl [0, 1, 2, 3, 4, 5, 6, 7, 8, 9, 10, 11, 12, 13, 14] [] rfl rfl rfl rfl (by decide) (Nat.le_of_ble_eq_true rfl) (Nat.le_of_ble_eq_true rfl) (Nat.le_of_ble_eq_true rfl) (fun r w hp => ?_) (fun _ _ _ z => z.elim)
    refine Exists.elim hp fun o5649 hp => ?_
    refine Exists.elim hp fun o5650 hp => ?_
    refine Exists.elim hp fun o5651 hp => ?_
    refine Exists.elim hp fun ol5652 hp => ?_
    refine Exists.elim hp fun o5653 hp => ?_
    refine Exists.elim hp fun o5654 hp => ?_
    refine Exists.elim hp fun f5655 hp => ?_
    refine Exists.elim hp fun f5656 hp => ?_
    refine Exists.elim hp fun f5657 hp => ?_
    obtain ⟨rfl, rfl, bo5649, bo5650, bo5651, bo5653, bo5654, bf5655, bf5656, bf5657⟩ := hp
    change G _ _ _ _ _ _ _ (.int o5649 :: _) _ _ _
    refine G_ws (ws' := [(q5471, .inr (13, [.ref q5473, .ref q5474, .int p5486, .int o5650, .int o5651, .long ol5652, .int p5490, .int o5653, .int p5492, .int p5493, .int p5494, .int p5495])), (q5472, .inr (5, [.ref q5475, .ref q5476, .ref q5477, .ref q5478, .ref q5479, .ref q5480, .ref q5481, .ref q5482, .ref q5483, .int o5654, .int p5497, .int p5498])), (q5473, .inr (14, [.ref q5484, .int p5499, .int p5500, .int p5501, .int p5502])), (q5474, .inl (I .int, 80, .inl f5503)), (q5475, .inl (I .int, 40, .inl f5655)), (q5476, .inl (I .int, 40, .inl f5656)), (q5477, .inl (I .int, 40, .inl f5657)), (q5478, .inl (I .int, 200, .inl f5507)), (q5479, .inl (I .int, 200, .inl f5508)), (q5480, .inl (I .int, 200, .inl f5509)), (q5481, .inl (I .int, 200, .inl f5510)), (q5482, .inl (I .int, 200, .inl f5511)), (q5483, .inl (I .int, 200, .inl f5512)), (q5484, .inr (15, [.ref q5485, .int p5513])), (q5485, .inl (I .byte, 8192, .inl f5514))]) (cs' := 0) (sl' := 0) rfl rfl rfl ?_
    exact G_zret FieldType.boolean d_cX8_accept_73 rfl (gN_bool bo5649) (Nat.le_of_ble_eq_true rfl) (Nat.le_of_ble_eq_true rfl) ⟨o5649, o5650, o5651, ol5652, o5653, o5654, f5655, f5656, f5657, p5490, p5493, p5494, p5495, p5497, p5498, f5507, f5508, f5509, f5510, f5511, f5512, p5492, f5503, rfl, rfl, bo5649, bo5650, bo5651, bo5653, bo5654, bf5655, bf5656, bf5657, bp5490, bp5493, bp5494, bp5495, bp5497, bp5498, bf5507, (gF_any f5508), (gF_any f5509), (gF_any f5510), (gF_any f5511), (gF_any f5512), bp5492, (gF_any f5503)⟩
  by_cases hs5658 : p5491 = 1
  · have ehs5658 : p5491.toInt = 1 := gj_eq hs5658 (show Int32.toInt 1 = 1 by decide)
    have bp5491' : gB p5491 1 1 := ⟨by omega, by omega⟩
    refine G_eqi (y := 1) hs5658 ?_
    refine G_tableIn 68 d_cX8_accept_4 (by decide) (by decide) (by first | rfl | decide) (by decide) ?_
    refine G_aload_n 0 d_cX8_accept_68 rfl ?_
    refine G_aload_n 1 d_cX8_accept_69 rfl ?_
    refine G_callV (As := [.ref q5472]) (wr := []) (gV_ok D I) (ct_5563_Reader_acceptLabel l hl0 D I q5471 q5472 q5473 q5474 q5475 q5476 q5477 q5478 q5479 q5480 q5481 q5482 q5483 q5484 q5485 p5486 p5487 p5488 pl5489 p5490 p5491 p5492 p5493 p5494 p5495 p5496 p5497 p5498 p5499 p5500 p5501 p5502 f5503 f5504 f5505 f5506 f5507 f5508 f5509 f5510 f5511 f5512 p5513 f5514 bp5492 bp5496 bp5497 bp5498 bf5504 bf5507 bp5513 bf5514 (by omega)) d_cX8_accept_70 ⟨w_3_125, w_1_3, w_3_128, by decide, rfl, (Nat.le_of_ble_eq_true rfl), (Nat.le_of_ble_eq_true rfl)⟩ w_3_127 w_p_8 0 rfl rfl [0, 1, 2, 3, 4, 5, 6, 7, 8, 9, 10, 11, 12, 13, 14] [] rfl rfl rfl rfl (by decide) (Nat.le_of_ble_eq_true rfl) (Nat.le_of_ble_eq_true rfl) (Nat.le_of_ble_eq_true rfl) (fun r w hp => ?_) (fun _ _ _ z => z.elim)
    refine Exists.elim hp fun o5659 hp => ?_
    refine Exists.elim hp fun o5660 hp => ?_
    refine Exists.elim hp fun o5661 hp => ?_
    refine Exists.elim hp fun ol5662 hp => ?_
    refine Exists.elim hp fun o5663 hp => ?_
    refine Exists.elim hp fun o5664 hp => ?_
    refine Exists.elim hp fun f5665 hp => ?_
    refine Exists.elim hp fun f5666 hp => ?_
    refine Exists.elim hp fun f5667 hp => ?_
    obtain ⟨rfl, rfl, bo5659, bo5660, bo5661, bo5663, bo5664, bf5665, bf5666, bf5667⟩ := hp
    change G _ _ _ _ _ _ _ (.int o5659 :: _) _ _ _
    refine G_ws (ws' := [(q5471, .inr (13, [.ref q5473, .ref q5474, .int p5486, .int o5660, .int o5661, .long ol5662, .int p5490, .int o5663, .int p5492, .int p5493, .int p5494, .int p5495])), (q5472, .inr (5, [.ref q5475, .ref q5476, .ref q5477, .ref q5478, .ref q5479, .ref q5480, .ref q5481, .ref q5482, .ref q5483, .int o5664, .int p5497, .int p5498])), (q5473, .inr (14, [.ref q5484, .int p5499, .int p5500, .int p5501, .int p5502])), (q5474, .inl (I .int, 80, .inl f5503)), (q5475, .inl (I .int, 40, .inl f5665)), (q5476, .inl (I .int, 40, .inl f5666)), (q5477, .inl (I .int, 40, .inl f5667)), (q5478, .inl (I .int, 200, .inl f5507)), (q5479, .inl (I .int, 200, .inl f5508)), (q5480, .inl (I .int, 200, .inl f5509)), (q5481, .inl (I .int, 200, .inl f5510)), (q5482, .inl (I .int, 200, .inl f5511)), (q5483, .inl (I .int, 200, .inl f5512)), (q5484, .inr (15, [.ref q5485, .int p5513])), (q5485, .inl (I .byte, 8192, .inl f5514))]) (cs' := 0) (sl' := 0) rfl rfl rfl ?_
    exact G_zret FieldType.boolean d_cX8_accept_73 rfl (gN_bool bo5659) (Nat.le_of_ble_eq_true rfl) (Nat.le_of_ble_eq_true rfl) ⟨o5659, o5660, o5661, ol5662, o5663, o5664, f5665, f5666, f5667, p5490, p5493, p5494, p5495, p5497, p5498, f5507, f5508, f5509, f5510, f5511, f5512, p5492, f5503, rfl, rfl, bo5659, bo5660, bo5661, bo5663, bo5664, bf5665, bf5666, bf5667, bp5490, bp5493, bp5494, bp5495, bp5497, bp5498, bf5507, (gF_any f5508), (gF_any f5509), (gF_any f5510), (gF_any f5511), (gF_any f5512), bp5492, (gF_any f5503)⟩
  by_cases hs5668 : p5491 = 2
  · have ehs5668 : p5491.toInt = 2 := gj_eq hs5668 (show Int32.toInt 2 = 2 by decide)
    have bp5491' : gB p5491 2 2 := ⟨by omega, by omega⟩
    refine G_eqi (y := 2) hs5668 ?_
    refine G_tableIn 74 d_cX8_accept_4 (by decide) (by decide) (by first | rfl | decide) (by decide) ?_
    refine G_aload_n 0 d_cX8_accept_74 rfl ?_
    refine G_bipush 6 d_cX8_accept_75 (by decide +kernel) ?_
    refine G_iconst 3 d_cX8_accept_77 (by decide +kernel) ?_
    refine G_callV (As := [.int 6, .int 3]) (wr := [(q5472, .inr (5, [.ref q5475, .ref q5476, .ref q5477, .ref q5478, .ref q5479, .ref q5480, .ref q5481, .ref q5482, .ref q5483, .int p5496, .int p5497, .int p5498])), (q5475, .inl (I .int, 40, .inl f5504)), (q5476, .inl (I .int, 40, .inl f5505)), (q5477, .inl (I .int, 40, .inl f5506)), (q5478, .inl (I .int, 200, .inl f5507)), (q5479, .inl (I .int, 200, .inl f5508)), (q5480, .inl (I .int, 200, .inl f5509)), (q5481, .inl (I .int, 200, .inl f5510)), (q5482, .inl (I .int, 200, .inl f5511)), (q5483, .inl (I .int, 200, .inl f5512))]) (gV_ok D I) (ct_5694_Reader_acceptMark l hl0 D I q5471 q5473 q5474 q5484 q5485 6 3 p5486 p5487 p5488 pl5489 p5490 p5491 p5492 p5493 p5494 p5495 p5499 p5500 p5501 p5502 f5503 p5513 f5514 bp5492 bp5513 bf5514 (by have qa0 : Int32.toInt 3 = 3 := (by decide); have qa1 : Int32.toInt 6 = 6 := (by decide); omega)) d_cX8_accept_78 ⟨w_3_149, w_1_3, w_3_152, by decide, rfl, (Nat.le_of_ble_eq_true rfl), (Nat.le_of_ble_eq_true rfl)⟩ w_3_151 w_p_11 0 rfl rfl [0, 2, 3, 13, 14] [1, 4, 5, 6, 7, 8, 9, 10, 11, 12] rfl rfl rfl rfl (by decide) (Nat.le_of_ble_eq_true rfl) (Nat.le_of_ble_eq_true rfl) (Nat.le_of_ble_eq_true rfl) (fun r w hp => ?_) (fun _ _ _ z => z.elim)
    obtain ⟨o5700, o5701, rfl, rfl, bo5700, bo5701⟩ := hp
    change G _ _ _ _ _ _ _ (.int o5700 :: _) _ _ _
    refine G_ws (ws' := [(q5472, .inr (5, [.ref q5475, .ref q5476, .ref q5477, .ref q5478, .ref q5479, .ref q5480, .ref q5481, .ref q5482, .ref q5483, .int p5496, .int p5497, .int p5498])), (q5475, .inl (I .int, 40, .inl f5504)), (q5476, .inl (I .int, 40, .inl f5505)), (q5477, .inl (I .int, 40, .inl f5506)), (q5478, .inl (I .int, 200, .inl f5507)), (q5479, .inl (I .int, 200, .inl f5508)), (q5480, .inl (I .int, 200, .inl f5509)), (q5481, .inl (I .int, 200, .inl f5510)), (q5482, .inl (I .int, 200, .inl f5511)), (q5483, .inl (I .int, 200, .inl f5512)), (q5471, .inr (13, [.ref q5473, .ref q5474, .int p5486, .int p5487, .int p5488, .long pl5489, .int p5490, .int o5701, .int p5492, .int p5493, .int p5494, .int p5495])), (q5473, .inr (14, [.ref q5484, .int p5499, .int p5500, .int p5501, .int p5502])), (q5474, .inl (I .int, 80, .inl f5503)), (q5484, .inr (15, [.ref q5485, .int p5513])), (q5485, .inl (I .byte, 8192, .inl f5514))]) (cs' := 0) (sl' := 0) rfl rfl rfl ?_
    refine G_sub (ws' := [(q5471, .inr (13, [.ref q5473, .ref q5474, .int p5486, .int p5487, .int p5488, .long pl5489, .int p5490, .int o5701, .int p5492, .int p5493, .int p5494, .int p5495])), (q5472, .inr (5, [.ref q5475, .ref q5476, .ref q5477, .ref q5478, .ref q5479, .ref q5480, .ref q5481, .ref q5482, .ref q5483, .int p5496, .int p5497, .int p5498])), (q5473, .inr (14, [.ref q5484, .int p5499, .int p5500, .int p5501, .int p5502])), (q5474, .inl (I .int, 80, .inl f5503)), (q5475, .inl (I .int, 40, .inl f5504)), (q5476, .inl (I .int, 40, .inl f5505)), (q5477, .inl (I .int, 40, .inl f5506)), (q5478, .inl (I .int, 200, .inl f5507)), (q5479, .inl (I .int, 200, .inl f5508)), (q5480, .inl (I .int, 200, .inl f5509)), (q5481, .inl (I .int, 200, .inl f5510)), (q5482, .inl (I .int, 200, .inl f5511)), (q5483, .inl (I .int, 200, .inl f5512)), (q5484, .inr (15, [.ref q5485, .int p5513])), (q5485, .inl (I .byte, 8192, .inl f5514))]) [10, 0, 11, 12, 1, 2, 3, 4, 5, 6, 7, 8, 9, 13, 14] rfl rfl ?_
    exact G_zret FieldType.boolean d_cX8_accept_81 rfl (gN_bool bo5700) (Nat.le_of_ble_eq_true rfl) (Nat.le_of_ble_eq_true rfl) ⟨o5700, p5487, p5488, pl5489, o5701, p5496, f5504, f5505, f5506, p5490, p5493, p5494, p5495, p5497, p5498, f5507, f5508, f5509, f5510, f5511, f5512, p5492, f5503, rfl, rfl, bo5700, bp5487, bp5488, bo5701, bp5496, bf5504, (gF_any f5505), (gF_any f5506), bp5490, bp5493, bp5494, bp5495, bp5497, bp5498, bf5507, (gF_any f5508), (gF_any f5509), (gF_any f5510), (gF_any f5511), (gF_any f5512), bp5492, (gF_any f5503)⟩
  by_cases hs5702 : p5491 = 3
  · have ehs5702 : p5491.toInt = 3 := gj_eq hs5702 (show Int32.toInt 3 = 3 by decide)
    have bp5491' : gB p5491 3 3 := ⟨by omega, by omega⟩
    refine G_eqi (y := 3) hs5702 ?_
    refine G_tableIn 90 d_cX8_accept_4 (by decide) (by decide) (by first | rfl | decide) (by decide) ?_
    refine G_aload_n 0 d_cX8_accept_90 rfl ?_
    refine G_aload_n 1 d_cX8_accept_91 rfl ?_
    refine G_callV (As := [.ref q5472]) (wr := []) (gV_ok D I) (ct_5748_Reader_acceptLine l hl0 D I q5471 q5472 q5473 q5474 q5475 q5476 q5477 q5478 q5479 q5480 q5481 q5482 q5483 q5484 q5485 p5486 p5487 p5488 pl5489 p5490 p5491 p5492 p5493 p5494 p5495 p5496 p5497 p5498 p5499 p5500 p5501 p5502 f5503 f5504 f5505 f5506 f5507 f5508 f5509 f5510 f5511 f5512 p5513 f5514 bp5492 bp5496 bp5497 bp5498 bf5504 bf5507 bp5513 bf5514 (by omega)) d_cX8_accept_92 ⟨w_3_153, w_1_3, w_3_156, by decide, rfl, (Nat.le_of_ble_eq_true rfl), (Nat.le_of_ble_eq_true rfl)⟩ w_3_155 w_p_12 0 rfl rfl [0, 1, 2, 3, 4, 5, 6, 7, 8, 9, 10, 11, 12, 13, 14] [] rfl rfl rfl rfl (by decide) (Nat.le_of_ble_eq_true rfl) (Nat.le_of_ble_eq_true rfl) (Nat.le_of_ble_eq_true rfl) (fun r w hp => ?_) (fun _ _ _ z => z.elim)
    refine Exists.elim hp fun o5942 hp => ?_
    refine Exists.elim hp fun o5943 hp => ?_
    refine Exists.elim hp fun o5944 hp => ?_
    refine Exists.elim hp fun o5945 hp => ?_
    refine Exists.elim hp fun o5946 hp => ?_
    refine Exists.elim hp fun o5947 hp => ?_
    refine Exists.elim hp fun o5948 hp => ?_
    refine Exists.elim hp fun o5949 hp => ?_
    refine Exists.elim hp fun o5950 hp => ?_
    refine Exists.elim hp fun o5951 hp => ?_
    refine Exists.elim hp fun f5952 hp => ?_
    refine Exists.elim hp fun f5953 hp => ?_
    refine Exists.elim hp fun f5954 hp => ?_
    refine Exists.elim hp fun f5955 hp => ?_
    refine Exists.elim hp fun f5956 hp => ?_
    refine Exists.elim hp fun f5957 hp => ?_
    obtain ⟨rfl, rfl, bo5942, bo5943, bo5944, bo5945, bo5946, bo5947, bo5948, bo5949, bo5950, bo5951, bf5952, bf5953, bf5954, bf5955, bf5956, bf5957⟩ := hp
    change G _ _ _ _ _ _ _ (.int o5942 :: _) _ _ _
    refine G_ws (ws' := [(q5471, .inr (13, [.ref q5473, .ref q5474, .int p5486, .int o5943, .int o5944, .long pl5489, .int o5945, .int o5946, .int p5492, .int o5947, .int o5948, .int o5949])), (q5472, .inr (5, [.ref q5475, .ref q5476, .ref q5477, .ref q5478, .ref q5479, .ref q5480, .ref q5481, .ref q5482, .ref q5483, .int p5496, .int o5950, .int o5951])), (q5473, .inr (14, [.ref q5484, .int p5499, .int p5500, .int p5501, .int p5502])), (q5474, .inl (I .int, 80, .inl f5503)), (q5475, .inl (I .int, 40, .inl f5504)), (q5476, .inl (I .int, 40, .inl f5505)), (q5477, .inl (I .int, 40, .inl f5506)), (q5478, .inl (I .int, 200, .inl f5952)), (q5479, .inl (I .int, 200, .inl f5953)), (q5480, .inl (I .int, 200, .inl f5954)), (q5481, .inl (I .int, 200, .inl f5955)), (q5482, .inl (I .int, 200, .inl f5956)), (q5483, .inl (I .int, 200, .inl f5957)), (q5484, .inr (15, [.ref q5485, .int p5513])), (q5485, .inl (I .byte, 8192, .inl f5514))]) (cs' := 0) (sl' := 0) rfl rfl rfl ?_
    exact G_zret FieldType.boolean d_cX8_accept_95 rfl (gN_bool bo5942) (Nat.le_of_ble_eq_true rfl) (Nat.le_of_ble_eq_true rfl) ⟨o5942, o5943, o5944, pl5489, o5946, p5496, f5504, f5505, f5506, o5945, o5947, o5948, o5949, o5950, o5951, f5952, f5953, f5954, f5955, f5956, f5957, p5492, f5503, rfl, rfl, bo5942, bo5943, bo5944, bo5946, bp5496, bf5504, (gF_any f5505), (gF_any f5506), bo5945, bo5947, bo5948, bo5949, bo5950, bo5951, bf5952, bf5953, bf5954, bf5955, bf5956, bf5957, bp5492, (gF_any f5503)⟩
  by_cases hs5958 : p5491 = 4
  · have ehs5958 : p5491.toInt = 4 := gj_eq hs5958 (show Int32.toInt 4 = 4 by decide)
    have bp5491' : gB p5491 4 4 := ⟨by omega, by omega⟩
    refine G_eqi (y := 4) hs5958 ?_
    refine G_tableIn 82 d_cX8_accept_4 (by decide) (by decide) (by first | rfl | decide) (by decide) ?_
    refine G_aload_n 0 d_cX8_accept_82 rfl ?_
    refine G_bipush 7 d_cX8_accept_83 (by decide +kernel) ?_
    refine G_iconst 5 d_cX8_accept_85 (by decide +kernel) ?_
    refine G_callV (As := [.int 7, .int 5]) (wr := [(q5472, .inr (5, [.ref q5475, .ref q5476, .ref q5477, .ref q5478, .ref q5479, .ref q5480, .ref q5481, .ref q5482, .ref q5483, .int p5496, .int p5497, .int p5498])), (q5475, .inl (I .int, 40, .inl f5504)), (q5476, .inl (I .int, 40, .inl f5505)), (q5477, .inl (I .int, 40, .inl f5506)), (q5478, .inl (I .int, 200, .inl f5507)), (q5479, .inl (I .int, 200, .inl f5508)), (q5480, .inl (I .int, 200, .inl f5509)), (q5481, .inl (I .int, 200, .inl f5510)), (q5482, .inl (I .int, 200, .inl f5511)), (q5483, .inl (I .int, 200, .inl f5512))]) (gV_ok D I) (ct_5694_Reader_acceptMark l hl0 D I q5471 q5473 q5474 q5484 q5485 7 5 p5486 p5487 p5488 pl5489 p5490 p5491 p5492 p5493 p5494 p5495 p5499 p5500 p5501 p5502 f5503 p5513 f5514 bp5492 bp5513 bf5514 (by have qa0 : Int32.toInt 5 = 5 := (by decide); have qa1 : Int32.toInt 7 = 7 := (by decide); omega)) d_cX8_accept_86 ⟨w_3_149, w_1_3, w_3_152, by decide, rfl, (Nat.le_of_ble_eq_true rfl), (Nat.le_of_ble_eq_true rfl)⟩ w_3_151 w_p_11 0 rfl rfl [0, 2, 3, 13, 14] [1, 4, 5, 6, 7, 8, 9, 10, 11, 12] rfl rfl rfl rfl (by decide) (Nat.le_of_ble_eq_true rfl) (Nat.le_of_ble_eq_true rfl) (Nat.le_of_ble_eq_true rfl) (fun r w hp => ?_) (fun _ _ _ z => z.elim)
    obtain ⟨o5959, o5960, rfl, rfl, bo5959, bo5960⟩ := hp
    change G _ _ _ _ _ _ _ (.int o5959 :: _) _ _ _
    refine G_ws (ws' := [(q5472, .inr (5, [.ref q5475, .ref q5476, .ref q5477, .ref q5478, .ref q5479, .ref q5480, .ref q5481, .ref q5482, .ref q5483, .int p5496, .int p5497, .int p5498])), (q5475, .inl (I .int, 40, .inl f5504)), (q5476, .inl (I .int, 40, .inl f5505)), (q5477, .inl (I .int, 40, .inl f5506)), (q5478, .inl (I .int, 200, .inl f5507)), (q5479, .inl (I .int, 200, .inl f5508)), (q5480, .inl (I .int, 200, .inl f5509)), (q5481, .inl (I .int, 200, .inl f5510)), (q5482, .inl (I .int, 200, .inl f5511)), (q5483, .inl (I .int, 200, .inl f5512)), (q5471, .inr (13, [.ref q5473, .ref q5474, .int p5486, .int p5487, .int p5488, .long pl5489, .int p5490, .int o5960, .int p5492, .int p5493, .int p5494, .int p5495])), (q5473, .inr (14, [.ref q5484, .int p5499, .int p5500, .int p5501, .int p5502])), (q5474, .inl (I .int, 80, .inl f5503)), (q5484, .inr (15, [.ref q5485, .int p5513])), (q5485, .inl (I .byte, 8192, .inl f5514))]) (cs' := 0) (sl' := 0) rfl rfl rfl ?_
    refine G_sub (ws' := [(q5471, .inr (13, [.ref q5473, .ref q5474, .int p5486, .int p5487, .int p5488, .long pl5489, .int p5490, .int o5960, .int p5492, .int p5493, .int p5494, .int p5495])), (q5472, .inr (5, [.ref q5475, .ref q5476, .ref q5477, .ref q5478, .ref q5479, .ref q5480, .ref q5481, .ref q5482, .ref q5483, .int p5496, .int p5497, .int p5498])), (q5473, .inr (14, [.ref q5484, .int p5499, .int p5500, .int p5501, .int p5502])), (q5474, .inl (I .int, 80, .inl f5503)), (q5475, .inl (I .int, 40, .inl f5504)), (q5476, .inl (I .int, 40, .inl f5505)), (q5477, .inl (I .int, 40, .inl f5506)), (q5478, .inl (I .int, 200, .inl f5507)), (q5479, .inl (I .int, 200, .inl f5508)), (q5480, .inl (I .int, 200, .inl f5509)), (q5481, .inl (I .int, 200, .inl f5510)), (q5482, .inl (I .int, 200, .inl f5511)), (q5483, .inl (I .int, 200, .inl f5512)), (q5484, .inr (15, [.ref q5485, .int p5513])), (q5485, .inl (I .byte, 8192, .inl f5514))]) [10, 0, 11, 12, 1, 2, 3, 4, 5, 6, 7, 8, 9, 13, 14] rfl rfl ?_
    exact G_zret FieldType.boolean d_cX8_accept_89 rfl (gN_bool bo5959) (Nat.le_of_ble_eq_true rfl) (Nat.le_of_ble_eq_true rfl) ⟨o5959, p5487, p5488, pl5489, o5960, p5496, f5504, f5505, f5506, p5490, p5493, p5494, p5495, p5497, p5498, f5507, f5508, f5509, f5510, f5511, f5512, p5492, f5503, rfl, rfl, bo5959, bp5487, bp5488, bo5960, bp5496, bf5504, (gF_any f5505), (gF_any f5506), bp5490, bp5493, bp5494, bp5495, bp5497, bp5498, bf5507, (gF_any f5508), (gF_any f5509), (gF_any f5510), (gF_any f5511), (gF_any f5512), bp5492, (gF_any f5503)⟩
  by_cases hs5961 : p5491 = 5
  · have ehs5961 : p5491.toInt = 5 := gj_eq hs5961 (show Int32.toInt 5 = 5 by decide)
    have bp5491' : gB p5491 5 5 := ⟨by omega, by omega⟩
    refine G_eqi (y := 5) hs5961 ?_
    refine G_tableIn 96 d_cX8_accept_4 (by decide) (by decide) (by first | rfl | decide) (by decide) ?_
    refine G_aload_n 0 d_cX8_accept_96 rfl ?_
    refine G_aload_n 1 d_cX8_accept_97 rfl ?_
    refine G_callV (As := [.ref q5472]) (wr := []) (gV_ok D I) (ct_6007_Reader_acceptSource l hl0 D I q5471 q5472 q5473 q5474 q5475 q5476 q5477 q5478 q5479 q5480 q5481 q5482 q5483 q5484 q5485 p5486 p5487 p5488 pl5489 p5490 p5491 p5492 p5493 p5494 p5495 p5496 p5497 p5498 p5499 p5500 p5501 p5502 f5503 f5504 f5505 f5506 f5507 f5508 f5509 f5510 f5511 f5512 p5513 f5514 bp5492 bp5496 bp5497 bp5498 bf5504 bf5507 bp5513 bf5514 (by omega)) d_cX8_accept_98 ⟨w_3_173, w_1_3, w_3_176, by decide, rfl, (Nat.le_of_ble_eq_true rfl), (Nat.le_of_ble_eq_true rfl)⟩ w_3_175 w_p_16 0 rfl rfl [0, 1, 2, 3, 4, 5, 6, 7, 8, 9, 10, 11, 12, 13, 14] [] rfl rfl rfl rfl (by decide) (Nat.le_of_ble_eq_true rfl) (Nat.le_of_ble_eq_true rfl) (Nat.le_of_ble_eq_true rfl) (fun r w hp => ?_) (fun _ _ _ z => z.elim)
    refine Exists.elim hp fun o6154 hp => ?_
    refine Exists.elim hp fun o6155 hp => ?_
    refine Exists.elim hp fun o6156 hp => ?_
    refine Exists.elim hp fun o6157 hp => ?_
    refine Exists.elim hp fun o6158 hp => ?_
    refine Exists.elim hp fun o6159 hp => ?_
    refine Exists.elim hp fun f6160 hp => ?_
    refine Exists.elim hp fun f6161 hp => ?_
    refine Exists.elim hp fun f6162 hp => ?_
    refine Exists.elim hp fun f6163 hp => ?_
    refine Exists.elim hp fun f6164 hp => ?_
    refine Exists.elim hp fun f6165 hp => ?_
    obtain ⟨rfl, rfl, bo6154, bo6155, bo6156, bo6157, bo6158, bo6159, bf6160, bf6161, bf6162, bf6163, bf6164, bf6165⟩ := hp
    change G _ _ _ _ _ _ _ (.int o6154 :: _) _ _ _
    refine G_ws (ws' := [(q5471, .inr (13, [.ref q5473, .ref q5474, .int p5486, .int p5487, .int p5488, .long pl5489, .int p5490, .int o6155, .int p5492, .int p5493, .int o6156, .int o6157])), (q5472, .inr (5, [.ref q5475, .ref q5476, .ref q5477, .ref q5478, .ref q5479, .ref q5480, .ref q5481, .ref q5482, .ref q5483, .int p5496, .int o6158, .int o6159])), (q5473, .inr (14, [.ref q5484, .int p5499, .int p5500, .int p5501, .int p5502])), (q5474, .inl (I .int, 80, .inl f5503)), (q5475, .inl (I .int, 40, .inl f5504)), (q5476, .inl (I .int, 40, .inl f5505)), (q5477, .inl (I .int, 40, .inl f5506)), (q5478, .inl (I .int, 200, .inl f6160)), (q5479, .inl (I .int, 200, .inl f6161)), (q5480, .inl (I .int, 200, .inl f6162)), (q5481, .inl (I .int, 200, .inl f6163)), (q5482, .inl (I .int, 200, .inl f6164)), (q5483, .inl (I .int, 200, .inl f6165)), (q5484, .inr (15, [.ref q5485, .int p5513])), (q5485, .inl (I .byte, 8192, .inl f5514))]) (cs' := 0) (sl' := 0) rfl rfl rfl ?_
    exact G_zret FieldType.boolean d_cX8_accept_101 rfl (gN_bool bo6154) (Nat.le_of_ble_eq_true rfl) (Nat.le_of_ble_eq_true rfl) ⟨o6154, p5487, p5488, pl5489, o6155, p5496, f5504, f5505, f5506, p5490, p5493, o6156, o6157, o6158, o6159, f6160, f6161, f6162, f6163, f6164, f6165, p5492, f5503, rfl, rfl, bo6154, bp5487, bp5488, (gB_w bo6155 (by decide) (by decide)), bp5496, bf5504, (gF_any f5505), (gF_any f5506), bp5490, bp5493, bo6156, bo6157, bo6158, bo6159, bf6160, bf6161, bf6162, bf6163, bf6164, bf6165, bp5492, (gF_any f5503)⟩
  by_cases hs6166 : p5491 = 6
  · have ehs6166 : p5491.toInt = 6 := gj_eq hs6166 (show Int32.toInt 6 = 6 by decide)
    have bp5491' : gB p5491 6 6 := ⟨by omega, by omega⟩
    refine G_eqi (y := 6) hs6166 ?_
    refine G_tableIn 102 d_cX8_accept_4 (by decide) (by decide) (by first | rfl | decide) (by decide) ?_
    refine G_aload_n 0 d_cX8_accept_102 rfl ?_
    refine G_aload_n 1 d_cX8_accept_103 rfl ?_
    refine G_callV (As := [.ref q5472]) (wr := []) (gV_ok D I) (ct_6212_Reader_acceptOpOrLine l hl0 D I q5471 q5472 q5473 q5474 q5475 q5476 q5477 q5478 q5479 q5480 q5481 q5482 q5483 q5484 q5485 p5486 p5487 p5488 pl5489 p5490 p5491 p5492 p5493 p5494 p5495 p5496 p5497 p5498 p5499 p5500 p5501 p5502 f5503 f5504 f5505 f5506 f5507 f5508 f5509 f5510 f5511 f5512 p5513 f5514 bp5492 bp5496 bp5497 bp5498 bf5504 bf5507 bp5513 bf5514 (by omega)) d_cX8_accept_104 ⟨w_3_193, w_1_3, w_3_196, by decide, rfl, (Nat.le_of_ble_eq_true rfl), (Nat.le_of_ble_eq_true rfl)⟩ w_3_195 w_p_21 0 rfl rfl [0, 1, 2, 3, 4, 5, 6, 7, 8, 9, 10, 11, 12, 13, 14] [] rfl rfl rfl rfl (by decide) (Nat.le_of_ble_eq_true rfl) (Nat.le_of_ble_eq_true rfl) (Nat.le_of_ble_eq_true rfl) (fun r w hp => ?_) (fun _ _ _ z => z.elim)
    refine Exists.elim hp fun o6257 hp => ?_
    refine Exists.elim hp fun o6258 hp => ?_
    refine Exists.elim hp fun o6259 hp => ?_
    refine Exists.elim hp fun o6260 hp => ?_
    refine Exists.elim hp fun o6261 hp => ?_
    refine Exists.elim hp fun o6262 hp => ?_
    refine Exists.elim hp fun o6263 hp => ?_
    refine Exists.elim hp fun o6264 hp => ?_
    refine Exists.elim hp fun o6265 hp => ?_
    refine Exists.elim hp fun o6266 hp => ?_
    refine Exists.elim hp fun f6267 hp => ?_
    refine Exists.elim hp fun f6268 hp => ?_
    refine Exists.elim hp fun f6269 hp => ?_
    refine Exists.elim hp fun f6270 hp => ?_
    refine Exists.elim hp fun f6271 hp => ?_
    refine Exists.elim hp fun f6272 hp => ?_
    refine Exists.elim hp fun o6273 hp => ?_
    obtain ⟨rfl, rfl, bo6257, bo6258, bo6259, bo6260, bo6261, bo6262, bo6263, bo6264, bo6265, bo6266, bf6267, bf6268, bf6269, bf6270, bf6271, bf6272, bo6273⟩ := hp
    change G _ _ _ _ _ _ _ (.int o6257 :: _) _ _ _
    refine G_ws (ws' := [(q5471, .inr (13, [.ref q5473, .ref q5474, .int p5486, .int o6258, .int o6259, .long pl5489, .int o6260, .int o6261, .int o6273, .int o6262, .int o6263, .int o6264])), (q5472, .inr (5, [.ref q5475, .ref q5476, .ref q5477, .ref q5478, .ref q5479, .ref q5480, .ref q5481, .ref q5482, .ref q5483, .int p5496, .int o6265, .int o6266])), (q5473, .inr (14, [.ref q5484, .int p5499, .int p5500, .int p5501, .int p5502])), (q5474, .inl (I .int, 80, .inl f5503)), (q5475, .inl (I .int, 40, .inl f5504)), (q5476, .inl (I .int, 40, .inl f5505)), (q5477, .inl (I .int, 40, .inl f5506)), (q5478, .inl (I .int, 200, .inl f6267)), (q5479, .inl (I .int, 200, .inl f6268)), (q5480, .inl (I .int, 200, .inl f6269)), (q5481, .inl (I .int, 200, .inl f6270)), (q5482, .inl (I .int, 200, .inl f6271)), (q5483, .inl (I .int, 200, .inl f6272)), (q5484, .inr (15, [.ref q5485, .int p5513])), (q5485, .inl (I .byte, 8192, .inl f5514))]) (cs' := 0) (sl' := 0) rfl rfl rfl ?_
    exact G_zret FieldType.boolean d_cX8_accept_107 rfl (gN_bool bo6257) (Nat.le_of_ble_eq_true rfl) (Nat.le_of_ble_eq_true rfl) ⟨o6257, o6258, o6259, pl5489, o6261, p5496, f5504, f5505, f5506, o6260, o6262, o6263, o6264, o6265, o6266, f6267, f6268, f6269, f6270, f6271, f6272, o6273, f5503, rfl, rfl, bo6257, bo6258, bo6259, bo6261, bp5496, bf5504, (gF_any f5505), (gF_any f5506), bo6260, bo6262, bo6263, bo6264, bo6265, bo6266, bf6267, bf6268, bf6269, bf6270, bf6271, bf6272, bo6273, (gF_any f5503)⟩
  by_cases hs6274 : p5491 = 7
  · have ehs6274 : p5491.toInt = 7 := gj_eq hs6274 (show Int32.toInt 7 = 7 by decide)
    have bp5491' : gB p5491 7 7 := ⟨by omega, by omega⟩
    refine G_eqi (y := 7) hs6274 ?_
    refine G_tableIn 108 d_cX8_accept_4 (by decide) (by decide) (by first | rfl | decide) (by decide) ?_
    refine G_aload_n 0 d_cX8_accept_108 rfl ?_
    refine G_aload_n 1 d_cX8_accept_109 rfl ?_
    refine G_callV (As := [.ref q5472]) (wr := []) (gV_ok D I) (ct_6320_Reader_acceptRight l hl0 D I q5471 q5472 q5473 q5474 q5475 q5476 q5477 q5478 q5479 q5480 q5481 q5482 q5483 q5484 q5485 p5486 p5487 p5488 pl5489 p5490 p5491 p5492 p5493 p5494 p5495 p5496 p5497 p5498 p5499 p5500 p5501 p5502 f5503 f5504 f5505 f5506 f5507 f5508 f5509 f5510 f5511 f5512 p5513 f5514 bp5492 bp5496 bp5497 bp5498 bf5504 bf5507 bp5513 bf5514 (by omega)) d_cX8_accept_110 ⟨w_3_197, w_1_3, w_3_200, by decide, rfl, (Nat.le_of_ble_eq_true rfl), (Nat.le_of_ble_eq_true rfl)⟩ w_3_199 w_p_22 0 rfl rfl [0, 1, 2, 3, 4, 5, 6, 7, 8, 9, 10, 11, 12, 13, 14] [] rfl rfl rfl rfl (by decide) (Nat.le_of_ble_eq_true rfl) (Nat.le_of_ble_eq_true rfl) (Nat.le_of_ble_eq_true rfl) (fun r w hp => ?_) (fun _ _ _ z => z.elim)
    refine Exists.elim hp fun o6376 hp => ?_
    refine Exists.elim hp fun o6377 hp => ?_
    refine Exists.elim hp fun o6378 hp => ?_
    refine Exists.elim hp fun o6379 hp => ?_
    refine Exists.elim hp fun f6380 hp => ?_
    refine Exists.elim hp fun f6381 hp => ?_
    refine Exists.elim hp fun f6382 hp => ?_
    refine Exists.elim hp fun f6383 hp => ?_
    refine Exists.elim hp fun f6384 hp => ?_
    refine Exists.elim hp fun f6385 hp => ?_
    obtain ⟨rfl, rfl, bo6376, bo6377, bo6378, bo6379, bf6380, bf6381, bf6382, bf6383, bf6384, bf6385⟩ := hp
    change G _ _ _ _ _ _ _ (.int o6376 :: _) _ _ _
    refine G_ws (ws' := [(q5471, .inr (13, [.ref q5473, .ref q5474, .int p5486, .int p5487, .int p5488, .long pl5489, .int p5490, .int o6377, .int p5492, .int p5493, .int p5494, .int p5495])), (q5472, .inr (5, [.ref q5475, .ref q5476, .ref q5477, .ref q5478, .ref q5479, .ref q5480, .ref q5481, .ref q5482, .ref q5483, .int p5496, .int o6378, .int o6379])), (q5473, .inr (14, [.ref q5484, .int p5499, .int p5500, .int p5501, .int p5502])), (q5474, .inl (I .int, 80, .inl f5503)), (q5475, .inl (I .int, 40, .inl f5504)), (q5476, .inl (I .int, 40, .inl f5505)), (q5477, .inl (I .int, 40, .inl f5506)), (q5478, .inl (I .int, 200, .inl f6380)), (q5479, .inl (I .int, 200, .inl f6381)), (q5480, .inl (I .int, 200, .inl f6382)), (q5481, .inl (I .int, 200, .inl f6383)), (q5482, .inl (I .int, 200, .inl f6384)), (q5483, .inl (I .int, 200, .inl f6385)), (q5484, .inr (15, [.ref q5485, .int p5513])), (q5485, .inl (I .byte, 8192, .inl f5514))]) (cs' := 0) (sl' := 0) rfl rfl rfl ?_
    exact G_zret FieldType.boolean d_cX8_accept_113 rfl (gN_bool bo6376) (Nat.le_of_ble_eq_true rfl) (Nat.le_of_ble_eq_true rfl) ⟨o6376, p5487, p5488, pl5489, o6377, p5496, f5504, f5505, f5506, p5490, p5493, p5494, p5495, o6378, o6379, f6380, f6381, f6382, f6383, f6384, f6385, p5492, f5503, rfl, rfl, bo6376, bp5487, bp5488, (gB_w bo6377 (by decide) (by decide)), bp5496, bf5504, (gF_any f5505), (gF_any f5506), bp5490, bp5493, bp5494, bp5495, bo6378, bo6379, bf6380, bf6381, bf6382, bf6383, bf6384, bf6385, bp5492, (gF_any f5503)⟩
  by_cases hs6386 : p5491 = 8
  · have ehs6386 : p5491.toInt = 8 := gj_eq hs6386 (show Int32.toInt 8 = 8 by decide)
    have bp5491' : gB p5491 8 8 := ⟨by omega, by omega⟩
    refine G_eqi (y := 8) hs6386 ?_
    refine G_tableIn 114 d_cX8_accept_4 (by decide) (by decide) (by first | rfl | decide) (by decide) ?_
    refine G_aload_n 0 d_cX8_accept_114 rfl ?_
    refine G_aload_n 1 d_cX8_accept_115 rfl ?_
    refine G_bipush 16 d_cX8_accept_116 (by decide +kernel) ?_
    refine G_iconst 3 d_cX8_accept_118 (by decide +kernel) ?_
    refine G_callV (As := [.ref q5472, .int 16, .int 3]) (wr := []) (gV_ok D I) (ct_6434_Reader_acceptOnly l hl0 D I q5471 q5472 q5473 q5474 q5475 q5476 q5477 q5478 q5479 q5480 q5481 q5482 q5483 q5484 q5485 16 3 p5486 p5487 p5488 pl5489 p5490 p5491 p5492 p5493 p5494 p5495 p5496 p5497 p5498 p5499 p5500 p5501 p5502 f5503 f5504 f5505 f5506 f5507 f5508 f5509 f5510 f5511 f5512 p5513 f5514 (gB_w (gBl (show Int32.toInt 16 = 16 by decide)) (by decide) (by decide)) bp5492 bp5496 bp5497 bp5498 bf5504 bf5507 bp5513 bf5514 (by have qa0 : Int32.toInt 3 = 3 := (by decide); have qa1 : Int32.toInt 16 = 16 := (by decide); omega)) d_cX8_accept_119 ⟨w_3_201, w_1_3, w_3_204, by decide, rfl, (Nat.le_of_ble_eq_true rfl), (Nat.le_of_ble_eq_true rfl)⟩ w_3_203 w_p_23 0 rfl rfl [0, 1, 2, 3, 4, 5, 6, 7, 8, 9, 10, 11, 12, 13, 14] [] rfl rfl rfl rfl (by decide) (Nat.le_of_ble_eq_true rfl) (Nat.le_of_ble_eq_true rfl) (Nat.le_of_ble_eq_true rfl) (fun r w hp => ?_) (fun _ _ _ z => z.elim)
    refine Exists.elim hp fun o6462 hp => ?_
    refine Exists.elim hp fun o6463 hp => ?_
    refine Exists.elim hp fun o6464 hp => ?_
    refine Exists.elim hp fun o6465 hp => ?_
    refine Exists.elim hp fun o6466 hp => ?_
    refine Exists.elim hp fun o6467 hp => ?_
    refine Exists.elim hp fun f6468 hp => ?_
    refine Exists.elim hp fun f6469 hp => ?_
    refine Exists.elim hp fun f6470 hp => ?_
    refine Exists.elim hp fun f6471 hp => ?_
    refine Exists.elim hp fun f6472 hp => ?_
    refine Exists.elim hp fun f6473 hp => ?_
    obtain ⟨rfl, rfl, bo6462, bo6463, bo6464, bo6465, bo6466, bo6467, bf6468, bf6469, bf6470, bf6471, bf6472, bf6473⟩ := hp
    change G _ _ _ _ _ _ _ (.int o6462 :: _) _ _ _
    refine G_ws (ws' := [(q5471, .inr (13, [.ref q5473, .ref q5474, .int p5486, .int p5487, .int p5488, .long pl5489, .int p5490, .int o6463, .int p5492, .int p5493, .int o6464, .int o6465])), (q5472, .inr (5, [.ref q5475, .ref q5476, .ref q5477, .ref q5478, .ref q5479, .ref q5480, .ref q5481, .ref q5482, .ref q5483, .int p5496, .int o6466, .int o6467])), (q5473, .inr (14, [.ref q5484, .int p5499, .int p5500, .int p5501, .int p5502])), (q5474, .inl (I .int, 80, .inl f5503)), (q5475, .inl (I .int, 40, .inl f5504)), (q5476, .inl (I .int, 40, .inl f5505)), (q5477, .inl (I .int, 40, .inl f5506)), (q5478, .inl (I .int, 200, .inl f6468)), (q5479, .inl (I .int, 200, .inl f6469)), (q5480, .inl (I .int, 200, .inl f6470)), (q5481, .inl (I .int, 200, .inl f6471)), (q5482, .inl (I .int, 200, .inl f6472)), (q5483, .inl (I .int, 200, .inl f6473)), (q5484, .inr (15, [.ref q5485, .int p5513])), (q5485, .inl (I .byte, 8192, .inl f5514))]) (cs' := 0) (sl' := 0) rfl rfl rfl ?_
    exact G_zret FieldType.boolean d_cX8_accept_122 rfl (gN_bool bo6462) (Nat.le_of_ble_eq_true rfl) (Nat.le_of_ble_eq_true rfl) ⟨o6462, p5487, p5488, pl5489, o6463, p5496, f5504, f5505, f5506, p5490, p5493, o6464, o6465, o6466, o6467, f6468, f6469, f6470, f6471, f6472, f6473, p5492, f5503, rfl, rfl, bo6462, bp5487, bp5488, bo6463, bp5496, bf5504, (gF_any f5505), (gF_any f5506), bp5490, bp5493, bo6464, bo6465, bo6466, bo6467, bf6468, bf6469, bf6470, bf6471, bf6472, bf6473, bp5492, (gF_any f5503)⟩
  by_cases hs6474 : p5491 = 9
  · have ehs6474 : p5491.toInt = 9 := gj_eq hs6474 (show Int32.toInt 9 = 9 by decide)
    have bp5491' : gB p5491 9 9 := ⟨by omega, by omega⟩
    refine G_eqi (y := 9) hs6474 ?_
    refine G_tableIn 123 d_cX8_accept_4 (by decide) (by decide) (by first | rfl | decide) (by decide) ?_
    refine G_aload_n 0 d_cX8_accept_123 rfl ?_
    refine G_aload_n 1 d_cX8_accept_124 rfl ?_
    refine G_bipush 20 d_cX8_accept_125 (by decide +kernel) ?_
    refine G_bipush 11 d_cX8_accept_127 (by decide +kernel) ?_
    refine G_callV (As := [.ref q5472, .int 20, .int 11]) (wr := []) (gV_ok D I) (ct_6434_Reader_acceptOnly l hl0 D I q5471 q5472 q5473 q5474 q5475 q5476 q5477 q5478 q5479 q5480 q5481 q5482 q5483 q5484 q5485 20 11 p5486 p5487 p5488 pl5489 p5490 p5491 p5492 p5493 p5494 p5495 p5496 p5497 p5498 p5499 p5500 p5501 p5502 f5503 f5504 f5505 f5506 f5507 f5508 f5509 f5510 f5511 f5512 p5513 f5514 (gB_w (gBl (show Int32.toInt 20 = 20 by decide)) (by decide) (by decide)) bp5492 bp5496 bp5497 bp5498 bf5504 bf5507 bp5513 bf5514 (by have qa0 : Int32.toInt 11 = 11 := (by decide); have qa1 : Int32.toInt 20 = 20 := (by decide); omega)) d_cX8_accept_129 ⟨w_3_201, w_1_3, w_3_204, by decide, rfl, (Nat.le_of_ble_eq_true rfl), (Nat.le_of_ble_eq_true rfl)⟩ w_3_203 w_p_23 0 rfl rfl [0, 1, 2, 3, 4, 5, 6, 7, 8, 9, 10, 11, 12, 13, 14] [] rfl rfl rfl rfl (by decide) (Nat.le_of_ble_eq_true rfl) (Nat.le_of_ble_eq_true rfl) (Nat.le_of_ble_eq_true rfl) (fun r w hp => ?_) (fun _ _ _ z => z.elim)
    refine Exists.elim hp fun o6475 hp => ?_
    refine Exists.elim hp fun o6476 hp => ?_
    refine Exists.elim hp fun o6477 hp => ?_
    refine Exists.elim hp fun o6478 hp => ?_
    refine Exists.elim hp fun o6479 hp => ?_
    refine Exists.elim hp fun o6480 hp => ?_
    refine Exists.elim hp fun f6481 hp => ?_
    refine Exists.elim hp fun f6482 hp => ?_
    refine Exists.elim hp fun f6483 hp => ?_
    refine Exists.elim hp fun f6484 hp => ?_
    refine Exists.elim hp fun f6485 hp => ?_
    refine Exists.elim hp fun f6486 hp => ?_
    obtain ⟨rfl, rfl, bo6475, bo6476, bo6477, bo6478, bo6479, bo6480, bf6481, bf6482, bf6483, bf6484, bf6485, bf6486⟩ := hp
    change G _ _ _ _ _ _ _ (.int o6475 :: _) _ _ _
    refine G_ws (ws' := [(q5471, .inr (13, [.ref q5473, .ref q5474, .int p5486, .int p5487, .int p5488, .long pl5489, .int p5490, .int o6476, .int p5492, .int p5493, .int o6477, .int o6478])), (q5472, .inr (5, [.ref q5475, .ref q5476, .ref q5477, .ref q5478, .ref q5479, .ref q5480, .ref q5481, .ref q5482, .ref q5483, .int p5496, .int o6479, .int o6480])), (q5473, .inr (14, [.ref q5484, .int p5499, .int p5500, .int p5501, .int p5502])), (q5474, .inl (I .int, 80, .inl f5503)), (q5475, .inl (I .int, 40, .inl f5504)), (q5476, .inl (I .int, 40, .inl f5505)), (q5477, .inl (I .int, 40, .inl f5506)), (q5478, .inl (I .int, 200, .inl f6481)), (q5479, .inl (I .int, 200, .inl f6482)), (q5480, .inl (I .int, 200, .inl f6483)), (q5481, .inl (I .int, 200, .inl f6484)), (q5482, .inl (I .int, 200, .inl f6485)), (q5483, .inl (I .int, 200, .inl f6486)), (q5484, .inr (15, [.ref q5485, .int p5513])), (q5485, .inl (I .byte, 8192, .inl f5514))]) (cs' := 0) (sl' := 0) rfl rfl rfl ?_
    exact G_zret FieldType.boolean d_cX8_accept_132 rfl (gN_bool bo6475) (Nat.le_of_ble_eq_true rfl) (Nat.le_of_ble_eq_true rfl) ⟨o6475, p5487, p5488, pl5489, o6476, p5496, f5504, f5505, f5506, p5490, p5493, o6477, o6478, o6479, o6480, f6481, f6482, f6483, f6484, f6485, f6486, p5492, f5503, rfl, rfl, bo6475, bp5487, bp5488, bo6476, bp5496, bf5504, (gF_any f5505), (gF_any f5506), bp5490, bp5493, bo6477, bo6478, bo6479, bo6480, bf6481, bf6482, bf6483, bf6484, bf6485, bf6486, bp5492, (gF_any f5503)⟩
  by_cases hs6487 : p5491 = 10
  · have ehs6487 : p5491.toInt = 10 := gj_eq hs6487 (show Int32.toInt 10 = 10 by decide)
    have bp5491' : gB p5491 10 10 := ⟨by omega, by omega⟩
    refine G_eqi (y := 10) hs6487 ?_
    refine G_tableIn 133 d_cX8_accept_4 (by decide) (by decide) (by first | rfl | decide) (by decide) ?_
    refine G_aload_n 0 d_cX8_accept_133 rfl ?_
    refine G_aload_n 1 d_cX8_accept_134 rfl ?_
    refine G_bipush 21 d_cX8_accept_135 (by decide +kernel) ?_
    refine G_iconst 1 d_cX8_accept_137 (by decide +kernel) ?_
    refine G_callV (As := [.ref q5472, .int 21, .int 1]) (wr := []) (gV_ok D I) (ct_6434_Reader_acceptOnly l hl0 D I q5471 q5472 q5473 q5474 q5475 q5476 q5477 q5478 q5479 q5480 q5481 q5482 q5483 q5484 q5485 21 1 p5486 p5487 p5488 pl5489 p5490 p5491 p5492 p5493 p5494 p5495 p5496 p5497 p5498 p5499 p5500 p5501 p5502 f5503 f5504 f5505 f5506 f5507 f5508 f5509 f5510 f5511 f5512 p5513 f5514 (gB_w (gBl (show Int32.toInt 21 = 21 by decide)) (by decide) (by decide)) bp5492 bp5496 bp5497 bp5498 bf5504 bf5507 bp5513 bf5514 (by have qa0 : Int32.toInt 1 = 1 := (by decide); have qa1 : Int32.toInt 21 = 21 := (by decide); omega)) d_cX8_accept_138 ⟨w_3_201, w_1_3, w_3_204, by decide, rfl, (Nat.le_of_ble_eq_true rfl), (Nat.le_of_ble_eq_true rfl)⟩ w_3_203 w_p_23 0 rfl rfl [0, 1, 2, 3, 4, 5, 6, 7, 8, 9, 10, 11, 12, 13, 14] [] rfl rfl rfl rfl (by decide) (Nat.le_of_ble_eq_true rfl) (Nat.le_of_ble_eq_true rfl) (Nat.le_of_ble_eq_true rfl) (fun r w hp => ?_) (fun _ _ _ z => z.elim)
    refine Exists.elim hp fun o6488 hp => ?_
    refine Exists.elim hp fun o6489 hp => ?_
    refine Exists.elim hp fun o6490 hp => ?_
    refine Exists.elim hp fun o6491 hp => ?_
    refine Exists.elim hp fun o6492 hp => ?_
    refine Exists.elim hp fun o6493 hp => ?_
    refine Exists.elim hp fun f6494 hp => ?_
    refine Exists.elim hp fun f6495 hp => ?_
    refine Exists.elim hp fun f6496 hp => ?_
    refine Exists.elim hp fun f6497 hp => ?_
    refine Exists.elim hp fun f6498 hp => ?_
    refine Exists.elim hp fun f6499 hp => ?_
    obtain ⟨rfl, rfl, bo6488, bo6489, bo6490, bo6491, bo6492, bo6493, bf6494, bf6495, bf6496, bf6497, bf6498, bf6499⟩ := hp
    change G _ _ _ _ _ _ _ (.int o6488 :: _) _ _ _
    refine G_ws (ws' := [(q5471, .inr (13, [.ref q5473, .ref q5474, .int p5486, .int p5487, .int p5488, .long pl5489, .int p5490, .int o6489, .int p5492, .int p5493, .int o6490, .int o6491])), (q5472, .inr (5, [.ref q5475, .ref q5476, .ref q5477, .ref q5478, .ref q5479, .ref q5480, .ref q5481, .ref q5482, .ref q5483, .int p5496, .int o6492, .int o6493])), (q5473, .inr (14, [.ref q5484, .int p5499, .int p5500, .int p5501, .int p5502])), (q5474, .inl (I .int, 80, .inl f5503)), (q5475, .inl (I .int, 40, .inl f5504)), (q5476, .inl (I .int, 40, .inl f5505)), (q5477, .inl (I .int, 40, .inl f5506)), (q5478, .inl (I .int, 200, .inl f6494)), (q5479, .inl (I .int, 200, .inl f6495)), (q5480, .inl (I .int, 200, .inl f6496)), (q5481, .inl (I .int, 200, .inl f6497)), (q5482, .inl (I .int, 200, .inl f6498)), (q5483, .inl (I .int, 200, .inl f6499)), (q5484, .inr (15, [.ref q5485, .int p5513])), (q5485, .inl (I .byte, 8192, .inl f5514))]) (cs' := 0) (sl' := 0) rfl rfl rfl ?_
    exact G_zret FieldType.boolean d_cX8_accept_141 rfl (gN_bool bo6488) (Nat.le_of_ble_eq_true rfl) (Nat.le_of_ble_eq_true rfl) ⟨o6488, p5487, p5488, pl5489, o6489, p5496, f5504, f5505, f5506, p5490, p5493, o6490, o6491, o6492, o6493, f6494, f6495, f6496, f6497, f6498, f6499, p5492, f5503, rfl, rfl, bo6488, bp5487, bp5488, bo6489, bp5496, bf5504, (gF_any f5505), (gF_any f5506), bp5490, bp5493, bo6490, bo6491, bo6492, bo6493, bf6494, bf6495, bf6496, bf6497, bf6498, bf6499, bp5492, (gF_any f5503)⟩
  by_cases hs6500 : p5491 = 11
  · have ehs6500 : p5491.toInt = 11 := gj_eq hs6500 (show Int32.toInt 11 = 11 by decide)
    have bp5491' : gB p5491 11 11 := ⟨by omega, by omega⟩
    refine G_eqi (y := 11) hs6500 ?_
    refine G_tableIn 142 d_cX8_accept_4 (by decide) (by decide) (by first | rfl | decide) (by decide) ?_
    refine G_aload_n 0 d_cX8_accept_142 rfl ?_
    refine G_aload_n 1 d_cX8_accept_143 rfl ?_
    refine G_bipush 12 d_cX8_accept_144 (by decide +kernel) ?_
    refine G_callV (As := [.ref q5472, .int 12]) (wr := []) (gV_ok D I) (ct_6547_Reader_acceptGoal l hl0 D I q5471 q5472 q5473 q5474 q5475 q5476 q5477 q5478 q5479 q5480 q5481 q5482 q5483 q5484 q5485 12 p5486 p5487 p5488 pl5489 p5490 p5491 p5492 p5493 p5494 p5495 p5496 p5497 p5498 p5499 p5500 p5501 p5502 f5503 f5504 f5505 f5506 f5507 f5508 f5509 f5510 f5511 f5512 p5513 f5514 bp5492 bp5496 bp5497 bp5498 bf5504 bf5507 bp5513 bf5514 (by have qa0 : Int32.toInt 12 = 12 := (by decide); omega)) d_cX8_accept_146 ⟨w_3_205, w_1_3, w_3_208, by decide, rfl, (Nat.le_of_ble_eq_true rfl), (Nat.le_of_ble_eq_true rfl)⟩ w_3_207 w_p_24 0 rfl rfl [0, 1, 2, 3, 4, 5, 6, 7, 8, 9, 10, 11, 12, 13, 14] [] rfl rfl rfl rfl (by decide) (Nat.le_of_ble_eq_true rfl) (Nat.le_of_ble_eq_true rfl) (Nat.le_of_ble_eq_true rfl) (fun r w hp => ?_) (fun _ _ _ z => z.elim)
    obtain ⟨o6565, o6566, f6567, f6568, f6569, rfl, rfl, bo6565, bo6566, bf6567, bf6568, bf6569⟩ := hp
    change G _ _ _ _ _ _ _ (.int o6565 :: _) _ _ _
    refine G_ws (ws' := [(q5471, .inr (13, [.ref q5473, .ref q5474, .int p5486, .int p5487, .int p5488, .long pl5489, .int p5490, .int o6566, .int p5492, .int p5493, .int p5494, .int p5495])), (q5472, .inr (5, [.ref q5475, .ref q5476, .ref q5477, .ref q5478, .ref q5479, .ref q5480, .ref q5481, .ref q5482, .ref q5483, .int p5496, .int p5497, .int p5498])), (q5473, .inr (14, [.ref q5484, .int p5499, .int p5500, .int p5501, .int p5502])), (q5474, .inl (I .int, 80, .inl f6569)), (q5475, .inl (I .int, 40, .inl f5504)), (q5476, .inl (I .int, 40, .inl f6567)), (q5477, .inl (I .int, 40, .inl f6568)), (q5478, .inl (I .int, 200, .inl f5507)), (q5479, .inl (I .int, 200, .inl f5508)), (q5480, .inl (I .int, 200, .inl f5509)), (q5481, .inl (I .int, 200, .inl f5510)), (q5482, .inl (I .int, 200, .inl f5511)), (q5483, .inl (I .int, 200, .inl f5512)), (q5484, .inr (15, [.ref q5485, .int p5513])), (q5485, .inl (I .byte, 8192, .inl f5514))]) (cs' := 0) (sl' := 0) rfl rfl rfl ?_
    exact G_zret FieldType.boolean d_cX8_accept_149 rfl (gN_bool bo6565) (Nat.le_of_ble_eq_true rfl) (Nat.le_of_ble_eq_true rfl) ⟨o6565, p5487, p5488, pl5489, o6566, p5496, f5504, f6567, f6568, p5490, p5493, p5494, p5495, p5497, p5498, f5507, f5508, f5509, f5510, f5511, f5512, p5492, f6569, rfl, rfl, bo6565, bp5487, bp5488, bo6566, bp5496, bf5504, bf6567, bf6568, bp5490, bp5493, bp5494, bp5495, bp5497, bp5498, bf5507, (gF_any f5508), (gF_any f5509), (gF_any f5510), (gF_any f5511), (gF_any f5512), bp5492, bf6569⟩
  have ehs5517 := lv_neT hs5517 (show Int32.toInt 0 = 0 by decide)
  have ehs5658 := lv_neT hs5658 (show Int32.toInt 1 = 1 by decide)
  have ehs5668 := lv_neT hs5668 (show Int32.toInt 2 = 2 by decide)
  have ehs5702 := lv_neT hs5702 (show Int32.toInt 3 = 3 by decide)
  have ehs5958 := lv_neT hs5958 (show Int32.toInt 4 = 4 by decide)
  have ehs5961 := lv_neT hs5961 (show Int32.toInt 5 = 5 by decide)
  have ehs6166 := lv_neT hs6166 (show Int32.toInt 6 = 6 by decide)
  have ehs6274 := lv_neT hs6274 (show Int32.toInt 7 = 7 by decide)
  have ehs6386 := lv_neT hs6386 (show Int32.toInt 8 = 8 by decide)
  have ehs6474 := lv_neT hs6474 (show Int32.toInt 9 = 9 by decide)
  have ehs6487 := lv_neT hs6487 (show Int32.toInt 10 = 10 by decide)
  have ehs6500 := lv_neT hs6500 (show Int32.toInt 11 = 11 by decide)
  refine G_tableOut 150 d_cX8_accept_4 (by omega) (by decide) ?_
  refine G_aload_n 0 d_cX8_accept_150 rfl ?_
  refine G_aload_n 1 d_cX8_accept_151 rfl ?_
  refine G_iconst 1 d_cX8_accept_152 (by decide +kernel) ?_
  refine G_callV (As := [.ref q5472, .int 1]) (wr := []) (gV_ok D I) (ct_6547_Reader_acceptGoal l hl0 D I q5471 q5472 q5473 q5474 q5475 q5476 q5477 q5478 q5479 q5480 q5481 q5482 q5483 q5484 q5485 1 p5486 p5487 p5488 pl5489 p5490 p5491 p5492 p5493 p5494 p5495 p5496 p5497 p5498 p5499 p5500 p5501 p5502 f5503 f5504 f5505 f5506 f5507 f5508 f5509 f5510 f5511 f5512 p5513 f5514 bp5492 bp5496 bp5497 bp5498 bf5504 bf5507 bp5513 bf5514 (by have qa0 : Int32.toInt 1 = 1 := (by decide); omega)) d_cX8_accept_153 ⟨w_3_205, w_1_3, w_3_208, by decide, rfl, (Nat.le_of_ble_eq_true rfl), (Nat.le_of_ble_eq_true rfl)⟩ w_3_207 w_p_24 0 rfl rfl [0, 1, 2, 3, 4, 5, 6, 7, 8, 9, 10, 11, 12, 13, 14] [] rfl rfl rfl rfl (by decide) (Nat.le_of_ble_eq_true rfl) (Nat.le_of_ble_eq_true rfl) (Nat.le_of_ble_eq_true rfl) (fun r w hp => ?_) (fun _ _ _ z => z.elim)
  obtain ⟨o6570, o6571, f6572, f6573, f6574, rfl, rfl, bo6570, bo6571, bf6572, bf6573, bf6574⟩ := hp
  change G _ _ _ _ _ _ _ (.int o6570 :: _) _ _ _
  refine G_ws (ws' := [(q5471, .inr (13, [.ref q5473, .ref q5474, .int p5486, .int p5487, .int p5488, .long pl5489, .int p5490, .int o6571, .int p5492, .int p5493, .int p5494, .int p5495])), (q5472, .inr (5, [.ref q5475, .ref q5476, .ref q5477, .ref q5478, .ref q5479, .ref q5480, .ref q5481, .ref q5482, .ref q5483, .int p5496, .int p5497, .int p5498])), (q5473, .inr (14, [.ref q5484, .int p5499, .int p5500, .int p5501, .int p5502])), (q5474, .inl (I .int, 80, .inl f6574)), (q5475, .inl (I .int, 40, .inl f5504)), (q5476, .inl (I .int, 40, .inl f6572)), (q5477, .inl (I .int, 40, .inl f6573)), (q5478, .inl (I .int, 200, .inl f5507)), (q5479, .inl (I .int, 200, .inl f5508)), (q5480, .inl (I .int, 200, .inl f5509)), (q5481, .inl (I .int, 200, .inl f5510)), (q5482, .inl (I .int, 200, .inl f5511)), (q5483, .inl (I .int, 200, .inl f5512)), (q5484, .inr (15, [.ref q5485, .int p5513])), (q5485, .inl (I .byte, 8192, .inl f5514))]) (cs' := 0) (sl' := 0) rfl rfl rfl ?_
  exact G_zret FieldType.boolean d_cX8_accept_156 rfl (gN_bool bo6570) (Nat.le_of_ble_eq_true rfl) (Nat.le_of_ble_eq_true rfl) ⟨o6570, p5487, p5488, pl5489, o6571, p5496, f5504, f6572, f6573, p5490, p5493, p5494, p5495, p5497, p5498, f5507, f5508, f5509, f5510, f5511, f5512, p5492, f6574, rfl, rfl, bo6570, bp5487, bp5488, bo6571, bp5496, bf5504, bf6572, bf6573, bp5490, bp5493, bp5494, bp5495, bp5497, bp5498, bf5507, (gF_any f5508), (gF_any f5509), (gF_any f5510), (gF_any f5511), (gF_any f5512), bp5492, bf6574⟩
