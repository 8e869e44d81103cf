theorem dr_cX17_merge_0 : decode cX17_merge 0 = .ok (.iconst 0, 1) := by decide +kernel
theorem dr_cX17_merge_1 : decode cX17_merge 1 = .ok (.istore_n 3, 1) := by decide +kernel
theorem dr_cX17_merge_2 : decode cX17_merge 2 = .ok (.iload_n 3, 1) := by decide +kernel
theorem dr_cX17_merge_3 : decode cX17_merge 3 = .ok (.aload_n 1, 1) := by decide +kernel
theorem dr_cX17_merge_4 : decode cX17_merge 4 = .ok (.invokevirtual 96, 3) := by decide +kernel
theorem dr_cX17_merge_7 : decode cX17_merge 7 = .ok (.if_icmp .ge 171, 3) := by decide +kernel
theorem dr_cX17_merge_178 : decode cX17_merge 178 = .ok (.iconst 0, 1) := by decide +kernel
theorem dr_cX17_merge_179 : decode cX17_merge 179 = .ok (.ireturn, 1) := by decide +kernel
theorem dr_cX17_merge_10 : decode cX17_merge 10 = .ok (.aload_n 1, 1) := by decide +kernel
theorem dr_cX17_merge_11 : decode cX17_merge 11 = .ok (.iload_n 3, 1) := by decide +kernel
theorem dr_cX17_merge_12 : decode cX17_merge 12 = .ok (.invokevirtual 101, 3) := by decide +kernel
theorem dr_cX17_merge_15 : decode cX17_merge 15 = .ok (.astore 4, 2) := by decide +kernel
theorem dr_cX17_merge_17 : decode cX17_merge 17 = .ok (.iconst 0, 1) := by decide +kernel
theorem dr_cX17_merge_18 : decode cX17_merge 18 = .ok (.istore 5, 2) := by decide +kernel
theorem dr_cX17_merge_20 : decode cX17_merge 20 = .ok (.iload 5, 2) := by decide +kernel
theorem dr_cX17_merge_22 : decode cX17_merge 22 = .ok (.aload 4, 2) := by decide +kernel
theorem dr_cX17_merge_24 : decode cX17_merge 24 = .ok (.getfield 117, 3) := by decide +kernel
theorem dr_cX17_merge_27 : decode cX17_merge 27 = .ok (.invokevirtual 121, 3) := by decide +kernel
theorem dr_cX17_merge_30 : decode cX17_merge 30 = .ok (.if_icmp .ge 142, 3) := by decide +kernel
theorem dr_cX17_merge_172 : decode cX17_merge 172 = .ok (.iinc 3 1, 3) := by decide +kernel
theorem dr_cX17_merge_175 : decode cX17_merge 175 = .ok (.goto (-173), 3) := by decide +kernel
theorem dr_cX17_merge_33 : decode cX17_merge 33 = .ok (.aload 4, 2) := by decide +kernel
theorem dr_cX17_merge_35 : decode cX17_merge 35 = .ok (.getfield 117, 3) := by decide +kernel
theorem dr_cX17_merge_38 : decode cX17_merge 38 = .ok (.iload 5, 2) := by decide +kernel
theorem dr_cX17_merge_40 : decode cX17_merge 40 = .ok (.invokevirtual 124, 3) := by decide +kernel
theorem dr_cX17_merge_43 : decode cX17_merge 43 = .ok (.checkcast 40, 3) := by decide +kernel
theorem dr_cX17_merge_46 : decode cX17_merge 46 = .ok (.astore 6, 2) := by decide +kernel
theorem dr_cX17_merge_48 : decode cX17_merge 48 = .ok (.aload 6, 2) := by decide +kernel
theorem dr_cX17_merge_50 : decode cX17_merge 50 = .ok (.getfield 39, 3) := by decide +kernel
theorem dr_cX17_merge_53 : decode cX17_merge 53 = .ok (.ifCond .ne 113, 3) := by decide +kernel
theorem dr_cX17_merge_166 : decode cX17_merge 166 = .ok (.iinc 5 1, 3) := by decide +kernel
theorem dr_cX17_merge_169 : decode cX17_merge 169 = .ok (.goto (-149), 3) := by decide +kernel
theorem dr_cX17_merge_56 : decode cX17_merge 56 = .ok (.aload 6, 2) := by decide +kernel
theorem dr_cX17_merge_58 : decode cX17_merge 58 = .ok (.getfield 141, 3) := by decide +kernel
theorem dr_cX17_merge_61 : decode cX17_merge 61 = .ok (.ifCond .eq 105, 3) := by decide +kernel
theorem dr_cX17_merge_64 : decode cX17_merge 64 = .ok (.aload 6, 2) := by decide +kernel
theorem dr_cX17_merge_66 : decode cX17_merge 66 = .ok (.getfield 52, 3) := by decide +kernel
theorem dr_cX17_merge_69 : decode cX17_merge 69 = .ok (.aload 6, 2) := by decide +kernel
theorem dr_cX17_merge_71 : decode cX17_merge 71 = .ok (.getfield 73, 3) := by decide +kernel
theorem dr_cX17_merge_74 : decode cX17_merge 74 = .ok (.if_icmp .eq 24, 3) := by decide +kernel
theorem dr_cX17_merge_98 : decode cX17_merge 98 = .ok (.aload 6, 2) := by decide +kernel
theorem dr_cX17_merge_100 : decode cX17_merge 100 = .ok (.getfield 52, 3) := by decide +kernel
theorem dr_cX17_merge_103 : decode cX17_merge 103 = .ok (.aload 6, 2) := by decide +kernel
theorem dr_cX17_merge_105 : decode cX17_merge 105 = .ok (.getfield 73, 3) := by decide +kernel
theorem dr_cX17_merge_108 : decode cX17_merge 108 = .ok (.invokestatic 164, 3) := by decide +kernel
theorem dr_cX17_merge_111 : decode cX17_merge 111 = .ok (.istore 7, 2) := by decide +kernel
theorem dr_cX17_merge_113 : decode cX17_merge 113 = .ok (.aload 6, 2) := by decide +kernel
theorem dr_cX17_merge_115 : decode cX17_merge 115 = .ok (.getfield 52, 3) := by decide +kernel
theorem dr_cX17_merge_118 : decode cX17_merge 118 = .ok (.aload 6, 2) := by decide +kernel
theorem dr_cX17_merge_120 : decode cX17_merge 120 = .ok (.getfield 73, 3) := by decide +kernel
theorem dr_cX17_merge_123 : decode cX17_merge 123 = .ok (.invokestatic 189, 3) := by decide +kernel
theorem wr_11_21 : (Jvm.Cond.methodLink "SpillForgeModel" (189 : Nat) ({ cls := "java/lang/Math", name := "max", desc := "(II)I" } : Jvm.MethodName)) ∈ gw := gw_11 21 rfl rfl
theorem dr_cX17_merge_126 : decode cX17_merge 126 = .ok (.istore 8, 2) := by decide +kernel
theorem dr_cX17_merge_128 : decode cX17_merge 128 = .ok (.aload 4, 2) := by decide +kernel
theorem dr_cX17_merge_130 : decode cX17_merge 130 = .ok (.getfield 117, 3) := by decide +kernel
theorem dr_cX17_merge_133 : decode cX17_merge 133 = .ok (.iload 5, 2) := by decide +kernel
theorem dr_cX17_merge_135 : decode cX17_merge 135 = .ok (.invokevirtual 192, 3) := by decide +kernel
theorem wr_11_22 : (Jvm.Cond.methodLink "SpillForgeModel" (192 : Nat) ({ cls := "java/util/ArrayList", name := "remove", desc := "(I)Ljava/lang/Object;" } : Jvm.MethodName)) ∈ gw := gw_11 22 rfl rfl
theorem wr_11_25 : (Jvm.Cond.code ({ cls := "java/util/ArrayList", name := "remove", desc := "(I)Ljava/lang/Object;" } : Jvm.MethodName) prog_43_method_29_code (4 : Nat) (Option.some (Jvm.ClassFile.FieldType.object "java/lang/Object"))) ∈ gw := gw_11 25 rfl rfl
theorem wr_11_23 : (Jvm.Cond.instanceMethod ({ cls := "java/util/ArrayList", name := "remove", desc := "(I)Ljava/lang/Object;" } : Jvm.MethodName)) ∈ gw := gw_11 23 rfl rfl
theorem wr_11_24 : (Jvm.Cond.selects "java/util/ArrayList" ({ cls := "java/util/ArrayList", name := "remove", desc := "(I)Ljava/lang/Object;" } : Jvm.MethodName) ({ cls := "java/util/ArrayList", name := "remove", desc := "(I)Ljava/lang/Object;" } : Jvm.MethodName)) ∈ gw := gw_11 24 rfl rfl
theorem dr_cX17_merge_138 : decode cX17_merge 138 = .ok (.pop, 1) := by decide +kernel
theorem dr_cX17_merge_139 : decode cX17_merge 139 = .ok (.aload_n 0, 1) := by decide +kernel
theorem dr_cX17_merge_140 : decode cX17_merge 140 = .ok (.dup, 1) := by decide +kernel
theorem dr_cX17_merge_141 : decode cX17_merge 141 = .ok (.getfield 195, 3) := by decide +kernel
theorem wr_7_87 : (Jvm.Cond.fieldLink "SpillForgeModel" (195 : Nat) "SpillForgeModel" "merged" "I") ∈ gw := gw_7 87 rfl rfl
theorem dr_cX17_merge_144 : decode cX17_merge 144 = .ok (.iconst 1, 1) := by decide +kernel
theorem dr_cX17_merge_145 : decode cX17_merge 145 = .ok (.iadd, 1) := by decide +kernel
theorem dr_cX17_merge_146 : decode cX17_merge 146 = .ok (.putfield 195, 3) := by decide +kernel
theorem dr_cX17_merge_149 : decode cX17_merge 149 = .ok (.iload 7, 2) := by decide +kernel
theorem dr_cX17_merge_151 : decode cX17_merge 151 = .ok (.iload 8, 2) := by decide +kernel
theorem dr_cX17_merge_153 : decode cX17_merge 153 = .ok (.if_icmp .eq 11, 3) := by decide +kernel
theorem dr_cX17_merge_164 : decode cX17_merge 164 = .ok (.iconst 1, 1) := by decide +kernel
theorem dr_cX17_merge_165 : decode cX17_merge 165 = .ok (.ireturn, 1) := by decide +kernel
theorem dr_cX17_merge_156 : decode cX17_merge 156 = .ok (.aload_n 1, 1) := by decide +kernel
theorem dr_cX17_merge_157 : decode cX17_merge 157 = .ok (.iload 8, 2) := by decide +kernel
theorem dr_cX17_merge_159 : decode cX17_merge 159 = .ok (.iload 7, 2) := by decide +kernel
theorem dr_cX17_merge_161 : decode cX17_merge 161 = .ok (.invokestatic 198, 3) := by decide +kernel
theorem wr_11_30 : (Jvm.Cond.methodLink "SpillForgeModel" (198 : Nat) ({ cls := "SpillForgeModel", name := "rename", desc := "(LSpillForgeModel$Code;II)V" } : Jvm.MethodName)) ∈ gw := gw_11 30 rfl rfl
theorem wr_11_32 : (Jvm.Cond.code ({ cls := "SpillForgeModel", name := "rename", desc := "(LSpillForgeModel$Code;II)V" } : Jvm.MethodName) prog_14_method_19_code (7 : Nat) (Option.none : Option Jvm.ClassFile.FieldType)) ∈ gw := gw_11 32 rfl rfl
theorem wr_11_31 : (Jvm.Cond.static ({ cls := "SpillForgeModel", name := "rename", desc := "(LSpillForgeModel$Code;II)V" } : Jvm.MethodName)) ∈ gw := gw_11 31 rfl rfl
theorem dr_cX17_merge_77 : decode cX17_merge 77 = .ok (.aload_n 0, 1) := by decide +kernel
theorem dr_cX17_merge_78 : decode cX17_merge 78 = .ok (.aload 6, 2) := by decide +kernel
theorem dr_cX17_merge_80 : decode cX17_merge 80 = .ok (.getfield 52, 3) := by decide +kernel
theorem dr_cX17_merge_83 : decode cX17_merge 83 = .ok (.aload 6, 2) := by decide +kernel
theorem dr_cX17_merge_85 : decode cX17_merge 85 = .ok (.getfield 73, 3) := by decide +kernel
theorem dr_cX17_merge_88 : decode cX17_merge 88 = .ok (.iload_n 2, 1) := by decide +kernel
theorem dr_cX17_merge_89 : decode cX17_merge 89 = .ok (.invokevirtual 185, 3) := by decide +kernel
theorem wr_11_12 : (Jvm.Cond.methodLink "SpillForgeModel" (185 : Nat) ({ cls := "SpillForgeModel", name := "mayMerge", desc := "(III)Z" } : Jvm.MethodName)) ∈ gw := gw_11 12 rfl rfl
theorem wr_11_15 : (Jvm.Cond.code ({ cls := "SpillForgeModel", name := "mayMerge", desc := "(III)Z" } : Jvm.MethodName) prog_14_method_18_code (8 : Nat) (Option.some Jvm.ClassFile.FieldType.boolean)) ∈ gw := gw_11 15 rfl rfl
theorem wr_11_14 : (Jvm.Cond.instanceMethod ({ cls := "SpillForgeModel", name := "mayMerge", desc := "(III)Z" } : Jvm.MethodName)) ∈ gw := gw_11 14 rfl rfl
theorem wr_p_102 : Cond.selects "SpillForgeModel" ⟨"SpillForgeModel", "mayMerge", "(III)Z"⟩ ⟨"SpillForgeModel", "mayMerge", "(III)Z"⟩ ∈ gw := gw_p _ 102 rfl rfl rfl
theorem dr_cX17_merge_92 : decode cX17_merge 92 = .ok (.ifCond .ne 6, 3) := by decide +kernel
theorem dr_cX17_merge_95 : decode cX17_merge 95 = .ok (.goto 71, 3) := by decide +kernel