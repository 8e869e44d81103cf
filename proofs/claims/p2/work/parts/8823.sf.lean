theorem d_cX2_mergeCopies_0 : decode cX2_mergeCopies 0 = .ok (.aload_n 0, 1) := by decide +kernel
theorem d_cX2_mergeCopies_1 : decode cX2_mergeCopies 1 = .ok (.getfield 48, 3) := by decide +kernel
theorem d_cX2_mergeCopies_4 : decode cX2_mergeCopies 4 = .ok (.getfield 73, 3) := by decide +kernel
theorem d_cX2_mergeCopies_7 : decode cX2_mergeCopies 7 = .ok (.istore_n 2, 1) := by decide +kernel
theorem d_cX2_mergeCopies_8 : decode cX2_mergeCopies 8 = .ok (.iconst 0, 1) := by decide +kernel
theorem d_cX2_mergeCopies_9 : decode cX2_mergeCopies 9 = .ok (.istore_n 3, 1) := by decide +kernel
theorem d_cX2_mergeCopies_10 : decode cX2_mergeCopies 10 = .ok (.iload_n 3, 1) := by decide +kernel
theorem d_cX2_mergeCopies_11 : decode cX2_mergeCopies 11 = .ok (.iload_n 2, 1) := by decide +kernel
theorem d_cX2_mergeCopies_12 : decode cX2_mergeCopies 12 = .ok (.if_icmp .gt 119, 3) := by decide +kernel
theorem d_cX2_mergeCopies_131 : decode cX2_mergeCopies 131 = .ok (.return_, 1) := by decide +kernel
theorem d_cX2_mergeCopies_15 : decode cX2_mergeCopies 15 = .ok (.aload_n 0, 1) := by decide +kernel
theorem d_cX2_mergeCopies_16 : decode cX2_mergeCopies 16 = .ok (.getfield 12, 3) := by decide +kernel
theorem d_cX2_mergeCopies_19 : decode cX2_mergeCopies 19 = .ok (.aload_n 0, 1) := by decide +kernel
theorem d_cX2_mergeCopies_20 : decode cX2_mergeCopies 20 = .ok (.getfield 48, 3) := by decide +kernel
theorem d_cX2_mergeCopies_23 : decode cX2_mergeCopies 23 = .ok (.aload_n 0, 1) := by decide +kernel
theorem d_cX2_mergeCopies_24 : decode cX2_mergeCopies 24 = .ok (.getfield 111, 3) := by decide +kernel
theorem d_cX2_mergeCopies_27 : decode cX2_mergeCopies 27 = .ok (.iconst 0, 1) := by decide +kernel
theorem d_cX2_mergeCopies_28 : decode cX2_mergeCopies 28 = .ok (.invokevirtual 114, 3) := by decide +kernel
theorem d_cX2_mergeCopies_31 : decode cX2_mergeCopies 31 = .ok (.aload_n 0, 1) := by decide +kernel
theorem d_cX2_mergeCopies_32 : decode cX2_mergeCopies 32 = .ok (.iload_n 1, 1) := by decide +kernel
theorem d_cX2_mergeCopies_33 : decode cX2_mergeCopies 33 = .ok (.invokevirtual 201, 3) := by decide +kernel
theorem w_5_88 : (Jvm.Cond.methodLink "SpillForge$Giver" (201 : Nat) ({ cls := "SpillForge$Giver", name := "nextToMerge", desc := "(I)I" } : Jvm.MethodName)) ∈ gw := gw_5 88 rfl rfl
theorem w_5_91 : (Jvm.Cond.code ({ cls := "SpillForge$Giver", name := "nextToMerge", desc := "(I)I" } : Jvm.MethodName) prog_4_method_18_code (3 : Nat) (Option.some Jvm.ClassFile.FieldType.int)) ∈ gw := gw_5 91 rfl rfl
theorem w_5_90 : (Jvm.Cond.instanceMethod ({ cls := "SpillForge$Giver", name := "nextToMerge", desc := "(I)I" } : Jvm.MethodName)) ∈ gw := gw_5 90 rfl rfl
theorem w_p_41 : Cond.selects "SpillForge$Giver" ⟨"SpillForge$Giver", "nextToMerge", "(I)I"⟩ ⟨"SpillForge$Giver", "nextToMerge", "(I)I"⟩ ∈ gw := gw_p _ 41 rfl rfl rfl
theorem d_cX2_mergeCopies_36 : decode cX2_mergeCopies 36 = .ok (.istore 4, 2) := by decide +kernel
theorem d_cX2_mergeCopies_38 : decode cX2_mergeCopies 38 = .ok (.iload 4, 2) := by decide +kernel
theorem d_cX2_mergeCopies_40 : decode cX2_mergeCopies 40 = .ok (.iconst (-1), 1) := by decide +kernel
theorem d_cX2_mergeCopies_41 : decode cX2_mergeCopies 41 = .ok (.if_icmp .ne 4, 3) := by decide +kernel
theorem d_cX2_mergeCopies_45 : decode cX2_mergeCopies 45 = .ok (.aload_n 0, 1) := by decide +kernel
theorem d_cX2_mergeCopies_46 : decode cX2_mergeCopies 46 = .ok (.getfield 48, 3) := by decide +kernel
theorem d_cX2_mergeCopies_49 : decode cX2_mergeCopies 49 = .ok (.getfield 76, 3) := by decide +kernel
theorem d_cX2_mergeCopies_52 : decode cX2_mergeCopies 52 = .ok (.iload 4, 2) := by decide +kernel
theorem d_cX2_mergeCopies_54 : decode cX2_mergeCopies 54 = .ok (.iaload, 1) := by decide +kernel
theorem d_cX2_mergeCopies_55 : decode cX2_mergeCopies 55 = .ok (.aload_n 0, 1) := by decide +kernel
theorem d_cX2_mergeCopies_56 : decode cX2_mergeCopies 56 = .ok (.getfield 48, 3) := by decide +kernel
theorem d_cX2_mergeCopies_59 : decode cX2_mergeCopies 59 = .ok (.getfield 83, 3) := by decide +kernel
theorem d_cX2_mergeCopies_62 : decode cX2_mergeCopies 62 = .ok (.iload 4, 2) := by decide +kernel
theorem d_cX2_mergeCopies_64 : decode cX2_mergeCopies 64 = .ok (.iaload, 1) := by decide +kernel
theorem d_cX2_mergeCopies_65 : decode cX2_mergeCopies 65 = .ok (.invokestatic 204, 3) := by decide +kernel
theorem w_5_105 : (Jvm.Cond.methodLink "SpillForge$Giver" (204 : Nat) ({ cls := "java/lang/Math", name := "min", desc := "(II)I" } : Jvm.MethodName)) ∈ gw := gw_5 105 rfl rfl
theorem d_cX2_mergeCopies_68 : decode cX2_mergeCopies 68 = .ok (.istore 5, 2) := by decide +kernel
theorem d_cX2_mergeCopies_70 : decode cX2_mergeCopies 70 = .ok (.aload_n 0, 1) := by decide +kernel
theorem d_cX2_mergeCopies_71 : decode cX2_mergeCopies 71 = .ok (.getfield 48, 3) := by decide +kernel
theorem d_cX2_mergeCopies_74 : decode cX2_mergeCopies 74 = .ok (.getfield 76, 3) := by decide +kernel
theorem d_cX2_mergeCopies_77 : decode cX2_mergeCopies 77 = .ok (.iload 4, 2) := by decide +kernel
theorem d_cX2_mergeCopies_79 : decode cX2_mergeCopies 79 = .ok (.iaload, 1) := by decide +kernel
theorem d_cX2_mergeCopies_80 : decode cX2_mergeCopies 80 = .ok (.aload_n 0, 1) := by decide +kernel
theorem d_cX2_mergeCopies_81 : decode cX2_mergeCopies 81 = .ok (.getfield 48, 3) := by decide +kernel
theorem d_cX2_mergeCopies_84 : decode cX2_mergeCopies 84 = .ok (.getfield 83, 3) := by decide +kernel
theorem d_cX2_mergeCopies_87 : decode cX2_mergeCopies 87 = .ok (.iload 4, 2) := by decide +kernel
theorem d_cX2_mergeCopies_89 : decode cX2_mergeCopies 89 = .ok (.iaload, 1) := by decide +kernel
theorem d_cX2_mergeCopies_90 : decode cX2_mergeCopies 90 = .ok (.invokestatic 210, 3) := by decide +kernel
theorem w_5_106 : (Jvm.Cond.methodLink "SpillForge$Giver" (210 : Nat) ({ cls := "java/lang/Math", name := "max", desc := "(II)I" } : Jvm.MethodName)) ∈ gw := gw_5 106 rfl rfl
theorem d_cX2_mergeCopies_93 : decode cX2_mergeCopies 93 = .ok (.istore 6, 2) := by decide +kernel
theorem d_cX2_mergeCopies_95 : decode cX2_mergeCopies 95 = .ok (.aload_n 0, 1) := by decide +kernel
theorem d_cX2_mergeCopies_96 : decode cX2_mergeCopies 96 = .ok (.getfield 48, 3) := by decide +kernel
theorem d_cX2_mergeCopies_99 : decode cX2_mergeCopies 99 = .ok (.iload 4, 2) := by decide +kernel
theorem d_cX2_mergeCopies_101 : decode cX2_mergeCopies 101 = .ok (.invokevirtual 213, 3) := by decide +kernel
theorem w_5_107 : (Jvm.Cond.methodLink "SpillForge$Giver" (213 : Nat) ({ cls := "SpillForge$Code", name := "drop", desc := "(I)V" } : Jvm.MethodName)) ∈ gw := gw_5 107 rfl rfl
theorem w_5_110 : (Jvm.Cond.code ({ cls := "SpillForge$Code", name := "drop", desc := "(I)V" } : Jvm.MethodName) prog_2_method_11_code (4 : Nat) (Option.none : Option Jvm.ClassFile.FieldType)) ∈ gw := gw_5 110 rfl rfl
theorem w_5_108 : (Jvm.Cond.instanceMethod ({ cls := "SpillForge$Code", name := "drop", desc := "(I)V" } : Jvm.MethodName)) ∈ gw := gw_5 108 rfl rfl
theorem w_5_109 : (Jvm.Cond.selects "SpillForge$Code" ({ cls := "SpillForge$Code", name := "drop", desc := "(I)V" } : Jvm.MethodName) ({ cls := "SpillForge$Code", name := "drop", desc := "(I)V" } : Jvm.MethodName)) ∈ gw := gw_5 109 rfl rfl
theorem d_cX2_mergeCopies_104 : decode cX2_mergeCopies 104 = .ok (.aload_n 0, 1) := by decide +kernel
theorem d_cX2_mergeCopies_105 : decode cX2_mergeCopies 105 = .ok (.getfield 48, 3) := by decide +kernel
theorem d_cX2_mergeCopies_108 : decode cX2_mergeCopies 108 = .ok (.iload 6, 2) := by decide +kernel
theorem d_cX2_mergeCopies_110 : decode cX2_mergeCopies 110 = .ok (.iload 5, 2) := by decide +kernel
theorem d_cX2_mergeCopies_112 : decode cX2_mergeCopies 112 = .ok (.invokevirtual 216, 3) := by decide +kernel
theorem w_5_114 : (Jvm.Cond.methodLink "SpillForge$Giver" (216 : Nat) ({ cls := "SpillForge$Code", name := "replace", desc := "(II)V" } : Jvm.MethodName)) ∈ gw := gw_5 114 rfl rfl
theorem w_5_117 : (Jvm.Cond.code ({ cls := "SpillForge$Code", name := "replace", desc := "(II)V" } : Jvm.MethodName) prog_2_method_15_code (4 : Nat) (Option.none : Option Jvm.ClassFile.FieldType)) ∈ gw := gw_5 117 rfl rfl
theorem w_5_115 : (Jvm.Cond.instanceMethod ({ cls := "SpillForge$Code", name := "replace", desc := "(II)V" } : Jvm.MethodName)) ∈ gw := gw_5 115 rfl rfl
theorem w_5_116 : (Jvm.Cond.selects "SpillForge$Code" ({ cls := "SpillForge$Code", name := "replace", desc := "(II)V" } : Jvm.MethodName) ({ cls := "SpillForge$Code", name := "replace", desc := "(II)V" } : Jvm.MethodName)) ∈ gw := gw_5 116 rfl rfl
theorem d_cX2_mergeCopies_115 : decode cX2_mergeCopies 115 = .ok (.aload_n 0, 1) := by decide +kernel
theorem d_cX2_mergeCopies_116 : decode cX2_mergeCopies 116 = .ok (.dup, 1) := by decide +kernel
theorem d_cX2_mergeCopies_117 : decode cX2_mergeCopies 117 = .ok (.getfield 70, 3) := by decide +kernel
theorem d_cX2_mergeCopies_120 : decode cX2_mergeCopies 120 = .ok (.iconst 1, 1) := by decide +kernel
theorem d_cX2_mergeCopies_121 : decode cX2_mergeCopies 121 = .ok (.iadd, 1) := by decide +kernel
theorem d_cX2_mergeCopies_122 : decode cX2_mergeCopies 122 = .ok (.putfield 70, 3) := by decide +kernel
theorem d_cX2_mergeCopies_125 : decode cX2_mergeCopies 125 = .ok (.iinc 3 1, 3) := by decide +kernel
theorem d_cX2_mergeCopies_128 : decode cX2_mergeCopies 128 = .ok (.goto (-118), 3) := by decide +kernel
theorem d_cX2_mergeCopies_44 : decode cX2_mergeCopies 44 = .ok (.return_, 1) := by decide +kernel
theorem d_cX1_isCheaper_0 : decode cX1_isCheaper 0 = .ok (.aload_n 0, 1) := by decide +kernel
theorem d_cX1_isCheaper_1 : decode cX1_isCheaper 1 = .ok (.getfield 9, 3) := by decide +kernel
theorem d_cX1_isCheaper_4 : decode cX1_isCheaper 4 = .ok (.iload_n 1, 1) := by decide +kernel
theorem d_cX1_isCheaper_5 : decode cX1_isCheaper 5 = .ok (.iaload, 1) := by decide +kernel
theorem d_cX1_isCheaper_6 : decode cX1_isCheaper 6 = .ok (.i2l, 1) := by decide +kernel
theorem d_cX1_isCheaper_7 : decode cX1_isCheaper 7 = .ok (.aload_n 0, 1) := by decide +kernel
theorem d_cX1_isCheaper_8 : decode cX1_isCheaper 8 = .ok (.getfield 15, 3) := by decide +kernel
theorem w_2_80 : (Jvm.Cond.fieldLink "SpillForge$Colouring" (15 : Nat) "SpillForge$Colouring" "degree" "[I") ∈ gw := gw_2 80 rfl rfl
theorem d_cX1_isCheaper_11 : decode cX1_isCheaper 11 = .ok (.iload_n 2, 1) := by decide +kernel
theorem d_cX1_isCheaper_12 : decode cX1_isCheaper 12 = .ok (.iaload, 1) := by decide +kernel
theorem d_cX1_isCheaper_13 : decode cX1_isCheaper 13 = .ok (.i2l, 1) := by decide +kernel
theorem d_cX1_isCheaper_14 : decode cX1_isCheaper 14 = .ok (.lmul, 1) := by decide +kernel
theorem d_cX1_isCheaper_15 : decode cX1_isCheaper 15 = .ok (.aload_n 0, 1) := by decide +kernel
theorem d_cX1_isCheaper_16 : decode cX1_isCheaper 16 = .ok (.getfield 9, 3) := by decide +kernel
theorem d_cX1_isCheaper_19 : decode cX1_isCheaper 19 = .ok (.iload_n 2, 1) := by decide +kernel
theorem d_cX1_isCheaper_20 : decode cX1_isCheaper 20 = .ok (.iaload, 1) := by decide +kernel
theorem d_cX1_isCheaper_21 : decode cX1_isCheaper 21 = .ok (.i2l, 1) := by decide +kernel
theorem d_cX1_isCheaper_22 : decode cX1_isCheaper 22 = .ok (.aload_n 0, 1) := by decide +kernel
theorem d_cX1_isCheaper_23 : decode cX1_isCheaper 23 = .ok (.getfield 15, 3) := by decide +kernel
theorem d_cX1_isCheaper_26 : decode cX1_isCheaper 26 = .ok (.iload_n 1, 1) := by decide +kernel
theorem d_cX1_isCheaper_27 : decode cX1_isCheaper 27 = .ok (.iaload, 1) := by decide +kernel
theorem d_cX1_isCheaper_28 : decode cX1_isCheaper 28 = .ok (.i2l, 1) := by decide +kernel
theorem d_cX1_isCheaper_29 : decode cX1_isCheaper 29 = .ok (.lmul, 1) := by decide +kernel
theorem d_cX1_isCheaper_30 : decode cX1_isCheaper 30 = .ok (.lcmp, 1) := by decide +kernel
theorem d_cX1_isCheaper_31 : decode cX1_isCheaper 31 = .ok (.ifCond .ge 7, 3) := by decide +kernel
theorem d_cX1_isCheaper_38 : decode cX1_isCheaper 38 = .ok (.iconst 0, 1) := by decide +kernel
theorem d_cX1_isCheaper_39 : decode cX1_isCheaper 39 = .ok (.ireturn, 1) := by decide +kernel
theorem d_cX1_isCheaper_34 : decode cX1_isCheaper 34 = .ok (.iconst 1, 1) := by decide +kernel
theorem d_cX1_isCheaper_35 : decode cX1_isCheaper 35 = .ok (.goto 4, 3) := by decide +kernel
theorem d_cX1_nextOfRest_0 : decode cX1_nextOfRest 0 = .ok (.iconst 0, 1) := by decide +kernel
theorem d_cX1_nextOfRest_1 : decode cX1_nextOfRest 1 = .ok (.istore_n 2, 1) := by decide +kernel
theorem d_cX1_nextOfRest_2 : decode cX1_nextOfRest 2 = .ok (.iload_n 2, 1) := by decide +kernel
theorem d_cX1_nextOfRest_3 : decode cX1_nextOfRest 3 = .ok (.aload_n 0, 1) := by decide +kernel
theorem d_cX1_nextOfRest_4 : decode cX1_nextOfRest 4 = .ok (.getfield 74, 3) := by decide +kernel
theorem w_2_84 : (Jvm.Cond.fieldLink "SpillForge$Colouring" (74 : Nat) "SpillForge$Colouring" "restSize" "I") ∈ gw := gw_2 84 rfl rfl
theorem d_cX1_nextOfRest_7 : decode cX1_nextOfRest 7 = .ok (.if_icmp .ge 26, 3) := by decide +kernel
theorem d_cX1_nextOfRest_33 : decode cX1_nextOfRest 33 = .ok (.iconst 0, 1) := by decide +kernel
theorem d_cX1_nextOfRest_34 : decode cX1_nextOfRest 34 = .ok (.istore_n 2, 1) := by decide +kernel
theorem d_cX1_nextOfRest_35 : decode cX1_nextOfRest 35 = .ok (.iconst 1, 1) := by decide +kernel
theorem d_cX1_nextOfRest_36 : decode cX1_nextOfRest 36 = .ok (.istore_n 3, 1) := by decide +kernel
theorem d_cX1_nextOfRest_37 : decode cX1_nextOfRest 37 = .ok (.iload_n 3, 1) := by decide +kernel
theorem d_cX1_nextOfRest_38 : decode cX1_nextOfRest 38 = .ok (.aload_n 0, 1) := by decide +kernel
theorem d_cX1_nextOfRest_39 : decode cX1_nextOfRest 39 = .ok (.getfield 74, 3) := by decide +kernel
theorem d_cX1_nextOfRest_42 : decode cX1_nextOfRest 42 = .ok (.if_icmp .ge 52, 3) := by decide +kernel
theorem d_cX1_nextOfRest_94 : decode cX1_nextOfRest 94 = .ok (.iload_n 2, 1) := by decide +kernel
theorem d_cX1_nextOfRest_95 : decode cX1_nextOfRest 95 = .ok (.ireturn, 1) := by decide +kernel
theorem d_cX1_nextOfRest_45 : decode cX1_nextOfRest 45 = .ok (.aload_n 0, 1) := by decide +kernel
theorem d_cX1_nextOfRest_46 : decode cX1_nextOfRest 46 = .ok (.getfield 18, 3) := by decide +kernel
theorem w_2_81 : (Jvm.Cond.fieldLink "SpillForge$Colouring" (18 : Nat) "SpillForge$Colouring" "rest" "[I") ∈ gw := gw_2 81 rfl rfl
theorem d_cX1_nextOfRest_49 : decode cX1_nextOfRest 49 = .ok (.iload_n 3, 1) := by decide +kernel
theorem d_cX1_nextOfRest_50 : decode cX1_nextOfRest 50 = .ok (.iaload, 1) := by decide +kernel
theorem d_cX1_nextOfRest_51 : decode cX1_nextOfRest 51 = .ok (.bipush 100, 2) := by decide +kernel
theorem d_cX1_nextOfRest_53 : decode cX1_nextOfRest 53 = .ok (.if_icmp .lt 14, 3) := by decide +kernel
theorem d_cX1_nextOfRest_67 : decode cX1_nextOfRest 67 = .ok (.aload_n 0, 1) := by decide +kernel
theorem d_cX1_nextOfRest_68 : decode cX1_nextOfRest 68 = .ok (.aload_n 0, 1) := by decide +kernel
theorem d_cX1_nextOfRest_69 : decode cX1_nextOfRest 69 = .ok (.getfield 18, 3) := by decide +kernel
theorem d_cX1_nextOfRest_72 : decode cX1_nextOfRest 72 = .ok (.iload_n 3, 1) := by decide +kernel
theorem d_cX1_nextOfRest_73 : decode cX1_nextOfRest 73 = .ok (.iaload, 1) := by decide +kernel
theorem d_cX1_nextOfRest_74 : decode cX1_nextOfRest 74 = .ok (.aload_n 0, 1) := by decide +kernel
theorem d_cX1_nextOfRest_75 : decode cX1_nextOfRest 75 = .ok (.getfield 18, 3) := by decide +kernel
theorem d_cX1_nextOfRest_78 : decode cX1_nextOfRest 78 = .ok (.iload_n 2, 1) := by decide +kernel
theorem d_cX1_nextOfRest_79 : decode cX1_nextOfRest 79 = .ok (.iaload, 1) := by decide +kernel
theorem d_cX1_nextOfRest_80 : decode cX1_nextOfRest 80 = .ok (.invokevirtual 97, 3) := by decide +kernel
theorem w_5_127 : (Jvm.Cond.methodLink "SpillForge$Colouring" (97 : Nat) ({ cls := "SpillForge$Colouring", name := "isCheaper", desc := "(II)Z" } : Jvm.MethodName)) ∈ gw := gw_5 127 rfl rfl
theorem w_5_130 : (Jvm.Cond.code ({ cls := "SpillForge$Colouring", name := "isCheaper", desc := "(II)Z" } : Jvm.MethodName) prog_3_method_9_code (3 : Nat) (Option.some Jvm.ClassFile.FieldType.boolean)) ∈ gw := gw_5 130 rfl rfl
theorem w_5_129 : (Jvm.Cond.instanceMethod ({ cls := "SpillForge$Colouring", name := "isCheaper", desc := "(II)Z" } : Jvm.MethodName)) ∈ gw := gw_5 129 rfl rfl
theorem w_p_44 : Cond.selects "SpillForge$Colouring" ⟨"SpillForge$Colouring", "isCheaper", "(II)Z"⟩ ⟨"SpillForge$Colouring", "isCheaper", "(II)Z"⟩ ∈ gw := gw_p _ 44 rfl rfl rfl
theorem d_cX1_nextOfRest_83 : decode cX1_nextOfRest 83 = .ok (.ifCond .eq 5, 3) := by decide +kernel
theorem d_cX1_nextOfRest_88 : decode cX1_nextOfRest 88 = .ok (.iinc 3 1, 3) := by decide +kernel
theorem d_cX1_nextOfRest_91 : decode cX1_nextOfRest 91 = .ok (.goto (-54), 3) := by decide +kernel
theorem d_cX1_nextOfRest_86 : decode cX1_nextOfRest 86 = .ok (.iload_n 3, 1) := by decide +kernel
theorem d_cX1_nextOfRest_87 : decode cX1_nextOfRest 87 = .ok (.istore_n 2, 1) := by decide +kernel
theorem d_cX1_nextOfRest_56 : decode cX1_nextOfRest 56 = .ok (.aload_n 0, 1) := by decide +kernel
theorem d_cX1_nextOfRest_57 : decode cX1_nextOfRest 57 = .ok (.getfield 18, 3) := by decide +kernel
theorem d_cX1_nextOfRest_60 : decode cX1_nextOfRest 60 = .ok (.iload_n 2, 1) := by decide +kernel
theorem d_cX1_nextOfRest_61 : decode cX1_nextOfRest 61 = .ok (.iaload, 1) := by decide +kernel
theorem d_cX1_nextOfRest_62 : decode cX1_nextOfRest 62 = .ok (.bipush 100, 2) := by decide +kernel
theorem d_cX1_nextOfRest_64 : decode cX1_nextOfRest 64 = .ok (.if_icmp .lt 30, 3) := by decide +kernel
theorem d_cX1_nextOfRest_10 : decode cX1_nextOfRest 10 = .ok (.aload_n 0, 1) := by decide +kernel
theorem d_cX1_nextOfRest_11 : decode cX1_nextOfRest 11 = .ok (.getfield 15, 3) := by decide +kernel
theorem d_cX1_nextOfRest_14 : decode cX1_nextOfRest 14 = .ok (.aload_n 0, 1) := by decide +kernel
theorem d_cX1_nextOfRest_15 : decode cX1_nextOfRest 15 = .ok (.getfield 18, 3) := by decide +kernel
theorem d_cX1_nextOfRest_18 : decode cX1_nextOfRest 18 = .ok (.iload_n 2, 1) := by decide +kernel
theorem d_cX1_nextOfRest_19 : decode cX1_nextOfRest 19 = .ok (.iaload, 1) := by decide +kernel
theorem d_cX1_nextOfRest_20 : decode cX1_nextOfRest 20 = .ok (.iaload, 1) := by decide +kernel
theorem d_cX1_nextOfRest_21 : decode cX1_nextOfRest 21 = .ok (.iload_n 1, 1) := by decide +kernel
theorem d_cX1_nextOfRest_22 : decode cX1_nextOfRest 22 = .ok (.if_icmp .ge 5, 3) := by decide +kernel
theorem d_cX1_nextOfRest_27 : decode cX1_nextOfRest 27 = .ok (.iinc 2 1, 3) := by decide +kernel
theorem d_cX1_nextOfRest_30 : decode cX1_nextOfRest 30 = .ok (.goto (-28), 3) := by decide +kernel
theorem d_cX1_nextOfRest_25 : decode cX1_nextOfRest 25 = .ok (.iload_n 2, 1) := by decide +kernel
theorem d_cX1_nextOfRest_26 : decode cX1_nextOfRest 26 = .ok (.ireturn, 1) := by decide +kernel
theorem d_cX1_leave_0 : decode cX1_leave 0 = .ok (.iconst 0, 1) := by decide +kernel
theorem d_cX1_leave_1 : decode cX1_leave 1 = .ok (.istore_n 2, 1) := by decide +kernel
theorem d_cX1_leave_2 : decode cX1_leave 2 = .ok (.iload_n 2, 1) := by decide +kernel
theorem d_cX1_leave_3 : decode cX1_leave 3 = .ok (.aload_n 0, 1) := by decide +kernel
theorem d_cX1_leave_4 : decode cX1_leave 4 = .ok (.getfield 27, 3) := by decide +kernel
theorem w_2_78 : (Jvm.Cond.fieldLink "SpillForge$Colouring" (27 : Nat) "SpillForge$Colouring" "graph" "LSpillForge$Graph;") ∈ gw := gw_2 78 rfl rfl
theorem d_cX1_leave_7 : decode cX1_leave 7 = .ok (.getfield 101, 3) := by decide +kernel
theorem d_cX1_leave_10 : decode cX1_leave 10 = .ok (.if_icmp .ge 75, 3) := by decide +kernel
theorem d_cX1_leave_85 : decode cX1_leave 85 = .ok (.return_, 1) := by decide +kernel
theorem d_cX1_leave_13 : decode cX1_leave 13 = .ok (.aload_n 0, 1) := by decide +kernel
theorem d_cX1_leave_14 : decode cX1_leave 14 = .ok (.getfield 27, 3) := by decide +kernel
theorem d_cX1_leave_17 : decode cX1_leave 17 = .ok (.getfield 104, 3) := by decide +kernel
theorem d_cX1_leave_20 : decode cX1_leave 20 = .ok (.iload_n 1, 1) := by decide +kernel
theorem d_cX1_leave_21 : decode cX1_leave 21 = .ok (.aload_n 0, 1) := by decide +kernel
theorem d_cX1_leave_22 : decode cX1_leave 22 = .ok (.getfield 27, 3) := by decide +kernel
theorem d_cX1_leave_25 : decode cX1_leave 25 = .ok (.getfield 101, 3) := by decide +kernel
theorem d_cX1_leave_28 : decode cX1_leave 28 = .ok (.imul, 1) := by decide +kernel
theorem d_cX1_leave_29 : decode cX1_leave 29 = .ok (.iload_n 2, 1) := by decide +kernel
theorem d_cX1_leave_30 : decode cX1_leave 30 = .ok (.iadd, 1) := by decide +kernel
theorem d_cX1_leave_31 : decode cX1_leave 31 = .ok (.laload, 1) := by decide +kernel
theorem d_cX1_leave_32 : decode cX1_leave 32 = .ok (.lstore_n 3, 1) := by decide +kernel
theorem d_cX1_leave_33 : decode cX1_leave 33 = .ok (.iconst 0, 1) := by decide +kernel
theorem d_cX1_leave_34 : decode cX1_leave 34 = .ok (.istore 5, 2) := by decide +kernel
theorem d_cX1_leave_36 : decode cX1_leave 36 = .ok (.iload 5, 2) := by decide +kernel
theorem d_cX1_leave_38 : decode cX1_leave 38 = .ok (.bipush 64, 2) := by decide +kernel
theorem d_cX1_leave_40 : decode cX1_leave 40 = .ok (.if_icmp .ge 39, 3) := by decide +kernel
theorem d_cX1_leave_79 : decode cX1_leave 79 = .ok (.iinc 2 1, 3) := by decide +kernel
theorem d_cX1_leave_82 : decode cX1_leave 82 = .ok (.goto (-80), 3) := by decide +kernel
theorem d_cX1_leave_43 : decode cX1_leave 43 = .ok (.lload_n 3, 1) := by decide +kernel
theorem d_cX1_leave_44 : decode cX1_leave 44 = .ok (.lconst 0, 1) := by decide +kernel
theorem d_cX1_leave_45 : decode cX1_leave 45 = .ok (.lcmp, 1) := by decide +kernel
theorem d_cX1_leave_46 : decode cX1_leave 46 = .ok (.ifCond .eq 33, 3) := by decide +kernel
theorem d_cX1_leave_49 : decode cX1_leave 49 = .ok (.aload_n 0, 1) := by decide +kernel
theorem d_cX1_leave_50 : decode cX1_leave 50 = .ok (.getfield 15, 3) := by decide +kernel
theorem d_cX1_leave_53 : decode cX1_leave 53 = .ok (.iload_n 2, 1) := by decide +kernel
theorem d_cX1_leave_54 : decode cX1_leave 54 = .ok (.bipush 6, 2) := by decide +kernel
theorem d_cX1_leave_56 : decode cX1_leave 56 = .ok (.ishl, 1) := by decide +kernel
theorem d_cX1_leave_57 : decode cX1_leave 57 = .ok (.lload_n 3, 1) := by decide +kernel
theorem d_cX1_leave_58 : decode cX1_leave 58 = .ok (.invokestatic 108, 3) := by decide +kernel
theorem d_cX1_leave_61 : decode cX1_leave 61 = .ok (.ior, 1) := by decide +kernel
theorem d_cX1_leave_62 : decode cX1_leave 62 = .ok (.dup2, 1) := by decide +kernel
theorem d_cX1_leave_63 : decode cX1_leave 63 = .ok (.iaload, 1) := by decide +kernel
theorem d_cX1_leave_64 : decode cX1_leave 64 = .ok (.iconst 1, 1) := by decide +kernel
theorem d_cX1_leave_65 : decode cX1_leave 65 = .ok (.isub, 1) := by decide +kernel
theorem d_cX1_leave_66 : decode cX1_leave 66 = .ok (.iastore, 1) := by decide +kernel
theorem d_cX1_leave_67 : decode cX1_leave 67 = .ok (.lload_n 3, 1) := by decide +kernel
theorem d_cX1_leave_68 : decode cX1_leave 68 = .ok (.lload_n 3, 1) := by decide +kernel
theorem d_cX1_leave_69 : decode cX1_leave 69 = .ok (.lconst 1, 1) := by decide +kernel
theorem d_cX1_leave_70 : decode cX1_leave 70 = .ok (.lsub, 1) := by decide +kernel
theorem d_cX1_leave_71 : decode cX1_leave 71 = .ok (.land, 1) := by decide +kernel
theorem d_cX1_leave_72 : decode cX1_leave 72 = .ok (.lstore_n 3, 1) := by decide +kernel
theorem d_cX1_leave_73 : decode cX1_leave 73 = .ok (.iinc 5 1, 3) := by decide +kernel
theorem d_cX1_leave_76 : decode cX1_leave 76 = .ok (.goto (-40), 3) := by decide +kernel
abbrev ky_57188_Giver_mergeCopies : gKey := (cX2_mergeCopies, 7, yX2_mergeCopies.cls, none, [], yX2_mergeCopies.name, fun _ _ => True)
abbrev po_57188_Giver_mergeCopies (I : FieldType → ClassId) (q57082 : Nat) (q57083 : Nat) (q57084 : Nat) (q57085 : Nat) (q57086 : Nat) (q57087 : Nat) (q57088 : Nat) (q57089 : Nat) (q57090 : Nat) (q57091 : Nat) (q57092 : Nat) (q57093 : Nat) (q57094 : Nat) (q57095 : Nat) (q57096 : Nat) (q57097 : Nat) (q57098 : Nat) (q57099 : Nat) (q57100 : Nat) (q57101 : Nat) (q57102 : Nat) (q57103 : Nat) (q57104 : Nat) (q57105 : Nat) (q57106 : Nat) (q57107 : Nat) (q57108 : Nat) (q57109 : Nat) (q57110 : Nat) (q57111 : Nat) (q57112 : Nat) (q57113 : Nat) (q57114 : Nat) (q57115 : Nat) (q57116 : Nat) (q57117 : Nat) (q57118 : Nat) (q57119 : Nat) (q57120 : Nat) (q57121 : Nat) (q57122 : Nat) (q57123 : Nat) (q57124 : Nat) (q57125 : Nat) (q57126 : Nat) (p57127 : Int32) (p57128 : Int32) (p57129 : Int32) (p57130 : Int32) (p57131 : Int32) (p57132 : Int32) (p57133 : Int32) (p57134 : Int32) (p57135 : Int32) (p57136 : Int32) (p57137 : Int32) (f57138 : Nat → Int32) (f57139 : Nat → Int32) (f57140 : Nat → Int32) (f57141 : Nat → Int32) (f57142 : Nat → Int32) (p57143 : Int32) (p57144 : Int32) (p57145 : Int32) (p57146 : Int32) (p57147 : Int32) (p57148 : Int32) (f57149 : Nat → Int64) (f57150 : Nat → Int64) (f57151 : Nat → Int32) (p57152 : Int32) (p57153 : Int32) (p57154 : Int32) (f57155 : Nat → Int64) (f57156 : Nat → Int64) (f57157 : Nat → Int32) (f57158 : Nat → Int32) (f57159 : Nat → Int32) (f57160 : Nat → Int32) (f57161 : Nat → Int32) (f57162 : Nat → Int32) (f57163 : Nat → Int32) (f57164 : Nat → Int32) (f57165 : Nat → Int32) (f57166 : Nat → Int32) (f57167 : Nat → Int32) (f57168 : Nat → Int32) (f57169 : Nat → Int32) (f57170 : Nat → Int32) (f57171 : Nat → Int32) (f57172 : Nat → Int32) (f57173 : Nat → Int32) (f57174 : Nat → Int32) (f57175 : Nat → Int32) (f57176 : Nat → Int32) (f57177 : Nat → Int32) (f57178 : Nat → Int32) (f57179 : Nat → Int32) (f57180 : Nat → Int32) (f57181 : Nat → Int64) (f57182 : Nat → Int64) (f57183 : Nat → Int64) (f57184 : Nat → Int64) : Option Value → va_W → Prop := fun r w => ∃ (o60292 : Int32) (o60293 : Int32) (o60294 : Int32) (o60295 : Int32) (o60296 : Int32) (o60297 : Int32) (o60298 : Int32) (f60299 : Nat → Int64) (f60300 : Nat → Int64) (f60301 : Nat → Int32) (f60302 : Nat → Int32) (f60303 : Nat → Int32) (f60304 : Nat → Int32) (f60305 : Nat → Int32) (f60306 : Nat → Int32) (f60307 : Nat → Int32) (f60308 : Nat → Int32) (f60309 : Nat → Int64) (f60310 : Nat → Int64) (f60311 : Nat → Int64) (f60312 : Nat → Int64), r = none ∧ w = [(q57082, .inr (7, [.ref q57083, .ref q57084, .ref q57085, .ref q57086, .ref q57087, .ref q57088, .ref q57089, .ref q57090, .ref q57091, .ref q57092, .int p57128, .int p57129, .int p57130, .int p57131, .int o60292, .int p57133])), (q57083, .inr (11, [.ref q57093, .ref q57094, .ref q57095])), (q57084, .inr (8, [.ref q57096, .ref q57097, .ref q57098, .ref q57099, .int o60293, .int o60294])), (q57085, .inr (6, [.ref q57084, .ref q57100, .ref q57101, .ref q57102, .ref q57103, .ref q57104, .int p57136, .int p57137])), (q57086, .inl (I .int, 100, .inl f57138)), (q57087, .inl (I .int, 100, .inl f57139)), (q57088, .inl (I .int, 40, .inl f57140)), (q57089, .inl (I .int, 100, .inl f57141)), (q57090, .inl (I .int, 100, .inl f57142)), (q57091, .inr (5, [.ref q57105, .ref q57106, .ref q57107, .ref q57108, .ref q57109, .ref q57110, .ref q57111, .ref q57112, .ref q57113, .int p57143, .int o60295, .int p57145])), (q57092, .inr (5, [.ref q57114, .ref q57115, .ref q57116, .ref q57117, .ref q57118, .ref q57119, .ref q57120, .ref q57121, .ref q57122, .int p57146, .int p57147, .int p57148])), (q57093, .inl (I .long, 40, .inr (.inl f57149))), (q57094, .inl (I .long, 40, .inr (.inl f57150))), (q57095, .inl (I .int, 40, .inl f57151)), (q57096, .inr (10, [.ref q57123, .ref q57124, .ref q57125, .ref q57126, .int o60296, .int o60297, .int o60298])), (q57097, .inl (I .long, 8640, .inr (.inl f60299))), (q57098, .inl (I .long, 12, .inr (.inl f60300))), (q57099, .inl (I .int, 720, .inl f60301)), (q57100, .inl (I .int, 720, .inl f57158)), (q57101, .inl (I .int, 720, .inl f57159)), (q57102, .inl (I .int, 720, .inl f57160)), (q57103, .inl (I .int, 720, .inl f57161)), (q57104, .inl (I .int, 720, .inl f57162)), (q57105, .inl (I .int, 40, .inl f60302)), (q57106, .inl (I .int, 40, .inl f57164)), (q57107, .inl (I .int, 40, .inl f57165)), (q57108, .inl (I .int, 920, .inl f60303)), (q57109, .inl (I .int, 920, .inl f60304)), (q57110, .inl (I .int, 920, .inl f60305)), (q57111, .inl (I .int, 920, .inl f60306)), (q57112, .inl (I .int, 920, .inl f60307)), (q57113, .inl (I .int, 920, .inl f60308)), (q57114, .inl (I .int, 40, .inl f57172)), (q57115, .inl (I .int, 40, .inl f57173)), (q57116, .inl (I .int, 40, .inl f57174)), (q57117, .inl (I .int, 920, .inl f57175)), (q57118, .inl (I .int, 920, .inl f57176)), (q57119, .inl (I .int, 920, .inl f57177)), (q57120, .inl (I .int, 920, .inl f57178)), (q57121, .inl (I .int, 920, .inl f57179)), (q57122, .inl (I .int, 920, .inl f57180)), (q57123, .inl (I .long, 480, .inr (.inl f60309))), (q57124, .inl (I .long, 480, .inr (.inl f60310))), (q57125, .inl (I .long, 480, .inr (.inl f60311))), (q57126, .inl (I .long, 12, .inr (.inl f60312)))] ∧ gB o60292 (-2147483648) 2147483647 ∧ gB o60293 0 720 ∧ gB o60294 0 12 ∧ gB o60295 0 920 ∧ gB o60296 0 720 ∧ gB o60297 0 12 ∧ gB o60298 0 1 ∧ gF f60301 (-2147483648) 2147483647 ∧ gF f60302 0 920 ∧ gF f60303 0 21 ∧ gF f60304 (-2147483648) 2147483647 ∧ gF f60305 (-2147483648) 2147483647 ∧ gF f60306 (-2147483648) 2147483647 ∧ gF f60307 (-2147483648) 2147483647 ∧ gF f60308 (-2147483648) 2147483647 ∧ o60294.toInt = (o60293.toInt + 63) / 64 ∧ lb_W f60299 (o60293.toInt * o60294.toInt) (o60294.toInt) (o60293.toInt) ∧ o60297.toInt = (o60296.toInt + 63) / 64
set_option maxRecDepth 100000 in
set_option maxHeartbeats 4000000 in
theorem ct_57188_Giver_mergeCopies (l : Launch) (hl0 : l.stackTraces = false) (D : va_G) (I : FieldType → ClassId) (q57082 : Nat) (q57083 : Nat) (q57084 : Nat) (q57085 : Nat) (q57086 : Nat) (q57087 : Nat) (q57088 : Nat) (q57089 : Nat) (q57090 : Nat) (q57091 : Nat) (q57092 : Nat) (q57093 : Nat) (q57094 : Nat) (q57095 : Nat) (q57096 : Nat) (q57097 : Nat) (q57098 : Nat) (q57099 : Nat) (q57100 : Nat) (q57101 : Nat) (q57102 : Nat) (q57103 : Nat) (q57104 : Nat) (q57105 : Nat) (q57106 : Nat) (q57107 : Nat) (q57108 : Nat) (q57109 : Nat) (q57110 : Nat) (q57111 : Nat) (q57112 : Nat) (q57113 : Nat) (q57114 : Nat) (q57115 : Nat) (q57116 : Nat) (q57117 : Nat) (q57118 : Nat) (q57119 : Nat) (q57120 : Nat) (q57121 : Nat) (q57122 : Nat) (q57123 : Nat) (q57124 : Nat) (q57125 : Nat) (q57126 : Nat) (p57127 : Int32) (p57128 : Int32) (p57129 : Int32) (p57130 : Int32) (p57131 : Int32) (p57132 : Int32) (p57133 : Int32) (p57134 : Int32) (p57135 : Int32) (p57136 : Int32) (p57137 : Int32) (f57138 : Nat → Int32) (f57139 : Nat → Int32) (f57140 : Nat → Int32) (f57141 : Nat → Int32) (f57142 : Nat → Int32) (p57143 : Int32) (p57144 : Int32) (p57145 : Int32) (p57146 : Int32) (p57147 : Int32) (p57148 : Int32) (f57149 : Nat → Int64) (f57150 : Nat → Int64) (f57151 : Nat → Int32) (p57152 : Int32) (p57153 : Int32) (p57154 : Int32) (f57155 : Nat → Int64) (f57156 : Nat → Int64) (f57157 : Nat → Int32) (f57158 : Nat → Int32) (f57159 : Nat → Int32) (f57160 : Nat → Int32) (f57161 : Nat → Int32) (f57162 : Nat → Int32) (f57163 : Nat → Int32) (f57164 : Nat → Int32) (f57165 : Nat → Int32) (f57166 : Nat → Int32) (f57167 : Nat → Int32) (f57168 : Nat → Int32) (f57169 : Nat → Int32) (f57170 : Nat → Int32) (f57171 : Nat → Int32) (f57172 : Nat → Int32) (f57173 : Nat → Int32) (f57174 : Nat → Int32) (f57175 : Nat → Int32) (f57176 : Nat → Int32) (f57177 : Nat → Int32) (f57178 : Nat → Int32) (f57179 : Nat → Int32) (f57180 : Nat → Int32) (f57181 : Nat → Int64) (f57182 : Nat → Int64) (f57183 : Nat → Int64) (f57184 : Nat → Int64) (bp57128 : gB p57128 100 720) (bp57133 : gB p57133 0 1) (bp57134 : gB p57134 0 720) (bp57135 : gB p57135 0 12) (bp57136 : gB p57136 0 720) (bp57137 : gB p57137 0 720) (bp57143 : gB p57143 0 40) (bp57144 : gB p57144 0 920) (bp57145 : gB p57145 0 1) (bp57146 : gB p57146 0 40) (bp57147 : gB p57147 0 920) (bp57148 : gB p57148 0 1) (bp57152 : gB p57152 0 720) (bp57153 : gB p57153 0 12) (bp57154 : gB p57154 0 1) (bf57160 : gF f57160 0 719) (bf57161 : gF f57161 0 719) (bf57163 : gF f57163 0 920) (bf57166 : gF f57166 0 21) (bf57172 : gF f57172 0 920) (bf57175 : gF f57175 0 21) (x57185 : p57135.toInt = (p57134.toInt + 63) / 64) (x57186 : lb_W f57155 (p57134.toInt * p57135.toInt) (p57135.toInt) (p57134.toInt)) (x57187 : p57153.toInt = (p57152.toInt + 63) / 64) : Ct (gV D I) l yX2_mergeCopies cX2_mergeCopies 7 none 5 121 0 0 [.ref q57082, .int p57127] [(q57082, .inr (7, [.ref q57083, .ref q57084, .ref q57085, .ref q57086, .ref q57087, .ref q57088, .ref q57089, .ref q57090, .ref q57091, .ref q57092, .int p57128, .int p57129, .int p57130, .int p57131, .int p57132, .int p57133])), (q57083, .inr (11, [.ref q57093, .ref q57094, .ref q57095])), (q57084, .inr (8, [.ref q57096, .ref q57097, .ref q57098, .ref q57099, .int p57134, .int p57135])), (q57085, .inr (6, [.ref q57084, .ref q57100, .ref q57101, .ref q57102, .ref q57103, .ref q57104, .int p57136, .int p57137])), (q57086, .inl (I .int, 100, .inl f57138)), (q57087, .inl (I .int, 100, .inl f57139)), (q57088, .inl (I .int, 40, .inl f57140)), (q57089, .inl (I .int, 100, .inl f57141)), (q57090, .inl (I .int, 100, .inl f57142)), (q57091, .inr (5, [.ref q57105, .ref q57106, .ref q57107, .ref q57108, .ref q57109, .ref q57110, .ref q57111, .ref q57112, .ref q57113, .int p57143, .int p57144, .int p57145])), (q57092, .inr (5, [.ref q57114, .ref q57115, .ref q57116, .ref q57117, .ref q57118, .ref q57119, .ref q57120, .ref q57121, .ref q57122, .int p57146, .int p57147, .int p57148])), (q57093, .inl (I .long, 40, .inr (.inl f57149))), (q57094, .inl (I .long, 40, .inr (.inl f57150))), (q57095, .inl (I .int, 40, .inl f57151)), (q57096, .inr (10, [.ref q57123, .ref q57124, .ref q57125, .ref q57126, .int p57152, .int p57153, .int p57154])), (q57097, .inl (I .long, 8640, .inr (.inl f57155))), (q57098, .inl (I .long, 12, .inr (.inl f57156))), (q57099, .inl (I .int, 720, .inl f57157)), (q57100, .inl (I .int, 720, .inl f57158)), (q57101, .inl (I .int, 720, .inl f57159)), (q57102, .inl (I .int, 720, .inl f57160)), (q57103, .inl (I .int, 720, .inl f57161)), (q57104, .inl (I .int, 720, .inl f57162)), (q57105, .inl (I .int, 40, .inl f57163)), (q57106, .inl (I .int, 40, .inl f57164)), (q57107, .inl (I .int, 40, .inl f57165)), (q57108, .inl (I .int, 920, .inl f57166)), (q57109, .inl (I .int, 920, .inl f57167)), (q57110, .inl (I .int, 920, .inl f57168)), (q57111, .inl (I .int, 920, .inl f57169)), (q57112, .inl (I .int, 920, .inl f57170)), (q57113, .inl (I .int, 920, .inl f57171)), (q57114, .inl (I .int, 40, .inl f57172)), (q57115, .inl (I .int, 40, .inl f57173)), (q57116, .inl (I .int, 40, .inl f57174)), (q57117, .inl (I .int, 920, .inl f57175)), (q57118, .inl (I .int, 920, .inl f57176)), (q57119, .inl (I .int, 920, .inl f57177)), (q57120, .inl (I .int, 920, .inl f57178)), (q57121, .inl (I .int, 920, .inl f57179)), (q57122, .inl (I .int, 920, .inl f57180)), (q57123, .inl (I .long, 480, .inr (.inl f57181))), (q57124, .inl (I .long, 480, .inr (.inl f57182))), (q57125, .inl (I .long, 480, .inr (.inl f57183))), (q57126, .inl (I .long, 12, .inr (.inl f57184)))] (po_57188_Giver_mergeCopies I q57082 q57083 q57084 q57085 q57086 q57087 q57088 q57089 q57090 q57091 q57092 q57093 q57094 q57095 q57096 q57097 q57098 q57099 q57100 q57101 q57102 q57103 q57104 q57105 q57106 q57107 q57108 q57109 q57110 q57111 q57112 q57113 q57114 q57115 q57116 q57117 q57118 q57119 q57120 q57121 q57122 q57123 q57124 q57125 q57126 p57127 p57128 p57129 p57130 p57131 p57132 p57133 p57134 p57135 p57136 p57137 f57138 f57139 f57140 f57141 f57142 p57143 p57144 p57145 p57146 p57147 p57148 f57149 f57150 f57151 p57152 p57153 p57154 f57155 f57156 f57157 f57158 f57159 f57160 f57161 f57162 f57163 f57164 f57165 f57166 f57167 f57168 f57169 f57170 f57171 f57172 f57173 f57174 f57175 f57176 f57177 f57178 f57179 f57180 f57181 f57182 f57183 f57184) gN := by
  refine Ct_of hl0 (by decide) (Nat.le_of_ble_eq_true rfl) ?_
  have bp57127 := gB_any p57127
  have bp57129 := gB_any p57129
  have bp57130 := gB_any p57130
  have bp57131 := gB_any p57131
  have bp57132 := gB_any p57132
  refine G_aload_n 0 d_cX2_mergeCopies_0 rfl ?_
  refine G_getf 0 8 d_cX2_mergeCopies_1 rfl (gk_X2 D I) (Nat.le_of_ble_eq_true rfl) w_2_113 rfl ?_
  refine G_getfN 9 10 d_cX2_mergeCopies_4 rfl (gk_X0 D I) (Nat.le_of_ble_eq_true rfl) (fun _ _ _ h => gn_w 47 rfl h) rfl ?_
  refine G_istore_n (L' := [(2, .int p57144), (0, .ref q57082), (1, .int p57127)]) d_cX2_mergeCopies_7 (Nat.le_of_ble_eq_true rfl) rfl ?_
  refine G_iconst 0 d_cX2_mergeCopies_8 (by decide +kernel) ?_
  refine G_istore_n (L' := [(3, .int 0), (2, .int p57144), (0, .ref q57082), (1, .int p57127)]) d_cX2_mergeCopies_9 (Nat.le_of_ble_eq_true rfl) rfl ?_
  have hlp10_60251 : ∀ (n10_60251 : Nat) (g60227 : Int32) (g60228 : Int32) (g60229 : Int32) (g60230 : Int32) (g60231 : Int32) (g60232 : Int32) (g60233 : Int32) (g60234 : Int32) (f60235 : Nat → Int64) (f60236 : Nat → Int64) (f60237 : Nat → Int32) (f60238 : Nat → Int32) (f60239 : Nat → Int32) (f60240 : Nat → Int32) (f60241 : Nat → Int32) (f60242 : Nat → Int32) (f60243 : Nat → Int32) (f60244 : Nat → Int32) (f60245 : Nat → Int64) (f60246 : Nat → Int64) (f60247 : Nat → Int64) (f60248 : Nat → Int64), gB g60227 0 921 → gB g60228 (-2147483648) 2147483647 → gB g60229 0 720 → gB g60230 0 12 → gB g60231 0 920 → gB g60232 0 720 → gB g60233 0 12 → gB g60234 0 1 → gF f60237 (-2147483648) 2147483647 → gF f60238 0 920 → gF f60239 0 21 → gF f60240 (-2147483648) 2147483647 → gF f60241 (-2147483648) 2147483647 → gF f60242 (-2147483648) 2147483647 → gF f60243 (-2147483648) 2147483647 → gF f60244 (-2147483648) 2147483647 → g60230.toInt = (g60229.toInt + 63) / 64 → lb_W f60235 (g60229.toInt * g60230.toInt) (g60230.toInt) (g60229.toInt) → g60233.toInt = (g60232.toInt + 63) / 64 → ((922 : Int) - g60227.toInt).toNat < n10_60251 → G (gV D I) l (gRm 5 121 0 0) (gM (gV D I) (po_57188_Giver_mergeCopies I q57082 q57083 q57084 q57085 q57086 q57087 q57088 q57089 q57090 q57091 q57092 q57093 q57094 q57095 q57096 q57097 q57098 q57099 q57100 q57101 q57102 q57103 q57104 q57105 q57106 q57107 q57108 q57109 q57110 q57111 q57112 q57113 q57114 q57115 q57116 q57117 q57118 q57119 q57120 q57121 q57122 q57123 q57124 q57125 q57126 p57127 p57128 p57129 p57130 p57131 p57132 p57133 p57134 p57135 p57136 p57137 f57138 f57139 f57140 f57141 f57142 p57143 p57144 p57145 p57146 p57147 p57148 f57149 f57150 f57151 p57152 p57153 p57154 f57155 f57156 f57157 f57158 f57159 f57160 f57161 f57162 f57163 f57164 f57165 f57166 f57167 f57168 f57169 f57170 f57171 f57172 f57173 f57174 f57175 f57176 f57177 f57178 f57179 f57180 f57181 f57182 f57183 f57184) gN 0 0) ky_57188_Giver_mergeCopies 10 [(3, .int g60227), (2, .int p57144), (0, .ref q57082), (1, .int p57127)] [] [(q57082, .inr (7, [.ref q57083, .ref q57084, .ref q57085, .ref q57086, .ref q57087, .ref q57088, .ref q57089, .ref q57090, .ref q57091, .ref q57092, .int p57128, .int p57129, .int p57130, .int p57131, .int g60228, .int p57133])), (q57083, .inr (11, [.ref q57093, .ref q57094, .ref q57095])), (q57084, .inr (8, [.ref q57096, .ref q57097, .ref q57098, .ref q57099, .int g60229, .int g60230])), (q57085, .inr (6, [.ref q57084, .ref q57100, .ref q57101, .ref q57102, .ref q57103, .ref q57104, .int p57136, .int p57137])), (q57086, .inl (I .int, 100, .inl f57138)), (q57087, .inl (I .int, 100, .inl f57139)), (q57088, .inl (I .int, 40, .inl f57140)), (q57089, .inl (I .int, 100, .inl f57141)), (q57090, .inl (I .int, 100, .inl f57142)), (q57091, .inr (5, [.ref q57105, .ref q57106, .ref q57107, .ref q57108, .ref q57109, .ref q57110, .ref q57111, .ref q57112, .ref q57113, .int p57143, .int g60231, .int p57145])), (q57092, .inr (5, [.ref q57114, .ref q57115, .ref q57116, .ref q57117, .ref q57118, .ref q57119, .ref q57120, .ref q57121, .ref q57122, .int p57146, .int p57147, .int p57148])), (q57093, .inl (I .long, 40, .inr (.inl f57149))), (q57094, .inl (I .long, 40, .inr (.inl f57150))), (q57095, .inl (I .int, 40, .inl f57151)), (q57096, .inr (10, [.ref q57123, .ref q57124, .ref q57125, .ref q57126, .int g60232, .int g60233, .int g60234])), (q57097, .inl (I .long, 8640, .inr (.inl f60235))), (q57098, .inl (I .long, 12, .inr (.inl f60236))), (q57099, .inl (I .int, 720, .inl f60237)), (q57100, .inl (I .int, 720, .inl f57158)), (q57101, .inl (I .int, 720, .inl f57159)), (q57102, .inl (I .int, 720, .inl f57160)), (q57103, .inl (I .int, 720, .inl f57161)), (q57104, .inl (I .int, 720, .inl f57162)), (q57105, .inl (I .int, 40, .inl f60238)), (q57106, .inl (I .int, 40, .inl f57164)), (q57107, .inl (I .int, 40, .inl f57165)), (q57108, .inl (I .int, 920, .inl f60239)), (q57109, .inl (I .int, 920, .inl f60240)), (q57110, .inl (I .int, 920, .inl f60241)), (q57111, .inl (I .int, 920, .inl f60242)), (q57112, .inl (I .int, 920, .inl f60243)), (q57113, .inl (I .int, 920, .inl f60244)), (q57114, .inl (I .int, 40, .inl f57172)), (q57115, .inl (I .int, 40, .inl f57173)), (q57116, .inl (I .int, 40, .inl f57174)), (q57117, .inl (I .int, 920, .inl f57175)), (q57118, .inl (I .int, 920, .inl f57176)), (q57119, .inl (I .int, 920, .inl f57177)), (q57120, .inl (I .int, 920, .inl f57178)), (q57121, .inl (I .int, 920, .inl f57179)), (q57122, .inl (I .int, 920, .inl f57180)), (q57123, .inl (I .long, 480, .inr (.inl f60245))), (q57124, .inl (I .long, 480, .inr (.inl f60246))), (q57125, .inl (I .long, 480, .inr (.inl f60247))), (q57126, .inl (I .long, 12, .inr (.inl f60248)))] 0 0 := by
    intro n10_60251
    induction n10_60251 with
    | zero => intro g60227 g60228 g60229 g60230 g60231 g60232 g60233 g60234 f60235 f60236 f60237 f60238 f60239 f60240 f60241 f60242 f60243 f60244 f60245 f60246 f60247 f60248 bg60227 bg60228 bg60229 bg60230 bg60231 bg60232 bg60233 bg60234 bf60237 bf60238 bf60239 bf60240 bf60241 bf60242 bf60243 bf60244 x60249 x60250 x60251 hm10_60251; exact absurd hm10_60251 (Nat.not_lt_zero _)
    | succ n10_60251 ih10_60251 =>
      intro g60227 g60228 g60229 g60230 g60231 g60232 g60233 g60234 f60235 f60236 f60237 f60238 f60239 f60240 f60241 f60242 f60243 f60244 f60245 f60246 f60247 f60248 bg60227 bg60228 bg60229 bg60230 bg60231 bg60232 bg60233 bg60234 bf60237 bf60238 bf60239 bf60240 bf60241 bf60242 bf60243 bf60244 x60249 x60250 x60251 hm10_60251
      refine G_iload_n 0 d_cX2_mergeCopies_10 rfl ?_
      refine G_iload_n 1 d_cX2_mergeCopies_11 rfl ?_
      refine G_icmp_gt 131 d_cX2_mergeCopies_12 (by decide +kernel) (fun hc60252 => ?_) (fun hc60252 => ?_)
      · have r60253 : p57144.toInt < g60227.toInt := gC_lt hc60252
        have bg60227' : gB g60227 1 921 := ⟨by omega, by omega⟩
        exact G_vret d_cX2_mergeCopies_131 rfl (Nat.le_of_ble_eq_true rfl) (Nat.le_of_ble_eq_true rfl) ⟨g60228, g60229, g60230, g60231, g60232, g60233, g60234, f60235, f60236, f60237, f60238, f60239, f60240, f60241, f60242, f60243, f60244, f60245, f60246, f60247, f60248, rfl, rfl, bg60228, bg60229, bg60230, bg60231, bg60232, bg60233, bg60234, bf60237, bf60238, bf60239, bf60240, bf60241, bf60242, bf60243, bf60244, (by omega), x60250, (by omega)⟩
      · have r60254 : g60227.toInt ≤ p57144.toInt := gC_nlt hc60252
        have bg60227' : gB g60227 0 920 := ⟨by omega, by omega⟩
        refine G_aload_n 2 d_cX2_mergeCopies_15 rfl ?_
        refine G_getf 0 1 d_cX2_mergeCopies_16 rfl (gk_X2 D I) (Nat.le_of_ble_eq_true rfl) w_2_106 rfl ?_
        refine G_aload_n 2 d_cX2_mergeCopies_19 rfl ?_
        refine G_getf 0 8 d_cX2_mergeCopies_20 rfl (gk_X2 D I) (Nat.le_of_ble_eq_true rfl) w_2_113 rfl ?_
        refine G_aload_n 2 d_cX2_mergeCopies_23 rfl ?_
        refine G_getf 0 10 d_cX2_mergeCopies_24 rfl (gk_X2 D I) (Nat.le_of_ble_eq_true rfl) w_2_115 rfl ?_
        refine G_iconst 0 d_cX2_mergeCopies_27 (by decide +kernel) ?_
        refine G_callV (As := [.ref q57091, .int p57128, .int 0]) (wr := [(q57082, .inr (7, [.ref q57083, .ref q57084, .ref q57085, .ref q57086, .ref q57087, .ref q57088, .ref q57089, .ref q57090, .ref q57091, .ref q57092, .int p57128, .int p57129, .int p57130, .int p57131, .int g60228, .int p57133])), (q57083, .inr (11, [.ref q57093, .ref q57094, .ref q57095])), (q57085, .inr (6, [.ref q57084, .ref q57100, .ref q57101, .ref q57102, .ref q57103, .ref q57104, .int p57136, .int p57137])), (q57086, .inl (I .int, 100, .inl f57138)), (q57087, .inl (I .int, 100, .inl f57139)), (q57088, .inl (I .int, 40, .inl f57140)), (q57089, .inl (I .int, 100, .inl f57141)), (q57090, .inl (I .int, 100, .inl f57142)), (q57092, .inr (5, [.ref q57114, .ref q57115, .ref q57116, .ref q57117, .ref q57118, .ref q57119, .ref q57120, .ref q57121, .ref q57122, .int p57146, .int p57147, .int p57148])), (q57093, .inl (I .long, 40, .inr (.inl f57149))), (q57094, .inl (I .long, 40, .inr (.inl f57150))), (q57095, .inl (I .int, 40, .inl f57151)), (q57100, .inl (I .int, 720, .inl f57158)), (q57101, .inl (I .int, 720, .inl f57159)), (q57102, .inl (I .int, 720, .inl f57160)), (q57103, .inl (I .int, 720, .inl f57161)), (q57104, .inl (I .int, 720, .inl f57162)), (q57114, .inl (I .int, 40, .inl f57172)), (q57115, .inl (I .int, 40, .inl f57173)), (q57116, .inl (I .int, 40, .inl f57174)), (q57117, .inl (I .int, 920, .inl f57175)), (q57118, .inl (I .int, 920, .inl f57176)), (q57119, .inl (I .int, 920, .inl f57177)), (q57120, .inl (I .int, 920, .inl f57178)), (q57121, .inl (I .int, 920, .inl f57179)), (q57122, .inl (I .int, 920, .inl f57180))]) (gV_ok D I) (ct_21624_Graph_build l hl0 D I q57084 q57091 q57096 q57097 q57098 q57099 q57105 q57106 q57107 q57108 q57109 q57110 q57111 q57112 q57113 q57123 q57124 q57125 q57126 p57128 0 g60229 g60230 p57143 g60231 p57145 g60232 g60233 g60234 f60235 f60236 f60237 f60238 f57164 f57165 f60239 f60240 f60241 f60242 f60243 f60244 f60245 f60246 f60247 f60248 (gB_w (gBl (show Int32.toInt 0 = 0 by decide)) (by decide) (by decide)) bg60229 bg60230 bp57143 bg60231 bp57145 bg60232 bg60233 bg60234 bf60238 bf60239 (by have qa0 : Int32.toInt 0 = 0 := (by decide); omega) x60250 (by have qa0 : Int32.toInt 0 = 0 := (by decide); omega)) d_cX2_mergeCopies_28 ⟨w_4_99, w_1_9, w_4_102, by decide, rfl, (Nat.le_of_ble_eq_true rfl), (Nat.le_of_ble_eq_true rfl)⟩ w_4_100 w_4_101 2 rfl rfl [2, 9, 14, 15, 16, 17, 23, 24, 25, 26, 27, 28, 29, 30, 31, 41, 42, 43, 44] [0, 1, 3, 4, 5, 6, 7, 8, 10, 11, 12, 13, 18, 19, 20, 21, 22, 32, 33, 34, 35, 36, 37, 38, 39, 40] rfl rfl rfl rfl (by decide) (Nat.le_of_ble_eq_true rfl) (Nat.le_of_ble_eq_true rfl) (Nat.le_of_ble_eq_true rfl) (fun r w hp => ?_) (fun _ _ _ z => z.elim)
        refine Exists.elim hp fun o60255 hp => ?_
        refine Exists.elim hp fun o60256 hp => ?_
        refine Exists.elim hp fun o60257 hp => ?_
        refine Exists.elim hp fun o60258 hp => ?_
        refine Exists.elim hp fun o60259 hp => ?_
        refine Exists.elim hp fun f60260 hp => ?_
        refine Exists.elim hp fun f60261 hp => ?_
        refine Exists.elim hp fun f60262 hp => ?_
        refine Exists.elim hp fun f60263 hp => ?_
        refine Exists.elim hp fun f60264 hp => ?_
        refine Exists.elim hp fun f60265 hp => ?_
        refine Exists.elim hp fun f60266 hp => ?_
        obtain ⟨rfl, rfl, bo60255, bo60256, bo60257, bo60258, bo60259, bf60262, x60267, x60268, x60269, x60270⟩ := hp
        change G _ _ _ _ _ _ _ _ _ _ _
        refine G_ws (ws' := [(q57082, .inr (7, [.ref q57083, .ref q57084, .ref q57085, .ref q57086, .ref q57087, .ref q57088, .ref q57089, .ref q57090, .ref q57091, .ref q57092, .int p57128, .int p57129, .int p57130, .int p57131, .int g60228, .int p57133])), (q57083, .inr (11, [.ref q57093, .ref q57094, .ref q57095])), (q57085, .inr (6, [.ref q57084, .ref q57100, .ref q57101, .ref q57102, .ref q57103, .ref q57104, .int p57136, .int p57137])), (q57086, .inl (I .int, 100, .inl f57138)), (q57087, .inl (I .int, 100, .inl f57139)), (q57088, .inl (I .int, 40, .inl f57140)), (q57089, .inl (I .int, 100, .inl f57141)), (q57090, .inl (I .int, 100, .inl f57142)), (q57092, .inr (5, [.ref q57114, .ref q57115, .ref q57116, .ref q57117, .ref q57118, .ref q57119, .ref q57120, .ref q57121, .ref q57122, .int p57146, .int p57147, .int p57148])), (q57093, .inl (I .long, 40, .inr (.inl f57149))), (q57094, .inl (I .long, 40, .inr (.inl f57150))), (q57095, .inl (I .int, 40, .inl f57151)), (q57100, .inl (I .int, 720, .inl f57158)), (q57101, .inl (I .int, 720, .inl f57159)), (q57102, .inl (I .int, 720, .inl f57160)), (q57103, .inl (I .int, 720, .inl f57161)), (q57104, .inl (I .int, 720, .inl f57162)), (q57114, .inl (I .int, 40, .inl f57172)), (q57115, .inl (I .int, 40, .inl f57173)), (q57116, .inl (I .int, 40, .inl f57174)), (q57117, .inl (I .int, 920, .inl f57175)), (q57118, .inl (I .int, 920, .inl f57176)), (q57119, .inl (I .int, 920, .inl f57177)), (q57120, .inl (I .int, 920, .inl f57178)), (q57121, .inl (I .int, 920, .inl f57179)), (q57122, .inl (I .int, 920, .inl f57180)), (q57084, .inr (8, [.ref q57096, .ref q57097, .ref q57098, .ref q57099, .int o60255, .int o60256])), (q57091, .inr (5, [.ref q57105, .ref q57106, .ref q57107, .ref q57108, .ref q57109, .ref q57110, .ref q57111, .ref q57112, .ref q57113, .int p57143, .int g60231, .int p57145])), (q57096, .inr (10, [.ref q57123, .ref q57124, .ref q57125, .ref q57126, .int o60257, .int o60258, .int o60259])), (q57097, .inl (I .long, 8640, .inr (.inl f60260))), (q57098, .inl (I .long, 12, .inr (.inl f60261))), (q57099, .inl (I .int, 720, .inl f60262)), (q57105, .inl (I .int, 40, .inl f60238)), (q57106, .inl (I .int, 40, .inl f57164)), (q57107, .inl (I .int, 40, .inl f57165)), (q57108, .inl (I .int, 920, .inl f60239)), (q57109, .inl (I .int, 920, .inl f60240)), (q57110, .inl (I .int, 920, .inl f60241)), (q57111, .inl (I .int, 920, .inl f60242)), (q57112, .inl (I .int, 920, .inl f60243)), (q57113, .inl (I .int, 920, .inl f60244)), (q57123, .inl (I .long, 480, .inr (.inl f60263))), (q57124, .inl (I .long, 480, .inr (.inl f60264))), (q57125, .inl (I .long, 480, .inr (.inl f60265))), (q57126, .inl (I .long, 12, .inr (.inl f60266)))]) (cs' := 0) (sl' := 0) rfl rfl rfl ?_
        refine G_aload_n 2 d_cX2_mergeCopies_31 rfl ?_
        refine G_iload_n 3 d_cX2_mergeCopies_32 rfl ?_
        refine G_callV (As := [.int p57127]) (wr := []) (gV_ok D I) (ct_57312_Giver_nextToMerge l hl0 D I q57082 q57083 q57084 q57085 q57086 q57087 q57088 q57089 q57090 q57091 q57092 q57093 q57094 q57095 q57096 q57097 q57098 q57099 q57100 q57101 q57102 q57103 q57104 q57105 q57106 q57107 q57108 q57109 q57110 q57111 q57112 q57113 q57114 q57115 q57116 q57117 q57118 q57119 q57120 q57121 q57122 q57123 q57124 q57125 q57126 p57127 p57128 p57129 p57130 p57131 g60228 p57133 o60255 o60256 p57136 p57137 f57138 f57139 f57140 f57141 f57142 p57143 g60231 p57145 p57146 p57147 p57148 f57149 f57150 f57151 o60257 o60258 o60259 f60260 f60261 f60262 f57158 f57159 f57160 f57161 f57162 f60238 f57164 f57165 f60239 f60240 f60241 f60242 f60243 f60244 f57172 f57173 f57174 f57175 f57176 f57177 f57178 f57179 f57180 f60263 f60264 f60265 f60266 bp57128 bp57133 bo60255 bo60256 bp57136 bp57137 bp57143 bg60231 bp57145 bp57146 bp57147 bp57148 bo60257 bo60258 bo60259 bf57160 bf57161 bf60238 bf60239 bf57172 bf57175 (by omega) (by omega) x60269 (by omega)) d_cX2_mergeCopies_33 ⟨w_5_88, w_1_8, w_5_91, by decide, rfl, (Nat.le_of_ble_eq_true rfl), (Nat.le_of_ble_eq_true rfl)⟩ w_5_90 w_p_41 0 rfl rfl [0, 1, 26, 2, 3, 4, 5, 6, 7, 27, 8, 9, 10, 11, 28, 29, 30, 31, 12, 13, 14, 15, 16, 32, 33, 34, 35, 36, 37, 38, 39, 40, 17, 18, 19, 20, 21, 22, 23, 24, 25, 41, 42, 43, 44] [] rfl rfl rfl rfl (by decide) (Nat.le_of_ble_eq_true rfl) (Nat.le_of_ble_eq_true rfl) (Nat.le_of_ble_eq_true rfl) (fun r w hp => ?_) (fun _ _ _ z => z.elim)
        obtain ⟨o60271, rfl, rfl, bo60271⟩ := hp
        change G _ _ _ _ _ _ _ (.int o60271 :: _) _ _ _
        refine G_ws (ws' := [(q57082, .inr (7, [.ref q57083, .ref q57084, .ref q57085, .ref q57086, .ref q57087, .ref q57088, .ref q57089, .ref q57090, .ref q57091, .ref q57092, .int p57128, .int p57129, .int p57130, .int p57131, .int g60228, .int p57133])), (q57083, .inr (11, [.ref q57093, .ref q57094, .ref q57095])), (q57084, .inr (8, [.ref q57096, .ref q57097, .ref q57098, .ref q57099, .int o60255, .int o60256])), (q57085, .inr (6, [.ref q57084, .ref q57100, .ref q57101, .ref q57102, .ref q57103, .ref q57104, .int p57136, .int p57137])), (q57086, .inl (I .int, 100, .inl f57138)), (q57087, .inl (I .int, 100, .inl f57139)), (q57088, .inl (I .int, 40, .inl f57140)), (q57089, .inl (I .int, 100, .inl f57141)), (q57090, .inl (I .int, 100, .inl f57142)), (q57091, .inr (5, [.ref q57105, .ref q57106, .ref q57107, .ref q57108, .ref q57109, .ref q57110, .ref q57111, .ref q57112, .ref q57113, .int p57143, .int g60231, .int p57145])), (q57092, .inr (5, [.ref q57114, .ref q57115, .ref q57116, .ref q57117, .ref q57118, .ref q57119, .ref q57120, .ref q57121, .ref q57122, .int p57146, .int p57147, .int p57148])), (q57093, .inl (I .long, 40, .inr (.inl f57149))), (q57094, .inl (I .long, 40, .inr (.inl f57150))), (q57095, .inl (I .int, 40, .inl f57151)), (q57096, .inr (10, [.ref q57123, .ref q57124, .ref q57125, .ref q57126, .int o60257, .int o60258, .int o60259])), (q57097, .inl (I .long, 8640, .inr (.inl f60260))), (q57098, .inl (I .long, 12, .inr (.inl f60261))), (q57099, .inl (I .int, 720, .inl f60262)), (q57100, .inl (I .int, 720, .inl f57158)), (q57101, .inl (I .int, 720, .inl f57159)), (q57102, .inl (I .int, 720, .inl f57160)), (q57103, .inl (I .int, 720, .inl f57161)), (q57104, .inl (I .int, 720, .inl f57162)), (q57105, .inl (I .int, 40, .inl f60238)), (q57106, .inl (I .int, 40, .inl f57164)), (q57107, .inl (I .int, 40, .inl f57165)), (q57108, .inl (I .int, 920, .inl f60239)), (q57109, .inl (I .int, 920, .inl f60240)), (q57110, .inl (I .int, 920, .inl f60241)), (q57111, .inl (I .int, 920, .inl f60242)), (q57112, .inl (I .int, 920, .inl f60243)), (q57113, .inl (I .int, 920, .inl f60244)), (q57114, .inl (I .int, 40, .inl f57172)), (q57115, .inl (I .int, 40, .inl f57173)), (q57116, .inl (I .int, 40, .inl f57174)), (q57117, .inl (I .int, 920, .inl f57175)), (q57118, .inl (I .int, 920, .inl f57176)), (q57119, .inl (I .int, 920, .inl f57177)), (q57120, .inl (I .int, 920, .inl f57178)), (q57121, .inl (I .int, 920, .inl f57179)), (q57122, .inl (I .int, 920, .inl f57180)), (q57123, .inl (I .long, 480, .inr (.inl f60263))), (q57124, .inl (I .long, 480, .inr (.inl f60264))), (q57125, .inl (I .long, 480, .inr (.inl f60265))), (q57126, .inl (I .long, 12, .inr (.inl f60266)))]) (cs' := 0) (sl' := 0) rfl rfl rfl ?_
        refine G_istore (L' := [(4, .int o60271), (3, .int g60227), (2, .int p57144), (0, .ref q57082), (1, .int p57127)]) d_cX2_mergeCopies_36 (Nat.le_of_ble_eq_true rfl) rfl ?_
        refine G_iload 0 d_cX2_mergeCopies_38 rfl ?_
        refine G_iconst (-1) d_cX2_mergeCopies_40 (by decide +kernel) ?_
        refine G_icmp_ne 45 d_cX2_mergeCopies_41 (by decide +kernel) (fun hc60272 => ?_) (fun hc60272 => ?_)
        · have r60273 : o60271.toInt ≠ (-1) := gj_neq hc60272 (show Int32.toInt (-1) = (-1) by decide)
          have bo60271' : gB o60271 0 919 := ⟨by omega, by omega⟩
          refine G_aload_n 3 d_cX2_mergeCopies_45 rfl ?_
          refine G_getf 0 8 d_cX2_mergeCopies_46 rfl (gk_X2 D I) (Nat.le_of_ble_eq_true rfl) w_2_113 rfl ?_
          refine G_getfN 9 4 d_cX2_mergeCopies_49 rfl (gk_X0 D I) (Nat.le_of_ble_eq_true rfl) (fun _ _ _ h => gn_w 21 rfl h) rfl ?_
          refine G_iload 0 d_cX2_mergeCopies_52 rfl ?_
          refine G_iald 27 0 d_cX2_mergeCopies_54 rfl rfl (gB_in bo60271' (by decide) (by decide)) (G_nam fun z60274 hz60274 => ?_)
          have bz60274 : gB z60274 (-2147483648) 2147483647 := by rw [hz60274]; exact bf60240 _
          refine G_aload_n 3 d_cX2_mergeCopies_55 rfl ?_
          refine G_getf 0 8 d_cX2_mergeCopies_56 rfl (gk_X2 D I) (Nat.le_of_ble_eq_true rfl) w_2_113 rfl ?_
          refine G_getfN 9 5 d_cX2_mergeCopies_59 rfl (gk_X0 D I) (Nat.le_of_ble_eq_true rfl) (fun _ _ _ h => gn_w 26 rfl h) rfl ?_
          refine G_iload 0 d_cX2_mergeCopies_62 rfl ?_
          refine G_iald 28 0 d_cX2_mergeCopies_64 rfl rfl (gB_in bo60271' (by decide) (by decide)) (G_nam fun z60275 hz60275 => ?_)
          have bz60275 : gB z60275 (-2147483648) 2147483647 := by rw [hz60275]; exact bf60241 _
          refine G_mmin d_cX2_mergeCopies_65 w_5_105 w_3_227 w_1_6 w_3_228 (Nat.le_of_ble_eq_true rfl) (Nat.le_of_ble_eq_true rfl) (Nat.le_of_ble_eq_true rfl) (Nat.le_of_ble_eq_true rfl) (G_nam fun z60276 hz60276 => ?_)
          have ez60276 : z60274.toInt ≥ z60276.toInt ∧ z60275.toInt ≥ z60276.toInt ∧ (z60276.toInt = z60274.toInt ∨ z60276.toInt = z60275.toInt) := by have := gI_min hz60276; omega
          have bz60276 : gB z60276 (-2147483648) 2147483647 := ⟨by omega, by omega⟩
          refine G_istore (L' := [(5, .int z60276), (4, .int o60271), (3, .int g60227), (2, .int p57144), (0, .ref q57082), (1, .int p57127)]) d_cX2_mergeCopies_68 (Nat.le_of_ble_eq_true rfl) rfl ?_
          refine G_aload_n 4 d_cX2_mergeCopies_70 rfl ?_
          refine G_getf 0 8 d_cX2_mergeCopies_71 rfl (gk_X2 D I) (Nat.le_of_ble_eq_true rfl) w_2_113 rfl ?_
          refine G_getfN 9 4 d_cX2_mergeCopies_74 rfl (gk_X0 D I) (Nat.le_of_ble_eq_true rfl) (fun _ _ _ h => gn_w 21 rfl h) rfl ?_
          refine G_iload 1 d_cX2_mergeCopies_77 rfl ?_
          refine G_iald 27 0 d_cX2_mergeCopies_79 rfl rfl (gB_in bo60271' (by decide) (by decide)) (G_eqi (y := z60274) hz60274.symm ?_)
          refine G_aload_n 4 d_cX2_mergeCopies_80 rfl ?_
          refine G_getf 0 8 d_cX2_mergeCopies_81 rfl (gk_X2 D I) (Nat.le_of_ble_eq_true rfl) w_2_113 rfl ?_
          refine G_getfN 9 5 d_cX2_mergeCopies_84 rfl (gk_X0 D I) (Nat.le_of_ble_eq_true rfl) (fun _ _ _ h => gn_w 26 rfl h) rfl ?_
          refine G_iload 1 d_cX2_mergeCopies_87 rfl ?_
          refine G_iald 28 0 d_cX2_mergeCopies_89 rfl rfl (gB_in bo60271' (by decide) (by decide)) (G_eqi (y := z60275) hz60275.symm ?_)
          refine G_mmax d_cX2_mergeCopies_90 w_5_106 w_1_140 w_1_6 w_1_141 (Nat.le_of_ble_eq_true rfl) (Nat.le_of_ble_eq_true rfl) (Nat.le_of_ble_eq_true rfl) (Nat.le_of_ble_eq_true rfl) (G_nam fun z60277 hz60277 => ?_)
          have ez60277 : z60274.toInt ≤ z60277.toInt ∧ z60275.toInt ≤ z60277.toInt ∧ (z60277.toInt = z60274.toInt ∨ z60277.toInt = z60275.toInt) := by have := gI_max hz60277; omega
          have bz60277 : gB z60277 (-2147483648) 2147483647 := ⟨by omega, by omega⟩
          refine G_istore (L' := [(6, .int z60277), (5, .int z60276), (4, .int o60271), (3, .int g60227), (2, .int p57144), (0, .ref q57082), (1, .int p57127)]) d_cX2_mergeCopies_93 (Nat.le_of_ble_eq_true rfl) rfl ?_
          refine G_aload_n 5 d_cX2_mergeCopies_95 rfl ?_
          refine G_getf 0 8 d_cX2_mergeCopies_96 rfl (gk_X2 D I) (Nat.le_of_ble_eq_true rfl) w_2_113 rfl ?_
          refine G_iload 2 d_cX2_mergeCopies_99 rfl ?_
          refine G_callV (As := [.int o60271]) (wr := [(q57082, .inr (7, [.ref q57083, .ref q57084, .ref q57085, .ref q57086, .ref q57087, .ref q57088, .ref q57089, .ref q57090, .ref q57091, .ref q57092, .int p57128, .int p57129, .int p57130, .int p57131, .int g60228, .int p57133])), (q57083, .inr (11, [.ref q57093, .ref q57094, .ref q57095])), (q57084, .inr (8, [.ref q57096, .ref q57097, .ref q57098, .ref q57099, .int o60255, .int o60256])), (q57085, .inr (6, [.ref q57084, .ref q57100, .ref q57101, .ref q57102, .ref q57103, .ref q57104, .int p57136, .int p57137])), (q57086, .inl (I .int, 100, .inl f57138)), (q57087, .inl (I .int, 100, .inl f57139)), (q57088, .inl (I .int, 40, .inl f57140)), (q57089, .inl (I .int, 100, .inl f57141)), (q57090, .inl (I .int, 100, .inl f57142)), (q57092, .inr (5, [.ref q57114, .ref q57115, .ref q57116, .ref q57117, .ref q57118, .ref q57119, .ref q57120, .ref q57121, .ref q57122, .int p57146, .int p57147, .int p57148])), (q57093, .inl (I .long, 40, .inr (.inl f57149))), (q57094, .inl (I .long, 40, .inr (.inl f57150))), (q57095, .inl (I .int, 40, .inl f57151)), (q57096, .inr (10, [.ref q57123, .ref q57124, .ref q57125, .ref q57126, .int o60257, .int o60258, .int o60259])), (q57097, .inl (I .long, 8640, .inr (.inl f60260))), (q57098, .inl (I .long, 12, .inr (.inl f60261))), (q57099, .inl (I .int, 720, .inl f60262)), (q57100, .inl (I .int, 720, .inl f57158)), (q57101, .inl (I .int, 720, .inl f57159)), (q57102, .inl (I .int, 720, .inl f57160)), (q57103, .inl (I .int, 720, .inl f57161)), (q57104, .inl (I .int, 720, .inl f57162)), (q57114, .inl (I .int, 40, .inl f57172)), (q57115, .inl (I .int, 40, .inl f57173)), (q57116, .inl (I .int, 40, .inl f57174)), (q57117, .inl (I .int, 920, .inl f57175)), (q57118, .inl (I .int, 920, .inl f57176)), (q57119, .inl (I .int, 920, .inl f57177)), (q57120, .inl (I .int, 920, .inl f57178)), (q57121, .inl (I .int, 920, .inl f57179)), (q57122, .inl (I .int, 920, .inl f57180)), (q57123, .inl (I .long, 480, .inr (.inl f60263))), (q57124, .inl (I .long, 480, .inr (.inl f60264))), (q57125, .inl (I .long, 480, .inr (.inl f60265))), (q57126, .inl (I .long, 12, .inr (.inl f60266)))]) (gV_ok D I) (ct_59375_Code_drop l hl0 D I q57091 q57105 q57106 q57107 q57108 q57109 q57110 q57111 q57112 q57113 o60271 p57143 g60231 p57145 f60238 f57164 f57165 f60239 f60240 f60241 f60242 f60243 f60244 bo60271' bp57143 bg60231 bp57145 bf60238 bf60239) d_cX2_mergeCopies_101 ⟨w_5_107, w_1_5, w_5_110, by decide, rfl, (Nat.le_of_ble_eq_true rfl), (Nat.le_of_ble_eq_true rfl)⟩ w_5_108 w_5_109 9 rfl rfl [9, 23, 24, 25, 26, 27, 28, 29, 30, 31] [0, 1, 2, 3, 4, 5, 6, 7, 8, 10, 11, 12, 13, 14, 15, 16, 17, 18, 19, 20, 21, 22, 32, 33, 34, 35, 36, 37, 38, 39, 40, 41, 42, 43, 44] rfl rfl rfl rfl (by decide) (Nat.le_of_ble_eq_true rfl) (Nat.le_of_ble_eq_true rfl) (Nat.le_of_ble_eq_true rfl) (fun r w hp => ?_) (fun _ _ _ z => z.elim)
          obtain ⟨o60278, f60279, f60280, f60281, f60282, f60283, f60284, f60285, rfl, rfl, bo60278, bf60279, bf60280, bf60281, bf60282, bf60283, bf60284, bf60285⟩ := hp
          change G _ _ _ _ _ _ _ _ _ _ _
          refine G_ws (ws' := [(q57082, .inr (7, [.ref q57083, .ref q57084, .ref q57085, .ref q57086, .ref q57087, .ref q57088, .ref q57089, .ref q57090, .ref q57091, .ref q57092, .int p57128, .int p57129, .int p57130, .int p57131, .int g60228, .int p57133])), (q57083, .inr (11, [.ref q57093, .ref q57094, .ref q57095])), (q57084, .inr (8, [.ref q57096, .ref q57097, .ref q57098, .ref q57099, .int o60255, .int o60256])), (q57085, .inr (6, [.ref q57084, .ref q57100, .ref q57101, .ref q57102, .ref q57103, .ref q57104, .int p57136, .int p57137])), (q57086, .inl (I .int, 100, .inl f57138)), (q57087, .inl (I .int, 100, .inl f57139)), (q57088, .inl (I .int, 40, .inl f57140)), (q57089, .inl (I .int, 100, .inl f57141)), (q57090, .inl (I .int, 100, .inl f57142)), (q57092, .inr (5, [.ref q57114, .ref q57115, .ref q57116, .ref q57117, .ref q57118, .ref q57119, .ref q57120, .ref q57121, .ref q57122, .int p57146, .int p57147, .int p57148])), (q57093, .inl (I .long, 40, .inr (.inl f57149))), (q57094, .inl (I .long, 40, .inr (.inl f57150))), (q57095, .inl (I .int, 40, .inl f57151)), (q57096, .inr (10, [.ref q57123, .ref q57124, .ref q57125, .ref q57126, .int o60257, .int o60258, .int o60259])), (q57097, .inl (I .long, 8640, .inr (.inl f60260))), (q57098, .inl (I .long, 12, .inr (.inl f60261))), (q57099, .inl (I .int, 720, .inl f60262)), (q57100, .inl (I .int, 720, .inl f57158)), (q57101, .inl (I .int, 720, .inl f57159)), (q57102, .inl (I .int, 720, .inl f57160)), (q57103, .inl (I .int, 720, .inl f57161)), (q57104, .inl (I .int, 720, .inl f57162)), (q57114, .inl (I .int, 40, .inl f57172)), (q57115, .inl (I .int, 40, .inl f57173)), (q57116, .inl (I .int, 40, .inl f57174)), (q57117, .inl (I .int, 920, .inl f57175)), (q57118, .inl (I .int, 920, .inl f57176)), (q57119, .inl (I .int, 920, .inl f57177)), (q57120, .inl (I .int, 920, .inl f57178)), (q57121, .inl (I .int, 920, .inl f57179)), (q57122, .inl (I .int, 920, .inl f57180)), (q57123, .inl (I .long, 480, .inr (.inl f60263))), (q57124, .inl (I .long, 480, .inr (.inl f60264))), (q57125, .inl (I .long, 480, .inr (.inl f60265))), (q57126, .inl (I .long, 12, .inr (.inl f60266))), (q57091, .inr (5, [.ref q57105, .ref q57106, .ref q57107, .ref q57108, .ref q57109, .ref q57110, .ref q57111, .ref q57112, .ref q57113, .int p57143, .int o60278, .int p57145])), (q57105, .inl (I .int, 40, .inl f60279)), (q57106, .inl (I .int, 40, .inl f57164)), (q57107, .inl (I .int, 40, .inl f57165)), (q57108, .inl (I .int, 920, .inl f60280)), (q57109, .inl (I .int, 920, .inl f60281)), (q57110, .inl (I .int, 920, .inl f60282)), (q57111, .inl (I .int, 920, .inl f60283)), (q57112, .inl (I .int, 920, .inl f60284)), (q57113, .inl (I .int, 920, .inl f60285))]) (cs' := 0) (sl' := 0) rfl rfl rfl ?_
          refine G_aload_n 5 d_cX2_mergeCopies_104 rfl ?_
          refine G_getf 0 8 d_cX2_mergeCopies_105 rfl (gk_X2 D I) (Nat.le_of_ble_eq_true rfl) w_2_113 rfl ?_
          refine G_iload 0 d_cX2_mergeCopies_108 rfl ?_
          refine G_iload 1 d_cX2_mergeCopies_110 rfl ?_
          refine G_callV (As := [.int z60277, .int z60276]) (wr := [(q57082, .inr (7, [.ref q57083, .ref q57084, .ref q57085, .ref q57086, .ref q57087, .ref q57088, .ref q57089, .ref q57090, .ref q57091, .ref q57092, .int p57128, .int p57129, .int p57130, .int p57131, .int g60228, .int p57133])), (q57083, .inr (11, [.ref q57093, .ref q57094, .ref q57095])), (q57084, .inr (8, [.ref q57096, .ref q57097, .ref q57098, .ref q57099, .int o60255, .int o60256])), (q57085, .inr (6, [.ref q57084, .ref q57100, .ref q57101, .ref q57102, .ref q57103, .ref q57104, .int p57136, .int p57137])), (q57086, .inl (I .int, 100, .inl f57138)), (q57087, .inl (I .int, 100, .inl f57139)), (q57088, .inl (I .int, 40, .inl f57140)), (q57089, .inl (I .int, 100, .inl f57141)), (q57090, .inl (I .int, 100, .inl f57142)), (q57092, .inr (5, [.ref q57114, .ref q57115, .ref q57116, .ref q57117, .ref q57118, .ref q57119, .ref q57120, .ref q57121, .ref q57122, .int p57146, .int p57147, .int p57148])), (q57093, .inl (I .long, 40, .inr (.inl f57149))), (q57094, .inl (I .long, 40, .inr (.inl f57150))), (q57095, .inl (I .int, 40, .inl f57151)), (q57096, .inr (10, [.ref q57123, .ref q57124, .ref q57125, .ref q57126, .int o60257, .int o60258, .int o60259])), (q57097, .inl (I .long, 8640, .inr (.inl f60260))), (q57098, .inl (I .long, 12, .inr (.inl f60261))), (q57099, .inl (I .int, 720, .inl f60262)), (q57100, .inl (I .int, 720, .inl f57158)), (q57101, .inl (I .int, 720, .inl f57159)), (q57102, .inl (I .int, 720, .inl f57160)), (q57103, .inl (I .int, 720, .inl f57161)), (q57104, .inl (I .int, 720, .inl f57162)), (q57114, .inl (I .int, 40, .inl f57172)), (q57115, .inl (I .int, 40, .inl f57173)), (q57116, .inl (I .int, 40, .inl f57174)), (q57117, .inl (I .int, 920, .inl f57175)), (q57118, .inl (I .int, 920, .inl f57176)), (q57119, .inl (I .int, 920, .inl f57177)), (q57120, .inl (I .int, 920, .inl f57178)), (q57121, .inl (I .int, 920, .inl f57179)), (q57122, .inl (I .int, 920, .inl f57180)), (q57123, .inl (I .long, 480, .inr (.inl f60263))), (q57124, .inl (I .long, 480, .inr (.inl f60264))), (q57125, .inl (I .long, 480, .inr (.inl f60265))), (q57126, .inl (I .long, 12, .inr (.inl f60266)))]) (gV_ok D I) (ct_59521_Code_replace l hl0 D I q57091 q57105 q57106 q57107 q57108 q57109 q57110 q57111 q57112 q57113 z60277 z60276 p57143 o60278 p57145 f60279 f57164 f57165 f60280 f60281 f60282 f60283 f60284 f60285 bp57143 bo60278 bp57145 bf60279 bf60280) d_cX2_mergeCopies_112 ⟨w_5_114, w_1_5, w_5_117, by decide, rfl, (Nat.le_of_ble_eq_true rfl), (Nat.le_of_ble_eq_true rfl)⟩ w_5_115 w_5_116 35 rfl rfl [35, 36, 37, 38, 39, 40, 41, 42, 43, 44] [0, 1, 2, 3, 4, 5, 6, 7, 8, 9, 10, 11, 12, 13, 14, 15, 16, 17, 18, 19, 20, 21, 22, 23, 24, 25, 26, 27, 28, 29, 30, 31, 32, 33, 34] rfl rfl rfl rfl (by decide) (Nat.le_of_ble_eq_true rfl) (Nat.le_of_ble_eq_true rfl) (Nat.le_of_ble_eq_true rfl) (fun r w hp => ?_) (fun _ _ _ z => z.elim)
          obtain ⟨f60286, f60287, f60288, rfl, rfl, bf60286, bf60287, bf60288⟩ := hp
          change G _ _ _ _ _ _ _ _ _ _ _
          refine G_ws (ws' := [(q57082, .inr (7, [.ref q57083, .ref q57084, .ref q57085, .ref q57086, .ref q57087, .ref q57088, .ref q57089, .ref q57090, .ref q57091, .ref q57092, .int p57128, .int p57129, .int p57130, .int p57131, .int g60228, .int p57133])), (q57083, .inr (11, [.ref q57093, .ref q57094, .ref q57095])), (q57084, .inr (8, [.ref q57096, .ref q57097, .ref q57098, .ref q57099, .int o60255, .int o60256])), (q57085, .inr (6, [.ref q57084, .ref q57100, .ref q57101, .ref q57102, .ref q57103, .ref q57104, .int p57136, .int p57137])), (q57086, .inl (I .int, 100, .inl f57138)), (q57087, .inl (I .int, 100, .inl f57139)), (q57088, .inl (I .int, 40, .inl f57140)), (q57089, .inl (I .int, 100, .inl f57141)), (q57090, .inl (I .int, 100, .inl f57142)), (q57092, .inr (5, [.ref q57114, .ref q57115, .ref q57116, .ref q57117, .ref q57118, .ref q57119, .ref q57120, .ref q57121, .ref q57122, .int p57146, .int p57147, .int p57148])), (q57093, .inl (I .long, 40, .inr (.inl f57149))), (q57094, .inl (I .long, 40, .inr (.inl f57150))), (q57095, .inl (I .int, 40, .inl f57151)), (q57096, .inr (10, [.ref q57123, .ref q57124, .ref q57125, .ref q57126, .int o60257, .int o60258, .int o60259])), (q57097, .inl (I .long, 8640, .inr (.inl f60260))), (q57098, .inl (I .long, 12, .inr (.inl f60261))), (q57099, .inl (I .int, 720, .inl f60262)), (q57100, .inl (I .int, 720, .inl f57158)), (q57101, .inl (I .int, 720, .inl f57159)), (q57102, .inl (I .int, 720, .inl f57160)), (q57103, .inl (I .int, 720, .inl f57161)), (q57104, .inl (I .int, 720, .inl f57162)), (q57114, .inl (I .int, 40, .inl f57172)), (q57115, .inl (I .int, 40, .inl f57173)), (q57116, .inl (I .int, 40, .inl f57174)), (q57117, .inl (I .int, 920, .inl f57175)), (q57118, .inl (I .int, 920, .inl f57176)), (q57119, .inl (I .int, 920, .inl f57177)), (q57120, .inl (I .int, 920, .inl f57178)), (q57121, .inl (I .int, 920, .inl f57179)), (q57122, .inl (I .int, 920, .inl f57180)), (q57123, .inl (I .long, 480, .inr (.inl f60263))), (q57124, .inl (I .long, 480, .inr (.inl f60264))), (q57125, .inl (I .long, 480, .inr (.inl f60265))), (q57126, .inl (I .long, 12, .inr (.inl f60266))), (q57091, .inr (5, [.ref q57105, .ref q57106, .ref q57107, .ref q57108, .ref q57109, .ref q57110, .ref q57111, .ref q57112, .ref q57113, .int p57143, .int o60278, .int p57145])), (q57105, .inl (I .int, 40, .inl f60279)), (q57106, .inl (I .int, 40, .inl f57164)), (q57107, .inl (I .int, 40, .inl f57165)), (q57108, .inl (I .int, 920, .inl f60280)), (q57109, .inl (I .int, 920, .inl f60286)), (q57110, .inl (I .int, 920, .inl f60287)), (q57111, .inl (I .int, 920, .inl f60283)), (q57112, .inl (I .int, 920, .inl f60288)), (q57113, .inl (I .int, 920, .inl f60285))]) (cs' := 0) (sl' := 0) rfl rfl rfl ?_
          refine G_aload_n 5 d_cX2_mergeCopies_115 rfl ?_
          refine G_dup d_cX2_mergeCopies_116 rfl ?_
          refine G_getf 0 14 d_cX2_mergeCopies_117 rfl (gk_X2 D I) (Nat.le_of_ble_eq_true rfl) w_2_119 rfl ?_
          refine G_iconst 1 d_cX2_mergeCopies_120 (by decide +kernel) ?_
          refine G_iadd d_cX2_mergeCopies_121 (G_nam fun z60289 hz60289 => ?_)
          have bz60289 : gB z60289 (-2147483648) 2147483647 := gB_any z60289
          refine G_putf (ws' := [(q57082, .inr (7, [.ref q57083, .ref q57084, .ref q57085, .ref q57086, .ref q57087, .ref q57088, .ref q57089, .ref q57090, .ref q57091, .ref q57092, .int p57128, .int p57129, .int p57130, .int p57131, .int z60289, .int p57133])), (q57083, .inr (11, [.ref q57093, .ref q57094, .ref q57095])), (q57084, .inr (8, [.ref q57096, .ref q57097, .ref q57098, .ref q57099, .int o60255, .int o60256])), (q57085, .inr (6, [.ref q57084, .ref q57100, .ref q57101, .ref q57102, .ref q57103, .ref q57104, .int p57136, .int p57137])), (q57086, .inl (I .int, 100, .inl f57138)), (q57087, .inl (I .int, 100, .inl f57139)), (q57088, .inl (I .int, 40, .inl f57140)), (q57089, .inl (I .int, 100, .inl f57141)), (q57090, .inl (I .int, 100, .inl f57142)), (q57092, .inr (5, [.ref q57114, .ref q57115, .ref q57116, .ref q57117, .ref q57118, .ref q57119, .ref q57120, .ref q57121, .ref q57122, .int p57146, .int p57147, .int p57148])), (q57093, .inl (I .long, 40, .inr (.inl f57149))), (q57094, .inl (I .long, 40, .inr (.inl f57150))), (q57095, .inl (I .int, 40, .inl f57151)), (q57096, .inr (10, [.ref q57123, .ref q57124, .ref q57125, .ref q57126, .int o60257, .int o60258, .int o60259])), (q57097, .inl (I .long, 8640, .inr (.inl f60260))), (q57098, .inl (I .long, 12, .inr (.inl f60261))), (q57099, .inl (I .int, 720, .inl f60262)), (q57100, .inl (I .int, 720, .inl f57158)), (q57101, .inl (I .int, 720, .inl f57159)), (q57102, .inl (I .int, 720, .inl f57160)), (q57103, .inl (I .int, 720, .inl f57161)), (q57104, .inl (I .int, 720, .inl f57162)), (q57114, .inl (I .int, 40, .inl f57172)), (q57115, .inl (I .int, 40, .inl f57173)), (q57116, .inl (I .int, 40, .inl f57174)), (q57117, .inl (I .int, 920, .inl f57175)), (q57118, .inl (I .int, 920, .inl f57176)), (q57119, .inl (I .int, 920, .inl f57177)), (q57120, .inl (I .int, 920, .inl f57178)), (q57121, .inl (I .int, 920, .inl f57179)), (q57122, .inl (I .int, 920, .inl f57180)), (q57123, .inl (I .long, 480, .inr (.inl f60263))), (q57124, .inl (I .long, 480, .inr (.inl f60264))), (q57125, .inl (I .long, 480, .inr (.inl f60265))), (q57126, .inl (I .long, 12, .inr (.inl f60266))), (q57091, .inr (5, [.ref q57105, .ref q57106, .ref q57107, .ref q57108, .ref q57109, .ref q57110, .ref q57111, .ref q57112, .ref q57113, .int p57143, .int o60278, .int p57145])), (q57105, .inl (I .int, 40, .inl f60279)), (q57106, .inl (I .int, 40, .inl f57164)), (q57107, .inl (I .int, 40, .inl f57165)), (q57108, .inl (I .int, 920, .inl f60280)), (q57109, .inl (I .int, 920, .inl f60286)), (q57110, .inl (I .int, 920, .inl f60287)), (q57111, .inl (I .int, 920, .inl f60283)), (q57112, .inl (I .int, 920, .inl f60288)), (q57113, .inl (I .int, 920, .inl f60285))]) 0 14 d_cX2_mergeCopies_122 rfl (gk_X2 D I) (Nat.le_of_ble_eq_true rfl) w_2_119 rfl rfl rfl (Nat.le_of_ble_eq_true rfl) rfl ?_
          obtain ⟨z60290, hz60290⟩ : ∃ z : Int32, z = g60227 + Int32.ofInt 1 := ⟨_, rfl⟩
          have ez60290 : z60290.toInt = g60227.toInt + 1 := gI_inc hz60290 (by decide) bg60227' (by decide) (by decide)
          have bz60290 : gB z60290 1 921 := ⟨by omega, by omega⟩
          refine G_iinc (L' := [(3, .int z60290), (6, .int z60277), (5, .int z60276), (4, .int o60271), (2, .int p57144), (0, .ref q57082), (1, .int p57127)]) z60290 3 d_cX2_mergeCopies_125 rfl hz60290.symm (Nat.le_of_ble_eq_true rfl) rfl ?_
          refine G_goto 10 d_cX2_mergeCopies_128 (by decide +kernel) ?_
          refine G_lv (L' := [(3, .int z60290), (2, .int p57144), (0, .ref q57082), (1, .int p57127)]) [0, 4, 5, 6] rfl ?_
          refine G_sub (ws' := [(q57082, .inr (7, [.ref q57083, .ref q57084, .ref q57085, .ref q57086, .ref q57087, .ref q57088, .ref q57089, .ref q57090, .ref q57091, .ref q57092, .int p57128, .int p57129, .int p57130, .int p57131, .int z60289, .int p57133])), (q57083, .inr (11, [.ref q57093, .ref q57094, .ref q57095])), (q57084, .inr (8, [.ref q57096, .ref q57097, .ref q57098, .ref q57099, .int o60255, .int o60256])), (q57085, .inr (6, [.ref q57084, .ref q57100, .ref q57101, .ref q57102, .ref q57103, .ref q57104, .int p57136, .int p57137])), (q57086, .inl (I .int, 100, .inl f57138)), (q57087, .inl (I .int, 100, .inl f57139)), (q57088, .inl (I .int, 40, .inl f57140)), (q57089, .inl (I .int, 100, .inl f57141)), (q57090, .inl (I .int, 100, .inl f57142)), (q57091, .inr (5, [.ref q57105, .ref q57106, .ref q57107, .ref q57108, .ref q57109, .ref q57110, .ref q57111, .ref q57112, .ref q57113, .int p57143, .int o60278, .int p57145])), (q57092, .inr (5, [.ref q57114, .ref q57115, .ref q57116, .ref q57117, .ref q57118, .ref q57119, .ref q57120, .ref q57121, .ref q57122, .int p57146, .int p57147, .int p57148])), (q57093, .inl (I .long, 40, .inr (.inl f57149))), (q57094, .inl (I .long, 40, .inr (.inl f57150))), (q57095, .inl (I .int, 40, .inl f57151)), (q57096, .inr (10, [.ref q57123, .ref q57124, .ref q57125, .ref q57126, .int o60257, .int o60258, .int o60259])), (q57097, .inl (I .long, 8640, .inr (.inl f60260))), (q57098, .inl (I .long, 12, .inr (.inl f60261))), (q57099, .inl (I .int, 720, .inl f60262)), (q57100, .inl (I .int, 720, .inl f57158)), (q57101, .inl (I .int, 720, .inl f57159)), (q57102, .inl (I .int, 720, .inl f57160)), (q57103, .inl (I .int, 720, .inl f57161)), (q57104, .inl (I .int, 720, .inl f57162)), (q57105, .inl (I .int, 40, .inl f60279)), (q57106, .inl (I .int, 40, .inl f57164)), (q57107, .inl (I .int, 40, .inl f57165)), (q57108, .inl (I .int, 920, .inl f60280)), (q57109, .inl (I .int, 920, .inl f60286)), (q57110, .inl (I .int, 920, .inl f60287)), (q57111, .inl (I .int, 920, .inl f60283)), (q57112, .inl (I .int, 920, .inl f60288)), (q57113, .inl (I .int, 920, .inl f60285)), (q57114, .inl (I .int, 40, .inl f57172)), (q57115, .inl (I .int, 40, .inl f57173)), (q57116, .inl (I .int, 40, .inl f57174)), (q57117, .inl (I .int, 920, .inl f57175)), (q57118, .inl (I .int, 920, .inl f57176)), (q57119, .inl (I .int, 920, .inl f57177)), (q57120, .inl (I .int, 920, .inl f57178)), (q57121, .inl (I .int, 920, .inl f57179)), (q57122, .inl (I .int, 920, .inl f57180)), (q57123, .inl (I .long, 480, .inr (.inl f60263))), (q57124, .inl (I .long, 480, .inr (.inl f60264))), (q57125, .inl (I .long, 480, .inr (.inl f60265))), (q57126, .inl (I .long, 12, .inr (.inl f60266)))]) [0, 1, 2, 3, 4, 5, 6, 7, 8, 35, 9, 10, 11, 12, 13, 14, 15, 16, 17, 18, 19, 20, 21, 36, 37, 38, 39, 40, 41, 42, 43, 44, 22, 23, 24, 25, 26, 27, 28, 29, 30, 31, 32, 33, 34] rfl rfl ?_
          exact ih10_60251 z60290 z60289 o60255 o60256 o60278 o60257 o60258 o60259 f60260 f60261 f60262 f60279 f60280 f60286 f60287 f60283 f60288 f60285 f60263 f60264 f60265 f60266 (gB_w bz60290 (by decide) (by decide)) bz60289 bo60255 bo60256 bo60278 bo60257 bo60258 bo60259 bf60262 bf60279 bf60280 bf60286 bf60287 bf60283 bf60288 bf60285 (by omega) x60269 (by omega) (by omega)
        · have r60291 : o60271.toInt = (-1) := gj_eq hc60272 (show Int32.toInt (-1) = (-1) by decide)
          have bo60271' : gB o60271 (-1) (-1) := ⟨by omega, by omega⟩
          exact G_vret d_cX2_mergeCopies_44 rfl (Nat.le_of_ble_eq_true rfl) (Nat.le_of_ble_eq_true rfl) ⟨g60228, o60255, o60256, g60231, o60257, o60258, o60259, f60260, f60261, f60262, f60238, f60239, f60240, f60241, f60242, f60243, f60244, f60263, f60264, f60265, f60266, rfl, rfl, bg60228, bo60255, bo60256, bg60231, bo60257, bo60258, bo60259, bf60262, bf60238, bf60239, bf60240, bf60241, bf60242, bf60243, bf60244, (by omega), x60269, (by omega)⟩
  exact hlp10_60251 (((922 : Int) - 0).toNat + 1) 0 p57132 p57134 p57135 p57144 p57152 p57153 p57154 f57155 f57156 f57157 f57163 f57166 f57167 f57168 f57169 f57170 f57171 f57181 f57182 f57183 f57184 (gB_w (gBl (show Int32.toInt 0 = 0 by decide)) (by decide) (by decide)) bp57132 bp57134 bp57135 bp57144 bp57152 bp57153 bp57154 (gF_any f57157) bf57163 bf57166 (gF_any f57167) (gF_any f57168) (gF_any f57169) (gF_any f57170) (gF_any f57171) (by have qa0 : Int32.toInt 0 = 0 := (by decide); omega) x57186 (by have qa0 : Int32.toInt 0 = 0 := (by decide); omega) (Nat.lt_succ_self _)
abbrev ky_60524_Colouring_isCheaper : gKey := (cX1_isCheaper, 3, yX1_isCheaper.cls, (some FieldType.boolean), [], yX1_isCheaper.name, fun _ _ => True)
abbrev po_60524_Colouring_isCheaper (I : FieldType → ClassId) (q60485 : Nat) (q60486 : Nat) (q60487 : Nat) (q60488 : Nat) (q60489 : Nat) (q60490 : Nat) (q60491 : Nat) (q60492 : Nat) (q60493 : Nat) (q60494 : Nat) (q60495 : Nat) (q60496 : Nat) (q60497 : Nat) (q60498 : Nat) (q60499 : Nat) (p60500 : Int32) (p60501 : Int32) (p60502 : Int32) (p60503 : Int32) (p60504 : Int32) (p60505 : Int32) (f60506 : Nat → Int32) (f60507 : Nat → Int32) (f60508 : Nat → Int32) (f60509 : Nat → Int32) (f60510 : Nat → Int32) (p60511 : Int32) (p60512 : Int32) (p60513 : Int32) (f60514 : Nat → Int64) (f60515 : Nat → Int64) (f60516 : Nat → Int32) (f60517 : Nat → Int64) (f60518 : Nat → Int64) (f60519 : Nat → Int64) (f60520 : Nat → Int64) : Option Value → va_W → Prop := fun r w => (∃ (z60535 : Int32), r = some (.int 0) ∧ w = [(q60485, .inr (6, [.ref q60486, .ref q60487, .ref q60488, .ref q60489, .ref q60490, .ref q60491, .int p60502, .int p60503])), (q60486, .inr (8, [.ref q60492, .ref q60493, .ref q60494, .ref q60495, .int p60504, .int p60505])), (q60487, .inl (I .int, 720, .inl f60506)), (q60488, .inl (I .int, 720, .inl f60507)), (q60489, .inl (I .int, 720, .inl f60508)), (q60490, .inl (I .int, 720, .inl f60509)), (q60491, .inl (I .int, 720, .inl f60510)), (q60492, .inr (10, [.ref q60496, .ref q60497, .ref q60498, .ref q60499, .int p60511, .int p60512, .int p60513])), (q60493, .inl (I .long, 8640, .inr (.inl f60514))), (q60494, .inl (I .long, 12, .inr (.inl f60515))), (q60495, .inl (I .int, 720, .inl f60516)), (q60496, .inl (I .long, 480, .inr (.inl f60517))), (q60497, .inl (I .long, 480, .inr (.inl f60518))), (q60498, .inl (I .long, 480, .inr (.inl f60519))), (q60499, .inl (I .long, 12, .inr (.inl f60520)))] ∧ 0 ≤ z60535.toInt ∧ gB z60535 0 1) ∨ (∃ (z60535 : Int32), r = some (.int 1) ∧ w = [(q60485, .inr (6, [.ref q60486, .ref q60487, .ref q60488, .ref q60489, .ref q60490, .ref q60491, .int p60502, .int p60503])), (q60486, .inr (8, [.ref q60492, .ref q60493, .ref q60494, .ref q60495, .int p60504, .int p60505])), (q60487, .inl (I .int, 720, .inl f60506)), (q60488, .inl (I .int, 720, .inl f60507)), (q60489, .inl (I .int, 720, .inl f60508)), (q60490, .inl (I .int, 720, .inl f60509)), (q60491, .inl (I .int, 720, .inl f60510)), (q60492, .inr (10, [.ref q60496, .ref q60497, .ref q60498, .ref q60499, .int p60511, .int p60512, .int p60513])), (q60493, .inl (I .long, 8640, .inr (.inl f60514))), (q60494, .inl (I .long, 12, .inr (.inl f60515))), (q60495, .inl (I .int, 720, .inl f60516)), (q60496, .inl (I .long, 480, .inr (.inl f60517))), (q60497, .inl (I .long, 480, .inr (.inl f60518))), (q60498, .inl (I .long, 480, .inr (.inl f60519))), (q60499, .inl (I .long, 12, .inr (.inl f60520)))] ∧ z60535.toInt < 0 ∧ gB z60535 (-1) (-1))
set_option maxRecDepth 100000 in
set_option maxHeartbeats 4000000 in
theorem ct_60524_Colouring_isCheaper (l : Launch) (hl0 : l.stackTraces = false) (D : va_G) (I : FieldType → ClassId) (q60485 : Nat) (q60486 : Nat) (q60487 : Nat) (q60488 : Nat) (q60489 : Nat) (q60490 : Nat) (q60491 : Nat) (q60492 : Nat) (q60493 : Nat) (q60494 : Nat) (q60495 : Nat) (q60496 : Nat) (q60497 : Nat) (q60498 : Nat) (q60499 : Nat) (p60500 : Int32) (p60501 : Int32) (p60502 : Int32) (p60503 : Int32) (p60504 : Int32) (p60505 : Int32) (f60506 : Nat → Int32) (f60507 : Nat → Int32) (f60508 : Nat → Int32) (f60509 : Nat → Int32) (f60510 : Nat → Int32) (p60511 : Int32) (p60512 : Int32) (p60513 : Int32) (f60514 : Nat → Int64) (f60515 : Nat → Int64) (f60516 : Nat → Int32) (f60517 : Nat → Int64) (f60518 : Nat → Int64) (f60519 : Nat → Int64) (f60520 : Nat → Int64) (bp60500 : gB p60500 0 719) (bp60501 : gB p60501 0 719) (bp60502 : gB p60502 0 720) (bp60503 : gB p60503 0 720) (bp60504 : gB p60504 0 720) (bp60505 : gB p60505 0 12) (bf60508 : gF f60508 0 719) (bf60509 : gF f60509 0 719) (bp60511 : gB p60511 0 720) (bp60512 : gB p60512 0 12) (bp60513 : gB p60513 0 1) (x60521 : p60505.toInt = (p60504.toInt + 63) / 64) (x60522 : lb_W f60514 (p60504.toInt * p60505.toInt) (p60505.toInt) (p60504.toInt)) (x60523 : p60512.toInt = (p60511.toInt + 63) / 64) : Ct (gV D I) l yX1_isCheaper cX1_isCheaper 3 (some FieldType.boolean) 0 0 0 0 [.ref q60485, .int p60500, .int p60501] [(q60485, .inr (6, [.ref q60486, .ref q60487, .ref q60488, .ref q60489, .ref q60490, .ref q60491, .int p60502, .int p60503])), (q60486, .inr (8, [.ref q60492, .ref q60493, .ref q60494, .ref q60495, .int p60504, .int p60505])), (q60487, .inl (I .int, 720, .inl f60506)), (q60488, .inl (I .int, 720, .inl f60507)), (q60489, .inl (I .int, 720, .inl f60508)), (q60490, .inl (I .int, 720, .inl f60509)), (q60491, .inl (I .int, 720, .inl f60510)), (q60492, .inr (10, [.ref q60496, .ref q60497, .ref q60498, .ref q60499, .int p60511, .int p60512, .int p60513])), (q60493, .inl (I .long, 8640, .inr (.inl f60514))), (q60494, .inl (I .long, 12, .inr (.inl f60515))), (q60495, .inl (I .int, 720, .inl f60516)), (q60496, .inl (I .long, 480, .inr (.inl f60517))), (q60497, .inl (I .long, 480, .inr (.inl f60518))), (q60498, .inl (I .long, 480, .inr (.inl f60519))), (q60499, .inl (I .long, 12, .inr (.inl f60520)))] (po_60524_Colouring_isCheaper I q60485 q60486 q60487 q60488 q60489 q60490 q60491 q60492 q60493 q60494 q60495 q60496 q60497 q60498 q60499 p60500 p60501 p60502 p60503 p60504 p60505 f60506 f60507 f60508 f60509 f60510 p60511 p60512 p60513 f60514 f60515 f60516 f60517 f60518 f60519 f60520) gN := by
  refine Ct_of hl0 (by decide) (Nat.le_of_ble_eq_true rfl) ?_
  refine G_aload_n 0 d_cX1_isCheaper_0 rfl ?_
  refine G_getf 0 1 d_cX1_isCheaper_1 rfl (gk_X1 D I) (Nat.le_of_ble_eq_true rfl) w_2_79 rfl ?_
  refine G_iload_n 1 d_cX1_isCheaper_4 rfl ?_
  refine G_iald 2 0 d_cX1_isCheaper_5 rfl rfl (gB_in bp60500 (by decide) (by decide)) (G_nam fun z60525 hz60525 => ?_)
  have bz60525 : gB z60525 (-2147483648) 2147483647 := gB_any z60525
  refine G_i2l d_cX1_isCheaper_6 (G_namL fun u60526 hu60526 => ?_)
  refine G_aload_n 0 d_cX1_isCheaper_7 rfl ?_
  refine G_getf 0 2 d_cX1_isCheaper_8 rfl (gk_X1 D I) (Nat.le_of_ble_eq_true rfl) w_2_80 rfl ?_
  refine G_iload_n 2 d_cX1_isCheaper_11 rfl ?_
  refine G_iald 3 0 d_cX1_isCheaper_12 rfl rfl (gB_in bp60501 (by decide) (by decide)) (G_nam fun z60527 hz60527 => ?_)
  have bz60527 : gB z60527 (-2147483648) 2147483647 := gB_any z60527
  refine G_i2l d_cX1_isCheaper_13 (G_namL fun u60528 hu60528 => ?_)
  refine G_lmul d_cX1_isCheaper_14 (G_namL fun u60529 hu60529 => ?_)
  refine G_aload_n 0 d_cX1_isCheaper_15 rfl ?_
  refine G_getf 0 1 d_cX1_isCheaper_16 rfl (gk_X1 D I) (Nat.le_of_ble_eq_true rfl) w_2_79 rfl ?_
  refine G_iload_n 2 d_cX1_isCheaper_19 rfl ?_
  refine G_iald 2 0 d_cX1_isCheaper_20 rfl rfl (gB_in bp60501 (by decide) (by decide)) (G_nam fun z60530 hz60530 => ?_)
  have bz60530 : gB z60530 (-2147483648) 2147483647 := gB_any z60530
  refine G_i2l d_cX1_isCheaper_21 (G_namL fun u60531 hu60531 => ?_)
  refine G_aload_n 0 d_cX1_isCheaper_22 rfl ?_
  refine G_getf 0 2 d_cX1_isCheaper_23 rfl (gk_X1 D I) (Nat.le_of_ble_eq_true rfl) w_2_80 rfl ?_
  refine G_iload_n 1 d_cX1_isCheaper_26 rfl ?_
  refine G_iald 3 0 d_cX1_isCheaper_27 rfl rfl (gB_in bp60500 (by decide) (by decide)) (G_nam fun z60532 hz60532 => ?_)
  have bz60532 : gB z60532 (-2147483648) 2147483647 := gB_any z60532
  refine G_i2l d_cX1_isCheaper_28 (G_namL fun u60533 hu60533 => ?_)
  refine G_lmul d_cX1_isCheaper_29 (G_namL fun u60534 hu60534 => ?_)
  refine G_lcmp d_cX1_isCheaper_30 (G_nam fun z60535 hz60535 => ?_)
  have bz60535 : gB z60535 (-1) 1 := gB_cmp hz60535
  refine G_if_ge 38 d_cX1_isCheaper_31 (by decide +kernel) (fun hc60536 => ?_) (fun hc60536 => ?_)
  · have r60537 : 0 ≤ z60535.toInt := gj_leL hc60536 (show Int32.toInt 0 = 0 by decide)
    have bz60535' : gB z60535 0 1 := ⟨by omega, by omega⟩
    refine G_iconst 0 d_cX1_isCheaper_38 (by decide +kernel) ?_
    exact G_zret FieldType.boolean d_cX1_isCheaper_39 rfl rfl (Nat.le_of_ble_eq_true rfl) (Nat.le_of_ble_eq_true rfl) (Or.inl ⟨z60535, rfl, rfl, r60537, bz60535'⟩)
  · have r60538 : z60535.toInt < 0 := gj_nleL hc60536 (show Int32.toInt 0 = 0 by decide)
    have bz60535' : gB z60535 (-1) (-1) := ⟨by omega, by omega⟩
    have lhc60536 := gC_cmpS hz60535 (by omega)
    refine G_iconst 1 d_cX1_isCheaper_34 (by decide +kernel) ?_
    refine G_goto 39 d_cX1_isCheaper_35 (by decide +kernel) ?_
    exact G_zret FieldType.boolean d_cX1_isCheaper_39 rfl rfl (Nat.le_of_ble_eq_true rfl) (Nat.le_of_ble_eq_true rfl) (Or.inr (⟨z60535, rfl, rfl, r60538, bz60535'⟩))
abbrev ky_60454_Colouring_nextOfRest : gKey := (cX1_nextOfRest, 4, yX1_nextOfRest.cls, (some FieldType.int), [], yX1_nextOfRest.name, fun _ _ => True)
abbrev po_60454_Colouring_nextOfRest (I : FieldType → ClassId) (q60415 : Nat) (q60416 : Nat) (q60417 : Nat) (q60418 : Nat) (q60419 : Nat) (q60420 : Nat) (q60421 : Nat) (q60422 : Nat) (q60423 : Nat) (q60424 : Nat) (q60425 : Nat) (q60426 : Nat) (q60427 : Nat) (q60428 : Nat) (q60429 : Nat) (p60430 : Int32) (p60431 : Int32) (p60432 : Int32) (p60433 : Int32) (p60434 : Int32) (f60435 : Nat → Int32) (f60436 : Nat → Int32) (f60437 : Nat → Int32) (f60438 : Nat → Int32) (f60439 : Nat → Int32) (p60440 : Int32) (p60441 : Int32) (p60442 : Int32) (f60443 : Nat → Int64) (f60444 : Nat → Int64) (f60445 : Nat → Int32) (f60446 : Nat → Int64) (f60447 : Nat → Int64) (f60448 : Nat → Int64) (f60449 : Nat → Int64) : Option Value → va_W → Prop := fun r w => ∃ (o61394 : Int32), r = some (.int o61394) ∧ w = [(q60415, .inr (6, [.ref q60416, .ref q60417, .ref q60418, .ref q60419, .ref q60420, .ref q60421, .int p60431, .int p60432])), (q60416, .inr (8, [.ref q60422, .ref q60423, .ref q60424, .ref q60425, .int p60433, .int p60434])), (q60417, .inl (I .int, 720, .inl f60435)), (q60418, .inl (I .int, 720, .inl f60436)), (q60419, .inl (I .int, 720, .inl f60437)), (q60420, .inl (I .int, 720, .inl f60438)), (q60421, .inl (I .int, 720, .inl f60439)), (q60422, .inr (10, [.ref q60426, .ref q60427, .ref q60428, .ref q60429, .int p60440, .int p60441, .int p60442])), (q60423, .inl (I .long, 8640, .inr (.inl f60443))), (q60424, .inl (I .long, 12, .inr (.inl f60444))), (q60425, .inl (I .int, 720, .inl f60445)), (q60426, .inl (I .long, 480, .inr (.inl f60446))), (q60427, .inl (I .long, 480, .inr (.inl f60447))), (q60428, .inl (I .long, 480, .inr (.inl f60448))), (q60429, .inl (I .long, 12, .inr (.inl f60449)))] ∧ gB o61394 0 2147483647 ∧ o61394.toInt < p60431.toInt
set_option maxRecDepth 100000 in
set_option maxHeartbeats 4000000 in
theorem ct_60454_Colouring_nextOfRest (l : Launch) (hl0 : l.stackTraces = false) (D : va_G) (I : FieldType → ClassId) (q60415 : Nat) (q60416 : Nat) (q60417 : Nat) (q60418 : Nat) (q60419 : Nat) (q60420 : Nat) (q60421 : Nat) (q60422 : Nat) (q60423 : Nat) (q60424 : Nat) (q60425 : Nat) (q60426 : Nat) (q60427 : Nat) (q60428 : Nat) (q60429 : Nat) (p60430 : Int32) (p60431 : Int32) (p60432 : Int32) (p60433 : Int32) (p60434 : Int32) (f60435 : Nat → Int32) (f60436 : Nat → Int32) (f60437 : Nat → Int32) (f60438 : Nat → Int32) (f60439 : Nat → Int32) (p60440 : Int32) (p60441 : Int32) (p60442 : Int32) (f60443 : Nat → Int64) (f60444 : Nat → Int64) (f60445 : Nat → Int32) (f60446 : Nat → Int64) (f60447 : Nat → Int64) (f60448 : Nat → Int64) (f60449 : Nat → Int64) (bp60431 : gB p60431 0 720) (bp60432 : gB p60432 0 720) (bp60433 : gB p60433 0 720) (bp60434 : gB p60434 0 12) (bf60437 : gF f60437 0 719) (bf60438 : gF f60438 0 719) (bp60440 : gB p60440 0 720) (bp60441 : gB p60441 0 12) (bp60442 : gB p60442 0 1) (x60450 : 1 ≤ p60431.toInt) (x60451 : p60434.toInt = (p60433.toInt + 63) / 64) (x60452 : lb_W f60443 (p60433.toInt * p60434.toInt) (p60434.toInt) (p60433.toInt)) (x60453 : p60441.toInt = (p60440.toInt + 63) / 64) : Ct (gV D I) l yX1_nextOfRest cX1_nextOfRest 4 (some FieldType.int) 1 22 0 0 [.ref q60415, .int p60430] [(q60415, .inr (6, [.ref q60416, .ref q60417, .ref q60418, .ref q60419, .ref q60420, .ref q60421, .int p60431, .int p60432])), (q60416, .inr (8, [.ref q60422, .ref q60423, .ref q60424, .ref q60425, .int p60433, .int p60434])), (q60417, .inl (I .int, 720, .inl f60435)), (q60418, .inl (I .int, 720, .inl f60436)), (q60419, .inl (I .int, 720, .inl f60437)), (q60420, .inl (I .int, 720, .inl f60438)), (q60421, .inl (I .int, 720, .inl f60439)), (q60422, .inr (10, [.ref q60426, .ref q60427, .ref q60428, .ref q60429, .int p60440, .int p60441, .int p60442])), (q60423, .inl (I .long, 8640, .inr (.inl f60443))), (q60424, .inl (I .long, 12, .inr (.inl f60444))), (q60425, .inl (I .int, 720, .inl f60445)), (q60426, .inl (I .long, 480, .inr (.inl f60446))), (q60427, .inl (I .long, 480, .inr (.inl f60447))), (q60428, .inl (I .long, 480, .inr (.inl f60448))), (q60429, .inl (I .long, 12, .inr (.inl f60449)))] (po_60454_Colouring_nextOfRest I q60415 q60416 q60417 q60418 q60419 q60420 q60421 q60422 q60423 q60424 q60425 q60426 q60427 q60428 q60429 p60430 p60431 p60432 p60433 p60434 f60435 f60436 f60437 f60438 f60439 p60440 p60441 p60442 f60443 f60444 f60445 f60446 f60447 f60448 f60449) gN := by
  refine Ct_of hl0 (by decide) (Nat.le_of_ble_eq_true rfl) ?_
  have bp60430 := gB_any p60430
  refine G_iconst 0 d_cX1_nextOfRest_0 (by decide +kernel) ?_
  refine G_istore_n (L' := [(2, .int 0), (0, .ref q60415), (1, .int p60430)]) d_cX1_nextOfRest_1 (Nat.le_of_ble_eq_true rfl) rfl ?_
  have hlp2_61179 : ∀ (n2_61179 : Nat) (g61179 : Int32), gB g61179 0 720 → ((721 : Int) - g61179.toInt).toNat < n2_61179 → G (gV D I) l (gRm 1 22 0 0) (gM (gV D I) (po_60454_Colouring_nextOfRest I q60415 q60416 q60417 q60418 q60419 q60420 q60421 q60422 q60423 q60424 q60425 q60426 q60427 q60428 q60429 p60430 p60431 p60432 p60433 p60434 f60435 f60436 f60437 f60438 f60439 p60440 p60441 p60442 f60443 f60444 f60445 f60446 f60447 f60448 f60449) gN 0 0) ky_60454_Colouring_nextOfRest 2 [(2, .int g61179), (0, .ref q60415), (1, .int p60430)] [] [(q60415, .inr (6, [.ref q60416, .ref q60417, .ref q60418, .ref q60419, .ref q60420, .ref q60421, .int p60431, .int p60432])), (q60416, .inr (8, [.ref q60422, .ref q60423, .ref q60424, .ref q60425, .int p60433, .int p60434])), (q60417, .inl (I .int, 720, .inl f60435)), (q60418, .inl (I .int, 720, .inl f60436)), (q60419, .inl (I .int, 720, .inl f60437)), (q60420, .inl (I .int, 720, .inl f60438)), (q60421, .inl (I .int, 720, .inl f60439)), (q60422, .inr (10, [.ref q60426, .ref q60427, .ref q60428, .ref q60429, .int p60440, .int p60441, .int p60442])), (q60423, .inl (I .long, 8640, .inr (.inl f60443))), (q60424, .inl (I .long, 12, .inr (.inl f60444))), (q60425, .inl (I .int, 720, .inl f60445)), (q60426, .inl (I .long, 480, .inr (.inl f60446))), (q60427, .inl (I .long, 480, .inr (.inl f60447))), (q60428, .inl (I .long, 480, .inr (.inl f60448))), (q60429, .inl (I .long, 12, .inr (.inl f60449)))] 0 0 := by
    intro n2_61179
    induction n2_61179 with
    | zero => intro g61179 bg61179 hm2_61179; exact absurd hm2_61179 (Nat.not_lt_zero _)
    | succ n2_61179 ih2_61179 =>
      intro g61179 bg61179 hm2_61179
      refine G_iload_n 0 d_cX1_nextOfRest_2 rfl ?_
      refine G_aload_n 1 d_cX1_nextOfRest_3 rfl ?_
      refine G_getf 0 6 d_cX1_nextOfRest_4 rfl (gk_X1 D I) (Nat.le_of_ble_eq_true rfl) w_2_84 rfl ?_
      refine G_icmp_ge 33 d_cX1_nextOfRest_7 (by decide +kernel) (fun hc61180 => ?_) (fun hc61180 => ?_)
      · have r61181 : p60431.toInt ≤ g61179.toInt := gC_le hc61180
        refine G_iconst 0 d_cX1_nextOfRest_33 (by decide +kernel) ?_
        refine G_istore_n (L' := [(2, .int 0), (0, .ref q60415), (1, .int p60430)]) d_cX1_nextOfRest_34 (Nat.le_of_ble_eq_true rfl) rfl ?_
        refine G_iconst 1 d_cX1_nextOfRest_35 (by decide +kernel) ?_
        refine G_istore_n (L' := [(3, .int 1), (2, .int 0), (0, .ref q60415), (1, .int p60430)]) d_cX1_nextOfRest_36 (Nat.le_of_ble_eq_true rfl) rfl ?_
        have hlp37_61358 : ∀ (n37_61358 : Nat) (g61356 : Int32) (g61357 : Int32), gB g61356 1 720 → gB g61357 0 2147483647 → g61357.toInt < p60431.toInt → ((721 : Int) - g61356.toInt).toNat < n37_61358 → G (gV D I) l (gRm 1 22 0 0) (gM (gV D I) (po_60454_Colouring_nextOfRest I q60415 q60416 q60417 q60418 q60419 q60420 q60421 q60422 q60423 q60424 q60425 q60426 q60427 q60428 q60429 p60430 p60431 p60432 p60433 p60434 f60435 f60436 f60437 f60438 f60439 p60440 p60441 p60442 f60443 f60444 f60445 f60446 f60447 f60448 f60449) gN 0 0) ky_60454_Colouring_nextOfRest 37 [(3, .int g61356), (2, .int g61357), (0, .ref q60415), (1, .int p60430)] [] [(q60415, .inr (6, [.ref q60416, .ref q60417, .ref q60418, .ref q60419, .ref q60420, .ref q60421, .int p60431, .int p60432])), (q60416, .inr (8, [.ref q60422, .ref q60423, .ref q60424, .ref q60425, .int p60433, .int p60434])), (q60417, .inl (I .int, 720, .inl f60435)), (q60418, .inl (I .int, 720, .inl f60436)), (q60419, .inl (I .int, 720, .inl f60437)), (q60420, .inl (I .int, 720, .inl f60438)), (q60421, .inl (I .int, 720, .inl f60439)), (q60422, .inr (10, [.ref q60426, .ref q60427, .ref q60428, .ref q60429, .int p60440, .int p60441, .int p60442])), (q60423, .inl (I .long, 8640, .inr (.inl f60443))), (q60424, .inl (I .long, 12, .inr (.inl f60444))), (q60425, .inl (I .int, 720, .inl f60445)), (q60426, .inl (I .long, 480, .inr (.inl f60446))), (q60427, .inl (I .long, 480, .inr (.inl f60447))), (q60428, .inl (I .long, 480, .inr (.inl f60448))), (q60429, .inl (I .long, 12, .inr (.inl f60449)))] 0 0 := by
          intro n37_61358
          induction n37_61358 with
          | zero => intro g61356 g61357 bg61356 bg61357 x61358 hm37_61358; exact absurd hm37_61358 (Nat.not_lt_zero _)
          | succ n37_61358 ih37_61358 =>
            intro g61356 g61357 bg61356 bg61357 x61358 hm37_61358
            refine G_iload_n 0 d_cX1_nextOfRest_37 rfl ?_
            refine G_aload_n 2 d_cX1_nextOfRest_38 rfl ?_
            refine G_getf 0 6 d_cX1_nextOfRest_39 rfl (gk_X1 D I) (Nat.le_of_ble_eq_true rfl) w_2_84 rfl ?_
            refine G_icmp_ge 94 d_cX1_nextOfRest_42 (by decide +kernel) (fun hc61359 => ?_) (fun hc61359 => ?_)
            · have r61360 : p60431.toInt ≤ g61356.toInt := gC_le hc61359
              refine G_iload_n 1 d_cX1_nextOfRest_94 rfl ?_
              exact G_iret d_cX1_nextOfRest_95 rfl (Nat.le_of_ble_eq_true rfl) (Nat.le_of_ble_eq_true rfl) ⟨g61357, rfl, rfl, bg61357, (by omega)⟩
            · have r61361 : g61356.toInt < p60431.toInt := gC_nle hc61359
              have bg61356' : gB g61356 1 719 := ⟨by omega, by omega⟩
              have bp60431' : gB p60431 2 720 := ⟨by omega, by omega⟩
              refine G_aload_n 2 d_cX1_nextOfRest_45 rfl ?_
              refine G_getf 0 3 d_cX1_nextOfRest_46 rfl (gk_X1 D I) (Nat.le_of_ble_eq_true rfl) w_2_81 rfl ?_
              refine G_iload_n 0 d_cX1_nextOfRest_49 rfl ?_
              refine G_iald 4 0 d_cX1_nextOfRest_50 rfl rfl (gB_in bg61356' (by decide) (by decide)) (G_nam fun z61362 hz61362 => ?_)
              have bz61362 : gB z61362 0 719 := by rw [hz61362]; exact bf60437 _
              refine G_bipush 100 d_cX1_nextOfRest_51 (by decide +kernel) ?_
              refine G_icmp_lt 67 d_cX1_nextOfRest_53 (by decide +kernel) (fun hc61363 => ?_) (fun hc61363 => ?_)
              · have r61364 : z61362.toInt < 100 := gj_lt hc61363 (show Int32.toInt 100 = 100 by decide)
                have bz61362' : gB z61362 0 99 := ⟨by omega, by omega⟩
                refine G_aload_n 2 d_cX1_nextOfRest_67 rfl ?_
                refine G_aload_n 2 d_cX1_nextOfRest_68 rfl ?_
                refine G_getf 0 3 d_cX1_nextOfRest_69 rfl (gk_X1 D I) (Nat.le_of_ble_eq_true rfl) w_2_81 rfl ?_
                refine G_iload_n 0 d_cX1_nextOfRest_72 rfl ?_
                refine G_iald 4 0 d_cX1_nextOfRest_73 rfl rfl (gB_in bg61356' (by decide) (by decide)) (G_eqi (y := z61362) hz61362.symm ?_)
                refine G_aload_n 2 d_cX1_nextOfRest_74 rfl ?_
                refine G_getf 0 3 d_cX1_nextOfRest_75 rfl (gk_X1 D I) (Nat.le_of_ble_eq_true rfl) w_2_81 rfl ?_
                refine G_iload_n 1 d_cX1_nextOfRest_78 rfl ?_
                refine G_iald 4 0 d_cX1_nextOfRest_79 rfl rfl (gB_inr (by omega) (by omega)) (G_nam fun z61365 hz61365 => ?_)
                have bz61365 : gB z61365 0 719 := by rw [hz61365]; exact bf60437 _
                refine G_callV (As := [.int z61362, .int z61365]) (wr := []) (gV_ok D I) (ct_60524_Colouring_isCheaper l hl0 D I q60415 q60416 q60417 q60418 q60419 q60420 q60421 q60422 q60423 q60424 q60425 q60426 q60427 q60428 q60429 z61362 z61365 p60431 p60432 p60433 p60434 f60435 f60436 f60437 f60438 f60439 p60440 p60441 p60442 f60443 f60444 f60445 f60446 f60447 f60448 f60449 (gB_w bz61362' (by decide) (by decide)) bz61365 (gB_w bp60431' (by decide) (by decide)) bp60432 bp60433 bp60434 bf60437 bf60438 bp60440 bp60441 bp60442 (by omega) x60452 (by omega)) d_cX1_nextOfRest_80 ⟨w_5_127, w_1_11, w_5_130, by decide, rfl, (Nat.le_of_ble_eq_true rfl), (Nat.le_of_ble_eq_true rfl)⟩ w_5_129 w_p_44 0 rfl rfl [0, 1, 2, 3, 4, 5, 6, 7, 8, 9, 10, 11, 12, 13, 14] [] rfl rfl rfl rfl (by decide) (Nat.le_of_ble_eq_true rfl) (Nat.le_of_ble_eq_true rfl) (Nat.le_of_ble_eq_true rfl) (fun r w hp => ?_) (fun _ _ _ z => z.elim)
                rcases hp with ⟨z61366, rfl, rfl, r61367, r61368⟩ | ⟨z61369, rfl, rfl, r61370, r61371⟩
                · change G _ _ _ _ _ _ _ (.int 0 :: _) _ _ _
                  refine G_ws (ws' := [(q60415, .inr (6, [.ref q60416, .ref q60417, .ref q60418, .ref q60419, .ref q60420, .ref q60421, .int p60431, .int p60432])), (q60416, .inr (8, [.ref q60422, .ref q60423, .ref q60424, .ref q60425, .int p60433, .int p60434])), (q60417, .inl (I .int, 720, .inl f60435)), (q60418, .inl (I .int, 720, .inl f60436)), (q60419, .inl (I .int, 720, .inl f60437)), (q60420, .inl (I .int, 720, .inl f60438)), (q60421, .inl (I .int, 720, .inl f60439)), (q60422, .inr (10, [.ref q60426, .ref q60427, .ref q60428, .ref q60429, .int p60440, .int p60441, .int p60442])), (q60423, .inl (I .long, 8640, .inr (.inl f60443))), (q60424, .inl (I .long, 12, .inr (.inl f60444))), (q60425, .inl (I .int, 720, .inl f60445)), (q60426, .inl (I .long, 480, .inr (.inl f60446))), (q60427, .inl (I .long, 480, .inr (.inl f60447))), (q60428, .inl (I .long, 480, .inr (.inl f60448))), (q60429, .inl (I .long, 12, .inr (.inl f60449)))]) (cs' := 0) (sl' := 0) rfl rfl rfl ?_
                  refine G_if_eq 88 d_cX1_nextOfRest_83 (by decide +kernel) (fun _ => ?_) (fun hc => absurd hc (by decide))
                  obtain ⟨z61372, hz61372⟩ : ∃ z : Int32, z = g61356 + Int32.ofInt 1 := ⟨_, rfl⟩
                  have ez61372 : z61372.toInt = g61356.toInt + 1 := gI_inc hz61372 (by decide) bg61356' (by decide) (by decide)
                  have bz61372 : gB z61372 2 720 := ⟨by omega, by omega⟩
                  refine G_iinc (L' := [(3, .int z61372), (2, .int g61357), (0, .ref q60415), (1, .int p60430)]) z61372 0 d_cX1_nextOfRest_88 rfl hz61372.symm (Nat.le_of_ble_eq_true rfl) rfl ?_
                  refine G_goto 37 d_cX1_nextOfRest_91 (by decide +kernel) ?_
                  exact ih37_61358 z61372 g61357 (gB_w bz61372 (by decide) (by decide)) bg61357 (by omega) (by omega)
                · change G _ _ _ _ _ _ _ (.int 1 :: _) _ _ _
                  refine G_ws (ws' := [(q60415, .inr (6, [.ref q60416, .ref q60417, .ref q60418, .ref q60419, .ref q60420, .ref q60421, .int p60431, .int p60432])), (q60416, .inr (8, [.ref q60422, .ref q60423, .ref q60424, .ref q60425, .int p60433, .int p60434])), (q60417, .inl (I .int, 720, .inl f60435)), (q60418, .inl (I .int, 720, .inl f60436)), (q60419, .inl (I .int, 720, .inl f60437)), (q60420, .inl (I .int, 720, .inl f60438)), (q60421, .inl (I .int, 720, .inl f60439)), (q60422, .inr (10, [.ref q60426, .ref q60427, .ref q60428, .ref q60429, .int p60440, .int p60441, .int p60442])), (q60423, .inl (I .long, 8640, .inr (.inl f60443))), (q60424, .inl (I .long, 12, .inr (.inl f60444))), (q60425, .inl (I .int, 720, .inl f60445)), (q60426, .inl (I .long, 480, .inr (.inl f60446))), (q60427, .inl (I .long, 480, .inr (.inl f60447))), (q60428, .inl (I .long, 480, .inr (.inl f60448))), (q60429, .inl (I .long, 12, .inr (.inl f60449)))]) (cs' := 0) (sl' := 0) rfl rfl rfl ?_
                  refine G_if_eq 88 d_cX1_nextOfRest_83 (by decide +kernel) (fun hc => absurd hc (by decide)) (fun _ => ?_)
                  refine G_iload_n 0 d_cX1_nextOfRest_86 rfl ?_
                  refine G_istore_n (L' := [(2, .int g61356), (3, .int g61356), (0, .ref q60415), (1, .int p60430)]) d_cX1_nextOfRest_87 (Nat.le_of_ble_eq_true rfl) rfl ?_
                  obtain ⟨z61373, hz61373⟩ : ∃ z : Int32, z = g61356 + Int32.ofInt 1 := ⟨_, rfl⟩
                  have ez61373 : z61373.toInt = g61356.toInt + 1 := gI_inc hz61373 (by decide) bg61356' (by decide) (by decide)
                  have bz61373 : gB z61373 2 720 := ⟨by omega, by omega⟩
                  refine G_iinc (L' := [(3, .int z61373), (2, .int g61356), (0, .ref q60415), (1, .int p60430)]) z61373 1 d_cX1_nextOfRest_88 rfl hz61373.symm (Nat.le_of_ble_eq_true rfl) rfl ?_
                  refine G_goto 37 d_cX1_nextOfRest_91 (by decide +kernel) ?_
                  exact ih37_61358 z61373 g61356 (gB_w bz61373 (by decide) (by decide)) (gB_w bg61356' (by decide) (by decide)) (by omega) (by omega)
              · have r61374 : 100 ≤ z61362.toInt := gj_nlt hc61363 (show Int32.toInt 100 = 100 by decide)
                have bz61362' : gB z61362 100 719 := ⟨by omega, by omega⟩
                refine G_aload_n 2 d_cX1_nextOfRest_56 rfl ?_
                refine G_getf 0 3 d_cX1_nextOfRest_57 rfl (gk_X1 D I) (Nat.le_of_ble_eq_true rfl) w_2_81 rfl ?_
                refine G_iload_n 1 d_cX1_nextOfRest_60 rfl ?_
                refine G_iald 4 0 d_cX1_nextOfRest_61 rfl rfl (gB_inr (by omega) (by omega)) (G_nam fun z61375 hz61375 => ?_)
                have bz61375 : gB z61375 0 719 := by rw [hz61375]; exact bf60437 _
                refine G_bipush 100 d_cX1_nextOfRest_62 (by decide +kernel) ?_
                refine G_icmp_lt 94 d_cX1_nextOfRest_64 (by decide +kernel) (fun hc61376 => ?_) (fun hc61376 => ?_)
                · have r61377 : z61375.toInt < 100 := gj_lt hc61376 (show Int32.toInt 100 = 100 by decide)
                  have bz61375' : gB z61375 0 99 := ⟨by omega, by omega⟩
                  refine G_iload_n 1 d_cX1_nextOfRest_94 rfl ?_
                  exact G_iret d_cX1_nextOfRest_95 rfl (Nat.le_of_ble_eq_true rfl) (Nat.le_of_ble_eq_true rfl) ⟨g61357, rfl, rfl, bg61357, (by omega)⟩
                · have r61378 : 100 ≤ z61375.toInt := gj_nlt hc61376 (show Int32.toInt 100 = 100 by decide)
                  have bz61375' : gB z61375 100 719 := ⟨by omega, by omega⟩
                  refine G_aload_n 2 d_cX1_nextOfRest_67 rfl ?_
                  refine G_aload_n 2 d_cX1_nextOfRest_68 rfl ?_
                  refine G_getf 0 3 d_cX1_nextOfRest_69 rfl (gk_X1 D I) (Nat.le_of_ble_eq_true rfl) w_2_81 rfl ?_
                  refine G_iload_n 0 d_cX1_nextOfRest_72 rfl ?_
                  refine G_iald 4 0 d_cX1_nextOfRest_73 rfl rfl (gB_in bg61356' (by decide) (by decide)) (G_eqi (y := z61362) hz61362.symm ?_)
                  refine G_aload_n 2 d_cX1_nextOfRest_74 rfl ?_
                  refine G_getf 0 3 d_cX1_nextOfRest_75 rfl (gk_X1 D I) (Nat.le_of_ble_eq_true rfl) w_2_81 rfl ?_
                  refine G_iload_n 1 d_cX1_nextOfRest_78 rfl ?_
                  refine G_iald 4 0 d_cX1_nextOfRest_79 rfl rfl (gB_inr (by omega) (by omega)) (G_eqi (y := z61375) hz61375.symm ?_)
                  refine G_callV (As := [.int z61362, .int z61375]) (wr := []) (gV_ok D I) (ct_60524_Colouring_isCheaper l hl0 D I q60415 q60416 q60417 q60418 q60419 q60420 q60421 q60422 q60423 q60424 q60425 q60426 q60427 q60428 q60429 z61362 z61375 p60431 p60432 p60433 p60434 f60435 f60436 f60437 f60438 f60439 p60440 p60441 p60442 f60443 f60444 f60445 f60446 f60447 f60448 f60449 (gB_w bz61362' (by decide) (by decide)) (gB_w bz61375' (by decide) (by decide)) (gB_w bp60431' (by decide) (by decide)) bp60432 bp60433 bp60434 bf60437 bf60438 bp60440 bp60441 bp60442 (by omega) x60452 (by omega)) d_cX1_nextOfRest_80 ⟨w_5_127, w_1_11, w_5_130, by decide, rfl, (Nat.le_of_ble_eq_true rfl), (Nat.le_of_ble_eq_true rfl)⟩ w_5_129 w_p_44 0 rfl rfl [0, 1, 2, 3, 4, 5, 6, 7, 8, 9, 10, 11, 12, 13, 14] [] rfl rfl rfl rfl (by decide) (Nat.le_of_ble_eq_true rfl) (Nat.le_of_ble_eq_true rfl) (Nat.le_of_ble_eq_true rfl) (fun r w hp => ?_) (fun _ _ _ z => z.elim)
                  rcases hp with ⟨z61379, rfl, rfl, r61380, r61381⟩ | ⟨z61382, rfl, rfl, r61383, r61384⟩
                  · change G _ _ _ _ _ _ _ (.int 0 :: _) _ _ _
                    refine G_ws (ws' := [(q60415, .inr (6, [.ref q60416, .ref q60417, .ref q60418, .ref q60419, .ref q60420, .ref q60421, .int p60431, .int p60432])), (q60416, .inr (8, [.ref q60422, .ref q60423, .ref q60424, .ref q60425, .int p60433, .int p60434])), (q60417, .inl (I .int, 720, .inl f60435)), (q60418, .inl (I .int, 720, .inl f60436)), (q60419, .inl (I .int, 720, .inl f60437)), (q60420, .inl (I .int, 720, .inl f60438)), (q60421, .inl (I .int, 720, .inl f60439)), (q60422, .inr (10, [.ref q60426, .ref q60427, .ref q60428, .ref q60429, .int p60440, .int p60441, .int p60442])), (q60423, .inl (I .long, 8640, .inr (.inl f60443))), (q60424, .inl (I .long, 12, .inr (.inl f60444))), (q60425, .inl (I .int, 720, .inl f60445)), (q60426, .inl (I .long, 480, .inr (.inl f60446))), (q60427, .inl (I .long, 480, .inr (.inl f60447))), (q60428, .inl (I .long, 480, .inr (.inl f60448))), (q60429, .inl (I .long, 12, .inr (.inl f60449)))]) (cs' := 0) (sl' := 0) rfl rfl rfl ?_
                    refine G_if_eq 88 d_cX1_nextOfRest_83 (by decide +kernel) (fun _ => ?_) (fun hc => absurd hc (by decide))
                    obtain ⟨z61385, hz61385⟩ : ∃ z : Int32, z = g61356 + Int32.ofInt 1 := ⟨_, rfl⟩
                    have ez61385 : z61385.toInt = g61356.toInt + 1 := gI_inc hz61385 (by decide) bg61356' (by decide) (by decide)
                    have bz61385 : gB z61385 2 720 := ⟨by omega, by omega⟩
                    refine G_iinc (L' := [(3, .int z61385), (2, .int g61357), (0, .ref q60415), (1, .int p60430)]) z61385 0 d_cX1_nextOfRest_88 rfl hz61385.symm (Nat.le_of_ble_eq_true rfl) rfl ?_
                    refine G_goto 37 d_cX1_nextOfRest_91 (by decide +kernel) ?_
                    exact ih37_61358 z61385 g61357 (gB_w bz61385 (by decide) (by decide)) bg61357 (by omega) (by omega)
                  · change G _ _ _ _ _ _ _ (.int 1 :: _) _ _ _
                    refine G_ws (ws' := [(q60415, .inr (6, [.ref q60416, .ref q60417, .ref q60418, .ref q60419, .ref q60420, .ref q60421, .int p60431, .int p60432])), (q60416, .inr (8, [.ref q60422, .ref q60423, .ref q60424, .ref q60425, .int p60433, .int p60434])), (q60417, .inl (I .int, 720, .inl f60435)), (q60418, .inl (I .int, 720, .inl f60436)), (q60419, .inl (I .int, 720, .inl f60437)), (q60420, .inl (I .int, 720, .inl f60438)), (q60421, .inl (I .int, 720, .inl f60439)), (q60422, .inr (10, [.ref q60426, .ref q60427, .ref q60428, .ref q60429, .int p60440, .int p60441, .int p60442])), (q60423, .inl (I .long, 8640, .inr (.inl f60443))), (q60424, .inl (I .long, 12, .inr (.inl f60444))), (q60425, .inl (I .int, 720, .inl f60445)), (q60426, .inl (I .long, 480, .inr (.inl f60446))), (q60427, .inl (I .long, 480, .inr (.inl f60447))), (q60428, .inl (I .long, 480, .inr (.inl f60448))), (q60429, .inl (I .long, 12, .inr (.inl f60449)))]) (cs' := 0) (sl' := 0) rfl rfl rfl ?_
                    refine G_if_eq 88 d_cX1_nextOfRest_83 (by decide +kernel) (fun hc => absurd hc (by decide)) (fun _ => ?_)
                    refine G_iload_n 0 d_cX1_nextOfRest_86 rfl ?_
                    refine G_istore_n (L' := [(2, .int g61356), (3, .int g61356), (0, .ref q60415), (1, .int p60430)]) d_cX1_nextOfRest_87 (Nat.le_of_ble_eq_true rfl) rfl ?_
                    obtain ⟨z61386, hz61386⟩ : ∃ z : Int32, z = g61356 + Int32.ofInt 1 := ⟨_, rfl⟩
                    have ez61386 : z61386.toInt = g61356.toInt + 1 := gI_inc hz61386 (by decide) bg61356' (by decide) (by decide)
                    have bz61386 : gB z61386 2 720 := ⟨by omega, by omega⟩
                    refine G_iinc (L' := [(3, .int z61386), (2, .int g61356), (0, .ref q60415), (1, .int p60430)]) z61386 1 d_cX1_nextOfRest_88 rfl hz61386.symm (Nat.le_of_ble_eq_true rfl) rfl ?_
                    refine G_goto 37 d_cX1_nextOfRest_91 (by decide +kernel) ?_
                    exact ih37_61358 z61386 g61356 (gB_w bz61386 (by decide) (by decide)) (gB_w bg61356' (by decide) (by decide)) (by omega) (by omega)
        exact hlp37_61358 (((721 : Int) - 1).toNat + 1) 1 0 (gB_w (gBl (show Int32.toInt 1 = 1 by decide)) (by decide) (by decide)) (gB_w (gBl (show Int32.toInt 0 = 0 by decide)) (by decide) (by decide)) (by have qa0 : Int32.toInt 0 = 0 := (by decide); have qa1 : Int32.toInt 1 = 1 := (by decide); omega) (Nat.lt_succ_self _)
      · have r61387 : g61179.toInt < p60431.toInt := gC_nle hc61180
        have bg61179' : gB g61179 0 719 := ⟨by omega, by omega⟩
        have bp60431' : gB p60431 1 720 := ⟨by omega, by omega⟩
        refine G_aload_n 1 d_cX1_nextOfRest_10 rfl ?_
        refine G_getf 0 2 d_cX1_nextOfRest_11 rfl (gk_X1 D I) (Nat.le_of_ble_eq_true rfl) w_2_80 rfl ?_
        refine G_aload_n 1 d_cX1_nextOfRest_14 rfl ?_
        refine G_getf 0 3 d_cX1_nextOfRest_15 rfl (gk_X1 D I) (Nat.le_of_ble_eq_true rfl) w_2_81 rfl ?_
        refine G_iload_n 0 d_cX1_nextOfRest_18 rfl ?_
        refine G_iald 4 0 d_cX1_nextOfRest_19 rfl rfl (gB_in bg61179' (by decide) (by decide)) (G_nam fun z61388 hz61388 => ?_)
        have bz61388 : gB z61388 0 719 := by rw [hz61388]; exact bf60437 _
        refine G_iald 3 0 d_cX1_nextOfRest_20 rfl rfl (gB_in bz61388 (by decide) (by decide)) (G_nam fun z61389 hz61389 => ?_)
        have bz61389 : gB z61389 (-2147483648) 2147483647 := gB_any z61389
        refine G_iload_n 2 d_cX1_nextOfRest_21 rfl ?_
        refine G_icmp_ge 27 d_cX1_nextOfRest_22 (by decide +kernel) (fun hc61390 => ?_) (fun hc61390 => ?_)
        · have r61391 : p60430.toInt ≤ z61389.toInt := gC_le hc61390
          obtain ⟨z61392, hz61392⟩ : ∃ z : Int32, z = g61179 + Int32.ofInt 1 := ⟨_, rfl⟩
          have ez61392 : z61392.toInt = g61179.toInt + 1 := gI_inc hz61392 (by decide) bg61179' (by decide) (by decide)
          have bz61392 : gB z61392 1 720 := ⟨by omega, by omega⟩
          refine G_iinc (L' := [(2, .int z61392), (0, .ref q60415), (1, .int p60430)]) z61392 0 d_cX1_nextOfRest_27 rfl hz61392.symm (Nat.le_of_ble_eq_true rfl) rfl ?_
          refine G_goto 2 d_cX1_nextOfRest_30 (by decide +kernel) ?_
          exact ih2_61179 z61392 (gB_w bz61392 (by decide) (by decide)) (by omega)
        · have r61393 : z61389.toInt < p60430.toInt := gC_nle hc61390
          have bz61389' : gB z61389 (-2147483648) 2147483646 := ⟨by omega, by omega⟩
          have bp60430' : gB p60430 (-2147483647) 2147483647 := ⟨by omega, by omega⟩
          refine G_iload_n 0 d_cX1_nextOfRest_25 rfl ?_
          exact G_iret d_cX1_nextOfRest_26 rfl (Nat.le_of_ble_eq_true rfl) (Nat.le_of_ble_eq_true rfl) ⟨g61179, rfl, rfl, (gB_w bg61179' (by decide) (by decide)), (by omega)⟩
  exact hlp2_61179 (((721 : Int) - 0).toNat + 1) 0 (gB_w (gBl (show Int32.toInt 0 = 0 by decide)) (by decide) (by decide)) (Nat.lt_succ_self _)
abbrev ky_61442_Colouring_leave : gKey := (cX1_leave, 6, yX1_leave.cls, none, [], yX1_leave.name, fun _ _ => True)
abbrev po_61442_Colouring_leave (I : FieldType → ClassId) (q61403 : Nat) (q61404 : Nat) (q61405 : Nat) (q61406 : Nat) (q61407 : Nat) (q61408 : Nat) (q61409 : Nat) (q61410 : Nat) (q61411 : Nat) (q61412 : Nat) (q61413 : Nat) (q61414 : Nat) (q61415 : Nat) (q61416 : Nat) (q61417 : Nat) (p61418 : Int32) (p61419 : Int32) (p61420 : Int32) (p61421 : Int32) (p61422 : Int32) (f61423 : Nat → Int32) (f61424 : Nat → Int32) (f61425 : Nat → Int32) (f61426 : Nat → Int32) (f61427 : Nat → Int32) (p61428 : Int32) (p61429 : Int32) (p61430 : Int32) (f61431 : Nat → Int64) (f61432 : Nat → Int64) (f61433 : Nat → Int32) (f61434 : Nat → Int64) (f61435 : Nat → Int64) (f61436 : Nat → Int64) (f61437 : Nat → Int64) : Option Value → va_W → Prop := fun r w => ∃ (f62432 : Nat → Int32), r = none ∧ w = [(q61403, .inr (6, [.ref q61404, .ref q61405, .ref q61406, .ref q61407, .ref q61408, .ref q61409, .int p61419, .int p61420])), (q61404, .inr (8, [.ref q61410, .ref q61411, .ref q61412, .ref q61413, .int p61421, .int p61422])), (q61405, .inl (I .int, 720, .inl f61423)), (q61406, .inl (I .int, 720, .inl f62432)), (q61407, .inl (I .int, 720, .inl f61425)), (q61408, .inl (I .int, 720, .inl f61426)), (q61409, .inl (I .int, 720, .inl f61427)), (q61410, .inr (10, [.ref q61414, .ref q61415, .ref q61416, .ref q61417, .int p61428, .int p61429, .int p61430])), (q61411, .inl (I .long, 8640, .inr (.inl f61431))), (q61412, .inl (I .long, 12, .inr (.inl f61432))), (q61413, .inl (I .int, 720, .inl f61433)), (q61414, .inl (I .long, 480, .inr (.inl f61434))), (q61415, .inl (I .long, 480, .inr (.inl f61435))), (q61416, .inl (I .long, 480, .inr (.inl f61436))), (q61417, .inl (I .long, 12, .inr (.inl f61437)))] ∧ gF f62432 (-2147483648) 2147483647
set_option maxRecDepth 100000 in
set_option maxHeartbeats 4000000 in
theorem ct_61442_Colouring_leave (l : Launch) (hl0 : l.stackTraces = false) (D : va_G) (I : FieldType → ClassId) (q61403 : Nat) (q61404 : Nat) (q61405 : Nat) (q61406 : Nat) (q61407 : Nat) (q61408 : Nat) (q61409 : Nat) (q61410 : Nat) (q61411 : Nat) (q61412 : Nat) (q61413 : Nat) (q61414 : Nat) (q61415 : Nat) (q61416 : Nat) (q61417 : Nat) (p61418 : Int32) (p61419 : Int32) (p61420 : Int32) (p61421 : Int32) (p61422 : Int32) (f61423 : Nat → Int32) (f61424 : Nat → Int32) (f61425 : Nat → Int32) (f61426 : Nat → Int32) (f61427 : Nat → Int32) (p61428 : Int32) (p61429 : Int32) (p61430 : Int32) (f61431 : Nat → Int64) (f61432 : Nat → Int64) (f61433 : Nat → Int32) (f61434 : Nat → Int64) (f61435 : Nat → Int64) (f61436 : Nat → Int64) (f61437 : Nat → Int64) (bp61418 : gB p61418 0 719) (bp61419 : gB p61419 0 720) (bp61420 : gB p61420 0 720) (bp61421 : gB p61421 0 720) (bp61422 : gB p61422 0 12) (bf61425 : gF f61425 0 719) (bf61426 : gF f61426 0 719) (bp61428 : gB p61428 0 720) (bp61429 : gB p61429 0 12) (bp61430 : gB p61430 0 1) (x61438 : p61418.toInt < p61421.toInt) (x61439 : p61422.toInt = (p61421.toInt + 63) / 64) (x61440 : lb_W f61431 (p61421.toInt * p61422.toInt) (p61422.toInt) (p61421.toInt)) (x61441 : p61429.toInt = (p61428.toInt + 63) / 64) : Ct (gV D I) l yX1_leave cX1_leave 6 none 2 42 0 0 [.ref q61403, .int p61418] [(q61403, .inr (6, [.ref q61404, .ref q61405, .ref q61406, .ref q61407, .ref q61408, .ref q61409, .int p61419, .int p61420])), (q61404, .inr (8, [.ref q61410, .ref q61411, .ref q61412, .ref q61413, .int p61421, .int p61422])), (q61405, .inl (I .int, 720, .inl f61423)), (q61406, .inl (I .int, 720, .inl f61424)), (q61407, .inl (I .int, 720, .inl f61425)), (q61408, .inl (I .int, 720, .inl f61426)), (q61409, .inl (I .int, 720, .inl f61427)), (q61410, .inr (10, [.ref q61414, .ref q61415, .ref q61416, .ref q61417, .int p61428, .int p61429, .int p61430])), (q61411, .inl (I .long, 8640, .inr (.inl f61431))), (q61412, .inl (I .long, 12, .inr (.inl f61432))), (q61413, .inl (I .int, 720, .inl f61433)), (q61414, .inl (I .long, 480, .inr (.inl f61434))), (q61415, .inl (I .long, 480, .inr (.inl f61435))), (q61416, .inl (I .long, 480, .inr (.inl f61436))), (q61417, .inl (I .long, 12, .inr (.inl f61437)))] (po_61442_Colouring_leave I q61403 q61404 q61405 q61406 q61407 q61408 q61409 q61410 q61411 q61412 q61413 q61414 q61415 q61416 q61417 p61418 p61419 p61420 p61421 p61422 f61423 f61424 f61425 f61426 f61427 p61428 p61429 p61430 f61431 f61432 f61433 f61434 f61435 f61436 f61437) gN := by
  refine Ct_of hl0 (by decide) (Nat.le_of_ble_eq_true rfl) ?_
  refine G_iconst 0 d_cX1_leave_0 (by decide +kernel) ?_
  refine G_istore_n (L' := [(2, .int 0), (0, .ref q61403), (1, .int p61418)]) d_cX1_leave_1 (Nat.le_of_ble_eq_true rfl) rfl ?_
  have hlp2_62290 : ∀ (n2_62290 : Nat) (g62289 : Int32) (f62290 : Nat → Int32), gB g62289 0 12 → gF f62290 (-2147483648) 2147483647 → ((13 : Int) - g62289.toInt).toNat < n2_62290 → G (gV D I) l (gRm 2 42 0 0) (gM (gV D I) (po_61442_Colouring_leave I q61403 q61404 q61405 q61406 q61407 q61408 q61409 q61410 q61411 q61412 q61413 q61414 q61415 q61416 q61417 p61418 p61419 p61420 p61421 p61422 f61423 f61424 f61425 f61426 f61427 p61428 p61429 p61430 f61431 f61432 f61433 f61434 f61435 f61436 f61437) gN 0 0) ky_61442_Colouring_leave 2 [(2, .int g62289), (0, .ref q61403), (1, .int p61418)] [] [(q61403, .inr (6, [.ref q61404, .ref q61405, .ref q61406, .ref q61407, .ref q61408, .ref q61409, .int p61419, .int p61420])), (q61404, .inr (8, [.ref q61410, .ref q61411, .ref q61412, .ref q61413, .int p61421, .int p61422])), (q61405, .inl (I .int, 720, .inl f61423)), (q61406, .inl (I .int, 720, .inl f62290)), (q61407, .inl (I .int, 720, .inl f61425)), (q61408, .inl (I .int, 720, .inl f61426)), (q61409, .inl (I .int, 720, .inl f61427)), (q61410, .inr (10, [.ref q61414, .ref q61415, .ref q61416, .ref q61417, .int p61428, .int p61429, .int p61430])), (q61411, .inl (I .long, 8640, .inr (.inl f61431))), (q61412, .inl (I .long, 12, .inr (.inl f61432))), (q61413, .inl (I .int, 720, .inl f61433)), (q61414, .inl (I .long, 480, .inr (.inl f61434))), (q61415, .inl (I .long, 480, .inr (.inl f61435))), (q61416, .inl (I .long, 480, .inr (.inl f61436))), (q61417, .inl (I .long, 12, .inr (.inl f61437)))] 0 0 := by
    intro n2_62290
    induction n2_62290 with
    | zero => intro g62289 f62290 bg62289 bf62290 hm2_62290; exact absurd hm2_62290 (Nat.not_lt_zero _)
    | succ n2_62290 ih2_62290 =>
      intro g62289 f62290 bg62289 bf62290 hm2_62290
      refine G_iload_n 0 d_cX1_leave_2 rfl ?_
      refine G_aload_n 1 d_cX1_leave_3 rfl ?_
      refine G_getf 0 0 d_cX1_leave_4 rfl (gk_X1 D I) (Nat.le_of_ble_eq_true rfl) w_2_78 rfl ?_
      refine G_getfN 1 5 d_cX1_leave_7 rfl (gk_X3 D I) (Nat.le_of_ble_eq_true rfl) (fun _ _ _ h => gn_w 60 rfl h) rfl ?_
      refine G_icmp_ge 85 d_cX1_leave_10 (by decide +kernel) (fun hc62291 => ?_) (fun hc62291 => ?_)
      · have r62292 : p61422.toInt ≤ g62289.toInt := gC_le hc62291
        exact G_vret d_cX1_leave_85 rfl (Nat.le_of_ble_eq_true rfl) (Nat.le_of_ble_eq_true rfl) ⟨f62290, rfl, rfl, bf62290⟩
      · have r62293 : g62289.toInt < p61422.toInt := gC_nle hc62291
        have bg62289' : gB g62289 0 11 := ⟨by omega, by omega⟩
        have bp61422' : gB p61422 1 12 := ⟨by omega, by omega⟩
        refine G_aload_n 1 d_cX1_leave_13 rfl ?_
        refine G_getf 0 0 d_cX1_leave_14 rfl (gk_X1 D I) (Nat.le_of_ble_eq_true rfl) w_2_78 rfl ?_
        refine G_getfN 1 1 d_cX1_leave_17 rfl (gk_X3 D I) (Nat.le_of_ble_eq_true rfl) (fun _ _ _ h => gn_w 56 rfl h) rfl ?_
        refine G_iload_n 2 d_cX1_leave_20 rfl ?_
        refine G_aload_n 1 d_cX1_leave_21 rfl ?_
        refine G_getf 0 0 d_cX1_leave_22 rfl (gk_X1 D I) (Nat.le_of_ble_eq_true rfl) w_2_78 rfl ?_
        refine G_getfN 1 5 d_cX1_leave_25 rfl (gk_X3 D I) (Nat.le_of_ble_eq_true rfl) (fun _ _ _ h => gn_w 60 rfl h) rfl ?_
        refine G_imul d_cX1_leave_28 (G_nam fun z62294 hz62294 => ?_)
        have ez62294 : z62294.toInt = p61418.toInt * p61422.toInt := by rw [gI_mul hz62294 bp61418 bp61422' (by decide) (by decide) (by decide)]
        have bz62294 : gB z62294 0 8628 := gB_mul hz62294 bp61418 bp61422' (by decide) (by decide) (by decide) (by decide)
        refine G_iload_n 0 d_cX1_leave_29 rfl ?_
        refine G_iadd d_cX1_leave_30 (G_nam fun z62295 hz62295 => ?_)
        have ez62295 : z62295.toInt = z62294.toInt + g62289.toInt := by rw [gI_add hz62295 bz62294 bg62289' (by decide) (by decide)]
        have bz62295 : gB z62295 0 8639 := gB_add (gI_add hz62295 bz62294 bg62289' (by decide) (by decide)) bz62294 bg62289' (by decide) (by decide)
        refine G_lald 8 2 d_cX1_leave_31 rfl rfl (gB_in bz62295 (by decide) (by decide)) (G_namL fun u62296 hu62296 => ?_)
        have qu62296 : lb_Q u62296 (p61421.toInt - 64 * g62289.toInt) := lb_Wld hu62296 x61440 (by omega) (lb_Lt1 ez62295 ez62294 (by omega) (by omega) (by omega)) (lb_Mod1 ez62295 ez62294 (by omega) (by omega))
        refine G_lstore_n (L' := [(3, .long u62296), (2, .int g62289), (0, .ref q61403), (1, .int p61418)]) d_cX1_leave_32 (Nat.le_of_ble_eq_true rfl) rfl ?_
        refine G_iconst 0 d_cX1_leave_33 (by decide +kernel) ?_
        refine G_istore (L' := [(5, .int 0), (3, .long u62296), (2, .int g62289), (0, .ref q61403), (1, .int p61418)]) d_cX1_leave_34 (Nat.le_of_ble_eq_true rfl) rfl ?_
        have hlp36_62412 : ∀ (n36_62412 : Nat) (g62409 : Int32) (gl62410 : Int64) (f62411 : Nat → Int32), gB g62409 0 64 → gF f62411 (-2147483648) 2147483647 → lb_Q gl62410 (p61421.toInt - 64 * g62289.toInt) → ((65 : Int) - g62409.toInt).toNat < n36_62412 → G (gV D I) l (gRm 2 42 0 0) (gM (gV D I) (po_61442_Colouring_leave I q61403 q61404 q61405 q61406 q61407 q61408 q61409 q61410 q61411 q61412 q61413 q61414 q61415 q61416 q61417 p61418 p61419 p61420 p61421 p61422 f61423 f61424 f61425 f61426 f61427 p61428 p61429 p61430 f61431 f61432 f61433 f61434 f61435 f61436 f61437) gN 0 0) ky_61442_Colouring_leave 36 [(5, .int g62409), (3, .long gl62410), (2, .int g62289), (0, .ref q61403), (1, .int p61418)] [] [(q61403, .inr (6, [.ref q61404, .ref q61405, .ref q61406, .ref q61407, .ref q61408, .ref q61409, .int p61419, .int p61420])), (q61404, .inr (8, [.ref q61410, .ref q61411, .ref q61412, .ref q61413, .int p61421, .int p61422])), (q61405, .inl (I .int, 720, .inl f61423)), (q61406, .inl (I .int, 720, .inl f62411)), (q61407, .inl (I .int, 720, .inl f61425)), (q61408, .inl (I .int, 720, .inl f61426)), (q61409, .inl (I .int, 720, .inl f61427)), (q61410, .inr (10, [.ref q61414, .ref q61415, .ref q61416, .ref q61417, .int p61428, .int p61429, .int p61430])), (q61411, .inl (I .long, 8640, .inr (.inl f61431))), (q61412, .inl (I .long, 12, .inr (.inl f61432))), (q61413, .inl (I .int, 720, .inl f61433)), (q61414, .inl (I .long, 480, .inr (.inl f61434))), (q61415, .inl (I .long, 480, .inr (.inl f61435))), (q61416, .inl (I .long, 480, .inr (.inl f61436))), (q61417, .inl (I .long, 12, .inr (.inl f61437)))] 0 0 := by
          intro n36_62412
          induction n36_62412 with
          | zero => intro g62409 gl62410 f62411 bg62409 bf62411 x62412 hm36_62412; exact absurd hm36_62412 (Nat.not_lt_zero _)
          | succ n36_62412 ih36_62412 =>
            intro g62409 gl62410 f62411 bg62409 bf62411 x62412 hm36_62412
            refine G_iload 0 d_cX1_leave_36 rfl ?_
            refine G_bipush 64 d_cX1_leave_38 (by decide +kernel) ?_
            refine G_icmp_ge 79 d_cX1_leave_40 (by decide +kernel) (fun hc62413 => ?_) (fun hc62413 => ?_)
            · have r62414 : 64 ≤ g62409.toInt := gj_leL hc62413 (show Int32.toInt 64 = 64 by decide)
              have bg62409' : gB g62409 64 64 := ⟨by omega, by omega⟩
              obtain ⟨z62415, hz62415⟩ : ∃ z : Int32, z = g62289 + Int32.ofInt 1 := ⟨_, rfl⟩
              have ez62415 : z62415.toInt = g62289.toInt + 1 := gI_inc hz62415 (by decide) bg62289' (by decide) (by decide)
              have bz62415 : gB z62415 1 12 := ⟨by omega, by omega⟩
              refine G_iinc (L' := [(2, .int z62415), (5, .int g62409), (3, .long gl62410), (0, .ref q61403), (1, .int p61418)]) z62415 2 d_cX1_leave_79 rfl hz62415.symm (Nat.le_of_ble_eq_true rfl) rfl ?_
              refine G_goto 2 d_cX1_leave_82 (by decide +kernel) ?_
              refine G_lv (L' := [(2, .int z62415), (0, .ref q61403), (1, .int p61418)]) [0, 3, 4] rfl ?_
              exact ih2_62290 z62415 f62411 (gB_w bz62415 (by decide) (by decide)) bf62411 (by omega)
            · have r62416 : g62409.toInt < 64 := gj_nleL hc62413 (show Int32.toInt 64 = 64 by decide)
              have bg62409' : gB g62409 0 63 := ⟨by omega, by omega⟩
              refine G_lload_n 1 d_cX1_leave_43 rfl ?_
              refine G_lconst 0 d_cX1_leave_44 rfl ?_
              refine G_lcmp d_cX1_leave_45 (G_nam fun z62417 hz62417 => ?_)
              have bz62417 : gB z62417 (-1) 1 := gB_cmp hz62417
              refine G_if_eq 79 d_cX1_leave_46 (by decide +kernel) (fun hc62418 => ?_) (fun hc62418 => ?_)
              · have r62419 : z62417.toInt = 0 := gj_eq hc62418 (show Int32.toInt 0 = 0 by decide)
                have bz62417' : gB z62417 0 0 := ⟨by omega, by omega⟩
                have lhc62418 := gC_cmpE hz62417 hc62418
                obtain ⟨z62420, hz62420⟩ : ∃ z : Int32, z = g62289 + Int32.ofInt 1 := ⟨_, rfl⟩
                have ez62420 : z62420.toInt = g62289.toInt + 1 := gI_inc hz62420 (by decide) bg62289' (by decide) (by decide)
                have bz62420 : gB z62420 1 12 := ⟨by omega, by omega⟩
                refine G_iinc (L' := [(2, .int z62420), (5, .int g62409), (3, .long gl62410), (0, .ref q61403), (1, .int p61418)]) z62420 2 d_cX1_leave_79 rfl hz62420.symm (Nat.le_of_ble_eq_true rfl) rfl ?_
                refine G_goto 2 d_cX1_leave_82 (by decide +kernel) ?_
                refine G_lv (L' := [(2, .int z62420), (0, .ref q61403), (1, .int p61418)]) [0, 3, 4] rfl ?_
                exact ih2_62290 z62420 f62411 (gB_w bz62420 (by decide) (by decide)) bf62411 (by omega)
              · have r62421 : z62417.toInt ≠ 0 := gj_neq hc62418 (show Int32.toInt 0 = 0 by decide)
                have lhc62418 := gC_cmpN hz62417 hc62418
                refine G_aload_n 3 d_cX1_leave_49 rfl ?_
                refine G_getf 0 2 d_cX1_leave_50 rfl (gk_X1 D I) (Nat.le_of_ble_eq_true rfl) w_2_80 rfl ?_
                refine G_iload_n 2 d_cX1_leave_53 rfl ?_
                refine G_bipush 6 d_cX1_leave_54 (by decide +kernel) ?_
                refine G_ishl d_cX1_leave_56 (G_nam fun z62422 hz62422 => ?_)
                have ez62422 : z62422.toInt = g62289.toInt * 64 := gI_shl (k := 6) hz62422 (by decide) bg62289' (by decide) (by decide)
                have bz62422 : gB z62422 0 704 := ⟨by omega, by omega⟩
                refine G_lload_n 1 d_cX1_leave_57 rfl ?_
                refine G_callSN (As := [.long gl62410]) (wr := [(q61403, .inr (6, [.ref q61404, .ref q61405, .ref q61406, .ref q61407, .ref q61408, .ref q61409, .int p61419, .int p61420])), (q61404, .inr (8, [.ref q61410, .ref q61411, .ref q61412, .ref q61413, .int p61421, .int p61422])), (q61405, .inl (I .int, 720, .inl f61423)), (q61406, .inl (I .int, 720, .inl f62411)), (q61407, .inl (I .int, 720, .inl f61425)), (q61408, .inl (I .int, 720, .inl f61426)), (q61409, .inl (I .int, 720, .inl f61427)), (q61410, .inr (10, [.ref q61414, .ref q61415, .ref q61416, .ref q61417, .int p61428, .int p61429, .int p61430])), (q61411, .inl (I .long, 8640, .inr (.inl f61431))), (q61412, .inl (I .long, 12, .inr (.inl f61432))), (q61413, .inl (I .int, 720, .inl f61433)), (q61414, .inl (I .long, 480, .inr (.inl f61434))), (q61415, .inl (I .long, 480, .inr (.inl f61435))), (q61416, .inl (I .long, 480, .inr (.inl f61436))), (q61417, .inl (I .long, 12, .inr (.inl f61437)))]) (gV_ok D I) (ct_29220_SpillForge_lowestBit l hl0 D I gl62410 ) d_cX1_leave_58 ⟨(fun _ _ _ h => gn_w 73 rfl h), w_1_1, w_4_127, by decide, rfl, (Nat.le_of_ble_eq_true rfl), (Nat.le_of_ble_eq_true rfl)⟩ w_4_126 [] [0, 1, 2, 3, 4, 5, 6, 7, 8, 9, 10, 11, 12, 13, 14] rfl rfl rfl rfl (by decide) (Nat.le_of_ble_eq_true rfl) (Nat.le_of_ble_eq_true rfl) (Nat.le_of_ble_eq_true rfl) (fun r w hp => ?_)
                obtain ⟨o62423, rfl, rfl, bo62423, x62424⟩ := hp
                have lwo62423 := lb_lowE lhc62418 x62424
                have bo62423' : gB o62423 0 63 := ⟨by omega, by omega⟩
                have lqo62423 : o62423.toInt < p61421.toInt - 64 * g62289.toInt := lb_lowQ lwo62423 x62412
                change G _ _ _ _ _ _ _ (.int o62423 :: _) _ _ _
                refine G_ws (ws' := [(q61403, .inr (6, [.ref q61404, .ref q61405, .ref q61406, .ref q61407, .ref q61408, .ref q61409, .int p61419, .int p61420])), (q61404, .inr (8, [.ref q61410, .ref q61411, .ref q61412, .ref q61413, .int p61421, .int p61422])), (q61405, .inl (I .int, 720, .inl f61423)), (q61406, .inl (I .int, 720, .inl f62411)), (q61407, .inl (I .int, 720, .inl f61425)), (q61408, .inl (I .int, 720, .inl f61426)), (q61409, .inl (I .int, 720, .inl f61427)), (q61410, .inr (10, [.ref q61414, .ref q61415, .ref q61416, .ref q61417, .int p61428, .int p61429, .int p61430])), (q61411, .inl (I .long, 8640, .inr (.inl f61431))), (q61412, .inl (I .long, 12, .inr (.inl f61432))), (q61413, .inl (I .int, 720, .inl f61433)), (q61414, .inl (I .long, 480, .inr (.inl f61434))), (q61415, .inl (I .long, 480, .inr (.inl f61435))), (q61416, .inl (I .long, 480, .inr (.inl f61436))), (q61417, .inl (I .long, 12, .inr (.inl f61437)))]) (cs' := 0) (sl' := 0) rfl rfl rfl ?_
                refine G_ior d_cX1_leave_61 (G_nam fun z62425 hz62425 => ?_)
                have ez62425 : z62425.toInt = z62422.toInt + o62423.toInt := gI_or (k := 6) (m := (g62289.toInt).toNat) hz62425 (by omega) (bo62423') (by decide) (by omega)
                have bz62425 : gB z62425 0 767 := ⟨by omega, by omega⟩
                refine G_dup2_11 d_cX1_leave_62 rfl rfl ?_
                refine G_iald 3 0 d_cX1_leave_63 rfl rfl (gB_inr (by omega) (by omega)) (G_nam fun z62426 hz62426 => ?_)
                have bz62426 : gB z62426 (-2147483648) 2147483647 := by rw [hz62426]; exact bf62411 _
                refine G_iconst 1 d_cX1_leave_64 (by decide +kernel) ?_
                refine G_isub d_cX1_leave_65 (G_nam fun z62427 hz62427 => ?_)
                have bz62427 : gB z62427 (-2147483648) 2147483647 := gB_any z62427
                refine G_iastN 3 0 d_cX1_leave_66 rfl rfl (gB_inr (by omega) (by omega)) (fun f62428 hf62428 => ?_)
                refine G_ws (ws' := [(q61403, .inr (6, [.ref q61404, .ref q61405, .ref q61406, .ref q61407, .ref q61408, .ref q61409, .int p61419, .int p61420])), (q61404, .inr (8, [.ref q61410, .ref q61411, .ref q61412, .ref q61413, .int p61421, .int p61422])), (q61405, .inl (I .int, 720, .inl f61423)), (q61406, .inl (I .int, 720, .inl f62428)), (q61407, .inl (I .int, 720, .inl f61425)), (q61408, .inl (I .int, 720, .inl f61426)), (q61409, .inl (I .int, 720, .inl f61427)), (q61410, .inr (10, [.ref q61414, .ref q61415, .ref q61416, .ref q61417, .int p61428, .int p61429, .int p61430])), (q61411, .inl (I .long, 8640, .inr (.inl f61431))), (q61412, .inl (I .long, 12, .inr (.inl f61432))), (q61413, .inl (I .int, 720, .inl f61433)), (q61414, .inl (I .long, 480, .inr (.inl f61434))), (q61415, .inl (I .long, 480, .inr (.inl f61435))), (q61416, .inl (I .long, 480, .inr (.inl f61436))), (q61417, .inl (I .long, 12, .inr (.inl f61437)))]) (cs' := 0) (sl' := 0) rfl rfl rfl ?_
                refine G_lload_n 1 d_cX1_leave_67 rfl ?_
                refine G_lload_n 1 d_cX1_leave_68 rfl ?_
                refine G_lconst 1 d_cX1_leave_69 rfl ?_
                refine G_lsub d_cX1_leave_70 (G_namL fun u62429 hu62429 => ?_)
                refine G_land d_cX1_leave_71 (G_namL fun u62430 hu62430 => ?_)
                have qu62430 : lb_Q u62430 (p61421.toInt - 64 * g62289.toInt) := lb_QandL hu62430 x62412
                refine G_lstore_n (L' := [(3, .long u62430), (5, .int g62409), (2, .int g62289), (0, .ref q61403), (1, .int p61418)]) d_cX1_leave_72 (Nat.le_of_ble_eq_true rfl) rfl ?_
                obtain ⟨z62431, hz62431⟩ : ∃ z : Int32, z = g62409 + Int32.ofInt 1 := ⟨_, rfl⟩
                have ez62431 : z62431.toInt = g62409.toInt + 1 := gI_inc hz62431 (by decide) bg62409' (by decide) (by decide)
                have bz62431 : gB z62431 1 64 := ⟨by omega, by omega⟩
                refine G_iinc (L' := [(5, .int z62431), (3, .long u62430), (2, .int g62289), (0, .ref q61403), (1, .int p61418)]) z62431 1 d_cX1_leave_73 rfl hz62431.symm (Nat.le_of_ble_eq_true rfl) rfl ?_
                refine G_goto 36 d_cX1_leave_76 (by decide +kernel) ?_
                exact ih36_62412 z62431 u62430 f62428 (gB_w bz62431 (by decide) (by decide)) (gF_any f62428) qu62430 (by omega)
        exact hlp36_62412 (((65 : Int) - 0).toNat + 1) 0 u62296 f62290 (gB_w (gBl (show Int32.toInt 0 = 0 by decide)) (by decide) (by decide)) bf62290 qu62296 (Nat.lt_succ_self _)
  exact hlp2_62290 (((13 : Int) - 0).toNat + 1) 0 f61424 (gB_w (gBl (show Int32.toInt 0 = 0 by decide)) (by decide) (by decide)) (gF_any f61424) (Nat.lt_succ_self _)
