theorem d_cX1_takeApart_0 : decode cX1_takeApart 0 = .ok (.aload_n 0, 1) := by decide +kernel
theorem d_cX1_takeApart_1 : decode cX1_takeApart 1 = .ok (.iconst 0, 1) := by decide +kernel
theorem d_cX1_takeApart_2 : decode cX1_takeApart 2 = .ok (.putfield 74, 3) := by decide +kernel
theorem d_cX1_takeApart_5 : decode cX1_takeApart 5 = .ok (.aload_n 0, 1) := by decide +kernel
theorem d_cX1_takeApart_6 : decode cX1_takeApart 6 = .ok (.iconst 0, 1) := by decide +kernel
theorem d_cX1_takeApart_7 : decode cX1_takeApart 7 = .ok (.putfield 77, 3) := by decide +kernel
theorem w_2_85 : (Jvm.Cond.fieldLink "SpillForge$Colouring" (77 : Nat) "SpillForge$Colouring" "pileSize" "I") ∈ gw := gw_2 85 rfl rfl
theorem d_cX1_takeApart_10 : decode cX1_takeApart 10 = .ok (.iconst 0, 1) := by decide +kernel
theorem d_cX1_takeApart_11 : decode cX1_takeApart 11 = .ok (.istore_n 2, 1) := by decide +kernel
theorem d_cX1_takeApart_12 : decode cX1_takeApart 12 = .ok (.iload_n 2, 1) := by decide +kernel
theorem d_cX1_takeApart_13 : decode cX1_takeApart 13 = .ok (.aload_n 0, 1) := by decide +kernel
theorem d_cX1_takeApart_14 : decode cX1_takeApart 14 = .ok (.getfield 27, 3) := by decide +kernel
theorem d_cX1_takeApart_17 : decode cX1_takeApart 17 = .ok (.getfield 80, 3) := by decide +kernel
theorem d_cX1_takeApart_20 : decode cX1_takeApart 20 = .ok (.if_icmp .ge 55, 3) := by decide +kernel
theorem d_cX1_takeApart_75 : decode cX1_takeApart 75 = .ok (.aload_n 0, 1) := by decide +kernel
theorem d_cX1_takeApart_76 : decode cX1_takeApart 76 = .ok (.getfield 74, 3) := by decide +kernel
theorem d_cX1_takeApart_79 : decode cX1_takeApart 79 = .ok (.istore_n 2, 1) := by decide +kernel
theorem d_cX1_takeApart_80 : decode cX1_takeApart 80 = .ok (.iload_n 2, 1) := by decide +kernel
theorem d_cX1_takeApart_81 : decode cX1_takeApart 81 = .ok (.ifCond .le 81, 3) := by decide +kernel
theorem d_cX1_takeApart_162 : decode cX1_takeApart 162 = .ok (.return_, 1) := by decide +kernel
theorem d_cX1_takeApart_84 : decode cX1_takeApart 84 = .ok (.aload_n 0, 1) := by decide +kernel
theorem d_cX1_takeApart_85 : decode cX1_takeApart 85 = .ok (.iload_n 1, 1) := by decide +kernel
theorem d_cX1_takeApart_86 : decode cX1_takeApart 86 = .ok (.invokevirtual 84, 3) := by decide +kernel
theorem w_5_123 : (Jvm.Cond.methodLink "SpillForge$Colouring" (84 : Nat) ({ cls := "SpillForge$Colouring", name := "nextOfRest", desc := "(I)I" } : Jvm.MethodName)) ∈ gw := gw_5 123 rfl rfl
theorem w_5_126 : (Jvm.Cond.code ({ cls := "SpillForge$Colouring", name := "nextOfRest", desc := "(I)I" } : Jvm.MethodName) prog_3_method_8_code (4 : Nat) (Option.some Jvm.ClassFile.FieldType.int)) ∈ gw := gw_5 126 rfl rfl
theorem w_5_125 : (Jvm.Cond.instanceMethod ({ cls := "SpillForge$Colouring", name := "nextOfRest", desc := "(I)I" } : Jvm.MethodName)) ∈ gw := gw_5 125 rfl rfl
theorem w_p_43 : Cond.selects "SpillForge$Colouring" ⟨"SpillForge$Colouring", "nextOfRest", "(I)I"⟩ ⟨"SpillForge$Colouring", "nextOfRest", "(I)I"⟩ ∈ gw := gw_p _ 43 rfl rfl rfl
theorem d_cX1_takeApart_89 : decode cX1_takeApart 89 = .ok (.istore_n 3, 1) := by decide +kernel
theorem d_cX1_takeApart_90 : decode cX1_takeApart 90 = .ok (.aload_n 0, 1) := by decide +kernel
theorem d_cX1_takeApart_91 : decode cX1_takeApart 91 = .ok (.getfield 18, 3) := by decide +kernel
theorem d_cX1_takeApart_94 : decode cX1_takeApart 94 = .ok (.iload_n 3, 1) := by decide +kernel
theorem d_cX1_takeApart_95 : decode cX1_takeApart 95 = .ok (.iaload, 1) := by decide +kernel
theorem d_cX1_takeApart_96 : decode cX1_takeApart 96 = .ok (.istore 4, 2) := by decide +kernel
theorem d_cX1_takeApart_98 : decode cX1_takeApart 98 = .ok (.aload_n 0, 1) := by decide +kernel
theorem d_cX1_takeApart_99 : decode cX1_takeApart 99 = .ok (.dup, 1) := by decide +kernel
theorem d_cX1_takeApart_100 : decode cX1_takeApart 100 = .ok (.getfield 74, 3) := by decide +kernel
theorem d_cX1_takeApart_103 : decode cX1_takeApart 103 = .ok (.iconst 1, 1) := by decide +kernel
theorem d_cX1_takeApart_104 : decode cX1_takeApart 104 = .ok (.isub, 1) := by decide +kernel
theorem d_cX1_takeApart_105 : decode cX1_takeApart 105 = .ok (.putfield 74, 3) := by decide +kernel
theorem d_cX1_takeApart_108 : decode cX1_takeApart 108 = .ok (.aload_n 0, 1) := by decide +kernel
theorem d_cX1_takeApart_109 : decode cX1_takeApart 109 = .ok (.getfield 18, 3) := by decide +kernel
theorem d_cX1_takeApart_112 : decode cX1_takeApart 112 = .ok (.iload_n 3, 1) := by decide +kernel
theorem d_cX1_takeApart_113 : decode cX1_takeApart 113 = .ok (.iconst 1, 1) := by decide +kernel
theorem d_cX1_takeApart_114 : decode cX1_takeApart 114 = .ok (.iadd, 1) := by decide +kernel
theorem d_cX1_takeApart_115 : decode cX1_takeApart 115 = .ok (.aload_n 0, 1) := by decide +kernel
theorem d_cX1_takeApart_116 : decode cX1_takeApart 116 = .ok (.getfield 18, 3) := by decide +kernel
theorem d_cX1_takeApart_119 : decode cX1_takeApart 119 = .ok (.iload_n 3, 1) := by decide +kernel
theorem d_cX1_takeApart_120 : decode cX1_takeApart 120 = .ok (.aload_n 0, 1) := by decide +kernel
theorem d_cX1_takeApart_121 : decode cX1_takeApart 121 = .ok (.getfield 74, 3) := by decide +kernel
theorem d_cX1_takeApart_124 : decode cX1_takeApart 124 = .ok (.iload_n 3, 1) := by decide +kernel
theorem d_cX1_takeApart_125 : decode cX1_takeApart 125 = .ok (.isub, 1) := by decide +kernel
theorem d_cX1_takeApart_126 : decode cX1_takeApart 126 = .ok (.invokestatic 87, 3) := by decide +kernel
theorem w_5_131 : (Jvm.Cond.methodLink "SpillForge$Colouring" (87 : Nat) ({ cls := "java/lang/System", name := "arraycopy", desc := "(Ljava/lang/Object;ILjava/lang/Object;II)V" } : Jvm.MethodName)) ∈ gw := gw_5 131 rfl rfl
theorem d_cX1_takeApart_129 : decode cX1_takeApart 129 = .ok (.aload_n 0, 1) := by decide +kernel
theorem d_cX1_takeApart_130 : decode cX1_takeApart 130 = .ok (.getfield 21, 3) := by decide +kernel
theorem w_2_82 : (Jvm.Cond.fieldLink "SpillForge$Colouring" (21 : Nat) "SpillForge$Colouring" "pile" "[I") ∈ gw := gw_2 82 rfl rfl
theorem d_cX1_takeApart_133 : decode cX1_takeApart 133 = .ok (.aload_n 0, 1) := by decide +kernel
theorem d_cX1_takeApart_134 : decode cX1_takeApart 134 = .ok (.getfield 77, 3) := by decide +kernel
theorem d_cX1_takeApart_137 : decode cX1_takeApart 137 = .ok (.iload 4, 2) := by decide +kernel
theorem d_cX1_takeApart_139 : decode cX1_takeApart 139 = .ok (.iastore, 1) := by decide +kernel
theorem d_cX1_takeApart_140 : decode cX1_takeApart 140 = .ok (.aload_n 0, 1) := by decide +kernel
theorem d_cX1_takeApart_141 : decode cX1_takeApart 141 = .ok (.dup, 1) := by decide +kernel
theorem d_cX1_takeApart_142 : decode cX1_takeApart 142 = .ok (.getfield 77, 3) := by decide +kernel
theorem d_cX1_takeApart_145 : decode cX1_takeApart 145 = .ok (.iconst 1, 1) := by decide +kernel
theorem d_cX1_takeApart_146 : decode cX1_takeApart 146 = .ok (.iadd, 1) := by decide +kernel
theorem d_cX1_takeApart_147 : decode cX1_takeApart 147 = .ok (.putfield 77, 3) := by decide +kernel
theorem d_cX1_takeApart_150 : decode cX1_takeApart 150 = .ok (.aload_n 0, 1) := by decide +kernel
theorem d_cX1_takeApart_151 : decode cX1_takeApart 151 = .ok (.iload 4, 2) := by decide +kernel
theorem d_cX1_takeApart_153 : decode cX1_takeApart 153 = .ok (.invokevirtual 93, 3) := by decide +kernel
theorem w_5_132 : (Jvm.Cond.methodLink "SpillForge$Colouring" (93 : Nat) ({ cls := "SpillForge$Colouring", name := "leave", desc := "(I)V" } : Jvm.MethodName)) ∈ gw := gw_5 132 rfl rfl
theorem w_5_135 : (Jvm.Cond.code ({ cls := "SpillForge$Colouring", name := "leave", desc := "(I)V" } : Jvm.MethodName) prog_3_method_10_code (6 : Nat) (Option.none : Option Jvm.ClassFile.FieldType)) ∈ gw := gw_5 135 rfl rfl
theorem w_5_134 : (Jvm.Cond.instanceMethod ({ cls := "SpillForge$Colouring", name := "leave", desc := "(I)V" } : Jvm.MethodName)) ∈ gw := gw_5 134 rfl rfl
theorem w_p_45 : Cond.selects "SpillForge$Colouring" ⟨"SpillForge$Colouring", "leave", "(I)V"⟩ ⟨"SpillForge$Colouring", "leave", "(I)V"⟩ ∈ gw := gw_p _ 45 rfl rfl rfl
theorem d_cX1_takeApart_156 : decode cX1_takeApart 156 = .ok (.iinc 2 (-1), 3) := by decide +kernel
theorem d_cX1_takeApart_159 : decode cX1_takeApart 159 = .ok (.goto (-79), 3) := by decide +kernel
theorem d_cX1_takeApart_23 : decode cX1_takeApart 23 = .ok (.aload_n 0, 1) := by decide +kernel
theorem d_cX1_takeApart_24 : decode cX1_takeApart 24 = .ok (.getfield 15, 3) := by decide +kernel
theorem d_cX1_takeApart_27 : decode cX1_takeApart 27 = .ok (.iload_n 2, 1) := by decide +kernel
theorem d_cX1_takeApart_28 : decode cX1_takeApart 28 = .ok (.aload_n 0, 1) := by decide +kernel
theorem d_cX1_takeApart_29 : decode cX1_takeApart 29 = .ok (.getfield 27, 3) := by decide +kernel
theorem d_cX1_takeApart_32 : decode cX1_takeApart 32 = .ok (.getfield 83, 3) := by decide +kernel
theorem d_cX1_takeApart_35 : decode cX1_takeApart 35 = .ok (.iload_n 2, 1) := by decide +kernel
theorem d_cX1_takeApart_36 : decode cX1_takeApart 36 = .ok (.iaload, 1) := by decide +kernel
theorem d_cX1_takeApart_37 : decode cX1_takeApart 37 = .ok (.iastore, 1) := by decide +kernel
theorem d_cX1_takeApart_38 : decode cX1_takeApart 38 = .ok (.aload_n 0, 1) := by decide +kernel
theorem d_cX1_takeApart_39 : decode cX1_takeApart 39 = .ok (.getfield 27, 3) := by decide +kernel
theorem d_cX1_takeApart_42 : decode cX1_takeApart 42 = .ok (.iload_n 2, 1) := by decide +kernel
theorem d_cX1_takeApart_43 : decode cX1_takeApart 43 = .ok (.invokevirtual 31, 3) := by decide +kernel
theorem w_5_122 : (Jvm.Cond.methodLink "SpillForge$Colouring" (31 : Nat) ({ cls := "SpillForge$Graph", name := "stands", desc := "(I)Z" } : Jvm.MethodName)) ∈ gw := gw_5 122 rfl rfl
theorem d_cX1_takeApart_46 : decode cX1_takeApart 46 = .ok (.ifCond .eq 23, 3) := by decide +kernel
theorem d_cX1_takeApart_69 : decode cX1_takeApart 69 = .ok (.iinc 2 1, 3) := by decide +kernel
theorem d_cX1_takeApart_72 : decode cX1_takeApart 72 = .ok (.goto (-60), 3) := by decide +kernel
theorem d_cX1_takeApart_49 : decode cX1_takeApart 49 = .ok (.aload_n 0, 1) := by decide +kernel
theorem d_cX1_takeApart_50 : decode cX1_takeApart 50 = .ok (.getfield 18, 3) := by decide +kernel
theorem d_cX1_takeApart_53 : decode cX1_takeApart 53 = .ok (.aload_n 0, 1) := by decide +kernel
theorem d_cX1_takeApart_54 : decode cX1_takeApart 54 = .ok (.getfield 74, 3) := by decide +kernel
theorem d_cX1_takeApart_57 : decode cX1_takeApart 57 = .ok (.iload_n 2, 1) := by decide +kernel
theorem d_cX1_takeApart_58 : decode cX1_takeApart 58 = .ok (.iastore, 1) := by decide +kernel
theorem d_cX1_takeApart_59 : decode cX1_takeApart 59 = .ok (.aload_n 0, 1) := by decide +kernel
theorem d_cX1_takeApart_60 : decode cX1_takeApart 60 = .ok (.dup, 1) := by decide +kernel
theorem d_cX1_takeApart_61 : decode cX1_takeApart 61 = .ok (.getfield 74, 3) := by decide +kernel
theorem d_cX1_takeApart_64 : decode cX1_takeApart 64 = .ok (.iconst 1, 1) := by decide +kernel
theorem d_cX1_takeApart_65 : decode cX1_takeApart 65 = .ok (.iadd, 1) := by decide +kernel
theorem d_cX1_takeApart_66 : decode cX1_takeApart 66 = .ok (.putfield 74, 3) := by decide +kernel
theorem d_cX1_coloursAround_0 : decode cX1_coloursAround 0 = .ok (.lconst 0, 1) := by decide +kernel
theorem d_cX1_coloursAround_1 : decode cX1_coloursAround 1 = .ok (.lstore_n 2, 1) := by decide +kernel
theorem d_cX1_coloursAround_2 : decode cX1_coloursAround 2 = .ok (.iconst 0, 1) := by decide +kernel
theorem d_cX1_coloursAround_3 : decode cX1_coloursAround 3 = .ok (.istore 4, 2) := by decide +kernel
theorem d_cX1_coloursAround_5 : decode cX1_coloursAround 5 = .ok (.iload 4, 2) := by decide +kernel
theorem d_cX1_coloursAround_7 : decode cX1_coloursAround 7 = .ok (.aload_n 0, 1) := by decide +kernel
theorem d_cX1_coloursAround_8 : decode cX1_coloursAround 8 = .ok (.getfield 27, 3) := by decide +kernel
theorem d_cX1_coloursAround_11 : decode cX1_coloursAround 11 = .ok (.getfield 101, 3) := by decide +kernel
theorem d_cX1_coloursAround_14 : decode cX1_coloursAround 14 = .ok (.if_icmp .ge 98, 3) := by decide +kernel
theorem d_cX1_coloursAround_112 : decode cX1_coloursAround 112 = .ok (.lload_n 2, 1) := by decide +kernel
theorem d_cX1_coloursAround_113 : decode cX1_coloursAround 113 = .ok (.lreturn, 1) := by decide +kernel
theorem d_cX1_coloursAround_17 : decode cX1_coloursAround 17 = .ok (.aload_n 0, 1) := by decide +kernel
theorem d_cX1_coloursAround_18 : decode cX1_coloursAround 18 = .ok (.getfield 27, 3) := by decide +kernel
theorem d_cX1_coloursAround_21 : decode cX1_coloursAround 21 = .ok (.getfield 104, 3) := by decide +kernel
theorem d_cX1_coloursAround_24 : decode cX1_coloursAround 24 = .ok (.iload_n 1, 1) := by decide +kernel
theorem d_cX1_coloursAround_25 : decode cX1_coloursAround 25 = .ok (.aload_n 0, 1) := by decide +kernel
theorem d_cX1_coloursAround_26 : decode cX1_coloursAround 26 = .ok (.getfield 27, 3) := by decide +kernel
theorem d_cX1_coloursAround_29 : decode cX1_coloursAround 29 = .ok (.getfield 101, 3) := by decide +kernel
theorem d_cX1_coloursAround_32 : decode cX1_coloursAround 32 = .ok (.imul, 1) := by decide +kernel
theorem d_cX1_coloursAround_33 : decode cX1_coloursAround 33 = .ok (.iload 4, 2) := by decide +kernel
theorem d_cX1_coloursAround_35 : decode cX1_coloursAround 35 = .ok (.iadd, 1) := by decide +kernel
theorem d_cX1_coloursAround_36 : decode cX1_coloursAround 36 = .ok (.laload, 1) := by decide +kernel
theorem d_cX1_coloursAround_37 : decode cX1_coloursAround 37 = .ok (.lstore 5, 2) := by decide +kernel
theorem d_cX1_coloursAround_39 : decode cX1_coloursAround 39 = .ok (.iconst 0, 1) := by decide +kernel
theorem d_cX1_coloursAround_40 : decode cX1_coloursAround 40 = .ok (.istore 7, 2) := by decide +kernel
theorem d_cX1_coloursAround_42 : decode cX1_coloursAround 42 = .ok (.iload 7, 2) := by decide +kernel
theorem d_cX1_coloursAround_44 : decode cX1_coloursAround 44 = .ok (.bipush 64, 2) := by decide +kernel
theorem d_cX1_coloursAround_46 : decode cX1_coloursAround 46 = .ok (.if_icmp .ge 60, 3) := by decide +kernel
theorem d_cX1_coloursAround_106 : decode cX1_coloursAround 106 = .ok (.iinc 4 1, 3) := by decide +kernel
theorem d_cX1_coloursAround_109 : decode cX1_coloursAround 109 = .ok (.goto (-104), 3) := by decide +kernel
theorem d_cX1_coloursAround_49 : decode cX1_coloursAround 49 = .ok (.lload 5, 2) := by decide +kernel
theorem d_cX1_coloursAround_51 : decode cX1_coloursAround 51 = .ok (.lconst 0, 1) := by decide +kernel
theorem d_cX1_coloursAround_52 : decode cX1_coloursAround 52 = .ok (.lcmp, 1) := by decide +kernel
theorem d_cX1_coloursAround_53 : decode cX1_coloursAround 53 = .ok (.ifCond .eq 53, 3) := by decide +kernel
theorem d_cX1_coloursAround_56 : decode cX1_coloursAround 56 = .ok (.aload_n 0, 1) := by decide +kernel
theorem d_cX1_coloursAround_57 : decode cX1_coloursAround 57 = .ok (.getfield 24, 3) := by decide +kernel
theorem w_2_83 : (Jvm.Cond.fieldLink "SpillForge$Colouring" (24 : Nat) "SpillForge$Colouring" "colour" "[I") ∈ gw := gw_2 83 rfl rfl
theorem d_cX1_coloursAround_60 : decode cX1_coloursAround 60 = .ok (.iload 4, 2) := by decide +kernel
theorem d_cX1_coloursAround_62 : decode cX1_coloursAround 62 = .ok (.bipush 6, 2) := by decide +kernel
theorem d_cX1_coloursAround_64 : decode cX1_coloursAround 64 = .ok (.ishl, 1) := by decide +kernel
theorem d_cX1_coloursAround_65 : decode cX1_coloursAround 65 = .ok (.lload 5, 2) := by decide +kernel
theorem d_cX1_coloursAround_67 : decode cX1_coloursAround 67 = .ok (.invokestatic 108, 3) := by decide +kernel
theorem d_cX1_coloursAround_70 : decode cX1_coloursAround 70 = .ok (.ior, 1) := by decide +kernel
theorem d_cX1_coloursAround_71 : decode cX1_coloursAround 71 = .ok (.iaload, 1) := by decide +kernel
theorem d_cX1_coloursAround_72 : decode cX1_coloursAround 72 = .ok (.istore 8, 2) := by decide +kernel
theorem d_cX1_coloursAround_74 : decode cX1_coloursAround 74 = .ok (.lload 5, 2) := by decide +kernel
theorem d_cX1_coloursAround_76 : decode cX1_coloursAround 76 = .ok (.lload 5, 2) := by decide +kernel
theorem d_cX1_coloursAround_78 : decode cX1_coloursAround 78 = .ok (.lconst 1, 1) := by decide +kernel
theorem d_cX1_coloursAround_79 : decode cX1_coloursAround 79 = .ok (.lsub, 1) := by decide +kernel
theorem d_cX1_coloursAround_80 : decode cX1_coloursAround 80 = .ok (.land, 1) := by decide +kernel
theorem d_cX1_coloursAround_81 : decode cX1_coloursAround 81 = .ok (.lstore 5, 2) := by decide +kernel
theorem d_cX1_coloursAround_83 : decode cX1_coloursAround 83 = .ok (.lload_n 2, 1) := by decide +kernel
theorem d_cX1_coloursAround_84 : decode cX1_coloursAround 84 = .ok (.iload 8, 2) := by decide +kernel
theorem d_cX1_coloursAround_86 : decode cX1_coloursAround 86 = .ok (.iconst (-1), 1) := by decide +kernel
theorem d_cX1_coloursAround_87 : decode cX1_coloursAround 87 = .ok (.if_icmp .ne 7, 3) := by decide +kernel
theorem d_cX1_coloursAround_94 : decode cX1_coloursAround 94 = .ok (.lconst 1, 1) := by decide +kernel
theorem d_cX1_coloursAround_95 : decode cX1_coloursAround 95 = .ok (.iload 8, 2) := by decide +kernel
theorem d_cX1_coloursAround_97 : decode cX1_coloursAround 97 = .ok (.lshl, 1) := by decide +kernel
theorem d_cX1_coloursAround_98 : decode cX1_coloursAround 98 = .ok (.lor, 1) := by decide +kernel
theorem d_cX1_coloursAround_99 : decode cX1_coloursAround 99 = .ok (.lstore_n 2, 1) := by decide +kernel
theorem d_cX1_coloursAround_100 : decode cX1_coloursAround 100 = .ok (.iinc 7 1, 3) := by decide +kernel
theorem d_cX1_coloursAround_103 : decode cX1_coloursAround 103 = .ok (.goto (-61), 3) := by decide +kernel
theorem d_cX1_coloursAround_90 : decode cX1_coloursAround 90 = .ok (.lconst 0, 1) := by decide +kernel
theorem d_cX1_coloursAround_91 : decode cX1_coloursAround 91 = .ok (.goto 7, 3) := by decide +kernel
theorem d_cX1_putTogether_0 : decode cX1_putTogether 0 = .ok (.aload_n 0, 1) := by decide +kernel
theorem d_cX1_putTogether_1 : decode cX1_putTogether 1 = .ok (.getfield 24, 3) := by decide +kernel
theorem d_cX1_putTogether_4 : decode cX1_putTogether 4 = .ok (.iconst (-1), 1) := by decide +kernel
theorem d_cX1_putTogether_5 : decode cX1_putTogether 5 = .ok (.invokestatic 37, 3) := by decide +kernel
theorem d_cX1_putTogether_8 : decode cX1_putTogether 8 = .ok (.iconst 1, 1) := by decide +kernel
theorem d_cX1_putTogether_9 : decode cX1_putTogether 9 = .ok (.istore_n 2, 1) := by decide +kernel
theorem d_cX1_putTogether_10 : decode cX1_putTogether 10 = .ok (.aload_n 0, 1) := by decide +kernel
theorem d_cX1_putTogether_11 : decode cX1_putTogether 11 = .ok (.getfield 77, 3) := by decide +kernel
theorem d_cX1_putTogether_14 : decode cX1_putTogether 14 = .ok (.iconst 1, 1) := by decide +kernel
theorem d_cX1_putTogether_15 : decode cX1_putTogether 15 = .ok (.isub, 1) := by decide +kernel
theorem d_cX1_putTogether_16 : decode cX1_putTogether 16 = .ok (.istore_n 3, 1) := by decide +kernel
theorem d_cX1_putTogether_17 : decode cX1_putTogether 17 = .ok (.iload_n 3, 1) := by decide +kernel
theorem d_cX1_putTogether_18 : decode cX1_putTogether 18 = .ok (.ifCond .lt 52, 3) := by decide +kernel
theorem d_cX1_putTogether_70 : decode cX1_putTogether 70 = .ok (.iload_n 2, 1) := by decide +kernel
theorem d_cX1_putTogether_71 : decode cX1_putTogether 71 = .ok (.ireturn, 1) := by decide +kernel
theorem d_cX1_putTogether_21 : decode cX1_putTogether 21 = .ok (.aload_n 0, 1) := by decide +kernel
theorem d_cX1_putTogether_22 : decode cX1_putTogether 22 = .ok (.getfield 21, 3) := by decide +kernel
theorem d_cX1_putTogether_25 : decode cX1_putTogether 25 = .ok (.iload_n 3, 1) := by decide +kernel
theorem d_cX1_putTogether_26 : decode cX1_putTogether 26 = .ok (.iaload, 1) := by decide +kernel
theorem d_cX1_putTogether_27 : decode cX1_putTogether 27 = .ok (.istore 4, 2) := by decide +kernel
theorem d_cX1_putTogether_29 : decode cX1_putTogether 29 = .ok (.aload_n 0, 1) := by decide +kernel
theorem d_cX1_putTogether_30 : decode cX1_putTogether 30 = .ok (.iload 4, 2) := by decide +kernel
theorem d_cX1_putTogether_32 : decode cX1_putTogether 32 = .ok (.invokevirtual 112, 3) := by decide +kernel
theorem w_5_141 : (Jvm.Cond.methodLink "SpillForge$Colouring" (112 : Nat) ({ cls := "SpillForge$Colouring", name := "coloursAround", desc := "(I)J" } : Jvm.MethodName)) ∈ gw := gw_5 141 rfl rfl
theorem w_5_144 : (Jvm.Cond.code ({ cls := "SpillForge$Colouring", name := "coloursAround", desc := "(I)J" } : Jvm.MethodName) prog_3_method_12_code (9 : Nat) (Option.some Jvm.ClassFile.FieldType.long)) ∈ gw := gw_5 144 rfl rfl
theorem w_5_143 : (Jvm.Cond.instanceMethod ({ cls := "SpillForge$Colouring", name := "coloursAround", desc := "(I)J" } : Jvm.MethodName)) ∈ gw := gw_5 143 rfl rfl
theorem w_p_46 : Cond.selects "SpillForge$Colouring" ⟨"SpillForge$Colouring", "coloursAround", "(I)J"⟩ ⟨"SpillForge$Colouring", "coloursAround", "(I)J"⟩ ∈ gw := gw_p _ 46 rfl rfl rfl
theorem d_cX1_putTogether_35 : decode cX1_putTogether 35 = .ok (.ldc2_w 116, 3) := by decide +kernel
theorem w_5_145 : (Jvm.Cond.constantLong "SpillForge$Colouring" (116 : Nat) (-1 : Int64)) ∈ gw := gw_5 145 rfl rfl
theorem d_cX1_putTogether_38 : decode cX1_putTogether 38 = .ok (.lxor, 1) := by decide +kernel
theorem d_cX1_putTogether_39 : decode cX1_putTogether 39 = .ok (.invokestatic 108, 3) := by decide +kernel
theorem d_cX1_putTogether_42 : decode cX1_putTogether 42 = .ok (.istore 5, 2) := by decide +kernel
theorem d_cX1_putTogether_44 : decode cX1_putTogether 44 = .ok (.iload 5, 2) := by decide +kernel
theorem d_cX1_putTogether_46 : decode cX1_putTogether 46 = .ok (.iload_n 1, 1) := by decide +kernel
theorem d_cX1_putTogether_47 : decode cX1_putTogether 47 = .ok (.if_icmp .ge 15, 3) := by decide +kernel
theorem d_cX1_putTogether_62 : decode cX1_putTogether 62 = .ok (.iconst 0, 1) := by decide +kernel
theorem d_cX1_putTogether_63 : decode cX1_putTogether 63 = .ok (.istore_n 2, 1) := by decide +kernel
theorem d_cX1_putTogether_64 : decode cX1_putTogether 64 = .ok (.iinc 3 (-1), 3) := by decide +kernel
theorem d_cX1_putTogether_67 : decode cX1_putTogether 67 = .ok (.goto (-50), 3) := by decide +kernel
theorem d_cX1_putTogether_50 : decode cX1_putTogether 50 = .ok (.aload_n 0, 1) := by decide +kernel
theorem d_cX1_putTogether_51 : decode cX1_putTogether 51 = .ok (.getfield 24, 3) := by decide +kernel
theorem d_cX1_putTogether_54 : decode cX1_putTogether 54 = .ok (.iload 4, 2) := by decide +kernel
theorem d_cX1_putTogether_56 : decode cX1_putTogether 56 = .ok (.iload 5, 2) := by decide +kernel
theorem d_cX1_putTogether_58 : decode cX1_putTogether 58 = .ok (.iastore, 1) := by decide +kernel
theorem d_cX1_putTogether_59 : decode cX1_putTogether 59 = .ok (.goto 5, 3) := by decide +kernel
theorem d_cX1_isWithout_0 : decode cX1_isWithout 0 = .ok (.aload_n 0, 1) := by decide +kernel
theorem d_cX1_isWithout_1 : decode cX1_isWithout 1 = .ok (.getfield 27, 3) := by decide +kernel
theorem d_cX1_isWithout_4 : decode cX1_isWithout 4 = .ok (.iload_n 1, 1) := by decide +kernel
theorem d_cX1_isWithout_5 : decode cX1_isWithout 5 = .ok (.invokevirtual 31, 3) := by decide +kernel
theorem d_cX1_isWithout_8 : decode cX1_isWithout 8 = .ok (.ifCond .eq 17, 3) := by decide +kernel
theorem d_cX1_isWithout_25 : decode cX1_isWithout 25 = .ok (.iconst 0, 1) := by decide +kernel
theorem d_cX1_isWithout_26 : decode cX1_isWithout 26 = .ok (.ireturn, 1) := by decide +kernel
theorem d_cX1_isWithout_11 : decode cX1_isWithout 11 = .ok (.aload_n 0, 1) := by decide +kernel
theorem d_cX1_isWithout_12 : decode cX1_isWithout 12 = .ok (.getfield 24, 3) := by decide +kernel
theorem d_cX1_isWithout_15 : decode cX1_isWithout 15 = .ok (.iload_n 1, 1) := by decide +kernel
theorem d_cX1_isWithout_16 : decode cX1_isWithout 16 = .ok (.iaload, 1) := by decide +kernel
theorem d_cX1_isWithout_17 : decode cX1_isWithout 17 = .ok (.iconst (-1), 1) := by decide +kernel
theorem d_cX1_isWithout_18 : decode cX1_isWithout 18 = .ok (.if_icmp .ne 7, 3) := by decide +kernel
theorem d_cX1_isWithout_21 : decode cX1_isWithout 21 = .ok (.iconst 1, 1) := by decide +kernel
theorem d_cX1_isWithout_22 : decode cX1_isWithout 22 = .ok (.goto 4, 3) := by decide +kernel
abbrev ky_60372_Colouring_takeApart : gKey := (cX1_takeApart, 5, yX1_takeApart.cls, none, [], yX1_takeApart.name, fun _ _ => True)
abbrev po_60372_Colouring_takeApart (I : FieldType → ClassId) (q60334 : Nat) (q60335 : Nat) (q60336 : Nat) (q60337 : Nat) (q60338 : Nat) (q60339 : Nat) (q60340 : Nat) (q60341 : Nat) (q60342 : Nat) (q60343 : Nat) (q60344 : Nat) (q60345 : Nat) (q60346 : Nat) (q60347 : Nat) (q60348 : Nat) (p60349 : Int32) (p60350 : Int32) (p60351 : Int32) (p60352 : Int32) (p60353 : Int32) (f60354 : Nat → Int32) (f60355 : Nat → Int32) (f60356 : Nat → Int32) (f60357 : Nat → Int32) (f60358 : Nat → Int32) (p60359 : Int32) (p60360 : Int32) (p60361 : Int32) (f60362 : Nat → Int64) (f60363 : Nat → Int64) (f60364 : Nat → Int32) (f60365 : Nat → Int64) (f60366 : Nat → Int64) (f60367 : Nat → Int64) (f60368 : Nat → Int64) : Option Value → va_W → Prop := fun r w => ∃ (o63044 : Int32) (o63045 : Int32) (f63046 : Nat → Int32) (f63047 : Nat → Int32) (f63048 : Nat → Int32), r = none ∧ w = [(q60334, .inr (6, [.ref q60335, .ref q60336, .ref q60337, .ref q60338, .ref q60339, .ref q60340, .int o63044, .int o63045])), (q60335, .inr (8, [.ref q60341, .ref q60342, .ref q60343, .ref q60344, .int p60352, .int p60353])), (q60336, .inl (I .int, 720, .inl f60354)), (q60337, .inl (I .int, 720, .inl f63046)), (q60338, .inl (I .int, 720, .inl f63047)), (q60339, .inl (I .int, 720, .inl f63048)), (q60340, .inl (I .int, 720, .inl f60358)), (q60341, .inr (10, [.ref q60345, .ref q60346, .ref q60347, .ref q60348, .int p60359, .int p60360, .int p60361])), (q60342, .inl (I .long, 8640, .inr (.inl f60362))), (q60343, .inl (I .long, 12, .inr (.inl f60363))), (q60344, .inl (I .int, 720, .inl f60364)), (q60345, .inl (I .long, 480, .inr (.inl f60365))), (q60346, .inl (I .long, 480, .inr (.inl f60366))), (q60347, .inl (I .long, 480, .inr (.inl f60367))), (q60348, .inl (I .long, 12, .inr (.inl f60368)))] ∧ gB o63044 0 720 ∧ gB o63045 0 720 ∧ gF f63046 (-2147483648) 2147483647 ∧ gF f63047 0 719 ∧ gF f63048 0 719 ∧ gP f63048 (o63045.toInt) (p60352.toInt)
set_option maxRecDepth 100000 in
set_option maxHeartbeats 4000000 in
theorem ct_60372_Colouring_takeApart (l : Launch) (hl0 : l.stackTraces = false) (D : va_G) (I : FieldType → ClassId) (q60334 : Nat) (q60335 : Nat) (q60336 : Nat) (q60337 : Nat) (q60338 : Nat) (q60339 : Nat) (q60340 : Nat) (q60341 : Nat) (q60342 : Nat) (q60343 : Nat) (q60344 : Nat) (q60345 : Nat) (q60346 : Nat) (q60347 : Nat) (q60348 : Nat) (p60349 : Int32) (p60350 : Int32) (p60351 : Int32) (p60352 : Int32) (p60353 : Int32) (f60354 : Nat → Int32) (f60355 : Nat → Int32) (f60356 : Nat → Int32) (f60357 : Nat → Int32) (f60358 : Nat → Int32) (p60359 : Int32) (p60360 : Int32) (p60361 : Int32) (f60362 : Nat → Int64) (f60363 : Nat → Int64) (f60364 : Nat → Int32) (f60365 : Nat → Int64) (f60366 : Nat → Int64) (f60367 : Nat → Int64) (f60368 : Nat → Int64) (bp60350 : gB p60350 0 720) (bp60351 : gB p60351 0 720) (bp60352 : gB p60352 0 720) (bp60353 : gB p60353 0 12) (bf60356 : gF f60356 0 719) (bf60357 : gF f60357 0 719) (bp60359 : gB p60359 0 720) (bp60360 : gB p60360 0 12) (bp60361 : gB p60361 0 1) (x60369 : p60353.toInt = (p60352.toInt + 63) / 64) (x60370 : lb_W f60362 (p60352.toInt * p60353.toInt) (p60353.toInt) (p60352.toInt)) (x60371 : p60360.toInt = (p60359.toInt + 63) / 64) : Ct (gV D I) l yX1_takeApart cX1_takeApart 5 none 3 67 0 0 [.ref q60334, .int p60349] [(q60334, .inr (6, [.ref q60335, .ref q60336, .ref q60337, .ref q60338, .ref q60339, .ref q60340, .int p60350, .int p60351])), (q60335, .inr (8, [.ref q60341, .ref q60342, .ref q60343, .ref q60344, .int p60352, .int p60353])), (q60336, .inl (I .int, 720, .inl f60354)), (q60337, .inl (I .int, 720, .inl f60355)), (q60338, .inl (I .int, 720, .inl f60356)), (q60339, .inl (I .int, 720, .inl f60357)), (q60340, .inl (I .int, 720, .inl f60358)), (q60341, .inr (10, [.ref q60345, .ref q60346, .ref q60347, .ref q60348, .int p60359, .int p60360, .int p60361])), (q60342, .inl (I .long, 8640, .inr (.inl f60362))), (q60343, .inl (I .long, 12, .inr (.inl f60363))), (q60344, .inl (I .int, 720, .inl f60364)), (q60345, .inl (I .long, 480, .inr (.inl f60365))), (q60346, .inl (I .long, 480, .inr (.inl f60366))), (q60347, .inl (I .long, 480, .inr (.inl f60367))), (q60348, .inl (I .long, 12, .inr (.inl f60368)))] (po_60372_Colouring_takeApart I q60334 q60335 q60336 q60337 q60338 q60339 q60340 q60341 q60342 q60343 q60344 q60345 q60346 q60347 q60348 p60349 p60350 p60351 p60352 p60353 f60354 f60355 f60356 f60357 f60358 p60359 p60360 p60361 f60362 f60363 f60364 f60365 f60366 f60367 f60368) gN := by
  refine Ct_of hl0 (by decide) (Nat.le_of_ble_eq_true rfl) ?_
  have bp60349 := gB_any p60349
  refine G_aload_n 0 d_cX1_takeApart_0 rfl ?_
  refine G_iconst 0 d_cX1_takeApart_1 (by decide +kernel) ?_
  refine G_putf (ws' := [(q60334, .inr (6, [.ref q60335, .ref q60336, .ref q60337, .ref q60338, .ref q60339, .ref q60340, .int 0, .int p60351])), (q60335, .inr (8, [.ref q60341, .ref q60342, .ref q60343, .ref q60344, .int p60352, .int p60353])), (q60336, .inl (I .int, 720, .inl f60354)), (q60337, .inl (I .int, 720, .inl f60355)), (q60338, .inl (I .int, 720, .inl f60356)), (q60339, .inl (I .int, 720, .inl f60357)), (q60340, .inl (I .int, 720, .inl f60358)), (q60341, .inr (10, [.ref q60345, .ref q60346, .ref q60347, .ref q60348, .int p60359, .int p60360, .int p60361])), (q60342, .inl (I .long, 8640, .inr (.inl f60362))), (q60343, .inl (I .long, 12, .inr (.inl f60363))), (q60344, .inl (I .int, 720, .inl f60364)), (q60345, .inl (I .long, 480, .inr (.inl f60365))), (q60346, .inl (I .long, 480, .inr (.inl f60366))), (q60347, .inl (I .long, 480, .inr (.inl f60367))), (q60348, .inl (I .long, 12, .inr (.inl f60368)))]) 0 6 d_cX1_takeApart_2 rfl (gk_X1 D I) (Nat.le_of_ble_eq_true rfl) w_2_84 rfl rfl rfl (Nat.le_of_ble_eq_true rfl) rfl ?_
  refine G_aload_n 0 d_cX1_takeApart_5 rfl ?_
  refine G_iconst 0 d_cX1_takeApart_6 (by decide +kernel) ?_
  refine G_putf (ws' := [(q60334, .inr (6, [.ref q60335, .ref q60336, .ref q60337, .ref q60338, .ref q60339, .ref q60340, .int 0, .int 0])), (q60335, .inr (8, [.ref q60341, .ref q60342, .ref q60343, .ref q60344, .int p60352, .int p60353])), (q60336, .inl (I .int, 720, .inl f60354)), (q60337, .inl (I .int, 720, .inl f60355)), (q60338, .inl (I .int, 720, .inl f60356)), (q60339, .inl (I .int, 720, .inl f60357)), (q60340, .inl (I .int, 720, .inl f60358)), (q60341, .inr (10, [.ref q60345, .ref q60346, .ref q60347, .ref q60348, .int p60359, .int p60360, .int p60361])), (q60342, .inl (I .long, 8640, .inr (.inl f60362))), (q60343, .inl (I .long, 12, .inr (.inl f60363))), (q60344, .inl (I .int, 720, .inl f60364)), (q60345, .inl (I .long, 480, .inr (.inl f60365))), (q60346, .inl (I .long, 480, .inr (.inl f60366))), (q60347, .inl (I .long, 480, .inr (.inl f60367))), (q60348, .inl (I .long, 12, .inr (.inl f60368)))]) 0 7 d_cX1_takeApart_7 rfl (gk_X1 D I) (Nat.le_of_ble_eq_true rfl) w_2_85 rfl rfl rfl (Nat.le_of_ble_eq_true rfl) rfl ?_
  refine G_iconst 0 d_cX1_takeApart_10 (by decide +kernel) ?_
  refine G_istore_n (L' := [(2, .int 0), (0, .ref q60334), (1, .int p60349)]) d_cX1_takeApart_11 (Nat.le_of_ble_eq_true rfl) rfl ?_
  have hlp12_62957 : ∀ (n12_62957 : Nat) (g62952 : Int32) (f62953 : Nat → Int32) (g62954 : Int32) (f62955 : Nat → Int32), gB g62952 0 2147483647 → gF f62953 (-2147483648) 2147483647 → gB g62954 0 720 → gF f62955 0 719 → g62954.toInt ≤ g62952.toInt → gP f62955 (g62954.toInt) (p60352.toInt) → ((2147483648 : Int) - g62952.toInt).toNat < n12_62957 → G (gV D I) l (gRm 3 67 0 0) (gM (gV D I) (po_60372_Colouring_takeApart I q60334 q60335 q60336 q60337 q60338 q60339 q60340 q60341 q60342 q60343 q60344 q60345 q60346 q60347 q60348 p60349 p60350 p60351 p60352 p60353 f60354 f60355 f60356 f60357 f60358 p60359 p60360 p60361 f60362 f60363 f60364 f60365 f60366 f60367 f60368) gN 0 0) ky_60372_Colouring_takeApart 12 [(2, .int g62952), (0, .ref q60334), (1, .int p60349)] [] [(q60334, .inr (6, [.ref q60335, .ref q60336, .ref q60337, .ref q60338, .ref q60339, .ref q60340, .int g62954, .int 0])), (q60335, .inr (8, [.ref q60341, .ref q60342, .ref q60343, .ref q60344, .int p60352, .int p60353])), (q60336, .inl (I .int, 720, .inl f60354)), (q60337, .inl (I .int, 720, .inl f62953)), (q60338, .inl (I .int, 720, .inl f62955)), (q60339, .inl (I .int, 720, .inl f60357)), (q60340, .inl (I .int, 720, .inl f60358)), (q60341, .inr (10, [.ref q60345, .ref q60346, .ref q60347, .ref q60348, .int p60359, .int p60360, .int p60361])), (q60342, .inl (I .long, 8640, .inr (.inl f60362))), (q60343, .inl (I .long, 12, .inr (.inl f60363))), (q60344, .inl (I .int, 720, .inl f60364)), (q60345, .inl (I .long, 480, .inr (.inl f60365))), (q60346, .inl (I .long, 480, .inr (.inl f60366))), (q60347, .inl (I .long, 480, .inr (.inl f60367))), (q60348, .inl (I .long, 12, .inr (.inl f60368)))] 0 0 := by
    intro n12_62957
    induction n12_62957 with
    | zero => intro g62952 f62953 g62954 f62955 bg62952 bf62953 bg62954 bf62955 x62956 x62957 hm12_62957; exact absurd hm12_62957 (Nat.not_lt_zero _)
    | succ n12_62957 ih12_62957 =>
      intro g62952 f62953 g62954 f62955 bg62952 bf62953 bg62954 bf62955 x62956 x62957 hm12_62957
      refine G_iload_n 0 d_cX1_takeApart_12 rfl ?_
      refine G_aload_n 1 d_cX1_takeApart_13 rfl ?_
      refine G_getf 0 0 d_cX1_takeApart_14 rfl (gk_X1 D I) (Nat.le_of_ble_eq_true rfl) w_2_78 rfl ?_
      refine G_getfN 1 4 d_cX1_takeApart_17 rfl (gk_X3 D I) (Nat.le_of_ble_eq_true rfl) (fun _ _ _ h => gn_w 59 rfl h) rfl ?_
      refine G_icmp_ge 75 d_cX1_takeApart_20 (by decide +kernel) (fun hc62958 => ?_) (fun hc62958 => ?_)
      · have r62959 : p60352.toInt ≤ g62952.toInt := gC_le hc62958
        refine G_aload_n 1 d_cX1_takeApart_75 rfl ?_
        refine G_getf 0 6 d_cX1_takeApart_76 rfl (gk_X1 D I) (Nat.le_of_ble_eq_true rfl) w_2_84 rfl ?_
        refine G_istore_n (L' := [(2, .int g62954), (0, .ref q60334), (1, .int p60349)]) d_cX1_takeApart_79 (Nat.le_of_ble_eq_true rfl) rfl ?_
        have hlp80_63002 : ∀ (n80_63002 : Nat) (g62993 : Int32) (g62994 : Int32) (g62995 : Int32) (f62996 : Nat → Int32) (f62997 : Nat → Int32) (f62998 : Nat → Int32), gB g62993 0 720 → gB g62994 0 720 → gB g62995 0 720 → gF f62996 (-2147483648) 2147483647 → gF f62997 0 719 → gF f62998 0 719 → g62993.toInt = g62994.toInt → g62995.toInt + g62993.toInt ≤ 720 → gP f62997 (g62994.toInt) (p60352.toInt) → gP f62998 (g62995.toInt) (p60352.toInt) → ((g62993.toInt : Int) - (-1)).toNat < n80_63002 → G (gV D I) l (gRm 3 67 0 0) (gM (gV D I) (po_60372_Colouring_takeApart I q60334 q60335 q60336 q60337 q60338 q60339 q60340 q60341 q60342 q60343 q60344 q60345 q60346 q60347 q60348 p60349 p60350 p60351 p60352 p60353 f60354 f60355 f60356 f60357 f60358 p60359 p60360 p60361 f60362 f60363 f60364 f60365 f60366 f60367 f60368) gN 0 0) ky_60372_Colouring_takeApart 80 [(2, .int g62993), (0, .ref q60334), (1, .int p60349)] [] [(q60334, .inr (6, [.ref q60335, .ref q60336, .ref q60337, .ref q60338, .ref q60339, .ref q60340, .int g62994, .int g62995])), (q60335, .inr (8, [.ref q60341, .ref q60342, .ref q60343, .ref q60344, .int p60352, .int p60353])), (q60336, .inl (I .int, 720, .inl f60354)), (q60337, .inl (I .int, 720, .inl f62996)), (q60338, .inl (I .int, 720, .inl f62997)), (q60339, .inl (I .int, 720, .inl f62998)), (q60340, .inl (I .int, 720, .inl f60358)), (q60341, .inr (10, [.ref q60345, .ref q60346, .ref q60347, .ref q60348, .int p60359, .int p60360, .int p60361])), (q60342, .inl (I .long, 8640, .inr (.inl f60362))), (q60343, .inl (I .long, 12, .inr (.inl f60363))), (q60344, .inl (I .int, 720, .inl f60364)), (q60345, .inl (I .long, 480, .inr (.inl f60365))), (q60346, .inl (I .long, 480, .inr (.inl f60366))), (q60347, .inl (I .long, 480, .inr (.inl f60367))), (q60348, .inl (I .long, 12, .inr (.inl f60368)))] 0 0 := by
          intro n80_63002
          induction n80_63002 with
          | zero => intro g62993 g62994 g62995 f62996 f62997 f62998 bg62993 bg62994 bg62995 bf62996 bf62997 bf62998 x62999 x63000 x63001 x63002 hm80_63002; exact absurd hm80_63002 (Nat.not_lt_zero _)
          | succ n80_63002 ih80_63002 =>
            intro g62993 g62994 g62995 f62996 f62997 f62998 bg62993 bg62994 bg62995 bf62996 bf62997 bf62998 x62999 x63000 x63001 x63002 hm80_63002
            refine G_iload_n 0 d_cX1_takeApart_80 rfl ?_
            refine G_if_le 162 d_cX1_takeApart_81 (by decide +kernel) (fun hc63003 => ?_) (fun hc63003 => ?_)
            · have r63004 : g62993.toInt ≤ 0 := gj_le hc63003 (show Int32.toInt 0 = 0 by decide)
              have bg62993' : gB g62993 0 0 := ⟨by omega, by omega⟩
              exact G_vret d_cX1_takeApart_162 rfl (Nat.le_of_ble_eq_true rfl) (Nat.le_of_ble_eq_true rfl) ⟨g62994, g62995, f62996, f62997, f62998, rfl, rfl, bg62994, bg62995, bf62996, bf62997, bf62998, x63002⟩
            · have r63005 : 0 < g62993.toInt := gj_nle hc63003 (show Int32.toInt 0 = 0 by decide)
              have bg62993' : gB g62993 1 720 := ⟨by omega, by omega⟩
              refine G_aload_n 1 d_cX1_takeApart_84 rfl ?_
              refine G_iload_n 2 d_cX1_takeApart_85 rfl ?_
              refine G_callV (As := [.int p60349]) (wr := []) (gV_ok D I) (ct_60450_Colouring_nextOfRest l hl0 D I q60334 q60335 q60336 q60337 q60338 q60339 q60340 q60341 q60342 q60343 q60344 q60345 q60346 q60347 q60348 p60349 g62994 g62995 p60352 p60353 f60354 f62996 f62997 f62998 f60358 p60359 p60360 p60361 f60362 f60363 f60364 f60365 f60366 f60367 f60368 bg62994 bg62995 bp60352 bp60353 bf62997 bf62998 bp60359 bp60360 bp60361 (by omega) (by omega) x60370 (by omega)) d_cX1_takeApart_86 ⟨w_5_123, w_1_11, w_5_126, by decide, rfl, (Nat.le_of_ble_eq_true rfl), (Nat.le_of_ble_eq_true rfl)⟩ w_5_125 w_p_43 0 rfl rfl [0, 1, 2, 3, 4, 5, 6, 7, 8, 9, 10, 11, 12, 13, 14] [] rfl rfl rfl rfl (by decide) (Nat.le_of_ble_eq_true rfl) (Nat.le_of_ble_eq_true rfl) (Nat.le_of_ble_eq_true rfl) (fun r w hp => ?_) (fun _ _ _ z => z.elim)
              obtain ⟨o63006, rfl, rfl, bo63006, x63007⟩ := hp
              change G _ _ _ _ _ _ _ (.int o63006 :: _) _ _ _
              refine G_ws (ws' := [(q60334, .inr (6, [.ref q60335, .ref q60336, .ref q60337, .ref q60338, .ref q60339, .ref q60340, .int g62994, .int g62995])), (q60335, .inr (8, [.ref q60341, .ref q60342, .ref q60343, .ref q60344, .int p60352, .int p60353])), (q60336, .inl (I .int, 720, .inl f60354)), (q60337, .inl (I .int, 720, .inl f62996)), (q60338, .inl (I .int, 720, .inl f62997)), (q60339, .inl (I .int, 720, .inl f62998)), (q60340, .inl (I .int, 720, .inl f60358)), (q60341, .inr (10, [.ref q60345, .ref q60346, .ref q60347, .ref q60348, .int p60359, .int p60360, .int p60361])), (q60342, .inl (I .long, 8640, .inr (.inl f60362))), (q60343, .inl (I .long, 12, .inr (.inl f60363))), (q60344, .inl (I .int, 720, .inl f60364)), (q60345, .inl (I .long, 480, .inr (.inl f60365))), (q60346, .inl (I .long, 480, .inr (.inl f60366))), (q60347, .inl (I .long, 480, .inr (.inl f60367))), (q60348, .inl (I .long, 12, .inr (.inl f60368)))]) (cs' := 0) (sl' := 0) rfl rfl rfl ?_
              refine G_istore_n (L' := [(3, .int o63006), (2, .int g62993), (0, .ref q60334), (1, .int p60349)]) d_cX1_takeApart_89 (Nat.le_of_ble_eq_true rfl) rfl ?_
              have bo63006' : gB o63006 0 719 := ⟨by omega, by omega⟩
              refine G_aload_n 2 d_cX1_takeApart_90 rfl ?_
              refine G_getf 0 3 d_cX1_takeApart_91 rfl (gk_X1 D I) (Nat.le_of_ble_eq_true rfl) w_2_81 rfl ?_
              refine G_iload_n 0 d_cX1_takeApart_94 rfl ?_
              refine G_iald 4 0 d_cX1_takeApart_95 rfl rfl (gB_in bo63006' (by decide) (by decide)) (G_nam fun z63008 hz63008 => ?_)
              have bz63008 : gB z63008 0 719 := by rw [hz63008]; exact bf62997 _
              have pz63008 := gP_ld hz63008 x63001 (by omega) (by omega)
              refine G_istore (L' := [(4, .int z63008), (3, .int o63006), (2, .int g62993), (0, .ref q60334), (1, .int p60349)]) d_cX1_takeApart_96 (Nat.le_of_ble_eq_true rfl) rfl ?_
              refine G_aload_n 3 d_cX1_takeApart_98 rfl ?_
              refine G_dup d_cX1_takeApart_99 rfl ?_
              refine G_getf 0 6 d_cX1_takeApart_100 rfl (gk_X1 D I) (Nat.le_of_ble_eq_true rfl) w_2_84 rfl ?_
              refine G_iconst 1 d_cX1_takeApart_103 (by decide +kernel) ?_
              refine G_isub d_cX1_takeApart_104 (G_nam fun z63009 hz63009 => ?_)
              have ez63009 : z63009.toInt = g62994.toInt - 1 := by rw [gI_sub hz63009 bg62994 (gBl (show Int32.toInt 1 = 1 by decide)) (by decide) (by decide), show Int32.toInt 1 = 1 from by decide]
              have bz63009 : gB z63009 (-1) 719 := gB_sub (gI_sub hz63009 bg62994 (gBl (show Int32.toInt 1 = 1 by decide)) (by decide) (by decide)) bg62994 (gBl (show Int32.toInt 1 = 1 by decide)) (by decide) (by decide)
              refine G_putf (ws' := [(q60334, .inr (6, [.ref q60335, .ref q60336, .ref q60337, .ref q60338, .ref q60339, .ref q60340, .int z63009, .int g62995])), (q60335, .inr (8, [.ref q60341, .ref q60342, .ref q60343, .ref q60344, .int p60352, .int p60353])), (q60336, .inl (I .int, 720, .inl f60354)), (q60337, .inl (I .int, 720, .inl f62996)), (q60338, .inl (I .int, 720, .inl f62997)), (q60339, .inl (I .int, 720, .inl f62998)), (q60340, .inl (I .int, 720, .inl f60358)), (q60341, .inr (10, [.ref q60345, .ref q60346, .ref q60347, .ref q60348, .int p60359, .int p60360, .int p60361])), (q60342, .inl (I .long, 8640, .inr (.inl f60362))), (q60343, .inl (I .long, 12, .inr (.inl f60363))), (q60344, .inl (I .int, 720, .inl f60364)), (q60345, .inl (I .long, 480, .inr (.inl f60365))), (q60346, .inl (I .long, 480, .inr (.inl f60366))), (q60347, .inl (I .long, 480, .inr (.inl f60367))), (q60348, .inl (I .long, 12, .inr (.inl f60368)))]) 0 6 d_cX1_takeApart_105 rfl (gk_X1 D I) (Nat.le_of_ble_eq_true rfl) w_2_84 rfl rfl rfl (Nat.le_of_ble_eq_true rfl) rfl ?_
              refine G_aload_n 3 d_cX1_takeApart_108 rfl ?_
              refine G_getf 0 3 d_cX1_takeApart_109 rfl (gk_X1 D I) (Nat.le_of_ble_eq_true rfl) w_2_81 rfl ?_
              refine G_iload_n 1 d_cX1_takeApart_112 rfl ?_
              refine G_iconst 1 d_cX1_takeApart_113 (by decide +kernel) ?_
              refine G_iadd d_cX1_takeApart_114 (G_nam fun z63010 hz63010 => ?_)
              have ez63010 : z63010.toInt = o63006.toInt + 1 := by rw [gI_add hz63010 bo63006' (gBl (show Int32.toInt 1 = 1 by decide)) (by decide) (by decide), show Int32.toInt 1 = 1 from by decide]
              have bz63010 : gB z63010 1 720 := gB_add (gI_add hz63010 bo63006' (gBl (show Int32.toInt 1 = 1 by decide)) (by decide) (by decide)) bo63006' (gBl (show Int32.toInt 1 = 1 by decide)) (by decide) (by decide)
              refine G_aload_n 3 d_cX1_takeApart_115 rfl ?_
              refine G_getf 0 3 d_cX1_takeApart_116 rfl (gk_X1 D I) (Nat.le_of_ble_eq_true rfl) w_2_81 rfl ?_
              refine G_iload_n 1 d_cX1_takeApart_119 rfl ?_
              refine G_aload_n 3 d_cX1_takeApart_120 rfl ?_
              refine G_getf 0 6 d_cX1_takeApart_121 rfl (gk_X1 D I) (Nat.le_of_ble_eq_true rfl) w_2_84 rfl ?_
              refine G_iload_n 1 d_cX1_takeApart_124 rfl ?_
              refine G_isub d_cX1_takeApart_125 (G_nam fun z63011 hz63011 => ?_)
              have ez63011 : z63011.toInt = z63009.toInt - o63006.toInt := by rw [gI_sub hz63011 bz63009 bo63006' (by decide) (by decide)]
              have bz63011 : gB z63011 (-720) 719 := gB_sub (gI_sub hz63011 bz63009 bo63006' (by decide) (by decide)) bz63009 bo63006' (by decide) (by decide)
              refine G_copyi 4 4 0 0 d_cX1_takeApart_126 w_5_131 w_5_113 w_5_112 w_1_34 rfl rfl rfl rfl (by omega) (by omega) (by omega) (by omega) (by omega) (Nat.le_of_ble_eq_true rfl) (Nat.le_of_ble_eq_true rfl) (fun f63012 hf63012 => ?_)
              refine G_ws (ws' := [(q60334, .inr (6, [.ref q60335, .ref q60336, .ref q60337, .ref q60338, .ref q60339, .ref q60340, .int z63009, .int g62995])), (q60335, .inr (8, [.ref q60341, .ref q60342, .ref q60343, .ref q60344, .int p60352, .int p60353])), (q60336, .inl (I .int, 720, .inl f60354)), (q60337, .inl (I .int, 720, .inl f62996)), (q60338, .inl (I .int, 720, .inl f63012)), (q60339, .inl (I .int, 720, .inl f62998)), (q60340, .inl (I .int, 720, .inl f60358)), (q60341, .inr (10, [.ref q60345, .ref q60346, .ref q60347, .ref q60348, .int p60359, .int p60360, .int p60361])), (q60342, .inl (I .long, 8640, .inr (.inl f60362))), (q60343, .inl (I .long, 12, .inr (.inl f60363))), (q60344, .inl (I .int, 720, .inl f60364)), (q60345, .inl (I .long, 480, .inr (.inl f60365))), (q60346, .inl (I .long, 480, .inr (.inl f60366))), (q60347, .inl (I .long, 480, .inr (.inl f60367))), (q60348, .inl (I .long, 12, .inr (.inl f60368)))]) (cs' := 0) (sl' := 0) rfl rfl rfl ?_
              have wf63012 : gP f63012 (z63009.toInt) (p60352.toInt) := gP_cpy hf63012 (gP_le x63001 (by omega)) (by omega) (by omega) (by omega) (by omega)
              have bf63012 : gF f63012 0 719 := gF_cpy hf63012 bf62997 bf62997
              refine G_aload_n 3 d_cX1_takeApart_129 rfl ?_
              refine G_getf 0 4 d_cX1_takeApart_130 rfl (gk_X1 D I) (Nat.le_of_ble_eq_true rfl) w_2_82 rfl ?_
              refine G_aload_n 3 d_cX1_takeApart_133 rfl ?_
              refine G_getf 0 7 d_cX1_takeApart_134 rfl (gk_X1 D I) (Nat.le_of_ble_eq_true rfl) w_2_85 rfl ?_
              refine G_iload 0 d_cX1_takeApart_137 rfl ?_
              refine G_iastN 5 0 d_cX1_takeApart_139 rfl rfl (gB_inr (by omega) (by omega)) (fun f63013 hf63013 => ?_)
              refine G_ws (ws' := [(q60334, .inr (6, [.ref q60335, .ref q60336, .ref q60337, .ref q60338, .ref q60339, .ref q60340, .int z63009, .int g62995])), (q60335, .inr (8, [.ref q60341, .ref q60342, .ref q60343, .ref q60344, .int p60352, .int p60353])), (q60336, .inl (I .int, 720, .inl f60354)), (q60337, .inl (I .int, 720, .inl f62996)), (q60338, .inl (I .int, 720, .inl f63012)), (q60339, .inl (I .int, 720, .inl f63013)), (q60340, .inl (I .int, 720, .inl f60358)), (q60341, .inr (10, [.ref q60345, .ref q60346, .ref q60347, .ref q60348, .int p60359, .int p60360, .int p60361])), (q60342, .inl (I .long, 8640, .inr (.inl f60362))), (q60343, .inl (I .long, 12, .inr (.inl f60363))), (q60344, .inl (I .int, 720, .inl f60364)), (q60345, .inl (I .long, 480, .inr (.inl f60365))), (q60346, .inl (I .long, 480, .inr (.inl f60366))), (q60347, .inl (I .long, 480, .inr (.inl f60367))), (q60348, .inl (I .long, 12, .inr (.inl f60368)))]) (cs' := 0) (sl' := 0) rfl rfl rfl ?_
              have wf63013 : gP f63013 (g62995.toInt + 1) (p60352.toInt) := gP_ext hf63013 x63002 (by omega) (by omega) (by omega)
              have bf63013 : gF f63013 0 719 := gF_upd hf63013 bf62998 bz63008
              refine G_aload_n 3 d_cX1_takeApart_140 rfl ?_
              refine G_dup d_cX1_takeApart_141 rfl ?_
              refine G_getf 0 7 d_cX1_takeApart_142 rfl (gk_X1 D I) (Nat.le_of_ble_eq_true rfl) w_2_85 rfl ?_
              refine G_iconst 1 d_cX1_takeApart_145 (by decide +kernel) ?_
              refine G_iadd d_cX1_takeApart_146 (G_nam fun z63014 hz63014 => ?_)
              have ez63014 : z63014.toInt = g62995.toInt + 1 := by rw [gI_add hz63014 bg62995 (gBl (show Int32.toInt 1 = 1 by decide)) (by decide) (by decide), show Int32.toInt 1 = 1 from by decide]
              have bz63014 : gB z63014 1 721 := gB_add (gI_add hz63014 bg62995 (gBl (show Int32.toInt 1 = 1 by decide)) (by decide) (by decide)) bg62995 (gBl (show Int32.toInt 1 = 1 by decide)) (by decide) (by decide)
              refine G_putf (ws' := [(q60334, .inr (6, [.ref q60335, .ref q60336, .ref q60337, .ref q60338, .ref q60339, .ref q60340, .int z63009, .int z63014])), (q60335, .inr (8, [.ref q60341, .ref q60342, .ref q60343, .ref q60344, .int p60352, .int p60353])), (q60336, .inl (I .int, 720, .inl f60354)), (q60337, .inl (I .int, 720, .inl f62996)), (q60338, .inl (I .int, 720, .inl f63012)), (q60339, .inl (I .int, 720, .inl f63013)), (q60340, .inl (I .int, 720, .inl f60358)), (q60341, .inr (10, [.ref q60345, .ref q60346, .ref q60347, .ref q60348, .int p60359, .int p60360, .int p60361])), (q60342, .inl (I .long, 8640, .inr (.inl f60362))), (q60343, .inl (I .long, 12, .inr (.inl f60363))), (q60344, .inl (I .int, 720, .inl f60364)), (q60345, .inl (I .long, 480, .inr (.inl f60365))), (q60346, .inl (I .long, 480, .inr (.inl f60366))), (q60347, .inl (I .long, 480, .inr (.inl f60367))), (q60348, .inl (I .long, 12, .inr (.inl f60368)))]) 0 7 d_cX1_takeApart_147 rfl (gk_X1 D I) (Nat.le_of_ble_eq_true rfl) w_2_85 rfl rfl rfl (Nat.le_of_ble_eq_true rfl) rfl ?_
              refine G_aload_n 3 d_cX1_takeApart_150 rfl ?_
              refine G_iload 0 d_cX1_takeApart_151 rfl ?_
              refine G_callV (As := [.int z63008]) (wr := []) (gV_ok D I) (ct_61438_Colouring_leave l hl0 D I q60334 q60335 q60336 q60337 q60338 q60339 q60340 q60341 q60342 q60343 q60344 q60345 q60346 q60347 q60348 z63008 z63009 z63014 p60352 p60353 f60354 f62996 f63012 f63013 f60358 p60359 p60360 p60361 f60362 f60363 f60364 f60365 f60366 f60367 f60368 bz63008 ⟨by omega, by omega⟩ ⟨by omega, by omega⟩ bp60352 bp60353 bf63012 bf63013 bp60359 bp60360 bp60361 (by omega) (by omega) x60370 (by omega)) d_cX1_takeApart_153 ⟨w_5_132, w_1_11, w_5_135, by decide, rfl, (Nat.le_of_ble_eq_true rfl), (Nat.le_of_ble_eq_true rfl)⟩ w_5_134 w_p_45 0 rfl rfl [0, 1, 2, 3, 4, 5, 6, 7, 8, 9, 10, 11, 12, 13, 14] [] rfl rfl rfl rfl (by decide) (Nat.le_of_ble_eq_true rfl) (Nat.le_of_ble_eq_true rfl) (Nat.le_of_ble_eq_true rfl) (fun r w hp => ?_) (fun _ _ _ z => z.elim)
              obtain ⟨f63015, rfl, rfl, bf63015⟩ := hp
              change G _ _ _ _ _ _ _ _ _ _ _
              refine G_ws (ws' := [(q60334, .inr (6, [.ref q60335, .ref q60336, .ref q60337, .ref q60338, .ref q60339, .ref q60340, .int z63009, .int z63014])), (q60335, .inr (8, [.ref q60341, .ref q60342, .ref q60343, .ref q60344, .int p60352, .int p60353])), (q60336, .inl (I .int, 720, .inl f60354)), (q60337, .inl (I .int, 720, .inl f63015)), (q60338, .inl (I .int, 720, .inl f63012)), (q60339, .inl (I .int, 720, .inl f63013)), (q60340, .inl (I .int, 720, .inl f60358)), (q60341, .inr (10, [.ref q60345, .ref q60346, .ref q60347, .ref q60348, .int p60359, .int p60360, .int p60361])), (q60342, .inl (I .long, 8640, .inr (.inl f60362))), (q60343, .inl (I .long, 12, .inr (.inl f60363))), (q60344, .inl (I .int, 720, .inl f60364)), (q60345, .inl (I .long, 480, .inr (.inl f60365))), (q60346, .inl (I .long, 480, .inr (.inl f60366))), (q60347, .inl (I .long, 480, .inr (.inl f60367))), (q60348, .inl (I .long, 12, .inr (.inl f60368)))]) (cs' := 0) (sl' := 0) rfl rfl rfl ?_
              obtain ⟨z63016, hz63016⟩ : ∃ z : Int32, z = g62993 + Int32.ofInt (-1) := ⟨_, rfl⟩
              have ez63016 : z63016.toInt = g62993.toInt + (-1) := gI_inc hz63016 (by decide) bg62993' (by decide) (by decide)
              have bz63016 : gB z63016 0 719 := ⟨by omega, by omega⟩
              refine G_iinc (L' := [(2, .int z63016), (4, .int z63008), (3, .int o63006), (0, .ref q60334), (1, .int p60349)]) z63016 2 d_cX1_takeApart_156 rfl hz63016.symm (Nat.le_of_ble_eq_true rfl) rfl ?_
              refine G_goto 80 d_cX1_takeApart_159 (by decide +kernel) ?_
              refine G_lv (L' := [(2, .int z63016), (0, .ref q60334), (1, .int p60349)]) [0, 3, 4] rfl ?_
              exact ih80_63002 z63016 z63009 z63014 f63015 f63012 f63013 (gB_w bz63016 (by decide) (by decide)) ⟨by omega, by omega⟩ ⟨by omega, by omega⟩ bf63015 bf63012 bf63013 (by omega) (by omega) wf63012 (gP_le wf63013 (by omega)) (by omega)
        exact hlp80_63002 (((g62954.toInt : Int) - (-1)).toNat + 1) g62954 g62954 0 f62953 f62955 f60357 bg62954 bg62954 (gB_w (gBl (show Int32.toInt 0 = 0 by decide)) (by decide) (by decide)) bf62953 bf62955 bf60357 (by have qa0 : Int32.toInt 0 = 0 := (by decide); omega) (by have qa0 : Int32.toInt 0 = 0 := (by decide); omega) x62957 gP_0 (Nat.lt_succ_self _)
      · have r63017 : g62952.toInt < p60352.toInt := gC_nle hc62958
        have bg62952' : gB g62952 0 719 := ⟨by omega, by omega⟩
        have bp60352' : gB p60352 1 720 := ⟨by omega, by omega⟩
        refine G_aload_n 1 d_cX1_takeApart_23 rfl ?_
        refine G_getf 0 2 d_cX1_takeApart_24 rfl (gk_X1 D I) (Nat.le_of_ble_eq_true rfl) w_2_80 rfl ?_
        refine G_iload_n 0 d_cX1_takeApart_27 rfl ?_
        refine G_aload_n 1 d_cX1_takeApart_28 rfl ?_
        refine G_getf 0 0 d_cX1_takeApart_29 rfl (gk_X1 D I) (Nat.le_of_ble_eq_true rfl) w_2_78 rfl ?_
        refine G_getfN 1 3 d_cX1_takeApart_32 rfl (gk_X3 D I) (Nat.le_of_ble_eq_true rfl) (fun _ _ _ h => gn_w 57 rfl h) rfl ?_
        refine G_iload_n 0 d_cX1_takeApart_35 rfl ?_
        refine G_iald 10 0 d_cX1_takeApart_36 rfl rfl (gB_in bg62952' (by decide) (by decide)) (G_nam fun z63018 hz63018 => ?_)
        have bz63018 : gB z63018 (-2147483648) 2147483647 := gB_any z63018
        refine G_iastN 3 0 d_cX1_takeApart_37 rfl rfl (gB_in bg62952' (by decide) (by decide)) (fun f63019 hf63019 => ?_)
        refine G_ws (ws' := [(q60334, .inr (6, [.ref q60335, .ref q60336, .ref q60337, .ref q60338, .ref q60339, .ref q60340, .int g62954, .int 0])), (q60335, .inr (8, [.ref q60341, .ref q60342, .ref q60343, .ref q60344, .int p60352, .int p60353])), (q60336, .inl (I .int, 720, .inl f60354)), (q60337, .inl (I .int, 720, .inl f63019)), (q60338, .inl (I .int, 720, .inl f62955)), (q60339, .inl (I .int, 720, .inl f60357)), (q60340, .inl (I .int, 720, .inl f60358)), (q60341, .inr (10, [.ref q60345, .ref q60346, .ref q60347, .ref q60348, .int p60359, .int p60360, .int p60361])), (q60342, .inl (I .long, 8640, .inr (.inl f60362))), (q60343, .inl (I .long, 12, .inr (.inl f60363))), (q60344, .inl (I .int, 720, .inl f60364)), (q60345, .inl (I .long, 480, .inr (.inl f60365))), (q60346, .inl (I .long, 480, .inr (.inl f60366))), (q60347, .inl (I .long, 480, .inr (.inl f60367))), (q60348, .inl (I .long, 12, .inr (.inl f60368)))]) (cs' := 0) (sl' := 0) rfl rfl rfl ?_
        refine G_aload_n 1 d_cX1_takeApart_38 rfl ?_
        refine G_getf 0 0 d_cX1_takeApart_39 rfl (gk_X1 D I) (Nat.le_of_ble_eq_true rfl) w_2_78 rfl ?_
        refine G_iload_n 0 d_cX1_takeApart_42 rfl ?_
        refine G_callV (As := [.int g62952]) (wr := [(q60334, .inr (6, [.ref q60335, .ref q60336, .ref q60337, .ref q60338, .ref q60339, .ref q60340, .int g62954, .int 0])), (q60336, .inl (I .int, 720, .inl f60354)), (q60337, .inl (I .int, 720, .inl f63019)), (q60338, .inl (I .int, 720, .inl f62955)), (q60339, .inl (I .int, 720, .inl f60357)), (q60340, .inl (I .int, 720, .inl f60358))]) (gV_ok D I) (ct_54782_Graph_stands l hl0 D I q60335 q60341 q60342 q60343 q60344 q60345 q60346 q60347 q60348 g62952 p60352 p60353 p60359 p60360 p60361 f60362 f60363 f60364 f60365 f60366 f60367 f60368 (gB_w bp60352' (by decide) (by decide)) bp60353 bp60359 bp60360 bp60361 (by have qa0 : Int32.toInt 0 = 0 := (by decide); omega) x60370 (by have qa0 : Int32.toInt 0 = 0 := (by decide); omega)) d_cX1_takeApart_43 ⟨w_5_122, w_1_9, w_4_167, by decide, rfl, (Nat.le_of_ble_eq_true rfl), (Nat.le_of_ble_eq_true rfl)⟩ w_4_165 w_4_166 1 rfl rfl [1, 7, 8, 9, 10, 11, 12, 13, 14] [0, 2, 3, 4, 5, 6] rfl rfl rfl rfl (by decide) (Nat.le_of_ble_eq_true rfl) (Nat.le_of_ble_eq_true rfl) (Nat.le_of_ble_eq_true rfl) (fun r w hp => ?_) (fun _ _ _ z => z.elim)
        rcases hp with ⟨rfl, rfl, r63020⟩ | ⟨rfl, rfl, r63021, r63022⟩ | ⟨z63023, z63024, rfl, rfl, r63025, r63026, r63027, r63028, r63029, r63030⟩ | ⟨z63031, z63032, rfl, rfl, r63033, r63034, r63035, r63036, r63037, r63038⟩
        · exact absurd (show False by omega) not_false
        · have bp60352'' : gB p60352 1 719 := ⟨by omega, by omega⟩
          have bg62952'' : gB g62952 1 719 := ⟨by omega, by omega⟩
          change G _ _ _ _ _ _ _ (.int 0 :: _) _ _ _
          refine G_ws (ws' := [(q60334, .inr (6, [.ref q60335, .ref q60336, .ref q60337, .ref q60338, .ref q60339, .ref q60340, .int g62954, .int 0])), (q60336, .inl (I .int, 720, .inl f60354)), (q60337, .inl (I .int, 720, .inl f63019)), (q60338, .inl (I .int, 720, .inl f62955)), (q60339, .inl (I .int, 720, .inl f60357)), (q60340, .inl (I .int, 720, .inl f60358)), (q60335, .inr (8, [.ref q60341, .ref q60342, .ref q60343, .ref q60344, .int p60352, .int p60353])), (q60341, .inr (10, [.ref q60345, .ref q60346, .ref q60347, .ref q60348, .int p60359, .int p60360, .int p60361])), (q60342, .inl (I .long, 8640, .inr (.inl f60362))), (q60343, .inl (I .long, 12, .inr (.inl f60363))), (q60344, .inl (I .int, 720, .inl f60364)), (q60345, .inl (I .long, 480, .inr (.inl f60365))), (q60346, .inl (I .long, 480, .inr (.inl f60366))), (q60347, .inl (I .long, 480, .inr (.inl f60367))), (q60348, .inl (I .long, 12, .inr (.inl f60368)))]) (cs' := 0) (sl' := 0) rfl rfl rfl ?_
          refine G_if_eq 69 d_cX1_takeApart_46 (by decide +kernel) (fun _ => ?_) (fun hc => absurd hc (by decide))
          obtain ⟨z63039, hz63039⟩ : ∃ z : Int32, z = g62952 + Int32.ofInt 1 := ⟨_, rfl⟩
          have ez63039 : z63039.toInt = g62952.toInt + 1 := gI_inc hz63039 (by decide) bg62952'' (by decide) (by decide)
          have bz63039 : gB z63039 2 720 := ⟨by omega, by omega⟩
          refine G_iinc (L' := [(2, .int z63039), (0, .ref q60334), (1, .int p60349)]) z63039 0 d_cX1_takeApart_69 rfl hz63039.symm (Nat.le_of_ble_eq_true rfl) rfl ?_
          refine G_goto 12 d_cX1_takeApart_72 (by decide +kernel) ?_
          refine G_sub (ws' := [(q60334, .inr (6, [.ref q60335, .ref q60336, .ref q60337, .ref q60338, .ref q60339, .ref q60340, .int g62954, .int 0])), (q60335, .inr (8, [.ref q60341, .ref q60342, .ref q60343, .ref q60344, .int p60352, .int p60353])), (q60336, .inl (I .int, 720, .inl f60354)), (q60337, .inl (I .int, 720, .inl f63019)), (q60338, .inl (I .int, 720, .inl f62955)), (q60339, .inl (I .int, 720, .inl f60357)), (q60340, .inl (I .int, 720, .inl f60358)), (q60341, .inr (10, [.ref q60345, .ref q60346, .ref q60347, .ref q60348, .int p60359, .int p60360, .int p60361])), (q60342, .inl (I .long, 8640, .inr (.inl f60362))), (q60343, .inl (I .long, 12, .inr (.inl f60363))), (q60344, .inl (I .int, 720, .inl f60364)), (q60345, .inl (I .long, 480, .inr (.inl f60365))), (q60346, .inl (I .long, 480, .inr (.inl f60366))), (q60347, .inl (I .long, 480, .inr (.inl f60367))), (q60348, .inl (I .long, 12, .inr (.inl f60368)))]) [0, 6, 1, 2, 3, 4, 5, 7, 8, 9, 10, 11, 12, 13, 14] rfl rfl ?_
          exact ih12_62957 z63039 f63019 g62954 f62955 (gB_w bz63039 (by decide) (by decide)) (gF_any f63019) bg62954 bf62955 (by have qa0 : Int32.toInt 0 = 0 := (by decide); omega) x62957 (by have qa0 : Int32.toInt 0 = 0 := (by decide); omega)
        · change G _ _ _ _ _ _ _ (.int 0 :: _) _ _ _
          refine G_ws (ws' := [(q60334, .inr (6, [.ref q60335, .ref q60336, .ref q60337, .ref q60338, .ref q60339, .ref q60340, .int g62954, .int 0])), (q60336, .inl (I .int, 720, .inl f60354)), (q60337, .inl (I .int, 720, .inl f63019)), (q60338, .inl (I .int, 720, .inl f62955)), (q60339, .inl (I .int, 720, .inl f60357)), (q60340, .inl (I .int, 720, .inl f60358)), (q60335, .inr (8, [.ref q60341, .ref q60342, .ref q60343, .ref q60344, .int p60352, .int p60353])), (q60341, .inr (10, [.ref q60345, .ref q60346, .ref q60347, .ref q60348, .int p60359, .int p60360, .int p60361])), (q60342, .inl (I .long, 8640, .inr (.inl f60362))), (q60343, .inl (I .long, 12, .inr (.inl f60363))), (q60344, .inl (I .int, 720, .inl f60364)), (q60345, .inl (I .long, 480, .inr (.inl f60365))), (q60346, .inl (I .long, 480, .inr (.inl f60366))), (q60347, .inl (I .long, 480, .inr (.inl f60367))), (q60348, .inl (I .long, 12, .inr (.inl f60368)))]) (cs' := 0) (sl' := 0) rfl rfl rfl ?_
          refine G_if_eq 69 d_cX1_takeApart_46 (by decide +kernel) (fun _ => ?_) (fun hc => absurd hc (by decide))
          obtain ⟨z63040, hz63040⟩ : ∃ z : Int32, z = g62952 + Int32.ofInt 1 := ⟨_, rfl⟩
          have ez63040 : z63040.toInt = g62952.toInt + 1 := gI_inc hz63040 (by decide) bg62952' (by decide) (by decide)
          have bz63040 : gB z63040 1 720 := ⟨by omega, by omega⟩
          refine G_iinc (L' := [(2, .int z63040), (0, .ref q60334), (1, .int p60349)]) z63040 0 d_cX1_takeApart_69 rfl hz63040.symm (Nat.le_of_ble_eq_true rfl) rfl ?_
          refine G_goto 12 d_cX1_takeApart_72 (by decide +kernel) ?_
          refine G_sub (ws' := [(q60334, .inr (6, [.ref q60335, .ref q60336, .ref q60337, .ref q60338, .ref q60339, .ref q60340, .int g62954, .int 0])), (q60335, .inr (8, [.ref q60341, .ref q60342, .ref q60343, .ref q60344, .int p60352, .int p60353])), (q60336, .inl (I .int, 720, .inl f60354)), (q60337, .inl (I .int, 720, .inl f63019)), (q60338, .inl (I .int, 720, .inl f62955)), (q60339, .inl (I .int, 720, .inl f60357)), (q60340, .inl (I .int, 720, .inl f60358)), (q60341, .inr (10, [.ref q60345, .ref q60346, .ref q60347, .ref q60348, .int p60359, .int p60360, .int p60361])), (q60342, .inl (I .long, 8640, .inr (.inl f60362))), (q60343, .inl (I .long, 12, .inr (.inl f60363))), (q60344, .inl (I .int, 720, .inl f60364)), (q60345, .inl (I .long, 480, .inr (.inl f60365))), (q60346, .inl (I .long, 480, .inr (.inl f60366))), (q60347, .inl (I .long, 480, .inr (.inl f60367))), (q60348, .inl (I .long, 12, .inr (.inl f60368)))]) [0, 6, 1, 2, 3, 4, 5, 7, 8, 9, 10, 11, 12, 13, 14] rfl rfl ?_
          exact ih12_62957 z63040 f63019 g62954 f62955 (gB_w bz63040 (by decide) (by decide)) (gF_any f63019) bg62954 bf62955 (by have qa0 : Int32.toInt 0 = 0 := (by decide); omega) x62957 (by have qa0 : Int32.toInt 0 = 0 := (by decide); omega)
        · change G _ _ _ _ _ _ _ (.int 1 :: _) _ _ _
          refine G_ws (ws' := [(q60334, .inr (6, [.ref q60335, .ref q60336, .ref q60337, .ref q60338, .ref q60339, .ref q60340, .int g62954, .int 0])), (q60336, .inl (I .int, 720, .inl f60354)), (q60337, .inl (I .int, 720, .inl f63019)), (q60338, .inl (I .int, 720, .inl f62955)), (q60339, .inl (I .int, 720, .inl f60357)), (q60340, .inl (I .int, 720, .inl f60358)), (q60335, .inr (8, [.ref q60341, .ref q60342, .ref q60343, .ref q60344, .int p60352, .int p60353])), (q60341, .inr (10, [.ref q60345, .ref q60346, .ref q60347, .ref q60348, .int p60359, .int p60360, .int p60361])), (q60342, .inl (I .long, 8640, .inr (.inl f60362))), (q60343, .inl (I .long, 12, .inr (.inl f60363))), (q60344, .inl (I .int, 720, .inl f60364)), (q60345, .inl (I .long, 480, .inr (.inl f60365))), (q60346, .inl (I .long, 480, .inr (.inl f60366))), (q60347, .inl (I .long, 480, .inr (.inl f60367))), (q60348, .inl (I .long, 12, .inr (.inl f60368)))]) (cs' := 0) (sl' := 0) rfl rfl rfl ?_
          refine G_if_eq 69 d_cX1_takeApart_46 (by decide +kernel) (fun hc => absurd hc (by decide)) (fun _ => ?_)
          refine G_aload_n 1 d_cX1_takeApart_49 rfl ?_
          refine G_getf 0 3 d_cX1_takeApart_50 rfl (gk_X1 D I) (Nat.le_of_ble_eq_true rfl) w_2_81 rfl ?_
          refine G_aload_n 1 d_cX1_takeApart_53 rfl ?_
          refine G_getf 0 6 d_cX1_takeApart_54 rfl (gk_X1 D I) (Nat.le_of_ble_eq_true rfl) w_2_84 rfl ?_
          refine G_iload_n 0 d_cX1_takeApart_57 rfl ?_
          refine G_iastN 3 0 d_cX1_takeApart_58 rfl rfl (gB_inr (by omega) (by omega)) (fun f63041 hf63041 => ?_)
          refine G_ws (ws' := [(q60334, .inr (6, [.ref q60335, .ref q60336, .ref q60337, .ref q60338, .ref q60339, .ref q60340, .int g62954, .int 0])), (q60336, .inl (I .int, 720, .inl f60354)), (q60337, .inl (I .int, 720, .inl f63019)), (q60338, .inl (I .int, 720, .inl f63041)), (q60339, .inl (I .int, 720, .inl f60357)), (q60340, .inl (I .int, 720, .inl f60358)), (q60335, .inr (8, [.ref q60341, .ref q60342, .ref q60343, .ref q60344, .int p60352, .int p60353])), (q60341, .inr (10, [.ref q60345, .ref q60346, .ref q60347, .ref q60348, .int p60359, .int p60360, .int p60361])), (q60342, .inl (I .long, 8640, .inr (.inl f60362))), (q60343, .inl (I .long, 12, .inr (.inl f60363))), (q60344, .inl (I .int, 720, .inl f60364)), (q60345, .inl (I .long, 480, .inr (.inl f60365))), (q60346, .inl (I .long, 480, .inr (.inl f60366))), (q60347, .inl (I .long, 480, .inr (.inl f60367))), (q60348, .inl (I .long, 12, .inr (.inl f60368)))]) (cs' := 0) (sl' := 0) rfl rfl rfl ?_
          have wf63041 : gP f63041 (g62954.toInt + 1) (p60352.toInt) := gP_ext hf63041 x62957 (by omega) (by omega) (by omega)
          have bf63041 : gF f63041 0 719 := gF_upd hf63041 bf62955 bg62952'
          refine G_aload_n 1 d_cX1_takeApart_59 rfl ?_
          refine G_dup d_cX1_takeApart_60 rfl ?_
          refine G_getf 0 6 d_cX1_takeApart_61 rfl (gk_X1 D I) (Nat.le_of_ble_eq_true rfl) w_2_84 rfl ?_
          refine G_iconst 1 d_cX1_takeApart_64 (by decide +kernel) ?_
          refine G_iadd d_cX1_takeApart_65 (G_nam fun z63042 hz63042 => ?_)
          have ez63042 : z63042.toInt = g62954.toInt + 1 := by rw [gI_add hz63042 bg62954 (gBl (show Int32.toInt 1 = 1 by decide)) (by decide) (by decide), show Int32.toInt 1 = 1 from by decide]
          have bz63042 : gB z63042 1 721 := gB_add (gI_add hz63042 bg62954 (gBl (show Int32.toInt 1 = 1 by decide)) (by decide) (by decide)) bg62954 (gBl (show Int32.toInt 1 = 1 by decide)) (by decide) (by decide)
          refine G_putf (ws' := [(q60334, .inr (6, [.ref q60335, .ref q60336, .ref q60337, .ref q60338, .ref q60339, .ref q60340, .int z63042, .int 0])), (q60336, .inl (I .int, 720, .inl f60354)), (q60337, .inl (I .int, 720, .inl f63019)), (q60338, .inl (I .int, 720, .inl f63041)), (q60339, .inl (I .int, 720, .inl f60357)), (q60340, .inl (I .int, 720, .inl f60358)), (q60335, .inr (8, [.ref q60341, .ref q60342, .ref q60343, .ref q60344, .int p60352, .int p60353])), (q60341, .inr (10, [.ref q60345, .ref q60346, .ref q60347, .ref q60348, .int p60359, .int p60360, .int p60361])), (q60342, .inl (I .long, 8640, .inr (.inl f60362))), (q60343, .inl (I .long, 12, .inr (.inl f60363))), (q60344, .inl (I .int, 720, .inl f60364)), (q60345, .inl (I .long, 480, .inr (.inl f60365))), (q60346, .inl (I .long, 480, .inr (.inl f60366))), (q60347, .inl (I .long, 480, .inr (.inl f60367))), (q60348, .inl (I .long, 12, .inr (.inl f60368)))]) 0 6 d_cX1_takeApart_66 rfl (gk_X1 D I) (Nat.le_of_ble_eq_true rfl) w_2_84 rfl rfl rfl (Nat.le_of_ble_eq_true rfl) rfl ?_
          obtain ⟨z63043, hz63043⟩ : ∃ z : Int32, z = g62952 + Int32.ofInt 1 := ⟨_, rfl⟩
          have ez63043 : z63043.toInt = g62952.toInt + 1 := gI_inc hz63043 (by decide) bg62952' (by decide) (by decide)
          have bz63043 : gB z63043 1 720 := ⟨by omega, by omega⟩
          refine G_iinc (L' := [(2, .int z63043), (0, .ref q60334), (1, .int p60349)]) z63043 0 d_cX1_takeApart_69 rfl hz63043.symm (Nat.le_of_ble_eq_true rfl) rfl ?_
          refine G_goto 12 d_cX1_takeApart_72 (by decide +kernel) ?_
          refine G_sub (ws' := [(q60334, .inr (6, [.ref q60335, .ref q60336, .ref q60337, .ref q60338, .ref q60339, .ref q60340, .int z63042, .int 0])), (q60335, .inr (8, [.ref q60341, .ref q60342, .ref q60343, .ref q60344, .int p60352, .int p60353])), (q60336, .inl (I .int, 720, .inl f60354)), (q60337, .inl (I .int, 720, .inl f63019)), (q60338, .inl (I .int, 720, .inl f63041)), (q60339, .inl (I .int, 720, .inl f60357)), (q60340, .inl (I .int, 720, .inl f60358)), (q60341, .inr (10, [.ref q60345, .ref q60346, .ref q60347, .ref q60348, .int p60359, .int p60360, .int p60361])), (q60342, .inl (I .long, 8640, .inr (.inl f60362))), (q60343, .inl (I .long, 12, .inr (.inl f60363))), (q60344, .inl (I .int, 720, .inl f60364)), (q60345, .inl (I .long, 480, .inr (.inl f60365))), (q60346, .inl (I .long, 480, .inr (.inl f60366))), (q60347, .inl (I .long, 480, .inr (.inl f60367))), (q60348, .inl (I .long, 12, .inr (.inl f60368)))]) [0, 6, 1, 2, 3, 4, 5, 7, 8, 9, 10, 11, 12, 13, 14] rfl rfl ?_
          exact ih12_62957 z63043 f63019 z63042 f63041 (gB_w bz63043 (by decide) (by decide)) (gF_any f63019) ⟨by omega, by omega⟩ bf63041 (by have qa0 : Int32.toInt 0 = 0 := (by decide); omega) (gP_le wf63041 (by omega)) (by have qa0 : Int32.toInt 0 = 0 := (by decide); omega)
  exact hlp12_62957 (((2147483648 : Int) - 0).toNat + 1) 0 f60355 0 f60356 (gB_w (gBl (show Int32.toInt 0 = 0 by decide)) (by decide) (by decide)) (gF_any f60355) (gB_w (gBl (show Int32.toInt 0 = 0 by decide)) (by decide) (by decide)) bf60356 (by have qa0 : Int32.toInt 0 = 0 := (by decide); omega) gP_0 (Nat.lt_succ_self _)
abbrev ky_63140_Colouring_coloursAround : gKey := (cX1_coloursAround, 9, yX1_coloursAround.cls, (some FieldType.long), [], yX1_coloursAround.name, fun _ _ => True)
abbrev po_63140_Colouring_coloursAround (I : FieldType → ClassId) (q63101 : Nat) (q63102 : Nat) (q63103 : Nat) (q63104 : Nat) (q63105 : Nat) (q63106 : Nat) (q63107 : Nat) (q63108 : Nat) (q63109 : Nat) (q63110 : Nat) (q63111 : Nat) (q63112 : Nat) (q63113 : Nat) (q63114 : Nat) (q63115 : Nat) (p63116 : Int32) (p63117 : Int32) (p63118 : Int32) (p63119 : Int32) (p63120 : Int32) (f63121 : Nat → Int32) (f63122 : Nat → Int32) (f63123 : Nat → Int32) (f63124 : Nat → Int32) (f63125 : Nat → Int32) (p63126 : Int32) (p63127 : Int32) (p63128 : Int32) (f63129 : Nat → Int64) (f63130 : Nat → Int64) (f63131 : Nat → Int32) (f63132 : Nat → Int64) (f63133 : Nat → Int64) (f63134 : Nat → Int64) (f63135 : Nat → Int64) : Option Value → va_W → Prop := fun r w => ∃ (ol64368 : Int64), r = some (.long ol64368) ∧ w = [(q63101, .inr (6, [.ref q63102, .ref q63103, .ref q63104, .ref q63105, .ref q63106, .ref q63107, .int p63117, .int p63118])), (q63102, .inr (8, [.ref q63108, .ref q63109, .ref q63110, .ref q63111, .int p63119, .int p63120])), (q63103, .inl (I .int, 720, .inl f63121)), (q63104, .inl (I .int, 720, .inl f63122)), (q63105, .inl (I .int, 720, .inl f63123)), (q63106, .inl (I .int, 720, .inl f63124)), (q63107, .inl (I .int, 720, .inl f63125)), (q63108, .inr (10, [.ref q63112, .ref q63113, .ref q63114, .ref q63115, .int p63126, .int p63127, .int p63128])), (q63109, .inl (I .long, 8640, .inr (.inl f63129))), (q63110, .inl (I .long, 12, .inr (.inl f63130))), (q63111, .inl (I .int, 720, .inl f63131)), (q63112, .inl (I .long, 480, .inr (.inl f63132))), (q63113, .inl (I .long, 480, .inr (.inl f63133))), (q63114, .inl (I .long, 480, .inr (.inl f63134))), (q63115, .inl (I .long, 12, .inr (.inl f63135)))]
set_option maxRecDepth 100000 in
set_option maxHeartbeats 4000000 in
theorem ct_63140_Colouring_coloursAround (l : Launch) (hl0 : l.stackTraces = false) (D : va_G) (I : FieldType → ClassId) (q63101 : Nat) (q63102 : Nat) (q63103 : Nat) (q63104 : Nat) (q63105 : Nat) (q63106 : Nat) (q63107 : Nat) (q63108 : Nat) (q63109 : Nat) (q63110 : Nat) (q63111 : Nat) (q63112 : Nat) (q63113 : Nat) (q63114 : Nat) (q63115 : Nat) (p63116 : Int32) (p63117 : Int32) (p63118 : Int32) (p63119 : Int32) (p63120 : Int32) (f63121 : Nat → Int32) (f63122 : Nat → Int32) (f63123 : Nat → Int32) (f63124 : Nat → Int32) (f63125 : Nat → Int32) (p63126 : Int32) (p63127 : Int32) (p63128 : Int32) (f63129 : Nat → Int64) (f63130 : Nat → Int64) (f63131 : Nat → Int32) (f63132 : Nat → Int64) (f63133 : Nat → Int64) (f63134 : Nat → Int64) (f63135 : Nat → Int64) (bp63116 : gB p63116 0 719) (bp63117 : gB p63117 0 720) (bp63118 : gB p63118 0 720) (bp63119 : gB p63119 0 720) (bp63120 : gB p63120 0 12) (bf63123 : gF f63123 0 719) (bf63124 : gF f63124 0 719) (bp63126 : gB p63126 0 720) (bp63127 : gB p63127 0 12) (bp63128 : gB p63128 0 1) (x63136 : p63116.toInt < p63119.toInt) (x63137 : p63120.toInt = (p63119.toInt + 63) / 64) (x63138 : lb_W f63129 (p63119.toInt * p63120.toInt) (p63120.toInt) (p63119.toInt)) (x63139 : p63127.toInt = (p63126.toInt + 63) / 64) : Ct (gV D I) l yX1_coloursAround cX1_coloursAround 9 (some FieldType.long) 2 42 0 0 [.ref q63101, .int p63116] [(q63101, .inr (6, [.ref q63102, .ref q63103, .ref q63104, .ref q63105, .ref q63106, .ref q63107, .int p63117, .int p63118])), (q63102, .inr (8, [.ref q63108, .ref q63109, .ref q63110, .ref q63111, .int p63119, .int p63120])), (q63103, .inl (I .int, 720, .inl f63121)), (q63104, .inl (I .int, 720, .inl f63122)), (q63105, .inl (I .int, 720, .inl f63123)), (q63106, .inl (I .int, 720, .inl f63124)), (q63107, .inl (I .int, 720, .inl f63125)), (q63108, .inr (10, [.ref q63112, .ref q63113, .ref q63114, .ref q63115, .int p63126, .int p63127, .int p63128])), (q63109, .inl (I .long, 8640, .inr (.inl f63129))), (q63110, .inl (I .long, 12, .inr (.inl f63130))), (q63111, .inl (I .int, 720, .inl f63131)), (q63112, .inl (I .long, 480, .inr (.inl f63132))), (q63113, .inl (I .long, 480, .inr (.inl f63133))), (q63114, .inl (I .long, 480, .inr (.inl f63134))), (q63115, .inl (I .long, 12, .inr (.inl f63135)))] (po_63140_Colouring_coloursAround I q63101 q63102 q63103 q63104 q63105 q63106 q63107 q63108 q63109 q63110 q63111 q63112 q63113 q63114 q63115 p63116 p63117 p63118 p63119 p63120 f63121 f63122 f63123 f63124 f63125 p63126 p63127 p63128 f63129 f63130 f63131 f63132 f63133 f63134 f63135) gN := by
  refine Ct_of hl0 (by decide) (Nat.le_of_ble_eq_true rfl) ?_
  refine G_lconst 0 d_cX1_coloursAround_0 rfl ?_
  refine G_lstore_n (L' := [(2, .long 0), (0, .ref q63101), (1, .int p63116)]) d_cX1_coloursAround_1 (Nat.le_of_ble_eq_true rfl) rfl ?_
  refine G_iconst 0 d_cX1_coloursAround_2 (by decide +kernel) ?_
  refine G_istore (L' := [(4, .int 0), (2, .long 0), (0, .ref q63101), (1, .int p63116)]) d_cX1_coloursAround_3 (Nat.le_of_ble_eq_true rfl) rfl ?_
  have hlp5_64192 : ∀ (n5_64192 : Nat) (g64191 : Int32) (gl64192 : Int64), gB g64191 0 12 → ((13 : Int) - g64191.toInt).toNat < n5_64192 → G (gV D I) l (gRm 2 42 0 0) (gM (gV D I) (po_63140_Colouring_coloursAround I q63101 q63102 q63103 q63104 q63105 q63106 q63107 q63108 q63109 q63110 q63111 q63112 q63113 q63114 q63115 p63116 p63117 p63118 p63119 p63120 f63121 f63122 f63123 f63124 f63125 p63126 p63127 p63128 f63129 f63130 f63131 f63132 f63133 f63134 f63135) gN 0 0) ky_63140_Colouring_coloursAround 5 [(4, .int g64191), (2, .long gl64192), (0, .ref q63101), (1, .int p63116)] [] [(q63101, .inr (6, [.ref q63102, .ref q63103, .ref q63104, .ref q63105, .ref q63106, .ref q63107, .int p63117, .int p63118])), (q63102, .inr (8, [.ref q63108, .ref q63109, .ref q63110, .ref q63111, .int p63119, .int p63120])), (q63103, .inl (I .int, 720, .inl f63121)), (q63104, .inl (I .int, 720, .inl f63122)), (q63105, .inl (I .int, 720, .inl f63123)), (q63106, .inl (I .int, 720, .inl f63124)), (q63107, .inl (I .int, 720, .inl f63125)), (q63108, .inr (10, [.ref q63112, .ref q63113, .ref q63114, .ref q63115, .int p63126, .int p63127, .int p63128])), (q63109, .inl (I .long, 8640, .inr (.inl f63129))), (q63110, .inl (I .long, 12, .inr (.inl f63130))), (q63111, .inl (I .int, 720, .inl f63131)), (q63112, .inl (I .long, 480, .inr (.inl f63132))), (q63113, .inl (I .long, 480, .inr (.inl f63133))), (q63114, .inl (I .long, 480, .inr (.inl f63134))), (q63115, .inl (I .long, 12, .inr (.inl f63135)))] 0 0 := by
    intro n5_64192
    induction n5_64192 with
    | zero => intro g64191 gl64192 bg64191 hm5_64192; exact absurd hm5_64192 (Nat.not_lt_zero _)
    | succ n5_64192 ih5_64192 =>
      intro g64191 gl64192 bg64191 hm5_64192
      refine G_iload 0 d_cX1_coloursAround_5 rfl ?_
      refine G_aload_n 2 d_cX1_coloursAround_7 rfl ?_
      refine G_getf 0 0 d_cX1_coloursAround_8 rfl (gk_X1 D I) (Nat.le_of_ble_eq_true rfl) w_2_78 rfl ?_
      refine G_getfN 1 5 d_cX1_coloursAround_11 rfl (gk_X3 D I) (Nat.le_of_ble_eq_true rfl) (fun _ _ _ h => gn_w 60 rfl h) rfl ?_
      refine G_icmp_ge 112 d_cX1_coloursAround_14 (by decide +kernel) (fun hc64193 => ?_) (fun hc64193 => ?_)
      · have r64194 : p63120.toInt ≤ g64191.toInt := gC_le hc64193
        refine G_lload_n 1 d_cX1_coloursAround_112 rfl ?_
        exact G_lret d_cX1_coloursAround_113 rfl (Nat.le_of_ble_eq_true rfl) (Nat.le_of_ble_eq_true rfl) ⟨gl64192, rfl, rfl⟩
      · have r64195 : g64191.toInt < p63120.toInt := gC_nle hc64193
        have bg64191' : gB g64191 0 11 := ⟨by omega, by omega⟩
        have bp63120' : gB p63120 1 12 := ⟨by omega, by omega⟩
        refine G_aload_n 2 d_cX1_coloursAround_17 rfl ?_
        refine G_getf 0 0 d_cX1_coloursAround_18 rfl (gk_X1 D I) (Nat.le_of_ble_eq_true rfl) w_2_78 rfl ?_
        refine G_getfN 1 1 d_cX1_coloursAround_21 rfl (gk_X3 D I) (Nat.le_of_ble_eq_true rfl) (fun _ _ _ h => gn_w 56 rfl h) rfl ?_
        refine G_iload_n 3 d_cX1_coloursAround_24 rfl ?_
        refine G_aload_n 2 d_cX1_coloursAround_25 rfl ?_
        refine G_getf 0 0 d_cX1_coloursAround_26 rfl (gk_X1 D I) (Nat.le_of_ble_eq_true rfl) w_2_78 rfl ?_
        refine G_getfN 1 5 d_cX1_coloursAround_29 rfl (gk_X3 D I) (Nat.le_of_ble_eq_true rfl) (fun _ _ _ h => gn_w 60 rfl h) rfl ?_
        refine G_imul d_cX1_coloursAround_32 (G_nam fun z64196 hz64196 => ?_)
        have ez64196 : z64196.toInt = p63116.toInt * p63120.toInt := by rw [gI_mul hz64196 bp63116 bp63120' (by decide) (by decide) (by decide)]
        have bz64196 : gB z64196 0 8628 := gB_mul hz64196 bp63116 bp63120' (by decide) (by decide) (by decide) (by decide)
        refine G_iload 0 d_cX1_coloursAround_33 rfl ?_
        refine G_iadd d_cX1_coloursAround_35 (G_nam fun z64197 hz64197 => ?_)
        have ez64197 : z64197.toInt = z64196.toInt + g64191.toInt := by rw [gI_add hz64197 bz64196 bg64191' (by decide) (by decide)]
        have bz64197 : gB z64197 0 8639 := gB_add (gI_add hz64197 bz64196 bg64191' (by decide) (by decide)) bz64196 bg64191' (by decide) (by decide)
        refine G_lald 8 2 d_cX1_coloursAround_36 rfl rfl (gB_in bz64197 (by decide) (by decide)) (G_namL fun u64198 hu64198 => ?_)
        have qu64198 : lb_Q u64198 (p63119.toInt - 64 * g64191.toInt) := lb_Wld hu64198 x63138 (by omega) (lb_Lt1 ez64197 ez64196 (by omega) (by omega) (by omega)) (lb_Mod1 ez64197 ez64196 (by omega) (by omega))
        refine G_lstore (L' := [(5, .long u64198), (4, .int g64191), (2, .long gl64192), (0, .ref q63101), (1, .int p63116)]) d_cX1_coloursAround_37 (Nat.le_of_ble_eq_true rfl) rfl ?_
        refine G_iconst 0 d_cX1_coloursAround_39 (by decide +kernel) ?_
        refine G_istore (L' := [(7, .int 0), (5, .long u64198), (4, .int g64191), (2, .long gl64192), (0, .ref q63101), (1, .int p63116)]) d_cX1_coloursAround_40 (Nat.le_of_ble_eq_true rfl) rfl ?_
        have hlp42_64343 : ∀ (n42_64343 : Nat) (g64340 : Int32) (gl64341 : Int64) (gl64342 : Int64), gB g64340 0 64 → lb_Q gl64341 (p63119.toInt - 64 * g64191.toInt) → ((65 : Int) - g64340.toInt).toNat < n42_64343 → G (gV D I) l (gRm 2 42 0 0) (gM (gV D I) (po_63140_Colouring_coloursAround I q63101 q63102 q63103 q63104 q63105 q63106 q63107 q63108 q63109 q63110 q63111 q63112 q63113 q63114 q63115 p63116 p63117 p63118 p63119 p63120 f63121 f63122 f63123 f63124 f63125 p63126 p63127 p63128 f63129 f63130 f63131 f63132 f63133 f63134 f63135) gN 0 0) ky_63140_Colouring_coloursAround 42 [(7, .int g64340), (5, .long gl64341), (4, .int g64191), (2, .long gl64342), (0, .ref q63101), (1, .int p63116)] [] [(q63101, .inr (6, [.ref q63102, .ref q63103, .ref q63104, .ref q63105, .ref q63106, .ref q63107, .int p63117, .int p63118])), (q63102, .inr (8, [.ref q63108, .ref q63109, .ref q63110, .ref q63111, .int p63119, .int p63120])), (q63103, .inl (I .int, 720, .inl f63121)), (q63104, .inl (I .int, 720, .inl f63122)), (q63105, .inl (I .int, 720, .inl f63123)), (q63106, .inl (I .int, 720, .inl f63124)), (q63107, .inl (I .int, 720, .inl f63125)), (q63108, .inr (10, [.ref q63112, .ref q63113, .ref q63114, .ref q63115, .int p63126, .int p63127, .int p63128])), (q63109, .inl (I .long, 8640, .inr (.inl f63129))), (q63110, .inl (I .long, 12, .inr (.inl f63130))), (q63111, .inl (I .int, 720, .inl f63131)), (q63112, .inl (I .long, 480, .inr (.inl f63132))), (q63113, .inl (I .long, 480, .inr (.inl f63133))), (q63114, .inl (I .long, 480, .inr (.inl f63134))), (q63115, .inl (I .long, 12, .inr (.inl f63135)))] 0 0 := by
          intro n42_64343
          induction n42_64343 with
          | zero => intro g64340 gl64341 gl64342 bg64340 x64343 hm42_64343; exact absurd hm42_64343 (Nat.not_lt_zero _)
          | succ n42_64343 ih42_64343 =>
            intro g64340 gl64341 gl64342 bg64340 x64343 hm42_64343
            refine G_iload 0 d_cX1_coloursAround_42 rfl ?_
            refine G_bipush 64 d_cX1_coloursAround_44 (by decide +kernel) ?_
            refine G_icmp_ge 106 d_cX1_coloursAround_46 (by decide +kernel) (fun hc64344 => ?_) (fun hc64344 => ?_)
            · have r64345 : 64 ≤ g64340.toInt := gj_leL hc64344 (show Int32.toInt 64 = 64 by decide)
              have bg64340' : gB g64340 64 64 := ⟨by omega, by omega⟩
              obtain ⟨z64346, hz64346⟩ : ∃ z : Int32, z = g64191 + Int32.ofInt 1 := ⟨_, rfl⟩
              have ez64346 : z64346.toInt = g64191.toInt + 1 := gI_inc hz64346 (by decide) bg64191' (by decide) (by decide)
              have bz64346 : gB z64346 1 12 := ⟨by omega, by omega⟩
              refine G_iinc (L' := [(4, .int z64346), (7, .int g64340), (5, .long gl64341), (2, .long gl64342), (0, .ref q63101), (1, .int p63116)]) z64346 2 d_cX1_coloursAround_106 rfl hz64346.symm (Nat.le_of_ble_eq_true rfl) rfl ?_
              refine G_goto 5 d_cX1_coloursAround_109 (by decide +kernel) ?_
              refine G_lv (L' := [(4, .int z64346), (2, .long gl64342), (0, .ref q63101), (1, .int p63116)]) [0, 3, 4, 5] rfl ?_
              exact ih5_64192 z64346 gl64342 (gB_w bz64346 (by decide) (by decide)) (by omega)
            · have r64347 : g64340.toInt < 64 := gj_nleL hc64344 (show Int32.toInt 64 = 64 by decide)
              have bg64340' : gB g64340 0 63 := ⟨by omega, by omega⟩
              refine G_lload 1 d_cX1_coloursAround_49 rfl ?_
              refine G_lconst 0 d_cX1_coloursAround_51 rfl ?_
              refine G_lcmp d_cX1_coloursAround_52 (G_nam fun z64348 hz64348 => ?_)
              have bz64348 : gB z64348 (-1) 1 := gB_cmp hz64348
              refine G_if_eq 106 d_cX1_coloursAround_53 (by decide +kernel) (fun hc64349 => ?_) (fun hc64349 => ?_)
              · have r64350 : z64348.toInt = 0 := gj_eq hc64349 (show Int32.toInt 0 = 0 by decide)
                have bz64348' : gB z64348 0 0 := ⟨by omega, by omega⟩
                have lhc64349 := gC_cmpE hz64348 hc64349
                obtain ⟨z64351, hz64351⟩ : ∃ z : Int32, z = g64191 + Int32.ofInt 1 := ⟨_, rfl⟩
                have ez64351 : z64351.toInt = g64191.toInt + 1 := gI_inc hz64351 (by decide) bg64191' (by decide) (by decide)
                have bz64351 : gB z64351 1 12 := ⟨by omega, by omega⟩
                refine G_iinc (L' := [(4, .int z64351), (7, .int g64340), (5, .long gl64341), (2, .long gl64342), (0, .ref q63101), (1, .int p63116)]) z64351 2 d_cX1_coloursAround_106 rfl hz64351.symm (Nat.le_of_ble_eq_true rfl) rfl ?_
                refine G_goto 5 d_cX1_coloursAround_109 (by decide +kernel) ?_
                refine G_lv (L' := [(4, .int z64351), (2, .long gl64342), (0, .ref q63101), (1, .int p63116)]) [0, 3, 4, 5] rfl ?_
                exact ih5_64192 z64351 gl64342 (gB_w bz64351 (by decide) (by decide)) (by omega)
              · have r64352 : z64348.toInt ≠ 0 := gj_neq hc64349 (show Int32.toInt 0 = 0 by decide)
                have lhc64349 := gC_cmpN hz64348 hc64349
                refine G_aload_n 4 d_cX1_coloursAround_56 rfl ?_
                refine G_getf 0 5 d_cX1_coloursAround_57 rfl (gk_X1 D I) (Nat.le_of_ble_eq_true rfl) w_2_83 rfl ?_
                refine G_iload 2 d_cX1_coloursAround_60 rfl ?_
                refine G_bipush 6 d_cX1_coloursAround_62 (by decide +kernel) ?_
                refine G_ishl d_cX1_coloursAround_64 (G_nam fun z64353 hz64353 => ?_)
                have ez64353 : z64353.toInt = g64191.toInt * 64 := gI_shl (k := 6) hz64353 (by decide) bg64191' (by decide) (by decide)
                have bz64353 : gB z64353 0 704 := ⟨by omega, by omega⟩
                refine G_lload 1 d_cX1_coloursAround_65 rfl ?_
                refine G_callSN (As := [.long gl64341]) (wr := [(q63101, .inr (6, [.ref q63102, .ref q63103, .ref q63104, .ref q63105, .ref q63106, .ref q63107, .int p63117, .int p63118])), (q63102, .inr (8, [.ref q63108, .ref q63109, .ref q63110, .ref q63111, .int p63119, .int p63120])), (q63103, .inl (I .int, 720, .inl f63121)), (q63104, .inl (I .int, 720, .inl f63122)), (q63105, .inl (I .int, 720, .inl f63123)), (q63106, .inl (I .int, 720, .inl f63124)), (q63107, .inl (I .int, 720, .inl f63125)), (q63108, .inr (10, [.ref q63112, .ref q63113, .ref q63114, .ref q63115, .int p63126, .int p63127, .int p63128])), (q63109, .inl (I .long, 8640, .inr (.inl f63129))), (q63110, .inl (I .long, 12, .inr (.inl f63130))), (q63111, .inl (I .int, 720, .inl f63131)), (q63112, .inl (I .long, 480, .inr (.inl f63132))), (q63113, .inl (I .long, 480, .inr (.inl f63133))), (q63114, .inl (I .long, 480, .inr (.inl f63134))), (q63115, .inl (I .long, 12, .inr (.inl f63135)))]) (gV_ok D I) (ct_29216_SpillForge_lowestBit l hl0 D I gl64341 ) d_cX1_coloursAround_67 ⟨(fun _ _ _ h => gn_w 73 rfl h), w_1_1, w_4_127, by decide, rfl, (Nat.le_of_ble_eq_true rfl), (Nat.le_of_ble_eq_true rfl)⟩ w_4_126 [] [0, 1, 2, 3, 4, 5, 6, 7, 8, 9, 10, 11, 12, 13, 14] rfl rfl rfl rfl (by decide) (Nat.le_of_ble_eq_true rfl) (Nat.le_of_ble_eq_true rfl) (Nat.le_of_ble_eq_true rfl) (fun r w hp => ?_)
                obtain ⟨o64354, rfl, rfl, bo64354, x64355⟩ := hp
                have lwo64354 := lb_lowE lhc64349 x64355
                have bo64354' : gB o64354 0 63 := ⟨by omega, by omega⟩
                have lqo64354 : o64354.toInt < p63119.toInt - 64 * g64191.toInt := lb_lowQ lwo64354 x64343
                change G _ _ _ _ _ _ _ (.int o64354 :: _) _ _ _
                refine G_ws (ws' := [(q63101, .inr (6, [.ref q63102, .ref q63103, .ref q63104, .ref q63105, .ref q63106, .ref q63107, .int p63117, .int p63118])), (q63102, .inr (8, [.ref q63108, .ref q63109, .ref q63110, .ref q63111, .int p63119, .int p63120])), (q63103, .inl (I .int, 720, .inl f63121)), (q63104, .inl (I .int, 720, .inl f63122)), (q63105, .inl (I .int, 720, .inl f63123)), (q63106, .inl (I .int, 720, .inl f63124)), (q63107, .inl (I .int, 720, .inl f63125)), (q63108, .inr (10, [.ref q63112, .ref q63113, .ref q63114, .ref q63115, .int p63126, .int p63127, .int p63128])), (q63109, .inl (I .long, 8640, .inr (.inl f63129))), (q63110, .inl (I .long, 12, .inr (.inl f63130))), (q63111, .inl (I .int, 720, .inl f63131)), (q63112, .inl (I .long, 480, .inr (.inl f63132))), (q63113, .inl (I .long, 480, .inr (.inl f63133))), (q63114, .inl (I .long, 480, .inr (.inl f63134))), (q63115, .inl (I .long, 12, .inr (.inl f63135)))]) (cs' := 0) (sl' := 0) rfl rfl rfl ?_
                refine G_ior d_cX1_coloursAround_70 (G_nam fun z64356 hz64356 => ?_)
                have ez64356 : z64356.toInt = z64353.toInt + o64354.toInt := gI_or (k := 6) (m := (g64191.toInt).toNat) hz64356 (by omega) (bo64354') (by decide) (by omega)
                have bz64356 : gB z64356 0 767 := ⟨by omega, by omega⟩
                refine G_iald 6 0 d_cX1_coloursAround_71 rfl rfl (gB_inr (by omega) (by omega)) (G_nam fun z64357 hz64357 => ?_)
                have bz64357 : gB z64357 (-2147483648) 2147483647 := gB_any z64357
                refine G_istore (L' := [(8, .int z64357), (7, .int g64340), (5, .long gl64341), (4, .int g64191), (2, .long gl64342), (0, .ref q63101), (1, .int p63116)]) d_cX1_coloursAround_72 (Nat.le_of_ble_eq_true rfl) rfl ?_
                refine G_lload 2 d_cX1_coloursAround_74 rfl ?_
                refine G_lload 2 d_cX1_coloursAround_76 rfl ?_
                refine G_lconst 1 d_cX1_coloursAround_78 rfl ?_
                refine G_lsub d_cX1_coloursAround_79 (G_namL fun u64358 hu64358 => ?_)
                refine G_land d_cX1_coloursAround_80 (G_namL fun u64359 hu64359 => ?_)
                have qu64359 : lb_Q u64359 (p63119.toInt - 64 * g64191.toInt) := lb_QandL hu64359 x64343
                refine G_lstore (L' := [(5, .long u64359), (8, .int z64357), (7, .int g64340), (4, .int g64191), (2, .long gl64342), (0, .ref q63101), (1, .int p63116)]) d_cX1_coloursAround_81 (Nat.le_of_ble_eq_true rfl) rfl ?_
                refine G_lload_n 4 d_cX1_coloursAround_83 rfl ?_
                refine G_iload 1 d_cX1_coloursAround_84 rfl ?_
                refine G_iconst (-1) d_cX1_coloursAround_86 (by decide +kernel) ?_
                refine G_icmp_ne 94 d_cX1_coloursAround_87 (by decide +kernel) (fun hc64360 => ?_) (fun hc64360 => ?_)
                · have r64361 : z64357.toInt ≠ (-1) := gj_neq hc64360 (show Int32.toInt (-1) = (-1) by decide)
                  refine G_lconst 1 d_cX1_coloursAround_94 rfl ?_
                  refine G_iload 1 d_cX1_coloursAround_95 rfl ?_
                  refine G_lshl d_cX1_coloursAround_97 (G_namL fun u64362 hu64362 => ?_)
                  refine G_lor d_cX1_coloursAround_98 (G_namL fun u64363 hu64363 => ?_)
                  refine G_lstore_n (L' := [(2, .long u64363), (5, .long u64359), (8, .int z64357), (7, .int g64340), (4, .int g64191), (0, .ref q63101), (1, .int p63116)]) d_cX1_coloursAround_99 (Nat.le_of_ble_eq_true rfl) rfl ?_
                  obtain ⟨z64364, hz64364⟩ : ∃ z : Int32, z = g64340 + Int32.ofInt 1 := ⟨_, rfl⟩
                  have ez64364 : z64364.toInt = g64340.toInt + 1 := gI_inc hz64364 (by decide) bg64340' (by decide) (by decide)
                  have bz64364 : gB z64364 1 64 := ⟨by omega, by omega⟩
                  refine G_iinc (L' := [(7, .int z64364), (2, .long u64363), (5, .long u64359), (8, .int z64357), (4, .int g64191), (0, .ref q63101), (1, .int p63116)]) z64364 3 d_cX1_coloursAround_100 rfl hz64364.symm (Nat.le_of_ble_eq_true rfl) rfl ?_
                  refine G_goto 42 d_cX1_coloursAround_103 (by decide +kernel) ?_
                  refine G_lv (L' := [(7, .int z64364), (5, .long u64359), (4, .int g64191), (2, .long u64363), (0, .ref q63101), (1, .int p63116)]) [0, 2, 4, 1, 5, 6] rfl ?_
                  exact ih42_64343 z64364 u64359 u64363 (gB_w bz64364 (by decide) (by decide)) qu64359 (by omega)
                · have r64365 : z64357.toInt = (-1) := gj_eq hc64360 (show Int32.toInt (-1) = (-1) by decide)
                  have bz64357' : gB z64357 (-1) (-1) := ⟨by omega, by omega⟩
                  refine G_lconst 0 d_cX1_coloursAround_90 rfl ?_
                  refine G_goto 98 d_cX1_coloursAround_91 (by decide +kernel) ?_
                  refine G_lor d_cX1_coloursAround_98 (G_namL fun u64366 hu64366 => ?_)
                  refine G_lstore_n (L' := [(2, .long u64366), (5, .long u64359), (8, .int z64357), (7, .int g64340), (4, .int g64191), (0, .ref q63101), (1, .int p63116)]) d_cX1_coloursAround_99 (Nat.le_of_ble_eq_true rfl) rfl ?_
                  obtain ⟨z64367, hz64367⟩ : ∃ z : Int32, z = g64340 + Int32.ofInt 1 := ⟨_, rfl⟩
                  have ez64367 : z64367.toInt = g64340.toInt + 1 := gI_inc hz64367 (by decide) bg64340' (by decide) (by decide)
                  have bz64367 : gB z64367 1 64 := ⟨by omega, by omega⟩
                  refine G_iinc (L' := [(7, .int z64367), (2, .long u64366), (5, .long u64359), (8, .int z64357), (4, .int g64191), (0, .ref q63101), (1, .int p63116)]) z64367 3 d_cX1_coloursAround_100 rfl hz64367.symm (Nat.le_of_ble_eq_true rfl) rfl ?_
                  refine G_goto 42 d_cX1_coloursAround_103 (by decide +kernel) ?_
                  refine G_lv (L' := [(7, .int z64367), (5, .long u64359), (4, .int g64191), (2, .long u64366), (0, .ref q63101), (1, .int p63116)]) [0, 2, 4, 1, 5, 6] rfl ?_
                  exact ih42_64343 z64367 u64359 u64366 (gB_w bz64367 (by decide) (by decide)) qu64359 (by omega)
        exact hlp42_64343 (((65 : Int) - 0).toNat + 1) 0 u64198 gl64192 (gB_w (gBl (show Int32.toInt 0 = 0 by decide)) (by decide) (by decide)) qu64198 (Nat.lt_succ_self _)
  exact hlp5_64192 (((13 : Int) - 0).toNat + 1) 0 0 (gB_w (gBl (show Int32.toInt 0 = 0 by decide)) (by decide) (by decide)) (Nat.lt_succ_self _)
abbrev ky_63094_Colouring_putTogether : gKey := (cX1_putTogether, 6, yX1_putTogether.cls, (some FieldType.boolean), [], yX1_putTogether.name, fun _ _ => True)
abbrev po_63094_Colouring_putTogether (I : FieldType → ClassId) (q63055 : Nat) (q63056 : Nat) (q63057 : Nat) (q63058 : Nat) (q63059 : Nat) (q63060 : Nat) (q63061 : Nat) (q63062 : Nat) (q63063 : Nat) (q63064 : Nat) (q63065 : Nat) (q63066 : Nat) (q63067 : Nat) (q63068 : Nat) (q63069 : Nat) (p63070 : Int32) (p63071 : Int32) (p63072 : Int32) (p63073 : Int32) (p63074 : Int32) (f63075 : Nat → Int32) (f63076 : Nat → Int32) (f63077 : Nat → Int32) (f63078 : Nat → Int32) (f63079 : Nat → Int32) (p63080 : Int32) (p63081 : Int32) (p63082 : Int32) (f63083 : Nat → Int64) (f63084 : Nat → Int64) (f63085 : Nat → Int32) (f63086 : Nat → Int64) (f63087 : Nat → Int64) (f63088 : Nat → Int64) (f63089 : Nat → Int64) : Option Value → va_W → Prop := fun r w => ∃ (o64415 : Int32) (f64414 : Nat → Int32), r = some (.int o64415) ∧ w = [(q63055, .inr (6, [.ref q63056, .ref q63057, .ref q63058, .ref q63059, .ref q63060, .ref q63061, .int p63071, .int p63072])), (q63056, .inr (8, [.ref q63062, .ref q63063, .ref q63064, .ref q63065, .int p63073, .int p63074])), (q63057, .inl (I .int, 720, .inl f63075)), (q63058, .inl (I .int, 720, .inl f63076)), (q63059, .inl (I .int, 720, .inl f63077)), (q63060, .inl (I .int, 720, .inl f63078)), (q63061, .inl (I .int, 720, .inl f64414)), (q63062, .inr (10, [.ref q63066, .ref q63067, .ref q63068, .ref q63069, .int p63080, .int p63081, .int p63082])), (q63063, .inl (I .long, 8640, .inr (.inl f63083))), (q63064, .inl (I .long, 12, .inr (.inl f63084))), (q63065, .inl (I .int, 720, .inl f63085)), (q63066, .inl (I .long, 480, .inr (.inl f63086))), (q63067, .inl (I .long, 480, .inr (.inl f63087))), (q63068, .inl (I .long, 480, .inr (.inl f63088))), (q63069, .inl (I .long, 12, .inr (.inl f63089)))] ∧ gB o64415 0 1 ∧ gF f64414 (-2147483648) 2147483647
set_option maxRecDepth 100000 in
set_option maxHeartbeats 4000000 in
theorem ct_63094_Colouring_putTogether (l : Launch) (hl0 : l.stackTraces = false) (D : va_G) (I : FieldType → ClassId) (q63055 : Nat) (q63056 : Nat) (q63057 : Nat) (q63058 : Nat) (q63059 : Nat) (q63060 : Nat) (q63061 : Nat) (q63062 : Nat) (q63063 : Nat) (q63064 : Nat) (q63065 : Nat) (q63066 : Nat) (q63067 : Nat) (q63068 : Nat) (q63069 : Nat) (p63070 : Int32) (p63071 : Int32) (p63072 : Int32) (p63073 : Int32) (p63074 : Int32) (f63075 : Nat → Int32) (f63076 : Nat → Int32) (f63077 : Nat → Int32) (f63078 : Nat → Int32) (f63079 : Nat → Int32) (p63080 : Int32) (p63081 : Int32) (p63082 : Int32) (f63083 : Nat → Int64) (f63084 : Nat → Int64) (f63085 : Nat → Int32) (f63086 : Nat → Int64) (f63087 : Nat → Int64) (f63088 : Nat → Int64) (f63089 : Nat → Int64) (bp63071 : gB p63071 0 720) (bp63072 : gB p63072 0 720) (bp63073 : gB p63073 0 720) (bp63074 : gB p63074 0 12) (bf63077 : gF f63077 0 719) (bf63078 : gF f63078 0 719) (bp63080 : gB p63080 0 720) (bp63081 : gB p63081 0 12) (bp63082 : gB p63082 0 1) (x63090 : gP f63078 (p63072.toInt) (p63073.toInt)) (x63091 : p63074.toInt = (p63073.toInt + 63) / 64) (x63092 : lb_W f63083 (p63073.toInt * p63074.toInt) (p63074.toInt) (p63073.toInt)) (x63093 : p63081.toInt = (p63080.toInt + 63) / 64) : Ct (gV D I) l yX1_putTogether cX1_putTogether 6 (some FieldType.boolean) 3 70 0 0 [.ref q63055, .int p63070] [(q63055, .inr (6, [.ref q63056, .ref q63057, .ref q63058, .ref q63059, .ref q63060, .ref q63061, .int p63071, .int p63072])), (q63056, .inr (8, [.ref q63062, .ref q63063, .ref q63064, .ref q63065, .int p63073, .int p63074])), (q63057, .inl (I .int, 720, .inl f63075)), (q63058, .inl (I .int, 720, .inl f63076)), (q63059, .inl (I .int, 720, .inl f63077)), (q63060, .inl (I .int, 720, .inl f63078)), (q63061, .inl (I .int, 720, .inl f63079)), (q63062, .inr (10, [.ref q63066, .ref q63067, .ref q63068, .ref q63069, .int p63080, .int p63081, .int p63082])), (q63063, .inl (I .long, 8640, .inr (.inl f63083))), (q63064, .inl (I .long, 12, .inr (.inl f63084))), (q63065, .inl (I .int, 720, .inl f63085)), (q63066, .inl (I .long, 480, .inr (.inl f63086))), (q63067, .inl (I .long, 480, .inr (.inl f63087))), (q63068, .inl (I .long, 480, .inr (.inl f63088))), (q63069, .inl (I .long, 12, .inr (.inl f63089)))] (po_63094_Colouring_putTogether I q63055 q63056 q63057 q63058 q63059 q63060 q63061 q63062 q63063 q63064 q63065 q63066 q63067 q63068 q63069 p63070 p63071 p63072 p63073 p63074 f63075 f63076 f63077 f63078 f63079 p63080 p63081 p63082 f63083 f63084 f63085 f63086 f63087 f63088 f63089) gN := by
  refine Ct_of hl0 (by decide) (Nat.le_of_ble_eq_true rfl) ?_
  have bp63070 := gB_any p63070
  refine G_aload_n 0 d_cX1_putTogether_0 rfl ?_
  refine G_getf 0 5 d_cX1_putTogether_1 rfl (gk_X1 D I) (Nat.le_of_ble_eq_true rfl) w_2_83 rfl ?_
  refine G_iconst (-1) d_cX1_putTogether_4 (by decide +kernel) ?_
  refine G_callS (As := [.ref q63061, .int (-1)]) (wr := [(q63055, .inr (6, [.ref q63056, .ref q63057, .ref q63058, .ref q63059, .ref q63060, .ref q63061, .int p63071, .int p63072])), (q63056, .inr (8, [.ref q63062, .ref q63063, .ref q63064, .ref q63065, .int p63073, .int p63074])), (q63057, .inl (I .int, 720, .inl f63075)), (q63058, .inl (I .int, 720, .inl f63076)), (q63059, .inl (I .int, 720, .inl f63077)), (q63060, .inl (I .int, 720, .inl f63078)), (q63062, .inr (10, [.ref q63066, .ref q63067, .ref q63068, .ref q63069, .int p63080, .int p63081, .int p63082])), (q63063, .inl (I .long, 8640, .inr (.inl f63083))), (q63064, .inl (I .long, 12, .inr (.inl f63084))), (q63065, .inl (I .int, 720, .inl f63085)), (q63066, .inl (I .long, 480, .inr (.inl f63086))), (q63067, .inl (I .long, 480, .inr (.inl f63087))), (q63068, .inl (I .long, 480, .inr (.inl f63088))), (q63069, .inl (I .long, 12, .inr (.inl f63089)))]) (gV_ok D I) (ct_53690_Arrays_fill l hl0 D I q63061 (-1) f63079 ) d_cX1_putTogether_5 ⟨w_4_146, w_1_30, w_3_239, by decide, rfl, (Nat.le_of_ble_eq_true rfl), (Nat.le_of_ble_eq_true rfl)⟩ w_3_238 [6] [0, 1, 2, 3, 4, 5, 7, 8, 9, 10, 11, 12, 13, 14] rfl rfl rfl rfl (by decide) (Nat.le_of_ble_eq_true rfl) (Nat.le_of_ble_eq_true rfl) (Nat.le_of_ble_eq_true rfl) (fun r w hp => ?_) (fun _ _ _ z => z.elim)
  obtain ⟨f63095, rfl, rfl, bf63095⟩ := hp
  change G _ _ _ _ _ _ _ _ _ _ _
  refine G_ws (ws' := [(q63055, .inr (6, [.ref q63056, .ref q63057, .ref q63058, .ref q63059, .ref q63060, .ref q63061, .int p63071, .int p63072])), (q63056, .inr (8, [.ref q63062, .ref q63063, .ref q63064, .ref q63065, .int p63073, .int p63074])), (q63057, .inl (I .int, 720, .inl f63075)), (q63058, .inl (I .int, 720, .inl f63076)), (q63059, .inl (I .int, 720, .inl f63077)), (q63060, .inl (I .int, 720, .inl f63078)), (q63062, .inr (10, [.ref q63066, .ref q63067, .ref q63068, .ref q63069, .int p63080, .int p63081, .int p63082])), (q63063, .inl (I .long, 8640, .inr (.inl f63083))), (q63064, .inl (I .long, 12, .inr (.inl f63084))), (q63065, .inl (I .int, 720, .inl f63085)), (q63066, .inl (I .long, 480, .inr (.inl f63086))), (q63067, .inl (I .long, 480, .inr (.inl f63087))), (q63068, .inl (I .long, 480, .inr (.inl f63088))), (q63069, .inl (I .long, 12, .inr (.inl f63089))), (q63061, .inl (I .int, 720, .inl f63095))]) (cs' := 0) (sl' := 0) rfl rfl rfl ?_
  refine G_iconst 1 d_cX1_putTogether_8 (by decide +kernel) ?_
  refine G_istore_n (L' := [(2, .int 1), (0, .ref q63055), (1, .int p63070)]) d_cX1_putTogether_9 (Nat.le_of_ble_eq_true rfl) rfl ?_
  refine G_aload_n 1 d_cX1_putTogether_10 rfl ?_
  refine G_getf 0 7 d_cX1_putTogether_11 rfl (gk_X1 D I) (Nat.le_of_ble_eq_true rfl) w_2_85 rfl ?_
  refine G_iconst 1 d_cX1_putTogether_14 (by decide +kernel) ?_
  refine G_isub d_cX1_putTogether_15 (G_nam fun z63096 hz63096 => ?_)
  have ez63096 : z63096.toInt = p63072.toInt - 1 := by rw [gI_sub hz63096 bp63072 (gBl (show Int32.toInt 1 = 1 by decide)) (by decide) (by decide), show Int32.toInt 1 = 1 from by decide]
  have bz63096 : gB z63096 (-1) 719 := gB_sub (gI_sub hz63096 bp63072 (gBl (show Int32.toInt 1 = 1 by decide)) (by decide) (by decide)) bp63072 (gBl (show Int32.toInt 1 = 1 by decide)) (by decide) (by decide)
  refine G_istore_n (L' := [(3, .int z63096), (2, .int 1), (0, .ref q63055), (1, .int p63070)]) d_cX1_putTogether_16 (Nat.le_of_ble_eq_true rfl) rfl ?_
  have hlp17_64399 : ∀ (n17_64399 : Nat) (g64396 : Int32) (g64397 : Int32) (f64398 : Nat → Int32), gB g64396 (-1) 719 → gB g64397 0 1 → gF f64398 (-2147483648) 2147483647 → g64396.toInt < p63072.toInt → ((g64396.toInt : Int) - (-2)).toNat < n17_64399 → G (gV D I) l (gRm 3 70 0 0) (gM (gV D I) (po_63094_Colouring_putTogether I q63055 q63056 q63057 q63058 q63059 q63060 q63061 q63062 q63063 q63064 q63065 q63066 q63067 q63068 q63069 p63070 p63071 p63072 p63073 p63074 f63075 f63076 f63077 f63078 f63079 p63080 p63081 p63082 f63083 f63084 f63085 f63086 f63087 f63088 f63089) gN 0 0) ky_63094_Colouring_putTogether 17 [(3, .int g64396), (2, .int g64397), (0, .ref q63055), (1, .int p63070)] [] [(q63055, .inr (6, [.ref q63056, .ref q63057, .ref q63058, .ref q63059, .ref q63060, .ref q63061, .int p63071, .int p63072])), (q63056, .inr (8, [.ref q63062, .ref q63063, .ref q63064, .ref q63065, .int p63073, .int p63074])), (q63057, .inl (I .int, 720, .inl f63075)), (q63058, .inl (I .int, 720, .inl f63076)), (q63059, .inl (I .int, 720, .inl f63077)), (q63060, .inl (I .int, 720, .inl f63078)), (q63062, .inr (10, [.ref q63066, .ref q63067, .ref q63068, .ref q63069, .int p63080, .int p63081, .int p63082])), (q63063, .inl (I .long, 8640, .inr (.inl f63083))), (q63064, .inl (I .long, 12, .inr (.inl f63084))), (q63065, .inl (I .int, 720, .inl f63085)), (q63066, .inl (I .long, 480, .inr (.inl f63086))), (q63067, .inl (I .long, 480, .inr (.inl f63087))), (q63068, .inl (I .long, 480, .inr (.inl f63088))), (q63069, .inl (I .long, 12, .inr (.inl f63089))), (q63061, .inl (I .int, 720, .inl f64398))] 0 0 := by
    intro n17_64399
    induction n17_64399 with
    | zero => intro g64396 g64397 f64398 bg64396 bg64397 bf64398 x64399 hm17_64399; exact absurd hm17_64399 (Nat.not_lt_zero _)
    | succ n17_64399 ih17_64399 =>
      intro g64396 g64397 f64398 bg64396 bg64397 bf64398 x64399 hm17_64399
      refine G_iload_n 0 d_cX1_putTogether_17 rfl ?_
      refine G_if_lt 70 d_cX1_putTogether_18 (by decide +kernel) (fun hc64400 => ?_) (fun hc64400 => ?_)
      · have r64401 : g64396.toInt < 0 := gj_lt hc64400 (show Int32.toInt 0 = 0 by decide)
        have bg64396' : gB g64396 (-1) (-1) := ⟨by omega, by omega⟩
        refine G_iload_n 1 d_cX1_putTogether_70 rfl ?_
        refine G_sub (ws' := [(q63055, .inr (6, [.ref q63056, .ref q63057, .ref q63058, .ref q63059, .ref q63060, .ref q63061, .int p63071, .int p63072])), (q63056, .inr (8, [.ref q63062, .ref q63063, .ref q63064, .ref q63065, .int p63073, .int p63074])), (q63057, .inl (I .int, 720, .inl f63075)), (q63058, .inl (I .int, 720, .inl f63076)), (q63059, .inl (I .int, 720, .inl f63077)), (q63060, .inl (I .int, 720, .inl f63078)), (q63061, .inl (I .int, 720, .inl f64398)), (q63062, .inr (10, [.ref q63066, .ref q63067, .ref q63068, .ref q63069, .int p63080, .int p63081, .int p63082])), (q63063, .inl (I .long, 8640, .inr (.inl f63083))), (q63064, .inl (I .long, 12, .inr (.inl f63084))), (q63065, .inl (I .int, 720, .inl f63085)), (q63066, .inl (I .long, 480, .inr (.inl f63086))), (q63067, .inl (I .long, 480, .inr (.inl f63087))), (q63068, .inl (I .long, 480, .inr (.inl f63088))), (q63069, .inl (I .long, 12, .inr (.inl f63089)))]) [0, 1, 2, 3, 4, 5, 14, 6, 7, 8, 9, 10, 11, 12, 13] rfl rfl ?_
        exact G_zret FieldType.boolean d_cX1_putTogether_71 rfl (gN_bool bg64397) (Nat.le_of_ble_eq_true rfl) (Nat.le_of_ble_eq_true rfl) ⟨g64397, f64398, rfl, rfl, bg64397, bf64398⟩
      · have r64402 : 0 ≤ g64396.toInt := gj_nlt hc64400 (show Int32.toInt 0 = 0 by decide)
        have bg64396' : gB g64396 0 719 := ⟨by omega, by omega⟩
        refine G_aload_n 2 d_cX1_putTogether_21 rfl ?_
        refine G_getf 0 4 d_cX1_putTogether_22 rfl (gk_X1 D I) (Nat.le_of_ble_eq_true rfl) w_2_82 rfl ?_
        refine G_iload_n 0 d_cX1_putTogether_25 rfl ?_
        refine G_iald 5 0 d_cX1_putTogether_26 rfl rfl (gB_in bg64396' (by decide) (by decide)) (G_nam fun z64403 hz64403 => ?_)
        have bz64403 : gB z64403 0 719 := by rw [hz64403]; exact bf63078 _
        have pz64403 := gP_ld hz64403 x63090 (by omega) (by omega)
        refine G_istore (L' := [(4, .int z64403), (3, .int g64396), (2, .int g64397), (0, .ref q63055), (1, .int p63070)]) d_cX1_putTogether_27 (Nat.le_of_ble_eq_true rfl) rfl ?_
        refine G_aload_n 3 d_cX1_putTogether_29 rfl ?_
        refine G_iload 0 d_cX1_putTogether_30 rfl ?_
        refine G_callV (As := [.int z64403]) (wr := []) (gV_ok D I) (ct_63140_Colouring_coloursAround l hl0 D I q63055 q63056 q63057 q63058 q63059 q63060 q63061 q63062 q63063 q63064 q63065 q63066 q63067 q63068 q63069 z64403 p63071 p63072 p63073 p63074 f63075 f63076 f63077 f63078 f64398 p63080 p63081 p63082 f63083 f63084 f63085 f63086 f63087 f63088 f63089 bz64403 bp63071 bp63072 bp63073 bp63074 bf63077 bf63078 bp63080 bp63081 bp63082 (by omega) (by omega) x63092 (by omega)) d_cX1_putTogether_32 ⟨w_5_141, w_1_11, w_5_144, by decide, rfl, (Nat.le_of_ble_eq_true rfl), (Nat.le_of_ble_eq_true rfl)⟩ w_5_143 w_p_46 0 rfl rfl [0, 1, 2, 3, 4, 5, 14, 6, 7, 8, 9, 10, 11, 12, 13] [] rfl rfl rfl rfl (by decide) (Nat.le_of_ble_eq_true rfl) (Nat.le_of_ble_eq_true rfl) (Nat.le_of_ble_eq_true rfl) (fun r w hp => ?_) (fun _ _ _ z => z.elim)
        obtain ⟨ol64404, rfl, rfl⟩ := hp
        change G _ _ _ _ _ _ _ (.long ol64404 :: _) _ _ _
        refine G_ws (ws' := [(q63055, .inr (6, [.ref q63056, .ref q63057, .ref q63058, .ref q63059, .ref q63060, .ref q63061, .int p63071, .int p63072])), (q63056, .inr (8, [.ref q63062, .ref q63063, .ref q63064, .ref q63065, .int p63073, .int p63074])), (q63057, .inl (I .int, 720, .inl f63075)), (q63058, .inl (I .int, 720, .inl f63076)), (q63059, .inl (I .int, 720, .inl f63077)), (q63060, .inl (I .int, 720, .inl f63078)), (q63061, .inl (I .int, 720, .inl f64398)), (q63062, .inr (10, [.ref q63066, .ref q63067, .ref q63068, .ref q63069, .int p63080, .int p63081, .int p63082])), (q63063, .inl (I .long, 8640, .inr (.inl f63083))), (q63064, .inl (I .long, 12, .inr (.inl f63084))), (q63065, .inl (I .int, 720, .inl f63085)), (q63066, .inl (I .long, 480, .inr (.inl f63086))), (q63067, .inl (I .long, 480, .inr (.inl f63087))), (q63068, .inl (I .long, 480, .inr (.inl f63088))), (q63069, .inl (I .long, 12, .inr (.inl f63089)))]) (cs' := 0) (sl' := 0) rfl rfl rfl ?_
        refine G_ldc2 (-1) d_cX1_putTogether_35 w_5_145 ?_
        refine G_lxor d_cX1_putTogether_38 (G_namL fun u64405 hu64405 => ?_)
        refine G_callSN (As := [.long u64405]) (wr := [(q63055, .inr (6, [.ref q63056, .ref q63057, .ref q63058, .ref q63059, .ref q63060, .ref q63061, .int p63071, .int p63072])), (q63056, .inr (8, [.ref q63062, .ref q63063, .ref q63064, .ref q63065, .int p63073, .int p63074])), (q63057, .inl (I .int, 720, .inl f63075)), (q63058, .inl (I .int, 720, .inl f63076)), (q63059, .inl (I .int, 720, .inl f63077)), (q63060, .inl (I .int, 720, .inl f63078)), (q63061, .inl (I .int, 720, .inl f64398)), (q63062, .inr (10, [.ref q63066, .ref q63067, .ref q63068, .ref q63069, .int p63080, .int p63081, .int p63082])), (q63063, .inl (I .long, 8640, .inr (.inl f63083))), (q63064, .inl (I .long, 12, .inr (.inl f63084))), (q63065, .inl (I .int, 720, .inl f63085)), (q63066, .inl (I .long, 480, .inr (.inl f63086))), (q63067, .inl (I .long, 480, .inr (.inl f63087))), (q63068, .inl (I .long, 480, .inr (.inl f63088))), (q63069, .inl (I .long, 12, .inr (.inl f63089)))]) (gV_ok D I) (ct_29216_SpillForge_lowestBit l hl0 D I u64405 ) d_cX1_putTogether_39 ⟨(fun _ _ _ h => gn_w 73 rfl h), w_1_1, w_4_127, by decide, rfl, (Nat.le_of_ble_eq_true rfl), (Nat.le_of_ble_eq_true rfl)⟩ w_4_126 [] [0, 1, 2, 3, 4, 5, 6, 7, 8, 9, 10, 11, 12, 13, 14] rfl rfl rfl rfl (by decide) (Nat.le_of_ble_eq_true rfl) (Nat.le_of_ble_eq_true rfl) (Nat.le_of_ble_eq_true rfl) (fun r w hp => ?_)
        obtain ⟨o64406, rfl, rfl, bo64406, x64407⟩ := hp
        change G _ _ _ _ _ _ _ (.int o64406 :: _) _ _ _
        refine G_ws (ws' := [(q63055, .inr (6, [.ref q63056, .ref q63057, .ref q63058, .ref q63059, .ref q63060, .ref q63061, .int p63071, .int p63072])), (q63056, .inr (8, [.ref q63062, .ref q63063, .ref q63064, .ref q63065, .int p63073, .int p63074])), (q63057, .inl (I .int, 720, .inl f63075)), (q63058, .inl (I .int, 720, .inl f63076)), (q63059, .inl (I .int, 720, .inl f63077)), (q63060, .inl (I .int, 720, .inl f63078)), (q63061, .inl (I .int, 720, .inl f64398)), (q63062, .inr (10, [.ref q63066, .ref q63067, .ref q63068, .ref q63069, .int p63080, .int p63081, .int p63082])), (q63063, .inl (I .long, 8640, .inr (.inl f63083))), (q63064, .inl (I .long, 12, .inr (.inl f63084))), (q63065, .inl (I .int, 720, .inl f63085)), (q63066, .inl (I .long, 480, .inr (.inl f63086))), (q63067, .inl (I .long, 480, .inr (.inl f63087))), (q63068, .inl (I .long, 480, .inr (.inl f63088))), (q63069, .inl (I .long, 12, .inr (.inl f63089)))]) (cs' := 0) (sl' := 0) rfl rfl rfl ?_
        refine G_istore (L' := [(5, .int o64406), (4, .int z64403), (3, .int g64396), (2, .int g64397), (0, .ref q63055), (1, .int p63070)]) d_cX1_putTogether_42 (Nat.le_of_ble_eq_true rfl) rfl ?_
        refine G_iload 0 d_cX1_putTogether_44 rfl ?_
        refine G_iload_n 5 d_cX1_putTogether_46 rfl ?_
        refine G_icmp_ge 62 d_cX1_putTogether_47 (by decide +kernel) (fun hc64408 => ?_) (fun hc64408 => ?_)
        · have r64409 : p63070.toInt ≤ o64406.toInt := gC_le hc64408
          have bp63070' : gB p63070 (-2147483648) 127 := ⟨by omega, by omega⟩
          refine G_iconst 0 d_cX1_putTogether_62 (by decide +kernel) ?_
          refine G_istore_n (L' := [(2, .int 0), (5, .int o64406), (4, .int z64403), (3, .int g64396), (0, .ref q63055), (1, .int p63070)]) d_cX1_putTogether_63 (Nat.le_of_ble_eq_true rfl) rfl ?_
          obtain ⟨z64410, hz64410⟩ : ∃ z : Int32, z = g64396 + Int32.ofInt (-1) := ⟨_, rfl⟩
          have ez64410 : z64410.toInt = g64396.toInt + (-1) := gI_inc hz64410 (by decide) bg64396' (by decide) (by decide)
          have bz64410 : gB z64410 (-1) 718 := ⟨by omega, by omega⟩
          refine G_iinc (L' := [(3, .int z64410), (2, .int 0), (5, .int o64406), (4, .int z64403), (0, .ref q63055), (1, .int p63070)]) z64410 3 d_cX1_putTogether_64 rfl hz64410.symm (Nat.le_of_ble_eq_true rfl) rfl ?_
          refine G_goto 17 d_cX1_putTogether_67 (by decide +kernel) ?_
          refine G_lv (L' := [(3, .int z64410), (2, .int 0), (0, .ref q63055), (1, .int p63070)]) [0, 1, 4, 5] rfl ?_
          refine G_sub (ws' := [(q63055, .inr (6, [.ref q63056, .ref q63057, .ref q63058, .ref q63059, .ref q63060, .ref q63061, .int p63071, .int p63072])), (q63056, .inr (8, [.ref q63062, .ref q63063, .ref q63064, .ref q63065, .int p63073, .int p63074])), (q63057, .inl (I .int, 720, .inl f63075)), (q63058, .inl (I .int, 720, .inl f63076)), (q63059, .inl (I .int, 720, .inl f63077)), (q63060, .inl (I .int, 720, .inl f63078)), (q63062, .inr (10, [.ref q63066, .ref q63067, .ref q63068, .ref q63069, .int p63080, .int p63081, .int p63082])), (q63063, .inl (I .long, 8640, .inr (.inl f63083))), (q63064, .inl (I .long, 12, .inr (.inl f63084))), (q63065, .inl (I .int, 720, .inl f63085)), (q63066, .inl (I .long, 480, .inr (.inl f63086))), (q63067, .inl (I .long, 480, .inr (.inl f63087))), (q63068, .inl (I .long, 480, .inr (.inl f63088))), (q63069, .inl (I .long, 12, .inr (.inl f63089))), (q63061, .inl (I .int, 720, .inl f64398))]) [0, 1, 2, 3, 4, 5, 7, 8, 9, 10, 11, 12, 13, 14, 6] rfl rfl ?_
          exact ih17_64399 z64410 0 f64398 (gB_w bz64410 (by decide) (by decide)) (gB_w (gBl (show Int32.toInt 0 = 0 by decide)) (by decide) (by decide)) bf64398 (by have qa0 : Int32.toInt 0 = 0 := (by decide); omega) (by have qa0 : Int32.toInt 0 = 0 := (by decide); omega)
        · have r64411 : o64406.toInt < p63070.toInt := gC_nle hc64408
          have bp63070' : gB p63070 1 2147483647 := ⟨by omega, by omega⟩
          refine G_aload_n 4 d_cX1_putTogether_50 rfl ?_
          refine G_getf 0 5 d_cX1_putTogether_51 rfl (gk_X1 D I) (Nat.le_of_ble_eq_true rfl) w_2_83 rfl ?_
          refine G_iload 1 d_cX1_putTogether_54 rfl ?_
          refine G_iload 0 d_cX1_putTogether_56 rfl ?_
          refine G_iastN 6 0 d_cX1_putTogether_58 rfl rfl (gB_in bz64403 (by decide) (by decide)) (fun f64412 hf64412 => ?_)
          refine G_ws (ws' := [(q63055, .inr (6, [.ref q63056, .ref q63057, .ref q63058, .ref q63059, .ref q63060, .ref q63061, .int p63071, .int p63072])), (q63056, .inr (8, [.ref q63062, .ref q63063, .ref q63064, .ref q63065, .int p63073, .int p63074])), (q63057, .inl (I .int, 720, .inl f63075)), (q63058, .inl (I .int, 720, .inl f63076)), (q63059, .inl (I .int, 720, .inl f63077)), (q63060, .inl (I .int, 720, .inl f63078)), (q63061, .inl (I .int, 720, .inl f64412)), (q63062, .inr (10, [.ref q63066, .ref q63067, .ref q63068, .ref q63069, .int p63080, .int p63081, .int p63082])), (q63063, .inl (I .long, 8640, .inr (.inl f63083))), (q63064, .inl (I .long, 12, .inr (.inl f63084))), (q63065, .inl (I .int, 720, .inl f63085)), (q63066, .inl (I .long, 480, .inr (.inl f63086))), (q63067, .inl (I .long, 480, .inr (.inl f63087))), (q63068, .inl (I .long, 480, .inr (.inl f63088))), (q63069, .inl (I .long, 12, .inr (.inl f63089)))]) (cs' := 0) (sl' := 0) rfl rfl rfl ?_
          refine G_goto 64 d_cX1_putTogether_59 (by decide +kernel) ?_
          obtain ⟨z64413, hz64413⟩ : ∃ z : Int32, z = g64396 + Int32.ofInt (-1) := ⟨_, rfl⟩
          have ez64413 : z64413.toInt = g64396.toInt + (-1) := gI_inc hz64413 (by decide) bg64396' (by decide) (by decide)
          have bz64413 : gB z64413 (-1) 718 := ⟨by omega, by omega⟩
          refine G_iinc (L' := [(3, .int z64413), (5, .int o64406), (4, .int z64403), (2, .int g64397), (0, .ref q63055), (1, .int p63070)]) z64413 2 d_cX1_putTogether_64 rfl hz64413.symm (Nat.le_of_ble_eq_true rfl) rfl ?_
          refine G_goto 17 d_cX1_putTogether_67 (by decide +kernel) ?_
          refine G_lv (L' := [(3, .int z64413), (2, .int g64397), (0, .ref q63055), (1, .int p63070)]) [0, 3, 4, 5] rfl ?_
          refine G_sub (ws' := [(q63055, .inr (6, [.ref q63056, .ref q63057, .ref q63058, .ref q63059, .ref q63060, .ref q63061, .int p63071, .int p63072])), (q63056, .inr (8, [.ref q63062, .ref q63063, .ref q63064, .ref q63065, .int p63073, .int p63074])), (q63057, .inl (I .int, 720, .inl f63075)), (q63058, .inl (I .int, 720, .inl f63076)), (q63059, .inl (I .int, 720, .inl f63077)), (q63060, .inl (I .int, 720, .inl f63078)), (q63062, .inr (10, [.ref q63066, .ref q63067, .ref q63068, .ref q63069, .int p63080, .int p63081, .int p63082])), (q63063, .inl (I .long, 8640, .inr (.inl f63083))), (q63064, .inl (I .long, 12, .inr (.inl f63084))), (q63065, .inl (I .int, 720, .inl f63085)), (q63066, .inl (I .long, 480, .inr (.inl f63086))), (q63067, .inl (I .long, 480, .inr (.inl f63087))), (q63068, .inl (I .long, 480, .inr (.inl f63088))), (q63069, .inl (I .long, 12, .inr (.inl f63089))), (q63061, .inl (I .int, 720, .inl f64412))]) [0, 1, 2, 3, 4, 5, 7, 8, 9, 10, 11, 12, 13, 14, 6] rfl rfl ?_
          exact ih17_64399 z64413 g64397 f64412 (gB_w bz64413 (by decide) (by decide)) bg64397 (gF_any f64412) (by omega) (by omega)
  exact hlp17_64399 (((z63096.toInt : Int) - (-2)).toNat + 1) z63096 1 f63095 bz63096 (gB_w (gBl (show Int32.toInt 1 = 1 by decide)) (by decide) (by decide)) bf63095 (by have qa0 : Int32.toInt 1 = 1 := (by decide); omega) (Nat.lt_succ_self _)
abbrev ky_64566_Colouring_isWithout : gKey := (cX1_isWithout, 2, yX1_isWithout.cls, (some FieldType.boolean), [], yX1_isWithout.name, fun _ _ => True)
abbrev po_64566_Colouring_isWithout (I : FieldType → ClassId) (q64528 : Nat) (q64529 : Nat) (q64530 : Nat) (q64531 : Nat) (q64532 : Nat) (q64533 : Nat) (q64534 : Nat) (q64535 : Nat) (q64536 : Nat) (q64537 : Nat) (q64538 : Nat) (q64539 : Nat) (q64540 : Nat) (q64541 : Nat) (q64542 : Nat) (p64543 : Int32) (p64544 : Int32) (p64545 : Int32) (p64546 : Int32) (p64547 : Int32) (f64548 : Nat → Int32) (f64549 : Nat → Int32) (f64550 : Nat → Int32) (f64551 : Nat → Int32) (f64552 : Nat → Int32) (p64553 : Int32) (p64554 : Int32) (p64555 : Int32) (f64556 : Nat → Int64) (f64557 : Nat → Int64) (f64558 : Nat → Int32) (f64559 : Nat → Int64) (f64560 : Nat → Int64) (f64561 : Nat → Int64) (f64562 : Nat → Int64) : Option Value → va_W → Prop := fun r w => (r = some (.int 0) ∧ w = [(q64528, .inr (6, [.ref q64529, .ref q64530, .ref q64531, .ref q64532, .ref q64533, .ref q64534, .int p64544, .int p64545])), (q64529, .inr (8, [.ref q64535, .ref q64536, .ref q64537, .ref q64538, .int p64546, .int p64547])), (q64530, .inl (I .int, 720, .inl f64548)), (q64531, .inl (I .int, 720, .inl f64549)), (q64532, .inl (I .int, 720, .inl f64550)), (q64533, .inl (I .int, 720, .inl f64551)), (q64534, .inl (I .int, 720, .inl f64552)), (q64535, .inr (10, [.ref q64539, .ref q64540, .ref q64541, .ref q64542, .int p64553, .int p64554, .int p64555])), (q64536, .inl (I .long, 8640, .inr (.inl f64556))), (q64537, .inl (I .long, 12, .inr (.inl f64557))), (q64538, .inl (I .int, 720, .inl f64558)), (q64539, .inl (I .long, 480, .inr (.inl f64559))), (q64540, .inl (I .long, 480, .inr (.inl f64560))), (q64541, .inl (I .long, 480, .inr (.inl f64561))), (q64542, .inl (I .long, 12, .inr (.inl f64562)))] ∧ p64543.toInt < 0) ∨ (r = some (.int 0) ∧ w = [(q64528, .inr (6, [.ref q64529, .ref q64530, .ref q64531, .ref q64532, .ref q64533, .ref q64534, .int p64544, .int p64545])), (q64529, .inr (8, [.ref q64535, .ref q64536, .ref q64537, .ref q64538, .int p64546, .int p64547])), (q64530, .inl (I .int, 720, .inl f64548)), (q64531, .inl (I .int, 720, .inl f64549)), (q64532, .inl (I .int, 720, .inl f64550)), (q64533, .inl (I .int, 720, .inl f64551)), (q64534, .inl (I .int, 720, .inl f64552)), (q64535, .inr (10, [.ref q64539, .ref q64540, .ref q64541, .ref q64542, .int p64553, .int p64554, .int p64555])), (q64536, .inl (I .long, 8640, .inr (.inl f64556))), (q64537, .inl (I .long, 12, .inr (.inl f64557))), (q64538, .inl (I .int, 720, .inl f64558)), (q64539, .inl (I .long, 480, .inr (.inl f64559))), (q64540, .inl (I .long, 480, .inr (.inl f64560))), (q64541, .inl (I .long, 480, .inr (.inl f64561))), (q64542, .inl (I .long, 12, .inr (.inl f64562)))] ∧ 0 ≤ p64543.toInt ∧ p64546.toInt ≤ p64543.toInt) ∨ (∃ (z64570 : Int32) (z64571 : Int32), r = some (.int 0) ∧ w = [(q64528, .inr (6, [.ref q64529, .ref q64530, .ref q64531, .ref q64532, .ref q64533, .ref q64534, .int p64544, .int p64545])), (q64529, .inr (8, [.ref q64535, .ref q64536, .ref q64537, .ref q64538, .int p64546, .int p64547])), (q64530, .inl (I .int, 720, .inl f64548)), (q64531, .inl (I .int, 720, .inl f64549)), (q64532, .inl (I .int, 720, .inl f64550)), (q64533, .inl (I .int, 720, .inl f64551)), (q64534, .inl (I .int, 720, .inl f64552)), (q64535, .inr (10, [.ref q64539, .ref q64540, .ref q64541, .ref q64542, .int p64553, .int p64554, .int p64555])), (q64536, .inl (I .long, 8640, .inr (.inl f64556))), (q64537, .inl (I .long, 12, .inr (.inl f64557))), (q64538, .inl (I .int, 720, .inl f64558)), (q64539, .inl (I .long, 480, .inr (.inl f64559))), (q64540, .inl (I .long, 480, .inr (.inl f64560))), (q64541, .inl (I .long, 480, .inr (.inl f64561))), (q64542, .inl (I .long, 12, .inr (.inl f64562)))] ∧ 0 ≤ p64543.toInt ∧ p64543.toInt < p64546.toInt ∧ z64570.toInt = p64543.toInt / 64 ∧ z64571.toInt = 0 ∧ gB z64570 0 11 ∧ gB z64571 0 0) ∨ (∃ (z64578 : Int32) (z64579 : Int32) (z64586 : Int32), r = some (.int 0) ∧ w = [(q64528, .inr (6, [.ref q64529, .ref q64530, .ref q64531, .ref q64532, .ref q64533, .ref q64534, .int p64544, .int p64545])), (q64529, .inr (8, [.ref q64535, .ref q64536, .ref q64537, .ref q64538, .int p64546, .int p64547])), (q64530, .inl (I .int, 720, .inl f64548)), (q64531, .inl (I .int, 720, .inl f64549)), (q64532, .inl (I .int, 720, .inl f64550)), (q64533, .inl (I .int, 720, .inl f64551)), (q64534, .inl (I .int, 720, .inl f64552)), (q64535, .inr (10, [.ref q64539, .ref q64540, .ref q64541, .ref q64542, .int p64553, .int p64554, .int p64555])), (q64536, .inl (I .long, 8640, .inr (.inl f64556))), (q64537, .inl (I .long, 12, .inr (.inl f64557))), (q64538, .inl (I .int, 720, .inl f64558)), (q64539, .inl (I .long, 480, .inr (.inl f64559))), (q64540, .inl (I .long, 480, .inr (.inl f64560))), (q64541, .inl (I .long, 480, .inr (.inl f64561))), (q64542, .inl (I .long, 12, .inr (.inl f64562)))] ∧ 0 ≤ p64543.toInt ∧ p64543.toInt < p64546.toInt ∧ z64578.toInt = p64543.toInt / 64 ∧ z64579.toInt ≠ 0 ∧ z64586.toInt ≠ (-1) ∧ z64586 = f64552 p64543.toNatClampNeg ∧ gB z64578 0 11 ∧ gB z64579 (-1) 1 ∧ gB z64586 (-2147483648) 2147483647) ∨ (∃ (z64578 : Int32) (z64579 : Int32) (z64586 : Int32), r = some (.int 1) ∧ w = [(q64528, .inr (6, [.ref q64529, .ref q64530, .ref q64531, .ref q64532, .ref q64533, .ref q64534, .int p64544, .int p64545])), (q64529, .inr (8, [.ref q64535, .ref q64536, .ref q64537, .ref q64538, .int p64546, .int p64547])), (q64530, .inl (I .int, 720, .inl f64548)), (q64531, .inl (I .int, 720, .inl f64549)), (q64532, .inl (I .int, 720, .inl f64550)), (q64533, .inl (I .int, 720, .inl f64551)), (q64534, .inl (I .int, 720, .inl f64552)), (q64535, .inr (10, [.ref q64539, .ref q64540, .ref q64541, .ref q64542, .int p64553, .int p64554, .int p64555])), (q64536, .inl (I .long, 8640, .inr (.inl f64556))), (q64537, .inl (I .long, 12, .inr (.inl f64557))), (q64538, .inl (I .int, 720, .inl f64558)), (q64539, .inl (I .long, 480, .inr (.inl f64559))), (q64540, .inl (I .long, 480, .inr (.inl f64560))), (q64541, .inl (I .long, 480, .inr (.inl f64561))), (q64542, .inl (I .long, 12, .inr (.inl f64562)))] ∧ 0 ≤ p64543.toInt ∧ p64543.toInt < p64546.toInt ∧ z64578.toInt = p64543.toInt / 64 ∧ z64579.toInt ≠ 0 ∧ z64586.toInt = (-1) ∧ z64586 = f64552 p64543.toNatClampNeg ∧ gB z64578 0 11 ∧ gB z64579 (-1) 1 ∧ gB z64586 (-1) (-1))
set_option maxRecDepth 100000 in
set_option maxHeartbeats 4000000 in
theorem ct_64566_Colouring_isWithout (l : Launch) (hl0 : l.stackTraces = false) (D : va_G) (I : FieldType → ClassId) (q64528 : Nat) (q64529 : Nat) (q64530 : Nat) (q64531 : Nat) (q64532 : Nat) (q64533 : Nat) (q64534 : Nat) (q64535 : Nat) (q64536 : Nat) (q64537 : Nat) (q64538 : Nat) (q64539 : Nat) (q64540 : Nat) (q64541 : Nat) (q64542 : Nat) (p64543 : Int32) (p64544 : Int32) (p64545 : Int32) (p64546 : Int32) (p64547 : Int32) (f64548 : Nat → Int32) (f64549 : Nat → Int32) (f64550 : Nat → Int32) (f64551 : Nat → Int32) (f64552 : Nat → Int32) (p64553 : Int32) (p64554 : Int32) (p64555 : Int32) (f64556 : Nat → Int64) (f64557 : Nat → Int64) (f64558 : Nat → Int32) (f64559 : Nat → Int64) (f64560 : Nat → Int64) (f64561 : Nat → Int64) (f64562 : Nat → Int64) (bp64544 : gB p64544 0 720) (bp64545 : gB p64545 0 720) (bp64546 : gB p64546 0 720) (bp64547 : gB p64547 0 12) (bf64550 : gF f64550 0 719) (bf64551 : gF f64551 0 719) (bp64553 : gB p64553 0 720) (bp64554 : gB p64554 0 12) (bp64555 : gB p64555 0 1) (x64563 : p64547.toInt = (p64546.toInt + 63) / 64) (x64564 : lb_W f64556 (p64546.toInt * p64547.toInt) (p64547.toInt) (p64546.toInt)) (x64565 : p64554.toInt = (p64553.toInt + 63) / 64) : Ct (gV D I) l yX1_isWithout cX1_isWithout 2 (some FieldType.boolean) 1 21 0 0 [.ref q64528, .int p64543] [(q64528, .inr (6, [.ref q64529, .ref q64530, .ref q64531, .ref q64532, .ref q64533, .ref q64534, .int p64544, .int p64545])), (q64529, .inr (8, [.ref q64535, .ref q64536, .ref q64537, .ref q64538, .int p64546, .int p64547])), (q64530, .inl (I .int, 720, .inl f64548)), (q64531, .inl (I .int, 720, .inl f64549)), (q64532, .inl (I .int, 720, .inl f64550)), (q64533, .inl (I .int, 720, .inl f64551)), (q64534, .inl (I .int, 720, .inl f64552)), (q64535, .inr (10, [.ref q64539, .ref q64540, .ref q64541, .ref q64542, .int p64553, .int p64554, .int p64555])), (q64536, .inl (I .long, 8640, .inr (.inl f64556))), (q64537, .inl (I .long, 12, .inr (.inl f64557))), (q64538, .inl (I .int, 720, .inl f64558)), (q64539, .inl (I .long, 480, .inr (.inl f64559))), (q64540, .inl (I .long, 480, .inr (.inl f64560))), (q64541, .inl (I .long, 480, .inr (.inl f64561))), (q64542, .inl (I .long, 12, .inr (.inl f64562)))] (po_64566_Colouring_isWithout I q64528 q64529 q64530 q64531 q64532 q64533 q64534 q64535 q64536 q64537 q64538 q64539 q64540 q64541 q64542 p64543 p64544 p64545 p64546 p64547 f64548 f64549 f64550 f64551 f64552 p64553 p64554 p64555 f64556 f64557 f64558 f64559 f64560 f64561 f64562) gN := by
  refine Ct_of hl0 (by decide) (Nat.le_of_ble_eq_true rfl) ?_
  have bp64543 := gB_any p64543
  refine G_aload_n 0 d_cX1_isWithout_0 rfl ?_
  refine G_getf 0 0 d_cX1_isWithout_1 rfl (gk_X1 D I) (Nat.le_of_ble_eq_true rfl) w_2_78 rfl ?_
  refine G_iload_n 1 d_cX1_isWithout_4 rfl ?_
  refine G_callV (As := [.int p64543]) (wr := [(q64528, .inr (6, [.ref q64529, .ref q64530, .ref q64531, .ref q64532, .ref q64533, .ref q64534, .int p64544, .int p64545])), (q64530, .inl (I .int, 720, .inl f64548)), (q64531, .inl (I .int, 720, .inl f64549)), (q64532, .inl (I .int, 720, .inl f64550)), (q64533, .inl (I .int, 720, .inl f64551)), (q64534, .inl (I .int, 720, .inl f64552))]) (gV_ok D I) (ct_54782_Graph_stands l hl0 D I q64529 q64535 q64536 q64537 q64538 q64539 q64540 q64541 q64542 p64543 p64546 p64547 p64553 p64554 p64555 f64556 f64557 f64558 f64559 f64560 f64561 f64562 bp64546 bp64547 bp64553 bp64554 bp64555 (by omega) x64564 (by omega)) d_cX1_isWithout_5 ⟨w_5_122, w_1_9, w_4_167, by decide, rfl, (Nat.le_of_ble_eq_true rfl), (Nat.le_of_ble_eq_true rfl)⟩ w_4_165 w_4_166 1 rfl rfl [1, 7, 8, 9, 10, 11, 12, 13, 14] [0, 2, 3, 4, 5, 6] rfl rfl rfl rfl (by decide) (Nat.le_of_ble_eq_true rfl) (Nat.le_of_ble_eq_true rfl) (Nat.le_of_ble_eq_true rfl) (fun r w hp => ?_) (fun _ _ _ z => z.elim)
  rcases hp with ⟨rfl, rfl, r64567⟩ | ⟨rfl, rfl, r64568, r64569⟩ | ⟨z64570, z64571, rfl, rfl, r64572, r64573, r64574, r64575, r64576, r64577⟩ | ⟨z64578, z64579, rfl, rfl, r64580, r64581, r64582, r64583, r64584, r64585⟩
  · have bp64543' : gB p64543 (-2147483648) (-1) := ⟨by omega, by omega⟩
    change G _ _ _ _ _ _ _ (.int 0 :: _) _ _ _
    refine G_ws (ws' := [(q64528, .inr (6, [.ref q64529, .ref q64530, .ref q64531, .ref q64532, .ref q64533, .ref q64534, .int p64544, .int p64545])), (q64530, .inl (I .int, 720, .inl f64548)), (q64531, .inl (I .int, 720, .inl f64549)), (q64532, .inl (I .int, 720, .inl f64550)), (q64533, .inl (I .int, 720, .inl f64551)), (q64534, .inl (I .int, 720, .inl f64552)), (q64529, .inr (8, [.ref q64535, .ref q64536, .ref q64537, .ref q64538, .int p64546, .int p64547])), (q64535, .inr (10, [.ref q64539, .ref q64540, .ref q64541, .ref q64542, .int p64553, .int p64554, .int p64555])), (q64536, .inl (I .long, 8640, .inr (.inl f64556))), (q64537, .inl (I .long, 12, .inr (.inl f64557))), (q64538, .inl (I .int, 720, .inl f64558)), (q64539, .inl (I .long, 480, .inr (.inl f64559))), (q64540, .inl (I .long, 480, .inr (.inl f64560))), (q64541, .inl (I .long, 480, .inr (.inl f64561))), (q64542, .inl (I .long, 12, .inr (.inl f64562)))]) (cs' := 0) (sl' := 0) rfl rfl rfl ?_
    refine G_if_eq 25 d_cX1_isWithout_8 (by decide +kernel) (fun _ => ?_) (fun hc => absurd hc (by decide))
    refine G_iconst 0 d_cX1_isWithout_25 (by decide +kernel) ?_
    refine G_sub (ws' := [(q64528, .inr (6, [.ref q64529, .ref q64530, .ref q64531, .ref q64532, .ref q64533, .ref q64534, .int p64544, .int p64545])), (q64529, .inr (8, [.ref q64535, .ref q64536, .ref q64537, .ref q64538, .int p64546, .int p64547])), (q64530, .inl (I .int, 720, .inl f64548)), (q64531, .inl (I .int, 720, .inl f64549)), (q64532, .inl (I .int, 720, .inl f64550)), (q64533, .inl (I .int, 720, .inl f64551)), (q64534, .inl (I .int, 720, .inl f64552)), (q64535, .inr (10, [.ref q64539, .ref q64540, .ref q64541, .ref q64542, .int p64553, .int p64554, .int p64555])), (q64536, .inl (I .long, 8640, .inr (.inl f64556))), (q64537, .inl (I .long, 12, .inr (.inl f64557))), (q64538, .inl (I .int, 720, .inl f64558)), (q64539, .inl (I .long, 480, .inr (.inl f64559))), (q64540, .inl (I .long, 480, .inr (.inl f64560))), (q64541, .inl (I .long, 480, .inr (.inl f64561))), (q64542, .inl (I .long, 12, .inr (.inl f64562)))]) [0, 6, 1, 2, 3, 4, 5, 7, 8, 9, 10, 11, 12, 13, 14] rfl rfl ?_
    exact G_zret FieldType.boolean d_cX1_isWithout_26 rfl rfl (Nat.le_of_ble_eq_true rfl) (Nat.le_of_ble_eq_true rfl) (Or.inl ⟨rfl, rfl, r64567⟩)
  · have bp64543' : gB p64543 0 2147483647 := ⟨by omega, by omega⟩
    change G _ _ _ _ _ _ _ (.int 0 :: _) _ _ _
    refine G_ws (ws' := [(q64528, .inr (6, [.ref q64529, .ref q64530, .ref q64531, .ref q64532, .ref q64533, .ref q64534, .int p64544, .int p64545])), (q64530, .inl (I .int, 720, .inl f64548)), (q64531, .inl (I .int, 720, .inl f64549)), (q64532, .inl (I .int, 720, .inl f64550)), (q64533, .inl (I .int, 720, .inl f64551)), (q64534, .inl (I .int, 720, .inl f64552)), (q64529, .inr (8, [.ref q64535, .ref q64536, .ref q64537, .ref q64538, .int p64546, .int p64547])), (q64535, .inr (10, [.ref q64539, .ref q64540, .ref q64541, .ref q64542, .int p64553, .int p64554, .int p64555])), (q64536, .inl (I .long, 8640, .inr (.inl f64556))), (q64537, .inl (I .long, 12, .inr (.inl f64557))), (q64538, .inl (I .int, 720, .inl f64558)), (q64539, .inl (I .long, 480, .inr (.inl f64559))), (q64540, .inl (I .long, 480, .inr (.inl f64560))), (q64541, .inl (I .long, 480, .inr (.inl f64561))), (q64542, .inl (I .long, 12, .inr (.inl f64562)))]) (cs' := 0) (sl' := 0) rfl rfl rfl ?_
    refine G_if_eq 25 d_cX1_isWithout_8 (by decide +kernel) (fun _ => ?_) (fun hc => absurd hc (by decide))
    refine G_iconst 0 d_cX1_isWithout_25 (by decide +kernel) ?_
    refine G_sub (ws' := [(q64528, .inr (6, [.ref q64529, .ref q64530, .ref q64531, .ref q64532, .ref q64533, .ref q64534, .int p64544, .int p64545])), (q64529, .inr (8, [.ref q64535, .ref q64536, .ref q64537, .ref q64538, .int p64546, .int p64547])), (q64530, .inl (I .int, 720, .inl f64548)), (q64531, .inl (I .int, 720, .inl f64549)), (q64532, .inl (I .int, 720, .inl f64550)), (q64533, .inl (I .int, 720, .inl f64551)), (q64534, .inl (I .int, 720, .inl f64552)), (q64535, .inr (10, [.ref q64539, .ref q64540, .ref q64541, .ref q64542, .int p64553, .int p64554, .int p64555])), (q64536, .inl (I .long, 8640, .inr (.inl f64556))), (q64537, .inl (I .long, 12, .inr (.inl f64557))), (q64538, .inl (I .int, 720, .inl f64558)), (q64539, .inl (I .long, 480, .inr (.inl f64559))), (q64540, .inl (I .long, 480, .inr (.inl f64560))), (q64541, .inl (I .long, 480, .inr (.inl f64561))), (q64542, .inl (I .long, 12, .inr (.inl f64562)))]) [0, 6, 1, 2, 3, 4, 5, 7, 8, 9, 10, 11, 12, 13, 14] rfl rfl ?_
    exact G_zret FieldType.boolean d_cX1_isWithout_26 rfl rfl (Nat.le_of_ble_eq_true rfl) (Nat.le_of_ble_eq_true rfl) (Or.inr (Or.inl ⟨rfl, rfl, r64568, r64569⟩))
  · have bp64543' : gB p64543 0 2147483647 := ⟨by omega, by omega⟩
    have bp64543'' : gB p64543 0 719 := ⟨by omega, by omega⟩
    have bp64546' : gB p64546 1 720 := ⟨by omega, by omega⟩
    change G _ _ _ _ _ _ _ (.int 0 :: _) _ _ _
    refine G_ws (ws' := [(q64528, .inr (6, [.ref q64529, .ref q64530, .ref q64531, .ref q64532, .ref q64533, .ref q64534, .int p64544, .int p64545])), (q64530, .inl (I .int, 720, .inl f64548)), (q64531, .inl (I .int, 720, .inl f64549)), (q64532, .inl (I .int, 720, .inl f64550)), (q64533, .inl (I .int, 720, .inl f64551)), (q64534, .inl (I .int, 720, .inl f64552)), (q64529, .inr (8, [.ref q64535, .ref q64536, .ref q64537, .ref q64538, .int p64546, .int p64547])), (q64535, .inr (10, [.ref q64539, .ref q64540, .ref q64541, .ref q64542, .int p64553, .int p64554, .int p64555])), (q64536, .inl (I .long, 8640, .inr (.inl f64556))), (q64537, .inl (I .long, 12, .inr (.inl f64557))), (q64538, .inl (I .int, 720, .inl f64558)), (q64539, .inl (I .long, 480, .inr (.inl f64559))), (q64540, .inl (I .long, 480, .inr (.inl f64560))), (q64541, .inl (I .long, 480, .inr (.inl f64561))), (q64542, .inl (I .long, 12, .inr (.inl f64562)))]) (cs' := 0) (sl' := 0) rfl rfl rfl ?_
    refine G_if_eq 25 d_cX1_isWithout_8 (by decide +kernel) (fun _ => ?_) (fun hc => absurd hc (by decide))
    refine G_iconst 0 d_cX1_isWithout_25 (by decide +kernel) ?_
    refine G_sub (ws' := [(q64528, .inr (6, [.ref q64529, .ref q64530, .ref q64531, .ref q64532, .ref q64533, .ref q64534, .int p64544, .int p64545])), (q64529, .inr (8, [.ref q64535, .ref q64536, .ref q64537, .ref q64538, .int p64546, .int p64547])), (q64530, .inl (I .int, 720, .inl f64548)), (q64531, .inl (I .int, 720, .inl f64549)), (q64532, .inl (I .int, 720, .inl f64550)), (q64533, .inl (I .int, 720, .inl f64551)), (q64534, .inl (I .int, 720, .inl f64552)), (q64535, .inr (10, [.ref q64539, .ref q64540, .ref q64541, .ref q64542, .int p64553, .int p64554, .int p64555])), (q64536, .inl (I .long, 8640, .inr (.inl f64556))), (q64537, .inl (I .long, 12, .inr (.inl f64557))), (q64538, .inl (I .int, 720, .inl f64558)), (q64539, .inl (I .long, 480, .inr (.inl f64559))), (q64540, .inl (I .long, 480, .inr (.inl f64560))), (q64541, .inl (I .long, 480, .inr (.inl f64561))), (q64542, .inl (I .long, 12, .inr (.inl f64562)))]) [0, 6, 1, 2, 3, 4, 5, 7, 8, 9, 10, 11, 12, 13, 14] rfl rfl ?_
    exact G_zret FieldType.boolean d_cX1_isWithout_26 rfl rfl (Nat.le_of_ble_eq_true rfl) (Nat.le_of_ble_eq_true rfl) (Or.inr (Or.inr (Or.inl ⟨z64570, z64571, rfl, rfl, r64572, r64573, r64574, r64575, r64576, r64577⟩)))
  · have bp64543' : gB p64543 0 2147483647 := ⟨by omega, by omega⟩
    have bp64543'' : gB p64543 0 719 := ⟨by omega, by omega⟩
    have bp64546' : gB p64546 1 720 := ⟨by omega, by omega⟩
    change G _ _ _ _ _ _ _ (.int 1 :: _) _ _ _
    refine G_ws (ws' := [(q64528, .inr (6, [.ref q64529, .ref q64530, .ref q64531, .ref q64532, .ref q64533, .ref q64534, .int p64544, .int p64545])), (q64530, .inl (I .int, 720, .inl f64548)), (q64531, .inl (I .int, 720, .inl f64549)), (q64532, .inl (I .int, 720, .inl f64550)), (q64533, .inl (I .int, 720, .inl f64551)), (q64534, .inl (I .int, 720, .inl f64552)), (q64529, .inr (8, [.ref q64535, .ref q64536, .ref q64537, .ref q64538, .int p64546, .int p64547])), (q64535, .inr (10, [.ref q64539, .ref q64540, .ref q64541, .ref q64542, .int p64553, .int p64554, .int p64555])), (q64536, .inl (I .long, 8640, .inr (.inl f64556))), (q64537, .inl (I .long, 12, .inr (.inl f64557))), (q64538, .inl (I .int, 720, .inl f64558)), (q64539, .inl (I .long, 480, .inr (.inl f64559))), (q64540, .inl (I .long, 480, .inr (.inl f64560))), (q64541, .inl (I .long, 480, .inr (.inl f64561))), (q64542, .inl (I .long, 12, .inr (.inl f64562)))]) (cs' := 0) (sl' := 0) rfl rfl rfl ?_
    refine G_if_eq 25 d_cX1_isWithout_8 (by decide +kernel) (fun hc => absurd hc (by decide)) (fun _ => ?_)
    refine G_aload_n 0 d_cX1_isWithout_11 rfl ?_
    refine G_getf 0 5 d_cX1_isWithout_12 rfl (gk_X1 D I) (Nat.le_of_ble_eq_true rfl) w_2_83 rfl ?_
    refine G_iload_n 1 d_cX1_isWithout_15 rfl ?_
    refine G_iald 5 0 d_cX1_isWithout_16 rfl rfl (gB_in bp64543'' (by decide) (by decide)) (G_nam fun z64586 hz64586 => ?_)
    have bz64586 : gB z64586 (-2147483648) 2147483647 := gB_any z64586
    refine G_iconst (-1) d_cX1_isWithout_17 (by decide +kernel) ?_
    refine G_icmp_ne 25 d_cX1_isWithout_18 (by decide +kernel) (fun hc64587 => ?_) (fun hc64587 => ?_)
    · have r64588 : z64586.toInt ≠ (-1) := gj_neq hc64587 (show Int32.toInt (-1) = (-1) by decide)
      refine G_iconst 0 d_cX1_isWithout_25 (by decide +kernel) ?_
      refine G_sub (ws' := [(q64528, .inr (6, [.ref q64529, .ref q64530, .ref q64531, .ref q64532, .ref q64533, .ref q64534, .int p64544, .int p64545])), (q64529, .inr (8, [.ref q64535, .ref q64536, .ref q64537, .ref q64538, .int p64546, .int p64547])), (q64530, .inl (I .int, 720, .inl f64548)), (q64531, .inl (I .int, 720, .inl f64549)), (q64532, .inl (I .int, 720, .inl f64550)), (q64533, .inl (I .int, 720, .inl f64551)), (q64534, .inl (I .int, 720, .inl f64552)), (q64535, .inr (10, [.ref q64539, .ref q64540, .ref q64541, .ref q64542, .int p64553, .int p64554, .int p64555])), (q64536, .inl (I .long, 8640, .inr (.inl f64556))), (q64537, .inl (I .long, 12, .inr (.inl f64557))), (q64538, .inl (I .int, 720, .inl f64558)), (q64539, .inl (I .long, 480, .inr (.inl f64559))), (q64540, .inl (I .long, 480, .inr (.inl f64560))), (q64541, .inl (I .long, 480, .inr (.inl f64561))), (q64542, .inl (I .long, 12, .inr (.inl f64562)))]) [0, 6, 1, 2, 3, 4, 5, 7, 8, 9, 10, 11, 12, 13, 14] rfl rfl ?_
      exact G_zret FieldType.boolean d_cX1_isWithout_26 rfl rfl (Nat.le_of_ble_eq_true rfl) (Nat.le_of_ble_eq_true rfl) (Or.inr (Or.inr (Or.inr (Or.inl ⟨z64578, z64579, z64586, rfl, rfl, r64580, r64581, r64582, r64583, r64588, hz64586, r64584, r64585, bz64586⟩))))
    · have r64589 : z64586.toInt = (-1) := gj_eq hc64587 (show Int32.toInt (-1) = (-1) by decide)
      have bz64586' : gB z64586 (-1) (-1) := ⟨by omega, by omega⟩
      refine G_iconst 1 d_cX1_isWithout_21 (by decide +kernel) ?_
      refine G_goto 26 d_cX1_isWithout_22 (by decide +kernel) ?_
      refine G_sub (ws' := [(q64528, .inr (6, [.ref q64529, .ref q64530, .ref q64531, .ref q64532, .ref q64533, .ref q64534, .int p64544, .int p64545])), (q64529, .inr (8, [.ref q64535, .ref q64536, .ref q64537, .ref q64538, .int p64546, .int p64547])), (q64530, .inl (I .int, 720, .inl f64548)), (q64531, .inl (I .int, 720, .inl f64549)), (q64532, .inl (I .int, 720, .inl f64550)), (q64533, .inl (I .int, 720, .inl f64551)), (q64534, .inl (I .int, 720, .inl f64552)), (q64535, .inr (10, [.ref q64539, .ref q64540, .ref q64541, .ref q64542, .int p64553, .int p64554, .int p64555])), (q64536, .inl (I .long, 8640, .inr (.inl f64556))), (q64537, .inl (I .long, 12, .inr (.inl f64557))), (q64538, .inl (I .int, 720, .inl f64558)), (q64539, .inl (I .long, 480, .inr (.inl f64559))), (q64540, .inl (I .long, 480, .inr (.inl f64560))), (q64541, .inl (I .long, 480, .inr (.inl f64561))), (q64542, .inl (I .long, 12, .inr (.inl f64562)))]) [0, 6, 1, 2, 3, 4, 5, 7, 8, 9, 10, 11, 12, 13, 14] rfl rfl ?_
      exact G_zret FieldType.boolean d_cX1_isWithout_26 rfl rfl (Nat.le_of_ble_eq_true rfl) (Nat.le_of_ble_eq_true rfl) (Or.inr (Or.inr (Or.inr (Or.inr (⟨z64578, z64579, z64586, rfl, rfl, r64580, r64581, r64582, r64583, r64589, hz64586, r64584, r64585, bz64586'⟩)))))
