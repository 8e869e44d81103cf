theorem d_cX1_takeApart_0 : decode cX1_takeApart 0 = .ok (.aload_n 0, 1) := by decide +kernel
theorem d_cX1_takeApart_1 : decode cX1_takeApart 1 = .ok (.iconst 0, 1) := by decide +kernel
theorem d_cX1_takeApart_2 : decode cX1_takeApart 2 = .ok (.putfield 74, 3) := by decide +kernel
theorem d_cX1_takeApart_5 : decode cX1_takeApart 5 = .ok (.aload_n 0, 1) := by decide +kernel
theorem d_cX1_takeApart_6 : decode cX1_takeApart 6 = .ok (.iconst 0, 1) := by decide +kernel
theorem d_cX1_takeApart_7 : decode cX1_takeApart 7 = .ok (.putfield 77, 3) := by decide +kernel
theorem w_2_85 : (Jvm.Cond.fieldLink "SpillForge$Colouring" (77 : Nat) "SpillForge$Colouring" "pileSize" "I") ∈ gw := gw_2 85 rfl rfl
theorem d_cX1_takeApart_10 : decode cX1_takeApart 10 = .ok (.iconst 0, 1) := by decide +kernel
theorem d_cX1_takeApart_11 : decode cX1_takeApart 11 = .ok (.istore_n 2, 1) := by decide +kernel
theorem d_cX1_takeApart_12 : decode cX1_takeApart 12 = .ok (.iload_n 2, 1) := by decide +kernel
theorem d_cX1_takeApart_13 : decode cX1_takeApart 13 = .ok (.aload_n 0, 1) := by decide +kernel
theorem d_cX1_takeApart_14 : decode cX1_takeApart 14 = .ok (.getfield 27, 3) := by decide +kernel
theorem d_cX1_takeApart_17 : decode cX1_takeApart 17 = .ok (.getfield 80, 3) := by decide +kernel
theorem d_cX1_takeApart_20 : decode cX1_takeApart 20 = .ok (.if_icmp .ge 55, 3) := by decide +kernel
theorem d_cX1_takeApart_75 : decode cX1_takeApart 75 = .ok (.aload_n 0, 1) := by decide +kernel
theorem d_cX1_takeApart_76 : decode cX1_takeApart 76 = .ok (.getfield 74, 3) := by decide +kernel
theorem d_cX1_takeApart_79 : decode cX1_takeApart 79 = .ok (.istore_n 2, 1) := by decide +kernel
theorem d_cX1_takeApart_80 : decode cX1_takeApart 80 = .ok (.iload_n 2, 1) := by decide +kernel
theorem d_cX1_takeApart_81 : decode cX1_takeApart 81 = .ok (.ifCond .le 81, 3) := by decide +kernel
theorem d_cX1_takeApart_162 : decode cX1_takeApart 162 = .ok (.return_, 1) := by decide +kernel
theorem d_cX1_takeApart_84 : decode cX1_takeApart 84 = .ok (.aload_n 0, 1) := by decide +kernel
theorem d_cX1_takeApart_85 : decode cX1_takeApart 85 = .ok (.iload_n 1, 1) := by decide +kernel
theorem d_cX1_takeApart_86 : decode cX1_takeApart 86 = .ok (.invokevirtual 84, 3) := by decide +kernel
theorem w_5_123 : (Jvm.Cond.methodLink "SpillForge$Colouring" (84 : Nat) ({ cls := "SpillForge$Colouring", name := "nextOfRest", desc := "(I)I" } : Jvm.MethodName)) ∈ gw := gw_5 123 rfl rfl
theorem w_5_126 : (Jvm.Cond.code ({ cls := "SpillForge$Colouring", name := "nextOfRest", desc := "(I)I" } : Jvm.MethodName) prog_3_method_8_code (4 : Nat) (Option.some Jvm.ClassFile.FieldType.int)) ∈ gw := gw_5 126 rfl rfl
theorem w_5_125 : (Jvm.Cond.instanceMethod ({ cls := "SpillForge$Colouring", name := "nextOfRest", desc := "(I)I" } : Jvm.MethodName)) ∈ gw := gw_5 125 rfl rfl
theorem w_p_43 : Cond.selects "SpillForge$Colouring" ⟨"SpillForge$Colouring", "nextOfRest", "(I)I"⟩ ⟨"SpillForge$Colouring", "nextOfRest", "(I)I"⟩ ∈ gw := gw_p _ 43 rfl rfl rfl
theorem d_cX1_takeApart_89 : decode cX1_takeApart 89 = .ok (.istore_n 3, 1) := by decide +kernel
theorem d_cX1_takeApart_90 : decode cX1_takeApart 90 = .ok (.aload_n 0, 1) := by decide +kernel
theorem d_cX1_takeApart_91 : decode cX1_takeApart 91 = .ok (.getfield 18, 3) := by decide +kernel
theorem d_cX1_takeApart_94 : decode cX1_takeApart 94 = .ok (.iload_n 3, 1) := by decide +kernel
theorem d_cX1_takeApart_95 : decode cX1_takeApart 95 = .ok (.iaload, 1) := by decide +kernel
theorem d_cX1_takeApart_96 : decode cX1_takeApart 96 = .ok (.istore 4, 2) := by decide +kernel
theorem d_cX1_takeApart_98 : decode cX1_takeApart 98 = .ok (.aload_n 0, 1) := by decide +kernel
theorem d_cX1_takeApart_99 : decode cX1_takeApart 99 = .ok (.dup, 1) := by decide +kernel
theorem d_cX1_takeApart_100 : decode cX1_takeApart 100 = .ok (.getfield 74, 3) := by decide +kernel
theorem d_cX1_takeApart_103 : decode cX1_takeApart 103 = .ok (.iconst 1, 1) := by decide +kernel
theorem d_cX1_takeApart_104 : decode cX1_takeApart 104 = .ok (.isub, 1) := by decide +kernel
theorem d_cX1_takeApart_105 : decode cX1_takeApart 105 = .ok (.putfield 74, 3) := by decide +kernel
theorem d_cX1_takeApart_108 : decode cX1_takeApart 108 = .ok (.aload_n 0, 1) := by decide +kernel
theorem d_cX1_takeApart_109 : decode cX1_takeApart 109 = .ok (.getfield 18, 3) := by decide +kernel
theorem d_cX1_takeApart_112 : decode cX1_takeApart 112 = .ok (.iload_n 3, 1) := by decide +kernel
theorem d_cX1_takeApart_113 : decode cX1_takeApart 113 = .ok (.iconst 1, 1) := by decide +kernel
theorem d_cX1_takeApart_114 : decode cX1_takeApart 114 = .ok (.iadd, 1) := by decide +kernel
theorem d_cX1_takeApart_115 : decode cX1_takeApart 115 = .ok (.aload_n 0, 1) := by decide +kernel
theorem d_cX1_takeApart_116 : decode cX1_takeApart 116 = .ok (.getfield 18, 3) := by decide +kernel
theorem d_cX1_takeApart_119 : decode cX1_takeApart 119 = .ok (.iload_n 3, 1) := by decide +kernel
theorem d_cX1_takeApart_120 : decode cX1_takeApart 120 = .ok (.aload_n 0, 1) := by decide +kernel
theorem d_cX1_takeApart_121 : decode cX1_takeApart 121 = .ok (.getfield 74, 3) := by decide +kernel
theorem d_cX1_takeApart_124 : decode cX1_takeApart 124 = .ok (.iload_n 3, 1) := by decide +kernel
theorem d_cX1_takeApart_125 : decode cX1_takeApart 125 = .ok (.isub, 1) := by decide +kernel
theorem d_cX1_takeApart_126 : decode cX1_takeApart 126 = .ok (.invokestatic 87, 3) := by decide +kernel
theorem w_5_131 : (Jvm.Cond.methodLink "SpillForge$Colouring" (87 : Nat) ({ cls := "java/lang/System", name := "arraycopy", desc := "(Ljava/lang/Object;ILjava/lang/Object;II)V" } : Jvm.MethodName)) ∈ gw := gw_5 131 rfl rfl
theorem d_cX1_takeApart_129 : decode cX1_takeApart 129 = .ok (.aload_n 0, 1) := by decide +kernel
theorem d_cX1_takeApart_130 : decode cX1_takeApart 130 = .ok (.getfield 21, 3) := by decide +kernel
theorem w_2_82 : (Jvm.Cond.fieldLink "SpillForge$Colouring" (21 : Nat) "SpillForge$Colouring" "pile" "[I") ∈ gw := gw_2 82 rfl rfl
theorem d_cX1_takeApart_133 : decode cX1_takeApart 133 = .ok (.aload_n 0, 1) := by decide +kernel
theorem d_cX1_takeApart_134 : decode cX1_takeApart 134 = .ok (.getfield 77, 3) := by decide +kernel
theorem d_cX1_takeApart_137 : decode cX1_takeApart 137 = .ok (.iload 4, 2) := by decide +kernel
theorem d_cX1_takeApart_139 : decode cX1_takeApart 139 = .ok (.iastore, 1) := by decide +kernel
theorem d_cX1_takeApart_140 : decode cX1_takeApart 140 = .ok (.aload_n 0, 1) := by decide +kernel
theorem d_cX1_takeApart_141 : decode cX1_takeApart 141 = .ok (.dup, 1) := by decide +kernel
theorem d_cX1_takeApart_142 : decode cX1_takeApart 142 = .ok (.getfield 77, 3) := by decide +kernel
theorem d_cX1_takeApart_145 : decode cX1_takeApart 145 = .ok (.iconst 1, 1) := by decide +kernel
theorem d_cX1_takeApart_146 : decode cX1_takeApart 146 = .ok (.iadd, 1) := by decide +kernel
theorem d_cX1_takeApart_147 : decode cX1_takeApart 147 = .ok (.putfield 77, 3) := by decide +kernel
theorem d_cX1_takeApart_150 : decode cX1_takeApart 150 = .ok (.aload_n 0, 1) := by decide +kernel
theorem d_cX1_takeApart_151 : decode cX1_takeApart 151 = .ok (.iload 4, 2) := by decide +kernel
theorem d_cX1_takeApart_153 : decode cX1_takeApart 153 = .ok (.invokevirtual 93, 3) := by decide +kernel
theorem w_5_132 : (Jvm.Cond.methodLink "SpillForge$Colouring" (93 : Nat) ({ cls := "SpillForge$Colouring", name := "leave", desc := "(I)V" } : Jvm.MethodName)) ∈ gw := gw_5 132 rfl rfl
theorem w_5_135 : (Jvm.Cond.code ({ cls := "SpillForge$Colouring", name := "leave", desc := "(I)V" } : Jvm.MethodName) prog_3_method_10_code (6 : Nat) (Option.none : Option Jvm.ClassFile.FieldType)) ∈ gw := gw_5 135 rfl rfl
theorem w_5_134 : (Jvm.Cond.instanceMethod ({ cls := "SpillForge$Colouring", name := "leave", desc := "(I)V" } : Jvm.MethodName)) ∈ gw := gw_5 134 rfl rfl
theorem w_p_45 : Cond.selects "SpillForge$Colouring" ⟨"SpillForge$Colouring", "leave", "(I)V"⟩ ⟨"SpillForge$Colouring", "leave", "(I)V"⟩ ∈ gw := gw_p _ 45 rfl rfl rfl
theorem d_cX1_takeApart_156 : decode cX1_takeApart 156 = .ok (.iinc 2 (-1), 3) := by decide +kernel
theorem d_cX1_takeApart_159 : decode cX1_takeApart 159 = .ok (.goto (-79), 3) := by decide +kernel
theorem d_cX1_takeApart_23 : decode cX1_takeApart 23 = .ok (.aload_n 0, 1) := by decide +kernel
theorem d_cX1_takeApart_24 : decode cX1_takeApart 24 = .ok (.getfield 15, 3) := by decide +kernel
theorem d_cX1_takeApart_27 : decode cX1_takeApart 27 = .ok (.iload_n 2, 1) := by decide +kernel
theorem d_cX1_takeApart_28 : decode cX1_takeApart 28 = .ok (.aload_n 0, 1) := by decide +kernel
theorem d_cX1_takeApart_29 : decode cX1_takeApart 29 = .ok (.getfield 27, 3) := by decide +kernel
theorem d_cX1_takeApart_32 : decode cX1_takeApart 32 = .ok (.getfield 83, 3) := by decide +kernel
theorem d_cX1_takeApart_35 : decode cX1_takeApart 35 = .ok (.iload_n 2, 1) := by decide +kernel
theorem d_cX1_takeApart_36 : decode cX1_takeApart 36 = .ok (.iaload, 1) := by decide +kernel
theorem d_cX1_takeApart_37 : decode cX1_takeApart 37 = .ok (.iastore, 1) := by decide +kernel
theorem d_cX1_takeApart_38 : decode cX1_takeApart 38 = .ok (.aload_n 0, 1) := by decide +kernel
theorem d_cX1_takeApart_39 : decode cX1_takeApart 39 = .ok (.getfield 27, 3) := by decide +kernel
theorem d_cX1_takeApart_42 : decode cX1_takeApart 42 = .ok (.iload_n 2, 1) := by decide +kernel
theorem d_cX1_takeApart_43 : decode cX1_takeApart 43 = .ok (.invokevirtual 31, 3) := by decide +kernel
theorem w_5_122 : (Jvm.Cond.methodLink "SpillForge$Colouring" (31 : Nat) ({ cls := "SpillForge$Graph", name := "stands", desc := "(I)Z" } : Jvm.MethodName)) ∈ gw := gw_5 122 rfl rfl
theorem d_cX1_takeApart_46 : decode cX1_takeApart 46 = .ok (.ifCond .eq 23, 3) := by decide +kernel
theorem d_cX1_takeApart_69 : decode cX1_takeApart 69 = .ok (.iinc 2 1, 3) := by decide +kernel
theorem d_cX1_takeApart_72 : decode cX1_takeApart 72 = .ok (.goto (-60), 3) := by decide +kernel
theorem d_cX1_takeApart_49 : decode cX1_takeApart 49 = .ok (.aload_n 0, 1) := by decide +kernel
theorem d_cX1_takeApart_50 : decode cX1_takeApart 50 = .ok (.getfield 18, 3) := by decide +kernel
theorem d_cX1_takeApart_53 : decode cX1_takeApart 53 = .ok (.aload_n 0, 1) := by decide +kernel
theorem d_cX1_takeApart_54 : decode cX1_takeApart 54 = .ok (.getfield 74, 3) := by decide +kernel
theorem d_cX1_takeApart_57 : decode cX1_takeApart 57 = .ok (.iload_n 2, 1) := by decide +kernel
theorem d_cX1_takeApart_58 : decode cX1_takeApart 58 = .ok (.iastore, 1) := by decide +kernel
theorem d_cX1_takeApart_59 : decode cX1_takeApart 59 = .ok (.aload_n 0, 1) := by decide +kernel
theorem d_cX1_takeApart_60 : decode cX1_takeApart 60 = .ok (.dup, 1) := by decide +kernel
theorem d_cX1_takeApart_61 : decode cX1_takeApart 61 = .ok (.getfield 74, 3) := by decide +kernel
theorem d_cX1_takeApart_64 : decode cX1_takeApart 64 = .ok (.iconst 1, 1) := by decide +kernel
theorem d_cX1_takeApart_65 : decode cX1_takeApart 65 = .ok (.iadd, 1) := by decide +kernel
theorem d_cX1_takeApart_66 : decode cX1_takeApart 66 = .ok (.putfield 74, 3) := by decide +kernel
theorem d_cX1_coloursAround_0 : decode cX1_coloursAround 0 = .ok (.lconst 0, 1) := by decide +kernel
theorem d_cX1_coloursAround_1 : decode cX1_coloursAround 1 = .ok (.lstore_n 2, 1) := by decide +kernel
theorem d_cX1_coloursAround_2 : decode cX1_coloursAround 2 = .ok (.iconst 0, 1) := by decide +kernel
theorem d_cX1_coloursAround_3 : decode cX1_coloursAround 3 = .ok (.istore 4, 2) := by decide +kernel
theorem d_cX1_coloursAround_5 : decode cX1_coloursAround 5 = .ok (.iload 4, 2) := by decide +kernel
theorem d_cX1_coloursAround_7 : decode cX1_coloursAround 7 = .ok (.aload_n 0, 1) := by decide +kernel
theorem d_cX1_coloursAround_8 : decode cX1_coloursAround 8 = .ok (.getfield 27, 3) := by decide +kernel
theorem d_cX1_coloursAround_11 : decode cX1_coloursAround 11 = .ok (.getfield 101, 3) := by decide +kernel
theorem d_cX1_coloursAround_14 : decode cX1_coloursAround 14 = .ok (.if_icmp .ge 98, 3) := by decide +kernel
theorem d_cX1_coloursAround_112 : decode cX1_coloursAround 112 = .ok (.lload_n 2, 1) := by decide +kernel
theorem d_cX1_coloursAround_113 : decode cX1_coloursAround 113 = .ok (.lreturn, 1) := by decide +kernel
theorem d_cX1_coloursAround_17 : decode cX1_coloursAround 17 = .ok (.aload_n 0, 1) := by decide +kernel
theorem d_cX1_coloursAround_18 : decode cX1_coloursAround 18 = .ok (.getfield 27, 3) := by decide +kernel
theorem d_cX1_coloursAround_21 : decode cX1_coloursAround 21 = .ok (.getfield 104, 3) := by decide +kernel
theorem d_cX1_coloursAround_24 : decode cX1_coloursAround 24 = .ok (.iload_n 1, 1) := by decide +kernel
theorem d_cX1_coloursAround_25 : decode cX1_coloursAround 25 = .ok (.aload_n 0, 1) := by decide +kernel
theorem d_cX1_coloursAround_26 : decode cX1_coloursAround 26 = .ok (.getfield 27, 3) := by decide +kernel
theorem d_cX1_coloursAround_29 : decode cX1_coloursAround 29 = .ok (.getfield 101, 3) := by decide +kernel
theorem d_cX1_coloursAround_32 : decode cX1_coloursAround 32 = .ok (.imul, 1) := by decide +kernel
theorem d_cX1_coloursAround_33 : decode cX1_coloursAround 33 = .ok (.iload 4, 2) := by decide +kernel
theorem d_cX1_coloursAround_35 : decode cX1_coloursAround 35 = .ok (.iadd, 1) := by decide +kernel
theorem d_cX1_coloursAround_36 : decode cX1_coloursAround 36 = .ok (.laload, 1) := by decide +kernel
theorem d_cX1_coloursAround_37 : decode cX1_coloursAround 37 = .ok (.lstore 5, 2) := by decide +kernel
theorem d_cX1_coloursAround_39 : decode cX1_coloursAround 39 = .ok (.iconst 0, 1) := by decide +kernel
theorem d_cX1_coloursAround_40 : decode cX1_coloursAround 40 = .ok (.istore 7, 2) := by decide +kernel
theorem d_cX1_coloursAround_42 : decode cX1_coloursAround 42 = .ok (.iload 7, 2) := by decide +kernel
theorem d_cX1_coloursAround_44 : decode cX1_coloursAround 44 = .ok (.bipush 64, 2) := by decide +kernel
theorem d_cX1_coloursAround_46 : decode cX1_coloursAround 46 = .ok (.if_icmp .ge 60, 3) := by decide +kernel
theorem d_cX1_coloursAround_106 : decode cX1_coloursAround 106 = .ok (.iinc 4 1, 3) := by decide +kernel
theorem d_cX1_coloursAround_109 : decode cX1_coloursAround 109 = .ok (.goto (-104), 3) := by decide +kernel
theorem d_cX1_coloursAround_49 : decode cX1_coloursAround 49 = .ok (.lload 5, 2) := by decide +kernel
theorem d_cX1_coloursAround_51 : decode cX1_coloursAround 51 = .ok (.lconst 0, 1) := by decide +kernel
theorem d_cX1_coloursAround_52 : decode cX1_coloursAround 52 = .ok (.lcmp, 1) := by decide +kernel
theorem d_cX1_coloursAround_53 : decode cX1_coloursAround 53 = .ok (.ifCond .eq 53, 3) := by decide +kernel
theorem d_cX1_coloursAround_56 : decode cX1_coloursAround 56 = .ok (.aload_n 0, 1) := by decide +kernel
theorem d_cX1_coloursAround_57 : decode cX1_coloursAround 57 = .ok (.getfield 24, 3) := by decide +kernel
theorem w_2_83 : (Jvm.Cond.fieldLink "SpillForge$Colouring" (24 : Nat) "SpillForge$Colouring" "colour" "[I") ∈ gw := gw_2 83 rfl rfl
theorem d_cX1_coloursAround_60 : decode cX1_coloursAround 60 = .ok (.iload 4, 2) := by decide +kernel
theorem d_cX1_coloursAround_62 : decode cX1_coloursAround 62 = .ok (.bipush 6, 2) := by decide +kernel
theorem d_cX1_coloursAround_64 : decode cX1_coloursAround 64 = .ok (.ishl, 1) := by decide +kernel
theorem d_cX1_coloursAround_65 : decode cX1_coloursAround 65 = .ok (.lload 5, 2) := by decide +kernel
theorem d_cX1_coloursAround_67 : decode cX1_coloursAround 67 = .ok (.invokestatic 108, 3) := by decide +kernel
theorem d_cX1_coloursAround_70 : decode cX1_coloursAround 70 = .ok (.ior, 1) := by decide +kernel
theorem d_cX1_coloursAround_71 : decode cX1_coloursAround 71 = .ok (.iaload, 1) := by decide +kernel
theorem d_cX1_coloursAround_72 : decode cX1_coloursAround 72 = .ok (.istore 8, 2) := by decide +kernel
theorem d_cX1_coloursAround_74 : decode cX1_coloursAround 74 = .ok (.lload 5, 2) := by decide +kernel
theorem d_cX1_coloursAround_76 : decode cX1_coloursAround 76 = .ok (.lload 5, 2) := by decide +kernel
theorem d_cX1_coloursAround_78 : decode cX1_coloursAround 78 = .ok (.lconst 1, 1) := by decide +kernel
theorem d_cX1_coloursAround_79 : decode cX1_coloursAround 79 = .ok (.lsub, 1) := by decide +kernel
theorem d_cX1_coloursAround_80 : decode cX1_coloursAround 80 = .ok (.land, 1) := by decide +kernel
theorem d_cX1_coloursAround_81 : decode cX1_coloursAround 81 = .ok (.lstore 5, 2) := by decide +kernel
theorem d_cX1_coloursAround_83 : decode cX1_coloursAround 83 = .ok (.lload_n 2, 1) := by decide +kernel
theorem d_cX1_coloursAround_84 : decode cX1_coloursAround 84 = .ok (.iload 8, 2) := by decide +kernel
theorem d_cX1_coloursAround_86 : decode cX1_coloursAround 86 = .ok (.iconst (-1), 1) := by decide +kernel
theorem d_cX1_coloursAround_87 : decode cX1_coloursAround 87 = .ok (.if_icmp .ne 7, 3) := by decide +kernel
theorem d_cX1_coloursAround_94 : decode cX1_coloursAround 94 = .ok (.lconst 1, 1) := by decide +kernel
theorem d_cX1_coloursAround_95 : decode cX1_coloursAround 95 = .ok (.iload 8, 2) := by decide +kernel
theorem d_cX1_coloursAround_97 : decode cX1_coloursAround 97 = .ok (.lshl, 1) := by decide +kernel
theorem d_cX1_coloursAround_98 : decode cX1_coloursAround 98 = .ok (.lor, 1) := by decide +kernel
theorem d_cX1_coloursAround_99 : decode cX1_coloursAround 99 = .ok (.lstore_n 2, 1) := by decide +kernel
theorem d_cX1_coloursAround_100 : decode cX1_coloursAround 100 = .ok (.iinc 7 1, 3) := by decide +kernel
theorem d_cX1_coloursAround_103 : decode cX1_coloursAround 103 = .ok (.goto (-61), 3) := by decide +kernel
theorem d_cX1_coloursAround_90 : decode cX1_coloursAround 90 = .ok (.lconst 0, 1) := by decide +kernel
theorem d_cX1_coloursAround_91 : decode cX1_coloursAround 91 = .ok (.goto 7, 3) := by decide +kernel
theorem d_cX1_putTogether_0 : decode cX1_putTogether 0 = .ok (.aload_n 0, 1) := by decide +kernel
theorem d_cX1_putTogether_1 : decode cX1_putTogether 1 = .ok (.getfield 24, 3) := by decide +kernel
theorem d_cX1_putTogether_4 : decode cX1_putTogether 4 = .ok (.iconst (-1), 1) := by decide +kernel
theorem d_cX1_putTogether_5 : decode cX1_putTogether 5 = .ok (.invokestatic 37, 3) := by decide +kernel
theorem d_cX1_putTogether_8 : decode cX1_putTogether 8 = .ok (.iconst 1, 1) := by decide +kernel
theorem d_cX1_putTogether_9 : decode cX1_putTogether 9 = .ok (.istore_n 2, 1) := by decide +kernel
theorem d_cX1_putTogether_10 : decode cX1_putTogether 10 = .ok (.aload_n 0, 1) := by decide +kernel
theorem d_cX1_putTogether_11 : decode cX1_putTogether 11 = .ok (.getfield 77, 3) := by decide +kernel
theorem d_cX1_putTogether_14 : decode cX1_putTogether 14 = .ok (.iconst 1, 1) := by decide +kernel
theorem d_cX1_putTogether_15 : decode cX1_putTogether 15 = .ok (.isub, 1) := by decide +kernel
theorem d_cX1_putTogether_16 : decode cX1_putTogether 16 = .ok (.istore_n 3, 1) := by decide +kernel
theorem d_cX1_putTogether_17 : decode cX1_putTogether 17 = .ok (.iload_n 3, 1) := by decide +kernel
theorem d_cX1_putTogether_18 : decode cX1_putTogether 18 = .ok (.ifCond .lt 52, 3) := by decide +kernel
theorem d_cX1_putTogether_70 : decode cX1_putTogether 70 = .ok (.iload_n 2, 1) := by decide +kernel
theorem d_cX1_putTogether_71 : decode cX1_putTogether 71 = .ok (.ireturn, 1) := by decide +kernel
theorem d_cX1_putTogether_21 : decode cX1_putTogether 21 = .ok (.aload_n 0, 1) := by decide +kernel
theorem d_cX1_putTogether_22 : decode cX1_putTogether 22 = .ok (.getfield 21, 3) := by decide +kernel
theorem d_cX1_putTogether_25 : decode cX1_putTogether 25 = .ok (.iload_n 3, 1) := by decide +kernel
theorem d_cX1_putTogether_26 : decode cX1_putTogether 26 = .ok (.iaload, 1) := by decide +kernel
theorem d_cX1_putTogether_27 : decode cX1_putTogether 27 = .ok (.istore 4, 2) := by decide +kernel
theorem d_cX1_putTogether_29 : decode cX1_putTogether 29 = .ok (.aload_n 0, 1) := by decide +kernel
theorem d_cX1_putTogether_30 : decode cX1_putTogether 30 = .ok (.iload 4, 2) := by decide +kernel
theorem d_cX1_putTogether_32 : decode cX1_putTogether 32 = .ok (.invokevirtual 112, 3) := by decide +kernel
theorem w_5_141 : (Jvm.Cond.methodLink "SpillForge$Colouring" (112 : Nat) ({ cls := "SpillForge$Colouring", name := "coloursAround", desc := "(I)J" } : Jvm.MethodName)) ∈ gw := gw_5 141 rfl rfl
theorem w_5_144 : (Jvm.Cond.code ({ cls := "SpillForge$Colouring", name := "coloursAround", desc := "(I)J" } : Jvm.MethodName) prog_3_method_12_code (9 : Nat) (Option.some Jvm.ClassFile.FieldType.long)) ∈ gw := gw_5 144 rfl rfl
theorem w_5_143 : (Jvm.Cond.instanceMethod ({ cls := "SpillForge$Colouring", name := "coloursAround", desc := "(I)J" } : Jvm.MethodName)) ∈ gw := gw_5 143 rfl rfl
theorem w_p_46 : Cond.selects "SpillForge$Colouring" ⟨"SpillForge$Colouring", "coloursAround", "(I)J"⟩ ⟨"SpillForge$Colouring", "coloursAround", "(I)J"⟩ ∈ gw := gw_p _ 46 rfl rfl rfl
theorem d_cX1_putTogether_35 : decode cX1_putTogether 35 = .ok (.ldc2_w 116, 3) := by decide +kernel
theorem w_5_145 : (Jvm.Cond.constantLong "SpillForge$Colouring" (116 : Nat) (-1 : Int64)) ∈ gw := gw_5 145 rfl rfl
theorem d_cX1_putTogether_38 : decode cX1_putTogether 38 = .ok (.lxor, 1) := by decide +kernel
theorem d_cX1_putTogether_39 : decode cX1_putTogether 39 = .ok (.invokestatic 108, 3) := by decide +kernel
theorem d_cX1_putTogether_42 : decode cX1_putTogether 42 = .ok (.istore 5, 2) := by decide +kernel
theorem d_cX1_putTogether_44 : decode cX1_putTogether 44 = .ok (.iload 5, 2) := by decide +kernel
theorem d_cX1_putTogether_46 : decode cX1_putTogether 46 = .ok (.iload_n 1, 1) := by decide +kernel
theorem d_cX1_putTogether_47 : decode cX1_putTogether 47 = .ok (.if_icmp .ge 15, 3) := by decide +kernel
theorem d_cX1_putTogether_62 : decode cX1_putTogether 62 = .ok (.iconst 0, 1) := by decide +kernel
theorem d_cX1_putTogether_63 : decode cX1_putTogether 63 = .ok (.istore_n 2, 1) := by decide +kernel
theorem d_cX1_putTogether_64 : decode cX1_putTogether 64 = .ok (.iinc 3 (-1), 3) := by decide +kernel
theorem d_cX1_putTogether_67 : decode cX1_putTogether 67 = .ok (.goto (-50), 3) := by decide +kernel
theorem d_cX1_putTogether_50 : decode cX1_putTogether 50 = .ok (.aload_n 0, 1) := by decide +kernel
theorem d_cX1_putTogether_51 : decode cX1_putTogether 51 = .ok (.getfield 24, 3) := by decide +kernel
theorem d_cX1_putTogether_54 : decode cX1_putTogether 54 = .ok (.iload 4, 2) := by decide +kernel
theorem d_cX1_putTogether_56 : decode cX1_putTogether 56 = .ok (.iload 5, 2) := by decide +kernel
theorem d_cX1_putTogether_58 : decode cX1_putTogether 58 = .ok (.iastore, 1) := by decide +kernel
theorem d_cX1_putTogether_59 : decode cX1_putTogether 59 = .ok (.goto 5, 3) := by decide +kernel
theorem d_cX1_isWithout_0 : decode cX1_isWithout 0 = .ok (.aload_n 0, 1) := by decide +kernel
theorem d_cX1_isWithout_1 : decode cX1_isWithout 1 = .ok (.getfield 27, 3) := by decide +kernel
theorem d_cX1_isWithout_4 : decode cX1_isWithout 4 = .ok (.iload_n 1, 1) := by decide +kernel
theorem d_cX1_isWithout_5 : decode cX1_isWithout 5 = .ok (.invokevirtual 31, 3) := by decide +kernel
theorem d_cX1_isWithout_8 : decode cX1_isWithout 8 = .ok (.ifCond .eq 17, 3) := by decide +kernel
theorem d_cX1_isWithout_25 : decode cX1_isWithout 25 = .ok (.iconst 0, 1) := by decide +kernel
theorem d_cX1_isWithout_26 : decode cX1_isWithout 26 = .ok (.ireturn, 1) := by decide +kernel
theorem d_cX1_isWithout_11 : decode cX1_isWithout 11 = .ok (.aload_n 0, 1) := by decide +kernel
theorem d_cX1_isWithout_12 : decode cX1_isWithout 12 = .ok (.getfield 24, 3) := by decide +kernel
theorem d_cX1_isWithout_15 : decode cX1_isWithout 15 = .ok (.iload_n 1, 1) := by decide +kernel
theorem d_cX1_isWithout_16 : decode cX1_isWithout 16 = .ok (.iaload, 1) := by decide +kernel
theorem d_cX1_isWithout_17 : decode cX1_isWithout 17 = .ok (.iconst (-1), 1) := by decide +kernel
theorem d_cX1_isWithout_18 : decode cX1_isWithout 18 = .ok (.if_icmp .ne 7, 3) := by decide +kernel
theorem d_cX1_isWithout_21 : decode cX1_isWithout 21 = .ok (.iconst 1, 1) := by decide +kernel
theorem d_cX1_isWithout_22 : decode cX1_isWithout 22 = .ok (.goto 4, 3) := by decide +kernel
abbrev ky_60376_Colouring_takeApart : gKey := (cX1_takeApart, 5, yX1_takeApart.cls, none, [], yX1_takeApart.name, fun _ _ => True)
abbrev po_60376_Colouring_takeApart (I : FieldType → ClassId) (q60338 : Nat) (q60339 : Nat) (q60340 : Nat) (q60341 : Nat) (q60342 : Nat) (q60343 : Nat) (q60344 : Nat) (q60345 : Nat) (q60346 : Nat) (q60347 : Nat) (q60348 : Nat) (q60349 : Nat) (q60350 : Nat) (q60351 : Nat) (q60352 : Nat) (p60353 : Int32) (p60354 : Int32) (p60355 : Int32) (p60356 : Int32) (p60357 : Int32) (f60358 : Nat → Int32) (f60359 : Nat → Int32) (f60360 : Nat → Int32) (f60361 : Nat → Int32) (f60362 : Nat → Int32) (p60363 : Int32) (p60364 : Int32) (p60365 : Int32) (f60366 : Nat → Int64) (f60367 : Nat → Int64) (f60368 : Nat → Int32) (f60369 : Nat → Int64) (f60370 : Nat → Int64) (f60371 : Nat → Int64) (f60372 : Nat → Int64) : Option Value → va_W → Prop := fun r w => ∃ (o63048 : Int32) (o63049 : Int32) (f63050 : Nat → Int32) (f63051 : Nat → Int32) (f63052 : Nat → Int32), r = none ∧ w = [(q60338, .inr (6, [.ref q60339, .ref q60340, .ref q60341, .ref q60342, .ref q60343, .ref q60344, .int o63048, .int o63049])), (q60339, .inr (8, [.ref q60345, .ref q60346, .ref q60347, .ref q60348, .int p60356, .int p60357])), (q60340, .inl (I .int, 720, .inl f60358)), (q60341, .inl (I .int, 720, .inl f63050)), (q60342, .inl (I .int, 720, .inl f63051)), (q60343, .inl (I .int, 720, .inl f63052)), (q60344, .inl (I .int, 720, .inl f60362)), (q60345, .inr (10, [.ref q60349, .ref q60350, .ref q60351, .ref q60352, .int p60363, .int p60364, .int p60365])), (q60346, .inl (I .long, 8640, .inr (.inl f60366))), (q60347, .inl (I .long, 12, .inr (.inl f60367))), (q60348, .inl (I .int, 720, .inl f60368)), (q60349, .inl (I .long, 480, .inr (.inl f60369))), (q60350, .inl (I .long, 480, .inr (.inl f60370))), (q60351, .inl (I .long, 480, .inr (.inl f60371))), (q60352, .inl (I .long, 12, .inr (.inl f60372)))] ∧ gB o63048 0 720 ∧ gB o63049 0 720 ∧ gF f63050 (-2147483648) 2147483647 ∧ gF f63051 0 719 ∧ gF f63052 0 719 ∧ gP f63052 (o63049.toInt) (p60356.toInt)
set_option maxRecDepth 100000 in
set_option maxHeartbeats 4000000 in
theorem ct_60376_Colouring_takeApart (l : Launch) (hl0 : l.stackTraces = false) (D : va_G) (I : FieldType → ClassId) (q60338 : Nat) (q60339 : Nat) (q60340 : Nat) (q60341 : Nat) (q60342 : Nat) (q60343 : Nat) (q60344 : Nat) (q60345 : Nat) (q60346 : Nat) (q60347 : Nat) (q60348 : Nat) (q60349 : Nat) (q60350 : Nat) (q60351 : Nat) (q60352 : Nat) (p60353 : Int32) (p60354 : Int32) (p60355 : Int32) (p60356 : Int32) (p60357 : Int32) (f60358 : Nat → Int32) (f60359 : Nat → Int32) (f60360 : Nat → Int32) (f60361 : Nat → Int32) (f60362 : Nat → Int32) (p60363 : Int32) (p60364 : Int32) (p60365 : Int32) (f60366 : Nat → Int64) (f60367 : Nat → Int64) (f60368 : Nat → Int32) (f60369 : Nat → Int64) (f60370 : Nat → Int64) (f60371 : Nat → Int64) (f60372 : Nat → Int64) (bp60354 : gB p60354 0 720) (bp60355 : gB p60355 0 720) (bp60356 : gB p60356 0 720) (bp60357 : gB p60357 0 12) (bf60360 : gF f60360 0 719) (bf60361 : gF f60361 0 719) (bp60363 : gB p60363 0 720) (bp60364 : gB p60364 0 12) (bp60365 : gB p60365 0 1) (x60373 : p60357.toInt = (p60356.toInt + 63) / 64) (x60374 : lb_W f60366 (p60356.toInt * p60357.toInt) (p60357.toInt) (p60356.toInt)) (x60375 : p60364.toInt = (p60363.toInt + 63) / 64) : Ct (gV D I) l yX1_takeApart cX1_takeApart 5 none 3 67 0 0 [.ref q60338, .int p60353] [(q60338, .inr (6, [.ref q60339, .ref q60340, .ref q60341, .ref q60342, .ref q60343, .ref q60344, .int p60354, .int p60355])), (q60339, .inr (8, [.ref q60345, .ref q60346, .ref q60347, .ref q60348, .int p60356, .int p60357])), (q60340, .inl (I .int, 720, .inl f60358)), (q60341, .inl (I .int, 720, .inl f60359)), (q60342, .inl (I .int, 720, .inl f60360)), (q60343, .inl (I .int, 720, .inl f60361)), (q60344, .inl (I .int, 720, .inl f60362)), (q60345, .inr (10, [.ref q60349, .ref q60350, .ref q60351, .ref q60352, .int p60363, .int p60364, .int p60365])), (q60346, .inl (I .long, 8640, .inr (.inl f60366))), (q60347, .inl (I .long, 12, .inr (.inl f60367))), (q60348, .inl (I .int, 720, .inl f60368)), (q60349, .inl (I .long, 480, .inr (.inl f60369))), (q60350, .inl (I .long, 480, .inr (.inl f60370))), (q60351, .inl (I .long, 480, .inr (.inl f60371))), (q60352, .inl (I .long, 12, .inr (.inl f60372)))] (po_60376_Colouring_takeApart I q60338 q60339 q60340 q60341 q60342 q60343 q60344 q60345 q60346 q60347 q60348 q60349 q60350 q60351 q60352 p60353 p60354 p60355 p60356 p60357 f60358 f60359 f60360 f60361 f60362 p60363 p60364 p60365 f60366 f60367 f60368 f60369 f60370 f60371 f60372) gN := by
  refine Ct_of hl0 (by decide) (Nat.le_of_ble_eq_true rfl) ?_
  have bp60353 := gB_any p60353
  refine G_aload_n 0 d_cX1_takeApart_0 rfl ?_
  refine G_iconst 0 d_cX1_takeApart_1 (by decide +kernel) ?_
  refine G_putf (ws' := [(q60338, .inr (6, [.ref q60339, .ref q60340, .ref q60341, .ref q60342, .ref q60343, .ref q60344, .int 0, .int p60355])), (q60339, .inr (8, [.ref q60345, .ref q60346, .ref q60347, .ref q60348, .int p60356, .int p60357])), (q60340, .inl (I .int, 720, .inl f60358)), (q60341, .inl (I .int, 720, .inl f60359)), (q60342, .inl (I .int, 720, .inl f60360)), (q60343, .inl (I .int, 720, .inl f60361)), (q60344, .inl (I .int, 720, .inl f60362)), (q60345, .inr (10, [.ref q60349, .ref q60350, .ref q60351, .ref q60352, .int p60363, .int p60364, .int p60365])), (q60346, .inl (I .long, 8640, .inr (.inl f60366))), (q60347, .inl (I .long, 12, .inr (.inl f60367))), (q60348, .inl (I .int, 720, .inl f60368)), (q60349, .inl (I .long, 480, .inr (.inl f60369))), (q60350, .inl (I .long, 480, .inr (.inl f60370))), (q60351, .inl (I .long, 480, .inr (.inl f60371))), (q60352, .inl (I .long, 12, .inr (.inl f60372)))]) 0 6 d_cX1_takeApart_2 rfl (gk_X1 D I) (Nat.le_of_ble_eq_true rfl) w_2_84 rfl rfl rfl (Nat.le_of_ble_eq_true rfl) rfl ?_
  refine G_aload_n 0 d_cX1_takeApart_5 rfl ?_
  refine G_iconst 0 d_cX1_takeApart_6 (by decide +kernel) ?_
  refine G_putf (ws' := [(q60338, .inr (6, [.ref q60339, .ref q60340, .ref q60341, .ref q60342, .ref q60343, .ref q60344, .int 0, .int 0])), (q60339, .inr (8, [.ref q60345, .ref q60346, .ref q60347, .ref q60348, .int p60356, .int p60357])), (q60340, .inl (I .int, 720, .inl f60358)), (q60341, .inl (I .int, 720, .inl f60359)), (q60342, .inl (I .int, 720, .inl f60360)), (q60343, .inl (I .int, 720, .inl f60361)), (q60344, .inl (I .int, 720, .inl f60362)), (q60345, .inr (10, [.ref q60349, .ref q60350, .ref q60351, .ref q60352, .int p60363, .int p60364, .int p60365])), (q60346, .inl (I .long, 8640, .inr (.inl f60366))), (q60347, .inl (I .long, 12, .inr (.inl f60367))), (q60348, .inl (I .int, 720, .inl f60368)), (q60349, .inl (I .long, 480, .inr (.inl f60369))), (q60350, .inl (I .long, 480, .inr (.inl f60370))), (q60351, .inl (I .long, 480, .inr (.inl f60371))), (q60352, .inl (I .long, 12, .inr (.inl f60372)))]) 0 7 d_cX1_takeApart_7 rfl (gk_X1 D I) (Nat.le_of_ble_eq_true rfl) w_2_85 rfl rfl rfl (Nat.le_of_ble_eq_true rfl) rfl ?_
  refine G_iconst 0 d_cX1_takeApart_10 (by decide +kernel) ?_
  refine G_istore_n (L' := [(2, .int 0), (0, .ref q60338), (1, .int p60353)]) d_cX1_takeApart_11 (Nat.le_of_ble_eq_true rfl) rfl ?_
  have hlp12_62961 : ∀ (n12_62961 : Nat) (g62956 : Int32) (f62957 : Nat → Int32) (g62958 : Int32) (f62959 : Nat → Int32), gB g62956 0 2147483647 → gF f62957 (-2147483648) 2147483647 → gB g62958 0 720 → gF f62959 0 719 → g62958.toInt ≤ g62956.toInt → gP f62959 (g62958.toInt) (p60356.toInt) → ((2147483648 : Int) - g62956.toInt).toNat < n12_62961 → G (gV D I) l (gRm 3 67 0 0) (gM (gV D I) (po_60376_Colouring_takeApart I q60338 q60339 q60340 q60341 q60342 q60343 q60344 q60345 q60346 q60347 q60348 q60349 q60350 q60351 q60352 p60353 p60354 p60355 p60356 p60357 f60358 f60359 f60360 f60361 f60362 p60363 p60364 p60365 f60366 f60367 f60368 f60369 f60370 f60371 f60372) gN 0 0) ky_60376_Colouring_takeApart 12 [(2, .int g62956), (0, .ref q60338), (1, .int p60353)] [] [(q60338, .inr (6, [.ref q60339, .ref q60340, .ref q60341, .ref q60342, .ref q60343, .ref q60344, .int g62958, .int 0])), (q60339, .inr (8, [.ref q60345, .ref q60346, .ref q60347, .ref q60348, .int p60356, .int p60357])), (q60340, .inl (I .int, 720, .inl f60358)), (q60341, .inl (I .int, 720, .inl f62957)), (q60342, .inl (I .int, 720, .inl f62959)), (q60343, .inl (I .int, 720, .inl f60361)), (q60344, .inl (I .int, 720, .inl f60362)), (q60345, .inr (10, [.ref q60349, .ref q60350, .ref q60351, .ref q60352, .int p60363, .int p60364, .int p60365])), (q60346, .inl (I .long, 8640, .inr (.inl f60366))), (q60347, .inl (I .long, 12, .inr (.inl f60367))), (q60348, .inl (I .int, 720, .inl f60368)), (q60349, .inl (I .long, 480, .inr (.inl f60369))), (q60350, .inl (I .long, 480, .inr (.inl f60370))), (q60351, .inl (I .long, 480, .inr (.inl f60371))), (q60352, .inl (I .long, 12, .inr (.inl f60372)))] 0 0 := by
    intro n12_62961
    induction n12_62961 with
    | zero => intro g62956 f62957 g62958 f62959 bg62956 bf62957 bg62958 bf62959 x62960 x62961 hm12_62961; exact absurd hm12_62961 (Nat.not_lt_zero _)
    | succ n12_62961 ih12_62961 =>
      intro g62956 f62957 g62958 f62959 bg62956 bf62957 bg62958 bf62959 x62960 x62961 hm12_62961
      refine G_iload_n 0 d_cX1_takeApart_12 rfl ?_
      refine G_aload_n 1 d_cX1_takeApart_13 rfl ?_
      refine G_getf 0 0 d_cX1_takeApart_14 rfl (gk_X1 D I) (Nat.le_of_ble_eq_true rfl) w_2_78 rfl ?_
      refine G_getfN 1 4 d_cX1_takeApart_17 rfl (gk_X3 D I) (Nat.le_of_ble_eq_true rfl) (fun _ _ _ h => gn_w 59 rfl h) rfl ?_
      refine G_icmp_ge 75 d_cX1_takeApart_20 (by decide +kernel) (fun hc62962 => ?_) (fun hc62962 => ?_)
      · have r62963 : p60356.toInt ≤ g62956.toInt := gC_le hc62962
        refine G_aload_n 1 d_cX1_takeApart_75 rfl ?_
        refine G_getf 0 6 d_cX1_takeApart_76 rfl (gk_X1 D I) (Nat.le_of_ble_eq_true rfl) w_2_84 rfl ?_
        refine G_istore_n (L' := [(2, .int g62958), (0, .ref q60338), (1, .int p60353)]) d_cX1_takeApart_79 (Nat.le_of_ble_eq_true rfl) rfl ?_
        have hlp80_63006 : ∀ (n80_63006 : Nat) (g62997 : Int32) (g62998 : Int32) (g62999 : Int32) (f63000 : Nat → Int32) (f63001 : Nat → Int32) (f63002 : Nat → Int32), gB g62997 0 720 → gB g62998 0 720 → gB g62999 0 720 → gF f63000 (-2147483648) 2147483647 → gF f63001 0 719 → gF f63002 0 719 → g62997.toInt = g62998.toInt → g62999.toInt + g62997.toInt ≤ 720 → gP f63001 (g62998.toInt) (p60356.toInt) → gP f63002 (g62999.toInt) (p60356.toInt) → ((g62997.toInt : Int) - (-1)).toNat < n80_63006 → G (gV D I) l (gRm 3 67 0 0) (gM (gV D I) (po_60376_Colouring_takeApart I q60338 q60339 q60340 q60341 q60342 q60343 q60344 q60345 q60346 q60347 q60348 q60349 q60350 q60351 q60352 p60353 p60354 p60355 p60356 p60357 f60358 f60359 f60360 f60361 f60362 p60363 p60364 p60365 f60366 f60367 f60368 f60369 f60370 f60371 f60372) gN 0 0) ky_60376_Colouring_takeApart 80 [(2, .int g62997), (0, .ref q60338), (1, .int p60353)] [] [(q60338, .inr (6, [.ref q60339, .ref q60340, .ref q60341, .ref q60342, .ref q60343, .ref q60344, .int g62998, .int g62999])), (q60339, .inr (8, [.ref q60345, .ref q60346, .ref q60347, .ref q60348, .int p60356, .int p60357])), (q60340, .inl (I .int, 720, .inl f60358)), (q60341, .inl (I .int, 720, .inl f63000)), (q60342, .inl (I .int, 720, .inl f63001)), (q60343, .inl (I .int, 720, .inl f63002)), (q60344, .inl (I .int, 720, .inl f60362)), (q60345, .inr (10, [.ref q60349, .ref q60350, .ref q60351, .ref q60352, .int p60363, .int p60364, .int p60365])), (q60346, .inl (I .long, 8640, .inr (.inl f60366))), (q60347, .inl (I .long, 12, .inr (.inl f60367))), (q60348, .inl (I .int, 720, .inl f60368)), (q60349, .inl (I .long, 480, .inr (.inl f60369))), (q60350, .inl (I .long, 480, .inr (.inl f60370))), (q60351, .inl (I .long, 480, .inr (.inl f60371))), (q60352, .inl (I .long, 12, .inr (.inl f60372)))] 0 0 := by
          intro n80_63006
          induction n80_63006 with
          | zero => intro g62997 g62998 g62999 f63000 f63001 f63002 bg62997 bg62998 bg62999 bf63000 bf63001 bf63002 x63003 x63004 x63005 x63006 hm80_63006; exact absurd hm80_63006 (Nat.not_lt_zero _)
          | succ n80_63006 ih80_63006 =>
            intro g62997 g62998 g62999 f63000 f63001 f63002 bg62997 bg62998 bg62999 bf63000 bf63001 bf63002 x63003 x63004 x63005 x63006 hm80_63006
            refine G_iload_n 0 d_cX1_takeApart_80 rfl ?_
            refine G_if_le 162 d_cX1_takeApart_81 (by decide +kernel) (fun hc63007 => ?_) (fun hc63007 => ?_)
            · have r63008 : g62997.toInt ≤ 0 := gj_le hc63007 (show Int32.toInt 0 = 0 by decide)
              have bg62997' : gB g62997 0 0 := ⟨by omega, by omega⟩
              exact G_vret d_cX1_takeApart_162 rfl (Nat.le_of_ble_eq_true rfl) (Nat.le_of_ble_eq_true rfl) ⟨g62998, g62999, f63000, f63001, f63002, rfl, rfl, bg62998, bg62999, bf63000, bf63001, bf63002, x63006⟩
            · have r63009 : 0 < g62997.toInt := gj_nle hc63007 (show Int32.toInt 0 = 0 by decide)
              have bg62997' : gB g62997 1 720 := ⟨by omega, by omega⟩
              refine G_aload_n 1 d_cX1_takeApart_84 rfl ?_
              refine G_iload_n 2 d_cX1_takeApart_85 rfl ?_
              refine G_callV (As := [.int p60353]) (wr := []) (gV_ok D I) (ct_60454_Colouring_nextOfRest l hl0 D I q60338 q60339 q60340 q60341 q60342 q60343 q60344 q60345 q60346 q60347 q60348 q60349 q60350 q60351 q60352 p60353 g62998 g62999 p60356 p60357 f60358 f63000 f63001 f63002 f60362 p60363 p60364 p60365 f60366 f60367 f60368 f60369 f60370 f60371 f60372 bg62998 bg62999 bp60356 bp60357 bf63001 bf63002 bp60363 bp60364 bp60365 (by omega) (by omega) x60374 (by omega)) d_cX1_takeApart_86 ⟨w_5_123, w_1_11, w_5_126, by decide, rfl, (Nat.le_of_ble_eq_true rfl), (Nat.le_of_ble_eq_true rfl)⟩ w_5_125 w_p_43 0 rfl rfl [0, 1, 2, 3, 4, 5, 6, 7, 8, 9, 10, 11, 12, 13, 14] [] rfl rfl rfl rfl (by decide) (Nat.le_of_ble_eq_true rfl) (Nat.le_of_ble_eq_true rfl) (Nat.le_of_ble_eq_true rfl) (fun r w hp => ?_) (fun _ _ _ z => z.elim)
              obtain ⟨o63010, rfl, rfl, bo63010, x63011⟩ := hp
              change G _ _ _ _ _ _ _ (.int o63010 :: _) _ _ _
              refine G_ws (ws' := [(q60338, .inr (6, [.ref q60339, .ref q60340, .ref q60341, .ref q60342, .ref q60343, .ref q60344, .int g62998, .int g62999])), (q60339, .inr (8, [.ref q60345, .ref q60346, .ref q60347, .ref q60348, .int p60356, .int p60357])), (q60340, .inl (I .int, 720, .inl f60358)), (q60341, .inl (I .int, 720, .inl f63000)), (q60342, .inl (I .int, 720, .inl f63001)), (q60343, .inl (I .int, 720, .inl f63002)), (q60344, .inl (I .int, 720, .inl f60362)), (q60345, .inr (10, [.ref q60349, .ref q60350, .ref q60351, .ref q60352, .int p60363, .int p60364, .int p60365])), (q60346, .inl (I .long, 8640, .inr (.inl f60366))), (q60347, .inl (I .long, 12, .inr (.inl f60367))), (q60348, .inl (I .int, 720, .inl f60368)), (q60349, .inl (I .long, 480, .inr (.inl f60369))), (q60350, .inl (I .long, 480, .inr (.inl f60370))), (q60351, .inl (I .long, 480, .inr (.inl f60371))), (q60352, .inl (I .long, 12, .inr (.inl f60372)))]) (cs' := 0) (sl' := 0) rfl rfl rfl ?_
              refine G_istore_n (L' := [(3, .int o63010), (2, .int g62997), (0, .ref q60338), (1, .int p60353)]) d_cX1_takeApart_89 (Nat.le_of_ble_eq_true rfl) rfl ?_
              have bo63010' : gB o63010 0 719 := ⟨by omega, by omega⟩
              refine G_aload_n 2 d_cX1_takeApart_90 rfl ?_
              refine G_getf 0 3 d_cX1_takeApart_91 rfl (gk_X1 D I) (Nat.le_of_ble_eq_true rfl) w_2_81 rfl ?_
              refine G_iload_n 0 d_cX1_takeApart_94 rfl ?_
              refine G_iald 4 0 d_cX1_takeApart_95 rfl rfl (gB_in bo63010' (by decide) (by decide)) (G_nam fun z63012 hz63012 => ?_)
              have bz63012 : gB z63012 0 719 := by rw [hz63012]; exact bf63001 _
              have pz63012 := gP_ld hz63012 x63005 (by omega) (by omega)
              refine G_istore (L' := [(4, .int z63012), (3, .int o63010), (2, .int g62997), (0, .ref q60338), (1, .int p60353)]) d_cX1_takeApart_96 (Nat.le_of_ble_eq_true rfl) rfl ?_
              refine G_aload_n 3 d_cX1_takeApart_98 rfl ?_
              refine G_dup d_cX1_takeApart_99 rfl ?_
              refine G_getf 0 6 d_cX1_takeApart_100 rfl (gk_X1 D I) (Nat.le_of_ble_eq_true rfl) w_2_84 rfl ?_
              refine G_iconst 1 d_cX1_takeApart_103 (by decide +kernel) ?_
              refine G_isub d_cX1_takeApart_104 (G_nam fun z63013 hz63013 => ?_)
              have ez63013 : z63013.toInt = g62998.toInt - 1 := by rw [gI_sub hz63013 bg62998 (gBl (show Int32.toInt 1 = 1 by decide)) (by decide) (by decide), show Int32.toInt 1 = 1 from by decide]
              have bz63013 : gB z63013 (-1) 719 := gB_sub (gI_sub hz63013 bg62998 (gBl (show Int32.toInt 1 = 1 by decide)) (by decide) (by decide)) bg62998 (gBl (show Int32.toInt 1 = 1 by decide)) (by decide) (by decide)
              refine G_putf (ws' := [(q60338, .inr (6, [.ref q60339, .ref q60340, .ref q60341, .ref q60342, .ref q60343, .ref q60344, .int z63013, .int g62999])), (q60339, .inr (8, [.ref q60345, .ref q60346, .ref q60347, .ref q60348, .int p60356, .int p60357])), (q60340, .inl (I .int, 720, .inl f60358)), (q60341, .inl (I .int, 720, .inl f63000)), (q60342, .inl (I .int, 720, .inl f63001)), (q60343, .inl (I .int, 720, .inl f63002)), (q60344, .inl (I .int, 720, .inl f60362)), (q60345, .inr (10, [.ref q60349, .ref q60350, .ref q60351, .ref q60352, .int p60363, .int p60364, .int p60365])), (q60346, .inl (I .long, 8640, .inr (.inl f60366))), (q60347, .inl (I .long, 12, .inr (.inl f60367))), (q60348, .inl (I .int, 720, .inl f60368)), (q60349, .inl (I .long, 480, .inr (.inl f60369))), (q60350, .inl (I .long, 480, .inr (.inl f60370))), (q60351, .inl (I .long, 480, .inr (.inl f60371))), (q60352, .inl (I .long, 12, .inr (.inl f60372)))]) 0 6 d_cX1_takeApart_105 rfl (gk_X1 D I) (Nat.le_of_ble_eq_true rfl) w_2_84 rfl rfl rfl (Nat.le_of_ble_eq_true rfl) rfl ?_
              refine G_aload_n 3 d_cX1_takeApart_108 rfl ?_
              refine G_getf 0 3 d_cX1_takeApart_109 rfl (gk_X1 D I) (Nat.le_of_ble_eq_true rfl) w_2_81 rfl ?_
              refine G_iload_n 1 d_cX1_takeApart_112 rfl ?_
              refine G_iconst 1 d_cX1_takeApart_113 (by decide +kernel) ?_
              refine G_iadd d_cX1_takeApart_114 (G_nam fun z63014 hz63014 => ?_)
              have ez63014 : z63014.toInt = o63010.toInt + 1 := by rw [gI_add hz63014 bo63010' (gBl (show Int32.toInt 1 = 1 by decide)) (by decide) (by decide), show Int32.toInt 1 = 1 from by decide]
              have bz63014 : gB z63014 1 720 := gB_add (gI_add hz63014 bo63010' (gBl (show Int32.toInt 1 = 1 by decide)) (by decide) (by decide)) bo63010' (gBl (show Int32.toInt 1 = 1 by decide)) (by decide) (by decide)
              refine G_aload_n 3 d_cX1_takeApart_115 rfl ?_
              refine G_getf 0 3 d_cX1_takeApart_116 rfl (gk_X1 D I) (Nat.le_of_ble_eq_true rfl) w_2_81 rfl ?_
              refine G_iload_n 1 d_cX1_takeApart_119 rfl ?_
              refine G_aload_n 3 d_cX1_takeApart_120 rfl ?_
              refine G_getf 0 6 d_cX1_takeApart_121 rfl (gk_X1 D I) (Nat.le_of_ble_eq_true rfl) w_2_84 rfl ?_
              refine G_iload_n 1 d_cX1_takeApart_124 rfl ?_
              refine G_isub d_cX1_takeApart_125 (G_nam fun z63015 hz63015 => ?_)
              have ez63015 : z63015.toInt = z63013.toInt - o63010.toInt := by rw [gI_sub hz63015 bz63013 bo63010' (by decide) (by decide)]
              have bz63015 : gB z63015 (-720) 719 := gB_sub (gI_sub hz63015 bz63013 bo63010' (by decide) (by decide)) bz63013 bo63010' (by decide) (by decide)
              refine G_copyi 4 4 0 0 d_cX1_takeApart_126 w_5_131 w_5_113 w_5_112 w_1_34 rfl rfl rfl rfl (by omega) (by omega) (by omega) (by omega) (by omega) (Nat.le_of_ble_eq_true rfl) (Nat.le_of_ble_eq_true rfl) (fun f63016 hf63016 => ?_)
              refine G_ws (ws' := [(q60338, .inr (6, [.ref q60339, .ref q60340, .ref q60341, .ref q60342, .ref q60343, .ref q60344, .int z63013, .int g62999])), (q60339, .inr (8, [.ref q60345, .ref q60346, .ref q60347, .ref q60348, .int p60356, .int p60357])), (q60340, .inl (I .int, 720, .inl f60358)), (q60341, .inl (I .int, 720, .inl f63000)), (q60342, .inl (I .int, 720, .inl f63016)), (q60343, .inl (I .int, 720, .inl f63002)), (q60344, .inl (I .int, 720, .inl f60362)), (q60345, .inr (10, [.ref q60349, .ref q60350, .ref q60351, .ref q60352, .int p60363, .int p60364, .int p60365])), (q60346, .inl (I .long, 8640, .inr (.inl f60366))), (q60347, .inl (I .long, 12, .inr (.inl f60367))), (q60348, .inl (I .int, 720, .inl f60368)), (q60349, .inl (I .long, 480, .inr (.inl f60369))), (q60350, .inl (I .long, 480, .inr (.inl f60370))), (q60351, .inl (I .long, 480, .inr (.inl f60371))), (q60352, .inl (I .long, 12, .inr (.inl f60372)))]) (cs' := 0) (sl' := 0) rfl rfl rfl ?_
              have wf63016 : gP f63016 (z63013.toInt) (p60356.toInt) := gP_cpy hf63016 (gP_le x63005 (by omega)) (by omega) (by omega) (by omega) (by omega)
              have bf63016 : gF f63016 0 719 := gF_cpy hf63016 bf63001 bf63001
              refine G_aload_n 3 d_cX1_takeApart_129 rfl ?_
              refine G_getf 0 4 d_cX1_takeApart_130 rfl (gk_X1 D I) (Nat.le_of_ble_eq_true rfl) w_2_82 rfl ?_
              refine G_aload_n 3 d_cX1_takeApart_133 rfl ?_
              refine G_getf 0 7 d_cX1_takeApart_134 rfl (gk_X1 D I) (Nat.le_of_ble_eq_true rfl) w_2_85 rfl ?_
              refine G_iload 0 d_cX1_takeApart_137 rfl ?_
              refine G_iastN 5 0 d_cX1_takeApart_139 rfl rfl (gB_inr (by omega) (by omega)) (fun f63017 hf63017 => ?_)
              refine G_ws (ws' := [(q60338, .inr (6, [.ref q60339, .ref q60340, .ref q60341, .ref q60342, .ref q60343, .ref q60344, .int z63013, .int g62999])), (q60339, .inr (8, [.ref q60345, .ref q60346, .ref q60347, .ref q60348, .int p60356, .int p60357])), (q60340, .inl (I .int, 720, .inl f60358)), (q60341, .inl (I .int, 720, .inl f63000)), (q60342, .inl (I .int, 720, .inl f63016)), (q60343, .inl (I .int, 720, .inl f63017)), (q60344, .inl (I .int, 720, .inl f60362)), (q60345, .inr (10, [.ref q60349, .ref q60350, .ref q60351, .ref q60352, .int p60363, .int p60364, .int p60365])), (q60346, .inl (I .long, 8640, .inr (.inl f60366))), (q60347, .inl (I .long, 12, .inr (.inl f60367))), (q60348, .inl (I .int, 720, .inl f60368)), (q60349, .inl (I .long, 480, .inr (.inl f60369))), (q60350, .inl (I .long, 480, .inr (.inl f60370))), (q60351, .inl (I .long, 480, .inr (.inl f60371))), (q60352, .inl (I .long, 12, .inr (.inl f60372)))]) (cs' := 0) (sl' := 0) rfl rfl rfl ?_
              have wf63017 : gP f63017 (g62999.toInt + 1) (p60356.toInt) := gP_ext hf63017 x63006 (by omega) (by omega) (by omega)
              have bf63017 : gF f63017 0 719 := gF_upd hf63017 bf63002 bz63012
              refine G_aload_n 3 d_cX1_takeApart_140 rfl ?_
              refine G_dup d_cX1_takeApart_141 rfl ?_
              refine G_getf 0 7 d_cX1_takeApart_142 rfl (gk_X1 D I) (Nat.le_of_ble_eq_true rfl) w_2_85 rfl ?_
              refine G_iconst 1 d_cX1_takeApart_145 (by decide +kernel) ?_
              refine G_iadd d_cX1_takeApart_146 (G_nam fun z63018 hz63018 => ?_)
              have ez63018 : z63018.toInt = g62999.toInt + 1 := by rw [gI_add hz63018 bg62999 (gBl (show Int32.toInt 1 = 1 by decide)) (by decide) (by decide), show Int32.toInt 1 = 1 from by decide]
              have bz63018 : gB z63018 1 721 := gB_add (gI_add hz63018 bg62999 (gBl (show Int32.toInt 1 = 1 by decide)) (by decide) (by decide)) bg62999 (gBl (show Int32.toInt 1 = 1 by decide)) (by decide) (by decide)
              refine G_putf (ws' := [(q60338, .inr (6, [.ref q60339, .ref q60340, .ref q60341, .ref q60342, .ref q60343, .ref q60344, .int z63013, .int z63018])), (q60339, .inr (8, [.ref q60345, .ref q60346, .ref q60347, .ref q60348, .int p60356, .int p60357])), (q60340, .inl (I .int, 720, .inl f60358)), (q60341, .inl (I .int, 720, .inl f63000)), (q60342, .inl (I .int, 720, .inl f63016)), (q60343, .inl (I .int, 720, .inl f63017)), (q60344, .inl (I .int, 720, .inl f60362)), (q60345, .inr (10, [.ref q60349, .ref q60350, .ref q60351, .ref q60352, .int p60363, .int p60364, .int p60365])), (q60346, .inl (I .long, 8640, .inr (.inl f60366))), (q60347, .inl (I .long, 12, .inr (.inl f60367))), (q60348, .inl (I .int, 720, .inl f60368)), (q60349, .inl (I .long, 480, .inr (.inl f60369))), (q60350, .inl (I .long, 480, .inr (.inl f60370))), (q60351, .inl (I .long, 480, .inr (.inl f60371))), (q60352, .inl (I .long, 12, .inr (.inl f60372)))]) 0 7 d_cX1_takeApart_147 rfl (gk_X1 D I) (Nat.le_of_ble_eq_true rfl) w_2_85 rfl rfl rfl (Nat.le_of_ble_eq_true rfl) rfl ?_
              refine G_aload_n 3 d_cX1_takeApart_150 rfl ?_
              refine G_iload 0 d_cX1_takeApart_151 rfl ?_
              refine G_callV (As := [.int z63012]) (wr := []) (gV_ok D I) (ct_61442_Colouring_leave l hl0 D I q60338 q60339 q60340 q60341 q60342 q60343 q60344 q60345 q60346 q60347 q60348 q60349 q60350 q60351 q60352 z63012 z63013 z63018 p60356 p60357 f60358 f63000 f63016 f63017 f60362 p60363 p60364 p60365 f60366 f60367 f60368 f60369 f60370 f60371 f60372 bz63012 ⟨by omega, by omega⟩ ⟨by omega, by omega⟩ bp60356 bp60357 bf63016 bf63017 bp60363 bp60364 bp60365 (by omega) (by omega) x60374 (by omega)) d_cX1_takeApart_153 ⟨w_5_132, w_1_11, w_5_135, by decide, rfl, (Nat.le_of_ble_eq_true rfl), (Nat.le_of_ble_eq_true rfl)⟩ w_5_134 w_p_45 0 rfl rfl [0, 1, 2, 3, 4, 5, 6, 7, 8, 9, 10, 11, 12, 13, 14] [] rfl rfl rfl rfl (by decide) (Nat.le_of_ble_eq_true rfl) (Nat.le_of_ble_eq_true rfl) (Nat.le_of_ble_eq_true rfl) (fun r w hp => ?_) (fun _ _ _ z => z.elim)
              obtain ⟨f63019, rfl, rfl, bf63019⟩ := hp
              change G _ _ _ _ _ _ _ _ _ _ _
              refine G_ws (ws' := [(q60338, .inr (6, [.ref q60339, .ref q60340, .ref q60341, .ref q60342, .ref q60343, .ref q60344, .int z63013, .int z63018])), (q60339, .inr (8, [.ref q60345, .ref q60346, .ref q60347, .ref q60348, .int p60356, .int p60357])), (q60340, .inl (I .int, 720, .inl f60358)), (q60341, .inl (I .int, 720, .inl f63019)), (q60342, .inl (I .int, 720, .inl f63016)), (q60343, .inl (I .int, 720, .inl f63017)), (q60344, .inl (I .int, 720, .inl f60362)), (q60345, .inr (10, [.ref q60349, .ref q60350, .ref q60351, .ref q60352, .int p60363, .int p60364, .int p60365])), (q60346, .inl (I .long, 8640, .inr (.inl f60366))), (q60347, .inl (I .long, 12, .inr (.inl f60367))), (q60348, .inl (I .int, 720, .inl f60368)), (q60349, .inl (I .long, 480, .inr (.inl f60369))), (q60350, .inl (I .long, 480, .inr (.inl f60370))), (q60351, .inl (I .long, 480, .inr (.inl f60371))), (q60352, .inl (I .long, 12, .inr (.inl f60372)))]) (cs' := 0) (sl' := 0) rfl rfl rfl ?_
              obtain ⟨z63020, hz63020⟩ : ∃ z : Int32, z = g62997 + Int32.ofInt (-1) := ⟨_, rfl⟩
              have ez63020 : z63020.toInt = g62997.toInt + (-1) := gI_inc hz63020 (by decide) bg62997' (by decide) (by decide)
              have bz63020 : gB z63020 0 719 := ⟨by omega, by omega⟩
              refine G_iinc (L' := [(2, .int z63020), (4, .int z63012), (3, .int o63010), (0, .ref q60338), (1, .int p60353)]) z63020 2 d_cX1_takeApart_156 rfl hz63020.symm (Nat.le_of_ble_eq_true rfl) rfl ?_
              refine G_goto 80 d_cX1_takeApart_159 (by decide +kernel) ?_
              refine G_lv (L' := [(2, .int z63020), (0, .ref q60338), (1, .int p60353)]) [0, 3, 4] rfl ?_
              exact ih80_63006 z63020 z63013 z63018 f63019 f63016 f63017 (gB_w bz63020 (by decide) (by decide)) ⟨by omega, by omega⟩ ⟨by omega, by omega⟩ bf63019 bf63016 bf63017 (by omega) (by omega) wf63016 (gP_le wf63017 (by omega)) (by omega)
        exact hlp80_63006 (((g62958.toInt : Int) - (-1)).toNat + 1) g62958 g62958 0 f62957 f62959 f60361 bg62958 bg62958 (gB_w (gBl (show Int32.toInt 0 = 0 by decide)) (by decide) (by decide)) bf62957 bf62959 bf60361 (by have qa0 : Int32.toInt 0 = 0 := (by decide); omega) (by have qa0 : Int32.toInt 0 = 0 := (by decide); omega) x62961 gP_0 (Nat.lt_succ_self _)
      · have r63021 : g62956.toInt < p60356.toInt := gC_nle hc62962
        have bg62956' : gB g62956 0 719 := ⟨by omega, by omega⟩
        have bp60356' : gB p60356 1 720 := ⟨by omega, by omega⟩
        refine G_aload_n 1 d_cX1_takeApart_23 rfl ?_
        refine G_getf 0 2 d_cX1_takeApart_24 rfl (gk_X1 D I) (Nat.le_of_ble_eq_true rfl) w_2_80 rfl ?_
        refine G_iload_n 0 d_cX1_takeApart_27 rfl ?_
        refine G_aload_n 1 d_cX1_takeApart_28 rfl ?_
        refine G_getf 0 0 d_cX1_takeApart_29 rfl (gk_X1 D I) (Nat.le_of_ble_eq_true rfl) w_2_78 rfl ?_
        refine G_getfN 1 3 d_cX1_takeApart_32 rfl (gk_X3 D I) (Nat.le_of_ble_eq_true rfl) (fun _ _ _ h => gn_w 57 rfl h) rfl ?_
        refine G_iload_n 0 d_cX1_takeApart_35 rfl ?_
        refine G_iald 10 0 d_cX1_takeApart_36 rfl rfl (gB_in bg62956' (by decide) (by decide)) (G_nam fun z63022 hz63022 => ?_)
        have bz63022 : gB z63022 (-2147483648) 2147483647 := gB_any z63022
        refine G_iastN 3 0 d_cX1_takeApart_37 rfl rfl (gB_in bg62956' (by decide) (by decide)) (fun f63023 hf63023 => ?_)
        refine G_ws (ws' := [(q60338, .inr (6, [.ref q60339, .ref q60340, .ref q60341, .ref q60342, .ref q60343, .ref q60344, .int g62958, .int 0])), (q60339, .inr (8, [.ref q60345, .ref q60346, .ref q60347, .ref q60348, .int p60356, .int p60357])), (q60340, .inl (I .int, 720, .inl f60358)), (q60341, .inl (I .int, 720, .inl f63023)), (q60342, .inl (I .int, 720, .inl f62959)), (q60343, .inl (I .int, 720, .inl f60361)), (q60344, .inl (I .int, 720, .inl f60362)), (q60345, .inr (10, [.ref q60349, .ref q60350, .ref q60351, .ref q60352, .int p60363, .int p60364, .int p60365])), (q60346, .inl (I .long, 8640, .inr (.inl f60366))), (q60347, .inl (I .long, 12, .inr (.inl f60367))), (q60348, .inl (I .int, 720, .inl f60368)), (q60349, .inl (I .long, 480, .inr (.inl f60369))), (q60350, .inl (I .long, 480, .inr (.inl f60370))), (q60351, .inl (I .long, 480, .inr (.inl f60371))), (q60352, .inl (I .long, 12, .inr (.inl f60372)))]) (cs' := 0) (sl' := 0) rfl rfl rfl ?_
        refine G_aload_n 1 d_cX1_takeApart_38 rfl ?_
        refine G_getf 0 0 d_cX1_takeApart_39 rfl (gk_X1 D I) (Nat.le_of_ble_eq_true rfl) w_2_78 rfl ?_
        refine G_iload_n 0 d_cX1_takeApart_42 rfl ?_
        refine G_callV (As := [.int g62956]) (wr := [(q60338, .inr (6, [.ref q60339, .ref q60340, .ref q60341, .ref q60342, .ref q60343, .ref q60344, .int g62958, .int 0])), (q60340, .inl (I .int, 720, .inl f60358)), (q60341, .inl (I .int, 720, .inl f63023)), (q60342, .inl (I .int, 720, .inl f62959)), (q60343, .inl (I .int, 720, .inl f60361)), (q60344, .inl (I .int, 720, .inl f60362))]) (gV_ok D I) (ct_54786_Graph_stands l hl0 D I q60339 q60345 q60346 q60347 q60348 q60349 q60350 q60351 q60352 g62956 p60356 p60357 p60363 p60364 p60365 f60366 f60367 f60368 f60369 f60370 f60371 f60372 (gB_w bp60356' (by decide) (by decide)) bp60357 bp60363 bp60364 bp60365 (by have qa0 : Int32.toInt 0 = 0 := (by decide); omega) x60374 (by have qa0 : Int32.toInt 0 = 0 := (by decide); omega)) d_cX1_takeApart_43 ⟨w_5_122, w_1_9, w_4_167, by decide, rfl, (Nat.le_of_ble_eq_true rfl), (Nat.le_of_ble_eq_true rfl)⟩ w_4_165 w_4_166 1 rfl rfl [1, 7, 8, 9, 10, 11, 12, 13, 14] [0, 2, 3, 4, 5, 6] rfl rfl rfl rfl (by decide) (Nat.le_of_ble_eq_true rfl) (Nat.le_of_ble_eq_true rfl) (Nat.le_of_ble_eq_true rfl) (fun r w hp => ?_) (fun _ _ _ z => z.elim)
        rcases hp with ⟨rfl, rfl, r63024⟩ | ⟨rfl, rfl, r63025, r63026⟩ | ⟨z63027, z63028, rfl, rfl, r63029, r63030, r63031, r63032, r63033, r63034⟩ | ⟨z63035, z63036, rfl, rfl, r63037, r63038, r63039, r63040, r63041, r63042⟩
        · exact absurd (show False by omega) not_false
        · have bp60356'' : gB p60356 1 719 := ⟨by omega, by omega⟩
          have bg62956'' : gB g62956 1 719 := ⟨by omega, by omega⟩
          change G _ _ _ _ _ _ _ (.int 0 :: _) _ _ _
          refine G_ws (ws' := [(q60338, .inr (6, [.ref q60339, .ref q60340, .ref q60341, .ref q60342, .ref q60343, .ref q60344, .int g62958, .int 0])), (q60340, .inl (I .int, 720, .inl f60358)), (q60341, .inl (I .int, 720, .inl f63023)), (q60342, .inl (I .int, 720, .inl f62959)), (q60343, .inl (I .int, 720, .inl f60361)), (q60344, .inl (I .int, 720, .inl f60362)), (q60339, .inr (8, [.ref q60345, .ref q60346, .ref q60347, .ref q60348, .int p60356, .int p60357])), (q60345, .inr (10, [.ref q60349, .ref q60350, .ref q60351, .ref q60352, .int p60363, .int p60364, .int p60365])), (q60346, .inl (I .long, 8640, .inr (.inl f60366))), (q60347, .inl (I .long, 12, .inr (.inl f60367))), (q60348, .inl (I .int, 720, .inl f60368)), (q60349, .inl (I .long, 480, .inr (.inl f60369))), (q60350, .inl (I .long, 480, .inr (.inl f60370))), (q60351, .inl (I .long, 480, .inr (.inl f60371))), (q60352, .inl (I .long, 12, .inr (.inl f60372)))]) (cs' := 0) (sl' := 0) rfl rfl rfl ?_
          refine G_if_eq 69 d_cX1_takeApart_46 (by decide +kernel) (fun _ => ?_) (fun hc => absurd hc (by decide))
          obtain ⟨z63043, hz63043⟩ : ∃ z : Int32, z = g62956 + Int32.ofInt 1 := ⟨_, rfl⟩
          have ez63043 : z63043.toInt = g62956.toInt + 1 := gI_inc hz63043 (by decide) bg62956'' (by decide) (by decide)
          have bz63043 : gB z63043 2 720 := ⟨by omega, by omega⟩
          refine G_iinc (L' := [(2, .int z63043), (0, .ref q60338), (1, .int p60353)]) z63043 0 d_cX1_takeApart_69 rfl hz63043.symm (Nat.le_of_ble_eq_true rfl) rfl ?_
          refine G_goto 12 d_cX1_takeApart_72 (by decide +kernel) ?_
          refine G_sub (ws' := [(q60338, .inr (6, [.ref q60339, .ref q60340, .ref q60341, .ref q60342, .ref q60343, .ref q60344, .int g62958, .int 0])), (q60339, .inr (8, [.ref q60345, .ref q60346, .ref q60347, .ref q60348, .int p60356, .int p60357])), (q60340, .inl (I .int, 720, .inl f60358)), (q60341, .inl (I .int, 720, .inl f63023)), (q60342, .inl (I .int, 720, .inl f62959)), (q60343, .inl (I .int, 720, .inl f60361)), (q60344, .inl (I .int, 720, .inl f60362)), (q60345, .inr (10, [.ref q60349, .ref q60350, .ref q60351, .ref q60352, .int p60363, .int p60364, .int p60365])), (q60346, .inl (I .long, 8640, .inr (.inl f60366))), (q60347, .inl (I .long, 12, .inr (.inl f60367))), (q60348, .inl (I .int, 720, .inl f60368)), (q60349, .inl (I .long, 480, .inr (.inl f60369))), (q60350, .inl (I .long, 480, .inr (.inl f60370))), (q60351, .inl (I .long, 480, .inr (.inl f60371))), (q60352, .inl (I .long, 12, .inr (.inl f60372)))]) [0, 6, 1, 2, 3, 4, 5, 7, 8, 9, 10, 11, 12, 13, 14] rfl rfl ?_
          exact ih12_62961 z63043 f63023 g62958 f62959 (gB_w bz63043 (by decide) (by decide)) (gF_any f63023) bg62958 bf62959 (by have qa0 : Int32.toInt 0 = 0 := (by decide); omega) x62961 (by have qa0 : Int32.toInt 0 = 0 := (by decide); omega)
        · change G _ _ _ _ _ _ _ (.int 0 :: _) _ _ _
          refine G_ws (ws' := [(q60338, .inr (6, [.ref q60339, .ref q60340, .ref q60341, .ref q60342, .ref q60343, .ref q60344, .int g62958, .int 0])), (q60340, .inl (I .int, 720, .inl f60358)), (q60341, .inl (I .int, 720, .inl f63023)), (q60342, .inl (I .int, 720, .inl f62959)), (q60343, .inl (I .int, 720, .inl f60361)), (q60344, .inl (I .int, 720, .inl f60362)), (q60339, .inr (8, [.ref q60345, .ref q60346, .ref q60347, .ref q60348, .int p60356, .int p60357])), (q60345, .inr (10, [.ref q60349, .ref q60350, .ref q60351, .ref q60352, .int p60363, .int p60364, .int p60365])), (q60346, .inl (I .long, 8640, .inr (.inl f60366))), (q60347, .inl (I .long, 12, .inr (.inl f60367))), (q60348, .inl (I .int, 720, .inl f60368)), (q60349, .inl (I .long, 480, .inr (.inl f60369))), (q60350, .inl (I .long, 480, .inr (.inl f60370))), (q60351, .inl (I .long, 480, .inr (.inl f60371))), (q60352, .inl (I .long, 12, .inr (.inl f60372)))]) (cs' := 0) (sl' := 0) rfl rfl rfl ?_
          refine G_if_eq 69 d_cX1_takeApart_46 (by decide +kernel) (fun _ => ?_) (fun hc => absurd hc (by decide))
          obtain ⟨z63044, hz63044⟩ : ∃ z : Int32, z = g62956 + Int32.ofInt 1 := ⟨_, rfl⟩
          have ez63044 : z63044.toInt = g62956.toInt + 1 := gI_inc hz63044 (by decide) bg62956' (by decide) (by decide)
          have bz63044 : gB z63044 1 720 := ⟨by omega, by omega⟩
          refine G_iinc (L' := [(2, .int z63044), (0, .ref q60338), (1, .int p60353)]) z63044 0 d_cX1_takeApart_69 rfl hz63044.symm (Nat.le_of_ble_eq_true rfl) rfl ?_
          refine G_goto 12 d_cX1_takeApart_72 (by decide +kernel) ?_
          refine G_sub (ws' := [(q60338, .inr (6, [.ref q60339, .ref q60340, .ref q60341, .ref q60342, .ref q60343, .ref q60344, .int g62958, .int 0])), (q60339, .inr (8, [.ref q60345, .ref q60346, .ref q60347, .ref q60348, .int p60356, .int p60357])), (q60340, .inl (I .int, 720, .inl f60358)), (q60341, .inl (I .int, 720, .inl f63023)), (q60342, .inl (I .int, 720, .inl f62959)), (q60343, .inl (I .int, 720, .inl f60361)), (q60344, .inl (I .int, 720, .inl f60362)), (q60345, .inr (10, [.ref q60349, .ref q60350, .ref q60351, .ref q60352, .int p60363, .int p60364, .int p60365])), (q60346, .inl (I .long, 8640, .inr (.inl f60366))), (q60347, .inl (I .long, 12, .inr (.inl f60367))), (q60348, .inl (I .int, 720, .inl f60368)), (q60349, .inl (I .long, 480, .inr (.inl f60369))), (q60350, .inl (I .long, 480, .inr (.inl f60370))), (q60351, .inl (I .long, 480, .inr (.inl f60371))), (q60352, .inl (I .long, 12, .inr (.inl f60372)))]) [0, 6, 1, 2, 3, 4, 5, 7, 8, 9, 10, 11, 12, 13, 14] rfl rfl ?_
          exact ih12_62961 z63044 f63023 g62958 f62959 (gB_w bz63044 (by decide) (by decide)) (gF_any f63023) bg62958 bf62959 (by have qa0 : Int32.toInt 0 = 0 := (by decide); omega) x62961 (by have qa0 : Int32.toInt 0 = 0 := (by decide); omega)
        · change G _ _ _ _ _ _ _ (.int 1 :: _) _ _ _
          refine G_ws (ws' := [(q60338, .inr (6, [.ref q60339, .ref q60340, .ref q60341, .ref q60342, .ref q60343, .ref q60344, .int g62958, .int 0])), (q60340, .inl (I .int, 720, .inl f60358)), (q60341, .inl (I .int, 720, .inl f63023)), (q60342, .inl (I .int, 720, .inl f62959)), (q60343, .inl (I .int, 720, .inl f60361)), (q60344, .inl (I .int, 720, .inl f60362)), (q60339, .inr (8, [.ref q60345, .ref q60346, .ref q60347, .ref q60348, .int p60356, .int p60357])), (q60345, .inr (10, [.ref q60349, .ref q60350, .ref q60351, .ref q60352, .int p60363, .int p60364, .int p60365])), (q60346, .inl (I .long, 8640, .inr (.inl f60366))), (q60347, .inl (I .long, 12, .inr (.inl f60367))), (q60348, .inl (I .int, 720, .inl f60368)), (q60349, .inl (I .long, 480, .inr (.inl f60369))), (q60350, .inl (I .long, 480, .inr (.inl f60370))), (q60351, .inl (I .long, 480, .inr (.inl f60371))), (q60352, .inl (I .long, 12, .inr (.inl f60372)))]) (cs' := 0) (sl' := 0) rfl rfl rfl ?_
          refine G_if_eq 69 d_cX1_takeApart_46 (by decide +kernel) (fun hc => absurd hc (by decide)) (fun _ => ?_)
          refine G_aload_n 1 d_cX1_takeApart_49 rfl ?_
          refine G_getf 0 3 d_cX1_takeApart_50 rfl (gk_X1 D I) (Nat.le_of_ble_eq_true rfl) w_2_81 rfl ?_
          refine G_aload_n 1 d_cX1_takeApart_53 rfl ?_
          refine G_getf 0 6 d_cX1_takeApart_54 rfl (gk_X1 D I) (Nat.le_of_ble_eq_true rfl) w_2_84 rfl ?_
          refine G_iload_n 0 d_cX1_takeApart_57 rfl ?_
          refine G_iastN 3 0 d_cX1_takeApart_58 rfl rfl (gB_inr (by omega) (by omega)) (fun f63045 hf63045 => ?_)
          refine G_ws (ws' := [(q60338, .inr (6, [.ref q60339, .ref q60340, .ref q60341, .ref q60342, .ref q60343, .ref q60344, .int g62958, .int 0])), (q60340, .inl (I .int, 720, .inl f60358)), (q60341, .inl (I .int, 720, .inl f63023)), (q60342, .inl (I .int, 720, .inl f63045)), (q60343, .inl (I .int, 720, .inl f60361)), (q60344, .inl (I .int, 720, .inl f60362)), (q60339, .inr (8, [.ref q60345, .ref q60346, .ref q60347, .ref q60348, .int p60356, .int p60357])), (q60345, .inr (10, [.ref q60349, .ref q60350, .ref q60351, .ref q60352, .int p60363, .int p60364, .int p60365])), (q60346, .inl (I .long, 8640, .inr (.inl f60366))), (q60347, .inl (I .long, 12, .inr (.inl f60367))), (q60348, .inl (I .int, 720, .inl f60368)), (q60349, .inl (I .long, 480, .inr (.inl f60369))), (q60350, .inl (I .long, 480, .inr (.inl f60370))), (q60351, .inl (I .long, 480, .inr (.inl f60371))), (q60352, .inl (I .long, 12, .inr (.inl f60372)))]) (cs' := 0) (sl' := 0) rfl rfl rfl ?_
          have wf63045 : gP f63045 (g62958.toInt + 1) (p60356.toInt) := gP_ext hf63045 x62961 (by omega) (by omega) (by omega)
          have bf63045 : gF f63045 0 719 := gF_upd hf63045 bf62959 bg62956'
          refine G_aload_n 1 d_cX1_takeApart_59 rfl ?_
          refine G_dup d_cX1_takeApart_60 rfl ?_
          refine G_getf 0 6 d_cX1_takeApart_61 rfl (gk_X1 D I) (Nat.le_of_ble_eq_true rfl) w_2_84 rfl ?_
          refine G_iconst 1 d_cX1_takeApart_64 (by decide +kernel) ?_
          refine G_iadd d_cX1_takeApart_65 (G_nam fun z63046 hz63046 => ?_)
          have ez63046 : z63046.toInt = g62958.toInt + 1 := by rw [gI_add hz63046 bg62958 (gBl (show Int32.toInt 1 = 1 by decide)) (by decide) (by decide), show Int32.toInt 1 = 1 from by decide]
          have bz63046 : gB z63046 1 721 := gB_add (gI_add hz63046 bg62958 (gBl (show Int32.toInt 1 = 1 by decide)) (by decide) (by decide)) bg62958 (gBl (show Int32.toInt 1 = 1 by decide)) (by decide) (by decide)
          refine G_putf (ws' := [(q60338, .inr (6, [.ref q60339, .ref q60340, .ref q60341, .ref q60342, .ref q60343, .ref q60344, .int z63046, .int 0])), (q60340, .inl (I .int, 720, .inl f60358)), (q60341, .inl (I .int, 720, .inl f63023)), (q60342, .inl (I .int, 720, .inl f63045)), (q60343, .inl (I .int, 720, .inl f60361)), (q60344, .inl (I .int, 720, .inl f60362)), (q60339, .inr (8, [.ref q60345, .ref q60346, .ref q60347, .ref q60348, .int p60356, .int p60357])), (q60345, .inr (10, [.ref q60349, .ref q60350, .ref q60351, .ref q60352, .int p60363, .int p60364, .int p60365])), (q60346, .inl (I .long, 8640, .inr (.inl f60366))), (q60347, .inl (I .long, 12, .inr (.inl f60367))), (q60348, .inl (I .int, 720, .inl f60368)), (q60349, .inl (I .long, 480, .inr (.inl f60369))), (q60350, .inl (I .long, 480, .inr (.inl f60370))), (q60351, .inl (I .long, 480, .inr (.inl f60371))), (q60352, .inl (I .long, 12, .inr (.inl f60372)))]) 0 6 d_cX1_takeApart_66 rfl (gk_X1 D I) (Nat.le_of_ble_eq_true rfl) w_2_84 rfl rfl rfl (Nat.le_of_ble_eq_true rfl) rfl ?_
          obtain ⟨z63047, hz63047⟩ : ∃ z : Int32, z = g62956 + Int32.ofInt 1 := ⟨_, rfl⟩
          have ez63047 : z63047.toInt = g62956.toInt + 1 := gI_inc hz63047 (by decide) bg62956' (by decide) (by decide)
          have bz63047 : gB z63047 1 720 := ⟨by omega, by omega⟩
          refine G_iinc (L' := [(2, .int z63047), (0, .ref q60338), (1, .int p60353)]) z63047 0 d_cX1_takeApart_69 rfl hz63047.symm (Nat.le_of_ble_eq_true rfl) rfl ?_
          refine G_goto 12 d_cX1_takeApart_72 (by decide +kernel) ?_
          refine G_sub (ws' := [(q60338, .inr (6, [.ref q60339, .ref q60340, .ref q60341, .ref q60342, .ref q60343, .ref q60344, .int z63046, .int 0])), (q60339, .inr (8, [.ref q60345, .ref q60346, .ref q60347, .ref q60348, .int p60356, .int p60357])), (q60340, .inl (I .int, 720, .inl f60358)), (q60341, .inl (I .int, 720, .inl f63023)), (q60342, .inl (I .int, 720, .inl f63045)), (q60343, .inl (I .int, 720, .inl f60361)), (q60344, .inl (I .int, 720, .inl f60362)), (q60345, .inr (10, [.ref q60349, .ref q60350, .ref q60351, .ref q60352, .int p60363, .int p60364, .int p60365])), (q60346, .inl (I .long, 8640, .inr (.inl f60366))), (q60347, .inl (I .long, 12, .inr (.inl f60367))), (q60348, .inl (I .int, 720, .inl f60368)), (q60349, .inl (I .long, 480, .inr (.inl f60369))), (q60350, .inl (I .long, 480, .inr (.inl f60370))), (q60351, .inl (I .long, 480, .inr (.inl f60371))), (q60352, .inl (I .long, 12, .inr (.inl f60372)))]) [0, 6, 1, 2, 3, 4, 5, 7, 8, 9, 10, 11, 12, 13, 14] rfl rfl ?_
          exact ih12_62961 z63047 f63023 z63046 f63045 (gB_w bz63047 (by decide) (by decide)) (gF_any f63023) ⟨by omega, by omega⟩ bf63045 (by have qa0 : Int32.toInt 0 = 0 := (by decide); omega) (gP_le wf63045 (by omega)) (by have qa0 : Int32.toInt 0 = 0 := (by decide); omega)
  exact hlp12_62961 (((2147483648 : Int) - 0).toNat + 1) 0 f60359 0 f60360 (gB_w (gBl (show Int32.toInt 0 = 0 by decide)) (by decide) (by decide)) (gF_any f60359) (gB_w (gBl (show Int32.toInt 0 = 0 by decide)) (by decide) (by decide)) bf60360 (by have qa0 : Int32.toInt 0 = 0 := (by decide); omega) gP_0 (Nat.lt_succ_self _)
abbrev ky_63144_Colouring_coloursAround : gKey := (cX1_coloursAround, 9, yX1_coloursAround.cls, (some FieldType.long), [], yX1_coloursAround.name, fun _ _ => True)
abbrev po_63144_Colouring_coloursAround (I : FieldType → ClassId) (q63105 : Nat) (q63106 : Nat) (q63107 : Nat) (q63108 : Nat) (q63109 : Nat) (q63110 : Nat) (q63111 : Nat) (q63112 : Nat) (q63113 : Nat) (q63114 : Nat) (q63115 : Nat) (q63116 : Nat) (q63117 : Nat) (q63118 : Nat) (q63119 : Nat) (p63120 : Int32) (p63121 : Int32) (p63122 : Int32) (p63123 : Int32) (p63124 : Int32) (f63125 : Nat → Int32) (f63126 : Nat → Int32) (f63127 : Nat → Int32) (f63128 : Nat → Int32) (f63129 : Nat → Int32) (p63130 : Int32) (p63131 : Int32) (p63132 : Int32) (f63133 : Nat → Int64) (f63134 : Nat → Int64) (f63135 : Nat → Int32) (f63136 : Nat → Int64) (f63137 : Nat → Int64) (f63138 : Nat → Int64) (f63139 : Nat → Int64) : Option Value → va_W → Prop := fun r w => ∃ (ol64372 : Int64), r = some (.long ol64372) ∧ w = [(q63105, .inr (6, [.ref q63106, .ref q63107, .ref q63108, .ref q63109, .ref q63110, .ref q63111, .int p63121, .int p63122])), (q63106, .inr (8, [.ref q63112, .ref q63113, .ref q63114, .ref q63115, .int p63123, .int p63124])), (q63107, .inl (I .int, 720, .inl f63125)), (q63108, .inl (I .int, 720, .inl f63126)), (q63109, .inl (I .int, 720, .inl f63127)), (q63110, .inl (I .int, 720, .inl f63128)), (q63111, .inl (I .int, 720, .inl f63129)), (q63112, .inr (10, [.ref q63116, .ref q63117, .ref q63118, .ref q63119, .int p63130, .int p63131, .int p63132])), (q63113, .inl (I .long, 8640, .inr (.inl f63133))), (q63114, .inl (I .long, 12, .inr (.inl f63134))), (q63115, .inl (I .int, 720, .inl f63135)), (q63116, .inl (I .long, 480, .inr (.inl f63136))), (q63117, .inl (I .long, 480, .inr (.inl f63137))), (q63118, .inl (I .long, 480, .inr (.inl f63138))), (q63119, .inl (I .long, 12, .inr (.inl f63139)))]
set_option maxRecDepth 100000 in
set_option maxHeartbeats 4000000 in
theorem ct_63144_Colouring_coloursAround (l : Launch) (hl0 : l.stackTraces = false) (D : va_G) (I : FieldType → ClassId) (q63105 : Nat) (q63106 : Nat) (q63107 : Nat) (q63108 : Nat) (q63109 : Nat) (q63110 : Nat) (q63111 : Nat) (q63112 : Nat) (q63113 : Nat) (q63114 : Nat) (q63115 : Nat) (q63116 : Nat) (q63117 : Nat) (q63118 : Nat) (q63119 : Nat) (p63120 : Int32) (p63121 : Int32) (p63122 : Int32) (p63123 : Int32) (p63124 : Int32) (f63125 : Nat → Int32) (f63126 : Nat → Int32) (f63127 : Nat → Int32) (f63128 : Nat → Int32) (f63129 : Nat → Int32) (p63130 : Int32) (p63131 : Int32) (p63132 : Int32) (f63133 : Nat → Int64) (f63134 : Nat → Int64) (f63135 : Nat → Int32) (f63136 : Nat → Int64) (f63137 : Nat → Int64) (f63138 : Nat → Int64) (f63139 : Nat → Int64) (bp63120 : gB p63120 0 719) (bp63121 : gB p63121 0 720) (bp63122 : gB p63122 0 720) (bp63123 : gB p63123 0 720) (bp63124 : gB p63124 0 12) (bf63127 : gF f63127 0 719) (bf63128 : gF f63128 0 719) (bp63130 : gB p63130 0 720) (bp63131 : gB p63131 0 12) (bp63132 : gB p63132 0 1) (x63140 : p63120.toInt < p63123.toInt) (x63141 : p63124.toInt = (p63123.toInt + 63) / 64) (x63142 : lb_W f63133 (p63123.toInt * p63124.toInt) (p63124.toInt) (p63123.toInt)) (x63143 : p63131.toInt = (p63130.toInt + 63) / 64) : Ct (gV D I) l yX1_coloursAround cX1_coloursAround 9 (some FieldType.long) 2 42 0 0 [.ref q63105, .int p63120] [(q63105, .inr (6, [.ref q63106, .ref q63107, .ref q63108, .ref q63109, .ref q63110, .ref q63111, .int p63121, .int p63122])), (q63106, .inr (8, [.ref q63112, .ref q63113, .ref q63114, .ref q63115, .int p63123, .int p63124])), (q63107, .inl (I .int, 720, .inl f63125)), (q63108, .inl (I .int, 720, .inl f63126)), (q63109, .inl (I .int, 720, .inl f63127)), (q63110, .inl (I .int, 720, .inl f63128)), (q63111, .inl (I .int, 720, .inl f63129)), (q63112, .inr (10, [.ref q63116, .ref q63117, .ref q63118, .ref q63119, .int p63130, .int p63131, .int p63132])), (q63113, .inl (I .long, 8640, .inr (.inl f63133))), (q63114, .inl (I .long, 12, .inr (.inl f63134))), (q63115, .inl (I .int, 720, .inl f63135)), (q63116, .inl (I .long, 480, .inr (.inl f63136))), (q63117, .inl (I .long, 480, .inr (.inl f63137))), (q63118, .inl (I .long, 480, .inr (.inl f63138))), (q63119, .inl (I .long, 12, .inr (.inl f63139)))] (po_63144_Colouring_coloursAround I q63105 q63106 q63107 q63108 q63109 q63110 q63111 q63112 q63113 q63114 q63115 q63116 q63117 q63118 q63119 p63120 p63121 p63122 p63123 p63124 f63125 f63126 f63127 f63128 f63129 p63130 p63131 p63132 f63133 f63134 f63135 f63136 f63137 f63138 f63139) gN := by
  refine Ct_of hl0 (by decide) (Nat.le_of_ble_eq_true rfl) ?_
  refine G_lconst 0 d_cX1_coloursAround_0 rfl ?_
  refine G_lstore_n (L' := [(2, .long 0), (0, .ref q63105), (1, .int p63120)]) d_cX1_coloursAround_1 (Nat.le_of_ble_eq_true rfl) rfl ?_
  refine G_iconst 0 d_cX1_coloursAround_2 (by decide +kernel) ?_
  refine G_istore (L' := [(4, .int 0), (2, .long 0), (0, .ref q63105), (1, .int p63120)]) d_cX1_coloursAround_3 (Nat.le_of_ble_eq_true rfl) rfl ?_
  have hlp5_64196 : ∀ (n5_64196 : Nat) (g64195 : Int32) (gl64196 : Int64), gB g64195 0 12 → ((13 : Int) - g64195.toInt).toNat < n5_64196 → G (gV D I) l (gRm 2 42 0 0) (gM (gV D I) (po_63144_Colouring_coloursAround I q63105 q63106 q63107 q63108 q63109 q63110 q63111 q63112 q63113 q63114 q63115 q63116 q63117 q63118 q63119 p63120 p63121 p63122 p63123 p63124 f63125 f63126 f63127 f63128 f63129 p63130 p63131 p63132 f63133 f63134 f63135 f63136 f63137 f63138 f63139) gN 0 0) ky_63144_Colouring_coloursAround 5 [(4, .int g64195), (2, .long gl64196), (0, .ref q63105), (1, .int p63120)] [] [(q63105, .inr (6, [.ref q63106, .ref q63107, .ref q63108, .ref q63109, .ref q63110, .ref q63111, .int p63121, .int p63122])), (q63106, .inr (8, [.ref q63112, .ref q63113, .ref q63114, .ref q63115, .int p63123, .int p63124])), (q63107, .inl (I .int, 720, .inl f63125)), (q63108, .inl (I .int, 720, .inl f63126)), (q63109, .inl (I .int, 720, .inl f63127)), (q63110, .inl (I .int, 720, .inl f63128)), (q63111, .inl (I .int, 720, .inl f63129)), (q63112, .inr (10, [.ref q63116, .ref q63117, .ref q63118, .ref q63119, .int p63130, .int p63131, .int p63132])), (q63113, .inl (I .long, 8640, .inr (.inl f63133))), (q63114, .inl (I .long, 12, .inr (.inl f63134))), (q63115, .inl (I .int, 720, .inl f63135)), (q63116, .inl (I .long, 480, .inr (.inl f63136))), (q63117, .inl (I .long, 480, .inr (.inl f63137))), (q63118, .inl (I .long, 480, .inr (.inl f63138))), (q63119, .inl (I .long, 12, .inr (.inl f63139)))] 0 0 := by
    intro n5_64196
    induction n5_64196 with
    | zero => intro g64195 gl64196 bg64195 hm5_64196; exact absurd hm5_64196 (Nat.not_lt_zero _)
    | succ n5_64196 ih5_64196 =>
      intro g64195 gl64196 bg64195 hm5_64196
      refine G_iload 0 d_cX1_coloursAround_5 rfl ?_
      refine G_aload_n 2 d_cX1_coloursAround_7 rfl ?_
      refine G_getf 0 0 d_cX1_coloursAround_8 rfl (gk_X1 D I) (Nat.le_of_ble_eq_true rfl) w_2_78 rfl ?_
      refine G_getfN 1 5 d_cX1_coloursAround_11 rfl (gk_X3 D I) (Nat.le_of_ble_eq_true rfl) (fun _ _ _ h => gn_w 60 rfl h) rfl ?_
      refine G_icmp_ge 112 d_cX1_coloursAround_14 (by decide +kernel) (fun hc64197 => ?_) (fun hc64197 => ?_)
      · have r64198 : p63124.toInt ≤ g64195.toInt := gC_le hc64197
        refine G_lload_n 1 d_cX1_coloursAround_112 rfl ?_
        exact G_lret d_cX1_coloursAround_113 rfl (Nat.le_of_ble_eq_true rfl) (Nat.le_of_ble_eq_true rfl) ⟨gl64196, rfl, rfl⟩
      · have r64199 : g64195.toInt < p63124.toInt := gC_nle hc64197
        have bg64195' : gB g64195 0 11 := ⟨by omega, by omega⟩
        have bp63124' : gB p63124 1 12 := ⟨by omega, by omega⟩
        refine G_aload_n 2 d_cX1_coloursAround_17 rfl ?_
        refine G_getf 0 0 d_cX1_coloursAround_18 rfl (gk_X1 D I) (Nat.le_of_ble_eq_true rfl) w_2_78 rfl ?_
        refine G_getfN 1 1 d_cX1_coloursAround_21 rfl (gk_X3 D I) (Nat.le_of_ble_eq_true rfl) (fun _ _ _ h => gn_w 56 rfl h) rfl ?_
        refine G_iload_n 3 d_cX1_coloursAround_24 rfl ?_
        refine G_aload_n 2 d_cX1_coloursAround_25 rfl ?_
        refine G_getf 0 0 d_cX1_coloursAround_26 rfl (gk_X1 D I) (Nat.le_of_ble_eq_true rfl) w_2_78 rfl ?_
        refine G_getfN 1 5 d_cX1_coloursAround_29 rfl (gk_X3 D I) (Nat.le_of_ble_eq_true rfl) (fun _ _ _ h => gn_w 60 rfl h) rfl ?_
        refine G_imul d_cX1_coloursAround_32 (G_nam fun z64200 hz64200 => ?_)
        have ez64200 : z64200.toInt = p63120.toInt * p63124.toInt := by rw [gI_mul hz64200 bp63120 bp63124' (by decide) (by decide) (by decide)]
        have bz64200 : gB z64200 0 8628 := gB_mul hz64200 bp63120 bp63124' (by decide) (by decide) (by decide) (by decide)
        refine G_iload 0 d_cX1_coloursAround_33 rfl ?_
        refine G_iadd d_cX1_coloursAround_35 (G_nam fun z64201 hz64201 => ?_)
        have ez64201 : z64201.toInt = z64200.toInt + g64195.toInt := by rw [gI_add hz64201 bz64200 bg64195' (by decide) (by decide)]
        have bz64201 : gB z64201 0 8639 := gB_add (gI_add hz64201 bz64200 bg64195' (by decide) (by decide)) bz64200 bg64195' (by decide) (by decide)
        refine G_lald 8 2 d_cX1_coloursAround_36 rfl rfl (gB_in bz64201 (by decide) (by decide)) (G_namL fun u64202 hu64202 => ?_)
        have qu64202 : lb_Q u64202 (p63123.toInt - 64 * g64195.toInt) := lb_Wld hu64202 x63142 (by omega) (lb_Lt1 ez64201 ez64200 (by omega) (by omega) (by omega)) (lb_Mod1 ez64201 ez64200 (by omega) (by omega))
        refine G_lstore (L' := [(5, .long u64202), (4, .int g64195), (2, .long gl64196), (0, .ref q63105), (1, .int p63120)]) d_cX1_coloursAround_37 (Nat.le_of_ble_eq_true rfl) rfl ?_
        refine G_iconst 0 d_cX1_coloursAround_39 (by decide +kernel) ?_
        refine G_istore (L' := [(7, .int 0), (5, .long u64202), (4, .int g64195), (2, .long gl64196), (0, .ref q63105), (1, .int p63120)]) d_cX1_coloursAround_40 (Nat.le_of_ble_eq_true rfl) rfl ?_
        have hlp42_64347 : ∀ (n42_64347 : Nat) (g64344 : Int32) (gl64345 : Int64) (gl64346 : Int64), gB g64344 0 64 → lb_Q gl64345 (p63123.toInt - 64 * g64195.toInt) → ((65 : Int) - g64344.toInt).toNat < n42_64347 → G (gV D I) l (gRm 2 42 0 0) (gM (gV D I) (po_63144_Colouring_coloursAround I q63105 q63106 q63107 q63108 q63109 q63110 q63111 q63112 q63113 q63114 q63115 q63116 q63117 q63118 q63119 p63120 p63121 p63122 p63123 p63124 f63125 f63126 f63127 f63128 f63129 p63130 p63131 p63132 f63133 f63134 f63135 f63136 f63137 f63138 f63139) gN 0 0) ky_63144_Colouring_coloursAround 42 [(7, .int g64344), (5, .long gl64345), (4, .int g64195), (2, .long gl64346), (0, .ref q63105), (1, .int p63120)] [] [(q63105, .inr (6, [.ref q63106, .ref q63107, .ref q63108, .ref q63109, .ref q63110, .ref q63111, .int p63121, .int p63122])), (q63106, .inr (8, [.ref q63112, .ref q63113, .ref q63114, .ref q63115, .int p63123, .int p63124])), (q63107, .inl (I .int, 720, .inl f63125)), (q63108, .inl (I .int, 720, .inl f63126)), (q63109, .inl (I .int, 720, .inl f63127)), (q63110, .inl (I .int, 720, .inl f63128)), (q63111, .inl (I .int, 720, .inl f63129)), (q63112, .inr (10, [.ref q63116, .ref q63117, .ref q63118, .ref q63119, .int p63130, .int p63131, .int p63132])), (q63113, .inl (I .long, 8640, .inr (.inl f63133))), (q63114, .inl (I .long, 12, .inr (.inl f63134))), (q63115, .inl (I .int, 720, .inl f63135)), (q63116, .inl (I .long, 480, .inr (.inl f63136))), (q63117, .inl (I .long, 480, .inr (.inl f63137))), (q63118, .inl (I .long, 480, .inr (.inl f63138))), (q63119, .inl (I .long, 12, .inr (.inl f63139)))] 0 0 := by
          intro n42_64347
          induction n42_64347 with
          | zero => intro g64344 gl64345 gl64346 bg64344 x64347 hm42_64347; exact absurd hm42_64347 (Nat.not_lt_zero _)
          | succ n42_64347 ih42_64347 =>
            intro g64344 gl64345 gl64346 bg64344 x64347 hm42_64347
            refine G_iload 0 d_cX1_coloursAround_42 rfl ?_
            refine G_bipush 64 d_cX1_coloursAround_44 (by decide +kernel) ?_
            refine G_icmp_ge 106 d_cX1_coloursAround_46 (by decide +kernel) (fun hc64348 => ?_) (fun hc64348 => ?_)
            · have r64349 : 64 ≤ g64344.toInt := gj_leL hc64348 (show Int32.toInt 64 = 64 by decide)
              have bg64344' : gB g64344 64 64 := ⟨by omega, by omega⟩
              obtain ⟨z64350, hz64350⟩ : ∃ z : Int32, z = g64195 + Int32.ofInt 1 := ⟨_, rfl⟩
              have ez64350 : z64350.toInt = g64195.toInt + 1 := gI_inc hz64350 (by decide) bg64195' (by decide) (by decide)
              have bz64350 : gB z64350 1 12 := ⟨by omega, by omega⟩
              refine G_iinc (L' := [(4, .int z64350), (7, .int g64344), (5, .long gl64345), (2, .long gl64346), (0, .ref q63105), (1, .int p63120)]) z64350 2 d_cX1_coloursAround_106 rfl hz64350.symm (Nat.le_of_ble_eq_true rfl) rfl ?_
              refine G_goto 5 d_cX1_coloursAround_109 (by decide +kernel) ?_
              refine G_lv (L' := [(4, .int z64350), (2, .long gl64346), (0, .ref q63105), (1, .int p63120)]) [0, 3, 4, 5] rfl ?_
              exact ih5_64196 z64350 gl64346 (gB_w bz64350 (by decide) (by decide)) (by omega)
            · have r64351 : g64344.toInt < 64 := gj_nleL hc64348 (show Int32.toInt 64 = 64 by decide)
              have bg64344' : gB g64344 0 63 := ⟨by omega, by omega⟩
              refine G_lload 1 d_cX1_coloursAround_49 rfl ?_
              refine G_lconst 0 d_cX1_coloursAround_51 rfl ?_
              refine G_lcmp d_cX1_coloursAround_52 (G_nam fun z64352 hz64352 => ?_)
              have bz64352 : gB z64352 (-1) 1 := gB_cmp hz64352
              refine G_if_eq 106 d_cX1_coloursAround_53 (by decide +kernel) (fun hc64353 => ?_) (fun hc64353 => ?_)
              · have r64354 : z64352.toInt = 0 := gj_eq hc64353 (show Int32.toInt 0 = 0 by decide)
                have bz64352' : gB z64352 0 0 := ⟨by omega, by omega⟩
                have lhc64353 := gC_cmpE hz64352 hc64353
                obtain ⟨z64355, hz64355⟩ : ∃ z : Int32, z = g64195 + Int32.ofInt 1 := ⟨_, rfl⟩
                have ez64355 : z64355.toInt = g64195.toInt + 1 := gI_inc hz64355 (by decide) bg64195' (by decide) (by decide)
                have bz64355 : gB z64355 1 12 := ⟨by omega, by omega⟩
                refine G_iinc (L' := [(4, .int z64355), (7, .int g64344), (5, .long gl64345), (2, .long gl64346), (0, .ref q63105), (1, .int p63120)]) z64355 2 d_cX1_coloursAround_106 rfl hz64355.symm (Nat.le_of_ble_eq_true rfl) rfl ?_
                refine G_goto 5 d_cX1_coloursAround_109 (by decide +kernel) ?_
                refine G_lv (L' := [(4, .int z64355), (2, .long gl64346), (0, .ref q63105), (1, .int p63120)]) [0, 3, 4, 5] rfl ?_
                exact ih5_64196 z64355 gl64346 (gB_w bz64355 (by decide) (by decide)) (by omega)
              · have r64356 : z64352.toInt ≠ 0 := gj_neq hc64353 (show Int32.toInt 0 = 0 by decide)
                have lhc64353 := gC_cmpN hz64352 hc64353
                refine G_aload_n 4 d_cX1_coloursAround_56 rfl ?_
                refine G_getf 0 5 d_cX1_coloursAround_57 rfl (gk_X1 D I) (Nat.le_of_ble_eq_true rfl) w_2_83 rfl ?_
                refine G_iload 2 d_cX1_coloursAround_60 rfl ?_
                refine G_bipush 6 d_cX1_coloursAround_62 (by decide +kernel) ?_
                refine G_ishl d_cX1_coloursAround_64 (G_nam fun z64357 hz64357 => ?_)
                have ez64357 : z64357.toInt = g64195.toInt * 64 := gI_shl (k := 6) hz64357 (by decide) bg64195' (by decide) (by decide)
                have bz64357 : gB z64357 0 704 := ⟨by omega, by omega⟩
                refine G_lload 1 d_cX1_coloursAround_65 rfl ?_
                refine G_callSN (As := [.long gl64345]) (wr := [(q63105, .inr (6, [.ref q63106, .ref q63107, .ref q63108, .ref q63109, .ref q63110, .ref q63111, .int p63121, .int p63122])), (q63106, .inr (8, [.ref q63112, .ref q63113, .ref q63114, .ref q63115, .int p63123, .int p63124])), (q63107, .inl (I .int, 720, .inl f63125)), (q63108, .inl (I .int, 720, .inl f63126)), (q63109, .inl (I .int, 720, .inl f63127)), (q63110, .inl (I .int, 720, .inl f63128)), (q63111, .inl (I .int, 720, .inl f63129)), (q63112, .inr (10, [.ref q63116, .ref q63117, .ref q63118, .ref q63119, .int p63130, .int p63131, .int p63132])), (q63113, .inl (I .long, 8640, .inr (.inl f63133))), (q63114, .inl (I .long, 12, .inr (.inl f63134))), (q63115, .inl (I .int, 720, .inl f63135)), (q63116, .inl (I .long, 480, .inr (.inl f63136))), (q63117, .inl (I .long, 480, .inr (.inl f63137))), (q63118, .inl (I .long, 480, .inr (.inl f63138))), (q63119, .inl (I .long, 12, .inr (.inl f63139)))]) (gV_ok D I) (ct_29220_SpillForge_lowestBit l hl0 D I gl64345 ) d_cX1_coloursAround_67 ⟨(fun _ _ _ h => gn_w 73 rfl h), w_1_1, w_4_127, by decide, rfl, (Nat.le_of_ble_eq_true rfl), (Nat.le_of_ble_eq_true rfl)⟩ w_4_126 [] [0, 1, 2, 3, 4, 5, 6, 7, 8, 9, 10, 11, 12, 13, 14] rfl rfl rfl rfl (by decide) (Nat.le_of_ble_eq_true rfl) (Nat.le_of_ble_eq_true rfl) (Nat.le_of_ble_eq_true rfl) (fun r w hp => ?_)
                obtain ⟨o64358, rfl, rfl, bo64358, x64359⟩ := hp
                have lwo64358 := lb_lowE lhc64353 x64359
                have bo64358' : gB o64358 0 63 := ⟨by omega, by omega⟩
                have lqo64358 : o64358.toInt < p63123.toInt - 64 * g64195.toInt := lb_lowQ lwo64358 x64347
                change G _ _ _ _ _ _ _ (.int o64358 :: _) _ _ _
                refine G_ws (ws' := [(q63105, .inr (6, [.ref q63106, .ref q63107, .ref q63108, .ref q63109, .ref q63110, .ref q63111, .int p63121, .int p63122])), (q63106, .inr (8, [.ref q63112, .ref q63113, .ref q63114, .ref q63115, .int p63123, .int p63124])), (q63107, .inl (I .int, 720, .inl f63125)), (q63108, .inl (I .int, 720, .inl f63126)), (q63109, .inl (I .int, 720, .inl f63127)), (q63110, .inl (I .int, 720, .inl f63128)), (q63111, .inl (I .int, 720, .inl f63129)), (q63112, .inr (10, [.ref q63116, .ref q63117, .ref q63118, .ref q63119, .int p63130, .int p63131, .int p63132])), (q63113, .inl (I .long, 8640, .inr (.inl f63133))), (q63114, .inl (I .long, 12, .inr (.inl f63134))), (q63115, .inl (I .int, 720, .inl f63135)), (q63116, .inl (I .long, 480, .inr (.inl f63136))), (q63117, .inl (I .long, 480, .inr (.inl f63137))), (q63118, .inl (I .long, 480, .inr (.inl f63138))), (q63119, .inl (I .long, 12, .inr (.inl f63139)))]) (cs' := 0) (sl' := 0) rfl rfl rfl ?_
                refine G_ior d_cX1_coloursAround_70 (G_nam fun z64360 hz64360 => ?_)
                have ez64360 : z64360.toInt = z64357.toInt + o64358.toInt := gI_or (k := 6) (m := (g64195.toInt).toNat) hz64360 (by omega) (bo64358') (by decide) (by omega)
                have bz64360 : gB z64360 0 767 := ⟨by omega, by omega⟩
                refine G_iald 6 0 d_cX1_coloursAround_71 rfl rfl (gB_inr (by omega) (by omega)) (G_nam fun z64361 hz64361 => ?_)
                have bz64361 : gB z64361 (-2147483648) 2147483647 := gB_any z64361
                refine G_istore (L' := [(8, .int z64361), (7, .int g64344), (5, .long gl64345), (4, .int g64195), (2, .long gl64346), (0, .ref q63105), (1, .int p63120)]) d_cX1_coloursAround_72 (Nat.le_of_ble_eq_true rfl) rfl ?_
                refine G_lload 2 d_cX1_coloursAround_74 rfl ?_
                refine G_lload 2 d_cX1_coloursAround_76 rfl ?_
                refine G_lconst 1 d_cX1_coloursAround_78 rfl ?_
                refine G_lsub d_cX1_coloursAround_79 (G_namL fun u64362 hu64362 => ?_)
                refine G_land d_cX1_coloursAround_80 (G_namL fun u64363 hu64363 => ?_)
                have qu64363 : lb_Q u64363 (p63123.toInt - 64 * g64195.toInt) := lb_QandL hu64363 x64347
                refine G_lstore (L' := [(5, .long u64363), (8, .int z64361), (7, .int g64344), (4, .int g64195), (2, .long gl64346), (0, .ref q63105), (1, .int p63120)]) d_cX1_coloursAround_81 (Nat.le_of_ble_eq_true rfl) rfl ?_
                refine G_lload_n 4 d_cX1_coloursAround_83 rfl ?_
                refine G_iload 1 d_cX1_coloursAround_84 rfl ?_
                refine G_iconst (-1) d_cX1_coloursAround_86 (by decide +kernel) ?_
                refine G_icmp_ne 94 d_cX1_coloursAround_87 (by decide +kernel) (fun hc64364 => ?_) (fun hc64364 => ?_)
                · have r64365 : z64361.toInt ≠ (-1) := gj_neq hc64364 (show Int32.toInt (-1) = (-1) by decide)
                  refine G_lconst 1 d_cX1_coloursAround_94 rfl ?_
                  refine G_iload 1 d_cX1_coloursAround_95 rfl ?_
                  refine G_lshl d_cX1_coloursAround_97 (G_namL fun u64366 hu64366 => ?_)
                  refine G_lor d_cX1_coloursAround_98 (G_namL fun u64367 hu64367 => ?_)
                  refine G_lstore_n (L' := [(2, .long u64367), (5, .long u64363), (8, .int z64361), (7, .int g64344), (4, .int g64195), (0, .ref q63105), (1, .int p63120)]) d_cX1_coloursAround_99 (Nat.le_of_ble_eq_true rfl) rfl ?_
                  obtain ⟨z64368, hz64368⟩ : ∃ z : Int32, z = g64344 + Int32.ofInt 1 := ⟨_, rfl⟩
                  have ez64368 : z64368.toInt = g64344.toInt + 1 := gI_inc hz64368 (by decide) bg64344' (by decide) (by decide)
                  have bz64368 : gB z64368 1 64 := ⟨by omega, by omega⟩
                  refine G_iinc (L' := [(7, .int z64368), (2, .long u64367), (5, .long u64363), (8, .int z64361), (4, .int g64195), (0, .ref q63105), (1, .int p63120)]) z64368 3 d_cX1_coloursAround_100 rfl hz64368.symm (Nat.le_of_ble_eq_true rfl) rfl ?_
                  refine G_goto 42 d_cX1_coloursAround_103 (by decide +kernel) ?_
                  refine G_lv (L' := [(7, .int z64368), (5, .long u64363), (4, .int g64195), (2, .long u64367), (0, .ref q63105), (1, .int p63120)]) [0, 2, 4, 1, 5, 6] rfl ?_
                  exact ih42_64347 z64368 u64363 u64367 (gB_w bz64368 (by decide) (by decide)) qu64363 (by omega)
                · have r64369 : z64361.toInt = (-1) := gj_eq hc64364 (show Int32.toInt (-1) = (-1) by decide)
                  have bz64361' : gB z64361 (-1) (-1) := ⟨by omega, by omega⟩
                  refine G_lconst 0 d_cX1_coloursAround_90 rfl ?_
                  refine G_goto 98 d_cX1_coloursAround_91 (by decide +kernel) ?_
                  refine G_lor d_cX1_coloursAround_98 (G_namL fun u64370 hu64370 => ?_)
                  refine G_lstore_n (L' := [(2, .long u64370), (5, .long u64363), (8, .int z64361), (7, .int g64344), (4, .int g64195), (0, .ref q63105), (1, .int p63120)]) d_cX1_coloursAround_99 (Nat.le_of_ble_eq_true rfl) rfl ?_
                  obtain ⟨z64371, hz64371⟩ : ∃ z : Int32, z = g64344 + Int32.ofInt 1 := ⟨_, rfl⟩
                  have ez64371 : z64371.toInt = g64344.toInt + 1 := gI_inc hz64371 (by decide) bg64344' (by decide) (by decide)
                  have bz64371 : gB z64371 1 64 := ⟨by omega, by omega⟩
                  refine G_iinc (L' := [(7, .int z64371), (2, .long u64370), (5, .long u64363), (8, .int z64361), (4, .int g64195), (0, .ref q63105), (1, .int p63120)]) z64371 3 d_cX1_coloursAround_100 rfl hz64371.symm (Nat.le_of_ble_eq_true rfl) rfl ?_
                  refine G_goto 42 d_cX1_coloursAround_103 (by decide +kernel) ?_
                  refine G_lv (L' := [(7, .int z64371), (5, .long u64363), (4, .int g64195), (2, .long u64370), (0, .ref q63105), (1, .int p63120)]) [0, 2, 4, 1, 5, 6] rfl ?_
                  exact ih42_64347 z64371 u64363 u64370 (gB_w bz64371 (by decide) (by decide)) qu64363 (by omega)
        exact hlp42_64347 (((65 : Int) - 0).toNat + 1) 0 u64202 gl64196 (gB_w (gBl (show Int32.toInt 0 = 0 by decide)) (by decide) (by decide)) qu64202 (Nat.lt_succ_self _)
  exact hlp5_64196 (((13 : Int) - 0).toNat + 1) 0 0 (gB_w (gBl (show Int32.toInt 0 = 0 by decide)) (by decide) (by decide)) (Nat.lt_succ_self _)
abbrev ky_63098_Colouring_putTogether : gKey := (cX1_putTogether, 6, yX1_putTogether.cls, (some FieldType.boolean), [], yX1_putTogether.name, fun _ _ => True)
abbrev po_63098_Colouring_putTogether (I : FieldType → ClassId) (q63059 : Nat) (q63060 : Nat) (q63061 : Nat) (q63062 : Nat) (q63063 : Nat) (q63064 : Nat) (q63065 : Nat) (q63066 : Nat) (q63067 : Nat) (q63068 : Nat) (q63069 : Nat) (q63070 : Nat) (q63071 : Nat) (q63072 : Nat) (q63073 : Nat) (p63074 : Int32) (p63075 : Int32) (p63076 : Int32) (p63077 : Int32) (p63078 : Int32) (f63079 : Nat → Int32) (f63080 : Nat → Int32) (f63081 : Nat → Int32) (f63082 : Nat → Int32) (f63083 : Nat → Int32) (p63084 : Int32) (p63085 : Int32) (p63086 : Int32) (f63087 : Nat → Int64) (f63088 : Nat → Int64) (f63089 : Nat → Int32) (f63090 : Nat → Int64) (f63091 : Nat → Int64) (f63092 : Nat → Int64) (f63093 : Nat → Int64) : Option Value → va_W → Prop := fun r w => ∃ (o64419 : Int32) (f64418 : Nat → Int32), r = some (.int o64419) ∧ w = [(q63059, .inr (6, [.ref q63060, .ref q63061, .ref q63062, .ref q63063, .ref q63064, .ref q63065, .int p63075, .int p63076])), (q63060, .inr (8, [.ref q63066, .ref q63067, .ref q63068, .ref q63069, .int p63077, .int p63078])), (q63061, .inl (I .int, 720, .inl f63079)), (q63062, .inl (I .int, 720, .inl f63080)), (q63063, .inl (I .int, 720, .inl f63081)), (q63064, .inl (I .int, 720, .inl f63082)), (q63065, .inl (I .int, 720, .inl f64418)), (q63066, .inr (10, [.ref q63070, .ref q63071, .ref q63072, .ref q63073, .int p63084, .int p63085, .int p63086])), (q63067, .inl (I .long, 8640, .inr (.inl f63087))), (q63068, .inl (I .long, 12, .inr (.inl f63088))), (q63069, .inl (I .int, 720, .inl f63089)), (q63070, .inl (I .long, 480, .inr (.inl f63090))), (q63071, .inl (I .long, 480, .inr (.inl f63091))), (q63072, .inl (I .long, 480, .inr (.inl f63092))), (q63073, .inl (I .long, 12, .inr (.inl f63093)))] ∧ gB o64419 0 1 ∧ gF f64418 (-2147483648) 2147483647
set_option maxRecDepth 100000 in
set_option maxHeartbeats 4000000 in
theorem ct_63098_Colouring_putTogether (l : Launch) (hl0 : l.stackTraces = false) (D : va_G) (I : FieldType → ClassId) (q63059 : Nat) (q63060 : Nat) (q63061 : Nat) (q63062 : Nat) (q63063 : Nat) (q63064 : Nat) (q63065 : Nat) (q63066 : Nat) (q63067 : Nat) (q63068 : Nat) (q63069 : Nat) (q63070 : Nat) (q63071 : Nat) (q63072 : Nat) (q63073 : Nat) (p63074 : Int32) (p63075 : Int32) (p63076 : Int32) (p63077 : Int32) (p63078 : Int32) (f63079 : Nat → Int32) (f63080 : Nat → Int32) (f63081 : Nat → Int32) (f63082 : Nat → Int32) (f63083 : Nat → Int32) (p63084 : Int32) (p63085 : Int32) (p63086 : Int32) (f63087 : Nat → Int64) (f63088 : Nat → Int64) (f63089 : Nat → Int32) (f63090 : Nat → Int64) (f63091 : Nat → Int64) (f63092 : Nat → Int64) (f63093 : Nat → Int64) (bp63075 : gB p63075 0 720) (bp63076 : gB p63076 0 720) (bp63077 : gB p63077 0 720) (bp63078 : gB p63078 0 12) (bf63081 : gF f63081 0 719) (bf63082 : gF f63082 0 719) (bp63084 : gB p63084 0 720) (bp63085 : gB p63085 0 12) (bp63086 : gB p63086 0 1) (x63094 : gP f63082 (p63076.toInt) (p63077.toInt)) (x63095 : p63078.toInt = (p63077.toInt + 63) / 64) (x63096 : lb_W f63087 (p63077.toInt * p63078.toInt) (p63078.toInt) (p63077.toInt)) (x63097 : p63085.toInt = (p63084.toInt + 63) / 64) : Ct (gV D I) l yX1_putTogether cX1_putTogether 6 (some FieldType.boolean) 3 70 0 0 [.ref q63059, .int p63074] [(q63059, .inr (6, [.ref q63060, .ref q63061, .ref q63062, .ref q63063, .ref q63064, .ref q63065, .int p63075, .int p63076])), (q63060, .inr (8, [.ref q63066, .ref q63067, .ref q63068, .ref q63069, .int p63077, .int p63078])), (q63061, .inl (I .int, 720, .inl f63079)), (q63062, .inl (I .int, 720, .inl f63080)), (q63063, .inl (I .int, 720, .inl f63081)), (q63064, .inl (I .int, 720, .inl f63082)), (q63065, .inl (I .int, 720, .inl f63083)), (q63066, .inr (10, [.ref q63070, .ref q63071, .ref q63072, .ref q63073, .int p63084, .int p63085, .int p63086])), (q63067, .inl (I .long, 8640, .inr (.inl f63087))), (q63068, .inl (I .long, 12, .inr (.inl f63088))), (q63069, .inl (I .int, 720, .inl f63089)), (q63070, .inl (I .long, 480, .inr (.inl f63090))), (q63071, .inl (I .long, 480, .inr (.inl f63091))), (q63072, .inl (I .long, 480, .inr (.inl f63092))), (q63073, .inl (I .long, 12, .inr (.inl f63093)))] (po_63098_Colouring_putTogether I q63059 q63060 q63061 q63062 q63063 q63064 q63065 q63066 q63067 q63068 q63069 q63070 q63071 q63072 q63073 p63074 p63075 p63076 p63077 p63078 f63079 f63080 f63081 f63082 f63083 p63084 p63085 p63086 f63087 f63088 f63089 f63090 f63091 f63092 f63093) gN := by
  refine Ct_of hl0 (by decide) (Nat.le_of_ble_eq_true rfl) ?_
  have bp63074 := gB_any p63074
  refine G_aload_n 0 d_cX1_putTogether_0 rfl ?_
  refine G_getf 0 5 d_cX1_putTogether_1 rfl (gk_X1 D I) (Nat.le_of_ble_eq_true rfl) w_2_83 rfl ?_
  refine G_iconst (-1) d_cX1_putTogether_4 (by decide +kernel) ?_
  refine G_callS (As := [.ref q63065, .int (-1)]) (wr := [(q63059, .inr (6, [.ref q63060, .ref q63061, .ref q63062, .ref q63063, .ref q63064, .ref q63065, .int p63075, .int p63076])), (q63060, .inr (8, [.ref q63066, .ref q63067, .ref q63068, .ref q63069, .int p63077, .int p63078])), (q63061, .inl (I .int, 720, .inl f63079)), (q63062, .inl (I .int, 720, .inl f63080)), (q63063, .inl (I .int, 720, .inl f63081)), (q63064, .inl (I .int, 720, .inl f63082)), (q63066, .inr (10, [.ref q63070, .ref q63071, .ref q63072, .ref q63073, .int p63084, .int p63085, .int p63086])), (q63067, .inl (I .long, 8640, .inr (.inl f63087))), (q63068, .inl (I .long, 12, .inr (.inl f63088))), (q63069, .inl (I .int, 720, .inl f63089)), (q63070, .inl (I .long, 480, .inr (.inl f63090))), (q63071, .inl (I .long, 480, .inr (.inl f63091))), (q63072, .inl (I .long, 480, .inr (.inl f63092))), (q63073, .inl (I .long, 12, .inr (.inl f63093)))]) (gV_ok D I) (ct_53694_Arrays_fill l hl0 D I q63065 (-1) f63083 ) d_cX1_putTogether_5 ⟨w_4_146, w_1_30, w_3_239, by decide, rfl, (Nat.le_of_ble_eq_true rfl), (Nat.le_of_ble_eq_true rfl)⟩ w_3_238 [6] [0, 1, 2, 3, 4, 5, 7, 8, 9, 10, 11, 12, 13, 14] rfl rfl rfl rfl (by decide) (Nat.le_of_ble_eq_true rfl) (Nat.le_of_ble_eq_true rfl) (Nat.le_of_ble_eq_true rfl) (fun r w hp => ?_) (fun _ _ _ z => z.elim)
  obtain ⟨f63099, rfl, rfl, bf63099⟩ := hp
  change G _ _ _ _ _ _ _ _ _ _ _
  refine G_ws (ws' := [(q63059, .inr (6, [.ref q63060, .ref q63061, .ref q63062, .ref q63063, .ref q63064, .ref q63065, .int p63075, .int p63076])), (q63060, .inr (8, [.ref q63066, .ref q63067, .ref q63068, .ref q63069, .int p63077, .int p63078])), (q63061, .inl (I .int, 720, .inl f63079)), (q63062, .inl (I .int, 720, .inl f63080)), (q63063, .inl (I .int, 720, .inl f63081)), (q63064, .inl (I .int, 720, .inl f63082)), (q63066, .inr (10, [.ref q63070, .ref q63071, .ref q63072, .ref q63073, .int p63084, .int p63085, .int p63086])), (q63067, .inl (I .long, 8640, .inr (.inl f63087))), (q63068, .inl (I .long, 12, .inr (.inl f63088))), (q63069, .inl (I .int, 720, .inl f63089)), (q63070, .inl (I .long, 480, .inr (.inl f63090))), (q63071, .inl (I .long, 480, .inr (.inl f63091))), (q63072, .inl (I .long, 480, .inr (.inl f63092))), (q63073, .inl (I .long, 12, .inr (.inl f63093))), (q63065, .inl (I .int, 720, .inl f63099))]) (cs' := 0) (sl' := 0) rfl rfl rfl ?_
  refine G_iconst 1 d_cX1_putTogether_8 (by decide +kernel) ?_
  refine G_istore_n (L' := [(2, .int 1), (0, .ref q63059), (1, .int p63074)]) d_cX1_putTogether_9 (Nat.le_of_ble_eq_true rfl) rfl ?_
  refine G_aload_n 1 d_cX1_putTogether_10 rfl ?_
  refine G_getf 0 7 d_cX1_putTogether_11 rfl (gk_X1 D I) (Nat.le_of_ble_eq_true rfl) w_2_85 rfl ?_
  refine G_iconst 1 d_cX1_putTogether_14 (by decide +kernel) ?_
  refine G_isub d_cX1_putTogether_15 (G_nam fun z63100 hz63100 => ?_)
  have ez63100 : z63100.toInt = p63076.toInt - 1 := by rw [gI_sub hz63100 bp63076 (gBl (show Int32.toInt 1 = 1 by decide)) (by decide) (by decide), show Int32.toInt 1 = 1 from by decide]
  have bz63100 : gB z63100 (-1) 719 := gB_sub (gI_sub hz63100 bp63076 (gBl (show Int32.toInt 1 = 1 by decide)) (by decide) (by decide)) bp63076 (gBl (show Int32.toInt 1 = 1 by decide)) (by decide) (by decide)
  refine G_istore_n (L' := [(3, .int z63100), (2, .int 1), (0, .ref q63059), (1, .int p63074)]) d_cX1_putTogether_16 (Nat.le_of_ble_eq_true rfl) rfl ?_
  have hlp17_64403 : ∀ (n17_64403 : Nat) (g64400 : Int32) (g64401 : Int32) (f64402 : Nat → Int32), gB g64400 (-1) 719 → gB g64401 0 1 → gF f64402 (-2147483648) 2147483647 → g64400.toInt < p63076.toInt → ((g64400.toInt : Int) - (-2)).toNat < n17_64403 → G (gV D I) l (gRm 3 70 0 0) (gM (gV D I) (po_63098_Colouring_putTogether I q63059 q63060 q63061 q63062 q63063 q63064 q63065 q63066 q63067 q63068 q63069 q63070 q63071 q63072 q63073 p63074 p63075 p63076 p63077 p63078 f63079 f63080 f63081 f63082 f63083 p63084 p63085 p63086 f63087 f63088 f63089 f63090 f63091 f63092 f63093) gN 0 0) ky_63098_Colouring_putTogether 17 [(3, .int g64400), (2, .int g64401), (0, .ref q63059), (1, .int p63074)] [] [(q63059, .inr (6, [.ref q63060, .ref q63061, .ref q63062, .ref q63063, .ref q63064, .ref q63065, .int p63075, .int p63076])), (q63060, .inr (8, [.ref q63066, .ref q63067, .ref q63068, .ref q63069, .int p63077, .int p63078])), (q63061, .inl (I .int, 720, .inl f63079)), (q63062, .inl (I .int, 720, .inl f63080)), (q63063, .inl (I .int, 720, .inl f63081)), (q63064, .inl (I .int, 720, .inl f63082)), (q63066, .inr (10, [.ref q63070, .ref q63071, .ref q63072, .ref q63073, .int p63084, .int p63085, .int p63086])), (q63067, .inl (I .long, 8640, .inr (.inl f63087))), (q63068, .inl (I .long, 12, .inr (.inl f63088))), (q63069, .inl (I .int, 720, .inl f63089)), (q63070, .inl (I .long, 480, .inr (.inl f63090))), (q63071, .inl (I .long, 480, .inr (.inl f63091))), (q63072, .inl (I .long, 480, .inr (.inl f63092))), (q63073, .inl (I .long, 12, .inr (.inl f63093))), (q63065, .inl (I .int, 720, .inl f64402))] 0 0 := by
    intro n17_64403
    induction n17_64403 with
    | zero => intro g64400 g64401 f64402 bg64400 bg64401 bf64402 x64403 hm17_64403; exact absurd hm17_64403 (Nat.not_lt_zero _)
    | succ n17_64403 ih17_64403 =>
      intro g64400 g64401 f64402 bg64400 bg64401 bf64402 x64403 hm17_64403
      refine G_iload_n 0 d_cX1_putTogether_17 rfl ?_
      refine G_if_lt 70 d_cX1_putTogether_18 (by decide +kernel) (fun hc64404 => ?_) (fun hc64404 => ?_)
      · have r64405 : g64400.toInt < 0 := gj_lt hc64404 (show Int32.toInt 0 = 0 by decide)
        have bg64400' : gB g64400 (-1) (-1) := ⟨by omega, by omega⟩
        refine G_iload_n 1 d_cX1_putTogether_70 rfl ?_
        refine G_sub (ws' := [(q63059, .inr (6, [.ref q63060, .ref q63061, .ref q63062, .ref q63063, .ref q63064, .ref q63065, .int p63075, .int p63076])), (q63060, .inr (8, [.ref q63066, .ref q63067, .ref q63068, .ref q63069, .int p63077, .int p63078])), (q63061, .inl (I .int, 720, .inl f63079)), (q63062, .inl (I .int, 720, .inl f63080)), (q63063, .inl (I .int, 720, .inl f63081)), (q63064, .inl (I .int, 720, .inl f63082)), (q63065, .inl (I .int, 720, .inl f64402)), (q63066, .inr (10, [.ref q63070, .ref q63071, .ref q63072, .ref q63073, .int p63084, .int p63085, .int p63086])), (q63067, .inl (I .long, 8640, .inr (.inl f63087))), (q63068, .inl (I .long, 12, .inr (.inl f63088))), (q63069, .inl (I .int, 720, .inl f63089)), (q63070, .inl (I .long, 480, .inr (.inl f63090))), (q63071, .inl (I .long, 480, .inr (.inl f63091))), (q63072, .inl (I .long, 480, .inr (.inl f63092))), (q63073, .inl (I .long, 12, .inr (.inl f63093)))]) [0, 1, 2, 3, 4, 5, 14, 6, 7, 8, 9, 10, 11, 12, 13] rfl rfl ?_
        exact G_zret FieldType.boolean d_cX1_putTogether_71 rfl (gN_bool bg64401) (Nat.le_of_ble_eq_true rfl) (Nat.le_of_ble_eq_true rfl) ⟨g64401, f64402, rfl, rfl, bg64401, bf64402⟩
      · have r64406 : 0 ≤ g64400.toInt := gj_nlt hc64404 (show Int32.toInt 0 = 0 by decide)
        have bg64400' : gB g64400 0 719 := ⟨by omega, by omega⟩
        refine G_aload_n 2 d_cX1_putTogether_21 rfl ?_
        refine G_getf 0 4 d_cX1_putTogether_22 rfl (gk_X1 D I) (Nat.le_of_ble_eq_true rfl) w_2_82 rfl ?_
        refine G_iload_n 0 d_cX1_putTogether_25 rfl ?_
        refine G_iald 5 0 d_cX1_putTogether_26 rfl rfl (gB_in bg64400' (by decide) (by decide)) (G_nam fun z64407 hz64407 => ?_)
        have bz64407 : gB z64407 0 719 := by rw [hz64407]; exact bf63082 _
        have pz64407 := gP_ld hz64407 x63094 (by omega) (by omega)
        refine G_istore (L' := [(4, .int z64407), (3, .int g64400), (2, .int g64401), (0, .ref q63059), (1, .int p63074)]) d_cX1_putTogether_27 (Nat.le_of_ble_eq_true rfl) rfl ?_
        refine G_aload_n 3 d_cX1_putTogether_29 rfl ?_
        refine G_iload 0 d_cX1_putTogether_30 rfl ?_
        refine G_callV (As := [.int z64407]) (wr := []) (gV_ok D I) (ct_63144_Colouring_coloursAround l hl0 D I q63059 q63060 q63061 q63062 q63063 q63064 q63065 q63066 q63067 q63068 q63069 q63070 q63071 q63072 q63073 z64407 p63075 p63076 p63077 p63078 f63079 f63080 f63081 f63082 f64402 p63084 p63085 p63086 f63087 f63088 f63089 f63090 f63091 f63092 f63093 bz64407 bp63075 bp63076 bp63077 bp63078 bf63081 bf63082 bp63084 bp63085 bp63086 (by omega) (by omega) x63096 (by omega)) d_cX1_putTogether_32 ⟨w_5_141, w_1_11, w_5_144, by decide, rfl, (Nat.le_of_ble_eq_true rfl), (Nat.le_of_ble_eq_true rfl)⟩ w_5_143 w_p_46 0 rfl rfl [0, 1, 2, 3, 4, 5, 14, 6, 7, 8, 9, 10, 11, 12, 13] [] rfl rfl rfl rfl (by decide) (Nat.le_of_ble_eq_true rfl) (Nat.le_of_ble_eq_true rfl) (Nat.le_of_ble_eq_true rfl) (fun r w hp => ?_) (fun _ _ _ z => z.elim)
        obtain ⟨ol64408, rfl, rfl⟩ := hp
        change G _ _ _ _ _ _ _ (.long ol64408 :: _) _ _ _
        refine G_ws (ws' := [(q63059, .inr (6, [.ref q63060, .ref q63061, .ref q63062, .ref q63063, .ref q63064, .ref q63065, .int p63075, .int p63076])), (q63060, .inr (8, [.ref q63066, .ref q63067, .ref q63068, .ref q63069, .int p63077, .int p63078])), (q63061, .inl (I .int, 720, .inl f63079)), (q63062, .inl (I .int, 720, .inl f63080)), (q63063, .inl (I .int, 720, .inl f63081)), (q63064, .inl (I .int, 720, .inl f63082)), (q63065, .inl (I .int, 720, .inl f64402)), (q63066, .inr (10, [.ref q63070, .ref q63071, .ref q63072, .ref q63073, .int p63084, .int p63085, .int p63086])), (q63067, .inl (I .long, 8640, .inr (.inl f63087))), (q63068, .inl (I .long, 12, .inr (.inl f63088))), (q63069, .inl (I .int, 720, .inl f63089)), (q63070, .inl (I .long, 480, .inr (.inl f63090))), (q63071, .inl (I .long, 480, .inr (.inl f63091))), (q63072, .inl (I .long, 480, .inr (.inl f63092))), (q63073, .inl (I .long, 12, .inr (.inl f63093)))]) (cs' := 0) (sl' := 0) rfl rfl rfl ?_
        refine G_ldc2 (-1) d_cX1_putTogether_35 w_5_145 ?_
        refine G_lxor d_cX1_putTogether_38 (G_namL fun u64409 hu64409 => ?_)
        refine G_callSN (As := [.long u64409]) (wr := [(q63059, .inr (6, [.ref q63060, .ref q63061, .ref q63062, .ref q63063, .ref q63064, .ref q63065, .int p63075, .int p63076])), (q63060, .inr (8, [.ref q63066, .ref q63067, .ref q63068, .ref q63069, .int p63077, .int p63078])), (q63061, .inl (I .int, 720, .inl f63079)), (q63062, .inl (I .int, 720, .inl f63080)), (q63063, .inl (I .int, 720, .inl f63081)), (q63064, .inl (I .int, 720, .inl f63082)), (q63065, .inl (I .int, 720, .inl f64402)), (q63066, .inr (10, [.ref q63070, .ref q63071, .ref q63072, .ref q63073, .int p63084, .int p63085, .int p63086])), (q63067, .inl (I .long, 8640, .inr (.inl f63087))), (q63068, .inl (I .long, 12, .inr (.inl f63088))), (q63069, .inl (I .int, 720, .inl f63089)), (q63070, .inl (I .long, 480, .inr (.inl f63090))), (q63071, .inl (I .long, 480, .inr (.inl f63091))), (q63072, .inl (I .long, 480, .inr (.inl f63092))), (q63073, .inl (I .long, 12, .inr (.inl f63093)))]) (gV_ok D I) (ct_29220_SpillForge_lowestBit l hl0 D I u64409 ) d_cX1_putTogether_39 ⟨(fun _ _ _ h => gn_w 73 rfl h), w_1_1, w_4_127, by decide, rfl, (Nat.le_of_ble_eq_true rfl), (Nat.le_of_ble_eq_true rfl)⟩ w_4_126 [] [0, 1, 2, 3, 4, 5, 6, 7, 8, 9, 10, 11, 12, 13, 14] rfl rfl rfl rfl (by decide) (Nat.le_of_ble_eq_true rfl) (Nat.le_of_ble_eq_true rfl) (Nat.le_of_ble_eq_true rfl) (fun r w hp => ?_)
        obtain ⟨o64410, rfl, rfl, bo64410, x64411⟩ := hp
        change G _ _ _ _ _ _ _ (.int o64410 :: _) _ _ _
        refine G_ws (ws' := [(q63059, .inr (6, [.ref q63060, .ref q63061, .ref q63062, .ref q63063, .ref q63064, .ref q63065, .int p63075, .int p63076])), (q63060, .inr (8, [.ref q63066, .ref q63067, .ref q63068, .ref q63069, .int p63077, .int p63078])), (q63061, .inl (I .int, 720, .inl f63079)), (q63062, .inl (I .int, 720, .inl f63080)), (q63063, .inl (I .int, 720, .inl f63081)), (q63064, .inl (I .int, 720, .inl f63082)), (q63065, .inl (I .int, 720, .inl f64402)), (q63066, .inr (10, [.ref q63070, .ref q63071, .ref q63072, .ref q63073, .int p63084, .int p63085, .int p63086])), (q63067, .inl (I .long, 8640, .inr (.inl f63087))), (q63068, .inl (I .long, 12, .inr (.inl f63088))), (q63069, .inl (I .int, 720, .inl f63089)), (q63070, .inl (I .long, 480, .inr (.inl f63090))), (q63071, .inl (I .long, 480, .inr (.inl f63091))), (q63072, .inl (I .long, 480, .inr (.inl f63092))), (q63073, .inl (I .long, 12, .inr (.inl f63093)))]) (cs' := 0) (sl' := 0) rfl rfl rfl ?_
        refine G_istore (L' := [(5, .int o64410), (4, .int z64407), (3, .int g64400), (2, .int g64401), (0, .ref q63059), (1, .int p63074)]) d_cX1_putTogether_42 (Nat.le_of_ble_eq_true rfl) rfl ?_
        refine G_iload 0 d_cX1_putTogether_44 rfl ?_
        refine G_iload_n 5 d_cX1_putTogether_46 rfl ?_
        refine G_icmp_ge 62 d_cX1_putTogether_47 (by decide +kernel) (fun hc64412 => ?_) (fun hc64412 => ?_)
        · have r64413 : p63074.toInt ≤ o64410.toInt := gC_le hc64412
          have bp63074' : gB p63074 (-2147483648) 127 := ⟨by omega, by omega⟩
          refine G_iconst 0 d_cX1_putTogether_62 (by decide +kernel) ?_
          refine G_istore_n (L' := [(2, .int 0), (5, .int o64410), (4, .int z64407), (3, .int g64400), (0, .ref q63059), (1, .int p63074)]) d_cX1_putTogether_63 (Nat.le_of_ble_eq_true rfl) rfl ?_
          obtain ⟨z64414, hz64414⟩ : ∃ z : Int32, z = g64400 + Int32.ofInt (-1) := ⟨_, rfl⟩
          have ez64414 : z64414.toInt = g64400.toInt + (-1) := gI_inc hz64414 (by decide) bg64400' (by decide) (by decide)
          have bz64414 : gB z64414 (-1) 718 := ⟨by omega, by omega⟩
          refine G_iinc (L' := [(3, .int z64414), (2, .int 0), (5, .int o64410), (4, .int z64407), (0, .ref q63059), (1, .int p63074)]) z64414 3 d_cX1_putTogether_64 rfl hz64414.symm (Nat.le_of_ble_eq_true rfl) rfl ?_
          refine G_goto 17 d_cX1_putTogether_67 (by decide +kernel) ?_
          refine G_lv (L' := [(3, .int z64414), (2, .int 0), (0, .ref q63059), (1, .int p63074)]) [0, 1, 4, 5] rfl ?_
          refine G_sub (ws' := [(q63059, .inr (6, [.ref q63060, .ref q63061, .ref q63062, .ref q63063, .ref q63064, .ref q63065, .int p63075, .int p63076])), (q63060, .inr (8, [.ref q63066, .ref q63067, .ref q63068, .ref q63069, .int p63077, .int p63078])), (q63061, .inl (I .int, 720, .inl f63079)), (q63062, .inl (I .int, 720, .inl f63080)), (q63063, .inl (I .int, 720, .inl f63081)), (q63064, .inl (I .int, 720, .inl f63082)), (q63066, .inr (10, [.ref q63070, .ref q63071, .ref q63072, .ref q63073, .int p63084, .int p63085, .int p63086])), (q63067, .inl (I .long, 8640, .inr (.inl f63087))), (q63068, .inl (I .long, 12, .inr (.inl f63088))), (q63069, .inl (I .int, 720, .inl f63089)), (q63070, .inl (I .long, 480, .inr (.inl f63090))), (q63071, .inl (I .long, 480, .inr (.inl f63091))), (q63072, .inl (I .long, 480, .inr (.inl f63092))), (q63073, .inl (I .long, 12, .inr (.inl f63093))), (q63065, .inl (I .int, 720, .inl f64402))]) [0, 1, 2, 3, 4, 5, 7, 8, 9, 10, 11, 12, 13, 14, 6] rfl rfl ?_
          exact ih17_64403 z64414 0 f64402 (gB_w bz64414 (by decide) (by decide)) (gB_w (gBl (show Int32.toInt 0 = 0 by decide)) (by decide) (by decide)) bf64402 (by have qa0 : Int32.toInt 0 = 0 := (by decide); omega) (by have qa0 : Int32.toInt 0 = 0 := (by decide); omega)
        · have r64415 : o64410.toInt < p63074.toInt := gC_nle hc64412
          have bp63074' : gB p63074 1 2147483647 := ⟨by omega, by omega⟩
          refine G_aload_n 4 d_cX1_putTogether_50 rfl ?_
          refine G_getf 0 5 d_cX1_putTogether_51 rfl (gk_X1 D I) (Nat.le_of_ble_eq_true rfl) w_2_83 rfl ?_
          refine G_iload 1 d_cX1_putTogether_54 rfl ?_
          refine G_iload 0 d_cX1_putTogether_56 rfl ?_
          refine G_iastN 6 0 d_cX1_putTogether_58 rfl rfl (gB_in bz64407 (by decide) (by decide)) (fun f64416 hf64416 => ?_)
          refine G_ws (ws' := [(q63059, .inr (6, [.ref q63060, .ref q63061, .ref q63062, .ref q63063, .ref q63064, .ref q63065, .int p63075, .int p63076])), (q63060, .inr (8, [.ref q63066, .ref q63067, .ref q63068, .ref q63069, .int p63077, .int p63078])), (q63061, .inl (I .int, 720, .inl f63079)), (q63062, .inl (I .int, 720, .inl f63080)), (q63063, .inl (I .int, 720, .inl f63081)), (q63064, .inl (I .int, 720, .inl f63082)), (q63065, .inl (I .int, 720, .inl f64416)), (q63066, .inr (10, [.ref q63070, .ref q63071, .ref q63072, .ref q63073, .int p63084, .int p63085, .int p63086])), (q63067, .inl (I .long, 8640, .inr (.inl f63087))), (q63068, .inl (I .long, 12, .inr (.inl f63088))), (q63069, .inl (I .int, 720, .inl f63089)), (q63070, .inl (I .long, 480, .inr (.inl f63090))), (q63071, .inl (I .long, 480, .inr (.inl f63091))), (q63072, .inl (I .long, 480, .inr (.inl f63092))), (q63073, .inl (I .long, 12, .inr (.inl f63093)))]) (cs' := 0) (sl' := 0) rfl rfl rfl ?_
          refine G_goto 64 d_cX1_putTogether_59 (by decide +kernel) ?_
          obtain ⟨z64417, hz64417⟩ : ∃ z : Int32, z = g64400 + Int32.ofInt (-1) := ⟨_, rfl⟩
          have ez64417 : z64417.toInt = g64400.toInt + (-1) := gI_inc hz64417 (by decide) bg64400' (by decide) (by decide)
          have bz64417 : gB z64417 (-1) 718 := ⟨by omega, by omega⟩
          refine G_iinc (L' := [(3, .int z64417), (5, .int o64410), (4, .int z64407), (2, .int g64401), (0, .ref q63059), (1, .int p63074)]) z64417 2 d_cX1_putTogether_64 rfl hz64417.symm (Nat.le_of_ble_eq_true rfl) rfl ?_
          refine G_goto 17 d_cX1_putTogether_67 (by decide +kernel) ?_
          refine G_lv (L' := [(3, .int z64417), (2, .int g64401), (0, .ref q63059), (1, .int p63074)]) [0, 3, 4, 5] rfl ?_
          refine G_sub (ws' := [(q63059, .inr (6, [.ref q63060, .ref q63061, .ref q63062, .ref q63063, .ref q63064, .ref q63065, .int p63075, .int p63076])), (q63060, .inr (8, [.ref q63066, .ref q63067, .ref q63068, .ref q63069, .int p63077, .int p63078])), (q63061, .inl (I .int, 720, .inl f63079)), (q63062, .inl (I .int, 720, .inl f63080)), (q63063, .inl (I .int, 720, .inl f63081)), (q63064, .inl (I .int, 720, .inl f63082)), (q63066, .inr (10, [.ref q63070, .ref q63071, .ref q63072, .ref q63073, .int p63084, .int p63085, .int p63086])), (q63067, .inl (I .long, 8640, .inr (.inl f63087))), (q63068, .inl (I .long, 12, .inr (.inl f63088))), (q63069, .inl (I .int, 720, .inl f63089)), (q63070, .inl (I .long, 480, .inr (.inl f63090))), (q63071, .inl (I .long, 480, .inr (.inl f63091))), (q63072, .inl (I .long, 480, .inr (.inl f63092))), (q63073, .inl (I .long, 12, .inr (.inl f63093))), (q63065, .inl (I .int, 720, .inl f64416))]) [0, 1, 2, 3, 4, 5, 7, 8, 9, 10, 11, 12, 13, 14, 6] rfl rfl ?_
          exact ih17_64403 z64417 g64401 f64416 (gB_w bz64417 (by decide) (by decide)) bg64401 (gF_any f64416) (by omega) (by omega)
  exact hlp17_64403 (((z63100.toInt : Int) - (-2)).toNat + 1) z63100 1 f63099 bz63100 (gB_w (gBl (show Int32.toInt 1 = 1 by decide)) (by decide) (by decide)) bf63099 (by have qa0 : Int32.toInt 1 = 1 := (by decide); omega) (Nat.lt_succ_self _)
abbrev ky_64570_Colouring_isWithout : gKey := (cX1_isWithout, 2, yX1_isWithout.cls, (some FieldType.boolean), [], yX1_isWithout.name, fun _ _ => True)
abbrev po_64570_Colouring_isWithout (I : FieldType → ClassId) (q64532 : Nat) (q64533 : Nat) (q64534 : Nat) (q64535 : Nat) (q64536 : Nat) (q64537 : Nat) (q64538 : Nat) (q64539 : Nat) (q64540 : Nat) (q64541 : Nat) (q64542 : Nat) (q64543 : Nat) (q64544 : Nat) (q64545 : Nat) (q64546 : Nat) (p64547 : Int32) (p64548 : Int32) (p64549 : Int32) (p64550 : Int32) (p64551 : Int32) (f64552 : Nat → Int32) (f64553 : Nat → Int32) (f64554 : Nat → Int32) (f64555 : Nat → Int32) (f64556 : Nat → Int32) (p64557 : Int32) (p64558 : Int32) (p64559 : Int32) (f64560 : Nat → Int64) (f64561 : Nat → Int64) (f64562 : Nat → Int32) (f64563 : Nat → Int64) (f64564 : Nat → Int64) (f64565 : Nat → Int64) (f64566 : Nat → Int64) : Option Value → va_W → Prop := fun r w => (r = some (.int 0) ∧ w = [(q64532, .inr (6, [.ref q64533, .ref q64534, .ref q64535, .ref q64536, .ref q64537, .ref q64538, .int p64548, .int p64549])), (q64533, .inr (8, [.ref q64539, .ref q64540, .ref q64541, .ref q64542, .int p64550, .int p64551])), (q64534, .inl (I .int, 720, .inl f64552)), (q64535, .inl (I .int, 720, .inl f64553)), (q64536, .inl (I .int, 720, .inl f64554)), (q64537, .inl (I .int, 720, .inl f64555)), (q64538, .inl (I .int, 720, .inl f64556)), (q64539, .inr (10, [.ref q64543, .ref q64544, .ref q64545, .ref q64546, .int p64557, .int p64558, .int p64559])), (q64540, .inl (I .long, 8640, .inr (.inl f64560))), (q64541, .inl (I .long, 12, .inr (.inl f64561))), (q64542, .inl (I .int, 720, .inl f64562)), (q64543, .inl (I .long, 480, .inr (.inl f64563))), (q64544, .inl (I .long, 480, .inr (.inl f64564))), (q64545, .inl (I .long, 480, .inr (.inl f64565))), (q64546, .inl (I .long, 12, .inr (.inl f64566)))] ∧ p64547.toInt < 0) ∨ (r = some (.int 0) ∧ w = [(q64532, .inr (6, [.ref q64533, .ref q64534, .ref q64535, .ref q64536, .ref q64537, .ref q64538, .int p64548, .int p64549])), (q64533, .inr (8, [.ref q64539, .ref q64540, .ref q64541, .ref q64542, .int p64550, .int p64551])), (q64534, .inl (I .int, 720, .inl f64552)), (q64535, .inl (I .int, 720, .inl f64553)), (q64536, .inl (I .int, 720, .inl f64554)), (q64537, .inl (I .int, 720, .inl f64555)), (q64538, .inl (I .int, 720, .inl f64556)), (q64539, .inr (10, [.ref q64543, .ref q64544, .ref q64545, .ref q64546, .int p64557, .int p64558, .int p64559])), (q64540, .inl (I .long, 8640, .inr (.inl f64560))), (q64541, .inl (I .long, 12, .inr (.inl f64561))), (q64542, .inl (I .int, 720, .inl f64562)), (q64543, .inl (I .long, 480, .inr (.inl f64563))), (q64544, .inl (I .long, 480, .inr (.inl f64564))), (q64545, .inl (I .long, 480, .inr (.inl f64565))), (q64546, .inl (I .long, 12, .inr (.inl f64566)))] ∧ 0 ≤ p64547.toInt ∧ p64550.toInt ≤ p64547.toInt) ∨ (∃ (z64574 : Int32) (z64575 : Int32), r = some (.int 0) ∧ w = [(q64532, .inr (6, [.ref q64533, .ref q64534, .ref q64535, .ref q64536, .ref q64537, .ref q64538, .int p64548, .int p64549])), (q64533, .inr (8, [.ref q64539, .ref q64540, .ref q64541, .ref q64542, .int p64550, .int p64551])), (q64534, .inl (I .int, 720, .inl f64552)), (q64535, .inl (I .int, 720, .inl f64553)), (q64536, .inl (I .int, 720, .inl f64554)), (q64537, .inl (I .int, 720, .inl f64555)), (q64538, .inl (I .int, 720, .inl f64556)), (q64539, .inr (10, [.ref q64543, .ref q64544, .ref q64545, .ref q64546, .int p64557, .int p64558, .int p64559])), (q64540, .inl (I .long, 8640, .inr (.inl f64560))), (q64541, .inl (I .long, 12, .inr (.inl f64561))), (q64542, .inl (I .int, 720, .inl f64562)), (q64543, .inl (I .long, 480, .inr (.inl f64563))), (q64544, .inl (I .long, 480, .inr (.inl f64564))), (q64545, .inl (I .long, 480, .inr (.inl f64565))), (q64546, .inl (I .long, 12, .inr (.inl f64566)))] ∧ 0 ≤ p64547.toInt ∧ p64547.toInt < p64550.toInt ∧ z64574.toInt = p64547.toInt / 64 ∧ z64575.toInt = 0 ∧ gB z64574 0 11 ∧ gB z64575 0 0) ∨ (∃ (z64582 : Int32) (z64583 : Int32) (z64590 : Int32), r = some (.int 0) ∧ w = [(q64532, .inr (6, [.ref q64533, .ref q64534, .ref q64535, .ref q64536, .ref q64537, .ref q64538, .int p64548, .int p64549])), (q64533, .inr (8, [.ref q64539, .ref q64540, .ref q64541, .ref q64542, .int p64550, .int p64551])), (q64534, .inl (I .int, 720, .inl f64552)), (q64535, .inl (I .int, 720, .inl f64553)), (q64536, .inl (I .int, 720, .inl f64554)), (q64537, .inl (I .int, 720, .inl f64555)), (q64538, .inl (I .int, 720, .inl f64556)), (q64539, .inr (10, [.ref q64543, .ref q64544, .ref q64545, .ref q64546, .int p64557, .int p64558, .int p64559])), (q64540, .inl (I .long, 8640, .inr (.inl f64560))), (q64541, .inl (I .long, 12, .inr (.inl f64561))), (q64542, .inl (I .int, 720, .inl f64562)), (q64543, .inl (I .long, 480, .inr (.inl f64563))), (q64544, .inl (I .long, 480, .inr (.inl f64564))), (q64545, .inl (I .long, 480, .inr (.inl f64565))), (q64546, .inl (I .long, 12, .inr (.inl f64566)))] ∧ 0 ≤ p64547.toInt ∧ p64547.toInt < p64550.toInt ∧ z64582.toInt = p64547.toInt / 64 ∧ z64583.toInt ≠ 0 ∧ z64590.toInt ≠ (-1) ∧ z64590 = f64556 p64547.toNatClampNeg ∧ gB z64582 0 11 ∧ gB z64583 (-1) 1 ∧ gB z64590 (-2147483648) 2147483647) ∨ (∃ (z64582 : Int32) (z64583 : Int32) (z64590 : Int32), r = some (.int 1) ∧ w = [(q64532, .inr (6, [.ref q64533, .ref q64534, .ref q64535, .ref q64536, .ref q64537, .ref q64538, .int p64548, .int p64549])), (q64533, .inr (8, [.ref q64539, .ref q64540, .ref q64541, .ref q64542, .int p64550, .int p64551])), (q64534, .inl (I .int, 720, .inl f64552)), (q64535, .inl (I .int, 720, .inl f64553)), (q64536, .inl (I .int, 720, .inl f64554)), (q64537, .inl (I .int, 720, .inl f64555)), (q64538, .inl (I .int, 720, .inl f64556)), (q64539, .inr (10, [.ref q64543, .ref q64544, .ref q64545, .ref q64546, .int p64557, .int p64558, .int p64559])), (q64540, .inl (I .long, 8640, .inr (.inl f64560))), (q64541, .inl (I .long, 12, .inr (.inl f64561))), (q64542, .inl (I .int, 720, .inl f64562)), (q64543, .inl (I .long, 480, .inr (.inl f64563))), (q64544, .inl (I .long, 480, .inr (.inl f64564))), (q64545, .inl (I .long, 480, .inr (.inl f64565))), (q64546, .inl (I .long, 12, .inr (.inl f64566)))] ∧ 0 ≤ p64547.toInt ∧ p64547.toInt < p64550.toInt ∧ z64582.toInt = p64547.toInt / 64 ∧ z64583.toInt ≠ 0 ∧ z64590.toInt = (-1) ∧ z64590 = f64556 p64547.toNatClampNeg ∧ gB z64582 0 11 ∧ gB z64583 (-1) 1 ∧ gB z64590 (-1) (-1))
set_option maxRecDepth 100000 in
set_option maxHeartbeats 4000000 in
theorem ct_64570_Colouring_isWithout (l : Launch) (hl0 : l.stackTraces = false) (D : va_G) (I : FieldType → ClassId) (q64532 : Nat) (q64533 : Nat) (q64534 : Nat) (q64535 : Nat) (q64536 : Nat) (q64537 : Nat) (q64538 : Nat) (q64539 : Nat) (q64540 : Nat) (q64541 : Nat) (q64542 : Nat) (q64543 : Nat) (q64544 : Nat) (q64545 : Nat) (q64546 : Nat) (p64547 : Int32) (p64548 : Int32) (p64549 : Int32) (p64550 : Int32) (p64551 : Int32) (f64552 : Nat → Int32) (f64553 : Nat → Int32) (f64554 : Nat → Int32) (f64555 : Nat → Int32) (f64556 : Nat → Int32) (p64557 : Int32) (p64558 : Int32) (p64559 : Int32) (f64560 : Nat → Int64) (f64561 : Nat → Int64) (f64562 : Nat → Int32) (f64563 : Nat → Int64) (f64564 : Nat → Int64) (f64565 : Nat → Int64) (f64566 : Nat → Int64) (bp64548 : gB p64548 0 720) (bp64549 : gB p64549 0 720) (bp64550 : gB p64550 0 720) (bp64551 : gB p64551 0 12) (bf64554 : gF f64554 0 719) (bf64555 : gF f64555 0 719) (bp64557 : gB p64557 0 720) (bp64558 : gB p64558 0 12) (bp64559 : gB p64559 0 1) (x64567 : p64551.toInt = (p64550.toInt + 63) / 64) (x64568 : lb_W f64560 (p64550.toInt * p64551.toInt) (p64551.toInt) (p64550.toInt)) (x64569 : p64558.toInt = (p64557.toInt + 63) / 64) : Ct (gV D I) l yX1_isWithout cX1_isWithout 2 (some FieldType.boolean) 1 21 0 0 [.ref q64532, .int p64547] [(q64532, .inr (6, [.ref q64533, .ref q64534, .ref q64535, .ref q64536, .ref q64537, .ref q64538, .int p64548, .int p64549])), (q64533, .inr (8, [.ref q64539, .ref q64540, .ref q64541, .ref q64542, .int p64550, .int p64551])), (q64534, .inl (I .int, 720, .inl f64552)), (q64535, .inl (I .int, 720, .inl f64553)), (q64536, .inl (I .int, 720, .inl f64554)), (q64537, .inl (I .int, 720, .inl f64555)), (q64538, .inl (I .int, 720, .inl f64556)), (q64539, .inr (10, [.ref q64543, .ref q64544, .ref q64545, .ref q64546, .int p64557, .int p64558, .int p64559])), (q64540, .inl (I .long, 8640, .inr (.inl f64560))), (q64541, .inl (I .long, 12, .inr (.inl f64561))), (q64542, .inl (I .int, 720, .inl f64562)), (q64543, .inl (I .long, 480, .inr (.inl f64563))), (q64544, .inl (I .long, 480, .inr (.inl f64564))), (q64545, .inl (I .long, 480, .inr (.inl f64565))), (q64546, .inl (I .long, 12, .inr (.inl f64566)))] (po_64570_Colouring_isWithout I q64532 q64533 q64534 q64535 q64536 q64537 q64538 q64539 q64540 q64541 q64542 q64543 q64544 q64545 q64546 p64547 p64548 p64549 p64550 p64551 f64552 f64553 f64554 f64555 f64556 p64557 p64558 p64559 f64560 f64561 f64562 f64563 f64564 f64565 f64566) gN := by
  refine Ct_of hl0 (by decide) (Nat.le_of_ble_eq_true rfl) ?_
  have bp64547 := gB_any p64547
  refine G_aload_n 0 d_cX1_isWithout_0 rfl ?_
  refine G_getf 0 0 d_cX1_isWithout_1 rfl (gk_X1 D I) (Nat.le_of_ble_eq_true rfl) w_2_78 rfl ?_
  refine G_iload_n 1 d_cX1_isWithout_4 rfl ?_
  refine G_callV (As := [.int p64547]) (wr := [(q64532, .inr (6, [.ref q64533, .ref q64534, .ref q64535, .ref q64536, .ref q64537, .ref q64538, .int p64548, .int p64549])), (q64534, .inl (I .int, 720, .inl f64552)), (q64535, .inl (I .int, 720, .inl f64553)), (q64536, .inl (I .int, 720, .inl f64554)), (q64537, .inl (I .int, 720, .inl f64555)), (q64538, .inl (I .int, 720, .inl f64556))]) (gV_ok D I) (ct_54786_Graph_stands l hl0 D I q64533 q64539 q64540 q64541 q64542 q64543 q64544 q64545 q64546 p64547 p64550 p64551 p64557 p64558 p64559 f64560 f64561 f64562 f64563 f64564 f64565 f64566 bp64550 bp64551 bp64557 bp64558 bp64559 (by omega) x64568 (by omega)) d_cX1_isWithout_5 ⟨w_5_122, w_1_9, w_4_167, by decide, rfl, (Nat.le_of_ble_eq_true rfl), (Nat.le_of_ble_eq_true rfl)⟩ w_4_165 w_4_166 1 rfl rfl [1, 7, 8, 9, 10, 11, 12, 13, 14] [0, 2, 3, 4, 5, 6] rfl rfl rfl rfl (by decide) (Nat.le_of_ble_eq_true rfl) (Nat.le_of_ble_eq_true rfl) (Nat.le_of_ble_eq_true rfl) (fun r w hp => ?_) (fun _ _ _ z => z.elim)
  rcases hp with ⟨rfl, rfl, r64571⟩ | ⟨rfl, rfl, r64572, r64573⟩ | ⟨z64574, z64575, rfl, rfl, r64576, r64577, r64578, r64579, r64580, r64581⟩ | ⟨z64582, z64583, rfl, rfl, r64584, r64585, r64586, r64587, r64588, r64589⟩
  · have bp64547' : gB p64547 (-2147483648) (-1) := ⟨by omega, by omega⟩
    change G _ _ _ _ _ _ _ (.int 0 :: _) _ _ _
    refine G_ws (ws' := [(q64532, .inr (6, [.ref q64533, .ref q64534, .ref q64535, .ref q64536, .ref q64537, .ref q64538, .int p64548, .int p64549])), (q64534, .inl (I .int, 720, .inl f64552)), (q64535, .inl (I .int, 720, .inl f64553)), (q64536, .inl (I .int, 720, .inl f64554)), (q64537, .inl (I .int, 720, .inl f64555)), (q64538, .inl (I .int, 720, .inl f64556)), (q64533, .inr (8, [.ref q64539, .ref q64540, .ref q64541, .ref q64542, .int p64550, .int p64551])), (q64539, .inr (10, [.ref q64543, .ref q64544, .ref q64545, .ref q64546, .int p64557, .int p64558, .int p64559])), (q64540, .inl (I .long, 8640, .inr (.inl f64560))), (q64541, .inl (I .long, 12, .inr (.inl f64561))), (q64542, .inl (I .int, 720, .inl f64562)), (q64543, .inl (I .long, 480, .inr (.inl f64563))), (q64544, .inl (I .long, 480, .inr (.inl f64564))), (q64545, .inl (I .long, 480, .inr (.inl f64565))), (q64546, .inl (I .long, 12, .inr (.inl f64566)))]) (cs' := 0) (sl' := 0) rfl rfl rfl ?_
    refine G_if_eq 25 d_cX1_isWithout_8 (by decide +kernel) (fun _ => ?_) (fun hc => absurd hc (by decide))
    refine G_iconst 0 d_cX1_isWithout_25 (by decide +kernel) ?_
    refine G_sub (ws' := [(q64532, .inr (6, [.ref q64533, .ref q64534, .ref q64535, .ref q64536, .ref q64537, .ref q64538, .int p64548, .int p64549])), (q64533, .inr (8, [.ref q64539, .ref q64540, .ref q64541, .ref q64542, .int p64550, .int p64551])), (q64534, .inl (I .int, 720, .inl f64552)), (q64535, .inl (I .int, 720, .inl f64553)), (q64536, .inl (I .int, 720, .inl f64554)), (q64537, .inl (I .int, 720, .inl f64555)), (q64538, .inl (I .int, 720, .inl f64556)), (q64539, .inr (10, [.ref q64543, .ref q64544, .ref q64545, .ref q64546, .int p64557, .int p64558, .int p64559])), (q64540, .inl (I .long, 8640, .inr (.inl f64560))), (q64541, .inl (I .long, 12, .inr (.inl f64561))), (q64542, .inl (I .int, 720, .inl f64562)), (q64543, .inl (I .long, 480, .inr (.inl f64563))), (q64544, .inl (I .long, 480, .inr (.inl f64564))), (q64545, .inl (I .long, 480, .inr (.inl f64565))), (q64546, .inl (I .long, 12, .inr (.inl f64566)))]) [0, 6, 1, 2, 3, 4, 5, 7, 8, 9, 10, 11, 12, 13, 14] rfl rfl ?_
    exact G_zret FieldType.boolean d_cX1_isWithout_26 rfl rfl (Nat.le_of_ble_eq_true rfl) (Nat.le_of_ble_eq_true rfl) (Or.inl ⟨rfl, rfl, r64571⟩)
  · have bp64547' : gB p64547 0 2147483647 := ⟨by omega, by omega⟩
    change G _ _ _ _ _ _ _ (.int 0 :: _) _ _ _
    refine G_ws (ws' := [(q64532, .inr (6, [.ref q64533, .ref q64534, .ref q64535, .ref q64536, .ref q64537, .ref q64538, .int p64548, .int p64549])), (q64534, .inl (I .int, 720, .inl f64552)), (q64535, .inl (I .int, 720, .inl f64553)), (q64536, .inl (I .int, 720, .inl f64554)), (q64537, .inl (I .int, 720, .inl f64555)), (q64538, .inl (I .int, 720, .inl f64556)), (q64533, .inr (8, [.ref q64539, .ref q64540, .ref q64541, .ref q64542, .int p64550, .int p64551])), (q64539, .inr (10, [.ref q64543, .ref q64544, .ref q64545, .ref q64546, .int p64557, .int p64558, .int p64559])), (q64540, .inl (I .long, 8640, .inr (.inl f64560))), (q64541, .inl (I .long, 12, .inr (.inl f64561))), (q64542, .inl (I .int, 720, .inl f64562)), (q64543, .inl (I .long, 480, .inr (.inl f64563))), (q64544, .inl (I .long, 480, .inr (.inl f64564))), (q64545, .inl (I .long, 480, .inr (.inl f64565))), (q64546, .inl (I .long, 12, .inr (.inl f64566)))]) (cs' := 0) (sl' := 0) rfl rfl rfl ?_
    refine G_if_eq 25 d_cX1_isWithout_8 (by decide +kernel) (fun _ => ?_) (fun hc => absurd hc (by decide))
    refine G_iconst 0 d_cX1_isWithout_25 (by decide +kernel) ?_
    refine G_sub (ws' := [(q64532, .inr (6, [.ref q64533, .ref q64534, .ref q64535, .ref q64536, .ref q64537, .ref q64538, .int p64548, .int p64549])), (q64533, .inr (8, [.ref q64539, .ref q64540, .ref q64541, .ref q64542, .int p64550, .int p64551])), (q64534, .inl (I .int, 720, .inl f64552)), (q64535, .inl (I .int, 720, .inl f64553)), (q64536, .inl (I .int, 720, .inl f64554)), (q64537, .inl (I .int, 720, .inl f64555)), (q64538, .inl (I .int, 720, .inl f64556)), (q64539, .inr (10, [.ref q64543, .ref q64544, .ref q64545, .ref q64546, .int p64557, .int p64558, .int p64559])), (q64540, .inl (I .long, 8640, .inr (.inl f64560))), (q64541, .inl (I .long, 12, .inr (.inl f64561))), (q64542, .inl (I .int, 720, .inl f64562)), (q64543, .inl (I .long, 480, .inr (.inl f64563))), (q64544, .inl (I .long, 480, .inr (.inl f64564))), (q64545, .inl (I .long, 480, .inr (.inl f64565))), (q64546, .inl (I .long, 12, .inr (.inl f64566)))]) [0, 6, 1, 2, 3, 4, 5, 7, 8, 9, 10, 11, 12, 13, 14] rfl rfl ?_
    exact G_zret FieldType.boolean d_cX1_isWithout_26 rfl rfl (Nat.le_of_ble_eq_true rfl) (Nat.le_of_ble_eq_true rfl) (Or.inr (Or.inl ⟨rfl, rfl, r64572, r64573⟩))
  · have bp64547' : gB p64547 0 2147483647 := ⟨by omega, by omega⟩
    have bp64547'' : gB p64547 0 719 := ⟨by omega, by omega⟩
    have bp64550' : gB p64550 1 720 := ⟨by omega, by omega⟩
    change G _ _ _ _ _ _ _ (.int 0 :: _) _ _ _
    refine G_ws (ws' := [(q64532, .inr (6, [.ref q64533, .ref q64534, .ref q64535, .ref q64536, .ref q64537, .ref q64538, .int p64548, .int p64549])), (q64534, .inl (I .int, 720, .inl f64552)), (q64535, .inl (I .int, 720, .inl f64553)), (q64536, .inl (I .int, 720, .inl f64554)), (q64537, .inl (I .int, 720, .inl f64555)), (q64538, .inl (I .int, 720, .inl f64556)), (q64533, .inr (8, [.ref q64539, .ref q64540, .ref q64541, .ref q64542, .int p64550, .int p64551])), (q64539, .inr (10, [.ref q64543, .ref q64544, .ref q64545, .ref q64546, .int p64557, .int p64558, .int p64559])), (q64540, .inl (I .long, 8640, .inr (.inl f64560))), (q64541, .inl (I .long, 12, .inr (.inl f64561))), (q64542, .inl (I .int, 720, .inl f64562)), (q64543, .inl (I .long, 480, .inr (.inl f64563))), (q64544, .inl (I .long, 480, .inr (.inl f64564))), (q64545, .inl (I .long, 480, .inr (.inl f64565))), (q64546, .inl (I .long, 12, .inr (.inl f64566)))]) (cs' := 0) (sl' := 0) rfl rfl rfl ?_
    refine G_if_eq 25 d_cX1_isWithout_8 (by decide +kernel) (fun _ => ?_) (fun hc => absurd hc (by decide))
    refine G_iconst 0 d_cX1_isWithout_25 (by decide +kernel) ?_
    refine G_sub (ws' := [(q64532, .inr (6, [.ref q64533, .ref q64534, .ref q64535, .ref q64536, .ref q64537, .ref q64538, .int p64548, .int p64549])), (q64533, .inr (8, [.ref q64539, .ref q64540, .ref q64541, .ref q64542, .int p64550, .int p64551])), (q64534, .inl (I .int, 720, .inl f64552)), (q64535, .inl (I .int, 720, .inl f64553)), (q64536, .inl (I .int, 720, .inl f64554)), (q64537, .inl (I .int, 720, .inl f64555)), (q64538, .inl (I .int, 720, .inl f64556)), (q64539, .inr (10, [.ref q64543, .ref q64544, .ref q64545, .ref q64546, .int p64557, .int p64558, .int p64559])), (q64540, .inl (I .long, 8640, .inr (.inl f64560))), (q64541, .inl (I .long, 12, .inr (.inl f64561))), (q64542, .inl (I .int, 720, .inl f64562)), (q64543, .inl (I .long, 480, .inr (.inl f64563))), (q64544, .inl (I .long, 480, .inr (.inl f64564))), (q64545, .inl (I .long, 480, .inr (.inl f64565))), (q64546, .inl (I .long, 12, .inr (.inl f64566)))]) [0, 6, 1, 2, 3, 4, 5, 7, 8, 9, 10, 11, 12, 13, 14] rfl rfl ?_
    exact G_zret FieldType.boolean d_cX1_isWithout_26 rfl rfl (Nat.le_of_ble_eq_true rfl) (Nat.le_of_ble_eq_true rfl) (Or.inr (Or.inr (Or.inl ⟨z64574, z64575, rfl, rfl, r64576, r64577, r64578, r64579, r64580, r64581⟩)))
  · have bp64547' : gB p64547 0 2147483647 := ⟨by omega, by omega⟩
    have bp64547'' : gB p64547 0 719 := ⟨by omega, by omega⟩
    have bp64550' : gB p64550 1 720 := ⟨by omega, by omega⟩
    change G _ _ _ _ _ _ _ (.int 1 :: _) _ _ _
    refine G_ws (ws' := [(q64532, .inr (6, [.ref q64533, .ref q64534, .ref q64535, .ref q64536, .ref q64537, .ref q64538, .int p64548, .int p64549])), (q64534, .inl (I .int, 720, .inl f64552)), (q64535, .inl (I .int, 720, .inl f64553)), (q64536, .inl (I .int, 720, .inl f64554)), (q64537, .inl (I .int, 720, .inl f64555)), (q64538, .inl (I .int, 720, .inl f64556)), (q64533, .inr (8, [.ref q64539, .ref q64540, .ref q64541, .ref q64542, .int p64550, .int p64551])), (q64539, .inr (10, [.ref q64543, .ref q64544, .ref q64545, .ref q64546, .int p64557, .int p64558, .int p64559])), (q64540, .inl (I .long, 8640, .inr (.inl f64560))), (q64541, .inl (I .long, 12, .inr (.inl f64561))), (q64542, .inl (I .int, 720, .inl f64562)), (q64543, .inl (I .long, 480, .inr (.inl f64563))), (q64544, .inl (I .long, 480, .inr (.inl f64564))), (q64545, .inl (I .long, 480, .inr (.inl f64565))), (q64546, .inl (I .long, 12, .inr (.inl f64566)))]) (cs' := 0) (sl' := 0) rfl rfl rfl ?_
    refine G_if_eq 25 d_cX1_isWithout_8 (by decide +kernel) (fun hc => absurd hc (by decide)) (fun _ => ?_)
    refine G_aload_n 0 d_cX1_isWithout_11 rfl ?_
    refine G_getf 0 5 d_cX1_isWithout_12 rfl (gk_X1 D I) (Nat.le_of_ble_eq_true rfl) w_2_83 rfl ?_
    refine G_iload_n 1 d_cX1_isWithout_15 rfl ?_
    refine G_iald 5 0 d_cX1_isWithout_16 rfl rfl (gB_in bp64547'' (by decide) (by decide)) (G_nam fun z64590 hz64590 => ?_)
    have bz64590 : gB z64590 (-2147483648) 2147483647 := gB_any z64590
    refine G_iconst (-1) d_cX1_isWithout_17 (by decide +kernel) ?_
    refine G_icmp_ne 25 d_cX1_isWithout_18 (by decide +kernel) (fun hc64591 => ?_) (fun hc64591 => ?_)
    · have r64592 : z64590.toInt ≠ (-1) := gj_neq hc64591 (show Int32.toInt (-1) = (-1) by decide)
      refine G_iconst 0 d_cX1_isWithout_25 (by decide +kernel) ?_
      refine G_sub (ws' := [(q64532, .inr (6, [.ref q64533, .ref q64534, .ref q64535, .ref q64536, .ref q64537, .ref q64538, .int p64548, .int p64549])), (q64533, .inr (8, [.ref q64539, .ref q64540, .ref q64541, .ref q64542, .int p64550, .int p64551])), (q64534, .inl (I .int, 720, .inl f64552)), (q64535, .inl (I .int, 720, .inl f64553)), (q64536, .inl (I .int, 720, .inl f64554)), (q64537, .inl (I .int, 720, .inl f64555)), (q64538, .inl (I .int, 720, .inl f64556)), (q64539, .inr (10, [.ref q64543, .ref q64544, .ref q64545, .ref q64546, .int p64557, .int p64558, .int p64559])), (q64540, .inl (I .long, 8640, .inr (.inl f64560))), (q64541, .inl (I .long, 12, .inr (.inl f64561))), (q64542, .inl (I .int, 720, .inl f64562)), (q64543, .inl (I .long, 480, .inr (.inl f64563))), (q64544, .inl (I .long, 480, .inr (.inl f64564))), (q64545, .inl (I .long, 480, .inr (.inl f64565))), (q64546, .inl (I .long, 12, .inr (.inl f64566)))]) [0, 6, 1, 2, 3, 4, 5, 7, 8, 9, 10, 11, 12, 13, 14] rfl rfl ?_
      exact G_zret FieldType.boolean d_cX1_isWithout_26 rfl rfl (Nat.le_of_ble_eq_true rfl) (Nat.le_of_ble_eq_true rfl) (Or.inr (Or.inr (Or.inr (Or.inl ⟨z64582, z64583, z64590, rfl, rfl, r64584, r64585, r64586, r64587, r64592, hz64590, r64588, r64589, bz64590⟩))))
    · have r64593 : z64590.toInt = (-1) := gj_eq hc64591 (show Int32.toInt (-1) = (-1) by decide)
      have bz64590' : gB z64590 (-1) (-1) := ⟨by omega, by omega⟩
      refine G_iconst 1 d_cX1_isWithout_21 (by decide +kernel) ?_
      refine G_goto 26 d_cX1_isWithout_22 (by decide +kernel) ?_
      refine G_sub (ws' := [(q64532, .inr (6, [.ref q64533, .ref q64534, .ref q64535, .ref q64536, .ref q64537, .ref q64538, .int p64548, .int p64549])), (q64533, .inr (8, [.ref q64539, .ref q64540, .ref q64541, .ref q64542, .int p64550, .int p64551])), (q64534, .inl (I .int, 720, .inl f64552)), (q64535, .inl (I .int, 720, .inl f64553)), (q64536, .inl (I .int, 720, .inl f64554)), (q64537, .inl (I .int, 720, .inl f64555)), (q64538, .inl (I .int, 720, .inl f64556)), (q64539, .inr (10, [.ref q64543, .ref q64544, .ref q64545, .ref q64546, .int p64557, .int p64558, .int p64559])), (q64540, .inl (I .long, 8640, .inr (.inl f64560))), (q64541, .inl (I .long, 12, .inr (.inl f64561))), (q64542, .inl (I .int, 720, .inl f64562)), (q64543, .inl (I .long, 480, .inr (.inl f64563))), (q64544, .inl (I .long, 480, .inr (.inl f64564))), (q64545, .inl (I .long, 480, .inr (.inl f64565))), (q64546, .inl (I .long, 12, .inr (.inl f64566)))]) [0, 6, 1, 2, 3, 4, 5, 7, 8, 9, 10, 11, 12, 13, 14] rfl rfl ?_
      exact G_zret FieldType.boolean d_cX1_isWithout_26 rfl rfl (Nat.le_of_ble_eq_true rfl) (Nat.le_of_ble_eq_true rfl) (Or.inr (Or.inr (Or.inr (Or.inr (⟨z64582, z64583, z64590, rfl, rfl, r64584, r64585, r64586, r64587, r64593, hz64590, r64588, r64589, bz64590'⟩)))))
