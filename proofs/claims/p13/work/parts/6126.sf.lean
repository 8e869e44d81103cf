theorem d_cX1_leave_0 : decode cX1_leave 0 = .ok (.iconst 0, 1) := by decide +kernel
theorem d_cX1_leave_1 : decode cX1_leave 1 = .ok (.istore_n 2, 1) := by decide +kernel
theorem d_cX1_leave_2 : decode cX1_leave 2 = .ok (.iload_n 2, 1) := by decide +kernel
theorem d_cX1_leave_3 : decode cX1_leave 3 = .ok (.aload_n 0, 1) := by decide +kernel
theorem d_cX1_leave_4 : decode cX1_leave 4 = .ok (.getfield 27, 3) := by decide +kernel
theorem w_2_78 : (Jvm.Cond.fieldLink "SpillForge$Colouring" (27 : Nat) "SpillForge$Colouring" "graph" "LSpillForge$Graph;") ∈ gw := gw_2 78 rfl rfl
theorem d_cX1_leave_7 : decode cX1_leave 7 = .ok (.getfield 101, 3) := by decide +kernel
theorem d_cX1_leave_10 : decode cX1_leave 10 = .ok (.if_icmp .ge 75, 3) := by decide +kernel
theorem d_cX1_leave_85 : decode cX1_leave 85 = .ok (.return_, 1) := by decide +kernel
theorem d_cX1_leave_13 : decode cX1_leave 13 = .ok (.aload_n 0, 1) := by decide +kernel
theorem d_cX1_leave_14 : decode cX1_leave 14 = .ok (.getfield 27, 3) := by decide +kernel
theorem d_cX1_leave_17 : decode cX1_leave 17 = .ok (.getfield 104, 3) := by decide +kernel
theorem d_cX1_leave_20 : decode cX1_leave 20 = .ok (.iload_n 1, 1) := by decide +kernel
theorem d_cX1_leave_21 : decode cX1_leave 21 = .ok (.aload_n 0, 1) := by decide +kernel
theorem d_cX1_leave_22 : decode cX1_leave 22 = .ok (.getfield 27, 3) := by decide +kernel
theorem d_cX1_leave_25 : decode cX1_leave 25 = .ok (.getfield 101, 3) := by decide +kernel
theorem d_cX1_leave_28 : decode cX1_leave 28 = .ok (.imul, 1) := by decide +kernel
theorem d_cX1_leave_29 : decode cX1_leave 29 = .ok (.iload_n 2, 1) := by decide +kernel
theorem d_cX1_leave_30 : decode cX1_leave 30 = .ok (.iadd, 1) := by decide +kernel
theorem d_cX1_leave_31 : decode cX1_leave 31 = .ok (.laload, 1) := by decide +kernel
theorem d_cX1_leave_32 : decode cX1_leave 32 = .ok (.lstore_n 3, 1) := by decide +kernel
theorem d_cX1_leave_33 : decode cX1_leave 33 = .ok (.iconst 0, 1) := by decide +kernel
theorem d_cX1_leave_34 : decode cX1_leave 34 = .ok (.istore 5, 2) := by decide +kernel
theorem d_cX1_leave_36 : decode cX1_leave 36 = .ok (.iload 5, 2) := by decide +kernel
theorem d_cX1_leave_38 : decode cX1_leave 38 = .ok (.bipush 64, 2) := by decide +kernel
theorem d_cX1_leave_40 : decode cX1_leave 40 = .ok (.if_icmp .ge 39, 3) := by decide +kernel
theorem d_cX1_leave_79 : decode cX1_leave 79 = .ok (.iinc 2 1, 3) := by decide +kernel
theorem d_cX1_leave_82 : decode cX1_leave 82 = .ok (.goto (-80), 3) := by decide +kernel
theorem d_cX1_leave_43 : decode cX1_leave 43 = .ok (.lload_n 3, 1) := by decide +kernel
theorem d_cX1_leave_44 : decode cX1_leave 44 = .ok (.lconst 0, 1) := by decide +kernel
theorem d_cX1_leave_45 : decode cX1_leave 45 = .ok (.lcmp, 1) := by decide +kernel
theorem d_cX1_leave_46 : decode cX1_leave 46 = .ok (.ifCond .eq 33, 3) := by decide +kernel
theorem d_cX1_leave_49 : decode cX1_leave 49 = .ok (.aload_n 0, 1) := by decide +kernel
theorem d_cX1_leave_50 : decode cX1_leave 50 = .ok (.getfield 15, 3) := by decide +kernel
theorem d_cX1_leave_53 : decode cX1_leave 53 = .ok (.iload_n 2, 1) := by decide +kernel
theorem d_cX1_leave_54 : decode cX1_leave 54 = .ok (.bipush 6, 2) := by decide +kernel
theorem d_cX1_leave_56 : decode cX1_leave 56 = .ok (.ishl, 1) := by decide +kernel
theorem d_cX1_leave_57 : decode cX1_leave 57 = .ok (.lload_n 3, 1) := by decide +kernel
theorem d_cX1_leave_58 : decode cX1_leave 58 = .ok (.invokestatic 108, 3) := by decide +kernel
theorem d_cX1_leave_61 : decode cX1_leave 61 = .ok (.ior, 1) := by decide +kernel
theorem d_cX1_leave_62 : decode cX1_leave 62 = .ok (.dup2, 1) := by decide +kernel
theorem d_cX1_leave_63 : decode cX1_leave 63 = .ok (.iaload, 1) := by decide +kernel
theorem d_cX1_leave_64 : decode cX1_leave 64 = .ok (.iconst 1, 1) := by decide +kernel
theorem d_cX1_leave_65 : decode cX1_leave 65 = .ok (.isub, 1) := by decide +kernel
theorem d_cX1_leave_66 : decode cX1_leave 66 = .ok (.iastore, 1) := by decide +kernel
theorem d_cX1_leave_67 : decode cX1_leave 67 = .ok (.lload_n 3, 1) := by decide +kernel
theorem d_cX1_leave_68 : decode cX1_leave 68 = .ok (.lload_n 3, 1) := by decide +kernel
theorem d_cX1_leave_69 : decode cX1_leave 69 = .ok (.lconst 1, 1) := by decide +kernel
theorem d_cX1_leave_70 : decode cX1_leave 70 = .ok (.lsub, 1) := by decide +kernel
theorem d_cX1_leave_71 : decode cX1_leave 71 = .ok (.land, 1) := by decide +kernel
theorem d_cX1_leave_72 : decode cX1_leave 72 = .ok (.lstore_n 3, 1) := by decide +kernel
theorem d_cX1_leave_73 : decode cX1_leave 73 = .ok (.iinc 5 1, 3) := by decide +kernel
theorem d_cX1_leave_76 : decode cX1_leave 76 = .ok (.goto (-40), 3) := by decide +kernel
theorem d_cX1_takeApart_0 : decode cX1_takeApart 0 = .ok (.aload_n 0, 1) := by decide +kernel
theorem d_cX1_takeApart_1 : decode cX1_takeApart 1 = .ok (.iconst 0, 1) := by decide +kernel
theorem d_cX1_takeApart_2 : decode cX1_takeApart 2 = .ok (.putfield 74, 3) := by decide +kernel
theorem d_cX1_takeApart_5 : decode cX1_takeApart 5 = .ok (.aload_n 0, 1) := by decide +kernel
theorem d_cX1_takeApart_6 : decode cX1_takeApart 6 = .ok (.iconst 0, 1) := by decide +kernel
theorem d_cX1_takeApart_7 : decode cX1_takeApart 7 = .ok (.putfield 77, 3) := by decide +kernel
theorem w_2_85 : (Jvm.Cond.fieldLink "SpillForge$Colouring" (77 : Nat) "SpillForge$Colouring" "pileSize" "I") ∈ gw := gw_2 85 rfl rfl
theorem d_cX1_takeApart_10 : decode cX1_takeApart 10 = .ok (.iconst 0, 1) := by decide +kernel
theorem d_cX1_takeApart_11 : decode cX1_takeApart 11 = .ok (.istore_n 2, 1) := by decide +kernel
theorem d_cX1_takeApart_12 : decode cX1_takeApart 12 = .ok (.iload_n 2, 1) := by decide +kernel
theorem d_cX1_takeApart_13 : decode cX1_takeApart 13 = .ok (.aload_n 0, 1) := by decide +kernel
theorem d_cX1_takeApart_14 : decode cX1_takeApart 14 = .ok (.getfield 27, 3) := by decide +kernel
theorem d_cX1_takeApart_17 : decode cX1_takeApart 17 = .ok (.getfield 80, 3) := by decide +kernel
theorem d_cX1_takeApart_20 : decode cX1_takeApart 20 = .ok (.if_icmp .ge 55, 3) := by decide +kernel
theorem d_cX1_takeApart_75 : decode cX1_takeApart 75 = .ok (.aload_n 0, 1) := by decide +kernel
theorem d_cX1_takeApart_76 : decode cX1_takeApart 76 = .ok (.getfield 74, 3) := by decide +kernel
theorem d_cX1_takeApart_79 : decode cX1_takeApart 79 = .ok (.istore_n 2, 1) := by decide +kernel
theorem d_cX1_takeApart_80 : decode cX1_takeApart 80 = .ok (.iload_n 2, 1) := by decide +kernel
theorem d_cX1_takeApart_81 : decode cX1_takeApart 81 = .ok (.ifCond .le 81, 3) := by decide +kernel
theorem d_cX1_takeApart_162 : decode cX1_takeApart 162 = .ok (.return_, 1) := by decide +kernel
theorem d_cX1_takeApart_84 : decode cX1_takeApart 84 = .ok (.aload_n 0, 1) := by decide +kernel
theorem d_cX1_takeApart_85 : decode cX1_takeApart 85 = .ok (.iload_n 1, 1) := by decide +kernel
theorem d_cX1_takeApart_86 : decode cX1_takeApart 86 = .ok (.invokevirtual 84, 3) := by decide +kernel
theorem w_5_123 : (Jvm.Cond.methodLink "SpillForge$Colouring" (84 : Nat) ({ cls := "SpillForge$Colouring", name := "nextOfRest", desc := "(I)I" } : Jvm.MethodName)) ∈ gw := gw_5 123 rfl rfl
theorem w_5_126 : (Jvm.Cond.code ({ cls := "SpillForge$Colouring", name := "nextOfRest", desc := "(I)I" } : Jvm.MethodName) prog_3_method_8_code (4 : Nat) (Option.some Jvm.ClassFile.FieldType.int)) ∈ gw := gw_5 126 rfl rfl
theorem w_5_125 : (Jvm.Cond.instanceMethod ({ cls := "SpillForge$Colouring", name := "nextOfRest", desc := "(I)I" } : Jvm.MethodName)) ∈ gw := gw_5 125 rfl rfl
theorem w_p_43 : Cond.selects "SpillForge$Colouring" ⟨"SpillForge$Colouring", "nextOfRest", "(I)I"⟩ ⟨"SpillForge$Colouring", "nextOfRest", "(I)I"⟩ ∈ gw := gw_p _ 43 rfl rfl rfl
theorem d_cX1_takeApart_89 : decode cX1_takeApart 89 = .ok (.istore_n 3, 1) := by decide +kernel
theorem d_cX1_takeApart_90 : decode cX1_takeApart 90 = .ok (.aload_n 0, 1) := by decide +kernel
theorem d_cX1_takeApart_91 : decode cX1_takeApart 91 = .ok (.getfield 18, 3) := by decide +kernel
theorem d_cX1_takeApart_94 : decode cX1_takeApart 94 = .ok (.iload_n 3, 1) := by decide +kernel
theorem d_cX1_takeApart_95 : decode cX1_takeApart 95 = .ok (.iaload, 1) := by decide +kernel
theorem d_cX1_takeApart_96 : decode cX1_takeApart 96 = .ok (.istore 4, 2) := by decide +kernel
theorem d_cX1_takeApart_98 : decode cX1_takeApart 98 = .ok (.aload_n 0, 1) := by decide +kernel
theorem d_cX1_takeApart_99 : decode cX1_takeApart 99 = .ok (.dup, 1) := by decide +kernel
theorem d_cX1_takeApart_100 : decode cX1_takeApart 100 = .ok (.getfield 74, 3) := by decide +kernel
theorem d_cX1_takeApart_103 : decode cX1_takeApart 103 = .ok (.iconst 1, 1) := by decide +kernel
theorem d_cX1_takeApart_104 : decode cX1_takeApart 104 = .ok (.isub, 1) := by decide +kernel
theorem d_cX1_takeApart_105 : decode cX1_takeApart 105 = .ok (.putfield 74, 3) := by decide +kernel
theorem d_cX1_takeApart_108 : decode cX1_takeApart 108 = .ok (.aload_n 0, 1) := by decide +kernel
theorem d_cX1_takeApart_109 : decode cX1_takeApart 109 = .ok (.getfield 18, 3) := by decide +kernel
theorem d_cX1_takeApart_112 : decode cX1_takeApart 112 = .ok (.iload_n 3, 1) := by decide +kernel
theorem d_cX1_takeApart_113 : decode cX1_takeApart 113 = .ok (.iconst 1, 1) := by decide +kernel
theorem d_cX1_takeApart_114 : decode cX1_takeApart 114 = .ok (.iadd, 1) := by decide +kernel
theorem d_cX1_takeApart_115 : decode cX1_takeApart 115 = .ok (.aload_n 0, 1) := by decide +kernel
theorem d_cX1_takeApart_116 : decode cX1_takeApart 116 = .ok (.getfield 18, 3) := by decide +kernel
theorem d_cX1_takeApart_119 : decode cX1_takeApart 119 = .ok (.iload_n 3, 1) := by decide +kernel
theorem d_cX1_takeApart_120 : decode cX1_takeApart 120 = .ok (.aload_n 0, 1) := by decide +kernel
theorem d_cX1_takeApart_121 : decode cX1_takeApart 121 = .ok (.getfield 74, 3) := by decide +kernel
theorem d_cX1_takeApart_124 : decode cX1_takeApart 124 = .ok (.iload_n 3, 1) := by decide +kernel
theorem d_cX1_takeApart_125 : decode cX1_takeApart 125 = .ok (.isub, 1) := by decide +kernel
theorem d_cX1_takeApart_126 : decode cX1_takeApart 126 = .ok (.invokestatic 87, 3) := by decide +kernel
theorem w_5_131 : (Jvm.Cond.methodLink "SpillForge$Colouring" (87 : Nat) ({ cls := "java/lang/System", name := "arraycopy", desc := "(Ljava/lang/Object;ILjava/lang/Object;II)V" } : Jvm.MethodName)) ∈ gw := gw_5 131 rfl rfl
theorem d_cX1_takeApart_129 : decode cX1_takeApart 129 = .ok (.aload_n 0, 1) := by decide +kernel
theorem d_cX1_takeApart_130 : decode cX1_takeApart 130 = .ok (.getfield 21, 3) := by decide +kernel
theorem w_2_82 : (Jvm.Cond.fieldLink "SpillForge$Colouring" (21 : Nat) "SpillForge$Colouring" "pile" "[I") ∈ gw := gw_2 82 rfl rfl
theorem d_cX1_takeApart_133 : decode cX1_takeApart 133 = .ok (.aload_n 0, 1) := by decide +kernel
theorem d_cX1_takeApart_134 : decode cX1_takeApart 134 = .ok (.getfield 77, 3) := by decide +kernel
theorem d_cX1_takeApart_137 : decode cX1_takeApart 137 = .ok (.iload 4, 2) := by decide +kernel
theorem d_cX1_takeApart_139 : decode cX1_takeApart 139 = .ok (.iastore, 1) := by decide +kernel
theorem d_cX1_takeApart_140 : decode cX1_takeApart 140 = .ok (.aload_n 0, 1) := by decide +kernel
theorem d_cX1_takeApart_141 : decode cX1_takeApart 141 = .ok (.dup, 1) := by decide +kernel
theorem d_cX1_takeApart_142 : decode cX1_takeApart 142 = .ok (.getfield 77, 3) := by decide +kernel
theorem d_cX1_takeApart_145 : decode cX1_takeApart 145 = .ok (.iconst 1, 1) := by decide +kernel
theorem d_cX1_takeApart_146 : decode cX1_takeApart 146 = .ok (.iadd, 1) := by decide +kernel
theorem d_cX1_takeApart_147 : decode cX1_takeApart 147 = .ok (.putfield 77, 3) := by decide +kernel
theorem d_cX1_takeApart_150 : decode cX1_takeApart 150 = .ok (.aload_n 0, 1) := by decide +kernel
theorem d_cX1_takeApart_151 : decode cX1_takeApart 151 = .ok (.iload 4, 2) := by decide +kernel
theorem d_cX1_takeApart_153 : decode cX1_takeApart 153 = .ok (.invokevirtual 93, 3) := by decide +kernel
theorem w_5_132 : (Jvm.Cond.methodLink "SpillForge$Colouring" (93 : Nat) ({ cls := "SpillForge$Colouring", name := "leave", desc := "(I)V" } : Jvm.MethodName)) ∈ gw := gw_5 132 rfl rfl
theorem w_5_135 : (Jvm.Cond.code ({ cls := "SpillForge$Colouring", name := "leave", desc := "(I)V" } : Jvm.MethodName) prog_3_method_10_code (6 : Nat) (Option.none : Option Jvm.ClassFile.FieldType)) ∈ gw := gw_5 135 rfl rfl
theorem w_5_134 : (Jvm.Cond.instanceMethod ({ cls := "SpillForge$Colouring", name := "leave", desc := "(I)V" } : Jvm.MethodName)) ∈ gw := gw_5 134 rfl rfl
theorem w_p_45 : Cond.selects "SpillForge$Colouring" ⟨"SpillForge$Colouring", "leave", "(I)V"⟩ ⟨"SpillForge$Colouring", "leave", "(I)V"⟩ ∈ gw := gw_p _ 45 rfl rfl rfl
theorem d_cX1_takeApart_156 : decode cX1_takeApart 156 = .ok (.iinc 2 (-1), 3) := by decide +kernel
theorem d_cX1_takeApart_159 : decode cX1_takeApart 159 = .ok (.goto (-79), 3) := by decide +kernel
theorem d_cX1_takeApart_23 : decode cX1_takeApart 23 = .ok (.aload_n 0, 1) := by decide +kernel
theorem d_cX1_takeApart_24 : decode cX1_takeApart 24 = .ok (.getfield 15, 3) := by decide +kernel
theorem d_cX1_takeApart_27 : decode cX1_takeApart 27 = .ok (.iload_n 2, 1) := by decide +kernel
theorem d_cX1_takeApart_28 : decode cX1_takeApart 28 = .ok (.aload_n 0, 1) := by decide +kernel
theorem d_cX1_takeApart_29 : decode cX1_takeApart 29 = .ok (.getfield 27, 3) := by decide +kernel
theorem d_cX1_takeApart_32 : decode cX1_takeApart 32 = .ok (.getfield 83, 3) := by decide +kernel
theorem d_cX1_takeApart_35 : decode cX1_takeApart 35 = .ok (.iload_n 2, 1) := by decide +kernel
theorem d_cX1_takeApart_36 : decode cX1_takeApart 36 = .ok (.iaload, 1) := by decide +kernel
theorem d_cX1_takeApart_37 : decode cX1_takeApart 37 = .ok (.iastore, 1) := by decide +kernel
theorem d_cX1_takeApart_38 : decode cX1_takeApart 38 = .ok (.aload_n 0, 1) := by decide +kernel
theorem d_cX1_takeApart_39 : decode cX1_takeApart 39 = .ok (.getfield 27, 3) := by decide +kernel
theorem d_cX1_takeApart_42 : decode cX1_takeApart 42 = .ok (.iload_n 2, 1) := by decide +kernel
theorem d_cX1_takeApart_43 : decode cX1_takeApart 43 = .ok (.invokevirtual 31, 3) := by decide +kernel
theorem w_5_122 : (Jvm.Cond.methodLink "SpillForge$Colouring" (31 : Nat) ({ cls := "SpillForge$Graph", name := "stands", desc := "(I)Z" } : Jvm.MethodName)) ∈ gw := gw_5 122 rfl rfl
theorem d_cX1_takeApart_46 : decode cX1_takeApart 46 = .ok (.ifCond .eq 23, 3) := by decide +kernel
theorem d_cX1_takeApart_69 : decode cX1_takeApart 69 = .ok (.iinc 2 1, 3) := by decide +kernel
theorem d_cX1_takeApart_72 : decode cX1_takeApart 72 = .ok (.goto (-60), 3) := by decide +kernel
theorem d_cX1_takeApart_49 : decode cX1_takeApart 49 = .ok (.aload_n 0, 1) := by decide +kernel
theorem d_cX1_takeApart_50 : decode cX1_takeApart 50 = .ok (.getfield 18, 3) := by decide +kernel
theorem d_cX1_takeApart_53 : decode cX1_takeApart 53 = .ok (.aload_n 0, 1) := by decide +kernel
theorem d_cX1_takeApart_54 : decode cX1_takeApart 54 = .ok (.getfield 74, 3) := by decide +kernel
theorem d_cX1_takeApart_57 : decode cX1_takeApart 57 = .ok (.iload_n 2, 1) := by decide +kernel
theorem d_cX1_takeApart_58 : decode cX1_takeApart 58 = .ok (.iastore, 1) := by decide +kernel
theorem d_cX1_takeApart_59 : decode cX1_takeApart 59 = .ok (.aload_n 0, 1) := by decide +kernel
theorem d_cX1_takeApart_60 : decode cX1_takeApart 60 = .ok (.dup, 1) := by decide +kernel
theorem d_cX1_takeApart_61 : decode cX1_takeApart 61 = .ok (.getfield 74, 3) := by decide +kernel
theorem d_cX1_takeApart_64 : decode cX1_takeApart 64 = .ok (.iconst 1, 1) := by decide +kernel
theorem d_cX1_takeApart_65 : decode cX1_takeApart 65 = .ok (.iadd, 1) := by decide +kernel
theorem d_cX1_takeApart_66 : decode cX1_takeApart 66 = .ok (.putfield 74, 3) := by decide +kernel
theorem d_cX1_coloursAround_0 : decode cX1_coloursAround 0 = .ok (.lconst 0, 1) := by decide +kernel
theorem d_cX1_coloursAround_1 : decode cX1_coloursAround 1 = .ok (.lstore_n 2, 1) := by decide +kernel
theorem d_cX1_coloursAround_2 : decode cX1_coloursAround 2 = .ok (.iconst 0, 1) := by decide +kernel
theorem d_cX1_coloursAround_3 : decode cX1_coloursAround 3 = .ok (.istore 4, 2) := by decide +kernel
theorem d_cX1_coloursAround_5 : decode cX1_coloursAround 5 = .ok (.iload 4, 2) := by decide +kernel
theorem d_cX1_coloursAround_7 : decode cX1_coloursAround 7 = .ok (.aload_n 0, 1) := by decide +kernel
theorem d_cX1_coloursAround_8 : decode cX1_coloursAround 8 = .ok (.getfield 27, 3) := by decide +kernel
theorem d_cX1_coloursAround_11 : decode cX1_coloursAround 11 = .ok (.getfield 101, 3) := by decide +kernel
theorem d_cX1_coloursAround_14 : decode cX1_coloursAround 14 = .ok (.if_icmp .ge 98, 3) := by decide +kernel
theorem d_cX1_coloursAround_112 : decode cX1_coloursAround 112 = .ok (.lload_n 2, 1) := by decide +kernel
theorem d_cX1_coloursAround_113 : decode cX1_coloursAround 113 = .ok (.lreturn, 1) := by decide +kernel
theorem d_cX1_coloursAround_17 : decode cX1_coloursAround 17 = .ok (.aload_n 0, 1) := by decide +kernel
theorem d_cX1_coloursAround_18 : decode cX1_coloursAround 18 = .ok (.getfield 27, 3) := by decide +kernel
theorem d_cX1_coloursAround_21 : decode cX1_coloursAround 21 = .ok (.getfield 104, 3) := by decide +kernel
theorem d_cX1_coloursAround_24 : decode cX1_coloursAround 24 = .ok (.iload_n 1, 1) := by decide +kernel
theorem d_cX1_coloursAround_25 : decode cX1_coloursAround 25 = .ok (.aload_n 0, 1) := by decide +kernel
theorem d_cX1_coloursAround_26 : decode cX1_coloursAround 26 = .ok (.getfield 27, 3) := by decide +kernel
theorem d_cX1_coloursAround_29 : decode cX1_coloursAround 29 = .ok (.getfield 101, 3) := by decide +kernel
theorem d_cX1_coloursAround_32 : decode cX1_coloursAround 32 = .ok (.imul, 1) := by decide +kernel
theorem d_cX1_coloursAround_33 : decode cX1_coloursAround 33 = .ok (.iload 4, 2) := by decide +kernel
theorem d_cX1_coloursAround_35 : decode cX1_coloursAround 35 = .ok (.iadd, 1) := by decide +kernel
theorem d_cX1_coloursAround_36 : decode cX1_coloursAround 36 = .ok (.laload, 1) := by decide +kernel
theorem d_cX1_coloursAround_37 : decode cX1_coloursAround 37 = .ok (.lstore 5, 2) := by decide +kernel
theorem d_cX1_coloursAround_39 : decode cX1_coloursAround 39 = .ok (.iconst 0, 1) := by decide +kernel
theorem d_cX1_coloursAround_40 : decode cX1_coloursAround 40 = .ok (.istore 7, 2) := by decide +kernel
theorem d_cX1_coloursAround_42 : decode cX1_coloursAround 42 = .ok (.iload 7, 2) := by decide +kernel
theorem d_cX1_coloursAround_44 : decode cX1_coloursAround 44 = .ok (.bipush 64, 2) := by decide +kernel
theorem d_cX1_coloursAround_46 : decode cX1_coloursAround 46 = .ok (.if_icmp .ge 60, 3) := by decide +kernel
theorem d_cX1_coloursAround_106 : decode cX1_coloursAround 106 = .ok (.iinc 4 1, 3) := by decide +kernel
theorem d_cX1_coloursAround_109 : decode cX1_coloursAround 109 = .ok (.goto (-104), 3) := by decide +kernel
theorem d_cX1_coloursAround_49 : decode cX1_coloursAround 49 = .ok (.lload 5, 2) := by decide +kernel
theorem d_cX1_coloursAround_51 : decode cX1_coloursAround 51 = .ok (.lconst 0, 1) := by decide +kernel
theorem d_cX1_coloursAround_52 : decode cX1_coloursAround 52 = .ok (.lcmp, 1) := by decide +kernel
theorem d_cX1_coloursAround_53 : decode cX1_coloursAround 53 = .ok (.ifCond .eq 53, 3) := by decide +kernel
theorem d_cX1_coloursAround_56 : decode cX1_coloursAround 56 = .ok (.aload_n 0, 1) := by decide +kernel
theorem d_cX1_coloursAround_57 : decode cX1_coloursAround 57 = .ok (.getfield 24, 3) := by decide +kernel
theorem w_2_83 : (Jvm.Cond.fieldLink "SpillForge$Colouring" (24 : Nat) "SpillForge$Colouring" "colour" "[I") ∈ gw := gw_2 83 rfl rfl
theorem d_cX1_coloursAround_60 : decode cX1_coloursAround 60 = .ok (.iload 4, 2) := by decide +kernel
theorem d_cX1_coloursAround_62 : decode cX1_coloursAround 62 = .ok (.bipush 6, 2) := by decide +kernel
theorem d_cX1_coloursAround_64 : decode cX1_coloursAround 64 = .ok (.ishl, 1) := by decide +kernel
theorem d_cX1_coloursAround_65 : decode cX1_coloursAround 65 = .ok (.lload 5, 2) := by decide +kernel
theorem d_cX1_coloursAround_67 : decode cX1_coloursAround 67 = .ok (.invokestatic 108, 3) := by decide +kernel
theorem d_cX1_coloursAround_70 : decode cX1_coloursAround 70 = .ok (.ior, 1) := by decide +kernel
theorem d_cX1_coloursAround_71 : decode cX1_coloursAround 71 = .ok (.iaload, 1) := by decide +kernel
theorem d_cX1_coloursAround_72 : decode cX1_coloursAround 72 = .ok (.istore 8, 2) := by decide +kernel
theorem d_cX1_coloursAround_74 : decode cX1_coloursAround 74 = .ok (.lload 5, 2) := by decide +kernel
theorem d_cX1_coloursAround_76 : decode cX1_coloursAround 76 = .ok (.lload 5, 2) := by decide +kernel
theorem d_cX1_coloursAround_78 : decode cX1_coloursAround 78 = .ok (.lconst 1, 1) := by decide +kernel
theorem d_cX1_coloursAround_79 : decode cX1_coloursAround 79 = .ok (.lsub, 1) := by decide +kernel
theorem d_cX1_coloursAround_80 : decode cX1_coloursAround 80 = .ok (.land, 1) := by decide +kernel
theorem d_cX1_coloursAround_81 : decode cX1_coloursAround 81 = .ok (.lstore 5, 2) := by decide +kernel
theorem d_cX1_coloursAround_83 : decode cX1_coloursAround 83 = .ok (.lload_n 2, 1) := by decide +kernel
theorem d_cX1_coloursAround_84 : decode cX1_coloursAround 84 = .ok (.iload 8, 2) := by decide +kernel
theorem d_cX1_coloursAround_86 : decode cX1_coloursAround 86 = .ok (.iconst (-1), 1) := by decide +kernel
theorem d_cX1_coloursAround_87 : decode cX1_coloursAround 87 = .ok (.if_icmp .ne 7, 3) := by decide +kernel
theorem d_cX1_coloursAround_94 : decode cX1_coloursAround 94 = .ok (.lconst 1, 1) := by decide +kernel
theorem d_cX1_coloursAround_95 : decode cX1_coloursAround 95 = .ok (.iload 8, 2) := by decide +kernel
theorem d_cX1_coloursAround_97 : decode cX1_coloursAround 97 = .ok (.lshl, 1) := by decide +kernel
theorem d_cX1_coloursAround_98 : decode cX1_coloursAround 98 = .ok (.lor, 1) := by decide +kernel
theorem d_cX1_coloursAround_99 : decode cX1_coloursAround 99 = .ok (.lstore_n 2, 1) := by decide +kernel
theorem d_cX1_coloursAround_100 : decode cX1_coloursAround 100 = .ok (.iinc 7 1, 3) := by decide +kernel
theorem d_cX1_coloursAround_103 : decode cX1_coloursAround 103 = .ok (.goto (-61), 3) := by decide +kernel
theorem d_cX1_coloursAround_90 : decode cX1_coloursAround 90 = .ok (.lconst 0, 1) := by decide +kernel
theorem d_cX1_coloursAround_91 : decode cX1_coloursAround 91 = .ok (.goto 7, 3) := by decide +kernel
abbrev ky_67101_Colouring_leave : gKey := (cX1_leave, 6, yX1_leave.cls, none, [], yX1_leave.name, fun _ _ => True)
abbrev po_67101_Colouring_leave (I : FieldType → ClassId) (q67062 : Nat) (q67063 : Nat) (q67064 : Nat) (q67065 : Nat) (q67066 : Nat) (q67067 : Nat) (q67068 : Nat) (q67069 : Nat) (q67070 : Nat) (q67071 : Nat) (q67072 : Nat) (q67073 : Nat) (q67074 : Nat) (q67075 : Nat) (q67076 : Nat) (p67077 : Int32) (p67078 : Int32) (p67079 : Int32) (p67080 : Int32) (p67081 : Int32) (f67082 : Nat → Int32) (f67083 : Nat → Int32) (f67084 : Nat → Int32) (f67085 : Nat → Int32) (f67086 : Nat → Int32) (p67087 : Int32) (p67088 : Int32) (p67089 : Int32) (f67090 : Nat → Int64) (f67091 : Nat → Int64) (f67092 : Nat → Int32) (f67093 : Nat → Int64) (f67094 : Nat → Int64) (f67095 : Nat → Int64) (f67096 : Nat → Int64) : Option Value → va_W → Prop := fun r w => ∃ (f68143 : Nat → Int32), r = none ∧ w = [(q67062, .inr (6, [.ref q67063, .ref q67064, .ref q67065, .ref q67066, .ref q67067, .ref q67068, .int p67078, .int p67079])), (q67063, .inr (8, [.ref q67069, .ref q67070, .ref q67071, .ref q67072, .int p67080, .int p67081])), (q67064, .inl (I .int, 720, .inl f67082)), (q67065, .inl (I .int, 720, .inl f68143)), (q67066, .inl (I .int, 720, .inl f67084)), (q67067, .inl (I .int, 720, .inl f67085)), (q67068, .inl (I .int, 720, .inl f67086)), (q67069, .inr (10, [.ref q67073, .ref q67074, .ref q67075, .ref q67076, .int p67087, .int p67088, .int p67089])), (q67070, .inl (I .long, 8640, .inr (.inl f67090))), (q67071, .inl (I .long, 12, .inr (.inl f67091))), (q67072, .inl (I .int, 720, .inl f67092)), (q67073, .inl (I .long, 480, .inr (.inl f67093))), (q67074, .inl (I .long, 480, .inr (.inl f67094))), (q67075, .inl (I .long, 480, .inr (.inl f67095))), (q67076, .inl (I .long, 12, .inr (.inl f67096)))] ∧ gF f68143 (-2147483648) 2147483647 ∧ tr_Colouring_leave p67077 p67081 f67083 f67090 f68143
set_option maxRecDepth 100000 in
set_option maxHeartbeats 4000000 in
theorem ct_67101_Colouring_leave (l : Launch) (hl0 : l.stackTraces = false) (D : va_G) (I : FieldType → ClassId) (q67062 : Nat) (q67063 : Nat) (q67064 : Nat) (q67065 : Nat) (q67066 : Nat) (q67067 : Nat) (q67068 : Nat) (q67069 : Nat) (q67070 : Nat) (q67071 : Nat) (q67072 : Nat) (q67073 : Nat) (q67074 : Nat) (q67075 : Nat) (q67076 : Nat) (p67077 : Int32) (p67078 : Int32) (p67079 : Int32) (p67080 : Int32) (p67081 : Int32) (f67082 : Nat → Int32) (f67083 : Nat → Int32) (f67084 : Nat → Int32) (f67085 : Nat → Int32) (f67086 : Nat → Int32) (p67087 : Int32) (p67088 : Int32) (p67089 : Int32) (f67090 : Nat → Int64) (f67091 : Nat → Int64) (f67092 : Nat → Int32) (f67093 : Nat → Int64) (f67094 : Nat → Int64) (f67095 : Nat → Int64) (f67096 : Nat → Int64) (bp67077 : gB p67077 0 719) (bp67078 : gB p67078 0 720) (bp67079 : gB p67079 0 720) (bp67080 : gB p67080 0 720) (bp67081 : gB p67081 0 12) (bf67084 : gF f67084 0 719) (bf67085 : gF f67085 0 719) (bp67087 : gB p67087 0 720) (bp67088 : gB p67088 0 12) (bp67089 : gB p67089 0 1) (x67097 : p67077.toInt < p67080.toInt) (x67098 : p67081.toInt = (p67080.toInt + 63) / 64) (x67099 : lb_W f67090 (p67080.toInt * p67081.toInt) (p67081.toInt) (p67080.toInt)) (x67100 : p67088.toInt = (p67087.toInt + 63) / 64) : Ct (gV D I) l yX1_leave cX1_leave 6 none 2 42 0 0 [.ref q67062, .int p67077] [(q67062, .inr (6, [.ref q67063, .ref q67064, .ref q67065, .ref q67066, .ref q67067, .ref q67068, .int p67078, .int p67079])), (q67063, .inr (8, [.ref q67069, .ref q67070, .ref q67071, .ref q67072, .int p67080, .int p67081])), (q67064, .inl (I .int, 720, .inl f67082)), (q67065, .inl (I .int, 720, .inl f67083)), (q67066, .inl (I .int, 720, .inl f67084)), (q67067, .inl (I .int, 720, .inl f67085)), (q67068, .inl (I .int, 720, .inl f67086)), (q67069, .inr (10, [.ref q67073, .ref q67074, .ref q67075, .ref q67076, .int p67087, .int p67088, .int p67089])), (q67070, .inl (I .long, 8640, .inr (.inl f67090))), (q67071, .inl (I .long, 12, .inr (.inl f67091))), (q67072, .inl (I .int, 720, .inl f67092)), (q67073, .inl (I .long, 480, .inr (.inl f67093))), (q67074, .inl (I .long, 480, .inr (.inl f67094))), (q67075, .inl (I .long, 480, .inr (.inl f67095))), (q67076, .inl (I .long, 12, .inr (.inl f67096)))] (po_67101_Colouring_leave I q67062 q67063 q67064 q67065 q67066 q67067 q67068 q67069 q67070 q67071 q67072 q67073 q67074 q67075 q67076 p67077 p67078 p67079 p67080 p67081 f67082 f67083 f67084 f67085 f67086 p67087 p67088 p67089 f67090 f67091 f67092 f67093 f67094 f67095 f67096) gN := by
  refine Ct_of hl0 (by decide) (Nat.le_of_ble_eq_true rfl) ?_
  refine G_iconst 0 d_cX1_leave_0 (by decide +kernel) ?_
  refine G_istore_n (L' := [(2, .int 0), (0, .ref q67062), (1, .int p67077)]) d_cX1_leave_1 (Nat.le_of_ble_eq_true rfl) rfl ?_
  have hlp2_67991 : ∀ (n2_67991 : Nat) (g67990 : Int32) (f67991 : Nat → Int32), gB g67990 0 12 → gF f67991 (-2147483648) 2147483647 → (∀ (k : Nat) (e1 : Nat → Int32), tl_Colouring_leave_2 p67081 p67077 f67090 g67990 f67991 k e1 → tl_Colouring_leave_2 p67081 p67077 f67090 (0 : Int32) f67083 k e1) → ((13 : Int) - g67990.toInt).toNat < n2_67991 → G (gV D I) l (gRm 2 42 0 0) (gM (gV D I) (po_67101_Colouring_leave I q67062 q67063 q67064 q67065 q67066 q67067 q67068 q67069 q67070 q67071 q67072 q67073 q67074 q67075 q67076 p67077 p67078 p67079 p67080 p67081 f67082 f67083 f67084 f67085 f67086 p67087 p67088 p67089 f67090 f67091 f67092 f67093 f67094 f67095 f67096) gN 0 0) ky_67101_Colouring_leave 2 [(2, .int g67990), (0, .ref q67062), (1, .int p67077)] [] [(q67062, .inr (6, [.ref q67063, .ref q67064, .ref q67065, .ref q67066, .ref q67067, .ref q67068, .int p67078, .int p67079])), (q67063, .inr (8, [.ref q67069, .ref q67070, .ref q67071, .ref q67072, .int p67080, .int p67081])), (q67064, .inl (I .int, 720, .inl f67082)), (q67065, .inl (I .int, 720, .inl f67991)), (q67066, .inl (I .int, 720, .inl f67084)), (q67067, .inl (I .int, 720, .inl f67085)), (q67068, .inl (I .int, 720, .inl f67086)), (q67069, .inr (10, [.ref q67073, .ref q67074, .ref q67075, .ref q67076, .int p67087, .int p67088, .int p67089])), (q67070, .inl (I .long, 8640, .inr (.inl f67090))), (q67071, .inl (I .long, 12, .inr (.inl f67091))), (q67072, .inl (I .int, 720, .inl f67092)), (q67073, .inl (I .long, 480, .inr (.inl f67093))), (q67074, .inl (I .long, 480, .inr (.inl f67094))), (q67075, .inl (I .long, 480, .inr (.inl f67095))), (q67076, .inl (I .long, 12, .inr (.inl f67096)))] 0 0 := by
    intro n2_67991
    induction n2_67991 with
    | zero => intro g67990 f67991 bg67990 bf67991 kt2_67991 hm2_67991; exact absurd hm2_67991 (Nat.not_lt_zero _)
    | succ n2_67991 ih2_67991 =>
      intro g67990 f67991 bg67990 bf67991 kt2_67991 hm2_67991
      refine G_iload_n 0 d_cX1_leave_2 rfl ?_
      refine G_aload_n 1 d_cX1_leave_3 rfl ?_
      refine G_getf 0 0 d_cX1_leave_4 rfl (gk_X1 D I) (Nat.le_of_ble_eq_true rfl) w_2_78 rfl ?_
      refine G_getfN 1 5 d_cX1_leave_7 rfl (gk_X3 D I) (Nat.le_of_ble_eq_true rfl) (fun _ _ _ h => gn_w 60 rfl h) rfl ?_
      refine G_icmp_ge 85 d_cX1_leave_10 (by decide +kernel) (fun hc67992 => ?_) (fun hc67992 => ?_)
      · have r67993 : p67081.toInt ≤ g67990.toInt := gC_le hc67992
        have hx67994 : tl_Colouring_leave_2 p67081 p67077 f67090 (0 : Int32) f67083 85 f67991 := kt2_67991 85 f67991 (fun R c1 c2 => c1 g67990 f67991 bg67990 r67993)
        exact G_vret d_cX1_leave_85 rfl (Nat.le_of_ble_eq_true rfl) (Nat.le_of_ble_eq_true rfl) ⟨f67991, rfl, rfl, bf67991, (fun R c1 => c1 f67991 hx67994)⟩
      · have r67995 : g67990.toInt < p67081.toInt := gC_nle hc67992
        have bg67990' : gB g67990 0 11 := ⟨by omega, by omega⟩
        have bp67081' : gB p67081 1 12 := ⟨by omega, by omega⟩
        refine G_aload_n 1 d_cX1_leave_13 rfl ?_
        refine G_getf 0 0 d_cX1_leave_14 rfl (gk_X1 D I) (Nat.le_of_ble_eq_true rfl) w_2_78 rfl ?_
        refine G_getfN 1 1 d_cX1_leave_17 rfl (gk_X3 D I) (Nat.le_of_ble_eq_true rfl) (fun _ _ _ h => gn_w 56 rfl h) rfl ?_
        refine G_iload_n 2 d_cX1_leave_20 rfl ?_
        refine G_aload_n 1 d_cX1_leave_21 rfl ?_
        refine G_getf 0 0 d_cX1_leave_22 rfl (gk_X1 D I) (Nat.le_of_ble_eq_true rfl) w_2_78 rfl ?_
        refine G_getfN 1 5 d_cX1_leave_25 rfl (gk_X3 D I) (Nat.le_of_ble_eq_true rfl) (fun _ _ _ h => gn_w 60 rfl h) rfl ?_
        refine G_imul d_cX1_leave_28 (G_nam fun z67996 hz67996 => ?_)
        have ez67996 : z67996.toInt = p67077.toInt * p67081.toInt := by rw [gI_mul hz67996 bp67077 bp67081' (by decide) (by decide) (by decide)]
        have bz67996 : gB z67996 0 8628 := gB_mul hz67996 bp67077 bp67081' (by decide) (by decide) (by decide) (by decide)
        refine G_iload_n 0 d_cX1_leave_29 rfl ?_
        refine G_iadd d_cX1_leave_30 (G_nam fun z67997 hz67997 => ?_)
        have ez67997 : z67997.toInt = z67996.toInt + g67990.toInt := by rw [gI_add hz67997 bz67996 bg67990' (by decide) (by decide)]
        have bz67997 : gB z67997 0 8639 := gB_add (gI_add hz67997 bz67996 bg67990' (by decide) (by decide)) bz67996 bg67990' (by decide) (by decide)
        refine G_lald 8 2 d_cX1_leave_31 rfl rfl (gB_in bz67997 (by decide) (by decide)) (G_namL fun u67998 hu67998 => ?_)
        have qu67998 : lb_Q u67998 (p67080.toInt - 64 * g67990.toInt) := lb_Wld hu67998 x67099 (by omega) (lb_Lt1 ez67997 ez67996 (by omega) (by omega) (by omega)) (lb_Mod1 ez67997 ez67996 (by omega) (by omega))
        refine G_lstore_n (L' := [(3, .long u67998), (2, .int g67990), (0, .ref q67062), (1, .int p67077)]) d_cX1_leave_32 (Nat.le_of_ble_eq_true rfl) rfl ?_
        refine G_iconst 0 d_cX1_leave_33 (by decide +kernel) ?_
        refine G_istore (L' := [(5, .int 0), (3, .long u67998), (2, .int g67990), (0, .ref q67062), (1, .int p67077)]) d_cX1_leave_34 (Nat.le_of_ble_eq_true rfl) rfl ?_
        have hlp36_68120 : ∀ (n36_68120 : Nat) (g68117 : Int32) (gl68118 : Int64) (f68119 : Nat → Int32), gB g68117 0 64 → gF f68119 (-2147483648) 2147483647 → lb_Q gl68118 (p67080.toInt - 64 * g67990.toInt) → (∀ (k : Nat) (e1 : Nat → Int32), tl_Colouring_leave_36 g67990 g68117 gl68118 f68119 k e1 → tl_Colouring_leave_36 g67990 (0 : Int32) u67998 f67991 k e1) → ((65 : Int) - g68117.toInt).toNat < n36_68120 → G (gV D I) l (gRm 2 42 0 0) (gM (gV D I) (po_67101_Colouring_leave I q67062 q67063 q67064 q67065 q67066 q67067 q67068 q67069 q67070 q67071 q67072 q67073 q67074 q67075 q67076 p67077 p67078 p67079 p67080 p67081 f67082 f67083 f67084 f67085 f67086 p67087 p67088 p67089 f67090 f67091 f67092 f67093 f67094 f67095 f67096) gN 0 0) ky_67101_Colouring_leave 36 [(5, .int g68117), (3, .long gl68118), (2, .int g67990), (0, .ref q67062), (1, .int p67077)] [] [(q67062, .inr (6, [.ref q67063, .ref q67064, .ref q67065, .ref q67066, .ref q67067, .ref q67068, .int p67078, .int p67079])), (q67063, .inr (8, [.ref q67069, .ref q67070, .ref q67071, .ref q67072, .int p67080, .int p67081])), (q67064, .inl (I .int, 720, .inl f67082)), (q67065, .inl (I .int, 720, .inl f68119)), (q67066, .inl (I .int, 720, .inl f67084)), (q67067, .inl (I .int, 720, .inl f67085)), (q67068, .inl (I .int, 720, .inl f67086)), (q67069, .inr (10, [.ref q67073, .ref q67074, .ref q67075, .ref q67076, .int p67087, .int p67088, .int p67089])), (q67070, .inl (I .long, 8640, .inr (.inl f67090))), (q67071, .inl (I .long, 12, .inr (.inl f67091))), (q67072, .inl (I .int, 720, .inl f67092)), (q67073, .inl (I .long, 480, .inr (.inl f67093))), (q67074, .inl (I .long, 480, .inr (.inl f67094))), (q67075, .inl (I .long, 480, .inr (.inl f67095))), (q67076, .inl (I .long, 12, .inr (.inl f67096)))] 0 0 := by
          intro n36_68120
          induction n36_68120 with
          | zero => intro g68117 gl68118 f68119 bg68117 bf68119 x68120 kt36_68120 hm36_68120; exact absurd hm36_68120 (Nat.not_lt_zero _)
          | succ n36_68120 ih36_68120 =>
            intro g68117 gl68118 f68119 bg68117 bf68119 x68120 kt36_68120 hm36_68120
            refine G_iload 0 d_cX1_leave_36 rfl ?_
            refine G_bipush 64 d_cX1_leave_38 (by decide +kernel) ?_
            refine G_icmp_ge 79 d_cX1_leave_40 (by decide +kernel) (fun hc68121 => ?_) (fun hc68121 => ?_)
            · have r68122 : 64 ≤ g68117.toInt := gj_leL hc68121 (show Int32.toInt 64 = 64 by decide)
              have bg68117' : gB g68117 64 64 := ⟨by omega, by omega⟩
              have hx68123 : tl_Colouring_leave_36 g67990 (0 : Int32) u67998 f67991 79 f68119 := kt36_68120 79 f68119 (fun R c1 c2 c3 => c1 g68117 gl68118 f68119 bg68117 r68122)
              obtain ⟨z68124, hz68124⟩ : ∃ z : Int32, z = g67990 + Int32.ofInt 1 := ⟨_, rfl⟩
              have ez68124 : z68124.toInt = g67990.toInt + 1 := gI_inc hz68124 (by decide) bg67990' (by decide) (by decide)
              have bz68124 : gB z68124 1 12 := ⟨by omega, by omega⟩
              refine G_iinc (L' := [(2, .int z68124), (5, .int g68117), (3, .long gl68118), (0, .ref q67062), (1, .int p67077)]) z68124 2 d_cX1_leave_79 rfl hz68124.symm (Nat.le_of_ble_eq_true rfl) rfl ?_
              refine G_goto 2 d_cX1_leave_82 (by decide +kernel) ?_
              refine G_lv (L' := [(2, .int z68124), (0, .ref q67062), (1, .int p67077)]) [0, 3, 4] rfl ?_
              exact ih2_67991 z68124 f68119 (gB_w bz68124 (by decide) (by decide)) bf68119 (fun k e1 ht => kt2_67991 k e1 (fun R c1 c2 => c2 g67990 f67991 z67996 z67997 u67998 f68119 z68124 k e1 bg67990 r67995 ez67996 ez67997 hu67998 hx68123 ez68124 (ht R c1 c2))) (by omega)
            · have r68125 : g68117.toInt < 64 := gj_nleL hc68121 (show Int32.toInt 64 = 64 by decide)
              have bg68117' : gB g68117 0 63 := ⟨by omega, by omega⟩
              refine G_lload_n 1 d_cX1_leave_43 rfl ?_
              refine G_lconst 0 d_cX1_leave_44 rfl ?_
              refine G_lcmp d_cX1_leave_45 (G_nam fun z68126 hz68126 => ?_)
              have bz68126 : gB z68126 (-1) 1 := gB_cmp hz68126
              refine G_if_eq 79 d_cX1_leave_46 (by decide +kernel) (fun hc68127 => ?_) (fun hc68127 => ?_)
              · have r68128 : z68126.toInt = 0 := gj_eq hc68127 (show Int32.toInt 0 = 0 by decide)
                have bz68126' : gB z68126 0 0 := ⟨by omega, by omega⟩
                have lhc68127 := gC_cmpE hz68126 hc68127
                have hx68129 : tl_Colouring_leave_36 g67990 (0 : Int32) u67998 f67991 79 f68119 := kt36_68120 79 f68119 (fun R c1 c2 c3 => c2 g68117 gl68118 f68119 bg68117 r68125 lhc68127)
                obtain ⟨z68130, hz68130⟩ : ∃ z : Int32, z = g67990 + Int32.ofInt 1 := ⟨_, rfl⟩
                have ez68130 : z68130.toInt = g67990.toInt + 1 := gI_inc hz68130 (by decide) bg67990' (by decide) (by decide)
                have bz68130 : gB z68130 1 12 := ⟨by omega, by omega⟩
                refine G_iinc (L' := [(2, .int z68130), (5, .int g68117), (3, .long gl68118), (0, .ref q67062), (1, .int p67077)]) z68130 2 d_cX1_leave_79 rfl hz68130.symm (Nat.le_of_ble_eq_true rfl) rfl ?_
                refine G_goto 2 d_cX1_leave_82 (by decide +kernel) ?_
                refine G_lv (L' := [(2, .int z68130), (0, .ref q67062), (1, .int p67077)]) [0, 3, 4] rfl ?_
                exact ih2_67991 z68130 f68119 (gB_w bz68130 (by decide) (by decide)) bf68119 (fun k e1 ht => kt2_67991 k e1 (fun R c1 c2 => c2 g67990 f67991 z67996 z67997 u67998 f68119 z68130 k e1 bg67990 r67995 ez67996 ez67997 hu67998 hx68129 ez68130 (ht R c1 c2))) (by omega)
              · have r68131 : z68126.toInt ≠ 0 := gj_neq hc68127 (show Int32.toInt 0 = 0 by decide)
                have lhc68127 := gC_cmpN hz68126 hc68127
                refine G_aload_n 3 d_cX1_leave_49 rfl ?_
                refine G_getf 0 2 d_cX1_leave_50 rfl (gk_X1 D I) (Nat.le_of_ble_eq_true rfl) w_2_80 rfl ?_
                refine G_iload_n 2 d_cX1_leave_53 rfl ?_
                refine G_bipush 6 d_cX1_leave_54 (by decide +kernel) ?_
                refine G_ishl d_cX1_leave_56 (G_nam fun z68132 hz68132 => ?_)
                have ez68132 : z68132.toInt = g67990.toInt * 64 := gI_shl (k := 6) hz68132 (by decide) bg67990' (by decide) (by decide)
                have bz68132 : gB z68132 0 704 := ⟨by omega, by omega⟩
                refine G_lload_n 1 d_cX1_leave_57 rfl ?_
                refine G_callSN (As := [.long gl68118]) (wr := [(q67062, .inr (6, [.ref q67063, .ref q67064, .ref q67065, .ref q67066, .ref q67067, .ref q67068, .int p67078, .int p67079])), (q67063, .inr (8, [.ref q67069, .ref q67070, .ref q67071, .ref q67072, .int p67080, .int p67081])), (q67064, .inl (I .int, 720, .inl f67082)), (q67065, .inl (I .int, 720, .inl f68119)), (q67066, .inl (I .int, 720, .inl f67084)), (q67067, .inl (I .int, 720, .inl f67085)), (q67068, .inl (I .int, 720, .inl f67086)), (q67069, .inr (10, [.ref q67073, .ref q67074, .ref q67075, .ref q67076, .int p67087, .int p67088, .int p67089])), (q67070, .inl (I .long, 8640, .inr (.inl f67090))), (q67071, .inl (I .long, 12, .inr (.inl f67091))), (q67072, .inl (I .int, 720, .inl f67092)), (q67073, .inl (I .long, 480, .inr (.inl f67093))), (q67074, .inl (I .long, 480, .inr (.inl f67094))), (q67075, .inl (I .long, 480, .inr (.inl f67095))), (q67076, .inl (I .long, 12, .inr (.inl f67096)))]) (gV_ok D I) (ct_31023_SpillForge_lowestBit l hl0 D I gl68118 ) d_cX1_leave_58 ⟨(fun _ _ _ h => gn_w 73 rfl h), w_1_1, w_4_127, by decide, rfl, (Nat.le_of_ble_eq_true rfl), (Nat.le_of_ble_eq_true rfl)⟩ w_4_126 [] [0, 1, 2, 3, 4, 5, 6, 7, 8, 9, 10, 11, 12, 13, 14] rfl rfl rfl rfl (by decide) (Nat.le_of_ble_eq_true rfl) (Nat.le_of_ble_eq_true rfl) (Nat.le_of_ble_eq_true rfl) (fun r w hp => ?_)
                obtain ⟨o68133, rfl, rfl, bo68133, x68134, ht68135⟩ := hp
                have lwo68133 := lb_lowE lhc68127 x68134
                have bo68133' : gB o68133 0 63 := ⟨by omega, by omega⟩
                have lqo68133 : o68133.toInt < p67080.toInt - 64 * g67990.toInt := lb_lowQ lwo68133 x68120
                change G _ _ _ _ _ _ _ (.int o68133 :: _) _ _ _
                refine G_ws (ws' := [(q67062, .inr (6, [.ref q67063, .ref q67064, .ref q67065, .ref q67066, .ref q67067, .ref q67068, .int p67078, .int p67079])), (q67063, .inr (8, [.ref q67069, .ref q67070, .ref q67071, .ref q67072, .int p67080, .int p67081])), (q67064, .inl (I .int, 720, .inl f67082)), (q67065, .inl (I .int, 720, .inl f68119)), (q67066, .inl (I .int, 720, .inl f67084)), (q67067, .inl (I .int, 720, .inl f67085)), (q67068, .inl (I .int, 720, .inl f67086)), (q67069, .inr (10, [.ref q67073, .ref q67074, .ref q67075, .ref q67076, .int p67087, .int p67088, .int p67089])), (q67070, .inl (I .long, 8640, .inr (.inl f67090))), (q67071, .inl (I .long, 12, .inr (.inl f67091))), (q67072, .inl (I .int, 720, .inl f67092)), (q67073, .inl (I .long, 480, .inr (.inl f67093))), (q67074, .inl (I .long, 480, .inr (.inl f67094))), (q67075, .inl (I .long, 480, .inr (.inl f67095))), (q67076, .inl (I .long, 12, .inr (.inl f67096)))]) (cs' := 0) (sl' := 0) rfl rfl rfl ?_
                refine G_ior d_cX1_leave_61 (G_nam fun z68136 hz68136 => ?_)
                have ez68136 : z68136.toInt = z68132.toInt + o68133.toInt := gI_or (k := 6) (m := (g67990.toInt).toNat) hz68136 (by omega) (bo68133') (by decide) (by omega)
                have bz68136 : gB z68136 0 767 := ⟨by omega, by omega⟩
                refine G_dup2_11 d_cX1_leave_62 rfl rfl ?_
                refine G_iald 3 0 d_cX1_leave_63 rfl rfl (gB_inr (by omega) (by omega)) (G_nam fun z68137 hz68137 => ?_)
                have bz68137 : gB z68137 (-2147483648) 2147483647 := by rw [hz68137]; exact bf68119 _
                refine G_iconst 1 d_cX1_leave_64 (by decide +kernel) ?_
                refine G_isub d_cX1_leave_65 (G_nam fun z68138 hz68138 => ?_)
                have bz68138 : gB z68138 (-2147483648) 2147483647 := gB_any z68138
                refine G_iastN 3 0 d_cX1_leave_66 rfl rfl (gB_inr (by omega) (by omega)) (fun f68139 hf68139 => ?_)
                refine G_ws (ws' := [(q67062, .inr (6, [.ref q67063, .ref q67064, .ref q67065, .ref q67066, .ref q67067, .ref q67068, .int p67078, .int p67079])), (q67063, .inr (8, [.ref q67069, .ref q67070, .ref q67071, .ref q67072, .int p67080, .int p67081])), (q67064, .inl (I .int, 720, .inl f67082)), (q67065, .inl (I .int, 720, .inl f68139)), (q67066, .inl (I .int, 720, .inl f67084)), (q67067, .inl (I .int, 720, .inl f67085)), (q67068, .inl (I .int, 720, .inl f67086)), (q67069, .inr (10, [.ref q67073, .ref q67074, .ref q67075, .ref q67076, .int p67087, .int p67088, .int p67089])), (q67070, .inl (I .long, 8640, .inr (.inl f67090))), (q67071, .inl (I .long, 12, .inr (.inl f67091))), (q67072, .inl (I .int, 720, .inl f67092)), (q67073, .inl (I .long, 480, .inr (.inl f67093))), (q67074, .inl (I .long, 480, .inr (.inl f67094))), (q67075, .inl (I .long, 480, .inr (.inl f67095))), (q67076, .inl (I .long, 12, .inr (.inl f67096)))]) (cs' := 0) (sl' := 0) rfl rfl rfl ?_
                refine G_lload_n 1 d_cX1_leave_67 rfl ?_
                refine G_lload_n 1 d_cX1_leave_68 rfl ?_
                refine G_lconst 1 d_cX1_leave_69 rfl ?_
                refine G_lsub d_cX1_leave_70 (G_namL fun u68140 hu68140 => ?_)
                refine G_land d_cX1_leave_71 (G_namL fun u68141 hu68141 => ?_)
                have qu68141 : lb_Q u68141 (p67080.toInt - 64 * g67990.toInt) := lb_QandL hu68141 x68120
                refine G_lstore_n (L' := [(3, .long u68141), (5, .int g68117), (2, .int g67990), (0, .ref q67062), (1, .int p67077)]) d_cX1_leave_72 (Nat.le_of_ble_eq_true rfl) rfl ?_
                obtain ⟨z68142, hz68142⟩ : ∃ z : Int32, z = g68117 + Int32.ofInt 1 := ⟨_, rfl⟩
                have ez68142 : z68142.toInt = g68117.toInt + 1 := gI_inc hz68142 (by decide) bg68117' (by decide) (by decide)
                have bz68142 : gB z68142 1 64 := ⟨by omega, by omega⟩
                refine G_iinc (L' := [(5, .int z68142), (3, .long u68141), (2, .int g67990), (0, .ref q67062), (1, .int p67077)]) z68142 1 d_cX1_leave_73 rfl hz68142.symm (Nat.le_of_ble_eq_true rfl) rfl ?_
                refine G_goto 36 d_cX1_leave_76 (by decide +kernel) ?_
                exact ih36_68120 z68142 u68141 f68139 (gB_w bz68142 (by decide) (by decide)) (gF_any f68139) qu68141 (fun k e1 ht => kt36_68120 k e1 (fun R c1 c2 c3 => c3 g68117 gl68118 f68119 z68132 o68133 z68136 z68137 z68138 f68139 u68140 u68141 z68142 k e1 bg68117 r68125 lhc68127 ez68132 bo68133 ht68135 ez68136 hz68137 hz68138 hf68139 hu68140 hu68141 ez68142 (ht R c1 c2 c3))) (by omega)
        exact hlp36_68120 (((65 : Int) - 0).toNat + 1) 0 u67998 f67991 (gB_w (gBl (show Int32.toInt 0 = 0 by decide)) (by decide) (by decide)) bf67991 qu67998 (fun k e1 ht => ht) (Nat.lt_succ_self _)
  exact hlp2_67991 (((13 : Int) - 0).toNat + 1) 0 f67083 (gB_w (gBl (show Int32.toInt 0 = 0 by decide)) (by decide) (by decide)) (gF_any f67083) (fun k e1 ht => ht) (Nat.lt_succ_self _)
/- tl_Colouring_takeApart_80: l2, Colouring_restSize, Colouring_pileSize, Colouring_degree, Colouring_rest, Colouring_pile; out: Colouring_restSize, Colouring_pileSize, Colouring_degree, Colouring_rest, Colouring_pile -/
def tl_Colouring_takeApart_80 (a1 : Int32) (Colouring_weight : Nat → Int32) (Graph_words : Int32) (Graph_joined : Nat → Int64) (s1 : Int32) (s2 : Int32) (s3 : Int32) (s4 : Nat → Int32) (s5 : Nat → Int32) (s6 : Nat → Int32) (k : Nat) (e1 : Int32) (e2 : Int32) (e3 : Nat → Int32) (e4 : Nat → Int32) (e5 : Nat → Int32) : Prop := ∀ R : (Int32) → (Int32) → (Int32) → (Nat → Int32) → (Nat → Int32) → (Nat → Int32) → Nat → (Int32) → (Int32) → (Nat → Int32) → (Nat → Int32) → (Nat → Int32) → Prop,
  (∀ (l2_1 : Int32) (Colouring_restSize_1 : Int32) (Colouring_pileSize_1 : Int32) (Colouring_degree_1 : Nat → Int32) (Colouring_rest_1 : Nat → Int32) (Colouring_pile_1 : Nat → Int32), gB l2_1 0 720 → gB Colouring_restSize_1 0 720 → gB Colouring_pileSize_1 0 720 → l2_1.toInt ≤ 0 → R l2_1 Colouring_restSize_1 Colouring_pileSize_1 Colouring_degree_1 Colouring_rest_1 Colouring_pile_1 162 Colouring_restSize_1 Colouring_pileSize_1 Colouring_degree_1 Colouring_rest_1 Colouring_pile_1) →
  (∀ (l2_1 : Int32) (Colouring_restSize_1 : Int32) (Colouring_pileSize_1 : Int32) (Colouring_degree_1 : Nat → Int32) (Colouring_rest_1 : Nat → Int32) (Colouring_pile_1 : Nat → Int32) (x1 : Int32) (x2 : Int32) (x3 : Int32) (x4 : Int32) (x5 : Int32) (x6 : Nat → Int32) (x7 : Nat → Int32) (x8 : Int32) (x9 : Nat → Int32) (x10 : Int32) (k : Nat) (e1 : Int32) (e2 : Int32) (e3 : Nat → Int32) (e4 : Nat → Int32) (e5 : Nat → Int32), gB l2_1 0 720 → gB Colouring_restSize_1 0 720 → gB Colouring_pileSize_1 0 720 → 0 < l2_1.toInt → gB x1 0 2147483647 → tr_Colouring_nextOfRest a1 Colouring_restSize_1 Colouring_weight Colouring_degree_1 Colouring_rest_1 x1 → x2 = Colouring_rest_1 x1.toNatClampNeg → gB x2 0 719 → x3.toInt = Colouring_restSize_1.toInt - 1 → x4.toInt = x1.toInt + 1 → x5.toInt = x3.toInt - x1.toInt → x6 = va_cpy Colouring_rest_1 Colouring_rest_1 x4.toNatClampNeg x1.toNatClampNeg x5.toNatClampNeg → x7 = upd Colouring_pile_1 Colouring_pileSize_1.toNatClampNeg x2 → x8.toInt = Colouring_pileSize_1.toInt + 1 → tr_Colouring_leave x2 Graph_words Colouring_degree_1 Graph_joined x9 → x10.toInt = l2_1.toInt + (-1) → R x10 x3 x8 x9 x6 x7 k e1 e2 e3 e4 e5 → R l2_1 Colouring_restSize_1 Colouring_pileSize_1 Colouring_degree_1 Colouring_rest_1 Colouring_pile_1 k e1 e2 e3 e4 e5) →
  R s1 s2 s3 s4 s5 s6 k e1 e2 e3 e4 e5
/- tl_Colouring_takeApart_12: l2, Colouring_degree, Colouring_restSize, Colouring_rest; out: Colouring_restSize, Colouring_degree, Colouring_rest -/
def tl_Colouring_takeApart_12 (Graph_names : Int32) (Graph_degree : Nat → Int32) (Graph_standing : Nat → Int64) (s1 : Int32) (s2 : Nat → Int32) (s3 : Int32) (s4 : Nat → Int32) (k : Nat) (e1 : Int32) (e2 : Nat → Int32) (e3 : Nat → Int32) : Prop := ∀ R : (Int32) → (Nat → Int32) → (Int32) → (Nat → Int32) → Nat → (Int32) → (Nat → Int32) → (Nat → Int32) → Prop,
  (∀ (l2_1 : Int32) (Colouring_degree_1 : Nat → Int32) (Colouring_restSize_1 : Int32) (Colouring_rest_1 : Nat → Int32), gB l2_1 0 2147483647 → gB Colouring_restSize_1 0 720 → Graph_names.toInt ≤ l2_1.toInt → R l2_1 Colouring_degree_1 Colouring_restSize_1 Colouring_rest_1 75 Colouring_restSize_1 Colouring_degree_1 Colouring_rest_1) →
  (∀ (l2_1 : Int32) (Colouring_degree_1 : Nat → Int32) (Colouring_restSize_1 : Int32) (Colouring_rest_1 : Nat → Int32) (x1 : Int32) (x2 : Nat → Int32) (x3 : Int32) (k : Nat) (e1 : Int32) (e2 : Nat → Int32) (e3 : Nat → Int32), gB l2_1 0 2147483647 → gB Colouring_restSize_1 0 720 → l2_1.toInt < Graph_names.toInt → x1 = Graph_degree l2_1.toNatClampNeg → x2 = upd Colouring_degree_1 l2_1.toNatClampNeg x1 → tr_Graph_stands l2_1 Graph_names Graph_standing (0 : Int32) → x3.toInt = l2_1.toInt + 1 → R x3 x2 Colouring_restSize_1 Colouring_rest_1 k e1 e2 e3 → R l2_1 Colouring_degree_1 Colouring_restSize_1 Colouring_rest_1 k e1 e2 e3) →
  (∀ (l2_1 : Int32) (Colouring_degree_1 : Nat → Int32) (Colouring_restSize_1 : Int32) (Colouring_rest_1 : Nat → Int32) (x1 : Int32) (x2 : Nat → Int32) (x3 : Nat → Int32) (x4 : Int32) (x5 : Int32) (k : Nat) (e1 : Int32) (e2 : Nat → Int32) (e3 : Nat → Int32), gB l2_1 0 2147483647 → gB Colouring_restSize_1 0 720 → l2_1.toInt < Graph_names.toInt → x1 = Graph_degree l2_1.toNatClampNeg → x2 = upd Colouring_degree_1 l2_1.toNatClampNeg x1 → tr_Graph_stands l2_1 Graph_names Graph_standing (1 : Int32) → x3 = upd Colouring_rest_1 Colouring_restSize_1.toNatClampNeg l2_1 → x4.toInt = Colouring_restSize_1.toInt + 1 → x5.toInt = l2_1.toInt + 1 → R x5 x2 x4 x3 k e1 e2 e3 → R l2_1 Colouring_degree_1 Colouring_restSize_1 Colouring_rest_1 k e1 e2 e3) →
  R s1 s2 s3 s4 k e1 e2 e3
/- tr_Colouring_takeApart: Colouring_restSize, Colouring_pileSize, Colouring_degree, Colouring_rest, Colouring_pile -/
def tr_Colouring_takeApart (a1 : Int32) (Graph_names : Int32) (Graph_words : Int32) (Colouring_weight : Nat → Int32) (Colouring_degree : Nat → Int32) (Colouring_rest : Nat → Int32) (Colouring_pile : Nat → Int32) (Graph_joined : Nat → Int64) (Graph_standing : Nat → Int64) (Graph_degree : Nat → Int32) (o1 : Int32) (o2 : Int32) (o3 : Nat → Int32) (o4 : Nat → Int32) (o5 : Nat → Int32) : Prop := ∀ R : (Int32) → (Int32) → (Nat → Int32) → (Nat → Int32) → (Nat → Int32) → Prop,
  (∀ (x1 : Int32) (x2 : Nat → Int32) (x3 : Nat → Int32) (x4 : Int32) (x5 : Int32) (x6 : Nat → Int32) (x7 : Nat → Int32) (x8 : Nat → Int32), tl_Colouring_takeApart_12 Graph_names Graph_degree Graph_standing (0 : Int32) Colouring_degree (0 : Int32) Colouring_rest 75 x1 x2 x3 → tl_Colouring_takeApart_80 a1 Colouring_weight Graph_words Graph_joined x1 x1 (0 : Int32) x2 x3 Colouring_pile 162 x4 x5 x6 x7 x8 → R x4 x5 x6 x7 x8) →
  R o1 o2 o3 o4 o5
abbrev ky_65914_Colouring_takeApart : gKey := (cX1_takeApart, 5, yX1_takeApart.cls, none, [], yX1_takeApart.name, fun _ _ => True)
abbrev po_65914_Colouring_takeApart (I : FieldType → ClassId) (q65876 : Nat) (q65877 : Nat) (q65878 : Nat) (q65879 : Nat) (q65880 : Nat) (q65881 : Nat) (q65882 : Nat) (q65883 : Nat) (q65884 : Nat) (q65885 : Nat) (q65886 : Nat) (q65887 : Nat) (q65888 : Nat) (q65889 : Nat) (q65890 : Nat) (p65891 : Int32) (p65892 : Int32) (p65893 : Int32) (p65894 : Int32) (p65895 : Int32) (f65896 : Nat → Int32) (f65897 : Nat → Int32) (f65898 : Nat → Int32) (f65899 : Nat → Int32) (f65900 : Nat → Int32) (p65901 : Int32) (p65902 : Int32) (p65903 : Int32) (f65904 : Nat → Int64) (f65905 : Nat → Int64) (f65906 : Nat → Int32) (f65907 : Nat → Int64) (f65908 : Nat → Int64) (f65909 : Nat → Int64) (f65910 : Nat → Int64) : Option Value → va_W → Prop := fun r w => ∃ (o68830 : Int32) (o68831 : Int32) (f68832 : Nat → Int32) (f68833 : Nat → Int32) (f68834 : Nat → Int32), r = none ∧ w = [(q65876, .inr (6, [.ref q65877, .ref q65878, .ref q65879, .ref q65880, .ref q65881, .ref q65882, .int o68830, .int o68831])), (q65877, .inr (8, [.ref q65883, .ref q65884, .ref q65885, .ref q65886, .int p65894, .int p65895])), (q65878, .inl (I .int, 720, .inl f65896)), (q65879, .inl (I .int, 720, .inl f68832)), (q65880, .inl (I .int, 720, .inl f68833)), (q65881, .inl (I .int, 720, .inl f68834)), (q65882, .inl (I .int, 720, .inl f65900)), (q65883, .inr (10, [.ref q65887, .ref q65888, .ref q65889, .ref q65890, .int p65901, .int p65902, .int p65903])), (q65884, .inl (I .long, 8640, .inr (.inl f65904))), (q65885, .inl (I .long, 12, .inr (.inl f65905))), (q65886, .inl (I .int, 720, .inl f65906)), (q65887, .inl (I .long, 480, .inr (.inl f65907))), (q65888, .inl (I .long, 480, .inr (.inl f65908))), (q65889, .inl (I .long, 480, .inr (.inl f65909))), (q65890, .inl (I .long, 12, .inr (.inl f65910)))] ∧ gB o68830 0 720 ∧ gB o68831 0 720 ∧ gF f68832 (-2147483648) 2147483647 ∧ gF f68833 0 719 ∧ gF f68834 0 719 ∧ gP f68834 (o68831.toInt) (p65894.toInt) ∧ tr_Colouring_takeApart p65891 p65894 p65895 f65896 f65897 f65898 f65899 f65904 f65905 f65906 o68830 o68831 f68832 f68833 f68834
set_option maxRecDepth 100000 in
set_option maxHeartbeats 4000000 in
theorem ct_65914_Colouring_takeApart (l : Launch) (hl0 : l.stackTraces = false) (D : va_G) (I : FieldType → ClassId) (q65876 : Nat) (q65877 : Nat) (q65878 : Nat) (q65879 : Nat) (q65880 : Nat) (q65881 : Nat) (q65882 : Nat) (q65883 : Nat) (q65884 : Nat) (q65885 : Nat) (q65886 : Nat) (q65887 : Nat) (q65888 : Nat) (q65889 : Nat) (q65890 : Nat) (p65891 : Int32) (p65892 : Int32) (p65893 : Int32) (p65894 : Int32) (p65895 : Int32) (f65896 : Nat → Int32) (f65897 : Nat → Int32) (f65898 : Nat → Int32) (f65899 : Nat → Int32) (f65900 : Nat → Int32) (p65901 : Int32) (p65902 : Int32) (p65903 : Int32) (f65904 : Nat → Int64) (f65905 : Nat → Int64) (f65906 : Nat → Int32) (f65907 : Nat → Int64) (f65908 : Nat → Int64) (f65909 : Nat → Int64) (f65910 : Nat → Int64) (bp65892 : gB p65892 0 720) (bp65893 : gB p65893 0 720) (bp65894 : gB p65894 0 720) (bp65895 : gB p65895 0 12) (bf65898 : gF f65898 0 719) (bf65899 : gF f65899 0 719) (bp65901 : gB p65901 0 720) (bp65902 : gB p65902 0 12) (bp65903 : gB p65903 0 1) (x65911 : p65895.toInt = (p65894.toInt + 63) / 64) (x65912 : lb_W f65904 (p65894.toInt * p65895.toInt) (p65895.toInt) (p65894.toInt)) (x65913 : p65902.toInt = (p65901.toInt + 63) / 64) : Ct (gV D I) l yX1_takeApart cX1_takeApart 5 none 3 67 0 0 [.ref q65876, .int p65891] [(q65876, .inr (6, [.ref q65877, .ref q65878, .ref q65879, .ref q65880, .ref q65881, .ref q65882, .int p65892, .int p65893])), (q65877, .inr (8, [.ref q65883, .ref q65884, .ref q65885, .ref q65886, .int p65894, .int p65895])), (q65878, .inl (I .int, 720, .inl f65896)), (q65879, .inl (I .int, 720, .inl f65897)), (q65880, .inl (I .int, 720, .inl f65898)), (q65881, .inl (I .int, 720, .inl f65899)), (q65882, .inl (I .int, 720, .inl f65900)), (q65883, .inr (10, [.ref q65887, .ref q65888, .ref q65889, .ref q65890, .int p65901, .int p65902, .int p65903])), (q65884, .inl (I .long, 8640, .inr (.inl f65904))), (q65885, .inl (I .long, 12, .inr (.inl f65905))), (q65886, .inl (I .int, 720, .inl f65906)), (q65887, .inl (I .long, 480, .inr (.inl f65907))), (q65888, .inl (I .long, 480, .inr (.inl f65908))), (q65889, .inl (I .long, 480, .inr (.inl f65909))), (q65890, .inl (I .long, 12, .inr (.inl f65910)))] (po_65914_Colouring_takeApart I q65876 q65877 q65878 q65879 q65880 q65881 q65882 q65883 q65884 q65885 q65886 q65887 q65888 q65889 q65890 p65891 p65892 p65893 p65894 p65895 f65896 f65897 f65898 f65899 f65900 p65901 p65902 p65903 f65904 f65905 f65906 f65907 f65908 f65909 f65910) gN := by
  refine Ct_of hl0 (by decide) (Nat.le_of_ble_eq_true rfl) ?_
  have bp65891 := gB_any p65891
  refine G_aload_n 0 d_cX1_takeApart_0 rfl ?_
  refine G_iconst 0 d_cX1_takeApart_1 (by decide +kernel) ?_
  refine G_putf (ws' := [(q65876, .inr (6, [.ref q65877, .ref q65878, .ref q65879, .ref q65880, .ref q65881, .ref q65882, .int 0, .int p65893])), (q65877, .inr (8, [.ref q65883, .ref q65884, .ref q65885, .ref q65886, .int p65894, .int p65895])), (q65878, .inl (I .int, 720, .inl f65896)), (q65879, .inl (I .int, 720, .inl f65897)), (q65880, .inl (I .int, 720, .inl f65898)), (q65881, .inl (I .int, 720, .inl f65899)), (q65882, .inl (I .int, 720, .inl f65900)), (q65883, .inr (10, [.ref q65887, .ref q65888, .ref q65889, .ref q65890, .int p65901, .int p65902, .int p65903])), (q65884, .inl (I .long, 8640, .inr (.inl f65904))), (q65885, .inl (I .long, 12, .inr (.inl f65905))), (q65886, .inl (I .int, 720, .inl f65906)), (q65887, .inl (I .long, 480, .inr (.inl f65907))), (q65888, .inl (I .long, 480, .inr (.inl f65908))), (q65889, .inl (I .long, 480, .inr (.inl f65909))), (q65890, .inl (I .long, 12, .inr (.inl f65910)))]) 0 6 d_cX1_takeApart_2 rfl (gk_X1 D I) (Nat.le_of_ble_eq_true rfl) w_2_84 rfl rfl rfl (Nat.le_of_ble_eq_true rfl) rfl ?_
  refine G_aload_n 0 d_cX1_takeApart_5 rfl ?_
  refine G_iconst 0 d_cX1_takeApart_6 (by decide +kernel) ?_
  refine G_putf (ws' := [(q65876, .inr (6, [.ref q65877, .ref q65878, .ref q65879, .ref q65880, .ref q65881, .ref q65882, .int 0, .int 0])), (q65877, .inr (8, [.ref q65883, .ref q65884, .ref q65885, .ref q65886, .int p65894, .int p65895])), (q65878, .inl (I .int, 720, .inl f65896)), (q65879, .inl (I .int, 720, .inl f65897)), (q65880, .inl (I .int, 720, .inl f65898)), (q65881, .inl (I .int, 720, .inl f65899)), (q65882, .inl (I .int, 720, .inl f65900)), (q65883, .inr (10, [.ref q65887, .ref q65888, .ref q65889, .ref q65890, .int p65901, .int p65902, .int p65903])), (q65884, .inl (I .long, 8640, .inr (.inl f65904))), (q65885, .inl (I .long, 12, .inr (.inl f65905))), (q65886, .inl (I .int, 720, .inl f65906)), (q65887, .inl (I .long, 480, .inr (.inl f65907))), (q65888, .inl (I .long, 480, .inr (.inl f65908))), (q65889, .inl (I .long, 480, .inr (.inl f65909))), (q65890, .inl (I .long, 12, .inr (.inl f65910)))]) 0 7 d_cX1_takeApart_7 rfl (gk_X1 D I) (Nat.le_of_ble_eq_true rfl) w_2_85 rfl rfl rfl (Nat.le_of_ble_eq_true rfl) rfl ?_
  refine G_iconst 0 d_cX1_takeApart_10 (by decide +kernel) ?_
  refine G_istore_n (L' := [(2, .int 0), (0, .ref q65876), (1, .int p65891)]) d_cX1_takeApart_11 (Nat.le_of_ble_eq_true rfl) rfl ?_
  have hlp12_68731 : ∀ (n12_68731 : Nat) (g68726 : Int32) (f68727 : Nat → Int32) (g68728 : Int32) (f68729 : Nat → Int32), gB g68726 0 2147483647 → gF f68727 (-2147483648) 2147483647 → gB g68728 0 720 → gF f68729 0 719 → g68728.toInt ≤ g68726.toInt → gP f68729 (g68728.toInt) (p65894.toInt) → (∀ (k : Nat) (e1 : Int32) (e2 : Nat → Int32) (e3 : Nat → Int32), tl_Colouring_takeApart_12 p65894 f65906 f65905 g68726 f68727 g68728 f68729 k e1 e2 e3 → tl_Colouring_takeApart_12 p65894 f65906 f65905 (0 : Int32) f65897 (0 : Int32) f65898 k e1 e2 e3) → ((2147483648 : Int) - g68726.toInt).toNat < n12_68731 → G (gV D I) l (gRm 3 67 0 0) (gM (gV D I) (po_65914_Colouring_takeApart I q65876 q65877 q65878 q65879 q65880 q65881 q65882 q65883 q65884 q65885 q65886 q65887 q65888 q65889 q65890 p65891 p65892 p65893 p65894 p65895 f65896 f65897 f65898 f65899 f65900 p65901 p65902 p65903 f65904 f65905 f65906 f65907 f65908 f65909 f65910) gN 0 0) ky_65914_Colouring_takeApart 12 [(2, .int g68726), (0, .ref q65876), (1, .int p65891)] [] [(q65876, .inr (6, [.ref q65877, .ref q65878, .ref q65879, .ref q65880, .ref q65881, .ref q65882, .int g68728, .int 0])), (q65877, .inr (8, [.ref q65883, .ref q65884, .ref q65885, .ref q65886, .int p65894, .int p65895])), (q65878, .inl (I .int, 720, .inl f65896)), (q65879, .inl (I .int, 720, .inl f68727)), (q65880, .inl (I .int, 720, .inl f68729)), (q65881, .inl (I .int, 720, .inl f65899)), (q65882, .inl (I .int, 720, .inl f65900)), (q65883, .inr (10, [.ref q65887, .ref q65888, .ref q65889, .ref q65890, .int p65901, .int p65902, .int p65903])), (q65884, .inl (I .long, 8640, .inr (.inl f65904))), (q65885, .inl (I .long, 12, .inr (.inl f65905))), (q65886, .inl (I .int, 720, .inl f65906)), (q65887, .inl (I .long, 480, .inr (.inl f65907))), (q65888, .inl (I .long, 480, .inr (.inl f65908))), (q65889, .inl (I .long, 480, .inr (.inl f65909))), (q65890, .inl (I .long, 12, .inr (.inl f65910)))] 0 0 := by
    intro n12_68731
    induction n12_68731 with
    | zero => intro g68726 f68727 g68728 f68729 bg68726 bf68727 bg68728 bf68729 x68730 x68731 kt12_68731 hm12_68731; exact absurd hm12_68731 (Nat.not_lt_zero _)
    | succ n12_68731 ih12_68731 =>
      intro g68726 f68727 g68728 f68729 bg68726 bf68727 bg68728 bf68729 x68730 x68731 kt12_68731 hm12_68731
      refine G_iload_n 0 d_cX1_takeApart_12 rfl ?_
      refine G_aload_n 1 d_cX1_takeApart_13 rfl ?_
      refine G_getf 0 0 d_cX1_takeApart_14 rfl (gk_X1 D I) (Nat.le_of_ble_eq_true rfl) w_2_78 rfl ?_
      refine G_getfN 1 4 d_cX1_takeApart_17 rfl (gk_X3 D I) (Nat.le_of_ble_eq_true rfl) (fun _ _ _ h => gn_w 59 rfl h) rfl ?_
      refine G_icmp_ge 75 d_cX1_takeApart_20 (by decide +kernel) (fun hc68732 => ?_) (fun hc68732 => ?_)
      · have r68733 : p65894.toInt ≤ g68726.toInt := gC_le hc68732
        have hx68734 : tl_Colouring_takeApart_12 p65894 f65906 f65905 (0 : Int32) f65897 (0 : Int32) f65898 75 g68728 f68727 f68729 := kt12_68731 75 g68728 f68727 f68729 (fun R c1 c2 c3 => c1 g68726 f68727 g68728 f68729 bg68726 bg68728 r68733)
        refine G_aload_n 1 d_cX1_takeApart_75 rfl ?_
        refine G_getf 0 6 d_cX1_takeApart_76 rfl (gk_X1 D I) (Nat.le_of_ble_eq_true rfl) w_2_84 rfl ?_
        refine G_istore_n (L' := [(2, .int g68728), (0, .ref q65876), (1, .int p65891)]) d_cX1_takeApart_79 (Nat.le_of_ble_eq_true rfl) rfl ?_
        have hlp80_68781 : ∀ (n80_68781 : Nat) (g68772 : Int32) (g68773 : Int32) (g68774 : Int32) (f68775 : Nat → Int32) (f68776 : Nat → Int32) (f68777 : Nat → Int32), gB g68772 0 720 → gB g68773 0 720 → gB g68774 0 720 → gF f68775 (-2147483648) 2147483647 → gF f68776 0 719 → gF f68777 0 719 → g68772.toInt = g68773.toInt → g68774.toInt + g68772.toInt ≤ 720 → gP f68776 (g68773.toInt) (p65894.toInt) → gP f68777 (g68774.toInt) (p65894.toInt) → (∀ (k : Nat) (e1 : Int32) (e2 : Int32) (e3 : Nat → Int32) (e4 : Nat → Int32) (e5 : Nat → Int32), tl_Colouring_takeApart_80 p65891 f65896 p65895 f65904 g68772 g68773 g68774 f68775 f68776 f68777 k e1 e2 e3 e4 e5 → tl_Colouring_takeApart_80 p65891 f65896 p65895 f65904 g68728 g68728 (0 : Int32) f68727 f68729 f65899 k e1 e2 e3 e4 e5) → ((g68772.toInt : Int) - (-1)).toNat < n80_68781 → G (gV D I) l (gRm 3 67 0 0) (gM (gV D I) (po_65914_Colouring_takeApart I q65876 q65877 q65878 q65879 q65880 q65881 q65882 q65883 q65884 q65885 q65886 q65887 q65888 q65889 q65890 p65891 p65892 p65893 p65894 p65895 f65896 f65897 f65898 f65899 f65900 p65901 p65902 p65903 f65904 f65905 f65906 f65907 f65908 f65909 f65910) gN 0 0) ky_65914_Colouring_takeApart 80 [(2, .int g68772), (0, .ref q65876), (1, .int p65891)] [] [(q65876, .inr (6, [.ref q65877, .ref q65878, .ref q65879, .ref q65880, .ref q65881, .ref q65882, .int g68773, .int g68774])), (q65877, .inr (8, [.ref q65883, .ref q65884, .ref q65885, .ref q65886, .int p65894, .int p65895])), (q65878, .inl (I .int, 720, .inl f65896)), (q65879, .inl (I .int, 720, .inl f68775)), (q65880, .inl (I .int, 720, .inl f68776)), (q65881, .inl (I .int, 720, .inl f68777)), (q65882, .inl (I .int, 720, .inl f65900)), (q65883, .inr (10, [.ref q65887, .ref q65888, .ref q65889, .ref q65890, .int p65901, .int p65902, .int p65903])), (q65884, .inl (I .long, 8640, .inr (.inl f65904))), (q65885, .inl (I .long, 12, .inr (.inl f65905))), (q65886, .inl (I .int, 720, .inl f65906)), (q65887, .inl (I .long, 480, .inr (.inl f65907))), (q65888, .inl (I .long, 480, .inr (.inl f65908))), (q65889, .inl (I .long, 480, .inr (.inl f65909))), (q65890, .inl (I .long, 12, .inr (.inl f65910)))] 0 0 := by
          intro n80_68781
          induction n80_68781 with
          | zero => intro g68772 g68773 g68774 f68775 f68776 f68777 bg68772 bg68773 bg68774 bf68775 bf68776 bf68777 x68778 x68779 x68780 x68781 kt80_68781 hm80_68781; exact absurd hm80_68781 (Nat.not_lt_zero _)
          | succ n80_68781 ih80_68781 =>
            intro g68772 g68773 g68774 f68775 f68776 f68777 bg68772 bg68773 bg68774 bf68775 bf68776 bf68777 x68778 x68779 x68780 x68781 kt80_68781 hm80_68781
            refine G_iload_n 0 d_cX1_takeApart_80 rfl ?_
            refine G_if_le 162 d_cX1_takeApart_81 (by decide +kernel) (fun hc68782 => ?_) (fun hc68782 => ?_)
            · have r68783 : g68772.toInt ≤ 0 := gj_le hc68782 (show Int32.toInt 0 = 0 by decide)
              have bg68772' : gB g68772 0 0 := ⟨by omega, by omega⟩
              have hx68784 : tl_Colouring_takeApart_80 p65891 f65896 p65895 f65904 g68728 g68728 (0 : Int32) f68727 f68729 f65899 162 g68773 g68774 f68775 f68776 f68777 := kt80_68781 162 g68773 g68774 f68775 f68776 f68777 (fun R c1 c2 => c1 g68772 g68773 g68774 f68775 f68776 f68777 bg68772 bg68773 bg68774 r68783)
              exact G_vret d_cX1_takeApart_162 rfl (Nat.le_of_ble_eq_true rfl) (Nat.le_of_ble_eq_true rfl) ⟨g68773, g68774, f68775, f68776, f68777, rfl, rfl, bg68773, bg68774, bf68775, bf68776, bf68777, x68781, (fun R c1 => c1 g68728 f68727 f68729 g68773 g68774 f68775 f68776 f68777 hx68734 hx68784)⟩
            · have r68785 : 0 < g68772.toInt := gj_nle hc68782 (show Int32.toInt 0 = 0 by decide)
              have bg68772' : gB g68772 1 720 := ⟨by omega, by omega⟩
              refine G_aload_n 1 d_cX1_takeApart_84 rfl ?_
              refine G_iload_n 2 d_cX1_takeApart_85 rfl ?_
              refine G_callV (As := [.int p65891]) (wr := []) (gV_ok D I) (ct_65996_Colouring_nextOfRest l hl0 D I q65876 q65877 q65878 q65879 q65880 q65881 q65882 q65883 q65884 q65885 q65886 q65887 q65888 q65889 q65890 p65891 g68773 g68774 p65894 p65895 f65896 f68775 f68776 f68777 f65900 p65901 p65902 p65903 f65904 f65905 f65906 f65907 f65908 f65909 f65910 bg68773 bg68774 bp65894 bp65895 bf68776 bf68777 bp65901 bp65902 bp65903 (by omega) (by omega) x65912 (by omega)) d_cX1_takeApart_86 ⟨w_5_123, w_1_11, w_5_126, by decide, rfl, (Nat.le_of_ble_eq_true rfl), (Nat.le_of_ble_eq_true rfl)⟩ w_5_125 w_p_43 0 rfl rfl [0, 1, 2, 3, 4, 5, 6, 7, 8, 9, 10, 11, 12, 13, 14] [] rfl rfl rfl rfl (by decide) (Nat.le_of_ble_eq_true rfl) (Nat.le_of_ble_eq_true rfl) (Nat.le_of_ble_eq_true rfl) (fun r w hp => ?_) (fun _ _ _ z => z.elim)
              obtain ⟨o68786, rfl, rfl, bo68786, x68787, ht68788⟩ := hp
              change G _ _ _ _ _ _ _ (.int o68786 :: _) _ _ _
              refine G_ws (ws' := [(q65876, .inr (6, [.ref q65877, .ref q65878, .ref q65879, .ref q65880, .ref q65881, .ref q65882, .int g68773, .int g68774])), (q65877, .inr (8, [.ref q65883, .ref q65884, .ref q65885, .ref q65886, .int p65894, .int p65895])), (q65878, .inl (I .int, 720, .inl f65896)), (q65879, .inl (I .int, 720, .inl f68775)), (q65880, .inl (I .int, 720, .inl f68776)), (q65881, .inl (I .int, 720, .inl f68777)), (q65882, .inl (I .int, 720, .inl f65900)), (q65883, .inr (10, [.ref q65887, .ref q65888, .ref q65889, .ref q65890, .int p65901, .int p65902, .int p65903])), (q65884, .inl (I .long, 8640, .inr (.inl f65904))), (q65885, .inl (I .long, 12, .inr (.inl f65905))), (q65886, .inl (I .int, 720, .inl f65906)), (q65887, .inl (I .long, 480, .inr (.inl f65907))), (q65888, .inl (I .long, 480, .inr (.inl f65908))), (q65889, .inl (I .long, 480, .inr (.inl f65909))), (q65890, .inl (I .long, 12, .inr (.inl f65910)))]) (cs' := 0) (sl' := 0) rfl rfl rfl ?_
              refine G_istore_n (L' := [(3, .int o68786), (2, .int g68772), (0, .ref q65876), (1, .int p65891)]) d_cX1_takeApart_89 (Nat.le_of_ble_eq_true rfl) rfl ?_
              have bo68786' : gB o68786 0 719 := ⟨by omega, by omega⟩
              refine G_aload_n 2 d_cX1_takeApart_90 rfl ?_
              refine G_getf 0 3 d_cX1_takeApart_91 rfl (gk_X1 D I) (Nat.le_of_ble_eq_true rfl) w_2_81 rfl ?_
              refine G_iload_n 0 d_cX1_takeApart_94 rfl ?_
              refine G_iald 4 0 d_cX1_takeApart_95 rfl rfl (gB_in bo68786' (by decide) (by decide)) (G_nam fun z68789 hz68789 => ?_)
              have bz68789 : gB z68789 0 719 := by rw [hz68789]; exact bf68776 _
              have pz68789 := gP_ld hz68789 x68780 (by omega) (by omega)
              refine G_istore (L' := [(4, .int z68789), (3, .int o68786), (2, .int g68772), (0, .ref q65876), (1, .int p65891)]) d_cX1_takeApart_96 (Nat.le_of_ble_eq_true rfl) rfl ?_
              refine G_aload_n 3 d_cX1_takeApart_98 rfl ?_
              refine G_dup d_cX1_takeApart_99 rfl ?_
              refine G_getf 0 6 d_cX1_takeApart_100 rfl (gk_X1 D I) (Nat.le_of_ble_eq_true rfl) w_2_84 rfl ?_
              refine G_iconst 1 d_cX1_takeApart_103 (by decide +kernel) ?_
              refine G_isub d_cX1_takeApart_104 (G_nam fun z68790 hz68790 => ?_)
              have ez68790 : z68790.toInt = g68773.toInt - 1 := by rw [gI_sub hz68790 bg68773 (gBl (show Int32.toInt 1 = 1 by decide)) (by decide) (by decide), show Int32.toInt 1 = 1 from by decide]
              have bz68790 : gB z68790 (-1) 719 := gB_sub (gI_sub hz68790 bg68773 (gBl (show Int32.toInt 1 = 1 by decide)) (by decide) (by decide)) bg68773 (gBl (show Int32.toInt 1 = 1 by decide)) (by decide) (by decide)
              refine G_putf (ws' := [(q65876, .inr (6, [.ref q65877, .ref q65878, .ref q65879, .ref q65880, .ref q65881, .ref q65882, .int z68790, .int g68774])), (q65877, .inr (8, [.ref q65883, .ref q65884, .ref q65885, .ref q65886, .int p65894, .int p65895])), (q65878, .inl (I .int, 720, .inl f65896)), (q65879, .inl (I .int, 720, .inl f68775)), (q65880, .inl (I .int, 720, .inl f68776)), (q65881, .inl (I .int, 720, .inl f68777)), (q65882, .inl (I .int, 720, .inl f65900)), (q65883, .inr (10, [.ref q65887, .ref q65888, .ref q65889, .ref q65890, .int p65901, .int p65902, .int p65903])), (q65884, .inl (I .long, 8640, .inr (.inl f65904))), (q65885, .inl (I .long, 12, .inr (.inl f65905))), (q65886, .inl (I .int, 720, .inl f65906)), (q65887, .inl (I .long, 480, .inr (.inl f65907))), (q65888, .inl (I .long, 480, .inr (.inl f65908))), (q65889, .inl (I .long, 480, .inr (.inl f65909))), (q65890, .inl (I .long, 12, .inr (.inl f65910)))]) 0 6 d_cX1_takeApart_105 rfl (gk_X1 D I) (Nat.le_of_ble_eq_true rfl) w_2_84 rfl rfl rfl (Nat.le_of_ble_eq_true rfl) rfl ?_
              refine G_aload_n 3 d_cX1_takeApart_108 rfl ?_
              refine G_getf 0 3 d_cX1_takeApart_109 rfl (gk_X1 D I) (Nat.le_of_ble_eq_true rfl) w_2_81 rfl ?_
              refine G_iload_n 1 d_cX1_takeApart_112 rfl ?_
              refine G_iconst 1 d_cX1_takeApart_113 (by decide +kernel) ?_
              refine G_iadd d_cX1_takeApart_114 (G_nam fun z68791 hz68791 => ?_)
              have ez68791 : z68791.toInt = o68786.toInt + 1 := by rw [gI_add hz68791 bo68786' (gBl (show Int32.toInt 1 = 1 by decide)) (by decide) (by decide), show Int32.toInt 1 = 1 from by decide]
              have bz68791 : gB z68791 1 720 := gB_add (gI_add hz68791 bo68786' (gBl (show Int32.toInt 1 = 1 by decide)) (by decide) (by decide)) bo68786' (gBl (show Int32.toInt 1 = 1 by decide)) (by decide) (by decide)
              refine G_aload_n 3 d_cX1_takeApart_115 rfl ?_
              refine G_getf 0 3 d_cX1_takeApart_116 rfl (gk_X1 D I) (Nat.le_of_ble_eq_true rfl) w_2_81 rfl ?_
              refine G_iload_n 1 d_cX1_takeApart_119 rfl ?_
              refine G_aload_n 3 d_cX1_takeApart_120 rfl ?_
              refine G_getf 0 6 d_cX1_takeApart_121 rfl (gk_X1 D I) (Nat.le_of_ble_eq_true rfl) w_2_84 rfl ?_
              refine G_iload_n 1 d_cX1_takeApart_124 rfl ?_
              refine G_isub d_cX1_takeApart_125 (G_nam fun z68792 hz68792 => ?_)
              have ez68792 : z68792.toInt = z68790.toInt - o68786.toInt := by rw [gI_sub hz68792 bz68790 bo68786' (by decide) (by decide)]
              have bz68792 : gB z68792 (-720) 719 := gB_sub (gI_sub hz68792 bz68790 bo68786' (by decide) (by decide)) bz68790 bo68786' (by decide) (by decide)
              refine G_copyi 4 4 0 0 d_cX1_takeApart_126 w_5_131 w_5_113 w_5_112 w_1_34 rfl rfl rfl rfl (by omega) (by omega) (by omega) (by omega) (by omega) (Nat.le_of_ble_eq_true rfl) (Nat.le_of_ble_eq_true rfl) (fun f68793 hf68793 => ?_)
              refine G_ws (ws' := [(q65876, .inr (6, [.ref q65877, .ref q65878, .ref q65879, .ref q65880, .ref q65881, .ref q65882, .int z68790, .int g68774])), (q65877, .inr (8, [.ref q65883, .ref q65884, .ref q65885, .ref q65886, .int p65894, .int p65895])), (q65878, .inl (I .int, 720, .inl f65896)), (q65879, .inl (I .int, 720, .inl f68775)), (q65880, .inl (I .int, 720, .inl f68793)), (q65881, .inl (I .int, 720, .inl f68777)), (q65882, .inl (I .int, 720, .inl f65900)), (q65883, .inr (10, [.ref q65887, .ref q65888, .ref q65889, .ref q65890, .int p65901, .int p65902, .int p65903])), (q65884, .inl (I .long, 8640, .inr (.inl f65904))), (q65885, .inl (I .long, 12, .inr (.inl f65905))), (q65886, .inl (I .int, 720, .inl f65906)), (q65887, .inl (I .long, 480, .inr (.inl f65907))), (q65888, .inl (I .long, 480, .inr (.inl f65908))), (q65889, .inl (I .long, 480, .inr (.inl f65909))), (q65890, .inl (I .long, 12, .inr (.inl f65910)))]) (cs' := 0) (sl' := 0) rfl rfl rfl ?_
              have wf68793 : gP f68793 (z68790.toInt) (p65894.toInt) := gP_cpy hf68793 (gP_le x68780 (by omega)) (by omega) (by omega) (by omega) (by omega)
              have bf68793 : gF f68793 0 719 := gF_cpy hf68793 bf68776 bf68776
              refine G_aload_n 3 d_cX1_takeApart_129 rfl ?_
              refine G_getf 0 4 d_cX1_takeApart_130 rfl (gk_X1 D I) (Nat.le_of_ble_eq_true rfl) w_2_82 rfl ?_
              refine G_aload_n 3 d_cX1_takeApart_133 rfl ?_
              refine G_getf 0 7 d_cX1_takeApart_134 rfl (gk_X1 D I) (Nat.le_of_ble_eq_true rfl) w_2_85 rfl ?_
              refine G_iload 0 d_cX1_takeApart_137 rfl ?_
              refine G_iastN 5 0 d_cX1_takeApart_139 rfl rfl (gB_inr (by omega) (by omega)) (fun f68794 hf68794 => ?_)
              refine G_ws (ws' := [(q65876, .inr (6, [.ref q65877, .ref q65878, .ref q65879, .ref q65880, .ref q65881, .ref q65882, .int z68790, .int g68774])), (q65877, .inr (8, [.ref q65883, .ref q65884, .ref q65885, .ref q65886, .int p65894, .int p65895])), (q65878, .inl (I .int, 720, .inl f65896)), (q65879, .inl (I .int, 720, .inl f68775)), (q65880, .inl (I .int, 720, .inl f68793)), (q65881, .inl (I .int, 720, .inl f68794)), (q65882, .inl (I .int, 720, .inl f65900)), (q65883, .inr (10, [.ref q65887, .ref q65888, .ref q65889, .ref q65890, .int p65901, .int p65902, .int p65903])), (q65884, .inl (I .long, 8640, .inr (.inl f65904))), (q65885, .inl (I .long, 12, .inr (.inl f65905))), (q65886, .inl (I .int, 720, .inl f65906)), (q65887, .inl (I .long, 480, .inr (.inl f65907))), (q65888, .inl (I .long, 480, .inr (.inl f65908))), (q65889, .inl (I .long, 480, .inr (.inl f65909))), (q65890, .inl (I .long, 12, .inr (.inl f65910)))]) (cs' := 0) (sl' := 0) rfl rfl rfl ?_
              have wf68794 : gP f68794 (g68774.toInt + 1) (p65894.toInt) := gP_ext hf68794 x68781 (by omega) (by omega) (by omega)
              have bf68794 : gF f68794 0 719 := gF_upd hf68794 bf68777 bz68789
              refine G_aload_n 3 d_cX1_takeApart_140 rfl ?_
              refine G_dup d_cX1_takeApart_141 rfl ?_
              refine G_getf 0 7 d_cX1_takeApart_142 rfl (gk_X1 D I) (Nat.le_of_ble_eq_true rfl) w_2_85 rfl ?_
              refine G_iconst 1 d_cX1_takeApart_145 (by decide +kernel) ?_
              refine G_iadd d_cX1_takeApart_146 (G_nam fun z68795 hz68795 => ?_)
              have ez68795 : z68795.toInt = g68774.toInt + 1 := by rw [gI_add hz68795 bg68774 (gBl (show Int32.toInt 1 = 1 by decide)) (by decide) (by decide), show Int32.toInt 1 = 1 from by decide]
              have bz68795 : gB z68795 1 721 := gB_add (gI_add hz68795 bg68774 (gBl (show Int32.toInt 1 = 1 by decide)) (by decide) (by decide)) bg68774 (gBl (show Int32.toInt 1 = 1 by decide)) (by decide) (by decide)
              refine G_putf (ws' := [(q65876, .inr (6, [.ref q65877, .ref q65878, .ref q65879, .ref q65880, .ref q65881, .ref q65882, .int z68790, .int z68795])), (q65877, .inr (8, [.ref q65883, .ref q65884, .ref q65885, .ref q65886, .int p65894, .int p65895])), (q65878, .inl (I .int, 720, .inl f65896)), (q65879, .inl (I .int, 720, .inl f68775)), (q65880, .inl (I .int, 720, .inl f68793)), (q65881, .inl (I .int, 720, .inl f68794)), (q65882, .inl (I .int, 720, .inl f65900)), (q65883, .inr (10, [.ref q65887, .ref q65888, .ref q65889, .ref q65890, .int p65901, .int p65902, .int p65903])), (q65884, .inl (I .long, 8640, .inr (.inl f65904))), (q65885, .inl (I .long, 12, .inr (.inl f65905))), (q65886, .inl (I .int, 720, .inl f65906)), (q65887, .inl (I .long, 480, .inr (.inl f65907))), (q65888, .inl (I .long, 480, .inr (.inl f65908))), (q65889, .inl (I .long, 480, .inr (.inl f65909))), (q65890, .inl (I .long, 12, .inr (.inl f65910)))]) 0 7 d_cX1_takeApart_147 rfl (gk_X1 D I) (Nat.le_of_ble_eq_true rfl) w_2_85 rfl rfl rfl (Nat.le_of_ble_eq_true rfl) rfl ?_
              refine G_aload_n 3 d_cX1_takeApart_150 rfl ?_
              refine G_iload 0 d_cX1_takeApart_151 rfl ?_
              refine G_callV (As := [.int z68789]) (wr := []) (gV_ok D I) (ct_67101_Colouring_leave l hl0 D I q65876 q65877 q65878 q65879 q65880 q65881 q65882 q65883 q65884 q65885 q65886 q65887 q65888 q65889 q65890 z68789 z68790 z68795 p65894 p65895 f65896 f68775 f68793 f68794 f65900 p65901 p65902 p65903 f65904 f65905 f65906 f65907 f65908 f65909 f65910 bz68789 ⟨by omega, by omega⟩ ⟨by omega, by omega⟩ bp65894 bp65895 bf68793 bf68794 bp65901 bp65902 bp65903 (by omega) (by omega) x65912 (by omega)) d_cX1_takeApart_153 ⟨w_5_132, w_1_11, w_5_135, by decide, rfl, (Nat.le_of_ble_eq_true rfl), (Nat.le_of_ble_eq_true rfl)⟩ w_5_134 w_p_45 0 rfl rfl [0, 1, 2, 3, 4, 5, 6, 7, 8, 9, 10, 11, 12, 13, 14] [] rfl rfl rfl rfl (by decide) (Nat.le_of_ble_eq_true rfl) (Nat.le_of_ble_eq_true rfl) (Nat.le_of_ble_eq_true rfl) (fun r w hp => ?_) (fun _ _ _ z => z.elim)
              obtain ⟨f68796, rfl, rfl, bf68796, ht68797⟩ := hp
              change G _ _ _ _ _ _ _ _ _ _ _
              refine G_ws (ws' := [(q65876, .inr (6, [.ref q65877, .ref q65878, .ref q65879, .ref q65880, .ref q65881, .ref q65882, .int z68790, .int z68795])), (q65877, .inr (8, [.ref q65883, .ref q65884, .ref q65885, .ref q65886, .int p65894, .int p65895])), (q65878, .inl (I .int, 720, .inl f65896)), (q65879, .inl (I .int, 720, .inl f68796)), (q65880, .inl (I .int, 720, .inl f68793)), (q65881, .inl (I .int, 720, .inl f68794)), (q65882, .inl (I .int, 720, .inl f65900)), (q65883, .inr (10, [.ref q65887, .ref q65888, .ref q65889, .ref q65890, .int p65901, .int p65902, .int p65903])), (q65884, .inl (I .long, 8640, .inr (.inl f65904))), (q65885, .inl (I .long, 12, .inr (.inl f65905))), (q65886, .inl (I .int, 720, .inl f65906)), (q65887, .inl (I .long, 480, .inr (.inl f65907))), (q65888, .inl (I .long, 480, .inr (.inl f65908))), (q65889, .inl (I .long, 480, .inr (.inl f65909))), (q65890, .inl (I .long, 12, .inr (.inl f65910)))]) (cs' := 0) (sl' := 0) rfl rfl rfl ?_
              obtain ⟨z68798, hz68798⟩ : ∃ z : Int32, z = g68772 + Int32.ofInt (-1) := ⟨_, rfl⟩
              have ez68798 : z68798.toInt = g68772.toInt + (-1) := gI_inc hz68798 (by decide) bg68772' (by decide) (by decide)
              have bz68798 : gB z68798 0 719 := ⟨by omega, by omega⟩
              refine G_iinc (L' := [(2, .int z68798), (4, .int z68789), (3, .int o68786), (0, .ref q65876), (1, .int p65891)]) z68798 2 d_cX1_takeApart_156 rfl hz68798.symm (Nat.le_of_ble_eq_true rfl) rfl ?_
              refine G_goto 80 d_cX1_takeApart_159 (by decide +kernel) ?_
              refine G_lv (L' := [(2, .int z68798), (0, .ref q65876), (1, .int p65891)]) [0, 3, 4] rfl ?_
              exact ih80_68781 z68798 z68790 z68795 f68796 f68793 f68794 (gB_w bz68798 (by decide) (by decide)) ⟨by omega, by omega⟩ ⟨by omega, by omega⟩ bf68796 bf68793 bf68794 (by omega) (by omega) wf68793 (gP_le wf68794 (by omega)) (fun k e1 e2 e3 e4 e5 ht => kt80_68781 k e1 e2 e3 e4 e5 (fun R c1 c2 => c2 g68772 g68773 g68774 f68775 f68776 f68777 o68786 z68789 z68790 z68791 z68792 f68793 f68794 z68795 f68796 z68798 k e1 e2 e3 e4 e5 bg68772 bg68773 bg68774 r68785 bo68786 ht68788 hz68789 bz68789 ez68790 ez68791 ez68792 hf68793 hf68794 ez68795 ht68797 ez68798 (ht R c1 c2))) (by omega)
        exact hlp80_68781 (((g68728.toInt : Int) - (-1)).toNat + 1) g68728 g68728 0 f68727 f68729 f65899 bg68728 bg68728 (gB_w (gBl (show Int32.toInt 0 = 0 by decide)) (by decide) (by decide)) bf68727 bf68729 bf65899 (by have qa0 : Int32.toInt 0 = 0 := (by decide); omega) (by have qa0 : Int32.toInt 0 = 0 := (by decide); omega) x68731 gP_0 (fun k e1 e2 e3 e4 e5 ht => ht) (Nat.lt_succ_self _)
      · have r68799 : g68726.toInt < p65894.toInt := gC_nle hc68732
        have bg68726' : gB g68726 0 719 := ⟨by omega, by omega⟩
        have bp65894' : gB p65894 1 720 := ⟨by omega, by omega⟩
        refine G_aload_n 1 d_cX1_takeApart_23 rfl ?_
        refine G_getf 0 2 d_cX1_takeApart_24 rfl (gk_X1 D I) (Nat.le_of_ble_eq_true rfl) w_2_80 rfl ?_
        refine G_iload_n 0 d_cX1_takeApart_27 rfl ?_
        refine G_aload_n 1 d_cX1_takeApart_28 rfl ?_
        refine G_getf 0 0 d_cX1_takeApart_29 rfl (gk_X1 D I) (Nat.le_of_ble_eq_true rfl) w_2_78 rfl ?_
        refine G_getfN 1 3 d_cX1_takeApart_32 rfl (gk_X3 D I) (Nat.le_of_ble_eq_true rfl) (fun _ _ _ h => gn_w 57 rfl h) rfl ?_
        refine G_iload_n 0 d_cX1_takeApart_35 rfl ?_
        refine G_iald 10 0 d_cX1_takeApart_36 rfl rfl (gB_in bg68726' (by decide) (by decide)) (G_nam fun z68800 hz68800 => ?_)
        have bz68800 : gB z68800 (-2147483648) 2147483647 := gB_any z68800
        refine G_iastN 3 0 d_cX1_takeApart_37 rfl rfl (gB_in bg68726' (by decide) (by decide)) (fun f68801 hf68801 => ?_)
        refine G_ws (ws' := [(q65876, .inr (6, [.ref q65877, .ref q65878, .ref q65879, .ref q65880, .ref q65881, .ref q65882, .int g68728, .int 0])), (q65877, .inr (8, [.ref q65883, .ref q65884, .ref q65885, .ref q65886, .int p65894, .int p65895])), (q65878, .inl (I .int, 720, .inl f65896)), (q65879, .inl (I .int, 720, .inl f68801)), (q65880, .inl (I .int, 720, .inl f68729)), (q65881, .inl (I .int, 720, .inl f65899)), (q65882, .inl (I .int, 720, .inl f65900)), (q65883, .inr (10, [.ref q65887, .ref q65888, .ref q65889, .ref q65890, .int p65901, .int p65902, .int p65903])), (q65884, .inl (I .long, 8640, .inr (.inl f65904))), (q65885, .inl (I .long, 12, .inr (.inl f65905))), (q65886, .inl (I .int, 720, .inl f65906)), (q65887, .inl (I .long, 480, .inr (.inl f65907))), (q65888, .inl (I .long, 480, .inr (.inl f65908))), (q65889, .inl (I .long, 480, .inr (.inl f65909))), (q65890, .inl (I .long, 12, .inr (.inl f65910)))]) (cs' := 0) (sl' := 0) rfl rfl rfl ?_
        refine G_aload_n 1 d_cX1_takeApart_38 rfl ?_
        refine G_getf 0 0 d_cX1_takeApart_39 rfl (gk_X1 D I) (Nat.le_of_ble_eq_true rfl) w_2_78 rfl ?_
        refine G_iload_n 0 d_cX1_takeApart_42 rfl ?_
        refine G_callV (As := [.int g68726]) (wr := [(q65876, .inr (6, [.ref q65877, .ref q65878, .ref q65879, .ref q65880, .ref q65881, .ref q65882, .int g68728, .int 0])), (q65878, .inl (I .int, 720, .inl f65896)), (q65879, .inl (I .int, 720, .inl f68801)), (q65880, .inl (I .int, 720, .inl f68729)), (q65881, .inl (I .int, 720, .inl f65899)), (q65882, .inl (I .int, 720, .inl f65900))]) (gV_ok D I) (ct_59818_Graph_stands l hl0 D I q65877 q65883 q65884 q65885 q65886 q65887 q65888 q65889 q65890 g68726 p65894 p65895 p65901 p65902 p65903 f65904 f65905 f65906 f65907 f65908 f65909 f65910 (gB_w bp65894' (by decide) (by decide)) bp65895 bp65901 bp65902 bp65903 (by have qa0 : Int32.toInt 0 = 0 := (by decide); omega) x65912 (by have qa0 : Int32.toInt 0 = 0 := (by decide); omega)) d_cX1_takeApart_43 ⟨w_5_122, w_1_9, w_4_167, by decide, rfl, (Nat.le_of_ble_eq_true rfl), (Nat.le_of_ble_eq_true rfl)⟩ w_4_165 w_4_166 1 rfl rfl [1, 7, 8, 9, 10, 11, 12, 13, 14] [0, 2, 3, 4, 5, 6] rfl rfl rfl rfl (by decide) (Nat.le_of_ble_eq_true rfl) (Nat.le_of_ble_eq_true rfl) (Nat.le_of_ble_eq_true rfl) (fun r w hp => ?_) (fun _ _ _ z => z.elim)
        rcases hp with ⟨rfl, rfl, r68802, r68803⟩ | ⟨rfl, rfl, r68804, r68805, r68806⟩ | ⟨z68807, z68808, rfl, rfl, r68809, r68810, r68811, r68812, r68813, r68814, r68815⟩ | ⟨z68816, z68817, rfl, rfl, r68818, r68819, r68820, r68821, r68822, r68823, r68824⟩
        · exact absurd (show False by omega) not_false
        · have bp65894'' : gB p65894 1 719 := ⟨by omega, by omega⟩
          have bg68726'' : gB g68726 1 719 := ⟨by omega, by omega⟩
          change G _ _ _ _ _ _ _ (.int 0 :: _) _ _ _
          refine G_ws (ws' := [(q65876, .inr (6, [.ref q65877, .ref q65878, .ref q65879, .ref q65880, .ref q65881, .ref q65882, .int g68728, .int 0])), (q65878, .inl (I .int, 720, .inl f65896)), (q65879, .inl (I .int, 720, .inl f68801)), (q65880, .inl (I .int, 720, .inl f68729)), (q65881, .inl (I .int, 720, .inl f65899)), (q65882, .inl (I .int, 720, .inl f65900)), (q65877, .inr (8, [.ref q65883, .ref q65884, .ref q65885, .ref q65886, .int p65894, .int p65895])), (q65883, .inr (10, [.ref q65887, .ref q65888, .ref q65889, .ref q65890, .int p65901, .int p65902, .int p65903])), (q65884, .inl (I .long, 8640, .inr (.inl f65904))), (q65885, .inl (I .long, 12, .inr (.inl f65905))), (q65886, .inl (I .int, 720, .inl f65906)), (q65887, .inl (I .long, 480, .inr (.inl f65907))), (q65888, .inl (I .long, 480, .inr (.inl f65908))), (q65889, .inl (I .long, 480, .inr (.inl f65909))), (q65890, .inl (I .long, 12, .inr (.inl f65910)))]) (cs' := 0) (sl' := 0) rfl rfl rfl ?_
          refine G_if_eq 69 d_cX1_takeApart_46 (by decide +kernel) (fun _ => ?_) (fun hc => absurd hc (by decide))
          obtain ⟨z68825, hz68825⟩ : ∃ z : Int32, z = g68726 + Int32.ofInt 1 := ⟨_, rfl⟩
          have ez68825 : z68825.toInt = g68726.toInt + 1 := gI_inc hz68825 (by decide) bg68726'' (by decide) (by decide)
          have bz68825 : gB z68825 2 720 := ⟨by omega, by omega⟩
          refine G_iinc (L' := [(2, .int z68825), (0, .ref q65876), (1, .int p65891)]) z68825 0 d_cX1_takeApart_69 rfl hz68825.symm (Nat.le_of_ble_eq_true rfl) rfl ?_
          refine G_goto 12 d_cX1_takeApart_72 (by decide +kernel) ?_
          refine G_sub (ws' := [(q65876, .inr (6, [.ref q65877, .ref q65878, .ref q65879, .ref q65880, .ref q65881, .ref q65882, .int g68728, .int 0])), (q65877, .inr (8, [.ref q65883, .ref q65884, .ref q65885, .ref q65886, .int p65894, .int p65895])), (q65878, .inl (I .int, 720, .inl f65896)), (q65879, .inl (I .int, 720, .inl f68801)), (q65880, .inl (I .int, 720, .inl f68729)), (q65881, .inl (I .int, 720, .inl f65899)), (q65882, .inl (I .int, 720, .inl f65900)), (q65883, .inr (10, [.ref q65887, .ref q65888, .ref q65889, .ref q65890, .int p65901, .int p65902, .int p65903])), (q65884, .inl (I .long, 8640, .inr (.inl f65904))), (q65885, .inl (I .long, 12, .inr (.inl f65905))), (q65886, .inl (I .int, 720, .inl f65906)), (q65887, .inl (I .long, 480, .inr (.inl f65907))), (q65888, .inl (I .long, 480, .inr (.inl f65908))), (q65889, .inl (I .long, 480, .inr (.inl f65909))), (q65890, .inl (I .long, 12, .inr (.inl f65910)))]) [0, 6, 1, 2, 3, 4, 5, 7, 8, 9, 10, 11, 12, 13, 14] rfl rfl ?_
          exact ih12_68731 z68825 f68801 g68728 f68729 (gB_w bz68825 (by decide) (by decide)) (gF_any f68801) bg68728 bf68729 (by have qa0 : Int32.toInt 0 = 0 := (by decide); omega) x68731 (fun k e1 e2 e3 ht => kt12_68731 k e1 e2 e3 (fun R c1 c2 c3 => c2 g68726 f68727 g68728 f68729 z68800 f68801 z68825 k e1 e2 e3 bg68726 bg68728 r68799 hz68800 hf68801 r68806 ez68825 (ht R c1 c2 c3))) (by have qa0 : Int32.toInt 0 = 0 := (by decide); omega)
        · change G _ _ _ _ _ _ _ (.int 0 :: _) _ _ _
          refine G_ws (ws' := [(q65876, .inr (6, [.ref q65877, .ref q65878, .ref q65879, .ref q65880, .ref q65881, .ref q65882, .int g68728, .int 0])), (q65878, .inl (I .int, 720, .inl f65896)), (q65879, .inl (I .int, 720, .inl f68801)), (q65880, .inl (I .int, 720, .inl f68729)), (q65881, .inl (I .int, 720, .inl f65899)), (q65882, .inl (I .int, 720, .inl f65900)), (q65877, .inr (8, [.ref q65883, .ref q65884, .ref q65885, .ref q65886, .int p65894, .int p65895])), (q65883, .inr (10, [.ref q65887, .ref q65888, .ref q65889, .ref q65890, .int p65901, .int p65902, .int p65903])), (q65884, .inl (I .long, 8640, .inr (.inl f65904))), (q65885, .inl (I .long, 12, .inr (.inl f65905))), (q65886, .inl (I .int, 720, .inl f65906)), (q65887, .inl (I .long, 480, .inr (.inl f65907))), (q65888, .inl (I .long, 480, .inr (.inl f65908))), (q65889, .inl (I .long, 480, .inr (.inl f65909))), (q65890, .inl (I .long, 12, .inr (.inl f65910)))]) (cs' := 0) (sl' := 0) rfl rfl rfl ?_
          refine G_if_eq 69 d_cX1_takeApart_46 (by decide +kernel) (fun _ => ?_) (fun hc => absurd hc (by decide))
          obtain ⟨z68826, hz68826⟩ : ∃ z : Int32, z = g68726 + Int32.ofInt 1 := ⟨_, rfl⟩
          have ez68826 : z68826.toInt = g68726.toInt + 1 := gI_inc hz68826 (by decide) bg68726' (by decide) (by decide)
          have bz68826 : gB z68826 1 720 := ⟨by omega, by omega⟩
          refine G_iinc (L' := [(2, .int z68826), (0, .ref q65876), (1, .int p65891)]) z68826 0 d_cX1_takeApart_69 rfl hz68826.symm (Nat.le_of_ble_eq_true rfl) rfl ?_
          refine G_goto 12 d_cX1_takeApart_72 (by decide +kernel) ?_
          refine G_sub (ws' := [(q65876, .inr (6, [.ref q65877, .ref q65878, .ref q65879, .ref q65880, .ref q65881, .ref q65882, .int g68728, .int 0])), (q65877, .inr (8, [.ref q65883, .ref q65884, .ref q65885, .ref q65886, .int p65894, .int p65895])), (q65878, .inl (I .int, 720, .inl f65896)), (q65879, .inl (I .int, 720, .inl f68801)), (q65880, .inl (I .int, 720, .inl f68729)), (q65881, .inl (I .int, 720, .inl f65899)), (q65882, .inl (I .int, 720, .inl f65900)), (q65883, .inr (10, [.ref q65887, .ref q65888, .ref q65889, .ref q65890, .int p65901, .int p65902, .int p65903])), (q65884, .inl (I .long, 8640, .inr (.inl f65904))), (q65885, .inl (I .long, 12, .inr (.inl f65905))), (q65886, .inl (I .int, 720, .inl f65906)), (q65887, .inl (I .long, 480, .inr (.inl f65907))), (q65888, .inl (I .long, 480, .inr (.inl f65908))), (q65889, .inl (I .long, 480, .inr (.inl f65909))), (q65890, .inl (I .long, 12, .inr (.inl f65910)))]) [0, 6, 1, 2, 3, 4, 5, 7, 8, 9, 10, 11, 12, 13, 14] rfl rfl ?_
          exact ih12_68731 z68826 f68801 g68728 f68729 (gB_w bz68826 (by decide) (by decide)) (gF_any f68801) bg68728 bf68729 (by have qa0 : Int32.toInt 0 = 0 := (by decide); omega) x68731 (fun k e1 e2 e3 ht => kt12_68731 k e1 e2 e3 (fun R c1 c2 c3 => c2 g68726 f68727 g68728 f68729 z68800 f68801 z68826 k e1 e2 e3 bg68726 bg68728 r68799 hz68800 hf68801 r68815 ez68826 (ht R c1 c2 c3))) (by have qa0 : Int32.toInt 0 = 0 := (by decide); omega)
        · change G _ _ _ _ _ _ _ (.int 1 :: _) _ _ _
          refine G_ws (ws' := [(q65876, .inr (6, [.ref q65877, .ref q65878, .ref q65879, .ref q65880, .ref q65881, .ref q65882, .int g68728, .int 0])), (q65878, .inl (I .int, 720, .inl f65896)), (q65879, .inl (I .int, 720, .inl f68801)), (q65880, .inl (I .int, 720, .inl f68729)), (q65881, .inl (I .int, 720, .inl f65899)), (q65882, .inl (I .int, 720, .inl f65900)), (q65877, .inr (8, [.ref q65883, .ref q65884, .ref q65885, .ref q65886, .int p65894, .int p65895])), (q65883, .inr (10, [.ref q65887, .ref q65888, .ref q65889, .ref q65890, .int p65901, .int p65902, .int p65903])), (q65884, .inl (I .long, 8640, .inr (.inl f65904))), (q65885, .inl (I .long, 12, .inr (.inl f65905))), (q65886, .inl (I .int, 720, .inl f65906)), (q65887, .inl (I .long, 480, .inr (.inl f65907))), (q65888, .inl (I .long, 480, .inr (.inl f65908))), (q65889, .inl (I .long, 480, .inr (.inl f65909))), (q65890, .inl (I .long, 12, .inr (.inl f65910)))]) (cs' := 0) (sl' := 0) rfl rfl rfl ?_
          refine G_if_eq 69 d_cX1_takeApart_46 (by decide +kernel) (fun hc => absurd hc (by decide)) (fun _ => ?_)
          refine G_aload_n 1 d_cX1_takeApart_49 rfl ?_
          refine G_getf 0 3 d_cX1_takeApart_50 rfl (gk_X1 D I) (Nat.le_of_ble_eq_true rfl) w_2_81 rfl ?_
          refine G_aload_n 1 d_cX1_takeApart_53 rfl ?_
          refine G_getf 0 6 d_cX1_takeApart_54 rfl (gk_X1 D I) (Nat.le_of_ble_eq_true rfl) w_2_84 rfl ?_
          refine G_iload_n 0 d_cX1_takeApart_57 rfl ?_
          refine G_iastN 3 0 d_cX1_takeApart_58 rfl rfl (gB_inr (by omega) (by omega)) (fun f68827 hf68827 => ?_)
          refine G_ws (ws' := [(q65876, .inr (6, [.ref q65877, .ref q65878, .ref q65879, .ref q65880, .ref q65881, .ref q65882, .int g68728, .int 0])), (q65878, .inl (I .int, 720, .inl f65896)), (q65879, .inl (I .int, 720, .inl f68801)), (q65880, .inl (I .int, 720, .inl f68827)), (q65881, .inl (I .int, 720, .inl f65899)), (q65882, .inl (I .int, 720, .inl f65900)), (q65877, .inr (8, [.ref q65883, .ref q65884, .ref q65885, .ref q65886, .int p65894, .int p65895])), (q65883, .inr (10, [.ref q65887, .ref q65888, .ref q65889, .ref q65890, .int p65901, .int p65902, .int p65903])), (q65884, .inl (I .long, 8640, .inr (.inl f65904))), (q65885, .inl (I .long, 12, .inr (.inl f65905))), (q65886, .inl (I .int, 720, .inl f65906)), (q65887, .inl (I .long, 480, .inr (.inl f65907))), (q65888, .inl (I .long, 480, .inr (.inl f65908))), (q65889, .inl (I .long, 480, .inr (.inl f65909))), (q65890, .inl (I .long, 12, .inr (.inl f65910)))]) (cs' := 0) (sl' := 0) rfl rfl rfl ?_
          have wf68827 : gP f68827 (g68728.toInt + 1) (p65894.toInt) := gP_ext hf68827 x68731 (by omega) (by omega) (by omega)
          have bf68827 : gF f68827 0 719 := gF_upd hf68827 bf68729 bg68726'
          refine G_aload_n 1 d_cX1_takeApart_59 rfl ?_
          refine G_dup d_cX1_takeApart_60 rfl ?_
          refine G_getf 0 6 d_cX1_takeApart_61 rfl (gk_X1 D I) (Nat.le_of_ble_eq_true rfl) w_2_84 rfl ?_
          refine G_iconst 1 d_cX1_takeApart_64 (by decide +kernel) ?_
          refine G_iadd d_cX1_takeApart_65 (G_nam fun z68828 hz68828 => ?_)
          have ez68828 : z68828.toInt = g68728.toInt + 1 := by rw [gI_add hz68828 bg68728 (gBl (show Int32.toInt 1 = 1 by decide)) (by decide) (by decide), show Int32.toInt 1 = 1 from by decide]
          have bz68828 : gB z68828 1 721 := gB_add (gI_add hz68828 bg68728 (gBl (show Int32.toInt 1 = 1 by decide)) (by decide) (by decide)) bg68728 (gBl (show Int32.toInt 1 = 1 by decide)) (by decide) (by decide)
          refine G_putf (ws' := [(q65876, .inr (6, [.ref q65877, .ref q65878, .ref q65879, .ref q65880, .ref q65881, .ref q65882, .int z68828, .int 0])), (q65878, .inl (I .int, 720, .inl f65896)), (q65879, .inl (I .int, 720, .inl f68801)), (q65880, .inl (I .int, 720, .inl f68827)), (q65881, .inl (I .int, 720, .inl f65899)), (q65882, .inl (I .int, 720, .inl f65900)), (q65877, .inr (8, [.ref q65883, .ref q65884, .ref q65885, .ref q65886, .int p65894, .int p65895])), (q65883, .inr (10, [.ref q65887, .ref q65888, .ref q65889, .ref q65890, .int p65901, .int p65902, .int p65903])), (q65884, .inl (I .long, 8640, .inr (.inl f65904))), (q65885, .inl (I .long, 12, .inr (.inl f65905))), (q65886, .inl (I .int, 720, .inl f65906)), (q65887, .inl (I .long, 480, .inr (.inl f65907))), (q65888, .inl (I .long, 480, .inr (.inl f65908))), (q65889, .inl (I .long, 480, .inr (.inl f65909))), (q65890, .inl (I .long, 12, .inr (.inl f65910)))]) 0 6 d_cX1_takeApart_66 rfl (gk_X1 D I) (Nat.le_of_ble_eq_true rfl) w_2_84 rfl rfl rfl (Nat.le_of_ble_eq_true rfl) rfl ?_
          obtain ⟨z68829, hz68829⟩ : ∃ z : Int32, z = g68726 + Int32.ofInt 1 := ⟨_, rfl⟩
          have ez68829 : z68829.toInt = g68726.toInt + 1 := gI_inc hz68829 (by decide) bg68726' (by decide) (by decide)
          have bz68829 : gB z68829 1 720 := ⟨by omega, by omega⟩
          refine G_iinc (L' := [(2, .int z68829), (0, .ref q65876), (1, .int p65891)]) z68829 0 d_cX1_takeApart_69 rfl hz68829.symm (Nat.le_of_ble_eq_true rfl) rfl ?_
          refine G_goto 12 d_cX1_takeApart_72 (by decide +kernel) ?_
          refine G_sub (ws' := [(q65876, .inr (6, [.ref q65877, .ref q65878, .ref q65879, .ref q65880, .ref q65881, .ref q65882, .int z68828, .int 0])), (q65877, .inr (8, [.ref q65883, .ref q65884, .ref q65885, .ref q65886, .int p65894, .int p65895])), (q65878, .inl (I .int, 720, .inl f65896)), (q65879, .inl (I .int, 720, .inl f68801)), (q65880, .inl (I .int, 720, .inl f68827)), (q65881, .inl (I .int, 720, .inl f65899)), (q65882, .inl (I .int, 720, .inl f65900)), (q65883, .inr (10, [.ref q65887, .ref q65888, .ref q65889, .ref q65890, .int p65901, .int p65902, .int p65903])), (q65884, .inl (I .long, 8640, .inr (.inl f65904))), (q65885, .inl (I .long, 12, .inr (.inl f65905))), (q65886, .inl (I .int, 720, .inl f65906)), (q65887, .inl (I .long, 480, .inr (.inl f65907))), (q65888, .inl (I .long, 480, .inr (.inl f65908))), (q65889, .inl (I .long, 480, .inr (.inl f65909))), (q65890, .inl (I .long, 12, .inr (.inl f65910)))]) [0, 6, 1, 2, 3, 4, 5, 7, 8, 9, 10, 11, 12, 13, 14] rfl rfl ?_
          exact ih12_68731 z68829 f68801 z68828 f68827 (gB_w bz68829 (by decide) (by decide)) (gF_any f68801) ⟨by omega, by omega⟩ bf68827 (by have qa0 : Int32.toInt 0 = 0 := (by decide); omega) (gP_le wf68827 (by omega)) (fun k e1 e2 e3 ht => kt12_68731 k e1 e2 e3 (fun R c1 c2 c3 => c3 g68726 f68727 g68728 f68729 z68800 f68801 f68827 z68828 z68829 k e1 e2 e3 bg68726 bg68728 r68799 hz68800 hf68801 r68824 hf68827 ez68828 ez68829 (ht R c1 c2 c3))) (by have qa0 : Int32.toInt 0 = 0 := (by decide); omega)
  exact hlp12_68731 (((2147483648 : Int) - 0).toNat + 1) 0 f65897 0 f65898 (gB_w (gBl (show Int32.toInt 0 = 0 by decide)) (by decide) (by decide)) (gF_any f65897) (gB_w (gBl (show Int32.toInt 0 = 0 by decide)) (by decide) (by decide)) bf65898 (by have qa0 : Int32.toInt 0 = 0 := (by decide); omega) gP_0 (fun k e1 e2 e3 ht => ht) (Nat.lt_succ_self _)
/- tl_Colouring_coloursAround_42: l7, l5, l2; out: l2 -/
def tl_Colouring_coloursAround_42 (l4_1 : Int32) (Colouring_colour : Nat → Int32) (s1 : Int32) (s2 : Int64) (s3 : Int64) (k : Nat) (e1 : Int64) : Prop := ∀ R : (Int32) → (Int64) → (Int64) → Nat → (Int64) → Prop,
  (∀ (l7_2 : Int32) (l5_2 : Int64) (l2_2 : Int64), gB l7_2 0 64 → 64 ≤ l7_2.toInt → R l7_2 l5_2 l2_2 106 l2_2) →
  (∀ (l7_2 : Int32) (l5_2 : Int64) (l2_2 : Int64), gB l7_2 0 64 → l7_2.toInt < 64 → l5_2 = (0 : Int64) → R l7_2 l5_2 l2_2 106 l2_2) →
  (∀ (l7_2 : Int32) (l5_2 : Int64) (l2_2 : Int64) (x1 : Int32) (x2 : Int32) (x3 : Int32) (x4 : Int32) (x5 : Int64) (x6 : Int64) (x7 : Int64) (x8 : Int64) (x9 : Int32) (k : Nat) (e1 : Int64), gB l7_2 0 64 → l7_2.toInt < 64 → (¬ l5_2 = (0 : Int64)) → x1.toInt = l4_1.toInt * 64 → gB x2 0 127 → tr_SpillForge_lowestBit l5_2 x2 → x3.toInt = x1.toInt + x2.toInt → x4 = Colouring_colour x3.toNatClampNeg → x5 = l5_2 - (1 : Int64) → x6 = l5_2 &&& x5 → x4.toInt ≠ (-1) → x7 = (1 : Int64) <<< (x4.toInt64 &&& 63) → x8 = l2_2 ||| x7 → x9.toInt = l7_2.toInt + 1 → R x9 x6 x8 k e1 → R l7_2 l5_2 l2_2 k e1) →
  (∀ (l7_2 : Int32) (l5_2 : Int64) (l2_2 : Int64) (x1 : Int32) (x2 : Int32) (x3 : Int32) (x4 : Int32) (x5 : Int64) (x6 : Int64) (x7 : Int64) (x8 : Int32) (k : Nat) (e1 : Int64), gB l7_2 0 64 → l7_2.toInt < 64 → (¬ l5_2 = (0 : Int64)) → x1.toInt = l4_1.toInt * 64 → gB x2 0 127 → tr_SpillForge_lowestBit l5_2 x2 → x3.toInt = x1.toInt + x2.toInt → x4 = Colouring_colour x3.toNatClampNeg → x5 = l5_2 - (1 : Int64) → x6 = l5_2 &&& x5 → x4.toInt = (-1) → x7 = l2_2 ||| (0 : Int64) → x8.toInt = l7_2.toInt + 1 → R x8 x6 x7 k e1 → R l7_2 l5_2 l2_2 k e1) →
  R s1 s2 s3 k e1
/- tl_Colouring_coloursAround_5: l4, l2; out: l2 -/
def tl_Colouring_coloursAround_5 (Graph_words : Int32) (a1 : Int32) (Graph_joined : Nat → Int64) (Colouring_colour : Nat → Int32) (s1 : Int32) (s2 : Int64) (k : Nat) (e1 : Int64) : Prop := ∀ R : (Int32) → (Int64) → Nat → (Int64) → Prop,
  (∀ (l4_1 : Int32) (l2_1 : Int64), gB l4_1 0 12 → Graph_words.toInt ≤ l4_1.toInt → R l4_1 l2_1 112 l2_1) →
  (∀ (l4_1 : Int32) (l2_1 : Int64) (x1 : Int32) (x2 : Int32) (x3 : Int64) (x4 : Int64) (x5 : Int32) (k : Nat) (e1 : Int64), gB l4_1 0 12 → l4_1.toInt < Graph_words.toInt → x1.toInt = a1.toInt * Graph_words.toInt → x2.toInt = x1.toInt + l4_1.toInt → x3 = Graph_joined x2.toNatClampNeg → tl_Colouring_coloursAround_42 l4_1 Colouring_colour (0 : Int32) x3 l2_1 106 x4 → x5.toInt = l4_1.toInt + 1 → R x5 x4 k e1 → R l4_1 l2_1 k e1) →
  R s1 s2 k e1
/- tr_Colouring_coloursAround: result -/
def tr_Colouring_coloursAround (a1 : Int32) (Graph_words : Int32) (Colouring_colour : Nat → Int32) (Graph_joined : Nat → Int64) (o1 : Int64) : Prop := ∀ R : (Int64) → Prop,
  (∀ (x1 : Int64), tl_Colouring_coloursAround_5 Graph_words a1 Graph_joined Colouring_colour (0 : Int32) (0 : Int64) 112 x1 → R x1) →
  R o1
abbrev ky_68928_Colouring_coloursAround : gKey := (cX1_coloursAround, 9, yX1_coloursAround.cls, (some FieldType.long), [], yX1_coloursAround.name, fun _ _ => True)
abbrev po_68928_Colouring_coloursAround (I : FieldType → ClassId) (q68889 : Nat) (q68890 : Nat) (q68891 : Nat) (q68892 : Nat) (q68893 : Nat) (q68894 : Nat) (q68895 : Nat) (q68896 : Nat) (q68897 : Nat) (q68898 : Nat) (q68899 : Nat) (q68900 : Nat) (q68901 : Nat) (q68902 : Nat) (q68903 : Nat) (p68904 : Int32) (p68905 : Int32) (p68906 : Int32) (p68907 : Int32) (p68908 : Int32) (f68909 : Nat → Int32) (f68910 : Nat → Int32) (f68911 : Nat → Int32) (f68912 : Nat → Int32) (f68913 : Nat → Int32) (p68914 : Int32) (p68915 : Int32) (p68916 : Int32) (f68917 : Nat → Int64) (f68918 : Nat → Int64) (f68919 : Nat → Int32) (f68920 : Nat → Int64) (f68921 : Nat → Int64) (f68922 : Nat → Int64) (f68923 : Nat → Int64) : Option Value → va_W → Prop := fun r w => ∃ (ol70208 : Int64), r = some (.long ol70208) ∧ w = [(q68889, .inr (6, [.ref q68890, .ref q68891, .ref q68892, .ref q68893, .ref q68894, .ref q68895, .int p68905, .int p68906])), (q68890, .inr (8, [.ref q68896, .ref q68897, .ref q68898, .ref q68899, .int p68907, .int p68908])), (q68891, .inl (I .int, 720, .inl f68909)), (q68892, .inl (I .int, 720, .inl f68910)), (q68893, .inl (I .int, 720, .inl f68911)), (q68894, .inl (I .int, 720, .inl f68912)), (q68895, .inl (I .int, 720, .inl f68913)), (q68896, .inr (10, [.ref q68900, .ref q68901, .ref q68902, .ref q68903, .int p68914, .int p68915, .int p68916])), (q68897, .inl (I .long, 8640, .inr (.inl f68917))), (q68898, .inl (I .long, 12, .inr (.inl f68918))), (q68899, .inl (I .int, 720, .inl f68919)), (q68900, .inl (I .long, 480, .inr (.inl f68920))), (q68901, .inl (I .long, 480, .inr (.inl f68921))), (q68902, .inl (I .long, 480, .inr (.inl f68922))), (q68903, .inl (I .long, 12, .inr (.inl f68923)))] ∧ tr_Colouring_coloursAround p68904 p68908 f68913 f68917 ol70208
set_option maxRecDepth 100000 in
set_option maxHeartbeats 4000000 in
theorem ct_68928_Colouring_coloursAround (l : Launch) (hl0 : l.stackTraces = false) (D : va_G) (I : FieldType → ClassId) (q68889 : Nat) (q68890 : Nat) (q68891 : Nat) (q68892 : Nat) (q68893 : Nat) (q68894 : Nat) (q68895 : Nat) (q68896 : Nat) (q68897 : Nat) (q68898 : Nat) (q68899 : Nat) (q68900 : Nat) (q68901 : Nat) (q68902 : Nat) (q68903 : Nat) (p68904 : Int32) (p68905 : Int32) (p68906 : Int32) (p68907 : Int32) (p68908 : Int32) (f68909 : Nat → Int32) (f68910 : Nat → Int32) (f68911 : Nat → Int32) (f68912 : Nat → Int32) (f68913 : Nat → Int32) (p68914 : Int32) (p68915 : Int32) (p68916 : Int32) (f68917 : Nat → Int64) (f68918 : Nat → Int64) (f68919 : Nat → Int32) (f68920 : Nat → Int64) (f68921 : Nat → Int64) (f68922 : Nat → Int64) (f68923 : Nat → Int64) (bp68904 : gB p68904 0 719) (bp68905 : gB p68905 0 720) (bp68906 : gB p68906 0 720) (bp68907 : gB p68907 0 720) (bp68908 : gB p68908 0 12) (bf68911 : gF f68911 0 719) (bf68912 : gF f68912 0 719) (bp68914 : gB p68914 0 720) (bp68915 : gB p68915 0 12) (bp68916 : gB p68916 0 1) (x68924 : p68904.toInt < p68907.toInt) (x68925 : p68908.toInt = (p68907.toInt + 63) / 64) (x68926 : lb_W f68917 (p68907.toInt * p68908.toInt) (p68908.toInt) (p68907.toInt)) (x68927 : p68915.toInt = (p68914.toInt + 63) / 64) : Ct (gV D I) l yX1_coloursAround cX1_coloursAround 9 (some FieldType.long) 2 42 0 0 [.ref q68889, .int p68904] [(q68889, .inr (6, [.ref q68890, .ref q68891, .ref q68892, .ref q68893, .ref q68894, .ref q68895, .int p68905, .int p68906])), (q68890, .inr (8, [.ref q68896, .ref q68897, .ref q68898, .ref q68899, .int p68907, .int p68908])), (q68891, .inl (I .int, 720, .inl f68909)), (q68892, .inl (I .int, 720, .inl f68910)), (q68893, .inl (I .int, 720, .inl f68911)), (q68894, .inl (I .int, 720, .inl f68912)), (q68895, .inl (I .int, 720, .inl f68913)), (q68896, .inr (10, [.ref q68900, .ref q68901, .ref q68902, .ref q68903, .int p68914, .int p68915, .int p68916])), (q68897, .inl (I .long, 8640, .inr (.inl f68917))), (q68898, .inl (I .long, 12, .inr (.inl f68918))), (q68899, .inl (I .int, 720, .inl f68919)), (q68900, .inl (I .long, 480, .inr (.inl f68920))), (q68901, .inl (I .long, 480, .inr (.inl f68921))), (q68902, .inl (I .long, 480, .inr (.inl f68922))), (q68903, .inl (I .long, 12, .inr (.inl f68923)))] (po_68928_Colouring_coloursAround I q68889 q68890 q68891 q68892 q68893 q68894 q68895 q68896 q68897 q68898 q68899 q68900 q68901 q68902 q68903 p68904 p68905 p68906 p68907 p68908 f68909 f68910 f68911 f68912 f68913 p68914 p68915 p68916 f68917 f68918 f68919 f68920 f68921 f68922 f68923) gN := by
  refine Ct_of hl0 (by decide) (Nat.le_of_ble_eq_true rfl) ?_
  refine G_lconst 0 d_cX1_coloursAround_0 rfl ?_
  refine G_lstore_n (L' := [(2, .long 0), (0, .ref q68889), (1, .int p68904)]) d_cX1_coloursAround_1 (Nat.le_of_ble_eq_true rfl) rfl ?_
  refine G_iconst 0 d_cX1_coloursAround_2 (by decide +kernel) ?_
  refine G_istore (L' := [(4, .int 0), (2, .long 0), (0, .ref q68889), (1, .int p68904)]) d_cX1_coloursAround_3 (Nat.le_of_ble_eq_true rfl) rfl ?_
  have hlp5_70022 : ∀ (n5_70022 : Nat) (g70021 : Int32) (gl70022 : Int64), gB g70021 0 12 → (∀ (k : Nat) (e1 : Int64), tl_Colouring_coloursAround_5 p68908 p68904 f68917 f68913 g70021 gl70022 k e1 → tl_Colouring_coloursAround_5 p68908 p68904 f68917 f68913 (0 : Int32) (0 : Int64) k e1) → ((13 : Int) - g70021.toInt).toNat < n5_70022 → G (gV D I) l (gRm 2 42 0 0) (gM (gV D I) (po_68928_Colouring_coloursAround I q68889 q68890 q68891 q68892 q68893 q68894 q68895 q68896 q68897 q68898 q68899 q68900 q68901 q68902 q68903 p68904 p68905 p68906 p68907 p68908 f68909 f68910 f68911 f68912 f68913 p68914 p68915 p68916 f68917 f68918 f68919 f68920 f68921 f68922 f68923) gN 0 0) ky_68928_Colouring_coloursAround 5 [(4, .int g70021), (2, .long gl70022), (0, .ref q68889), (1, .int p68904)] [] [(q68889, .inr (6, [.ref q68890, .ref q68891, .ref q68892, .ref q68893, .ref q68894, .ref q68895, .int p68905, .int p68906])), (q68890, .inr (8, [.ref q68896, .ref q68897, .ref q68898, .ref q68899, .int p68907, .int p68908])), (q68891, .inl (I .int, 720, .inl f68909)), (q68892, .inl (I .int, 720, .inl f68910)), (q68893, .inl (I .int, 720, .inl f68911)), (q68894, .inl (I .int, 720, .inl f68912)), (q68895, .inl (I .int, 720, .inl f68913)), (q68896, .inr (10, [.ref q68900, .ref q68901, .ref q68902, .ref q68903, .int p68914, .int p68915, .int p68916])), (q68897, .inl (I .long, 8640, .inr (.inl f68917))), (q68898, .inl (I .long, 12, .inr (.inl f68918))), (q68899, .inl (I .int, 720, .inl f68919)), (q68900, .inl (I .long, 480, .inr (.inl f68920))), (q68901, .inl (I .long, 480, .inr (.inl f68921))), (q68902, .inl (I .long, 480, .inr (.inl f68922))), (q68903, .inl (I .long, 12, .inr (.inl f68923)))] 0 0 := by
    intro n5_70022
    induction n5_70022 with
    | zero => intro g70021 gl70022 bg70021 kt5_70022 hm5_70022; exact absurd hm5_70022 (Nat.not_lt_zero _)
    | succ n5_70022 ih5_70022 =>
      intro g70021 gl70022 bg70021 kt5_70022 hm5_70022
      refine G_iload 0 d_cX1_coloursAround_5 rfl ?_
      refine G_aload_n 2 d_cX1_coloursAround_7 rfl ?_
      refine G_getf 0 0 d_cX1_coloursAround_8 rfl (gk_X1 D I) (Nat.le_of_ble_eq_true rfl) w_2_78 rfl ?_
      refine G_getfN 1 5 d_cX1_coloursAround_11 rfl (gk_X3 D I) (Nat.le_of_ble_eq_true rfl) (fun _ _ _ h => gn_w 60 rfl h) rfl ?_
      refine G_icmp_ge 112 d_cX1_coloursAround_14 (by decide +kernel) (fun hc70023 => ?_) (fun hc70023 => ?_)
      · have r70024 : p68908.toInt ≤ g70021.toInt := gC_le hc70023
        have hx70025 : tl_Colouring_coloursAround_5 p68908 p68904 f68917 f68913 (0 : Int32) (0 : Int64) 112 gl70022 := kt5_70022 112 gl70022 (fun R c1 c2 => c1 g70021 gl70022 bg70021 r70024)
        refine G_lload_n 1 d_cX1_coloursAround_112 rfl ?_
        exact G_lret d_cX1_coloursAround_113 rfl (Nat.le_of_ble_eq_true rfl) (Nat.le_of_ble_eq_true rfl) ⟨gl70022, rfl, rfl, (fun R c1 => c1 gl70022 hx70025)⟩
      · have r70026 : g70021.toInt < p68908.toInt := gC_nle hc70023
        have bg70021' : gB g70021 0 11 := ⟨by omega, by omega⟩
        have bp68908' : gB p68908 1 12 := ⟨by omega, by omega⟩
        refine G_aload_n 2 d_cX1_coloursAround_17 rfl ?_
        refine G_getf 0 0 d_cX1_coloursAround_18 rfl (gk_X1 D I) (Nat.le_of_ble_eq_true rfl) w_2_78 rfl ?_
        refine G_getfN 1 1 d_cX1_coloursAround_21 rfl (gk_X3 D I) (Nat.le_of_ble_eq_true rfl) (fun _ _ _ h => gn_w 56 rfl h) rfl ?_
        refine G_iload_n 3 d_cX1_coloursAround_24 rfl ?_
        refine G_aload_n 2 d_cX1_coloursAround_25 rfl ?_
        refine G_getf 0 0 d_cX1_coloursAround_26 rfl (gk_X1 D I) (Nat.le_of_ble_eq_true rfl) w_2_78 rfl ?_
        refine G_getfN 1 5 d_cX1_coloursAround_29 rfl (gk_X3 D I) (Nat.le_of_ble_eq_true rfl) (fun _ _ _ h => gn_w 60 rfl h) rfl ?_
        refine G_imul d_cX1_coloursAround_32 (G_nam fun z70027 hz70027 => ?_)
        have ez70027 : z70027.toInt = p68904.toInt * p68908.toInt := by rw [gI_mul hz70027 bp68904 bp68908' (by decide) (by decide) (by decide)]
        have bz70027 : gB z70027 0 8628 := gB_mul hz70027 bp68904 bp68908' (by decide) (by decide) (by decide) (by decide)
        refine G_iload 0 d_cX1_coloursAround_33 rfl ?_
        refine G_iadd d_cX1_coloursAround_35 (G_nam fun z70028 hz70028 => ?_)
        have ez70028 : z70028.toInt = z70027.toInt + g70021.toInt := by rw [gI_add hz70028 bz70027 bg70021' (by decide) (by decide)]
        have bz70028 : gB z70028 0 8639 := gB_add (gI_add hz70028 bz70027 bg70021' (by decide) (by decide)) bz70027 bg70021' (by decide) (by decide)
        refine G_lald 8 2 d_cX1_coloursAround_36 rfl rfl (gB_in bz70028 (by decide) (by decide)) (G_namL fun u70029 hu70029 => ?_)
        have qu70029 : lb_Q u70029 (p68907.toInt - 64 * g70021.toInt) := lb_Wld hu70029 x68926 (by omega) (lb_Lt1 ez70028 ez70027 (by omega) (by omega) (by omega)) (lb_Mod1 ez70028 ez70027 (by omega) (by omega))
        refine G_lstore (L' := [(5, .long u70029), (4, .int g70021), (2, .long gl70022), (0, .ref q68889), (1, .int p68904)]) d_cX1_coloursAround_37 (Nat.le_of_ble_eq_true rfl) rfl ?_
        refine G_iconst 0 d_cX1_coloursAround_39 (by decide +kernel) ?_
        refine G_istore (L' := [(7, .int 0), (5, .long u70029), (4, .int g70021), (2, .long gl70022), (0, .ref q68889), (1, .int p68904)]) d_cX1_coloursAround_40 (Nat.le_of_ble_eq_true rfl) rfl ?_
        have hlp42_70180 : ∀ (n42_70180 : Nat) (g70177 : Int32) (gl70178 : Int64) (gl70179 : Int64), gB g70177 0 64 → lb_Q gl70178 (p68907.toInt - 64 * g70021.toInt) → (∀ (k : Nat) (e1 : Int64), tl_Colouring_coloursAround_42 g70021 f68913 g70177 gl70178 gl70179 k e1 → tl_Colouring_coloursAround_42 g70021 f68913 (0 : Int32) u70029 gl70022 k e1) → ((65 : Int) - g70177.toInt).toNat < n42_70180 → G (gV D I) l (gRm 2 42 0 0) (gM (gV D I) (po_68928_Colouring_coloursAround I q68889 q68890 q68891 q68892 q68893 q68894 q68895 q68896 q68897 q68898 q68899 q68900 q68901 q68902 q68903 p68904 p68905 p68906 p68907 p68908 f68909 f68910 f68911 f68912 f68913 p68914 p68915 p68916 f68917 f68918 f68919 f68920 f68921 f68922 f68923) gN 0 0) ky_68928_Colouring_coloursAround 42 [(7, .int g70177), (5, .long gl70178), (4, .int g70021), (2, .long gl70179), (0, .ref q68889), (1, .int p68904)] [] [(q68889, .inr (6, [.ref q68890, .ref q68891, .ref q68892, .ref q68893, .ref q68894, .ref q68895, .int p68905, .int p68906])), (q68890, .inr (8, [.ref q68896, .ref q68897, .ref q68898, .ref q68899, .int p68907, .int p68908])), (q68891, .inl (I .int, 720, .inl f68909)), (q68892, .inl (I .int, 720, .inl f68910)), (q68893, .inl (I .int, 720, .inl f68911)), (q68894, .inl (I .int, 720, .inl f68912)), (q68895, .inl (I .int, 720, .inl f68913)), (q68896, .inr (10, [.ref q68900, .ref q68901, .ref q68902, .ref q68903, .int p68914, .int p68915, .int p68916])), (q68897, .inl (I .long, 8640, .inr (.inl f68917))), (q68898, .inl (I .long, 12, .inr (.inl f68918))), (q68899, .inl (I .int, 720, .inl f68919)), (q68900, .inl (I .long, 480, .inr (.inl f68920))), (q68901, .inl (I .long, 480, .inr (.inl f68921))), (q68902, .inl (I .long, 480, .inr (.inl f68922))), (q68903, .inl (I .long, 12, .inr (.inl f68923)))] 0 0 := by
          intro n42_70180
          induction n42_70180 with
          | zero => intro g70177 gl70178 gl70179 bg70177 x70180 kt42_70180 hm42_70180; exact absurd hm42_70180 (Nat.not_lt_zero _)
          | succ n42_70180 ih42_70180 =>
            intro g70177 gl70178 gl70179 bg70177 x70180 kt42_70180 hm42_70180
            refine G_iload 0 d_cX1_coloursAround_42 rfl ?_
            refine G_bipush 64 d_cX1_coloursAround_44 (by decide +kernel) ?_
            refine G_icmp_ge 106 d_cX1_coloursAround_46 (by decide +kernel) (fun hc70181 => ?_) (fun hc70181 => ?_)
            · have r70182 : 64 ≤ g70177.toInt := gj_leL hc70181 (show Int32.toInt 64 = 64 by decide)
              have bg70177' : gB g70177 64 64 := ⟨by omega, by omega⟩
              have hx70183 : tl_Colouring_coloursAround_42 g70021 f68913 (0 : Int32) u70029 gl70022 106 gl70179 := kt42_70180 106 gl70179 (fun R c1 c2 c3 c4 => c1 g70177 gl70178 gl70179 bg70177 r70182)
              obtain ⟨z70184, hz70184⟩ : ∃ z : Int32, z = g70021 + Int32.ofInt 1 := ⟨_, rfl⟩
              have ez70184 : z70184.toInt = g70021.toInt + 1 := gI_inc hz70184 (by decide) bg70021' (by decide) (by decide)
              have bz70184 : gB z70184 1 12 := ⟨by omega, by omega⟩
              refine G_iinc (L' := [(4, .int z70184), (7, .int g70177), (5, .long gl70178), (2, .long gl70179), (0, .ref q68889), (1, .int p68904)]) z70184 2 d_cX1_coloursAround_106 rfl hz70184.symm (Nat.le_of_ble_eq_true rfl) rfl ?_
              refine G_goto 5 d_cX1_coloursAround_109 (by decide +kernel) ?_
              refine G_lv (L' := [(4, .int z70184), (2, .long gl70179), (0, .ref q68889), (1, .int p68904)]) [0, 3, 4, 5] rfl ?_
              exact ih5_70022 z70184 gl70179 (gB_w bz70184 (by decide) (by decide)) (fun k e1 ht => kt5_70022 k e1 (fun R c1 c2 => c2 g70021 gl70022 z70027 z70028 u70029 gl70179 z70184 k e1 bg70021 r70026 ez70027 ez70028 hu70029 hx70183 ez70184 (ht R c1 c2))) (by omega)
            · have r70185 : g70177.toInt < 64 := gj_nleL hc70181 (show Int32.toInt 64 = 64 by decide)
              have bg70177' : gB g70177 0 63 := ⟨by omega, by omega⟩
              refine G_lload 1 d_cX1_coloursAround_49 rfl ?_
              refine G_lconst 0 d_cX1_coloursAround_51 rfl ?_
              refine G_lcmp d_cX1_coloursAround_52 (G_nam fun z70186 hz70186 => ?_)
              have bz70186 : gB z70186 (-1) 1 := gB_cmp hz70186
              refine G_if_eq 106 d_cX1_coloursAround_53 (by decide +kernel) (fun hc70187 => ?_) (fun hc70187 => ?_)
              · have r70188 : z70186.toInt = 0 := gj_eq hc70187 (show Int32.toInt 0 = 0 by decide)
                have bz70186' : gB z70186 0 0 := ⟨by omega, by omega⟩
                have lhc70187 := gC_cmpE hz70186 hc70187
                have hx70189 : tl_Colouring_coloursAround_42 g70021 f68913 (0 : Int32) u70029 gl70022 106 gl70179 := kt42_70180 106 gl70179 (fun R c1 c2 c3 c4 => c2 g70177 gl70178 gl70179 bg70177 r70185 lhc70187)
                obtain ⟨z70190, hz70190⟩ : ∃ z : Int32, z = g70021 + Int32.ofInt 1 := ⟨_, rfl⟩
                have ez70190 : z70190.toInt = g70021.toInt + 1 := gI_inc hz70190 (by decide) bg70021' (by decide) (by decide)
                have bz70190 : gB z70190 1 12 := ⟨by omega, by omega⟩
                refine G_iinc (L' := [(4, .int z70190), (7, .int g70177), (5, .long gl70178), (2, .long gl70179), (0, .ref q68889), (1, .int p68904)]) z70190 2 d_cX1_coloursAround_106 rfl hz70190.symm (Nat.le_of_ble_eq_true rfl) rfl ?_
                refine G_goto 5 d_cX1_coloursAround_109 (by decide +kernel) ?_
                refine G_lv (L' := [(4, .int z70190), (2, .long gl70179), (0, .ref q68889), (1, .int p68904)]) [0, 3, 4, 5] rfl ?_
                exact ih5_70022 z70190 gl70179 (gB_w bz70190 (by decide) (by decide)) (fun k e1 ht => kt5_70022 k e1 (fun R c1 c2 => c2 g70021 gl70022 z70027 z70028 u70029 gl70179 z70190 k e1 bg70021 r70026 ez70027 ez70028 hu70029 hx70189 ez70190 (ht R c1 c2))) (by omega)
              · have r70191 : z70186.toInt ≠ 0 := gj_neq hc70187 (show Int32.toInt 0 = 0 by decide)
                have lhc70187 := gC_cmpN hz70186 hc70187
                refine G_aload_n 4 d_cX1_coloursAround_56 rfl ?_
                refine G_getf 0 5 d_cX1_coloursAround_57 rfl (gk_X1 D I) (Nat.le_of_ble_eq_true rfl) w_2_83 rfl ?_
                refine G_iload 2 d_cX1_coloursAround_60 rfl ?_
                refine G_bipush 6 d_cX1_coloursAround_62 (by decide +kernel) ?_
                refine G_ishl d_cX1_coloursAround_64 (G_nam fun z70192 hz70192 => ?_)
                have ez70192 : z70192.toInt = g70021.toInt * 64 := gI_shl (k := 6) hz70192 (by decide) bg70021' (by decide) (by decide)
                have bz70192 : gB z70192 0 704 := ⟨by omega, by omega⟩
                refine G_lload 1 d_cX1_coloursAround_65 rfl ?_
                refine G_callSN (As := [.long gl70178]) (wr := [(q68889, .inr (6, [.ref q68890, .ref q68891, .ref q68892, .ref q68893, .ref q68894, .ref q68895, .int p68905, .int p68906])), (q68890, .inr (8, [.ref q68896, .ref q68897, .ref q68898, .ref q68899, .int p68907, .int p68908])), (q68891, .inl (I .int, 720, .inl f68909)), (q68892, .inl (I .int, 720, .inl f68910)), (q68893, .inl (I .int, 720, .inl f68911)), (q68894, .inl (I .int, 720, .inl f68912)), (q68895, .inl (I .int, 720, .inl f68913)), (q68896, .inr (10, [.ref q68900, .ref q68901, .ref q68902, .ref q68903, .int p68914, .int p68915, .int p68916])), (q68897, .inl (I .long, 8640, .inr (.inl f68917))), (q68898, .inl (I .long, 12, .inr (.inl f68918))), (q68899, .inl (I .int, 720, .inl f68919)), (q68900, .inl (I .long, 480, .inr (.inl f68920))), (q68901, .inl (I .long, 480, .inr (.inl f68921))), (q68902, .inl (I .long, 480, .inr (.inl f68922))), (q68903, .inl (I .long, 12, .inr (.inl f68923)))]) (gV_ok D I) (ct_31023_SpillForge_lowestBit l hl0 D I gl70178 ) d_cX1_coloursAround_67 ⟨(fun _ _ _ h => gn_w 73 rfl h), w_1_1, w_4_127, by decide, rfl, (Nat.le_of_ble_eq_true rfl), (Nat.le_of_ble_eq_true rfl)⟩ w_4_126 [] [0, 1, 2, 3, 4, 5, 6, 7, 8, 9, 10, 11, 12, 13, 14] rfl rfl rfl rfl (by decide) (Nat.le_of_ble_eq_true rfl) (Nat.le_of_ble_eq_true rfl) (Nat.le_of_ble_eq_true rfl) (fun r w hp => ?_)
                obtain ⟨o70193, rfl, rfl, bo70193, x70194, ht70195⟩ := hp
                have lwo70193 := lb_lowE lhc70187 x70194
                have bo70193' : gB o70193 0 63 := ⟨by omega, by omega⟩
                have lqo70193 : o70193.toInt < p68907.toInt - 64 * g70021.toInt := lb_lowQ lwo70193 x70180
                change G _ _ _ _ _ _ _ (.int o70193 :: _) _ _ _
                refine G_ws (ws' := [(q68889, .inr (6, [.ref q68890, .ref q68891, .ref q68892, .ref q68893, .ref q68894, .ref q68895, .int p68905, .int p68906])), (q68890, .inr (8, [.ref q68896, .ref q68897, .ref q68898, .ref q68899, .int p68907, .int p68908])), (q68891, .inl (I .int, 720, .inl f68909)), (q68892, .inl (I .int, 720, .inl f68910)), (q68893, .inl (I .int, 720, .inl f68911)), (q68894, .inl (I .int, 720, .inl f68912)), (q68895, .inl (I .int, 720, .inl f68913)), (q68896, .inr (10, [.ref q68900, .ref q68901, .ref q68902, .ref q68903, .int p68914, .int p68915, .int p68916])), (q68897, .inl (I .long, 8640, .inr (.inl f68917))), (q68898, .inl (I .long, 12, .inr (.inl f68918))), (q68899, .inl (I .int, 720, .inl f68919)), (q68900, .inl (I .long, 480, .inr (.inl f68920))), (q68901, .inl (I .long, 480, .inr (.inl f68921))), (q68902, .inl (I .long, 480, .inr (.inl f68922))), (q68903, .inl (I .long, 12, .inr (.inl f68923)))]) (cs' := 0) (sl' := 0) rfl rfl rfl ?_
                refine G_ior d_cX1_coloursAround_70 (G_nam fun z70196 hz70196 => ?_)
                have ez70196 : z70196.toInt = z70192.toInt + o70193.toInt := gI_or (k := 6) (m := (g70021.toInt).toNat) hz70196 (by omega) (bo70193') (by decide) (by omega)
                have bz70196 : gB z70196 0 767 := ⟨by omega, by omega⟩
                refine G_iald 6 0 d_cX1_coloursAround_71 rfl rfl (gB_inr (by omega) (by omega)) (G_nam fun z70197 hz70197 => ?_)
                have bz70197 : gB z70197 (-2147483648) 2147483647 := gB_any z70197
                refine G_istore (L' := [(8, .int z70197), (7, .int g70177), (5, .long gl70178), (4, .int g70021), (2, .long gl70179), (0, .ref q68889), (1, .int p68904)]) d_cX1_coloursAround_72 (Nat.le_of_ble_eq_true rfl) rfl ?_
                refine G_lload 2 d_cX1_coloursAround_74 rfl ?_
                refine G_lload 2 d_cX1_coloursAround_76 rfl ?_
                refine G_lconst 1 d_cX1_coloursAround_78 rfl ?_
                refine G_lsub d_cX1_coloursAround_79 (G_namL fun u70198 hu70198 => ?_)
                refine G_land d_cX1_coloursAround_80 (G_namL fun u70199 hu70199 => ?_)
                have qu70199 : lb_Q u70199 (p68907.toInt - 64 * g70021.toInt) := lb_QandL hu70199 x70180
                refine G_lstore (L' := [(5, .long u70199), (8, .int z70197), (7, .int g70177), (4, .int g70021), (2, .long gl70179), (0, .ref q68889), (1, .int p68904)]) d_cX1_coloursAround_81 (Nat.le_of_ble_eq_true rfl) rfl ?_
                refine G_lload_n 4 d_cX1_coloursAround_83 rfl ?_
                refine G_iload 1 d_cX1_coloursAround_84 rfl ?_
                refine G_iconst (-1) d_cX1_coloursAround_86 (by decide +kernel) ?_
                refine G_icmp_ne 94 d_cX1_coloursAround_87 (by decide +kernel) (fun hc70200 => ?_) (fun hc70200 => ?_)
                · have r70201 : z70197.toInt ≠ (-1) := gj_neq hc70200 (show Int32.toInt (-1) = (-1) by decide)
                  refine G_lconst 1 d_cX1_coloursAround_94 rfl ?_
                  refine G_iload 1 d_cX1_coloursAround_95 rfl ?_
                  refine G_lshl d_cX1_coloursAround_97 (G_namL fun u70202 hu70202 => ?_)
                  refine G_lor d_cX1_coloursAround_98 (G_namL fun u70203 hu70203 => ?_)
                  refine G_lstore_n (L' := [(2, .long u70203), (5, .long u70199), (8, .int z70197), (7, .int g70177), (4, .int g70021), (0, .ref q68889), (1, .int p68904)]) d_cX1_coloursAround_99 (Nat.le_of_ble_eq_true rfl) rfl ?_
                  obtain ⟨z70204, hz70204⟩ : ∃ z : Int32, z = g70177 + Int32.ofInt 1 := ⟨_, rfl⟩
                  have ez70204 : z70204.toInt = g70177.toInt + 1 := gI_inc hz70204 (by decide) bg70177' (by decide) (by decide)
                  have bz70204 : gB z70204 1 64 := ⟨by omega, by omega⟩
                  refine G_iinc (L' := [(7, .int z70204), (2, .long u70203), (5, .long u70199), (8, .int z70197), (4, .int g70021), (0, .ref q68889), (1, .int p68904)]) z70204 3 d_cX1_coloursAround_100 rfl hz70204.symm (Nat.le_of_ble_eq_true rfl) rfl ?_
                  refine G_goto 42 d_cX1_coloursAround_103 (by decide +kernel) ?_
                  refine G_lv (L' := [(7, .int z70204), (5, .long u70199), (4, .int g70021), (2, .long u70203), (0, .ref q68889), (1, .int p68904)]) [0, 2, 4, 1, 5, 6] rfl ?_
                  exact ih42_70180 z70204 u70199 u70203 (gB_w bz70204 (by decide) (by decide)) qu70199 (fun k e1 ht => kt42_70180 k e1 (fun R c1 c2 c3 c4 => c3 g70177 gl70178 gl70179 z70192 o70193 z70196 z70197 u70198 u70199 u70202 u70203 z70204 k e1 bg70177 r70185 lhc70187 ez70192 bo70193 ht70195 ez70196 hz70197 hu70198 hu70199 r70201 hu70202 hu70203 ez70204 (ht R c1 c2 c3 c4))) (by omega)
                · have r70205 : z70197.toInt = (-1) := gj_eq hc70200 (show Int32.toInt (-1) = (-1) by decide)
                  have bz70197' : gB z70197 (-1) (-1) := ⟨by omega, by omega⟩
                  refine G_lconst 0 d_cX1_coloursAround_90 rfl ?_
                  refine G_goto 98 d_cX1_coloursAround_91 (by decide +kernel) ?_
                  refine G_lor d_cX1_coloursAround_98 (G_namL fun u70206 hu70206 => ?_)
                  refine G_lstore_n (L' := [(2, .long u70206), (5, .long u70199), (8, .int z70197), (7, .int g70177), (4, .int g70021), (0, .ref q68889), (1, .int p68904)]) d_cX1_coloursAround_99 (Nat.le_of_ble_eq_true rfl) rfl ?_
                  obtain ⟨z70207, hz70207⟩ : ∃ z : Int32, z = g70177 + Int32.ofInt 1 := ⟨_, rfl⟩
                  have ez70207 : z70207.toInt = g70177.toInt + 1 := gI_inc hz70207 (by decide) bg70177' (by decide) (by decide)
                  have bz70207 : gB z70207 1 64 := ⟨by omega, by omega⟩
                  refine G_iinc (L' := [(7, .int z70207), (2, .long u70206), (5, .long u70199), (8, .int z70197), (4, .int g70021), (0, .ref q68889), (1, .int p68904)]) z70207 3 d_cX1_coloursAround_100 rfl hz70207.symm (Nat.le_of_ble_eq_true rfl) rfl ?_
                  refine G_goto 42 d_cX1_coloursAround_103 (by decide +kernel) ?_
                  refine G_lv (L' := [(7, .int z70207), (5, .long u70199), (4, .int g70021), (2, .long u70206), (0, .ref q68889), (1, .int p68904)]) [0, 2, 4, 1, 5, 6] rfl ?_
                  exact ih42_70180 z70207 u70199 u70206 (gB_w bz70207 (by decide) (by decide)) qu70199 (fun k e1 ht => kt42_70180 k e1 (fun R c1 c2 c3 c4 => c4 g70177 gl70178 gl70179 z70192 o70193 z70196 z70197 u70198 u70199 u70206 z70207 k e1 bg70177 r70185 lhc70187 ez70192 bo70193 ht70195 ez70196 hz70197 hu70198 hu70199 r70205 hu70206 ez70207 (ht R c1 c2 c3 c4))) (by omega)
        exact hlp42_70180 (((65 : Int) - 0).toNat + 1) 0 u70029 gl70022 (gB_w (gBl (show Int32.toInt 0 = 0 by decide)) (by decide) (by decide)) qu70029 (fun k e1 ht => ht) (Nat.lt_succ_self _)
  exact hlp5_70022 (((13 : Int) - 0).toNat + 1) 0 0 (gB_w (gBl (show Int32.toInt 0 = 0 by decide)) (by decide) (by decide)) (fun k e1 ht => ht) (Nat.lt_succ_self _)
/- tl_Colouring_putTogether_17: l3, l2, Colouring_colour; out: l2, Colouring_colour -/
def tl_Colouring_putTogether_17 (Colouring_pile : Nat → Int32) (Graph_words : Int32) (Graph_joined : Nat → Int64) (a1 : Int32) (s1 : Int32) (s2 : Int32) (s3 : Nat → Int32) (k : Nat) (e1 : Int32) (e2 : Nat → Int32) : Prop := ∀ R : (Int32) → (Int32) → (Nat → Int32) → Nat → (Int32) → (Nat → Int32) → Prop,
  (∀ (l3_1 : Int32) (l2_1 : Int32) (Colouring_colour_1 : Nat → Int32), gB l3_1 (-1) 719 → gB l2_1 0 1 → l3_1.toInt < 0 → R l3_1 l2_1 Colouring_colour_1 70 l2_1 Colouring_colour_1) →
  (∀ (l3_1 : Int32) (l2_1 : Int32) (Colouring_colour_1 : Nat → Int32) (x1 : Int32) (x2 : Int64) (x3 : Int64) (x4 : Int32) (x5 : Int32) (k : Nat) (e1 : Int32) (e2 : Nat → Int32), gB l3_1 (-1) 719 → gB l2_1 0 1 → 0 ≤ l3_1.toInt → x1 = Colouring_pile l3_1.toNatClampNeg → gB x1 0 719 → tr_Colouring_coloursAround x1 Graph_words Colouring_colour_1 Graph_joined x2 → x3 = x2 ^^^ (-1 : Int64) → gB x4 0 127 → tr_SpillForge_lowestBit x3 x4 → a1.toInt ≤ x4.toInt → x5.toInt = l3_1.toInt + (-1) → R x5 (0 : Int32) Colouring_colour_1 k e1 e2 → R l3_1 l2_1 Colouring_colour_1 k e1 e2) →
  (∀ (l3_1 : Int32) (l2_1 : Int32) (Colouring_colour_1 : Nat → Int32) (x1 : Int32) (x2 : Int64) (x3 : Int64) (x4 : Int32) (x5 : Nat → Int32) (x6 : Int32) (k : Nat) (e1 : Int32) (e2 : Nat → Int32), gB l3_1 (-1) 719 → gB l2_1 0 1 → 0 ≤ l3_1.toInt → x1 = Colouring_pile l3_1.toNatClampNeg → gB x1 0 719 → tr_Colouring_coloursAround x1 Graph_words Colouring_colour_1 Graph_joined x2 → x3 = x2 ^^^ (-1 : Int64) → gB x4 0 127 → tr_SpillForge_lowestBit x3 x4 → x4.toInt < a1.toInt → x5 = upd Colouring_colour_1 x1.toNatClampNeg x4 → x6.toInt = l3_1.toInt + (-1) → R x6 l2_1 x5 k e1 e2 → R l3_1 l2_1 Colouring_colour_1 k e1 e2) →
  R s1 s2 s3 k e1 e2
/- tr_Colouring_putTogether: result, Colouring_colour -/
def tr_Colouring_putTogether (a1 : Int32) (Colouring_pileSize : Int32) (Graph_words : Int32) (Colouring_pile : Nat → Int32) (Colouring_colour : Nat → Int32) (Graph_joined : Nat → Int64) (o1 : Int32) (o2 : Nat → Int32) : Prop := ∀ R : (Int32) → (Nat → Int32) → Prop,
  (∀ (x1 : Nat → Int32) (x2 : Int32) (x3 : Int32) (x4 : Nat → Int32), tr_Arrays_fill4 (-1 : Int32) Colouring_colour x1 → x2.toInt = Colouring_pileSize.toInt - 1 → tl_Colouring_putTogether_17 Colouring_pile Graph_words Graph_joined a1 x2 (1 : Int32) x1 70 x3 x4 → R x3 x4) →
  R o1 o2
