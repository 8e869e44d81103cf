theorem d_cX2_nextToMerge_0 : decode cX2_nextToMerge 0 = .ok (.iconst 0, 1) := by decide +kernel
theorem d_cX2_nextToMerge_1 : decode cX2_nextToMerge 1 = .ok (.istore_n 2, 1) := by decide +kernel
theorem d_cX2_nextToMerge_2 : decode cX2_nextToMerge 2 = .ok (.iload_n 2, 1) := by decide +kernel
theorem d_cX2_nextToMerge_3 : decode cX2_nextToMerge 3 = .ok (.aload_n 0, 1) := by decide +kernel
theorem d_cX2_nextToMerge_4 : decode cX2_nextToMerge 4 = .ok (.getfield 48, 3) := by decide +kernel
theorem d_cX2_nextToMerge_7 : decode cX2_nextToMerge 7 = .ok (.getfield 73, 3) := by decide +kernel
theorem d_cX2_nextToMerge_10 : decode cX2_nextToMerge 10 = .ok (.if_icmp .ge 48, 3) := by decide +kernel
theorem d_cX2_nextToMerge_58 : decode cX2_nextToMerge 58 = .ok (.iconst (-1), 1) := by decide +kernel
theorem d_cX2_nextToMerge_59 : decode cX2_nextToMerge 59 = .ok (.ireturn, 1) := by decide +kernel
theorem d_cX2_nextToMerge_13 : decode cX2_nextToMerge 13 = .ok (.aload_n 0, 1) := by decide +kernel
theorem d_cX2_nextToMerge_14 : decode cX2_nextToMerge 14 = .ok (.getfield 48, 3) := by decide +kernel
theorem d_cX2_nextToMerge_17 : decode cX2_nextToMerge 17 = .ok (.iload_n 2, 1) := by decide +kernel
theorem d_cX2_nextToMerge_18 : decode cX2_nextToMerge 18 = .ok (.invokevirtual 220, 3) := by decide +kernel
theorem w_5_92 : (Jvm.Cond.methodLink "SpillForge$Giver" (220 : Nat) ({ cls := "SpillForge$Code", name := "copiesRegister", desc := "(I)Z" } : Jvm.MethodName)) ∈ gw := gw_5 92 rfl rfl
theorem d_cX2_nextToMerge_21 : decode cX2_nextToMerge 21 = .ok (.ifCond .eq 31, 3) := by decide +kernel
theorem d_cX2_nextToMerge_52 : decode cX2_nextToMerge 52 = .ok (.iinc 2 1, 3) := by decide +kernel
theorem d_cX2_nextToMerge_55 : decode cX2_nextToMerge 55 = .ok (.goto (-53), 3) := by decide +kernel
theorem d_cX2_nextToMerge_24 : decode cX2_nextToMerge 24 = .ok (.aload_n 0, 1) := by decide +kernel
theorem d_cX2_nextToMerge_25 : decode cX2_nextToMerge 25 = .ok (.aload_n 0, 1) := by decide +kernel
theorem d_cX2_nextToMerge_26 : decode cX2_nextToMerge 26 = .ok (.getfield 48, 3) := by decide +kernel
theorem d_cX2_nextToMerge_29 : decode cX2_nextToMerge 29 = .ok (.getfield 76, 3) := by decide +kernel
theorem d_cX2_nextToMerge_32 : decode cX2_nextToMerge 32 = .ok (.iload_n 2, 1) := by decide +kernel
theorem d_cX2_nextToMerge_33 : decode cX2_nextToMerge 33 = .ok (.iaload, 1) := by decide +kernel
theorem d_cX2_nextToMerge_34 : decode cX2_nextToMerge 34 = .ok (.aload_n 0, 1) := by decide +kernel
theorem d_cX2_nextToMerge_35 : decode cX2_nextToMerge 35 = .ok (.getfield 48, 3) := by decide +kernel
theorem d_cX2_nextToMerge_38 : decode cX2_nextToMerge 38 = .ok (.getfield 83, 3) := by decide +kernel
theorem d_cX2_nextToMerge_41 : decode cX2_nextToMerge 41 = .ok (.iload_n 2, 1) := by decide +kernel
theorem d_cX2_nextToMerge_42 : decode cX2_nextToMerge 42 = .ok (.iaload, 1) := by decide +kernel
theorem d_cX2_nextToMerge_43 : decode cX2_nextToMerge 43 = .ok (.iload_n 1, 1) := by decide +kernel
theorem d_cX2_nextToMerge_44 : decode cX2_nextToMerge 44 = .ok (.invokevirtual 223, 3) := by decide +kernel
theorem w_5_93 : (Jvm.Cond.methodLink "SpillForge$Giver" (223 : Nat) ({ cls := "SpillForge$Giver", name := "canMerge", desc := "(III)Z" } : Jvm.MethodName)) ∈ gw := gw_5 93 rfl rfl
theorem w_5_96 : (Jvm.Cond.code ({ cls := "SpillForge$Giver", name := "canMerge", desc := "(III)Z" } : Jvm.MethodName) prog_4_method_19_code (4 : Nat) (Option.some Jvm.ClassFile.FieldType.boolean)) ∈ gw := gw_5 96 rfl rfl
theorem w_5_95 : (Jvm.Cond.instanceMethod ({ cls := "SpillForge$Giver", name := "canMerge", desc := "(III)Z" } : Jvm.MethodName)) ∈ gw := gw_5 95 rfl rfl
theorem w_p_42 : Cond.selects "SpillForge$Giver" ⟨"SpillForge$Giver", "canMerge", "(III)Z"⟩ ⟨"SpillForge$Giver", "canMerge", "(III)Z"⟩ ∈ gw := gw_p _ 42 rfl rfl rfl
theorem d_cX2_nextToMerge_47 : decode cX2_nextToMerge 47 = .ok (.ifCond .eq 5, 3) := by decide +kernel
theorem d_cX2_nextToMerge_50 : decode cX2_nextToMerge 50 = .ok (.iload_n 2, 1) := by decide +kernel
theorem d_cX2_nextToMerge_51 : decode cX2_nextToMerge 51 = .ok (.ireturn, 1) := by decide +kernel
theorem d_cX0_drop_0 : decode cX0_drop 0 = .ok (.aload_n 0, 1) := by decide +kernel
theorem d_cX0_drop_1 : decode cX0_drop 1 = .ok (.getfield 49, 3) := by decide +kernel
theorem d_cX0_drop_4 : decode cX0_drop 4 = .ok (.iload_n 1, 1) := by decide +kernel
theorem d_cX0_drop_5 : decode cX0_drop 5 = .ok (.isub, 1) := by decide +kernel
theorem d_cX0_drop_6 : decode cX0_drop 6 = .ok (.iconst 1, 1) := by decide +kernel
theorem d_cX0_drop_7 : decode cX0_drop 7 = .ok (.isub, 1) := by decide +kernel
theorem d_cX0_drop_8 : decode cX0_drop 8 = .ok (.istore_n 2, 1) := by decide +kernel
theorem d_cX0_drop_9 : decode cX0_drop 9 = .ok (.iload_n 1, 1) := by decide +kernel
theorem d_cX0_drop_10 : decode cX0_drop 10 = .ok (.ifCond .lt 7, 3) := by decide +kernel
theorem d_cX0_drop_13 : decode cX0_drop 13 = .ok (.iload_n 2, 1) := by decide +kernel
theorem d_cX0_drop_14 : decode cX0_drop 14 = .ok (.ifCond .ge 4, 3) := by decide +kernel
theorem d_cX0_drop_18 : decode cX0_drop 18 = .ok (.aload_n 0, 1) := by decide +kernel
theorem d_cX0_drop_19 : decode cX0_drop 19 = .ok (.getfield 27, 3) := by decide +kernel
theorem d_cX0_drop_22 : decode cX0_drop 22 = .ok (.iload_n 1, 1) := by decide +kernel
theorem d_cX0_drop_23 : decode cX0_drop 23 = .ok (.iconst 1, 1) := by decide +kernel
theorem d_cX0_drop_24 : decode cX0_drop 24 = .ok (.iadd, 1) := by decide +kernel
theorem d_cX0_drop_25 : decode cX0_drop 25 = .ok (.aload_n 0, 1) := by decide +kernel
theorem d_cX0_drop_26 : decode cX0_drop 26 = .ok (.getfield 27, 3) := by decide +kernel
theorem d_cX0_drop_29 : decode cX0_drop 29 = .ok (.iload_n 1, 1) := by decide +kernel
theorem d_cX0_drop_30 : decode cX0_drop 30 = .ok (.iload_n 2, 1) := by decide +kernel
theorem d_cX0_drop_31 : decode cX0_drop 31 = .ok (.invokestatic 64, 3) := by decide +kernel
theorem w_5_111 : (Jvm.Cond.methodLink "SpillForge$Code" (64 : Nat) ({ cls := "java/lang/System", name := "arraycopy", desc := "(Ljava/lang/Object;ILjava/lang/Object;II)V" } : Jvm.MethodName)) ∈ gw := gw_5 111 rfl rfl
theorem w_5_113 : (Jvm.Cond.native ({ cls := "java/lang/System", name := "arraycopy", desc := "(Ljava/lang/Object;ILjava/lang/Object;II)V" } : Jvm.MethodName)) ∈ gw := gw_5 113 rfl rfl
theorem w_5_112 : (Jvm.Cond.static ({ cls := "java/lang/System", name := "arraycopy", desc := "(Ljava/lang/Object;ILjava/lang/Object;II)V" } : Jvm.MethodName)) ∈ gw := gw_5 112 rfl rfl
theorem w_1_34 : (Jvm.Cond.initialized "java/lang/System") ∈ gw := gw_1 34 rfl rfl
theorem d_cX0_drop_34 : decode cX0_drop 34 = .ok (.aload_n 0, 1) := by decide +kernel
theorem d_cX0_drop_35 : decode cX0_drop 35 = .ok (.getfield 30, 3) := by decide +kernel
theorem d_cX0_drop_38 : decode cX0_drop 38 = .ok (.iload_n 1, 1) := by decide +kernel
theorem d_cX0_drop_39 : decode cX0_drop 39 = .ok (.iconst 1, 1) := by decide +kernel
theorem d_cX0_drop_40 : decode cX0_drop 40 = .ok (.iadd, 1) := by decide +kernel
theorem d_cX0_drop_41 : decode cX0_drop 41 = .ok (.aload_n 0, 1) := by decide +kernel
theorem d_cX0_drop_42 : decode cX0_drop 42 = .ok (.getfield 30, 3) := by decide +kernel
theorem d_cX0_drop_45 : decode cX0_drop 45 = .ok (.iload_n 1, 1) := by decide +kernel
theorem d_cX0_drop_46 : decode cX0_drop 46 = .ok (.iload_n 2, 1) := by decide +kernel
theorem d_cX0_drop_47 : decode cX0_drop 47 = .ok (.invokestatic 64, 3) := by decide +kernel
theorem d_cX0_drop_50 : decode cX0_drop 50 = .ok (.aload_n 0, 1) := by decide +kernel
theorem d_cX0_drop_51 : decode cX0_drop 51 = .ok (.getfield 33, 3) := by decide +kernel
theorem d_cX0_drop_54 : decode cX0_drop 54 = .ok (.iload_n 1, 1) := by decide +kernel
theorem d_cX0_drop_55 : decode cX0_drop 55 = .ok (.iconst 1, 1) := by decide +kernel
theorem d_cX0_drop_56 : decode cX0_drop 56 = .ok (.iadd, 1) := by decide +kernel
theorem d_cX0_drop_57 : decode cX0_drop 57 = .ok (.aload_n 0, 1) := by decide +kernel
theorem d_cX0_drop_58 : decode cX0_drop 58 = .ok (.getfield 33, 3) := by decide +kernel
theorem d_cX0_drop_61 : decode cX0_drop 61 = .ok (.iload_n 1, 1) := by decide +kernel
theorem d_cX0_drop_62 : decode cX0_drop 62 = .ok (.iload_n 2, 1) := by decide +kernel
theorem d_cX0_drop_63 : decode cX0_drop 63 = .ok (.invokestatic 64, 3) := by decide +kernel
theorem d_cX0_drop_66 : decode cX0_drop 66 = .ok (.aload_n 0, 1) := by decide +kernel
theorem d_cX0_drop_67 : decode cX0_drop 67 = .ok (.getfield 36, 3) := by decide +kernel
theorem d_cX0_drop_70 : decode cX0_drop 70 = .ok (.iload_n 1, 1) := by decide +kernel
theorem d_cX0_drop_71 : decode cX0_drop 71 = .ok (.iconst 1, 1) := by decide +kernel
theorem d_cX0_drop_72 : decode cX0_drop 72 = .ok (.iadd, 1) := by decide +kernel
theorem d_cX0_drop_73 : decode cX0_drop 73 = .ok (.aload_n 0, 1) := by decide +kernel
theorem d_cX0_drop_74 : decode cX0_drop 74 = .ok (.getfield 36, 3) := by decide +kernel
theorem d_cX0_drop_77 : decode cX0_drop 77 = .ok (.iload_n 1, 1) := by decide +kernel
theorem d_cX0_drop_78 : decode cX0_drop 78 = .ok (.iload_n 2, 1) := by decide +kernel
theorem d_cX0_drop_79 : decode cX0_drop 79 = .ok (.invokestatic 64, 3) := by decide +kernel
theorem d_cX0_drop_82 : decode cX0_drop 82 = .ok (.aload_n 0, 1) := by decide +kernel
theorem d_cX0_drop_83 : decode cX0_drop 83 = .ok (.getfield 39, 3) := by decide +kernel
theorem d_cX0_drop_86 : decode cX0_drop 86 = .ok (.iload_n 1, 1) := by decide +kernel
theorem d_cX0_drop_87 : decode cX0_drop 87 = .ok (.iconst 1, 1) := by decide +kernel
theorem d_cX0_drop_88 : decode cX0_drop 88 = .ok (.iadd, 1) := by decide +kernel
theorem d_cX0_drop_89 : decode cX0_drop 89 = .ok (.aload_n 0, 1) := by decide +kernel
theorem d_cX0_drop_90 : decode cX0_drop 90 = .ok (.getfield 39, 3) := by decide +kernel
theorem d_cX0_drop_93 : decode cX0_drop 93 = .ok (.iload_n 1, 1) := by decide +kernel
theorem d_cX0_drop_94 : decode cX0_drop 94 = .ok (.iload_n 2, 1) := by decide +kernel
theorem d_cX0_drop_95 : decode cX0_drop 95 = .ok (.invokestatic 64, 3) := by decide +kernel
theorem d_cX0_drop_98 : decode cX0_drop 98 = .ok (.aload_n 0, 1) := by decide +kernel
theorem d_cX0_drop_99 : decode cX0_drop 99 = .ok (.getfield 42, 3) := by decide +kernel
theorem d_cX0_drop_102 : decode cX0_drop 102 = .ok (.iload_n 1, 1) := by decide +kernel
theorem d_cX0_drop_103 : decode cX0_drop 103 = .ok (.iconst 1, 1) := by decide +kernel
theorem d_cX0_drop_104 : decode cX0_drop 104 = .ok (.iadd, 1) := by decide +kernel
theorem d_cX0_drop_105 : decode cX0_drop 105 = .ok (.aload_n 0, 1) := by decide +kernel
theorem d_cX0_drop_106 : decode cX0_drop 106 = .ok (.getfield 42, 3) := by decide +kernel
theorem d_cX0_drop_109 : decode cX0_drop 109 = .ok (.iload_n 1, 1) := by decide +kernel
theorem d_cX0_drop_110 : decode cX0_drop 110 = .ok (.iload_n 2, 1) := by decide +kernel
theorem d_cX0_drop_111 : decode cX0_drop 111 = .ok (.invokestatic 64, 3) := by decide +kernel
theorem d_cX0_drop_114 : decode cX0_drop 114 = .ok (.aload_n 0, 1) := by decide +kernel
theorem d_cX0_drop_115 : decode cX0_drop 115 = .ok (.dup, 1) := by decide +kernel
theorem d_cX0_drop_116 : decode cX0_drop 116 = .ok (.getfield 49, 3) := by decide +kernel
theorem d_cX0_drop_119 : decode cX0_drop 119 = .ok (.iconst 1, 1) := by decide +kernel
theorem d_cX0_drop_120 : decode cX0_drop 120 = .ok (.isub, 1) := by decide +kernel
theorem d_cX0_drop_121 : decode cX0_drop 121 = .ok (.putfield 49, 3) := by decide +kernel
theorem d_cX0_drop_124 : decode cX0_drop 124 = .ok (.iconst 0, 1) := by decide +kernel
theorem d_cX0_drop_125 : decode cX0_drop 125 = .ok (.istore_n 3, 1) := by decide +kernel
theorem d_cX0_drop_126 : decode cX0_drop 126 = .ok (.iload_n 3, 1) := by decide +kernel
theorem d_cX0_drop_127 : decode cX0_drop 127 = .ok (.aload_n 0, 1) := by decide +kernel
theorem d_cX0_drop_128 : decode cX0_drop 128 = .ok (.getfield 45, 3) := by decide +kernel
theorem d_cX0_drop_131 : decode cX0_drop 131 = .ok (.if_icmp .ge 29, 3) := by decide +kernel
theorem d_cX0_drop_160 : decode cX0_drop 160 = .ok (.return_, 1) := by decide +kernel
theorem d_cX0_drop_134 : decode cX0_drop 134 = .ok (.aload_n 0, 1) := by decide +kernel
theorem d_cX0_drop_135 : decode cX0_drop 135 = .ok (.getfield 9, 3) := by decide +kernel
theorem d_cX0_drop_138 : decode cX0_drop 138 = .ok (.iload_n 3, 1) := by decide +kernel
theorem d_cX0_drop_139 : decode cX0_drop 139 = .ok (.iaload, 1) := by decide +kernel
theorem d_cX0_drop_140 : decode cX0_drop 140 = .ok (.iload_n 1, 1) := by decide +kernel
theorem d_cX0_drop_141 : decode cX0_drop 141 = .ok (.if_icmp .le 13, 3) := by decide +kernel
theorem d_cX0_drop_154 : decode cX0_drop 154 = .ok (.iinc 3 1, 3) := by decide +kernel
theorem d_cX0_drop_157 : decode cX0_drop 157 = .ok (.goto (-31), 3) := by decide +kernel
theorem d_cX0_drop_144 : decode cX0_drop 144 = .ok (.aload_n 0, 1) := by decide +kernel
theorem d_cX0_drop_145 : decode cX0_drop 145 = .ok (.getfield 9, 3) := by decide +kernel
theorem d_cX0_drop_148 : decode cX0_drop 148 = .ok (.iload_n 3, 1) := by decide +kernel
theorem d_cX0_drop_149 : decode cX0_drop 149 = .ok (.dup2, 1) := by decide +kernel
theorem d_cX0_drop_150 : decode cX0_drop 150 = .ok (.iaload, 1) := by decide +kernel
theorem d_cX0_drop_151 : decode cX0_drop 151 = .ok (.iconst 1, 1) := by decide +kernel
theorem d_cX0_drop_152 : decode cX0_drop 152 = .ok (.isub, 1) := by decide +kernel
theorem d_cX0_drop_153 : decode cX0_drop 153 = .ok (.iastore, 1) := by decide +kernel
theorem d_cX0_drop_17 : decode cX0_drop 17 = .ok (.return_, 1) := by decide +kernel
theorem d_cX0_replace_0 : decode cX0_replace 0 = .ok (.iconst 0, 1) := by decide +kernel
theorem d_cX0_replace_1 : decode cX0_replace 1 = .ok (.istore_n 3, 1) := by decide +kernel
theorem d_cX0_replace_2 : decode cX0_replace 2 = .ok (.iload_n 3, 1) := by decide +kernel
theorem d_cX0_replace_3 : decode cX0_replace 3 = .ok (.aload_n 0, 1) := by decide +kernel
theorem d_cX0_replace_4 : decode cX0_replace 4 = .ok (.getfield 49, 3) := by decide +kernel
theorem d_cX0_replace_7 : decode cX0_replace 7 = .ok (.if_icmp .ge 87, 3) := by decide +kernel
theorem d_cX0_replace_94 : decode cX0_replace 94 = .ok (.return_, 1) := by decide +kernel
theorem d_cX0_replace_10 : decode cX0_replace 10 = .ok (.aload_n 0, 1) := by decide +kernel
theorem d_cX0_replace_11 : decode cX0_replace 11 = .ok (.getfield 30, 3) := by decide +kernel
theorem d_cX0_replace_14 : decode cX0_replace 14 = .ok (.iload_n 3, 1) := by decide +kernel
theorem d_cX0_replace_15 : decode cX0_replace 15 = .ok (.aload_n 0, 1) := by decide +kernel
theorem d_cX0_replace_16 : decode cX0_replace 16 = .ok (.getfield 30, 3) := by decide +kernel
theorem d_cX0_replace_19 : decode cX0_replace 19 = .ok (.iload_n 3, 1) := by decide +kernel
theorem d_cX0_replace_20 : decode cX0_replace 20 = .ok (.iaload, 1) := by decide +kernel
theorem d_cX0_replace_21 : decode cX0_replace 21 = .ok (.iload_n 1, 1) := by decide +kernel
theorem d_cX0_replace_22 : decode cX0_replace 22 = .ok (.if_icmp .ne 7, 3) := by decide +kernel
theorem d_cX0_replace_29 : decode cX0_replace 29 = .ok (.aload_n 0, 1) := by decide +kernel
theorem d_cX0_replace_30 : decode cX0_replace 30 = .ok (.getfield 30, 3) := by decide +kernel
theorem d_cX0_replace_33 : decode cX0_replace 33 = .ok (.iload_n 3, 1) := by decide +kernel
theorem d_cX0_replace_34 : decode cX0_replace 34 = .ok (.iaload, 1) := by decide +kernel
theorem d_cX0_replace_35 : decode cX0_replace 35 = .ok (.iastore, 1) := by decide +kernel
theorem d_cX0_replace_36 : decode cX0_replace 36 = .ok (.aload_n 0, 1) := by decide +kernel
theorem d_cX0_replace_37 : decode cX0_replace 37 = .ok (.getfield 33, 3) := by decide +kernel
theorem d_cX0_replace_40 : decode cX0_replace 40 = .ok (.iload_n 3, 1) := by decide +kernel
theorem d_cX0_replace_41 : decode cX0_replace 41 = .ok (.aload_n 0, 1) := by decide +kernel
theorem d_cX0_replace_42 : decode cX0_replace 42 = .ok (.getfield 33, 3) := by decide +kernel
theorem d_cX0_replace_45 : decode cX0_replace 45 = .ok (.iload_n 3, 1) := by decide +kernel
theorem d_cX0_replace_46 : decode cX0_replace 46 = .ok (.iaload, 1) := by decide +kernel
theorem d_cX0_replace_47 : decode cX0_replace 47 = .ok (.iload_n 1, 1) := by decide +kernel
theorem d_cX0_replace_48 : decode cX0_replace 48 = .ok (.if_icmp .ne 7, 3) := by decide +kernel
theorem d_cX0_replace_55 : decode cX0_replace 55 = .ok (.aload_n 0, 1) := by decide +kernel
theorem d_cX0_replace_56 : decode cX0_replace 56 = .ok (.getfield 33, 3) := by decide +kernel
theorem d_cX0_replace_59 : decode cX0_replace 59 = .ok (.iload_n 3, 1) := by decide +kernel
theorem d_cX0_replace_60 : decode cX0_replace 60 = .ok (.iaload, 1) := by decide +kernel
theorem d_cX0_replace_61 : decode cX0_replace 61 = .ok (.iastore, 1) := by decide +kernel
theorem d_cX0_replace_62 : decode cX0_replace 62 = .ok (.aload_n 0, 1) := by decide +kernel
theorem d_cX0_replace_63 : decode cX0_replace 63 = .ok (.getfield 39, 3) := by decide +kernel
theorem d_cX0_replace_66 : decode cX0_replace 66 = .ok (.iload_n 3, 1) := by decide +kernel
theorem d_cX0_replace_67 : decode cX0_replace 67 = .ok (.aload_n 0, 1) := by decide +kernel
theorem d_cX0_replace_68 : decode cX0_replace 68 = .ok (.getfield 39, 3) := by decide +kernel
theorem d_cX0_replace_71 : decode cX0_replace 71 = .ok (.iload_n 3, 1) := by decide +kernel
theorem d_cX0_replace_72 : decode cX0_replace 72 = .ok (.iaload, 1) := by decide +kernel
theorem d_cX0_replace_73 : decode cX0_replace 73 = .ok (.iload_n 1, 1) := by decide +kernel
theorem d_cX0_replace_74 : decode cX0_replace 74 = .ok (.if_icmp .ne 7, 3) := by decide +kernel
theorem d_cX0_replace_81 : decode cX0_replace 81 = .ok (.aload_n 0, 1) := by decide +kernel
theorem d_cX0_replace_82 : decode cX0_replace 82 = .ok (.getfield 39, 3) := by decide +kernel
theorem d_cX0_replace_85 : decode cX0_replace 85 = .ok (.iload_n 3, 1) := by decide +kernel
theorem d_cX0_replace_86 : decode cX0_replace 86 = .ok (.iaload, 1) := by decide +kernel
theorem d_cX0_replace_87 : decode cX0_replace 87 = .ok (.iastore, 1) := by decide +kernel
theorem d_cX0_replace_88 : decode cX0_replace 88 = .ok (.iinc 3 1, 3) := by decide +kernel
theorem d_cX0_replace_91 : decode cX0_replace 91 = .ok (.goto (-89), 3) := by decide +kernel
theorem d_cX0_replace_77 : decode cX0_replace 77 = .ok (.iload_n 2, 1) := by decide +kernel
theorem d_cX0_replace_78 : decode cX0_replace 78 = .ok (.goto 9, 3) := by decide +kernel
theorem d_cX0_replace_51 : decode cX0_replace 51 = .ok (.iload_n 2, 1) := by decide +kernel
theorem d_cX0_replace_52 : decode cX0_replace 52 = .ok (.goto 9, 3) := by decide +kernel
theorem d_cX0_replace_25 : decode cX0_replace 25 = .ok (.iload_n 2, 1) := by decide +kernel
theorem d_cX0_replace_26 : decode cX0_replace 26 = .ok (.goto 9, 3) := by decide +kernel
abbrev ky_57308_Giver_nextToMerge : gKey := (cX2_nextToMerge, 3, yX2_nextToMerge.cls, (some FieldType.int), [], yX2_nextToMerge.name, fun _ _ => True)
abbrev po_57308_Giver_nextToMerge (I : FieldType → ClassId) (q57201 : Nat) (q57202 : Nat) (q57203 : Nat) (q57204 : Nat) (q57205 : Nat) (q57206 : Nat) (q57207 : Nat) (q57208 : Nat) (q57209 : Nat) (q57210 : Nat) (q57211 : Nat) (q57212 : Nat) (q57213 : Nat) (q57214 : Nat) (q57215 : Nat) (q57216 : Nat) (q57217 : Nat) (q57218 : Nat) (q57219 : Nat) (q57220 : Nat) (q57221 : Nat) (q57222 : Nat) (q57223 : Nat) (q57224 : Nat) (q57225 : Nat) (q57226 : Nat) (q57227 : Nat) (q57228 : Nat) (q57229 : Nat) (q57230 : Nat) (q57231 : Nat) (q57232 : Nat) (q57233 : Nat) (q57234 : Nat) (q57235 : Nat) (q57236 : Nat) (q57237 : Nat) (q57238 : Nat) (q57239 : Nat) (q57240 : Nat) (q57241 : Nat) (q57242 : Nat) (q57243 : Nat) (q57244 : Nat) (q57245 : Nat) (p57246 : Int32) (p57247 : Int32) (p57248 : Int32) (p57249 : Int32) (p57250 : Int32) (p57251 : Int32) (p57252 : Int32) (p57253 : Int32) (p57254 : Int32) (p57255 : Int32) (p57256 : Int32) (f57257 : Nat → Int32) (f57258 : Nat → Int32) (f57259 : Nat → Int32) (f57260 : Nat → Int32) (f57261 : Nat → Int32) (p57262 : Int32) (p57263 : Int32) (p57264 : Int32) (p57265 : Int32) (p57266 : Int32) (p57267 : Int32) (f57268 : Nat → Int64) (f57269 : Nat → Int64) (f57270 : Nat → Int32) (p57271 : Int32) (p57272 : Int32) (p57273 : Int32) (f57274 : Nat → Int64) (f57275 : Nat → Int64) (f57276 : Nat → Int32) (f57277 : Nat → Int32) (f57278 : Nat → Int32) (f57279 : Nat → Int32) (f57280 : Nat → Int32) (f57281 : Nat → Int32) (f57282 : Nat → Int32) (f57283 : Nat → Int32) (f57284 : Nat → Int32) (f57285 : Nat → Int32) (f57286 : Nat → Int32) (f57287 : Nat → Int32) (f57288 : Nat → Int32) (f57289 : Nat → Int32) (f57290 : Nat → Int32) (f57291 : Nat → Int32) (f57292 : Nat → Int32) (f57293 : Nat → Int32) (f57294 : Nat → Int32) (f57295 : Nat → Int32) (f57296 : Nat → Int32) (f57297 : Nat → Int32) (f57298 : Nat → Int32) (f57299 : Nat → Int32) (f57300 : Nat → Int64) (f57301 : Nat → Int64) (f57302 : Nat → Int64) (f57303 : Nat → Int64) : Option Value → va_W → Prop := fun r w => ∃ (o59340 : Int32), r = some (.int o59340) ∧ w = [(q57201, .inr (7, [.ref q57202, .ref q57203, .ref q57204, .ref q57205, .ref q57206, .ref q57207, .ref q57208, .ref q57209, .ref q57210, .ref q57211, .int p57247, .int p57248, .int p57249, .int p57250, .int p57251, .int p57252])), (q57202, .inr (11, [.ref q57212, .ref q57213, .ref q57214])), (q57203, .inr (8, [.ref q57215, .ref q57216, .ref q57217, .ref q57218, .int p57253, .int p57254])), (q57204, .inr (6, [.ref q57203, .ref q57219, .ref q57220, .ref q57221, .ref q57222, .ref q57223, .int p57255, .int p57256])), (q57205, .inl (I .int, 100, .inl f57257)), (q57206, .inl (I .int, 100, .inl f57258)), (q57207, .inl (I .int, 40, .inl f57259)), (q57208, .inl (I .int, 100, .inl f57260)), (q57209, .inl (I .int, 100, .inl f57261)), (q57210, .inr (5, [.ref q57224, .ref q57225, .ref q57226, .ref q57227, .ref q57228, .ref q57229, .ref q57230, .ref q57231, .ref q57232, .int p57262, .int p57263, .int p57264])), (q57211, .inr (5, [.ref q57233, .ref q57234, .ref q57235, .ref q57236, .ref q57237, .ref q57238, .ref q57239, .ref q57240, .ref q57241, .int p57265, .int p57266, .int p57267])), (q57212, .inl (I .long, 40, .inr (.inl f57268))), (q57213, .inl (I .long, 40, .inr (.inl f57269))), (q57214, .inl (I .int, 40, .inl f57270)), (q57215, .inr (10, [.ref q57242, .ref q57243, .ref q57244, .ref q57245, .int p57271, .int p57272, .int p57273])), (q57216, .inl (I .long, 8640, .inr (.inl f57274))), (q57217, .inl (I .long, 12, .inr (.inl f57275))), (q57218, .inl (I .int, 720, .inl f57276)), (q57219, .inl (I .int, 720, .inl f57277)), (q57220, .inl (I .int, 720, .inl f57278)), (q57221, .inl (I .int, 720, .inl f57279)), (q57222, .inl (I .int, 720, .inl f57280)), (q57223, .inl (I .int, 720, .inl f57281)), (q57224, .inl (I .int, 40, .inl f57282)), (q57225, .inl (I .int, 40, .inl f57283)), (q57226, .inl (I .int, 40, .inl f57284)), (q57227, .inl (I .int, 920, .inl f57285)), (q57228, .inl (I .int, 920, .inl f57286)), (q57229, .inl (I .int, 920, .inl f57287)), (q57230, .inl (I .int, 920, .inl f57288)), (q57231, .inl (I .int, 920, .inl f57289)), (q57232, .inl (I .int, 920, .inl f57290)), (q57233, .inl (I .int, 40, .inl f57291)), (q57234, .inl (I .int, 40, .inl f57292)), (q57235, .inl (I .int, 40, .inl f57293)), (q57236, .inl (I .int, 920, .inl f57294)), (q57237, .inl (I .int, 920, .inl f57295)), (q57238, .inl (I .int, 920, .inl f57296)), (q57239, .inl (I .int, 920, .inl f57297)), (q57240, .inl (I .int, 920, .inl f57298)), (q57241, .inl (I .int, 920, .inl f57299)), (q57242, .inl (I .long, 480, .inr (.inl f57300))), (q57243, .inl (I .long, 480, .inr (.inl f57301))), (q57244, .inl (I .long, 480, .inr (.inl f57302))), (q57245, .inl (I .long, 12, .inr (.inl f57303)))] ∧ gB o59340 (-1) 919
set_option maxRecDepth 100000 in
set_option maxHeartbeats 4000000 in
theorem ct_57308_Giver_nextToMerge (l : Launch) (hl0 : l.stackTraces = false) (D : va_G) (I : FieldType → ClassId) (q57201 : Nat) (q57202 : Nat) (q57203 : Nat) (q57204 : Nat) (q57205 : Nat) (q57206 : Nat) (q57207 : Nat) (q57208 : Nat) (q57209 : Nat) (q57210 : Nat) (q57211 : Nat) (q57212 : Nat) (q57213 : Nat) (q57214 : Nat) (q57215 : Nat) (q57216 : Nat) (q57217 : Nat) (q57218 : Nat) (q57219 : Nat) (q57220 : Nat) (q57221 : Nat) (q57222 : Nat) (q57223 : Nat) (q57224 : Nat) (q57225 : Nat) (q57226 : Nat) (q57227 : Nat) (q57228 : Nat) (q57229 : Nat) (q57230 : Nat) (q57231 : Nat) (q57232 : Nat) (q57233 : Nat) (q57234 : Nat) (q57235 : Nat) (q57236 : Nat) (q57237 : Nat) (q57238 : Nat) (q57239 : Nat) (q57240 : Nat) (q57241 : Nat) (q57242 : Nat) (q57243 : Nat) (q57244 : Nat) (q57245 : Nat) (p57246 : Int32) (p57247 : Int32) (p57248 : Int32) (p57249 : Int32) (p57250 : Int32) (p57251 : Int32) (p57252 : Int32) (p57253 : Int32) (p57254 : Int32) (p57255 : Int32) (p57256 : Int32) (f57257 : Nat → Int32) (f57258 : Nat → Int32) (f57259 : Nat → Int32) (f57260 : Nat → Int32) (f57261 : Nat → Int32) (p57262 : Int32) (p57263 : Int32) (p57264 : Int32) (p57265 : Int32) (p57266 : Int32) (p57267 : Int32) (f57268 : Nat → Int64) (f57269 : Nat → Int64) (f57270 : Nat → Int32) (p57271 : Int32) (p57272 : Int32) (p57273 : Int32) (f57274 : Nat → Int64) (f57275 : Nat → Int64) (f57276 : Nat → Int32) (f57277 : Nat → Int32) (f57278 : Nat → Int32) (f57279 : Nat → Int32) (f57280 : Nat → Int32) (f57281 : Nat → Int32) (f57282 : Nat → Int32) (f57283 : Nat → Int32) (f57284 : Nat → Int32) (f57285 : Nat → Int32) (f57286 : Nat → Int32) (f57287 : Nat → Int32) (f57288 : Nat → Int32) (f57289 : Nat → Int32) (f57290 : Nat → Int32) (f57291 : Nat → Int32) (f57292 : Nat → Int32) (f57293 : Nat → Int32) (f57294 : Nat → Int32) (f57295 : Nat → Int32) (f57296 : Nat → Int32) (f57297 : Nat → Int32) (f57298 : Nat → Int32) (f57299 : Nat → Int32) (f57300 : Nat → Int64) (f57301 : Nat → Int64) (f57302 : Nat → Int64) (f57303 : Nat → Int64) (bp57247 : gB p57247 100 720) (bp57252 : gB p57252 0 1) (bp57253 : gB p57253 0 720) (bp57254 : gB p57254 0 12) (bp57255 : gB p57255 0 720) (bp57256 : gB p57256 0 720) (bp57262 : gB p57262 0 40) (bp57263 : gB p57263 0 920) (bp57264 : gB p57264 0 1) (bp57265 : gB p57265 0 40) (bp57266 : gB p57266 0 920) (bp57267 : gB p57267 0 1) (bp57271 : gB p57271 0 720) (bp57272 : gB p57272 0 12) (bp57273 : gB p57273 0 1) (bf57279 : gF f57279 0 719) (bf57280 : gF f57280 0 719) (bf57282 : gF f57282 0 920) (bf57285 : gF f57285 0 21) (bf57291 : gF f57291 0 920) (bf57294 : gF f57294 0 21) (x57304 : 100 ≤ p57253.toInt) (x57305 : p57254.toInt = (p57253.toInt + 63) / 64) (x57306 : lb_W f57274 (p57253.toInt * p57254.toInt) (p57254.toInt) (p57253.toInt)) (x57307 : p57272.toInt = (p57271.toInt + 63) / 64) : Ct (gV D I) l yX2_nextToMerge cX2_nextToMerge 3 (some FieldType.int) 4 99 0 0 [.ref q57201, .int p57246] [(q57201, .inr (7, [.ref q57202, .ref q57203, .ref q57204, .ref q57205, .ref q57206, .ref q57207, .ref q57208, .ref q57209, .ref q57210, .ref q57211, .int p57247, .int p57248, .int p57249, .int p57250, .int p57251, .int p57252])), (q57202, .inr (11, [.ref q57212, .ref q57213, .ref q57214])), (q57203, .inr (8, [.ref q57215, .ref q57216, .ref q57217, .ref q57218, .int p57253, .int p57254])), (q57204, .inr (6, [.ref q57203, .ref q57219, .ref q57220, .ref q57221, .ref q57222, .ref q57223, .int p57255, .int p57256])), (q57205, .inl (I .int, 100, .inl f57257)), (q57206, .inl (I .int, 100, .inl f57258)), (q57207, .inl (I .int, 40, .inl f57259)), (q57208, .inl (I .int, 100, .inl f57260)), (q57209, .inl (I .int, 100, .inl f57261)), (q57210, .inr (5, [.ref q57224, .ref q57225, .ref q57226, .ref q57227, .ref q57228, .ref q57229, .ref q57230, .ref q57231, .ref q57232, .int p57262, .int p57263, .int p57264])), (q57211, .inr (5, [.ref q57233, .ref q57234, .ref q57235, .ref q57236, .ref q57237, .ref q57238, .ref q57239, .ref q57240, .ref q57241, .int p57265, .int p57266, .int p57267])), (q57212, .inl (I .long, 40, .inr (.inl f57268))), (q57213, .inl (I .long, 40, .inr (.inl f57269))), (q57214, .inl (I .int, 40, .inl f57270)), (q57215, .inr (10, [.ref q57242, .ref q57243, .ref q57244, .ref q57245, .int p57271, .int p57272, .int p57273])), (q57216, .inl (I .long, 8640, .inr (.inl f57274))), (q57217, .inl (I .long, 12, .inr (.inl f57275))), (q57218, .inl (I .int, 720, .inl f57276)), (q57219, .inl (I .int, 720, .inl f57277)), (q57220, .inl (I .int, 720, .inl f57278)), (q57221, .inl (I .int, 720, .inl f57279)), (q57222, .inl (I .int, 720, .inl f57280)), (q57223, .inl (I .int, 720, .inl f57281)), (q57224, .inl (I .int, 40, .inl f57282)), (q57225, .inl (I .int, 40, .inl f57283)), (q57226, .inl (I .int, 40, .inl f57284)), (q57227, .inl (I .int, 920, .inl f57285)), (q57228, .inl (I .int, 920, .inl f57286)), (q57229, .inl (I .int, 920, .inl f57287)), (q57230, .inl (I .int, 920, .inl f57288)), (q57231, .inl (I .int, 920, .inl f57289)), (q57232, .inl (I .int, 920, .inl f57290)), (q57233, .inl (I .int, 40, .inl f57291)), (q57234, .inl (I .int, 40, .inl f57292)), (q57235, .inl (I .int, 40, .inl f57293)), (q57236, .inl (I .int, 920, .inl f57294)), (q57237, .inl (I .int, 920, .inl f57295)), (q57238, .inl (I .int, 920, .inl f57296)), (q57239, .inl (I .int, 920, .inl f57297)), (q57240, .inl (I .int, 920, .inl f57298)), (q57241, .inl (I .int, 920, .inl f57299)), (q57242, .inl (I .long, 480, .inr (.inl f57300))), (q57243, .inl (I .long, 480, .inr (.inl f57301))), (q57244, .inl (I .long, 480, .inr (.inl f57302))), (q57245, .inl (I .long, 12, .inr (.inl f57303)))] (po_57308_Giver_nextToMerge I q57201 q57202 q57203 q57204 q57205 q57206 q57207 q57208 q57209 q57210 q57211 q57212 q57213 q57214 q57215 q57216 q57217 q57218 q57219 q57220 q57221 q57222 q57223 q57224 q57225 q57226 q57227 q57228 q57229 q57230 q57231 q57232 q57233 q57234 q57235 q57236 q57237 q57238 q57239 q57240 q57241 q57242 q57243 q57244 q57245 p57246 p57247 p57248 p57249 p57250 p57251 p57252 p57253 p57254 p57255 p57256 f57257 f57258 f57259 f57260 f57261 p57262 p57263 p57264 p57265 p57266 p57267 f57268 f57269 f57270 p57271 p57272 p57273 f57274 f57275 f57276 f57277 f57278 f57279 f57280 f57281 f57282 f57283 f57284 f57285 f57286 f57287 f57288 f57289 f57290 f57291 f57292 f57293 f57294 f57295 f57296 f57297 f57298 f57299 f57300 f57301 f57302 f57303) gN := by
  refine Ct_of hl0 (by decide) (Nat.le_of_ble_eq_true rfl) ?_
  have bp57246 := gB_any p57246
  have bp57248 := gB_any p57248
  have bp57249 := gB_any p57249
  have bp57250 := gB_any p57250
  have bp57251 := gB_any p57251
  refine G_iconst 0 d_cX2_nextToMerge_0 (by decide +kernel) ?_
  refine G_istore_n (L' := [(2, .int 0), (0, .ref q57201), (1, .int p57246)]) d_cX2_nextToMerge_1 (Nat.le_of_ble_eq_true rfl) rfl ?_
  have hlp2_59301 : ∀ (n2_59301 : Nat) (g59301 : Int32), gB g59301 0 920 → ((921 : Int) - g59301.toInt).toNat < n2_59301 → G (gV D I) l (gRm 4 99 0 0) (gM (gV D I) (po_57308_Giver_nextToMerge I q57201 q57202 q57203 q57204 q57205 q57206 q57207 q57208 q57209 q57210 q57211 q57212 q57213 q57214 q57215 q57216 q57217 q57218 q57219 q57220 q57221 q57222 q57223 q57224 q57225 q57226 q57227 q57228 q57229 q57230 q57231 q57232 q57233 q57234 q57235 q57236 q57237 q57238 q57239 q57240 q57241 q57242 q57243 q57244 q57245 p57246 p57247 p57248 p57249 p57250 p57251 p57252 p57253 p57254 p57255 p57256 f57257 f57258 f57259 f57260 f57261 p57262 p57263 p57264 p57265 p57266 p57267 f57268 f57269 f57270 p57271 p57272 p57273 f57274 f57275 f57276 f57277 f57278 f57279 f57280 f57281 f57282 f57283 f57284 f57285 f57286 f57287 f57288 f57289 f57290 f57291 f57292 f57293 f57294 f57295 f57296 f57297 f57298 f57299 f57300 f57301 f57302 f57303) gN 0 0) ky_57308_Giver_nextToMerge 2 [(2, .int g59301), (0, .ref q57201), (1, .int p57246)] [] [(q57201, .inr (7, [.ref q57202, .ref q57203, .ref q57204, .ref q57205, .ref q57206, .ref q57207, .ref q57208, .ref q57209, .ref q57210, .ref q57211, .int p57247, .int p57248, .int p57249, .int p57250, .int p57251, .int p57252])), (q57202, .inr (11, [.ref q57212, .ref q57213, .ref q57214])), (q57203, .inr (8, [.ref q57215, .ref q57216, .ref q57217, .ref q57218, .int p57253, .int p57254])), (q57204, .inr (6, [.ref q57203, .ref q57219, .ref q57220, .ref q57221, .ref q57222, .ref q57223, .int p57255, .int p57256])), (q57205, .inl (I .int, 100, .inl f57257)), (q57206, .inl (I .int, 100, .inl f57258)), (q57207, .inl (I .int, 40, .inl f57259)), (q57208, .inl (I .int, 100, .inl f57260)), (q57209, .inl (I .int, 100, .inl f57261)), (q57210, .inr (5, [.ref q57224, .ref q57225, .ref q57226, .ref q57227, .ref q57228, .ref q57229, .ref q57230, .ref q57231, .ref q57232, .int p57262, .int p57263, .int p57264])), (q57211, .inr (5, [.ref q57233, .ref q57234, .ref q57235, .ref q57236, .ref q57237, .ref q57238, .ref q57239, .ref q57240, .ref q57241, .int p57265, .int p57266, .int p57267])), (q57212, .inl (I .long, 40, .inr (.inl f57268))), (q57213, .inl (I .long, 40, .inr (.inl f57269))), (q57214, .inl (I .int, 40, .inl f57270)), (q57215, .inr (10, [.ref q57242, .ref q57243, .ref q57244, .ref q57245, .int p57271, .int p57272, .int p57273])), (q57216, .inl (I .long, 8640, .inr (.inl f57274))), (q57217, .inl (I .long, 12, .inr (.inl f57275))), (q57218, .inl (I .int, 720, .inl f57276)), (q57219, .inl (I .int, 720, .inl f57277)), (q57220, .inl (I .int, 720, .inl f57278)), (q57221, .inl (I .int, 720, .inl f57279)), (q57222, .inl (I .int, 720, .inl f57280)), (q57223, .inl (I .int, 720, .inl f57281)), (q57224, .inl (I .int, 40, .inl f57282)), (q57225, .inl (I .int, 40, .inl f57283)), (q57226, .inl (I .int, 40, .inl f57284)), (q57227, .inl (I .int, 920, .inl f57285)), (q57228, .inl (I .int, 920, .inl f57286)), (q57229, .inl (I .int, 920, .inl f57287)), (q57230, .inl (I .int, 920, .inl f57288)), (q57231, .inl (I .int, 920, .inl f57289)), (q57232, .inl (I .int, 920, .inl f57290)), (q57233, .inl (I .int, 40, .inl f57291)), (q57234, .inl (I .int, 40, .inl f57292)), (q57235, .inl (I .int, 40, .inl f57293)), (q57236, .inl (I .int, 920, .inl f57294)), (q57237, .inl (I .int, 920, .inl f57295)), (q57238, .inl (I .int, 920, .inl f57296)), (q57239, .inl (I .int, 920, .inl f57297)), (q57240, .inl (I .int, 920, .inl f57298)), (q57241, .inl (I .int, 920, .inl f57299)), (q57242, .inl (I .long, 480, .inr (.inl f57300))), (q57243, .inl (I .long, 480, .inr (.inl f57301))), (q57244, .inl (I .long, 480, .inr (.inl f57302))), (q57245, .inl (I .long, 12, .inr (.inl f57303)))] 0 0 := by
    intro n2_59301
    induction n2_59301 with
    | zero => intro g59301 bg59301 hm2_59301; exact absurd hm2_59301 (Nat.not_lt_zero _)
    | succ n2_59301 ih2_59301 =>
      intro g59301 bg59301 hm2_59301
      refine G_iload_n 0 d_cX2_nextToMerge_2 rfl ?_
      refine G_aload_n 1 d_cX2_nextToMerge_3 rfl ?_
      refine G_getf 0 8 d_cX2_nextToMerge_4 rfl (gk_X2 D I) (Nat.le_of_ble_eq_true rfl) w_2_113 rfl ?_
      refine G_getfN 9 10 d_cX2_nextToMerge_7 rfl (gk_X0 D I) (Nat.le_of_ble_eq_true rfl) (fun _ _ _ h => gn_w 47 rfl h) rfl ?_
      refine G_icmp_ge 58 d_cX2_nextToMerge_10 (by decide +kernel) (fun hc59302 => ?_) (fun hc59302 => ?_)
      · have r59303 : p57263.toInt ≤ g59301.toInt := gC_le hc59302
        refine G_iconst (-1) d_cX2_nextToMerge_58 (by decide +kernel) ?_
        exact G_iret d_cX2_nextToMerge_59 rfl (Nat.le_of_ble_eq_true rfl) (Nat.le_of_ble_eq_true rfl) ⟨(-1), rfl, rfl, (gB_w (gBl (show Int32.toInt (-1) = (-1) by decide)) (by decide) (by decide))⟩
      · have r59304 : g59301.toInt < p57263.toInt := gC_nle hc59302
        have bg59301' : gB g59301 0 919 := ⟨by omega, by omega⟩
        have bp57263' : gB p57263 1 920 := ⟨by omega, by omega⟩
        refine G_aload_n 1 d_cX2_nextToMerge_13 rfl ?_
        refine G_getf 0 8 d_cX2_nextToMerge_14 rfl (gk_X2 D I) (Nat.le_of_ble_eq_true rfl) w_2_113 rfl ?_
        refine G_iload_n 0 d_cX2_nextToMerge_17 rfl ?_
        refine G_callV (As := [.int g59301]) (wr := [(q57201, .inr (7, [.ref q57202, .ref q57203, .ref q57204, .ref q57205, .ref q57206, .ref q57207, .ref q57208, .ref q57209, .ref q57210, .ref q57211, .int p57247, .int p57248, .int p57249, .int p57250, .int p57251, .int p57252])), (q57202, .inr (11, [.ref q57212, .ref q57213, .ref q57214])), (q57203, .inr (8, [.ref q57215, .ref q57216, .ref q57217, .ref q57218, .int p57253, .int p57254])), (q57204, .inr (6, [.ref q57203, .ref q57219, .ref q57220, .ref q57221, .ref q57222, .ref q57223, .int p57255, .int p57256])), (q57205, .inl (I .int, 100, .inl f57257)), (q57206, .inl (I .int, 100, .inl f57258)), (q57207, .inl (I .int, 40, .inl f57259)), (q57208, .inl (I .int, 100, .inl f57260)), (q57209, .inl (I .int, 100, .inl f57261)), (q57211, .inr (5, [.ref q57233, .ref q57234, .ref q57235, .ref q57236, .ref q57237, .ref q57238, .ref q57239, .ref q57240, .ref q57241, .int p57265, .int p57266, .int p57267])), (q57212, .inl (I .long, 40, .inr (.inl f57268))), (q57213, .inl (I .long, 40, .inr (.inl f57269))), (q57214, .inl (I .int, 40, .inl f57270)), (q57215, .inr (10, [.ref q57242, .ref q57243, .ref q57244, .ref q57245, .int p57271, .int p57272, .int p57273])), (q57216, .inl (I .long, 8640, .inr (.inl f57274))), (q57217, .inl (I .long, 12, .inr (.inl f57275))), (q57218, .inl (I .int, 720, .inl f57276)), (q57219, .inl (I .int, 720, .inl f57277)), (q57220, .inl (I .int, 720, .inl f57278)), (q57221, .inl (I .int, 720, .inl f57279)), (q57222, .inl (I .int, 720, .inl f57280)), (q57223, .inl (I .int, 720, .inl f57281)), (q57233, .inl (I .int, 40, .inl f57291)), (q57234, .inl (I .int, 40, .inl f57292)), (q57235, .inl (I .int, 40, .inl f57293)), (q57236, .inl (I .int, 920, .inl f57294)), (q57237, .inl (I .int, 920, .inl f57295)), (q57238, .inl (I .int, 920, .inl f57296)), (q57239, .inl (I .int, 920, .inl f57297)), (q57240, .inl (I .int, 920, .inl f57298)), (q57241, .inl (I .int, 920, .inl f57299)), (q57242, .inl (I .long, 480, .inr (.inl f57300))), (q57243, .inl (I .long, 480, .inr (.inl f57301))), (q57244, .inl (I .long, 480, .inr (.inl f57302))), (q57245, .inl (I .long, 12, .inr (.inl f57303)))]) (gV_ok D I) (ct_29130_Code_copiesRegister l hl0 D I q57210 q57224 q57225 q57226 q57227 q57228 q57229 q57230 q57231 q57232 g59301 p57262 p57263 p57264 f57282 f57283 f57284 f57285 f57286 f57287 f57288 f57289 f57290 bg59301' bp57262 (gB_w bp57263' (by decide) (by decide)) bp57264 bf57282 bf57285) d_cX2_nextToMerge_18 ⟨w_5_92, w_1_5, w_4_119, by decide, rfl, (Nat.le_of_ble_eq_true rfl), (Nat.le_of_ble_eq_true rfl)⟩ w_4_117 w_4_118 9 rfl rfl [9, 23, 24, 25, 26, 27, 28, 29, 30, 31] [0, 1, 2, 3, 4, 5, 6, 7, 8, 10, 11, 12, 13, 14, 15, 16, 17, 18, 19, 20, 21, 22, 32, 33, 34, 35, 36, 37, 38, 39, 40, 41, 42, 43, 44] rfl rfl rfl rfl (by decide) (Nat.le_of_ble_eq_true rfl) (Nat.le_of_ble_eq_true rfl) (Nat.le_of_ble_eq_true rfl) (fun r w hp => ?_) (fun _ _ _ z => z.elim)
        rcases hp with ⟨z59305, rfl, rfl, r59306, hz59305, r59307⟩ | ⟨z59308, z59309, rfl, rfl, r59310, r59311, hz59308, hz59309, r59312, r59313⟩ | ⟨z59314, z59315, z59316, rfl, rfl, r59317, r59318, r59319, hz59314, hz59315, hz59316, r59320, r59321, r59322⟩ | ⟨z59323, z59324, z59325, rfl, rfl, r59326, r59327, r59328, hz59323, hz59324, hz59325, r59329, r59330, r59331⟩
        · change G _ _ _ _ _ _ _ (.int 0 :: _) _ _ _
          refine G_ws (ws' := [(q57201, .inr (7, [.ref q57202, .ref q57203, .ref q57204, .ref q57205, .ref q57206, .ref q57207, .ref q57208, .ref q57209, .ref q57210, .ref q57211, .int p57247, .int p57248, .int p57249, .int p57250, .int p57251, .int p57252])), (q57202, .inr (11, [.ref q57212, .ref q57213, .ref q57214])), (q57203, .inr (8, [.ref q57215, .ref q57216, .ref q57217, .ref q57218, .int p57253, .int p57254])), (q57204, .inr (6, [.ref q57203, .ref q57219, .ref q57220, .ref q57221, .ref q57222, .ref q57223, .int p57255, .int p57256])), (q57205, .inl (I .int, 100, .inl f57257)), (q57206, .inl (I .int, 100, .inl f57258)), (q57207, .inl (I .int, 40, .inl f57259)), (q57208, .inl (I .int, 100, .inl f57260)), (q57209, .inl (I .int, 100, .inl f57261)), (q57211, .inr (5, [.ref q57233, .ref q57234, .ref q57235, .ref q57236, .ref q57237, .ref q57238, .ref q57239, .ref q57240, .ref q57241, .int p57265, .int p57266, .int p57267])), (q57212, .inl (I .long, 40, .inr (.inl f57268))), (q57213, .inl (I .long, 40, .inr (.inl f57269))), (q57214, .inl (I .int, 40, .inl f57270)), (q57215, .inr (10, [.ref q57242, .ref q57243, .ref q57244, .ref q57245, .int p57271, .int p57272, .int p57273])), (q57216, .inl (I .long, 8640, .inr (.inl f57274))), (q57217, .inl (I .long, 12, .inr (.inl f57275))), (q57218, .inl (I .int, 720, .inl f57276)), (q57219, .inl (I .int, 720, .inl f57277)), (q57220, .inl (I .int, 720, .inl f57278)), (q57221, .inl (I .int, 720, .inl f57279)), (q57222, .inl (I .int, 720, .inl f57280)), (q57223, .inl (I .int, 720, .inl f57281)), (q57233, .inl (I .int, 40, .inl f57291)), (q57234, .inl (I .int, 40, .inl f57292)), (q57235, .inl (I .int, 40, .inl f57293)), (q57236, .inl (I .int, 920, .inl f57294)), (q57237, .inl (I .int, 920, .inl f57295)), (q57238, .inl (I .int, 920, .inl f57296)), (q57239, .inl (I .int, 920, .inl f57297)), (q57240, .inl (I .int, 920, .inl f57298)), (q57241, .inl (I .int, 920, .inl f57299)), (q57242, .inl (I .long, 480, .inr (.inl f57300))), (q57243, .inl (I .long, 480, .inr (.inl f57301))), (q57244, .inl (I .long, 480, .inr (.inl f57302))), (q57245, .inl (I .long, 12, .inr (.inl f57303))), (q57210, .inr (5, [.ref q57224, .ref q57225, .ref q57226, .ref q57227, .ref q57228, .ref q57229, .ref q57230, .ref q57231, .ref q57232, .int p57262, .int p57263, .int p57264])), (q57224, .inl (I .int, 40, .inl f57282)), (q57225, .inl (I .int, 40, .inl f57283)), (q57226, .inl (I .int, 40, .inl f57284)), (q57227, .inl (I .int, 920, .inl f57285)), (q57228, .inl (I .int, 920, .inl f57286)), (q57229, .inl (I .int, 920, .inl f57287)), (q57230, .inl (I .int, 920, .inl f57288)), (q57231, .inl (I .int, 920, .inl f57289)), (q57232, .inl (I .int, 920, .inl f57290))]) (cs' := 0) (sl' := 0) rfl rfl rfl ?_
          refine G_if_eq 52 d_cX2_nextToMerge_21 (by decide +kernel) (fun _ => ?_) (fun hc => absurd hc (by decide))
          obtain ⟨z59332, hz59332⟩ : ∃ z : Int32, z = g59301 + Int32.ofInt 1 := ⟨_, rfl⟩
          have ez59332 : z59332.toInt = g59301.toInt + 1 := gI_inc hz59332 (by decide) bg59301' (by decide) (by decide)
          have bz59332 : gB z59332 1 920 := ⟨by omega, by omega⟩
          refine G_iinc (L' := [(2, .int z59332), (0, .ref q57201), (1, .int p57246)]) z59332 0 d_cX2_nextToMerge_52 rfl hz59332.symm (Nat.le_of_ble_eq_true rfl) rfl ?_
          refine G_goto 2 d_cX2_nextToMerge_55 (by decide +kernel) ?_
          refine G_sub (ws' := [(q57201, .inr (7, [.ref q57202, .ref q57203, .ref q57204, .ref q57205, .ref q57206, .ref q57207, .ref q57208, .ref q57209, .ref q57210, .ref q57211, .int p57247, .int p57248, .int p57249, .int p57250, .int p57251, .int p57252])), (q57202, .inr (11, [.ref q57212, .ref q57213, .ref q57214])), (q57203, .inr (8, [.ref q57215, .ref q57216, .ref q57217, .ref q57218, .int p57253, .int p57254])), (q57204, .inr (6, [.ref q57203, .ref q57219, .ref q57220, .ref q57221, .ref q57222, .ref q57223, .int p57255, .int p57256])), (q57205, .inl (I .int, 100, .inl f57257)), (q57206, .inl (I .int, 100, .inl f57258)), (q57207, .inl (I .int, 40, .inl f57259)), (q57208, .inl (I .int, 100, .inl f57260)), (q57209, .inl (I .int, 100, .inl f57261)), (q57210, .inr (5, [.ref q57224, .ref q57225, .ref q57226, .ref q57227, .ref q57228, .ref q57229, .ref q57230, .ref q57231, .ref q57232, .int p57262, .int p57263, .int p57264])), (q57211, .inr (5, [.ref q57233, .ref q57234, .ref q57235, .ref q57236, .ref q57237, .ref q57238, .ref q57239, .ref q57240, .ref q57241, .int p57265, .int p57266, .int p57267])), (q57212, .inl (I .long, 40, .inr (.inl f57268))), (q57213, .inl (I .long, 40, .inr (.inl f57269))), (q57214, .inl (I .int, 40, .inl f57270)), (q57215, .inr (10, [.ref q57242, .ref q57243, .ref q57244, .ref q57245, .int p57271, .int p57272, .int p57273])), (q57216, .inl (I .long, 8640, .inr (.inl f57274))), (q57217, .inl (I .long, 12, .inr (.inl f57275))), (q57218, .inl (I .int, 720, .inl f57276)), (q57219, .inl (I .int, 720, .inl f57277)), (q57220, .inl (I .int, 720, .inl f57278)), (q57221, .inl (I .int, 720, .inl f57279)), (q57222, .inl (I .int, 720, .inl f57280)), (q57223, .inl (I .int, 720, .inl f57281)), (q57224, .inl (I .int, 40, .inl f57282)), (q57225, .inl (I .int, 40, .inl f57283)), (q57226, .inl (I .int, 40, .inl f57284)), (q57227, .inl (I .int, 920, .inl f57285)), (q57228, .inl (I .int, 920, .inl f57286)), (q57229, .inl (I .int, 920, .inl f57287)), (q57230, .inl (I .int, 920, .inl f57288)), (q57231, .inl (I .int, 920, .inl f57289)), (q57232, .inl (I .int, 920, .inl f57290)), (q57233, .inl (I .int, 40, .inl f57291)), (q57234, .inl (I .int, 40, .inl f57292)), (q57235, .inl (I .int, 40, .inl f57293)), (q57236, .inl (I .int, 920, .inl f57294)), (q57237, .inl (I .int, 920, .inl f57295)), (q57238, .inl (I .int, 920, .inl f57296)), (q57239, .inl (I .int, 920, .inl f57297)), (q57240, .inl (I .int, 920, .inl f57298)), (q57241, .inl (I .int, 920, .inl f57299)), (q57242, .inl (I .long, 480, .inr (.inl f57300))), (q57243, .inl (I .long, 480, .inr (.inl f57301))), (q57244, .inl (I .long, 480, .inr (.inl f57302))), (q57245, .inl (I .long, 12, .inr (.inl f57303)))]) [0, 1, 2, 3, 4, 5, 6, 7, 8, 35, 9, 10, 11, 12, 13, 14, 15, 16, 17, 18, 19, 20, 21, 36, 37, 38, 39, 40, 41, 42, 43, 44, 22, 23, 24, 25, 26, 27, 28, 29, 30, 31, 32, 33, 34] rfl rfl ?_
          exact ih2_59301 z59332 (gB_w bz59332 (by decide) (by decide)) (by omega)
        · change G _ _ _ _ _ _ _ (.int 0 :: _) _ _ _
          refine G_ws (ws' := [(q57201, .inr (7, [.ref q57202, .ref q57203, .ref q57204, .ref q57205, .ref q57206, .ref q57207, .ref q57208, .ref q57209, .ref q57210, .ref q57211, .int p57247, .int p57248, .int p57249, .int p57250, .int p57251, .int p57252])), (q57202, .inr (11, [.ref q57212, .ref q57213, .ref q57214])), (q57203, .inr (8, [.ref q57215, .ref q57216, .ref q57217, .ref q57218, .int p57253, .int p57254])), (q57204, .inr (6, [.ref q57203, .ref q57219, .ref q57220, .ref q57221, .ref q57222, .ref q57223, .int p57255, .int p57256])), (q57205, .inl (I .int, 100, .inl f57257)), (q57206, .inl (I .int, 100, .inl f57258)), (q57207, .inl (I .int, 40, .inl f57259)), (q57208, .inl (I .int, 100, .inl f57260)), (q57209, .inl (I .int, 100, .inl f57261)), (q57211, .inr (5, [.ref q57233, .ref q57234, .ref q57235, .ref q57236, .ref q57237, .ref q57238, .ref q57239, .ref q57240, .ref q57241, .int p57265, .int p57266, .int p57267])), (q57212, .inl (I .long, 40, .inr (.inl f57268))), (q57213, .inl (I .long, 40, .inr (.inl f57269))), (q57214, .inl (I .int, 40, .inl f57270)), (q57215, .inr (10, [.ref q57242, .ref q57243, .ref q57244, .ref q57245, .int p57271, .int p57272, .int p57273])), (q57216, .inl (I .long, 8640, .inr (.inl f57274))), (q57217, .inl (I .long, 12, .inr (.inl f57275))), (q57218, .inl (I .int, 720, .inl f57276)), (q57219, .inl (I .int, 720, .inl f57277)), (q57220, .inl (I .int, 720, .inl f57278)), (q57221, .inl (I .int, 720, .inl f57279)), (q57222, .inl (I .int, 720, .inl f57280)), (q57223, .inl (I .int, 720, .inl f57281)), (q57233, .inl (I .int, 40, .inl f57291)), (q57234, .inl (I .int, 40, .inl f57292)), (q57235, .inl (I .int, 40, .inl f57293)), (q57236, .inl (I .int, 920, .inl f57294)), (q57237, .inl (I .int, 920, .inl f57295)), (q57238, .inl (I .int, 920, .inl f57296)), (q57239, .inl (I .int, 920, .inl f57297)), (q57240, .inl (I .int, 920, .inl f57298)), (q57241, .inl (I .int, 920, .inl f57299)), (q57242, .inl (I .long, 480, .inr (.inl f57300))), (q57243, .inl (I .long, 480, .inr (.inl f57301))), (q57244, .inl (I .long, 480, .inr (.inl f57302))), (q57245, .inl (I .long, 12, .inr (.inl f57303))), (q57210, .inr (5, [.ref q57224, .ref q57225, .ref q57226, .ref q57227, .ref q57228, .ref q57229, .ref q57230, .ref q57231, .ref q57232, .int p57262, .int p57263, .int p57264])), (q57224, .inl (I .int, 40, .inl f57282)), (q57225, .inl (I .int, 40, .inl f57283)), (q57226, .inl (I .int, 40, .inl f57284)), (q57227, .inl (I .int, 920, .inl f57285)), (q57228, .inl (I .int, 920, .inl f57286)), (q57229, .inl (I .int, 920, .inl f57287)), (q57230, .inl (I .int, 920, .inl f57288)), (q57231, .inl (I .int, 920, .inl f57289)), (q57232, .inl (I .int, 920, .inl f57290))]) (cs' := 0) (sl' := 0) rfl rfl rfl ?_
          refine G_if_eq 52 d_cX2_nextToMerge_21 (by decide +kernel) (fun _ => ?_) (fun hc => absurd hc (by decide))
          obtain ⟨z59333, hz59333⟩ : ∃ z : Int32, z = g59301 + Int32.ofInt 1 := ⟨_, rfl⟩
          have ez59333 : z59333.toInt = g59301.toInt + 1 := gI_inc hz59333 (by decide) bg59301' (by decide) (by decide)
          have bz59333 : gB z59333 1 920 := ⟨by omega, by omega⟩
          refine G_iinc (L' := [(2, .int z59333), (0, .ref q57201), (1, .int p57246)]) z59333 0 d_cX2_nextToMerge_52 rfl hz59333.symm (Nat.le_of_ble_eq_true rfl) rfl ?_
          refine G_goto 2 d_cX2_nextToMerge_55 (by decide +kernel) ?_
          refine G_sub (ws' := [(q57201, .inr (7, [.ref q57202, .ref q57203, .ref q57204, .ref q57205, .ref q57206, .ref q57207, .ref q57208, .ref q57209, .ref q57210, .ref q57211, .int p57247, .int p57248, .int p57249, .int p57250, .int p57251, .int p57252])), (q57202, .inr (11, [.ref q57212, .ref q57213, .ref q57214])), (q57203, .inr (8, [.ref q57215, .ref q57216, .ref q57217, .ref q57218, .int p57253, .int p57254])), (q57204, .inr (6, [.ref q57203, .ref q57219, .ref q57220, .ref q57221, .ref q57222, .ref q57223, .int p57255, .int p57256])), (q57205, .inl (I .int, 100, .inl f57257)), (q57206, .inl (I .int, 100, .inl f57258)), (q57207, .inl (I .int, 40, .inl f57259)), (q57208, .inl (I .int, 100, .inl f57260)), (q57209, .inl (I .int, 100, .inl f57261)), (q57210, .inr (5, [.ref q57224, .ref q57225, .ref q57226, .ref q57227, .ref q57228, .ref q57229, .ref q57230, .ref q57231, .ref q57232, .int p57262, .int p57263, .int p57264])), (q57211, .inr (5, [.ref q57233, .ref q57234, .ref q57235, .ref q57236, .ref q57237, .ref q57238, .ref q57239, .ref q57240, .ref q57241, .int p57265, .int p57266, .int p57267])), (q57212, .inl (I .long, 40, .inr (.inl f57268))), (q57213, .inl (I .long, 40, .inr (.inl f57269))), (q57214, .inl (I .int, 40, .inl f57270)), (q57215, .inr (10, [.ref q57242, .ref q57243, .ref q57244, .ref q57245, .int p57271, .int p57272, .int p57273])), (q57216, .inl (I .long, 8640, .inr (.inl f57274))), (q57217, .inl (I .long, 12, .inr (.inl f57275))), (q57218, .inl (I .int, 720, .inl f57276)), (q57219, .inl (I .int, 720, .inl f57277)), (q57220, .inl (I .int, 720, .inl f57278)), (q57221, .inl (I .int, 720, .inl f57279)), (q57222, .inl (I .int, 720, .inl f57280)), (q57223, .inl (I .int, 720, .inl f57281)), (q57224, .inl (I .int, 40, .inl f57282)), (q57225, .inl (I .int, 40, .inl f57283)), (q57226, .inl (I .int, 40, .inl f57284)), (q57227, .inl (I .int, 920, .inl f57285)), (q57228, .inl (I .int, 920, .inl f57286)), (q57229, .inl (I .int, 920, .inl f57287)), (q57230, .inl (I .int, 920, .inl f57288)), (q57231, .inl (I .int, 920, .inl f57289)), (q57232, .inl (I .int, 920, .inl f57290)), (q57233, .inl (I .int, 40, .inl f57291)), (q57234, .inl (I .int, 40, .inl f57292)), (q57235, .inl (I .int, 40, .inl f57293)), (q57236, .inl (I .int, 920, .inl f57294)), (q57237, .inl (I .int, 920, .inl f57295)), (q57238, .inl (I .int, 920, .inl f57296)), (q57239, .inl (I .int, 920, .inl f57297)), (q57240, .inl (I .int, 920, .inl f57298)), (q57241, .inl (I .int, 920, .inl f57299)), (q57242, .inl (I .long, 480, .inr (.inl f57300))), (q57243, .inl (I .long, 480, .inr (.inl f57301))), (q57244, .inl (I .long, 480, .inr (.inl f57302))), (q57245, .inl (I .long, 12, .inr (.inl f57303)))]) [0, 1, 2, 3, 4, 5, 6, 7, 8, 35, 9, 10, 11, 12, 13, 14, 15, 16, 17, 18, 19, 20, 21, 36, 37, 38, 39, 40, 41, 42, 43, 44, 22, 23, 24, 25, 26, 27, 28, 29, 30, 31, 32, 33, 34] rfl rfl ?_
          exact ih2_59301 z59333 (gB_w bz59333 (by decide) (by decide)) (by omega)
        · change G _ _ _ _ _ _ _ (.int 0 :: _) _ _ _
          refine G_ws (ws' := [(q57201, .inr (7, [.ref q57202, .ref q57203, .ref q57204, .ref q57205, .ref q57206, .ref q57207, .ref q57208, .ref q57209, .ref q57210, .ref q57211, .int p57247, .int p57248, .int p57249, .int p57250, .int p57251, .int p57252])), (q57202, .inr (11, [.ref q57212, .ref q57213, .ref q57214])), (q57203, .inr (8, [.ref q57215, .ref q57216, .ref q57217, .ref q57218, .int p57253, .int p57254])), (q57204, .inr (6, [.ref q57203, .ref q57219, .ref q57220, .ref q57221, .ref q57222, .ref q57223, .int p57255, .int p57256])), (q57205, .inl (I .int, 100, .inl f57257)), (q57206, .inl (I .int, 100, .inl f57258)), (q57207, .inl (I .int, 40, .inl f57259)), (q57208, .inl (I .int, 100, .inl f57260)), (q57209, .inl (I .int, 100, .inl f57261)), (q57211, .inr (5, [.ref q57233, .ref q57234, .ref q57235, .ref q57236, .ref q57237, .ref q57238, .ref q57239, .ref q57240, .ref q57241, .int p57265, .int p57266, .int p57267])), (q57212, .inl (I .long, 40, .inr (.inl f57268))), (q57213, .inl (I .long, 40, .inr (.inl f57269))), (q57214, .inl (I .int, 40, .inl f57270)), (q57215, .inr (10, [.ref q57242, .ref q57243, .ref q57244, .ref q57245, .int p57271, .int p57272, .int p57273])), (q57216, .inl (I .long, 8640, .inr (.inl f57274))), (q57217, .inl (I .long, 12, .inr (.inl f57275))), (q57218, .inl (I .int, 720, .inl f57276)), (q57219, .inl (I .int, 720, .inl f57277)), (q57220, .inl (I .int, 720, .inl f57278)), (q57221, .inl (I .int, 720, .inl f57279)), (q57222, .inl (I .int, 720, .inl f57280)), (q57223, .inl (I .int, 720, .inl f57281)), (q57233, .inl (I .int, 40, .inl f57291)), (q57234, .inl (I .int, 40, .inl f57292)), (q57235, .inl (I .int, 40, .inl f57293)), (q57236, .inl (I .int, 920, .inl f57294)), (q57237, .inl (I .int, 920, .inl f57295)), (q57238, .inl (I .int, 920, .inl f57296)), (q57239, .inl (I .int, 920, .inl f57297)), (q57240, .inl (I .int, 920, .inl f57298)), (q57241, .inl (I .int, 920, .inl f57299)), (q57242, .inl (I .long, 480, .inr (.inl f57300))), (q57243, .inl (I .long, 480, .inr (.inl f57301))), (q57244, .inl (I .long, 480, .inr (.inl f57302))), (q57245, .inl (I .long, 12, .inr (.inl f57303))), (q57210, .inr (5, [.ref q57224, .ref q57225, .ref q57226, .ref q57227, .ref q57228, .ref q57229, .ref q57230, .ref q57231, .ref q57232, .int p57262, .int p57263, .int p57264])), (q57224, .inl (I .int, 40, .inl f57282)), (q57225, .inl (I .int, 40, .inl f57283)), (q57226, .inl (I .int, 40, .inl f57284)), (q57227, .inl (I .int, 920, .inl f57285)), (q57228, .inl (I .int, 920, .inl f57286)), (q57229, .inl (I .int, 920, .inl f57287)), (q57230, .inl (I .int, 920, .inl f57288)), (q57231, .inl (I .int, 920, .inl f57289)), (q57232, .inl (I .int, 920, .inl f57290))]) (cs' := 0) (sl' := 0) rfl rfl rfl ?_
          refine G_if_eq 52 d_cX2_nextToMerge_21 (by decide +kernel) (fun _ => ?_) (fun hc => absurd hc (by decide))
          obtain ⟨z59334, hz59334⟩ : ∃ z : Int32, z = g59301 + Int32.ofInt 1 := ⟨_, rfl⟩
          have ez59334 : z59334.toInt = g59301.toInt + 1 := gI_inc hz59334 (by decide) bg59301' (by decide) (by decide)
          have bz59334 : gB z59334 1 920 := ⟨by omega, by omega⟩
          refine G_iinc (L' := [(2, .int z59334), (0, .ref q57201), (1, .int p57246)]) z59334 0 d_cX2_nextToMerge_52 rfl hz59334.symm (Nat.le_of_ble_eq_true rfl) rfl ?_
          refine G_goto 2 d_cX2_nextToMerge_55 (by decide +kernel) ?_
          refine G_sub (ws' := [(q57201, .inr (7, [.ref q57202, .ref q57203, .ref q57204, .ref q57205, .ref q57206, .ref q57207, .ref q57208, .ref q57209, .ref q57210, .ref q57211, .int p57247, .int p57248, .int p57249, .int p57250, .int p57251, .int p57252])), (q57202, .inr (11, [.ref q57212, .ref q57213, .ref q57214])), (q57203, .inr (8, [.ref q57215, .ref q57216, .ref q57217, .ref q57218, .int p57253, .int p57254])), (q57204, .inr (6, [.ref q57203, .ref q57219, .ref q57220, .ref q57221, .ref q57222, .ref q57223, .int p57255, .int p57256])), (q57205, .inl (I .int, 100, .inl f57257)), (q57206, .inl (I .int, 100, .inl f57258)), (q57207, .inl (I .int, 40, .inl f57259)), (q57208, .inl (I .int, 100, .inl f57260)), (q57209, .inl (I .int, 100, .inl f57261)), (q57210, .inr (5, [.ref q57224, .ref q57225, .ref q57226, .ref q57227, .ref q57228, .ref q57229, .ref q57230, .ref q57231, .ref q57232, .int p57262, .int p57263, .int p57264])), (q57211, .inr (5, [.ref q57233, .ref q57234, .ref q57235, .ref q57236, .ref q57237, .ref q57238, .ref q57239, .ref q57240, .ref q57241, .int p57265, .int p57266, .int p57267])), (q57212, .inl (I .long, 40, .inr (.inl f57268))), (q57213, .inl (I .long, 40, .inr (.inl f57269))), (q57214, .inl (I .int, 40, .inl f57270)), (q57215, .inr (10, [.ref q57242, .ref q57243, .ref q57244, .ref q57245, .int p57271, .int p57272, .int p57273])), (q57216, .inl (I .long, 8640, .inr (.inl f57274))), (q57217, .inl (I .long, 12, .inr (.inl f57275))), (q57218, .inl (I .int, 720, .inl f57276)), (q57219, .inl (I .int, 720, .inl f57277)), (q57220, .inl (I .int, 720, .inl f57278)), (q57221, .inl (I .int, 720, .inl f57279)), (q57222, .inl (I .int, 720, .inl f57280)), (q57223, .inl (I .int, 720, .inl f57281)), (q57224, .inl (I .int, 40, .inl f57282)), (q57225, .inl (I .int, 40, .inl f57283)), (q57226, .inl (I .int, 40, .inl f57284)), (q57227, .inl (I .int, 920, .inl f57285)), (q57228, .inl (I .int, 920, .inl f57286)), (q57229, .inl (I .int, 920, .inl f57287)), (q57230, .inl (I .int, 920, .inl f57288)), (q57231, .inl (I .int, 920, .inl f57289)), (q57232, .inl (I .int, 920, .inl f57290)), (q57233, .inl (I .int, 40, .inl f57291)), (q57234, .inl (I .int, 40, .inl f57292)), (q57235, .inl (I .int, 40, .inl f57293)), (q57236, .inl (I .int, 920, .inl f57294)), (q57237, .inl (I .int, 920, .inl f57295)), (q57238, .inl (I .int, 920, .inl f57296)), (q57239, .inl (I .int, 920, .inl f57297)), (q57240, .inl (I .int, 920, .inl f57298)), (q57241, .inl (I .int, 920, .inl f57299)), (q57242, .inl (I .long, 480, .inr (.inl f57300))), (q57243, .inl (I .long, 480, .inr (.inl f57301))), (q57244, .inl (I .long, 480, .inr (.inl f57302))), (q57245, .inl (I .long, 12, .inr (.inl f57303)))]) [0, 1, 2, 3, 4, 5, 6, 7, 8, 35, 9, 10, 11, 12, 13, 14, 15, 16, 17, 18, 19, 20, 21, 36, 37, 38, 39, 40, 41, 42, 43, 44, 22, 23, 24, 25, 26, 27, 28, 29, 30, 31, 32, 33, 34] rfl rfl ?_
          exact ih2_59301 z59334 (gB_w bz59334 (by decide) (by decide)) (by omega)
        · change G _ _ _ _ _ _ _ (.int 1 :: _) _ _ _
          refine G_ws (ws' := [(q57201, .inr (7, [.ref q57202, .ref q57203, .ref q57204, .ref q57205, .ref q57206, .ref q57207, .ref q57208, .ref q57209, .ref q57210, .ref q57211, .int p57247, .int p57248, .int p57249, .int p57250, .int p57251, .int p57252])), (q57202, .inr (11, [.ref q57212, .ref q57213, .ref q57214])), (q57203, .inr (8, [.ref q57215, .ref q57216, .ref q57217, .ref q57218, .int p57253, .int p57254])), (q57204, .inr (6, [.ref q57203, .ref q57219, .ref q57220, .ref q57221, .ref q57222, .ref q57223, .int p57255, .int p57256])), (q57205, .inl (I .int, 100, .inl f57257)), (q57206, .inl (I .int, 100, .inl f57258)), (q57207, .inl (I .int, 40, .inl f57259)), (q57208, .inl (I .int, 100, .inl f57260)), (q57209, .inl (I .int, 100, .inl f57261)), (q57211, .inr (5, [.ref q57233, .ref q57234, .ref q57235, .ref q57236, .ref q57237, .ref q57238, .ref q57239, .ref q57240, .ref q57241, .int p57265, .int p57266, .int p57267])), (q57212, .inl (I .long, 40, .inr (.inl f57268))), (q57213, .inl (I .long, 40, .inr (.inl f57269))), (q57214, .inl (I .int, 40, .inl f57270)), (q57215, .inr (10, [.ref q57242, .ref q57243, .ref q57244, .ref q57245, .int p57271, .int p57272, .int p57273])), (q57216, .inl (I .long, 8640, .inr (.inl f57274))), (q57217, .inl (I .long, 12, .inr (.inl f57275))), (q57218, .inl (I .int, 720, .inl f57276)), (q57219, .inl (I .int, 720, .inl f57277)), (q57220, .inl (I .int, 720, .inl f57278)), (q57221, .inl (I .int, 720, .inl f57279)), (q57222, .inl (I .int, 720, .inl f57280)), (q57223, .inl (I .int, 720, .inl f57281)), (q57233, .inl (I .int, 40, .inl f57291)), (q57234, .inl (I .int, 40, .inl f57292)), (q57235, .inl (I .int, 40, .inl f57293)), (q57236, .inl (I .int, 920, .inl f57294)), (q57237, .inl (I .int, 920, .inl f57295)), (q57238, .inl (I .int, 920, .inl f57296)), (q57239, .inl (I .int, 920, .inl f57297)), (q57240, .inl (I .int, 920, .inl f57298)), (q57241, .inl (I .int, 920, .inl f57299)), (q57242, .inl (I .long, 480, .inr (.inl f57300))), (q57243, .inl (I .long, 480, .inr (.inl f57301))), (q57244, .inl (I .long, 480, .inr (.inl f57302))), (q57245, .inl (I .long, 12, .inr (.inl f57303))), (q57210, .inr (5, [.ref q57224, .ref q57225, .ref q57226, .ref q57227, .ref q57228, .ref q57229, .ref q57230, .ref q57231, .ref q57232, .int p57262, .int p57263, .int p57264])), (q57224, .inl (I .int, 40, .inl f57282)), (q57225, .inl (I .int, 40, .inl f57283)), (q57226, .inl (I .int, 40, .inl f57284)), (q57227, .inl (I .int, 920, .inl f57285)), (q57228, .inl (I .int, 920, .inl f57286)), (q57229, .inl (I .int, 920, .inl f57287)), (q57230, .inl (I .int, 920, .inl f57288)), (q57231, .inl (I .int, 920, .inl f57289)), (q57232, .inl (I .int, 920, .inl f57290))]) (cs' := 0) (sl' := 0) rfl rfl rfl ?_
          refine G_if_eq 52 d_cX2_nextToMerge_21 (by decide +kernel) (fun hc => absurd hc (by decide)) (fun _ => ?_)
          refine G_aload_n 1 d_cX2_nextToMerge_24 rfl ?_
          refine G_aload_n 1 d_cX2_nextToMerge_25 rfl ?_
          refine G_getf 0 8 d_cX2_nextToMerge_26 rfl (gk_X2 D I) (Nat.le_of_ble_eq_true rfl) w_2_113 rfl ?_
          refine G_getfN 35 4 d_cX2_nextToMerge_29 rfl (gk_X0 D I) (Nat.le_of_ble_eq_true rfl) (fun _ _ _ h => gn_w 21 rfl h) rfl ?_
          refine G_iload_n 0 d_cX2_nextToMerge_32 rfl ?_
          refine G_iald 40 0 d_cX2_nextToMerge_33 rfl rfl (gB_in bg59301' (by decide) (by decide)) (G_eqi (y := z59324) hz59324.symm ?_)
          refine G_aload_n 1 d_cX2_nextToMerge_34 rfl ?_
          refine G_getf 0 8 d_cX2_nextToMerge_35 rfl (gk_X2 D I) (Nat.le_of_ble_eq_true rfl) w_2_113 rfl ?_
          refine G_getfN 35 5 d_cX2_nextToMerge_38 rfl (gk_X0 D I) (Nat.le_of_ble_eq_true rfl) (fun _ _ _ h => gn_w 26 rfl h) rfl ?_
          refine G_iload_n 0 d_cX2_nextToMerge_41 rfl ?_
          refine G_iald 41 0 d_cX2_nextToMerge_42 rfl rfl (gB_in bg59301' (by decide) (by decide)) (G_eqi (y := z59325) hz59325.symm ?_)
          refine G_iload_n 2 d_cX2_nextToMerge_43 rfl ?_
          refine G_callV (As := [.int z59324, .int z59325, .int p57246]) (wr := []) (gV_ok D I) (ct_57450_Giver_canMerge l hl0 D I q57201 q57202 q57203 q57204 q57205 q57206 q57207 q57208 q57209 q57210 q57211 q57212 q57213 q57214 q57215 q57216 q57217 q57218 q57219 q57220 q57221 q57222 q57223 q57224 q57225 q57226 q57227 q57228 q57229 q57230 q57231 q57232 q57233 q57234 q57235 q57236 q57237 q57238 q57239 q57240 q57241 q57242 q57243 q57244 q57245 z59324 z59325 p57246 p57247 p57248 p57249 p57250 p57251 p57252 p57253 p57254 p57255 p57256 f57257 f57258 f57259 f57260 f57261 p57262 p57263 p57264 p57265 p57266 p57267 f57268 f57269 f57270 p57271 p57272 p57273 f57274 f57275 f57276 f57277 f57278 f57279 f57280 f57281 f57282 f57283 f57284 f57285 f57286 f57287 f57288 f57289 f57290 f57291 f57292 f57293 f57294 f57295 f57296 f57297 f57298 f57299 f57300 f57301 f57302 f57303 bp57247 bp57252 bp57253 bp57254 bp57255 bp57256 bp57262 (gB_w bp57263' (by decide) (by decide)) bp57264 bp57265 bp57266 bp57267 bp57271 bp57272 bp57273 bf57279 bf57280 bf57282 bf57285 bf57291 bf57294 (by omega) (by omega) (by omega) (by omega) x57306 (by omega)) d_cX2_nextToMerge_44 ⟨w_5_93, w_1_8, w_5_96, by decide, rfl, (Nat.le_of_ble_eq_true rfl), (Nat.le_of_ble_eq_true rfl)⟩ w_5_95 w_p_42 0 rfl rfl [0, 1, 2, 3, 4, 5, 6, 7, 8, 35, 9, 10, 11, 12, 13, 14, 15, 16, 17, 18, 19, 20, 21, 36, 37, 38, 39, 40, 41, 42, 43, 44, 22, 23, 24, 25, 26, 27, 28, 29, 30, 31, 32, 33, 34] [] rfl rfl rfl rfl (by decide) (Nat.le_of_ble_eq_true rfl) (Nat.le_of_ble_eq_true rfl) (Nat.le_of_ble_eq_true rfl) (fun r w hp => ?_) (fun _ _ _ z => z.elim)
          obtain ⟨o59335, rfl, rfl, bo59335⟩ := hp
          change G _ _ _ _ _ _ _ (.int o59335 :: _) _ _ _
          refine G_ws (ws' := [(q57201, .inr (7, [.ref q57202, .ref q57203, .ref q57204, .ref q57205, .ref q57206, .ref q57207, .ref q57208, .ref q57209, .ref q57210, .ref q57211, .int p57247, .int p57248, .int p57249, .int p57250, .int p57251, .int p57252])), (q57202, .inr (11, [.ref q57212, .ref q57213, .ref q57214])), (q57203, .inr (8, [.ref q57215, .ref q57216, .ref q57217, .ref q57218, .int p57253, .int p57254])), (q57204, .inr (6, [.ref q57203, .ref q57219, .ref q57220, .ref q57221, .ref q57222, .ref q57223, .int p57255, .int p57256])), (q57205, .inl (I .int, 100, .inl f57257)), (q57206, .inl (I .int, 100, .inl f57258)), (q57207, .inl (I .int, 40, .inl f57259)), (q57208, .inl (I .int, 100, .inl f57260)), (q57209, .inl (I .int, 100, .inl f57261)), (q57210, .inr (5, [.ref q57224, .ref q57225, .ref q57226, .ref q57227, .ref q57228, .ref q57229, .ref q57230, .ref q57231, .ref q57232, .int p57262, .int p57263, .int p57264])), (q57211, .inr (5, [.ref q57233, .ref q57234, .ref q57235, .ref q57236, .ref q57237, .ref q57238, .ref q57239, .ref q57240, .ref q57241, .int p57265, .int p57266, .int p57267])), (q57212, .inl (I .long, 40, .inr (.inl f57268))), (q57213, .inl (I .long, 40, .inr (.inl f57269))), (q57214, .inl (I .int, 40, .inl f57270)), (q57215, .inr (10, [.ref q57242, .ref q57243, .ref q57244, .ref q57245, .int p57271, .int p57272, .int p57273])), (q57216, .inl (I .long, 8640, .inr (.inl f57274))), (q57217, .inl (I .long, 12, .inr (.inl f57275))), (q57218, .inl (I .int, 720, .inl f57276)), (q57219, .inl (I .int, 720, .inl f57277)), (q57220, .inl (I .int, 720, .inl f57278)), (q57221, .inl (I .int, 720, .inl f57279)), (q57222, .inl (I .int, 720, .inl f57280)), (q57223, .inl (I .int, 720, .inl f57281)), (q57224, .inl (I .int, 40, .inl f57282)), (q57225, .inl (I .int, 40, .inl f57283)), (q57226, .inl (I .int, 40, .inl f57284)), (q57227, .inl (I .int, 920, .inl f57285)), (q57228, .inl (I .int, 920, .inl f57286)), (q57229, .inl (I .int, 920, .inl f57287)), (q57230, .inl (I .int, 920, .inl f57288)), (q57231, .inl (I .int, 920, .inl f57289)), (q57232, .inl (I .int, 920, .inl f57290)), (q57233, .inl (I .int, 40, .inl f57291)), (q57234, .inl (I .int, 40, .inl f57292)), (q57235, .inl (I .int, 40, .inl f57293)), (q57236, .inl (I .int, 920, .inl f57294)), (q57237, .inl (I .int, 920, .inl f57295)), (q57238, .inl (I .int, 920, .inl f57296)), (q57239, .inl (I .int, 920, .inl f57297)), (q57240, .inl (I .int, 920, .inl f57298)), (q57241, .inl (I .int, 920, .inl f57299)), (q57242, .inl (I .long, 480, .inr (.inl f57300))), (q57243, .inl (I .long, 480, .inr (.inl f57301))), (q57244, .inl (I .long, 480, .inr (.inl f57302))), (q57245, .inl (I .long, 12, .inr (.inl f57303)))]) (cs' := 0) (sl' := 0) rfl rfl rfl ?_
          refine G_if_eq 52 d_cX2_nextToMerge_47 (by decide +kernel) (fun hc59336 => ?_) (fun hc59336 => ?_)
          · have r59337 : o59335.toInt = 0 := gj_eq hc59336 (show Int32.toInt 0 = 0 by decide)
            have bo59335' : gB o59335 0 0 := ⟨by omega, by omega⟩
            obtain ⟨z59338, hz59338⟩ : ∃ z : Int32, z = g59301 + Int32.ofInt 1 := ⟨_, rfl⟩
            have ez59338 : z59338.toInt = g59301.toInt + 1 := gI_inc hz59338 (by decide) bg59301' (by decide) (by decide)
            have bz59338 : gB z59338 1 920 := ⟨by omega, by omega⟩
            refine G_iinc (L' := [(2, .int z59338), (0, .ref q57201), (1, .int p57246)]) z59338 0 d_cX2_nextToMerge_52 rfl hz59338.symm (Nat.le_of_ble_eq_true rfl) rfl ?_
            refine G_goto 2 d_cX2_nextToMerge_55 (by decide +kernel) ?_
            exact ih2_59301 z59338 (gB_w bz59338 (by decide) (by decide)) (by omega)
          · have r59339 : o59335.toInt ≠ 0 := gj_neq hc59336 (show Int32.toInt 0 = 0 by decide)
            have bo59335' : gB o59335 1 1 := ⟨by omega, by omega⟩
            refine G_iload_n 0 d_cX2_nextToMerge_50 rfl ?_
            exact G_iret d_cX2_nextToMerge_51 rfl (Nat.le_of_ble_eq_true rfl) (Nat.le_of_ble_eq_true rfl) ⟨g59301, rfl, rfl, (gB_w bg59301' (by decide) (by decide))⟩
  exact hlp2_59301 (((921 : Int) - 0).toNat + 1) 0 (gB_w (gBl (show Int32.toInt 0 = 0 by decide)) (by decide) (by decide)) (Nat.lt_succ_self _)
abbrev ky_59371_Code_drop : gKey := (cX0_drop, 4, yX0_drop.cls, none, [], yX0_drop.name, fun _ _ => True)
abbrev po_59371_Code_drop (I : FieldType → ClassId) (q59348 : Nat) (q59349 : Nat) (q59350 : Nat) (q59351 : Nat) (q59352 : Nat) (q59353 : Nat) (q59354 : Nat) (q59355 : Nat) (q59356 : Nat) (q59357 : Nat) (p59358 : Int32) (p59359 : Int32) (p59360 : Int32) (p59361 : Int32) (f59362 : Nat → Int32) (f59363 : Nat → Int32) (f59364 : Nat → Int32) (f59365 : Nat → Int32) (f59366 : Nat → Int32) (f59367 : Nat → Int32) (f59368 : Nat → Int32) (f59369 : Nat → Int32) (f59370 : Nat → Int32) : Option Value → va_W → Prop := fun r w => ∃ (o59477 : Int32) (f59478 : Nat → Int32) (f59479 : Nat → Int32) (f59480 : Nat → Int32) (f59481 : Nat → Int32) (f59482 : Nat → Int32) (f59483 : Nat → Int32) (f59484 : Nat → Int32), r = none ∧ w = [(q59348, .inr (5, [.ref q59349, .ref q59350, .ref q59351, .ref q59352, .ref q59353, .ref q59354, .ref q59355, .ref q59356, .ref q59357, .int p59359, .int o59477, .int p59361])), (q59349, .inl (I .int, 40, .inl f59478)), (q59350, .inl (I .int, 40, .inl f59363)), (q59351, .inl (I .int, 40, .inl f59364)), (q59352, .inl (I .int, 920, .inl f59479)), (q59353, .inl (I .int, 920, .inl f59480)), (q59354, .inl (I .int, 920, .inl f59481)), (q59355, .inl (I .int, 920, .inl f59482)), (q59356, .inl (I .int, 920, .inl f59483)), (q59357, .inl (I .int, 920, .inl f59484))] ∧ gB o59477 0 920 ∧ gF f59478 0 920 ∧ gF f59479 0 21 ∧ gF f59480 (-2147483648) 2147483647 ∧ gF f59481 (-2147483648) 2147483647 ∧ gF f59482 (-2147483648) 2147483647 ∧ gF f59483 (-2147483648) 2147483647 ∧ gF f59484 (-2147483648) 2147483647
set_option maxRecDepth 100000 in
set_option maxHeartbeats 4000000 in
theorem ct_59371_Code_drop (l : Launch) (hl0 : l.stackTraces = false) (D : va_G) (I : FieldType → ClassId) (q59348 : Nat) (q59349 : Nat) (q59350 : Nat) (q59351 : Nat) (q59352 : Nat) (q59353 : Nat) (q59354 : Nat) (q59355 : Nat) (q59356 : Nat) (q59357 : Nat) (p59358 : Int32) (p59359 : Int32) (p59360 : Int32) (p59361 : Int32) (f59362 : Nat → Int32) (f59363 : Nat → Int32) (f59364 : Nat → Int32) (f59365 : Nat → Int32) (f59366 : Nat → Int32) (f59367 : Nat → Int32) (f59368 : Nat → Int32) (f59369 : Nat → Int32) (f59370 : Nat → Int32) (bp59358 : gB p59358 0 919) (bp59359 : gB p59359 0 40) (bp59360 : gB p59360 0 920) (bp59361 : gB p59361 0 1) (bf59362 : gF f59362 0 920) (bf59365 : gF f59365 0 21) : Ct (gV D I) l yX0_drop cX0_drop 4 none 1 18 0 0 [.ref q59348, .int p59358] [(q59348, .inr (5, [.ref q59349, .ref q59350, .ref q59351, .ref q59352, .ref q59353, .ref q59354, .ref q59355, .ref q59356, .ref q59357, .int p59359, .int p59360, .int p59361])), (q59349, .inl (I .int, 40, .inl f59362)), (q59350, .inl (I .int, 40, .inl f59363)), (q59351, .inl (I .int, 40, .inl f59364)), (q59352, .inl (I .int, 920, .inl f59365)), (q59353, .inl (I .int, 920, .inl f59366)), (q59354, .inl (I .int, 920, .inl f59367)), (q59355, .inl (I .int, 920, .inl f59368)), (q59356, .inl (I .int, 920, .inl f59369)), (q59357, .inl (I .int, 920, .inl f59370))] (po_59371_Code_drop I q59348 q59349 q59350 q59351 q59352 q59353 q59354 q59355 q59356 q59357 p59358 p59359 p59360 p59361 f59362 f59363 f59364 f59365 f59366 f59367 f59368 f59369 f59370) gN := by
  refine Ct_of hl0 (by decide) (Nat.le_of_ble_eq_true rfl) ?_
  refine G_aload_n 0 d_cX0_drop_0 rfl ?_
  refine G_getf 0 10 d_cX0_drop_1 rfl (gk_X0 D I) (Nat.le_of_ble_eq_true rfl) w_1_197 rfl ?_
  refine G_iload_n 1 d_cX0_drop_4 rfl ?_
  refine G_isub d_cX0_drop_5 (G_nam fun z59372 hz59372 => ?_)
  have ez59372 : z59372.toInt = p59360.toInt - p59358.toInt := by rw [gI_sub hz59372 bp59360 bp59358 (by decide) (by decide)]
  have bz59372 : gB z59372 (-919) 920 := gB_sub (gI_sub hz59372 bp59360 bp59358 (by decide) (by decide)) bp59360 bp59358 (by decide) (by decide)
  refine G_iconst 1 d_cX0_drop_6 (by decide +kernel) ?_
  refine G_isub d_cX0_drop_7 (G_nam fun z59373 hz59373 => ?_)
  have ez59373 : z59373.toInt = z59372.toInt - 1 := by rw [gI_sub hz59373 bz59372 (gBl (show Int32.toInt 1 = 1 by decide)) (by decide) (by decide), show Int32.toInt 1 = 1 from by decide]
  have bz59373 : gB z59373 (-920) 919 := gB_sub (gI_sub hz59373 bz59372 (gBl (show Int32.toInt 1 = 1 by decide)) (by decide) (by decide)) bz59372 (gBl (show Int32.toInt 1 = 1 by decide)) (by decide) (by decide)
  refine G_istore_n (L' := [(2, .int z59373), (0, .ref q59348), (1, .int p59358)]) d_cX0_drop_8 (Nat.le_of_ble_eq_true rfl) rfl ?_
  refine G_iload_n 2 d_cX0_drop_9 rfl ?_
  refine G_if_lt 17 d_cX0_drop_10 (by decide +kernel) (fun hc => absurd (show False by have := gj_lt hc (show Int32.toInt 0 = 0 by decide); omega) not_false) (fun _ => ?_)
  refine G_iload_n 0 d_cX0_drop_13 rfl ?_
  refine G_if_ge 18 d_cX0_drop_14 (by decide +kernel) (fun hc59374 => ?_) (fun hc59374 => ?_)
  · have r59375 : 0 ≤ z59373.toInt := gj_leL hc59374 (show Int32.toInt 0 = 0 by decide)
    have bz59373' : gB z59373 0 919 := ⟨by omega, by omega⟩
    refine G_aload_n 1 d_cX0_drop_18 rfl ?_
    refine G_getf 0 3 d_cX0_drop_19 rfl (gk_X0 D I) (Nat.le_of_ble_eq_true rfl) w_1_159 rfl ?_
    refine G_iload_n 2 d_cX0_drop_22 rfl ?_
    refine G_iconst 1 d_cX0_drop_23 (by decide +kernel) ?_
    refine G_iadd d_cX0_drop_24 (G_nam fun z59376 hz59376 => ?_)
    have ez59376 : z59376.toInt = p59358.toInt + 1 := by rw [gI_add hz59376 bp59358 (gBl (show Int32.toInt 1 = 1 by decide)) (by decide) (by decide), show Int32.toInt 1 = 1 from by decide]
    have bz59376 : gB z59376 1 920 := gB_add (gI_add hz59376 bp59358 (gBl (show Int32.toInt 1 = 1 by decide)) (by decide) (by decide)) bp59358 (gBl (show Int32.toInt 1 = 1 by decide)) (by decide) (by decide)
    refine G_aload_n 1 d_cX0_drop_25 rfl ?_
    refine G_getf 0 3 d_cX0_drop_26 rfl (gk_X0 D I) (Nat.le_of_ble_eq_true rfl) w_1_159 rfl ?_
    refine G_iload_n 2 d_cX0_drop_29 rfl ?_
    refine G_iload_n 0 d_cX0_drop_30 rfl ?_
    refine G_copyi 4 4 0 0 d_cX0_drop_31 w_5_111 w_5_113 w_5_112 w_1_34 rfl rfl rfl rfl (by omega) (by omega) (by omega) (by omega) (by omega) (Nat.le_of_ble_eq_true rfl) (Nat.le_of_ble_eq_true rfl) (fun f59377 hf59377 => ?_)
    refine G_ws (ws' := [(q59348, .inr (5, [.ref q59349, .ref q59350, .ref q59351, .ref q59352, .ref q59353, .ref q59354, .ref q59355, .ref q59356, .ref q59357, .int p59359, .int p59360, .int p59361])), (q59349, .inl (I .int, 40, .inl f59362)), (q59350, .inl (I .int, 40, .inl f59363)), (q59351, .inl (I .int, 40, .inl f59364)), (q59352, .inl (I .int, 920, .inl f59377)), (q59353, .inl (I .int, 920, .inl f59366)), (q59354, .inl (I .int, 920, .inl f59367)), (q59355, .inl (I .int, 920, .inl f59368)), (q59356, .inl (I .int, 920, .inl f59369)), (q59357, .inl (I .int, 920, .inl f59370))]) (cs' := 0) (sl' := 0) rfl rfl rfl ?_
    have bf59377 : gF f59377 0 21 := gF_cpy hf59377 bf59365 bf59365
    refine G_aload_n 1 d_cX0_drop_34 rfl ?_
    refine G_getf 0 4 d_cX0_drop_35 rfl (gk_X0 D I) (Nat.le_of_ble_eq_true rfl) w_1_163 rfl ?_
    refine G_iload_n 2 d_cX0_drop_38 rfl ?_
    refine G_iconst 1 d_cX0_drop_39 (by decide +kernel) ?_
    refine G_iadd d_cX0_drop_40 (G_nam fun z59378 hz59378 => ?_)
    have ez59378 : z59378.toInt = p59358.toInt + 1 := by rw [gI_add hz59378 bp59358 (gBl (show Int32.toInt 1 = 1 by decide)) (by decide) (by decide), show Int32.toInt 1 = 1 from by decide]
    have bz59378 : gB z59378 1 920 := gB_add (gI_add hz59378 bp59358 (gBl (show Int32.toInt 1 = 1 by decide)) (by decide) (by decide)) bp59358 (gBl (show Int32.toInt 1 = 1 by decide)) (by decide) (by decide)
    refine G_aload_n 1 d_cX0_drop_41 rfl ?_
    refine G_getf 0 4 d_cX0_drop_42 rfl (gk_X0 D I) (Nat.le_of_ble_eq_true rfl) w_1_163 rfl ?_
    refine G_iload_n 2 d_cX0_drop_45 rfl ?_
    refine G_iload_n 0 d_cX0_drop_46 rfl ?_
    refine G_copyi 5 5 0 0 d_cX0_drop_47 w_5_111 w_5_113 w_5_112 w_1_34 rfl rfl rfl rfl (by omega) (by omega) (by omega) (by omega) (by omega) (Nat.le_of_ble_eq_true rfl) (Nat.le_of_ble_eq_true rfl) (fun f59379 hf59379 => ?_)
    refine G_ws (ws' := [(q59348, .inr (5, [.ref q59349, .ref q59350, .ref q59351, .ref q59352, .ref q59353, .ref q59354, .ref q59355, .ref q59356, .ref q59357, .int p59359, .int p59360, .int p59361])), (q59349, .inl (I .int, 40, .inl f59362)), (q59350, .inl (I .int, 40, .inl f59363)), (q59351, .inl (I .int, 40, .inl f59364)), (q59352, .inl (I .int, 920, .inl f59377)), (q59353, .inl (I .int, 920, .inl f59379)), (q59354, .inl (I .int, 920, .inl f59367)), (q59355, .inl (I .int, 920, .inl f59368)), (q59356, .inl (I .int, 920, .inl f59369)), (q59357, .inl (I .int, 920, .inl f59370))]) (cs' := 0) (sl' := 0) rfl rfl rfl ?_
    refine G_aload_n 1 d_cX0_drop_50 rfl ?_
    refine G_getf 0 5 d_cX0_drop_51 rfl (gk_X0 D I) (Nat.le_of_ble_eq_true rfl) w_1_168 rfl ?_
    refine G_iload_n 2 d_cX0_drop_54 rfl ?_
    refine G_iconst 1 d_cX0_drop_55 (by decide +kernel) ?_
    refine G_iadd d_cX0_drop_56 (G_nam fun z59380 hz59380 => ?_)
    have ez59380 : z59380.toInt = p59358.toInt + 1 := by rw [gI_add hz59380 bp59358 (gBl (show Int32.toInt 1 = 1 by decide)) (by decide) (by decide), show Int32.toInt 1 = 1 from by decide]
    have bz59380 : gB z59380 1 920 := gB_add (gI_add hz59380 bp59358 (gBl (show Int32.toInt 1 = 1 by decide)) (by decide) (by decide)) bp59358 (gBl (show Int32.toInt 1 = 1 by decide)) (by decide) (by decide)
    refine G_aload_n 1 d_cX0_drop_57 rfl ?_
    refine G_getf 0 5 d_cX0_drop_58 rfl (gk_X0 D I) (Nat.le_of_ble_eq_true rfl) w_1_168 rfl ?_
    refine G_iload_n 2 d_cX0_drop_61 rfl ?_
    refine G_iload_n 0 d_cX0_drop_62 rfl ?_
    refine G_copyi 6 6 0 0 d_cX0_drop_63 w_5_111 w_5_113 w_5_112 w_1_34 rfl rfl rfl rfl (by omega) (by omega) (by omega) (by omega) (by omega) (Nat.le_of_ble_eq_true rfl) (Nat.le_of_ble_eq_true rfl) (fun f59381 hf59381 => ?_)
    refine G_ws (ws' := [(q59348, .inr (5, [.ref q59349, .ref q59350, .ref q59351, .ref q59352, .ref q59353, .ref q59354, .ref q59355, .ref q59356, .ref q59357, .int p59359, .int p59360, .int p59361])), (q59349, .inl (I .int, 40, .inl f59362)), (q59350, .inl (I .int, 40, .inl f59363)), (q59351, .inl (I .int, 40, .inl f59364)), (q59352, .inl (I .int, 920, .inl f59377)), (q59353, .inl (I .int, 920, .inl f59379)), (q59354, .inl (I .int, 920, .inl f59381)), (q59355, .inl (I .int, 920, .inl f59368)), (q59356, .inl (I .int, 920, .inl f59369)), (q59357, .inl (I .int, 920, .inl f59370))]) (cs' := 0) (sl' := 0) rfl rfl rfl ?_
    refine G_aload_n 1 d_cX0_drop_66 rfl ?_
    refine G_getf 0 6 d_cX0_drop_67 rfl (gk_X0 D I) (Nat.le_of_ble_eq_true rfl) w_1_174 rfl ?_
    refine G_iload_n 2 d_cX0_drop_70 rfl ?_
    refine G_iconst 1 d_cX0_drop_71 (by decide +kernel) ?_
    refine G_iadd d_cX0_drop_72 (G_nam fun z59382 hz59382 => ?_)
    have ez59382 : z59382.toInt = p59358.toInt + 1 := by rw [gI_add hz59382 bp59358 (gBl (show Int32.toInt 1 = 1 by decide)) (by decide) (by decide), show Int32.toInt 1 = 1 from by decide]
    have bz59382 : gB z59382 1 920 := gB_add (gI_add hz59382 bp59358 (gBl (show Int32.toInt 1 = 1 by decide)) (by decide) (by decide)) bp59358 (gBl (show Int32.toInt 1 = 1 by decide)) (by decide) (by decide)
    refine G_aload_n 1 d_cX0_drop_73 rfl ?_
    refine G_getf 0 6 d_cX0_drop_74 rfl (gk_X0 D I) (Nat.le_of_ble_eq_true rfl) w_1_174 rfl ?_
    refine G_iload_n 2 d_cX0_drop_77 rfl ?_
    refine G_iload_n 0 d_cX0_drop_78 rfl ?_
    refine G_copyi 7 7 0 0 d_cX0_drop_79 w_5_111 w_5_113 w_5_112 w_1_34 rfl rfl rfl rfl (by omega) (by omega) (by omega) (by omega) (by omega) (Nat.le_of_ble_eq_true rfl) (Nat.le_of_ble_eq_true rfl) (fun f59383 hf59383 => ?_)
    refine G_ws (ws' := [(q59348, .inr (5, [.ref q59349, .ref q59350, .ref q59351, .ref q59352, .ref q59353, .ref q59354, .ref q59355, .ref q59356, .ref q59357, .int p59359, .int p59360, .int p59361])), (q59349, .inl (I .int, 40, .inl f59362)), (q59350, .inl (I .int, 40, .inl f59363)), (q59351, .inl (I .int, 40, .inl f59364)), (q59352, .inl (I .int, 920, .inl f59377)), (q59353, .inl (I .int, 920, .inl f59379)), (q59354, .inl (I .int, 920, .inl f59381)), (q59355, .inl (I .int, 920, .inl f59383)), (q59356, .inl (I .int, 920, .inl f59369)), (q59357, .inl (I .int, 920, .inl f59370))]) (cs' := 0) (sl' := 0) rfl rfl rfl ?_
    refine G_aload_n 1 d_cX0_drop_82 rfl ?_
    refine G_getf 0 7 d_cX0_drop_83 rfl (gk_X0 D I) (Nat.le_of_ble_eq_true rfl) w_1_178 rfl ?_
    refine G_iload_n 2 d_cX0_drop_86 rfl ?_
    refine G_iconst 1 d_cX0_drop_87 (by decide +kernel) ?_
    refine G_iadd d_cX0_drop_88 (G_nam fun z59384 hz59384 => ?_)
    have ez59384 : z59384.toInt = p59358.toInt + 1 := by rw [gI_add hz59384 bp59358 (gBl (show Int32.toInt 1 = 1 by decide)) (by decide) (by decide), show Int32.toInt 1 = 1 from by decide]
    have bz59384 : gB z59384 1 920 := gB_add (gI_add hz59384 bp59358 (gBl (show Int32.toInt 1 = 1 by decide)) (by decide) (by decide)) bp59358 (gBl (show Int32.toInt 1 = 1 by decide)) (by decide) (by decide)
    refine G_aload_n 1 d_cX0_drop_89 rfl ?_
    refine G_getf 0 7 d_cX0_drop_90 rfl (gk_X0 D I) (Nat.le_of_ble_eq_true rfl) w_1_178 rfl ?_
    refine G_iload_n 2 d_cX0_drop_93 rfl ?_
    refine G_iload_n 0 d_cX0_drop_94 rfl ?_
    refine G_copyi 8 8 0 0 d_cX0_drop_95 w_5_111 w_5_113 w_5_112 w_1_34 rfl rfl rfl rfl (by omega) (by omega) (by omega) (by omega) (by omega) (Nat.le_of_ble_eq_true rfl) (Nat.le_of_ble_eq_true rfl) (fun f59385 hf59385 => ?_)
    refine G_ws (ws' := [(q59348, .inr (5, [.ref q59349, .ref q59350, .ref q59351, .ref q59352, .ref q59353, .ref q59354, .ref q59355, .ref q59356, .ref q59357, .int p59359, .int p59360, .int p59361])), (q59349, .inl (I .int, 40, .inl f59362)), (q59350, .inl (I .int, 40, .inl f59363)), (q59351, .inl (I .int, 40, .inl f59364)), (q59352, .inl (I .int, 920, .inl f59377)), (q59353, .inl (I .int, 920, .inl f59379)), (q59354, .inl (I .int, 920, .inl f59381)), (q59355, .inl (I .int, 920, .inl f59383)), (q59356, .inl (I .int, 920, .inl f59385)), (q59357, .inl (I .int, 920, .inl f59370))]) (cs' := 0) (sl' := 0) rfl rfl rfl ?_
    refine G_aload_n 1 d_cX0_drop_98 rfl ?_
    refine G_getf 0 8 d_cX0_drop_99 rfl (gk_X0 D I) (Nat.le_of_ble_eq_true rfl) w_1_183 rfl ?_
    refine G_iload_n 2 d_cX0_drop_102 rfl ?_
    refine G_iconst 1 d_cX0_drop_103 (by decide +kernel) ?_
    refine G_iadd d_cX0_drop_104 (G_nam fun z59386 hz59386 => ?_)
    have ez59386 : z59386.toInt = p59358.toInt + 1 := by rw [gI_add hz59386 bp59358 (gBl (show Int32.toInt 1 = 1 by decide)) (by decide) (by decide), show Int32.toInt 1 = 1 from by decide]
    have bz59386 : gB z59386 1 920 := gB_add (gI_add hz59386 bp59358 (gBl (show Int32.toInt 1 = 1 by decide)) (by decide) (by decide)) bp59358 (gBl (show Int32.toInt 1 = 1 by decide)) (by decide) (by decide)
    refine G_aload_n 1 d_cX0_drop_105 rfl ?_
    refine G_getf 0 8 d_cX0_drop_106 rfl (gk_X0 D I) (Nat.le_of_ble_eq_true rfl) w_1_183 rfl ?_
    refine G_iload_n 2 d_cX0_drop_109 rfl ?_
    refine G_iload_n 0 d_cX0_drop_110 rfl ?_
    refine G_copyi 9 9 0 0 d_cX0_drop_111 w_5_111 w_5_113 w_5_112 w_1_34 rfl rfl rfl rfl (by omega) (by omega) (by omega) (by omega) (by omega) (Nat.le_of_ble_eq_true rfl) (Nat.le_of_ble_eq_true rfl) (fun f59387 hf59387 => ?_)
    refine G_ws (ws' := [(q59348, .inr (5, [.ref q59349, .ref q59350, .ref q59351, .ref q59352, .ref q59353, .ref q59354, .ref q59355, .ref q59356, .ref q59357, .int p59359, .int p59360, .int p59361])), (q59349, .inl (I .int, 40, .inl f59362)), (q59350, .inl (I .int, 40, .inl f59363)), (q59351, .inl (I .int, 40, .inl f59364)), (q59352, .inl (I .int, 920, .inl f59377)), (q59353, .inl (I .int, 920, .inl f59379)), (q59354, .inl (I .int, 920, .inl f59381)), (q59355, .inl (I .int, 920, .inl f59383)), (q59356, .inl (I .int, 920, .inl f59385)), (q59357, .inl (I .int, 920, .inl f59387))]) (cs' := 0) (sl' := 0) rfl rfl rfl ?_
    refine G_aload_n 1 d_cX0_drop_114 rfl ?_
    refine G_dup d_cX0_drop_115 rfl ?_
    refine G_getf 0 10 d_cX0_drop_116 rfl (gk_X0 D I) (Nat.le_of_ble_eq_true rfl) w_1_197 rfl ?_
    refine G_iconst 1 d_cX0_drop_119 (by decide +kernel) ?_
    refine G_isub d_cX0_drop_120 (G_nam fun z59388 hz59388 => ?_)
    have ez59388 : z59388.toInt = p59360.toInt - 1 := by rw [gI_sub hz59388 bp59360 (gBl (show Int32.toInt 1 = 1 by decide)) (by decide) (by decide), show Int32.toInt 1 = 1 from by decide]
    have bz59388 : gB z59388 (-1) 919 := gB_sub (gI_sub hz59388 bp59360 (gBl (show Int32.toInt 1 = 1 by decide)) (by decide) (by decide)) bp59360 (gBl (show Int32.toInt 1 = 1 by decide)) (by decide) (by decide)
    refine G_putf (ws' := [(q59348, .inr (5, [.ref q59349, .ref q59350, .ref q59351, .ref q59352, .ref q59353, .ref q59354, .ref q59355, .ref q59356, .ref q59357, .int p59359, .int z59388, .int p59361])), (q59349, .inl (I .int, 40, .inl f59362)), (q59350, .inl (I .int, 40, .inl f59363)), (q59351, .inl (I .int, 40, .inl f59364)), (q59352, .inl (I .int, 920, .inl f59377)), (q59353, .inl (I .int, 920, .inl f59379)), (q59354, .inl (I .int, 920, .inl f59381)), (q59355, .inl (I .int, 920, .inl f59383)), (q59356, .inl (I .int, 920, .inl f59385)), (q59357, .inl (I .int, 920, .inl f59387))]) 0 10 d_cX0_drop_121 rfl (gk_X0 D I) (Nat.le_of_ble_eq_true rfl) w_1_197 rfl rfl rfl (Nat.le_of_ble_eq_true rfl) rfl ?_
    refine G_iconst 0 d_cX0_drop_124 (by decide +kernel) ?_
    refine G_istore_n (L' := [(3, .int 0), (2, .int z59373), (0, .ref q59348), (1, .int p59358)]) d_cX0_drop_125 (Nat.le_of_ble_eq_true rfl) rfl ?_
    have hlp126_59464 : ∀ (n126_59464 : Nat) (g59463 : Int32) (f59464 : Nat → Int32), gB g59463 0 40 → gF f59464 0 920 → ((41 : Int) - g59463.toInt).toNat < n126_59464 → G (gV D I) l (gRm 1 18 0 0) (gM (gV D I) (po_59371_Code_drop I q59348 q59349 q59350 q59351 q59352 q59353 q59354 q59355 q59356 q59357 p59358 p59359 p59360 p59361 f59362 f59363 f59364 f59365 f59366 f59367 f59368 f59369 f59370) gN 0 0) ky_59371_Code_drop 126 [(3, .int g59463), (2, .int z59373), (0, .ref q59348), (1, .int p59358)] [] [(q59348, .inr (5, [.ref q59349, .ref q59350, .ref q59351, .ref q59352, .ref q59353, .ref q59354, .ref q59355, .ref q59356, .ref q59357, .int p59359, .int z59388, .int p59361])), (q59349, .inl (I .int, 40, .inl f59464)), (q59350, .inl (I .int, 40, .inl f59363)), (q59351, .inl (I .int, 40, .inl f59364)), (q59352, .inl (I .int, 920, .inl f59377)), (q59353, .inl (I .int, 920, .inl f59379)), (q59354, .inl (I .int, 920, .inl f59381)), (q59355, .inl (I .int, 920, .inl f59383)), (q59356, .inl (I .int, 920, .inl f59385)), (q59357, .inl (I .int, 920, .inl f59387))] 0 0 := by
      intro n126_59464
      induction n126_59464 with
      | zero => intro g59463 f59464 bg59463 bf59464 hm126_59464; exact absurd hm126_59464 (Nat.not_lt_zero _)
      | succ n126_59464 ih126_59464 =>
        intro g59463 f59464 bg59463 bf59464 hm126_59464
        refine G_iload_n 0 d_cX0_drop_126 rfl ?_
        refine G_aload_n 2 d_cX0_drop_127 rfl ?_
        refine G_getf 0 9 d_cX0_drop_128 rfl (gk_X0 D I) (Nat.le_of_ble_eq_true rfl) w_1_187 rfl ?_
        refine G_icmp_ge 160 d_cX0_drop_131 (by decide +kernel) (fun hc59465 => ?_) (fun hc59465 => ?_)
        · have r59466 : p59359.toInt ≤ g59463.toInt := gC_le hc59465
          exact G_vret d_cX0_drop_160 rfl (Nat.le_of_ble_eq_true rfl) (Nat.le_of_ble_eq_true rfl) ⟨z59388, f59464, f59377, f59379, f59381, f59383, f59385, f59387, rfl, rfl, ⟨by omega, by omega⟩, bf59464, bf59377, (gF_any f59379), (gF_any f59381), (gF_any f59383), (gF_any f59385), (gF_any f59387)⟩
        · have r59467 : g59463.toInt < p59359.toInt := gC_nle hc59465
          have bg59463' : gB g59463 0 39 := ⟨by omega, by omega⟩
          have bp59359' : gB p59359 1 40 := ⟨by omega, by omega⟩
          refine G_aload_n 2 d_cX0_drop_134 rfl ?_
          refine G_getf 0 0 d_cX0_drop_135 rfl (gk_X0 D I) (Nat.le_of_ble_eq_true rfl) w_1_142 rfl ?_
          refine G_iload_n 0 d_cX0_drop_138 rfl ?_
          refine G_iald 1 0 d_cX0_drop_139 rfl rfl (gB_in bg59463' (by decide) (by decide)) (G_nam fun z59468 hz59468 => ?_)
          have bz59468 : gB z59468 0 920 := by rw [hz59468]; exact bf59464 _
          refine G_iload_n 3 d_cX0_drop_140 rfl ?_
          refine G_icmp_le 154 d_cX0_drop_141 (by decide +kernel) (fun hc59469 => ?_) (fun hc59469 => ?_)
          · have r59470 : z59468.toInt ≤ p59358.toInt := gC_le hc59469
            have bz59468' : gB z59468 0 919 := ⟨by omega, by omega⟩
            obtain ⟨z59471, hz59471⟩ : ∃ z : Int32, z = g59463 + Int32.ofInt 1 := ⟨_, rfl⟩
            have ez59471 : z59471.toInt = g59463.toInt + 1 := gI_inc hz59471 (by decide) bg59463' (by decide) (by decide)
            have bz59471 : gB z59471 1 40 := ⟨by omega, by omega⟩
            refine G_iinc (L' := [(3, .int z59471), (2, .int z59373), (0, .ref q59348), (1, .int p59358)]) z59471 0 d_cX0_drop_154 rfl hz59471.symm (Nat.le_of_ble_eq_true rfl) rfl ?_
            refine G_goto 126 d_cX0_drop_157 (by decide +kernel) ?_
            exact ih126_59464 z59471 f59464 (gB_w bz59471 (by decide) (by decide)) bf59464 (by omega)
          · have r59472 : p59358.toInt < z59468.toInt := gC_nle hc59469
            have bz59468' : gB z59468 1 920 := ⟨by omega, by omega⟩
            refine G_aload_n 2 d_cX0_drop_144 rfl ?_
            refine G_getf 0 0 d_cX0_drop_145 rfl (gk_X0 D I) (Nat.le_of_ble_eq_true rfl) w_1_142 rfl ?_
            refine G_iload_n 0 d_cX0_drop_148 rfl ?_
            refine G_dup2_11 d_cX0_drop_149 rfl rfl ?_
            refine G_iald 1 0 d_cX0_drop_150 rfl rfl (gB_in bg59463' (by decide) (by decide)) (G_eqi (y := z59468) hz59468.symm ?_)
            refine G_iconst 1 d_cX0_drop_151 (by decide +kernel) ?_
            refine G_isub d_cX0_drop_152 (G_nam fun z59473 hz59473 => ?_)
            have ez59473 : z59473.toInt = z59468.toInt - 1 := by rw [gI_sub hz59473 bz59468' (gBl (show Int32.toInt 1 = 1 by decide)) (by decide) (by decide), show Int32.toInt 1 = 1 from by decide]
            have bz59473 : gB z59473 0 919 := gB_sub (gI_sub hz59473 bz59468' (gBl (show Int32.toInt 1 = 1 by decide)) (by decide) (by decide)) bz59468' (gBl (show Int32.toInt 1 = 1 by decide)) (by decide) (by decide)
            refine G_iastN 1 0 d_cX0_drop_153 rfl rfl (gB_in bg59463' (by decide) (by decide)) (fun f59474 hf59474 => ?_)
            refine G_ws (ws' := [(q59348, .inr (5, [.ref q59349, .ref q59350, .ref q59351, .ref q59352, .ref q59353, .ref q59354, .ref q59355, .ref q59356, .ref q59357, .int p59359, .int z59388, .int p59361])), (q59349, .inl (I .int, 40, .inl f59474)), (q59350, .inl (I .int, 40, .inl f59363)), (q59351, .inl (I .int, 40, .inl f59364)), (q59352, .inl (I .int, 920, .inl f59377)), (q59353, .inl (I .int, 920, .inl f59379)), (q59354, .inl (I .int, 920, .inl f59381)), (q59355, .inl (I .int, 920, .inl f59383)), (q59356, .inl (I .int, 920, .inl f59385)), (q59357, .inl (I .int, 920, .inl f59387))]) (cs' := 0) (sl' := 0) rfl rfl rfl ?_
            have bf59474 : gF f59474 0 920 := gF_upd hf59474 bf59464 (gB_w bz59473 (by decide) (by decide))
            obtain ⟨z59475, hz59475⟩ : ∃ z : Int32, z = g59463 + Int32.ofInt 1 := ⟨_, rfl⟩
            have ez59475 : z59475.toInt = g59463.toInt + 1 := gI_inc hz59475 (by decide) bg59463' (by decide) (by decide)
            have bz59475 : gB z59475 1 40 := ⟨by omega, by omega⟩
            refine G_iinc (L' := [(3, .int z59475), (2, .int z59373), (0, .ref q59348), (1, .int p59358)]) z59475 0 d_cX0_drop_154 rfl hz59475.symm (Nat.le_of_ble_eq_true rfl) rfl ?_
            refine G_goto 126 d_cX0_drop_157 (by decide +kernel) ?_
            exact ih126_59464 z59475 f59474 (gB_w bz59475 (by decide) (by decide)) bf59474 (by omega)
    exact hlp126_59464 (((41 : Int) - 0).toNat + 1) 0 f59362 (gB_w (gBl (show Int32.toInt 0 = 0 by decide)) (by decide) (by decide)) bf59362 (Nat.lt_succ_self _)
  · have r59476 : z59373.toInt < 0 := gj_nleL hc59374 (show Int32.toInt 0 = 0 by decide)
    have bz59373' : gB z59373 (-920) (-1) := ⟨by omega, by omega⟩
    exact G_vret d_cX0_drop_17 rfl (Nat.le_of_ble_eq_true rfl) (Nat.le_of_ble_eq_true rfl) ⟨p59360, f59362, f59365, f59366, f59367, f59368, f59369, f59370, rfl, rfl, bp59360, bf59362, bf59365, (gF_any f59366), (gF_any f59367), (gF_any f59368), (gF_any f59369), (gF_any f59370)⟩
abbrev ky_59517_Code_replace : gKey := (cX0_replace, 4, yX0_replace.cls, none, [], yX0_replace.name, fun _ _ => True)
abbrev po_59517_Code_replace (I : FieldType → ClassId) (q59493 : Nat) (q59494 : Nat) (q59495 : Nat) (q59496 : Nat) (q59497 : Nat) (q59498 : Nat) (q59499 : Nat) (q59500 : Nat) (q59501 : Nat) (q59502 : Nat) (p59503 : Int32) (p59504 : Int32) (p59505 : Int32) (p59506 : Int32) (p59507 : Int32) (f59508 : Nat → Int32) (f59509 : Nat → Int32) (f59510 : Nat → Int32) (f59511 : Nat → Int32) (f59512 : Nat → Int32) (f59513 : Nat → Int32) (f59514 : Nat → Int32) (f59515 : Nat → Int32) (f59516 : Nat → Int32) : Option Value → va_W → Prop := fun r w => ∃ (f59905 : Nat → Int32) (f59906 : Nat → Int32) (f59907 : Nat → Int32), r = none ∧ w = [(q59493, .inr (5, [.ref q59494, .ref q59495, .ref q59496, .ref q59497, .ref q59498, .ref q59499, .ref q59500, .ref q59501, .ref q59502, .int p59505, .int p59506, .int p59507])), (q59494, .inl (I .int, 40, .inl f59508)), (q59495, .inl (I .int, 40, .inl f59509)), (q59496, .inl (I .int, 40, .inl f59510)), (q59497, .inl (I .int, 920, .inl f59511)), (q59498, .inl (I .int, 920, .inl f59905)), (q59499, .inl (I .int, 920, .inl f59906)), (q59500, .inl (I .int, 920, .inl f59514)), (q59501, .inl (I .int, 920, .inl f59907)), (q59502, .inl (I .int, 920, .inl f59516))] ∧ gF f59905 (-2147483648) 2147483647 ∧ gF f59906 (-2147483648) 2147483647 ∧ gF f59907 (-2147483648) 2147483647
set_option maxRecDepth 100000 in
set_option maxHeartbeats 4000000 in
theorem ct_59517_Code_replace (l : Launch) (hl0 : l.stackTraces = false) (D : va_G) (I : FieldType → ClassId) (q59493 : Nat) (q59494 : Nat) (q59495 : Nat) (q59496 : Nat) (q59497 : Nat) (q59498 : Nat) (q59499 : Nat) (q59500 : Nat) (q59501 : Nat) (q59502 : Nat) (p59503 : Int32) (p59504 : Int32) (p59505 : Int32) (p59506 : Int32) (p59507 : Int32) (f59508 : Nat → Int32) (f59509 : Nat → Int32) (f59510 : Nat → Int32) (f59511 : Nat → Int32) (f59512 : Nat → Int32) (f59513 : Nat → Int32) (f59514 : Nat → Int32) (f59515 : Nat → Int32) (f59516 : Nat → Int32) (bp59505 : gB p59505 0 40) (bp59506 : gB p59506 0 920) (bp59507 : gB p59507 0 1) (bf59508 : gF f59508 0 920) (bf59511 : gF f59511 0 21) : Ct (gV D I) l yX0_replace cX0_replace 4 none 0 0 0 0 [.ref q59493, .int p59503, .int p59504] [(q59493, .inr (5, [.ref q59494, .ref q59495, .ref q59496, .ref q59497, .ref q59498, .ref q59499, .ref q59500, .ref q59501, .ref q59502, .int p59505, .int p59506, .int p59507])), (q59494, .inl (I .int, 40, .inl f59508)), (q59495, .inl (I .int, 40, .inl f59509)), (q59496, .inl (I .int, 40, .inl f59510)), (q59497, .inl (I .int, 920, .inl f59511)), (q59498, .inl (I .int, 920, .inl f59512)), (q59499, .inl (I .int, 920, .inl f59513)), (q59500, .inl (I .int, 920, .inl f59514)), (q59501, .inl (I .int, 920, .inl f59515)), (q59502, .inl (I .int, 920, .inl f59516))] (po_59517_Code_replace I q59493 q59494 q59495 q59496 q59497 q59498 q59499 q59500 q59501 q59502 p59503 p59504 p59505 p59506 p59507 f59508 f59509 f59510 f59511 f59512 f59513 f59514 f59515 f59516) gN := by
  refine Ct_of hl0 (by decide) (Nat.le_of_ble_eq_true rfl) ?_
  have bp59503 := gB_any p59503
  have bp59504 := gB_any p59504
  refine G_iconst 0 d_cX0_replace_0 (by decide +kernel) ?_
  refine G_istore_n (L' := [(3, .int 0), (0, .ref q59493), (1, .int p59503), (2, .int p59504)]) d_cX0_replace_1 (Nat.le_of_ble_eq_true rfl) rfl ?_
  have hlp2_59851 : ∀ (n2_59851 : Nat) (g59848 : Int32) (f59849 : Nat → Int32) (f59850 : Nat → Int32) (f59851 : Nat → Int32), gB g59848 0 920 → gF f59849 (-2147483648) 2147483647 → gF f59850 (-2147483648) 2147483647 → gF f59851 (-2147483648) 2147483647 → ((921 : Int) - g59848.toInt).toNat < n2_59851 → G (gV D I) l (gRm 0 0 0 0) (gM (gV D I) (po_59517_Code_replace I q59493 q59494 q59495 q59496 q59497 q59498 q59499 q59500 q59501 q59502 p59503 p59504 p59505 p59506 p59507 f59508 f59509 f59510 f59511 f59512 f59513 f59514 f59515 f59516) gN 0 0) ky_59517_Code_replace 2 [(3, .int g59848), (0, .ref q59493), (1, .int p59503), (2, .int p59504)] [] [(q59493, .inr (5, [.ref q59494, .ref q59495, .ref q59496, .ref q59497, .ref q59498, .ref q59499, .ref q59500, .ref q59501, .ref q59502, .int p59505, .int p59506, .int p59507])), (q59494, .inl (I .int, 40, .inl f59508)), (q59495, .inl (I .int, 40, .inl f59509)), (q59496, .inl (I .int, 40, .inl f59510)), (q59497, .inl (I .int, 920, .inl f59511)), (q59498, .inl (I .int, 920, .inl f59849)), (q59499, .inl (I .int, 920, .inl f59850)), (q59500, .inl (I .int, 920, .inl f59514)), (q59501, .inl (I .int, 920, .inl f59851)), (q59502, .inl (I .int, 920, .inl f59516))] 0 0 := by
    intro n2_59851
    induction n2_59851 with
    | zero => intro g59848 f59849 f59850 f59851 bg59848 bf59849 bf59850 bf59851 hm2_59851; exact absurd hm2_59851 (Nat.not_lt_zero _)
    | succ n2_59851 ih2_59851 =>
      intro g59848 f59849 f59850 f59851 bg59848 bf59849 bf59850 bf59851 hm2_59851
      refine G_iload_n 0 d_cX0_replace_2 rfl ?_
      refine G_aload_n 1 d_cX0_replace_3 rfl ?_
      refine G_getf 0 10 d_cX0_replace_4 rfl (gk_X0 D I) (Nat.le_of_ble_eq_true rfl) w_1_197 rfl ?_
      refine G_icmp_ge 94 d_cX0_replace_7 (by decide +kernel) (fun hc59852 => ?_) (fun hc59852 => ?_)
      · have r59853 : p59506.toInt ≤ g59848.toInt := gC_le hc59852
        exact G_vret d_cX0_replace_94 rfl (Nat.le_of_ble_eq_true rfl) (Nat.le_of_ble_eq_true rfl) ⟨f59849, f59850, f59851, rfl, rfl, bf59849, bf59850, bf59851⟩
      · have r59854 : g59848.toInt < p59506.toInt := gC_nle hc59852
        have bg59848' : gB g59848 0 919 := ⟨by omega, by omega⟩
        have bp59506' : gB p59506 1 920 := ⟨by omega, by omega⟩
        refine G_aload_n 1 d_cX0_replace_10 rfl ?_
        refine G_getf 0 4 d_cX0_replace_11 rfl (gk_X0 D I) (Nat.le_of_ble_eq_true rfl) w_1_163 rfl ?_
        refine G_iload_n 0 d_cX0_replace_14 rfl ?_
        refine G_aload_n 1 d_cX0_replace_15 rfl ?_
        refine G_getf 0 4 d_cX0_replace_16 rfl (gk_X0 D I) (Nat.le_of_ble_eq_true rfl) w_1_163 rfl ?_
        refine G_iload_n 0 d_cX0_replace_19 rfl ?_
        refine G_iald 5 0 d_cX0_replace_20 rfl rfl (gB_in bg59848' (by decide) (by decide)) (G_nam fun z59855 hz59855 => ?_)
        have bz59855 : gB z59855 (-2147483648) 2147483647 := by rw [hz59855]; exact bf59849 _
        refine G_iload_n 2 d_cX0_replace_21 rfl ?_
        refine G_icmp_ne 29 d_cX0_replace_22 (by decide +kernel) (fun hc59856 => ?_) (fun hc59856 => ?_)
        · have r59857 : z59855.toInt ≠ p59503.toInt := gC_ne hc59856
          refine G_aload_n 1 d_cX0_replace_29 rfl ?_
          refine G_getf 0 4 d_cX0_replace_30 rfl (gk_X0 D I) (Nat.le_of_ble_eq_true rfl) w_1_163 rfl ?_
          refine G_iload_n 0 d_cX0_replace_33 rfl ?_
          refine G_iald 5 0 d_cX0_replace_34 rfl rfl (gB_in bg59848' (by decide) (by decide)) (G_eqi (y := z59855) hz59855.symm ?_)
          refine G_iastN 5 0 d_cX0_replace_35 rfl rfl (gB_in bg59848' (by decide) (by decide)) (fun f59858 hf59858 => ?_)
          refine G_ws (ws' := [(q59493, .inr (5, [.ref q59494, .ref q59495, .ref q59496, .ref q59497, .ref q59498, .ref q59499, .ref q59500, .ref q59501, .ref q59502, .int p59505, .int p59506, .int p59507])), (q59494, .inl (I .int, 40, .inl f59508)), (q59495, .inl (I .int, 40, .inl f59509)), (q59496, .inl (I .int, 40, .inl f59510)), (q59497, .inl (I .int, 920, .inl f59511)), (q59498, .inl (I .int, 920, .inl f59858)), (q59499, .inl (I .int, 920, .inl f59850)), (q59500, .inl (I .int, 920, .inl f59514)), (q59501, .inl (I .int, 920, .inl f59851)), (q59502, .inl (I .int, 920, .inl f59516))]) (cs' := 0) (sl' := 0) rfl rfl rfl ?_
          refine G_aload_n 1 d_cX0_replace_36 rfl ?_
          refine G_getf 0 5 d_cX0_replace_37 rfl (gk_X0 D I) (Nat.le_of_ble_eq_true rfl) w_1_168 rfl ?_
          refine G_iload_n 0 d_cX0_replace_40 rfl ?_
          refine G_aload_n 1 d_cX0_replace_41 rfl ?_
          refine G_getf 0 5 d_cX0_replace_42 rfl (gk_X0 D I) (Nat.le_of_ble_eq_true rfl) w_1_168 rfl ?_
          refine G_iload_n 0 d_cX0_replace_45 rfl ?_
          refine G_iald 6 0 d_cX0_replace_46 rfl rfl (gB_in bg59848' (by decide) (by decide)) (G_nam fun z59859 hz59859 => ?_)
          have bz59859 : gB z59859 (-2147483648) 2147483647 := by rw [hz59859]; exact bf59850 _
          refine G_iload_n 2 d_cX0_replace_47 rfl ?_
          refine G_icmp_ne 55 d_cX0_replace_48 (by decide +kernel) (fun hc59860 => ?_) (fun hc59860 => ?_)
          · have r59861 : z59859.toInt ≠ p59503.toInt := gC_ne hc59860
            refine G_aload_n 1 d_cX0_replace_55 rfl ?_
            refine G_getf 0 5 d_cX0_replace_56 rfl (gk_X0 D I) (Nat.le_of_ble_eq_true rfl) w_1_168 rfl ?_
            refine G_iload_n 0 d_cX0_replace_59 rfl ?_
            refine G_iald 6 0 d_cX0_replace_60 rfl rfl (gB_in bg59848' (by decide) (by decide)) (G_eqi (y := z59859) hz59859.symm ?_)
            refine G_iastN 6 0 d_cX0_replace_61 rfl rfl (gB_in bg59848' (by decide) (by decide)) (fun f59862 hf59862 => ?_)
            refine G_ws (ws' := [(q59493, .inr (5, [.ref q59494, .ref q59495, .ref q59496, .ref q59497, .ref q59498, .ref q59499, .ref q59500, .ref q59501, .ref q59502, .int p59505, .int p59506, .int p59507])), (q59494, .inl (I .int, 40, .inl f59508)), (q59495, .inl (I .int, 40, .inl f59509)), (q59496, .inl (I .int, 40, .inl f59510)), (q59497, .inl (I .int, 920, .inl f59511)), (q59498, .inl (I .int, 920, .inl f59858)), (q59499, .inl (I .int, 920, .inl f59862)), (q59500, .inl (I .int, 920, .inl f59514)), (q59501, .inl (I .int, 920, .inl f59851)), (q59502, .inl (I .int, 920, .inl f59516))]) (cs' := 0) (sl' := 0) rfl rfl rfl ?_
            refine G_aload_n 1 d_cX0_replace_62 rfl ?_
            refine G_getf 0 7 d_cX0_replace_63 rfl (gk_X0 D I) (Nat.le_of_ble_eq_true rfl) w_1_178 rfl ?_
            refine G_iload_n 0 d_cX0_replace_66 rfl ?_
            refine G_aload_n 1 d_cX0_replace_67 rfl ?_
            refine G_getf 0 7 d_cX0_replace_68 rfl (gk_X0 D I) (Nat.le_of_ble_eq_true rfl) w_1_178 rfl ?_
            refine G_iload_n 0 d_cX0_replace_71 rfl ?_
            refine G_iald 8 0 d_cX0_replace_72 rfl rfl (gB_in bg59848' (by decide) (by decide)) (G_nam fun z59863 hz59863 => ?_)
            have bz59863 : gB z59863 (-2147483648) 2147483647 := by rw [hz59863]; exact bf59851 _
            refine G_iload_n 2 d_cX0_replace_73 rfl ?_
            refine G_icmp_ne 81 d_cX0_replace_74 (by decide +kernel) (fun hc59864 => ?_) (fun hc59864 => ?_)
            · have r59865 : z59863.toInt ≠ p59503.toInt := gC_ne hc59864
              refine G_aload_n 1 d_cX0_replace_81 rfl ?_
              refine G_getf 0 7 d_cX0_replace_82 rfl (gk_X0 D I) (Nat.le_of_ble_eq_true rfl) w_1_178 rfl ?_
              refine G_iload_n 0 d_cX0_replace_85 rfl ?_
              refine G_iald 8 0 d_cX0_replace_86 rfl rfl (gB_in bg59848' (by decide) (by decide)) (G_eqi (y := z59863) hz59863.symm ?_)
              refine G_iastN 8 0 d_cX0_replace_87 rfl rfl (gB_in bg59848' (by decide) (by decide)) (fun f59866 hf59866 => ?_)
              refine G_ws (ws' := [(q59493, .inr (5, [.ref q59494, .ref q59495, .ref q59496, .ref q59497, .ref q59498, .ref q59499, .ref q59500, .ref q59501, .ref q59502, .int p59505, .int p59506, .int p59507])), (q59494, .inl (I .int, 40, .inl f59508)), (q59495, .inl (I .int, 40, .inl f59509)), (q59496, .inl (I .int, 40, .inl f59510)), (q59497, .inl (I .int, 920, .inl f59511)), (q59498, .inl (I .int, 920, .inl f59858)), (q59499, .inl (I .int, 920, .inl f59862)), (q59500, .inl (I .int, 920, .inl f59514)), (q59501, .inl (I .int, 920, .inl f59866)), (q59502, .inl (I .int, 920, .inl f59516))]) (cs' := 0) (sl' := 0) rfl rfl rfl ?_
              obtain ⟨z59867, hz59867⟩ : ∃ z : Int32, z = g59848 + Int32.ofInt 1 := ⟨_, rfl⟩
              have ez59867 : z59867.toInt = g59848.toInt + 1 := gI_inc hz59867 (by decide) bg59848' (by decide) (by decide)
              have bz59867 : gB z59867 1 920 := ⟨by omega, by omega⟩
              refine G_iinc (L' := [(3, .int z59867), (0, .ref q59493), (1, .int p59503), (2, .int p59504)]) z59867 0 d_cX0_replace_88 rfl hz59867.symm (Nat.le_of_ble_eq_true rfl) rfl ?_
              refine G_goto 2 d_cX0_replace_91 (by decide +kernel) ?_
              exact ih2_59851 z59867 f59858 f59862 f59866 (gB_w bz59867 (by decide) (by decide)) (gF_any f59858) (gF_any f59862) (gF_any f59866) (by omega)
            · have r59868 : z59863.toInt = p59503.toInt := gC_eq hc59864
              refine G_iload_n 3 d_cX0_replace_77 rfl ?_
              refine G_goto 87 d_cX0_replace_78 (by decide +kernel) ?_
              refine G_iastN 8 0 d_cX0_replace_87 rfl rfl (gB_in bg59848' (by decide) (by decide)) (fun f59869 hf59869 => ?_)
              refine G_ws (ws' := [(q59493, .inr (5, [.ref q59494, .ref q59495, .ref q59496, .ref q59497, .ref q59498, .ref q59499, .ref q59500, .ref q59501, .ref q59502, .int p59505, .int p59506, .int p59507])), (q59494, .inl (I .int, 40, .inl f59508)), (q59495, .inl (I .int, 40, .inl f59509)), (q59496, .inl (I .int, 40, .inl f59510)), (q59497, .inl (I .int, 920, .inl f59511)), (q59498, .inl (I .int, 920, .inl f59858)), (q59499, .inl (I .int, 920, .inl f59862)), (q59500, .inl (I .int, 920, .inl f59514)), (q59501, .inl (I .int, 920, .inl f59869)), (q59502, .inl (I .int, 920, .inl f59516))]) (cs' := 0) (sl' := 0) rfl rfl rfl ?_
              obtain ⟨z59870, hz59870⟩ : ∃ z : Int32, z = g59848 + Int32.ofInt 1 := ⟨_, rfl⟩
              have ez59870 : z59870.toInt = g59848.toInt + 1 := gI_inc hz59870 (by decide) bg59848' (by decide) (by decide)
              have bz59870 : gB z59870 1 920 := ⟨by omega, by omega⟩
              refine G_iinc (L' := [(3, .int z59870), (0, .ref q59493), (1, .int p59503), (2, .int p59504)]) z59870 0 d_cX0_replace_88 rfl hz59870.symm (Nat.le_of_ble_eq_true rfl) rfl ?_
              refine G_goto 2 d_cX0_replace_91 (by decide +kernel) ?_
              exact ih2_59851 z59870 f59858 f59862 f59869 (gB_w bz59870 (by decide) (by decide)) (gF_any f59858) (gF_any f59862) (gF_any f59869) (by omega)
          · have r59871 : z59859.toInt = p59503.toInt := gC_eq hc59860
            refine G_iload_n 3 d_cX0_replace_51 rfl ?_
            refine G_goto 61 d_cX0_replace_52 (by decide +kernel) ?_
            refine G_iastN 6 0 d_cX0_replace_61 rfl rfl (gB_in bg59848' (by decide) (by decide)) (fun f59872 hf59872 => ?_)
            refine G_ws (ws' := [(q59493, .inr (5, [.ref q59494, .ref q59495, .ref q59496, .ref q59497, .ref q59498, .ref q59499, .ref q59500, .ref q59501, .ref q59502, .int p59505, .int p59506, .int p59507])), (q59494, .inl (I .int, 40, .inl f59508)), (q59495, .inl (I .int, 40, .inl f59509)), (q59496, .inl (I .int, 40, .inl f59510)), (q59497, .inl (I .int, 920, .inl f59511)), (q59498, .inl (I .int, 920, .inl f59858)), (q59499, .inl (I .int, 920, .inl f59872)), (q59500, .inl (I .int, 920, .inl f59514)), (q59501, .inl (I .int, 920, .inl f59851)), (q59502, .inl (I .int, 920, .inl f59516))]) (cs' := 0) (sl' := 0) rfl rfl rfl ?_
            refine G_aload_n 1 d_cX0_replace_62 rfl ?_
            refine G_getf 0 7 d_cX0_replace_63 rfl (gk_X0 D I) (Nat.le_of_ble_eq_true rfl) w_1_178 rfl ?_
            refine G_iload_n 0 d_cX0_replace_66 rfl ?_
            refine G_aload_n 1 d_cX0_replace_67 rfl ?_
            refine G_getf 0 7 d_cX0_replace_68 rfl (gk_X0 D I) (Nat.le_of_ble_eq_true rfl) w_1_178 rfl ?_
            refine G_iload_n 0 d_cX0_replace_71 rfl ?_
            refine G_iald 8 0 d_cX0_replace_72 rfl rfl (gB_in bg59848' (by decide) (by decide)) (G_nam fun z59873 hz59873 => ?_)
            have bz59873 : gB z59873 (-2147483648) 2147483647 := by rw [hz59873]; exact bf59851 _
            refine G_iload_n 2 d_cX0_replace_73 rfl ?_
            refine G_icmp_ne 81 d_cX0_replace_74 (by decide +kernel) (fun hc59874 => ?_) (fun hc59874 => ?_)
            · have r59875 : z59873.toInt ≠ p59503.toInt := gC_ne hc59874
              refine G_aload_n 1 d_cX0_replace_81 rfl ?_
              refine G_getf 0 7 d_cX0_replace_82 rfl (gk_X0 D I) (Nat.le_of_ble_eq_true rfl) w_1_178 rfl ?_
              refine G_iload_n 0 d_cX0_replace_85 rfl ?_
              refine G_iald 8 0 d_cX0_replace_86 rfl rfl (gB_in bg59848' (by decide) (by decide)) (G_eqi (y := z59873) hz59873.symm ?_)
              refine G_iastN 8 0 d_cX0_replace_87 rfl rfl (gB_in bg59848' (by decide) (by decide)) (fun f59876 hf59876 => ?_)
              refine G_ws (ws' := [(q59493, .inr (5, [.ref q59494, .ref q59495, .ref q59496, .ref q59497, .ref q59498, .ref q59499, .ref q59500, .ref q59501, .ref q59502, .int p59505, .int p59506, .int p59507])), (q59494, .inl (I .int, 40, .inl f59508)), (q59495, .inl (I .int, 40, .inl f59509)), (q59496, .inl (I .int, 40, .inl f59510)), (q59497, .inl (I .int, 920, .inl f59511)), (q59498, .inl (I .int, 920, .inl f59858)), (q59499, .inl (I .int, 920, .inl f59872)), (q59500, .inl (I .int, 920, .inl f59514)), (q59501, .inl (I .int, 920, .inl f59876)), (q59502, .inl (I .int, 920, .inl f59516))]) (cs' := 0) (sl' := 0) rfl rfl rfl ?_
              obtain ⟨z59877, hz59877⟩ : ∃ z : Int32, z = g59848 + Int32.ofInt 1 := ⟨_, rfl⟩
              have ez59877 : z59877.toInt = g59848.toInt + 1 := gI_inc hz59877 (by decide) bg59848' (by decide) (by decide)
              have bz59877 : gB z59877 1 920 := ⟨by omega, by omega⟩
              refine G_iinc (L' := [(3, .int z59877), (0, .ref q59493), (1, .int p59503), (2, .int p59504)]) z59877 0 d_cX0_replace_88 rfl hz59877.symm (Nat.le_of_ble_eq_true rfl) rfl ?_
              refine G_goto 2 d_cX0_replace_91 (by decide +kernel) ?_
              exact ih2_59851 z59877 f59858 f59872 f59876 (gB_w bz59877 (by decide) (by decide)) (gF_any f59858) (gF_any f59872) (gF_any f59876) (by omega)
            · have r59878 : z59873.toInt = p59503.toInt := gC_eq hc59874
              refine G_iload_n 3 d_cX0_replace_77 rfl ?_
              refine G_goto 87 d_cX0_replace_78 (by decide +kernel) ?_
              refine G_iastN 8 0 d_cX0_replace_87 rfl rfl (gB_in bg59848' (by decide) (by decide)) (fun f59879 hf59879 => ?_)
              refine G_ws (ws' := [(q59493, .inr (5, [.ref q59494, .ref q59495, .ref q59496, .ref q59497, .ref q59498, .ref q59499, .ref q59500, .ref q59501, .ref q59502, .int p59505, .int p59506, .int p59507])), (q59494, .inl (I .int, 40, .inl f59508)), (q59495, .inl (I .int, 40, .inl f59509)), (q59496, .inl (I .int, 40, .inl f59510)), (q59497, .inl (I .int, 920, .inl f59511)), (q59498, .inl (I .int, 920, .inl f59858)), (q59499, .inl (I .int, 920, .inl f59872)), (q59500, .inl (I .int, 920, .inl f59514)), (q59501, .inl (I .int, 920, .inl f59879)), (q59502, .inl (I .int, 920, .inl f59516))]) (cs' := 0) (sl' := 0) rfl rfl rfl ?_
              obtain ⟨z59880, hz59880⟩ : ∃ z : Int32, z = g59848 + Int32.ofInt 1 := ⟨_, rfl⟩
              have ez59880 : z59880.toInt = g59848.toInt + 1 := gI_inc hz59880 (by decide) bg59848' (by decide) (by decide)
              have bz59880 : gB z59880 1 920 := ⟨by omega, by omega⟩
              refine G_iinc (L' := [(3, .int z59880), (0, .ref q59493), (1, .int p59503), (2, .int p59504)]) z59880 0 d_cX0_replace_88 rfl hz59880.symm (Nat.le_of_ble_eq_true rfl) rfl ?_
              refine G_goto 2 d_cX0_replace_91 (by decide +kernel) ?_
              exact ih2_59851 z59880 f59858 f59872 f59879 (gB_w bz59880 (by decide) (by decide)) (gF_any f59858) (gF_any f59872) (gF_any f59879) (by omega)
        · have r59881 : z59855.toInt = p59503.toInt := gC_eq hc59856
          refine G_iload_n 3 d_cX0_replace_25 rfl ?_
          refine G_goto 35 d_cX0_replace_26 (by decide +kernel) ?_
          refine G_iastN 5 0 d_cX0_replace_35 rfl rfl (gB_in bg59848' (by decide) (by decide)) (fun f59882 hf59882 => ?_)
          refine G_ws (ws' := [(q59493, .inr (5, [.ref q59494, .ref q59495, .ref q59496, .ref q59497, .ref q59498, .ref q59499, .ref q59500, .ref q59501, .ref q59502, .int p59505, .int p59506, .int p59507])), (q59494, .inl (I .int, 40, .inl f59508)), (q59495, .inl (I .int, 40, .inl f59509)), (q59496, .inl (I .int, 40, .inl f59510)), (q59497, .inl (I .int, 920, .inl f59511)), (q59498, .inl (I .int, 920, .inl f59882)), (q59499, .inl (I .int, 920, .inl f59850)), (q59500, .inl (I .int, 920, .inl f59514)), (q59501, .inl (I .int, 920, .inl f59851)), (q59502, .inl (I .int, 920, .inl f59516))]) (cs' := 0) (sl' := 0) rfl rfl rfl ?_
          refine G_aload_n 1 d_cX0_replace_36 rfl ?_
          refine G_getf 0 5 d_cX0_replace_37 rfl (gk_X0 D I) (Nat.le_of_ble_eq_true rfl) w_1_168 rfl ?_
          refine G_iload_n 0 d_cX0_replace_40 rfl ?_
          refine G_aload_n 1 d_cX0_replace_41 rfl ?_
          refine G_getf 0 5 d_cX0_replace_42 rfl (gk_X0 D I) (Nat.le_of_ble_eq_true rfl) w_1_168 rfl ?_
          refine G_iload_n 0 d_cX0_replace_45 rfl ?_
          refine G_iald 6 0 d_cX0_replace_46 rfl rfl (gB_in bg59848' (by decide) (by decide)) (G_nam fun z59883 hz59883 => ?_)
          have bz59883 : gB z59883 (-2147483648) 2147483647 := by rw [hz59883]; exact bf59850 _
          refine G_iload_n 2 d_cX0_replace_47 rfl ?_
          refine G_icmp_ne 55 d_cX0_replace_48 (by decide +kernel) (fun hc59884 => ?_) (fun hc59884 => ?_)
          · have r59885 : z59883.toInt ≠ p59503.toInt := gC_ne hc59884
            refine G_aload_n 1 d_cX0_replace_55 rfl ?_
            refine G_getf 0 5 d_cX0_replace_56 rfl (gk_X0 D I) (Nat.le_of_ble_eq_true rfl) w_1_168 rfl ?_
            refine G_iload_n 0 d_cX0_replace_59 rfl ?_
            refine G_iald 6 0 d_cX0_replace_60 rfl rfl (gB_in bg59848' (by decide) (by decide)) (G_eqi (y := z59883) hz59883.symm ?_)
            refine G_iastN 6 0 d_cX0_replace_61 rfl rfl (gB_in bg59848' (by decide) (by decide)) (fun f59886 hf59886 => ?_)
            refine G_ws (ws' := [(q59493, .inr (5, [.ref q59494, .ref q59495, .ref q59496, .ref q59497, .ref q59498, .ref q59499, .ref q59500, .ref q59501, .ref q59502, .int p59505, .int p59506, .int p59507])), (q59494, .inl (I .int, 40, .inl f59508)), (q59495, .inl (I .int, 40, .inl f59509)), (q59496, .inl (I .int, 40, .inl f59510)), (q59497, .inl (I .int, 920, .inl f59511)), (q59498, .inl (I .int, 920, .inl f59882)), (q59499, .inl (I .int, 920, .inl f59886)), (q59500, .inl (I .int, 920, .inl f59514)), (q59501, .inl (I .int, 920, .inl f59851)), (q59502, .inl (I .int, 920, .inl f59516))]) (cs' := 0) (sl' := 0) rfl rfl rfl ?_
            refine G_aload_n 1 d_cX0_replace_62 rfl ?_
            refine G_getf 0 7 d_cX0_replace_63 rfl (gk_X0 D I) (Nat.le_of_ble_eq_true rfl) w_1_178 rfl ?_
            refine G_iload_n 0 d_cX0_replace_66 rfl ?_
            refine G_aload_n 1 d_cX0_replace_67 rfl ?_
            refine G_getf 0 7 d_cX0_replace_68 rfl (gk_X0 D I) (Nat.le_of_ble_eq_true rfl) w_1_178 rfl ?_
            refine G_iload_n 0 d_cX0_replace_71 rfl ?_
            refine G_iald 8 0 d_cX0_replace_72 rfl rfl (gB_in bg59848' (by decide) (by decide)) (G_nam fun z59887 hz59887 => ?_)
            have bz59887 : gB z59887 (-2147483648) 2147483647 := by rw [hz59887]; exact bf59851 _
            refine G_iload_n 2 d_cX0_replace_73 rfl ?_
            refine G_icmp_ne 81 d_cX0_replace_74 (by decide +kernel) (fun hc59888 => ?_) (fun hc59888 => ?_)
            · have r59889 : z59887.toInt ≠ p59503.toInt := gC_ne hc59888
              refine G_aload_n 1 d_cX0_replace_81 rfl ?_
              refine G_getf 0 7 d_cX0_replace_82 rfl (gk_X0 D I) (Nat.le_of_ble_eq_true rfl) w_1_178 rfl ?_
              refine G_iload_n 0 d_cX0_replace_85 rfl ?_
              refine G_iald 8 0 d_cX0_replace_86 rfl rfl (gB_in bg59848' (by decide) (by decide)) (G_eqi (y := z59887) hz59887.symm ?_)
              refine G_iastN 8 0 d_cX0_replace_87 rfl rfl (gB_in bg59848' (by decide) (by decide)) (fun f59890 hf59890 => ?_)
              refine G_ws (ws' := [(q59493, .inr (5, [.ref q59494, .ref q59495, .ref q59496, .ref q59497, .ref q59498, .ref q59499, .ref q59500, .ref q59501, .ref q59502, .int p59505, .int p59506, .int p59507])), (q59494, .inl (I .int, 40, .inl f59508)), (q59495, .inl (I .int, 40, .inl f59509)), (q59496, .inl (I .int, 40, .inl f59510)), (q59497, .inl (I .int, 920, .inl f59511)), (q59498, .inl (I .int, 920, .inl f59882)), (q59499, .inl (I .int, 920, .inl f59886)), (q59500, .inl (I .int, 920, .inl f59514)), (q59501, .inl (I .int, 920, .inl f59890)), (q59502, .inl (I .int, 920, .inl f59516))]) (cs' := 0) (sl' := 0) rfl rfl rfl ?_
              obtain ⟨z59891, hz59891⟩ : ∃ z : Int32, z = g59848 + Int32.ofInt 1 := ⟨_, rfl⟩
              have ez59891 : z59891.toInt = g59848.toInt + 1 := gI_inc hz59891 (by decide) bg59848' (by decide) (by decide)
              have bz59891 : gB z59891 1 920 := ⟨by omega, by omega⟩
              refine G_iinc (L' := [(3, .int z59891), (0, .ref q59493), (1, .int p59503), (2, .int p59504)]) z59891 0 d_cX0_replace_88 rfl hz59891.symm (Nat.le_of_ble_eq_true rfl) rfl ?_
              refine G_goto 2 d_cX0_replace_91 (by decide +kernel) ?_
              exact ih2_59851 z59891 f59882 f59886 f59890 (gB_w bz59891 (by decide) (by decide)) (gF_any f59882) (gF_any f59886) (gF_any f59890) (by omega)
            · have r59892 : z59887.toInt = p59503.toInt := gC_eq hc59888
              refine G_iload_n 3 d_cX0_replace_77 rfl ?_
              refine G_goto 87 d_cX0_replace_78 (by decide +kernel) ?_
              refine G_iastN 8 0 d_cX0_replace_87 rfl rfl (gB_in bg59848' (by decide) (by decide)) (fun f59893 hf59893 => ?_)
              refine G_ws (ws' := [(q59493, .inr (5, [.ref q59494, .ref q59495, .ref q59496, .ref q59497, .ref q59498, .ref q59499, .ref q59500, .ref q59501, .ref q59502, .int p59505, .int p59506, .int p59507])), (q59494, .inl (I .int, 40, .inl f59508)), (q59495, .inl (I .int, 40, .inl f59509)), (q59496, .inl (I .int, 40, .inl f59510)), (q59497, .inl (I .int, 920, .inl f59511)), (q59498, .inl (I .int, 920, .inl f59882)), (q59499, .inl (I .int, 920, .inl f59886)), (q59500, .inl (I .int, 920, .inl f59514)), (q59501, .inl (I .int, 920, .inl f59893)), (q59502, .inl (I .int, 920, .inl f59516))]) (cs' := 0) (sl' := 0) rfl rfl rfl ?_
              obtain ⟨z59894, hz59894⟩ : ∃ z : Int32, z = g59848 + Int32.ofInt 1 := ⟨_, rfl⟩
              have ez59894 : z59894.toInt = g59848.toInt + 1 := gI_inc hz59894 (by decide) bg59848' (by decide) (by decide)
              have bz59894 : gB z59894 1 920 := ⟨by omega, by omega⟩
              refine G_iinc (L' := [(3, .int z59894), (0, .ref q59493), (1, .int p59503), (2, .int p59504)]) z59894 0 d_cX0_replace_88 rfl hz59894.symm (Nat.le_of_ble_eq_true rfl) rfl ?_
              refine G_goto 2 d_cX0_replace_91 (by decide +kernel) ?_
              exact ih2_59851 z59894 f59882 f59886 f59893 (gB_w bz59894 (by decide) (by decide)) (gF_any f59882) (gF_any f59886) (gF_any f59893) (by omega)
          · have r59895 : z59883.toInt = p59503.toInt := gC_eq hc59884
            refine G_iload_n 3 d_cX0_replace_51 rfl ?_
            refine G_goto 61 d_cX0_replace_52 (by decide +kernel) ?_
            refine G_iastN 6 0 d_cX0_replace_61 rfl rfl (gB_in bg59848' (by decide) (by decide)) (fun f59896 hf59896 => ?_)
            refine G_ws (ws' := [(q59493, .inr (5, [.ref q59494, .ref q59495, .ref q59496, .ref q59497, .ref q59498, .ref q59499, .ref q59500, .ref q59501, .ref q59502, .int p59505, .int p59506, .int p59507])), (q59494, .inl (I .int, 40, .inl f59508)), (q59495, .inl (I .int, 40, .inl f59509)), (q59496, .inl (I .int, 40, .inl f59510)), (q59497, .inl (I .int, 920, .inl f59511)), (q59498, .inl (I .int, 920, .inl f59882)), (q59499, .inl (I .int, 920, .inl f59896)), (q59500, .inl (I .int, 920, .inl f59514)), (q59501, .inl (I .int, 920, .inl f59851)), (q59502, .inl (I .int, 920, .inl f59516))]) (cs' := 0) (sl' := 0) rfl rfl rfl ?_
            refine G_aload_n 1 d_cX0_replace_62 rfl ?_
            refine G_getf 0 7 d_cX0_replace_63 rfl (gk_X0 D I) (Nat.le_of_ble_eq_true rfl) w_1_178 rfl ?_
            refine G_iload_n 0 d_cX0_replace_66 rfl ?_
            refine G_aload_n 1 d_cX0_replace_67 rfl ?_
            refine G_getf 0 7 d_cX0_replace_68 rfl (gk_X0 D I) (Nat.le_of_ble_eq_true rfl) w_1_178 rfl ?_
            refine G_iload_n 0 d_cX0_replace_71 rfl ?_
            refine G_iald 8 0 d_cX0_replace_72 rfl rfl (gB_in bg59848' (by decide) (by decide)) (G_nam fun z59897 hz59897 => ?_)
            have bz59897 : gB z59897 (-2147483648) 2147483647 := by rw [hz59897]; exact bf59851 _
            refine G_iload_n 2 d_cX0_replace_73 rfl ?_
            refine G_icmp_ne 81 d_cX0_replace_74 (by decide +kernel) (fun hc59898 => ?_) (fun hc59898 => ?_)
            · have r59899 : z59897.toInt ≠ p59503.toInt := gC_ne hc59898
              refine G_aload_n 1 d_cX0_replace_81 rfl ?_
              refine G_getf 0 7 d_cX0_replace_82 rfl (gk_X0 D I) (Nat.le_of_ble_eq_true rfl) w_1_178 rfl ?_
              refine G_iload_n 0 d_cX0_replace_85 rfl ?_
              refine G_iald 8 0 d_cX0_replace_86 rfl rfl (gB_in bg59848' (by decide) (by decide)) (G_eqi (y := z59897) hz59897.symm ?_)
              refine G_iastN 8 0 d_cX0_replace_87 rfl rfl (gB_in bg59848' (by decide) (by decide)) (fun f59900 hf59900 => ?_)
              refine G_ws (ws' := [(q59493, .inr (5, [.ref q59494, .ref q59495, .ref q59496, .ref q59497, .ref q59498, .ref q59499, .ref q59500, .ref q59501, .ref q59502, .int p59505, .int p59506, .int p59507])), (q59494, .inl (I .int, 40, .inl f59508)), (q59495, .inl (I .int, 40, .inl f59509)), (q59496, .inl (I .int, 40, .inl f59510)), (q59497, .inl (I .int, 920, .inl f59511)), (q59498, .inl (I .int, 920, .inl f59882)), (q59499, .inl (I .int, 920, .inl f59896)), (q59500, .inl (I .int, 920, .inl f59514)), (q59501, .inl (I .int, 920, .inl f59900)), (q59502, .inl (I .int, 920, .inl f59516))]) (cs' := 0) (sl' := 0) rfl rfl rfl ?_
              obtain ⟨z59901, hz59901⟩ : ∃ z : Int32, z = g59848 + Int32.ofInt 1 := ⟨_, rfl⟩
              have ez59901 : z59901.toInt = g59848.toInt + 1 := gI_inc hz59901 (by decide) bg59848' (by decide) (by decide)
              have bz59901 : gB z59901 1 920 := ⟨by omega, by omega⟩
              refine G_iinc (L' := [(3, .int z59901), (0, .ref q59493), (1, .int p59503), (2, .int p59504)]) z59901 0 d_cX0_replace_88 rfl hz59901.symm (Nat.le_of_ble_eq_true rfl) rfl ?_
              refine G_goto 2 d_cX0_replace_91 (by decide +kernel) ?_
              exact ih2_59851 z59901 f59882 f59896 f59900 (gB_w bz59901 (by decide) (by decide)) (gF_any f59882) (gF_any f59896) (gF_any f59900) (by omega)
            · have r59902 : z59897.toInt = p59503.toInt := gC_eq hc59898
              refine G_iload_n 3 d_cX0_replace_77 rfl ?_
              refine G_goto 87 d_cX0_replace_78 (by decide +kernel) ?_
              refine G_iastN 8 0 d_cX0_replace_87 rfl rfl (gB_in bg59848' (by decide) (by decide)) (fun f59903 hf59903 => ?_)
              refine G_ws (ws' := [(q59493, .inr (5, [.ref q59494, .ref q59495, .ref q59496, .ref q59497, .ref q59498, .ref q59499, .ref q59500, .ref q59501, .ref q59502, .int p59505, .int p59506, .int p59507])), (q59494, .inl (I .int, 40, .inl f59508)), (q59495, .inl (I .int, 40, .inl f59509)), (q59496, .inl (I .int, 40, .inl f59510)), (q59497, .inl (I .int, 920, .inl f59511)), (q59498, .inl (I .int, 920, .inl f59882)), (q59499, .inl (I .int, 920, .inl f59896)), (q59500, .inl (I .int, 920, .inl f59514)), (q59501, .inl (I .int, 920, .inl f59903)), (q59502, .inl (I .int, 920, .inl f59516))]) (cs' := 0) (sl' := 0) rfl rfl rfl ?_
              obtain ⟨z59904, hz59904⟩ : ∃ z : Int32, z = g59848 + Int32.ofInt 1 := ⟨_, rfl⟩
              have ez59904 : z59904.toInt = g59848.toInt + 1 := gI_inc hz59904 (by decide) bg59848' (by decide) (by decide)
              have bz59904 : gB z59904 1 920 := ⟨by omega, by omega⟩
              refine G_iinc (L' := [(3, .int z59904), (0, .ref q59493), (1, .int p59503), (2, .int p59504)]) z59904 0 d_cX0_replace_88 rfl hz59904.symm (Nat.le_of_ble_eq_true rfl) rfl ?_
              refine G_goto 2 d_cX0_replace_91 (by decide +kernel) ?_
              exact ih2_59851 z59904 f59882 f59896 f59903 (gB_w bz59904 (by decide) (by decide)) (gF_any f59882) (gF_any f59896) (gF_any f59903) (by omega)
  exact hlp2_59851 (((921 : Int) - 0).toNat + 1) 0 f59512 f59513 f59515 (gB_w (gBl (show Int32.toInt 0 = 0 by decide)) (by decide) (by decide)) (gF_any f59512) (gF_any f59513) (gF_any f59515) (Nat.lt_succ_self _)
