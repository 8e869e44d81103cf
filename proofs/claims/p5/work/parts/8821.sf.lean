theorem d_cX2_nextToMerge_0 : decode cX2_nextToMerge 0 = .ok (.iconst 0, 1) := by decide +kernel
theorem d_cX2_nextToMerge_1 : decode cX2_nextToMerge 1 = .ok (.istore_n 2, 1) := by decide +kernel
theorem d_cX2_nextToMerge_2 : decode cX2_nextToMerge 2 = .ok (.iload_n 2, 1) := by decide +kernel
theorem d_cX2_nextToMerge_3 : decode cX2_nextToMerge 3 = .ok (.aload_n 0, 1) := by decide +kernel
theorem d_cX2_nextToMerge_4 : decode cX2_nextToMerge 4 = .ok (.getfield 48, 3) := by decide +kernel
theorem d_cX2_nextToMerge_7 : decode cX2_nextToMerge 7 = .ok (.getfield 73, 3) := by decide +kernel
theorem d_cX2_nextToMerge_10 : decode cX2_nextToMerge 10 = .ok (.if_icmp .ge 48, 3) := by decide +kernel
theorem d_cX2_nextToMerge_58 : decode cX2_nextToMerge 58 = .ok (.iconst (-1), 1) := by decide +kernel
theorem d_cX2_nextToMerge_59 : decode cX2_nextToMerge 59 = .ok (.ireturn, 1) := by decide +kernel
theorem d_cX2_nextToMerge_13 : decode cX2_nextToMerge 13 = .ok (.aload_n 0, 1) := by decide +kernel
theorem d_cX2_nextToMerge_14 : decode cX2_nextToMerge 14 = .ok (.getfield 48, 3) := by decide +kernel
theorem d_cX2_nextToMerge_17 : decode cX2_nextToMerge 17 = .ok (.iload_n 2, 1) := by decide +kernel
theorem d_cX2_nextToMerge_18 : decode cX2_nextToMerge 18 = .ok (.invokevirtual 220, 3) := by decide +kernel
theorem w_5_92 : (Jvm.Cond.methodLink "SpillForge$Giver" (220 : Nat) ({ cls := "SpillForge$Code", name := "copiesRegister", desc := "(I)Z" } : Jvm.MethodName)) ∈ gw := gw_5 92 rfl rfl
theorem d_cX2_nextToMerge_21 : decode cX2_nextToMerge 21 = .ok (.ifCond .eq 31, 3) := by decide +kernel
theorem d_cX2_nextToMerge_52 : decode cX2_nextToMerge 52 = .ok (.iinc 2 1, 3) := by decide +kernel
theorem d_cX2_nextToMerge_55 : decode cX2_nextToMerge 55 = .ok (.goto (-53), 3) := by decide +kernel
theorem d_cX2_nextToMerge_24 : decode cX2_nextToMerge 24 = .ok (.aload_n 0, 1) := by decide +kernel
theorem d_cX2_nextToMerge_25 : decode cX2_nextToMerge 25 = .ok (.aload_n 0, 1) := by decide +kernel
theorem d_cX2_nextToMerge_26 : decode cX2_nextToMerge 26 = .ok (.getfield 48, 3) := by decide +kernel
theorem d_cX2_nextToMerge_29 : decode cX2_nextToMerge 29 = .ok (.getfield 76, 3) := by decide +kernel
theorem d_cX2_nextToMerge_32 : decode cX2_nextToMerge 32 = .ok (.iload_n 2, 1) := by decide +kernel
theorem d_cX2_nextToMerge_33 : decode cX2_nextToMerge 33 = .ok (.iaload, 1) := by decide +kernel
theorem d_cX2_nextToMerge_34 : decode cX2_nextToMerge 34 = .ok (.aload_n 0, 1) := by decide +kernel
theorem d_cX2_nextToMerge_35 : decode cX2_nextToMerge 35 = .ok (.getfield 48, 3) := by decide +kernel
theorem d_cX2_nextToMerge_38 : decode cX2_nextToMerge 38 = .ok (.getfield 83, 3) := by decide +kernel
theorem d_cX2_nextToMerge_41 : decode cX2_nextToMerge 41 = .ok (.iload_n 2, 1) := by decide +kernel
theorem d_cX2_nextToMerge_42 : decode cX2_nextToMerge 42 = .ok (.iaload, 1) := by decide +kernel
theorem d_cX2_nextToMerge_43 : decode cX2_nextToMerge 43 = .ok (.iload_n 1, 1) := by decide +kernel
theorem d_cX2_nextToMerge_44 : decode cX2_nextToMerge 44 = .ok (.invokevirtual 223, 3) := by decide +kernel
theorem w_5_93 : (Jvm.Cond.methodLink "SpillForge$Giver" (223 : Nat) ({ cls := "SpillForge$Giver", name := "canMerge", desc := "(III)Z" } : Jvm.MethodName)) ∈ gw := gw_5 93 rfl rfl
theorem w_5_96 : (Jvm.Cond.code ({ cls := "SpillForge$Giver", name := "canMerge", desc := "(III)Z" } : Jvm.MethodName) prog_4_method_19_code (4 : Nat) (Option.some Jvm.ClassFile.FieldType.boolean)) ∈ gw := gw_5 96 rfl rfl
theorem w_5_95 : (Jvm.Cond.instanceMethod ({ cls := "SpillForge$Giver", name := "canMerge", desc := "(III)Z" } : Jvm.MethodName)) ∈ gw := gw_5 95 rfl rfl
theorem w_p_42 : Cond.selects "SpillForge$Giver" ⟨"SpillForge$Giver", "canMerge", "(III)Z"⟩ ⟨"SpillForge$Giver", "canMerge", "(III)Z"⟩ ∈ gw := gw_p _ 42 rfl rfl rfl
theorem d_cX2_nextToMerge_47 : decode cX2_nextToMerge 47 = .ok (.ifCond .eq 5, 3) := by decide +kernel
theorem d_cX2_nextToMerge_50 : decode cX2_nextToMerge 50 = .ok (.iload_n 2, 1) := by decide +kernel
theorem d_cX2_nextToMerge_51 : decode cX2_nextToMerge 51 = .ok (.ireturn, 1) := by decide +kernel
theorem d_cX0_drop_0 : decode cX0_drop 0 = .ok (.aload_n 0, 1) := by decide +kernel
theorem d_cX0_drop_1 : decode cX0_drop 1 = .ok (.getfield 49, 3) := by decide +kernel
theorem d_cX0_drop_4 : decode cX0_drop 4 = .ok (.iload_n 1, 1) := by decide +kernel
theorem d_cX0_drop_5 : decode cX0_drop 5 = .ok (.isub, 1) := by decide +kernel
theorem d_cX0_drop_6 : decode cX0_drop 6 = .ok (.iconst 1, 1) := by decide +kernel
theorem d_cX0_drop_7 : decode cX0_drop 7 = .ok (.isub, 1) := by decide +kernel
theorem d_cX0_drop_8 : decode cX0_drop 8 = .ok (.istore_n 2, 1) := by decide +kernel
theorem d_cX0_drop_9 : decode cX0_drop 9 = .ok (.iload_n 1, 1) := by decide +kernel
theorem d_cX0_drop_10 : decode cX0_drop 10 = .ok (.ifCond .lt 7, 3) := by decide +kernel
theorem d_cX0_drop_13 : decode cX0_drop 13 = .ok (.iload_n 2, 1) := by decide +kernel
theorem d_cX0_drop_14 : decode cX0_drop 14 = .ok (.ifCond .ge 4, 3) := by decide +kernel
theorem d_cX0_drop_18 : decode cX0_drop 18 = .ok (.aload_n 0, 1) := by decide +kernel
theorem d_cX0_drop_19 : decode cX0_drop 19 = .ok (.getfield 27, 3) := by decide +kernel
theorem d_cX0_drop_22 : decode cX0_drop 22 = .ok (.iload_n 1, 1) := by decide +kernel
theorem d_cX0_drop_23 : decode cX0_drop 23 = .ok (.iconst 1, 1) := by decide +kernel
theorem d_cX0_drop_24 : decode cX0_drop 24 = .ok (.iadd, 1) := by decide +kernel
theorem d_cX0_drop_25 : decode cX0_drop 25 = .ok (.aload_n 0, 1) := by decide +kernel
theorem d_cX0_drop_26 : decode cX0_drop 26 = .ok (.getfield 27, 3) := by decide +kernel
theorem d_cX0_drop_29 : decode cX0_drop 29 = .ok (.iload_n 1, 1) := by decide +kernel
theorem d_cX0_drop_30 : decode cX0_drop 30 = .ok (.iload_n 2, 1) := by decide +kernel
theorem d_cX0_drop_31 : decode cX0_drop 31 = .ok (.invokestatic 64, 3) := by decide +kernel
theorem w_5_111 : (Jvm.Cond.methodLink "SpillForge$Code" (64 : Nat) ({ cls := "java/lang/System", name := "arraycopy", desc := "(Ljava/lang/Object;ILjava/lang/Object;II)V" } : Jvm.MethodName)) ∈ gw := gw_5 111 rfl rfl
theorem w_5_113 : (Jvm.Cond.native ({ cls := "java/lang/System", name := "arraycopy", desc := "(Ljava/lang/Object;ILjava/lang/Object;II)V" } : Jvm.MethodName)) ∈ gw := gw_5 113 rfl rfl
theorem w_5_112 : (Jvm.Cond.static ({ cls := "java/lang/System", name := "arraycopy", desc := "(Ljava/lang/Object;ILjava/lang/Object;II)V" } : Jvm.MethodName)) ∈ gw := gw_5 112 rfl rfl
theorem w_1_34 : (Jvm.Cond.initialized "java/lang/System") ∈ gw := gw_1 34 rfl rfl
theorem d_cX0_drop_34 : decode cX0_drop 34 = .ok (.aload_n 0, 1) := by decide +kernel
theorem d_cX0_drop_35 : decode cX0_drop 35 = .ok (.getfield 30, 3) := by decide +kernel
theorem d_cX0_drop_38 : decode cX0_drop 38 = .ok (.iload_n 1, 1) := by decide +kernel
theorem d_cX0_drop_39 : decode cX0_drop 39 = .ok (.iconst 1, 1) := by decide +kernel
theorem d_cX0_drop_40 : decode cX0_drop 40 = .ok (.iadd, 1) := by decide +kernel
theorem d_cX0_drop_41 : decode cX0_drop 41 = .ok (.aload_n 0, 1) := by decide +kernel
theorem d_cX0_drop_42 : decode cX0_drop 42 = .ok (.getfield 30, 3) := by decide +kernel
theorem d_cX0_drop_45 : decode cX0_drop 45 = .ok (.iload_n 1, 1) := by decide +kernel
theorem d_cX0_drop_46 : decode cX0_drop 46 = .ok (.iload_n 2, 1) := by decide +kernel
theorem d_cX0_drop_47 : decode cX0_drop 47 = .ok (.invokestatic 64, 3) := by decide +kernel
theorem d_cX0_drop_50 : decode cX0_drop 50 = .ok (.aload_n 0, 1) := by decide +kernel
theorem d_cX0_drop_51 : decode cX0_drop 51 = .ok (.getfield 33, 3) := by decide +kernel
theorem d_cX0_drop_54 : decode cX0_drop 54 = .ok (.iload_n 1, 1) := by decide +kernel
theorem d_cX0_drop_55 : decode cX0_drop 55 = .ok (.iconst 1, 1) := by decide +kernel
theorem d_cX0_drop_56 : decode cX0_drop 56 = .ok (.iadd, 1) := by decide +kernel
theorem d_cX0_drop_57 : decode cX0_drop 57 = .ok (.aload_n 0, 1) := by decide +kernel
theorem d_cX0_drop_58 : decode cX0_drop 58 = .ok (.getfield 33, 3) := by decide +kernel
theorem d_cX0_drop_61 : decode cX0_drop 61 = .ok (.iload_n 1, 1) := by decide +kernel
theorem d_cX0_drop_62 : decode cX0_drop 62 = .ok (.iload_n 2, 1) := by decide +kernel
theorem d_cX0_drop_63 : decode cX0_drop 63 = .ok (.invokestatic 64, 3) := by decide +kernel
theorem d_cX0_drop_66 : decode cX0_drop 66 = .ok (.aload_n 0, 1) := by decide +kernel
theorem d_cX0_drop_67 : decode cX0_drop 67 = .ok (.getfield 36, 3) := by decide +kernel
theorem d_cX0_drop_70 : decode cX0_drop 70 = .ok (.iload_n 1, 1) := by decide +kernel
theorem d_cX0_drop_71 : decode cX0_drop 71 = .ok (.iconst 1, 1) := by decide +kernel
theorem d_cX0_drop_72 : decode cX0_drop 72 = .ok (.iadd, 1) := by decide +kernel
theorem d_cX0_drop_73 : decode cX0_drop 73 = .ok (.aload_n 0, 1) := by decide +kernel
theorem d_cX0_drop_74 : decode cX0_drop 74 = .ok (.getfield 36, 3) := by decide +kernel
theorem d_cX0_drop_77 : decode cX0_drop 77 = .ok (.iload_n 1, 1) := by decide +kernel
theorem d_cX0_drop_78 : decode cX0_drop 78 = .ok (.iload_n 2, 1) := by decide +kernel
theorem d_cX0_drop_79 : decode cX0_drop 79 = .ok (.invokestatic 64, 3) := by decide +kernel
theorem d_cX0_drop_82 : decode cX0_drop 82 = .ok (.aload_n 0, 1) := by decide +kernel
theorem d_cX0_drop_83 : decode cX0_drop 83 = .ok (.getfield 39, 3) := by decide +kernel
theorem d_cX0_drop_86 : decode cX0_drop 86 = .ok (.iload_n 1, 1) := by decide +kernel
theorem d_cX0_drop_87 : decode cX0_drop 87 = .ok (.iconst 1, 1) := by decide +kernel
theorem d_cX0_drop_88 : decode cX0_drop 88 = .ok (.iadd, 1) := by decide +kernel
theorem d_cX0_drop_89 : decode cX0_drop 89 = .ok (.aload_n 0, 1) := by decide +kernel
theorem d_cX0_drop_90 : decode cX0_drop 90 = .ok (.getfield 39, 3) := by decide +kernel
theorem d_cX0_drop_93 : decode cX0_drop 93 = .ok (.iload_n 1, 1) := by decide +kernel
theorem d_cX0_drop_94 : decode cX0_drop 94 = .ok (.iload_n 2, 1) := by decide +kernel
theorem d_cX0_drop_95 : decode cX0_drop 95 = .ok (.invokestatic 64, 3) := by decide +kernel
theorem d_cX0_drop_98 : decode cX0_drop 98 = .ok (.aload_n 0, 1) := by decide +kernel
theorem d_cX0_drop_99 : decode cX0_drop 99 = .ok (.getfield 42, 3) := by decide +kernel
theorem d_cX0_drop_102 : decode cX0_drop 102 = .ok (.iload_n 1, 1) := by decide +kernel
theorem d_cX0_drop_103 : decode cX0_drop 103 = .ok (.iconst 1, 1) := by decide +kernel
theorem d_cX0_drop_104 : decode cX0_drop 104 = .ok (.iadd, 1) := by decide +kernel
theorem d_cX0_drop_105 : decode cX0_drop 105 = .ok (.aload_n 0, 1) := by decide +kernel
theorem d_cX0_drop_106 : decode cX0_drop 106 = .ok (.getfield 42, 3) := by decide +kernel
theorem d_cX0_drop_109 : decode cX0_drop 109 = .ok (.iload_n 1, 1) := by decide +kernel
theorem d_cX0_drop_110 : decode cX0_drop 110 = .ok (.iload_n 2, 1) := by decide +kernel
theorem d_cX0_drop_111 : decode cX0_drop 111 = .ok (.invokestatic 64, 3) := by decide +kernel
theorem d_cX0_drop_114 : decode cX0_drop 114 = .ok (.aload_n 0, 1) := by decide +kernel
theorem d_cX0_drop_115 : decode cX0_drop 115 = .ok (.dup, 1) := by decide +kernel
theorem d_cX0_drop_116 : decode cX0_drop 116 = .ok (.getfield 49, 3) := by decide +kernel
theorem d_cX0_drop_119 : decode cX0_drop 119 = .ok (.iconst 1, 1) := by decide +kernel
theorem d_cX0_drop_120 : decode cX0_drop 120 = .ok (.isub, 1) := by decide +kernel
theorem d_cX0_drop_121 : decode cX0_drop 121 = .ok (.putfield 49, 3) := by decide +kernel
theorem d_cX0_drop_124 : decode cX0_drop 124 = .ok (.iconst 0, 1) := by decide +kernel
theorem d_cX0_drop_125 : decode cX0_drop 125 = .ok (.istore_n 3, 1) := by decide +kernel
theorem d_cX0_drop_126 : decode cX0_drop 126 = .ok (.iload_n 3, 1) := by decide +kernel
theorem d_cX0_drop_127 : decode cX0_drop 127 = .ok (.aload_n 0, 1) := by decide +kernel
theorem d_cX0_drop_128 : decode cX0_drop 128 = .ok (.getfield 45, 3) := by decide +kernel
theorem d_cX0_drop_131 : decode cX0_drop 131 = .ok (.if_icmp .ge 29, 3) := by decide +kernel
theorem d_cX0_drop_160 : decode cX0_drop 160 = .ok (.return_, 1) := by decide +kernel
theorem d_cX0_drop_134 : decode cX0_drop 134 = .ok (.aload_n 0, 1) := by decide +kernel
theorem d_cX0_drop_135 : decode cX0_drop 135 = .ok (.getfield 9, 3) := by decide +kernel
theorem d_cX0_drop_138 : decode cX0_drop 138 = .ok (.iload_n 3, 1) := by decide +kernel
theorem d_cX0_drop_139 : decode cX0_drop 139 = .ok (.iaload, 1) := by decide +kernel
theorem d_cX0_drop_140 : decode cX0_drop 140 = .ok (.iload_n 1, 1) := by decide +kernel
theorem d_cX0_drop_141 : decode cX0_drop 141 = .ok (.if_icmp .le 13, 3) := by decide +kernel
theorem d_cX0_drop_154 : decode cX0_drop 154 = .ok (.iinc 3 1, 3) := by decide +kernel
theorem d_cX0_drop_157 : decode cX0_drop 157 = .ok (.goto (-31), 3) := by decide +kernel
theorem d_cX0_drop_144 : decode cX0_drop 144 = .ok (.aload_n 0, 1) := by decide +kernel
theorem d_cX0_drop_145 : decode cX0_drop 145 = .ok (.getfield 9, 3) := by decide +kernel
theorem d_cX0_drop_148 : decode cX0_drop 148 = .ok (.iload_n 3, 1) := by decide +kernel
theorem d_cX0_drop_149 : decode cX0_drop 149 = .ok (.dup2, 1) := by decide +kernel
theorem d_cX0_drop_150 : decode cX0_drop 150 = .ok (.iaload, 1) := by decide +kernel
theorem d_cX0_drop_151 : decode cX0_drop 151 = .ok (.iconst 1, 1) := by decide +kernel
theorem d_cX0_drop_152 : decode cX0_drop 152 = .ok (.isub, 1) := by decide +kernel
theorem d_cX0_drop_153 : decode cX0_drop 153 = .ok (.iastore, 1) := by decide +kernel
theorem d_cX0_drop_17 : decode cX0_drop 17 = .ok (.return_, 1) := by decide +kernel
theorem d_cX0_replace_0 : decode cX0_replace 0 = .ok (.iconst 0, 1) := by decide +kernel
theorem d_cX0_replace_1 : decode cX0_replace 1 = .ok (.istore_n 3, 1) := by decide +kernel
theorem d_cX0_replace_2 : decode cX0_replace 2 = .ok (.iload_n 3, 1) := by decide +kernel
theorem d_cX0_replace_3 : decode cX0_replace 3 = .ok (.aload_n 0, 1) := by decide +kernel
theorem d_cX0_replace_4 : decode cX0_replace 4 = .ok (.getfield 49, 3) := by decide +kernel
theorem d_cX0_replace_7 : decode cX0_replace 7 = .ok (.if_icmp .ge 87, 3) := by decide +kernel
theorem d_cX0_replace_94 : decode cX0_replace 94 = .ok (.return_, 1) := by decide +kernel
theorem d_cX0_replace_10 : decode cX0_replace 10 = .ok (.aload_n 0, 1) := by decide +kernel
theorem d_cX0_replace_11 : decode cX0_replace 11 = .ok (.getfield 30, 3) := by decide +kernel
theorem d_cX0_replace_14 : decode cX0_replace 14 = .ok (.iload_n 3, 1) := by decide +kernel
theorem d_cX0_replace_15 : decode cX0_replace 15 = .ok (.aload_n 0, 1) := by decide +kernel
theorem d_cX0_replace_16 : decode cX0_replace 16 = .ok (.getfield 30, 3) := by decide +kernel
theorem d_cX0_replace_19 : decode cX0_replace 19 = .ok (.iload_n 3, 1) := by decide +kernel
theorem d_cX0_replace_20 : decode cX0_replace 20 = .ok (.iaload, 1) := by decide +kernel
theorem d_cX0_replace_21 : decode cX0_replace 21 = .ok (.iload_n 1, 1) := by decide +kernel
theorem d_cX0_replace_22 : decode cX0_replace 22 = .ok (.if_icmp .ne 7, 3) := by decide +kernel
theorem d_cX0_replace_29 : decode cX0_replace 29 = .ok (.aload_n 0, 1) := by decide +kernel
theorem d_cX0_replace_30 : decode cX0_replace 30 = .ok (.getfield 30, 3) := by decide +kernel
theorem d_cX0_replace_33 : decode cX0_replace 33 = .ok (.iload_n 3, 1) := by decide +kernel
theorem d_cX0_replace_34 : decode cX0_replace 34 = .ok (.iaload, 1) := by decide +kernel
theorem d_cX0_replace_35 : decode cX0_replace 35 = .ok (.iastore, 1) := by decide +kernel
theorem d_cX0_replace_36 : decode cX0_replace 36 = .ok (.aload_n 0, 1) := by decide +kernel
theorem d_cX0_replace_37 : decode cX0_replace 37 = .ok (.getfield 33, 3) := by decide +kernel
theorem d_cX0_replace_40 : decode cX0_replace 40 = .ok (.iload_n 3, 1) := by decide +kernel
theorem d_cX0_replace_41 : decode cX0_replace 41 = .ok (.aload_n 0, 1) := by decide +kernel
theorem d_cX0_replace_42 : decode cX0_replace 42 = .ok (.getfield 33, 3) := by decide +kernel
theorem d_cX0_replace_45 : decode cX0_replace 45 = .ok (.iload_n 3, 1) := by decide +kernel
theorem d_cX0_replace_46 : decode cX0_replace 46 = .ok (.iaload, 1) := by decide +kernel
theorem d_cX0_replace_47 : decode cX0_replace 47 = .ok (.iload_n 1, 1) := by decide +kernel
theorem d_cX0_replace_48 : decode cX0_replace 48 = .ok (.if_icmp .ne 7, 3) := by decide +kernel
theorem d_cX0_replace_55 : decode cX0_replace 55 = .ok (.aload_n 0, 1) := by decide +kernel
theorem d_cX0_replace_56 : decode cX0_replace 56 = .ok (.getfield 33, 3) := by decide +kernel
theorem d_cX0_replace_59 : decode cX0_replace 59 = .ok (.iload_n 3, 1) := by decide +kernel
theorem d_cX0_replace_60 : decode cX0_replace 60 = .ok (.iaload, 1) := by decide +kernel
theorem d_cX0_replace_61 : decode cX0_replace 61 = .ok (.iastore, 1) := by decide +kernel
theorem d_cX0_replace_62 : decode cX0_replace 62 = .ok (.aload_n 0, 1) := by decide +kernel
theorem d_cX0_replace_63 : decode cX0_replace 63 = .ok (.getfield 39, 3) := by decide +kernel
theorem d_cX0_replace_66 : decode cX0_replace 66 = .ok (.iload_n 3, 1) := by decide +kernel
theorem d_cX0_replace_67 : decode cX0_replace 67 = .ok (.aload_n 0, 1) := by decide +kernel
theorem d_cX0_replace_68 : decode cX0_replace 68 = .ok (.getfield 39, 3) := by decide +kernel
theorem d_cX0_replace_71 : decode cX0_replace 71 = .ok (.iload_n 3, 1) := by decide +kernel
theorem d_cX0_replace_72 : decode cX0_replace 72 = .ok (.iaload, 1) := by decide +kernel
theorem d_cX0_replace_73 : decode cX0_replace 73 = .ok (.iload_n 1, 1) := by decide +kernel
theorem d_cX0_replace_74 : decode cX0_replace 74 = .ok (.if_icmp .ne 7, 3) := by decide +kernel
theorem d_cX0_replace_81 : decode cX0_replace 81 = .ok (.aload_n 0, 1) := by decide +kernel
theorem d_cX0_replace_82 : decode cX0_replace 82 = .ok (.getfield 39, 3) := by decide +kernel
theorem d_cX0_replace_85 : decode cX0_replace 85 = .ok (.iload_n 3, 1) := by decide +kernel
theorem d_cX0_replace_86 : decode cX0_replace 86 = .ok (.iaload, 1) := by decide +kernel
theorem d_cX0_replace_87 : decode cX0_replace 87 = .ok (.iastore, 1) := by decide +kernel
theorem d_cX0_replace_88 : decode cX0_replace 88 = .ok (.iinc 3 1, 3) := by decide +kernel
theorem d_cX0_replace_91 : decode cX0_replace 91 = .ok (.goto (-89), 3) := by decide +kernel
theorem d_cX0_replace_77 : decode cX0_replace 77 = .ok (.iload_n 2, 1) := by decide +kernel
theorem d_cX0_replace_78 : decode cX0_replace 78 = .ok (.goto 9, 3) := by decide +kernel
theorem d_cX0_replace_51 : decode cX0_replace 51 = .ok (.iload_n 2, 1) := by decide +kernel
theorem d_cX0_replace_52 : decode cX0_replace 52 = .ok (.goto 9, 3) := by decide +kernel
theorem d_cX0_replace_25 : decode cX0_replace 25 = .ok (.iload_n 2, 1) := by decide +kernel
theorem d_cX0_replace_26 : decode cX0_replace 26 = .ok (.goto 9, 3) := by decide +kernel
abbrev ky_57312_Giver_nextToMerge : gKey := (cX2_nextToMerge, 3, yX2_nextToMerge.cls, (some FieldType.int), [], yX2_nextToMerge.name, fun _ _ => True)
abbrev po_57312_Giver_nextToMerge (I : FieldType → ClassId) (q57205 : Nat) (q57206 : Nat) (q57207 : Nat) (q57208 : Nat) (q57209 : Nat) (q57210 : Nat) (q57211 : Nat) (q57212 : Nat) (q57213 : Nat) (q57214 : Nat) (q57215 : Nat) (q57216 : Nat) (q57217 : Nat) (q57218 : Nat) (q57219 : Nat) (q57220 : Nat) (q57221 : Nat) (q57222 : Nat) (q57223 : Nat) (q57224 : Nat) (q57225 : Nat) (q57226 : Nat) (q57227 : Nat) (q57228 : Nat) (q57229 : Nat) (q57230 : Nat) (q57231 : Nat) (q57232 : Nat) (q57233 : Nat) (q57234 : Nat) (q57235 : Nat) (q57236 : Nat) (q57237 : Nat) (q57238 : Nat) (q57239 : Nat) (q57240 : Nat) (q57241 : Nat) (q57242 : Nat) (q57243 : Nat) (q57244 : Nat) (q57245 : Nat) (q57246 : Nat) (q57247 : Nat) (q57248 : Nat) (q57249 : Nat) (p57250 : Int32) (p57251 : Int32) (p57252 : Int32) (p57253 : Int32) (p57254 : Int32) (p57255 : Int32) (p57256 : Int32) (p57257 : Int32) (p57258 : Int32) (p57259 : Int32) (p57260 : Int32) (f57261 : Nat → Int32) (f57262 : Nat → Int32) (f57263 : Nat → Int32) (f57264 : Nat → Int32) (f57265 : Nat → Int32) (p57266 : Int32) (p57267 : Int32) (p57268 : Int32) (p57269 : Int32) (p57270 : Int32) (p57271 : Int32) (f57272 : Nat → Int64) (f57273 : Nat → Int64) (f57274 : Nat → Int32) (p57275 : Int32) (p57276 : Int32) (p57277 : Int32) (f57278 : Nat → Int64) (f57279 : Nat → Int64) (f57280 : Nat → Int32) (f57281 : Nat → Int32) (f57282 : Nat → Int32) (f57283 : Nat → Int32) (f57284 : Nat → Int32) (f57285 : Nat → Int32) (f57286 : Nat → Int32) (f57287 : Nat → Int32) (f57288 : Nat → Int32) (f57289 : Nat → Int32) (f57290 : Nat → Int32) (f57291 : Nat → Int32) (f57292 : Nat → Int32) (f57293 : Nat → Int32) (f57294 : Nat → Int32) (f57295 : Nat → Int32) (f57296 : Nat → Int32) (f57297 : Nat → Int32) (f57298 : Nat → Int32) (f57299 : Nat → Int32) (f57300 : Nat → Int32) (f57301 : Nat → Int32) (f57302 : Nat → Int32) (f57303 : Nat → Int32) (f57304 : Nat → Int64) (f57305 : Nat → Int64) (f57306 : Nat → Int64) (f57307 : Nat → Int64) : Option Value → va_W → Prop := fun r w => ∃ (o59344 : Int32), r = some (.int o59344) ∧ w = [(q57205, .inr (7, [.ref q57206, .ref q57207, .ref q57208, .ref q57209, .ref q57210, .ref q57211, .ref q57212, .ref q57213, .ref q57214, .ref q57215, .int p57251, .int p57252, .int p57253, .int p57254, .int p57255, .int p57256])), (q57206, .inr (11, [.ref q57216, .ref q57217, .ref q57218])), (q57207, .inr (8, [.ref q57219, .ref q57220, .ref q57221, .ref q57222, .int p57257, .int p57258])), (q57208, .inr (6, [.ref q57207, .ref q57223, .ref q57224, .ref q57225, .ref q57226, .ref q57227, .int p57259, .int p57260])), (q57209, .inl (I .int, 100, .inl f57261)), (q57210, .inl (I .int, 100, .inl f57262)), (q57211, .inl (I .int, 40, .inl f57263)), (q57212, .inl (I .int, 100, .inl f57264)), (q57213, .inl (I .int, 100, .inl f57265)), (q57214, .inr (5, [.ref q57228, .ref q57229, .ref q57230, .ref q57231, .ref q57232, .ref q57233, .ref q57234, .ref q57235, .ref q57236, .int p57266, .int p57267, .int p57268])), (q57215, .inr (5, [.ref q57237, .ref q57238, .ref q57239, .ref q57240, .ref q57241, .ref q57242, .ref q57243, .ref q57244, .ref q57245, .int p57269, .int p57270, .int p57271])), (q57216, .inl (I .long, 40, .inr (.inl f57272))), (q57217, .inl (I .long, 40, .inr (.inl f57273))), (q57218, .inl (I .int, 40, .inl f57274)), (q57219, .inr (10, [.ref q57246, .ref q57247, .ref q57248, .ref q57249, .int p57275, .int p57276, .int p57277])), (q57220, .inl (I .long, 8640, .inr (.inl f57278))), (q57221, .inl (I .long, 12, .inr (.inl f57279))), (q57222, .inl (I .int, 720, .inl f57280)), (q57223, .inl (I .int, 720, .inl f57281)), (q57224, .inl (I .int, 720, .inl f57282)), (q57225, .inl (I .int, 720, .inl f57283)), (q57226, .inl (I .int, 720, .inl f57284)), (q57227, .inl (I .int, 720, .inl f57285)), (q57228, .inl (I .int, 40, .inl f57286)), (q57229, .inl (I .int, 40, .inl f57287)), (q57230, .inl (I .int, 40, .inl f57288)), (q57231, .inl (I .int, 920, .inl f57289)), (q57232, .inl (I .int, 920, .inl f57290)), (q57233, .inl (I .int, 920, .inl f57291)), (q57234, .inl (I .int, 920, .inl f57292)), (q57235, .inl (I .int, 920, .inl f57293)), (q57236, .inl (I .int, 920, .inl f57294)), (q57237, .inl (I .int, 40, .inl f57295)), (q57238, .inl (I .int, 40, .inl f57296)), (q57239, .inl (I .int, 40, .inl f57297)), (q57240, .inl (I .int, 920, .inl f57298)), (q57241, .inl (I .int, 920, .inl f57299)), (q57242, .inl (I .int, 920, .inl f57300)), (q57243, .inl (I .int, 920, .inl f57301)), (q57244, .inl (I .int, 920, .inl f57302)), (q57245, .inl (I .int, 920, .inl f57303)), (q57246, .inl (I .long, 480, .inr (.inl f57304))), (q57247, .inl (I .long, 480, .inr (.inl f57305))), (q57248, .inl (I .long, 480, .inr (.inl f57306))), (q57249, .inl (I .long, 12, .inr (.inl f57307)))] ∧ gB o59344 (-1) 919
set_option maxRecDepth 100000 in
set_option maxHeartbeats 4000000 in
theorem ct_57312_Giver_nextToMerge (l : Launch) (hl0 : l.stackTraces = false) (D : va_G) (I : FieldType → ClassId) (q57205 : Nat) (q57206 : Nat) (q57207 : Nat) (q57208 : Nat) (q57209 : Nat) (q57210 : Nat) (q57211 : Nat) (q57212 : Nat) (q57213 : Nat) (q57214 : Nat) (q57215 : Nat) (q57216 : Nat) (q57217 : Nat) (q57218 : Nat) (q57219 : Nat) (q57220 : Nat) (q57221 : Nat) (q57222 : Nat) (q57223 : Nat) (q57224 : Nat) (q57225 : Nat) (q57226 : Nat) (q57227 : Nat) (q57228 : Nat) (q57229 : Nat) (q57230 : Nat) (q57231 : Nat) (q57232 : Nat) (q57233 : Nat) (q57234 : Nat) (q57235 : Nat) (q57236 : Nat) (q57237 : Nat) (q57238 : Nat) (q57239 : Nat) (q57240 : Nat) (q57241 : Nat) (q57242 : Nat) (q57243 : Nat) (q57244 : Nat) (q57245 : Nat) (q57246 : Nat) (q57247 : Nat) (q57248 : Nat) (q57249 : Nat) (p57250 : Int32) (p57251 : Int32) (p57252 : Int32) (p57253 : Int32) (p57254 : Int32) (p57255 : Int32) (p57256 : Int32) (p57257 : Int32) (p57258 : Int32) (p57259 : Int32) (p57260 : Int32) (f57261 : Nat → Int32) (f57262 : Nat → Int32) (f57263 : Nat → Int32) (f57264 : Nat → Int32) (f57265 : Nat → Int32) (p57266 : Int32) (p57267 : Int32) (p57268 : Int32) (p57269 : Int32) (p57270 : Int32) (p57271 : Int32) (f57272 : Nat → Int64) (f57273 : Nat → Int64) (f57274 : Nat → Int32) (p57275 : Int32) (p57276 : Int32) (p57277 : Int32) (f57278 : Nat → Int64) (f57279 : Nat → Int64) (f57280 : Nat → Int32) (f57281 : Nat → Int32) (f57282 : Nat → Int32) (f57283 : Nat → Int32) (f57284 : Nat → Int32) (f57285 : Nat → Int32) (f57286 : Nat → Int32) (f57287 : Nat → Int32) (f57288 : Nat → Int32) (f57289 : Nat → Int32) (f57290 : Nat → Int32) (f57291 : Nat → Int32) (f57292 : Nat → Int32) (f57293 : Nat → Int32) (f57294 : Nat → Int32) (f57295 : Nat → Int32) (f57296 : Nat → Int32) (f57297 : Nat → Int32) (f57298 : Nat → Int32) (f57299 : Nat → Int32) (f57300 : Nat → Int32) (f57301 : Nat → Int32) (f57302 : Nat → Int32) (f57303 : Nat → Int32) (f57304 : Nat → Int64) (f57305 : Nat → Int64) (f57306 : Nat → Int64) (f57307 : Nat → Int64) (bp57251 : gB p57251 100 720) (bp57256 : gB p57256 0 1) (bp57257 : gB p57257 0 720) (bp57258 : gB p57258 0 12) (bp57259 : gB p57259 0 720) (bp57260 : gB p57260 0 720) (bp57266 : gB p57266 0 40) (bp57267 : gB p57267 0 920) (bp57268 : gB p57268 0 1) (bp57269 : gB p57269 0 40) (bp57270 : gB p57270 0 920) (bp57271 : gB p57271 0 1) (bp57275 : gB p57275 0 720) (bp57276 : gB p57276 0 12) (bp57277 : gB p57277 0 1) (bf57283 : gF f57283 0 719) (bf57284 : gF f57284 0 719) (bf57286 : gF f57286 0 920) (bf57289 : gF f57289 0 21) (bf57295 : gF f57295 0 920) (bf57298 : gF f57298 0 21) (x57308 : 100 ≤ p57257.toInt) (x57309 : p57258.toInt = (p57257.toInt + 63) / 64) (x57310 : lb_W f57278 (p57257.toInt * p57258.toInt) (p57258.toInt) (p57257.toInt)) (x57311 : p57276.toInt = (p57275.toInt + 63) / 64) : Ct (gV D I) l yX2_nextToMerge cX2_nextToMerge 3 (some FieldType.int) 4 99 0 0 [.ref q57205, .int p57250] [(q57205, .inr (7, [.ref q57206, .ref q57207, .ref q57208, .ref q57209, .ref q57210, .ref q57211, .ref q57212, .ref q57213, .ref q57214, .ref q57215, .int p57251, .int p57252, .int p57253, .int p57254, .int p57255, .int p57256])), (q57206, .inr (11, [.ref q57216, .ref q57217, .ref q57218])), (q57207, .inr (8, [.ref q57219, .ref q57220, .ref q57221, .ref q57222, .int p57257, .int p57258])), (q57208, .inr (6, [.ref q57207, .ref q57223, .ref q57224, .ref q57225, .ref q57226, .ref q57227, .int p57259, .int p57260])), (q57209, .inl (I .int, 100, .inl f57261)), (q57210, .inl (I .int, 100, .inl f57262)), (q57211, .inl (I .int, 40, .inl f57263)), (q57212, .inl (I .int, 100, .inl f57264)), (q57213, .inl (I .int, 100, .inl f57265)), (q57214, .inr (5, [.ref q57228, .ref q57229, .ref q57230, .ref q57231, .ref q57232, .ref q57233, .ref q57234, .ref q57235, .ref q57236, .int p57266, .int p57267, .int p57268])), (q57215, .inr (5, [.ref q57237, .ref q57238, .ref q57239, .ref q57240, .ref q57241, .ref q57242, .ref q57243, .ref q57244, .ref q57245, .int p57269, .int p57270, .int p57271])), (q57216, .inl (I .long, 40, .inr (.inl f57272))), (q57217, .inl (I .long, 40, .inr (.inl f57273))), (q57218, .inl (I .int, 40, .inl f57274)), (q57219, .inr (10, [.ref q57246, .ref q57247, .ref q57248, .ref q57249, .int p57275, .int p57276, .int p57277])), (q57220, .inl (I .long, 8640, .inr (.inl f57278))), (q57221, .inl (I .long, 12, .inr (.inl f57279))), (q57222, .inl (I .int, 720, .inl f57280)), (q57223, .inl (I .int, 720, .inl f57281)), (q57224, .inl (I .int, 720, .inl f57282)), (q57225, .inl (I .int, 720, .inl f57283)), (q57226, .inl (I .int, 720, .inl f57284)), (q57227, .inl (I .int, 720, .inl f57285)), (q57228, .inl (I .int, 40, .inl f57286)), (q57229, .inl (I .int, 40, .inl f57287)), (q57230, .inl (I .int, 40, .inl f57288)), (q57231, .inl (I .int, 920, .inl f57289)), (q57232, .inl (I .int, 920, .inl f57290)), (q57233, .inl (I .int, 920, .inl f57291)), (q57234, .inl (I .int, 920, .inl f57292)), (q57235, .inl (I .int, 920, .inl f57293)), (q57236, .inl (I .int, 920, .inl f57294)), (q57237, .inl (I .int, 40, .inl f57295)), (q57238, .inl (I .int, 40, .inl f57296)), (q57239, .inl (I .int, 40, .inl f57297)), (q57240, .inl (I .int, 920, .inl f57298)), (q57241, .inl (I .int, 920, .inl f57299)), (q57242, .inl (I .int, 920, .inl f57300)), (q57243, .inl (I .int, 920, .inl f57301)), (q57244, .inl (I .int, 920, .inl f57302)), (q57245, .inl (I .int, 920, .inl f57303)), (q57246, .inl (I .long, 480, .inr (.inl f57304))), (q57247, .inl (I .long, 480, .inr (.inl f57305))), (q57248, .inl (I .long, 480, .inr (.inl f57306))), (q57249, .inl (I .long, 12, .inr (.inl f57307)))] (po_57312_Giver_nextToMerge I q57205 q57206 q57207 q57208 q57209 q57210 q57211 q57212 q57213 q57214 q57215 q57216 q57217 q57218 q57219 q57220 q57221 q57222 q57223 q57224 q57225 q57226 q57227 q57228 q57229 q57230 q57231 q57232 q57233 q57234 q57235 q57236 q57237 q57238 q57239 q57240 q57241 q57242 q57243 q57244 q57245 q57246 q57247 q57248 q57249 p57250 p57251 p57252 p57253 p57254 p57255 p57256 p57257 p57258 p57259 p57260 f57261 f57262 f57263 f57264 f57265 p57266 p57267 p57268 p57269 p57270 p57271 f57272 f57273 f57274 p57275 p57276 p57277 f57278 f57279 f57280 f57281 f57282 f57283 f57284 f57285 f57286 f57287 f57288 f57289 f57290 f57291 f57292 f57293 f57294 f57295 f57296 f57297 f57298 f57299 f57300 f57301 f57302 f57303 f57304 f57305 f57306 f57307) gN := by
  refine Ct_of hl0 (by decide) (Nat.le_of_ble_eq_true rfl) ?_
  have bp57250 := gB_any p57250
  have bp57252 := gB_any p57252
  have bp57253 := gB_any p57253
  have bp57254 := gB_any p57254
  have bp57255 := gB_any p57255
  refine G_iconst 0 d_cX2_nextToMerge_0 (by decide +kernel) ?_
  refine G_istore_n (L' := [(2, .int 0), (0, .ref q57205), (1, .int p57250)]) d_cX2_nextToMerge_1 (Nat.le_of_ble_eq_true rfl) rfl ?_
  have hlp2_59305 : ∀ (n2_59305 : Nat) (g59305 : Int32), gB g59305 0 920 → ((921 : Int) - g59305.toInt).toNat < n2_59305 → G (gV D I) l (gRm 4 99 0 0) (gM (gV D I) (po_57312_Giver_nextToMerge I q57205 q57206 q57207 q57208 q57209 q57210 q57211 q57212 q57213 q57214 q57215 q57216 q57217 q57218 q57219 q57220 q57221 q57222 q57223 q57224 q57225 q57226 q57227 q57228 q57229 q57230 q57231 q57232 q57233 q57234 q57235 q57236 q57237 q57238 q57239 q57240 q57241 q57242 q57243 q57244 q57245 q57246 q57247 q57248 q57249 p57250 p57251 p57252 p57253 p57254 p57255 p57256 p57257 p57258 p57259 p57260 f57261 f57262 f57263 f57264 f57265 p57266 p57267 p57268 p57269 p57270 p57271 f57272 f57273 f57274 p57275 p57276 p57277 f57278 f57279 f57280 f57281 f57282 f57283 f57284 f57285 f57286 f57287 f57288 f57289 f57290 f57291 f57292 f57293 f57294 f57295 f57296 f57297 f57298 f57299 f57300 f57301 f57302 f57303 f57304 f57305 f57306 f57307) gN 0 0) ky_57312_Giver_nextToMerge 2 [(2, .int g59305), (0, .ref q57205), (1, .int p57250)] [] [(q57205, .inr (7, [.ref q57206, .ref q57207, .ref q57208, .ref q57209, .ref q57210, .ref q57211, .ref q57212, .ref q57213, .ref q57214, .ref q57215, .int p57251, .int p57252, .int p57253, .int p57254, .int p57255, .int p57256])), (q57206, .inr (11, [.ref q57216, .ref q57217, .ref q57218])), (q57207, .inr (8, [.ref q57219, .ref q57220, .ref q57221, .ref q57222, .int p57257, .int p57258])), (q57208, .inr (6, [.ref q57207, .ref q57223, .ref q57224, .ref q57225, .ref q57226, .ref q57227, .int p57259, .int p57260])), (q57209, .inl (I .int, 100, .inl f57261)), (q57210, .inl (I .int, 100, .inl f57262)), (q57211, .inl (I .int, 40, .inl f57263)), (q57212, .inl (I .int, 100, .inl f57264)), (q57213, .inl (I .int, 100, .inl f57265)), (q57214, .inr (5, [.ref q57228, .ref q57229, .ref q57230, .ref q57231, .ref q57232, .ref q57233, .ref q57234, .ref q57235, .ref q57236, .int p57266, .int p57267, .int p57268])), (q57215, .inr (5, [.ref q57237, .ref q57238, .ref q57239, .ref q57240, .ref q57241, .ref q57242, .ref q57243, .ref q57244, .ref q57245, .int p57269, .int p57270, .int p57271])), (q57216, .inl (I .long, 40, .inr (.inl f57272))), (q57217, .inl (I .long, 40, .inr (.inl f57273))), (q57218, .inl (I .int, 40, .inl f57274)), (q57219, .inr (10, [.ref q57246, .ref q57247, .ref q57248, .ref q57249, .int p57275, .int p57276, .int p57277])), (q57220, .inl (I .long, 8640, .inr (.inl f57278))), (q57221, .inl (I .long, 12, .inr (.inl f57279))), (q57222, .inl (I .int, 720, .inl f57280)), (q57223, .inl (I .int, 720, .inl f57281)), (q57224, .inl (I .int, 720, .inl f57282)), (q57225, .inl (I .int, 720, .inl f57283)), (q57226, .inl (I .int, 720, .inl f57284)), (q57227, .inl (I .int, 720, .inl f57285)), (q57228, .inl (I .int, 40, .inl f57286)), (q57229, .inl (I .int, 40, .inl f57287)), (q57230, .inl (I .int, 40, .inl f57288)), (q57231, .inl (I .int, 920, .inl f57289)), (q57232, .inl (I .int, 920, .inl f57290)), (q57233, .inl (I .int, 920, .inl f57291)), (q57234, .inl (I .int, 920, .inl f57292)), (q57235, .inl (I .int, 920, .inl f57293)), (q57236, .inl (I .int, 920, .inl f57294)), (q57237, .inl (I .int, 40, .inl f57295)), (q57238, .inl (I .int, 40, .inl f57296)), (q57239, .inl (I .int, 40, .inl f57297)), (q57240, .inl (I .int, 920, .inl f57298)), (q57241, .inl (I .int, 920, .inl f57299)), (q57242, .inl (I .int, 920, .inl f57300)), (q57243, .inl (I .int, 920, .inl f57301)), (q57244, .inl (I .int, 920, .inl f57302)), (q57245, .inl (I .int, 920, .inl f57303)), (q57246, .inl (I .long, 480, .inr (.inl f57304))), (q57247, .inl (I .long, 480, .inr (.inl f57305))), (q57248, .inl (I .long, 480, .inr (.inl f57306))), (q57249, .inl (I .long, 12, .inr (.inl f57307)))] 0 0 := by
    intro n2_59305
    induction n2_59305 with
    | zero => intro g59305 bg59305 hm2_59305; exact absurd hm2_59305 (Nat.not_lt_zero _)
    | succ n2_59305 ih2_59305 =>
      intro g59305 bg59305 hm2_59305
      refine G_iload_n 0 d_cX2_nextToMerge_2 rfl ?_
      refine G_aload_n 1 d_cX2_nextToMerge_3 rfl ?_
      refine G_getf 0 8 d_cX2_nextToMerge_4 rfl (gk_X2 D I) (Nat.le_of_ble_eq_true rfl) w_2_113 rfl ?_
      refine G_getfN 9 10 d_cX2_nextToMerge_7 rfl (gk_X0 D I) (Nat.le_of_ble_eq_true rfl) (fun _ _ _ h => gn_w 47 rfl h) rfl ?_
      refine G_icmp_ge 58 d_cX2_nextToMerge_10 (by decide +kernel) (fun hc59306 => ?_) (fun hc59306 => ?_)
      · have r59307 : p57267.toInt ≤ g59305.toInt := gC_le hc59306
        refine G_iconst (-1) d_cX2_nextToMerge_58 (by decide +kernel) ?_
        exact G_iret d_cX2_nextToMerge_59 rfl (Nat.le_of_ble_eq_true rfl) (Nat.le_of_ble_eq_true rfl) ⟨(-1), rfl, rfl, (gB_w (gBl (show Int32.toInt (-1) = (-1) by decide)) (by decide) (by decide))⟩
      · have r59308 : g59305.toInt < p57267.toInt := gC_nle hc59306
        have bg59305' : gB g59305 0 919 := ⟨by omega, by omega⟩
        have bp57267' : gB p57267 1 920 := ⟨by omega, by omega⟩
        refine G_aload_n 1 d_cX2_nextToMerge_13 rfl ?_
        refine G_getf 0 8 d_cX2_nextToMerge_14 rfl (gk_X2 D I) (Nat.le_of_ble_eq_true rfl) w_2_113 rfl ?_
        refine G_iload_n 0 d_cX2_nextToMerge_17 rfl ?_
        refine G_callV (As := [.int g59305]) (wr := [(q57205, .inr (7, [.ref q57206, .ref q57207, .ref q57208, .ref q57209, .ref q57210, .ref q57211, .ref q57212, .ref q57213, .ref q57214, .ref q57215, .int p57251, .int p57252, .int p57253, .int p57254, .int p57255, .int p57256])), (q57206, .inr (11, [.ref q57216, .ref q57217, .ref q57218])), (q57207, .inr (8, [.ref q57219, .ref q57220, .ref q57221, .ref q57222, .int p57257, .int p57258])), (q57208, .inr (6, [.ref q57207, .ref q57223, .ref q57224, .ref q57225, .ref q57226, .ref q57227, .int p57259, .int p57260])), (q57209, .inl (I .int, 100, .inl f57261)), (q57210, .inl (I .int, 100, .inl f57262)), (q57211, .inl (I .int, 40, .inl f57263)), (q57212, .inl (I .int, 100, .inl f57264)), (q57213, .inl (I .int, 100, .inl f57265)), (q57215, .inr (5, [.ref q57237, .ref q57238, .ref q57239, .ref q57240, .ref q57241, .ref q57242, .ref q57243, .ref q57244, .ref q57245, .int p57269, .int p57270, .int p57271])), (q57216, .inl (I .long, 40, .inr (.inl f57272))), (q57217, .inl (I .long, 40, .inr (.inl f57273))), (q57218, .inl (I .int, 40, .inl f57274)), (q57219, .inr (10, [.ref q57246, .ref q57247, .ref q57248, .ref q57249, .int p57275, .int p57276, .int p57277])), (q57220, .inl (I .long, 8640, .inr (.inl f57278))), (q57221, .inl (I .long, 12, .inr (.inl f57279))), (q57222, .inl (I .int, 720, .inl f57280)), (q57223, .inl (I .int, 720, .inl f57281)), (q57224, .inl (I .int, 720, .inl f57282)), (q57225, .inl (I .int, 720, .inl f57283)), (q57226, .inl (I .int, 720, .inl f57284)), (q57227, .inl (I .int, 720, .inl f57285)), (q57237, .inl (I .int, 40, .inl f57295)), (q57238, .inl (I .int, 40, .inl f57296)), (q57239, .inl (I .int, 40, .inl f57297)), (q57240, .inl (I .int, 920, .inl f57298)), (q57241, .inl (I .int, 920, .inl f57299)), (q57242, .inl (I .int, 920, .inl f57300)), (q57243, .inl (I .int, 920, .inl f57301)), (q57244, .inl (I .int, 920, .inl f57302)), (q57245, .inl (I .int, 920, .inl f57303)), (q57246, .inl (I .long, 480, .inr (.inl f57304))), (q57247, .inl (I .long, 480, .inr (.inl f57305))), (q57248, .inl (I .long, 480, .inr (.inl f57306))), (q57249, .inl (I .long, 12, .inr (.inl f57307)))]) (gV_ok D I) (ct_29134_Code_copiesRegister l hl0 D I q57214 q57228 q57229 q57230 q57231 q57232 q57233 q57234 q57235 q57236 g59305 p57266 p57267 p57268 f57286 f57287 f57288 f57289 f57290 f57291 f57292 f57293 f57294 bg59305' bp57266 (gB_w bp57267' (by decide) (by decide)) bp57268 bf57286 bf57289) d_cX2_nextToMerge_18 ⟨w_5_92, w_1_5, w_4_119, by decide, rfl, (Nat.le_of_ble_eq_true rfl), (Nat.le_of_ble_eq_true rfl)⟩ w_4_117 w_4_118 9 rfl rfl [9, 23, 24, 25, 26, 27, 28, 29, 30, 31] [0, 1, 2, 3, 4, 5, 6, 7, 8, 10, 11, 12, 13, 14, 15, 16, 17, 18, 19, 20, 21, 22, 32, 33, 34, 35, 36, 37, 38, 39, 40, 41, 42, 43, 44] rfl rfl rfl rfl (by decide) (Nat.le_of_ble_eq_true rfl) (Nat.le_of_ble_eq_true rfl) (Nat.le_of_ble_eq_true rfl) (fun r w hp => ?_) (fun _ _ _ z => z.elim)
        rcases hp with ⟨z59309, rfl, rfl, r59310, hz59309, r59311⟩ | ⟨z59312, z59313, rfl, rfl, r59314, r59315, hz59312, hz59313, r59316, r59317⟩ | ⟨z59318, z59319, z59320, rfl, rfl, r59321, r59322, r59323, hz59318, hz59319, hz59320, r59324, r59325, r59326⟩ | ⟨z59327, z59328, z59329, rfl, rfl, r59330, r59331, r59332, hz59327, hz59328, hz59329, r59333, r59334, r59335⟩
        · change G _ _ _ _ _ _ _ (.int 0 :: _) _ _ _
          refine G_ws (ws' := [(q57205, .inr (7, [.ref q57206, .ref q57207, .ref q57208, .ref q57209, .ref q57210, .ref q57211, .ref q57212, .ref q57213, .ref q57214, .ref q57215, .int p57251, .int p57252, .int p57253, .int p57254, .int p57255, .int p57256])), (q57206, .inr (11, [.ref q57216, .ref q57217, .ref q57218])), (q57207, .inr (8, [.ref q57219, .ref q57220, .ref q57221, .ref q57222, .int p57257, .int p57258])), (q57208, .inr (6, [.ref q57207, .ref q57223, .ref q57224, .ref q57225, .ref q57226, .ref q57227, .int p57259, .int p57260])), (q57209, .inl (I .int, 100, .inl f57261)), (q57210, .inl (I .int, 100, .inl f57262)), (q57211, .inl (I .int, 40, .inl f57263)), (q57212, .inl (I .int, 100, .inl f57264)), (q57213, .inl (I .int, 100, .inl f57265)), (q57215, .inr (5, [.ref q57237, .ref q57238, .ref q57239, .ref q57240, .ref q57241, .ref q57242, .ref q57243, .ref q57244, .ref q57245, .int p57269, .int p57270, .int p57271])), (q57216, .inl (I .long, 40, .inr (.inl f57272))), (q57217, .inl (I .long, 40, .inr (.inl f57273))), (q57218, .inl (I .int, 40, .inl f57274)), (q57219, .inr (10, [.ref q57246, .ref q57247, .ref q57248, .ref q57249, .int p57275, .int p57276, .int p57277])), (q57220, .inl (I .long, 8640, .inr (.inl f57278))), (q57221, .inl (I .long, 12, .inr (.inl f57279))), (q57222, .inl (I .int, 720, .inl f57280)), (q57223, .inl (I .int, 720, .inl f57281)), (q57224, .inl (I .int, 720, .inl f57282)), (q57225, .inl (I .int, 720, .inl f57283)), (q57226, .inl (I .int, 720, .inl f57284)), (q57227, .inl (I .int, 720, .inl f57285)), (q57237, .inl (I .int, 40, .inl f57295)), (q57238, .inl (I .int, 40, .inl f57296)), (q57239, .inl (I .int, 40, .inl f57297)), (q57240, .inl (I .int, 920, .inl f57298)), (q57241, .inl (I .int, 920, .inl f57299)), (q57242, .inl (I .int, 920, .inl f57300)), (q57243, .inl (I .int, 920, .inl f57301)), (q57244, .inl (I .int, 920, .inl f57302)), (q57245, .inl (I .int, 920, .inl f57303)), (q57246, .inl (I .long, 480, .inr (.inl f57304))), (q57247, .inl (I .long, 480, .inr (.inl f57305))), (q57248, .inl (I .long, 480, .inr (.inl f57306))), (q57249, .inl (I .long, 12, .inr (.inl f57307))), (q57214, .inr (5, [.ref q57228, .ref q57229, .ref q57230, .ref q57231, .ref q57232, .ref q57233, .ref q57234, .ref q57235, .ref q57236, .int p57266, .int p57267, .int p57268])), (q57228, .inl (I .int, 40, .inl f57286)), (q57229, .inl (I .int, 40, .inl f57287)), (q57230, .inl (I .int, 40, .inl f57288)), (q57231, .inl (I .int, 920, .inl f57289)), (q57232, .inl (I .int, 920, .inl f57290)), (q57233, .inl (I .int, 920, .inl f57291)), (q57234, .inl (I .int, 920, .inl f57292)), (q57235, .inl (I .int, 920, .inl f57293)), (q57236, .inl (I .int, 920, .inl f57294))]) (cs' := 0) (sl' := 0) rfl rfl rfl ?_
          refine G_if_eq 52 d_cX2_nextToMerge_21 (by decide +kernel) (fun _ => ?_) (fun hc => absurd hc (by decide))
          obtain ⟨z59336, hz59336⟩ : ∃ z : Int32, z = g59305 + Int32.ofInt 1 := ⟨_, rfl⟩
          have ez59336 : z59336.toInt = g59305.toInt + 1 := gI_inc hz59336 (by decide) bg59305' (by decide) (by decide)
          have bz59336 : gB z59336 1 920 := ⟨by omega, by omega⟩
          refine G_iinc (L' := [(2, .int z59336), (0, .ref q57205), (1, .int p57250)]) z59336 0 d_cX2_nextToMerge_52 rfl hz59336.symm (Nat.le_of_ble_eq_true rfl) rfl ?_
          refine G_goto 2 d_cX2_nextToMerge_55 (by decide +kernel) ?_
          refine G_sub (ws' := [(q57205, .inr (7, [.ref q57206, .ref q57207, .ref q57208, .ref q57209, .ref q57210, .ref q57211, .ref q57212, .ref q57213, .ref q57214, .ref q57215, .int p57251, .int p57252, .int p57253, .int p57254, .int p57255, .int p57256])), (q57206, .inr (11, [.ref q57216, .ref q57217, .ref q57218])), (q57207, .inr (8, [.ref q57219, .ref q57220, .ref q57221, .ref q57222, .int p57257, .int p57258])), (q57208, .inr (6, [.ref q57207, .ref q57223, .ref q57224, .ref q57225, .ref q57226, .ref q57227, .int p57259, .int p57260])), (q57209, .inl (I .int, 100, .inl f57261)), (q57210, .inl (I .int, 100, .inl f57262)), (q57211, .inl (I .int, 40, .inl f57263)), (q57212, .inl (I .int, 100, .inl f57264)), (q57213, .inl (I .int, 100, .inl f57265)), (q57214, .inr (5, [.ref q57228, .ref q57229, .ref q57230, .ref q57231, .ref q57232, .ref q57233, .ref q57234, .ref q57235, .ref q57236, .int p57266, .int p57267, .int p57268])), (q57215, .inr (5, [.ref q57237, .ref q57238, .ref q57239, .ref q57240, .ref q57241, .ref q57242, .ref q57243, .ref q57244, .ref q57245, .int p57269, .int p57270, .int p57271])), (q57216, .inl (I .long, 40, .inr (.inl f57272))), (q57217, .inl (I .long, 40, .inr (.inl f57273))), (q57218, .inl (I .int, 40, .inl f57274)), (q57219, .inr (10, [.ref q57246, .ref q57247, .ref q57248, .ref q57249, .int p57275, .int p57276, .int p57277])), (q57220, .inl (I .long, 8640, .inr (.inl f57278))), (q57221, .inl (I .long, 12, .inr (.inl f57279))), (q57222, .inl (I .int, 720, .inl f57280)), (q57223, .inl (I .int, 720, .inl f57281)), (q57224, .inl (I .int, 720, .inl f57282)), (q57225, .inl (I .int, 720, .inl f57283)), (q57226, .inl (I .int, 720, .inl f57284)), (q57227, .inl (I .int, 720, .inl f57285)), (q57228, .inl (I .int, 40, .inl f57286)), (q57229, .inl (I .int, 40, .inl f57287)), (q57230, .inl (I .int, 40, .inl f57288)), (q57231, .inl (I .int, 920, .inl f57289)), (q57232, .inl (I .int, 920, .inl f57290)), (q57233, .inl (I .int, 920, .inl f57291)), (q57234, .inl (I .int, 920, .inl f57292)), (q57235, .inl (I .int, 920, .inl f57293)), (q57236, .inl (I .int, 920, .inl f57294)), (q57237, .inl (I .int, 40, .inl f57295)), (q57238, .inl (I .int, 40, .inl f57296)), (q57239, .inl (I .int, 40, .inl f57297)), (q57240, .inl (I .int, 920, .inl f57298)), (q57241, .inl (I .int, 920, .inl f57299)), (q57242, .inl (I .int, 920, .inl f57300)), (q57243, .inl (I .int, 920, .inl f57301)), (q57244, .inl (I .int, 920, .inl f57302)), (q57245, .inl (I .int, 920, .inl f57303)), (q57246, .inl (I .long, 480, .inr (.inl f57304))), (q57247, .inl (I .long, 480, .inr (.inl f57305))), (q57248, .inl (I .long, 480, .inr (.inl f57306))), (q57249, .inl (I .long, 12, .inr (.inl f57307)))]) [0, 1, 2, 3, 4, 5, 6, 7, 8, 35, 9, 10, 11, 12, 13, 14, 15, 16, 17, 18, 19, 20, 21, 36, 37, 38, 39, 40, 41, 42, 43, 44, 22, 23, 24, 25, 26, 27, 28, 29, 30, 31, 32, 33, 34] rfl rfl ?_
          exact ih2_59305 z59336 (gB_w bz59336 (by decide) (by decide)) (by omega)
        · change G _ _ _ _ _ _ _ (.int 0 :: _) _ _ _
          refine G_ws (ws' := [(q57205, .inr (7, [.ref q57206, .ref q57207, .ref q57208, .ref q57209, .ref q57210, .ref q57211, .ref q57212, .ref q57213, .ref q57214, .ref q57215, .int p57251, .int p57252, .int p57253, .int p57254, .int p57255, .int p57256])), (q57206, .inr (11, [.ref q57216, .ref q57217, .ref q57218])), (q57207, .inr (8, [.ref q57219, .ref q57220, .ref q57221, .ref q57222, .int p57257, .int p57258])), (q57208, .inr (6, [.ref q57207, .ref q57223, .ref q57224, .ref q57225, .ref q57226, .ref q57227, .int p57259, .int p57260])), (q57209, .inl (I .int, 100, .inl f57261)), (q57210, .inl (I .int, 100, .inl f57262)), (q57211, .inl (I .int, 40, .inl f57263)), (q57212, .inl (I .int, 100, .inl f57264)), (q57213, .inl (I .int, 100, .inl f57265)), (q57215, .inr (5, [.ref q57237, .ref q57238, .ref q57239, .ref q57240, .ref q57241, .ref q57242, .ref q57243, .ref q57244, .ref q57245, .int p57269, .int p57270, .int p57271])), (q57216, .inl (I .long, 40, .inr (.inl f57272))), (q57217, .inl (I .long, 40, .inr (.inl f57273))), (q57218, .inl (I .int, 40, .inl f57274)), (q57219, .inr (10, [.ref q57246, .ref q57247, .ref q57248, .ref q57249, .int p57275, .int p57276, .int p57277])), (q57220, .inl (I .long, 8640, .inr (.inl f57278))), (q57221, .inl (I .long, 12, .inr (.inl f57279))), (q57222, .inl (I .int, 720, .inl f57280)), (q57223, .inl (I .int, 720, .inl f57281)), (q57224, .inl (I .int, 720, .inl f57282)), (q57225, .inl (I .int, 720, .inl f57283)), (q57226, .inl (I .int, 720, .inl f57284)), (q57227, .inl (I .int, 720, .inl f57285)), (q57237, .inl (I .int, 40, .inl f57295)), (q57238, .inl (I .int, 40, .inl f57296)), (q57239, .inl (I .int, 40, .inl f57297)), (q57240, .inl (I .int, 920, .inl f57298)), (q57241, .inl (I .int, 920, .inl f57299)), (q57242, .inl (I .int, 920, .inl f57300)), (q57243, .inl (I .int, 920, .inl f57301)), (q57244, .inl (I .int, 920, .inl f57302)), (q57245, .inl (I .int, 920, .inl f57303)), (q57246, .inl (I .long, 480, .inr (.inl f57304))), (q57247, .inl (I .long, 480, .inr (.inl f57305))), (q57248, .inl (I .long, 480, .inr (.inl f57306))), (q57249, .inl (I .long, 12, .inr (.inl f57307))), (q57214, .inr (5, [.ref q57228, .ref q57229, .ref q57230, .ref q57231, .ref q57232, .ref q57233, .ref q57234, .ref q57235, .ref q57236, .int p57266, .int p57267, .int p57268])), (q57228, .inl (I .int, 40, .inl f57286)), (q57229, .inl (I .int, 40, .inl f57287)), (q57230, .inl (I .int, 40, .inl f57288)), (q57231, .inl (I .int, 920, .inl f57289)), (q57232, .inl (I .int, 920, .inl f57290)), (q57233, .inl (I .int, 920, .inl f57291)), (q57234, .inl (I .int, 920, .inl f57292)), (q57235, .inl (I .int, 920, .inl f57293)), (q57236, .inl (I .int, 920, .inl f57294))]) (cs' := 0) (sl' := 0) rfl rfl rfl ?_
          refine G_if_eq 52 d_cX2_nextToMerge_21 (by decide +kernel) (fun _ => ?_) (fun hc => absurd hc (by decide))
          obtain ⟨z59337, hz59337⟩ : ∃ z : Int32, z = g59305 + Int32.ofInt 1 := ⟨_, rfl⟩
          have ez59337 : z59337.toInt = g59305.toInt + 1 := gI_inc hz59337 (by decide) bg59305' (by decide) (by decide)
          have bz59337 : gB z59337 1 920 := ⟨by omega, by omega⟩
          refine G_iinc (L' := [(2, .int z59337), (0, .ref q57205), (1, .int p57250)]) z59337 0 d_cX2_nextToMerge_52 rfl hz59337.symm (Nat.le_of_ble_eq_true rfl) rfl ?_
          refine G_goto 2 d_cX2_nextToMerge_55 (by decide +kernel) ?_
          refine G_sub (ws' := [(q57205, .inr (7, [.ref q57206, .ref q57207, .ref q57208, .ref q57209, .ref q57210, .ref q57211, .ref q57212, .ref q57213, .ref q57214, .ref q57215, .int p57251, .int p57252, .int p57253, .int p57254, .int p57255, .int p57256])), (q57206, .inr (11, [.ref q57216, .ref q57217, .ref q57218])), (q57207, .inr (8, [.ref q57219, .ref q57220, .ref q57221, .ref q57222, .int p57257, .int p57258])), (q57208, .inr (6, [.ref q57207, .ref q57223, .ref q57224, .ref q57225, .ref q57226, .ref q57227, .int p57259, .int p57260])), (q57209, .inl (I .int, 100, .inl f57261)), (q57210, .inl (I .int, 100, .inl f57262)), (q57211, .inl (I .int, 40, .inl f57263)), (q57212, .inl (I .int, 100, .inl f57264)), (q57213, .inl (I .int, 100, .inl f57265)), (q57214, .inr (5, [.ref q57228, .ref q57229, .ref q57230, .ref q57231, .ref q57232, .ref q57233, .ref q57234, .ref q57235, .ref q57236, .int p57266, .int p57267, .int p57268])), (q57215, .inr (5, [.ref q57237, .ref q57238, .ref q57239, .ref q57240, .ref q57241, .ref q57242, .ref q57243, .ref q57244, .ref q57245, .int p57269, .int p57270, .int p57271])), (q57216, .inl (I .long, 40, .inr (.inl f57272))), (q57217, .inl (I .long, 40, .inr (.inl f57273))), (q57218, .inl (I .int, 40, .inl f57274)), (q57219, .inr (10, [.ref q57246, .ref q57247, .ref q57248, .ref q57249, .int p57275, .int p57276, .int p57277])), (q57220, .inl (I .long, 8640, .inr (.inl f57278))), (q57221, .inl (I .long, 12, .inr (.inl f57279))), (q57222, .inl (I .int, 720, .inl f57280)), (q57223, .inl (I .int, 720, .inl f57281)), (q57224, .inl (I .int, 720, .inl f57282)), (q57225, .inl (I .int, 720, .inl f57283)), (q57226, .inl (I .int, 720, .inl f57284)), (q57227, .inl (I .int, 720, .inl f57285)), (q57228, .inl (I .int, 40, .inl f57286)), (q57229, .inl (I .int, 40, .inl f57287)), (q57230, .inl (I .int, 40, .inl f57288)), (q57231, .inl (I .int, 920, .inl f57289)), (q57232, .inl (I .int, 920, .inl f57290)), (q57233, .inl (I .int, 920, .inl f57291)), (q57234, .inl (I .int, 920, .inl f57292)), (q57235, .inl (I .int, 920, .inl f57293)), (q57236, .inl (I .int, 920, .inl f57294)), (q57237, .inl (I .int, 40, .inl f57295)), (q57238, .inl (I .int, 40, .inl f57296)), (q57239, .inl (I .int, 40, .inl f57297)), (q57240, .inl (I .int, 920, .inl f57298)), (q57241, .inl (I .int, 920, .inl f57299)), (q57242, .inl (I .int, 920, .inl f57300)), (q57243, .inl (I .int, 920, .inl f57301)), (q57244, .inl (I .int, 920, .inl f57302)), (q57245, .inl (I .int, 920, .inl f57303)), (q57246, .inl (I .long, 480, .inr (.inl f57304))), (q57247, .inl (I .long, 480, .inr (.inl f57305))), (q57248, .inl (I .long, 480, .inr (.inl f57306))), (q57249, .inl (I .long, 12, .inr (.inl f57307)))]) [0, 1, 2, 3, 4, 5, 6, 7, 8, 35, 9, 10, 11, 12, 13, 14, 15, 16, 17, 18, 19, 20, 21, 36, 37, 38, 39, 40, 41, 42, 43, 44, 22, 23, 24, 25, 26, 27, 28, 29, 30, 31, 32, 33, 34] rfl rfl ?_
          exact ih2_59305 z59337 (gB_w bz59337 (by decide) (by decide)) (by omega)
        · change G _ _ _ _ _ _ _ (.int 0 :: _) _ _ _
          refine G_ws (ws' := [(q57205, .inr (7, [.ref q57206, .ref q57207, .ref q57208, .ref q57209, .ref q57210, .ref q57211, .ref q57212, .ref q57213, .ref q57214, .ref q57215, .int p57251, .int p57252, .int p57253, .int p57254, .int p57255, .int p57256])), (q57206, .inr (11, [.ref q57216, .ref q57217, .ref q57218])), (q57207, .inr (8, [.ref q57219, .ref q57220, .ref q57221, .ref q57222, .int p57257, .int p57258])), (q57208, .inr (6, [.ref q57207, .ref q57223, .ref q57224, .ref q57225, .ref q57226, .ref q57227, .int p57259, .int p57260])), (q57209, .inl (I .int, 100, .inl f57261)), (q57210, .inl (I .int, 100, .inl f57262)), (q57211, .inl (I .int, 40, .inl f57263)), (q57212, .inl (I .int, 100, .inl f57264)), (q57213, .inl (I .int, 100, .inl f57265)), (q57215, .inr (5, [.ref q57237, .ref q57238, .ref q57239, .ref q57240, .ref q57241, .ref q57242, .ref q57243, .ref q57244, .ref q57245, .int p57269, .int p57270, .int p57271])), (q57216, .inl (I .long, 40, .inr (.inl f57272))), (q57217, .inl (I .long, 40, .inr (.inl f57273))), (q57218, .inl (I .int, 40, .inl f57274)), (q57219, .inr (10, [.ref q57246, .ref q57247, .ref q57248, .ref q57249, .int p57275, .int p57276, .int p57277])), (q57220, .inl (I .long, 8640, .inr (.inl f57278))), (q57221, .inl (I .long, 12, .inr (.inl f57279))), (q57222, .inl (I .int, 720, .inl f57280)), (q57223, .inl (I .int, 720, .inl f57281)), (q57224, .inl (I .int, 720, .inl f57282)), (q57225, .inl (I .int, 720, .inl f57283)), (q57226, .inl (I .int, 720, .inl f57284)), (q57227, .inl (I .int, 720, .inl f57285)), (q57237, .inl (I .int, 40, .inl f57295)), (q57238, .inl (I .int, 40, .inl f57296)), (q57239, .inl (I .int, 40, .inl f57297)), (q57240, .inl (I .int, 920, .inl f57298)), (q57241, .inl (I .int, 920, .inl f57299)), (q57242, .inl (I .int, 920, .inl f57300)), (q57243, .inl (I .int, 920, .inl f57301)), (q57244, .inl (I .int, 920, .inl f57302)), (q57245, .inl (I .int, 920, .inl f57303)), (q57246, .inl (I .long, 480, .inr (.inl f57304))), (q57247, .inl (I .long, 480, .inr (.inl f57305))), (q57248, .inl (I .long, 480, .inr (.inl f57306))), (q57249, .inl (I .long, 12, .inr (.inl f57307))), (q57214, .inr (5, [.ref q57228, .ref q57229, .ref q57230, .ref q57231, .ref q57232, .ref q57233, .ref q57234, .ref q57235, .ref q57236, .int p57266, .int p57267, .int p57268])), (q57228, .inl (I .int, 40, .inl f57286)), (q57229, .inl (I .int, 40, .inl f57287)), (q57230, .inl (I .int, 40, .inl f57288)), (q57231, .inl (I .int, 920, .inl f57289)), (q57232, .inl (I .int, 920, .inl f57290)), (q57233, .inl (I .int, 920, .inl f57291)), (q57234, .inl (I .int, 920, .inl f57292)), (q57235, .inl (I .int, 920, .inl f57293)), (q57236, .inl (I .int, 920, .inl f57294))]) (cs' := 0) (sl' := 0) rfl rfl rfl ?_
          refine G_if_eq 52 d_cX2_nextToMerge_21 (by decide +kernel) (fun _ => ?_) (fun hc => absurd hc (by decide))
          obtain ⟨z59338, hz59338⟩ : ∃ z : Int32, z = g59305 + Int32.ofInt 1 := ⟨_, rfl⟩
          have ez59338 : z59338.toInt = g59305.toInt + 1 := gI_inc hz59338 (by decide) bg59305' (by decide) (by decide)
          have bz59338 : gB z59338 1 920 := ⟨by omega, by omega⟩
          refine G_iinc (L' := [(2, .int z59338), (0, .ref q57205), (1, .int p57250)]) z59338 0 d_cX2_nextToMerge_52 rfl hz59338.symm (Nat.le_of_ble_eq_true rfl) rfl ?_
          refine G_goto 2 d_cX2_nextToMerge_55 (by decide +kernel) ?_
          refine G_sub (ws' := [(q57205, .inr (7, [.ref q57206, .ref q57207, .ref q57208, .ref q57209, .ref q57210, .ref q57211, .ref q57212, .ref q57213, .ref q57214, .ref q57215, .int p57251, .int p57252, .int p57253, .int p57254, .int p57255, .int p57256])), (q57206, .inr (11, [.ref q57216, .ref q57217, .ref q57218])), (q57207, .inr (8, [.ref q57219, .ref q57220, .ref q57221, .ref q57222, .int p57257, .int p57258])), (q57208, .inr (6, [.ref q57207, .ref q57223, .ref q57224, .ref q57225, .ref q57226, .ref q57227, .int p57259, .int p57260])), (q57209, .inl (I .int, 100, .inl f57261)), (q57210, .inl (I .int, 100, .inl f57262)), (q57211, .inl (I .int, 40, .inl f57263)), (q57212, .inl (I .int, 100, .inl f57264)), (q57213, .inl (I .int, 100, .inl f57265)), (q57214, .inr (5, [.ref q57228, .ref q57229, .ref q57230, .ref q57231, .ref q57232, .ref q57233, .ref q57234, .ref q57235, .ref q57236, .int p57266, .int p57267, .int p57268])), (q57215, .inr (5, [.ref q57237, .ref q57238, .ref q57239, .ref q57240, .ref q57241, .ref q57242, .ref q57243, .ref q57244, .ref q57245, .int p57269, .int p57270, .int p57271])), (q57216, .inl (I .long, 40, .inr (.inl f57272))), (q57217, .inl (I .long, 40, .inr (.inl f57273))), (q57218, .inl (I .int, 40, .inl f57274)), (q57219, .inr (10, [.ref q57246, .ref q57247, .ref q57248, .ref q57249, .int p57275, .int p57276, .int p57277])), (q57220, .inl (I .long, 8640, .inr (.inl f57278))), (q57221, .inl (I .long, 12, .inr (.inl f57279))), (q57222, .inl (I .int, 720, .inl f57280)), (q57223, .inl (I .int, 720, .inl f57281)), (q57224, .inl (I .int, 720, .inl f57282)), (q57225, .inl (I .int, 720, .inl f57283)), (q57226, .inl (I .int, 720, .inl f57284)), (q57227, .inl (I .int, 720, .inl f57285)), (q57228, .inl (I .int, 40, .inl f57286)), (q57229, .inl (I .int, 40, .inl f57287)), (q57230, .inl (I .int, 40, .inl f57288)), (q57231, .inl (I .int, 920, .inl f57289)), (q57232, .inl (I .int, 920, .inl f57290)), (q57233, .inl (I .int, 920, .inl f57291)), (q57234, .inl (I .int, 920, .inl f57292)), (q57235, .inl (I .int, 920, .inl f57293)), (q57236, .inl (I .int, 920, .inl f57294)), (q57237, .inl (I .int, 40, .inl f57295)), (q57238, .inl (I .int, 40, .inl f57296)), (q57239, .inl (I .int, 40, .inl f57297)), (q57240, .inl (I .int, 920, .inl f57298)), (q57241, .inl (I .int, 920, .inl f57299)), (q57242, .inl (I .int, 920, .inl f57300)), (q57243, .inl (I .int, 920, .inl f57301)), (q57244, .inl (I .int, 920, .inl f57302)), (q57245, .inl (I .int, 920, .inl f57303)), (q57246, .inl (I .long, 480, .inr (.inl f57304))), (q57247, .inl (I .long, 480, .inr (.inl f57305))), (q57248, .inl (I .long, 480, .inr (.inl f57306))), (q57249, .inl (I .long, 12, .inr (.inl f57307)))]) [0, 1, 2, 3, 4, 5, 6, 7, 8, 35, 9, 10, 11, 12, 13, 14, 15, 16, 17, 18, 19, 20, 21, 36, 37, 38, 39, 40, 41, 42, 43, 44, 22, 23, 24, 25, 26, 27, 28, 29, 30, 31, 32, 33, 34] rfl rfl ?_
          exact ih2_59305 z59338 (gB_w bz59338 (by decide) (by decide)) (by omega)
        · change G _ _ _ _ _ _ _ (.int 1 :: _) _ _ _
          refine G_ws (ws' := [(q57205, .inr (7, [.ref q57206, .ref q57207, .ref q57208, .ref q57209, .ref q57210, .ref q57211, .ref q57212, .ref q57213, .ref q57214, .ref q57215, .int p57251, .int p57252, .int p57253, .int p57254, .int p57255, .int p57256])), (q57206, .inr (11, [.ref q57216, .ref q57217, .ref q57218])), (q57207, .inr (8, [.ref q57219, .ref q57220, .ref q57221, .ref q57222, .int p57257, .int p57258])), (q57208, .inr (6, [.ref q57207, .ref q57223, .ref q57224, .ref q57225, .ref q57226, .ref q57227, .int p57259, .int p57260])), (q57209, .inl (I .int, 100, .inl f57261)), (q57210, .inl (I .int, 100, .inl f57262)), (q57211, .inl (I .int, 40, .inl f57263)), (q57212, .inl (I .int, 100, .inl f57264)), (q57213, .inl (I .int, 100, .inl f57265)), (q57215, .inr (5, [.ref q57237, .ref q57238, .ref q57239, .ref q57240, .ref q57241, .ref q57242, .ref q57243, .ref q57244, .ref q57245, .int p57269, .int p57270, .int p57271])), (q57216, .inl (I .long, 40, .inr (.inl f57272))), (q57217, .inl (I .long, 40, .inr (.inl f57273))), (q57218, .inl (I .int, 40, .inl f57274)), (q57219, .inr (10, [.ref q57246, .ref q57247, .ref q57248, .ref q57249, .int p57275, .int p57276, .int p57277])), (q57220, .inl (I .long, 8640, .inr (.inl f57278))), (q57221, .inl (I .long, 12, .inr (.inl f57279))), (q57222, .inl (I .int, 720, .inl f57280)), (q57223, .inl (I .int, 720, .inl f57281)), (q57224, .inl (I .int, 720, .inl f57282)), (q57225, .inl (I .int, 720, .inl f57283)), (q57226, .inl (I .int, 720, .inl f57284)), (q57227, .inl (I .int, 720, .inl f57285)), (q57237, .inl (I .int, 40, .inl f57295)), (q57238, .inl (I .int, 40, .inl f57296)), (q57239, .inl (I .int, 40, .inl f57297)), (q57240, .inl (I .int, 920, .inl f57298)), (q57241, .inl (I .int, 920, .inl f57299)), (q57242, .inl (I .int, 920, .inl f57300)), (q57243, .inl (I .int, 920, .inl f57301)), (q57244, .inl (I .int, 920, .inl f57302)), (q57245, .inl (I .int, 920, .inl f57303)), (q57246, .inl (I .long, 480, .inr (.inl f57304))), (q57247, .inl (I .long, 480, .inr (.inl f57305))), (q57248, .inl (I .long, 480, .inr (.inl f57306))), (q57249, .inl (I .long, 12, .inr (.inl f57307))), (q57214, .inr (5, [.ref q57228, .ref q57229, .ref q57230, .ref q57231, .ref q57232, .ref q57233, .ref q57234, .ref q57235, .ref q57236, .int p57266, .int p57267, .int p57268])), (q57228, .inl (I .int, 40, .inl f57286)), (q57229, .inl (I .int, 40, .inl f57287)), (q57230, .inl (I .int, 40, .inl f57288)), (q57231, .inl (I .int, 920, .inl f57289)), (q57232, .inl (I .int, 920, .inl f57290)), (q57233, .inl (I .int, 920, .inl f57291)), (q57234, .inl (I .int, 920, .inl f57292)), (q57235, .inl (I .int, 920, .inl f57293)), (q57236, .inl (I .int, 920, .inl f57294))]) (cs' := 0) (sl' := 0) rfl rfl rfl ?_
          refine G_if_eq 52 d_cX2_nextToMerge_21 (by decide +kernel) (fun hc => absurd hc (by decide)) (fun _ => ?_)
          refine G_aload_n 1 d_cX2_nextToMerge_24 rfl ?_
          refine G_aload_n 1 d_cX2_nextToMerge_25 rfl ?_
          refine G_getf 0 8 d_cX2_nextToMerge_26 rfl (gk_X2 D I) (Nat.le_of_ble_eq_true rfl) w_2_113 rfl ?_
          refine G_getfN 35 4 d_cX2_nextToMerge_29 rfl (gk_X0 D I) (Nat.le_of_ble_eq_true rfl) (fun _ _ _ h => gn_w 21 rfl h) rfl ?_
          refine G_iload_n 0 d_cX2_nextToMerge_32 rfl ?_
          refine G_iald 40 0 d_cX2_nextToMerge_33 rfl rfl (gB_in bg59305' (by decide) (by decide)) (G_eqi (y := z59328) hz59328.symm ?_)
          refine G_aload_n 1 d_cX2_nextToMerge_34 rfl ?_
          refine G_getf 0 8 d_cX2_nextToMerge_35 rfl (gk_X2 D I) (Nat.le_of_ble_eq_true rfl) w_2_113 rfl ?_
          refine G_getfN 35 5 d_cX2_nextToMerge_38 rfl (gk_X0 D I) (Nat.le_of_ble_eq_true rfl) (fun _ _ _ h => gn_w 26 rfl h) rfl ?_
          refine G_iload_n 0 d_cX2_nextToMerge_41 rfl ?_
          refine G_iald 41 0 d_cX2_nextToMerge_42 rfl rfl (gB_in bg59305' (by decide) (by decide)) (G_eqi (y := z59329) hz59329.symm ?_)
          refine G_iload_n 2 d_cX2_nextToMerge_43 rfl ?_
          refine G_callV (As := [.int z59328, .int z59329, .int p57250]) (wr := []) (gV_ok D I) (ct_57454_Giver_canMerge l hl0 D I q57205 q57206 q57207 q57208 q57209 q57210 q57211 q57212 q57213 q57214 q57215 q57216 q57217 q57218 q57219 q57220 q57221 q57222 q57223 q57224 q57225 q57226 q57227 q57228 q57229 q57230 q57231 q57232 q57233 q57234 q57235 q57236 q57237 q57238 q57239 q57240 q57241 q57242 q57243 q57244 q57245 q57246 q57247 q57248 q57249 z59328 z59329 p57250 p57251 p57252 p57253 p57254 p57255 p57256 p57257 p57258 p57259 p57260 f57261 f57262 f57263 f57264 f57265 p57266 p57267 p57268 p57269 p57270 p57271 f57272 f57273 f57274 p57275 p57276 p57277 f57278 f57279 f57280 f57281 f57282 f57283 f57284 f57285 f57286 f57287 f57288 f57289 f57290 f57291 f57292 f57293 f57294 f57295 f57296 f57297 f57298 f57299 f57300 f57301 f57302 f57303 f57304 f57305 f57306 f57307 bp57251 bp57256 bp57257 bp57258 bp57259 bp57260 bp57266 (gB_w bp57267' (by decide) (by decide)) bp57268 bp57269 bp57270 bp57271 bp57275 bp57276 bp57277 bf57283 bf57284 bf57286 bf57289 bf57295 bf57298 (by omega) (by omega) (by omega) (by omega) x57310 (by omega)) d_cX2_nextToMerge_44 ⟨w_5_93, w_1_8, w_5_96, by decide, rfl, (Nat.le_of_ble_eq_true rfl), (Nat.le_of_ble_eq_true rfl)⟩ w_5_95 w_p_42 0 rfl rfl [0, 1, 2, 3, 4, 5, 6, 7, 8, 35, 9, 10, 11, 12, 13, 14, 15, 16, 17, 18, 19, 20, 21, 36, 37, 38, 39, 40, 41, 42, 43, 44, 22, 23, 24, 25, 26, 27, 28, 29, 30, 31, 32, 33, 34] [] rfl rfl rfl rfl (by decide) (Nat.le_of_ble_eq_true rfl) (Nat.le_of_ble_eq_true rfl) (Nat.le_of_ble_eq_true rfl) (fun r w hp => ?_) (fun _ _ _ z => z.elim)
          obtain ⟨o59339, rfl, rfl, bo59339⟩ := hp
          change G _ _ _ _ _ _ _ (.int o59339 :: _) _ _ _
          refine G_ws (ws' := [(q57205, .inr (7, [.ref q57206, .ref q57207, .ref q57208, .ref q57209, .ref q57210, .ref q57211, .ref q57212, .ref q57213, .ref q57214, .ref q57215, .int p57251, .int p57252, .int p57253, .int p57254, .int p57255, .int p57256])), (q57206, .inr (11, [.ref q57216, .ref q57217, .ref q57218])), (q57207, .inr (8, [.ref q57219, .ref q57220, .ref q57221, .ref q57222, .int p57257, .int p57258])), (q57208, .inr (6, [.ref q57207, .ref q57223, .ref q57224, .ref q57225, .ref q57226, .ref q57227, .int p57259, .int p57260])), (q57209, .inl (I .int, 100, .inl f57261)), (q57210, .inl (I .int, 100, .inl f57262)), (q57211, .inl (I .int, 40, .inl f57263)), (q57212, .inl (I .int, 100, .inl f57264)), (q57213, .inl (I .int, 100, .inl f57265)), (q57214, .inr (5, [.ref q57228, .ref q57229, .ref q57230, .ref q57231, .ref q57232, .ref q57233, .ref q57234, .ref q57235, .ref q57236, .int p57266, .int p57267, .int p57268])), (q57215, .inr (5, [.ref q57237, .ref q57238, .ref q57239, .ref q57240, .ref q57241, .ref q57242, .ref q57243, .ref q57244, .ref q57245, .int p57269, .int p57270, .int p57271])), (q57216, .inl (I .long, 40, .inr (.inl f57272))), (q57217, .inl (I .long, 40, .inr (.inl f57273))), (q57218, .inl (I .int, 40, .inl f57274)), (q57219, .inr (10, [.ref q57246, .ref q57247, .ref q57248, .ref q57249, .int p57275, .int p57276, .int p57277])), (q57220, .inl (I .long, 8640, .inr (.inl f57278))), (q57221, .inl (I .long, 12, .inr (.inl f57279))), (q57222, .inl (I .int, 720, .inl f57280)), (q57223, .inl (I .int, 720, .inl f57281)), (q57224, .inl (I .int, 720, .inl f57282)), (q57225, .inl (I .int, 720, .inl f57283)), (q57226, .inl (I .int, 720, .inl f57284)), (q57227, .inl (I .int, 720, .inl f57285)), (q57228, .inl (I .int, 40, .inl f57286)), (q57229, .inl (I .int, 40, .inl f57287)), (q57230, .inl (I .int, 40, .inl f57288)), (q57231, .inl (I .int, 920, .inl f57289)), (q57232, .inl (I .int, 920, .inl f57290)), (q57233, .inl (I .int, 920, .inl f57291)), (q57234, .inl (I .int, 920, .inl f57292)), (q57235, .inl (I .int, 920, .inl f57293)), (q57236, .inl (I .int, 920, .inl f57294)), (q57237, .inl (I .int, 40, .inl f57295)), (q57238, .inl (I .int, 40, .inl f57296)), (q57239, .inl (I .int, 40, .inl f57297)), (q57240, .inl (I .int, 920, .inl f57298)), (q57241, .inl (I .int, 920, .inl f57299)), (q57242, .inl (I .int, 920, .inl f57300)), (q57243, .inl (I .int, 920, .inl f57301)), (q57244, .inl (I .int, 920, .inl f57302)), (q57245, .inl (I .int, 920, .inl f57303)), (q57246, .inl (I .long, 480, .inr (.inl f57304))), (q57247, .inl (I .long, 480, .inr (.inl f57305))), (q57248, .inl (I .long, 480, .inr (.inl f57306))), (q57249, .inl (I .long, 12, .inr (.inl f57307)))]) (cs' := 0) (sl' := 0) rfl rfl rfl ?_
          refine G_if_eq 52 d_cX2_nextToMerge_47 (by decide +kernel) (fun hc59340 => ?_) (fun hc59340 => ?_)
          · have r59341 : o59339.toInt = 0 := gj_eq hc59340 (show Int32.toInt 0 = 0 by decide)
            have bo59339' : gB o59339 0 0 := ⟨by omega, by omega⟩
            obtain ⟨z59342, hz59342⟩ : ∃ z : Int32, z = g59305 + Int32.ofInt 1 := ⟨_, rfl⟩
            have ez59342 : z59342.toInt = g59305.toInt + 1 := gI_inc hz59342 (by decide) bg59305' (by decide) (by decide)
            have bz59342 : gB z59342 1 920 := ⟨by omega, by omega⟩
            refine G_iinc (L' := [(2, .int z59342), (0, .ref q57205), (1, .int p57250)]) z59342 0 d_cX2_nextToMerge_52 rfl hz59342.symm (Nat.le_of_ble_eq_true rfl) rfl ?_
            refine G_goto 2 d_cX2_nextToMerge_55 (by decide +kernel) ?_
            exact ih2_59305 z59342 (gB_w bz59342 (by decide) (by decide)) (by omega)
          · have r59343 : o59339.toInt ≠ 0 := gj_neq hc59340 (show Int32.toInt 0 = 0 by decide)
            have bo59339' : gB o59339 1 1 := ⟨by omega, by omega⟩
            refine G_iload_n 0 d_cX2_nextToMerge_50 rfl ?_
            exact G_iret d_cX2_nextToMerge_51 rfl (Nat.le_of_ble_eq_true rfl) (Nat.le_of_ble_eq_true rfl) ⟨g59305, rfl, rfl, (gB_w bg59305' (by decide) (by decide))⟩
  exact hlp2_59305 (((921 : Int) - 0).toNat + 1) 0 (gB_w (gBl (show Int32.toInt 0 = 0 by decide)) (by decide) (by decide)) (Nat.lt_succ_self _)
abbrev ky_59375_Code_drop : gKey := (cX0_drop, 4, yX0_drop.cls, none, [], yX0_drop.name, fun _ _ => True)
abbrev po_59375_Code_drop (I : FieldType → ClassId) (q59352 : Nat) (q59353 : Nat) (q59354 : Nat) (q59355 : Nat) (q59356 : Nat) (q59357 : Nat) (q59358 : Nat) (q59359 : Nat) (q59360 : Nat) (q59361 : Nat) (p59362 : Int32) (p59363 : Int32) (p59364 : Int32) (p59365 : Int32) (f59366 : Nat → Int32) (f59367 : Nat → Int32) (f59368 : Nat → Int32) (f59369 : Nat → Int32) (f59370 : Nat → Int32) (f59371 : Nat → Int32) (f59372 : Nat → Int32) (f59373 : Nat → Int32) (f59374 : Nat → Int32) : Option Value → va_W → Prop := fun r w => ∃ (o59481 : Int32) (f59482 : Nat → Int32) (f59483 : Nat → Int32) (f59484 : Nat → Int32) (f59485 : Nat → Int32) (f59486 : Nat → Int32) (f59487 : Nat → Int32) (f59488 : Nat → Int32), r = none ∧ w = [(q59352, .inr (5, [.ref q59353, .ref q59354, .ref q59355, .ref q59356, .ref q59357, .ref q59358, .ref q59359, .ref q59360, .ref q59361, .int p59363, .int o59481, .int p59365])), (q59353, .inl (I .int, 40, .inl f59482)), (q59354, .inl (I .int, 40, .inl f59367)), (q59355, .inl (I .int, 40, .inl f59368)), (q59356, .inl (I .int, 920, .inl f59483)), (q59357, .inl (I .int, 920, .inl f59484)), (q59358, .inl (I .int, 920, .inl f59485)), (q59359, .inl (I .int, 920, .inl f59486)), (q59360, .inl (I .int, 920, .inl f59487)), (q59361, .inl (I .int, 920, .inl f59488))] ∧ gB o59481 0 920 ∧ gF f59482 0 920 ∧ gF f59483 0 21 ∧ gF f59484 (-2147483648) 2147483647 ∧ gF f59485 (-2147483648) 2147483647 ∧ gF f59486 (-2147483648) 2147483647 ∧ gF f59487 (-2147483648) 2147483647 ∧ gF f59488 (-2147483648) 2147483647
set_option maxRecDepth 100000 in
set_option maxHeartbeats 4000000 in
theorem ct_59375_Code_drop (l : Launch) (hl0 : l.stackTraces = false) (D : va_G) (I : FieldType → ClassId) (q59352 : Nat) (q59353 : Nat) (q59354 : Nat) (q59355 : Nat) (q59356 : Nat) (q59357 : Nat) (q59358 : Nat) (q59359 : Nat) (q59360 : Nat) (q59361 : Nat) (p59362 : Int32) (p59363 : Int32) (p59364 : Int32) (p59365 : Int32) (f59366 : Nat → Int32) (f59367 : Nat → Int32) (f59368 : Nat → Int32) (f59369 : Nat → Int32) (f59370 : Nat → Int32) (f59371 : Nat → Int32) (f59372 : Nat → Int32) (f59373 : Nat → Int32) (f59374 : Nat → Int32) (bp59362 : gB p59362 0 919) (bp59363 : gB p59363 0 40) (bp59364 : gB p59364 0 920) (bp59365 : gB p59365 0 1) (bf59366 : gF f59366 0 920) (bf59369 : gF f59369 0 21) : Ct (gV D I) l yX0_drop cX0_drop 4 none 1 18 0 0 [.ref q59352, .int p59362] [(q59352, .inr (5, [.ref q59353, .ref q59354, .ref q59355, .ref q59356, .ref q59357, .ref q59358, .ref q59359, .ref q59360, .ref q59361, .int p59363, .int p59364, .int p59365])), (q59353, .inl (I .int, 40, .inl f59366)), (q59354, .inl (I .int, 40, .inl f59367)), (q59355, .inl (I .int, 40, .inl f59368)), (q59356, .inl (I .int, 920, .inl f59369)), (q59357, .inl (I .int, 920, .inl f59370)), (q59358, .inl (I .int, 920, .inl f59371)), (q59359, .inl (I .int, 920, .inl f59372)), (q59360, .inl (I .int, 920, .inl f59373)), (q59361, .inl (I .int, 920, .inl f59374))] (po_59375_Code_drop I q59352 q59353 q59354 q59355 q59356 q59357 q59358 q59359 q59360 q59361 p59362 p59363 p59364 p59365 f59366 f59367 f59368 f59369 f59370 f59371 f59372 f59373 f59374) gN := by
  refine Ct_of hl0 (by decide) (Nat.le_of_ble_eq_true rfl) ?_
  refine G_aload_n 0 d_cX0_drop_0 rfl ?_
  refine G_getf 0 10 d_cX0_drop_1 rfl (gk_X0 D I) (Nat.le_of_ble_eq_true rfl) w_1_197 rfl ?_
  refine G_iload_n 1 d_cX0_drop_4 rfl ?_
  refine G_isub d_cX0_drop_5 (G_nam fun z59376 hz59376 => ?_)
  have ez59376 : z59376.toInt = p59364.toInt - p59362.toInt := by rw [gI_sub hz59376 bp59364 bp59362 (by decide) (by decide)]
  have bz59376 : gB z59376 (-919) 920 := gB_sub (gI_sub hz59376 bp59364 bp59362 (by decide) (by decide)) bp59364 bp59362 (by decide) (by decide)
  refine G_iconst 1 d_cX0_drop_6 (by decide +kernel) ?_
  refine G_isub d_cX0_drop_7 (G_nam fun z59377 hz59377 => ?_)
  have ez59377 : z59377.toInt = z59376.toInt - 1 := by rw [gI_sub hz59377 bz59376 (gBl (show Int32.toInt 1 = 1 by decide)) (by decide) (by decide), show Int32.toInt 1 = 1 from by decide]
  have bz59377 : gB z59377 (-920) 919 := gB_sub (gI_sub hz59377 bz59376 (gBl (show Int32.toInt 1 = 1 by decide)) (by decide) (by decide)) bz59376 (gBl (show Int32.toInt 1 = 1 by decide)) (by decide) (by decide)
  refine G_istore_n (L' := [(2, .int z59377), (0, .ref q59352), (1, .int p59362)]) d_cX0_drop_8 (Nat.le_of_ble_eq_true rfl) rfl ?_
  refine G_iload_n 2 d_cX0_drop_9 rfl ?_
  refine G_if_lt 17 d_cX0_drop_10 (by decide +kernel) (fun hc => absurd (show False by have := gj_lt hc (show Int32.toInt 0 = 0 by decide); omega) not_false) (fun _ => ?_)
  refine G_iload_n 0 d_cX0_drop_13 rfl ?_
  refine G_if_ge 18 d_cX0_drop_14 (by decide +kernel) (fun hc59378 => ?_) (fun hc59378 => ?_)
  · have r59379 : 0 ≤ z59377.toInt := gj_leL hc59378 (show Int32.toInt 0 = 0 by decide)
    have bz59377' : gB z59377 0 919 := ⟨by omega, by omega⟩
    refine G_aload_n 1 d_cX0_drop_18 rfl ?_
    refine G_getf 0 3 d_cX0_drop_19 rfl (gk_X0 D I) (Nat.le_of_ble_eq_true rfl) w_1_159 rfl ?_
    refine G_iload_n 2 d_cX0_drop_22 rfl ?_
    refine G_iconst 1 d_cX0_drop_23 (by decide +kernel) ?_
    refine G_iadd d_cX0_drop_24 (G_nam fun z59380 hz59380 => ?_)
    have ez59380 : z59380.toInt = p59362.toInt + 1 := by rw [gI_add hz59380 bp59362 (gBl (show Int32.toInt 1 = 1 by decide)) (by decide) (by decide), show Int32.toInt 1 = 1 from by decide]
    have bz59380 : gB z59380 1 920 := gB_add (gI_add hz59380 bp59362 (gBl (show Int32.toInt 1 = 1 by decide)) (by decide) (by decide)) bp59362 (gBl (show Int32.toInt 1 = 1 by decide)) (by decide) (by decide)
    refine G_aload_n 1 d_cX0_drop_25 rfl ?_
    refine G_getf 0 3 d_cX0_drop_26 rfl (gk_X0 D I) (Nat.le_of_ble_eq_true rfl) w_1_159 rfl ?_
    refine G_iload_n 2 d_cX0_drop_29 rfl ?_
    refine G_iload_n 0 d_cX0_drop_30 rfl ?_
    refine G_copyi 4 4 0 0 d_cX0_drop_31 w_5_111 w_5_113 w_5_112 w_1_34 rfl rfl rfl rfl (by omega) (by omega) (by omega) (by omega) (by omega) (Nat.le_of_ble_eq_true rfl) (Nat.le_of_ble_eq_true rfl) (fun f59381 hf59381 => ?_)
    refine G_ws (ws' := [(q59352, .inr (5, [.ref q59353, .ref q59354, .ref q59355, .ref q59356, .ref q59357, .ref q59358, .ref q59359, .ref q59360, .ref q59361, .int p59363, .int p59364, .int p59365])), (q59353, .inl (I .int, 40, .inl f59366)), (q59354, .inl (I .int, 40, .inl f59367)), (q59355, .inl (I .int, 40, .inl f59368)), (q59356, .inl (I .int, 920, .inl f59381)), (q59357, .inl (I .int, 920, .inl f59370)), (q59358, .inl (I .int, 920, .inl f59371)), (q59359, .inl (I .int, 920, .inl f59372)), (q59360, .inl (I .int, 920, .inl f59373)), (q59361, .inl (I .int, 920, .inl f59374))]) (cs' := 0) (sl' := 0) rfl rfl rfl ?_
    have bf59381 : gF f59381 0 21 := gF_cpy hf59381 bf59369 bf59369
    refine G_aload_n 1 d_cX0_drop_34 rfl ?_
    refine G_getf 0 4 d_cX0_drop_35 rfl (gk_X0 D I) (Nat.le_of_ble_eq_true rfl) w_1_163 rfl ?_
    refine G_iload_n 2 d_cX0_drop_38 rfl ?_
    refine G_iconst 1 d_cX0_drop_39 (by decide +kernel) ?_
    refine G_iadd d_cX0_drop_40 (G_nam fun z59382 hz59382 => ?_)
    have ez59382 : z59382.toInt = p59362.toInt + 1 := by rw [gI_add hz59382 bp59362 (gBl (show Int32.toInt 1 = 1 by decide)) (by decide) (by decide), show Int32.toInt 1 = 1 from by decide]
    have bz59382 : gB z59382 1 920 := gB_add (gI_add hz59382 bp59362 (gBl (show Int32.toInt 1 = 1 by decide)) (by decide) (by decide)) bp59362 (gBl (show Int32.toInt 1 = 1 by decide)) (by decide) (by decide)
    refine G_aload_n 1 d_cX0_drop_41 rfl ?_
    refine G_getf 0 4 d_cX0_drop_42 rfl (gk_X0 D I) (Nat.le_of_ble_eq_true rfl) w_1_163 rfl ?_
    refine G_iload_n 2 d_cX0_drop_45 rfl ?_
    refine G_iload_n 0 d_cX0_drop_46 rfl ?_
    refine G_copyi 5 5 0 0 d_cX0_drop_47 w_5_111 w_5_113 w_5_112 w_1_34 rfl rfl rfl rfl (by omega) (by omega) (by omega) (by omega) (by omega) (Nat.le_of_ble_eq_true rfl) (Nat.le_of_ble_eq_true rfl) (fun f59383 hf59383 => ?_)
    refine G_ws (ws' := [(q59352, .inr (5, [.ref q59353, .ref q59354, .ref q59355, .ref q59356, .ref q59357, .ref q59358, .ref q59359, .ref q59360, .ref q59361, .int p59363, .int p59364, .int p59365])), (q59353, .inl (I .int, 40, .inl f59366)), (q59354, .inl (I .int, 40, .inl f59367)), (q59355, .inl (I .int, 40, .inl f59368)), (q59356, .inl (I .int, 920, .inl f59381)), (q59357, .inl (I .int, 920, .inl f59383)), (q59358, .inl (I .int, 920, .inl f59371)), (q59359, .inl (I .int, 920, .inl f59372)), (q59360, .inl (I .int, 920, .inl f59373)), (q59361, .inl (I .int, 920, .inl f59374))]) (cs' := 0) (sl' := 0) rfl rfl rfl ?_
    refine G_aload_n 1 d_cX0_drop_50 rfl ?_
    refine G_getf 0 5 d_cX0_drop_51 rfl (gk_X0 D I) (Nat.le_of_ble_eq_true rfl) w_1_168 rfl ?_
    refine G_iload_n 2 d_cX0_drop_54 rfl ?_
    refine G_iconst 1 d_cX0_drop_55 (by decide +kernel) ?_
    refine G_iadd d_cX0_drop_56 (G_nam fun z59384 hz59384 => ?_)
    have ez59384 : z59384.toInt = p59362.toInt + 1 := by rw [gI_add hz59384 bp59362 (gBl (show Int32.toInt 1 = 1 by decide)) (by decide) (by decide), show Int32.toInt 1 = 1 from by decide]
    have bz59384 : gB z59384 1 920 := gB_add (gI_add hz59384 bp59362 (gBl (show Int32.toInt 1 = 1 by decide)) (by decide) (by decide)) bp59362 (gBl (show Int32.toInt 1 = 1 by decide)) (by decide) (by decide)
    refine G_aload_n 1 d_cX0_drop_57 rfl ?_
    refine G_getf 0 5 d_cX0_drop_58 rfl (gk_X0 D I) (Nat.le_of_ble_eq_true rfl) w_1_168 rfl ?_
    refine G_iload_n 2 d_cX0_drop_61 rfl ?_
    refine G_iload_n 0 d_cX0_drop_62 rfl ?_
    refine G_copyi 6 6 0 0 d_cX0_drop_63 w_5_111 w_5_113 w_5_112 w_1_34 rfl rfl rfl rfl (by omega) (by omega) (by omega) (by omega) (by omega) (Nat.le_of_ble_eq_true rfl) (Nat.le_of_ble_eq_true rfl) (fun f59385 hf59385 => ?_)
    refine G_ws (ws' := [(q59352, .inr (5, [.ref q59353, .ref q59354, .ref q59355, .ref q59356, .ref q59357, .ref q59358, .ref q59359, .ref q59360, .ref q59361, .int p59363, .int p59364, .int p59365])), (q59353, .inl (I .int, 40, .inl f59366)), (q59354, .inl (I .int, 40, .inl f59367)), (q59355, .inl (I .int, 40, .inl f59368)), (q59356, .inl (I .int, 920, .inl f59381)), (q59357, .inl (I .int, 920, .inl f59383)), (q59358, .inl (I .int, 920, .inl f59385)), (q59359, .inl (I .int, 920, .inl f59372)), (q59360, .inl (I .int, 920, .inl f59373)), (q59361, .inl (I .int, 920, .inl f59374))]) (cs' := 0) (sl' := 0) rfl rfl rfl ?_
    refine G_aload_n 1 d_cX0_drop_66 rfl ?_
    refine G_getf 0 6 d_cX0_drop_67 rfl (gk_X0 D I) (Nat.le_of_ble_eq_true rfl) w_1_174 rfl ?_
    refine G_iload_n 2 d_cX0_drop_70 rfl ?_
    refine G_iconst 1 d_cX0_drop_71 (by decide +kernel) ?_
    refine G_iadd d_cX0_drop_72 (G_nam fun z59386 hz59386 => ?_)
    have ez59386 : z59386.toInt = p59362.toInt + 1 := by rw [gI_add hz59386 bp59362 (gBl (show Int32.toInt 1 = 1 by decide)) (by decide) (by decide), show Int32.toInt 1 = 1 from by decide]
    have bz59386 : gB z59386 1 920 := gB_add (gI_add hz59386 bp59362 (gBl (show Int32.toInt 1 = 1 by decide)) (by decide) (by decide)) bp59362 (gBl (show Int32.toInt 1 = 1 by decide)) (by decide) (by decide)
    refine G_aload_n 1 d_cX0_drop_73 rfl ?_
    refine G_getf 0 6 d_cX0_drop_74 rfl (gk_X0 D I) (Nat.le_of_ble_eq_true rfl) w_1_174 rfl ?_
    refine G_iload_n 2 d_cX0_drop_77 rfl ?_
    refine G_iload_n 0 d_cX0_drop_78 rfl ?_
    refine G_copyi 7 7 0 0 d_cX0_drop_79 w_5_111 w_5_113 w_5_112 w_1_34 rfl rfl rfl rfl (by omega) (by omega) (by omega) (by omega) (by omega) (Nat.le_of_ble_eq_true rfl) (Nat.le_of_ble_eq_true rfl) (fun f59387 hf59387 => ?_)
    refine G_ws (ws' := [(q59352, .inr (5, [.ref q59353, .ref q59354, .ref q59355, .ref q59356, .ref q59357, .ref q59358, .ref q59359, .ref q59360, .ref q59361, .int p59363, .int p59364, .int p59365])), (q59353, .inl (I .int, 40, .inl f59366)), (q59354, .inl (I .int, 40, .inl f59367)), (q59355, .inl (I .int, 40, .inl f59368)), (q59356, .inl (I .int, 920, .inl f59381)), (q59357, .inl (I .int, 920, .inl f59383)), (q59358, .inl (I .int, 920, .inl f59385)), (q59359, .inl (I .int, 920, .inl f59387)), (q59360, .inl (I .int, 920, .inl f59373)), (q59361, .inl (I .int, 920, .inl f59374))]) (cs' := 0) (sl' := 0) rfl rfl rfl ?_
    refine G_aload_n 1 d_cX0_drop_82 rfl ?_
    refine G_getf 0 7 d_cX0_drop_83 rfl (gk_X0 D I) (Nat.le_of_ble_eq_true rfl) w_1_178 rfl ?_
    refine G_iload_n 2 d_cX0_drop_86 rfl ?_
    refine G_iconst 1 d_cX0_drop_87 (by decide +kernel) ?_
    refine G_iadd d_cX0_drop_88 (G_nam fun z59388 hz59388 => ?_)
    have ez59388 : z59388.toInt = p59362.toInt + 1 := by rw [gI_add hz59388 bp59362 (gBl (show Int32.toInt 1 = 1 by decide)) (by decide) (by decide), show Int32.toInt 1 = 1 from by decide]
    have bz59388 : gB z59388 1 920 := gB_add (gI_add hz59388 bp59362 (gBl (show Int32.toInt 1 = 1 by decide)) (by decide) (by decide)) bp59362 (gBl (show Int32.toInt 1 = 1 by decide)) (by decide) (by decide)
    refine G_aload_n 1 d_cX0_drop_89 rfl ?_
    refine G_getf 0 7 d_cX0_drop_90 rfl (gk_X0 D I) (Nat.le_of_ble_eq_true rfl) w_1_178 rfl ?_
    refine G_iload_n 2 d_cX0_drop_93 rfl ?_
    refine G_iload_n 0 d_cX0_drop_94 rfl ?_
    refine G_copyi 8 8 0 0 d_cX0_drop_95 w_5_111 w_5_113 w_5_112 w_1_34 rfl rfl rfl rfl (by omega) (by omega) (by omega) (by omega) (by omega) (Nat.le_of_ble_eq_true rfl) (Nat.le_of_ble_eq_true rfl) (fun f59389 hf59389 => ?_)
    refine G_ws (ws' := [(q59352, .inr (5, [.ref q59353, .ref q59354, .ref q59355, .ref q59356, .ref q59357, .ref q59358, .ref q59359, .ref q59360, .ref q59361, .int p59363, .int p59364, .int p59365])), (q59353, .inl (I .int, 40, .inl f59366)), (q59354, .inl (I .int, 40, .inl f59367)), (q59355, .inl (I .int, 40, .inl f59368)), (q59356, .inl (I .int, 920, .inl f59381)), (q59357, .inl (I .int, 920, .inl f59383)), (q59358, .inl (I .int, 920, .inl f59385)), (q59359, .inl (I .int, 920, .inl f59387)), (q59360, .inl (I .int, 920, .inl f59389)), (q59361, .inl (I .int, 920, .inl f59374))]) (cs' := 0) (sl' := 0) rfl rfl rfl ?_
    refine G_aload_n 1 d_cX0_drop_98 rfl ?_
    refine G_getf 0 8 d_cX0_drop_99 rfl (gk_X0 D I) (Nat.le_of_ble_eq_true rfl) w_1_183 rfl ?_
    refine G_iload_n 2 d_cX0_drop_102 rfl ?_
    refine G_iconst 1 d_cX0_drop_103 (by decide +kernel) ?_
    refine G_iadd d_cX0_drop_104 (G_nam fun z59390 hz59390 => ?_)
    have ez59390 : z59390.toInt = p59362.toInt + 1 := by rw [gI_add hz59390 bp59362 (gBl (show Int32.toInt 1 = 1 by decide)) (by decide) (by decide), show Int32.toInt 1 = 1 from by decide]
    have bz59390 : gB z59390 1 920 := gB_add (gI_add hz59390 bp59362 (gBl (show Int32.toInt 1 = 1 by decide)) (by decide) (by decide)) bp59362 (gBl (show Int32.toInt 1 = 1 by decide)) (by decide) (by decide)
    refine G_aload_n 1 d_cX0_drop_105 rfl ?_
    refine G_getf 0 8 d_cX0_drop_106 rfl (gk_X0 D I) (Nat.le_of_ble_eq_true rfl) w_1_183 rfl ?_
    refine G_iload_n 2 d_cX0_drop_109 rfl ?_
    refine G_iload_n 0 d_cX0_drop_110 rfl ?_
    refine G_copyi 9 9 0 0 d_cX0_drop_111 w_5_111 w_5_113 w_5_112 w_1_34 rfl rfl rfl rfl (by omega) (by omega) (by omega) (by omega) (by omega) (Nat.le_of_ble_eq_true rfl) (Nat.le_of_ble_eq_true rfl) (fun f59391 hf59391 => ?_)
    refine G_ws (ws' := [(q59352, .inr (5, [.ref q59353, .ref q59354, .ref q59355, .ref q59356, .ref q59357, .ref q59358, .ref q59359, .ref q59360, .ref q59361, .int p59363, .int p59364, .int p59365])), (q59353, .inl (I .int, 40, .inl f59366)), (q59354, .inl (I .int, 40, .inl f59367)), (q59355, .inl (I .int, 40, .inl f59368)), (q59356, .inl (I .int, 920, .inl f59381)), (q59357, .inl (I .int, 920, .inl f59383)), (q59358, .inl (I .int, 920, .inl f59385)), (q59359, .inl (I .int, 920, .inl f59387)), (q59360, .inl (I .int, 920, .inl f59389)), (q59361, .inl (I .int, 920, .inl f59391))]) (cs' := 0) (sl' := 0) rfl rfl rfl ?_
    refine G_aload_n 1 d_cX0_drop_114 rfl ?_
    refine G_dup d_cX0_drop_115 rfl ?_
    refine G_getf 0 10 d_cX0_drop_116 rfl (gk_X0 D I) (Nat.le_of_ble_eq_true rfl) w_1_197 rfl ?_
    refine G_iconst 1 d_cX0_drop_119 (by decide +kernel) ?_
    refine G_isub d_cX0_drop_120 (G_nam fun z59392 hz59392 => ?_)
    have ez59392 : z59392.toInt = p59364.toInt - 1 := by rw [gI_sub hz59392 bp59364 (gBl (show Int32.toInt 1 = 1 by decide)) (by decide) (by decide), show Int32.toInt 1 = 1 from by decide]
    have bz59392 : gB z59392 (-1) 919 := gB_sub (gI_sub hz59392 bp59364 (gBl (show Int32.toInt 1 = 1 by decide)) (by decide) (by decide)) bp59364 (gBl (show Int32.toInt 1 = 1 by decide)) (by decide) (by decide)
    refine G_putf (ws' := [(q59352, .inr (5, [.ref q59353, .ref q59354, .ref q59355, .ref q59356, .ref q59357, .ref q59358, .ref q59359, .ref q59360, .ref q59361, .int p59363, .int z59392, .int p59365])), (q59353, .inl (I .int, 40, .inl f59366)), (q59354, .inl (I .int, 40, .inl f59367)), (q59355, .inl (I .int, 40, .inl f59368)), (q59356, .inl (I .int, 920, .inl f59381)), (q59357, .inl (I .int, 920, .inl f59383)), (q59358, .inl (I .int, 920, .inl f59385)), (q59359, .inl (I .int, 920, .inl f59387)), (q59360, .inl (I .int, 920, .inl f59389)), (q59361, .inl (I .int, 920, .inl f59391))]) 0 10 d_cX0_drop_121 rfl (gk_X0 D I) (Nat.le_of_ble_eq_true rfl) w_1_197 rfl rfl rfl (Nat.le_of_ble_eq_true rfl) rfl ?_
    refine G_iconst 0 d_cX0_drop_124 (by decide +kernel) ?_
    refine G_istore_n (L' := [(3, .int 0), (2, .int z59377), (0, .ref q59352), (1, .int p59362)]) d_cX0_drop_125 (Nat.le_of_ble_eq_true rfl) rfl ?_
    have hlp126_59468 : ∀ (n126_59468 : Nat) (g59467 : Int32) (f59468 : Nat → Int32), gB g59467 0 40 → gF f59468 0 920 → ((41 : Int) - g59467.toInt).toNat < n126_59468 → G (gV D I) l (gRm 1 18 0 0) (gM (gV D I) (po_59375_Code_drop I q59352 q59353 q59354 q59355 q59356 q59357 q59358 q59359 q59360 q59361 p59362 p59363 p59364 p59365 f59366 f59367 f59368 f59369 f59370 f59371 f59372 f59373 f59374) gN 0 0) ky_59375_Code_drop 126 [(3, .int g59467), (2, .int z59377), (0, .ref q59352), (1, .int p59362)] [] [(q59352, .inr (5, [.ref q59353, .ref q59354, .ref q59355, .ref q59356, .ref q59357, .ref q59358, .ref q59359, .ref q59360, .ref q59361, .int p59363, .int z59392, .int p59365])), (q59353, .inl (I .int, 40, .inl f59468)), (q59354, .inl (I .int, 40, .inl f59367)), (q59355, .inl (I .int, 40, .inl f59368)), (q59356, .inl (I .int, 920, .inl f59381)), (q59357, .inl (I .int, 920, .inl f59383)), (q59358, .inl (I .int, 920, .inl f59385)), (q59359, .inl (I .int, 920, .inl f59387)), (q59360, .inl (I .int, 920, .inl f59389)), (q59361, .inl (I .int, 920, .inl f59391))] 0 0 := by
      intro n126_59468
      induction n126_59468 with
      | zero => intro g59467 f59468 bg59467 bf59468 hm126_59468; exact absurd hm126_59468 (Nat.not_lt_zero _)
      | succ n126_59468 ih126_59468 =>
        intro g59467 f59468 bg59467 bf59468 hm126_59468
        refine G_iload_n 0 d_cX0_drop_126 rfl ?_
        refine G_aload_n 2 d_cX0_drop_127 rfl ?_
        refine G_getf 0 9 d_cX0_drop_128 rfl (gk_X0 D I) (Nat.le_of_ble_eq_true rfl) w_1_187 rfl ?_
        refine G_icmp_ge 160 d_cX0_drop_131 (by decide +kernel) (fun hc59469 => ?_) (fun hc59469 => ?_)
        · have r59470 : p59363.toInt ≤ g59467.toInt := gC_le hc59469
          exact G_vret d_cX0_drop_160 rfl (Nat.le_of_ble_eq_true rfl) (Nat.le_of_ble_eq_true rfl) ⟨z59392, f59468, f59381, f59383, f59385, f59387, f59389, f59391, rfl, rfl, ⟨by omega, by omega⟩, bf59468, bf59381, (gF_any f59383), (gF_any f59385), (gF_any f59387), (gF_any f59389), (gF_any f59391)⟩
        · have r59471 : g59467.toInt < p59363.toInt := gC_nle hc59469
          have bg59467' : gB g59467 0 39 := ⟨by omega, by omega⟩
          have bp59363' : gB p59363 1 40 := ⟨by omega, by omega⟩
          refine G_aload_n 2 d_cX0_drop_134 rfl ?_
          refine G_getf 0 0 d_cX0_drop_135 rfl (gk_X0 D I) (Nat.le_of_ble_eq_true rfl) w_1_142 rfl ?_
          refine G_iload_n 0 d_cX0_drop_138 rfl ?_
          refine G_iald 1 0 d_cX0_drop_139 rfl rfl (gB_in bg59467' (by decide) (by decide)) (G_nam fun z59472 hz59472 => ?_)
          have bz59472 : gB z59472 0 920 := by rw [hz59472]; exact bf59468 _
          refine G_iload_n 3 d_cX0_drop_140 rfl ?_
          refine G_icmp_le 154 d_cX0_drop_141 (by decide +kernel) (fun hc59473 => ?_) (fun hc59473 => ?_)
          · have r59474 : z59472.toInt ≤ p59362.toInt := gC_le hc59473
            have bz59472' : gB z59472 0 919 := ⟨by omega, by omega⟩
            obtain ⟨z59475, hz59475⟩ : ∃ z : Int32, z = g59467 + Int32.ofInt 1 := ⟨_, rfl⟩
            have ez59475 : z59475.toInt = g59467.toInt + 1 := gI_inc hz59475 (by decide) bg59467' (by decide) (by decide)
            have bz59475 : gB z59475 1 40 := ⟨by omega, by omega⟩
            refine G_iinc (L' := [(3, .int z59475), (2, .int z59377), (0, .ref q59352), (1, .int p59362)]) z59475 0 d_cX0_drop_154 rfl hz59475.symm (Nat.le_of_ble_eq_true rfl) rfl ?_
            refine G_goto 126 d_cX0_drop_157 (by decide +kernel) ?_
            exact ih126_59468 z59475 f59468 (gB_w bz59475 (by decide) (by decide)) bf59468 (by omega)
          · have r59476 : p59362.toInt < z59472.toInt := gC_nle hc59473
            have bz59472' : gB z59472 1 920 := ⟨by omega, by omega⟩
            refine G_aload_n 2 d_cX0_drop_144 rfl ?_
            refine G_getf 0 0 d_cX0_drop_145 rfl (gk_X0 D I) (Nat.le_of_ble_eq_true rfl) w_1_142 rfl ?_
            refine G_iload_n 0 d_cX0_drop_148 rfl ?_
            refine G_dup2_11 d_cX0_drop_149 rfl rfl ?_
            refine G_iald 1 0 d_cX0_drop_150 rfl rfl (gB_in bg59467' (by decide) (by decide)) (G_eqi (y := z59472) hz59472.symm ?_)
            refine G_iconst 1 d_cX0_drop_151 (by decide +kernel) ?_
            refine G_isub d_cX0_drop_152 (G_nam fun z59477 hz59477 => ?_)
            have ez59477 : z59477.toInt = z59472.toInt - 1 := by rw [gI_sub hz59477 bz59472' (gBl (show Int32.toInt 1 = 1 by decide)) (by decide) (by decide), show Int32.toInt 1 = 1 from by decide]
            have bz59477 : gB z59477 0 919 := gB_sub (gI_sub hz59477 bz59472' (gBl (show Int32.toInt 1 = 1 by decide)) (by decide) (by decide)) bz59472' (gBl (show Int32.toInt 1 = 1 by decide)) (by decide) (by decide)
            refine G_iastN 1 0 d_cX0_drop_153 rfl rfl (gB_in bg59467' (by decide) (by decide)) (fun f59478 hf59478 => ?_)
            refine G_ws (ws' := [(q59352, .inr (5, [.ref q59353, .ref q59354, .ref q59355, .ref q59356, .ref q59357, .ref q59358, .ref q59359, .ref q59360, .ref q59361, .int p59363, .int z59392, .int p59365])), (q59353, .inl (I .int, 40, .inl f59478)), (q59354, .inl (I .int, 40, .inl f59367)), (q59355, .inl (I .int, 40, .inl f59368)), (q59356, .inl (I .int, 920, .inl f59381)), (q59357, .inl (I .int, 920, .inl f59383)), (q59358, .inl (I .int, 920, .inl f59385)), (q59359, .inl (I .int, 920, .inl f59387)), (q59360, .inl (I .int, 920, .inl f59389)), (q59361, .inl (I .int, 920, .inl f59391))]) (cs' := 0) (sl' := 0) rfl rfl rfl ?_
            have bf59478 : gF f59478 0 920 := gF_upd hf59478 bf59468 (gB_w bz59477 (by decide) (by decide))
            obtain ⟨z59479, hz59479⟩ : ∃ z : Int32, z = g59467 + Int32.ofInt 1 := ⟨_, rfl⟩
            have ez59479 : z59479.toInt = g59467.toInt + 1 := gI_inc hz59479 (by decide) bg59467' (by decide) (by decide)
            have bz59479 : gB z59479 1 40 := ⟨by omega, by omega⟩
            refine G_iinc (L' := [(3, .int z59479), (2, .int z59377), (0, .ref q59352), (1, .int p59362)]) z59479 0 d_cX0_drop_154 rfl hz59479.symm (Nat.le_of_ble_eq_true rfl) rfl ?_
            refine G_goto 126 d_cX0_drop_157 (by decide +kernel) ?_
            exact ih126_59468 z59479 f59478 (gB_w bz59479 (by decide) (by decide)) bf59478 (by omega)
    exact hlp126_59468 (((41 : Int) - 0).toNat + 1) 0 f59366 (gB_w (gBl (show Int32.toInt 0 = 0 by decide)) (by decide) (by decide)) bf59366 (Nat.lt_succ_self _)
  · have r59480 : z59377.toInt < 0 := gj_nleL hc59378 (show Int32.toInt 0 = 0 by decide)
    have bz59377' : gB z59377 (-920) (-1) := ⟨by omega, by omega⟩
    exact G_vret d_cX0_drop_17 rfl (Nat.le_of_ble_eq_true rfl) (Nat.le_of_ble_eq_true rfl) ⟨p59364, f59366, f59369, f59370, f59371, f59372, f59373, f59374, rfl, rfl, bp59364, bf59366, bf59369, (gF_any f59370), (gF_any f59371), (gF_any f59372), (gF_any f59373), (gF_any f59374)⟩
abbrev ky_59521_Code_replace : gKey := (cX0_replace, 4, yX0_replace.cls, none, [], yX0_replace.name, fun _ _ => True)
abbrev po_59521_Code_replace (I : FieldType → ClassId) (q59497 : Nat) (q59498 : Nat) (q59499 : Nat) (q59500 : Nat) (q59501 : Nat) (q59502 : Nat) (q59503 : Nat) (q59504 : Nat) (q59505 : Nat) (q59506 : Nat) (p59507 : Int32) (p59508 : Int32) (p59509 : Int32) (p59510 : Int32) (p59511 : Int32) (f59512 : Nat → Int32) (f59513 : Nat → Int32) (f59514 : Nat → Int32) (f59515 : Nat → Int32) (f59516 : Nat → Int32) (f59517 : Nat → Int32) (f59518 : Nat → Int32) (f59519 : Nat → Int32) (f59520 : Nat → Int32) : Option Value → va_W → Prop := fun r w => ∃ (f59909 : Nat → Int32) (f59910 : Nat → Int32) (f59911 : Nat → Int32), r = none ∧ w = [(q59497, .inr (5, [.ref q59498, .ref q59499, .ref q59500, .ref q59501, .ref q59502, .ref q59503, .ref q59504, .ref q59505, .ref q59506, .int p59509, .int p59510, .int p59511])), (q59498, .inl (I .int, 40, .inl f59512)), (q59499, .inl (I .int, 40, .inl f59513)), (q59500, .inl (I .int, 40, .inl f59514)), (q59501, .inl (I .int, 920, .inl f59515)), (q59502, .inl (I .int, 920, .inl f59909)), (q59503, .inl (I .int, 920, .inl f59910)), (q59504, .inl (I .int, 920, .inl f59518)), (q59505, .inl (I .int, 920, .inl f59911)), (q59506, .inl (I .int, 920, .inl f59520))] ∧ gF f59909 (-2147483648) 2147483647 ∧ gF f59910 (-2147483648) 2147483647 ∧ gF f59911 (-2147483648) 2147483647
set_option maxRecDepth 100000 in
set_option maxHeartbeats 4000000 in
theorem ct_59521_Code_replace (l : Launch) (hl0 : l.stackTraces = false) (D : va_G) (I : FieldType → ClassId) (q59497 : Nat) (q59498 : Nat) (q59499 : Nat) (q59500 : Nat) (q59501 : Nat) (q59502 : Nat) (q59503 : Nat) (q59504 : Nat) (q59505 : Nat) (q59506 : Nat) (p59507 : Int32) (p59508 : Int32) (p59509 : Int32) (p59510 : Int32) (p59511 : Int32) (f59512 : Nat → Int32) (f59513 : Nat → Int32) (f59514 : Nat → Int32) (f59515 : Nat → Int32) (f59516 : Nat → Int32) (f59517 : Nat → Int32) (f59518 : Nat → Int32) (f59519 : Nat → Int32) (f59520 : Nat → Int32) (bp59509 : gB p59509 0 40) (bp59510 : gB p59510 0 920) (bp59511 : gB p59511 0 1) (bf59512 : gF f59512 0 920) (bf59515 : gF f59515 0 21) : Ct (gV D I) l yX0_replace cX0_replace 4 none 0 0 0 0 [.ref q59497, .int p59507, .int p59508] [(q59497, .inr (5, [.ref q59498, .ref q59499, .ref q59500, .ref q59501, .ref q59502, .ref q59503, .ref q59504, .ref q59505, .ref q59506, .int p59509, .int p59510, .int p59511])), (q59498, .inl (I .int, 40, .inl f59512)), (q59499, .inl (I .int, 40, .inl f59513)), (q59500, .inl (I .int, 40, .inl f59514)), (q59501, .inl (I .int, 920, .inl f59515)), (q59502, .inl (I .int, 920, .inl f59516)), (q59503, .inl (I .int, 920, .inl f59517)), (q59504, .inl (I .int, 920, .inl f59518)), (q59505, .inl (I .int, 920, .inl f59519)), (q59506, .inl (I .int, 920, .inl f59520))] (po_59521_Code_replace I q59497 q59498 q59499 q59500 q59501 q59502 q59503 q59504 q59505 q59506 p59507 p59508 p59509 p59510 p59511 f59512 f59513 f59514 f59515 f59516 f59517 f59518 f59519 f59520) gN := by
  refine Ct_of hl0 (by decide) (Nat.le_of_ble_eq_true rfl) ?_
  have bp59507 := gB_any p59507
  have bp59508 := gB_any p59508
  refine G_iconst 0 d_cX0_replace_0 (by decide +kernel) ?_
  refine G_istore_n (L' := [(3, .int 0), (0, .ref q59497), (1, .int p59507), (2, .int p59508)]) d_cX0_replace_1 (Nat.le_of_ble_eq_true rfl) rfl ?_
  have hlp2_59855 : ∀ (n2_59855 : Nat) (g59852 : Int32) (f59853 : Nat → Int32) (f59854 : Nat → Int32) (f59855 : Nat → Int32), gB g59852 0 920 → gF f59853 (-2147483648) 2147483647 → gF f59854 (-2147483648) 2147483647 → gF f59855 (-2147483648) 2147483647 → ((921 : Int) - g59852.toInt).toNat < n2_59855 → G (gV D I) l (gRm 0 0 0 0) (gM (gV D I) (po_59521_Code_replace I q59497 q59498 q59499 q59500 q59501 q59502 q59503 q59504 q59505 q59506 p59507 p59508 p59509 p59510 p59511 f59512 f59513 f59514 f59515 f59516 f59517 f59518 f59519 f59520) gN 0 0) ky_59521_Code_replace 2 [(3, .int g59852), (0, .ref q59497), (1, .int p59507), (2, .int p59508)] [] [(q59497, .inr (5, [.ref q59498, .ref q59499, .ref q59500, .ref q59501, .ref q59502, .ref q59503, .ref q59504, .ref q59505, .ref q59506, .int p59509, .int p59510, .int p59511])), (q59498, .inl (I .int, 40, .inl f59512)), (q59499, .inl (I .int, 40, .inl f59513)), (q59500, .inl (I .int, 40, .inl f59514)), (q59501, .inl (I .int, 920, .inl f59515)), (q59502, .inl (I .int, 920, .inl f59853)), (q59503, .inl (I .int, 920, .inl f59854)), (q59504, .inl (I .int, 920, .inl f59518)), (q59505, .inl (I .int, 920, .inl f59855)), (q59506, .inl (I .int, 920, .inl f59520))] 0 0 := by
    intro n2_59855
    induction n2_59855 with
    | zero => intro g59852 f59853 f59854 f59855 bg59852 bf59853 bf59854 bf59855 hm2_59855; exact absurd hm2_59855 (Nat.not_lt_zero _)
    | succ n2_59855 ih2_59855 =>
      intro g59852 f59853 f59854 f59855 bg59852 bf59853 bf59854 bf59855 hm2_59855
      refine G_iload_n 0 d_cX0_replace_2 rfl ?_
      refine G_aload_n 1 d_cX0_replace_3 rfl ?_
      refine G_getf 0 10 d_cX0_replace_4 rfl (gk_X0 D I) (Nat.le_of_ble_eq_true rfl) w_1_197 rfl ?_
      refine G_icmp_ge 94 d_cX0_replace_7 (by decide +kernel) (fun hc59856 => ?_) (fun hc59856 => ?_)
      · have r59857 : p59510.toInt ≤ g59852.toInt := gC_le hc59856
        exact G_vret d_cX0_replace_94 rfl (Nat.le_of_ble_eq_true rfl) (Nat.le_of_ble_eq_true rfl) ⟨f59853, f59854, f59855, rfl, rfl, bf59853, bf59854, bf59855⟩
      · have r59858 : g59852.toInt < p59510.toInt := gC_nle hc59856
        have bg59852' : gB g59852 0 919 := ⟨by omega, by omega⟩
        have bp59510' : gB p59510 1 920 := ⟨by omega, by omega⟩
        refine G_aload_n 1 d_cX0_replace_10 rfl ?_
        refine G_getf 0 4 d_cX0_replace_11 rfl (gk_X0 D I) (Nat.le_of_ble_eq_true rfl) w_1_163 rfl ?_
        refine G_iload_n 0 d_cX0_replace_14 rfl ?_
        refine G_aload_n 1 d_cX0_replace_15 rfl ?_
        refine G_getf 0 4 d_cX0_replace_16 rfl (gk_X0 D I) (Nat.le_of_ble_eq_true rfl) w_1_163 rfl ?_
        refine G_iload_n 0 d_cX0_replace_19 rfl ?_
        refine G_iald 5 0 d_cX0_replace_20 rfl rfl (gB_in bg59852' (by decide) (by decide)) (G_nam fun z59859 hz59859 => ?_)
        have bz59859 : gB z59859 (-2147483648) 2147483647 := by rw [hz59859]; exact bf59853 _
        refine G_iload_n 2 d_cX0_replace_21 rfl ?_
        refine G_icmp_ne 29 d_cX0_replace_22 (by decide +kernel) (fun hc59860 => ?_) (fun hc59860 => ?_)
        · have r59861 : z59859.toInt ≠ p59507.toInt := gC_ne hc59860
          refine G_aload_n 1 d_cX0_replace_29 rfl ?_
          refine G_getf 0 4 d_cX0_replace_30 rfl (gk_X0 D I) (Nat.le_of_ble_eq_true rfl) w_1_163 rfl ?_
          refine G_iload_n 0 d_cX0_replace_33 rfl ?_
          refine G_iald 5 0 d_cX0_replace_34 rfl rfl (gB_in bg59852' (by decide) (by decide)) (G_eqi (y := z59859) hz59859.symm ?_)
          refine G_iastN 5 0 d_cX0_replace_35 rfl rfl (gB_in bg59852' (by decide) (by decide)) (fun f59862 hf59862 => ?_)
          refine G_ws (ws' := [(q59497, .inr (5, [.ref q59498, .ref q59499, .ref q59500, .ref q59501, .ref q59502, .ref q59503, .ref q59504, .ref q59505, .ref q59506, .int p59509, .int p59510, .int p59511])), (q59498, .inl (I .int, 40, .inl f59512)), (q59499, .inl (I .int, 40, .inl f59513)), (q59500, .inl (I .int, 40, .inl f59514)), (q59501, .inl (I .int, 920, .inl f59515)), (q59502, .inl (I .int, 920, .inl f59862)), (q59503, .inl (I .int, 920, .inl f59854)), (q59504, .inl (I .int, 920, .inl f59518)), (q59505, .inl (I .int, 920, .inl f59855)), (q59506, .inl (I .int, 920, .inl f59520))]) (cs' := 0) (sl' := 0) rfl rfl rfl ?_
          refine G_aload_n 1 d_cX0_replace_36 rfl ?_
          refine G_getf 0 5 d_cX0_replace_37 rfl (gk_X0 D I) (Nat.le_of_ble_eq_true rfl) w_1_168 rfl ?_
          refine G_iload_n 0 d_cX0_replace_40 rfl ?_
          refine G_aload_n 1 d_cX0_replace_41 rfl ?_
          refine G_getf 0 5 d_cX0_replace_42 rfl (gk_X0 D I) (Nat.le_of_ble_eq_true rfl) w_1_168 rfl ?_
          refine G_iload_n 0 d_cX0_replace_45 rfl ?_
          refine G_iald 6 0 d_cX0_replace_46 rfl rfl (gB_in bg59852' (by decide) (by decide)) (G_nam fun z59863 hz59863 => ?_)
          have bz59863 : gB z59863 (-2147483648) 2147483647 := by rw [hz59863]; exact bf59854 _
          refine G_iload_n 2 d_cX0_replace_47 rfl ?_
          refine G_icmp_ne 55 d_cX0_replace_48 (by decide +kernel) (fun hc59864 => ?_) (fun hc59864 => ?_)
          · have r59865 : z59863.toInt ≠ p59507.toInt := gC_ne hc59864
            refine G_aload_n 1 d_cX0_replace_55 rfl ?_
            refine G_getf 0 5 d_cX0_replace_56 rfl (gk_X0 D I) (Nat.le_of_ble_eq_true rfl) w_1_168 rfl ?_
            refine G_iload_n 0 d_cX0_replace_59 rfl ?_
            refine G_iald 6 0 d_cX0_replace_60 rfl rfl (gB_in bg59852' (by decide) (by decide)) (G_eqi (y := z59863) hz59863.symm ?_)
            refine G_iastN 6 0 d_cX0_replace_61 rfl rfl (gB_in bg59852' (by decide) (by decide)) (fun f59866 hf59866 => ?_)
            refine G_ws (ws' := [(q59497, .inr (5, [.ref q59498, .ref q59499, .ref q59500, .ref q59501, .ref q59502, .ref q59503, .ref q59504, .ref q59505, .ref q59506, .int p59509, .int p59510, .int p59511])), (q59498, .inl (I .int, 40, .inl f59512)), (q59499, .inl (I .int, 40, .inl f59513)), (q59500, .inl (I .int, 40, .inl f59514)), (q59501, .inl (I .int, 920, .inl f59515)), (q59502, .inl (I .int, 920, .inl f59862)), (q59503, .inl (I .int, 920, .inl f59866)), (q59504, .inl (I .int, 920, .inl f59518)), (q59505, .inl (I .int, 920, .inl f59855)), (q59506, .inl (I .int, 920, .inl f59520))]) (cs' := 0) (sl' := 0) rfl rfl rfl ?_
            refine G_aload_n 1 d_cX0_replace_62 rfl ?_
            refine G_getf 0 7 d_cX0_replace_63 rfl (gk_X0 D I) (Nat.le_of_ble_eq_true rfl) w_1_178 rfl ?_
            refine G_iload_n 0 d_cX0_replace_66 rfl ?_
            refine G_aload_n 1 d_cX0_replace_67 rfl ?_
            refine G_getf 0 7 d_cX0_replace_68 rfl (gk_X0 D I) (Nat.le_of_ble_eq_true rfl) w_1_178 rfl ?_
            refine G_iload_n 0 d_cX0_replace_71 rfl ?_
            refine G_iald 8 0 d_cX0_replace_72 rfl rfl (gB_in bg59852' (by decide) (by decide)) (G_nam fun z59867 hz59867 => ?_)
            have bz59867 : gB z59867 (-2147483648) 2147483647 := by rw [hz59867]; exact bf59855 _
            refine G_iload_n 2 d_cX0_replace_73 rfl ?_
            refine G_icmp_ne 81 d_cX0_replace_74 (by decide +kernel) (fun hc59868 => ?_) (fun hc59868 => ?_)
            · have r59869 : z59867.toInt ≠ p59507.toInt := gC_ne hc59868
              refine G_aload_n 1 d_cX0_replace_81 rfl ?_
              refine G_getf 0 7 d_cX0_replace_82 rfl (gk_X0 D I) (Nat.le_of_ble_eq_true rfl) w_1_178 rfl ?_
              refine G_iload_n 0 d_cX0_replace_85 rfl ?_
              refine G_iald 8 0 d_cX0_replace_86 rfl rfl (gB_in bg59852' (by decide) (by decide)) (G_eqi (y := z59867) hz59867.symm ?_)
              refine G_iastN 8 0 d_cX0_replace_87 rfl rfl (gB_in bg59852' (by decide) (by decide)) (fun f59870 hf59870 => ?_)
              refine G_ws (ws' := [(q59497, .inr (5, [.ref q59498, .ref q59499, .ref q59500, .ref q59501, .ref q59502, .ref q59503, .ref q59504, .ref q59505, .ref q59506, .int p59509, .int p59510, .int p59511])), (q59498, .inl (I .int, 40, .inl f59512)), (q59499, .inl (I .int, 40, .inl f59513)), (q59500, .inl (I .int, 40, .inl f59514)), (q59501, .inl (I .int, 920, .inl f59515)), (q59502, .inl (I .int, 920, .inl f59862)), (q59503, .inl (I .int, 920, .inl f59866)), (q59504, .inl (I .int, 920, .inl f59518)), (q59505, .inl (I .int, 920, .inl f59870)), (q59506, .inl (I .int, 920, .inl f59520))]) (cs' := 0) (sl' := 0) rfl rfl rfl ?_
              obtain ⟨z59871, hz59871⟩ : ∃ z : Int32, z = g59852 + Int32.ofInt 1 := ⟨_, rfl⟩
              have ez59871 : z59871.toInt = g59852.toInt + 1 := gI_inc hz59871 (by decide) bg59852' (by decide) (by decide)
              have bz59871 : gB z59871 1 920 := ⟨by omega, by omega⟩
              refine G_iinc (L' := [(3, .int z59871), (0, .ref q59497), (1, .int p59507), (2, .int p59508)]) z59871 0 d_cX0_replace_88 rfl hz59871.symm (Nat.le_of_ble_eq_true rfl) rfl ?_
              refine G_goto 2 d_cX0_replace_91 (by decide +kernel) ?_
              exact ih2_59855 z59871 f59862 f59866 f59870 (gB_w bz59871 (by decide) (by decide)) (gF_any f59862) (gF_any f59866) (gF_any f59870) (by omega)
            · have r59872 : z59867.toInt = p59507.toInt := gC_eq hc59868
              refine G_iload_n 3 d_cX0_replace_77 rfl ?_
              refine G_goto 87 d_cX0_replace_78 (by decide +kernel) ?_
              refine G_iastN 8 0 d_cX0_replace_87 rfl rfl (gB_in bg59852' (by decide) (by decide)) (fun f59873 hf59873 => ?_)
              refine G_ws (ws' := [(q59497, .inr (5, [.ref q59498, .ref q59499, .ref q59500, .ref q59501, .ref q59502, .ref q59503, .ref q59504, .ref q59505, .ref q59506, .int p59509, .int p59510, .int p59511])), (q59498, .inl (I .int, 40, .inl f59512)), (q59499, .inl (I .int, 40, .inl f59513)), (q59500, .inl (I .int, 40, .inl f59514)), (q59501, .inl (I .int, 920, .inl f59515)), (q59502, .inl (I .int, 920, .inl f59862)), (q59503, .inl (I .int, 920, .inl f59866)), (q59504, .inl (I .int, 920, .inl f59518)), (q59505, .inl (I .int, 920, .inl f59873)), (q59506, .inl (I .int, 920, .inl f59520))]) (cs' := 0) (sl' := 0) rfl rfl rfl ?_
              obtain ⟨z59874, hz59874⟩ : ∃ z : Int32, z = g59852 + Int32.ofInt 1 := ⟨_, rfl⟩
              have ez59874 : z59874.toInt = g59852.toInt + 1 := gI_inc hz59874 (by decide) bg59852' (by decide) (by decide)
              have bz59874 : gB z59874 1 920 := ⟨by omega, by omega⟩
              refine G_iinc (L' := [(3, .int z59874), (0, .ref q59497), (1, .int p59507), (2, .int p59508)]) z59874 0 d_cX0_replace_88 rfl hz59874.symm (Nat.le_of_ble_eq_true rfl) rfl ?_
              refine G_goto 2 d_cX0_replace_91 (by decide +kernel) ?_
              exact ih2_59855 z59874 f59862 f59866 f59873 (gB_w bz59874 (by decide) (by decide)) (gF_any f59862) (gF_any f59866) (gF_any f59873) (by omega)
          · have r59875 : z59863.toInt = p59507.toInt := gC_eq hc59864
            refine G_iload_n 3 d_cX0_replace_51 rfl ?_
            refine G_goto 61 d_cX0_replace_52 (by decide +kernel) ?_
            refine G_iastN 6 0 d_cX0_replace_61 rfl rfl (gB_in bg59852' (by decide) (by decide)) (fun f59876 hf59876 => ?_)
            refine G_ws (ws' := [(q59497, .inr (5, [.ref q59498, .ref q59499, .ref q59500, .ref q59501, .ref q59502, .ref q59503, .ref q59504, .ref q59505, .ref q59506, .int p59509, .int p59510, .int p59511])), (q59498, .inl (I .int, 40, .inl f59512)), (q59499, .inl (I .int, 40, .inl f59513)), (q59500, .inl (I .int, 40, .inl f59514)), (q59501, .inl (I .int, 920, .inl f59515)), (q59502, .inl (I .int, 920, .inl f59862)), (q59503, .inl (I .int, 920, .inl f59876)), (q59504, .inl (I .int, 920, .inl f59518)), (q59505, .inl (I .int, 920, .inl f59855)), (q59506, .inl (I .int, 920, .inl f59520))]) (cs' := 0) (sl' := 0) rfl rfl rfl ?_
            refine G_aload_n 1 d_cX0_replace_62 rfl ?_
            refine G_getf 0 7 d_cX0_replace_63 rfl (gk_X0 D I) (Nat.le_of_ble_eq_true rfl) w_1_178 rfl ?_
            refine G_iload_n 0 d_cX0_replace_66 rfl ?_
            refine G_aload_n 1 d_cX0_replace_67 rfl ?_
            refine G_getf 0 7 d_cX0_replace_68 rfl (gk_X0 D I) (Nat.le_of_ble_eq_true rfl) w_1_178 rfl ?_
            refine G_iload_n 0 d_cX0_replace_71 rfl ?_
            refine G_iald 8 0 d_cX0_replace_72 rfl rfl (gB_in bg59852' (by decide) (by decide)) (G_nam fun z59877 hz59877 => ?_)
            have bz59877 : gB z59877 (-2147483648) 2147483647 := by rw [hz59877]; exact bf59855 _
            refine G_iload_n 2 d_cX0_replace_73 rfl ?_
            refine G_icmp_ne 81 d_cX0_replace_74 (by decide +kernel) (fun hc59878 => ?_) (fun hc59878 => ?_)
            · have r59879 : z59877.toInt ≠ p59507.toInt := gC_ne hc59878
              refine G_aload_n 1 d_cX0_replace_81 rfl ?_
              refine G_getf 0 7 d_cX0_replace_82 rfl (gk_X0 D I) (Nat.le_of_ble_eq_true rfl) w_1_178 rfl ?_
              refine G_iload_n 0 d_cX0_replace_85 rfl ?_
              refine G_iald 8 0 d_cX0_replace_86 rfl rfl (gB_in bg59852' (by decide) (by decide)) (G_eqi (y := z59877) hz59877.symm ?_)
              refine G_iastN 8 0 d_cX0_replace_87 rfl rfl (gB_in bg59852' (by decide) (by decide)) (fun f59880 hf59880 => ?_)
              refine G_ws (ws' := [(q59497, .inr (5, [.ref q59498, .ref q59499, .ref q59500, .ref q59501, .ref q59502, .ref q59503, .ref q59504, .ref q59505, .ref q59506, .int p59509, .int p59510, .int p59511])), (q59498, .inl (I .int, 40, .inl f59512)), (q59499, .inl (I .int, 40, .inl f59513)), (q59500, .inl (I .int, 40, .inl f59514)), (q59501, .inl (I .int, 920, .inl f59515)), (q59502, .inl (I .int, 920, .inl f59862)), (q59503, .inl (I .int, 920, .inl f59876)), (q59504, .inl (I .int, 920, .inl f59518)), (q59505, .inl (I .int, 920, .inl f59880)), (q59506, .inl (I .int, 920, .inl f59520))]) (cs' := 0) (sl' := 0) rfl rfl rfl ?_
              obtain ⟨z59881, hz59881⟩ : ∃ z : Int32, z = g59852 + Int32.ofInt 1 := ⟨_, rfl⟩
              have ez59881 : z59881.toInt = g59852.toInt + 1 := gI_inc hz59881 (by decide) bg59852' (by decide) (by decide)
              have bz59881 : gB z59881 1 920 := ⟨by omega, by omega⟩
              refine G_iinc (L' := [(3, .int z59881), (0, .ref q59497), (1, .int p59507), (2, .int p59508)]) z59881 0 d_cX0_replace_88 rfl hz59881.symm (Nat.le_of_ble_eq_true rfl) rfl ?_
              refine G_goto 2 d_cX0_replace_91 (by decide +kernel) ?_
              exact ih2_59855 z59881 f59862 f59876 f59880 (gB_w bz59881 (by decide) (by decide)) (gF_any f59862) (gF_any f59876) (gF_any f59880) (by omega)
            · have r59882 : z59877.toInt = p59507.toInt := gC_eq hc59878
              refine G_iload_n 3 d_cX0_replace_77 rfl ?_
              refine G_goto 87 d_cX0_replace_78 (by decide +kernel) ?_
              refine G_iastN 8 0 d_cX0_replace_87 rfl rfl (gB_in bg59852' (by decide) (by decide)) (fun f59883 hf59883 => ?_)
              refine G_ws (ws' := [(q59497, .inr (5, [.ref q59498, .ref q59499, .ref q59500, .ref q59501, .ref q59502, .ref q59503, .ref q59504, .ref q59505, .ref q59506, .int p59509, .int p59510, .int p59511])), (q59498, .inl (I .int, 40, .inl f59512)), (q59499, .inl (I .int, 40, .inl f59513)), (q59500, .inl (I .int, 40, .inl f59514)), (q59501, .inl (I .int, 920, .inl f59515)), (q59502, .inl (I .int, 920, .inl f59862)), (q59503, .inl (I .int, 920, .inl f59876)), (q59504, .inl (I .int, 920, .inl f59518)), (q59505, .inl (I .int, 920, .inl f59883)), (q59506, .inl (I .int, 920, .inl f59520))]) (cs' := 0) (sl' := 0) rfl rfl rfl ?_
              obtain ⟨z59884, hz59884⟩ : ∃ z : Int32, z = g59852 + Int32.ofInt 1 := ⟨_, rfl⟩
              have ez59884 : z59884.toInt = g59852.toInt + 1 := gI_inc hz59884 (by decide) bg59852' (by decide) (by decide)
              have bz59884 : gB z59884 1 920 := ⟨by omega, by omega⟩
              refine G_iinc (L' := [(3, .int z59884), (0, .ref q59497), (1, .int p59507), (2, .int p59508)]) z59884 0 d_cX0_replace_88 rfl hz59884.symm (Nat.le_of_ble_eq_true rfl) rfl ?_
              refine G_goto 2 d_cX0_replace_91 (by decide +kernel) ?_
              exact ih2_59855 z59884 f59862 f59876 f59883 (gB_w bz59884 (by decide) (by decide)) (gF_any f59862) (gF_any f59876) (gF_any f59883) (by omega)
        · have r59885 : z59859.toInt = p59507.toInt := gC_eq hc59860
          refine G_iload_n 3 d_cX0_replace_25 rfl ?_
          refine G_goto 35 d_cX0_replace_26 (by decide +kernel) ?_
          refine G_iastN 5 0 d_cX0_replace_35 rfl rfl (gB_in bg59852' (by decide) (by decide)) (fun f59886 hf59886 => ?_)
          refine G_ws (ws' := [(q59497, .inr (5, [.ref q59498, .ref q59499, .ref q59500, .ref q59501, .ref q59502, .ref q59503, .ref q59504, .ref q59505, .ref q59506, .int p59509, .int p59510, .int p59511])), (q59498, .inl (I .int, 40, .inl f59512)), (q59499, .inl (I .int, 40, .inl f59513)), (q59500, .inl (I .int, 40, .inl f59514)), (q59501, .inl (I .int, 920, .inl f59515)), (q59502, .inl (I .int, 920, .inl f59886)), (q59503, .inl (I .int, 920, .inl f59854)), (q59504, .inl (I .int, 920, .inl f59518)), (q59505, .inl (I .int, 920, .inl f59855)), (q59506, .inl (I .int, 920, .inl f59520))]) (cs' := 0) (sl' := 0) rfl rfl rfl ?_
          refine G_aload_n 1 d_cX0_replace_36 rfl ?_
          refine G_getf 0 5 d_cX0_replace_37 rfl (gk_X0 D I) (Nat.le_of_ble_eq_true rfl) w_1_168 rfl ?_
          refine G_iload_n 0 d_cX0_replace_40 rfl ?_
          refine G_aload_n 1 d_cX0_replace_41 rfl ?_
          refine G_getf 0 5 d_cX0_replace_42 rfl (gk_X0 D I) (Nat.le_of_ble_eq_true rfl) w_1_168 rfl ?_
          refine G_iload_n 0 d_cX0_replace_45 rfl ?_
          refine G_iald 6 0 d_cX0_replace_46 rfl rfl (gB_in bg59852' (by decide) (by decide)) (G_nam fun z59887 hz59887 => ?_)
          have bz59887 : gB z59887 (-2147483648) 2147483647 := by rw [hz59887]; exact bf59854 _
          refine G_iload_n 2 d_cX0_replace_47 rfl ?_
          refine G_icmp_ne 55 d_cX0_replace_48 (by decide +kernel) (fun hc59888 => ?_) (fun hc59888 => ?_)
          · have r59889 : z59887.toInt ≠ p59507.toInt := gC_ne hc59888
            refine G_aload_n 1 d_cX0_replace_55 rfl ?_
            refine G_getf 0 5 d_cX0_replace_56 rfl (gk_X0 D I) (Nat.le_of_ble_eq_true rfl) w_1_168 rfl ?_
            refine G_iload_n 0 d_cX0_replace_59 rfl ?_
            refine G_iald 6 0 d_cX0_replace_60 rfl rfl (gB_in bg59852' (by decide) (by decide)) (G_eqi (y := z59887) hz59887.symm ?_)
            refine G_iastN 6 0 d_cX0_replace_61 rfl rfl (gB_in bg59852' (by decide) (by decide)) (fun f59890 hf59890 => ?_)
            refine G_ws (ws' := [(q59497, .inr (5, [.ref q59498, .ref q59499, .ref q59500, .ref q59501, .ref q59502, .ref q59503, .ref q59504, .ref q59505, .ref q59506, .int p59509, .int p59510, .int p59511])), (q59498, .inl (I .int, 40, .inl f59512)), (q59499, .inl (I .int, 40, .inl f59513)), (q59500, .inl (I .int, 40, .inl f59514)), (q59501, .inl (I .int, 920, .inl f59515)), (q59502, .inl (I .int, 920, .inl f59886)), (q59503, .inl (I .int, 920, .inl f59890)), (q59504, .inl (I .int, 920, .inl f59518)), (q59505, .inl (I .int, 920, .inl f59855)), (q59506, .inl (I .int, 920, .inl f59520))]) (cs' := 0) (sl' := 0) rfl rfl rfl ?_
            refine G_aload_n 1 d_cX0_replace_62 rfl ?_
            refine G_getf 0 7 d_cX0_replace_63 rfl (gk_X0 D I) (Nat.le_of_ble_eq_true rfl) w_1_178 rfl ?_
            refine G_iload_n 0 d_cX0_replace_66 rfl ?_
            refine G_aload_n 1 d_cX0_replace_67 rfl ?_
            refine G_getf 0 7 d_cX0_replace_68 rfl (gk_X0 D I) (Nat.le_of_ble_eq_true rfl) w_1_178 rfl ?_
            refine G_iload_n 0 d_cX0_replace_71 rfl ?_
            refine G_iald 8 0 d_cX0_replace_72 rfl rfl (gB_in bg59852' (by decide) (by decide)) (G_nam fun z59891 hz59891 => ?_)
            have bz59891 : gB z59891 (-2147483648) 2147483647 := by rw [hz59891]; exact bf59855 _
            refine G_iload_n 2 d_cX0_replace_73 rfl ?_
            refine G_icmp_ne 81 d_cX0_replace_74 (by decide +kernel) (fun hc59892 => ?_) (fun hc59892 => ?_)
            · have r59893 : z59891.toInt ≠ p59507.toInt := gC_ne hc59892
              refine G_aload_n 1 d_cX0_replace_81 rfl ?_
              refine G_getf 0 7 d_cX0_replace_82 rfl (gk_X0 D I) (Nat.le_of_ble_eq_true rfl) w_1_178 rfl ?_
              refine G_iload_n 0 d_cX0_replace_85 rfl ?_
              refine G_iald 8 0 d_cX0_replace_86 rfl rfl (gB_in bg59852' (by decide) (by decide)) (G_eqi (y := z59891) hz59891.symm ?_)
              refine G_iastN 8 0 d_cX0_replace_87 rfl rfl (gB_in bg59852' (by decide) (by decide)) (fun f59894 hf59894 => ?_)
              refine G_ws (ws' := [(q59497, .inr (5, [.ref q59498, .ref q59499, .ref q59500, .ref q59501, .ref q59502, .ref q59503, .ref q59504, .ref q59505, .ref q59506, .int p59509, .int p59510, .int p59511])), (q59498, .inl (I .int, 40, .inl f59512)), (q59499, .inl (I .int, 40, .inl f59513)), (q59500, .inl (I .int, 40, .inl f59514)), (q59501, .inl (I .int, 920, .inl f59515)), (q59502, .inl (I .int, 920, .inl f59886)), (q59503, .inl (I .int, 920, .inl f59890)), (q59504, .inl (I .int, 920, .inl f59518)), (q59505, .inl (I .int, 920, .inl f59894)), (q59506, .inl (I .int, 920, .inl f59520))]) (cs' := 0) (sl' := 0) rfl rfl rfl ?_
              obtain ⟨z59895, hz59895⟩ : ∃ z : Int32, z = g59852 + Int32.ofInt 1 := ⟨_, rfl⟩
              have ez59895 : z59895.toInt = g59852.toInt + 1 := gI_inc hz59895 (by decide) bg59852' (by decide) (by decide)
              have bz59895 : gB z59895 1 920 := ⟨by omega, by omega⟩
              refine G_iinc (L' := [(3, .int z59895), (0, .ref q59497), (1, .int p59507), (2, .int p59508)]) z59895 0 d_cX0_replace_88 rfl hz59895.symm (Nat.le_of_ble_eq_true rfl) rfl ?_
              refine G_goto 2 d_cX0_replace_91 (by decide +kernel) ?_
              exact ih2_59855 z59895 f59886 f59890 f59894 (gB_w bz59895 (by decide) (by decide)) (gF_any f59886) (gF_any f59890) (gF_any f59894) (by omega)
            · have r59896 : z59891.toInt = p59507.toInt := gC_eq hc59892
              refine G_iload_n 3 d_cX0_replace_77 rfl ?_
              refine G_goto 87 d_cX0_replace_78 (by decide +kernel) ?_
              refine G_iastN 8 0 d_cX0_replace_87 rfl rfl (gB_in bg59852' (by decide) (by decide)) (fun f59897 hf59897 => ?_)
              refine G_ws (ws' := [(q59497, .inr (5, [.ref q59498, .ref q59499, .ref q59500, .ref q59501, .ref q59502, .ref q59503, .ref q59504, .ref q59505, .ref q59506, .int p59509, .int p59510, .int p59511])), (q59498, .inl (I .int, 40, .inl f59512)), (q59499, .inl (I .int, 40, .inl f59513)), (q59500, .inl (I .int, 40, .inl f59514)), (q59501, .inl (I .int, 920, .inl f59515)), (q59502, .inl (I .int, 920, .inl f59886)), (q59503, .inl (I .int, 920, .inl f59890)), (q59504, .inl (I .int, 920, .inl f59518)), (q59505, .inl (I .int, 920, .inl f59897)), (q59506, .inl (I .int, 920, .inl f59520))]) (cs' := 0) (sl' := 0) rfl rfl rfl ?_
              obtain ⟨z59898, hz59898⟩ : ∃ z : Int32, z = g59852 + Int32.ofInt 1 := ⟨_, rfl⟩
              have ez59898 : z59898.toInt = g59852.toInt + 1 := gI_inc hz59898 (by decide) bg59852' (by decide) (by decide)
              have bz59898 : gB z59898 1 920 := ⟨by omega, by omega⟩
              refine G_iinc (L' := [(3, .int z59898), (0, .ref q59497), (1, .int p59507), (2, .int p59508)]) z59898 0 d_cX0_replace_88 rfl hz59898.symm (Nat.le_of_ble_eq_true rfl) rfl ?_
              refine G_goto 2 d_cX0_replace_91 (by decide +kernel) ?_
              exact ih2_59855 z59898 f59886 f59890 f59897 (gB_w bz59898 (by decide) (by decide)) (gF_any f59886) (gF_any f59890) (gF_any f59897) (by omega)
          · have r59899 : z59887.toInt = p59507.toInt := gC_eq hc59888
            refine G_iload_n 3 d_cX0_replace_51 rfl ?_
            refine G_goto 61 d_cX0_replace_52 (by decide +kernel) ?_
            refine G_iastN 6 0 d_cX0_replace_61 rfl rfl (gB_in bg59852' (by decide) (by decide)) (fun f59900 hf59900 => ?_)
            refine G_ws (ws' := [(q59497, .inr (5, [.ref q59498, .ref q59499, .ref q59500, .ref q59501, .ref q59502, .ref q59503, .ref q59504, .ref q59505, .ref q59506, .int p59509, .int p59510, .int p59511])), (q59498, .inl (I .int, 40, .inl f59512)), (q59499, .inl (I .int, 40, .inl f59513)), (q59500, .inl (I .int, 40, .inl f59514)), (q59501, .inl (I .int, 920, .inl f59515)), (q59502, .inl (I .int, 920, .inl f59886)), (q59503, .inl (I .int, 920, .inl f59900)), (q59504, .inl (I .int, 920, .inl f59518)), (q59505, .inl (I .int, 920, .inl f59855)), (q59506, .inl (I .int, 920, .inl f59520))]) (cs' := 0) (sl' := 0) rfl rfl rfl ?_
            refine G_aload_n 1 d_cX0_replace_62 rfl ?_
            refine G_getf 0 7 d_cX0_replace_63 rfl (gk_X0 D I) (Nat.le_of_ble_eq_true rfl) w_1_178 rfl ?_
            refine G_iload_n 0 d_cX0_replace_66 rfl ?_
            refine G_aload_n 1 d_cX0_replace_67 rfl ?_
            refine G_getf 0 7 d_cX0_replace_68 rfl (gk_X0 D I) (Nat.le_of_ble_eq_true rfl) w_1_178 rfl ?_
            refine G_iload_n 0 d_cX0_replace_71 rfl ?_
            refine G_iald 8 0 d_cX0_replace_72 rfl rfl (gB_in bg59852' (by decide) (by decide)) (G_nam fun z59901 hz59901 => ?_)
            have bz59901 : gB z59901 (-2147483648) 2147483647 := by rw [hz59901]; exact bf59855 _
            refine G_iload_n 2 d_cX0_replace_73 rfl ?_
            refine G_icmp_ne 81 d_cX0_replace_74 (by decide +kernel) (fun hc59902 => ?_) (fun hc59902 => ?_)
            · have r59903 : z59901.toInt ≠ p59507.toInt := gC_ne hc59902
              refine G_aload_n 1 d_cX0_replace_81 rfl ?_
              refine G_getf 0 7 d_cX0_replace_82 rfl (gk_X0 D I) (Nat.le_of_ble_eq_true rfl) w_1_178 rfl ?_
              refine G_iload_n 0 d_cX0_replace_85 rfl ?_
              refine G_iald 8 0 d_cX0_replace_86 rfl rfl (gB_in bg59852' (by decide) (by decide)) (G_eqi (y := z59901) hz59901.symm ?_)
              refine G_iastN 8 0 d_cX0_replace_87 rfl rfl (gB_in bg59852' (by decide) (by decide)) (fun f59904 hf59904 => ?_)
              refine G_ws (ws' := [(q59497, .inr (5, [.ref q59498, .ref q59499, .ref q59500, .ref q59501, .ref q59502, .ref q59503, .ref q59504, .ref q59505, .ref q59506, .int p59509, .int p59510, .int p59511])), (q59498, .inl (I .int, 40, .inl f59512)), (q59499, .inl (I .int, 40, .inl f59513)), (q59500, .inl (I .int, 40, .inl f59514)), (q59501, .inl (I .int, 920, .inl f59515)), (q59502, .inl (I .int, 920, .inl f59886)), (q59503, .inl (I .int, 920, .inl f59900)), (q59504, .inl (I .int, 920, .inl f59518)), (q59505, .inl (I .int, 920, .inl f59904)), (q59506, .inl (I .int, 920, .inl f59520))]) (cs' := 0) (sl' := 0) rfl rfl rfl ?_
              obtain ⟨z59905, hz59905⟩ : ∃ z : Int32, z = g59852 + Int32.ofInt 1 := ⟨_, rfl⟩
              have ez59905 : z59905.toInt = g59852.toInt + 1 := gI_inc hz59905 (by decide) bg59852' (by decide) (by decide)
              have bz59905 : gB z59905 1 920 := ⟨by omega, by omega⟩
              refine G_iinc (L' := [(3, .int z59905), (0, .ref q59497), (1, .int p59507), (2, .int p59508)]) z59905 0 d_cX0_replace_88 rfl hz59905.symm (Nat.le_of_ble_eq_true rfl) rfl ?_
              refine G_goto 2 d_cX0_replace_91 (by decide +kernel) ?_
              exact ih2_59855 z59905 f59886 f59900 f59904 (gB_w bz59905 (by decide) (by decide)) (gF_any f59886) (gF_any f59900) (gF_any f59904) (by omega)
            · have r59906 : z59901.toInt = p59507.toInt := gC_eq hc59902
              refine G_iload_n 3 d_cX0_replace_77 rfl ?_
              refine G_goto 87 d_cX0_replace_78 (by decide +kernel) ?_
              refine G_iastN 8 0 d_cX0_replace_87 rfl rfl (gB_in bg59852' (by decide) (by decide)) (fun f59907 hf59907 => ?_)
              refine G_ws (ws' := [(q59497, .inr (5, [.ref q59498, .ref q59499, .ref q59500, .ref q59501, .ref q59502, .ref q59503, .ref q59504, .ref q59505, .ref q59506, .int p59509, .int p59510, .int p59511])), (q59498, .inl (I .int, 40, .inl f59512)), (q59499, .inl (I .int, 40, .inl f59513)), (q59500, .inl (I .int, 40, .inl f59514)), (q59501, .inl (I .int, 920, .inl f59515)), (q59502, .inl (I .int, 920, .inl f59886)), (q59503, .inl (I .int, 920, .inl f59900)), (q59504, .inl (I .int, 920, .inl f59518)), (q59505, .inl (I .int, 920, .inl f59907)), (q59506, .inl (I .int, 920, .inl f59520))]) (cs' := 0) (sl' := 0) rfl rfl rfl ?_
              obtain ⟨z59908, hz59908⟩ : ∃ z : Int32, z = g59852 + Int32.ofInt 1 := ⟨_, rfl⟩
              have ez59908 : z59908.toInt = g59852.toInt + 1 := gI_inc hz59908 (by decide) bg59852' (by decide) (by decide)
              have bz59908 : gB z59908 1 920 := ⟨by omega, by omega⟩
              refine G_iinc (L' := [(3, .int z59908), (0, .ref q59497), (1, .int p59507), (2, .int p59508)]) z59908 0 d_cX0_replace_88 rfl hz59908.symm (Nat.le_of_ble_eq_true rfl) rfl ?_
              refine G_goto 2 d_cX0_replace_91 (by decide +kernel) ?_
              exact ih2_59855 z59908 f59886 f59900 f59907 (gB_w bz59908 (by decide) (by decide)) (gF_any f59886) (gF_any f59900) (gF_any f59907) (by omega)
  exact hlp2_59855 (((921 : Int) - 0).toNat + 1) 0 f59516 f59517 f59519 (gB_w (gBl (show Int32.toInt 0 = 0 by decide)) (by decide) (by decide)) (gF_any f59516) (gF_any f59517) (gF_any f59519) (Nat.lt_succ_self _)
