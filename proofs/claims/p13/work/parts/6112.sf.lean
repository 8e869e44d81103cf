theorem d_cX4_addRow_0 : decode cX4_addRow 0 = .ok (.aload_n 1, 1) := by decide +kernel
theorem d_cX4_addRow_1 : decode cX4_addRow 1 = .ok (.getfield 44, 3) := by decide +kernel
theorem d_cX4_addRow_4 : decode cX4_addRow 4 = .ok (.iload_n 2, 1) := by decide +kernel
theorem d_cX4_addRow_5 : decode cX4_addRow 5 = .ok (.iaload, 1) := by decide +kernel
theorem d_cX4_addRow_6 : decode cX4_addRow 6 = .ok (.bipush 16, 2) := by decide +kernel
theorem d_cX4_addRow_8 : decode cX4_addRow 8 = .ok (.if_icmp .ne 28, 3) := by decide +kernel
theorem d_cX4_addRow_36 : decode cX4_addRow 36 = .ok (.aload_n 1, 1) := by decide +kernel
theorem d_cX4_addRow_37 : decode cX4_addRow 37 = .ok (.getfield 44, 3) := by decide +kernel
theorem d_cX4_addRow_40 : decode cX4_addRow 40 = .ok (.iload_n 2, 1) := by decide +kernel
theorem d_cX4_addRow_41 : decode cX4_addRow 41 = .ok (.iaload, 1) := by decide +kernel
theorem d_cX4_addRow_42 : decode cX4_addRow 42 = .ok (.bipush 18, 2) := by decide +kernel
theorem d_cX4_addRow_44 : decode cX4_addRow 44 = .ok (.if_icmp .ne 30, 3) := by decide +kernel
theorem d_cX4_addRow_74 : decode cX4_addRow 74 = .ok (.aload_n 0, 1) := by decide +kernel
theorem d_cX4_addRow_75 : decode cX4_addRow 75 = .ok (.ldc 92, 2) := by decide +kernel
theorem d_cX4_addRow_77 : decode cX4_addRow 77 = .ok (.aload_n 1, 1) := by decide +kernel
theorem d_cX4_addRow_78 : decode cX4_addRow 78 = .ok (.getfield 94, 3) := by decide +kernel
theorem d_cX4_addRow_81 : decode cX4_addRow 81 = .ok (.iload_n 2, 1) := by decide +kernel
theorem d_cX4_addRow_82 : decode cX4_addRow 82 = .ok (.iaload, 1) := by decide +kernel
theorem d_cX4_addRow_83 : decode cX4_addRow 83 = .ok (.invokevirtual 26, 3) := by decide +kernel
theorem d_cX4_addRow_86 : decode cX4_addRow 86 = .ok (.aload_n 0, 1) := by decide +kernel
theorem d_cX4_addRow_87 : decode cX4_addRow 87 = .ok (.ldc 97, 2) := by decide +kernel
theorem d_cX4_addRow_89 : decode cX4_addRow 89 = .ok (.invokevirtual 32, 3) := by decide +kernel
theorem d_cX4_addRow_92 : decode cX4_addRow 92 = .ok (.aload_n 0, 1) := by decide +kernel
theorem d_cX4_addRow_93 : decode cX4_addRow 93 = .ok (.aload_n 1, 1) := by decide +kernel
theorem d_cX4_addRow_94 : decode cX4_addRow 94 = .ok (.iload_n 2, 1) := by decide +kernel
theorem d_cX4_addRow_95 : decode cX4_addRow 95 = .ok (.invokevirtual 99, 3) := by decide +kernel
theorem w_6_207 : (Jvm.Cond.methodLink "SpillForge$Listing" (99 : Nat) ({ cls := "SpillForge$Listing", name := "addSource", desc := "(LSpillForge$Code;I)V" } : Jvm.MethodName)) ∈ gw := gw_6 207 rfl rfl
theorem w_6_210 : (Jvm.Cond.code ({ cls := "SpillForge$Listing", name := "addSource", desc := "(LSpillForge$Code;I)V" } : Jvm.MethodName) prog_6_method_7_code (3 : Nat) (Option.none : Option Jvm.ClassFile.FieldType)) ∈ gw := gw_6 210 rfl rfl
theorem w_6_209 : (Jvm.Cond.instanceMethod ({ cls := "SpillForge$Listing", name := "addSource", desc := "(LSpillForge$Code;I)V" } : Jvm.MethodName)) ∈ gw := gw_6 209 rfl rfl
theorem w_p_71 : Cond.selects "SpillForge$Listing" ⟨"SpillForge$Listing", "addSource", "(LSpillForge$Code;I)V"⟩ ⟨"SpillForge$Listing", "addSource", "(LSpillForge$Code;I)V"⟩ ∈ gw := gw_p _ 71 rfl rfl rfl
theorem d_cX4_addRow_98 : decode cX4_addRow 98 = .ok (.return_, 1) := by decide +kernel
theorem d_cX4_addRow_47 : decode cX4_addRow 47 = .ok (.aload_n 0, 1) := by decide +kernel
theorem d_cX4_addRow_48 : decode cX4_addRow 48 = .ok (.ldc 85, 2) := by decide +kernel
theorem d_cX4_addRow_50 : decode cX4_addRow 50 = .ok (.aload_n 1, 1) := by decide +kernel
theorem d_cX4_addRow_51 : decode cX4_addRow 51 = .ok (.getfield 87, 3) := by decide +kernel
theorem d_cX4_addRow_54 : decode cX4_addRow 54 = .ok (.iload_n 2, 1) := by decide +kernel
theorem d_cX4_addRow_55 : decode cX4_addRow 55 = .ok (.iaload, 1) := by decide +kernel
theorem d_cX4_addRow_56 : decode cX4_addRow 56 = .ok (.invokevirtual 26, 3) := by decide +kernel
theorem d_cX4_addRow_59 : decode cX4_addRow 59 = .ok (.aload_n 0, 1) := by decide +kernel
theorem d_cX4_addRow_60 : decode cX4_addRow 60 = .ok (.ldc 90, 2) := by decide +kernel
theorem d_cX4_addRow_62 : decode cX4_addRow 62 = .ok (.aload_n 1, 1) := by decide +kernel
theorem d_cX4_addRow_63 : decode cX4_addRow 63 = .ok (.getfield 61, 3) := by decide +kernel
theorem d_cX4_addRow_66 : decode cX4_addRow 66 = .ok (.iload_n 2, 1) := by decide +kernel
theorem d_cX4_addRow_67 : decode cX4_addRow 67 = .ok (.iaload, 1) := by decide +kernel
theorem d_cX4_addRow_68 : decode cX4_addRow 68 = .ok (.invokevirtual 26, 3) := by decide +kernel
theorem d_cX4_addRow_71 : decode cX4_addRow 71 = .ok (.goto 27, 3) := by decide +kernel
theorem d_cX4_addRow_11 : decode cX4_addRow 11 = .ok (.aload_n 0, 1) := by decide +kernel
theorem d_cX4_addRow_12 : decode cX4_addRow 12 = .ok (.ldc 83, 2) := by decide +kernel
theorem d_cX4_addRow_14 : decode cX4_addRow 14 = .ok (.invokevirtual 32, 3) := by decide +kernel
theorem d_cX4_addRow_17 : decode cX4_addRow 17 = .ok (.aload_n 0, 1) := by decide +kernel
theorem d_cX4_addRow_18 : decode cX4_addRow 18 = .ok (.aload_n 1, 1) := by decide +kernel
theorem d_cX4_addRow_19 : decode cX4_addRow 19 = .ok (.getfield 61, 3) := by decide +kernel
theorem d_cX4_addRow_22 : decode cX4_addRow 22 = .ok (.iload_n 2, 1) := by decide +kernel
theorem d_cX4_addRow_23 : decode cX4_addRow 23 = .ok (.iaload, 1) := by decide +kernel
theorem d_cX4_addRow_24 : decode cX4_addRow 24 = .ok (.aload_n 1, 1) := by decide +kernel
theorem d_cX4_addRow_25 : decode cX4_addRow 25 = .ok (.getfield 64, 3) := by decide +kernel
theorem d_cX4_addRow_28 : decode cX4_addRow 28 = .ok (.iload_n 2, 1) := by decide +kernel
theorem d_cX4_addRow_29 : decode cX4_addRow 29 = .ok (.iaload, 1) := by decide +kernel
theorem d_cX4_addRow_30 : decode cX4_addRow 30 = .ok (.invokevirtual 67, 3) := by decide +kernel
theorem d_cX4_addRow_33 : decode cX4_addRow 33 = .ok (.goto 65, 3) := by decide +kernel
theorem d_cX4_addEnd_0 : decode cX4_addEnd 0 = .ok (.aload_n 1, 1) := by decide +kernel
theorem d_cX4_addEnd_1 : decode cX4_addEnd 1 = .ok (.getfield 44, 3) := by decide +kernel
theorem d_cX4_addEnd_4 : decode cX4_addEnd 4 = .ok (.iload_n 3, 1) := by decide +kernel
theorem d_cX4_addEnd_5 : decode cX4_addEnd 5 = .ok (.iaload, 1) := by decide +kernel
theorem d_cX4_addEnd_6 : decode cX4_addEnd 6 = .ok (.bipush 21, 2) := by decide +kernel
theorem d_cX4_addEnd_8 : decode cX4_addEnd 8 = .ok (.if_icmp .ne 28, 3) := by decide +kernel
theorem d_cX4_addEnd_36 : decode cX4_addEnd 36 = .ok (.aload_n 1, 1) := by decide +kernel
theorem d_cX4_addEnd_37 : decode cX4_addEnd 37 = .ok (.getfield 44, 3) := by decide +kernel
theorem d_cX4_addEnd_40 : decode cX4_addEnd 40 = .ok (.iload_n 3, 1) := by decide +kernel
theorem d_cX4_addEnd_41 : decode cX4_addEnd 41 = .ok (.iaload, 1) := by decide +kernel
theorem d_cX4_addEnd_42 : decode cX4_addEnd 42 = .ok (.bipush 19, 2) := by decide +kernel
theorem d_cX4_addEnd_44 : decode cX4_addEnd 44 = .ok (.if_icmp .ne 18, 3) := by decide +kernel
theorem d_cX4_addEnd_62 : decode cX4_addEnd 62 = .ok (.aload_n 0, 1) := by decide +kernel
theorem d_cX4_addEnd_63 : decode cX4_addEnd 63 = .ok (.ldc 76, 2) := by decide +kernel
theorem d_cX4_addEnd_65 : decode cX4_addEnd 65 = .ok (.invokevirtual 32, 3) := by decide +kernel
theorem d_cX4_addEnd_68 : decode cX4_addEnd 68 = .ok (.aload_n 0, 1) := by decide +kernel
theorem d_cX4_addEnd_69 : decode cX4_addEnd 69 = .ok (.aload_n 1, 1) := by decide +kernel
theorem d_cX4_addEnd_70 : decode cX4_addEnd 70 = .ok (.getfield 61, 3) := by decide +kernel
theorem d_cX4_addEnd_73 : decode cX4_addEnd 73 = .ok (.iload_n 3, 1) := by decide +kernel
theorem d_cX4_addEnd_74 : decode cX4_addEnd 74 = .ok (.iaload, 1) := by decide +kernel
theorem d_cX4_addEnd_75 : decode cX4_addEnd 75 = .ok (.aload_n 1, 1) := by decide +kernel
theorem d_cX4_addEnd_76 : decode cX4_addEnd 76 = .ok (.getfield 64, 3) := by decide +kernel
theorem d_cX4_addEnd_79 : decode cX4_addEnd 79 = .ok (.iload_n 3, 1) := by decide +kernel
theorem d_cX4_addEnd_80 : decode cX4_addEnd 80 = .ok (.iaload, 1) := by decide +kernel
theorem d_cX4_addEnd_81 : decode cX4_addEnd 81 = .ok (.invokevirtual 67, 3) := by decide +kernel
theorem d_cX4_addEnd_84 : decode cX4_addEnd 84 = .ok (.aload_n 0, 1) := by decide +kernel
theorem d_cX4_addEnd_85 : decode cX4_addEnd 85 = .ok (.ldc 78, 2) := by decide +kernel
theorem d_cX4_addEnd_87 : decode cX4_addEnd 87 = .ok (.aload_n 1, 1) := by decide +kernel
theorem d_cX4_addEnd_88 : decode cX4_addEnd 88 = .ok (.getfield 73, 3) := by decide +kernel
theorem d_cX4_addEnd_91 : decode cX4_addEnd 91 = .ok (.iload_n 2, 1) := by decide +kernel
theorem d_cX4_addEnd_92 : decode cX4_addEnd 92 = .ok (.iaload, 1) := by decide +kernel
theorem d_cX4_addEnd_93 : decode cX4_addEnd 93 = .ok (.invokevirtual 26, 3) := by decide +kernel
theorem d_cX4_addEnd_96 : decode cX4_addEnd 96 = .ok (.aload_n 0, 1) := by decide +kernel
theorem d_cX4_addEnd_97 : decode cX4_addEnd 97 = .ok (.ldc 78, 2) := by decide +kernel
theorem d_cX4_addEnd_99 : decode cX4_addEnd 99 = .ok (.aload_n 1, 1) := by decide +kernel
theorem d_cX4_addEnd_100 : decode cX4_addEnd 100 = .ok (.getfield 80, 3) := by decide +kernel
theorem d_cX4_addEnd_103 : decode cX4_addEnd 103 = .ok (.iload_n 2, 1) := by decide +kernel
theorem d_cX4_addEnd_104 : decode cX4_addEnd 104 = .ok (.iaload, 1) := by decide +kernel
theorem d_cX4_addEnd_105 : decode cX4_addEnd 105 = .ok (.invokevirtual 26, 3) := by decide +kernel
theorem d_cX4_addEnd_108 : decode cX4_addEnd 108 = .ok (.return_, 1) := by decide +kernel
theorem d_cX4_addEnd_47 : decode cX4_addEnd 47 = .ok (.aload_n 0, 1) := by decide +kernel
theorem d_cX4_addEnd_48 : decode cX4_addEnd 48 = .ok (.ldc 71, 2) := by decide +kernel
theorem d_cX4_addEnd_50 : decode cX4_addEnd 50 = .ok (.aload_n 1, 1) := by decide +kernel
theorem d_cX4_addEnd_51 : decode cX4_addEnd 51 = .ok (.getfield 73, 3) := by decide +kernel
theorem d_cX4_addEnd_54 : decode cX4_addEnd 54 = .ok (.iload_n 2, 1) := by decide +kernel
theorem d_cX4_addEnd_55 : decode cX4_addEnd 55 = .ok (.iaload, 1) := by decide +kernel
theorem d_cX4_addEnd_56 : decode cX4_addEnd 56 = .ok (.invokevirtual 26, 3) := by decide +kernel
theorem d_cX4_addEnd_59 : decode cX4_addEnd 59 = .ok (.goto 49, 3) := by decide +kernel
theorem d_cX4_addEnd_11 : decode cX4_addEnd 11 = .ok (.aload_n 0, 1) := by decide +kernel
theorem d_cX4_addEnd_12 : decode cX4_addEnd 12 = .ok (.ldc 59, 2) := by decide +kernel
theorem d_cX4_addEnd_14 : decode cX4_addEnd 14 = .ok (.invokevirtual 32, 3) := by decide +kernel
theorem d_cX4_addEnd_17 : decode cX4_addEnd 17 = .ok (.aload_n 0, 1) := by decide +kernel
theorem d_cX4_addEnd_18 : decode cX4_addEnd 18 = .ok (.aload_n 1, 1) := by decide +kernel
theorem d_cX4_addEnd_19 : decode cX4_addEnd 19 = .ok (.getfield 61, 3) := by decide +kernel
theorem d_cX4_addEnd_22 : decode cX4_addEnd 22 = .ok (.iload_n 3, 1) := by decide +kernel
theorem d_cX4_addEnd_23 : decode cX4_addEnd 23 = .ok (.iaload, 1) := by decide +kernel
theorem d_cX4_addEnd_24 : decode cX4_addEnd 24 = .ok (.aload_n 1, 1) := by decide +kernel
theorem d_cX4_addEnd_25 : decode cX4_addEnd 25 = .ok (.getfield 64, 3) := by decide +kernel
theorem d_cX4_addEnd_28 : decode cX4_addEnd 28 = .ok (.iload_n 3, 1) := by decide +kernel
theorem d_cX4_addEnd_29 : decode cX4_addEnd 29 = .ok (.iaload, 1) := by decide +kernel
theorem d_cX4_addEnd_30 : decode cX4_addEnd 30 = .ok (.invokevirtual 67, 3) := by decide +kernel
theorem d_cX4_addEnd_33 : decode cX4_addEnd 33 = .ok (.goto 75, 3) := by decide +kernel
theorem d_cX4_write_0 : decode cX4_write 0 = .ok (.aload_n 0, 1) := by decide +kernel
theorem d_cX4_write_1 : decode cX4_write 1 = .ok (.iconst 0, 1) := by decide +kernel
theorem d_cX4_write_2 : decode cX4_write 2 = .ok (.putfield 15, 3) := by decide +kernel
theorem d_cX4_write_5 : decode cX4_write 5 = .ok (.iconst 0, 1) := by decide +kernel
theorem d_cX4_write_6 : decode cX4_write 6 = .ok (.istore_n 2, 1) := by decide +kernel
theorem d_cX4_write_7 : decode cX4_write 7 = .ok (.iload_n 2, 1) := by decide +kernel
theorem d_cX4_write_8 : decode cX4_write 8 = .ok (.aload_n 1, 1) := by decide +kernel
theorem d_cX4_write_9 : decode cX4_write 9 = .ok (.getfield 19, 3) := by decide +kernel
theorem d_cX4_write_12 : decode cX4_write 12 = .ok (.if_icmp .ge 77, 3) := by decide +kernel
theorem d_cX4_write_89 : decode cX4_write 89 = .ok (.return_, 1) := by decide +kernel
theorem d_cX4_write_15 : decode cX4_write 15 = .ok (.aload_n 0, 1) := by decide +kernel
theorem d_cX4_write_16 : decode cX4_write 16 = .ok (.ldc 24, 2) := by decide +kernel
theorem d_cX4_write_18 : decode cX4_write 18 = .ok (.iload_n 2, 1) := by decide +kernel
theorem d_cX4_write_19 : decode cX4_write 19 = .ok (.invokevirtual 26, 3) := by decide +kernel
theorem d_cX4_write_22 : decode cX4_write 22 = .ok (.aload_n 0, 1) := by decide +kernel
theorem d_cX4_write_23 : decode cX4_write 23 = .ok (.ldc 30, 2) := by decide +kernel
theorem d_cX4_write_25 : decode cX4_write 25 = .ok (.invokevirtual 32, 3) := by decide +kernel
theorem d_cX4_write_28 : decode cX4_write 28 = .ok (.aload_n 1, 1) := by decide +kernel
theorem d_cX4_write_29 : decode cX4_write 29 = .ok (.getfield 36, 3) := by decide +kernel
theorem d_cX4_write_32 : decode cX4_write 32 = .ok (.iload_n 2, 1) := by decide +kernel
theorem d_cX4_write_33 : decode cX4_write 33 = .ok (.iaload, 1) := by decide +kernel
theorem d_cX4_write_34 : decode cX4_write 34 = .ok (.istore_n 3, 1) := by decide +kernel
theorem d_cX4_write_35 : decode cX4_write 35 = .ok (.iload_n 3, 1) := by decide +kernel
theorem d_cX4_write_36 : decode cX4_write 36 = .ok (.aload_n 1, 1) := by decide +kernel
theorem d_cX4_write_37 : decode cX4_write 37 = .ok (.iload_n 2, 1) := by decide +kernel
theorem d_cX4_write_38 : decode cX4_write 38 = .ok (.invokevirtual 40, 3) := by decide +kernel
theorem w_6_185 : (Jvm.Cond.methodLink "SpillForge$Listing" (40 : Nat) ({ cls := "SpillForge$Code", name := "blockEnd", desc := "(I)I" } : Jvm.MethodName)) ∈ gw := gw_6 185 rfl rfl
theorem w_4_38 : (Jvm.Cond.code ({ cls := "SpillForge$Code", name := "blockEnd", desc := "(I)I" } : Jvm.MethodName) prog_2_method_4_code (2 : Nat) (Option.some Jvm.ClassFile.FieldType.int)) ∈ gw := gw_4 38 rfl rfl
theorem w_4_36 : (Jvm.Cond.instanceMethod ({ cls := "SpillForge$Code", name := "blockEnd", desc := "(I)I" } : Jvm.MethodName)) ∈ gw := gw_4 36 rfl rfl
theorem w_4_37 : (Jvm.Cond.selects "SpillForge$Code" ({ cls := "SpillForge$Code", name := "blockEnd", desc := "(I)I" } : Jvm.MethodName) ({ cls := "SpillForge$Code", name := "blockEnd", desc := "(I)I" } : Jvm.MethodName)) ∈ gw := gw_4 37 rfl rfl
theorem d_cX4_write_41 : decode cX4_write 41 = .ok (.if_icmp .ge 42, 3) := by decide +kernel
theorem d_cX4_write_83 : decode cX4_write 83 = .ok (.iinc 2 1, 3) := by decide +kernel
theorem d_cX4_write_86 : decode cX4_write 86 = .ok (.goto (-79), 3) := by decide +kernel
theorem d_cX4_write_44 : decode cX4_write 44 = .ok (.aload_n 1, 1) := by decide +kernel
theorem d_cX4_write_45 : decode cX4_write 45 = .ok (.getfield 44, 3) := by decide +kernel
theorem d_cX4_write_48 : decode cX4_write 48 = .ok (.iload_n 3, 1) := by decide +kernel
theorem d_cX4_write_49 : decode cX4_write 49 = .ok (.iaload, 1) := by decide +kernel
theorem d_cX4_write_50 : decode cX4_write 50 = .ok (.bipush 19, 2) := by decide +kernel
theorem d_cX4_write_52 : decode cX4_write 52 = .ok (.if_icmp .lt 13, 3) := by decide +kernel
theorem d_cX4_write_65 : decode cX4_write 65 = .ok (.aload_n 0, 1) := by decide +kernel
theorem d_cX4_write_66 : decode cX4_write 66 = .ok (.aload_n 1, 1) := by decide +kernel
theorem d_cX4_write_67 : decode cX4_write 67 = .ok (.iload_n 3, 1) := by decide +kernel
theorem d_cX4_write_68 : decode cX4_write 68 = .ok (.invokevirtual 51, 3) := by decide +kernel
theorem w_6_199 : (Jvm.Cond.methodLink "SpillForge$Listing" (51 : Nat) ({ cls := "SpillForge$Listing", name := "addRow", desc := "(LSpillForge$Code;I)V" } : Jvm.MethodName)) ∈ gw := gw_6 199 rfl rfl
theorem w_6_202 : (Jvm.Cond.code ({ cls := "SpillForge$Listing", name := "addRow", desc := "(LSpillForge$Code;I)V" } : Jvm.MethodName) prog_6_method_6_code (3 : Nat) (Option.none : Option Jvm.ClassFile.FieldType)) ∈ gw := gw_6 202 rfl rfl
theorem w_6_201 : (Jvm.Cond.instanceMethod ({ cls := "SpillForge$Listing", name := "addRow", desc := "(LSpillForge$Code;I)V" } : Jvm.MethodName)) ∈ gw := gw_6 201 rfl rfl
theorem w_p_70 : Cond.selects "SpillForge$Listing" ⟨"SpillForge$Listing", "addRow", "(LSpillForge$Code;I)V"⟩ ⟨"SpillForge$Listing", "addRow", "(LSpillForge$Code;I)V"⟩ ∈ gw := gw_p _ 70 rfl rfl rfl
theorem d_cX4_write_71 : decode cX4_write 71 = .ok (.aload_n 0, 1) := by decide +kernel
theorem d_cX4_write_72 : decode cX4_write 72 = .ok (.bipush 10, 2) := by decide +kernel
theorem d_cX4_write_74 : decode cX4_write 74 = .ok (.invokevirtual 55, 3) := by decide +kernel
theorem d_cX4_write_77 : decode cX4_write 77 = .ok (.iinc 3 1, 3) := by decide +kernel
theorem d_cX4_write_80 : decode cX4_write 80 = .ok (.goto (-45), 3) := by decide +kernel
theorem d_cX4_write_55 : decode cX4_write 55 = .ok (.aload_n 0, 1) := by decide +kernel
theorem d_cX4_write_56 : decode cX4_write 56 = .ok (.aload_n 1, 1) := by decide +kernel
theorem d_cX4_write_57 : decode cX4_write 57 = .ok (.iload_n 2, 1) := by decide +kernel
theorem d_cX4_write_58 : decode cX4_write 58 = .ok (.iload_n 3, 1) := by decide +kernel
theorem d_cX4_write_59 : decode cX4_write 59 = .ok (.invokevirtual 47, 3) := by decide +kernel
theorem w_6_186 : (Jvm.Cond.methodLink "SpillForge$Listing" (47 : Nat) ({ cls := "SpillForge$Listing", name := "addEnd", desc := "(LSpillForge$Code;II)V" } : Jvm.MethodName)) ∈ gw := gw_6 186 rfl rfl
theorem w_6_189 : (Jvm.Cond.code ({ cls := "SpillForge$Listing", name := "addEnd", desc := "(LSpillForge$Code;II)V" } : Jvm.MethodName) prog_6_method_5_code (4 : Nat) (Option.none : Option Jvm.ClassFile.FieldType)) ∈ gw := gw_6 189 rfl rfl
theorem w_6_188 : (Jvm.Cond.instanceMethod ({ cls := "SpillForge$Listing", name := "addEnd", desc := "(LSpillForge$Code;II)V" } : Jvm.MethodName)) ∈ gw := gw_6 188 rfl rfl
theorem w_p_68 : Cond.selects "SpillForge$Listing" ⟨"SpillForge$Listing", "addEnd", "(LSpillForge$Code;II)V"⟩ ⟨"SpillForge$Listing", "addEnd", "(LSpillForge$Code;II)V"⟩ ∈ gw := gw_p _ 68 rfl rfl rfl
theorem d_cX4_write_62 : decode cX4_write 62 = .ok (.goto 9, 3) := by decide +kernel
abbrev ky_10195_Listing_addRow : gKey := (cX4_addRow, 3, yX4_addRow.cls, none, [], yX4_addRow.name, fun _ _ => True)
abbrev po_10195_Listing_addRow (I : FieldType → ClassId) (q10168 : Nat) (q10169 : Nat) (q10170 : Nat) (q10171 : Nat) (q10172 : Nat) (q10173 : Nat) (q10174 : Nat) (q10175 : Nat) (q10176 : Nat) (q10177 : Nat) (q10178 : Nat) (q10179 : Nat) (p10180 : Int32) (p10181 : Int32) (p10182 : Int32) (p10183 : Int32) (p10184 : Int32) (f10185 : Nat → Int32) (f10186 : Nat → Int32) (f10187 : Nat → Int32) (f10188 : Nat → Int32) (f10189 : Nat → Int32) (f10190 : Nat → Int32) (f10191 : Nat → Int32) (f10192 : Nat → Int32) (f10193 : Nat → Int32) (f10194 : Nat → Int32) : Option Value → va_W → Prop := fun r w => ∃ (o10355 : Int32) (f10356 : Nat → Int32), r = none ∧ w = [(q10168, .inr (9, [.ref q10170, .int o10355])), (q10169, .inr (5, [.ref q10171, .ref q10172, .ref q10173, .ref q10174, .ref q10175, .ref q10176, .ref q10177, .ref q10178, .ref q10179, .int p10182, .int p10183, .int p10184])), (q10170, .inl (I .byte, 16384, .inl f10356)), (q10171, .inl (I .int, 40, .inl f10186)), (q10172, .inl (I .int, 40, .inl f10187)), (q10173, .inl (I .int, 40, .inl f10188)), (q10174, .inl (I .int, 200, .inl f10189)), (q10175, .inl (I .int, 200, .inl f10190)), (q10176, .inl (I .int, 200, .inl f10191)), (q10177, .inl (I .int, 200, .inl f10192)), (q10178, .inl (I .int, 200, .inl f10193)), (q10179, .inl (I .int, 200, .inl f10194))] ∧ gB o10355 0 16384 ∧ gF f10356 (-128) 127 ∧ tr_Listing_addRow p10180 p10181 f10185 f10189 f10190 f10191 f10192 f10193 f10194 o10355 f10356
set_option maxRecDepth 100000 in
set_option maxHeartbeats 4000000 in
theorem ct_10195_Listing_addRow (l : Launch) (hl0 : l.stackTraces = false) (D : va_G) (I : FieldType → ClassId) (q10168 : Nat) (q10169 : Nat) (q10170 : Nat) (q10171 : Nat) (q10172 : Nat) (q10173 : Nat) (q10174 : Nat) (q10175 : Nat) (q10176 : Nat) (q10177 : Nat) (q10178 : Nat) (q10179 : Nat) (p10180 : Int32) (p10181 : Int32) (p10182 : Int32) (p10183 : Int32) (p10184 : Int32) (f10185 : Nat → Int32) (f10186 : Nat → Int32) (f10187 : Nat → Int32) (f10188 : Nat → Int32) (f10189 : Nat → Int32) (f10190 : Nat → Int32) (f10191 : Nat → Int32) (f10192 : Nat → Int32) (f10193 : Nat → Int32) (f10194 : Nat → Int32) (bp10180 : gB p10180 0 199) (bp10181 : gB p10181 0 16384) (bp10182 : gB p10182 0 40) (bp10183 : gB p10183 0 200) (bp10184 : gB p10184 0 1) (bf10185 : gF f10185 (-128) 127) (bf10186 : gF f10186 0 200) (bf10189 : gF f10189 0 21) : Ct (gV D I) l yX4_addRow cX4_addRow 3 none 8 173 0 0 [.ref q10168, .ref q10169, .int p10180] [(q10168, .inr (9, [.ref q10170, .int p10181])), (q10169, .inr (5, [.ref q10171, .ref q10172, .ref q10173, .ref q10174, .ref q10175, .ref q10176, .ref q10177, .ref q10178, .ref q10179, .int p10182, .int p10183, .int p10184])), (q10170, .inl (I .byte, 16384, .inl f10185)), (q10171, .inl (I .int, 40, .inl f10186)), (q10172, .inl (I .int, 40, .inl f10187)), (q10173, .inl (I .int, 40, .inl f10188)), (q10174, .inl (I .int, 200, .inl f10189)), (q10175, .inl (I .int, 200, .inl f10190)), (q10176, .inl (I .int, 200, .inl f10191)), (q10177, .inl (I .int, 200, .inl f10192)), (q10178, .inl (I .int, 200, .inl f10193)), (q10179, .inl (I .int, 200, .inl f10194))] (po_10195_Listing_addRow I q10168 q10169 q10170 q10171 q10172 q10173 q10174 q10175 q10176 q10177 q10178 q10179 p10180 p10181 p10182 p10183 p10184 f10185 f10186 f10187 f10188 f10189 f10190 f10191 f10192 f10193 f10194) gN := by
  refine Ct_of hl0 (by decide) (Nat.le_of_ble_eq_true rfl) ?_
  refine G_aload_n 1 d_cX4_addRow_0 rfl ?_
  refine G_getfN 1 3 d_cX4_addRow_1 rfl (gk_X0 D I) (Nat.le_of_ble_eq_true rfl) (fun _ _ _ h => gn_w 15 rfl h) rfl ?_
  refine G_iload_n 2 d_cX4_addRow_4 rfl ?_
  refine G_iald 6 0 d_cX4_addRow_5 rfl rfl (gB_in bp10180 (by decide) (by decide)) (G_nam fun z10196 hz10196 => ?_)
  have bz10196 : gB z10196 0 21 := by rw [hz10196]; exact bf10189 _
  refine G_bipush 16 d_cX4_addRow_6 (by decide +kernel) ?_
  refine G_icmp_ne 36 d_cX4_addRow_8 (by decide +kernel) (fun hc10197 => ?_) (fun hc10197 => ?_)
  · have r10198 : z10196.toInt ≠ 16 := gj_neq hc10197 (show Int32.toInt 16 = 16 by decide)
    refine G_aload_n 1 d_cX4_addRow_36 rfl ?_
    refine G_getfN 1 3 d_cX4_addRow_37 rfl (gk_X0 D I) (Nat.le_of_ble_eq_true rfl) (fun _ _ _ h => gn_w 15 rfl h) rfl ?_
    refine G_iload_n 2 d_cX4_addRow_40 rfl ?_
    refine G_iald 6 0 d_cX4_addRow_41 rfl rfl (gB_in bp10180 (by decide) (by decide)) (G_eqi (y := z10196) hz10196.symm ?_)
    refine G_bipush 18 d_cX4_addRow_42 (by decide +kernel) ?_
    refine G_icmp_ne 74 d_cX4_addRow_44 (by decide +kernel) (fun hc10199 => ?_) (fun hc10199 => ?_)
    · have r10200 : z10196.toInt ≠ 18 := gj_neq hc10199 (show Int32.toInt 18 = 18 by decide)
      refine G_aload_n 0 d_cX4_addRow_74 rfl ?_
      refine G_ldcK (a := D.2 1000 21) d_cX4_addRow_75 (fun _ _ _ h => gx_vk 21 rfl rfl h) ?_
      have hl21_10200 : (sb_21.length : Int) = 1 := rfl
      refine G_aload_n 1 d_cX4_addRow_77 rfl ?_
      refine G_getfN 1 4 d_cX4_addRow_78 rfl (gk_X0 D I) (Nat.le_of_ble_eq_true rfl) (fun _ _ _ h => gn_w 19 rfl h) rfl ?_
      refine G_iload_n 2 d_cX4_addRow_81 rfl ?_
      refine G_iald 7 0 d_cX4_addRow_82 rfl rfl (gB_in bp10180 (by decide) (by decide)) (G_nam fun z10202 hz10202 => ?_)
      have bz10202 : gB z10202 (-2147483648) 2147483647 := gB_any z10202
      refine G_callV (As := [.ref (D.2 1000 21), .int z10202]) (wr := [(q10169, .inr (5, [.ref q10171, .ref q10172, .ref q10173, .ref q10174, .ref q10175, .ref q10176, .ref q10177, .ref q10178, .ref q10179, .int p10182, .int p10183, .int p10184])), (q10171, .inl (I .int, 40, .inl f10186)), (q10172, .inl (I .int, 40, .inl f10187)), (q10173, .inl (I .int, 40, .inl f10188)), (q10174, .inl (I .int, 200, .inl f10189)), (q10175, .inl (I .int, 200, .inl f10190)), (q10176, .inl (I .int, 200, .inl f10191)), (q10177, .inl (I .int, 200, .inl f10192)), (q10178, .inl (I .int, 200, .inl f10193)), (q10179, .inl (I .int, 200, .inl f10194))]) (gV_ok D I) (ct_7226_Listing_addNamed l hl0 D I q10168 q10170 (D.2 1000 21) (D.2 1001 21) sb_21 z10202 p10181 f10185 (gx_sc 21 rfl rfl) (by omega) bp10181 bf10185) d_cX4_addRow_83 ⟨w_6_161, w_1_13, w_6_164, by decide, rfl, (Nat.le_of_ble_eq_true rfl), (Nat.le_of_ble_eq_true rfl)⟩ w_6_163 w_p_64 0 rfl rfl [0, 2] [1, 3, 4, 5, 6, 7, 8, 9, 10, 11] rfl rfl rfl rfl (by decide) (Nat.le_of_ble_eq_true rfl) (Nat.le_of_ble_eq_true rfl) (Nat.le_of_ble_eq_true rfl) (fun r w hp => ?_) (fun _ _ _ z => z.elim)
      obtain ⟨o10203, f10204, rfl, rfl, bo10203, bf10204, ht10205⟩ := hp
      change G _ _ _ _ _ _ _ _ _ _ _
      refine G_ws (ws' := [(q10169, .inr (5, [.ref q10171, .ref q10172, .ref q10173, .ref q10174, .ref q10175, .ref q10176, .ref q10177, .ref q10178, .ref q10179, .int p10182, .int p10183, .int p10184])), (q10171, .inl (I .int, 40, .inl f10186)), (q10172, .inl (I .int, 40, .inl f10187)), (q10173, .inl (I .int, 40, .inl f10188)), (q10174, .inl (I .int, 200, .inl f10189)), (q10175, .inl (I .int, 200, .inl f10190)), (q10176, .inl (I .int, 200, .inl f10191)), (q10177, .inl (I .int, 200, .inl f10192)), (q10178, .inl (I .int, 200, .inl f10193)), (q10179, .inl (I .int, 200, .inl f10194)), (q10168, .inr (9, [.ref q10170, .int o10203])), (q10170, .inl (I .byte, 16384, .inl f10204))]) (cs' := 0) (sl' := 0) rfl rfl rfl ?_
      refine G_aload_n 0 d_cX4_addRow_86 rfl ?_
      refine G_ldcK (a := D.2 1000 28) d_cX4_addRow_87 (fun _ _ _ h => gx_vk 28 rfl rfl h) ?_
      have hl28_10205 : (sb_28.length : Int) = 3 := rfl
      refine G_callV (As := [.ref (D.2 1000 28)]) (wr := [(q10169, .inr (5, [.ref q10171, .ref q10172, .ref q10173, .ref q10174, .ref q10175, .ref q10176, .ref q10177, .ref q10178, .ref q10179, .int p10182, .int p10183, .int p10184])), (q10171, .inl (I .int, 40, .inl f10186)), (q10172, .inl (I .int, 40, .inl f10187)), (q10173, .inl (I .int, 40, .inl f10188)), (q10174, .inl (I .int, 200, .inl f10189)), (q10175, .inl (I .int, 200, .inl f10190)), (q10176, .inl (I .int, 200, .inl f10191)), (q10177, .inl (I .int, 200, .inl f10192)), (q10178, .inl (I .int, 200, .inl f10193)), (q10179, .inl (I .int, 200, .inl f10194))]) (gV_ok D I) (ct_7234_Listing_addText l hl0 D I q10168 q10170 (D.2 1000 28) (D.2 1001 28) sb_28 o10203 f10204 (gx_sc 28 rfl rfl) (by omega) bo10203 bf10204) d_cX4_addRow_89 ⟨w_6_165, w_1_13, w_6_168, by decide, rfl, (Nat.le_of_ble_eq_true rfl), (Nat.le_of_ble_eq_true rfl)⟩ w_6_167 w_p_65 10 rfl rfl [10, 11] [0, 1, 2, 3, 4, 5, 6, 7, 8, 9] rfl rfl rfl rfl (by decide) (Nat.le_of_ble_eq_true rfl) (Nat.le_of_ble_eq_true rfl) (Nat.le_of_ble_eq_true rfl) (fun r w hp => ?_) (fun _ _ _ z => z.elim)
      obtain ⟨o10207, f10208, rfl, rfl, bo10207, bf10208, ht10209⟩ := hp
      change G _ _ _ _ _ _ _ _ _ _ _
      refine G_ws (ws' := [(q10169, .inr (5, [.ref q10171, .ref q10172, .ref q10173, .ref q10174, .ref q10175, .ref q10176, .ref q10177, .ref q10178, .ref q10179, .int p10182, .int p10183, .int p10184])), (q10171, .inl (I .int, 40, .inl f10186)), (q10172, .inl (I .int, 40, .inl f10187)), (q10173, .inl (I .int, 40, .inl f10188)), (q10174, .inl (I .int, 200, .inl f10189)), (q10175, .inl (I .int, 200, .inl f10190)), (q10176, .inl (I .int, 200, .inl f10191)), (q10177, .inl (I .int, 200, .inl f10192)), (q10178, .inl (I .int, 200, .inl f10193)), (q10179, .inl (I .int, 200, .inl f10194)), (q10168, .inr (9, [.ref q10170, .int o10207])), (q10170, .inl (I .byte, 16384, .inl f10208))]) (cs' := 0) (sl' := 0) rfl rfl rfl ?_
      refine G_aload_n 0 d_cX4_addRow_92 rfl ?_
      refine G_aload_n 1 d_cX4_addRow_93 rfl ?_
      refine G_iload_n 2 d_cX4_addRow_94 rfl ?_
      refine G_callV (As := [.ref q10169, .int p10180]) (wr := []) (gV_ok D I) (ct_10237_Listing_addSource l hl0 D I q10168 q10169 q10170 q10171 q10172 q10173 q10174 q10175 q10176 q10177 q10178 q10179 p10180 o10207 p10182 p10183 p10184 f10208 f10186 f10187 f10188 f10189 f10190 f10191 f10192 f10193 f10194 bp10180 bo10207 bp10182 bp10183 bp10184 bf10208 bf10186 bf10189) d_cX4_addRow_95 ⟨w_6_207, w_1_13, w_6_210, by decide, rfl, (Nat.le_of_ble_eq_true rfl), (Nat.le_of_ble_eq_true rfl)⟩ w_6_209 w_p_71 10 rfl rfl [10, 0, 11, 1, 2, 3, 4, 5, 6, 7, 8, 9] [] rfl rfl rfl rfl (by decide) (Nat.le_of_ble_eq_true rfl) (Nat.le_of_ble_eq_true rfl) (Nat.le_of_ble_eq_true rfl) (fun r w hp => ?_) (fun _ _ _ z => z.elim)
      obtain ⟨o10331, f10332, rfl, rfl, bo10331, bf10332, ht10333⟩ := hp
      change G _ _ _ _ _ _ _ _ _ _ _
      refine G_ws (ws' := [(q10168, .inr (9, [.ref q10170, .int o10331])), (q10169, .inr (5, [.ref q10171, .ref q10172, .ref q10173, .ref q10174, .ref q10175, .ref q10176, .ref q10177, .ref q10178, .ref q10179, .int p10182, .int p10183, .int p10184])), (q10170, .inl (I .byte, 16384, .inl f10332)), (q10171, .inl (I .int, 40, .inl f10186)), (q10172, .inl (I .int, 40, .inl f10187)), (q10173, .inl (I .int, 40, .inl f10188)), (q10174, .inl (I .int, 200, .inl f10189)), (q10175, .inl (I .int, 200, .inl f10190)), (q10176, .inl (I .int, 200, .inl f10191)), (q10177, .inl (I .int, 200, .inl f10192)), (q10178, .inl (I .int, 200, .inl f10193)), (q10179, .inl (I .int, 200, .inl f10194))]) (cs' := 0) (sl' := 0) rfl rfl rfl ?_
      exact G_vret d_cX4_addRow_98 rfl (Nat.le_of_ble_eq_true rfl) (Nat.le_of_ble_eq_true rfl) ⟨o10331, f10332, rfl, rfl, bo10331, bf10332, (fun R c1 c2 c3 => c1 z10196 z10202 o10203 f10204 o10207 f10208 o10331 f10332 hz10196 bz10196 r10198 r10200 hz10202 bo10203 ht10205 bo10207 ht10209 bo10331 ht10333)⟩
    · have r10334 : z10196.toInt = 18 := gj_eq hc10199 (show Int32.toInt 18 = 18 by decide)
      have bz10196' : gB z10196 18 18 := ⟨by omega, by omega⟩
      refine G_aload_n 0 d_cX4_addRow_47 rfl ?_
      refine G_ldcK (a := D.2 1000 26) d_cX4_addRow_48 (fun _ _ _ h => gx_vk 26 rfl rfl h) ?_
      have hl26_10334 : (sb_26.length : Int) = 5 := rfl
      refine G_aload_n 1 d_cX4_addRow_50 rfl ?_
      refine G_getfN 1 8 d_cX4_addRow_51 rfl (gk_X0 D I) (Nat.le_of_ble_eq_true rfl) (fun _ _ _ h => gn_w 34 rfl h) rfl ?_
      refine G_iload_n 2 d_cX4_addRow_54 rfl ?_
      refine G_iald 11 0 d_cX4_addRow_55 rfl rfl (gB_in bp10180 (by decide) (by decide)) (G_nam fun z10336 hz10336 => ?_)
      have bz10336 : gB z10336 (-2147483648) 2147483647 := gB_any z10336
      refine G_callV (As := [.ref (D.2 1000 26), .int z10336]) (wr := [(q10169, .inr (5, [.ref q10171, .ref q10172, .ref q10173, .ref q10174, .ref q10175, .ref q10176, .ref q10177, .ref q10178, .ref q10179, .int p10182, .int p10183, .int p10184])), (q10171, .inl (I .int, 40, .inl f10186)), (q10172, .inl (I .int, 40, .inl f10187)), (q10173, .inl (I .int, 40, .inl f10188)), (q10174, .inl (I .int, 200, .inl f10189)), (q10175, .inl (I .int, 200, .inl f10190)), (q10176, .inl (I .int, 200, .inl f10191)), (q10177, .inl (I .int, 200, .inl f10192)), (q10178, .inl (I .int, 200, .inl f10193)), (q10179, .inl (I .int, 200, .inl f10194))]) (gV_ok D I) (ct_7226_Listing_addNamed l hl0 D I q10168 q10170 (D.2 1000 26) (D.2 1001 26) sb_26 z10336 p10181 f10185 (gx_sc 26 rfl rfl) (by omega) bp10181 bf10185) d_cX4_addRow_56 ⟨w_6_161, w_1_13, w_6_164, by decide, rfl, (Nat.le_of_ble_eq_true rfl), (Nat.le_of_ble_eq_true rfl)⟩ w_6_163 w_p_64 0 rfl rfl [0, 2] [1, 3, 4, 5, 6, 7, 8, 9, 10, 11] rfl rfl rfl rfl (by decide) (Nat.le_of_ble_eq_true rfl) (Nat.le_of_ble_eq_true rfl) (Nat.le_of_ble_eq_true rfl) (fun r w hp => ?_) (fun _ _ _ z => z.elim)
      obtain ⟨o10337, f10338, rfl, rfl, bo10337, bf10338, ht10339⟩ := hp
      change G _ _ _ _ _ _ _ _ _ _ _
      refine G_ws (ws' := [(q10169, .inr (5, [.ref q10171, .ref q10172, .ref q10173, .ref q10174, .ref q10175, .ref q10176, .ref q10177, .ref q10178, .ref q10179, .int p10182, .int p10183, .int p10184])), (q10171, .inl (I .int, 40, .inl f10186)), (q10172, .inl (I .int, 40, .inl f10187)), (q10173, .inl (I .int, 40, .inl f10188)), (q10174, .inl (I .int, 200, .inl f10189)), (q10175, .inl (I .int, 200, .inl f10190)), (q10176, .inl (I .int, 200, .inl f10191)), (q10177, .inl (I .int, 200, .inl f10192)), (q10178, .inl (I .int, 200, .inl f10193)), (q10179, .inl (I .int, 200, .inl f10194)), (q10168, .inr (9, [.ref q10170, .int o10337])), (q10170, .inl (I .byte, 16384, .inl f10338))]) (cs' := 0) (sl' := 0) rfl rfl rfl ?_
      refine G_aload_n 0 d_cX4_addRow_59 rfl ?_
      refine G_ldcK (a := D.2 1000 27) d_cX4_addRow_60 (fun _ _ _ h => gx_vk 27 rfl rfl h) ?_
      have hl27_10339 : (sb_27.length : Int) = 4 := rfl
      refine G_aload_n 1 d_cX4_addRow_62 rfl ?_
      refine G_getfN 0 5 d_cX4_addRow_63 rfl (gk_X0 D I) (Nat.le_of_ble_eq_true rfl) (fun _ _ _ h => gn_w 23 rfl h) rfl ?_
      refine G_iload_n 2 d_cX4_addRow_66 rfl ?_
      refine G_iald 6 0 d_cX4_addRow_67 rfl rfl (gB_in bp10180 (by decide) (by decide)) (G_nam fun z10341 hz10341 => ?_)
      have bz10341 : gB z10341 (-2147483648) 2147483647 := gB_any z10341
      refine G_callV (As := [.ref (D.2 1000 27), .int z10341]) (wr := [(q10169, .inr (5, [.ref q10171, .ref q10172, .ref q10173, .ref q10174, .ref q10175, .ref q10176, .ref q10177, .ref q10178, .ref q10179, .int p10182, .int p10183, .int p10184])), (q10171, .inl (I .int, 40, .inl f10186)), (q10172, .inl (I .int, 40, .inl f10187)), (q10173, .inl (I .int, 40, .inl f10188)), (q10174, .inl (I .int, 200, .inl f10189)), (q10175, .inl (I .int, 200, .inl f10190)), (q10176, .inl (I .int, 200, .inl f10191)), (q10177, .inl (I .int, 200, .inl f10192)), (q10178, .inl (I .int, 200, .inl f10193)), (q10179, .inl (I .int, 200, .inl f10194))]) (gV_ok D I) (ct_7226_Listing_addNamed l hl0 D I q10168 q10170 (D.2 1000 27) (D.2 1001 27) sb_27 z10341 o10337 f10338 (gx_sc 27 rfl rfl) (by omega) bo10337 bf10338) d_cX4_addRow_68 ⟨w_6_161, w_1_13, w_6_164, by decide, rfl, (Nat.le_of_ble_eq_true rfl), (Nat.le_of_ble_eq_true rfl)⟩ w_6_163 w_p_64 10 rfl rfl [10, 11] [0, 1, 2, 3, 4, 5, 6, 7, 8, 9] rfl rfl rfl rfl (by decide) (Nat.le_of_ble_eq_true rfl) (Nat.le_of_ble_eq_true rfl) (Nat.le_of_ble_eq_true rfl) (fun r w hp => ?_) (fun _ _ _ z => z.elim)
      obtain ⟨o10342, f10343, rfl, rfl, bo10342, bf10343, ht10344⟩ := hp
      change G _ _ _ _ _ _ _ _ _ _ _
      refine G_ws (ws' := [(q10169, .inr (5, [.ref q10171, .ref q10172, .ref q10173, .ref q10174, .ref q10175, .ref q10176, .ref q10177, .ref q10178, .ref q10179, .int p10182, .int p10183, .int p10184])), (q10171, .inl (I .int, 40, .inl f10186)), (q10172, .inl (I .int, 40, .inl f10187)), (q10173, .inl (I .int, 40, .inl f10188)), (q10174, .inl (I .int, 200, .inl f10189)), (q10175, .inl (I .int, 200, .inl f10190)), (q10176, .inl (I .int, 200, .inl f10191)), (q10177, .inl (I .int, 200, .inl f10192)), (q10178, .inl (I .int, 200, .inl f10193)), (q10179, .inl (I .int, 200, .inl f10194)), (q10168, .inr (9, [.ref q10170, .int o10342])), (q10170, .inl (I .byte, 16384, .inl f10343))]) (cs' := 0) (sl' := 0) rfl rfl rfl ?_
      refine G_goto 98 d_cX4_addRow_71 (by decide +kernel) ?_
      refine G_sub (ws' := [(q10168, .inr (9, [.ref q10170, .int o10342])), (q10169, .inr (5, [.ref q10171, .ref q10172, .ref q10173, .ref q10174, .ref q10175, .ref q10176, .ref q10177, .ref q10178, .ref q10179, .int p10182, .int p10183, .int p10184])), (q10170, .inl (I .byte, 16384, .inl f10343)), (q10171, .inl (I .int, 40, .inl f10186)), (q10172, .inl (I .int, 40, .inl f10187)), (q10173, .inl (I .int, 40, .inl f10188)), (q10174, .inl (I .int, 200, .inl f10189)), (q10175, .inl (I .int, 200, .inl f10190)), (q10176, .inl (I .int, 200, .inl f10191)), (q10177, .inl (I .int, 200, .inl f10192)), (q10178, .inl (I .int, 200, .inl f10193)), (q10179, .inl (I .int, 200, .inl f10194))]) [10, 0, 11, 1, 2, 3, 4, 5, 6, 7, 8, 9] rfl rfl ?_
      exact G_vret d_cX4_addRow_98 rfl (Nat.le_of_ble_eq_true rfl) (Nat.le_of_ble_eq_true rfl) ⟨o10342, f10343, rfl, rfl, bo10342, bf10343, (fun R c1 c2 c3 => c2 z10196 z10336 o10337 f10338 z10341 o10342 f10343 hz10196 bz10196 r10198 r10334 hz10336 bo10337 ht10339 hz10341 bo10342 ht10344)⟩
  · have r10345 : z10196.toInt = 16 := gj_eq hc10197 (show Int32.toInt 16 = 16 by decide)
    have bz10196' : gB z10196 16 16 := ⟨by omega, by omega⟩
    refine G_aload_n 0 d_cX4_addRow_11 rfl ?_
    refine G_ldcK (a := D.2 1000 25) d_cX4_addRow_12 (fun _ _ _ h => gx_vk 25 rfl rfl h) ?_
    have hl25_10345 : (sb_25.length : Int) = 5 := rfl
    refine G_callV (As := [.ref (D.2 1000 25)]) (wr := [(q10169, .inr (5, [.ref q10171, .ref q10172, .ref q10173, .ref q10174, .ref q10175, .ref q10176, .ref q10177, .ref q10178, .ref q10179, .int p10182, .int p10183, .int p10184])), (q10171, .inl (I .int, 40, .inl f10186)), (q10172, .inl (I .int, 40, .inl f10187)), (q10173, .inl (I .int, 40, .inl f10188)), (q10174, .inl (I .int, 200, .inl f10189)), (q10175, .inl (I .int, 200, .inl f10190)), (q10176, .inl (I .int, 200, .inl f10191)), (q10177, .inl (I .int, 200, .inl f10192)), (q10178, .inl (I .int, 200, .inl f10193)), (q10179, .inl (I .int, 200, .inl f10194))]) (gV_ok D I) (ct_7234_Listing_addText l hl0 D I q10168 q10170 (D.2 1000 25) (D.2 1001 25) sb_25 p10181 f10185 (gx_sc 25 rfl rfl) (by omega) bp10181 bf10185) d_cX4_addRow_14 ⟨w_6_165, w_1_13, w_6_168, by decide, rfl, (Nat.le_of_ble_eq_true rfl), (Nat.le_of_ble_eq_true rfl)⟩ w_6_167 w_p_65 0 rfl rfl [0, 2] [1, 3, 4, 5, 6, 7, 8, 9, 10, 11] rfl rfl rfl rfl (by decide) (Nat.le_of_ble_eq_true rfl) (Nat.le_of_ble_eq_true rfl) (Nat.le_of_ble_eq_true rfl) (fun r w hp => ?_) (fun _ _ _ z => z.elim)
    obtain ⟨o10347, f10348, rfl, rfl, bo10347, bf10348, ht10349⟩ := hp
    change G _ _ _ _ _ _ _ _ _ _ _
    refine G_ws (ws' := [(q10169, .inr (5, [.ref q10171, .ref q10172, .ref q10173, .ref q10174, .ref q10175, .ref q10176, .ref q10177, .ref q10178, .ref q10179, .int p10182, .int p10183, .int p10184])), (q10171, .inl (I .int, 40, .inl f10186)), (q10172, .inl (I .int, 40, .inl f10187)), (q10173, .inl (I .int, 40, .inl f10188)), (q10174, .inl (I .int, 200, .inl f10189)), (q10175, .inl (I .int, 200, .inl f10190)), (q10176, .inl (I .int, 200, .inl f10191)), (q10177, .inl (I .int, 200, .inl f10192)), (q10178, .inl (I .int, 200, .inl f10193)), (q10179, .inl (I .int, 200, .inl f10194)), (q10168, .inr (9, [.ref q10170, .int o10347])), (q10170, .inl (I .byte, 16384, .inl f10348))]) (cs' := 0) (sl' := 0) rfl rfl rfl ?_
    refine G_aload_n 0 d_cX4_addRow_17 rfl ?_
    refine G_aload_n 1 d_cX4_addRow_18 rfl ?_
    refine G_getfN 0 5 d_cX4_addRow_19 rfl (gk_X0 D I) (Nat.le_of_ble_eq_true rfl) (fun _ _ _ h => gn_w 23 rfl h) rfl ?_
    refine G_iload_n 2 d_cX4_addRow_22 rfl ?_
    refine G_iald 6 0 d_cX4_addRow_23 rfl rfl (gB_in bp10180 (by decide) (by decide)) (G_nam fun z10350 hz10350 => ?_)
    have bz10350 : gB z10350 (-2147483648) 2147483647 := gB_any z10350
    refine G_aload_n 1 d_cX4_addRow_24 rfl ?_
    refine G_getfN 0 6 d_cX4_addRow_25 rfl (gk_X0 D I) (Nat.le_of_ble_eq_true rfl) (fun _ _ _ h => gn_w 27 rfl h) rfl ?_
    refine G_iload_n 2 d_cX4_addRow_28 rfl ?_
    refine G_iald 7 0 d_cX4_addRow_29 rfl rfl (gB_in bp10180 (by decide) (by decide)) (G_nam fun z10351 hz10351 => ?_)
    have bz10351 : gB z10351 (-2147483648) 2147483647 := gB_any z10351
    refine G_callV (As := [.int z10350, .int z10351]) (wr := [(q10169, .inr (5, [.ref q10171, .ref q10172, .ref q10173, .ref q10174, .ref q10175, .ref q10176, .ref q10177, .ref q10178, .ref q10179, .int p10182, .int p10183, .int p10184])), (q10171, .inl (I .int, 40, .inl f10186)), (q10172, .inl (I .int, 40, .inl f10187)), (q10173, .inl (I .int, 40, .inl f10188)), (q10174, .inl (I .int, 200, .inl f10189)), (q10175, .inl (I .int, 200, .inl f10190)), (q10176, .inl (I .int, 200, .inl f10191)), (q10177, .inl (I .int, 200, .inl f10192)), (q10178, .inl (I .int, 200, .inl f10193)), (q10179, .inl (I .int, 200, .inl f10194))]) (gV_ok D I) (ct_10251_Listing_addOperand l hl0 D I q10168 q10170 z10350 z10351 o10347 f10348 bo10347 bf10348) d_cX4_addRow_30 ⟨w_6_191, w_1_13, w_6_194, by decide, rfl, (Nat.le_of_ble_eq_true rfl), (Nat.le_of_ble_eq_true rfl)⟩ w_6_193 w_p_69 10 rfl rfl [10, 11] [0, 1, 2, 3, 4, 5, 6, 7, 8, 9] rfl rfl rfl rfl (by decide) (Nat.le_of_ble_eq_true rfl) (Nat.le_of_ble_eq_true rfl) (Nat.le_of_ble_eq_true rfl) (fun r w hp => ?_) (fun _ _ _ z => z.elim)
    obtain ⟨o10352, f10353, rfl, rfl, bo10352, bf10353, ht10354⟩ := hp
    change G _ _ _ _ _ _ _ _ _ _ _
    refine G_ws (ws' := [(q10169, .inr (5, [.ref q10171, .ref q10172, .ref q10173, .ref q10174, .ref q10175, .ref q10176, .ref q10177, .ref q10178, .ref q10179, .int p10182, .int p10183, .int p10184])), (q10171, .inl (I .int, 40, .inl f10186)), (q10172, .inl (I .int, 40, .inl f10187)), (q10173, .inl (I .int, 40, .inl f10188)), (q10174, .inl (I .int, 200, .inl f10189)), (q10175, .inl (I .int, 200, .inl f10190)), (q10176, .inl (I .int, 200, .inl f10191)), (q10177, .inl (I .int, 200, .inl f10192)), (q10178, .inl (I .int, 200, .inl f10193)), (q10179, .inl (I .int, 200, .inl f10194)), (q10168, .inr (9, [.ref q10170, .int o10352])), (q10170, .inl (I .byte, 16384, .inl f10353))]) (cs' := 0) (sl' := 0) rfl rfl rfl ?_
    refine G_goto 98 d_cX4_addRow_33 (by decide +kernel) ?_
    refine G_sub (ws' := [(q10168, .inr (9, [.ref q10170, .int o10352])), (q10169, .inr (5, [.ref q10171, .ref q10172, .ref q10173, .ref q10174, .ref q10175, .ref q10176, .ref q10177, .ref q10178, .ref q10179, .int p10182, .int p10183, .int p10184])), (q10170, .inl (I .byte, 16384, .inl f10353)), (q10171, .inl (I .int, 40, .inl f10186)), (q10172, .inl (I .int, 40, .inl f10187)), (q10173, .inl (I .int, 40, .inl f10188)), (q10174, .inl (I .int, 200, .inl f10189)), (q10175, .inl (I .int, 200, .inl f10190)), (q10176, .inl (I .int, 200, .inl f10191)), (q10177, .inl (I .int, 200, .inl f10192)), (q10178, .inl (I .int, 200, .inl f10193)), (q10179, .inl (I .int, 200, .inl f10194))]) [10, 0, 11, 1, 2, 3, 4, 5, 6, 7, 8, 9] rfl rfl ?_
    exact G_vret d_cX4_addRow_98 rfl (Nat.le_of_ble_eq_true rfl) (Nat.le_of_ble_eq_true rfl) ⟨o10352, f10353, rfl, rfl, bo10352, bf10353, (fun R c1 c2 c3 => c3 z10196 o10347 f10348 z10350 z10351 o10352 f10353 hz10196 bz10196 r10345 bo10347 ht10349 hz10350 hz10351 bo10352 ht10354)⟩
/- tr_Listing_addEnd: Listing_size, Listing_bytes -/
def tr_Listing_addEnd (a2 : Int32) (a3 : Int32) (Listing_size : Int32) (Listing_bytes : Nat → Int32) (Code_firstGoal : Nat → Int32) (Code_secondGoal : Nat → Int32) (Code_op : Nat → Int32) (Code_left : Nat → Int32) (Code_leftNumber : Nat → Int32) (o1 : Int32) (o2 : Nat → Int32) : Prop := ∀ R : (Int32) → (Nat → Int32) → Prop,
  (∀ (x1 : Int32) (x2 : Int32) (x3 : Nat → Int32) (x4 : Int32) (x5 : Int32) (x6 : Int32) (x7 : Nat → Int32) (x8 : Int32) (x9 : Int32) (x10 : Nat → Int32) (x11 : Int32) (x12 : Int32) (x13 : Nat → Int32), x1 = Code_op a3.toNatClampNeg → gB x1 0 21 → x1.toInt ≠ 21 → x1.toInt ≠ 19 → gB x2 0 16384 → tr_Listing_addText sb_23 Listing_size Listing_bytes x2 x3 → x4 = Code_left a3.toNatClampNeg → x5 = Code_leftNumber a3.toNatClampNeg → gB x6 0 16384 → tr_Listing_addOperand x4 x5 x2 x3 x6 x7 → x8 = Code_firstGoal a2.toNatClampNeg → gB x9 0 16384 → tr_Listing_addNamed sb_24 x8 x6 x7 x9 x10 → x11 = Code_secondGoal a2.toNatClampNeg → gB x12 0 16384 → tr_Listing_addNamed sb_24 x11 x9 x10 x12 x13 → R x12 x13) →
  (∀ (x1 : Int32) (x2 : Int32) (x3 : Int32) (x4 : Nat → Int32), x1 = Code_op a3.toNatClampNeg → gB x1 0 21 → x1.toInt ≠ 21 → x1.toInt = 19 → x2 = Code_firstGoal a2.toNatClampNeg → gB x3 0 16384 → tr_Listing_addNamed sb_22 x2 Listing_size Listing_bytes x3 x4 → R x3 x4) →
  (∀ (x1 : Int32) (x2 : Int32) (x3 : Nat → Int32) (x4 : Int32) (x5 : Int32) (x6 : Int32) (x7 : Nat → Int32), x1 = Code_op a3.toNatClampNeg → gB x1 0 21 → x1.toInt = 21 → gB x2 0 16384 → tr_Listing_addText sb_20 Listing_size Listing_bytes x2 x3 → x4 = Code_left a3.toNatClampNeg → x5 = Code_leftNumber a3.toNatClampNeg → gB x6 0 16384 → tr_Listing_addOperand x4 x5 x2 x3 x6 x7 → R x6 x7) →
  R o1 o2
abbrev ky_10393_Listing_addEnd : gKey := (cX4_addEnd, 4, yX4_addEnd.cls, none, [], yX4_addEnd.name, fun _ _ => True)
abbrev po_10393_Listing_addEnd (I : FieldType → ClassId) (q10365 : Nat) (q10366 : Nat) (q10367 : Nat) (q10368 : Nat) (q10369 : Nat) (q10370 : Nat) (q10371 : Nat) (q10372 : Nat) (q10373 : Nat) (q10374 : Nat) (q10375 : Nat) (q10376 : Nat) (p10377 : Int32) (p10378 : Int32) (p10379 : Int32) (p10380 : Int32) (p10381 : Int32) (p10382 : Int32) (f10383 : Nat → Int32) (f10384 : Nat → Int32) (f10385 : Nat → Int32) (f10386 : Nat → Int32) (f10387 : Nat → Int32) (f10388 : Nat → Int32) (f10389 : Nat → Int32) (f10390 : Nat → Int32) (f10391 : Nat → Int32) (f10392 : Nat → Int32) : Option Value → va_W → Prop := fun r w => ∃ (o10434 : Int32) (f10435 : Nat → Int32), r = none ∧ w = [(q10365, .inr (9, [.ref q10367, .int o10434])), (q10366, .inr (5, [.ref q10368, .ref q10369, .ref q10370, .ref q10371, .ref q10372, .ref q10373, .ref q10374, .ref q10375, .ref q10376, .int p10380, .int p10381, .int p10382])), (q10367, .inl (I .byte, 16384, .inl f10435)), (q10368, .inl (I .int, 40, .inl f10384)), (q10369, .inl (I .int, 40, .inl f10385)), (q10370, .inl (I .int, 40, .inl f10386)), (q10371, .inl (I .int, 200, .inl f10387)), (q10372, .inl (I .int, 200, .inl f10388)), (q10373, .inl (I .int, 200, .inl f10389)), (q10374, .inl (I .int, 200, .inl f10390)), (q10375, .inl (I .int, 200, .inl f10391)), (q10376, .inl (I .int, 200, .inl f10392))] ∧ gB o10434 0 16384 ∧ gF f10435 (-128) 127 ∧ tr_Listing_addEnd p10377 p10378 p10379 f10383 f10385 f10386 f10387 f10389 f10390 o10434 f10435
set_option maxRecDepth 100000 in
set_option maxHeartbeats 4000000 in
theorem ct_10393_Listing_addEnd (l : Launch) (hl0 : l.stackTraces = false) (D : va_G) (I : FieldType → ClassId) (q10365 : Nat) (q10366 : Nat) (q10367 : Nat) (q10368 : Nat) (q10369 : Nat) (q10370 : Nat) (q10371 : Nat) (q10372 : Nat) (q10373 : Nat) (q10374 : Nat) (q10375 : Nat) (q10376 : Nat) (p10377 : Int32) (p10378 : Int32) (p10379 : Int32) (p10380 : Int32) (p10381 : Int32) (p10382 : Int32) (f10383 : Nat → Int32) (f10384 : Nat → Int32) (f10385 : Nat → Int32) (f10386 : Nat → Int32) (f10387 : Nat → Int32) (f10388 : Nat → Int32) (f10389 : Nat → Int32) (f10390 : Nat → Int32) (f10391 : Nat → Int32) (f10392 : Nat → Int32) (bp10377 : gB p10377 0 39) (bp10378 : gB p10378 0 199) (bp10379 : gB p10379 0 16384) (bp10380 : gB p10380 0 40) (bp10381 : gB p10381 0 200) (bp10382 : gB p10382 0 1) (bf10383 : gF f10383 (-128) 127) (bf10384 : gF f10384 0 200) (bf10387 : gF f10387 0 21) : Ct (gV D I) l yX4_addEnd cX4_addEnd 4 none 7 151 0 0 [.ref q10365, .ref q10366, .int p10377, .int p10378] [(q10365, .inr (9, [.ref q10367, .int p10379])), (q10366, .inr (5, [.ref q10368, .ref q10369, .ref q10370, .ref q10371, .ref q10372, .ref q10373, .ref q10374, .ref q10375, .ref q10376, .int p10380, .int p10381, .int p10382])), (q10367, .inl (I .byte, 16384, .inl f10383)), (q10368, .inl (I .int, 40, .inl f10384)), (q10369, .inl (I .int, 40, .inl f10385)), (q10370, .inl (I .int, 40, .inl f10386)), (q10371, .inl (I .int, 200, .inl f10387)), (q10372, .inl (I .int, 200, .inl f10388)), (q10373, .inl (I .int, 200, .inl f10389)), (q10374, .inl (I .int, 200, .inl f10390)), (q10375, .inl (I .int, 200, .inl f10391)), (q10376, .inl (I .int, 200, .inl f10392))] (po_10393_Listing_addEnd I q10365 q10366 q10367 q10368 q10369 q10370 q10371 q10372 q10373 q10374 q10375 q10376 p10377 p10378 p10379 p10380 p10381 p10382 f10383 f10384 f10385 f10386 f10387 f10388 f10389 f10390 f10391 f10392) gN := by
  refine Ct_of hl0 (by decide) (Nat.le_of_ble_eq_true rfl) ?_
  refine G_aload_n 1 d_cX4_addEnd_0 rfl ?_
  refine G_getfN 1 3 d_cX4_addEnd_1 rfl (gk_X0 D I) (Nat.le_of_ble_eq_true rfl) (fun _ _ _ h => gn_w 15 rfl h) rfl ?_
  refine G_iload_n 3 d_cX4_addEnd_4 rfl ?_
  refine G_iald 6 0 d_cX4_addEnd_5 rfl rfl (gB_in bp10378 (by decide) (by decide)) (G_nam fun z10394 hz10394 => ?_)
  have bz10394 : gB z10394 0 21 := by rw [hz10394]; exact bf10387 _
  refine G_bipush 21 d_cX4_addEnd_6 (by decide +kernel) ?_
  refine G_icmp_ne 36 d_cX4_addEnd_8 (by decide +kernel) (fun hc10395 => ?_) (fun hc10395 => ?_)
  · have r10396 : z10394.toInt ≠ 21 := gj_neq hc10395 (show Int32.toInt 21 = 21 by decide)
    have bz10394' : gB z10394 0 20 := ⟨by omega, by omega⟩
    refine G_aload_n 1 d_cX4_addEnd_36 rfl ?_
    refine G_getfN 1 3 d_cX4_addEnd_37 rfl (gk_X0 D I) (Nat.le_of_ble_eq_true rfl) (fun _ _ _ h => gn_w 15 rfl h) rfl ?_
    refine G_iload_n 3 d_cX4_addEnd_40 rfl ?_
    refine G_iald 6 0 d_cX4_addEnd_41 rfl rfl (gB_in bp10378 (by decide) (by decide)) (G_eqi (y := z10394) hz10394.symm ?_)
    refine G_bipush 19 d_cX4_addEnd_42 (by decide +kernel) ?_
    refine G_icmp_ne 62 d_cX4_addEnd_44 (by decide +kernel) (fun hc10397 => ?_) (fun hc10397 => ?_)
    · have r10398 : z10394.toInt ≠ 19 := gj_neq hc10397 (show Int32.toInt 19 = 19 by decide)
      refine G_aload_n 0 d_cX4_addEnd_62 rfl ?_
      refine G_ldcK (a := D.2 1000 23) d_cX4_addEnd_63 (fun _ _ _ h => gx_vk 23 rfl rfl h) ?_
      have hl23_10398 : (sb_23.length : Int) = 3 := rfl
      refine G_callV (As := [.ref (D.2 1000 23)]) (wr := [(q10366, .inr (5, [.ref q10368, .ref q10369, .ref q10370, .ref q10371, .ref q10372, .ref q10373, .ref q10374, .ref q10375, .ref q10376, .int p10380, .int p10381, .int p10382])), (q10368, .inl (I .int, 40, .inl f10384)), (q10369, .inl (I .int, 40, .inl f10385)), (q10370, .inl (I .int, 40, .inl f10386)), (q10371, .inl (I .int, 200, .inl f10387)), (q10372, .inl (I .int, 200, .inl f10388)), (q10373, .inl (I .int, 200, .inl f10389)), (q10374, .inl (I .int, 200, .inl f10390)), (q10375, .inl (I .int, 200, .inl f10391)), (q10376, .inl (I .int, 200, .inl f10392))]) (gV_ok D I) (ct_7234_Listing_addText l hl0 D I q10365 q10367 (D.2 1000 23) (D.2 1001 23) sb_23 p10379 f10383 (gx_sc 23 rfl rfl) (by omega) bp10379 bf10383) d_cX4_addEnd_65 ⟨w_6_165, w_1_13, w_6_168, by decide, rfl, (Nat.le_of_ble_eq_true rfl), (Nat.le_of_ble_eq_true rfl)⟩ w_6_167 w_p_65 0 rfl rfl [0, 2] [1, 3, 4, 5, 6, 7, 8, 9, 10, 11] rfl rfl rfl rfl (by decide) (Nat.le_of_ble_eq_true rfl) (Nat.le_of_ble_eq_true rfl) (Nat.le_of_ble_eq_true rfl) (fun r w hp => ?_) (fun _ _ _ z => z.elim)
      obtain ⟨o10400, f10401, rfl, rfl, bo10400, bf10401, ht10402⟩ := hp
      change G _ _ _ _ _ _ _ _ _ _ _
      refine G_ws (ws' := [(q10366, .inr (5, [.ref q10368, .ref q10369, .ref q10370, .ref q10371, .ref q10372, .ref q10373, .ref q10374, .ref q10375, .ref q10376, .int p10380, .int p10381, .int p10382])), (q10368, .inl (I .int, 40, .inl f10384)), (q10369, .inl (I .int, 40, .inl f10385)), (q10370, .inl (I .int, 40, .inl f10386)), (q10371, .inl (I .int, 200, .inl f10387)), (q10372, .inl (I .int, 200, .inl f10388)), (q10373, .inl (I .int, 200, .inl f10389)), (q10374, .inl (I .int, 200, .inl f10390)), (q10375, .inl (I .int, 200, .inl f10391)), (q10376, .inl (I .int, 200, .inl f10392)), (q10365, .inr (9, [.ref q10367, .int o10400])), (q10367, .inl (I .byte, 16384, .inl f10401))]) (cs' := 0) (sl' := 0) rfl rfl rfl ?_
      refine G_aload_n 0 d_cX4_addEnd_68 rfl ?_
      refine G_aload_n 1 d_cX4_addEnd_69 rfl ?_
      refine G_getfN 0 5 d_cX4_addEnd_70 rfl (gk_X0 D I) (Nat.le_of_ble_eq_true rfl) (fun _ _ _ h => gn_w 23 rfl h) rfl ?_
      refine G_iload_n 3 d_cX4_addEnd_73 rfl ?_
      refine G_iald 6 0 d_cX4_addEnd_74 rfl rfl (gB_in bp10378 (by decide) (by decide)) (G_nam fun z10403 hz10403 => ?_)
      have bz10403 : gB z10403 (-2147483648) 2147483647 := gB_any z10403
      refine G_aload_n 1 d_cX4_addEnd_75 rfl ?_
      refine G_getfN 0 6 d_cX4_addEnd_76 rfl (gk_X0 D I) (Nat.le_of_ble_eq_true rfl) (fun _ _ _ h => gn_w 27 rfl h) rfl ?_
      refine G_iload_n 3 d_cX4_addEnd_79 rfl ?_
      refine G_iald 7 0 d_cX4_addEnd_80 rfl rfl (gB_in bp10378 (by decide) (by decide)) (G_nam fun z10404 hz10404 => ?_)
      have bz10404 : gB z10404 (-2147483648) 2147483647 := gB_any z10404
      refine G_callV (As := [.int z10403, .int z10404]) (wr := [(q10366, .inr (5, [.ref q10368, .ref q10369, .ref q10370, .ref q10371, .ref q10372, .ref q10373, .ref q10374, .ref q10375, .ref q10376, .int p10380, .int p10381, .int p10382])), (q10368, .inl (I .int, 40, .inl f10384)), (q10369, .inl (I .int, 40, .inl f10385)), (q10370, .inl (I .int, 40, .inl f10386)), (q10371, .inl (I .int, 200, .inl f10387)), (q10372, .inl (I .int, 200, .inl f10388)), (q10373, .inl (I .int, 200, .inl f10389)), (q10374, .inl (I .int, 200, .inl f10390)), (q10375, .inl (I .int, 200, .inl f10391)), (q10376, .inl (I .int, 200, .inl f10392))]) (gV_ok D I) (ct_10251_Listing_addOperand l hl0 D I q10365 q10367 z10403 z10404 o10400 f10401 bo10400 bf10401) d_cX4_addEnd_81 ⟨w_6_191, w_1_13, w_6_194, by decide, rfl, (Nat.le_of_ble_eq_true rfl), (Nat.le_of_ble_eq_true rfl)⟩ w_6_193 w_p_69 10 rfl rfl [10, 11] [0, 1, 2, 3, 4, 5, 6, 7, 8, 9] rfl rfl rfl rfl (by decide) (Nat.le_of_ble_eq_true rfl) (Nat.le_of_ble_eq_true rfl) (Nat.le_of_ble_eq_true rfl) (fun r w hp => ?_) (fun _ _ _ z => z.elim)
      obtain ⟨o10405, f10406, rfl, rfl, bo10405, bf10406, ht10407⟩ := hp
      change G _ _ _ _ _ _ _ _ _ _ _
      refine G_ws (ws' := [(q10366, .inr (5, [.ref q10368, .ref q10369, .ref q10370, .ref q10371, .ref q10372, .ref q10373, .ref q10374, .ref q10375, .ref q10376, .int p10380, .int p10381, .int p10382])), (q10368, .inl (I .int, 40, .inl f10384)), (q10369, .inl (I .int, 40, .inl f10385)), (q10370, .inl (I .int, 40, .inl f10386)), (q10371, .inl (I .int, 200, .inl f10387)), (q10372, .inl (I .int, 200, .inl f10388)), (q10373, .inl (I .int, 200, .inl f10389)), (q10374, .inl (I .int, 200, .inl f10390)), (q10375, .inl (I .int, 200, .inl f10391)), (q10376, .inl (I .int, 200, .inl f10392)), (q10365, .inr (9, [.ref q10367, .int o10405])), (q10367, .inl (I .byte, 16384, .inl f10406))]) (cs' := 0) (sl' := 0) rfl rfl rfl ?_
      refine G_aload_n 0 d_cX4_addEnd_84 rfl ?_
      refine G_ldcK (a := D.2 1000 24) d_cX4_addEnd_85 (fun _ _ _ h => gx_vk 24 rfl rfl h) ?_
      have hl24_10407 : (sb_24.length : Int) = 2 := rfl
      refine G_aload_n 1 d_cX4_addEnd_87 rfl ?_
      refine G_getfN 0 1 d_cX4_addEnd_88 rfl (gk_X0 D I) (Nat.le_of_ble_eq_true rfl) (fun _ _ _ h => gn_w 8 rfl h) rfl ?_
      refine G_iload_n 2 d_cX4_addEnd_91 rfl ?_
      refine G_iald 2 0 d_cX4_addEnd_92 rfl rfl (gB_in bp10377 (by decide) (by decide)) (G_nam fun z10409 hz10409 => ?_)
      have bz10409 : gB z10409 (-2147483648) 2147483647 := gB_any z10409
      refine G_callV (As := [.ref (D.2 1000 24), .int z10409]) (wr := [(q10366, .inr (5, [.ref q10368, .ref q10369, .ref q10370, .ref q10371, .ref q10372, .ref q10373, .ref q10374, .ref q10375, .ref q10376, .int p10380, .int p10381, .int p10382])), (q10368, .inl (I .int, 40, .inl f10384)), (q10369, .inl (I .int, 40, .inl f10385)), (q10370, .inl (I .int, 40, .inl f10386)), (q10371, .inl (I .int, 200, .inl f10387)), (q10372, .inl (I .int, 200, .inl f10388)), (q10373, .inl (I .int, 200, .inl f10389)), (q10374, .inl (I .int, 200, .inl f10390)), (q10375, .inl (I .int, 200, .inl f10391)), (q10376, .inl (I .int, 200, .inl f10392))]) (gV_ok D I) (ct_7226_Listing_addNamed l hl0 D I q10365 q10367 (D.2 1000 24) (D.2 1001 24) sb_24 z10409 o10405 f10406 (gx_sc 24 rfl rfl) (by omega) bo10405 bf10406) d_cX4_addEnd_93 ⟨w_6_161, w_1_13, w_6_164, by decide, rfl, (Nat.le_of_ble_eq_true rfl), (Nat.le_of_ble_eq_true rfl)⟩ w_6_163 w_p_64 10 rfl rfl [10, 11] [0, 1, 2, 3, 4, 5, 6, 7, 8, 9] rfl rfl rfl rfl (by decide) (Nat.le_of_ble_eq_true rfl) (Nat.le_of_ble_eq_true rfl) (Nat.le_of_ble_eq_true rfl) (fun r w hp => ?_) (fun _ _ _ z => z.elim)
      obtain ⟨o10410, f10411, rfl, rfl, bo10410, bf10411, ht10412⟩ := hp
      change G _ _ _ _ _ _ _ _ _ _ _
      refine G_ws (ws' := [(q10366, .inr (5, [.ref q10368, .ref q10369, .ref q10370, .ref q10371, .ref q10372, .ref q10373, .ref q10374, .ref q10375, .ref q10376, .int p10380, .int p10381, .int p10382])), (q10368, .inl (I .int, 40, .inl f10384)), (q10369, .inl (I .int, 40, .inl f10385)), (q10370, .inl (I .int, 40, .inl f10386)), (q10371, .inl (I .int, 200, .inl f10387)), (q10372, .inl (I .int, 200, .inl f10388)), (q10373, .inl (I .int, 200, .inl f10389)), (q10374, .inl (I .int, 200, .inl f10390)), (q10375, .inl (I .int, 200, .inl f10391)), (q10376, .inl (I .int, 200, .inl f10392)), (q10365, .inr (9, [.ref q10367, .int o10410])), (q10367, .inl (I .byte, 16384, .inl f10411))]) (cs' := 0) (sl' := 0) rfl rfl rfl ?_
      refine G_aload_n 0 d_cX4_addEnd_96 rfl ?_
      refine G_ldcK (a := D.2 1000 24) d_cX4_addEnd_97 (fun _ _ _ h => gx_vk 24 rfl rfl h) ?_
      have hl24_10412 : (sb_24.length : Int) = 2 := rfl
      refine G_aload_n 1 d_cX4_addEnd_99 rfl ?_
      refine G_getfN 0 2 d_cX4_addEnd_100 rfl (gk_X0 D I) (Nat.le_of_ble_eq_true rfl) (fun _ _ _ h => gn_w 12 rfl h) rfl ?_
      refine G_iload_n 2 d_cX4_addEnd_103 rfl ?_
      refine G_iald 3 0 d_cX4_addEnd_104 rfl rfl (gB_in bp10377 (by decide) (by decide)) (G_nam fun z10414 hz10414 => ?_)
      have bz10414 : gB z10414 (-2147483648) 2147483647 := gB_any z10414
      refine G_callV (As := [.ref (D.2 1000 24), .int z10414]) (wr := [(q10366, .inr (5, [.ref q10368, .ref q10369, .ref q10370, .ref q10371, .ref q10372, .ref q10373, .ref q10374, .ref q10375, .ref q10376, .int p10380, .int p10381, .int p10382])), (q10368, .inl (I .int, 40, .inl f10384)), (q10369, .inl (I .int, 40, .inl f10385)), (q10370, .inl (I .int, 40, .inl f10386)), (q10371, .inl (I .int, 200, .inl f10387)), (q10372, .inl (I .int, 200, .inl f10388)), (q10373, .inl (I .int, 200, .inl f10389)), (q10374, .inl (I .int, 200, .inl f10390)), (q10375, .inl (I .int, 200, .inl f10391)), (q10376, .inl (I .int, 200, .inl f10392))]) (gV_ok D I) (ct_7226_Listing_addNamed l hl0 D I q10365 q10367 (D.2 1000 24) (D.2 1001 24) sb_24 z10414 o10410 f10411 (gx_sc 24 rfl rfl) (by omega) bo10410 bf10411) d_cX4_addEnd_105 ⟨w_6_161, w_1_13, w_6_164, by decide, rfl, (Nat.le_of_ble_eq_true rfl), (Nat.le_of_ble_eq_true rfl)⟩ w_6_163 w_p_64 10 rfl rfl [10, 11] [0, 1, 2, 3, 4, 5, 6, 7, 8, 9] rfl rfl rfl rfl (by decide) (Nat.le_of_ble_eq_true rfl) (Nat.le_of_ble_eq_true rfl) (Nat.le_of_ble_eq_true rfl) (fun r w hp => ?_) (fun _ _ _ z => z.elim)
      obtain ⟨o10415, f10416, rfl, rfl, bo10415, bf10416, ht10417⟩ := hp
      change G _ _ _ _ _ _ _ _ _ _ _
      refine G_ws (ws' := [(q10366, .inr (5, [.ref q10368, .ref q10369, .ref q10370, .ref q10371, .ref q10372, .ref q10373, .ref q10374, .ref q10375, .ref q10376, .int p10380, .int p10381, .int p10382])), (q10368, .inl (I .int, 40, .inl f10384)), (q10369, .inl (I .int, 40, .inl f10385)), (q10370, .inl (I .int, 40, .inl f10386)), (q10371, .inl (I .int, 200, .inl f10387)), (q10372, .inl (I .int, 200, .inl f10388)), (q10373, .inl (I .int, 200, .inl f10389)), (q10374, .inl (I .int, 200, .inl f10390)), (q10375, .inl (I .int, 200, .inl f10391)), (q10376, .inl (I .int, 200, .inl f10392)), (q10365, .inr (9, [.ref q10367, .int o10415])), (q10367, .inl (I .byte, 16384, .inl f10416))]) (cs' := 0) (sl' := 0) rfl rfl rfl ?_
      refine G_sub (ws' := [(q10365, .inr (9, [.ref q10367, .int o10415])), (q10366, .inr (5, [.ref q10368, .ref q10369, .ref q10370, .ref q10371, .ref q10372, .ref q10373, .ref q10374, .ref q10375, .ref q10376, .int p10380, .int p10381, .int p10382])), (q10367, .inl (I .byte, 16384, .inl f10416)), (q10368, .inl (I .int, 40, .inl f10384)), (q10369, .inl (I .int, 40, .inl f10385)), (q10370, .inl (I .int, 40, .inl f10386)), (q10371, .inl (I .int, 200, .inl f10387)), (q10372, .inl (I .int, 200, .inl f10388)), (q10373, .inl (I .int, 200, .inl f10389)), (q10374, .inl (I .int, 200, .inl f10390)), (q10375, .inl (I .int, 200, .inl f10391)), (q10376, .inl (I .int, 200, .inl f10392))]) [10, 0, 11, 1, 2, 3, 4, 5, 6, 7, 8, 9] rfl rfl ?_
      exact G_vret d_cX4_addEnd_108 rfl (Nat.le_of_ble_eq_true rfl) (Nat.le_of_ble_eq_true rfl) ⟨o10415, f10416, rfl, rfl, bo10415, bf10416, (fun R c1 c2 c3 => c1 z10394 o10400 f10401 z10403 z10404 o10405 f10406 z10409 o10410 f10411 z10414 o10415 f10416 hz10394 bz10394 r10396 r10398 bo10400 ht10402 hz10403 hz10404 bo10405 ht10407 hz10409 bo10410 ht10412 hz10414 bo10415 ht10417)⟩
    · have r10418 : z10394.toInt = 19 := gj_eq hc10397 (show Int32.toInt 19 = 19 by decide)
      have bz10394'' : gB z10394 19 19 := ⟨by omega, by omega⟩
      refine G_aload_n 0 d_cX4_addEnd_47 rfl ?_
      refine G_ldcK (a := D.2 1000 22) d_cX4_addEnd_48 (fun _ _ _ h => gx_vk 22 rfl rfl h) ?_
      have hl22_10418 : (sb_22.length : Int) = 6 := rfl
      refine G_aload_n 1 d_cX4_addEnd_50 rfl ?_
      refine G_getfN 1 1 d_cX4_addEnd_51 rfl (gk_X0 D I) (Nat.le_of_ble_eq_true rfl) (fun _ _ _ h => gn_w 8 rfl h) rfl ?_
      refine G_iload_n 2 d_cX4_addEnd_54 rfl ?_
      refine G_iald 4 0 d_cX4_addEnd_55 rfl rfl (gB_in bp10377 (by decide) (by decide)) (G_nam fun z10420 hz10420 => ?_)
      have bz10420 : gB z10420 (-2147483648) 2147483647 := gB_any z10420
      refine G_callV (As := [.ref (D.2 1000 22), .int z10420]) (wr := [(q10366, .inr (5, [.ref q10368, .ref q10369, .ref q10370, .ref q10371, .ref q10372, .ref q10373, .ref q10374, .ref q10375, .ref q10376, .int p10380, .int p10381, .int p10382])), (q10368, .inl (I .int, 40, .inl f10384)), (q10369, .inl (I .int, 40, .inl f10385)), (q10370, .inl (I .int, 40, .inl f10386)), (q10371, .inl (I .int, 200, .inl f10387)), (q10372, .inl (I .int, 200, .inl f10388)), (q10373, .inl (I .int, 200, .inl f10389)), (q10374, .inl (I .int, 200, .inl f10390)), (q10375, .inl (I .int, 200, .inl f10391)), (q10376, .inl (I .int, 200, .inl f10392))]) (gV_ok D I) (ct_7226_Listing_addNamed l hl0 D I q10365 q10367 (D.2 1000 22) (D.2 1001 22) sb_22 z10420 p10379 f10383 (gx_sc 22 rfl rfl) (by omega) bp10379 bf10383) d_cX4_addEnd_56 ⟨w_6_161, w_1_13, w_6_164, by decide, rfl, (Nat.le_of_ble_eq_true rfl), (Nat.le_of_ble_eq_true rfl)⟩ w_6_163 w_p_64 0 rfl rfl [0, 2] [1, 3, 4, 5, 6, 7, 8, 9, 10, 11] rfl rfl rfl rfl (by decide) (Nat.le_of_ble_eq_true rfl) (Nat.le_of_ble_eq_true rfl) (Nat.le_of_ble_eq_true rfl) (fun r w hp => ?_) (fun _ _ _ z => z.elim)
      obtain ⟨o10421, f10422, rfl, rfl, bo10421, bf10422, ht10423⟩ := hp
      change G _ _ _ _ _ _ _ _ _ _ _
      refine G_ws (ws' := [(q10366, .inr (5, [.ref q10368, .ref q10369, .ref q10370, .ref q10371, .ref q10372, .ref q10373, .ref q10374, .ref q10375, .ref q10376, .int p10380, .int p10381, .int p10382])), (q10368, .inl (I .int, 40, .inl f10384)), (q10369, .inl (I .int, 40, .inl f10385)), (q10370, .inl (I .int, 40, .inl f10386)), (q10371, .inl (I .int, 200, .inl f10387)), (q10372, .inl (I .int, 200, .inl f10388)), (q10373, .inl (I .int, 200, .inl f10389)), (q10374, .inl (I .int, 200, .inl f10390)), (q10375, .inl (I .int, 200, .inl f10391)), (q10376, .inl (I .int, 200, .inl f10392)), (q10365, .inr (9, [.ref q10367, .int o10421])), (q10367, .inl (I .byte, 16384, .inl f10422))]) (cs' := 0) (sl' := 0) rfl rfl rfl ?_
      refine G_goto 108 d_cX4_addEnd_59 (by decide +kernel) ?_
      refine G_sub (ws' := [(q10365, .inr (9, [.ref q10367, .int o10421])), (q10366, .inr (5, [.ref q10368, .ref q10369, .ref q10370, .ref q10371, .ref q10372, .ref q10373, .ref q10374, .ref q10375, .ref q10376, .int p10380, .int p10381, .int p10382])), (q10367, .inl (I .byte, 16384, .inl f10422)), (q10368, .inl (I .int, 40, .inl f10384)), (q10369, .inl (I .int, 40, .inl f10385)), (q10370, .inl (I .int, 40, .inl f10386)), (q10371, .inl (I .int, 200, .inl f10387)), (q10372, .inl (I .int, 200, .inl f10388)), (q10373, .inl (I .int, 200, .inl f10389)), (q10374, .inl (I .int, 200, .inl f10390)), (q10375, .inl (I .int, 200, .inl f10391)), (q10376, .inl (I .int, 200, .inl f10392))]) [10, 0, 11, 1, 2, 3, 4, 5, 6, 7, 8, 9] rfl rfl ?_
      exact G_vret d_cX4_addEnd_108 rfl (Nat.le_of_ble_eq_true rfl) (Nat.le_of_ble_eq_true rfl) ⟨o10421, f10422, rfl, rfl, bo10421, bf10422, (fun R c1 c2 c3 => c2 z10394 z10420 o10421 f10422 hz10394 bz10394 r10396 r10418 hz10420 bo10421 ht10423)⟩
  · have r10424 : z10394.toInt = 21 := gj_eq hc10395 (show Int32.toInt 21 = 21 by decide)
    have bz10394' : gB z10394 21 21 := ⟨by omega, by omega⟩
    refine G_aload_n 0 d_cX4_addEnd_11 rfl ?_
    refine G_ldcK (a := D.2 1000 20) d_cX4_addEnd_12 (fun _ _ _ h => gx_vk 20 rfl rfl h) ?_
    have hl20_10424 : (sb_20.length : Int) = 4 := rfl
    refine G_callV (As := [.ref (D.2 1000 20)]) (wr := [(q10366, .inr (5, [.ref q10368, .ref q10369, .ref q10370, .ref q10371, .ref q10372, .ref q10373, .ref q10374, .ref q10375, .ref q10376, .int p10380, .int p10381, .int p10382])), (q10368, .inl (I .int, 40, .inl f10384)), (q10369, .inl (I .int, 40, .inl f10385)), (q10370, .inl (I .int, 40, .inl f10386)), (q10371, .inl (I .int, 200, .inl f10387)), (q10372, .inl (I .int, 200, .inl f10388)), (q10373, .inl (I .int, 200, .inl f10389)), (q10374, .inl (I .int, 200, .inl f10390)), (q10375, .inl (I .int, 200, .inl f10391)), (q10376, .inl (I .int, 200, .inl f10392))]) (gV_ok D I) (ct_7234_Listing_addText l hl0 D I q10365 q10367 (D.2 1000 20) (D.2 1001 20) sb_20 p10379 f10383 (gx_sc 20 rfl rfl) (by omega) bp10379 bf10383) d_cX4_addEnd_14 ⟨w_6_165, w_1_13, w_6_168, by decide, rfl, (Nat.le_of_ble_eq_true rfl), (Nat.le_of_ble_eq_true rfl)⟩ w_6_167 w_p_65 0 rfl rfl [0, 2] [1, 3, 4, 5, 6, 7, 8, 9, 10, 11] rfl rfl rfl rfl (by decide) (Nat.le_of_ble_eq_true rfl) (Nat.le_of_ble_eq_true rfl) (Nat.le_of_ble_eq_true rfl) (fun r w hp => ?_) (fun _ _ _ z => z.elim)
    obtain ⟨o10426, f10427, rfl, rfl, bo10426, bf10427, ht10428⟩ := hp
    change G _ _ _ _ _ _ _ _ _ _ _
    refine G_ws (ws' := [(q10366, .inr (5, [.ref q10368, .ref q10369, .ref q10370, .ref q10371, .ref q10372, .ref q10373, .ref q10374, .ref q10375, .ref q10376, .int p10380, .int p10381, .int p10382])), (q10368, .inl (I .int, 40, .inl f10384)), (q10369, .inl (I .int, 40, .inl f10385)), (q10370, .inl (I .int, 40, .inl f10386)), (q10371, .inl (I .int, 200, .inl f10387)), (q10372, .inl (I .int, 200, .inl f10388)), (q10373, .inl (I .int, 200, .inl f10389)), (q10374, .inl (I .int, 200, .inl f10390)), (q10375, .inl (I .int, 200, .inl f10391)), (q10376, .inl (I .int, 200, .inl f10392)), (q10365, .inr (9, [.ref q10367, .int o10426])), (q10367, .inl (I .byte, 16384, .inl f10427))]) (cs' := 0) (sl' := 0) rfl rfl rfl ?_
    refine G_aload_n 0 d_cX4_addEnd_17 rfl ?_
    refine G_aload_n 1 d_cX4_addEnd_18 rfl ?_
    refine G_getfN 0 5 d_cX4_addEnd_19 rfl (gk_X0 D I) (Nat.le_of_ble_eq_true rfl) (fun _ _ _ h => gn_w 23 rfl h) rfl ?_
    refine G_iload_n 3 d_cX4_addEnd_22 rfl ?_
    refine G_iald 6 0 d_cX4_addEnd_23 rfl rfl (gB_in bp10378 (by decide) (by decide)) (G_nam fun z10429 hz10429 => ?_)
    have bz10429 : gB z10429 (-2147483648) 2147483647 := gB_any z10429
    refine G_aload_n 1 d_cX4_addEnd_24 rfl ?_
    refine G_getfN 0 6 d_cX4_addEnd_25 rfl (gk_X0 D I) (Nat.le_of_ble_eq_true rfl) (fun _ _ _ h => gn_w 27 rfl h) rfl ?_
    refine G_iload_n 3 d_cX4_addEnd_28 rfl ?_
    refine G_iald 7 0 d_cX4_addEnd_29 rfl rfl (gB_in bp10378 (by decide) (by decide)) (G_nam fun z10430 hz10430 => ?_)
    have bz10430 : gB z10430 (-2147483648) 2147483647 := gB_any z10430
    refine G_callV (As := [.int z10429, .int z10430]) (wr := [(q10366, .inr (5, [.ref q10368, .ref q10369, .ref q10370, .ref q10371, .ref q10372, .ref q10373, .ref q10374, .ref q10375, .ref q10376, .int p10380, .int p10381, .int p10382])), (q10368, .inl (I .int, 40, .inl f10384)), (q10369, .inl (I .int, 40, .inl f10385)), (q10370, .inl (I .int, 40, .inl f10386)), (q10371, .inl (I .int, 200, .inl f10387)), (q10372, .inl (I .int, 200, .inl f10388)), (q10373, .inl (I .int, 200, .inl f10389)), (q10374, .inl (I .int, 200, .inl f10390)), (q10375, .inl (I .int, 200, .inl f10391)), (q10376, .inl (I .int, 200, .inl f10392))]) (gV_ok D I) (ct_10251_Listing_addOperand l hl0 D I q10365 q10367 z10429 z10430 o10426 f10427 bo10426 bf10427) d_cX4_addEnd_30 ⟨w_6_191, w_1_13, w_6_194, by decide, rfl, (Nat.le_of_ble_eq_true rfl), (Nat.le_of_ble_eq_true rfl)⟩ w_6_193 w_p_69 10 rfl rfl [10, 11] [0, 1, 2, 3, 4, 5, 6, 7, 8, 9] rfl rfl rfl rfl (by decide) (Nat.le_of_ble_eq_true rfl) (Nat.le_of_ble_eq_true rfl) (Nat.le_of_ble_eq_true rfl) (fun r w hp => ?_) (fun _ _ _ z => z.elim)
    obtain ⟨o10431, f10432, rfl, rfl, bo10431, bf10432, ht10433⟩ := hp
    change G _ _ _ _ _ _ _ _ _ _ _
    refine G_ws (ws' := [(q10366, .inr (5, [.ref q10368, .ref q10369, .ref q10370, .ref q10371, .ref q10372, .ref q10373, .ref q10374, .ref q10375, .ref q10376, .int p10380, .int p10381, .int p10382])), (q10368, .inl (I .int, 40, .inl f10384)), (q10369, .inl (I .int, 40, .inl f10385)), (q10370, .inl (I .int, 40, .inl f10386)), (q10371, .inl (I .int, 200, .inl f10387)), (q10372, .inl (I .int, 200, .inl f10388)), (q10373, .inl (I .int, 200, .inl f10389)), (q10374, .inl (I .int, 200, .inl f10390)), (q10375, .inl (I .int, 200, .inl f10391)), (q10376, .inl (I .int, 200, .inl f10392)), (q10365, .inr (9, [.ref q10367, .int o10431])), (q10367, .inl (I .byte, 16384, .inl f10432))]) (cs' := 0) (sl' := 0) rfl rfl rfl ?_
    refine G_goto 108 d_cX4_addEnd_33 (by decide +kernel) ?_
    refine G_sub (ws' := [(q10365, .inr (9, [.ref q10367, .int o10431])), (q10366, .inr (5, [.ref q10368, .ref q10369, .ref q10370, .ref q10371, .ref q10372, .ref q10373, .ref q10374, .ref q10375, .ref q10376, .int p10380, .int p10381, .int p10382])), (q10367, .inl (I .byte, 16384, .inl f10432)), (q10368, .inl (I .int, 40, .inl f10384)), (q10369, .inl (I .int, 40, .inl f10385)), (q10370, .inl (I .int, 40, .inl f10386)), (q10371, .inl (I .int, 200, .inl f10387)), (q10372, .inl (I .int, 200, .inl f10388)), (q10373, .inl (I .int, 200, .inl f10389)), (q10374, .inl (I .int, 200, .inl f10390)), (q10375, .inl (I .int, 200, .inl f10391)), (q10376, .inl (I .int, 200, .inl f10392))]) [10, 0, 11, 1, 2, 3, 4, 5, 6, 7, 8, 9] rfl rfl ?_
    exact G_vret d_cX4_addEnd_108 rfl (Nat.le_of_ble_eq_true rfl) (Nat.le_of_ble_eq_true rfl) ⟨o10431, f10432, rfl, rfl, bo10431, bf10432, (fun R c1 c2 c3 => c3 z10394 o10426 f10427 z10429 z10430 o10431 f10432 hz10394 bz10394 r10424 bo10426 ht10428 hz10429 hz10430 bo10431 ht10433)⟩
/- tl_Listing_write_35: l3, Listing_size, Listing_bytes; out: Listing_size, Listing_bytes -/
def tl_Listing_write_35 (l2_1 : Int32) (Code_blocks : Int32) (Code_lines : Int32) (Code_first : Nat → Int32) (Code_op : Nat → Int32) (Code_set : Nat → Int32) (Code_left : Nat → Int32) (Code_leftNumber : Nat → Int32) (Code_right : Nat → Int32) (Code_rightNumber : Nat → Int32) (Code_firstGoal : Nat → Int32) (Code_secondGoal : Nat → Int32) (s1 : Int32) (s2 : Int32) (s3 : Nat → Int32) (k : Nat) (e1 : Int32) (e2 : Nat → Int32) : Prop := ∀ R : (Int32) → (Int32) → (Nat → Int32) → Nat → (Int32) → (Nat → Int32) → Prop,
  (∀ (l3_2 : Int32) (Listing_size_2 : Int32) (Listing_bytes_2 : Nat → Int32), gB l3_2 0 200 → gB Listing_size_2 0 16384 → tr_Code_blockEnd l2_1 Code_blocks Code_lines Code_first Code_lines → Code_lines.toInt ≤ l3_2.toInt → R l3_2 Listing_size_2 Listing_bytes_2 83 Listing_size_2 Listing_bytes_2) →
  (∀ (l3_2 : Int32) (Listing_size_2 : Int32) (Listing_bytes_2 : Nat → Int32) (x1 : Int32) (x2 : Int32) (x3 : Nat → Int32) (x4 : Int32) (x5 : Nat → Int32) (x6 : Int32) (k : Nat) (e1 : Int32) (e2 : Nat → Int32), gB l3_2 0 200 → gB Listing_size_2 0 16384 → tr_Code_blockEnd l2_1 Code_blocks Code_lines Code_first Code_lines → l3_2.toInt < Code_lines.toInt → x1 = Code_op l3_2.toNatClampNeg → gB x1 0 21 → x1.toInt < 19 → gB x2 0 16384 → tr_Listing_addRow l3_2 Listing_size_2 Listing_bytes_2 Code_op Code_set Code_left Code_leftNumber Code_right Code_rightNumber x2 x3 → gB x4 1 16384 → tr_Listing_addByte (10 : Int32) x2 x3 x4 x5 → x6.toInt = l3_2.toInt + 1 → R x6 x4 x5 k e1 e2 → R l3_2 Listing_size_2 Listing_bytes_2 k e1 e2) →
  (∀ (l3_2 : Int32) (Listing_size_2 : Int32) (Listing_bytes_2 : Nat → Int32) (x1 : Int32) (x2 : Int32) (x3 : Nat → Int32) (x4 : Int32) (x5 : Nat → Int32) (x6 : Int32) (k : Nat) (e1 : Int32) (e2 : Nat → Int32), gB l3_2 0 200 → gB Listing_size_2 0 16384 → tr_Code_blockEnd l2_1 Code_blocks Code_lines Code_first Code_lines → l3_2.toInt < Code_lines.toInt → x1 = Code_op l3_2.toNatClampNeg → gB x1 0 21 → 19 ≤ x1.toInt → gB x2 0 16384 → tr_Listing_addEnd l2_1 l3_2 Listing_size_2 Listing_bytes_2 Code_firstGoal Code_secondGoal Code_op Code_left Code_leftNumber x2 x3 → gB x4 1 16384 → tr_Listing_addByte (10 : Int32) x2 x3 x4 x5 → x6.toInt = l3_2.toInt + 1 → R x6 x4 x5 k e1 e2 → R l3_2 Listing_size_2 Listing_bytes_2 k e1 e2) →
  (∀ (l3_2 : Int32) (Listing_size_2 : Int32) (Listing_bytes_2 : Nat → Int32) (x1 : Int32), gB l3_2 0 200 → gB Listing_size_2 0 16384 → tr_Code_blockEnd l2_1 Code_blocks Code_lines Code_first x1 → x1.toInt ≤ l3_2.toInt → R l3_2 Listing_size_2 Listing_bytes_2 83 Listing_size_2 Listing_bytes_2) →
  (∀ (l3_2 : Int32) (Listing_size_2 : Int32) (Listing_bytes_2 : Nat → Int32) (x1 : Int32) (x2 : Int32) (x3 : Int32) (x4 : Nat → Int32) (x5 : Int32) (x6 : Nat → Int32) (x7 : Int32) (k : Nat) (e1 : Int32) (e2 : Nat → Int32), gB l3_2 0 200 → gB Listing_size_2 0 16384 → tr_Code_blockEnd l2_1 Code_blocks Code_lines Code_first x1 → l3_2.toInt < x1.toInt → x2 = Code_op l3_2.toNatClampNeg → gB x2 0 21 → x2.toInt < 19 → gB x3 0 16384 → tr_Listing_addRow l3_2 Listing_size_2 Listing_bytes_2 Code_op Code_set Code_left Code_leftNumber Code_right Code_rightNumber x3 x4 → gB x5 1 16384 → tr_Listing_addByte (10 : Int32) x3 x4 x5 x6 → x7.toInt = l3_2.toInt + 1 → R x7 x5 x6 k e1 e2 → R l3_2 Listing_size_2 Listing_bytes_2 k e1 e2) →
  (∀ (l3_2 : Int32) (Listing_size_2 : Int32) (Listing_bytes_2 : Nat → Int32) (x1 : Int32) (x2 : Int32) (x3 : Int32) (x4 : Nat → Int32) (x5 : Int32) (x6 : Nat → Int32) (x7 : Int32) (k : Nat) (e1 : Int32) (e2 : Nat → Int32), gB l3_2 0 200 → gB Listing_size_2 0 16384 → tr_Code_blockEnd l2_1 Code_blocks Code_lines Code_first x1 → l3_2.toInt < x1.toInt → x2 = Code_op l3_2.toNatClampNeg → gB x2 0 21 → 19 ≤ x2.toInt → gB x3 0 16384 → tr_Listing_addEnd l2_1 l3_2 Listing_size_2 Listing_bytes_2 Code_firstGoal Code_secondGoal Code_op Code_left Code_leftNumber x3 x4 → gB x5 1 16384 → tr_Listing_addByte (10 : Int32) x3 x4 x5 x6 → x7.toInt = l3_2.toInt + 1 → R x7 x5 x6 k e1 e2 → R l3_2 Listing_size_2 Listing_bytes_2 k e1 e2) →
  R s1 s2 s3 k e1 e2
/- tl_Listing_write_7: l2, Listing_size, Listing_bytes; out: Listing_size, Listing_bytes -/
def tl_Listing_write_7 (Code_blocks : Int32) (Code_first : Nat → Int32) (Code_lines : Int32) (Code_op : Nat → Int32) (Code_set : Nat → Int32) (Code_left : Nat → Int32) (Code_leftNumber : Nat → Int32) (Code_right : Nat → Int32) (Code_rightNumber : Nat → Int32) (Code_firstGoal : Nat → Int32) (Code_secondGoal : Nat → Int32) (s1 : Int32) (s2 : Int32) (s3 : Nat → Int32) (k : Nat) (e1 : Int32) (e2 : Nat → Int32) : Prop := ∀ R : (Int32) → (Int32) → (Nat → Int32) → Nat → (Int32) → (Nat → Int32) → Prop,
  (∀ (l2_1 : Int32) (Listing_size_1 : Int32) (Listing_bytes_1 : Nat → Int32), gB l2_1 0 40 → gB Listing_size_1 0 16384 → Code_blocks.toInt ≤ l2_1.toInt → R l2_1 Listing_size_1 Listing_bytes_1 89 Listing_size_1 Listing_bytes_1) →
  (∀ (l2_1 : Int32) (Listing_size_1 : Int32) (Listing_bytes_1 : Nat → Int32) (x1 : Int32) (x2 : Nat → Int32) (x3 : Int32) (x4 : Nat → Int32) (x5 : Int32) (x6 : Int32) (x7 : Nat → Int32) (x8 : Int32) (k : Nat) (e1 : Int32) (e2 : Nat → Int32), gB l2_1 0 40 → gB Listing_size_1 0 16384 → l2_1.toInt < Code_blocks.toInt → gB x1 0 16384 → tr_Listing_addNamed sb_18 l2_1 Listing_size_1 Listing_bytes_1 x1 x2 → gB x3 0 16384 → tr_Listing_addText sb_19 x1 x2 x3 x4 → x5 = Code_first l2_1.toNatClampNeg → gB x5 0 200 → tl_Listing_write_35 l2_1 Code_blocks Code_lines Code_first Code_op Code_set Code_left Code_leftNumber Code_right Code_rightNumber Code_firstGoal Code_secondGoal x5 x3 x4 83 x6 x7 → x8.toInt = l2_1.toInt + 1 → R x8 x6 x7 k e1 e2 → R l2_1 Listing_size_1 Listing_bytes_1 k e1 e2) →
  R s1 s2 s3 k e1 e2
/- tr_Listing_write: Listing_size, Listing_bytes -/
def tr_Listing_write (Code_blocks : Int32) (Code_lines : Int32) (Listing_bytes : Nat → Int32) (Code_first : Nat → Int32) (Code_firstGoal : Nat → Int32) (Code_secondGoal : Nat → Int32) (Code_op : Nat → Int32) (Code_set : Nat → Int32) (Code_left : Nat → Int32) (Code_leftNumber : Nat → Int32) (Code_right : Nat → Int32) (Code_rightNumber : Nat → Int32) (o1 : Int32) (o2 : Nat → Int32) : Prop := ∀ R : (Int32) → (Nat → Int32) → Prop,
  (∀ (x1 : Int32) (x2 : Nat → Int32), tl_Listing_write_7 Code_blocks Code_first Code_lines Code_op Code_set Code_left Code_leftNumber Code_right Code_rightNumber Code_firstGoal Code_secondGoal (0 : Int32) (0 : Int32) Listing_bytes 89 x1 x2 → R x1 x2) →
  R o1 o2
abbrev ky_7213_Listing_write : gKey := (cX4_write, 4, yX4_write.cls, none, [], yX4_write.name, fun _ _ => True)
abbrev po_7213_Listing_write (I : FieldType → ClassId) (q7187 : Nat) (q7188 : Nat) (q7189 : Nat) (q7190 : Nat) (q7191 : Nat) (q7192 : Nat) (q7193 : Nat) (q7194 : Nat) (q7195 : Nat) (q7196 : Nat) (q7197 : Nat) (q7198 : Nat) (p7199 : Int32) (p7200 : Int32) (p7201 : Int32) (p7202 : Int32) (f7203 : Nat → Int32) (f7204 : Nat → Int32) (f7205 : Nat → Int32) (f7206 : Nat → Int32) (f7207 : Nat → Int32) (f7208 : Nat → Int32) (f7209 : Nat → Int32) (f7210 : Nat → Int32) (f7211 : Nat → Int32) (f7212 : Nat → Int32) : Option Value → va_W → Prop := fun r w => ∃ (o11775 : Int32) (f11776 : Nat → Int32), r = none ∧ w = [(q7187, .inr (9, [.ref q7189, .int o11775])), (q7188, .inr (5, [.ref q7190, .ref q7191, .ref q7192, .ref q7193, .ref q7194, .ref q7195, .ref q7196, .ref q7197, .ref q7198, .int p7200, .int p7201, .int p7202])), (q7189, .inl (I .byte, 16384, .inl f11776)), (q7190, .inl (I .int, 40, .inl f7204)), (q7191, .inl (I .int, 40, .inl f7205)), (q7192, .inl (I .int, 40, .inl f7206)), (q7193, .inl (I .int, 200, .inl f7207)), (q7194, .inl (I .int, 200, .inl f7208)), (q7195, .inl (I .int, 200, .inl f7209)), (q7196, .inl (I .int, 200, .inl f7210)), (q7197, .inl (I .int, 200, .inl f7211)), (q7198, .inl (I .int, 200, .inl f7212))] ∧ gB o11775 0 16384 ∧ gF f11776 (-128) 127 ∧ tr_Listing_write p7200 p7201 f7203 f7204 f7205 f7206 f7207 f7208 f7209 f7210 f7211 f7212 o11775 f11776
set_option maxRecDepth 100000 in
set_option maxHeartbeats 4000000 in
theorem ct_7213_Listing_write (l : Launch) (hl0 : l.stackTraces = false) (D : va_G) (I : FieldType → ClassId) (q7187 : Nat) (q7188 : Nat) (q7189 : Nat) (q7190 : Nat) (q7191 : Nat) (q7192 : Nat) (q7193 : Nat) (q7194 : Nat) (q7195 : Nat) (q7196 : Nat) (q7197 : Nat) (q7198 : Nat) (p7199 : Int32) (p7200 : Int32) (p7201 : Int32) (p7202 : Int32) (f7203 : Nat → Int32) (f7204 : Nat → Int32) (f7205 : Nat → Int32) (f7206 : Nat → Int32) (f7207 : Nat → Int32) (f7208 : Nat → Int32) (f7209 : Nat → Int32) (f7210 : Nat → Int32) (f7211 : Nat → Int32) (f7212 : Nat → Int32) (bp7199 : gB p7199 0 16384) (bp7200 : gB p7200 0 40) (bp7201 : gB p7201 0 200) (bp7202 : gB p7202 0 1) (bf7203 : gF f7203 (-128) 127) (bf7204 : gF f7204 0 200) (bf7207 : gF f7207 0 21) : Ct (gV D I) l yX4_write cX4_write 4 none 9 195 0 0 [.ref q7187, .ref q7188] [(q7187, .inr (9, [.ref q7189, .int p7199])), (q7188, .inr (5, [.ref q7190, .ref q7191, .ref q7192, .ref q7193, .ref q7194, .ref q7195, .ref q7196, .ref q7197, .ref q7198, .int p7200, .int p7201, .int p7202])), (q7189, .inl (I .byte, 16384, .inl f7203)), (q7190, .inl (I .int, 40, .inl f7204)), (q7191, .inl (I .int, 40, .inl f7205)), (q7192, .inl (I .int, 40, .inl f7206)), (q7193, .inl (I .int, 200, .inl f7207)), (q7194, .inl (I .int, 200, .inl f7208)), (q7195, .inl (I .int, 200, .inl f7209)), (q7196, .inl (I .int, 200, .inl f7210)), (q7197, .inl (I .int, 200, .inl f7211)), (q7198, .inl (I .int, 200, .inl f7212))] (po_7213_Listing_write I q7187 q7188 q7189 q7190 q7191 q7192 q7193 q7194 q7195 q7196 q7197 q7198 p7199 p7200 p7201 p7202 f7203 f7204 f7205 f7206 f7207 f7208 f7209 f7210 f7211 f7212) gN := by
  refine Ct_of hl0 (by decide) (Nat.le_of_ble_eq_true rfl) ?_
  refine G_aload_n 0 d_cX4_write_0 rfl ?_
  refine G_iconst 0 d_cX4_write_1 (by decide +kernel) ?_
  refine G_putf (ws' := [(q7187, .inr (9, [.ref q7189, .int 0])), (q7188, .inr (5, [.ref q7190, .ref q7191, .ref q7192, .ref q7193, .ref q7194, .ref q7195, .ref q7196, .ref q7197, .ref q7198, .int p7200, .int p7201, .int p7202])), (q7189, .inl (I .byte, 16384, .inl f7203)), (q7190, .inl (I .int, 40, .inl f7204)), (q7191, .inl (I .int, 40, .inl f7205)), (q7192, .inl (I .int, 40, .inl f7206)), (q7193, .inl (I .int, 200, .inl f7207)), (q7194, .inl (I .int, 200, .inl f7208)), (q7195, .inl (I .int, 200, .inl f7209)), (q7196, .inl (I .int, 200, .inl f7210)), (q7197, .inl (I .int, 200, .inl f7211)), (q7198, .inl (I .int, 200, .inl f7212))]) 0 1 d_cX4_write_2 rfl (gk_X4 D I) (Nat.le_of_ble_eq_true rfl) w_2_201 rfl rfl rfl (Nat.le_of_ble_eq_true rfl) rfl ?_
  refine G_iconst 0 d_cX4_write_5 (by decide +kernel) ?_
  refine G_istore_n (L' := [(2, .int 0), (0, .ref q7187), (1, .ref q7188)]) d_cX4_write_6 (Nat.le_of_ble_eq_true rfl) rfl ?_
  have hlp7_11576 : ∀ (n7_11576 : Nat) (g11574 : Int32) (g11575 : Int32) (f11576 : Nat → Int32), gB g11574 0 40 → gB g11575 0 16384 → gF f11576 (-128) 127 → (∀ (k : Nat) (e1 : Int32) (e2 : Nat → Int32), tl_Listing_write_7 p7200 f7204 p7201 f7207 f7208 f7209 f7210 f7211 f7212 f7205 f7206 g11574 g11575 f11576 k e1 e2 → tl_Listing_write_7 p7200 f7204 p7201 f7207 f7208 f7209 f7210 f7211 f7212 f7205 f7206 (0 : Int32) (0 : Int32) f7203 k e1 e2) → ((41 : Int) - g11574.toInt).toNat < n7_11576 → G (gV D I) l (gRm 9 195 0 0) (gM (gV D I) (po_7213_Listing_write I q7187 q7188 q7189 q7190 q7191 q7192 q7193 q7194 q7195 q7196 q7197 q7198 p7199 p7200 p7201 p7202 f7203 f7204 f7205 f7206 f7207 f7208 f7209 f7210 f7211 f7212) gN 0 0) ky_7213_Listing_write 7 [(2, .int g11574), (0, .ref q7187), (1, .ref q7188)] [] [(q7187, .inr (9, [.ref q7189, .int g11575])), (q7188, .inr (5, [.ref q7190, .ref q7191, .ref q7192, .ref q7193, .ref q7194, .ref q7195, .ref q7196, .ref q7197, .ref q7198, .int p7200, .int p7201, .int p7202])), (q7189, .inl (I .byte, 16384, .inl f11576)), (q7190, .inl (I .int, 40, .inl f7204)), (q7191, .inl (I .int, 40, .inl f7205)), (q7192, .inl (I .int, 40, .inl f7206)), (q7193, .inl (I .int, 200, .inl f7207)), (q7194, .inl (I .int, 200, .inl f7208)), (q7195, .inl (I .int, 200, .inl f7209)), (q7196, .inl (I .int, 200, .inl f7210)), (q7197, .inl (I .int, 200, .inl f7211)), (q7198, .inl (I .int, 200, .inl f7212))] 0 0 := by
    intro n7_11576
    induction n7_11576 with
    | zero => intro g11574 g11575 f11576 bg11574 bg11575 bf11576 kt7_11576 hm7_11576; exact absurd hm7_11576 (Nat.not_lt_zero _)
    | succ n7_11576 ih7_11576 =>
      intro g11574 g11575 f11576 bg11574 bg11575 bf11576 kt7_11576 hm7_11576
      refine G_iload_n 0 d_cX4_write_7 rfl ?_
      refine G_aload_n 2 d_cX4_write_8 rfl ?_
      refine G_getfN 1 9 d_cX4_write_9 rfl (gk_X0 D I) (Nat.le_of_ble_eq_true rfl) (fun _ _ _ h => gn_w 39 rfl h) rfl ?_
      refine G_icmp_ge 89 d_cX4_write_12 (by decide +kernel) (fun hc11577 => ?_) (fun hc11577 => ?_)
      · have r11578 : p7200.toInt ≤ g11574.toInt := gC_le hc11577
        have hx11579 : tl_Listing_write_7 p7200 f7204 p7201 f7207 f7208 f7209 f7210 f7211 f7212 f7205 f7206 (0 : Int32) (0 : Int32) f7203 89 g11575 f11576 := kt7_11576 89 g11575 f11576 (fun R c1 c2 => c1 g11574 g11575 f11576 bg11574 bg11575 r11578)
        exact G_vret d_cX4_write_89 rfl (Nat.le_of_ble_eq_true rfl) (Nat.le_of_ble_eq_true rfl) ⟨g11575, f11576, rfl, rfl, bg11575, bf11576, (fun R c1 => c1 g11575 f11576 hx11579)⟩
      · have r11580 : g11574.toInt < p7200.toInt := gC_nle hc11577
        have bg11574' : gB g11574 0 39 := ⟨by omega, by omega⟩
        have bp7200' : gB p7200 1 40 := ⟨by omega, by omega⟩
        refine G_aload_n 1 d_cX4_write_15 rfl ?_
        refine G_ldcK (a := D.2 1000 18) d_cX4_write_16 (fun _ _ _ h => gx_vk 18 rfl rfl h) ?_
        have hl18_11580 : (sb_18.length : Int) = 1 := rfl
        refine G_iload_n 0 d_cX4_write_18 rfl ?_
        refine G_callV (As := [.ref (D.2 1000 18), .int g11574]) (wr := [(q7188, .inr (5, [.ref q7190, .ref q7191, .ref q7192, .ref q7193, .ref q7194, .ref q7195, .ref q7196, .ref q7197, .ref q7198, .int p7200, .int p7201, .int p7202])), (q7190, .inl (I .int, 40, .inl f7204)), (q7191, .inl (I .int, 40, .inl f7205)), (q7192, .inl (I .int, 40, .inl f7206)), (q7193, .inl (I .int, 200, .inl f7207)), (q7194, .inl (I .int, 200, .inl f7208)), (q7195, .inl (I .int, 200, .inl f7209)), (q7196, .inl (I .int, 200, .inl f7210)), (q7197, .inl (I .int, 200, .inl f7211)), (q7198, .inl (I .int, 200, .inl f7212))]) (gV_ok D I) (ct_7226_Listing_addNamed l hl0 D I q7187 q7189 (D.2 1000 18) (D.2 1001 18) sb_18 g11574 g11575 f11576 (gx_sc 18 rfl rfl) (by omega) bg11575 bf11576) d_cX4_write_19 ⟨w_6_161, w_1_13, w_6_164, by decide, rfl, (Nat.le_of_ble_eq_true rfl), (Nat.le_of_ble_eq_true rfl)⟩ w_6_163 w_p_64 0 rfl rfl [0, 2] [1, 3, 4, 5, 6, 7, 8, 9, 10, 11] rfl rfl rfl rfl (by decide) (Nat.le_of_ble_eq_true rfl) (Nat.le_of_ble_eq_true rfl) (Nat.le_of_ble_eq_true rfl) (fun r w hp => ?_) (fun _ _ _ z => z.elim)
        obtain ⟨o11582, f11583, rfl, rfl, bo11582, bf11583, ht11584⟩ := hp
        change G _ _ _ _ _ _ _ _ _ _ _
        refine G_ws (ws' := [(q7188, .inr (5, [.ref q7190, .ref q7191, .ref q7192, .ref q7193, .ref q7194, .ref q7195, .ref q7196, .ref q7197, .ref q7198, .int p7200, .int p7201, .int p7202])), (q7190, .inl (I .int, 40, .inl f7204)), (q7191, .inl (I .int, 40, .inl f7205)), (q7192, .inl (I .int, 40, .inl f7206)), (q7193, .inl (I .int, 200, .inl f7207)), (q7194, .inl (I .int, 200, .inl f7208)), (q7195, .inl (I .int, 200, .inl f7209)), (q7196, .inl (I .int, 200, .inl f7210)), (q7197, .inl (I .int, 200, .inl f7211)), (q7198, .inl (I .int, 200, .inl f7212)), (q7187, .inr (9, [.ref q7189, .int o11582])), (q7189, .inl (I .byte, 16384, .inl f11583))]) (cs' := 0) (sl' := 0) rfl rfl rfl ?_
        refine G_aload_n 1 d_cX4_write_22 rfl ?_
        refine G_ldcK (a := D.2 1000 19) d_cX4_write_23 (fun _ _ _ h => gx_vk 19 rfl rfl h) ?_
        have hl19_11584 : (sb_19.length : Int) = 2 := rfl
        refine G_callV (As := [.ref (D.2 1000 19)]) (wr := [(q7188, .inr (5, [.ref q7190, .ref q7191, .ref q7192, .ref q7193, .ref q7194, .ref q7195, .ref q7196, .ref q7197, .ref q7198, .int p7200, .int p7201, .int p7202])), (q7190, .inl (I .int, 40, .inl f7204)), (q7191, .inl (I .int, 40, .inl f7205)), (q7192, .inl (I .int, 40, .inl f7206)), (q7193, .inl (I .int, 200, .inl f7207)), (q7194, .inl (I .int, 200, .inl f7208)), (q7195, .inl (I .int, 200, .inl f7209)), (q7196, .inl (I .int, 200, .inl f7210)), (q7197, .inl (I .int, 200, .inl f7211)), (q7198, .inl (I .int, 200, .inl f7212))]) (gV_ok D I) (ct_7234_Listing_addText l hl0 D I q7187 q7189 (D.2 1000 19) (D.2 1001 19) sb_19 o11582 f11583 (gx_sc 19 rfl rfl) (by omega) bo11582 bf11583) d_cX4_write_25 ⟨w_6_165, w_1_13, w_6_168, by decide, rfl, (Nat.le_of_ble_eq_true rfl), (Nat.le_of_ble_eq_true rfl)⟩ w_6_167 w_p_65 10 rfl rfl [10, 11] [0, 1, 2, 3, 4, 5, 6, 7, 8, 9] rfl rfl rfl rfl (by decide) (Nat.le_of_ble_eq_true rfl) (Nat.le_of_ble_eq_true rfl) (Nat.le_of_ble_eq_true rfl) (fun r w hp => ?_) (fun _ _ _ z => z.elim)
        obtain ⟨o11586, f11587, rfl, rfl, bo11586, bf11587, ht11588⟩ := hp
        change G _ _ _ _ _ _ _ _ _ _ _
        refine G_ws (ws' := [(q7188, .inr (5, [.ref q7190, .ref q7191, .ref q7192, .ref q7193, .ref q7194, .ref q7195, .ref q7196, .ref q7197, .ref q7198, .int p7200, .int p7201, .int p7202])), (q7190, .inl (I .int, 40, .inl f7204)), (q7191, .inl (I .int, 40, .inl f7205)), (q7192, .inl (I .int, 40, .inl f7206)), (q7193, .inl (I .int, 200, .inl f7207)), (q7194, .inl (I .int, 200, .inl f7208)), (q7195, .inl (I .int, 200, .inl f7209)), (q7196, .inl (I .int, 200, .inl f7210)), (q7197, .inl (I .int, 200, .inl f7211)), (q7198, .inl (I .int, 200, .inl f7212)), (q7187, .inr (9, [.ref q7189, .int o11586])), (q7189, .inl (I .byte, 16384, .inl f11587))]) (cs' := 0) (sl' := 0) rfl rfl rfl ?_
        refine G_aload_n 2 d_cX4_write_28 rfl ?_
        refine G_getfN 0 0 d_cX4_write_29 rfl (gk_X0 D I) (Nat.le_of_ble_eq_true rfl) (fun _ _ _ h => gn_w 3 rfl h) rfl ?_
        refine G_iload_n 0 d_cX4_write_32 rfl ?_
        refine G_iald 1 0 d_cX4_write_33 rfl rfl (gB_in bg11574' (by decide) (by decide)) (G_nam fun z11589 hz11589 => ?_)
        have bz11589 : gB z11589 0 200 := by rw [hz11589]; exact bf7204 _
        refine G_istore_n (L' := [(3, .int z11589), (2, .int g11574), (0, .ref q7187), (1, .ref q7188)]) d_cX4_write_34 (Nat.le_of_ble_eq_true rfl) rfl ?_
        have hlp35_11713 : ∀ (n35_11713 : Nat) (g11711 : Int32) (g11712 : Int32) (f11713 : Nat → Int32), gB g11711 0 200 → gB g11712 0 16384 → gF f11713 (-128) 127 → (∀ (k : Nat) (e1 : Int32) (e2 : Nat → Int32), tl_Listing_write_35 g11574 p7200 p7201 f7204 f7207 f7208 f7209 f7210 f7211 f7212 f7205 f7206 g11711 g11712 f11713 k e1 e2 → tl_Listing_write_35 g11574 p7200 p7201 f7204 f7207 f7208 f7209 f7210 f7211 f7212 f7205 f7206 z11589 o11586 f11587 k e1 e2) → ((201 : Int) - g11711.toInt).toNat < n35_11713 → G (gV D I) l (gRm 9 195 0 0) (gM (gV D I) (po_7213_Listing_write I q7187 q7188 q7189 q7190 q7191 q7192 q7193 q7194 q7195 q7196 q7197 q7198 p7199 p7200 p7201 p7202 f7203 f7204 f7205 f7206 f7207 f7208 f7209 f7210 f7211 f7212) gN 0 0) ky_7213_Listing_write 35 [(3, .int g11711), (2, .int g11574), (0, .ref q7187), (1, .ref q7188)] [] [(q7188, .inr (5, [.ref q7190, .ref q7191, .ref q7192, .ref q7193, .ref q7194, .ref q7195, .ref q7196, .ref q7197, .ref q7198, .int p7200, .int p7201, .int p7202])), (q7190, .inl (I .int, 40, .inl f7204)), (q7191, .inl (I .int, 40, .inl f7205)), (q7192, .inl (I .int, 40, .inl f7206)), (q7193, .inl (I .int, 200, .inl f7207)), (q7194, .inl (I .int, 200, .inl f7208)), (q7195, .inl (I .int, 200, .inl f7209)), (q7196, .inl (I .int, 200, .inl f7210)), (q7197, .inl (I .int, 200, .inl f7211)), (q7198, .inl (I .int, 200, .inl f7212)), (q7187, .inr (9, [.ref q7189, .int g11712])), (q7189, .inl (I .byte, 16384, .inl f11713))] 0 0 := by
          intro n35_11713
          induction n35_11713 with
          | zero => intro g11711 g11712 f11713 bg11711 bg11712 bf11713 kt35_11713 hm35_11713; exact absurd hm35_11713 (Nat.not_lt_zero _)
          | succ n35_11713 ih35_11713 =>
            intro g11711 g11712 f11713 bg11711 bg11712 bf11713 kt35_11713 hm35_11713
            refine G_iload_n 0 d_cX4_write_35 rfl ?_
            refine G_aload_n 3 d_cX4_write_36 rfl ?_
            refine G_iload_n 1 d_cX4_write_37 rfl ?_
            refine G_callV (As := [.int g11574]) (wr := [(q7187, .inr (9, [.ref q7189, .int g11712])), (q7189, .inl (I .byte, 16384, .inl f11713))]) (gV_ok D I) (ct_601_Code_blockEnd l hl0 D I q7188 q7190 q7191 q7192 q7193 q7194 q7195 q7196 q7197 q7198 g11574 p7200 p7201 p7202 f7204 f7205 f7206 f7207 f7208 f7209 f7210 f7211 f7212 bg11574' (gB_w bp7200' (by decide) (by decide)) bp7201 bp7202 bf7204 bf7207) d_cX4_write_38 ⟨w_6_185, w_1_5, w_4_38, by decide, rfl, (Nat.le_of_ble_eq_true rfl), (Nat.le_of_ble_eq_true rfl)⟩ w_4_36 w_4_37 0 rfl rfl [0, 1, 2, 3, 4, 5, 6, 7, 8, 9] [10, 11] rfl rfl rfl rfl (by decide) (Nat.le_of_ble_eq_true rfl) (Nat.le_of_ble_eq_true rfl) (Nat.le_of_ble_eq_true rfl) (fun r w hp => ?_) (fun _ _ _ z => z.elim)
            rcases hp with ⟨z11714, rfl, rfl, r11715, r11716, r11717, r11718⟩ | ⟨z11719, z11720, z11721, rfl, rfl, r11722, r11723, r11724, hz11719, r11725, r11726, r11727, r11728⟩
            · change G _ _ _ _ _ _ _ (.int p7201 :: _) _ _ _
              refine G_ws (ws' := [(q7187, .inr (9, [.ref q7189, .int g11712])), (q7189, .inl (I .byte, 16384, .inl f11713)), (q7188, .inr (5, [.ref q7190, .ref q7191, .ref q7192, .ref q7193, .ref q7194, .ref q7195, .ref q7196, .ref q7197, .ref q7198, .int p7200, .int p7201, .int p7202])), (q7190, .inl (I .int, 40, .inl f7204)), (q7191, .inl (I .int, 40, .inl f7205)), (q7192, .inl (I .int, 40, .inl f7206)), (q7193, .inl (I .int, 200, .inl f7207)), (q7194, .inl (I .int, 200, .inl f7208)), (q7195, .inl (I .int, 200, .inl f7209)), (q7196, .inl (I .int, 200, .inl f7210)), (q7197, .inl (I .int, 200, .inl f7211)), (q7198, .inl (I .int, 200, .inl f7212))]) (cs' := 0) (sl' := 0) rfl rfl rfl ?_
              refine G_icmp_ge 83 d_cX4_write_41 (by decide +kernel) (fun hc11729 => ?_) (fun hc11729 => ?_)
              · have r11730 : p7201.toInt ≤ g11711.toInt := gC_le hc11729
                have hx11731 : tl_Listing_write_35 g11574 p7200 p7201 f7204 f7207 f7208 f7209 f7210 f7211 f7212 f7205 f7206 z11589 o11586 f11587 83 g11712 f11713 := kt35_11713 83 g11712 f11713 (fun R c1 c2 c3 c4 c5 c6 => c1 g11711 g11712 f11713 bg11711 bg11712 r11718 r11730)
                obtain ⟨z11732, hz11732⟩ : ∃ z : Int32, z = g11574 + Int32.ofInt 1 := ⟨_, rfl⟩
                have ez11732 : z11732.toInt = g11574.toInt + 1 := gI_inc hz11732 (by decide) bg11574' (by decide) (by decide)
                have bz11732 : gB z11732 1 40 := ⟨by omega, by omega⟩
                refine G_iinc (L' := [(2, .int z11732), (3, .int g11711), (0, .ref q7187), (1, .ref q7188)]) z11732 1 d_cX4_write_83 rfl hz11732.symm (Nat.le_of_ble_eq_true rfl) rfl ?_
                refine G_goto 7 d_cX4_write_86 (by decide +kernel) ?_
                refine G_lv (L' := [(2, .int z11732), (0, .ref q7187), (1, .ref q7188)]) [0, 2, 3] rfl ?_
                refine G_sub (ws' := [(q7187, .inr (9, [.ref q7189, .int g11712])), (q7188, .inr (5, [.ref q7190, .ref q7191, .ref q7192, .ref q7193, .ref q7194, .ref q7195, .ref q7196, .ref q7197, .ref q7198, .int p7200, .int p7201, .int p7202])), (q7189, .inl (I .byte, 16384, .inl f11713)), (q7190, .inl (I .int, 40, .inl f7204)), (q7191, .inl (I .int, 40, .inl f7205)), (q7192, .inl (I .int, 40, .inl f7206)), (q7193, .inl (I .int, 200, .inl f7207)), (q7194, .inl (I .int, 200, .inl f7208)), (q7195, .inl (I .int, 200, .inl f7209)), (q7196, .inl (I .int, 200, .inl f7210)), (q7197, .inl (I .int, 200, .inl f7211)), (q7198, .inl (I .int, 200, .inl f7212))]) [0, 2, 1, 3, 4, 5, 6, 7, 8, 9, 10, 11] rfl rfl ?_
                exact ih7_11576 z11732 g11712 f11713 (gB_w bz11732 (by decide) (by decide)) bg11712 bf11713 (fun k e1 e2 ht => kt7_11576 k e1 e2 (fun R c1 c2 => c2 g11574 g11575 f11576 o11582 f11583 o11586 f11587 z11589 g11712 f11713 z11732 k e1 e2 bg11574 bg11575 r11580 bo11582 ht11584 bo11586 ht11588 hz11589 bz11589 hx11731 ez11732 (ht R c1 c2))) (by omega)
              · have r11733 : g11711.toInt < p7201.toInt := gC_nle hc11729
                have bg11711' : gB g11711 0 199 := ⟨by omega, by omega⟩
                have bp7201' : gB p7201 1 200 := ⟨by omega, by omega⟩
                refine G_aload_n 3 d_cX4_write_44 rfl ?_
                refine G_getfN 2 3 d_cX4_write_45 rfl (gk_X0 D I) (Nat.le_of_ble_eq_true rfl) (fun _ _ _ h => gn_w 15 rfl h) rfl ?_
                refine G_iload_n 0 d_cX4_write_48 rfl ?_
                refine G_iald 6 0 d_cX4_write_49 rfl rfl (gB_in bg11711' (by decide) (by decide)) (G_nam fun z11734 hz11734 => ?_)
                have bz11734 : gB z11734 0 21 := by rw [hz11734]; exact bf7207 _
                refine G_bipush 19 d_cX4_write_50 (by decide +kernel) ?_
                refine G_icmp_lt 65 d_cX4_write_52 (by decide +kernel) (fun hc11735 => ?_) (fun hc11735 => ?_)
                · have r11736 : z11734.toInt < 19 := gj_lt hc11735 (show Int32.toInt 19 = 19 by decide)
                  have bz11734' : gB z11734 0 18 := ⟨by omega, by omega⟩
                  refine G_aload_n 2 d_cX4_write_65 rfl ?_
                  refine G_aload_n 3 d_cX4_write_66 rfl ?_
                  refine G_iload_n 0 d_cX4_write_67 rfl ?_
                  refine G_callV (As := [.ref q7188, .int g11711]) (wr := []) (gV_ok D I) (ct_10195_Listing_addRow l hl0 D I q7187 q7188 q7189 q7190 q7191 q7192 q7193 q7194 q7195 q7196 q7197 q7198 g11711 g11712 p7200 p7201 p7202 f11713 f7204 f7205 f7206 f7207 f7208 f7209 f7210 f7211 f7212 bg11711' bg11712 (gB_w bp7200' (by decide) (by decide)) (gB_w bp7201' (by decide) (by decide)) bp7202 bf11713 bf7204 bf7207) d_cX4_write_68 ⟨w_6_199, w_1_13, w_6_202, by decide, rfl, (Nat.le_of_ble_eq_true rfl), (Nat.le_of_ble_eq_true rfl)⟩ w_6_201 w_p_70 0 rfl rfl [0, 2, 1, 3, 4, 5, 6, 7, 8, 9, 10, 11] [] rfl rfl rfl rfl (by decide) (Nat.le_of_ble_eq_true rfl) (Nat.le_of_ble_eq_true rfl) (Nat.le_of_ble_eq_true rfl) (fun r w hp => ?_) (fun _ _ _ z => z.elim)
                  obtain ⟨o11737, f11738, rfl, rfl, bo11737, bf11738, ht11739⟩ := hp
                  change G _ _ _ _ _ _ _ _ _ _ _
                  refine G_ws (ws' := [(q7187, .inr (9, [.ref q7189, .int o11737])), (q7188, .inr (5, [.ref q7190, .ref q7191, .ref q7192, .ref q7193, .ref q7194, .ref q7195, .ref q7196, .ref q7197, .ref q7198, .int p7200, .int p7201, .int p7202])), (q7189, .inl (I .byte, 16384, .inl f11738)), (q7190, .inl (I .int, 40, .inl f7204)), (q7191, .inl (I .int, 40, .inl f7205)), (q7192, .inl (I .int, 40, .inl f7206)), (q7193, .inl (I .int, 200, .inl f7207)), (q7194, .inl (I .int, 200, .inl f7208)), (q7195, .inl (I .int, 200, .inl f7209)), (q7196, .inl (I .int, 200, .inl f7210)), (q7197, .inl (I .int, 200, .inl f7211)), (q7198, .inl (I .int, 200, .inl f7212))]) (cs' := 0) (sl' := 0) rfl rfl rfl ?_
                  refine G_aload_n 2 d_cX4_write_71 rfl ?_
                  refine G_bipush 10 d_cX4_write_72 (by decide +kernel) ?_
                  refine G_callV (As := [.int 10]) (wr := [(q7188, .inr (5, [.ref q7190, .ref q7191, .ref q7192, .ref q7193, .ref q7194, .ref q7195, .ref q7196, .ref q7197, .ref q7198, .int p7200, .int p7201, .int p7202])), (q7190, .inl (I .int, 40, .inl f7204)), (q7191, .inl (I .int, 40, .inl f7205)), (q7192, .inl (I .int, 40, .inl f7206)), (q7193, .inl (I .int, 200, .inl f7207)), (q7194, .inl (I .int, 200, .inl f7208)), (q7195, .inl (I .int, 200, .inl f7209)), (q7196, .inl (I .int, 200, .inl f7210)), (q7197, .inl (I .int, 200, .inl f7211)), (q7198, .inl (I .int, 200, .inl f7212))]) (gV_ok D I) (ct_7248_Listing_addByte l hl0 D I q7187 q7189 10 o11737 f11738 (gB_w (gBl (show Int32.toInt 10 = 10 by decide)) (by decide) (by decide)) bo11737 bf11738) d_cX4_write_74 ⟨w_6_171, w_1_13, w_6_174, by decide, rfl, (Nat.le_of_ble_eq_true rfl), (Nat.le_of_ble_eq_true rfl)⟩ w_6_173 w_p_66 0 rfl rfl [0, 2] [1, 3, 4, 5, 6, 7, 8, 9, 10, 11] rfl rfl rfl rfl (by decide) (Nat.le_of_ble_eq_true rfl) (Nat.le_of_ble_eq_true rfl) (Nat.le_of_ble_eq_true rfl) (fun r w hp => ?_) (fun _ _ _ z => z.elim)
                  obtain ⟨o11740, f11741, rfl, rfl, bo11740, bf11741, ht11742⟩ := hp
                  change G _ _ _ _ _ _ _ _ _ _ _
                  refine G_ws (ws' := [(q7188, .inr (5, [.ref q7190, .ref q7191, .ref q7192, .ref q7193, .ref q7194, .ref q7195, .ref q7196, .ref q7197, .ref q7198, .int p7200, .int p7201, .int p7202])), (q7190, .inl (I .int, 40, .inl f7204)), (q7191, .inl (I .int, 40, .inl f7205)), (q7192, .inl (I .int, 40, .inl f7206)), (q7193, .inl (I .int, 200, .inl f7207)), (q7194, .inl (I .int, 200, .inl f7208)), (q7195, .inl (I .int, 200, .inl f7209)), (q7196, .inl (I .int, 200, .inl f7210)), (q7197, .inl (I .int, 200, .inl f7211)), (q7198, .inl (I .int, 200, .inl f7212)), (q7187, .inr (9, [.ref q7189, .int o11740])), (q7189, .inl (I .byte, 16384, .inl f11741))]) (cs' := 0) (sl' := 0) rfl rfl rfl ?_
                  obtain ⟨z11743, hz11743⟩ : ∃ z : Int32, z = g11711 + Int32.ofInt 1 := ⟨_, rfl⟩
                  have ez11743 : z11743.toInt = g11711.toInt + 1 := gI_inc hz11743 (by decide) bg11711' (by decide) (by decide)
                  have bz11743 : gB z11743 1 200 := ⟨by omega, by omega⟩
                  refine G_iinc (L' := [(3, .int z11743), (2, .int g11574), (0, .ref q7187), (1, .ref q7188)]) z11743 0 d_cX4_write_77 rfl hz11743.symm (Nat.le_of_ble_eq_true rfl) rfl ?_
                  refine G_goto 35 d_cX4_write_80 (by decide +kernel) ?_
                  exact ih35_11713 z11743 o11740 f11741 (gB_w bz11743 (by decide) (by decide)) (gB_w bo11740 (by decide) (by decide)) bf11741 (fun k e1 e2 ht => kt35_11713 k e1 e2 (fun R c1 c2 c3 c4 c5 c6 => c2 g11711 g11712 f11713 z11734 o11737 f11738 o11740 f11741 z11743 k e1 e2 bg11711 bg11712 r11718 r11733 hz11734 bz11734 r11736 bo11737 ht11739 bo11740 ht11742 ez11743 (ht R c1 c2 c3 c4 c5 c6))) (by omega)
                · have r11744 : 19 ≤ z11734.toInt := gj_nlt hc11735 (show Int32.toInt 19 = 19 by decide)
                  have bz11734' : gB z11734 19 21 := ⟨by omega, by omega⟩
                  refine G_aload_n 2 d_cX4_write_55 rfl ?_
                  refine G_aload_n 3 d_cX4_write_56 rfl ?_
                  refine G_iload_n 1 d_cX4_write_57 rfl ?_
                  refine G_iload_n 0 d_cX4_write_58 rfl ?_
                  refine G_callV (As := [.ref q7188, .int g11574, .int g11711]) (wr := []) (gV_ok D I) (ct_10393_Listing_addEnd l hl0 D I q7187 q7188 q7189 q7190 q7191 q7192 q7193 q7194 q7195 q7196 q7197 q7198 g11574 g11711 g11712 p7200 p7201 p7202 f11713 f7204 f7205 f7206 f7207 f7208 f7209 f7210 f7211 f7212 bg11574' bg11711' bg11712 (gB_w bp7200' (by decide) (by decide)) (gB_w bp7201' (by decide) (by decide)) bp7202 bf11713 bf7204 bf7207) d_cX4_write_59 ⟨w_6_186, w_1_13, w_6_189, by decide, rfl, (Nat.le_of_ble_eq_true rfl), (Nat.le_of_ble_eq_true rfl)⟩ w_6_188 w_p_68 0 rfl rfl [0, 2, 1, 3, 4, 5, 6, 7, 8, 9, 10, 11] [] rfl rfl rfl rfl (by decide) (Nat.le_of_ble_eq_true rfl) (Nat.le_of_ble_eq_true rfl) (Nat.le_of_ble_eq_true rfl) (fun r w hp => ?_) (fun _ _ _ z => z.elim)
                  obtain ⟨o11745, f11746, rfl, rfl, bo11745, bf11746, ht11747⟩ := hp
                  change G _ _ _ _ _ _ _ _ _ _ _
                  refine G_ws (ws' := [(q7187, .inr (9, [.ref q7189, .int o11745])), (q7188, .inr (5, [.ref q7190, .ref q7191, .ref q7192, .ref q7193, .ref q7194, .ref q7195, .ref q7196, .ref q7197, .ref q7198, .int p7200, .int p7201, .int p7202])), (q7189, .inl (I .byte, 16384, .inl f11746)), (q7190, .inl (I .int, 40, .inl f7204)), (q7191, .inl (I .int, 40, .inl f7205)), (q7192, .inl (I .int, 40, .inl f7206)), (q7193, .inl (I .int, 200, .inl f7207)), (q7194, .inl (I .int, 200, .inl f7208)), (q7195, .inl (I .int, 200, .inl f7209)), (q7196, .inl (I .int, 200, .inl f7210)), (q7197, .inl (I .int, 200, .inl f7211)), (q7198, .inl (I .int, 200, .inl f7212))]) (cs' := 0) (sl' := 0) rfl rfl rfl ?_
                  refine G_goto 71 d_cX4_write_62 (by decide +kernel) ?_
                  refine G_aload_n 2 d_cX4_write_71 rfl ?_
                  refine G_bipush 10 d_cX4_write_72 (by decide +kernel) ?_
                  refine G_callV (As := [.int 10]) (wr := [(q7188, .inr (5, [.ref q7190, .ref q7191, .ref q7192, .ref q7193, .ref q7194, .ref q7195, .ref q7196, .ref q7197, .ref q7198, .int p7200, .int p7201, .int p7202])), (q7190, .inl (I .int, 40, .inl f7204)), (q7191, .inl (I .int, 40, .inl f7205)), (q7192, .inl (I .int, 40, .inl f7206)), (q7193, .inl (I .int, 200, .inl f7207)), (q7194, .inl (I .int, 200, .inl f7208)), (q7195, .inl (I .int, 200, .inl f7209)), (q7196, .inl (I .int, 200, .inl f7210)), (q7197, .inl (I .int, 200, .inl f7211)), (q7198, .inl (I .int, 200, .inl f7212))]) (gV_ok D I) (ct_7248_Listing_addByte l hl0 D I q7187 q7189 10 o11745 f11746 (gB_w (gBl (show Int32.toInt 10 = 10 by decide)) (by decide) (by decide)) bo11745 bf11746) d_cX4_write_74 ⟨w_6_171, w_1_13, w_6_174, by decide, rfl, (Nat.le_of_ble_eq_true rfl), (Nat.le_of_ble_eq_true rfl)⟩ w_6_173 w_p_66 0 rfl rfl [0, 2] [1, 3, 4, 5, 6, 7, 8, 9, 10, 11] rfl rfl rfl rfl (by decide) (Nat.le_of_ble_eq_true rfl) (Nat.le_of_ble_eq_true rfl) (Nat.le_of_ble_eq_true rfl) (fun r w hp => ?_) (fun _ _ _ z => z.elim)
                  obtain ⟨o11748, f11749, rfl, rfl, bo11748, bf11749, ht11750⟩ := hp
                  change G _ _ _ _ _ _ _ _ _ _ _
                  refine G_ws (ws' := [(q7188, .inr (5, [.ref q7190, .ref q7191, .ref q7192, .ref q7193, .ref q7194, .ref q7195, .ref q7196, .ref q7197, .ref q7198, .int p7200, .int p7201, .int p7202])), (q7190, .inl (I .int, 40, .inl f7204)), (q7191, .inl (I .int, 40, .inl f7205)), (q7192, .inl (I .int, 40, .inl f7206)), (q7193, .inl (I .int, 200, .inl f7207)), (q7194, .inl (I .int, 200, .inl f7208)), (q7195, .inl (I .int, 200, .inl f7209)), (q7196, .inl (I .int, 200, .inl f7210)), (q7197, .inl (I .int, 200, .inl f7211)), (q7198, .inl (I .int, 200, .inl f7212)), (q7187, .inr (9, [.ref q7189, .int o11748])), (q7189, .inl (I .byte, 16384, .inl f11749))]) (cs' := 0) (sl' := 0) rfl rfl rfl ?_
                  obtain ⟨z11751, hz11751⟩ : ∃ z : Int32, z = g11711 + Int32.ofInt 1 := ⟨_, rfl⟩
                  have ez11751 : z11751.toInt = g11711.toInt + 1 := gI_inc hz11751 (by decide) bg11711' (by decide) (by decide)
                  have bz11751 : gB z11751 1 200 := ⟨by omega, by omega⟩
                  refine G_iinc (L' := [(3, .int z11751), (2, .int g11574), (0, .ref q7187), (1, .ref q7188)]) z11751 0 d_cX4_write_77 rfl hz11751.symm (Nat.le_of_ble_eq_true rfl) rfl ?_
                  refine G_goto 35 d_cX4_write_80 (by decide +kernel) ?_
                  exact ih35_11713 z11751 o11748 f11749 (gB_w bz11751 (by decide) (by decide)) (gB_w bo11748 (by decide) (by decide)) bf11749 (fun k e1 e2 ht => kt35_11713 k e1 e2 (fun R c1 c2 c3 c4 c5 c6 => c3 g11711 g11712 f11713 z11734 o11745 f11746 o11748 f11749 z11751 k e1 e2 bg11711 bg11712 r11718 r11733 hz11734 bz11734 r11744 bo11745 ht11747 bo11748 ht11750 ez11751 (ht R c1 c2 c3 c4 c5 c6))) (by omega)
            · have bp7200'' : gB p7200 2 40 := ⟨by omega, by omega⟩
              change G _ _ _ _ _ _ _ (.int z11719 :: _) _ _ _
              refine G_ws (ws' := [(q7187, .inr (9, [.ref q7189, .int g11712])), (q7189, .inl (I .byte, 16384, .inl f11713)), (q7188, .inr (5, [.ref q7190, .ref q7191, .ref q7192, .ref q7193, .ref q7194, .ref q7195, .ref q7196, .ref q7197, .ref q7198, .int p7200, .int p7201, .int p7202])), (q7190, .inl (I .int, 40, .inl f7204)), (q7191, .inl (I .int, 40, .inl f7205)), (q7192, .inl (I .int, 40, .inl f7206)), (q7193, .inl (I .int, 200, .inl f7207)), (q7194, .inl (I .int, 200, .inl f7208)), (q7195, .inl (I .int, 200, .inl f7209)), (q7196, .inl (I .int, 200, .inl f7210)), (q7197, .inl (I .int, 200, .inl f7211)), (q7198, .inl (I .int, 200, .inl f7212))]) (cs' := 0) (sl' := 0) rfl rfl rfl ?_
              refine G_icmp_ge 83 d_cX4_write_41 (by decide +kernel) (fun hc11752 => ?_) (fun hc11752 => ?_)
              · have r11753 : z11719.toInt ≤ g11711.toInt := gC_le hc11752
                have hx11754 : tl_Listing_write_35 g11574 p7200 p7201 f7204 f7207 f7208 f7209 f7210 f7211 f7212 f7205 f7206 z11589 o11586 f11587 83 g11712 f11713 := kt35_11713 83 g11712 f11713 (fun R c1 c2 c3 c4 c5 c6 => c4 g11711 g11712 f11713 z11719 bg11711 bg11712 r11728 r11753)
                obtain ⟨z11755, hz11755⟩ : ∃ z : Int32, z = g11574 + Int32.ofInt 1 := ⟨_, rfl⟩
                have ez11755 : z11755.toInt = g11574.toInt + 1 := gI_inc hz11755 (by decide) bg11574' (by decide) (by decide)
                have bz11755 : gB z11755 1 40 := ⟨by omega, by omega⟩
                refine G_iinc (L' := [(2, .int z11755), (3, .int g11711), (0, .ref q7187), (1, .ref q7188)]) z11755 1 d_cX4_write_83 rfl hz11755.symm (Nat.le_of_ble_eq_true rfl) rfl ?_
                refine G_goto 7 d_cX4_write_86 (by decide +kernel) ?_
                refine G_lv (L' := [(2, .int z11755), (0, .ref q7187), (1, .ref q7188)]) [0, 2, 3] rfl ?_
                refine G_sub (ws' := [(q7187, .inr (9, [.ref q7189, .int g11712])), (q7188, .inr (5, [.ref q7190, .ref q7191, .ref q7192, .ref q7193, .ref q7194, .ref q7195, .ref q7196, .ref q7197, .ref q7198, .int p7200, .int p7201, .int p7202])), (q7189, .inl (I .byte, 16384, .inl f11713)), (q7190, .inl (I .int, 40, .inl f7204)), (q7191, .inl (I .int, 40, .inl f7205)), (q7192, .inl (I .int, 40, .inl f7206)), (q7193, .inl (I .int, 200, .inl f7207)), (q7194, .inl (I .int, 200, .inl f7208)), (q7195, .inl (I .int, 200, .inl f7209)), (q7196, .inl (I .int, 200, .inl f7210)), (q7197, .inl (I .int, 200, .inl f7211)), (q7198, .inl (I .int, 200, .inl f7212))]) [0, 2, 1, 3, 4, 5, 6, 7, 8, 9, 10, 11] rfl rfl ?_
                exact ih7_11576 z11755 g11712 f11713 (gB_w bz11755 (by decide) (by decide)) bg11712 bf11713 (fun k e1 e2 ht => kt7_11576 k e1 e2 (fun R c1 c2 => c2 g11574 g11575 f11576 o11582 f11583 o11586 f11587 z11589 g11712 f11713 z11755 k e1 e2 bg11574 bg11575 r11580 bo11582 ht11584 bo11586 ht11588 hz11589 bz11589 hx11754 ez11755 (ht R c1 c2))) (by omega)
              · have r11756 : g11711.toInt < z11719.toInt := gC_nle hc11752
                have bg11711' : gB g11711 0 199 := ⟨by omega, by omega⟩
                have r11725' : gB z11719 1 200 := ⟨by omega, by omega⟩
                refine G_aload_n 3 d_cX4_write_44 rfl ?_
                refine G_getfN 2 3 d_cX4_write_45 rfl (gk_X0 D I) (Nat.le_of_ble_eq_true rfl) (fun _ _ _ h => gn_w 15 rfl h) rfl ?_
                refine G_iload_n 0 d_cX4_write_48 rfl ?_
                refine G_iald 6 0 d_cX4_write_49 rfl rfl (gB_in bg11711' (by decide) (by decide)) (G_nam fun z11757 hz11757 => ?_)
                have bz11757 : gB z11757 0 21 := by rw [hz11757]; exact bf7207 _
                refine G_bipush 19 d_cX4_write_50 (by decide +kernel) ?_
                refine G_icmp_lt 65 d_cX4_write_52 (by decide +kernel) (fun hc11758 => ?_) (fun hc11758 => ?_)
                · have r11759 : z11757.toInt < 19 := gj_lt hc11758 (show Int32.toInt 19 = 19 by decide)
                  have bz11757' : gB z11757 0 18 := ⟨by omega, by omega⟩
                  refine G_aload_n 2 d_cX4_write_65 rfl ?_
                  refine G_aload_n 3 d_cX4_write_66 rfl ?_
                  refine G_iload_n 0 d_cX4_write_67 rfl ?_
                  refine G_callV (As := [.ref q7188, .int g11711]) (wr := []) (gV_ok D I) (ct_10195_Listing_addRow l hl0 D I q7187 q7188 q7189 q7190 q7191 q7192 q7193 q7194 q7195 q7196 q7197 q7198 g11711 g11712 p7200 p7201 p7202 f11713 f7204 f7205 f7206 f7207 f7208 f7209 f7210 f7211 f7212 bg11711' bg11712 (gB_w bp7200'' (by decide) (by decide)) bp7201 bp7202 bf11713 bf7204 bf7207) d_cX4_write_68 ⟨w_6_199, w_1_13, w_6_202, by decide, rfl, (Nat.le_of_ble_eq_true rfl), (Nat.le_of_ble_eq_true rfl)⟩ w_6_201 w_p_70 0 rfl rfl [0, 2, 1, 3, 4, 5, 6, 7, 8, 9, 10, 11] [] rfl rfl rfl rfl (by decide) (Nat.le_of_ble_eq_true rfl) (Nat.le_of_ble_eq_true rfl) (Nat.le_of_ble_eq_true rfl) (fun r w hp => ?_) (fun _ _ _ z => z.elim)
                  obtain ⟨o11760, f11761, rfl, rfl, bo11760, bf11761, ht11762⟩ := hp
                  change G _ _ _ _ _ _ _ _ _ _ _
                  refine G_ws (ws' := [(q7187, .inr (9, [.ref q7189, .int o11760])), (q7188, .inr (5, [.ref q7190, .ref q7191, .ref q7192, .ref q7193, .ref q7194, .ref q7195, .ref q7196, .ref q7197, .ref q7198, .int p7200, .int p7201, .int p7202])), (q7189, .inl (I .byte, 16384, .inl f11761)), (q7190, .inl (I .int, 40, .inl f7204)), (q7191, .inl (I .int, 40, .inl f7205)), (q7192, .inl (I .int, 40, .inl f7206)), (q7193, .inl (I .int, 200, .inl f7207)), (q7194, .inl (I .int, 200, .inl f7208)), (q7195, .inl (I .int, 200, .inl f7209)), (q7196, .inl (I .int, 200, .inl f7210)), (q7197, .inl (I .int, 200, .inl f7211)), (q7198, .inl (I .int, 200, .inl f7212))]) (cs' := 0) (sl' := 0) rfl rfl rfl ?_
                  refine G_aload_n 2 d_cX4_write_71 rfl ?_
                  refine G_bipush 10 d_cX4_write_72 (by decide +kernel) ?_
                  refine G_callV (As := [.int 10]) (wr := [(q7188, .inr (5, [.ref q7190, .ref q7191, .ref q7192, .ref q7193, .ref q7194, .ref q7195, .ref q7196, .ref q7197, .ref q7198, .int p7200, .int p7201, .int p7202])), (q7190, .inl (I .int, 40, .inl f7204)), (q7191, .inl (I .int, 40, .inl f7205)), (q7192, .inl (I .int, 40, .inl f7206)), (q7193, .inl (I .int, 200, .inl f7207)), (q7194, .inl (I .int, 200, .inl f7208)), (q7195, .inl (I .int, 200, .inl f7209)), (q7196, .inl (I .int, 200, .inl f7210)), (q7197, .inl (I .int, 200, .inl f7211)), (q7198, .inl (I .int, 200, .inl f7212))]) (gV_ok D I) (ct_7248_Listing_addByte l hl0 D I q7187 q7189 10 o11760 f11761 (gB_w (gBl (show Int32.toInt 10 = 10 by decide)) (by decide) (by decide)) bo11760 bf11761) d_cX4_write_74 ⟨w_6_171, w_1_13, w_6_174, by decide, rfl, (Nat.le_of_ble_eq_true rfl), (Nat.le_of_ble_eq_true rfl)⟩ w_6_173 w_p_66 0 rfl rfl [0, 2] [1, 3, 4, 5, 6, 7, 8, 9, 10, 11] rfl rfl rfl rfl (by decide) (Nat.le_of_ble_eq_true rfl) (Nat.le_of_ble_eq_true rfl) (Nat.le_of_ble_eq_true rfl) (fun r w hp => ?_) (fun _ _ _ z => z.elim)
                  obtain ⟨o11763, f11764, rfl, rfl, bo11763, bf11764, ht11765⟩ := hp
                  change G _ _ _ _ _ _ _ _ _ _ _
                  refine G_ws (ws' := [(q7188, .inr (5, [.ref q7190, .ref q7191, .ref q7192, .ref q7193, .ref q7194, .ref q7195, .ref q7196, .ref q7197, .ref q7198, .int p7200, .int p7201, .int p7202])), (q7190, .inl (I .int, 40, .inl f7204)), (q7191, .inl (I .int, 40, .inl f7205)), (q7192, .inl (I .int, 40, .inl f7206)), (q7193, .inl (I .int, 200, .inl f7207)), (q7194, .inl (I .int, 200, .inl f7208)), (q7195, .inl (I .int, 200, .inl f7209)), (q7196, .inl (I .int, 200, .inl f7210)), (q7197, .inl (I .int, 200, .inl f7211)), (q7198, .inl (I .int, 200, .inl f7212)), (q7187, .inr (9, [.ref q7189, .int o11763])), (q7189, .inl (I .byte, 16384, .inl f11764))]) (cs' := 0) (sl' := 0) rfl rfl rfl ?_
                  obtain ⟨z11766, hz11766⟩ : ∃ z : Int32, z = g11711 + Int32.ofInt 1 := ⟨_, rfl⟩
                  have ez11766 : z11766.toInt = g11711.toInt + 1 := gI_inc hz11766 (by decide) bg11711' (by decide) (by decide)
                  have bz11766 : gB z11766 1 200 := ⟨by omega, by omega⟩
                  refine G_iinc (L' := [(3, .int z11766), (2, .int g11574), (0, .ref q7187), (1, .ref q7188)]) z11766 0 d_cX4_write_77 rfl hz11766.symm (Nat.le_of_ble_eq_true rfl) rfl ?_
                  refine G_goto 35 d_cX4_write_80 (by decide +kernel) ?_
                  exact ih35_11713 z11766 o11763 f11764 (gB_w bz11766 (by decide) (by decide)) (gB_w bo11763 (by decide) (by decide)) bf11764 (fun k e1 e2 ht => kt35_11713 k e1 e2 (fun R c1 c2 c3 c4 c5 c6 => c5 g11711 g11712 f11713 z11719 z11757 o11760 f11761 o11763 f11764 z11766 k e1 e2 bg11711 bg11712 r11728 r11756 hz11757 bz11757 r11759 bo11760 ht11762 bo11763 ht11765 ez11766 (ht R c1 c2 c3 c4 c5 c6))) (by omega)
                · have r11767 : 19 ≤ z11757.toInt := gj_nlt hc11758 (show Int32.toInt 19 = 19 by decide)
                  have bz11757' : gB z11757 19 21 := ⟨by omega, by omega⟩
                  refine G_aload_n 2 d_cX4_write_55 rfl ?_
                  refine G_aload_n 3 d_cX4_write_56 rfl ?_
                  refine G_iload_n 1 d_cX4_write_57 rfl ?_
                  refine G_iload_n 0 d_cX4_write_58 rfl ?_
                  refine G_callV (As := [.ref q7188, .int g11574, .int g11711]) (wr := []) (gV_ok D I) (ct_10393_Listing_addEnd l hl0 D I q7187 q7188 q7189 q7190 q7191 q7192 q7193 q7194 q7195 q7196 q7197 q7198 g11574 g11711 g11712 p7200 p7201 p7202 f11713 f7204 f7205 f7206 f7207 f7208 f7209 f7210 f7211 f7212 bg11574' bg11711' bg11712 (gB_w bp7200'' (by decide) (by decide)) bp7201 bp7202 bf11713 bf7204 bf7207) d_cX4_write_59 ⟨w_6_186, w_1_13, w_6_189, by decide, rfl, (Nat.le_of_ble_eq_true rfl), (Nat.le_of_ble_eq_true rfl)⟩ w_6_188 w_p_68 0 rfl rfl [0, 2, 1, 3, 4, 5, 6, 7, 8, 9, 10, 11] [] rfl rfl rfl rfl (by decide) (Nat.le_of_ble_eq_true rfl) (Nat.le_of_ble_eq_true rfl) (Nat.le_of_ble_eq_true rfl) (fun r w hp => ?_) (fun _ _ _ z => z.elim)
                  obtain ⟨o11768, f11769, rfl, rfl, bo11768, bf11769, ht11770⟩ := hp
                  change G _ _ _ _ _ _ _ _ _ _ _
                  refine G_ws (ws' := [(q7187, .inr (9, [.ref q7189, .int o11768])), (q7188, .inr (5, [.ref q7190, .ref q7191, .ref q7192, .ref q7193, .ref q7194, .ref q7195, .ref q7196, .ref q7197, .ref q7198, .int p7200, .int p7201, .int p7202])), (q7189, .inl (I .byte, 16384, .inl f11769)), (q7190, .inl (I .int, 40, .inl f7204)), (q7191, .inl (I .int, 40, .inl f7205)), (q7192, .inl (I .int, 40, .inl f7206)), (q7193, .inl (I .int, 200, .inl f7207)), (q7194, .inl (I .int, 200, .inl f7208)), (q7195, .inl (I .int, 200, .inl f7209)), (q7196, .inl (I .int, 200, .inl f7210)), (q7197, .inl (I .int, 200, .inl f7211)), (q7198, .inl (I .int, 200, .inl f7212))]) (cs' := 0) (sl' := 0) rfl rfl rfl ?_
                  refine G_goto 71 d_cX4_write_62 (by decide +kernel) ?_
                  refine G_aload_n 2 d_cX4_write_71 rfl ?_
                  refine G_bipush 10 d_cX4_write_72 (by decide +kernel) ?_
                  refine G_callV (As := [.int 10]) (wr := [(q7188, .inr (5, [.ref q7190, .ref q7191, .ref q7192, .ref q7193, .ref q7194, .ref q7195, .ref q7196, .ref q7197, .ref q7198, .int p7200, .int p7201, .int p7202])), (q7190, .inl (I .int, 40, .inl f7204)), (q7191, .inl (I .int, 40, .inl f7205)), (q7192, .inl (I .int, 40, .inl f7206)), (q7193, .inl (I .int, 200, .inl f7207)), (q7194, .inl (I .int, 200, .inl f7208)), (q7195, .inl (I .int, 200, .inl f7209)), (q7196, .inl (I .int, 200, .inl f7210)), (q7197, .inl (I .int, 200, .inl f7211)), (q7198, .inl (I .int, 200, .inl f7212))]) (gV_ok D I) (ct_7248_Listing_addByte l hl0 D I q7187 q7189 10 o11768 f11769 (gB_w (gBl (show Int32.toInt 10 = 10 by decide)) (by decide) (by decide)) bo11768 bf11769) d_cX4_write_74 ⟨w_6_171, w_1_13, w_6_174, by decide, rfl, (Nat.le_of_ble_eq_true rfl), (Nat.le_of_ble_eq_true rfl)⟩ w_6_173 w_p_66 0 rfl rfl [0, 2] [1, 3, 4, 5, 6, 7, 8, 9, 10, 11] rfl rfl rfl rfl (by decide) (Nat.le_of_ble_eq_true rfl) (Nat.le_of_ble_eq_true rfl) (Nat.le_of_ble_eq_true rfl) (fun r w hp => ?_) (fun _ _ _ z => z.elim)
                  obtain ⟨o11771, f11772, rfl, rfl, bo11771, bf11772, ht11773⟩ := hp
                  change G _ _ _ _ _ _ _ _ _ _ _
                  refine G_ws (ws' := [(q7188, .inr (5, [.ref q7190, .ref q7191, .ref q7192, .ref q7193, .ref q7194, .ref q7195, .ref q7196, .ref q7197, .ref q7198, .int p7200, .int p7201, .int p7202])), (q7190, .inl (I .int, 40, .inl f7204)), (q7191, .inl (I .int, 40, .inl f7205)), (q7192, .inl (I .int, 40, .inl f7206)), (q7193, .inl (I .int, 200, .inl f7207)), (q7194, .inl (I .int, 200, .inl f7208)), (q7195, .inl (I .int, 200, .inl f7209)), (q7196, .inl (I .int, 200, .inl f7210)), (q7197, .inl (I .int, 200, .inl f7211)), (q7198, .inl (I .int, 200, .inl f7212)), (q7187, .inr (9, [.ref q7189, .int o11771])), (q7189, .inl (I .byte, 16384, .inl f11772))]) (cs' := 0) (sl' := 0) rfl rfl rfl ?_
                  obtain ⟨z11774, hz11774⟩ : ∃ z : Int32, z = g11711 + Int32.ofInt 1 := ⟨_, rfl⟩
                  have ez11774 : z11774.toInt = g11711.toInt + 1 := gI_inc hz11774 (by decide) bg11711' (by decide) (by decide)
                  have bz11774 : gB z11774 1 200 := ⟨by omega, by omega⟩
                  refine G_iinc (L' := [(3, .int z11774), (2, .int g11574), (0, .ref q7187), (1, .ref q7188)]) z11774 0 d_cX4_write_77 rfl hz11774.symm (Nat.le_of_ble_eq_true rfl) rfl ?_
                  refine G_goto 35 d_cX4_write_80 (by decide +kernel) ?_
                  exact ih35_11713 z11774 o11771 f11772 (gB_w bz11774 (by decide) (by decide)) (gB_w bo11771 (by decide) (by decide)) bf11772 (fun k e1 e2 ht => kt35_11713 k e1 e2 (fun R c1 c2 c3 c4 c5 c6 => c6 g11711 g11712 f11713 z11719 z11757 o11768 f11769 o11771 f11772 z11774 k e1 e2 bg11711 bg11712 r11728 r11756 hz11757 bz11757 r11767 bo11768 ht11770 bo11771 ht11773 ez11774 (ht R c1 c2 c3 c4 c5 c6))) (by omega)
        exact hlp35_11713 (((201 : Int) - z11589.toInt).toNat + 1) z11589 o11586 f11587 bz11589 bo11586 bf11587 (fun k e1 e2 ht => ht) (Nat.lt_succ_self _)
  exact hlp7_11576 (((41 : Int) - 0).toNat + 1) 0 0 f7203 (gB_w (gBl (show Int32.toInt 0 = 0 by decide)) (by decide) (by decide)) (gB_w (gBl (show Int32.toInt 0 = 0 by decide)) (by decide) (by decide)) bf7203 (fun k e1 e2 ht => ht) (Nat.lt_succ_self _)
/- tl_Live_enterBehind_18: l5, Live_now; out: Live_now -/
def tl_Live_enterBehind_18 (Live_words : Int32) (c1 : Int32) (c2 : Int32) (Code_blocks : Int32) (Live_in : Nat → Int64) (s1 : Int32) (s2 : Nat → Int64) (k : Nat) (e1 : Nat → Int64) : Prop := ∀ R : (Int32) → (Nat → Int64) → Nat → (Nat → Int64) → Prop,
  (∀ (l5_1 : Int32) (Live_now_1 : Nat → Int64), gB l5_1 0 12 → Live_words.toInt ≤ l5_1.toInt → R l5_1 Live_now_1 109 Live_now_1) →
  (∀ (l5_1 : Int32) (Live_now_1 : Nat → Int64) (x1 : Nat → Int64) (x2 : Int32) (k : Nat) (e1 : Nat → Int64), gB l5_1 0 12 → l5_1.toInt < Live_words.toInt → c1.toInt < 0 → c2.toInt < 0 → x1 = vp_updL Live_now_1 l5_1.toNatClampNeg (0 : Int64) → x2.toInt = l5_1.toInt + 1 → R x2 x1 k e1 → R l5_1 Live_now_1 k e1) →
  (∀ (l5_1 : Int32) (Live_now_1 : Nat → Int64) (x1 : Nat → Int64) (x2 : Int32) (k : Nat) (e1 : Nat → Int64), gB l5_1 0 12 → l5_1.toInt < Live_words.toInt → c1.toInt < 0 → 0 ≤ c2.toInt → Code_blocks.toInt ≤ c2.toInt → x1 = vp_updL Live_now_1 l5_1.toNatClampNeg (0 : Int64) → x2.toInt = l5_1.toInt + 1 → R x2 x1 k e1 → R l5_1 Live_now_1 k e1) →
  (∀ (l5_1 : Int32) (Live_now_1 : Nat → Int64) (x1 : Int32) (x2 : Int32) (x3 : Int64) (x4 : Int64) (x5 : Nat → Int64) (x6 : Int32) (k : Nat) (e1 : Nat → Int64), gB l5_1 0 12 → l5_1.toInt < Live_words.toInt → c1.toInt < 0 → 0 ≤ c2.toInt → c2.toInt < Code_blocks.toInt → x1.toInt = c2.toInt * Live_words.toInt → x2.toInt = x1.toInt + l5_1.toInt → x3 = Live_in x2.toNatClampNeg → x4 = (0 : Int64) ||| x3 → x5 = vp_updL Live_now_1 l5_1.toNatClampNeg x4 → x6.toInt = l5_1.toInt + 1 → R x6 x5 k e1 → R l5_1 Live_now_1 k e1) →
  (∀ (l5_1 : Int32) (Live_now_1 : Nat → Int64) (x1 : Nat → Int64) (x2 : Int32) (k : Nat) (e1 : Nat → Int64), gB l5_1 0 12 → l5_1.toInt < Live_words.toInt → 0 ≤ c1.toInt → Code_blocks.toInt ≤ c1.toInt → c2.toInt < 0 → x1 = vp_updL Live_now_1 l5_1.toNatClampNeg (0 : Int64) → x2.toInt = l5_1.toInt + 1 → R x2 x1 k e1 → R l5_1 Live_now_1 k e1) →
  (∀ (l5_1 : Int32) (Live_now_1 : Nat → Int64) (x1 : Nat → Int64) (x2 : Int32) (k : Nat) (e1 : Nat → Int64), gB l5_1 0 12 → l5_1.toInt < Live_words.toInt → 0 ≤ c1.toInt → Code_blocks.toInt ≤ c1.toInt → 0 ≤ c2.toInt → Code_blocks.toInt ≤ c2.toInt → x1 = vp_updL Live_now_1 l5_1.toNatClampNeg (0 : Int64) → x2.toInt = l5_1.toInt + 1 → R x2 x1 k e1 → R l5_1 Live_now_1 k e1) →
  (∀ (l5_1 : Int32) (Live_now_1 : Nat → Int64) (x1 : Int32) (x2 : Int32) (x3 : Int64) (x4 : Int64) (x5 : Nat → Int64) (x6 : Int32) (k : Nat) (e1 : Nat → Int64), gB l5_1 0 12 → l5_1.toInt < Live_words.toInt → 0 ≤ c1.toInt → Code_blocks.toInt ≤ c1.toInt → 0 ≤ c2.toInt → c2.toInt < Code_blocks.toInt → x1.toInt = c2.toInt * Live_words.toInt → x2.toInt = x1.toInt + l5_1.toInt → x3 = Live_in x2.toNatClampNeg → x4 = (0 : Int64) ||| x3 → x5 = vp_updL Live_now_1 l5_1.toNatClampNeg x4 → x6.toInt = l5_1.toInt + 1 → R x6 x5 k e1 → R l5_1 Live_now_1 k e1) →
  (∀ (l5_1 : Int32) (Live_now_1 : Nat → Int64) (x1 : Int32) (x2 : Int32) (x3 : Int64) (x4 : Nat → Int64) (x5 : Int32) (k : Nat) (e1 : Nat → Int64), gB l5_1 0 12 → l5_1.toInt < Live_words.toInt → 0 ≤ c1.toInt → c1.toInt < Code_blocks.toInt → x1.toInt = c1.toInt * Live_words.toInt → x2.toInt = x1.toInt + l5_1.toInt → x3 = Live_in x2.toNatClampNeg → c2.toInt < 0 → x4 = vp_updL Live_now_1 l5_1.toNatClampNeg x3 → x5.toInt = l5_1.toInt + 1 → R x5 x4 k e1 → R l5_1 Live_now_1 k e1) →
  (∀ (l5_1 : Int32) (Live_now_1 : Nat → Int64) (x1 : Int32) (x2 : Int32) (x3 : Int64) (x4 : Nat → Int64) (x5 : Int32) (k : Nat) (e1 : Nat → Int64), gB l5_1 0 12 → l5_1.toInt < Live_words.toInt → 0 ≤ c1.toInt → c1.toInt < Code_blocks.toInt → x1.toInt = c1.toInt * Live_words.toInt → x2.toInt = x1.toInt + l5_1.toInt → x3 = Live_in x2.toNatClampNeg → 0 ≤ c2.toInt → Code_blocks.toInt ≤ c2.toInt → x4 = vp_updL Live_now_1 l5_1.toNatClampNeg x3 → x5.toInt = l5_1.toInt + 1 → R x5 x4 k e1 → R l5_1 Live_now_1 k e1) →
  (∀ (l5_1 : Int32) (Live_now_1 : Nat → Int64) (x1 : Int32) (x2 : Int32) (x3 : Int64) (x4 : Int32) (x5 : Int32) (x6 : Int64) (x7 : Int64) (x8 : Nat → Int64) (x9 : Int32) (k : Nat) (e1 : Nat → Int64), gB l5_1 0 12 → l5_1.toInt < Live_words.toInt → 0 ≤ c1.toInt → c1.toInt < Code_blocks.toInt → x1.toInt = c1.toInt * Live_words.toInt → x2.toInt = x1.toInt + l5_1.toInt → x3 = Live_in x2.toNatClampNeg → 0 ≤ c2.toInt → c2.toInt < Code_blocks.toInt → x4.toInt = c2.toInt * Live_words.toInt → x5.toInt = x4.toInt + l5_1.toInt → x6 = Live_in x5.toNatClampNeg → x7 = x3 ||| x6 → x8 = vp_updL Live_now_1 l5_1.toNatClampNeg x7 → x9.toInt = l5_1.toInt + 1 → R x9 x8 k e1 → R l5_1 Live_now_1 k e1) →
  R s1 s2 k e1
/- tr_Live_enterBehind: Live_now -/
def tr_Live_enterBehind (a2 : Int32) (Live_words : Int32) (Code_blocks : Int32) (Live_in : Nat → Int64) (Live_now : Nat → Int64) (Code_firstGoal : Nat → Int32) (Code_secondGoal : Nat → Int32) (o1 : Nat → Int64) : Prop := ∀ R : (Nat → Int64) → Prop,
  (∀ (x1 : Int32) (x2 : Int32) (x3 : Nat → Int64), x1 = Code_firstGoal a2.toNatClampNeg → x2 = Code_secondGoal a2.toNatClampNeg → tl_Live_enterBehind_18 Live_words x1 x2 Code_blocks Live_in (0 : Int32) Live_now 109 x3 → R x3) →
  R o1
