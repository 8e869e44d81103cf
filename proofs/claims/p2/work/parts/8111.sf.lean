theorem d_cX4_addNamed_0 : decode cX4_addNamed 0 = .ok (.aload_n 0, 1) := by decide +kernel
theorem d_cX4_addNamed_1 : decode cX4_addNamed 1 = .ok (.aload_n 1, 1) := by decide +kernel
theorem d_cX4_addNamed_2 : decode cX4_addNamed 2 = .ok (.invokevirtual 32, 3) := by decide +kernel
theorem w_6_165 : (Jvm.Cond.methodLink "SpillForge$Listing" (32 : Nat) ({ cls := "SpillForge$Listing", name := "addText", desc := "(Ljava/lang/String;)V" } : Jvm.MethodName)) ∈ gw := gw_6 165 rfl rfl
theorem w_6_168 : (Jvm.Cond.code ({ cls := "SpillForge$Listing", name := "addText", desc := "(Ljava/lang/String;)V" } : Jvm.MethodName) prog_6_method_11_code (3 : Nat) (Option.none : Option Jvm.ClassFile.FieldType)) ∈ gw := gw_6 168 rfl rfl
theorem w_6_167 : (Jvm.Cond.instanceMethod ({ cls := "SpillForge$Listing", name := "addText", desc := "(Ljava/lang/String;)V" } : Jvm.MethodName)) ∈ gw := gw_6 167 rfl rfl
theorem w_p_65 : Cond.selects "SpillForge$Listing" ⟨"SpillForge$Listing", "addText", "(Ljava/lang/String;)V"⟩ ⟨"SpillForge$Listing", "addText", "(Ljava/lang/String;)V"⟩ ∈ gw := gw_p _ 65 rfl rfl rfl
theorem d_cX4_addNamed_5 : decode cX4_addNamed 5 = .ok (.aload_n 0, 1) := by decide +kernel
theorem d_cX4_addNamed_6 : decode cX4_addNamed 6 = .ok (.iload_n 2, 1) := by decide +kernel
theorem d_cX4_addNamed_7 : decode cX4_addNamed 7 = .ok (.invokevirtual 119, 3) := by decide +kernel
theorem w_6_175 : (Jvm.Cond.methodLink "SpillForge$Listing" (119 : Nat) ({ cls := "SpillForge$Listing", name := "addNumber", desc := "(I)V" } : Jvm.MethodName)) ∈ gw := gw_6 175 rfl rfl
theorem w_6_178 : (Jvm.Cond.code ({ cls := "SpillForge$Listing", name := "addNumber", desc := "(I)V" } : Jvm.MethodName) prog_6_method_12_code (7 : Nat) (Option.none : Option Jvm.ClassFile.FieldType)) ∈ gw := gw_6 178 rfl rfl
theorem w_6_177 : (Jvm.Cond.instanceMethod ({ cls := "SpillForge$Listing", name := "addNumber", desc := "(I)V" } : Jvm.MethodName)) ∈ gw := gw_6 177 rfl rfl
theorem w_p_67 : Cond.selects "SpillForge$Listing" ⟨"SpillForge$Listing", "addNumber", "(I)V"⟩ ⟨"SpillForge$Listing", "addNumber", "(I)V"⟩ ∈ gw := gw_p _ 67 rfl rfl rfl
theorem d_cX4_addNamed_10 : decode cX4_addNamed 10 = .ok (.return_, 1) := by decide +kernel
theorem d_cX4_addOperand_0 : decode cX4_addOperand 0 = .ok (.iload_n 1, 1) := by decide +kernel
theorem d_cX4_addOperand_1 : decode cX4_addOperand 1 = .ok (.iconst (-1), 1) := by decide +kernel
theorem d_cX4_addOperand_2 : decode cX4_addOperand 2 = .ok (.if_icmp .ne 11, 3) := by decide +kernel
theorem d_cX4_addOperand_13 : decode cX4_addOperand 13 = .ok (.aload_n 0, 1) := by decide +kernel
theorem d_cX4_addOperand_14 : decode cX4_addOperand 14 = .ok (.ldc 92, 2) := by decide +kernel
theorem d_cX4_addOperand_16 : decode cX4_addOperand 16 = .ok (.iload_n 1, 1) := by decide +kernel
theorem d_cX4_addOperand_17 : decode cX4_addOperand 17 = .ok (.invokevirtual 26, 3) := by decide +kernel
theorem w_6_161 : (Jvm.Cond.methodLink "SpillForge$Listing" (26 : Nat) ({ cls := "SpillForge$Listing", name := "addNamed", desc := "(Ljava/lang/String;I)V" } : Jvm.MethodName)) ∈ gw := gw_6 161 rfl rfl
theorem w_6_164 : (Jvm.Cond.code ({ cls := "SpillForge$Listing", name := "addNamed", desc := "(Ljava/lang/String;I)V" } : Jvm.MethodName) prog_6_method_10_code (3 : Nat) (Option.none : Option Jvm.ClassFile.FieldType)) ∈ gw := gw_6 164 rfl rfl
theorem w_6_163 : (Jvm.Cond.instanceMethod ({ cls := "SpillForge$Listing", name := "addNamed", desc := "(Ljava/lang/String;I)V" } : Jvm.MethodName)) ∈ gw := gw_6 163 rfl rfl
theorem w_p_64 : Cond.selects "SpillForge$Listing" ⟨"SpillForge$Listing", "addNamed", "(Ljava/lang/String;I)V"⟩ ⟨"SpillForge$Listing", "addNamed", "(Ljava/lang/String;I)V"⟩ ∈ gw := gw_p _ 64 rfl rfl rfl
theorem d_cX4_addOperand_20 : decode cX4_addOperand 20 = .ok (.return_, 1) := by decide +kernel
theorem d_cX4_addOperand_5 : decode cX4_addOperand 5 = .ok (.aload_n 0, 1) := by decide +kernel
theorem d_cX4_addOperand_6 : decode cX4_addOperand 6 = .ok (.iload_n 2, 1) := by decide +kernel
theorem d_cX4_addOperand_7 : decode cX4_addOperand 7 = .ok (.invokevirtual 119, 3) := by decide +kernel
theorem d_cX4_addOperand_10 : decode cX4_addOperand 10 = .ok (.goto 10, 3) := by decide +kernel
theorem d_cX4_addOp_0 : decode cX4_addOp 0 = .ok (.aload_n 0, 1) := by decide +kernel
theorem d_cX4_addOp_1 : decode cX4_addOp 1 = .ok (.bipush 32, 2) := by decide +kernel
theorem d_cX4_addOp_3 : decode cX4_addOp 3 = .ok (.invokevirtual 55, 3) := by decide +kernel
theorem d_cX4_addOp_6 : decode cX4_addOp 6 = .ok (.aload_n 0, 1) := by decide +kernel
theorem d_cX4_addOp_7 : decode cX4_addOp 7 = .ok (.ldc 111, 2) := by decide +kernel
theorem d_cX4_addOp_9 : decode cX4_addOp 9 = .ok (.iconst 2, 1) := by decide +kernel
theorem d_cX4_addOp_10 : decode cX4_addOp 10 = .ok (.iload_n 1, 1) := by decide +kernel
theorem d_cX4_addOp_11 : decode cX4_addOp 11 = .ok (.imul, 1) := by decide +kernel
theorem d_cX4_addOp_12 : decode cX4_addOp 12 = .ok (.invokevirtual 113, 3) := by decide +kernel
theorem d_cX4_addOp_15 : decode cX4_addOp 15 = .ok (.invokevirtual 55, 3) := by decide +kernel
theorem d_cX4_addOp_18 : decode cX4_addOp 18 = .ok (.ldc 111, 2) := by decide +kernel
theorem d_cX4_addOp_20 : decode cX4_addOp 20 = .ok (.iconst 2, 1) := by decide +kernel
theorem d_cX4_addOp_21 : decode cX4_addOp 21 = .ok (.iload_n 1, 1) := by decide +kernel
theorem d_cX4_addOp_22 : decode cX4_addOp 22 = .ok (.imul, 1) := by decide +kernel
theorem d_cX4_addOp_23 : decode cX4_addOp 23 = .ok (.iconst 1, 1) := by decide +kernel
theorem d_cX4_addOp_24 : decode cX4_addOp 24 = .ok (.iadd, 1) := by decide +kernel
theorem d_cX4_addOp_25 : decode cX4_addOp 25 = .ok (.invokevirtual 113, 3) := by decide +kernel
theorem d_cX4_addOp_28 : decode cX4_addOp 28 = .ok (.bipush 32, 2) := by decide +kernel
theorem d_cX4_addOp_30 : decode cX4_addOp 30 = .ok (.if_icmp .eq 17, 3) := by decide +kernel
theorem d_cX4_addOp_47 : decode cX4_addOp 47 = .ok (.aload_n 0, 1) := by decide +kernel
theorem d_cX4_addOp_48 : decode cX4_addOp 48 = .ok (.bipush 32, 2) := by decide +kernel
theorem d_cX4_addOp_50 : decode cX4_addOp 50 = .ok (.invokevirtual 55, 3) := by decide +kernel
theorem d_cX4_addOp_53 : decode cX4_addOp 53 = .ok (.return_, 1) := by decide +kernel
theorem d_cX4_addOp_33 : decode cX4_addOp 33 = .ok (.aload_n 0, 1) := by decide +kernel
theorem d_cX4_addOp_34 : decode cX4_addOp 34 = .ok (.ldc 111, 2) := by decide +kernel
theorem d_cX4_addOp_36 : decode cX4_addOp 36 = .ok (.iconst 2, 1) := by decide +kernel
theorem d_cX4_addOp_37 : decode cX4_addOp 37 = .ok (.iload_n 1, 1) := by decide +kernel
theorem d_cX4_addOp_38 : decode cX4_addOp 38 = .ok (.imul, 1) := by decide +kernel
theorem d_cX4_addOp_39 : decode cX4_addOp 39 = .ok (.iconst 1, 1) := by decide +kernel
theorem d_cX4_addOp_40 : decode cX4_addOp 40 = .ok (.iadd, 1) := by decide +kernel
theorem d_cX4_addOp_41 : decode cX4_addOp 41 = .ok (.invokevirtual 113, 3) := by decide +kernel
theorem d_cX4_addOp_44 : decode cX4_addOp 44 = .ok (.invokevirtual 55, 3) := by decide +kernel
theorem d_cX4_addSource_0 : decode cX4_addSource 0 = .ok (.aload_n 1, 1) := by decide +kernel
theorem d_cX4_addSource_1 : decode cX4_addSource 1 = .ok (.getfield 44, 3) := by decide +kernel
theorem d_cX4_addSource_4 : decode cX4_addSource 4 = .ok (.iload_n 2, 1) := by decide +kernel
theorem d_cX4_addSource_5 : decode cX4_addSource 5 = .ok (.iaload, 1) := by decide +kernel
theorem d_cX4_addSource_6 : decode cX4_addSource 6 = .ok (.bipush 15, 2) := by decide +kernel
theorem d_cX4_addSource_8 : decode cX4_addSource 8 = .ok (.if_icmp .ne 12, 3) := by decide +kernel
theorem d_cX4_addSource_20 : decode cX4_addSource 20 = .ok (.aload_n 1, 1) := by decide +kernel
theorem d_cX4_addSource_21 : decode cX4_addSource 21 = .ok (.getfield 44, 3) := by decide +kernel
theorem d_cX4_addSource_24 : decode cX4_addSource 24 = .ok (.iload_n 2, 1) := by decide +kernel
theorem d_cX4_addSource_25 : decode cX4_addSource 25 = .ok (.iaload, 1) := by decide +kernel
theorem d_cX4_addSource_26 : decode cX4_addSource 26 = .ok (.bipush 17, 2) := by decide +kernel
theorem d_cX4_addSource_28 : decode cX4_addSource 28 = .ok (.if_icmp .ne 18, 3) := by decide +kernel
theorem d_cX4_addSource_46 : decode cX4_addSource 46 = .ok (.aload_n 0, 1) := by decide +kernel
theorem d_cX4_addSource_47 : decode cX4_addSource 47 = .ok (.aload_n 1, 1) := by decide +kernel
theorem d_cX4_addSource_48 : decode cX4_addSource 48 = .ok (.getfield 61, 3) := by decide +kernel
theorem d_cX4_addSource_51 : decode cX4_addSource 51 = .ok (.iload_n 2, 1) := by decide +kernel
theorem d_cX4_addSource_52 : decode cX4_addSource 52 = .ok (.iaload, 1) := by decide +kernel
theorem d_cX4_addSource_53 : decode cX4_addSource 53 = .ok (.aload_n 1, 1) := by decide +kernel
theorem d_cX4_addSource_54 : decode cX4_addSource 54 = .ok (.getfield 64, 3) := by decide +kernel
theorem d_cX4_addSource_57 : decode cX4_addSource 57 = .ok (.iload_n 2, 1) := by decide +kernel
theorem d_cX4_addSource_58 : decode cX4_addSource 58 = .ok (.iaload, 1) := by decide +kernel
theorem d_cX4_addSource_59 : decode cX4_addSource 59 = .ok (.invokevirtual 67, 3) := by decide +kernel
theorem w_6_191 : (Jvm.Cond.methodLink "SpillForge$Listing" (67 : Nat) ({ cls := "SpillForge$Listing", name := "addOperand", desc := "(II)V" } : Jvm.MethodName)) ∈ gw := gw_6 191 rfl rfl
theorem w_6_194 : (Jvm.Cond.code ({ cls := "SpillForge$Listing", name := "addOperand", desc := "(II)V" } : Jvm.MethodName) prog_6_method_9_code (3 : Nat) (Option.none : Option Jvm.ClassFile.FieldType)) ∈ gw := gw_6 194 rfl rfl
theorem w_6_193 : (Jvm.Cond.instanceMethod ({ cls := "SpillForge$Listing", name := "addOperand", desc := "(II)V" } : Jvm.MethodName)) ∈ gw := gw_6 193 rfl rfl
theorem w_p_69 : Cond.selects "SpillForge$Listing" ⟨"SpillForge$Listing", "addOperand", "(II)V"⟩ ⟨"SpillForge$Listing", "addOperand", "(II)V"⟩ ∈ gw := gw_p _ 69 rfl rfl rfl
theorem d_cX4_addSource_62 : decode cX4_addSource 62 = .ok (.aload_n 1, 1) := by decide +kernel
theorem d_cX4_addSource_63 : decode cX4_addSource 63 = .ok (.getfield 44, 3) := by decide +kernel
theorem d_cX4_addSource_66 : decode cX4_addSource 66 = .ok (.iload_n 2, 1) := by decide +kernel
theorem d_cX4_addSource_67 : decode cX4_addSource 67 = .ok (.iaload, 1) := by decide +kernel
theorem d_cX4_addSource_68 : decode cX4_addSource 68 = .ok (.bipush 14, 2) := by decide +kernel
theorem d_cX4_addSource_70 : decode cX4_addSource 70 = .ok (.if_icmp .ge 29, 3) := by decide +kernel
theorem d_cX4_addSource_99 : decode cX4_addSource 99 = .ok (.return_, 1) := by decide +kernel
theorem d_cX4_addSource_73 : decode cX4_addSource 73 = .ok (.aload_n 0, 1) := by decide +kernel
theorem d_cX4_addSource_74 : decode cX4_addSource 74 = .ok (.aload_n 1, 1) := by decide +kernel
theorem d_cX4_addSource_75 : decode cX4_addSource 75 = .ok (.getfield 44, 3) := by decide +kernel
theorem d_cX4_addSource_78 : decode cX4_addSource 78 = .ok (.iload_n 2, 1) := by decide +kernel
theorem d_cX4_addSource_79 : decode cX4_addSource 79 = .ok (.iaload, 1) := by decide +kernel
theorem d_cX4_addSource_80 : decode cX4_addSource 80 = .ok (.invokevirtual 104, 3) := by decide +kernel
theorem w_6_212 : (Jvm.Cond.methodLink "SpillForge$Listing" (104 : Nat) ({ cls := "SpillForge$Listing", name := "addOp", desc := "(I)V" } : Jvm.MethodName)) ∈ gw := gw_6 212 rfl rfl
theorem w_6_215 : (Jvm.Cond.code ({ cls := "SpillForge$Listing", name := "addOp", desc := "(I)V" } : Jvm.MethodName) prog_6_method_8_code (2 : Nat) (Option.none : Option Jvm.ClassFile.FieldType)) ∈ gw := gw_6 215 rfl rfl
theorem w_6_214 : (Jvm.Cond.instanceMethod ({ cls := "SpillForge$Listing", name := "addOp", desc := "(I)V" } : Jvm.MethodName)) ∈ gw := gw_6 214 rfl rfl
theorem w_p_72 : Cond.selects "SpillForge$Listing" ⟨"SpillForge$Listing", "addOp", "(I)V"⟩ ⟨"SpillForge$Listing", "addOp", "(I)V"⟩ ∈ gw := gw_p _ 72 rfl rfl rfl
theorem d_cX4_addSource_83 : decode cX4_addSource 83 = .ok (.aload_n 0, 1) := by decide +kernel
theorem d_cX4_addSource_84 : decode cX4_addSource 84 = .ok (.aload_n 1, 1) := by decide +kernel
theorem d_cX4_addSource_85 : decode cX4_addSource 85 = .ok (.getfield 108, 3) := by decide +kernel
theorem d_cX4_addSource_88 : decode cX4_addSource 88 = .ok (.iload_n 2, 1) := by decide +kernel
theorem d_cX4_addSource_89 : decode cX4_addSource 89 = .ok (.iaload, 1) := by decide +kernel
theorem d_cX4_addSource_90 : decode cX4_addSource 90 = .ok (.aload_n 1, 1) := by decide +kernel
theorem d_cX4_addSource_91 : decode cX4_addSource 91 = .ok (.getfield 87, 3) := by decide +kernel
theorem d_cX4_addSource_94 : decode cX4_addSource 94 = .ok (.iload_n 2, 1) := by decide +kernel
theorem d_cX4_addSource_95 : decode cX4_addSource 95 = .ok (.iaload, 1) := by decide +kernel
theorem d_cX4_addSource_96 : decode cX4_addSource 96 = .ok (.invokevirtual 67, 3) := by decide +kernel
theorem d_cX4_addSource_31 : decode cX4_addSource 31 = .ok (.aload_n 0, 1) := by decide +kernel
theorem d_cX4_addSource_32 : decode cX4_addSource 32 = .ok (.ldc 85, 2) := by decide +kernel
theorem d_cX4_addSource_34 : decode cX4_addSource 34 = .ok (.aload_n 1, 1) := by decide +kernel
theorem d_cX4_addSource_35 : decode cX4_addSource 35 = .ok (.getfield 87, 3) := by decide +kernel
theorem d_cX4_addSource_38 : decode cX4_addSource 38 = .ok (.iload_n 2, 1) := by decide +kernel
theorem d_cX4_addSource_39 : decode cX4_addSource 39 = .ok (.iaload, 1) := by decide +kernel
theorem d_cX4_addSource_40 : decode cX4_addSource 40 = .ok (.invokevirtual 26, 3) := by decide +kernel
theorem d_cX4_addSource_43 : decode cX4_addSource 43 = .ok (.goto 56, 3) := by decide +kernel
theorem d_cX4_addSource_11 : decode cX4_addSource 11 = .ok (.aload_n 0, 1) := by decide +kernel
theorem d_cX4_addSource_12 : decode cX4_addSource 12 = .ok (.ldc 102, 2) := by decide +kernel
theorem d_cX4_addSource_14 : decode cX4_addSource 14 = .ok (.invokevirtual 32, 3) := by decide +kernel
theorem d_cX4_addSource_17 : decode cX4_addSource 17 = .ok (.goto 82, 3) := by decide +kernel
theorem d_cX4_addRow_0 : decode cX4_addRow 0 = .ok (.aload_n 1, 1) := by decide +kernel
theorem d_cX4_addRow_1 : decode cX4_addRow 1 = .ok (.getfield 44, 3) := by decide +kernel
theorem d_cX4_addRow_4 : decode cX4_addRow 4 = .ok (.iload_n 2, 1) := by decide +kernel
theorem d_cX4_addRow_5 : decode cX4_addRow 5 = .ok (.iaload, 1) := by decide +kernel
theorem d_cX4_addRow_6 : decode cX4_addRow 6 = .ok (.bipush 16, 2) := by decide +kernel
theorem d_cX4_addRow_8 : decode cX4_addRow 8 = .ok (.if_icmp .ne 28, 3) := by decide +kernel
theorem d_cX4_addRow_36 : decode cX4_addRow 36 = .ok (.aload_n 1, 1) := by decide +kernel
theorem d_cX4_addRow_37 : decode cX4_addRow 37 = .ok (.getfield 44, 3) := by decide +kernel
theorem d_cX4_addRow_40 : decode cX4_addRow 40 = .ok (.iload_n 2, 1) := by decide +kernel
theorem d_cX4_addRow_41 : decode cX4_addRow 41 = .ok (.iaload, 1) := by decide +kernel
theorem d_cX4_addRow_42 : decode cX4_addRow 42 = .ok (.bipush 18, 2) := by decide +kernel
theorem d_cX4_addRow_44 : decode cX4_addRow 44 = .ok (.if_icmp .ne 30, 3) := by decide +kernel
theorem d_cX4_addRow_74 : decode cX4_addRow 74 = .ok (.aload_n 0, 1) := by decide +kernel
theorem d_cX4_addRow_75 : decode cX4_addRow 75 = .ok (.ldc 92, 2) := by decide +kernel
theorem d_cX4_addRow_77 : decode cX4_addRow 77 = .ok (.aload_n 1, 1) := by decide +kernel
theorem d_cX4_addRow_78 : decode cX4_addRow 78 = .ok (.getfield 94, 3) := by decide +kernel
theorem d_cX4_addRow_81 : decode cX4_addRow 81 = .ok (.iload_n 2, 1) := by decide +kernel
theorem d_cX4_addRow_82 : decode cX4_addRow 82 = .ok (.iaload, 1) := by decide +kernel
theorem d_cX4_addRow_83 : decode cX4_addRow 83 = .ok (.invokevirtual 26, 3) := by decide +kernel
theorem d_cX4_addRow_86 : decode cX4_addRow 86 = .ok (.aload_n 0, 1) := by decide +kernel
theorem d_cX4_addRow_87 : decode cX4_addRow 87 = .ok (.ldc 97, 2) := by decide +kernel
theorem d_cX4_addRow_89 : decode cX4_addRow 89 = .ok (.invokevirtual 32, 3) := by decide +kernel
theorem d_cX4_addRow_92 : decode cX4_addRow 92 = .ok (.aload_n 0, 1) := by decide +kernel
theorem d_cX4_addRow_93 : decode cX4_addRow 93 = .ok (.aload_n 1, 1) := by decide +kernel
theorem d_cX4_addRow_94 : decode cX4_addRow 94 = .ok (.iload_n 2, 1) := by decide +kernel
theorem d_cX4_addRow_95 : decode cX4_addRow 95 = .ok (.invokevirtual 99, 3) := by decide +kernel
theorem w_6_207 : (Jvm.Cond.methodLink "SpillForge$Listing" (99 : Nat) ({ cls := "SpillForge$Listing", name := "addSource", desc := "(LSpillForge$Code;I)V" } : Jvm.MethodName)) ∈ gw := gw_6 207 rfl rfl
theorem w_6_210 : (Jvm.Cond.code ({ cls := "SpillForge$Listing", name := "addSource", desc := "(LSpillForge$Code;I)V" } : Jvm.MethodName) prog_6_method_7_code (3 : Nat) (Option.none : Option Jvm.ClassFile.FieldType)) ∈ gw := gw_6 210 rfl rfl
theorem w_6_209 : (Jvm.Cond.instanceMethod ({ cls := "SpillForge$Listing", name := "addSource", desc := "(LSpillForge$Code;I)V" } : Jvm.MethodName)) ∈ gw := gw_6 209 rfl rfl
theorem w_p_71 : Cond.selects "SpillForge$Listing" ⟨"SpillForge$Listing", "addSource", "(LSpillForge$Code;I)V"⟩ ⟨"SpillForge$Listing", "addSource", "(LSpillForge$Code;I)V"⟩ ∈ gw := gw_p _ 71 rfl rfl rfl
theorem d_cX4_addRow_98 : decode cX4_addRow 98 = .ok (.return_, 1) := by decide +kernel
theorem d_cX4_addRow_47 : decode cX4_addRow 47 = .ok (.aload_n 0, 1) := by decide +kernel
theorem d_cX4_addRow_48 : decode cX4_addRow 48 = .ok (.ldc 85, 2) := by decide +kernel
theorem d_cX4_addRow_50 : decode cX4_addRow 50 = .ok (.aload_n 1, 1) := by decide +kernel
theorem d_cX4_addRow_51 : decode cX4_addRow 51 = .ok (.getfield 87, 3) := by decide +kernel
theorem d_cX4_addRow_54 : decode cX4_addRow 54 = .ok (.iload_n 2, 1) := by decide +kernel
theorem d_cX4_addRow_55 : decode cX4_addRow 55 = .ok (.iaload, 1) := by decide +kernel
theorem d_cX4_addRow_56 : decode cX4_addRow 56 = .ok (.invokevirtual 26, 3) := by decide +kernel
theorem d_cX4_addRow_59 : decode cX4_addRow 59 = .ok (.aload_n 0, 1) := by decide +kernel
theorem d_cX4_addRow_60 : decode cX4_addRow 60 = .ok (.ldc 90, 2) := by decide +kernel
theorem d_cX4_addRow_62 : decode cX4_addRow 62 = .ok (.aload_n 1, 1) := by decide +kernel
theorem d_cX4_addRow_63 : decode cX4_addRow 63 = .ok (.getfield 61, 3) := by decide +kernel
theorem d_cX4_addRow_66 : decode cX4_addRow 66 = .ok (.iload_n 2, 1) := by decide +kernel
theorem d_cX4_addRow_67 : decode cX4_addRow 67 = .ok (.iaload, 1) := by decide +kernel
theorem d_cX4_addRow_68 : decode cX4_addRow 68 = .ok (.invokevirtual 26, 3) := by decide +kernel
theorem d_cX4_addRow_71 : decode cX4_addRow 71 = .ok (.goto 27, 3) := by decide +kernel
theorem d_cX4_addRow_11 : decode cX4_addRow 11 = .ok (.aload_n 0, 1) := by decide +kernel
theorem d_cX4_addRow_12 : decode cX4_addRow 12 = .ok (.ldc 83, 2) := by decide +kernel
theorem d_cX4_addRow_14 : decode cX4_addRow 14 = .ok (.invokevirtual 32, 3) := by decide +kernel
theorem d_cX4_addRow_17 : decode cX4_addRow 17 = .ok (.aload_n 0, 1) := by decide +kernel
theorem d_cX4_addRow_18 : decode cX4_addRow 18 = .ok (.aload_n 1, 1) := by decide +kernel
theorem d_cX4_addRow_19 : decode cX4_addRow 19 = .ok (.getfield 61, 3) := by decide +kernel
theorem d_cX4_addRow_22 : decode cX4_addRow 22 = .ok (.iload_n 2, 1) := by decide +kernel
theorem d_cX4_addRow_23 : decode cX4_addRow 23 = .ok (.iaload, 1) := by decide +kernel
theorem d_cX4_addRow_24 : decode cX4_addRow 24 = .ok (.aload_n 1, 1) := by decide +kernel
theorem d_cX4_addRow_25 : decode cX4_addRow 25 = .ok (.getfield 64, 3) := by decide +kernel
theorem d_cX4_addRow_28 : decode cX4_addRow 28 = .ok (.iload_n 2, 1) := by decide +kernel
theorem d_cX4_addRow_29 : decode cX4_addRow 29 = .ok (.iaload, 1) := by decide +kernel
theorem d_cX4_addRow_30 : decode cX4_addRow 30 = .ok (.invokevirtual 67, 3) := by decide +kernel
theorem d_cX4_addRow_33 : decode cX4_addRow 33 = .ok (.goto 65, 3) := by decide +kernel
theorem d_cX4_addEnd_0 : decode cX4_addEnd 0 = .ok (.aload_n 1, 1) := by decide +kernel
theorem d_cX4_addEnd_1 : decode cX4_addEnd 1 = .ok (.getfield 44, 3) := by decide +kernel
theorem d_cX4_addEnd_4 : decode cX4_addEnd 4 = .ok (.iload_n 3, 1) := by decide +kernel
theorem d_cX4_addEnd_5 : decode cX4_addEnd 5 = .ok (.iaload, 1) := by decide +kernel
theorem d_cX4_addEnd_6 : decode cX4_addEnd 6 = .ok (.bipush 21, 2) := by decide +kernel
theorem d_cX4_addEnd_8 : decode cX4_addEnd 8 = .ok (.if_icmp .ne 28, 3) := by decide +kernel
theorem d_cX4_addEnd_36 : decode cX4_addEnd 36 = .ok (.aload_n 1, 1) := by decide +kernel
theorem d_cX4_addEnd_37 : decode cX4_addEnd 37 = .ok (.getfield 44, 3) := by decide +kernel
theorem d_cX4_addEnd_40 : decode cX4_addEnd 40 = .ok (.iload_n 3, 1) := by decide +kernel
theorem d_cX4_addEnd_41 : decode cX4_addEnd 41 = .ok (.iaload, 1) := by decide +kernel
theorem d_cX4_addEnd_42 : decode cX4_addEnd 42 = .ok (.bipush 19, 2) := by decide +kernel
theorem d_cX4_addEnd_44 : decode cX4_addEnd 44 = .ok (.if_icmp .ne 18, 3) := by decide +kernel
theorem d_cX4_addEnd_62 : decode cX4_addEnd 62 = .ok (.aload_n 0, 1) := by decide +kernel
theorem d_cX4_addEnd_63 : decode cX4_addEnd 63 = .ok (.ldc 76, 2) := by decide +kernel
theorem d_cX4_addEnd_65 : decode cX4_addEnd 65 = .ok (.invokevirtual 32, 3) := by decide +kernel
theorem d_cX4_addEnd_68 : decode cX4_addEnd 68 = .ok (.aload_n 0, 1) := by decide +kernel
theorem d_cX4_addEnd_69 : decode cX4_addEnd 69 = .ok (.aload_n 1, 1) := by decide +kernel
theorem d_cX4_addEnd_70 : decode cX4_addEnd 70 = .ok (.getfield 61, 3) := by decide +kernel
theorem d_cX4_addEnd_73 : decode cX4_addEnd 73 = .ok (.iload_n 3, 1) := by decide +kernel
theorem d_cX4_addEnd_74 : decode cX4_addEnd 74 = .ok (.iaload, 1) := by decide +kernel
theorem d_cX4_addEnd_75 : decode cX4_addEnd 75 = .ok (.aload_n 1, 1) := by decide +kernel
theorem d_cX4_addEnd_76 : decode cX4_addEnd 76 = .ok (.getfield 64, 3) := by decide +kernel
theorem d_cX4_addEnd_79 : decode cX4_addEnd 79 = .ok (.iload_n 3, 1) := by decide +kernel
theorem d_cX4_addEnd_80 : decode cX4_addEnd 80 = .ok (.iaload, 1) := by decide +kernel
theorem d_cX4_addEnd_81 : decode cX4_addEnd 81 = .ok (.invokevirtual 67, 3) := by decide +kernel
theorem d_cX4_addEnd_84 : decode cX4_addEnd 84 = .ok (.aload_n 0, 1) := by decide +kernel
theorem d_cX4_addEnd_85 : decode cX4_addEnd 85 = .ok (.ldc 78, 2) := by decide +kernel
theorem d_cX4_addEnd_87 : decode cX4_addEnd 87 = .ok (.aload_n 1, 1) := by decide +kernel
theorem d_cX4_addEnd_88 : decode cX4_addEnd 88 = .ok (.getfield 73, 3) := by decide +kernel
theorem d_cX4_addEnd_91 : decode cX4_addEnd 91 = .ok (.iload_n 2, 1) := by decide +kernel
theorem d_cX4_addEnd_92 : decode cX4_addEnd 92 = .ok (.iaload, 1) := by decide +kernel
theorem d_cX4_addEnd_93 : decode cX4_addEnd 93 = .ok (.invokevirtual 26, 3) := by decide +kernel
theorem d_cX4_addEnd_96 : decode cX4_addEnd 96 = .ok (.aload_n 0, 1) := by decide +kernel
theorem d_cX4_addEnd_97 : decode cX4_addEnd 97 = .ok (.ldc 78, 2) := by decide +kernel
theorem d_cX4_addEnd_99 : decode cX4_addEnd 99 = .ok (.aload_n 1, 1) := by decide +kernel
theorem d_cX4_addEnd_100 : decode cX4_addEnd 100 = .ok (.getfield 80, 3) := by decide +kernel
theorem d_cX4_addEnd_103 : decode cX4_addEnd 103 = .ok (.iload_n 2, 1) := by decide +kernel
theorem d_cX4_addEnd_104 : decode cX4_addEnd 104 = .ok (.iaload, 1) := by decide +kernel
theorem d_cX4_addEnd_105 : decode cX4_addEnd 105 = .ok (.invokevirtual 26, 3) := by decide +kernel
theorem d_cX4_addEnd_108 : decode cX4_addEnd 108 = .ok (.return_, 1) := by decide +kernel
theorem d_cX4_addEnd_47 : decode cX4_addEnd 47 = .ok (.aload_n 0, 1) := by decide +kernel
theorem d_cX4_addEnd_48 : decode cX4_addEnd 48 = .ok (.ldc 71, 2) := by decide +kernel
theorem d_cX4_addEnd_50 : decode cX4_addEnd 50 = .ok (.aload_n 1, 1) := by decide +kernel
theorem d_cX4_addEnd_51 : decode cX4_addEnd 51 = .ok (.getfield 73, 3) := by decide +kernel
theorem d_cX4_addEnd_54 : decode cX4_addEnd 54 = .ok (.iload_n 2, 1) := by decide +kernel
theorem d_cX4_addEnd_55 : decode cX4_addEnd 55 = .ok (.iaload, 1) := by decide +kernel
theorem d_cX4_addEnd_56 : decode cX4_addEnd 56 = .ok (.invokevirtual 26, 3) := by decide +kernel
theorem d_cX4_addEnd_59 : decode cX4_addEnd 59 = .ok (.goto 49, 3) := by decide +kernel
theorem d_cX4_addEnd_11 : decode cX4_addEnd 11 = .ok (.aload_n 0, 1) := by decide +kernel
theorem d_cX4_addEnd_12 : decode cX4_addEnd 12 = .ok (.ldc 59, 2) := by decide +kernel
theorem d_cX4_addEnd_14 : decode cX4_addEnd 14 = .ok (.invokevirtual 32, 3) := by decide +kernel
theorem d_cX4_addEnd_17 : decode cX4_addEnd 17 = .ok (.aload_n 0, 1) := by decide +kernel
theorem d_cX4_addEnd_18 : decode cX4_addEnd 18 = .ok (.aload_n 1, 1) := by decide +kernel
theorem d_cX4_addEnd_19 : decode cX4_addEnd 19 = .ok (.getfield 61, 3) := by decide +kernel
theorem d_cX4_addEnd_22 : decode cX4_addEnd 22 = .ok (.iload_n 3, 1) := by decide +kernel
theorem d_cX4_addEnd_23 : decode cX4_addEnd 23 = .ok (.iaload, 1) := by decide +kernel
theorem d_cX4_addEnd_24 : decode cX4_addEnd 24 = .ok (.aload_n 1, 1) := by decide +kernel
theorem d_cX4_addEnd_25 : decode cX4_addEnd 25 = .ok (.getfield 64, 3) := by decide +kernel
theorem d_cX4_addEnd_28 : decode cX4_addEnd 28 = .ok (.iload_n 3, 1) := by decide +kernel
theorem d_cX4_addEnd_29 : decode cX4_addEnd 29 = .ok (.iaload, 1) := by decide +kernel
theorem d_cX4_addEnd_30 : decode cX4_addEnd 30 = .ok (.invokevirtual 67, 3) := by decide +kernel
theorem d_cX4_addEnd_33 : decode cX4_addEnd 33 = .ok (.goto 75, 3) := by decide +kernel
theorem d_cX4_write_0 : decode cX4_write 0 = .ok (.aload_n 0, 1) := by decide +kernel
theorem d_cX4_write_1 : decode cX4_write 1 = .ok (.iconst 0, 1) := by decide +kernel
theorem d_cX4_write_2 : decode cX4_write 2 = .ok (.putfield 15, 3) := by decide +kernel
theorem d_cX4_write_5 : decode cX4_write 5 = .ok (.iconst 0, 1) := by decide +kernel
theorem d_cX4_write_6 : decode cX4_write 6 = .ok (.istore_n 2, 1) := by decide +kernel
theorem d_cX4_write_7 : decode cX4_write 7 = .ok (.iload_n 2, 1) := by decide +kernel
theorem d_cX4_write_8 : decode cX4_write 8 = .ok (.aload_n 1, 1) := by decide +kernel
theorem d_cX4_write_9 : decode cX4_write 9 = .ok (.getfield 19, 3) := by decide +kernel
theorem d_cX4_write_12 : decode cX4_write 12 = .ok (.if_icmp .ge 77, 3) := by decide +kernel
theorem d_cX4_write_89 : decode cX4_write 89 = .ok (.return_, 1) := by decide +kernel
theorem d_cX4_write_15 : decode cX4_write 15 = .ok (.aload_n 0, 1) := by decide +kernel
theorem d_cX4_write_16 : decode cX4_write 16 = .ok (.ldc 24, 2) := by decide +kernel
theorem d_cX4_write_18 : decode cX4_write 18 = .ok (.iload_n 2, 1) := by decide +kernel
theorem d_cX4_write_19 : decode cX4_write 19 = .ok (.invokevirtual 26, 3) := by decide +kernel
theorem d_cX4_write_22 : decode cX4_write 22 = .ok (.aload_n 0, 1) := by decide +kernel
theorem d_cX4_write_23 : decode cX4_write 23 = .ok (.ldc 30, 2) := by decide +kernel
theorem d_cX4_write_25 : decode cX4_write 25 = .ok (.invokevirtual 32, 3) := by decide +kernel
theorem d_cX4_write_28 : decode cX4_write 28 = .ok (.aload_n 1, 1) := by decide +kernel
theorem d_cX4_write_29 : decode cX4_write 29 = .ok (.getfield 36, 3) := by decide +kernel
theorem d_cX4_write_32 : decode cX4_write 32 = .ok (.iload_n 2, 1) := by decide +kernel
theorem d_cX4_write_33 : decode cX4_write 33 = .ok (.iaload, 1) := by decide +kernel
theorem d_cX4_write_34 : decode cX4_write 34 = .ok (.istore_n 3, 1) := by decide +kernel
theorem d_cX4_write_35 : decode cX4_write 35 = .ok (.iload_n 3, 1) := by decide +kernel
theorem d_cX4_write_36 : decode cX4_write 36 = .ok (.aload_n 1, 1) := by decide +kernel
theorem d_cX4_write_37 : decode cX4_write 37 = .ok (.iload_n 2, 1) := by decide +kernel
theorem d_cX4_write_38 : decode cX4_write 38 = .ok (.invokevirtual 40, 3) := by decide +kernel
theorem w_6_185 : (Jvm.Cond.methodLink "SpillForge$Listing" (40 : Nat) ({ cls := "SpillForge$Code", name := "blockEnd", desc := "(I)I" } : Jvm.MethodName)) ∈ gw := gw_6 185 rfl rfl
theorem w_4_38 : (Jvm.Cond.code ({ cls := "SpillForge$Code", name := "blockEnd", desc := "(I)I" } : Jvm.MethodName) prog_2_method_4_code (2 : Nat) (Option.some Jvm.ClassFile.FieldType.int)) ∈ gw := gw_4 38 rfl rfl
theorem w_4_36 : (Jvm.Cond.instanceMethod ({ cls := "SpillForge$Code", name := "blockEnd", desc := "(I)I" } : Jvm.MethodName)) ∈ gw := gw_4 36 rfl rfl
theorem w_4_37 : (Jvm.Cond.selects "SpillForge$Code" ({ cls := "SpillForge$Code", name := "blockEnd", desc := "(I)I" } : Jvm.MethodName) ({ cls := "SpillForge$Code", name := "blockEnd", desc := "(I)I" } : Jvm.MethodName)) ∈ gw := gw_4 37 rfl rfl
theorem d_cX4_write_41 : decode cX4_write 41 = .ok (.if_icmp .ge 42, 3) := by decide +kernel
theorem d_cX4_write_83 : decode cX4_write 83 = .ok (.iinc 2 1, 3) := by decide +kernel
theorem d_cX4_write_86 : decode cX4_write 86 = .ok (.goto (-79), 3) := by decide +kernel
theorem d_cX4_write_44 : decode cX4_write 44 = .ok (.aload_n 1, 1) := by decide +kernel
theorem d_cX4_write_45 : decode cX4_write 45 = .ok (.getfield 44, 3) := by decide +kernel
theorem d_cX4_write_48 : decode cX4_write 48 = .ok (.iload_n 3, 1) := by decide +kernel
theorem d_cX4_write_49 : decode cX4_write 49 = .ok (.iaload, 1) := by decide +kernel
theorem d_cX4_write_50 : decode cX4_write 50 = .ok (.bipush 19, 2) := by decide +kernel
theorem d_cX4_write_52 : decode cX4_write 52 = .ok (.if_icmp .lt 13, 3) := by decide +kernel
theorem d_cX4_write_65 : decode cX4_write 65 = .ok (.aload_n 0, 1) := by decide +kernel
theorem d_cX4_write_66 : decode cX4_write 66 = .ok (.aload_n 1, 1) := by decide +kernel
theorem d_cX4_write_67 : decode cX4_write 67 = .ok (.iload_n 3, 1) := by decide +kernel
theorem d_cX4_write_68 : decode cX4_write 68 = .ok (.invokevirtual 51, 3) := by decide +kernel
theorem w_6_199 : (Jvm.Cond.methodLink "SpillForge$Listing" (51 : Nat) ({ cls := "SpillForge$Listing", name := "addRow", desc := "(LSpillForge$Code;I)V" } : Jvm.MethodName)) ∈ gw := gw_6 199 rfl rfl
theorem w_6_202 : (Jvm.Cond.code ({ cls := "SpillForge$Listing", name := "addRow", desc := "(LSpillForge$Code;I)V" } : Jvm.MethodName) prog_6_method_6_code (3 : Nat) (Option.none : Option Jvm.ClassFile.FieldType)) ∈ gw := gw_6 202 rfl rfl
theorem w_6_201 : (Jvm.Cond.instanceMethod ({ cls := "SpillForge$Listing", name := "addRow", desc := "(LSpillForge$Code;I)V" } : Jvm.MethodName)) ∈ gw := gw_6 201 rfl rfl
theorem w_p_70 : Cond.selects "SpillForge$Listing" ⟨"SpillForge$Listing", "addRow", "(LSpillForge$Code;I)V"⟩ ⟨"SpillForge$Listing", "addRow", "(LSpillForge$Code;I)V"⟩ ∈ gw := gw_p _ 70 rfl rfl rfl
theorem d_cX4_write_71 : decode cX4_write 71 = .ok (.aload_n 0, 1) := by decide +kernel
theorem d_cX4_write_72 : decode cX4_write 72 = .ok (.bipush 10, 2) := by decide +kernel
theorem d_cX4_write_74 : decode cX4_write 74 = .ok (.invokevirtual 55, 3) := by decide +kernel
theorem d_cX4_write_77 : decode cX4_write 77 = .ok (.iinc 3 1, 3) := by decide +kernel
theorem d_cX4_write_80 : decode cX4_write 80 = .ok (.goto (-45), 3) := by decide +kernel
theorem d_cX4_write_55 : decode cX4_write 55 = .ok (.aload_n 0, 1) := by decide +kernel
theorem d_cX4_write_56 : decode cX4_write 56 = .ok (.aload_n 1, 1) := by decide +kernel
theorem d_cX4_write_57 : decode cX4_write 57 = .ok (.iload_n 2, 1) := by decide +kernel
theorem d_cX4_write_58 : decode cX4_write 58 = .ok (.iload_n 3, 1) := by decide +kernel
theorem d_cX4_write_59 : decode cX4_write 59 = .ok (.invokevirtual 47, 3) := by decide +kernel
theorem w_6_186 : (Jvm.Cond.methodLink "SpillForge$Listing" (47 : Nat) ({ cls := "SpillForge$Listing", name := "addEnd", desc := "(LSpillForge$Code;II)V" } : Jvm.MethodName)) ∈ gw := gw_6 186 rfl rfl
theorem w_6_189 : (Jvm.Cond.code ({ cls := "SpillForge$Listing", name := "addEnd", desc := "(LSpillForge$Code;II)V" } : Jvm.MethodName) prog_6_method_5_code (4 : Nat) (Option.none : Option Jvm.ClassFile.FieldType)) ∈ gw := gw_6 189 rfl rfl
theorem w_6_188 : (Jvm.Cond.instanceMethod ({ cls := "SpillForge$Listing", name := "addEnd", desc := "(LSpillForge$Code;II)V" } : Jvm.MethodName)) ∈ gw := gw_6 188 rfl rfl
theorem w_p_68 : Cond.selects "SpillForge$Listing" ⟨"SpillForge$Listing", "addEnd", "(LSpillForge$Code;II)V"⟩ ⟨"SpillForge$Listing", "addEnd", "(LSpillForge$Code;II)V"⟩ ∈ gw := gw_p _ 68 rfl rfl rfl
theorem d_cX4_write_62 : decode cX4_write 62 = .ok (.goto 9, 3) := by decide +kernel
abbrev ky_7578_Listing_addNamed : gKey := (cX4_addNamed, 3, yX4_addNamed.cls, none, [], yX4_addNamed.name, fun _ _ => True)
abbrev po_7578_Listing_addNamed (I : FieldType → ClassId) (q7570 : Nat) (q7571 : Nat) (qs7572 : Nat) (qb7573 : Nat) (bs7574 : List Int32) (p7575 : Int32) (p7576 : Int32) (f7577 : Nat → Int32) : Option Value → va_W → Prop := fun r w => ∃ (o10310 : Int32) (f10311 : Nat → Int32), r = none ∧ w = [(q7570, .inr (9, [.ref q7571, .int o10310])), (q7571, .inl (I .byte, 16384, .inl f10311))] ∧ gB o10310 0 16384 ∧ gF f10311 (-128) 127
set_option maxRecDepth 100000 in
set_option maxHeartbeats 4000000 in
theorem ct_7578_Listing_addNamed (l : Launch) (hl0 : l.stackTraces = false) (D : va_G) (I : FieldType → ClassId) (q7570 : Nat) (q7571 : Nat) (qs7572 : Nat) (qb7573 : Nat) (bs7574 : List Int32) (p7575 : Int32) (p7576 : Int32) (f7577 : Nat → Int32) (hbs7574 : ∀ A s H, (gV D I).2.2.2.1 A s H → gSC qs7572 qb7573 bs7574 A s H) (nbs7574 : (bs7574.length : Int) ≤ 65535) (bp7576 : gB p7576 0 16384) (bf7577 : gF f7577 (-128) 127) : Ct (gV D I) l yX4_addNamed cX4_addNamed 3 none 5 107 0 0 [.ref q7570, .ref qs7572, .int p7575] [(q7570, .inr (9, [.ref q7571, .int p7576])), (q7571, .inl (I .byte, 16384, .inl f7577))] (po_7578_Listing_addNamed I q7570 q7571 qs7572 qb7573 bs7574 p7575 p7576 f7577) gN := by
  refine Ct_of hl0 (by decide) (Nat.le_of_ble_eq_true rfl) ?_
  have bp7575 := gB_any p7575
  refine G_aload_n 0 d_cX4_addNamed_0 rfl ?_
  refine G_aload_n 1 d_cX4_addNamed_1 rfl ?_
  refine G_callV (As := [.ref qs7572]) (wr := []) (gV_ok D I) (ct_7586_Listing_addText l hl0 D I q7570 q7571 qs7572 qb7573 bs7574 p7576 f7577 hbs7574 nbs7574 bp7576 bf7577) d_cX4_addNamed_2 ⟨w_6_165, w_1_13, w_6_168, by decide, rfl, (Nat.le_of_ble_eq_true rfl), (Nat.le_of_ble_eq_true rfl)⟩ w_6_167 w_p_65 0 rfl rfl [0, 1] [] rfl rfl rfl rfl (by decide) (Nat.le_of_ble_eq_true rfl) (Nat.le_of_ble_eq_true rfl) (Nat.le_of_ble_eq_true rfl) (fun r w hp => ?_) (fun _ _ _ z => z.elim)
  obtain ⟨o7683, f7684, rfl, rfl, bo7683, bf7684⟩ := hp
  change G _ _ _ _ _ _ _ _ _ _ _
  refine G_ws (ws' := [(q7570, .inr (9, [.ref q7571, .int o7683])), (q7571, .inl (I .byte, 16384, .inl f7684))]) (cs' := 0) (sl' := 0) rfl rfl rfl ?_
  refine G_aload_n 0 d_cX4_addNamed_5 rfl ?_
  refine G_iload_n 2 d_cX4_addNamed_6 rfl ?_
  refine G_callV (As := [.int p7575]) (wr := []) (gV_ok D I) (ct_7690_Listing_addNumber l hl0 D I q7570 q7571 p7575 o7683 f7684 bo7683 bf7684) d_cX4_addNamed_7 ⟨w_6_175, w_1_13, w_6_178, by decide, rfl, (Nat.le_of_ble_eq_true rfl), (Nat.le_of_ble_eq_true rfl)⟩ w_6_177 w_p_67 0 rfl rfl [0, 1] [] rfl rfl rfl rfl (by decide) (Nat.le_of_ble_eq_true rfl) (Nat.le_of_ble_eq_true rfl) (Nat.le_of_ble_eq_true rfl) (fun r w hp => ?_) (fun _ _ _ z => z.elim)
  obtain ⟨o10308, f10309, rfl, rfl, bo10308, bf10309⟩ := hp
  change G _ _ _ _ _ _ _ _ _ _ _
  refine G_ws (ws' := [(q7570, .inr (9, [.ref q7571, .int o10308])), (q7571, .inl (I .byte, 16384, .inl f10309))]) (cs' := 0) (sl' := 0) rfl rfl rfl ?_
  exact G_vret d_cX4_addNamed_10 rfl (Nat.le_of_ble_eq_true rfl) (Nat.le_of_ble_eq_true rfl) ⟨o10308, f10309, rfl, rfl, bo10308, bf10309⟩
abbrev ky_10418_Listing_addOperand : gKey := (cX4_addOperand, 3, yX4_addOperand.cls, none, [], yX4_addOperand.name, fun _ _ => True)
abbrev po_10418_Listing_addOperand (I : FieldType → ClassId) (q10412 : Nat) (q10413 : Nat) (p10414 : Int32) (p10415 : Int32) (p10416 : Int32) (f10417 : Nat → Int32) : Option Value → va_W → Prop := fun r w => ∃ (o10427 : Int32) (f10428 : Nat → Int32), r = none ∧ w = [(q10412, .inr (9, [.ref q10413, .int o10427])), (q10413, .inl (I .byte, 16384, .inl f10428))] ∧ gB o10427 0 16384 ∧ gF f10428 (-128) 127
set_option maxRecDepth 100000 in
set_option maxHeartbeats 4000000 in
theorem ct_10418_Listing_addOperand (l : Launch) (hl0 : l.stackTraces = false) (D : va_G) (I : FieldType → ClassId) (q10412 : Nat) (q10413 : Nat) (p10414 : Int32) (p10415 : Int32) (p10416 : Int32) (f10417 : Nat → Int32) (bp10416 : gB p10416 0 16384) (bf10417 : gF f10417 (-128) 127) : Ct (gV D I) l yX4_addOperand cX4_addOperand 3 none 6 129 0 0 [.ref q10412, .int p10414, .int p10415] [(q10412, .inr (9, [.ref q10413, .int p10416])), (q10413, .inl (I .byte, 16384, .inl f10417))] (po_10418_Listing_addOperand I q10412 q10413 p10414 p10415 p10416 f10417) gN := by
  refine Ct_of hl0 (by decide) (Nat.le_of_ble_eq_true rfl) ?_
  have bp10414 := gB_any p10414
  have bp10415 := gB_any p10415
  refine G_iload_n 1 d_cX4_addOperand_0 rfl ?_
  refine G_iconst (-1) d_cX4_addOperand_1 (by decide +kernel) ?_
  refine G_icmp_ne 13 d_cX4_addOperand_2 (by decide +kernel) (fun hc10419 => ?_) (fun hc10419 => ?_)
  · have r10420 : p10414.toInt ≠ (-1) := gj_neq hc10419 (show Int32.toInt (-1) = (-1) by decide)
    refine G_aload_n 0 d_cX4_addOperand_13 rfl ?_
    refine G_ldcK (a := D.2 1000 21) d_cX4_addOperand_14 (fun _ _ _ h => gx_vk 21 rfl rfl h) ?_
    have hl21_10420 : (sb_21.length : Int) = 1 := rfl
    refine G_iload_n 1 d_cX4_addOperand_16 rfl ?_
    refine G_callV (As := [.ref (D.2 1000 21), .int p10414]) (wr := []) (gV_ok D I) (ct_7578_Listing_addNamed l hl0 D I q10412 q10413 (D.2 1000 21) (D.2 1001 21) sb_21 p10414 p10416 f10417 (gx_sc 21 rfl rfl) (by omega) bp10416 bf10417) d_cX4_addOperand_17 ⟨w_6_161, w_1_13, w_6_164, by decide, rfl, (Nat.le_of_ble_eq_true rfl), (Nat.le_of_ble_eq_true rfl)⟩ w_6_163 w_p_64 0 rfl rfl [0, 1] [] rfl rfl rfl rfl (by decide) (Nat.le_of_ble_eq_true rfl) (Nat.le_of_ble_eq_true rfl) (Nat.le_of_ble_eq_true rfl) (fun r w hp => ?_) (fun _ _ _ z => z.elim)
    obtain ⟨o10422, f10423, rfl, rfl, bo10422, bf10423⟩ := hp
    change G _ _ _ _ _ _ _ _ _ _ _
    refine G_ws (ws' := [(q10412, .inr (9, [.ref q10413, .int o10422])), (q10413, .inl (I .byte, 16384, .inl f10423))]) (cs' := 0) (sl' := 0) rfl rfl rfl ?_
    exact G_vret d_cX4_addOperand_20 rfl (Nat.le_of_ble_eq_true rfl) (Nat.le_of_ble_eq_true rfl) ⟨o10422, f10423, rfl, rfl, bo10422, bf10423⟩
  · have r10424 : p10414.toInt = (-1) := gj_eq hc10419 (show Int32.toInt (-1) = (-1) by decide)
    have bp10414' : gB p10414 (-1) (-1) := ⟨by omega, by omega⟩
    refine G_aload_n 0 d_cX4_addOperand_5 rfl ?_
    refine G_iload_n 2 d_cX4_addOperand_6 rfl ?_
    refine G_callV (As := [.int p10415]) (wr := []) (gV_ok D I) (ct_7690_Listing_addNumber l hl0 D I q10412 q10413 p10415 p10416 f10417 bp10416 bf10417) d_cX4_addOperand_7 ⟨w_6_175, w_1_13, w_6_178, by decide, rfl, (Nat.le_of_ble_eq_true rfl), (Nat.le_of_ble_eq_true rfl)⟩ w_6_177 w_p_67 0 rfl rfl [0, 1] [] rfl rfl rfl rfl (by decide) (Nat.le_of_ble_eq_true rfl) (Nat.le_of_ble_eq_true rfl) (Nat.le_of_ble_eq_true rfl) (fun r w hp => ?_) (fun _ _ _ z => z.elim)
    obtain ⟨o10425, f10426, rfl, rfl, bo10425, bf10426⟩ := hp
    change G _ _ _ _ _ _ _ _ _ _ _
    refine G_ws (ws' := [(q10412, .inr (9, [.ref q10413, .int o10425])), (q10413, .inl (I .byte, 16384, .inl f10426))]) (cs' := 0) (sl' := 0) rfl rfl rfl ?_
    refine G_goto 20 d_cX4_addOperand_10 (by decide +kernel) ?_
    exact G_vret d_cX4_addOperand_20 rfl (Nat.le_of_ble_eq_true rfl) (Nat.le_of_ble_eq_true rfl) ⟨o10425, f10426, rfl, rfl, bo10425, bf10426⟩
abbrev ky_10439_Listing_addOp : gKey := (cX4_addOp, 2, yX4_addOp.cls, none, [], yX4_addOp.name, fun _ _ => True)
abbrev po_10439_Listing_addOp (I : FieldType → ClassId) (q10434 : Nat) (q10435 : Nat) (p10436 : Int32) (p10437 : Int32) (f10438 : Nat → Int32) : Option Value → va_W → Prop := fun r w => ∃ (o10464 : Int32) (f10465 : Nat → Int32), r = none ∧ w = [(q10434, .inr (9, [.ref q10435, .int o10464])), (q10435, .inl (I .byte, 16384, .inl f10465))] ∧ gB o10464 1 16384 ∧ gF f10465 (-128) 127
set_option maxRecDepth 100000 in
set_option maxHeartbeats 4000000 in
theorem ct_10439_Listing_addOp (l : Launch) (hl0 : l.stackTraces = false) (D : va_G) (I : FieldType → ClassId) (q10434 : Nat) (q10435 : Nat) (p10436 : Int32) (p10437 : Int32) (f10438 : Nat → Int32) (bp10436 : gB p10436 0 13) (bp10437 : gB p10437 0 16384) (bf10438 : gF f10438 (-128) 127) : Ct (gV D I) l yX4_addOp cX4_addOp 2 none 4 85 0 0 [.ref q10434, .int p10436] [(q10434, .inr (9, [.ref q10435, .int p10437])), (q10435, .inl (I .byte, 16384, .inl f10438))] (po_10439_Listing_addOp I q10434 q10435 p10436 p10437 f10438) gN := by
  refine Ct_of hl0 (by decide) (Nat.le_of_ble_eq_true rfl) ?_
  refine G_aload_n 0 d_cX4_addOp_0 rfl ?_
  refine G_bipush 32 d_cX4_addOp_1 (by decide +kernel) ?_
  refine G_callV (As := [.int 32]) (wr := []) (gV_ok D I) (ct_7598_Listing_addByte l hl0 D I q10434 q10435 32 p10437 f10438 (gB_w (gBl (show Int32.toInt 32 = 32 by decide)) (by decide) (by decide)) bp10437 bf10438) d_cX4_addOp_3 ⟨w_6_171, w_1_13, w_6_174, by decide, rfl, (Nat.le_of_ble_eq_true rfl), (Nat.le_of_ble_eq_true rfl)⟩ w_6_173 w_p_66 0 rfl rfl [0, 1] [] rfl rfl rfl rfl (by decide) (Nat.le_of_ble_eq_true rfl) (Nat.le_of_ble_eq_true rfl) (Nat.le_of_ble_eq_true rfl) (fun r w hp => ?_) (fun _ _ _ z => z.elim)
  obtain ⟨o10440, f10441, rfl, rfl, bo10440, bf10441⟩ := hp
  change G _ _ _ _ _ _ _ _ _ _ _
  refine G_ws (ws' := [(q10434, .inr (9, [.ref q10435, .int o10440])), (q10435, .inl (I .byte, 16384, .inl f10441))]) (cs' := 0) (sl' := 0) rfl rfl rfl ?_
  refine G_aload_n 0 d_cX4_addOp_6 rfl ?_
  refine G_ldcK (a := D.2 1000 30) d_cX4_addOp_7 (fun _ _ _ h => gx_vk 30 rfl rfl h) ?_
  have hl30_10441 : (sb_30.length : Int) = 28 := rfl
  refine G_iconst 2 d_cX4_addOp_9 (by decide +kernel) ?_
  refine G_iload_n 1 d_cX4_addOp_10 rfl ?_
  refine G_imul d_cX4_addOp_11 (G_nam fun z10443 hz10443 => ?_)
  have ez10443 : z10443.toInt = 2 * p10436.toInt := by rw [gI_mul hz10443 (gBl (show Int32.toInt 2 = 2 by decide)) bp10436 (by decide) (by decide) (by decide), show Int32.toInt 2 = 2 from by decide]
  have bz10443 : gB z10443 0 26 := gB_mul hz10443 (gBl (show Int32.toInt 2 = 2 by decide)) bp10436 (by decide) (by decide) (by decide) (by decide)
  refine G_callVk (As := [.int z10443]) (wr := [(q10434, .inr (9, [.ref q10435, .int o10440])), (q10435, .inl (I .byte, 16384, .inl f10441))]) (gV_ok D I) (ct_3854_String_charAt l hl0 D I (D.2 1000 30) (D.2 1001 30) sb_30 z10443 (gx_sc 30 rfl rfl) (by omega) (by omega) (by omega)) d_cX4_addOp_12 ⟨w_6_170, w_1_21, w_3_70, by decide, rfl, (Nat.le_of_ble_eq_true rfl), (Nat.le_of_ble_eq_true rfl)⟩ w_3_68 w_3_69 (fun _ _ _ h => ((gx_sc 30 rfl rfl) _ _ _ h).1) [] [0, 1] rfl rfl rfl rfl (by decide) (Nat.le_of_ble_eq_true rfl) (Nat.le_of_ble_eq_true rfl) (Nat.le_of_ble_eq_true rfl) (fun r w hp => ?_) (fun _ _ _ z => z.elim)
  obtain ⟨o10444, rfl, rfl, bo10444⟩ := hp
  change G _ _ _ _ _ _ _ (.int o10444 :: _) _ _ _
  refine G_ws (ws' := [(q10434, .inr (9, [.ref q10435, .int o10440])), (q10435, .inl (I .byte, 16384, .inl f10441))]) (cs' := 0) (sl' := 0) rfl rfl rfl ?_
  refine G_callV (As := [.int o10444]) (wr := []) (gV_ok D I) (ct_7598_Listing_addByte l hl0 D I q10434 q10435 o10444 o10440 f10441 bo10444 (gB_w bo10440 (by decide) (by decide)) bf10441) d_cX4_addOp_15 ⟨w_6_171, w_1_13, w_6_174, by decide, rfl, (Nat.le_of_ble_eq_true rfl), (Nat.le_of_ble_eq_true rfl)⟩ w_6_173 w_p_66 0 rfl rfl [0, 1] [] rfl rfl rfl rfl (by decide) (Nat.le_of_ble_eq_true rfl) (Nat.le_of_ble_eq_true rfl) (Nat.le_of_ble_eq_true rfl) (fun r w hp => ?_) (fun _ _ _ z => z.elim)
  obtain ⟨o10445, f10446, rfl, rfl, bo10445, bf10446⟩ := hp
  change G _ _ _ _ _ _ _ _ _ _ _
  refine G_ws (ws' := [(q10434, .inr (9, [.ref q10435, .int o10445])), (q10435, .inl (I .byte, 16384, .inl f10446))]) (cs' := 0) (sl' := 0) rfl rfl rfl ?_
  refine G_ldcK (a := D.2 1000 30) d_cX4_addOp_18 (fun _ _ _ h => gx_vk 30 rfl rfl h) ?_
  have hl30_10446 : (sb_30.length : Int) = 28 := rfl
  refine G_iconst 2 d_cX4_addOp_20 (by decide +kernel) ?_
  refine G_iload_n 1 d_cX4_addOp_21 rfl ?_
  refine G_imul d_cX4_addOp_22 (G_nam fun z10448 hz10448 => ?_)
  have ez10448 : z10448.toInt = 2 * p10436.toInt := by rw [gI_mul hz10448 (gBl (show Int32.toInt 2 = 2 by decide)) bp10436 (by decide) (by decide) (by decide), show Int32.toInt 2 = 2 from by decide]
  have bz10448 : gB z10448 0 26 := gB_mul hz10448 (gBl (show Int32.toInt 2 = 2 by decide)) bp10436 (by decide) (by decide) (by decide) (by decide)
  refine G_iconst 1 d_cX4_addOp_23 (by decide +kernel) ?_
  refine G_iadd d_cX4_addOp_24 (G_nam fun z10449 hz10449 => ?_)
  have ez10449 : z10449.toInt = z10448.toInt + 1 := by rw [gI_add hz10449 bz10448 (gBl (show Int32.toInt 1 = 1 by decide)) (by decide) (by decide), show Int32.toInt 1 = 1 from by decide]
  have bz10449 : gB z10449 1 27 := gB_add (gI_add hz10449 bz10448 (gBl (show Int32.toInt 1 = 1 by decide)) (by decide) (by decide)) bz10448 (gBl (show Int32.toInt 1 = 1 by decide)) (by decide) (by decide)
  refine G_callVk (As := [.int z10449]) (wr := [(q10434, .inr (9, [.ref q10435, .int o10445])), (q10435, .inl (I .byte, 16384, .inl f10446))]) (gV_ok D I) (ct_3854_String_charAt l hl0 D I (D.2 1000 30) (D.2 1001 30) sb_30 z10449 (gx_sc 30 rfl rfl) (by omega) (by omega) (by omega)) d_cX4_addOp_25 ⟨w_6_170, w_1_21, w_3_70, by decide, rfl, (Nat.le_of_ble_eq_true rfl), (Nat.le_of_ble_eq_true rfl)⟩ w_3_68 w_3_69 (fun _ _ _ h => ((gx_sc 30 rfl rfl) _ _ _ h).1) [] [0, 1] rfl rfl rfl rfl (by decide) (Nat.le_of_ble_eq_true rfl) (Nat.le_of_ble_eq_true rfl) (Nat.le_of_ble_eq_true rfl) (fun r w hp => ?_) (fun _ _ _ z => z.elim)
  obtain ⟨o10450, rfl, rfl, bo10450⟩ := hp
  change G _ _ _ _ _ _ _ (.int o10450 :: _) _ _ _
  refine G_ws (ws' := [(q10434, .inr (9, [.ref q10435, .int o10445])), (q10435, .inl (I .byte, 16384, .inl f10446))]) (cs' := 0) (sl' := 0) rfl rfl rfl ?_
  refine G_bipush 32 d_cX4_addOp_28 (by decide +kernel) ?_
  refine G_icmp_eq 47 d_cX4_addOp_30 (by decide +kernel) (fun hc10451 => ?_) (fun hc10451 => ?_)
  · have r10452 : o10450.toInt = 32 := gj_eq hc10451 (show Int32.toInt 32 = 32 by decide)
    have bo10450' : gB o10450 32 32 := ⟨by omega, by omega⟩
    refine G_aload_n 0 d_cX4_addOp_47 rfl ?_
    refine G_bipush 32 d_cX4_addOp_48 (by decide +kernel) ?_
    refine G_callV (As := [.int 32]) (wr := []) (gV_ok D I) (ct_7598_Listing_addByte l hl0 D I q10434 q10435 32 o10445 f10446 (gB_w (gBl (show Int32.toInt 32 = 32 by decide)) (by decide) (by decide)) (gB_w bo10445 (by decide) (by decide)) bf10446) d_cX4_addOp_50 ⟨w_6_171, w_1_13, w_6_174, by decide, rfl, (Nat.le_of_ble_eq_true rfl), (Nat.le_of_ble_eq_true rfl)⟩ w_6_173 w_p_66 0 rfl rfl [0, 1] [] rfl rfl rfl rfl (by decide) (Nat.le_of_ble_eq_true rfl) (Nat.le_of_ble_eq_true rfl) (Nat.le_of_ble_eq_true rfl) (fun r w hp => ?_) (fun _ _ _ z => z.elim)
    obtain ⟨o10453, f10454, rfl, rfl, bo10453, bf10454⟩ := hp
    change G _ _ _ _ _ _ _ _ _ _ _
    refine G_ws (ws' := [(q10434, .inr (9, [.ref q10435, .int o10453])), (q10435, .inl (I .byte, 16384, .inl f10454))]) (cs' := 0) (sl' := 0) rfl rfl rfl ?_
    exact G_vret d_cX4_addOp_53 rfl (Nat.le_of_ble_eq_true rfl) (Nat.le_of_ble_eq_true rfl) ⟨o10453, f10454, rfl, rfl, bo10453, bf10454⟩
  · have r10455 : o10450.toInt ≠ 32 := gj_neq hc10451 (show Int32.toInt 32 = 32 by decide)
    refine G_aload_n 0 d_cX4_addOp_33 rfl ?_
    refine G_ldcK (a := D.2 1000 30) d_cX4_addOp_34 (fun _ _ _ h => gx_vk 30 rfl rfl h) ?_
    have hl30_10455 : (sb_30.length : Int) = 28 := rfl
    refine G_iconst 2 d_cX4_addOp_36 (by decide +kernel) ?_
    refine G_iload_n 1 d_cX4_addOp_37 rfl ?_
    refine G_imul d_cX4_addOp_38 (G_nam fun z10457 hz10457 => ?_)
    have ez10457 : z10457.toInt = 2 * p10436.toInt := by rw [gI_mul hz10457 (gBl (show Int32.toInt 2 = 2 by decide)) bp10436 (by decide) (by decide) (by decide), show Int32.toInt 2 = 2 from by decide]
    have bz10457 : gB z10457 0 26 := gB_mul hz10457 (gBl (show Int32.toInt 2 = 2 by decide)) bp10436 (by decide) (by decide) (by decide) (by decide)
    refine G_iconst 1 d_cX4_addOp_39 (by decide +kernel) ?_
    refine G_iadd d_cX4_addOp_40 (G_nam fun z10458 hz10458 => ?_)
    have ez10458 : z10458.toInt = z10457.toInt + 1 := by rw [gI_add hz10458 bz10457 (gBl (show Int32.toInt 1 = 1 by decide)) (by decide) (by decide), show Int32.toInt 1 = 1 from by decide]
    have bz10458 : gB z10458 1 27 := gB_add (gI_add hz10458 bz10457 (gBl (show Int32.toInt 1 = 1 by decide)) (by decide) (by decide)) bz10457 (gBl (show Int32.toInt 1 = 1 by decide)) (by decide) (by decide)
    refine G_callVk (As := [.int z10458]) (wr := [(q10434, .inr (9, [.ref q10435, .int o10445])), (q10435, .inl (I .byte, 16384, .inl f10446))]) (gV_ok D I) (ct_3854_String_charAt l hl0 D I (D.2 1000 30) (D.2 1001 30) sb_30 z10458 (gx_sc 30 rfl rfl) (by omega) (by omega) (by omega)) d_cX4_addOp_41 ⟨w_6_170, w_1_21, w_3_70, by decide, rfl, (Nat.le_of_ble_eq_true rfl), (Nat.le_of_ble_eq_true rfl)⟩ w_3_68 w_3_69 (fun _ _ _ h => ((gx_sc 30 rfl rfl) _ _ _ h).1) [] [0, 1] rfl rfl rfl rfl (by decide) (Nat.le_of_ble_eq_true rfl) (Nat.le_of_ble_eq_true rfl) (Nat.le_of_ble_eq_true rfl) (fun r w hp => ?_) (fun _ _ _ z => z.elim)
    obtain ⟨o10459, rfl, rfl, bo10459⟩ := hp
    change G _ _ _ _ _ _ _ (.int o10459 :: _) _ _ _
    refine G_ws (ws' := [(q10434, .inr (9, [.ref q10435, .int o10445])), (q10435, .inl (I .byte, 16384, .inl f10446))]) (cs' := 0) (sl' := 0) rfl rfl rfl ?_
    refine G_callV (As := [.int o10459]) (wr := []) (gV_ok D I) (ct_7598_Listing_addByte l hl0 D I q10434 q10435 o10459 o10445 f10446 bo10459 (gB_w bo10445 (by decide) (by decide)) bf10446) d_cX4_addOp_44 ⟨w_6_171, w_1_13, w_6_174, by decide, rfl, (Nat.le_of_ble_eq_true rfl), (Nat.le_of_ble_eq_true rfl)⟩ w_6_173 w_p_66 0 rfl rfl [0, 1] [] rfl rfl rfl rfl (by decide) (Nat.le_of_ble_eq_true rfl) (Nat.le_of_ble_eq_true rfl) (Nat.le_of_ble_eq_true rfl) (fun r w hp => ?_) (fun _ _ _ z => z.elim)
    obtain ⟨o10460, f10461, rfl, rfl, bo10460, bf10461⟩ := hp
    change G _ _ _ _ _ _ _ _ _ _ _
    refine G_ws (ws' := [(q10434, .inr (9, [.ref q10435, .int o10460])), (q10435, .inl (I .byte, 16384, .inl f10461))]) (cs' := 0) (sl' := 0) rfl rfl rfl ?_
    refine G_aload_n 0 d_cX4_addOp_47 rfl ?_
    refine G_bipush 32 d_cX4_addOp_48 (by decide +kernel) ?_
    refine G_callV (As := [.int 32]) (wr := []) (gV_ok D I) (ct_7598_Listing_addByte l hl0 D I q10434 q10435 32 o10460 f10461 (gB_w (gBl (show Int32.toInt 32 = 32 by decide)) (by decide) (by decide)) (gB_w bo10460 (by decide) (by decide)) bf10461) d_cX4_addOp_50 ⟨w_6_171, w_1_13, w_6_174, by decide, rfl, (Nat.le_of_ble_eq_true rfl), (Nat.le_of_ble_eq_true rfl)⟩ w_6_173 w_p_66 0 rfl rfl [0, 1] [] rfl rfl rfl rfl (by decide) (Nat.le_of_ble_eq_true rfl) (Nat.le_of_ble_eq_true rfl) (Nat.le_of_ble_eq_true rfl) (fun r w hp => ?_) (fun _ _ _ z => z.elim)
    obtain ⟨o10462, f10463, rfl, rfl, bo10462, bf10463⟩ := hp
    change G _ _ _ _ _ _ _ _ _ _ _
    refine G_ws (ws' := [(q10434, .inr (9, [.ref q10435, .int o10462])), (q10435, .inl (I .byte, 16384, .inl f10463))]) (cs' := 0) (sl' := 0) rfl rfl rfl ?_
    exact G_vret d_cX4_addOp_53 rfl (Nat.le_of_ble_eq_true rfl) (Nat.le_of_ble_eq_true rfl) ⟨o10462, f10463, rfl, rfl, bo10462, bf10463⟩
abbrev ky_10404_Listing_addSource : gKey := (cX4_addSource, 3, yX4_addSource.cls, none, [], yX4_addSource.name, fun _ _ => True)
abbrev po_10404_Listing_addSource (I : FieldType → ClassId) (q10377 : Nat) (q10378 : Nat) (q10379 : Nat) (q10380 : Nat) (q10381 : Nat) (q10382 : Nat) (q10383 : Nat) (q10384 : Nat) (q10385 : Nat) (q10386 : Nat) (q10387 : Nat) (q10388 : Nat) (p10389 : Int32) (p10390 : Int32) (p10391 : Int32) (p10392 : Int32) (p10393 : Int32) (f10394 : Nat → Int32) (f10395 : Nat → Int32) (f10396 : Nat → Int32) (f10397 : Nat → Int32) (f10398 : Nat → Int32) (f10399 : Nat → Int32) (f10400 : Nat → Int32) (f10401 : Nat → Int32) (f10402 : Nat → Int32) (f10403 : Nat → Int32) : Option Value → va_W → Prop := fun r w => ∃ (o10481 : Int32) (f10482 : Nat → Int32), r = none ∧ w = [(q10377, .inr (9, [.ref q10379, .int o10481])), (q10378, .inr (5, [.ref q10380, .ref q10381, .ref q10382, .ref q10383, .ref q10384, .ref q10385, .ref q10386, .ref q10387, .ref q10388, .int p10391, .int p10392, .int p10393])), (q10379, .inl (I .byte, 16384, .inl f10482)), (q10380, .inl (I .int, 40, .inl f10395)), (q10381, .inl (I .int, 40, .inl f10396)), (q10382, .inl (I .int, 40, .inl f10397)), (q10383, .inl (I .int, 200, .inl f10398)), (q10384, .inl (I .int, 200, .inl f10399)), (q10385, .inl (I .int, 200, .inl f10400)), (q10386, .inl (I .int, 200, .inl f10401)), (q10387, .inl (I .int, 200, .inl f10402)), (q10388, .inl (I .int, 200, .inl f10403))] ∧ gB o10481 0 16384 ∧ gF f10482 (-128) 127
set_option maxRecDepth 100000 in
set_option maxHeartbeats 4000000 in
theorem ct_10404_Listing_addSource (l : Launch) (hl0 : l.stackTraces = false) (D : va_G) (I : FieldType → ClassId) (q10377 : Nat) (q10378 : Nat) (q10379 : Nat) (q10380 : Nat) (q10381 : Nat) (q10382 : Nat) (q10383 : Nat) (q10384 : Nat) (q10385 : Nat) (q10386 : Nat) (q10387 : Nat) (q10388 : Nat) (p10389 : Int32) (p10390 : Int32) (p10391 : Int32) (p10392 : Int32) (p10393 : Int32) (f10394 : Nat → Int32) (f10395 : Nat → Int32) (f10396 : Nat → Int32) (f10397 : Nat → Int32) (f10398 : Nat → Int32) (f10399 : Nat → Int32) (f10400 : Nat → Int32) (f10401 : Nat → Int32) (f10402 : Nat → Int32) (f10403 : Nat → Int32) (bp10389 : gB p10389 0 199) (bp10390 : gB p10390 0 16384) (bp10391 : gB p10391 0 40) (bp10392 : gB p10392 0 200) (bp10393 : gB p10393 0 1) (bf10394 : gF f10394 (-128) 127) (bf10395 : gF f10395 0 200) (bf10398 : gF f10398 0 21) : Ct (gV D I) l yX4_addSource cX4_addSource 3 none 7 151 0 0 [.ref q10377, .ref q10378, .int p10389] [(q10377, .inr (9, [.ref q10379, .int p10390])), (q10378, .inr (5, [.ref q10380, .ref q10381, .ref q10382, .ref q10383, .ref q10384, .ref q10385, .ref q10386, .ref q10387, .ref q10388, .int p10391, .int p10392, .int p10393])), (q10379, .inl (I .byte, 16384, .inl f10394)), (q10380, .inl (I .int, 40, .inl f10395)), (q10381, .inl (I .int, 40, .inl f10396)), (q10382, .inl (I .int, 40, .inl f10397)), (q10383, .inl (I .int, 200, .inl f10398)), (q10384, .inl (I .int, 200, .inl f10399)), (q10385, .inl (I .int, 200, .inl f10400)), (q10386, .inl (I .int, 200, .inl f10401)), (q10387, .inl (I .int, 200, .inl f10402)), (q10388, .inl (I .int, 200, .inl f10403))] (po_10404_Listing_addSource I q10377 q10378 q10379 q10380 q10381 q10382 q10383 q10384 q10385 q10386 q10387 q10388 p10389 p10390 p10391 p10392 p10393 f10394 f10395 f10396 f10397 f10398 f10399 f10400 f10401 f10402 f10403) gN := by
  refine Ct_of hl0 (by decide) (Nat.le_of_ble_eq_true rfl) ?_
  refine G_aload_n 1 d_cX4_addSource_0 rfl ?_
  refine G_getfN 1 3 d_cX4_addSource_1 rfl (gk_X0 D I) (Nat.le_of_ble_eq_true rfl) (fun _ _ _ h => gn_w 15 rfl h) rfl ?_
  refine G_iload_n 2 d_cX4_addSource_4 rfl ?_
  refine G_iald 6 0 d_cX4_addSource_5 rfl rfl (gB_in bp10389 (by decide) (by decide)) (G_nam fun z10405 hz10405 => ?_)
  have bz10405 : gB z10405 0 21 := by rw [hz10405]; exact bf10398 _
  refine G_bipush 15 d_cX4_addSource_6 (by decide +kernel) ?_
  refine G_icmp_ne 20 d_cX4_addSource_8 (by decide +kernel) (fun hc10406 => ?_) (fun hc10406 => ?_)
  · have r10407 : z10405.toInt ≠ 15 := gj_neq hc10406 (show Int32.toInt 15 = 15 by decide)
    refine G_aload_n 1 d_cX4_addSource_20 rfl ?_
    refine G_getfN 1 3 d_cX4_addSource_21 rfl (gk_X0 D I) (Nat.le_of_ble_eq_true rfl) (fun _ _ _ h => gn_w 15 rfl h) rfl ?_
    refine G_iload_n 2 d_cX4_addSource_24 rfl ?_
    refine G_iald 6 0 d_cX4_addSource_25 rfl rfl (gB_in bp10389 (by decide) (by decide)) (G_eqi (y := z10405) hz10405.symm ?_)
    refine G_bipush 17 d_cX4_addSource_26 (by decide +kernel) ?_
    refine G_icmp_ne 46 d_cX4_addSource_28 (by decide +kernel) (fun hc10408 => ?_) (fun hc10408 => ?_)
    · have r10409 : z10405.toInt ≠ 17 := gj_neq hc10408 (show Int32.toInt 17 = 17 by decide)
      refine G_aload_n 0 d_cX4_addSource_46 rfl ?_
      refine G_aload_n 1 d_cX4_addSource_47 rfl ?_
      refine G_getfN 1 5 d_cX4_addSource_48 rfl (gk_X0 D I) (Nat.le_of_ble_eq_true rfl) (fun _ _ _ h => gn_w 23 rfl h) rfl ?_
      refine G_iload_n 2 d_cX4_addSource_51 rfl ?_
      refine G_iald 8 0 d_cX4_addSource_52 rfl rfl (gB_in bp10389 (by decide) (by decide)) (G_nam fun z10410 hz10410 => ?_)
      have bz10410 : gB z10410 (-2147483648) 2147483647 := gB_any z10410
      refine G_aload_n 1 d_cX4_addSource_53 rfl ?_
      refine G_getfN 1 6 d_cX4_addSource_54 rfl (gk_X0 D I) (Nat.le_of_ble_eq_true rfl) (fun _ _ _ h => gn_w 27 rfl h) rfl ?_
      refine G_iload_n 2 d_cX4_addSource_57 rfl ?_
      refine G_iald 9 0 d_cX4_addSource_58 rfl rfl (gB_in bp10389 (by decide) (by decide)) (G_nam fun z10411 hz10411 => ?_)
      have bz10411 : gB z10411 (-2147483648) 2147483647 := gB_any z10411
      refine G_callV (As := [.int z10410, .int z10411]) (wr := [(q10378, .inr (5, [.ref q10380, .ref q10381, .ref q10382, .ref q10383, .ref q10384, .ref q10385, .ref q10386, .ref q10387, .ref q10388, .int p10391, .int p10392, .int p10393])), (q10380, .inl (I .int, 40, .inl f10395)), (q10381, .inl (I .int, 40, .inl f10396)), (q10382, .inl (I .int, 40, .inl f10397)), (q10383, .inl (I .int, 200, .inl f10398)), (q10384, .inl (I .int, 200, .inl f10399)), (q10385, .inl (I .int, 200, .inl f10400)), (q10386, .inl (I .int, 200, .inl f10401)), (q10387, .inl (I .int, 200, .inl f10402)), (q10388, .inl (I .int, 200, .inl f10403))]) (gV_ok D I) (ct_10418_Listing_addOperand l hl0 D I q10377 q10379 z10410 z10411 p10390 f10394 bp10390 bf10394) d_cX4_addSource_59 ⟨w_6_191, w_1_13, w_6_194, by decide, rfl, (Nat.le_of_ble_eq_true rfl), (Nat.le_of_ble_eq_true rfl)⟩ w_6_193 w_p_69 0 rfl rfl [0, 2] [1, 3, 4, 5, 6, 7, 8, 9, 10, 11] rfl rfl rfl rfl (by decide) (Nat.le_of_ble_eq_true rfl) (Nat.le_of_ble_eq_true rfl) (Nat.le_of_ble_eq_true rfl) (fun r w hp => ?_) (fun _ _ _ z => z.elim)
      obtain ⟨o10429, f10430, rfl, rfl, bo10429, bf10430⟩ := hp
      change G _ _ _ _ _ _ _ _ _ _ _
      refine G_ws (ws' := [(q10378, .inr (5, [.ref q10380, .ref q10381, .ref q10382, .ref q10383, .ref q10384, .ref q10385, .ref q10386, .ref q10387, .ref q10388, .int p10391, .int p10392, .int p10393])), (q10380, .inl (I .int, 40, .inl f10395)), (q10381, .inl (I .int, 40, .inl f10396)), (q10382, .inl (I .int, 40, .inl f10397)), (q10383, .inl (I .int, 200, .inl f10398)), (q10384, .inl (I .int, 200, .inl f10399)), (q10385, .inl (I .int, 200, .inl f10400)), (q10386, .inl (I .int, 200, .inl f10401)), (q10387, .inl (I .int, 200, .inl f10402)), (q10388, .inl (I .int, 200, .inl f10403)), (q10377, .inr (9, [.ref q10379, .int o10429])), (q10379, .inl (I .byte, 16384, .inl f10430))]) (cs' := 0) (sl' := 0) rfl rfl rfl ?_
      refine G_aload_n 1 d_cX4_addSource_62 rfl ?_
      refine G_getfN 0 3 d_cX4_addSource_63 rfl (gk_X0 D I) (Nat.le_of_ble_eq_true rfl) (fun _ _ _ h => gn_w 15 rfl h) rfl ?_
      refine G_iload_n 2 d_cX4_addSource_66 rfl ?_
      refine G_iald 4 0 d_cX4_addSource_67 rfl rfl (gB_in bp10389 (by decide) (by decide)) (G_eqi (y := z10405) hz10405.symm ?_)
      refine G_bipush 14 d_cX4_addSource_68 (by decide +kernel) ?_
      refine G_icmp_ge 99 d_cX4_addSource_70 (by decide +kernel) (fun hc10431 => ?_) (fun hc10431 => ?_)
      · have r10432 : 14 ≤ z10405.toInt := gj_leL hc10431 (show Int32.toInt 14 = 14 by decide)
        have bz10405' : gB z10405 14 21 := ⟨by omega, by omega⟩
        refine G_sub (ws' := [(q10377, .inr (9, [.ref q10379, .int o10429])), (q10378, .inr (5, [.ref q10380, .ref q10381, .ref q10382, .ref q10383, .ref q10384, .ref q10385, .ref q10386, .ref q10387, .ref q10388, .int p10391, .int p10392, .int p10393])), (q10379, .inl (I .byte, 16384, .inl f10430)), (q10380, .inl (I .int, 40, .inl f10395)), (q10381, .inl (I .int, 40, .inl f10396)), (q10382, .inl (I .int, 40, .inl f10397)), (q10383, .inl (I .int, 200, .inl f10398)), (q10384, .inl (I .int, 200, .inl f10399)), (q10385, .inl (I .int, 200, .inl f10400)), (q10386, .inl (I .int, 200, .inl f10401)), (q10387, .inl (I .int, 200, .inl f10402)), (q10388, .inl (I .int, 200, .inl f10403))]) [10, 0, 11, 1, 2, 3, 4, 5, 6, 7, 8, 9] rfl rfl ?_
        exact G_vret d_cX4_addSource_99 rfl (Nat.le_of_ble_eq_true rfl) (Nat.le_of_ble_eq_true rfl) ⟨o10429, f10430, rfl, rfl, bo10429, bf10430⟩
      · have r10433 : z10405.toInt < 14 := gj_nleL hc10431 (show Int32.toInt 14 = 14 by decide)
        have bz10405' : gB z10405 0 13 := ⟨by omega, by omega⟩
        refine G_aload_n 0 d_cX4_addSource_73 rfl ?_
        refine G_aload_n 1 d_cX4_addSource_74 rfl ?_
        refine G_getfN 0 3 d_cX4_addSource_75 rfl (gk_X0 D I) (Nat.le_of_ble_eq_true rfl) (fun _ _ _ h => gn_w 15 rfl h) rfl ?_
        refine G_iload_n 2 d_cX4_addSource_78 rfl ?_
        refine G_iald 4 0 d_cX4_addSource_79 rfl rfl (gB_in bp10389 (by decide) (by decide)) (G_eqi (y := z10405) hz10405.symm ?_)
        refine G_callV (As := [.int z10405]) (wr := [(q10378, .inr (5, [.ref q10380, .ref q10381, .ref q10382, .ref q10383, .ref q10384, .ref q10385, .ref q10386, .ref q10387, .ref q10388, .int p10391, .int p10392, .int p10393])), (q10380, .inl (I .int, 40, .inl f10395)), (q10381, .inl (I .int, 40, .inl f10396)), (q10382, .inl (I .int, 40, .inl f10397)), (q10383, .inl (I .int, 200, .inl f10398)), (q10384, .inl (I .int, 200, .inl f10399)), (q10385, .inl (I .int, 200, .inl f10400)), (q10386, .inl (I .int, 200, .inl f10401)), (q10387, .inl (I .int, 200, .inl f10402)), (q10388, .inl (I .int, 200, .inl f10403))]) (gV_ok D I) (ct_10439_Listing_addOp l hl0 D I q10377 q10379 z10405 o10429 f10430 bz10405' bo10429 bf10430) d_cX4_addSource_80 ⟨w_6_212, w_1_13, w_6_215, by decide, rfl, (Nat.le_of_ble_eq_true rfl), (Nat.le_of_ble_eq_true rfl)⟩ w_6_214 w_p_72 10 rfl rfl [10, 11] [0, 1, 2, 3, 4, 5, 6, 7, 8, 9] rfl rfl rfl rfl (by decide) (Nat.le_of_ble_eq_true rfl) (Nat.le_of_ble_eq_true rfl) (Nat.le_of_ble_eq_true rfl) (fun r w hp => ?_) (fun _ _ _ z => z.elim)
        obtain ⟨o10466, f10467, rfl, rfl, bo10466, bf10467⟩ := hp
        change G _ _ _ _ _ _ _ _ _ _ _
        refine G_ws (ws' := [(q10378, .inr (5, [.ref q10380, .ref q10381, .ref q10382, .ref q10383, .ref q10384, .ref q10385, .ref q10386, .ref q10387, .ref q10388, .int p10391, .int p10392, .int p10393])), (q10380, .inl (I .int, 40, .inl f10395)), (q10381, .inl (I .int, 40, .inl f10396)), (q10382, .inl (I .int, 40, .inl f10397)), (q10383, .inl (I .int, 200, .inl f10398)), (q10384, .inl (I .int, 200, .inl f10399)), (q10385, .inl (I .int, 200, .inl f10400)), (q10386, .inl (I .int, 200, .inl f10401)), (q10387, .inl (I .int, 200, .inl f10402)), (q10388, .inl (I .int, 200, .inl f10403)), (q10377, .inr (9, [.ref q10379, .int o10466])), (q10379, .inl (I .byte, 16384, .inl f10467))]) (cs' := 0) (sl' := 0) rfl rfl rfl ?_
        refine G_aload_n 0 d_cX4_addSource_83 rfl ?_
        refine G_aload_n 1 d_cX4_addSource_84 rfl ?_
        refine G_getfN 0 7 d_cX4_addSource_85 rfl (gk_X0 D I) (Nat.le_of_ble_eq_true rfl) (fun _ _ _ h => gn_w 31 rfl h) rfl ?_
        refine G_iload_n 2 d_cX4_addSource_88 rfl ?_
        refine G_iald 8 0 d_cX4_addSource_89 rfl rfl (gB_in bp10389 (by decide) (by decide)) (G_nam fun z10468 hz10468 => ?_)
        have bz10468 : gB z10468 (-2147483648) 2147483647 := gB_any z10468
        refine G_aload_n 1 d_cX4_addSource_90 rfl ?_
        refine G_getfN 0 8 d_cX4_addSource_91 rfl (gk_X0 D I) (Nat.le_of_ble_eq_true rfl) (fun _ _ _ h => gn_w 34 rfl h) rfl ?_
        refine G_iload_n 2 d_cX4_addSource_94 rfl ?_
        refine G_iald 9 0 d_cX4_addSource_95 rfl rfl (gB_in bp10389 (by decide) (by decide)) (G_nam fun z10469 hz10469 => ?_)
        have bz10469 : gB z10469 (-2147483648) 2147483647 := gB_any z10469
        refine G_callV (As := [.int z10468, .int z10469]) (wr := [(q10378, .inr (5, [.ref q10380, .ref q10381, .ref q10382, .ref q10383, .ref q10384, .ref q10385, .ref q10386, .ref q10387, .ref q10388, .int p10391, .int p10392, .int p10393])), (q10380, .inl (I .int, 40, .inl f10395)), (q10381, .inl (I .int, 40, .inl f10396)), (q10382, .inl (I .int, 40, .inl f10397)), (q10383, .inl (I .int, 200, .inl f10398)), (q10384, .inl (I .int, 200, .inl f10399)), (q10385, .inl (I .int, 200, .inl f10400)), (q10386, .inl (I .int, 200, .inl f10401)), (q10387, .inl (I .int, 200, .inl f10402)), (q10388, .inl (I .int, 200, .inl f10403))]) (gV_ok D I) (ct_10418_Listing_addOperand l hl0 D I q10377 q10379 z10468 z10469 o10466 f10467 (gB_w bo10466 (by decide) (by decide)) bf10467) d_cX4_addSource_96 ⟨w_6_191, w_1_13, w_6_194, by decide, rfl, (Nat.le_of_ble_eq_true rfl), (Nat.le_of_ble_eq_true rfl)⟩ w_6_193 w_p_69 10 rfl rfl [10, 11] [0, 1, 2, 3, 4, 5, 6, 7, 8, 9] rfl rfl rfl rfl (by decide) (Nat.le_of_ble_eq_true rfl) (Nat.le_of_ble_eq_true rfl) (Nat.le_of_ble_eq_true rfl) (fun r w hp => ?_) (fun _ _ _ z => z.elim)
        obtain ⟨o10470, f10471, rfl, rfl, bo10470, bf10471⟩ := hp
        change G _ _ _ _ _ _ _ _ _ _ _
        refine G_ws (ws' := [(q10378, .inr (5, [.ref q10380, .ref q10381, .ref q10382, .ref q10383, .ref q10384, .ref q10385, .ref q10386, .ref q10387, .ref q10388, .int p10391, .int p10392, .int p10393])), (q10380, .inl (I .int, 40, .inl f10395)), (q10381, .inl (I .int, 40, .inl f10396)), (q10382, .inl (I .int, 40, .inl f10397)), (q10383, .inl (I .int, 200, .inl f10398)), (q10384, .inl (I .int, 200, .inl f10399)), (q10385, .inl (I .int, 200, .inl f10400)), (q10386, .inl (I .int, 200, .inl f10401)), (q10387, .inl (I .int, 200, .inl f10402)), (q10388, .inl (I .int, 200, .inl f10403)), (q10377, .inr (9, [.ref q10379, .int o10470])), (q10379, .inl (I .byte, 16384, .inl f10471))]) (cs' := 0) (sl' := 0) rfl rfl rfl ?_
        refine G_sub (ws' := [(q10377, .inr (9, [.ref q10379, .int o10470])), (q10378, .inr (5, [.ref q10380, .ref q10381, .ref q10382, .ref q10383, .ref q10384, .ref q10385, .ref q10386, .ref q10387, .ref q10388, .int p10391, .int p10392, .int p10393])), (q10379, .inl (I .byte, 16384, .inl f10471)), (q10380, .inl (I .int, 40, .inl f10395)), (q10381, .inl (I .int, 40, .inl f10396)), (q10382, .inl (I .int, 40, .inl f10397)), (q10383, .inl (I .int, 200, .inl f10398)), (q10384, .inl (I .int, 200, .inl f10399)), (q10385, .inl (I .int, 200, .inl f10400)), (q10386, .inl (I .int, 200, .inl f10401)), (q10387, .inl (I .int, 200, .inl f10402)), (q10388, .inl (I .int, 200, .inl f10403))]) [10, 0, 11, 1, 2, 3, 4, 5, 6, 7, 8, 9] rfl rfl ?_
        exact G_vret d_cX4_addSource_99 rfl (Nat.le_of_ble_eq_true rfl) (Nat.le_of_ble_eq_true rfl) ⟨o10470, f10471, rfl, rfl, bo10470, bf10471⟩
    · have r10472 : z10405.toInt = 17 := gj_eq hc10408 (show Int32.toInt 17 = 17 by decide)
      have bz10405' : gB z10405 17 17 := ⟨by omega, by omega⟩
      refine G_aload_n 0 d_cX4_addSource_31 rfl ?_
      refine G_ldcK (a := D.2 1000 26) d_cX4_addSource_32 (fun _ _ _ h => gx_vk 26 rfl rfl h) ?_
      have hl26_10472 : (sb_26.length : Int) = 5 := rfl
      refine G_aload_n 1 d_cX4_addSource_34 rfl ?_
      refine G_getfN 1 8 d_cX4_addSource_35 rfl (gk_X0 D I) (Nat.le_of_ble_eq_true rfl) (fun _ _ _ h => gn_w 34 rfl h) rfl ?_
      refine G_iload_n 2 d_cX4_addSource_38 rfl ?_
      refine G_iald 11 0 d_cX4_addSource_39 rfl rfl (gB_in bp10389 (by decide) (by decide)) (G_nam fun z10474 hz10474 => ?_)
      have bz10474 : gB z10474 (-2147483648) 2147483647 := gB_any z10474
      refine G_callV (As := [.ref (D.2 1000 26), .int z10474]) (wr := [(q10378, .inr (5, [.ref q10380, .ref q10381, .ref q10382, .ref q10383, .ref q10384, .ref q10385, .ref q10386, .ref q10387, .ref q10388, .int p10391, .int p10392, .int p10393])), (q10380, .inl (I .int, 40, .inl f10395)), (q10381, .inl (I .int, 40, .inl f10396)), (q10382, .inl (I .int, 40, .inl f10397)), (q10383, .inl (I .int, 200, .inl f10398)), (q10384, .inl (I .int, 200, .inl f10399)), (q10385, .inl (I .int, 200, .inl f10400)), (q10386, .inl (I .int, 200, .inl f10401)), (q10387, .inl (I .int, 200, .inl f10402)), (q10388, .inl (I .int, 200, .inl f10403))]) (gV_ok D I) (ct_7578_Listing_addNamed l hl0 D I q10377 q10379 (D.2 1000 26) (D.2 1001 26) sb_26 z10474 p10390 f10394 (gx_sc 26 rfl rfl) (by omega) bp10390 bf10394) d_cX4_addSource_40 ⟨w_6_161, w_1_13, w_6_164, by decide, rfl, (Nat.le_of_ble_eq_true rfl), (Nat.le_of_ble_eq_true rfl)⟩ w_6_163 w_p_64 0 rfl rfl [0, 2] [1, 3, 4, 5, 6, 7, 8, 9, 10, 11] rfl rfl rfl rfl (by decide) (Nat.le_of_ble_eq_true rfl) (Nat.le_of_ble_eq_true rfl) (Nat.le_of_ble_eq_true rfl) (fun r w hp => ?_) (fun _ _ _ z => z.elim)
      obtain ⟨o10475, f10476, rfl, rfl, bo10475, bf10476⟩ := hp
      change G _ _ _ _ _ _ _ _ _ _ _
      refine G_ws (ws' := [(q10378, .inr (5, [.ref q10380, .ref q10381, .ref q10382, .ref q10383, .ref q10384, .ref q10385, .ref q10386, .ref q10387, .ref q10388, .int p10391, .int p10392, .int p10393])), (q10380, .inl (I .int, 40, .inl f10395)), (q10381, .inl (I .int, 40, .inl f10396)), (q10382, .inl (I .int, 40, .inl f10397)), (q10383, .inl (I .int, 200, .inl f10398)), (q10384, .inl (I .int, 200, .inl f10399)), (q10385, .inl (I .int, 200, .inl f10400)), (q10386, .inl (I .int, 200, .inl f10401)), (q10387, .inl (I .int, 200, .inl f10402)), (q10388, .inl (I .int, 200, .inl f10403)), (q10377, .inr (9, [.ref q10379, .int o10475])), (q10379, .inl (I .byte, 16384, .inl f10476))]) (cs' := 0) (sl' := 0) rfl rfl rfl ?_
      refine G_goto 99 d_cX4_addSource_43 (by decide +kernel) ?_
      refine G_sub (ws' := [(q10377, .inr (9, [.ref q10379, .int o10475])), (q10378, .inr (5, [.ref q10380, .ref q10381, .ref q10382, .ref q10383, .ref q10384, .ref q10385, .ref q10386, .ref q10387, .ref q10388, .int p10391, .int p10392, .int p10393])), (q10379, .inl (I .byte, 16384, .inl f10476)), (q10380, .inl (I .int, 40, .inl f10395)), (q10381, .inl (I .int, 40, .inl f10396)), (q10382, .inl (I .int, 40, .inl f10397)), (q10383, .inl (I .int, 200, .inl f10398)), (q10384, .inl (I .int, 200, .inl f10399)), (q10385, .inl (I .int, 200, .inl f10400)), (q10386, .inl (I .int, 200, .inl f10401)), (q10387, .inl (I .int, 200, .inl f10402)), (q10388, .inl (I .int, 200, .inl f10403))]) [10, 0, 11, 1, 2, 3, 4, 5, 6, 7, 8, 9] rfl rfl ?_
      exact G_vret d_cX4_addSource_99 rfl (Nat.le_of_ble_eq_true rfl) (Nat.le_of_ble_eq_true rfl) ⟨o10475, f10476, rfl, rfl, bo10475, bf10476⟩
  · have r10477 : z10405.toInt = 15 := gj_eq hc10406 (show Int32.toInt 15 = 15 by decide)
    have bz10405' : gB z10405 15 15 := ⟨by omega, by omega⟩
    refine G_aload_n 0 d_cX4_addSource_11 rfl ?_
    refine G_ldcK (a := D.2 1000 29) d_cX4_addSource_12 (fun _ _ _ h => gx_vk 29 rfl rfl h) ?_
    have hl29_10477 : (sb_29.length : Int) = 2 := rfl
    refine G_callV (As := [.ref (D.2 1000 29)]) (wr := [(q10378, .inr (5, [.ref q10380, .ref q10381, .ref q10382, .ref q10383, .ref q10384, .ref q10385, .ref q10386, .ref q10387, .ref q10388, .int p10391, .int p10392, .int p10393])), (q10380, .inl (I .int, 40, .inl f10395)), (q10381, .inl (I .int, 40, .inl f10396)), (q10382, .inl (I .int, 40, .inl f10397)), (q10383, .inl (I .int, 200, .inl f10398)), (q10384, .inl (I .int, 200, .inl f10399)), (q10385, .inl (I .int, 200, .inl f10400)), (q10386, .inl (I .int, 200, .inl f10401)), (q10387, .inl (I .int, 200, .inl f10402)), (q10388, .inl (I .int, 200, .inl f10403))]) (gV_ok D I) (ct_7586_Listing_addText l hl0 D I q10377 q10379 (D.2 1000 29) (D.2 1001 29) sb_29 p10390 f10394 (gx_sc 29 rfl rfl) (by omega) bp10390 bf10394) d_cX4_addSource_14 ⟨w_6_165, w_1_13, w_6_168, by decide, rfl, (Nat.le_of_ble_eq_true rfl), (Nat.le_of_ble_eq_true rfl)⟩ w_6_167 w_p_65 0 rfl rfl [0, 2] [1, 3, 4, 5, 6, 7, 8, 9, 10, 11] rfl rfl rfl rfl (by decide) (Nat.le_of_ble_eq_true rfl) (Nat.le_of_ble_eq_true rfl) (Nat.le_of_ble_eq_true rfl) (fun r w hp => ?_) (fun _ _ _ z => z.elim)
    obtain ⟨o10479, f10480, rfl, rfl, bo10479, bf10480⟩ := hp
    change G _ _ _ _ _ _ _ _ _ _ _
    refine G_ws (ws' := [(q10378, .inr (5, [.ref q10380, .ref q10381, .ref q10382, .ref q10383, .ref q10384, .ref q10385, .ref q10386, .ref q10387, .ref q10388, .int p10391, .int p10392, .int p10393])), (q10380, .inl (I .int, 40, .inl f10395)), (q10381, .inl (I .int, 40, .inl f10396)), (q10382, .inl (I .int, 40, .inl f10397)), (q10383, .inl (I .int, 200, .inl f10398)), (q10384, .inl (I .int, 200, .inl f10399)), (q10385, .inl (I .int, 200, .inl f10400)), (q10386, .inl (I .int, 200, .inl f10401)), (q10387, .inl (I .int, 200, .inl f10402)), (q10388, .inl (I .int, 200, .inl f10403)), (q10377, .inr (9, [.ref q10379, .int o10479])), (q10379, .inl (I .byte, 16384, .inl f10480))]) (cs' := 0) (sl' := 0) rfl rfl rfl ?_
    refine G_goto 99 d_cX4_addSource_17 (by decide +kernel) ?_
    refine G_sub (ws' := [(q10377, .inr (9, [.ref q10379, .int o10479])), (q10378, .inr (5, [.ref q10380, .ref q10381, .ref q10382, .ref q10383, .ref q10384, .ref q10385, .ref q10386, .ref q10387, .ref q10388, .int p10391, .int p10392, .int p10393])), (q10379, .inl (I .byte, 16384, .inl f10480)), (q10380, .inl (I .int, 40, .inl f10395)), (q10381, .inl (I .int, 40, .inl f10396)), (q10382, .inl (I .int, 40, .inl f10397)), (q10383, .inl (I .int, 200, .inl f10398)), (q10384, .inl (I .int, 200, .inl f10399)), (q10385, .inl (I .int, 200, .inl f10400)), (q10386, .inl (I .int, 200, .inl f10401)), (q10387, .inl (I .int, 200, .inl f10402)), (q10388, .inl (I .int, 200, .inl f10403))]) [10, 0, 11, 1, 2, 3, 4, 5, 6, 7, 8, 9] rfl rfl ?_
    exact G_vret d_cX4_addSource_99 rfl (Nat.le_of_ble_eq_true rfl) (Nat.le_of_ble_eq_true rfl) ⟨o10479, f10480, rfl, rfl, bo10479, bf10480⟩
abbrev ky_10364_Listing_addRow : gKey := (cX4_addRow, 3, yX4_addRow.cls, none, [], yX4_addRow.name, fun _ _ => True)
abbrev po_10364_Listing_addRow (I : FieldType → ClassId) (q10337 : Nat) (q10338 : Nat) (q10339 : Nat) (q10340 : Nat) (q10341 : Nat) (q10342 : Nat) (q10343 : Nat) (q10344 : Nat) (q10345 : Nat) (q10346 : Nat) (q10347 : Nat) (q10348 : Nat) (p10349 : Int32) (p10350 : Int32) (p10351 : Int32) (p10352 : Int32) (p10353 : Int32) (f10354 : Nat → Int32) (f10355 : Nat → Int32) (f10356 : Nat → Int32) (f10357 : Nat → Int32) (f10358 : Nat → Int32) (f10359 : Nat → Int32) (f10360 : Nat → Int32) (f10361 : Nat → Int32) (f10362 : Nat → Int32) (f10363 : Nat → Int32) : Option Value → va_W → Prop := fun r w => ∃ (o10502 : Int32) (f10503 : Nat → Int32), r = none ∧ w = [(q10337, .inr (9, [.ref q10339, .int o10502])), (q10338, .inr (5, [.ref q10340, .ref q10341, .ref q10342, .ref q10343, .ref q10344, .ref q10345, .ref q10346, .ref q10347, .ref q10348, .int p10351, .int p10352, .int p10353])), (q10339, .inl (I .byte, 16384, .inl f10503)), (q10340, .inl (I .int, 40, .inl f10355)), (q10341, .inl (I .int, 40, .inl f10356)), (q10342, .inl (I .int, 40, .inl f10357)), (q10343, .inl (I .int, 200, .inl f10358)), (q10344, .inl (I .int, 200, .inl f10359)), (q10345, .inl (I .int, 200, .inl f10360)), (q10346, .inl (I .int, 200, .inl f10361)), (q10347, .inl (I .int, 200, .inl f10362)), (q10348, .inl (I .int, 200, .inl f10363))] ∧ gB o10502 0 16384 ∧ gF f10503 (-128) 127
set_option maxRecDepth 100000 in
set_option maxHeartbeats 4000000 in
theorem ct_10364_Listing_addRow (l : Launch) (hl0 : l.stackTraces = false) (D : va_G) (I : FieldType → ClassId) (q10337 : Nat) (q10338 : Nat) (q10339 : Nat) (q10340 : Nat) (q10341 : Nat) (q10342 : Nat) (q10343 : Nat) (q10344 : Nat) (q10345 : Nat) (q10346 : Nat) (q10347 : Nat) (q10348 : Nat) (p10349 : Int32) (p10350 : Int32) (p10351 : Int32) (p10352 : Int32) (p10353 : Int32) (f10354 : Nat → Int32) (f10355 : Nat → Int32) (f10356 : Nat → Int32) (f10357 : Nat → Int32) (f10358 : Nat → Int32) (f10359 : Nat → Int32) (f10360 : Nat → Int32) (f10361 : Nat → Int32) (f10362 : Nat → Int32) (f10363 : Nat → Int32) (bp10349 : gB p10349 0 199) (bp10350 : gB p10350 0 16384) (bp10351 : gB p10351 0 40) (bp10352 : gB p10352 0 200) (bp10353 : gB p10353 0 1) (bf10354 : gF f10354 (-128) 127) (bf10355 : gF f10355 0 200) (bf10358 : gF f10358 0 21) : Ct (gV D I) l yX4_addRow cX4_addRow 3 none 8 173 0 0 [.ref q10337, .ref q10338, .int p10349] [(q10337, .inr (9, [.ref q10339, .int p10350])), (q10338, .inr (5, [.ref q10340, .ref q10341, .ref q10342, .ref q10343, .ref q10344, .ref q10345, .ref q10346, .ref q10347, .ref q10348, .int p10351, .int p10352, .int p10353])), (q10339, .inl (I .byte, 16384, .inl f10354)), (q10340, .inl (I .int, 40, .inl f10355)), (q10341, .inl (I .int, 40, .inl f10356)), (q10342, .inl (I .int, 40, .inl f10357)), (q10343, .inl (I .int, 200, .inl f10358)), (q10344, .inl (I .int, 200, .inl f10359)), (q10345, .inl (I .int, 200, .inl f10360)), (q10346, .inl (I .int, 200, .inl f10361)), (q10347, .inl (I .int, 200, .inl f10362)), (q10348, .inl (I .int, 200, .inl f10363))] (po_10364_Listing_addRow I q10337 q10338 q10339 q10340 q10341 q10342 q10343 q10344 q10345 q10346 q10347 q10348 p10349 p10350 p10351 p10352 p10353 f10354 f10355 f10356 f10357 f10358 f10359 f10360 f10361 f10362 f10363) gN := by
  refine Ct_of hl0 (by decide) (Nat.le_of_ble_eq_true rfl) ?_
  refine G_aload_n 1 d_cX4_addRow_0 rfl ?_
  refine G_getfN 1 3 d_cX4_addRow_1 rfl (gk_X0 D I) (Nat.le_of_ble_eq_true rfl) (fun _ _ _ h => gn_w 15 rfl h) rfl ?_
  refine G_iload_n 2 d_cX4_addRow_4 rfl ?_
  refine G_iald 6 0 d_cX4_addRow_5 rfl rfl (gB_in bp10349 (by decide) (by decide)) (G_nam fun z10365 hz10365 => ?_)
  have bz10365 : gB z10365 0 21 := by rw [hz10365]; exact bf10358 _
  refine G_bipush 16 d_cX4_addRow_6 (by decide +kernel) ?_
  refine G_icmp_ne 36 d_cX4_addRow_8 (by decide +kernel) (fun hc10366 => ?_) (fun hc10366 => ?_)
  · have r10367 : z10365.toInt ≠ 16 := gj_neq hc10366 (show Int32.toInt 16 = 16 by decide)
    refine G_aload_n 1 d_cX4_addRow_36 rfl ?_
    refine G_getfN 1 3 d_cX4_addRow_37 rfl (gk_X0 D I) (Nat.le_of_ble_eq_true rfl) (fun _ _ _ h => gn_w 15 rfl h) rfl ?_
    refine G_iload_n 2 d_cX4_addRow_40 rfl ?_
    refine G_iald 6 0 d_cX4_addRow_41 rfl rfl (gB_in bp10349 (by decide) (by decide)) (G_eqi (y := z10365) hz10365.symm ?_)
    refine G_bipush 18 d_cX4_addRow_42 (by decide +kernel) ?_
    refine G_icmp_ne 74 d_cX4_addRow_44 (by decide +kernel) (fun hc10368 => ?_) (fun hc10368 => ?_)
    · have r10369 : z10365.toInt ≠ 18 := gj_neq hc10368 (show Int32.toInt 18 = 18 by decide)
      refine G_aload_n 0 d_cX4_addRow_74 rfl ?_
      refine G_ldcK (a := D.2 1000 21) d_cX4_addRow_75 (fun _ _ _ h => gx_vk 21 rfl rfl h) ?_
      have hl21_10369 : (sb_21.length : Int) = 1 := rfl
      refine G_aload_n 1 d_cX4_addRow_77 rfl ?_
      refine G_getfN 1 4 d_cX4_addRow_78 rfl (gk_X0 D I) (Nat.le_of_ble_eq_true rfl) (fun _ _ _ h => gn_w 19 rfl h) rfl ?_
      refine G_iload_n 2 d_cX4_addRow_81 rfl ?_
      refine G_iald 7 0 d_cX4_addRow_82 rfl rfl (gB_in bp10349 (by decide) (by decide)) (G_nam fun z10371 hz10371 => ?_)
      have bz10371 : gB z10371 (-2147483648) 2147483647 := gB_any z10371
      refine G_callV (As := [.ref (D.2 1000 21), .int z10371]) (wr := [(q10338, .inr (5, [.ref q10340, .ref q10341, .ref q10342, .ref q10343, .ref q10344, .ref q10345, .ref q10346, .ref q10347, .ref q10348, .int p10351, .int p10352, .int p10353])), (q10340, .inl (I .int, 40, .inl f10355)), (q10341, .inl (I .int, 40, .inl f10356)), (q10342, .inl (I .int, 40, .inl f10357)), (q10343, .inl (I .int, 200, .inl f10358)), (q10344, .inl (I .int, 200, .inl f10359)), (q10345, .inl (I .int, 200, .inl f10360)), (q10346, .inl (I .int, 200, .inl f10361)), (q10347, .inl (I .int, 200, .inl f10362)), (q10348, .inl (I .int, 200, .inl f10363))]) (gV_ok D I) (ct_7578_Listing_addNamed l hl0 D I q10337 q10339 (D.2 1000 21) (D.2 1001 21) sb_21 z10371 p10350 f10354 (gx_sc 21 rfl rfl) (by omega) bp10350 bf10354) d_cX4_addRow_83 ⟨w_6_161, w_1_13, w_6_164, by decide, rfl, (Nat.le_of_ble_eq_true rfl), (Nat.le_of_ble_eq_true rfl)⟩ w_6_163 w_p_64 0 rfl rfl [0, 2] [1, 3, 4, 5, 6, 7, 8, 9, 10, 11] rfl rfl rfl rfl (by decide) (Nat.le_of_ble_eq_true rfl) (Nat.le_of_ble_eq_true rfl) (Nat.le_of_ble_eq_true rfl) (fun r w hp => ?_) (fun _ _ _ z => z.elim)
      obtain ⟨o10372, f10373, rfl, rfl, bo10372, bf10373⟩ := hp
      change G _ _ _ _ _ _ _ _ _ _ _
      refine G_ws (ws' := [(q10338, .inr (5, [.ref q10340, .ref q10341, .ref q10342, .ref q10343, .ref q10344, .ref q10345, .ref q10346, .ref q10347, .ref q10348, .int p10351, .int p10352, .int p10353])), (q10340, .inl (I .int, 40, .inl f10355)), (q10341, .inl (I .int, 40, .inl f10356)), (q10342, .inl (I .int, 40, .inl f10357)), (q10343, .inl (I .int, 200, .inl f10358)), (q10344, .inl (I .int, 200, .inl f10359)), (q10345, .inl (I .int, 200, .inl f10360)), (q10346, .inl (I .int, 200, .inl f10361)), (q10347, .inl (I .int, 200, .inl f10362)), (q10348, .inl (I .int, 200, .inl f10363)), (q10337, .inr (9, [.ref q10339, .int o10372])), (q10339, .inl (I .byte, 16384, .inl f10373))]) (cs' := 0) (sl' := 0) rfl rfl rfl ?_
      refine G_aload_n 0 d_cX4_addRow_86 rfl ?_
      refine G_ldcK (a := D.2 1000 28) d_cX4_addRow_87 (fun _ _ _ h => gx_vk 28 rfl rfl h) ?_
      have hl28_10373 : (sb_28.length : Int) = 3 := rfl
      refine G_callV (As := [.ref (D.2 1000 28)]) (wr := [(q10338, .inr (5, [.ref q10340, .ref q10341, .ref q10342, .ref q10343, .ref q10344, .ref q10345, .ref q10346, .ref q10347, .ref q10348, .int p10351, .int p10352, .int p10353])), (q10340, .inl (I .int, 40, .inl f10355)), (q10341, .inl (I .int, 40, .inl f10356)), (q10342, .inl (I .int, 40, .inl f10357)), (q10343, .inl (I .int, 200, .inl f10358)), (q10344, .inl (I .int, 200, .inl f10359)), (q10345, .inl (I .int, 200, .inl f10360)), (q10346, .inl (I .int, 200, .inl f10361)), (q10347, .inl (I .int, 200, .inl f10362)), (q10348, .inl (I .int, 200, .inl f10363))]) (gV_ok D I) (ct_7586_Listing_addText l hl0 D I q10337 q10339 (D.2 1000 28) (D.2 1001 28) sb_28 o10372 f10373 (gx_sc 28 rfl rfl) (by omega) bo10372 bf10373) d_cX4_addRow_89 ⟨w_6_165, w_1_13, w_6_168, by decide, rfl, (Nat.le_of_ble_eq_true rfl), (Nat.le_of_ble_eq_true rfl)⟩ w_6_167 w_p_65 10 rfl rfl [10, 11] [0, 1, 2, 3, 4, 5, 6, 7, 8, 9] rfl rfl rfl rfl (by decide) (Nat.le_of_ble_eq_true rfl) (Nat.le_of_ble_eq_true rfl) (Nat.le_of_ble_eq_true rfl) (fun r w hp => ?_) (fun _ _ _ z => z.elim)
      obtain ⟨o10375, f10376, rfl, rfl, bo10375, bf10376⟩ := hp
      change G _ _ _ _ _ _ _ _ _ _ _
      refine G_ws (ws' := [(q10338, .inr (5, [.ref q10340, .ref q10341, .ref q10342, .ref q10343, .ref q10344, .ref q10345, .ref q10346, .ref q10347, .ref q10348, .int p10351, .int p10352, .int p10353])), (q10340, .inl (I .int, 40, .inl f10355)), (q10341, .inl (I .int, 40, .inl f10356)), (q10342, .inl (I .int, 40, .inl f10357)), (q10343, .inl (I .int, 200, .inl f10358)), (q10344, .inl (I .int, 200, .inl f10359)), (q10345, .inl (I .int, 200, .inl f10360)), (q10346, .inl (I .int, 200, .inl f10361)), (q10347, .inl (I .int, 200, .inl f10362)), (q10348, .inl (I .int, 200, .inl f10363)), (q10337, .inr (9, [.ref q10339, .int o10375])), (q10339, .inl (I .byte, 16384, .inl f10376))]) (cs' := 0) (sl' := 0) rfl rfl rfl ?_
      refine G_aload_n 0 d_cX4_addRow_92 rfl ?_
      refine G_aload_n 1 d_cX4_addRow_93 rfl ?_
      refine G_iload_n 2 d_cX4_addRow_94 rfl ?_
      refine G_callV (As := [.ref q10338, .int p10349]) (wr := []) (gV_ok D I) (ct_10404_Listing_addSource l hl0 D I q10337 q10338 q10339 q10340 q10341 q10342 q10343 q10344 q10345 q10346 q10347 q10348 p10349 o10375 p10351 p10352 p10353 f10376 f10355 f10356 f10357 f10358 f10359 f10360 f10361 f10362 f10363 bp10349 bo10375 bp10351 bp10352 bp10353 bf10376 bf10355 bf10358) d_cX4_addRow_95 ⟨w_6_207, w_1_13, w_6_210, by decide, rfl, (Nat.le_of_ble_eq_true rfl), (Nat.le_of_ble_eq_true rfl)⟩ w_6_209 w_p_71 10 rfl rfl [10, 0, 11, 1, 2, 3, 4, 5, 6, 7, 8, 9] [] rfl rfl rfl rfl (by decide) (Nat.le_of_ble_eq_true rfl) (Nat.le_of_ble_eq_true rfl) (Nat.le_of_ble_eq_true rfl) (fun r w hp => ?_) (fun _ _ _ z => z.elim)
      obtain ⟨o10483, f10484, rfl, rfl, bo10483, bf10484⟩ := hp
      change G _ _ _ _ _ _ _ _ _ _ _
      refine G_ws (ws' := [(q10337, .inr (9, [.ref q10339, .int o10483])), (q10338, .inr (5, [.ref q10340, .ref q10341, .ref q10342, .ref q10343, .ref q10344, .ref q10345, .ref q10346, .ref q10347, .ref q10348, .int p10351, .int p10352, .int p10353])), (q10339, .inl (I .byte, 16384, .inl f10484)), (q10340, .inl (I .int, 40, .inl f10355)), (q10341, .inl (I .int, 40, .inl f10356)), (q10342, .inl (I .int, 40, .inl f10357)), (q10343, .inl (I .int, 200, .inl f10358)), (q10344, .inl (I .int, 200, .inl f10359)), (q10345, .inl (I .int, 200, .inl f10360)), (q10346, .inl (I .int, 200, .inl f10361)), (q10347, .inl (I .int, 200, .inl f10362)), (q10348, .inl (I .int, 200, .inl f10363))]) (cs' := 0) (sl' := 0) rfl rfl rfl ?_
      exact G_vret d_cX4_addRow_98 rfl (Nat.le_of_ble_eq_true rfl) (Nat.le_of_ble_eq_true rfl) ⟨o10483, f10484, rfl, rfl, bo10483, bf10484⟩
    · have r10485 : z10365.toInt = 18 := gj_eq hc10368 (show Int32.toInt 18 = 18 by decide)
      have bz10365' : gB z10365 18 18 := ⟨by omega, by omega⟩
      refine G_aload_n 0 d_cX4_addRow_47 rfl ?_
      refine G_ldcK (a := D.2 1000 26) d_cX4_addRow_48 (fun _ _ _ h => gx_vk 26 rfl rfl h) ?_
      have hl26_10485 : (sb_26.length : Int) = 5 := rfl
      refine G_aload_n 1 d_cX4_addRow_50 rfl ?_
      refine G_getfN 1 8 d_cX4_addRow_51 rfl (gk_X0 D I) (Nat.le_of_ble_eq_true rfl) (fun _ _ _ h => gn_w 34 rfl h) rfl ?_
      refine G_iload_n 2 d_cX4_addRow_54 rfl ?_
      refine G_iald 11 0 d_cX4_addRow_55 rfl rfl (gB_in bp10349 (by decide) (by decide)) (G_nam fun z10487 hz10487 => ?_)
      have bz10487 : gB z10487 (-2147483648) 2147483647 := gB_any z10487
      refine G_callV (As := [.ref (D.2 1000 26), .int z10487]) (wr := [(q10338, .inr (5, [.ref q10340, .ref q10341, .ref q10342, .ref q10343, .ref q10344, .ref q10345, .ref q10346, .ref q10347, .ref q10348, .int p10351, .int p10352, .int p10353])), (q10340, .inl (I .int, 40, .inl f10355)), (q10341, .inl (I .int, 40, .inl f10356)), (q10342, .inl (I .int, 40, .inl f10357)), (q10343, .inl (I .int, 200, .inl f10358)), (q10344, .inl (I .int, 200, .inl f10359)), (q10345, .inl (I .int, 200, .inl f10360)), (q10346, .inl (I .int, 200, .inl f10361)), (q10347, .inl (I .int, 200, .inl f10362)), (q10348, .inl (I .int, 200, .inl f10363))]) (gV_ok D I) (ct_7578_Listing_addNamed l hl0 D I q10337 q10339 (D.2 1000 26) (D.2 1001 26) sb_26 z10487 p10350 f10354 (gx_sc 26 rfl rfl) (by omega) bp10350 bf10354) d_cX4_addRow_56 ⟨w_6_161, w_1_13, w_6_164, by decide, rfl, (Nat.le_of_ble_eq_true rfl), (Nat.le_of_ble_eq_true rfl)⟩ w_6_163 w_p_64 0 rfl rfl [0, 2] [1, 3, 4, 5, 6, 7, 8, 9, 10, 11] rfl rfl rfl rfl (by decide) (Nat.le_of_ble_eq_true rfl) (Nat.le_of_ble_eq_true rfl) (Nat.le_of_ble_eq_true rfl) (fun r w hp => ?_) (fun _ _ _ z => z.elim)
      obtain ⟨o10488, f10489, rfl, rfl, bo10488, bf10489⟩ := hp
      change G _ _ _ _ _ _ _ _ _ _ _
      refine G_ws (ws' := [(q10338, .inr (5, [.ref q10340, .ref q10341, .ref q10342, .ref q10343, .ref q10344, .ref q10345, .ref q10346, .ref q10347, .ref q10348, .int p10351, .int p10352, .int p10353])), (q10340, .inl (I .int, 40, .inl f10355)), (q10341, .inl (I .int, 40, .inl f10356)), (q10342, .inl (I .int, 40, .inl f10357)), (q10343, .inl (I .int, 200, .inl f10358)), (q10344, .inl (I .int, 200, .inl f10359)), (q10345, .inl (I .int, 200, .inl f10360)), (q10346, .inl (I .int, 200, .inl f10361)), (q10347, .inl (I .int, 200, .inl f10362)), (q10348, .inl (I .int, 200, .inl f10363)), (q10337, .inr (9, [.ref q10339, .int o10488])), (q10339, .inl (I .byte, 16384, .inl f10489))]) (cs' := 0) (sl' := 0) rfl rfl rfl ?_
      refine G_aload_n 0 d_cX4_addRow_59 rfl ?_
      refine G_ldcK (a := D.2 1000 27) d_cX4_addRow_60 (fun _ _ _ h => gx_vk 27 rfl rfl h) ?_
      have hl27_10489 : (sb_27.length : Int) = 4 := rfl
      refine G_aload_n 1 d_cX4_addRow_62 rfl ?_
      refine G_getfN 0 5 d_cX4_addRow_63 rfl (gk_X0 D I) (Nat.le_of_ble_eq_true rfl) (fun _ _ _ h => gn_w 23 rfl h) rfl ?_
      refine G_iload_n 2 d_cX4_addRow_66 rfl ?_
      refine G_iald 6 0 d_cX4_addRow_67 rfl rfl (gB_in bp10349 (by decide) (by decide)) (G_nam fun z10491 hz10491 => ?_)
      have bz10491 : gB z10491 (-2147483648) 2147483647 := gB_any z10491
      refine G_callV (As := [.ref (D.2 1000 27), .int z10491]) (wr := [(q10338, .inr (5, [.ref q10340, .ref q10341, .ref q10342, .ref q10343, .ref q10344, .ref q10345, .ref q10346, .ref q10347, .ref q10348, .int p10351, .int p10352, .int p10353])), (q10340, .inl (I .int, 40, .inl f10355)), (q10341, .inl (I .int, 40, .inl f10356)), (q10342, .inl (I .int, 40, .inl f10357)), (q10343, .inl (I .int, 200, .inl f10358)), (q10344, .inl (I .int, 200, .inl f10359)), (q10345, .inl (I .int, 200, .inl f10360)), (q10346, .inl (I .int, 200, .inl f10361)), (q10347, .inl (I .int, 200, .inl f10362)), (q10348, .inl (I .int, 200, .inl f10363))]) (gV_ok D I) (ct_7578_Listing_addNamed l hl0 D I q10337 q10339 (D.2 1000 27) (D.2 1001 27) sb_27 z10491 o10488 f10489 (gx_sc 27 rfl rfl) (by omega) bo10488 bf10489) d_cX4_addRow_68 ⟨w_6_161, w_1_13, w_6_164, by decide, rfl, (Nat.le_of_ble_eq_true rfl), (Nat.le_of_ble_eq_true rfl)⟩ w_6_163 w_p_64 10 rfl rfl [10, 11] [0, 1, 2, 3, 4, 5, 6, 7, 8, 9] rfl rfl rfl rfl (by decide) (Nat.le_of_ble_eq_true rfl) (Nat.le_of_ble_eq_true rfl) (Nat.le_of_ble_eq_true rfl) (fun r w hp => ?_) (fun _ _ _ z => z.elim)
      obtain ⟨o10492, f10493, rfl, rfl, bo10492, bf10493⟩ := hp
      change G _ _ _ _ _ _ _ _ _ _ _
      refine G_ws (ws' := [(q10338, .inr (5, [.ref q10340, .ref q10341, .ref q10342, .ref q10343, .ref q10344, .ref q10345, .ref q10346, .ref q10347, .ref q10348, .int p10351, .int p10352, .int p10353])), (q10340, .inl (I .int, 40, .inl f10355)), (q10341, .inl (I .int, 40, .inl f10356)), (q10342, .inl (I .int, 40, .inl f10357)), (q10343, .inl (I .int, 200, .inl f10358)), (q10344, .inl (I .int, 200, .inl f10359)), (q10345, .inl (I .int, 200, .inl f10360)), (q10346, .inl (I .int, 200, .inl f10361)), (q10347, .inl (I .int, 200, .inl f10362)), (q10348, .inl (I .int, 200, .inl f10363)), (q10337, .inr (9, [.ref q10339, .int o10492])), (q10339, .inl (I .byte, 16384, .inl f10493))]) (cs' := 0) (sl' := 0) rfl rfl rfl ?_
      refine G_goto 98 d_cX4_addRow_71 (by decide +kernel) ?_
      refine G_sub (ws' := [(q10337, .inr (9, [.ref q10339, .int o10492])), (q10338, .inr (5, [.ref q10340, .ref q10341, .ref q10342, .ref q10343, .ref q10344, .ref q10345, .ref q10346, .ref q10347, .ref q10348, .int p10351, .int p10352, .int p10353])), (q10339, .inl (I .byte, 16384, .inl f10493)), (q10340, .inl (I .int, 40, .inl f10355)), (q10341, .inl (I .int, 40, .inl f10356)), (q10342, .inl (I .int, 40, .inl f10357)), (q10343, .inl (I .int, 200, .inl f10358)), (q10344, .inl (I .int, 200, .inl f10359)), (q10345, .inl (I .int, 200, .inl f10360)), (q10346, .inl (I .int, 200, .inl f10361)), (q10347, .inl (I .int, 200, .inl f10362)), (q10348, .inl (I .int, 200, .inl f10363))]) [10, 0, 11, 1, 2, 3, 4, 5, 6, 7, 8, 9] rfl rfl ?_
      exact G_vret d_cX4_addRow_98 rfl (Nat.le_of_ble_eq_true rfl) (Nat.le_of_ble_eq_true rfl) ⟨o10492, f10493, rfl, rfl, bo10492, bf10493⟩
  · have r10494 : z10365.toInt = 16 := gj_eq hc10366 (show Int32.toInt 16 = 16 by decide)
    have bz10365' : gB z10365 16 16 := ⟨by omega, by omega⟩
    refine G_aload_n 0 d_cX4_addRow_11 rfl ?_
    refine G_ldcK (a := D.2 1000 25) d_cX4_addRow_12 (fun _ _ _ h => gx_vk 25 rfl rfl h) ?_
    have hl25_10494 : (sb_25.length : Int) = 5 := rfl
    refine G_callV (As := [.ref (D.2 1000 25)]) (wr := [(q10338, .inr (5, [.ref q10340, .ref q10341, .ref q10342, .ref q10343, .ref q10344, .ref q10345, .ref q10346, .ref q10347, .ref q10348, .int p10351, .int p10352, .int p10353])), (q10340, .inl (I .int, 40, .inl f10355)), (q10341, .inl (I .int, 40, .inl f10356)), (q10342, .inl (I .int, 40, .inl f10357)), (q10343, .inl (I .int, 200, .inl f10358)), (q10344, .inl (I .int, 200, .inl f10359)), (q10345, .inl (I .int, 200, .inl f10360)), (q10346, .inl (I .int, 200, .inl f10361)), (q10347, .inl (I .int, 200, .inl f10362)), (q10348, .inl (I .int, 200, .inl f10363))]) (gV_ok D I) (ct_7586_Listing_addText l hl0 D I q10337 q10339 (D.2 1000 25) (D.2 1001 25) sb_25 p10350 f10354 (gx_sc 25 rfl rfl) (by omega) bp10350 bf10354) d_cX4_addRow_14 ⟨w_6_165, w_1_13, w_6_168, by decide, rfl, (Nat.le_of_ble_eq_true rfl), (Nat.le_of_ble_eq_true rfl)⟩ w_6_167 w_p_65 0 rfl rfl [0, 2] [1, 3, 4, 5, 6, 7, 8, 9, 10, 11] rfl rfl rfl rfl (by decide) (Nat.le_of_ble_eq_true rfl) (Nat.le_of_ble_eq_true rfl) (Nat.le_of_ble_eq_true rfl) (fun r w hp => ?_) (fun _ _ _ z => z.elim)
    obtain ⟨o10496, f10497, rfl, rfl, bo10496, bf10497⟩ := hp
    change G _ _ _ _ _ _ _ _ _ _ _
    refine G_ws (ws' := [(q10338, .inr (5, [.ref q10340, .ref q10341, .ref q10342, .ref q10343, .ref q10344, .ref q10345, .ref q10346, .ref q10347, .ref q10348, .int p10351, .int p10352, .int p10353])), (q10340, .inl (I .int, 40, .inl f10355)), (q10341, .inl (I .int, 40, .inl f10356)), (q10342, .inl (I .int, 40, .inl f10357)), (q10343, .inl (I .int, 200, .inl f10358)), (q10344, .inl (I .int, 200, .inl f10359)), (q10345, .inl (I .int, 200, .inl f10360)), (q10346, .inl (I .int, 200, .inl f10361)), (q10347, .inl (I .int, 200, .inl f10362)), (q10348, .inl (I .int, 200, .inl f10363)), (q10337, .inr (9, [.ref q10339, .int o10496])), (q10339, .inl (I .byte, 16384, .inl f10497))]) (cs' := 0) (sl' := 0) rfl rfl rfl ?_
    refine G_aload_n 0 d_cX4_addRow_17 rfl ?_
    refine G_aload_n 1 d_cX4_addRow_18 rfl ?_
    refine G_getfN 0 5 d_cX4_addRow_19 rfl (gk_X0 D I) (Nat.le_of_ble_eq_true rfl) (fun _ _ _ h => gn_w 23 rfl h) rfl ?_
    refine G_iload_n 2 d_cX4_addRow_22 rfl ?_
    refine G_iald 6 0 d_cX4_addRow_23 rfl rfl (gB_in bp10349 (by decide) (by decide)) (G_nam fun z10498 hz10498 => ?_)
    have bz10498 : gB z10498 (-2147483648) 2147483647 := gB_any z10498
    refine G_aload_n 1 d_cX4_addRow_24 rfl ?_
    refine G_getfN 0 6 d_cX4_addRow_25 rfl (gk_X0 D I) (Nat.le_of_ble_eq_true rfl) (fun _ _ _ h => gn_w 27 rfl h) rfl ?_
    refine G_iload_n 2 d_cX4_addRow_28 rfl ?_
    refine G_iald 7 0 d_cX4_addRow_29 rfl rfl (gB_in bp10349 (by decide) (by decide)) (G_nam fun z10499 hz10499 => ?_)
    have bz10499 : gB z10499 (-2147483648) 2147483647 := gB_any z10499
    refine G_callV (As := [.int z10498, .int z10499]) (wr := [(q10338, .inr (5, [.ref q10340, .ref q10341, .ref q10342, .ref q10343, .ref q10344, .ref q10345, .ref q10346, .ref q10347, .ref q10348, .int p10351, .int p10352, .int p10353])), (q10340, .inl (I .int, 40, .inl f10355)), (q10341, .inl (I .int, 40, .inl f10356)), (q10342, .inl (I .int, 40, .inl f10357)), (q10343, .inl (I .int, 200, .inl f10358)), (q10344, .inl (I .int, 200, .inl f10359)), (q10345, .inl (I .int, 200, .inl f10360)), (q10346, .inl (I .int, 200, .inl f10361)), (q10347, .inl (I .int, 200, .inl f10362)), (q10348, .inl (I .int, 200, .inl f10363))]) (gV_ok D I) (ct_10418_Listing_addOperand l hl0 D I q10337 q10339 z10498 z10499 o10496 f10497 bo10496 bf10497) d_cX4_addRow_30 ⟨w_6_191, w_1_13, w_6_194, by decide, rfl, (Nat.le_of_ble_eq_true rfl), (Nat.le_of_ble_eq_true rfl)⟩ w_6_193 w_p_69 10 rfl rfl [10, 11] [0, 1, 2, 3, 4, 5, 6, 7, 8, 9] rfl rfl rfl rfl (by decide) (Nat.le_of_ble_eq_true rfl) (Nat.le_of_ble_eq_true rfl) (Nat.le_of_ble_eq_true rfl) (fun r w hp => ?_) (fun _ _ _ z => z.elim)
    obtain ⟨o10500, f10501, rfl, rfl, bo10500, bf10501⟩ := hp
    change G _ _ _ _ _ _ _ _ _ _ _
    refine G_ws (ws' := [(q10338, .inr (5, [.ref q10340, .ref q10341, .ref q10342, .ref q10343, .ref q10344, .ref q10345, .ref q10346, .ref q10347, .ref q10348, .int p10351, .int p10352, .int p10353])), (q10340, .inl (I .int, 40, .inl f10355)), (q10341, .inl (I .int, 40, .inl f10356)), (q10342, .inl (I .int, 40, .inl f10357)), (q10343, .inl (I .int, 200, .inl f10358)), (q10344, .inl (I .int, 200, .inl f10359)), (q10345, .inl (I .int, 200, .inl f10360)), (q10346, .inl (I .int, 200, .inl f10361)), (q10347, .inl (I .int, 200, .inl f10362)), (q10348, .inl (I .int, 200, .inl f10363)), (q10337, .inr (9, [.ref q10339, .int o10500])), (q10339, .inl (I .byte, 16384, .inl f10501))]) (cs' := 0) (sl' := 0) rfl rfl rfl ?_
    refine G_goto 98 d_cX4_addRow_33 (by decide +kernel) ?_
    refine G_sub (ws' := [(q10337, .inr (9, [.ref q10339, .int o10500])), (q10338, .inr (5, [.ref q10340, .ref q10341, .ref q10342, .ref q10343, .ref q10344, .ref q10345, .ref q10346, .ref q10347, .ref q10348, .int p10351, .int p10352, .int p10353])), (q10339, .inl (I .byte, 16384, .inl f10501)), (q10340, .inl (I .int, 40, .inl f10355)), (q10341, .inl (I .int, 40, .inl f10356)), (q10342, .inl (I .int, 40, .inl f10357)), (q10343, .inl (I .int, 200, .inl f10358)), (q10344, .inl (I .int, 200, .inl f10359)), (q10345, .inl (I .int, 200, .inl f10360)), (q10346, .inl (I .int, 200, .inl f10361)), (q10347, .inl (I .int, 200, .inl f10362)), (q10348, .inl (I .int, 200, .inl f10363))]) [10, 0, 11, 1, 2, 3, 4, 5, 6, 7, 8, 9] rfl rfl ?_
    exact G_vret d_cX4_addRow_98 rfl (Nat.le_of_ble_eq_true rfl) (Nat.le_of_ble_eq_true rfl) ⟨o10500, f10501, rfl, rfl, bo10500, bf10501⟩
abbrev ky_10538_Listing_addEnd : gKey := (cX4_addEnd, 4, yX4_addEnd.cls, none, [], yX4_addEnd.name, fun _ _ => True)
abbrev po_10538_Listing_addEnd (I : FieldType → ClassId) (q10510 : Nat) (q10511 : Nat) (q10512 : Nat) (q10513 : Nat) (q10514 : Nat) (q10515 : Nat) (q10516 : Nat) (q10517 : Nat) (q10518 : Nat) (q10519 : Nat) (q10520 : Nat) (q10521 : Nat) (p10522 : Int32) (p10523 : Int32) (p10524 : Int32) (p10525 : Int32) (p10526 : Int32) (p10527 : Int32) (f10528 : Nat → Int32) (f10529 : Nat → Int32) (f10530 : Nat → Int32) (f10531 : Nat → Int32) (f10532 : Nat → Int32) (f10533 : Nat → Int32) (f10534 : Nat → Int32) (f10535 : Nat → Int32) (f10536 : Nat → Int32) (f10537 : Nat → Int32) : Option Value → va_W → Prop := fun r w => ∃ (o10572 : Int32) (f10573 : Nat → Int32), r = none ∧ w = [(q10510, .inr (9, [.ref q10512, .int o10572])), (q10511, .inr (5, [.ref q10513, .ref q10514, .ref q10515, .ref q10516, .ref q10517, .ref q10518, .ref q10519, .ref q10520, .ref q10521, .int p10525, .int p10526, .int p10527])), (q10512, .inl (I .byte, 16384, .inl f10573)), (q10513, .inl (I .int, 40, .inl f10529)), (q10514, .inl (I .int, 40, .inl f10530)), (q10515, .inl (I .int, 40, .inl f10531)), (q10516, .inl (I .int, 200, .inl f10532)), (q10517, .inl (I .int, 200, .inl f10533)), (q10518, .inl (I .int, 200, .inl f10534)), (q10519, .inl (I .int, 200, .inl f10535)), (q10520, .inl (I .int, 200, .inl f10536)), (q10521, .inl (I .int, 200, .inl f10537))] ∧ gB o10572 0 16384 ∧ gF f10573 (-128) 127
set_option maxRecDepth 100000 in
set_option maxHeartbeats 4000000 in
theorem ct_10538_Listing_addEnd (l : Launch) (hl0 : l.stackTraces = false) (D : va_G) (I : FieldType → ClassId) (q10510 : Nat) (q10511 : Nat) (q10512 : Nat) (q10513 : Nat) (q10514 : Nat) (q10515 : Nat) (q10516 : Nat) (q10517 : Nat) (q10518 : Nat) (q10519 : Nat) (q10520 : Nat) (q10521 : Nat) (p10522 : Int32) (p10523 : Int32) (p10524 : Int32) (p10525 : Int32) (p10526 : Int32) (p10527 : Int32) (f10528 : Nat → Int32) (f10529 : Nat → Int32) (f10530 : Nat → Int32) (f10531 : Nat → Int32) (f10532 : Nat → Int32) (f10533 : Nat → Int32) (f10534 : Nat → Int32) (f10535 : Nat → Int32) (f10536 : Nat → Int32) (f10537 : Nat → Int32) (bp10522 : gB p10522 0 39) (bp10523 : gB p10523 0 199) (bp10524 : gB p10524 0 16384) (bp10525 : gB p10525 0 40) (bp10526 : gB p10526 0 200) (bp10527 : gB p10527 0 1) (bf10528 : gF f10528 (-128) 127) (bf10529 : gF f10529 0 200) (bf10532 : gF f10532 0 21) : Ct (gV D I) l yX4_addEnd cX4_addEnd 4 none 7 151 0 0 [.ref q10510, .ref q10511, .int p10522, .int p10523] [(q10510, .inr (9, [.ref q10512, .int p10524])), (q10511, .inr (5, [.ref q10513, .ref q10514, .ref q10515, .ref q10516, .ref q10517, .ref q10518, .ref q10519, .ref q10520, .ref q10521, .int p10525, .int p10526, .int p10527])), (q10512, .inl (I .byte, 16384, .inl f10528)), (q10513, .inl (I .int, 40, .inl f10529)), (q10514, .inl (I .int, 40, .inl f10530)), (q10515, .inl (I .int, 40, .inl f10531)), (q10516, .inl (I .int, 200, .inl f10532)), (q10517, .inl (I .int, 200, .inl f10533)), (q10518, .inl (I .int, 200, .inl f10534)), (q10519, .inl (I .int, 200, .inl f10535)), (q10520, .inl (I .int, 200, .inl f10536)), (q10521, .inl (I .int, 200, .inl f10537))] (po_10538_Listing_addEnd I q10510 q10511 q10512 q10513 q10514 q10515 q10516 q10517 q10518 q10519 q10520 q10521 p10522 p10523 p10524 p10525 p10526 p10527 f10528 f10529 f10530 f10531 f10532 f10533 f10534 f10535 f10536 f10537) gN := by
  refine Ct_of hl0 (by decide) (Nat.le_of_ble_eq_true rfl) ?_
  refine G_aload_n 1 d_cX4_addEnd_0 rfl ?_
  refine G_getfN 1 3 d_cX4_addEnd_1 rfl (gk_X0 D I) (Nat.le_of_ble_eq_true rfl) (fun _ _ _ h => gn_w 15 rfl h) rfl ?_
  refine G_iload_n 3 d_cX4_addEnd_4 rfl ?_
  refine G_iald 6 0 d_cX4_addEnd_5 rfl rfl (gB_in bp10523 (by decide) (by decide)) (G_nam fun z10539 hz10539 => ?_)
  have bz10539 : gB z10539 0 21 := by rw [hz10539]; exact bf10532 _
  refine G_bipush 21 d_cX4_addEnd_6 (by decide +kernel) ?_
  refine G_icmp_ne 36 d_cX4_addEnd_8 (by decide +kernel) (fun hc10540 => ?_) (fun hc10540 => ?_)
  · have r10541 : z10539.toInt ≠ 21 := gj_neq hc10540 (show Int32.toInt 21 = 21 by decide)
    have bz10539' : gB z10539 0 20 := ⟨by omega, by omega⟩
    refine G_aload_n 1 d_cX4_addEnd_36 rfl ?_
    refine G_getfN 1 3 d_cX4_addEnd_37 rfl (gk_X0 D I) (Nat.le_of_ble_eq_true rfl) (fun _ _ _ h => gn_w 15 rfl h) rfl ?_
    refine G_iload_n 3 d_cX4_addEnd_40 rfl ?_
    refine G_iald 6 0 d_cX4_addEnd_41 rfl rfl (gB_in bp10523 (by decide) (by decide)) (G_eqi (y := z10539) hz10539.symm ?_)
    refine G_bipush 19 d_cX4_addEnd_42 (by decide +kernel) ?_
    refine G_icmp_ne 62 d_cX4_addEnd_44 (by decide +kernel) (fun hc10542 => ?_) (fun hc10542 => ?_)
    · have r10543 : z10539.toInt ≠ 19 := gj_neq hc10542 (show Int32.toInt 19 = 19 by decide)
      refine G_aload_n 0 d_cX4_addEnd_62 rfl ?_
      refine G_ldcK (a := D.2 1000 23) d_cX4_addEnd_63 (fun _ _ _ h => gx_vk 23 rfl rfl h) ?_
      have hl23_10543 : (sb_23.length : Int) = 3 := rfl
      refine G_callV (As := [.ref (D.2 1000 23)]) (wr := [(q10511, .inr (5, [.ref q10513, .ref q10514, .ref q10515, .ref q10516, .ref q10517, .ref q10518, .ref q10519, .ref q10520, .ref q10521, .int p10525, .int p10526, .int p10527])), (q10513, .inl (I .int, 40, .inl f10529)), (q10514, .inl (I .int, 40, .inl f10530)), (q10515, .inl (I .int, 40, .inl f10531)), (q10516, .inl (I .int, 200, .inl f10532)), (q10517, .inl (I .int, 200, .inl f10533)), (q10518, .inl (I .int, 200, .inl f10534)), (q10519, .inl (I .int, 200, .inl f10535)), (q10520, .inl (I .int, 200, .inl f10536)), (q10521, .inl (I .int, 200, .inl f10537))]) (gV_ok D I) (ct_7586_Listing_addText l hl0 D I q10510 q10512 (D.2 1000 23) (D.2 1001 23) sb_23 p10524 f10528 (gx_sc 23 rfl rfl) (by omega) bp10524 bf10528) d_cX4_addEnd_65 ⟨w_6_165, w_1_13, w_6_168, by decide, rfl, (Nat.le_of_ble_eq_true rfl), (Nat.le_of_ble_eq_true rfl)⟩ w_6_167 w_p_65 0 rfl rfl [0, 2] [1, 3, 4, 5, 6, 7, 8, 9, 10, 11] rfl rfl rfl rfl (by decide) (Nat.le_of_ble_eq_true rfl) (Nat.le_of_ble_eq_true rfl) (Nat.le_of_ble_eq_true rfl) (fun r w hp => ?_) (fun _ _ _ z => z.elim)
      obtain ⟨o10545, f10546, rfl, rfl, bo10545, bf10546⟩ := hp
      change G _ _ _ _ _ _ _ _ _ _ _
      refine G_ws (ws' := [(q10511, .inr (5, [.ref q10513, .ref q10514, .ref q10515, .ref q10516, .ref q10517, .ref q10518, .ref q10519, .ref q10520, .ref q10521, .int p10525, .int p10526, .int p10527])), (q10513, .inl (I .int, 40, .inl f10529)), (q10514, .inl (I .int, 40, .inl f10530)), (q10515, .inl (I .int, 40, .inl f10531)), (q10516, .inl (I .int, 200, .inl f10532)), (q10517, .inl (I .int, 200, .inl f10533)), (q10518, .inl (I .int, 200, .inl f10534)), (q10519, .inl (I .int, 200, .inl f10535)), (q10520, .inl (I .int, 200, .inl f10536)), (q10521, .inl (I .int, 200, .inl f10537)), (q10510, .inr (9, [.ref q10512, .int o10545])), (q10512, .inl (I .byte, 16384, .inl f10546))]) (cs' := 0) (sl' := 0) rfl rfl rfl ?_
      refine G_aload_n 0 d_cX4_addEnd_68 rfl ?_
      refine G_aload_n 1 d_cX4_addEnd_69 rfl ?_
      refine G_getfN 0 5 d_cX4_addEnd_70 rfl (gk_X0 D I) (Nat.le_of_ble_eq_true rfl) (fun _ _ _ h => gn_w 23 rfl h) rfl ?_
      refine G_iload_n 3 d_cX4_addEnd_73 rfl ?_
      refine G_iald 6 0 d_cX4_addEnd_74 rfl rfl (gB_in bp10523 (by decide) (by decide)) (G_nam fun z10547 hz10547 => ?_)
      have bz10547 : gB z10547 (-2147483648) 2147483647 := gB_any z10547
      refine G_aload_n 1 d_cX4_addEnd_75 rfl ?_
      refine G_getfN 0 6 d_cX4_addEnd_76 rfl (gk_X0 D I) (Nat.le_of_ble_eq_true rfl) (fun _ _ _ h => gn_w 27 rfl h) rfl ?_
      refine G_iload_n 3 d_cX4_addEnd_79 rfl ?_
      refine G_iald 7 0 d_cX4_addEnd_80 rfl rfl (gB_in bp10523 (by decide) (by decide)) (G_nam fun z10548 hz10548 => ?_)
      have bz10548 : gB z10548 (-2147483648) 2147483647 := gB_any z10548
      refine G_callV (As := [.int z10547, .int z10548]) (wr := [(q10511, .inr (5, [.ref q10513, .ref q10514, .ref q10515, .ref q10516, .ref q10517, .ref q10518, .ref q10519, .ref q10520, .ref q10521, .int p10525, .int p10526, .int p10527])), (q10513, .inl (I .int, 40, .inl f10529)), (q10514, .inl (I .int, 40, .inl f10530)), (q10515, .inl (I .int, 40, .inl f10531)), (q10516, .inl (I .int, 200, .inl f10532)), (q10517, .inl (I .int, 200, .inl f10533)), (q10518, .inl (I .int, 200, .inl f10534)), (q10519, .inl (I .int, 200, .inl f10535)), (q10520, .inl (I .int, 200, .inl f10536)), (q10521, .inl (I .int, 200, .inl f10537))]) (gV_ok D I) (ct_10418_Listing_addOperand l hl0 D I q10510 q10512 z10547 z10548 o10545 f10546 bo10545 bf10546) d_cX4_addEnd_81 ⟨w_6_191, w_1_13, w_6_194, by decide, rfl, (Nat.le_of_ble_eq_true rfl), (Nat.le_of_ble_eq_true rfl)⟩ w_6_193 w_p_69 10 rfl rfl [10, 11] [0, 1, 2, 3, 4, 5, 6, 7, 8, 9] rfl rfl rfl rfl (by decide) (Nat.le_of_ble_eq_true rfl) (Nat.le_of_ble_eq_true rfl) (Nat.le_of_ble_eq_true rfl) (fun r w hp => ?_) (fun _ _ _ z => z.elim)
      obtain ⟨o10549, f10550, rfl, rfl, bo10549, bf10550⟩ := hp
      change G _ _ _ _ _ _ _ _ _ _ _
      refine G_ws (ws' := [(q10511, .inr (5, [.ref q10513, .ref q10514, .ref q10515, .ref q10516, .ref q10517, .ref q10518, .ref q10519, .ref q10520, .ref q10521, .int p10525, .int p10526, .int p10527])), (q10513, .inl (I .int, 40, .inl f10529)), (q10514, .inl (I .int, 40, .inl f10530)), (q10515, .inl (I .int, 40, .inl f10531)), (q10516, .inl (I .int, 200, .inl f10532)), (q10517, .inl (I .int, 200, .inl f10533)), (q10518, .inl (I .int, 200, .inl f10534)), (q10519, .inl (I .int, 200, .inl f10535)), (q10520, .inl (I .int, 200, .inl f10536)), (q10521, .inl (I .int, 200, .inl f10537)), (q10510, .inr (9, [.ref q10512, .int o10549])), (q10512, .inl (I .byte, 16384, .inl f10550))]) (cs' := 0) (sl' := 0) rfl rfl rfl ?_
      refine G_aload_n 0 d_cX4_addEnd_84 rfl ?_
      refine G_ldcK (a := D.2 1000 24) d_cX4_addEnd_85 (fun _ _ _ h => gx_vk 24 rfl rfl h) ?_
      have hl24_10550 : (sb_24.length : Int) = 2 := rfl
      refine G_aload_n 1 d_cX4_addEnd_87 rfl ?_
      refine G_getfN 0 1 d_cX4_addEnd_88 rfl (gk_X0 D I) (Nat.le_of_ble_eq_true rfl) (fun _ _ _ h => gn_w 8 rfl h) rfl ?_
      refine G_iload_n 2 d_cX4_addEnd_91 rfl ?_
      refine G_iald 2 0 d_cX4_addEnd_92 rfl rfl (gB_in bp10522 (by decide) (by decide)) (G_nam fun z10552 hz10552 => ?_)
      have bz10552 : gB z10552 (-2147483648) 2147483647 := gB_any z10552
      refine G_callV (As := [.ref (D.2 1000 24), .int z10552]) (wr := [(q10511, .inr (5, [.ref q10513, .ref q10514, .ref q10515, .ref q10516, .ref q10517, .ref q10518, .ref q10519, .ref q10520, .ref q10521, .int p10525, .int p10526, .int p10527])), (q10513, .inl (I .int, 40, .inl f10529)), (q10514, .inl (I .int, 40, .inl f10530)), (q10515, .inl (I .int, 40, .inl f10531)), (q10516, .inl (I .int, 200, .inl f10532)), (q10517, .inl (I .int, 200, .inl f10533)), (q10518, .inl (I .int, 200, .inl f10534)), (q10519, .inl (I .int, 200, .inl f10535)), (q10520, .inl (I .int, 200, .inl f10536)), (q10521, .inl (I .int, 200, .inl f10537))]) (gV_ok D I) (ct_7578_Listing_addNamed l hl0 D I q10510 q10512 (D.2 1000 24) (D.2 1001 24) sb_24 z10552 o10549 f10550 (gx_sc 24 rfl rfl) (by omega) bo10549 bf10550) d_cX4_addEnd_93 ⟨w_6_161, w_1_13, w_6_164, by decide, rfl, (Nat.le_of_ble_eq_true rfl), (Nat.le_of_ble_eq_true rfl)⟩ w_6_163 w_p_64 10 rfl rfl [10, 11] [0, 1, 2, 3, 4, 5, 6, 7, 8, 9] rfl rfl rfl rfl (by decide) (Nat.le_of_ble_eq_true rfl) (Nat.le_of_ble_eq_true rfl) (Nat.le_of_ble_eq_true rfl) (fun r w hp => ?_) (fun _ _ _ z => z.elim)
      obtain ⟨o10553, f10554, rfl, rfl, bo10553, bf10554⟩ := hp
      change G _ _ _ _ _ _ _ _ _ _ _
      refine G_ws (ws' := [(q10511, .inr (5, [.ref q10513, .ref q10514, .ref q10515, .ref q10516, .ref q10517, .ref q10518, .ref q10519, .ref q10520, .ref q10521, .int p10525, .int p10526, .int p10527])), (q10513, .inl (I .int, 40, .inl f10529)), (q10514, .inl (I .int, 40, .inl f10530)), (q10515, .inl (I .int, 40, .inl f10531)), (q10516, .inl (I .int, 200, .inl f10532)), (q10517, .inl (I .int, 200, .inl f10533)), (q10518, .inl (I .int, 200, .inl f10534)), (q10519, .inl (I .int, 200, .inl f10535)), (q10520, .inl (I .int, 200, .inl f10536)), (q10521, .inl (I .int, 200, .inl f10537)), (q10510, .inr (9, [.ref q10512, .int o10553])), (q10512, .inl (I .byte, 16384, .inl f10554))]) (cs' := 0) (sl' := 0) rfl rfl rfl ?_
      refine G_aload_n 0 d_cX4_addEnd_96 rfl ?_
      refine G_ldcK (a := D.2 1000 24) d_cX4_addEnd_97 (fun _ _ _ h => gx_vk 24 rfl rfl h) ?_
      have hl24_10554 : (sb_24.length : Int) = 2 := rfl
      refine G_aload_n 1 d_cX4_addEnd_99 rfl ?_
      refine G_getfN 0 2 d_cX4_addEnd_100 rfl (gk_X0 D I) (Nat.le_of_ble_eq_true rfl) (fun _ _ _ h => gn_w 12 rfl h) rfl ?_
      refine G_iload_n 2 d_cX4_addEnd_103 rfl ?_
      refine G_iald 3 0 d_cX4_addEnd_104 rfl rfl (gB_in bp10522 (by decide) (by decide)) (G_nam fun z10556 hz10556 => ?_)
      have bz10556 : gB z10556 (-2147483648) 2147483647 := gB_any z10556
      refine G_callV (As := [.ref (D.2 1000 24), .int z10556]) (wr := [(q10511, .inr (5, [.ref q10513, .ref q10514, .ref q10515, .ref q10516, .ref q10517, .ref q10518, .ref q10519, .ref q10520, .ref q10521, .int p10525, .int p10526, .int p10527])), (q10513, .inl (I .int, 40, .inl f10529)), (q10514, .inl (I .int, 40, .inl f10530)), (q10515, .inl (I .int, 40, .inl f10531)), (q10516, .inl (I .int, 200, .inl f10532)), (q10517, .inl (I .int, 200, .inl f10533)), (q10518, .inl (I .int, 200, .inl f10534)), (q10519, .inl (I .int, 200, .inl f10535)), (q10520, .inl (I .int, 200, .inl f10536)), (q10521, .inl (I .int, 200, .inl f10537))]) (gV_ok D I) (ct_7578_Listing_addNamed l hl0 D I q10510 q10512 (D.2 1000 24) (D.2 1001 24) sb_24 z10556 o10553 f10554 (gx_sc 24 rfl rfl) (by omega) bo10553 bf10554) d_cX4_addEnd_105 ⟨w_6_161, w_1_13, w_6_164, by decide, rfl, (Nat.le_of_ble_eq_true rfl), (Nat.le_of_ble_eq_true rfl)⟩ w_6_163 w_p_64 10 rfl rfl [10, 11] [0, 1, 2, 3, 4, 5, 6, 7, 8, 9] rfl rfl rfl rfl (by decide) (Nat.le_of_ble_eq_true rfl) (Nat.le_of_ble_eq_true rfl) (Nat.le_of_ble_eq_true rfl) (fun r w hp => ?_) (fun _ _ _ z => z.elim)
      obtain ⟨o10557, f10558, rfl, rfl, bo10557, bf10558⟩ := hp
      change G _ _ _ _ _ _ _ _ _ _ _
      refine G_ws (ws' := [(q10511, .inr (5, [.ref q10513, .ref q10514, .ref q10515, .ref q10516, .ref q10517, .ref q10518, .ref q10519, .ref q10520, .ref q10521, .int p10525, .int p10526, .int p10527])), (q10513, .inl (I .int, 40, .inl f10529)), (q10514, .inl (I .int, 40, .inl f10530)), (q10515, .inl (I .int, 40, .inl f10531)), (q10516, .inl (I .int, 200, .inl f10532)), (q10517, .inl (I .int, 200, .inl f10533)), (q10518, .inl (I .int, 200, .inl f10534)), (q10519, .inl (I .int, 200, .inl f10535)), (q10520, .inl (I .int, 200, .inl f10536)), (q10521, .inl (I .int, 200, .inl f10537)), (q10510, .inr (9, [.ref q10512, .int o10557])), (q10512, .inl (I .byte, 16384, .inl f10558))]) (cs' := 0) (sl' := 0) rfl rfl rfl ?_
      refine G_sub (ws' := [(q10510, .inr (9, [.ref q10512, .int o10557])), (q10511, .inr (5, [.ref q10513, .ref q10514, .ref q10515, .ref q10516, .ref q10517, .ref q10518, .ref q10519, .ref q10520, .ref q10521, .int p10525, .int p10526, .int p10527])), (q10512, .inl (I .byte, 16384, .inl f10558)), (q10513, .inl (I .int, 40, .inl f10529)), (q10514, .inl (I .int, 40, .inl f10530)), (q10515, .inl (I .int, 40, .inl f10531)), (q10516, .inl (I .int, 200, .inl f10532)), (q10517, .inl (I .int, 200, .inl f10533)), (q10518, .inl (I .int, 200, .inl f10534)), (q10519, .inl (I .int, 200, .inl f10535)), (q10520, .inl (I .int, 200, .inl f10536)), (q10521, .inl (I .int, 200, .inl f10537))]) [10, 0, 11, 1, 2, 3, 4, 5, 6, 7, 8, 9] rfl rfl ?_
      exact G_vret d_cX4_addEnd_108 rfl (Nat.le_of_ble_eq_true rfl) (Nat.le_of_ble_eq_true rfl) ⟨o10557, f10558, rfl, rfl, bo10557, bf10558⟩
    · have r10559 : z10539.toInt = 19 := gj_eq hc10542 (show Int32.toInt 19 = 19 by decide)
      have bz10539'' : gB z10539 19 19 := ⟨by omega, by omega⟩
      refine G_aload_n 0 d_cX4_addEnd_47 rfl ?_
      refine G_ldcK (a := D.2 1000 22) d_cX4_addEnd_48 (fun _ _ _ h => gx_vk 22 rfl rfl h) ?_
      have hl22_10559 : (sb_22.length : Int) = 6 := rfl
      refine G_aload_n 1 d_cX4_addEnd_50 rfl ?_
      refine G_getfN 1 1 d_cX4_addEnd_51 rfl (gk_X0 D I) (Nat.le_of_ble_eq_true rfl) (fun _ _ _ h => gn_w 8 rfl h) rfl ?_
      refine G_iload_n 2 d_cX4_addEnd_54 rfl ?_
      refine G_iald 4 0 d_cX4_addEnd_55 rfl rfl (gB_in bp10522 (by decide) (by decide)) (G_nam fun z10561 hz10561 => ?_)
      have bz10561 : gB z10561 (-2147483648) 2147483647 := gB_any z10561
      refine G_callV (As := [.ref (D.2 1000 22), .int z10561]) (wr := [(q10511, .inr (5, [.ref q10513, .ref q10514, .ref q10515, .ref q10516, .ref q10517, .ref q10518, .ref q10519, .ref q10520, .ref q10521, .int p10525, .int p10526, .int p10527])), (q10513, .inl (I .int, 40, .inl f10529)), (q10514, .inl (I .int, 40, .inl f10530)), (q10515, .inl (I .int, 40, .inl f10531)), (q10516, .inl (I .int, 200, .inl f10532)), (q10517, .inl (I .int, 200, .inl f10533)), (q10518, .inl (I .int, 200, .inl f10534)), (q10519, .inl (I .int, 200, .inl f10535)), (q10520, .inl (I .int, 200, .inl f10536)), (q10521, .inl (I .int, 200, .inl f10537))]) (gV_ok D I) (ct_7578_Listing_addNamed l hl0 D I q10510 q10512 (D.2 1000 22) (D.2 1001 22) sb_22 z10561 p10524 f10528 (gx_sc 22 rfl rfl) (by omega) bp10524 bf10528) d_cX4_addEnd_56 ⟨w_6_161, w_1_13, w_6_164, by decide, rfl, (Nat.le_of_ble_eq_true rfl), (Nat.le_of_ble_eq_true rfl)⟩ w_6_163 w_p_64 0 rfl rfl [0, 2] [1, 3, 4, 5, 6, 7, 8, 9, 10, 11] rfl rfl rfl rfl (by decide) (Nat.le_of_ble_eq_true rfl) (Nat.le_of_ble_eq_true rfl) (Nat.le_of_ble_eq_true rfl) (fun r w hp => ?_) (fun _ _ _ z => z.elim)
      obtain ⟨o10562, f10563, rfl, rfl, bo10562, bf10563⟩ := hp
      change G _ _ _ _ _ _ _ _ _ _ _
      refine G_ws (ws' := [(q10511, .inr (5, [.ref q10513, .ref q10514, .ref q10515, .ref q10516, .ref q10517, .ref q10518, .ref q10519, .ref q10520, .ref q10521, .int p10525, .int p10526, .int p10527])), (q10513, .inl (I .int, 40, .inl f10529)), (q10514, .inl (I .int, 40, .inl f10530)), (q10515, .inl (I .int, 40, .inl f10531)), (q10516, .inl (I .int, 200, .inl f10532)), (q10517, .inl (I .int, 200, .inl f10533)), (q10518, .inl (I .int, 200, .inl f10534)), (q10519, .inl (I .int, 200, .inl f10535)), (q10520, .inl (I .int, 200, .inl f10536)), (q10521, .inl (I .int, 200, .inl f10537)), (q10510, .inr (9, [.ref q10512, .int o10562])), (q10512, .inl (I .byte, 16384, .inl f10563))]) (cs' := 0) (sl' := 0) rfl rfl rfl ?_
      refine G_goto 108 d_cX4_addEnd_59 (by decide +kernel) ?_
      refine G_sub (ws' := [(q10510, .inr (9, [.ref q10512, .int o10562])), (q10511, .inr (5, [.ref q10513, .ref q10514, .ref q10515, .ref q10516, .ref q10517, .ref q10518, .ref q10519, .ref q10520, .ref q10521, .int p10525, .int p10526, .int p10527])), (q10512, .inl (I .byte, 16384, .inl f10563)), (q10513, .inl (I .int, 40, .inl f10529)), (q10514, .inl (I .int, 40, .inl f10530)), (q10515, .inl (I .int, 40, .inl f10531)), (q10516, .inl (I .int, 200, .inl f10532)), (q10517, .inl (I .int, 200, .inl f10533)), (q10518, .inl (I .int, 200, .inl f10534)), (q10519, .inl (I .int, 200, .inl f10535)), (q10520, .inl (I .int, 200, .inl f10536)), (q10521, .inl (I .int, 200, .inl f10537))]) [10, 0, 11, 1, 2, 3, 4, 5, 6, 7, 8, 9] rfl rfl ?_
      exact G_vret d_cX4_addEnd_108 rfl (Nat.le_of_ble_eq_true rfl) (Nat.le_of_ble_eq_true rfl) ⟨o10562, f10563, rfl, rfl, bo10562, bf10563⟩
  · have r10564 : z10539.toInt = 21 := gj_eq hc10540 (show Int32.toInt 21 = 21 by decide)
    have bz10539' : gB z10539 21 21 := ⟨by omega, by omega⟩
    refine G_aload_n 0 d_cX4_addEnd_11 rfl ?_
    refine G_ldcK (a := D.2 1000 20) d_cX4_addEnd_12 (fun _ _ _ h => gx_vk 20 rfl rfl h) ?_
    have hl20_10564 : (sb_20.length : Int) = 4 := rfl
    refine G_callV (As := [.ref (D.2 1000 20)]) (wr := [(q10511, .inr (5, [.ref q10513, .ref q10514, .ref q10515, .ref q10516, .ref q10517, .ref q10518, .ref q10519, .ref q10520, .ref q10521, .int p10525, .int p10526, .int p10527])), (q10513, .inl (I .int, 40, .inl f10529)), (q10514, .inl (I .int, 40, .inl f10530)), (q10515, .inl (I .int, 40, .inl f10531)), (q10516, .inl (I .int, 200, .inl f10532)), (q10517, .inl (I .int, 200, .inl f10533)), (q10518, .inl (I .int, 200, .inl f10534)), (q10519, .inl (I .int, 200, .inl f10535)), (q10520, .inl (I .int, 200, .inl f10536)), (q10521, .inl (I .int, 200, .inl f10537))]) (gV_ok D I) (ct_7586_Listing_addText l hl0 D I q10510 q10512 (D.2 1000 20) (D.2 1001 20) sb_20 p10524 f10528 (gx_sc 20 rfl rfl) (by omega) bp10524 bf10528) d_cX4_addEnd_14 ⟨w_6_165, w_1_13, w_6_168, by decide, rfl, (Nat.le_of_ble_eq_true rfl), (Nat.le_of_ble_eq_true rfl)⟩ w_6_167 w_p_65 0 rfl rfl [0, 2] [1, 3, 4, 5, 6, 7, 8, 9, 10, 11] rfl rfl rfl rfl (by decide) (Nat.le_of_ble_eq_true rfl) (Nat.le_of_ble_eq_true rfl) (Nat.le_of_ble_eq_true rfl) (fun r w hp => ?_) (fun _ _ _ z => z.elim)
    obtain ⟨o10566, f10567, rfl, rfl, bo10566, bf10567⟩ := hp
    change G _ _ _ _ _ _ _ _ _ _ _
    refine G_ws (ws' := [(q10511, .inr (5, [.ref q10513, .ref q10514, .ref q10515, .ref q10516, .ref q10517, .ref q10518, .ref q10519, .ref q10520, .ref q10521, .int p10525, .int p10526, .int p10527])), (q10513, .inl (I .int, 40, .inl f10529)), (q10514, .inl (I .int, 40, .inl f10530)), (q10515, .inl (I .int, 40, .inl f10531)), (q10516, .inl (I .int, 200, .inl f10532)), (q10517, .inl (I .int, 200, .inl f10533)), (q10518, .inl (I .int, 200, .inl f10534)), (q10519, .inl (I .int, 200, .inl f10535)), (q10520, .inl (I .int, 200, .inl f10536)), (q10521, .inl (I .int, 200, .inl f10537)), (q10510, .inr (9, [.ref q10512, .int o10566])), (q10512, .inl (I .byte, 16384, .inl f10567))]) (cs' := 0) (sl' := 0) rfl rfl rfl ?_
    refine G_aload_n 0 d_cX4_addEnd_17 rfl ?_
    refine G_aload_n 1 d_cX4_addEnd_18 rfl ?_
    refine G_getfN 0 5 d_cX4_addEnd_19 rfl (gk_X0 D I) (Nat.le_of_ble_eq_true rfl) (fun _ _ _ h => gn_w 23 rfl h) rfl ?_
    refine G_iload_n 3 d_cX4_addEnd_22 rfl ?_
    refine G_iald 6 0 d_cX4_addEnd_23 rfl rfl (gB_in bp10523 (by decide) (by decide)) (G_nam fun z10568 hz10568 => ?_)
    have bz10568 : gB z10568 (-2147483648) 2147483647 := gB_any z10568
    refine G_aload_n 1 d_cX4_addEnd_24 rfl ?_
    refine G_getfN 0 6 d_cX4_addEnd_25 rfl (gk_X0 D I) (Nat.le_of_ble_eq_true rfl) (fun _ _ _ h => gn_w 27 rfl h) rfl ?_
    refine G_iload_n 3 d_cX4_addEnd_28 rfl ?_
    refine G_iald 7 0 d_cX4_addEnd_29 rfl rfl (gB_in bp10523 (by decide) (by decide)) (G_nam fun z10569 hz10569 => ?_)
    have bz10569 : gB z10569 (-2147483648) 2147483647 := gB_any z10569
    refine G_callV (As := [.int z10568, .int z10569]) (wr := [(q10511, .inr (5, [.ref q10513, .ref q10514, .ref q10515, .ref q10516, .ref q10517, .ref q10518, .ref q10519, .ref q10520, .ref q10521, .int p10525, .int p10526, .int p10527])), (q10513, .inl (I .int, 40, .inl f10529)), (q10514, .inl (I .int, 40, .inl f10530)), (q10515, .inl (I .int, 40, .inl f10531)), (q10516, .inl (I .int, 200, .inl f10532)), (q10517, .inl (I .int, 200, .inl f10533)), (q10518, .inl (I .int, 200, .inl f10534)), (q10519, .inl (I .int, 200, .inl f10535)), (q10520, .inl (I .int, 200, .inl f10536)), (q10521, .inl (I .int, 200, .inl f10537))]) (gV_ok D I) (ct_10418_Listing_addOperand l hl0 D I q10510 q10512 z10568 z10569 o10566 f10567 bo10566 bf10567) d_cX4_addEnd_30 ⟨w_6_191, w_1_13, w_6_194, by decide, rfl, (Nat.le_of_ble_eq_true rfl), (Nat.le_of_ble_eq_true rfl)⟩ w_6_193 w_p_69 10 rfl rfl [10, 11] [0, 1, 2, 3, 4, 5, 6, 7, 8, 9] rfl rfl rfl rfl (by decide) (Nat.le_of_ble_eq_true rfl) (Nat.le_of_ble_eq_true rfl) (Nat.le_of_ble_eq_true rfl) (fun r w hp => ?_) (fun _ _ _ z => z.elim)
    obtain ⟨o10570, f10571, rfl, rfl, bo10570, bf10571⟩ := hp
    change G _ _ _ _ _ _ _ _ _ _ _
    refine G_ws (ws' := [(q10511, .inr (5, [.ref q10513, .ref q10514, .ref q10515, .ref q10516, .ref q10517, .ref q10518, .ref q10519, .ref q10520, .ref q10521, .int p10525, .int p10526, .int p10527])), (q10513, .inl (I .int, 40, .inl f10529)), (q10514, .inl (I .int, 40, .inl f10530)), (q10515, .inl (I .int, 40, .inl f10531)), (q10516, .inl (I .int, 200, .inl f10532)), (q10517, .inl (I .int, 200, .inl f10533)), (q10518, .inl (I .int, 200, .inl f10534)), (q10519, .inl (I .int, 200, .inl f10535)), (q10520, .inl (I .int, 200, .inl f10536)), (q10521, .inl (I .int, 200, .inl f10537)), (q10510, .inr (9, [.ref q10512, .int o10570])), (q10512, .inl (I .byte, 16384, .inl f10571))]) (cs' := 0) (sl' := 0) rfl rfl rfl ?_
    refine G_goto 108 d_cX4_addEnd_33 (by decide +kernel) ?_
    refine G_sub (ws' := [(q10510, .inr (9, [.ref q10512, .int o10570])), (q10511, .inr (5, [.ref q10513, .ref q10514, .ref q10515, .ref q10516, .ref q10517, .ref q10518, .ref q10519, .ref q10520, .ref q10521, .int p10525, .int p10526, .int p10527])), (q10512, .inl (I .byte, 16384, .inl f10571)), (q10513, .inl (I .int, 40, .inl f10529)), (q10514, .inl (I .int, 40, .inl f10530)), (q10515, .inl (I .int, 40, .inl f10531)), (q10516, .inl (I .int, 200, .inl f10532)), (q10517, .inl (I .int, 200, .inl f10533)), (q10518, .inl (I .int, 200, .inl f10534)), (q10519, .inl (I .int, 200, .inl f10535)), (q10520, .inl (I .int, 200, .inl f10536)), (q10521, .inl (I .int, 200, .inl f10537))]) [10, 0, 11, 1, 2, 3, 4, 5, 6, 7, 8, 9] rfl rfl ?_
    exact G_vret d_cX4_addEnd_108 rfl (Nat.le_of_ble_eq_true rfl) (Nat.le_of_ble_eq_true rfl) ⟨o10570, f10571, rfl, rfl, bo10570, bf10571⟩
abbrev ky_7565_Listing_write : gKey := (cX4_write, 4, yX4_write.cls, none, [], yX4_write.name, fun _ _ => True)
abbrev po_7565_Listing_write (I : FieldType → ClassId) (q7539 : Nat) (q7540 : Nat) (q7541 : Nat) (q7542 : Nat) (q7543 : Nat) (q7544 : Nat) (q7545 : Nat) (q7546 : Nat) (q7547 : Nat) (q7548 : Nat) (q7549 : Nat) (q7550 : Nat) (p7551 : Int32) (p7552 : Int32) (p7553 : Int32) (p7554 : Int32) (f7555 : Nat → Int32) (f7556 : Nat → Int32) (f7557 : Nat → Int32) (f7558 : Nat → Int32) (f7559 : Nat → Int32) (f7560 : Nat → Int32) (f7561 : Nat → Int32) (f7562 : Nat → Int32) (f7563 : Nat → Int32) (f7564 : Nat → Int32) : Option Value → va_W → Prop := fun r w => ∃ (o11692 : Int32) (f11693 : Nat → Int32), r = none ∧ w = [(q7539, .inr (9, [.ref q7541, .int o11692])), (q7540, .inr (5, [.ref q7542, .ref q7543, .ref q7544, .ref q7545, .ref q7546, .ref q7547, .ref q7548, .ref q7549, .ref q7550, .int p7552, .int p7553, .int p7554])), (q7541, .inl (I .byte, 16384, .inl f11693)), (q7542, .inl (I .int, 40, .inl f7556)), (q7543, .inl (I .int, 40, .inl f7557)), (q7544, .inl (I .int, 40, .inl f7558)), (q7545, .inl (I .int, 200, .inl f7559)), (q7546, .inl (I .int, 200, .inl f7560)), (q7547, .inl (I .int, 200, .inl f7561)), (q7548, .inl (I .int, 200, .inl f7562)), (q7549, .inl (I .int, 200, .inl f7563)), (q7550, .inl (I .int, 200, .inl f7564))] ∧ gB o11692 0 16384 ∧ gF f11693 (-128) 127
set_option maxRecDepth 100000 in
set_option maxHeartbeats 4000000 in
theorem ct_7565_Listing_write (l : Launch) (hl0 : l.stackTraces = false) (D : va_G) (I : FieldType → ClassId) (q7539 : Nat) (q7540 : Nat) (q7541 : Nat) (q7542 : Nat) (q7543 : Nat) (q7544 : Nat) (q7545 : Nat) (q7546 : Nat) (q7547 : Nat) (q7548 : Nat) (q7549 : Nat) (q7550 : Nat) (p7551 : Int32) (p7552 : Int32) (p7553 : Int32) (p7554 : Int32) (f7555 : Nat → Int32) (f7556 : Nat → Int32) (f7557 : Nat → Int32) (f7558 : Nat → Int32) (f7559 : Nat → Int32) (f7560 : Nat → Int32) (f7561 : Nat → Int32) (f7562 : Nat → Int32) (f7563 : Nat → Int32) (f7564 : Nat → Int32) (bp7551 : gB p7551 0 16384) (bp7552 : gB p7552 0 40) (bp7553 : gB p7553 0 200) (bp7554 : gB p7554 0 1) (bf7555 : gF f7555 (-128) 127) (bf7556 : gF f7556 0 200) (bf7559 : gF f7559 0 21) : Ct (gV D I) l yX4_write cX4_write 4 none 9 195 0 0 [.ref q7539, .ref q7540] [(q7539, .inr (9, [.ref q7541, .int p7551])), (q7540, .inr (5, [.ref q7542, .ref q7543, .ref q7544, .ref q7545, .ref q7546, .ref q7547, .ref q7548, .ref q7549, .ref q7550, .int p7552, .int p7553, .int p7554])), (q7541, .inl (I .byte, 16384, .inl f7555)), (q7542, .inl (I .int, 40, .inl f7556)), (q7543, .inl (I .int, 40, .inl f7557)), (q7544, .inl (I .int, 40, .inl f7558)), (q7545, .inl (I .int, 200, .inl f7559)), (q7546, .inl (I .int, 200, .inl f7560)), (q7547, .inl (I .int, 200, .inl f7561)), (q7548, .inl (I .int, 200, .inl f7562)), (q7549, .inl (I .int, 200, .inl f7563)), (q7550, .inl (I .int, 200, .inl f7564))] (po_7565_Listing_write I q7539 q7540 q7541 q7542 q7543 q7544 q7545 q7546 q7547 q7548 q7549 q7550 p7551 p7552 p7553 p7554 f7555 f7556 f7557 f7558 f7559 f7560 f7561 f7562 f7563 f7564) gN := by
  refine Ct_of hl0 (by decide) (Nat.le_of_ble_eq_true rfl) ?_
  refine G_aload_n 0 d_cX4_write_0 rfl ?_
  refine G_iconst 0 d_cX4_write_1 (by decide +kernel) ?_
  refine G_putf (ws' := [(q7539, .inr (9, [.ref q7541, .int 0])), (q7540, .inr (5, [.ref q7542, .ref q7543, .ref q7544, .ref q7545, .ref q7546, .ref q7547, .ref q7548, .ref q7549, .ref q7550, .int p7552, .int p7553, .int p7554])), (q7541, .inl (I .byte, 16384, .inl f7555)), (q7542, .inl (I .int, 40, .inl f7556)), (q7543, .inl (I .int, 40, .inl f7557)), (q7544, .inl (I .int, 40, .inl f7558)), (q7545, .inl (I .int, 200, .inl f7559)), (q7546, .inl (I .int, 200, .inl f7560)), (q7547, .inl (I .int, 200, .inl f7561)), (q7548, .inl (I .int, 200, .inl f7562)), (q7549, .inl (I .int, 200, .inl f7563)), (q7550, .inl (I .int, 200, .inl f7564))]) 0 1 d_cX4_write_2 rfl (gk_X4 D I) (Nat.le_of_ble_eq_true rfl) w_2_201 rfl rfl rfl (Nat.le_of_ble_eq_true rfl) rfl ?_
  refine G_iconst 0 d_cX4_write_5 (by decide +kernel) ?_
  refine G_istore_n (L' := [(2, .int 0), (0, .ref q7539), (1, .ref q7540)]) d_cX4_write_6 (Nat.le_of_ble_eq_true rfl) rfl ?_
  have hlp7_11528 : ∀ (n7_11528 : Nat) (g11526 : Int32) (g11527 : Int32) (f11528 : Nat → Int32), gB g11526 0 40 → gB g11527 0 16384 → gF f11528 (-128) 127 → ((41 : Int) - g11526.toInt).toNat < n7_11528 → G (gV D I) l (gRm 9 195 0 0) (gM (gV D I) (po_7565_Listing_write I q7539 q7540 q7541 q7542 q7543 q7544 q7545 q7546 q7547 q7548 q7549 q7550 p7551 p7552 p7553 p7554 f7555 f7556 f7557 f7558 f7559 f7560 f7561 f7562 f7563 f7564) gN 0 0) ky_7565_Listing_write 7 [(2, .int g11526), (0, .ref q7539), (1, .ref q7540)] [] [(q7539, .inr (9, [.ref q7541, .int g11527])), (q7540, .inr (5, [.ref q7542, .ref q7543, .ref q7544, .ref q7545, .ref q7546, .ref q7547, .ref q7548, .ref q7549, .ref q7550, .int p7552, .int p7553, .int p7554])), (q7541, .inl (I .byte, 16384, .inl f11528)), (q7542, .inl (I .int, 40, .inl f7556)), (q7543, .inl (I .int, 40, .inl f7557)), (q7544, .inl (I .int, 40, .inl f7558)), (q7545, .inl (I .int, 200, .inl f7559)), (q7546, .inl (I .int, 200, .inl f7560)), (q7547, .inl (I .int, 200, .inl f7561)), (q7548, .inl (I .int, 200, .inl f7562)), (q7549, .inl (I .int, 200, .inl f7563)), (q7550, .inl (I .int, 200, .inl f7564))] 0 0 := by
    intro n7_11528
    induction n7_11528 with
    | zero => intro g11526 g11527 f11528 bg11526 bg11527 bf11528 hm7_11528; exact absurd hm7_11528 (Nat.not_lt_zero _)
    | succ n7_11528 ih7_11528 =>
      intro g11526 g11527 f11528 bg11526 bg11527 bf11528 hm7_11528
      refine G_iload_n 0 d_cX4_write_7 rfl ?_
      refine G_aload_n 2 d_cX4_write_8 rfl ?_
      refine G_getfN 1 9 d_cX4_write_9 rfl (gk_X0 D I) (Nat.le_of_ble_eq_true rfl) (fun _ _ _ h => gn_w 39 rfl h) rfl ?_
      refine G_icmp_ge 89 d_cX4_write_12 (by decide +kernel) (fun hc11529 => ?_) (fun hc11529 => ?_)
      · have r11530 : p7552.toInt ≤ g11526.toInt := gC_le hc11529
        exact G_vret d_cX4_write_89 rfl (Nat.le_of_ble_eq_true rfl) (Nat.le_of_ble_eq_true rfl) ⟨g11527, f11528, rfl, rfl, bg11527, bf11528⟩
      · have r11531 : g11526.toInt < p7552.toInt := gC_nle hc11529
        have bg11526' : gB g11526 0 39 := ⟨by omega, by omega⟩
        have bp7552' : gB p7552 1 40 := ⟨by omega, by omega⟩
        refine G_aload_n 1 d_cX4_write_15 rfl ?_
        refine G_ldcK (a := D.2 1000 18) d_cX4_write_16 (fun _ _ _ h => gx_vk 18 rfl rfl h) ?_
        have hl18_11531 : (sb_18.length : Int) = 1 := rfl
        refine G_iload_n 0 d_cX4_write_18 rfl ?_
        refine G_callV (As := [.ref (D.2 1000 18), .int g11526]) (wr := [(q7540, .inr (5, [.ref q7542, .ref q7543, .ref q7544, .ref q7545, .ref q7546, .ref q7547, .ref q7548, .ref q7549, .ref q7550, .int p7552, .int p7553, .int p7554])), (q7542, .inl (I .int, 40, .inl f7556)), (q7543, .inl (I .int, 40, .inl f7557)), (q7544, .inl (I .int, 40, .inl f7558)), (q7545, .inl (I .int, 200, .inl f7559)), (q7546, .inl (I .int, 200, .inl f7560)), (q7547, .inl (I .int, 200, .inl f7561)), (q7548, .inl (I .int, 200, .inl f7562)), (q7549, .inl (I .int, 200, .inl f7563)), (q7550, .inl (I .int, 200, .inl f7564))]) (gV_ok D I) (ct_7578_Listing_addNamed l hl0 D I q7539 q7541 (D.2 1000 18) (D.2 1001 18) sb_18 g11526 g11527 f11528 (gx_sc 18 rfl rfl) (by omega) bg11527 bf11528) d_cX4_write_19 ⟨w_6_161, w_1_13, w_6_164, by decide, rfl, (Nat.le_of_ble_eq_true rfl), (Nat.le_of_ble_eq_true rfl)⟩ w_6_163 w_p_64 0 rfl rfl [0, 2] [1, 3, 4, 5, 6, 7, 8, 9, 10, 11] rfl rfl rfl rfl (by decide) (Nat.le_of_ble_eq_true rfl) (Nat.le_of_ble_eq_true rfl) (Nat.le_of_ble_eq_true rfl) (fun r w hp => ?_) (fun _ _ _ z => z.elim)
        obtain ⟨o11533, f11534, rfl, rfl, bo11533, bf11534⟩ := hp
        change G _ _ _ _ _ _ _ _ _ _ _
        refine G_ws (ws' := [(q7540, .inr (5, [.ref q7542, .ref q7543, .ref q7544, .ref q7545, .ref q7546, .ref q7547, .ref q7548, .ref q7549, .ref q7550, .int p7552, .int p7553, .int p7554])), (q7542, .inl (I .int, 40, .inl f7556)), (q7543, .inl (I .int, 40, .inl f7557)), (q7544, .inl (I .int, 40, .inl f7558)), (q7545, .inl (I .int, 200, .inl f7559)), (q7546, .inl (I .int, 200, .inl f7560)), (q7547, .inl (I .int, 200, .inl f7561)), (q7548, .inl (I .int, 200, .inl f7562)), (q7549, .inl (I .int, 200, .inl f7563)), (q7550, .inl (I .int, 200, .inl f7564)), (q7539, .inr (9, [.ref q7541, .int o11533])), (q7541, .inl (I .byte, 16384, .inl f11534))]) (cs' := 0) (sl' := 0) rfl rfl rfl ?_
        refine G_aload_n 1 d_cX4_write_22 rfl ?_
        refine G_ldcK (a := D.2 1000 19) d_cX4_write_23 (fun _ _ _ h => gx_vk 19 rfl rfl h) ?_
        have hl19_11534 : (sb_19.length : Int) = 2 := rfl
        refine G_callV (As := [.ref (D.2 1000 19)]) (wr := [(q7540, .inr (5, [.ref q7542, .ref q7543, .ref q7544, .ref q7545, .ref q7546, .ref q7547, .ref q7548, .ref q7549, .ref q7550, .int p7552, .int p7553, .int p7554])), (q7542, .inl (I .int, 40, .inl f7556)), (q7543, .inl (I .int, 40, .inl f7557)), (q7544, .inl (I .int, 40, .inl f7558)), (q7545, .inl (I .int, 200, .inl f7559)), (q7546, .inl (I .int, 200, .inl f7560)), (q7547, .inl (I .int, 200, .inl f7561)), (q7548, .inl (I .int, 200, .inl f7562)), (q7549, .inl (I .int, 200, .inl f7563)), (q7550, .inl (I .int, 200, .inl f7564))]) (gV_ok D I) (ct_7586_Listing_addText l hl0 D I q7539 q7541 (D.2 1000 19) (D.2 1001 19) sb_19 o11533 f11534 (gx_sc 19 rfl rfl) (by omega) bo11533 bf11534) d_cX4_write_25 ⟨w_6_165, w_1_13, w_6_168, by decide, rfl, (Nat.le_of_ble_eq_true rfl), (Nat.le_of_ble_eq_true rfl)⟩ w_6_167 w_p_65 10 rfl rfl [10, 11] [0, 1, 2, 3, 4, 5, 6, 7, 8, 9] rfl rfl rfl rfl (by decide) (Nat.le_of_ble_eq_true rfl) (Nat.le_of_ble_eq_true rfl) (Nat.le_of_ble_eq_true rfl) (fun r w hp => ?_) (fun _ _ _ z => z.elim)
        obtain ⟨o11536, f11537, rfl, rfl, bo11536, bf11537⟩ := hp
        change G _ _ _ _ _ _ _ _ _ _ _
        refine G_ws (ws' := [(q7540, .inr (5, [.ref q7542, .ref q7543, .ref q7544, .ref q7545, .ref q7546, .ref q7547, .ref q7548, .ref q7549, .ref q7550, .int p7552, .int p7553, .int p7554])), (q7542, .inl (I .int, 40, .inl f7556)), (q7543, .inl (I .int, 40, .inl f7557)), (q7544, .inl (I .int, 40, .inl f7558)), (q7545, .inl (I .int, 200, .inl f7559)), (q7546, .inl (I .int, 200, .inl f7560)), (q7547, .inl (I .int, 200, .inl f7561)), (q7548, .inl (I .int, 200, .inl f7562)), (q7549, .inl (I .int, 200, .inl f7563)), (q7550, .inl (I .int, 200, .inl f7564)), (q7539, .inr (9, [.ref q7541, .int o11536])), (q7541, .inl (I .byte, 16384, .inl f11537))]) (cs' := 0) (sl' := 0) rfl rfl rfl ?_
        refine G_aload_n 2 d_cX4_write_28 rfl ?_
        refine G_getfN 0 0 d_cX4_write_29 rfl (gk_X0 D I) (Nat.le_of_ble_eq_true rfl) (fun _ _ _ h => gn_w 3 rfl h) rfl ?_
        refine G_iload_n 0 d_cX4_write_32 rfl ?_
        refine G_iald 1 0 d_cX4_write_33 rfl rfl (gB_in bg11526' (by decide) (by decide)) (G_nam fun z11538 hz11538 => ?_)
        have bz11538 : gB z11538 0 200 := by rw [hz11538]; exact bf7556 _
        refine G_istore_n (L' := [(3, .int z11538), (2, .int g11526), (0, .ref q7539), (1, .ref q7540)]) d_cX4_write_34 (Nat.le_of_ble_eq_true rfl) rfl ?_
        have hlp35_11642 : ∀ (n35_11642 : Nat) (g11640 : Int32) (g11641 : Int32) (f11642 : Nat → Int32), gB g11640 0 200 → gB g11641 0 16384 → gF f11642 (-128) 127 → ((201 : Int) - g11640.toInt).toNat < n35_11642 → G (gV D I) l (gRm 9 195 0 0) (gM (gV D I) (po_7565_Listing_write I q7539 q7540 q7541 q7542 q7543 q7544 q7545 q7546 q7547 q7548 q7549 q7550 p7551 p7552 p7553 p7554 f7555 f7556 f7557 f7558 f7559 f7560 f7561 f7562 f7563 f7564) gN 0 0) ky_7565_Listing_write 35 [(3, .int g11640), (2, .int g11526), (0, .ref q7539), (1, .ref q7540)] [] [(q7540, .inr (5, [.ref q7542, .ref q7543, .ref q7544, .ref q7545, .ref q7546, .ref q7547, .ref q7548, .ref q7549, .ref q7550, .int p7552, .int p7553, .int p7554])), (q7542, .inl (I .int, 40, .inl f7556)), (q7543, .inl (I .int, 40, .inl f7557)), (q7544, .inl (I .int, 40, .inl f7558)), (q7545, .inl (I .int, 200, .inl f7559)), (q7546, .inl (I .int, 200, .inl f7560)), (q7547, .inl (I .int, 200, .inl f7561)), (q7548, .inl (I .int, 200, .inl f7562)), (q7549, .inl (I .int, 200, .inl f7563)), (q7550, .inl (I .int, 200, .inl f7564)), (q7539, .inr (9, [.ref q7541, .int g11641])), (q7541, .inl (I .byte, 16384, .inl f11642))] 0 0 := by
          intro n35_11642
          induction n35_11642 with
          | zero => intro g11640 g11641 f11642 bg11640 bg11641 bf11642 hm35_11642; exact absurd hm35_11642 (Nat.not_lt_zero _)
          | succ n35_11642 ih35_11642 =>
            intro g11640 g11641 f11642 bg11640 bg11641 bf11642 hm35_11642
            refine G_iload_n 0 d_cX4_write_35 rfl ?_
            refine G_aload_n 3 d_cX4_write_36 rfl ?_
            refine G_iload_n 1 d_cX4_write_37 rfl ?_
            refine G_callV (As := [.int g11526]) (wr := [(q7539, .inr (9, [.ref q7541, .int g11641])), (q7541, .inl (I .byte, 16384, .inl f11642))]) (gV_ok D I) (ct_748_Code_blockEnd l hl0 D I q7540 q7542 q7543 q7544 q7545 q7546 q7547 q7548 q7549 q7550 g11526 p7552 p7553 p7554 f7556 f7557 f7558 f7559 f7560 f7561 f7562 f7563 f7564 bg11526' (gB_w bp7552' (by decide) (by decide)) bp7553 bp7554 bf7556 bf7559) d_cX4_write_38 ⟨w_6_185, w_1_5, w_4_38, by decide, rfl, (Nat.le_of_ble_eq_true rfl), (Nat.le_of_ble_eq_true rfl)⟩ w_4_36 w_4_37 0 rfl rfl [0, 1, 2, 3, 4, 5, 6, 7, 8, 9] [10, 11] rfl rfl rfl rfl (by decide) (Nat.le_of_ble_eq_true rfl) (Nat.le_of_ble_eq_true rfl) (Nat.le_of_ble_eq_true rfl) (fun r w hp => ?_) (fun _ _ _ z => z.elim)
            rcases hp with ⟨z11643, rfl, rfl, r11644, r11645, r11646⟩ | ⟨z11647, z11648, z11649, rfl, rfl, r11650, r11651, r11652, hz11647, r11653, r11654, r11655⟩
            · change G _ _ _ _ _ _ _ (.int p7553 :: _) _ _ _
              refine G_ws (ws' := [(q7539, .inr (9, [.ref q7541, .int g11641])), (q7541, .inl (I .byte, 16384, .inl f11642)), (q7540, .inr (5, [.ref q7542, .ref q7543, .ref q7544, .ref q7545, .ref q7546, .ref q7547, .ref q7548, .ref q7549, .ref q7550, .int p7552, .int p7553, .int p7554])), (q7542, .inl (I .int, 40, .inl f7556)), (q7543, .inl (I .int, 40, .inl f7557)), (q7544, .inl (I .int, 40, .inl f7558)), (q7545, .inl (I .int, 200, .inl f7559)), (q7546, .inl (I .int, 200, .inl f7560)), (q7547, .inl (I .int, 200, .inl f7561)), (q7548, .inl (I .int, 200, .inl f7562)), (q7549, .inl (I .int, 200, .inl f7563)), (q7550, .inl (I .int, 200, .inl f7564))]) (cs' := 0) (sl' := 0) rfl rfl rfl ?_
              refine G_icmp_ge 83 d_cX4_write_41 (by decide +kernel) (fun hc11656 => ?_) (fun hc11656 => ?_)
              · have r11657 : p7553.toInt ≤ g11640.toInt := gC_le hc11656
                obtain ⟨z11658, hz11658⟩ : ∃ z : Int32, z = g11526 + Int32.ofInt 1 := ⟨_, rfl⟩
                have ez11658 : z11658.toInt = g11526.toInt + 1 := gI_inc hz11658 (by decide) bg11526' (by decide) (by decide)
                have bz11658 : gB z11658 1 40 := ⟨by omega, by omega⟩
                refine G_iinc (L' := [(2, .int z11658), (3, .int g11640), (0, .ref q7539), (1, .ref q7540)]) z11658 1 d_cX4_write_83 rfl hz11658.symm (Nat.le_of_ble_eq_true rfl) rfl ?_
                refine G_goto 7 d_cX4_write_86 (by decide +kernel) ?_
                refine G_lv (L' := [(2, .int z11658), (0, .ref q7539), (1, .ref q7540)]) [0, 2, 3] rfl ?_
                refine G_sub (ws' := [(q7539, .inr (9, [.ref q7541, .int g11641])), (q7540, .inr (5, [.ref q7542, .ref q7543, .ref q7544, .ref q7545, .ref q7546, .ref q7547, .ref q7548, .ref q7549, .ref q7550, .int p7552, .int p7553, .int p7554])), (q7541, .inl (I .byte, 16384, .inl f11642)), (q7542, .inl (I .int, 40, .inl f7556)), (q7543, .inl (I .int, 40, .inl f7557)), (q7544, .inl (I .int, 40, .inl f7558)), (q7545, .inl (I .int, 200, .inl f7559)), (q7546, .inl (I .int, 200, .inl f7560)), (q7547, .inl (I .int, 200, .inl f7561)), (q7548, .inl (I .int, 200, .inl f7562)), (q7549, .inl (I .int, 200, .inl f7563)), (q7550, .inl (I .int, 200, .inl f7564))]) [0, 2, 1, 3, 4, 5, 6, 7, 8, 9, 10, 11] rfl rfl ?_
                exact ih7_11528 z11658 g11641 f11642 (gB_w bz11658 (by decide) (by decide)) bg11641 bf11642 (by omega)
              · have r11659 : g11640.toInt < p7553.toInt := gC_nle hc11656
                have bg11640' : gB g11640 0 199 := ⟨by omega, by omega⟩
                have bp7553' : gB p7553 1 200 := ⟨by omega, by omega⟩
                refine G_aload_n 3 d_cX4_write_44 rfl ?_
                refine G_getfN 2 3 d_cX4_write_45 rfl (gk_X0 D I) (Nat.le_of_ble_eq_true rfl) (fun _ _ _ h => gn_w 15 rfl h) rfl ?_
                refine G_iload_n 0 d_cX4_write_48 rfl ?_
                refine G_iald 6 0 d_cX4_write_49 rfl rfl (gB_in bg11640' (by decide) (by decide)) (G_nam fun z11660 hz11660 => ?_)
                have bz11660 : gB z11660 0 21 := by rw [hz11660]; exact bf7559 _
                refine G_bipush 19 d_cX4_write_50 (by decide +kernel) ?_
                refine G_icmp_lt 65 d_cX4_write_52 (by decide +kernel) (fun hc11661 => ?_) (fun hc11661 => ?_)
                · have r11662 : z11660.toInt < 19 := gj_lt hc11661 (show Int32.toInt 19 = 19 by decide)
                  have bz11660' : gB z11660 0 18 := ⟨by omega, by omega⟩
                  refine G_aload_n 2 d_cX4_write_65 rfl ?_
                  refine G_aload_n 3 d_cX4_write_66 rfl ?_
                  refine G_iload_n 0 d_cX4_write_67 rfl ?_
                  refine G_callV (As := [.ref q7540, .int g11640]) (wr := []) (gV_ok D I) (ct_10364_Listing_addRow l hl0 D I q7539 q7540 q7541 q7542 q7543 q7544 q7545 q7546 q7547 q7548 q7549 q7550 g11640 g11641 p7552 p7553 p7554 f11642 f7556 f7557 f7558 f7559 f7560 f7561 f7562 f7563 f7564 bg11640' bg11641 (gB_w bp7552' (by decide) (by decide)) (gB_w bp7553' (by decide) (by decide)) bp7554 bf11642 bf7556 bf7559) d_cX4_write_68 ⟨w_6_199, w_1_13, w_6_202, by decide, rfl, (Nat.le_of_ble_eq_true rfl), (Nat.le_of_ble_eq_true rfl)⟩ w_6_201 w_p_70 0 rfl rfl [0, 2, 1, 3, 4, 5, 6, 7, 8, 9, 10, 11] [] rfl rfl rfl rfl (by decide) (Nat.le_of_ble_eq_true rfl) (Nat.le_of_ble_eq_true rfl) (Nat.le_of_ble_eq_true rfl) (fun r w hp => ?_) (fun _ _ _ z => z.elim)
                  obtain ⟨o11663, f11664, rfl, rfl, bo11663, bf11664⟩ := hp
                  change G _ _ _ _ _ _ _ _ _ _ _
                  refine G_ws (ws' := [(q7539, .inr (9, [.ref q7541, .int o11663])), (q7540, .inr (5, [.ref q7542, .ref q7543, .ref q7544, .ref q7545, .ref q7546, .ref q7547, .ref q7548, .ref q7549, .ref q7550, .int p7552, .int p7553, .int p7554])), (q7541, .inl (I .byte, 16384, .inl f11664)), (q7542, .inl (I .int, 40, .inl f7556)), (q7543, .inl (I .int, 40, .inl f7557)), (q7544, .inl (I .int, 40, .inl f7558)), (q7545, .inl (I .int, 200, .inl f7559)), (q7546, .inl (I .int, 200, .inl f7560)), (q7547, .inl (I .int, 200, .inl f7561)), (q7548, .inl (I .int, 200, .inl f7562)), (q7549, .inl (I .int, 200, .inl f7563)), (q7550, .inl (I .int, 200, .inl f7564))]) (cs' := 0) (sl' := 0) rfl rfl rfl ?_
                  refine G_aload_n 2 d_cX4_write_71 rfl ?_
                  refine G_bipush 10 d_cX4_write_72 (by decide +kernel) ?_
                  refine G_callV (As := [.int 10]) (wr := [(q7540, .inr (5, [.ref q7542, .ref q7543, .ref q7544, .ref q7545, .ref q7546, .ref q7547, .ref q7548, .ref q7549, .ref q7550, .int p7552, .int p7553, .int p7554])), (q7542, .inl (I .int, 40, .inl f7556)), (q7543, .inl (I .int, 40, .inl f7557)), (q7544, .inl (I .int, 40, .inl f7558)), (q7545, .inl (I .int, 200, .inl f7559)), (q7546, .inl (I .int, 200, .inl f7560)), (q7547, .inl (I .int, 200, .inl f7561)), (q7548, .inl (I .int, 200, .inl f7562)), (q7549, .inl (I .int, 200, .inl f7563)), (q7550, .inl (I .int, 200, .inl f7564))]) (gV_ok D I) (ct_7598_Listing_addByte l hl0 D I q7539 q7541 10 o11663 f11664 (gB_w (gBl (show Int32.toInt 10 = 10 by decide)) (by decide) (by decide)) bo11663 bf11664) d_cX4_write_74 ⟨w_6_171, w_1_13, w_6_174, by decide, rfl, (Nat.le_of_ble_eq_true rfl), (Nat.le_of_ble_eq_true rfl)⟩ w_6_173 w_p_66 0 rfl rfl [0, 2] [1, 3, 4, 5, 6, 7, 8, 9, 10, 11] rfl rfl rfl rfl (by decide) (Nat.le_of_ble_eq_true rfl) (Nat.le_of_ble_eq_true rfl) (Nat.le_of_ble_eq_true rfl) (fun r w hp => ?_) (fun _ _ _ z => z.elim)
                  obtain ⟨o11665, f11666, rfl, rfl, bo11665, bf11666⟩ := hp
                  change G _ _ _ _ _ _ _ _ _ _ _
                  refine G_ws (ws' := [(q7540, .inr (5, [.ref q7542, .ref q7543, .ref q7544, .ref q7545, .ref q7546, .ref q7547, .ref q7548, .ref q7549, .ref q7550, .int p7552, .int p7553, .int p7554])), (q7542, .inl (I .int, 40, .inl f7556)), (q7543, .inl (I .int, 40, .inl f7557)), (q7544, .inl (I .int, 40, .inl f7558)), (q7545, .inl (I .int, 200, .inl f7559)), (q7546, .inl (I .int, 200, .inl f7560)), (q7547, .inl (I .int, 200, .inl f7561)), (q7548, .inl (I .int, 200, .inl f7562)), (q7549, .inl (I .int, 200, .inl f7563)), (q7550, .inl (I .int, 200, .inl f7564)), (q7539, .inr (9, [.ref q7541, .int o11665])), (q7541, .inl (I .byte, 16384, .inl f11666))]) (cs' := 0) (sl' := 0) rfl rfl rfl ?_
                  obtain ⟨z11667, hz11667⟩ : ∃ z : Int32, z = g11640 + Int32.ofInt 1 := ⟨_, rfl⟩
                  have ez11667 : z11667.toInt = g11640.toInt + 1 := gI_inc hz11667 (by decide) bg11640' (by decide) (by decide)
                  have bz11667 : gB z11667 1 200 := ⟨by omega, by omega⟩
                  refine G_iinc (L' := [(3, .int z11667), (2, .int g11526), (0, .ref q7539), (1, .ref q7540)]) z11667 0 d_cX4_write_77 rfl hz11667.symm (Nat.le_of_ble_eq_true rfl) rfl ?_
                  refine G_goto 35 d_cX4_write_80 (by decide +kernel) ?_
                  exact ih35_11642 z11667 o11665 f11666 (gB_w bz11667 (by decide) (by decide)) (gB_w bo11665 (by decide) (by decide)) bf11666 (by omega)
                · have r11668 : 19 ≤ z11660.toInt := gj_nlt hc11661 (show Int32.toInt 19 = 19 by decide)
                  have bz11660' : gB z11660 19 21 := ⟨by omega, by omega⟩
                  refine G_aload_n 2 d_cX4_write_55 rfl ?_
                  refine G_aload_n 3 d_cX4_write_56 rfl ?_
                  refine G_iload_n 1 d_cX4_write_57 rfl ?_
                  refine G_iload_n 0 d_cX4_write_58 rfl ?_
                  refine G_callV (As := [.ref q7540, .int g11526, .int g11640]) (wr := []) (gV_ok D I) (ct_10538_Listing_addEnd l hl0 D I q7539 q7540 q7541 q7542 q7543 q7544 q7545 q7546 q7547 q7548 q7549 q7550 g11526 g11640 g11641 p7552 p7553 p7554 f11642 f7556 f7557 f7558 f7559 f7560 f7561 f7562 f7563 f7564 bg11526' bg11640' bg11641 (gB_w bp7552' (by decide) (by decide)) (gB_w bp7553' (by decide) (by decide)) bp7554 bf11642 bf7556 bf7559) d_cX4_write_59 ⟨w_6_186, w_1_13, w_6_189, by decide, rfl, (Nat.le_of_ble_eq_true rfl), (Nat.le_of_ble_eq_true rfl)⟩ w_6_188 w_p_68 0 rfl rfl [0, 2, 1, 3, 4, 5, 6, 7, 8, 9, 10, 11] [] rfl rfl rfl rfl (by decide) (Nat.le_of_ble_eq_true rfl) (Nat.le_of_ble_eq_true rfl) (Nat.le_of_ble_eq_true rfl) (fun r w hp => ?_) (fun _ _ _ z => z.elim)
                  obtain ⟨o11669, f11670, rfl, rfl, bo11669, bf11670⟩ := hp
                  change G _ _ _ _ _ _ _ _ _ _ _
                  refine G_ws (ws' := [(q7539, .inr (9, [.ref q7541, .int o11669])), (q7540, .inr (5, [.ref q7542, .ref q7543, .ref q7544, .ref q7545, .ref q7546, .ref q7547, .ref q7548, .ref q7549, .ref q7550, .int p7552, .int p7553, .int p7554])), (q7541, .inl (I .byte, 16384, .inl f11670)), (q7542, .inl (I .int, 40, .inl f7556)), (q7543, .inl (I .int, 40, .inl f7557)), (q7544, .inl (I .int, 40, .inl f7558)), (q7545, .inl (I .int, 200, .inl f7559)), (q7546, .inl (I .int, 200, .inl f7560)), (q7547, .inl (I .int, 200, .inl f7561)), (q7548, .inl (I .int, 200, .inl f7562)), (q7549, .inl (I .int, 200, .inl f7563)), (q7550, .inl (I .int, 200, .inl f7564))]) (cs' := 0) (sl' := 0) rfl rfl rfl ?_
                  refine G_goto 71 d_cX4_write_62 (by decide +kernel) ?_
                  refine G_aload_n 2 d_cX4_write_71 rfl ?_
                  refine G_bipush 10 d_cX4_write_72 (by decide +kernel) ?_
                  refine G_callV (As := [.int 10]) (wr := [(q7540, .inr (5, [.ref q7542, .ref q7543, .ref q7544, .ref q7545, .ref q7546, .ref q7547, .ref q7548, .ref q7549, .ref q7550, .int p7552, .int p7553, .int p7554])), (q7542, .inl (I .int, 40, .inl f7556)), (q7543, .inl (I .int, 40, .inl f7557)), (q7544, .inl (I .int, 40, .inl f7558)), (q7545, .inl (I .int, 200, .inl f7559)), (q7546, .inl (I .int, 200, .inl f7560)), (q7547, .inl (I .int, 200, .inl f7561)), (q7548, .inl (I .int, 200, .inl f7562)), (q7549, .inl (I .int, 200, .inl f7563)), (q7550, .inl (I .int, 200, .inl f7564))]) (gV_ok D I) (ct_7598_Listing_addByte l hl0 D I q7539 q7541 10 o11669 f11670 (gB_w (gBl (show Int32.toInt 10 = 10 by decide)) (by decide) (by decide)) bo11669 bf11670) d_cX4_write_74 ⟨w_6_171, w_1_13, w_6_174, by decide, rfl, (Nat.le_of_ble_eq_true rfl), (Nat.le_of_ble_eq_true rfl)⟩ w_6_173 w_p_66 0 rfl rfl [0, 2] [1, 3, 4, 5, 6, 7, 8, 9, 10, 11] rfl rfl rfl rfl (by decide) (Nat.le_of_ble_eq_true rfl) (Nat.le_of_ble_eq_true rfl) (Nat.le_of_ble_eq_true rfl) (fun r w hp => ?_) (fun _ _ _ z => z.elim)
                  obtain ⟨o11671, f11672, rfl, rfl, bo11671, bf11672⟩ := hp
                  change G _ _ _ _ _ _ _ _ _ _ _
                  refine G_ws (ws' := [(q7540, .inr (5, [.ref q7542, .ref q7543, .ref q7544, .ref q7545, .ref q7546, .ref q7547, .ref q7548, .ref q7549, .ref q7550, .int p7552, .int p7553, .int p7554])), (q7542, .inl (I .int, 40, .inl f7556)), (q7543, .inl (I .int, 40, .inl f7557)), (q7544, .inl (I .int, 40, .inl f7558)), (q7545, .inl (I .int, 200, .inl f7559)), (q7546, .inl (I .int, 200, .inl f7560)), (q7547, .inl (I .int, 200, .inl f7561)), (q7548, .inl (I .int, 200, .inl f7562)), (q7549, .inl (I .int, 200, .inl f7563)), (q7550, .inl (I .int, 200, .inl f7564)), (q7539, .inr (9, [.ref q7541, .int o11671])), (q7541, .inl (I .byte, 16384, .inl f11672))]) (cs' := 0) (sl' := 0) rfl rfl rfl ?_
                  obtain ⟨z11673, hz11673⟩ : ∃ z : Int32, z = g11640 + Int32.ofInt 1 := ⟨_, rfl⟩
                  have ez11673 : z11673.toInt = g11640.toInt + 1 := gI_inc hz11673 (by decide) bg11640' (by decide) (by decide)
                  have bz11673 : gB z11673 1 200 := ⟨by omega, by omega⟩
                  refine G_iinc (L' := [(3, .int z11673), (2, .int g11526), (0, .ref q7539), (1, .ref q7540)]) z11673 0 d_cX4_write_77 rfl hz11673.symm (Nat.le_of_ble_eq_true rfl) rfl ?_
                  refine G_goto 35 d_cX4_write_80 (by decide +kernel) ?_
                  exact ih35_11642 z11673 o11671 f11672 (gB_w bz11673 (by decide) (by decide)) (gB_w bo11671 (by decide) (by decide)) bf11672 (by omega)
            · have bp7552'' : gB p7552 2 40 := ⟨by omega, by omega⟩
              change G _ _ _ _ _ _ _ (.int z11647 :: _) _ _ _
              refine G_ws (ws' := [(q7539, .inr (9, [.ref q7541, .int g11641])), (q7541, .inl (I .byte, 16384, .inl f11642)), (q7540, .inr (5, [.ref q7542, .ref q7543, .ref q7544, .ref q7545, .ref q7546, .ref q7547, .ref q7548, .ref q7549, .ref q7550, .int p7552, .int p7553, .int p7554])), (q7542, .inl (I .int, 40, .inl f7556)), (q7543, .inl (I .int, 40, .inl f7557)), (q7544, .inl (I .int, 40, .inl f7558)), (q7545, .inl (I .int, 200, .inl f7559)), (q7546, .inl (I .int, 200, .inl f7560)), (q7547, .inl (I .int, 200, .inl f7561)), (q7548, .inl (I .int, 200, .inl f7562)), (q7549, .inl (I .int, 200, .inl f7563)), (q7550, .inl (I .int, 200, .inl f7564))]) (cs' := 0) (sl' := 0) rfl rfl rfl ?_
              refine G_icmp_ge 83 d_cX4_write_41 (by decide +kernel) (fun hc11674 => ?_) (fun hc11674 => ?_)
              · have r11675 : z11647.toInt ≤ g11640.toInt := gC_le hc11674
                obtain ⟨z11676, hz11676⟩ : ∃ z : Int32, z = g11526 + Int32.ofInt 1 := ⟨_, rfl⟩
                have ez11676 : z11676.toInt = g11526.toInt + 1 := gI_inc hz11676 (by decide) bg11526' (by decide) (by decide)
                have bz11676 : gB z11676 1 40 := ⟨by omega, by omega⟩
                refine G_iinc (L' := [(2, .int z11676), (3, .int g11640), (0, .ref q7539), (1, .ref q7540)]) z11676 1 d_cX4_write_83 rfl hz11676.symm (Nat.le_of_ble_eq_true rfl) rfl ?_
                refine G_goto 7 d_cX4_write_86 (by decide +kernel) ?_
                refine G_lv (L' := [(2, .int z11676), (0, .ref q7539), (1, .ref q7540)]) [0, 2, 3] rfl ?_
                refine G_sub (ws' := [(q7539, .inr (9, [.ref q7541, .int g11641])), (q7540, .inr (5, [.ref q7542, .ref q7543, .ref q7544, .ref q7545, .ref q7546, .ref q7547, .ref q7548, .ref q7549, .ref q7550, .int p7552, .int p7553, .int p7554])), (q7541, .inl (I .byte, 16384, .inl f11642)), (q7542, .inl (I .int, 40, .inl f7556)), (q7543, .inl (I .int, 40, .inl f7557)), (q7544, .inl (I .int, 40, .inl f7558)), (q7545, .inl (I .int, 200, .inl f7559)), (q7546, .inl (I .int, 200, .inl f7560)), (q7547, .inl (I .int, 200, .inl f7561)), (q7548, .inl (I .int, 200, .inl f7562)), (q7549, .inl (I .int, 200, .inl f7563)), (q7550, .inl (I .int, 200, .inl f7564))]) [0, 2, 1, 3, 4, 5, 6, 7, 8, 9, 10, 11] rfl rfl ?_
                exact ih7_11528 z11676 g11641 f11642 (gB_w bz11676 (by decide) (by decide)) bg11641 bf11642 (by omega)
              · have r11677 : g11640.toInt < z11647.toInt := gC_nle hc11674
                have bg11640' : gB g11640 0 199 := ⟨by omega, by omega⟩
                have r11653' : gB z11647 1 200 := ⟨by omega, by omega⟩
                refine G_aload_n 3 d_cX4_write_44 rfl ?_
                refine G_getfN 2 3 d_cX4_write_45 rfl (gk_X0 D I) (Nat.le_of_ble_eq_true rfl) (fun _ _ _ h => gn_w 15 rfl h) rfl ?_
                refine G_iload_n 0 d_cX4_write_48 rfl ?_
                refine G_iald 6 0 d_cX4_write_49 rfl rfl (gB_in bg11640' (by decide) (by decide)) (G_nam fun z11678 hz11678 => ?_)
                have bz11678 : gB z11678 0 21 := by rw [hz11678]; exact bf7559 _
                refine G_bipush 19 d_cX4_write_50 (by decide +kernel) ?_
                refine G_icmp_lt 65 d_cX4_write_52 (by decide +kernel) (fun hc11679 => ?_) (fun hc11679 => ?_)
                · have r11680 : z11678.toInt < 19 := gj_lt hc11679 (show Int32.toInt 19 = 19 by decide)
                  have bz11678' : gB z11678 0 18 := ⟨by omega, by omega⟩
                  refine G_aload_n 2 d_cX4_write_65 rfl ?_
                  refine G_aload_n 3 d_cX4_write_66 rfl ?_
                  refine G_iload_n 0 d_cX4_write_67 rfl ?_
                  refine G_callV (As := [.ref q7540, .int g11640]) (wr := []) (gV_ok D I) (ct_10364_Listing_addRow l hl0 D I q7539 q7540 q7541 q7542 q7543 q7544 q7545 q7546 q7547 q7548 q7549 q7550 g11640 g11641 p7552 p7553 p7554 f11642 f7556 f7557 f7558 f7559 f7560 f7561 f7562 f7563 f7564 bg11640' bg11641 (gB_w bp7552'' (by decide) (by decide)) bp7553 bp7554 bf11642 bf7556 bf7559) d_cX4_write_68 ⟨w_6_199, w_1_13, w_6_202, by decide, rfl, (Nat.le_of_ble_eq_true rfl), (Nat.le_of_ble_eq_true rfl)⟩ w_6_201 w_p_70 0 rfl rfl [0, 2, 1, 3, 4, 5, 6, 7, 8, 9, 10, 11] [] rfl rfl rfl rfl (by decide) (Nat.le_of_ble_eq_true rfl) (Nat.le_of_ble_eq_true rfl) (Nat.le_of_ble_eq_true rfl) (fun r w hp => ?_) (fun _ _ _ z => z.elim)
                  obtain ⟨o11681, f11682, rfl, rfl, bo11681, bf11682⟩ := hp
                  change G _ _ _ _ _ _ _ _ _ _ _
                  refine G_ws (ws' := [(q7539, .inr (9, [.ref q7541, .int o11681])), (q7540, .inr (5, [.ref q7542, .ref q7543, .ref q7544, .ref q7545, .ref q7546, .ref q7547, .ref q7548, .ref q7549, .ref q7550, .int p7552, .int p7553, .int p7554])), (q7541, .inl (I .byte, 16384, .inl f11682)), (q7542, .inl (I .int, 40, .inl f7556)), (q7543, .inl (I .int, 40, .inl f7557)), (q7544, .inl (I .int, 40, .inl f7558)), (q7545, .inl (I .int, 200, .inl f7559)), (q7546, .inl (I .int, 200, .inl f7560)), (q7547, .inl (I .int, 200, .inl f7561)), (q7548, .inl (I .int, 200, .inl f7562)), (q7549, .inl (I .int, 200, .inl f7563)), (q7550, .inl (I .int, 200, .inl f7564))]) (cs' := 0) (sl' := 0) rfl rfl rfl ?_
                  refine G_aload_n 2 d_cX4_write_71 rfl ?_
                  refine G_bipush 10 d_cX4_write_72 (by decide +kernel) ?_
                  refine G_callV (As := [.int 10]) (wr := [(q7540, .inr (5, [.ref q7542, .ref q7543, .ref q7544, .ref q7545, .ref q7546, .ref q7547, .ref q7548, .ref q7549, .ref q7550, .int p7552, .int p7553, .int p7554])), (q7542, .inl (I .int, 40, .inl f7556)), (q7543, .inl (I .int, 40, .inl f7557)), (q7544, .inl (I .int, 40, .inl f7558)), (q7545, .inl (I .int, 200, .inl f7559)), (q7546, .inl (I .int, 200, .inl f7560)), (q7547, .inl (I .int, 200, .inl f7561)), (q7548, .inl (I .int, 200, .inl f7562)), (q7549, .inl (I .int, 200, .inl f7563)), (q7550, .inl (I .int, 200, .inl f7564))]) (gV_ok D I) (ct_7598_Listing_addByte l hl0 D I q7539 q7541 10 o11681 f11682 (gB_w (gBl (show Int32.toInt 10 = 10 by decide)) (by decide) (by decide)) bo11681 bf11682) d_cX4_write_74 ⟨w_6_171, w_1_13, w_6_174, by decide, rfl, (Nat.le_of_ble_eq_true rfl), (Nat.le_of_ble_eq_true rfl)⟩ w_6_173 w_p_66 0 rfl rfl [0, 2] [1, 3, 4, 5, 6, 7, 8, 9, 10, 11] rfl rfl rfl rfl (by decide) (Nat.le_of_ble_eq_true rfl) (Nat.le_of_ble_eq_true rfl) (Nat.le_of_ble_eq_true rfl) (fun r w hp => ?_) (fun _ _ _ z => z.elim)
                  obtain ⟨o11683, f11684, rfl, rfl, bo11683, bf11684⟩ := hp
                  change G _ _ _ _ _ _ _ _ _ _ _
                  refine G_ws (ws' := [(q7540, .inr (5, [.ref q7542, .ref q7543, .ref q7544, .ref q7545, .ref q7546, .ref q7547, .ref q7548, .ref q7549, .ref q7550, .int p7552, .int p7553, .int p7554])), (q7542, .inl (I .int, 40, .inl f7556)), (q7543, .inl (I .int, 40, .inl f7557)), (q7544, .inl (I .int, 40, .inl f7558)), (q7545, .inl (I .int, 200, .inl f7559)), (q7546, .inl (I .int, 200, .inl f7560)), (q7547, .inl (I .int, 200, .inl f7561)), (q7548, .inl (I .int, 200, .inl f7562)), (q7549, .inl (I .int, 200, .inl f7563)), (q7550, .inl (I .int, 200, .inl f7564)), (q7539, .inr (9, [.ref q7541, .int o11683])), (q7541, .inl (I .byte, 16384, .inl f11684))]) (cs' := 0) (sl' := 0) rfl rfl rfl ?_
                  obtain ⟨z11685, hz11685⟩ : ∃ z : Int32, z = g11640 + Int32.ofInt 1 := ⟨_, rfl⟩
                  have ez11685 : z11685.toInt = g11640.toInt + 1 := gI_inc hz11685 (by decide) bg11640' (by decide) (by decide)
                  have bz11685 : gB z11685 1 200 := ⟨by omega, by omega⟩
                  refine G_iinc (L' := [(3, .int z11685), (2, .int g11526), (0, .ref q7539), (1, .ref q7540)]) z11685 0 d_cX4_write_77 rfl hz11685.symm (Nat.le_of_ble_eq_true rfl) rfl ?_
                  refine G_goto 35 d_cX4_write_80 (by decide +kernel) ?_
                  exact ih35_11642 z11685 o11683 f11684 (gB_w bz11685 (by decide) (by decide)) (gB_w bo11683 (by decide) (by decide)) bf11684 (by omega)
                · have r11686 : 19 ≤ z11678.toInt := gj_nlt hc11679 (show Int32.toInt 19 = 19 by decide)
                  have bz11678' : gB z11678 19 21 := ⟨by omega, by omega⟩
                  refine G_aload_n 2 d_cX4_write_55 rfl ?_
                  refine G_aload_n 3 d_cX4_write_56 rfl ?_
                  refine G_iload_n 1 d_cX4_write_57 rfl ?_
                  refine G_iload_n 0 d_cX4_write_58 rfl ?_
                  refine G_callV (As := [.ref q7540, .int g11526, .int g11640]) (wr := []) (gV_ok D I) (ct_10538_Listing_addEnd l hl0 D I q7539 q7540 q7541 q7542 q7543 q7544 q7545 q7546 q7547 q7548 q7549 q7550 g11526 g11640 g11641 p7552 p7553 p7554 f11642 f7556 f7557 f7558 f7559 f7560 f7561 f7562 f7563 f7564 bg11526' bg11640' bg11641 (gB_w bp7552'' (by decide) (by decide)) bp7553 bp7554 bf11642 bf7556 bf7559) d_cX4_write_59 ⟨w_6_186, w_1_13, w_6_189, by decide, rfl, (Nat.le_of_ble_eq_true rfl), (Nat.le_of_ble_eq_true rfl)⟩ w_6_188 w_p_68 0 rfl rfl [0, 2, 1, 3, 4, 5, 6, 7, 8, 9, 10, 11] [] rfl rfl rfl rfl (by decide) (Nat.le_of_ble_eq_true rfl) (Nat.le_of_ble_eq_true rfl) (Nat.le_of_ble_eq_true rfl) (fun r w hp => ?_) (fun _ _ _ z => z.elim)
                  obtain ⟨o11687, f11688, rfl, rfl, bo11687, bf11688⟩ := hp
                  change G _ _ _ _ _ _ _ _ _ _ _
                  refine G_ws (ws' := [(q7539, .inr (9, [.ref q7541, .int o11687])), (q7540, .inr (5, [.ref q7542, .ref q7543, .ref q7544, .ref q7545, .ref q7546, .ref q7547, .ref q7548, .ref q7549, .ref q7550, .int p7552, .int p7553, .int p7554])), (q7541, .inl (I .byte, 16384, .inl f11688)), (q7542, .inl (I .int, 40, .inl f7556)), (q7543, .inl (I .int, 40, .inl f7557)), (q7544, .inl (I .int, 40, .inl f7558)), (q7545, .inl (I .int, 200, .inl f7559)), (q7546, .inl (I .int, 200, .inl f7560)), (q7547, .inl (I .int, 200, .inl f7561)), (q7548, .inl (I .int, 200, .inl f7562)), (q7549, .inl (I .int, 200, .inl f7563)), (q7550, .inl (I .int, 200, .inl f7564))]) (cs' := 0) (sl' := 0) rfl rfl rfl ?_
                  refine G_goto 71 d_cX4_write_62 (by decide +kernel) ?_
                  refine G_aload_n 2 d_cX4_write_71 rfl ?_
                  refine G_bipush 10 d_cX4_write_72 (by decide +kernel) ?_
                  refine G_callV (As := [.int 10]) (wr := [(q7540, .inr (5, [.ref q7542, .ref q7543, .ref q7544, .ref q7545, .ref q7546, .ref q7547, .ref q7548, .ref q7549, .ref q7550, .int p7552, .int p7553, .int p7554])), (q7542, .inl (I .int, 40, .inl f7556)), (q7543, .inl (I .int, 40, .inl f7557)), (q7544, .inl (I .int, 40, .inl f7558)), (q7545, .inl (I .int, 200, .inl f7559)), (q7546, .inl (I .int, 200, .inl f7560)), (q7547, .inl (I .int, 200, .inl f7561)), (q7548, .inl (I .int, 200, .inl f7562)), (q7549, .inl (I .int, 200, .inl f7563)), (q7550, .inl (I .int, 200, .inl f7564))]) (gV_ok D I) (ct_7598_Listing_addByte l hl0 D I q7539 q7541 10 o11687 f11688 (gB_w (gBl (show Int32.toInt 10 = 10 by decide)) (by decide) (by decide)) bo11687 bf11688) d_cX4_write_74 ⟨w_6_171, w_1_13, w_6_174, by decide, rfl, (Nat.le_of_ble_eq_true rfl), (Nat.le_of_ble_eq_true rfl)⟩ w_6_173 w_p_66 0 rfl rfl [0, 2] [1, 3, 4, 5, 6, 7, 8, 9, 10, 11] rfl rfl rfl rfl (by decide) (Nat.le_of_ble_eq_true rfl) (Nat.le_of_ble_eq_true rfl) (Nat.le_of_ble_eq_true rfl) (fun r w hp => ?_) (fun _ _ _ z => z.elim)
                  obtain ⟨o11689, f11690, rfl, rfl, bo11689, bf11690⟩ := hp
                  change G _ _ _ _ _ _ _ _ _ _ _
                  refine G_ws (ws' := [(q7540, .inr (5, [.ref q7542, .ref q7543, .ref q7544, .ref q7545, .ref q7546, .ref q7547, .ref q7548, .ref q7549, .ref q7550, .int p7552, .int p7553, .int p7554])), (q7542, .inl (I .int, 40, .inl f7556)), (q7543, .inl (I .int, 40, .inl f7557)), (q7544, .inl (I .int, 40, .inl f7558)), (q7545, .inl (I .int, 200, .inl f7559)), (q7546, .inl (I .int, 200, .inl f7560)), (q7547, .inl (I .int, 200, .inl f7561)), (q7548, .inl (I .int, 200, .inl f7562)), (q7549, .inl (I .int, 200, .inl f7563)), (q7550, .inl (I .int, 200, .inl f7564)), (q7539, .inr (9, [.ref q7541, .int o11689])), (q7541, .inl (I .byte, 16384, .inl f11690))]) (cs' := 0) (sl' := 0) rfl rfl rfl ?_
                  obtain ⟨z11691, hz11691⟩ : ∃ z : Int32, z = g11640 + Int32.ofInt 1 := ⟨_, rfl⟩
                  have ez11691 : z11691.toInt = g11640.toInt + 1 := gI_inc hz11691 (by decide) bg11640' (by decide) (by decide)
                  have bz11691 : gB z11691 1 200 := ⟨by omega, by omega⟩
                  refine G_iinc (L' := [(3, .int z11691), (2, .int g11526), (0, .ref q7539), (1, .ref q7540)]) z11691 0 d_cX4_write_77 rfl hz11691.symm (Nat.le_of_ble_eq_true rfl) rfl ?_
                  refine G_goto 35 d_cX4_write_80 (by decide +kernel) ?_
                  exact ih35_11642 z11691 o11689 f11690 (gB_w bz11691 (by decide) (by decide)) (gB_w bo11689 (by decide) (by decide)) bf11690 (by omega)
        exact hlp35_11642 (((201 : Int) - z11538.toInt).toNat + 1) z11538 o11536 f11537 bz11538 bo11536 bf11537 (Nat.lt_succ_self _)
  exact hlp7_11528 (((41 : Int) - 0).toNat + 1) 0 0 f7555 (gB_w (gBl (show Int32.toInt 0 = 0 by decide)) (by decide) (by decide)) (gB_w (gBl (show Int32.toInt 0 = 0 by decide)) (by decide) (by decide)) bf7555 (Nat.lt_succ_self _)
