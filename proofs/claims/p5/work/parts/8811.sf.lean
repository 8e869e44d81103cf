theorem d_cX4_addNamed_0 : decode cX4_addNamed 0 = .ok (.aload_n 0, 1) := by decide +kernel
theorem d_cX4_addNamed_1 : decode cX4_addNamed 1 = .ok (.aload_n 1, 1) := by decide +kernel
theorem d_cX4_addNamed_2 : decode cX4_addNamed 2 = .ok (.invokevirtual 32, 3) := by decide +kernel
theorem w_6_165 : (Jvm.Cond.methodLink "SpillForge$Listing" (32 : Nat) ({ cls := "SpillForge$Listing", name := "addText", desc := "(Ljava/lang/String;)V" } : Jvm.MethodName)) ∈ gw := gw_6 165 rfl rfl
theorem w_6_168 : (Jvm.Cond.code ({ cls := "SpillForge$Listing", name := "addText", desc := "(Ljava/lang/String;)V" } : Jvm.MethodName) prog_6_method_11_code (3 : Nat) (Option.none : Option Jvm.ClassFile.FieldType)) ∈ gw := gw_6 168 rfl rfl
theorem w_6_167 : (Jvm.Cond.instanceMethod ({ cls := "SpillForge$Listing", name := "addText", desc := "(Ljava/lang/String;)V" } : Jvm.MethodName)) ∈ gw := gw_6 167 rfl rfl
theorem w_p_65 : Cond.selects "SpillForge$Listing" ⟨"SpillForge$Listing", "addText", "(Ljava/lang/String;)V"⟩ ⟨"SpillForge$Listing", "addText", "(Ljava/lang/String;)V"⟩ ∈ gw := gw_p _ 65 rfl rfl rfl
theorem d_cX4_addNamed_5 : decode cX4_addNamed 5 = .ok (.aload_n 0, 1) := by decide +kernel
theorem d_cX4_addNamed_6 : decode cX4_addNamed 6 = .ok (.iload_n 2, 1) := by decide +kernel
theorem d_cX4_addNamed_7 : decode cX4_addNamed 7 = .ok (.invokevirtual 119, 3) := by decide +kernel
theorem w_6_175 : (Jvm.Cond.methodLink "SpillForge$Listing" (119 : Nat) ({ cls := "SpillForge$Listing", name := "addNumber", desc := "(I)V" } : Jvm.MethodName)) ∈ gw := gw_6 175 rfl rfl
theorem w_6_178 : (Jvm.Cond.code ({ cls := "SpillForge$Listing", name := "addNumber", desc := "(I)V" } : Jvm.MethodName) prog_6_method_12_code (7 : Nat) (Option.none : Option Jvm.ClassFile.FieldType)) ∈ gw := gw_6 178 rfl rfl
theorem w_6_177 : (Jvm.Cond.instanceMethod ({ cls := "SpillForge$Listing", name := "addNumber", desc := "(I)V" } : Jvm.MethodName)) ∈ gw := gw_6 177 rfl rfl
theorem w_p_67 : Cond.selects "SpillForge$Listing" ⟨"SpillForge$Listing", "addNumber", "(I)V"⟩ ⟨"SpillForge$Listing", "addNumber", "(I)V"⟩ ∈ gw := gw_p _ 67 rfl rfl rfl
theorem d_cX4_addNamed_10 : decode cX4_addNamed 10 = .ok (.return_, 1) := by decide +kernel
theorem d_cX4_addOperand_0 : decode cX4_addOperand 0 = .ok (.iload_n 1, 1) := by decide +kernel
theorem d_cX4_addOperand_1 : decode cX4_addOperand 1 = .ok (.iconst (-1), 1) := by decide +kernel
theorem d_cX4_addOperand_2 : decode cX4_addOperand 2 = .ok (.if_icmp .ne 11, 3) := by decide +kernel
theorem d_cX4_addOperand_13 : decode cX4_addOperand 13 = .ok (.aload_n 0, 1) := by decide +kernel
theorem d_cX4_addOperand_14 : decode cX4_addOperand 14 = .ok (.ldc 92, 2) := by decide +kernel
theorem d_cX4_addOperand_16 : decode cX4_addOperand 16 = .ok (.iload_n 1, 1) := by decide +kernel
theorem d_cX4_addOperand_17 : decode cX4_addOperand 17 = .ok (.invokevirtual 26, 3) := by decide +kernel
theorem w_6_161 : (Jvm.Cond.methodLink "SpillForge$Listing" (26 : Nat) ({ cls := "SpillForge$Listing", name := "addNamed", desc := "(Ljava/lang/String;I)V" } : Jvm.MethodName)) ∈ gw := gw_6 161 rfl rfl
theorem w_6_164 : (Jvm.Cond.code ({ cls := "SpillForge$Listing", name := "addNamed", desc := "(Ljava/lang/String;I)V" } : Jvm.MethodName) prog_6_method_10_code (3 : Nat) (Option.none : Option Jvm.ClassFile.FieldType)) ∈ gw := gw_6 164 rfl rfl
theorem w_6_163 : (Jvm.Cond.instanceMethod ({ cls := "SpillForge$Listing", name := "addNamed", desc := "(Ljava/lang/String;I)V" } : Jvm.MethodName)) ∈ gw := gw_6 163 rfl rfl
theorem w_p_64 : Cond.selects "SpillForge$Listing" ⟨"SpillForge$Listing", "addNamed", "(Ljava/lang/String;I)V"⟩ ⟨"SpillForge$Listing", "addNamed", "(Ljava/lang/String;I)V"⟩ ∈ gw := gw_p _ 64 rfl rfl rfl
theorem d_cX4_addOperand_20 : decode cX4_addOperand 20 = .ok (.return_, 1) := by decide +kernel
theorem d_cX4_addOperand_5 : decode cX4_addOperand 5 = .ok (.aload_n 0, 1) := by decide +kernel
theorem d_cX4_addOperand_6 : decode cX4_addOperand 6 = .ok (.iload_n 2, 1) := by decide +kernel
theorem d_cX4_addOperand_7 : decode cX4_addOperand 7 = .ok (.invokevirtual 119, 3) := by decide +kernel
theorem d_cX4_addOperand_10 : decode cX4_addOperand 10 = .ok (.goto 10, 3) := by decide +kernel
theorem d_cX4_addOp_0 : decode cX4_addOp 0 = .ok (.aload_n 0, 1) := by decide +kernel
theorem d_cX4_addOp_1 : decode cX4_addOp 1 = .ok (.bipush 32, 2) := by decide +kernel
theorem d_cX4_addOp_3 : decode cX4_addOp 3 = .ok (.invokevirtual 55, 3) := by decide +kernel
theorem d_cX4_addOp_6 : decode cX4_addOp 6 = .ok (.aload_n 0, 1) := by decide +kernel
theorem d_cX4_addOp_7 : decode cX4_addOp 7 = .ok (.ldc 111, 2) := by decide +kernel
theorem d_cX4_addOp_9 : decode cX4_addOp 9 = .ok (.iconst 2, 1) := by decide +kernel
theorem d_cX4_addOp_10 : decode cX4_addOp 10 = .ok (.iload_n 1, 1) := by decide +kernel
theorem d_cX4_addOp_11 : decode cX4_addOp 11 = .ok (.imul, 1) := by decide +kernel
theorem d_cX4_addOp_12 : decode cX4_addOp 12 = .ok (.invokevirtual 113, 3) := by decide +kernel
theorem d_cX4_addOp_15 : decode cX4_addOp 15 = .ok (.invokevirtual 55, 3) := by decide +kernel
theorem d_cX4_addOp_18 : decode cX4_addOp 18 = .ok (.ldc 111, 2) := by decide +kernel
theorem d_cX4_addOp_20 : decode cX4_addOp 20 = .ok (.iconst 2, 1) := by decide +kernel
theorem d_cX4_addOp_21 : decode cX4_addOp 21 = .ok (.iload_n 1, 1) := by decide +kernel
theorem d_cX4_addOp_22 : decode cX4_addOp 22 = .ok (.imul, 1) := by decide +kernel
theorem d_cX4_addOp_23 : decode cX4_addOp 23 = .ok (.iconst 1, 1) := by decide +kernel
theorem d_cX4_addOp_24 : decode cX4_addOp 24 = .ok (.iadd, 1) := by decide +kernel
theorem d_cX4_addOp_25 : decode cX4_addOp 25 = .ok (.invokevirtual 113, 3) := by decide +kernel
theorem d_cX4_addOp_28 : decode cX4_addOp 28 = .ok (.bipush 32, 2) := by decide +kernel
theorem d_cX4_addOp_30 : decode cX4_addOp 30 = .ok (.if_icmp .eq 17, 3) := by decide +kernel
theorem d_cX4_addOp_47 : decode cX4_addOp 47 = .ok (.aload_n 0, 1) := by decide +kernel
theorem d_cX4_addOp_48 : decode cX4_addOp 48 = .ok (.bipush 32, 2) := by decide +kernel
theorem d_cX4_addOp_50 : decode cX4_addOp 50 = .ok (.invokevirtual 55, 3) := by decide +kernel
theorem d_cX4_addOp_53 : decode cX4_addOp 53 = .ok (.return_, 1) := by decide +kernel
theorem d_cX4_addOp_33 : decode cX4_addOp 33 = .ok (.aload_n 0, 1) := by decide +kernel
theorem d_cX4_addOp_34 : decode cX4_addOp 34 = .ok (.ldc 111, 2) := by decide +kernel
theorem d_cX4_addOp_36 : decode cX4_addOp 36 = .ok (.iconst 2, 1) := by decide +kernel
theorem d_cX4_addOp_37 : decode cX4_addOp 37 = .ok (.iload_n 1, 1) := by decide +kernel
theorem d_cX4_addOp_38 : decode cX4_addOp 38 = .ok (.imul, 1) := by decide +kernel
theorem d_cX4_addOp_39 : decode cX4_addOp 39 = .ok (.iconst 1, 1) := by decide +kernel
theorem d_cX4_addOp_40 : decode cX4_addOp 40 = .ok (.iadd, 1) := by decide +kernel
theorem d_cX4_addOp_41 : decode cX4_addOp 41 = .ok (.invokevirtual 113, 3) := by decide +kernel
theorem d_cX4_addOp_44 : decode cX4_addOp 44 = .ok (.invokevirtual 55, 3) := by decide +kernel
theorem d_cX4_addSource_0 : decode cX4_addSource 0 = .ok (.aload_n 1, 1) := by decide +kernel
theorem d_cX4_addSource_1 : decode cX4_addSource 1 = .ok (.getfield 44, 3) := by decide +kernel
theorem d_cX4_addSource_4 : decode cX4_addSource 4 = .ok (.iload_n 2, 1) := by decide +kernel
theorem d_cX4_addSource_5 : decode cX4_addSource 5 = .ok (.iaload, 1) := by decide +kernel
theorem d_cX4_addSource_6 : decode cX4_addSource 6 = .ok (.bipush 15, 2) := by decide +kernel
theorem d_cX4_addSource_8 : decode cX4_addSource 8 = .ok (.if_icmp .ne 12, 3) := by decide +kernel
theorem d_cX4_addSource_20 : decode cX4_addSource 20 = .ok (.aload_n 1, 1) := by decide +kernel
theorem d_cX4_addSource_21 : decode cX4_addSource 21 = .ok (.getfield 44, 3) := by decide +kernel
theorem d_cX4_addSource_24 : decode cX4_addSource 24 = .ok (.iload_n 2, 1) := by decide +kernel
theorem d_cX4_addSource_25 : decode cX4_addSource 25 = .ok (.iaload, 1) := by decide +kernel
theorem d_cX4_addSource_26 : decode cX4_addSource 26 = .ok (.bipush 17, 2) := by decide +kernel
theorem d_cX4_addSource_28 : decode cX4_addSource 28 = .ok (.if_icmp .ne 18, 3) := by decide +kernel
theorem d_cX4_addSource_46 : decode cX4_addSource 46 = .ok (.aload_n 0, 1) := by decide +kernel
theorem d_cX4_addSource_47 : decode cX4_addSource 47 = .ok (.aload_n 1, 1) := by decide +kernel
theorem d_cX4_addSource_48 : decode cX4_addSource 48 = .ok (.getfield 61, 3) := by decide +kernel
theorem d_cX4_addSource_51 : decode cX4_addSource 51 = .ok (.iload_n 2, 1) := by decide +kernel
theorem d_cX4_addSource_52 : decode cX4_addSource 52 = .ok (.iaload, 1) := by decide +kernel
theorem d_cX4_addSource_53 : decode cX4_addSource 53 = .ok (.aload_n 1, 1) := by decide +kernel
theorem d_cX4_addSource_54 : decode cX4_addSource 54 = .ok (.getfield 64, 3) := by decide +kernel
theorem d_cX4_addSource_57 : decode cX4_addSource 57 = .ok (.iload_n 2, 1) := by decide +kernel
theorem d_cX4_addSource_58 : decode cX4_addSource 58 = .ok (.iaload, 1) := by decide +kernel
theorem d_cX4_addSource_59 : decode cX4_addSource 59 = .ok (.invokevirtual 67, 3) := by decide +kernel
theorem w_6_191 : (Jvm.Cond.methodLink "SpillForge$Listing" (67 : Nat) ({ cls := "SpillForge$Listing", name := "addOperand", desc := "(II)V" } : Jvm.MethodName)) ∈ gw := gw_6 191 rfl rfl
theorem w_6_194 : (Jvm.Cond.code ({ cls := "SpillForge$Listing", name := "addOperand", desc := "(II)V" } : Jvm.MethodName) prog_6_method_9_code (3 : Nat) (Option.none : Option Jvm.ClassFile.FieldType)) ∈ gw := gw_6 194 rfl rfl
theorem w_6_193 : (Jvm.Cond.instanceMethod ({ cls := "SpillForge$Listing", name := "addOperand", desc := "(II)V" } : Jvm.MethodName)) ∈ gw := gw_6 193 rfl rfl
theorem w_p_69 : Cond.selects "SpillForge$Listing" ⟨"SpillForge$Listing", "addOperand", "(II)V"⟩ ⟨"SpillForge$Listing", "addOperand", "(II)V"⟩ ∈ gw := gw_p _ 69 rfl rfl rfl
theorem d_cX4_addSource_62 : decode cX4_addSource 62 = .ok (.aload_n 1, 1) := by decide +kernel
theorem d_cX4_addSource_63 : decode cX4_addSource 63 = .ok (.getfield 44, 3) := by decide +kernel
theorem d_cX4_addSource_66 : decode cX4_addSource 66 = .ok (.iload_n 2, 1) := by decide +kernel
theorem d_cX4_addSource_67 : decode cX4_addSource 67 = .ok (.iaload, 1) := by decide +kernel
theorem d_cX4_addSource_68 : decode cX4_addSource 68 = .ok (.bipush 14, 2) := by decide +kernel
theorem d_cX4_addSource_70 : decode cX4_addSource 70 = .ok (.if_icmp .ge 29, 3) := by decide +kernel
theorem d_cX4_addSource_99 : decode cX4_addSource 99 = .ok (.return_, 1) := by decide +kernel
theorem d_cX4_addSource_73 : decode cX4_addSource 73 = .ok (.aload_n 0, 1) := by decide +kernel
theorem d_cX4_addSource_74 : decode cX4_addSource 74 = .ok (.aload_n 1, 1) := by decide +kernel
theorem d_cX4_addSource_75 : decode cX4_addSource 75 = .ok (.getfield 44, 3) := by decide +kernel
theorem d_cX4_addSource_78 : decode cX4_addSource 78 = .ok (.iload_n 2, 1) := by decide +kernel
theorem d_cX4_addSource_79 : decode cX4_addSource 79 = .ok (.iaload, 1) := by decide +kernel
theorem d_cX4_addSource_80 : decode cX4_addSource 80 = .ok (.invokevirtual 104, 3) := by decide +kernel
theorem w_6_212 : (Jvm.Cond.methodLink "SpillForge$Listing" (104 : Nat) ({ cls := "SpillForge$Listing", name := "addOp", desc := "(I)V" } : Jvm.MethodName)) ∈ gw := gw_6 212 rfl rfl
theorem w_6_215 : (Jvm.Cond.code ({ cls := "SpillForge$Listing", name := "addOp", desc := "(I)V" } : Jvm.MethodName) prog_6_method_8_code (2 : Nat) (Option.none : Option Jvm.ClassFile.FieldType)) ∈ gw := gw_6 215 rfl rfl
theorem w_6_214 : (Jvm.Cond.instanceMethod ({ cls := "SpillForge$Listing", name := "addOp", desc := "(I)V" } : Jvm.MethodName)) ∈ gw := gw_6 214 rfl rfl
theorem w_p_72 : Cond.selects "SpillForge$Listing" ⟨"SpillForge$Listing", "addOp", "(I)V"⟩ ⟨"SpillForge$Listing", "addOp", "(I)V"⟩ ∈ gw := gw_p _ 72 rfl rfl rfl
theorem d_cX4_addSource_83 : decode cX4_addSource 83 = .ok (.aload_n 0, 1) := by decide +kernel
theorem d_cX4_addSource_84 : decode cX4_addSource 84 = .ok (.aload_n 1, 1) := by decide +kernel
theorem d_cX4_addSource_85 : decode cX4_addSource 85 = .ok (.getfield 108, 3) := by decide +kernel
theorem d_cX4_addSource_88 : decode cX4_addSource 88 = .ok (.iload_n 2, 1) := by decide +kernel
theorem d_cX4_addSource_89 : decode cX4_addSource 89 = .ok (.iaload, 1) := by decide +kernel
theorem d_cX4_addSource_90 : decode cX4_addSource 90 = .ok (.aload_n 1, 1) := by decide +kernel
theorem d_cX4_addSource_91 : decode cX4_addSource 91 = .ok (.getfield 87, 3) := by decide +kernel
theorem d_cX4_addSource_94 : decode cX4_addSource 94 = .ok (.iload_n 2, 1) := by decide +kernel
theorem d_cX4_addSource_95 : decode cX4_addSource 95 = .ok (.iaload, 1) := by decide +kernel
theorem d_cX4_addSource_96 : decode cX4_addSource 96 = .ok (.invokevirtual 67, 3) := by decide +kernel
theorem d_cX4_addSource_31 : decode cX4_addSource 31 = .ok (.aload_n 0, 1) := by decide +kernel
theorem d_cX4_addSource_32 : decode cX4_addSource 32 = .ok (.ldc 85, 2) := by decide +kernel
theorem d_cX4_addSource_34 : decode cX4_addSource 34 = .ok (.aload_n 1, 1) := by decide +kernel
theorem d_cX4_addSource_35 : decode cX4_addSource 35 = .ok (.getfield 87, 3) := by decide +kernel
theorem d_cX4_addSource_38 : decode cX4_addSource 38 = .ok (.iload_n 2, 1) := by decide +kernel
theorem d_cX4_addSource_39 : decode cX4_addSource 39 = .ok (.iaload, 1) := by decide +kernel
theorem d_cX4_addSource_40 : decode cX4_addSource 40 = .ok (.invokevirtual 26, 3) := by decide +kernel
theorem d_cX4_addSource_43 : decode cX4_addSource 43 = .ok (.goto 56, 3) := by decide +kernel
theorem d_cX4_addSource_11 : decode cX4_addSource 11 = .ok (.aload_n 0, 1) := by decide +kernel
theorem d_cX4_addSource_12 : decode cX4_addSource 12 = .ok (.ldc 102, 2) := by decide +kernel
theorem d_cX4_addSource_14 : decode cX4_addSource 14 = .ok (.invokevirtual 32, 3) := by decide +kernel
theorem d_cX4_addSource_17 : decode cX4_addSource 17 = .ok (.goto 82, 3) := by decide +kernel
theorem d_cX4_addRow_0 : decode cX4_addRow 0 = .ok (.aload_n 1, 1) := by decide +kernel
theorem d_cX4_addRow_1 : decode cX4_addRow 1 = .ok (.getfield 44, 3) := by decide +kernel
theorem d_cX4_addRow_4 : decode cX4_addRow 4 = .ok (.iload_n 2, 1) := by decide +kernel
theorem d_cX4_addRow_5 : decode cX4_addRow 5 = .ok (.iaload, 1) := by decide +kernel
theorem d_cX4_addRow_6 : decode cX4_addRow 6 = .ok (.bipush 16, 2) := by decide +kernel
theorem d_cX4_addRow_8 : decode cX4_addRow 8 = .ok (.if_icmp .ne 28, 3) := by decide +kernel
theorem d_cX4_addRow_36 : decode cX4_addRow 36 = .ok (.aload_n 1, 1) := by decide +kernel
theorem d_cX4_addRow_37 : decode cX4_addRow 37 = .ok (.getfield 44, 3) := by decide +kernel
theorem d_cX4_addRow_40 : decode cX4_addRow 40 = .ok (.iload_n 2, 1) := by decide +kernel
theorem d_cX4_addRow_41 : decode cX4_addRow 41 = .ok (.iaload, 1) := by decide +kernel
theorem d_cX4_addRow_42 : decode cX4_addRow 42 = .ok (.bipush 18, 2) := by decide +kernel
theorem d_cX4_addRow_44 : decode cX4_addRow 44 = .ok (.if_icmp .ne 30, 3) := by decide +kernel
theorem d_cX4_addRow_74 : decode cX4_addRow 74 = .ok (.aload_n 0, 1) := by decide +kernel
theorem d_cX4_addRow_75 : decode cX4_addRow 75 = .ok (.ldc 92, 2) := by decide +kernel
theorem d_cX4_addRow_77 : decode cX4_addRow 77 = .ok (.aload_n 1, 1) := by decide +kernel
theorem d_cX4_addRow_78 : decode cX4_addRow 78 = .ok (.getfield 94, 3) := by decide +kernel
theorem d_cX4_addRow_81 : decode cX4_addRow 81 = .ok (.iload_n 2, 1) := by decide +kernel
theorem d_cX4_addRow_82 : decode cX4_addRow 82 = .ok (.iaload, 1) := by decide +kernel
theorem d_cX4_addRow_83 : decode cX4_addRow 83 = .ok (.invokevirtual 26, 3) := by decide +kernel
theorem d_cX4_addRow_86 : decode cX4_addRow 86 = .ok (.aload_n 0, 1) := by decide +kernel
theorem d_cX4_addRow_87 : decode cX4_addRow 87 = .ok (.ldc 97, 2) := by decide +kernel
theorem d_cX4_addRow_89 : decode cX4_addRow 89 = .ok (.invokevirtual 32, 3) := by decide +kernel
theorem d_cX4_addRow_92 : decode cX4_addRow 92 = .ok (.aload_n 0, 1) := by decide +kernel
theorem d_cX4_addRow_93 : decode cX4_addRow 93 = .ok (.aload_n 1, 1) := by decide +kernel
theorem d_cX4_addRow_94 : decode cX4_addRow 94 = .ok (.iload_n 2, 1) := by decide +kernel
theorem d_cX4_addRow_95 : decode cX4_addRow 95 = .ok (.invokevirtual 99, 3) := by decide +kernel
theorem w_6_207 : (Jvm.Cond.methodLink "SpillForge$Listing" (99 : Nat) ({ cls := "SpillForge$Listing", name := "addSource", desc := "(LSpillForge$Code;I)V" } : Jvm.MethodName)) ∈ gw := gw_6 207 rfl rfl
theorem w_6_210 : (Jvm.Cond.code ({ cls := "SpillForge$Listing", name := "addSource", desc := "(LSpillForge$Code;I)V" } : Jvm.MethodName) prog_6_method_7_code (3 : Nat) (Option.none : Option Jvm.ClassFile.FieldType)) ∈ gw := gw_6 210 rfl rfl
theorem w_6_209 : (Jvm.Cond.instanceMethod ({ cls := "SpillForge$Listing", name := "addSource", desc := "(LSpillForge$Code;I)V" } : Jvm.MethodName)) ∈ gw := gw_6 209 rfl rfl
theorem w_p_71 : Cond.selects "SpillForge$Listing" ⟨"SpillForge$Listing", "addSource", "(LSpillForge$Code;I)V"⟩ ⟨"SpillForge$Listing", "addSource", "(LSpillForge$Code;I)V"⟩ ∈ gw := gw_p _ 71 rfl rfl rfl
theorem d_cX4_addRow_98 : decode cX4_addRow 98 = .ok (.return_, 1) := by decide +kernel
theorem d_cX4_addRow_47 : decode cX4_addRow 47 = .ok (.aload_n 0, 1) := by decide +kernel
theorem d_cX4_addRow_48 : decode cX4_addRow 48 = .ok (.ldc 85, 2) := by decide +kernel
theorem d_cX4_addRow_50 : decode cX4_addRow 50 = .ok (.aload_n 1, 1) := by decide +kernel
theorem d_cX4_addRow_51 : decode cX4_addRow 51 = .ok (.getfield 87, 3) := by decide +kernel
theorem d_cX4_addRow_54 : decode cX4_addRow 54 = .ok (.iload_n 2, 1) := by decide +kernel
theorem d_cX4_addRow_55 : decode cX4_addRow 55 = .ok (.iaload, 1) := by decide +kernel
theorem d_cX4_addRow_56 : decode cX4_addRow 56 = .ok (.invokevirtual 26, 3) := by decide +kernel
theorem d_cX4_addRow_59 : decode cX4_addRow 59 = .ok (.aload_n 0, 1) := by decide +kernel
theorem d_cX4_addRow_60 : decode cX4_addRow 60 = .ok (.ldc 90, 2) := by decide +kernel
theorem d_cX4_addRow_62 : decode cX4_addRow 62 = .ok (.aload_n 1, 1) := by decide +kernel
theorem d_cX4_addRow_63 : decode cX4_addRow 63 = .ok (.getfield 61, 3) := by decide +kernel
theorem d_cX4_addRow_66 : decode cX4_addRow 66 = .ok (.iload_n 2, 1) := by decide +kernel
theorem d_cX4_addRow_67 : decode cX4_addRow 67 = .ok (.iaload, 1) := by decide +kernel
theorem d_cX4_addRow_68 : decode cX4_addRow 68 = .ok (.invokevirtual 26, 3) := by decide +kernel
theorem d_cX4_addRow_71 : decode cX4_addRow 71 = .ok (.goto 27, 3) := by decide +kernel
theorem d_cX4_addRow_11 : decode cX4_addRow 11 = .ok (.aload_n 0, 1) := by decide +kernel
theorem d_cX4_addRow_12 : decode cX4_addRow 12 = .ok (.ldc 83, 2) := by decide +kernel
theorem d_cX4_addRow_14 : decode cX4_addRow 14 = .ok (.invokevirtual 32, 3) := by decide +kernel
theorem d_cX4_addRow_17 : decode cX4_addRow 17 = .ok (.aload_n 0, 1) := by decide +kernel
theorem d_cX4_addRow_18 : decode cX4_addRow 18 = .ok (.aload_n 1, 1) := by decide +kernel
theorem d_cX4_addRow_19 : decode cX4_addRow 19 = .ok (.getfield 61, 3) := by decide +kernel
theorem d_cX4_addRow_22 : decode cX4_addRow 22 = .ok (.iload_n 2, 1) := by decide +kernel
theorem d_cX4_addRow_23 : decode cX4_addRow 23 = .ok (.iaload, 1) := by decide +kernel
theorem d_cX4_addRow_24 : decode cX4_addRow 24 = .ok (.aload_n 1, 1) := by decide +kernel
theorem d_cX4_addRow_25 : decode cX4_addRow 25 = .ok (.getfield 64, 3) := by decide +kernel
theorem d_cX4_addRow_28 : decode cX4_addRow 28 = .ok (.iload_n 2, 1) := by decide +kernel
theorem d_cX4_addRow_29 : decode cX4_addRow 29 = .ok (.iaload, 1) := by decide +kernel
theorem d_cX4_addRow_30 : decode cX4_addRow 30 = .ok (.invokevirtual 67, 3) := by decide +kernel
theorem d_cX4_addRow_33 : decode cX4_addRow 33 = .ok (.goto 65, 3) := by decide +kernel
theorem d_cX4_addEnd_0 : decode cX4_addEnd 0 = .ok (.aload_n 1, 1) := by decide +kernel
theorem d_cX4_addEnd_1 : decode cX4_addEnd 1 = .ok (.getfield 44, 3) := by decide +kernel
theorem d_cX4_addEnd_4 : decode cX4_addEnd 4 = .ok (.iload_n 3, 1) := by decide +kernel
theorem d_cX4_addEnd_5 : decode cX4_addEnd 5 = .ok (.iaload, 1) := by decide +kernel
theorem d_cX4_addEnd_6 : decode cX4_addEnd 6 = .ok (.bipush 21, 2) := by decide +kernel
theorem d_cX4_addEnd_8 : decode cX4_addEnd 8 = .ok (.if_icmp .ne 28, 3) := by decide +kernel
theorem d_cX4_addEnd_36 : decode cX4_addEnd 36 = .ok (.aload_n 1, 1) := by decide +kernel
theorem d_cX4_addEnd_37 : decode cX4_addEnd 37 = .ok (.getfield 44, 3) := by decide +kernel
theorem d_cX4_addEnd_40 : decode cX4_addEnd 40 = .ok (.iload_n 3, 1) := by decide +kernel
theorem d_cX4_addEnd_41 : decode cX4_addEnd 41 = .ok (.iaload, 1) := by decide +kernel
theorem d_cX4_addEnd_42 : decode cX4_addEnd 42 = .ok (.bipush 19, 2) := by decide +kernel
theorem d_cX4_addEnd_44 : decode cX4_addEnd 44 = .ok (.if_icmp .ne 18, 3) := by decide +kernel
theorem d_cX4_addEnd_62 : decode cX4_addEnd 62 = .ok (.aload_n 0, 1) := by decide +kernel
theorem d_cX4_addEnd_63 : decode cX4_addEnd 63 = .ok (.ldc 76, 2) := by decide +kernel
theorem d_cX4_addEnd_65 : decode cX4_addEnd 65 = .ok (.invokevirtual 32, 3) := by decide +kernel
theorem d_cX4_addEnd_68 : decode cX4_addEnd 68 = .ok (.aload_n 0, 1) := by decide +kernel
theorem d_cX4_addEnd_69 : decode cX4_addEnd 69 = .ok (.aload_n 1, 1) := by decide +kernel
theorem d_cX4_addEnd_70 : decode cX4_addEnd 70 = .ok (.getfield 61, 3) := by decide +kernel
theorem d_cX4_addEnd_73 : decode cX4_addEnd 73 = .ok (.iload_n 3, 1) := by decide +kernel
theorem d_cX4_addEnd_74 : decode cX4_addEnd 74 = .ok (.iaload, 1) := by decide +kernel
theorem d_cX4_addEnd_75 : decode cX4_addEnd 75 = .ok (.aload_n 1, 1) := by decide +kernel
theorem d_cX4_addEnd_76 : decode cX4_addEnd 76 = .ok (.getfield 64, 3) := by decide +kernel
theorem d_cX4_addEnd_79 : decode cX4_addEnd 79 = .ok (.iload_n 3, 1) := by decide +kernel
theorem d_cX4_addEnd_80 : decode cX4_addEnd 80 = .ok (.iaload, 1) := by decide +kernel
theorem d_cX4_addEnd_81 : decode cX4_addEnd 81 = .ok (.invokevirtual 67, 3) := by decide +kernel
theorem d_cX4_addEnd_84 : decode cX4_addEnd 84 = .ok (.aload_n 0, 1) := by decide +kernel
theorem d_cX4_addEnd_85 : decode cX4_addEnd 85 = .ok (.ldc 78, 2) := by decide +kernel
theorem d_cX4_addEnd_87 : decode cX4_addEnd 87 = .ok (.aload_n 1, 1) := by decide +kernel
theorem d_cX4_addEnd_88 : decode cX4_addEnd 88 = .ok (.getfield 73, 3) := by decide +kernel
theorem d_cX4_addEnd_91 : decode cX4_addEnd 91 = .ok (.iload_n 2, 1) := by decide +kernel
theorem d_cX4_addEnd_92 : decode cX4_addEnd 92 = .ok (.iaload, 1) := by decide +kernel
theorem d_cX4_addEnd_93 : decode cX4_addEnd 93 = .ok (.invokevirtual 26, 3) := by decide +kernel
theorem d_cX4_addEnd_96 : decode cX4_addEnd 96 = .ok (.aload_n 0, 1) := by decide +kernel
theorem d_cX4_addEnd_97 : decode cX4_addEnd 97 = .ok (.ldc 78, 2) := by decide +kernel
theorem d_cX4_addEnd_99 : decode cX4_addEnd 99 = .ok (.aload_n 1, 1) := by decide +kernel
theorem d_cX4_addEnd_100 : decode cX4_addEnd 100 = .ok (.getfield 80, 3) := by decide +kernel
theorem d_cX4_addEnd_103 : decode cX4_addEnd 103 = .ok (.iload_n 2, 1) := by decide +kernel
theorem d_cX4_addEnd_104 : decode cX4_addEnd 104 = .ok (.iaload, 1) := by decide +kernel
theorem d_cX4_addEnd_105 : decode cX4_addEnd 105 = .ok (.invokevirtual 26, 3) := by decide +kernel
theorem d_cX4_addEnd_108 : decode cX4_addEnd 108 = .ok (.return_, 1) := by decide +kernel
theorem d_cX4_addEnd_47 : decode cX4_addEnd 47 = .ok (.aload_n 0, 1) := by decide +kernel
theorem d_cX4_addEnd_48 : decode cX4_addEnd 48 = .ok (.ldc 71, 2) := by decide +kernel
theorem d_cX4_addEnd_50 : decode cX4_addEnd 50 = .ok (.aload_n 1, 1) := by decide +kernel
theorem d_cX4_addEnd_51 : decode cX4_addEnd 51 = .ok (.getfield 73, 3) := by decide +kernel
theorem d_cX4_addEnd_54 : decode cX4_addEnd 54 = .ok (.iload_n 2, 1) := by decide +kernel
theorem d_cX4_addEnd_55 : decode cX4_addEnd 55 = .ok (.iaload, 1) := by decide +kernel
theorem d_cX4_addEnd_56 : decode cX4_addEnd 56 = .ok (.invokevirtual 26, 3) := by decide +kernel
theorem d_cX4_addEnd_59 : decode cX4_addEnd 59 = .ok (.goto 49, 3) := by decide +kernel
theorem d_cX4_addEnd_11 : decode cX4_addEnd 11 = .ok (.aload_n 0, 1) := by decide +kernel
theorem d_cX4_addEnd_12 : decode cX4_addEnd 12 = .ok (.ldc 59, 2) := by decide +kernel
theorem d_cX4_addEnd_14 : decode cX4_addEnd 14 = .ok (.invokevirtual 32, 3) := by decide +kernel
theorem d_cX4_addEnd_17 : decode cX4_addEnd 17 = .ok (.aload_n 0, 1) := by decide +kernel
theorem d_cX4_addEnd_18 : decode cX4_addEnd 18 = .ok (.aload_n 1, 1) := by decide +kernel
theorem d_cX4_addEnd_19 : decode cX4_addEnd 19 = .ok (.getfield 61, 3) := by decide +kernel
theorem d_cX4_addEnd_22 : decode cX4_addEnd 22 = .ok (.iload_n 3, 1) := by decide +kernel
theorem d_cX4_addEnd_23 : decode cX4_addEnd 23 = .ok (.iaload, 1) := by decide +kernel
theorem d_cX4_addEnd_24 : decode cX4_addEnd 24 = .ok (.aload_n 1, 1) := by decide +kernel
theorem d_cX4_addEnd_25 : decode cX4_addEnd 25 = .ok (.getfield 64, 3) := by decide +kernel
theorem d_cX4_addEnd_28 : decode cX4_addEnd 28 = .ok (.iload_n 3, 1) := by decide +kernel
theorem d_cX4_addEnd_29 : decode cX4_addEnd 29 = .ok (.iaload, 1) := by decide +kernel
theorem d_cX4_addEnd_30 : decode cX4_addEnd 30 = .ok (.invokevirtual 67, 3) := by decide +kernel
theorem d_cX4_addEnd_33 : decode cX4_addEnd 33 = .ok (.goto 75, 3) := by decide +kernel
theorem d_cX4_write_0 : decode cX4_write 0 = .ok (.aload_n 0, 1) := by decide +kernel
theorem d_cX4_write_1 : decode cX4_write 1 = .ok (.iconst 0, 1) := by decide +kernel
theorem d_cX4_write_2 : decode cX4_write 2 = .ok (.putfield 15, 3) := by decide +kernel
theorem d_cX4_write_5 : decode cX4_write 5 = .ok (.iconst 0, 1) := by decide +kernel
theorem d_cX4_write_6 : decode cX4_write 6 = .ok (.istore_n 2, 1) := by decide +kernel
theorem d_cX4_write_7 : decode cX4_write 7 = .ok (.iload_n 2, 1) := by decide +kernel
theorem d_cX4_write_8 : decode cX4_write 8 = .ok (.aload_n 1, 1) := by decide +kernel
theorem d_cX4_write_9 : decode cX4_write 9 = .ok (.getfield 19, 3) := by decide +kernel
theorem d_cX4_write_12 : decode cX4_write 12 = .ok (.if_icmp .ge 77, 3) := by decide +kernel
theorem d_cX4_write_89 : decode cX4_write 89 = .ok (.return_, 1) := by decide +kernel
theorem d_cX4_write_15 : decode cX4_write 15 = .ok (.aload_n 0, 1) := by decide +kernel
theorem d_cX4_write_16 : decode cX4_write 16 = .ok (.ldc 24, 2) := by decide +kernel
theorem d_cX4_write_18 : decode cX4_write 18 = .ok (.iload_n 2, 1) := by decide +kernel
theorem d_cX4_write_19 : decode cX4_write 19 = .ok (.invokevirtual 26, 3) := by decide +kernel
theorem d_cX4_write_22 : decode cX4_write 22 = .ok (.aload_n 0, 1) := by decide +kernel
theorem d_cX4_write_23 : decode cX4_write 23 = .ok (.ldc 30, 2) := by decide +kernel
theorem d_cX4_write_25 : decode cX4_write 25 = .ok (.invokevirtual 32, 3) := by decide +kernel
theorem d_cX4_write_28 : decode cX4_write 28 = .ok (.aload_n 1, 1) := by decide +kernel
theorem d_cX4_write_29 : decode cX4_write 29 = .ok (.getfield 36, 3) := by decide +kernel
theorem d_cX4_write_32 : decode cX4_write 32 = .ok (.iload_n 2, 1) := by decide +kernel
theorem d_cX4_write_33 : decode cX4_write 33 = .ok (.iaload, 1) := by decide +kernel
theorem d_cX4_write_34 : decode cX4_write 34 = .ok (.istore_n 3, 1) := by decide +kernel
theorem d_cX4_write_35 : decode cX4_write 35 = .ok (.iload_n 3, 1) := by decide +kernel
theorem d_cX4_write_36 : decode cX4_write 36 = .ok (.aload_n 1, 1) := by decide +kernel
theorem d_cX4_write_37 : decode cX4_write 37 = .ok (.iload_n 2, 1) := by decide +kernel
theorem d_cX4_write_38 : decode cX4_write 38 = .ok (.invokevirtual 40, 3) := by decide +kernel
theorem w_6_185 : (Jvm.Cond.methodLink "SpillForge$Listing" (40 : Nat) ({ cls := "SpillForge$Code", name := "blockEnd", desc := "(I)I" } : Jvm.MethodName)) ∈ gw := gw_6 185 rfl rfl
theorem w_4_38 : (Jvm.Cond.code ({ cls := "SpillForge$Code", name := "blockEnd", desc := "(I)I" } : Jvm.MethodName) prog_2_method_4_code (2 : Nat) (Option.some Jvm.ClassFile.FieldType.int)) ∈ gw := gw_4 38 rfl rfl
theorem w_4_36 : (Jvm.Cond.instanceMethod ({ cls := "SpillForge$Code", name := "blockEnd", desc := "(I)I" } : Jvm.MethodName)) ∈ gw := gw_4 36 rfl rfl
theorem w_4_37 : (Jvm.Cond.selects "SpillForge$Code" ({ cls := "SpillForge$Code", name := "blockEnd", desc := "(I)I" } : Jvm.MethodName) ({ cls := "SpillForge$Code", name := "blockEnd", desc := "(I)I" } : Jvm.MethodName)) ∈ gw := gw_4 37 rfl rfl
theorem d_cX4_write_41 : decode cX4_write 41 = .ok (.if_icmp .ge 42, 3) := by decide +kernel
theorem d_cX4_write_83 : decode cX4_write 83 = .ok (.iinc 2 1, 3) := by decide +kernel
theorem d_cX4_write_86 : decode cX4_write 86 = .ok (.goto (-79), 3) := by decide +kernel
theorem d_cX4_write_44 : decode cX4_write 44 = .ok (.aload_n 1, 1) := by decide +kernel
theorem d_cX4_write_45 : decode cX4_write 45 = .ok (.getfield 44, 3) := by decide +kernel
theorem d_cX4_write_48 : decode cX4_write 48 = .ok (.iload_n 3, 1) := by decide +kernel
theorem d_cX4_write_49 : decode cX4_write 49 = .ok (.iaload, 1) := by decide +kernel
theorem d_cX4_write_50 : decode cX4_write 50 = .ok (.bipush 19, 2) := by decide +kernel
theorem d_cX4_write_52 : decode cX4_write 52 = .ok (.if_icmp .lt 13, 3) := by decide +kernel
theorem d_cX4_write_65 : decode cX4_write 65 = .ok (.aload_n 0, 1) := by decide +kernel
theorem d_cX4_write_66 : decode cX4_write 66 = .ok (.aload_n 1, 1) := by decide +kernel
theorem d_cX4_write_67 : decode cX4_write 67 = .ok (.iload_n 3, 1) := by decide +kernel
theorem d_cX4_write_68 : decode cX4_write 68 = .ok (.invokevirtual 51, 3) := by decide +kernel
theorem w_6_199 : (Jvm.Cond.methodLink "SpillForge$Listing" (51 : Nat) ({ cls := "SpillForge$Listing", name := "addRow", desc := "(LSpillForge$Code;I)V" } : Jvm.MethodName)) ∈ gw := gw_6 199 rfl rfl
theorem w_6_202 : (Jvm.Cond.code ({ cls := "SpillForge$Listing", name := "addRow", desc := "(LSpillForge$Code;I)V" } : Jvm.MethodName) prog_6_method_6_code (3 : Nat) (Option.none : Option Jvm.ClassFile.FieldType)) ∈ gw := gw_6 202 rfl rfl
theorem w_6_201 : (Jvm.Cond.instanceMethod ({ cls := "SpillForge$Listing", name := "addRow", desc := "(LSpillForge$Code;I)V" } : Jvm.MethodName)) ∈ gw := gw_6 201 rfl rfl
theorem w_p_70 : Cond.selects "SpillForge$Listing" ⟨"SpillForge$Listing", "addRow", "(LSpillForge$Code;I)V"⟩ ⟨"SpillForge$Listing", "addRow", "(LSpillForge$Code;I)V"⟩ ∈ gw := gw_p _ 70 rfl rfl rfl
theorem d_cX4_write_71 : decode cX4_write 71 = .ok (.aload_n 0, 1) := by decide +kernel
theorem d_cX4_write_72 : decode cX4_write 72 = .ok (.bipush 10, 2) := by decide +kernel
theorem d_cX4_write_74 : decode cX4_write 74 = .ok (.invokevirtual 55, 3) := by decide +kernel
theorem d_cX4_write_77 : decode cX4_write 77 = .ok (.iinc 3 1, 3) := by decide +kernel
theorem d_cX4_write_80 : decode cX4_write 80 = .ok (.goto (-45), 3) := by decide +kernel
theorem d_cX4_write_55 : decode cX4_write 55 = .ok (.aload_n 0, 1) := by decide +kernel
theorem d_cX4_write_56 : decode cX4_write 56 = .ok (.aload_n 1, 1) := by decide +kernel
theorem d_cX4_write_57 : decode cX4_write 57 = .ok (.iload_n 2, 1) := by decide +kernel
theorem d_cX4_write_58 : decode cX4_write 58 = .ok (.iload_n 3, 1) := by decide +kernel
theorem d_cX4_write_59 : decode cX4_write 59 = .ok (.invokevirtual 47, 3) := by decide +kernel
theorem w_6_186 : (Jvm.Cond.methodLink "SpillForge$Listing" (47 : Nat) ({ cls := "SpillForge$Listing", name := "addEnd", desc := "(LSpillForge$Code;II)V" } : Jvm.MethodName)) ∈ gw := gw_6 186 rfl rfl
theorem w_6_189 : (Jvm.Cond.code ({ cls := "SpillForge$Listing", name := "addEnd", desc := "(LSpillForge$Code;II)V" } : Jvm.MethodName) prog_6_method_5_code (4 : Nat) (Option.none : Option Jvm.ClassFile.FieldType)) ∈ gw := gw_6 189 rfl rfl
theorem w_6_188 : (Jvm.Cond.instanceMethod ({ cls := "SpillForge$Listing", name := "addEnd", desc := "(LSpillForge$Code;II)V" } : Jvm.MethodName)) ∈ gw := gw_6 188 rfl rfl
theorem w_p_68 : Cond.selects "SpillForge$Listing" ⟨"SpillForge$Listing", "addEnd", "(LSpillForge$Code;II)V"⟩ ⟨"SpillForge$Listing", "addEnd", "(LSpillForge$Code;II)V"⟩ ∈ gw := gw_p _ 68 rfl rfl rfl
theorem d_cX4_write_62 : decode cX4_write 62 = .ok (.goto 9, 3) := by decide +kernel
abbrev ky_7582_Listing_addNamed : gKey := (cX4_addNamed, 3, yX4_addNamed.cls, none, [], yX4_addNamed.name, fun _ _ => True)
abbrev po_7582_Listing_addNamed (I : FieldType → ClassId) (q7574 : Nat) (q7575 : Nat) (qs7576 : Nat) (qb7577 : Nat) (bs7578 : List Int32) (p7579 : Int32) (p7580 : Int32) (f7581 : Nat → Int32) : Option Value → va_W → Prop := fun r w => ∃ (o10314 : Int32) (f10315 : Nat → Int32), r = none ∧ w = [(q7574, .inr (9, [.ref q7575, .int o10314])), (q7575, .inl (I .byte, 16384, .inl f10315))] ∧ gB o10314 0 16384 ∧ gF f10315 (-128) 127
set_option maxRecDepth 100000 in
set_option maxHeartbeats 4000000 in
theorem ct_7582_Listing_addNamed (l : Launch) (hl0 : l.stackTraces = false) (D : va_G) (I : FieldType → ClassId) (q7574 : Nat) (q7575 : Nat) (qs7576 : Nat) (qb7577 : Nat) (bs7578 : List Int32) (p7579 : Int32) (p7580 : Int32) (f7581 : Nat → Int32) (hbs7578 : ∀ A s H, (gV D I).2.2.2.1 A s H → gSC qs7576 qb7577 bs7578 A s H) (nbs7578 : (bs7578.length : Int) ≤ 65535) (bp7580 : gB p7580 0 16384) (bf7581 : gF f7581 (-128) 127) : Ct (gV D I) l yX4_addNamed cX4_addNamed 3 none 5 107 0 0 [.ref q7574, .ref qs7576, .int p7579] [(q7574, .inr (9, [.ref q7575, .int p7580])), (q7575, .inl (I .byte, 16384, .inl f7581))] (po_7582_Listing_addNamed I q7574 q7575 qs7576 qb7577 bs7578 p7579 p7580 f7581) gN := by
  refine Ct_of hl0 (by decide) (Nat.le_of_ble_eq_true rfl) ?_
  have bp7579 := gB_any p7579
  refine G_aload_n 0 d_cX4_addNamed_0 rfl ?_
  refine G_aload_n 1 d_cX4_addNamed_1 rfl ?_
  refine G_callV (As := [.ref qs7576]) (wr := []) (gV_ok D I) (ct_7590_Listing_addText l hl0 D I q7574 q7575 qs7576 qb7577 bs7578 p7580 f7581 hbs7578 nbs7578 bp7580 bf7581) d_cX4_addNamed_2 ⟨w_6_165, w_1_13, w_6_168, by decide, rfl, (Nat.le_of_ble_eq_true rfl), (Nat.le_of_ble_eq_true rfl)⟩ w_6_167 w_p_65 0 rfl rfl [0, 1] [] rfl rfl rfl rfl (by decide) (Nat.le_of_ble_eq_true rfl) (Nat.le_of_ble_eq_true rfl) (Nat.le_of_ble_eq_true rfl) (fun r w hp => ?_) (fun _ _ _ z => z.elim)
  obtain ⟨o7687, f7688, rfl, rfl, bo7687, bf7688⟩ := hp
  change G _ _ _ _ _ _ _ _ _ _ _
  refine G_ws (ws' := [(q7574, .inr (9, [.ref q7575, .int o7687])), (q7575, .inl (I .byte, 16384, .inl f7688))]) (cs' := 0) (sl' := 0) rfl rfl rfl ?_
  refine G_aload_n 0 d_cX4_addNamed_5 rfl ?_
  refine G_iload_n 2 d_cX4_addNamed_6 rfl ?_
  refine G_callV (As := [.int p7579]) (wr := []) (gV_ok D I) (ct_7694_Listing_addNumber l hl0 D I q7574 q7575 p7579 o7687 f7688 bo7687 bf7688) d_cX4_addNamed_7 ⟨w_6_175, w_1_13, w_6_178, by decide, rfl, (Nat.le_of_ble_eq_true rfl), (Nat.le_of_ble_eq_true rfl)⟩ w_6_177 w_p_67 0 rfl rfl [0, 1] [] rfl rfl rfl rfl (by decide) (Nat.le_of_ble_eq_true rfl) (Nat.le_of_ble_eq_true rfl) (Nat.le_of_ble_eq_true rfl) (fun r w hp => ?_) (fun _ _ _ z => z.elim)
  obtain ⟨o10312, f10313, rfl, rfl, bo10312, bf10313⟩ := hp
  change G _ _ _ _ _ _ _ _ _ _ _
  refine G_ws (ws' := [(q7574, .inr (9, [.ref q7575, .int o10312])), (q7575, .inl (I .byte, 16384, .inl f10313))]) (cs' := 0) (sl' := 0) rfl rfl rfl ?_
  exact G_vret d_cX4_addNamed_10 rfl (Nat.le_of_ble_eq_true rfl) (Nat.le_of_ble_eq_true rfl) ⟨o10312, f10313, rfl, rfl, bo10312, bf10313⟩
abbrev ky_10422_Listing_addOperand : gKey := (cX4_addOperand, 3, yX4_addOperand.cls, none, [], yX4_addOperand.name, fun _ _ => True)
abbrev po_10422_Listing_addOperand (I : FieldType → ClassId) (q10416 : Nat) (q10417 : Nat) (p10418 : Int32) (p10419 : Int32) (p10420 : Int32) (f10421 : Nat → Int32) : Option Value → va_W → Prop := fun r w => ∃ (o10431 : Int32) (f10432 : Nat → Int32), r = none ∧ w = [(q10416, .inr (9, [.ref q10417, .int o10431])), (q10417, .inl (I .byte, 16384, .inl f10432))] ∧ gB o10431 0 16384 ∧ gF f10432 (-128) 127
set_option maxRecDepth 100000 in
set_option maxHeartbeats 4000000 in
theorem ct_10422_Listing_addOperand (l : Launch) (hl0 : l.stackTraces = false) (D : va_G) (I : FieldType → ClassId) (q10416 : Nat) (q10417 : Nat) (p10418 : Int32) (p10419 : Int32) (p10420 : Int32) (f10421 : Nat → Int32) (bp10420 : gB p10420 0 16384) (bf10421 : gF f10421 (-128) 127) : Ct (gV D I) l yX4_addOperand cX4_addOperand 3 none 6 129 0 0 [.ref q10416, .int p10418, .int p10419] [(q10416, .inr (9, [.ref q10417, .int p10420])), (q10417, .inl (I .byte, 16384, .inl f10421))] (po_10422_Listing_addOperand I q10416 q10417 p10418 p10419 p10420 f10421) gN := by
  refine Ct_of hl0 (by decide) (Nat.le_of_ble_eq_true rfl) ?_
  have bp10418 := gB_any p10418
  have bp10419 := gB_any p10419
  refine G_iload_n 1 d_cX4_addOperand_0 rfl ?_
  refine G_iconst (-1) d_cX4_addOperand_1 (by decide +kernel) ?_
  refine G_icmp_ne 13 d_cX4_addOperand_2 (by decide +kernel) (fun hc10423 => ?_) (fun hc10423 => ?_)
  · have r10424 : p10418.toInt ≠ (-1) := gj_neq hc10423 (show Int32.toInt (-1) = (-1) by decide)
    refine G_aload_n 0 d_cX4_addOperand_13 rfl ?_
    refine G_ldcK (a := D.2 1000 21) d_cX4_addOperand_14 (fun _ _ _ h => gx_vk 21 rfl rfl h) ?_
    have hl21_10424 : (sb_21.length : Int) = 1 := rfl
    refine G_iload_n 1 d_cX4_addOperand_16 rfl ?_
    refine G_callV (As := [.ref (D.2 1000 21), .int p10418]) (wr := []) (gV_ok D I) (ct_7582_Listing_addNamed l hl0 D I q10416 q10417 (D.2 1000 21) (D.2 1001 21) sb_21 p10418 p10420 f10421 (gx_sc 21 rfl rfl) (by omega) bp10420 bf10421) d_cX4_addOperand_17 ⟨w_6_161, w_1_13, w_6_164, by decide, rfl, (Nat.le_of_ble_eq_true rfl), (Nat.le_of_ble_eq_true rfl)⟩ w_6_163 w_p_64 0 rfl rfl [0, 1] [] rfl rfl rfl rfl (by decide) (Nat.le_of_ble_eq_true rfl) (Nat.le_of_ble_eq_true rfl) (Nat.le_of_ble_eq_true rfl) (fun r w hp => ?_) (fun _ _ _ z => z.elim)
    obtain ⟨o10426, f10427, rfl, rfl, bo10426, bf10427⟩ := hp
    change G _ _ _ _ _ _ _ _ _ _ _
    refine G_ws (ws' := [(q10416, .inr (9, [.ref q10417, .int o10426])), (q10417, .inl (I .byte, 16384, .inl f10427))]) (cs' := 0) (sl' := 0) rfl rfl rfl ?_
    exact G_vret d_cX4_addOperand_20 rfl (Nat.le_of_ble_eq_true rfl) (Nat.le_of_ble_eq_true rfl) ⟨o10426, f10427, rfl, rfl, bo10426, bf10427⟩
  · have r10428 : p10418.toInt = (-1) := gj_eq hc10423 (show Int32.toInt (-1) = (-1) by decide)
    have bp10418' : gB p10418 (-1) (-1) := ⟨by omega, by omega⟩
    refine G_aload_n 0 d_cX4_addOperand_5 rfl ?_
    refine G_iload_n 2 d_cX4_addOperand_6 rfl ?_
    refine G_callV (As := [.int p10419]) (wr := []) (gV_ok D I) (ct_7694_Listing_addNumber l hl0 D I q10416 q10417 p10419 p10420 f10421 bp10420 bf10421) d_cX4_addOperand_7 ⟨w_6_175, w_1_13, w_6_178, by decide, rfl, (Nat.le_of_ble_eq_true rfl), (Nat.le_of_ble_eq_true rfl)⟩ w_6_177 w_p_67 0 rfl rfl [0, 1] [] rfl rfl rfl rfl (by decide) (Nat.le_of_ble_eq_true rfl) (Nat.le_of_ble_eq_true rfl) (Nat.le_of_ble_eq_true rfl) (fun r w hp => ?_) (fun _ _ _ z => z.elim)
    obtain ⟨o10429, f10430, rfl, rfl, bo10429, bf10430⟩ := hp
    change G _ _ _ _ _ _ _ _ _ _ _
    refine G_ws (ws' := [(q10416, .inr (9, [.ref q10417, .int o10429])), (q10417, .inl (I .byte, 16384, .inl f10430))]) (cs' := 0) (sl' := 0) rfl rfl rfl ?_
    refine G_goto 20 d_cX4_addOperand_10 (by decide +kernel) ?_
    exact G_vret d_cX4_addOperand_20 rfl (Nat.le_of_ble_eq_true rfl) (Nat.le_of_ble_eq_true rfl) ⟨o10429, f10430, rfl, rfl, bo10429, bf10430⟩
abbrev ky_10443_Listing_addOp : gKey := (cX4_addOp, 2, yX4_addOp.cls, none, [], yX4_addOp.name, fun _ _ => True)
abbrev po_10443_Listing_addOp (I : FieldType → ClassId) (q10438 : Nat) (q10439 : Nat) (p10440 : Int32) (p10441 : Int32) (f10442 : Nat → Int32) : Option Value → va_W → Prop := fun r w => ∃ (o10468 : Int32) (f10469 : Nat → Int32), r = none ∧ w = [(q10438, .inr (9, [.ref q10439, .int o10468])), (q10439, .inl (I .byte, 16384, .inl f10469))] ∧ gB o10468 1 16384 ∧ gF f10469 (-128) 127
set_option maxRecDepth 100000 in
set_option maxHeartbeats 4000000 in
theorem ct_10443_Listing_addOp (l : Launch) (hl0 : l.stackTraces = false) (D : va_G) (I : FieldType → ClassId) (q10438 : Nat) (q10439 : Nat) (p10440 : Int32) (p10441 : Int32) (f10442 : Nat → Int32) (bp10440 : gB p10440 0 13) (bp10441 : gB p10441 0 16384) (bf10442 : gF f10442 (-128) 127) : Ct (gV D I) l yX4_addOp cX4_addOp 2 none 4 85 0 0 [.ref q10438, .int p10440] [(q10438, .inr (9, [.ref q10439, .int p10441])), (q10439, .inl (I .byte, 16384, .inl f10442))] (po_10443_Listing_addOp I q10438 q10439 p10440 p10441 f10442) gN := by
  refine Ct_of hl0 (by decide) (Nat.le_of_ble_eq_true rfl) ?_
  refine G_aload_n 0 d_cX4_addOp_0 rfl ?_
  refine G_bipush 32 d_cX4_addOp_1 (by decide +kernel) ?_
  refine G_callV (As := [.int 32]) (wr := []) (gV_ok D I) (ct_7602_Listing_addByte l hl0 D I q10438 q10439 32 p10441 f10442 (gB_w (gBl (show Int32.toInt 32 = 32 by decide)) (by decide) (by decide)) bp10441 bf10442) d_cX4_addOp_3 ⟨w_6_171, w_1_13, w_6_174, by decide, rfl, (Nat.le_of_ble_eq_true rfl), (Nat.le_of_ble_eq_true rfl)⟩ w_6_173 w_p_66 0 rfl rfl [0, 1] [] rfl rfl rfl rfl (by decide) (Nat.le_of_ble_eq_true rfl) (Nat.le_of_ble_eq_true rfl) (Nat.le_of_ble_eq_true rfl) (fun r w hp => ?_) (fun _ _ _ z => z.elim)
  obtain ⟨o10444, f10445, rfl, rfl, bo10444, bf10445⟩ := hp
  change G _ _ _ _ _ _ _ _ _ _ _
  refine G_ws (ws' := [(q10438, .inr (9, [.ref q10439, .int o10444])), (q10439, .inl (I .byte, 16384, .inl f10445))]) (cs' := 0) (sl' := 0) rfl rfl rfl ?_
  refine G_aload_n 0 d_cX4_addOp_6 rfl ?_
  refine G_ldcK (a := D.2 1000 30) d_cX4_addOp_7 (fun _ _ _ h => gx_vk 30 rfl rfl h) ?_
  have hl30_10445 : (sb_30.length : Int) = 28 := rfl
  refine G_iconst 2 d_cX4_addOp_9 (by decide +kernel) ?_
  refine G_iload_n 1 d_cX4_addOp_10 rfl ?_
  refine G_imul d_cX4_addOp_11 (G_nam fun z10447 hz10447 => ?_)
  have ez10447 : z10447.toInt = 2 * p10440.toInt := by rw [gI_mul hz10447 (gBl (show Int32.toInt 2 = 2 by decide)) bp10440 (by decide) (by decide) (by decide), show Int32.toInt 2 = 2 from by decide]
  have bz10447 : gB z10447 0 26 := gB_mul hz10447 (gBl (show Int32.toInt 2 = 2 by decide)) bp10440 (by decide) (by decide) (by decide) (by decide)
  refine G_callVk (As := [.int z10447]) (wr := [(q10438, .inr (9, [.ref q10439, .int o10444])), (q10439, .inl (I .byte, 16384, .inl f10445))]) (gV_ok D I) (ct_3858_String_charAt l hl0 D I (D.2 1000 30) (D.2 1001 30) sb_30 z10447 (gx_sc 30 rfl rfl) (by omega) (by omega) (by omega)) d_cX4_addOp_12 ⟨w_6_170, w_1_21, w_3_70, by decide, rfl, (Nat.le_of_ble_eq_true rfl), (Nat.le_of_ble_eq_true rfl)⟩ w_3_68 w_3_69 (fun _ _ _ h => ((gx_sc 30 rfl rfl) _ _ _ h).1) [] [0, 1] rfl rfl rfl rfl (by decide) (Nat.le_of_ble_eq_true rfl) (Nat.le_of_ble_eq_true rfl) (Nat.le_of_ble_eq_true rfl) (fun r w hp => ?_) (fun _ _ _ z => z.elim)
  obtain ⟨o10448, rfl, rfl, bo10448⟩ := hp
  change G _ _ _ _ _ _ _ (.int o10448 :: _) _ _ _
  refine G_ws (ws' := [(q10438, .inr (9, [.ref q10439, .int o10444])), (q10439, .inl (I .byte, 16384, .inl f10445))]) (cs' := 0) (sl' := 0) rfl rfl rfl ?_
  refine G_callV (As := [.int o10448]) (wr := []) (gV_ok D I) (ct_7602_Listing_addByte l hl0 D I q10438 q10439 o10448 o10444 f10445 bo10448 (gB_w bo10444 (by decide) (by decide)) bf10445) d_cX4_addOp_15 ⟨w_6_171, w_1_13, w_6_174, by decide, rfl, (Nat.le_of_ble_eq_true rfl), (Nat.le_of_ble_eq_true rfl)⟩ w_6_173 w_p_66 0 rfl rfl [0, 1] [] rfl rfl rfl rfl (by decide) (Nat.le_of_ble_eq_true rfl) (Nat.le_of_ble_eq_true rfl) (Nat.le_of_ble_eq_true rfl) (fun r w hp => ?_) (fun _ _ _ z => z.elim)
  obtain ⟨o10449, f10450, rfl, rfl, bo10449, bf10450⟩ := hp
  change G _ _ _ _ _ _ _ _ _ _ _
  refine G_ws (ws' := [(q10438, .inr (9, [.ref q10439, .int o10449])), (q10439, .inl (I .byte, 16384, .inl f10450))]) (cs' := 0) (sl' := 0) rfl rfl rfl ?_
  refine G_ldcK (a := D.2 1000 30) d_cX4_addOp_18 (fun _ _ _ h => gx_vk 30 rfl rfl h) ?_
  have hl30_10450 : (sb_30.length : Int) = 28 := rfl
  refine G_iconst 2 d_cX4_addOp_20 (by decide +kernel) ?_
  refine G_iload_n 1 d_cX4_addOp_21 rfl ?_
  refine G_imul d_cX4_addOp_22 (G_nam fun z10452 hz10452 => ?_)
  have ez10452 : z10452.toInt = 2 * p10440.toInt := by rw [gI_mul hz10452 (gBl (show Int32.toInt 2 = 2 by decide)) bp10440 (by decide) (by decide) (by decide), show Int32.toInt 2 = 2 from by decide]
  have bz10452 : gB z10452 0 26 := gB_mul hz10452 (gBl (show Int32.toInt 2 = 2 by decide)) bp10440 (by decide) (by decide) (by decide) (by decide)
  refine G_iconst 1 d_cX4_addOp_23 (by decide +kernel) ?_
  refine G_iadd d_cX4_addOp_24 (G_nam fun z10453 hz10453 => ?_)
  have ez10453 : z10453.toInt = z10452.toInt + 1 := by rw [gI_add hz10453 bz10452 (gBl (show Int32.toInt 1 = 1 by decide)) (by decide) (by decide), show Int32.toInt 1 = 1 from by decide]
  have bz10453 : gB z10453 1 27 := gB_add (gI_add hz10453 bz10452 (gBl (show Int32.toInt 1 = 1 by decide)) (by decide) (by decide)) bz10452 (gBl (show Int32.toInt 1 = 1 by decide)) (by decide) (by decide)
  refine G_callVk (As := [.int z10453]) (wr := [(q10438, .inr (9, [.ref q10439, .int o10449])), (q10439, .inl (I .byte, 16384, .inl f10450))]) (gV_ok D I) (ct_3858_String_charAt l hl0 D I (D.2 1000 30) (D.2 1001 30) sb_30 z10453 (gx_sc 30 rfl rfl) (by omega) (by omega) (by omega)) d_cX4_addOp_25 ⟨w_6_170, w_1_21, w_3_70, by decide, rfl, (Nat.le_of_ble_eq_true rfl), (Nat.le_of_ble_eq_true rfl)⟩ w_3_68 w_3_69 (fun _ _ _ h => ((gx_sc 30 rfl rfl) _ _ _ h).1) [] [0, 1] rfl rfl rfl rfl (by decide) (Nat.le_of_ble_eq_true rfl) (Nat.le_of_ble_eq_true rfl) (Nat.le_of_ble_eq_true rfl) (fun r w hp => ?_) (fun _ _ _ z => z.elim)
  obtain ⟨o10454, rfl, rfl, bo10454⟩ := hp
  change G _ _ _ _ _ _ _ (.int o10454 :: _) _ _ _
  refine G_ws (ws' := [(q10438, .inr (9, [.ref q10439, .int o10449])), (q10439, .inl (I .byte, 16384, .inl f10450))]) (cs' := 0) (sl' := 0) rfl rfl rfl ?_
  refine G_bipush 32 d_cX4_addOp_28 (by decide +kernel) ?_
  refine G_icmp_eq 47 d_cX4_addOp_30 (by decide +kernel) (fun hc10455 => ?_) (fun hc10455 => ?_)
  · have r10456 : o10454.toInt = 32 := gj_eq hc10455 (show Int32.toInt 32 = 32 by decide)
    have bo10454' : gB o10454 32 32 := ⟨by omega, by omega⟩
    refine G_aload_n 0 d_cX4_addOp_47 rfl ?_
    refine G_bipush 32 d_cX4_addOp_48 (by decide +kernel) ?_
    refine G_callV (As := [.int 32]) (wr := []) (gV_ok D I) (ct_7602_Listing_addByte l hl0 D I q10438 q10439 32 o10449 f10450 (gB_w (gBl (show Int32.toInt 32 = 32 by decide)) (by decide) (by decide)) (gB_w bo10449 (by decide) (by decide)) bf10450) d_cX4_addOp_50 ⟨w_6_171, w_1_13, w_6_174, by decide, rfl, (Nat.le_of_ble_eq_true rfl), (Nat.le_of_ble_eq_true rfl)⟩ w_6_173 w_p_66 0 rfl rfl [0, 1] [] rfl rfl rfl rfl (by decide) (Nat.le_of_ble_eq_true rfl) (Nat.le_of_ble_eq_true rfl) (Nat.le_of_ble_eq_true rfl) (fun r w hp => ?_) (fun _ _ _ z => z.elim)
    obtain ⟨o10457, f10458, rfl, rfl, bo10457, bf10458⟩ := hp
    change G _ _ _ _ _ _ _ _ _ _ _
    refine G_ws (ws' := [(q10438, .inr (9, [.ref q10439, .int o10457])), (q10439, .inl (I .byte, 16384, .inl f10458))]) (cs' := 0) (sl' := 0) rfl rfl rfl ?_
    exact G_vret d_cX4_addOp_53 rfl (Nat.le_of_ble_eq_true rfl) (Nat.le_of_ble_eq_true rfl) ⟨o10457, f10458, rfl, rfl, bo10457, bf10458⟩
  · have r10459 : o10454.toInt ≠ 32 := gj_neq hc10455 (show Int32.toInt 32 = 32 by decide)
    refine G_aload_n 0 d_cX4_addOp_33 rfl ?_
    refine G_ldcK (a := D.2 1000 30) d_cX4_addOp_34 (fun _ _ _ h => gx_vk 30 rfl rfl h) ?_
    have hl30_10459 : (sb_30.length : Int) = 28 := rfl
    refine G_iconst 2 d_cX4_addOp_36 (by decide +kernel) ?_
    refine G_iload_n 1 d_cX4_addOp_37 rfl ?_
    refine G_imul d_cX4_addOp_38 (G_nam fun z10461 hz10461 => ?_)
    have ez10461 : z10461.toInt = 2 * p10440.toInt := by rw [gI_mul hz10461 (gBl (show Int32.toInt 2 = 2 by decide)) bp10440 (by decide) (by decide) (by decide), show Int32.toInt 2 = 2 from by decide]
    have bz10461 : gB z10461 0 26 := gB_mul hz10461 (gBl (show Int32.toInt 2 = 2 by decide)) bp10440 (by decide) (by decide) (by decide) (by decide)
    refine G_iconst 1 d_cX4_addOp_39 (by decide +kernel) ?_
    refine G_iadd d_cX4_addOp_40 (G_nam fun z10462 hz10462 => ?_)
    have ez10462 : z10462.toInt = z10461.toInt + 1 := by rw [gI_add hz10462 bz10461 (gBl (show Int32.toInt 1 = 1 by decide)) (by decide) (by decide), show Int32.toInt 1 = 1 from by decide]
    have bz10462 : gB z10462 1 27 := gB_add (gI_add hz10462 bz10461 (gBl (show Int32.toInt 1 = 1 by decide)) (by decide) (by decide)) bz10461 (gBl (show Int32.toInt 1 = 1 by decide)) (by decide) (by decide)
    refine G_callVk (As := [.int z10462]) (wr := [(q10438, .inr (9, [.ref q10439, .int o10449])), (q10439, .inl (I .byte, 16384, .inl f10450))]) (gV_ok D I) (ct_3858_String_charAt l hl0 D I (D.2 1000 30) (D.2 1001 30) sb_30 z10462 (gx_sc 30 rfl rfl) (by omega) (by omega) (by omega)) d_cX4_addOp_41 ⟨w_6_170, w_1_21, w_3_70, by decide, rfl, (Nat.le_of_ble_eq_true rfl), (Nat.le_of_ble_eq_true rfl)⟩ w_3_68 w_3_69 (fun _ _ _ h => ((gx_sc 30 rfl rfl) _ _ _ h).1) [] [0, 1] rfl rfl rfl rfl (by decide) (Nat.le_of_ble_eq_true rfl) (Nat.le_of_ble_eq_true rfl) (Nat.le_of_ble_eq_true rfl) (fun r w hp => ?_) (fun _ _ _ z => z.elim)
    obtain ⟨o10463, rfl, rfl, bo10463⟩ := hp
    change G _ _ _ _ _ _ _ (.int o10463 :: _) _ _ _
    refine G_ws (ws' := [(q10438, .inr (9, [.ref q10439, .int o10449])), (q10439, .inl (I .byte, 16384, .inl f10450))]) (cs' := 0) (sl' := 0) rfl rfl rfl ?_
    refine G_callV (As := [.int o10463]) (wr := []) (gV_ok D I) (ct_7602_Listing_addByte l hl0 D I q10438 q10439 o10463 o10449 f10450 bo10463 (gB_w bo10449 (by decide) (by decide)) bf10450) d_cX4_addOp_44 ⟨w_6_171, w_1_13, w_6_174, by decide, rfl, (Nat.le_of_ble_eq_true rfl), (Nat.le_of_ble_eq_true rfl)⟩ w_6_173 w_p_66 0 rfl rfl [0, 1] [] rfl rfl rfl rfl (by decide) (Nat.le_of_ble_eq_true rfl) (Nat.le_of_ble_eq_true rfl) (Nat.le_of_ble_eq_true rfl) (fun r w hp => ?_) (fun _ _ _ z => z.elim)
    obtain ⟨o10464, f10465, rfl, rfl, bo10464, bf10465⟩ := hp
    change G _ _ _ _ _ _ _ _ _ _ _
    refine G_ws (ws' := [(q10438, .inr (9, [.ref q10439, .int o10464])), (q10439, .inl (I .byte, 16384, .inl f10465))]) (cs' := 0) (sl' := 0) rfl rfl rfl ?_
    refine G_aload_n 0 d_cX4_addOp_47 rfl ?_
    refine G_bipush 32 d_cX4_addOp_48 (by decide +kernel) ?_
    refine G_callV (As := [.int 32]) (wr := []) (gV_ok D I) (ct_7602_Listing_addByte l hl0 D I q10438 q10439 32 o10464 f10465 (gB_w (gBl (show Int32.toInt 32 = 32 by decide)) (by decide) (by decide)) (gB_w bo10464 (by decide) (by decide)) bf10465) d_cX4_addOp_50 ⟨w_6_171, w_1_13, w_6_174, by decide, rfl, (Nat.le_of_ble_eq_true rfl), (Nat.le_of_ble_eq_true rfl)⟩ w_6_173 w_p_66 0 rfl rfl [0, 1] [] rfl rfl rfl rfl (by decide) (Nat.le_of_ble_eq_true rfl) (Nat.le_of_ble_eq_true rfl) (Nat.le_of_ble_eq_true rfl) (fun r w hp => ?_) (fun _ _ _ z => z.elim)
    obtain ⟨o10466, f10467, rfl, rfl, bo10466, bf10467⟩ := hp
    change G _ _ _ _ _ _ _ _ _ _ _
    refine G_ws (ws' := [(q10438, .inr (9, [.ref q10439, .int o10466])), (q10439, .inl (I .byte, 16384, .inl f10467))]) (cs' := 0) (sl' := 0) rfl rfl rfl ?_
    exact G_vret d_cX4_addOp_53 rfl (Nat.le_of_ble_eq_true rfl) (Nat.le_of_ble_eq_true rfl) ⟨o10466, f10467, rfl, rfl, bo10466, bf10467⟩
abbrev ky_10408_Listing_addSource : gKey := (cX4_addSource, 3, yX4_addSource.cls, none, [], yX4_addSource.name, fun _ _ => True)
abbrev po_10408_Listing_addSource (I : FieldType → ClassId) (q10381 : Nat) (q10382 : Nat) (q10383 : Nat) (q10384 : Nat) (q10385 : Nat) (q10386 : Nat) (q10387 : Nat) (q10388 : Nat) (q10389 : Nat) (q10390 : Nat) (q10391 : Nat) (q10392 : Nat) (p10393 : Int32) (p10394 : Int32) (p10395 : Int32) (p10396 : Int32) (p10397 : Int32) (f10398 : Nat → Int32) (f10399 : Nat → Int32) (f10400 : Nat → Int32) (f10401 : Nat → Int32) (f10402 : Nat → Int32) (f10403 : Nat → Int32) (f10404 : Nat → Int32) (f10405 : Nat → Int32) (f10406 : Nat → Int32) (f10407 : Nat → Int32) : Option Value → va_W → Prop := fun r w => ∃ (o10485 : Int32) (f10486 : Nat → Int32), r = none ∧ w = [(q10381, .inr (9, [.ref q10383, .int o10485])), (q10382, .inr (5, [.ref q10384, .ref q10385, .ref q10386, .ref q10387, .ref q10388, .ref q10389, .ref q10390, .ref q10391, .ref q10392, .int p10395, .int p10396, .int p10397])), (q10383, .inl (I .byte, 16384, .inl f10486)), (q10384, .inl (I .int, 40, .inl f10399)), (q10385, .inl (I .int, 40, .inl f10400)), (q10386, .inl (I .int, 40, .inl f10401)), (q10387, .inl (I .int, 200, .inl f10402)), (q10388, .inl (I .int, 200, .inl f10403)), (q10389, .inl (I .int, 200, .inl f10404)), (q10390, .inl (I .int, 200, .inl f10405)), (q10391, .inl (I .int, 200, .inl f10406)), (q10392, .inl (I .int, 200, .inl f10407))] ∧ gB o10485 0 16384 ∧ gF f10486 (-128) 127
set_option maxRecDepth 100000 in
set_option maxHeartbeats 4000000 in
theorem ct_10408_Listing_addSource (l : Launch) (hl0 : l.stackTraces = false) (D : va_G) (I : FieldType → ClassId) (q10381 : Nat) (q10382 : Nat) (q10383 : Nat) (q10384 : Nat) (q10385 : Nat) (q10386 : Nat) (q10387 : Nat) (q10388 : Nat) (q10389 : Nat) (q10390 : Nat) (q10391 : Nat) (q10392 : Nat) (p10393 : Int32) (p10394 : Int32) (p10395 : Int32) (p10396 : Int32) (p10397 : Int32) (f10398 : Nat → Int32) (f10399 : Nat → Int32) (f10400 : Nat → Int32) (f10401 : Nat → Int32) (f10402 : Nat → Int32) (f10403 : Nat → Int32) (f10404 : Nat → Int32) (f10405 : Nat → Int32) (f10406 : Nat → Int32) (f10407 : Nat → Int32) (bp10393 : gB p10393 0 199) (bp10394 : gB p10394 0 16384) (bp10395 : gB p10395 0 40) (bp10396 : gB p10396 0 200) (bp10397 : gB p10397 0 1) (bf10398 : gF f10398 (-128) 127) (bf10399 : gF f10399 0 200) (bf10402 : gF f10402 0 21) : Ct (gV D I) l yX4_addSource cX4_addSource 3 none 7 151 0 0 [.ref q10381, .ref q10382, .int p10393] [(q10381, .inr (9, [.ref q10383, .int p10394])), (q10382, .inr (5, [.ref q10384, .ref q10385, .ref q10386, .ref q10387, .ref q10388, .ref q10389, .ref q10390, .ref q10391, .ref q10392, .int p10395, .int p10396, .int p10397])), (q10383, .inl (I .byte, 16384, .inl f10398)), (q10384, .inl (I .int, 40, .inl f10399)), (q10385, .inl (I .int, 40, .inl f10400)), (q10386, .inl (I .int, 40, .inl f10401)), (q10387, .inl (I .int, 200, .inl f10402)), (q10388, .inl (I .int, 200, .inl f10403)), (q10389, .inl (I .int, 200, .inl f10404)), (q10390, .inl (I .int, 200, .inl f10405)), (q10391, .inl (I .int, 200, .inl f10406)), (q10392, .inl (I .int, 200, .inl f10407))] (po_10408_Listing_addSource I q10381 q10382 q10383 q10384 q10385 q10386 q10387 q10388 q10389 q10390 q10391 q10392 p10393 p10394 p10395 p10396 p10397 f10398 f10399 f10400 f10401 f10402 f10403 f10404 f10405 f10406 f10407) gN := by
  refine Ct_of hl0 (by decide) (Nat.le_of_ble_eq_true rfl) ?_
  refine G_aload_n 1 d_cX4_addSource_0 rfl ?_
  refine G_getfN 1 3 d_cX4_addSource_1 rfl (gk_X0 D I) (Nat.le_of_ble_eq_true rfl) (fun _ _ _ h => gn_w 15 rfl h) rfl ?_
  refine G_iload_n 2 d_cX4_addSource_4 rfl ?_
  refine G_iald 6 0 d_cX4_addSource_5 rfl rfl (gB_in bp10393 (by decide) (by decide)) (G_nam fun z10409 hz10409 => ?_)
  have bz10409 : gB z10409 0 21 := by rw [hz10409]; exact bf10402 _
  refine G_bipush 15 d_cX4_addSource_6 (by decide +kernel) ?_
  refine G_icmp_ne 20 d_cX4_addSource_8 (by decide +kernel) (fun hc10410 => ?_) (fun hc10410 => ?_)
  · have r10411 : z10409.toInt ≠ 15 := gj_neq hc10410 (show Int32.toInt 15 = 15 by decide)
    refine G_aload_n 1 d_cX4_addSource_20 rfl ?_
    refine G_getfN 1 3 d_cX4_addSource_21 rfl (gk_X0 D I) (Nat.le_of_ble_eq_true rfl) (fun _ _ _ h => gn_w 15 rfl h) rfl ?_
    refine G_iload_n 2 d_cX4_addSource_24 rfl ?_
    refine G_iald 6 0 d_cX4_addSource_25 rfl rfl (gB_in bp10393 (by decide) (by decide)) (G_eqi (y := z10409) hz10409.symm ?_)
    refine G_bipush 17 d_cX4_addSource_26 (by decide +kernel) ?_
    refine G_icmp_ne 46 d_cX4_addSource_28 (by decide +kernel) (fun hc10412 => ?_) (fun hc10412 => ?_)
    · have r10413 : z10409.toInt ≠ 17 := gj_neq hc10412 (show Int32.toInt 17 = 17 by decide)
      refine G_aload_n 0 d_cX4_addSource_46 rfl ?_
      refine G_aload_n 1 d_cX4_addSource_47 rfl ?_
      refine G_getfN 1 5 d_cX4_addSource_48 rfl (gk_X0 D I) (Nat.le_of_ble_eq_true rfl) (fun _ _ _ h => gn_w 23 rfl h) rfl ?_
      refine G_iload_n 2 d_cX4_addSource_51 rfl ?_
      refine G_iald 8 0 d_cX4_addSource_52 rfl rfl (gB_in bp10393 (by decide) (by decide)) (G_nam fun z10414 hz10414 => ?_)
      have bz10414 : gB z10414 (-2147483648) 2147483647 := gB_any z10414
      refine G_aload_n 1 d_cX4_addSource_53 rfl ?_
      refine G_getfN 1 6 d_cX4_addSource_54 rfl (gk_X0 D I) (Nat.le_of_ble_eq_true rfl) (fun _ _ _ h => gn_w 27 rfl h) rfl ?_
      refine G_iload_n 2 d_cX4_addSource_57 rfl ?_
      refine G_iald 9 0 d_cX4_addSource_58 rfl rfl (gB_in bp10393 (by decide) (by decide)) (G_nam fun z10415 hz10415 => ?_)
      have bz10415 : gB z10415 (-2147483648) 2147483647 := gB_any z10415
      refine G_callV (As := [.int z10414, .int z10415]) (wr := [(q10382, .inr (5, [.ref q10384, .ref q10385, .ref q10386, .ref q10387, .ref q10388, .ref q10389, .ref q10390, .ref q10391, .ref q10392, .int p10395, .int p10396, .int p10397])), (q10384, .inl (I .int, 40, .inl f10399)), (q10385, .inl (I .int, 40, .inl f10400)), (q10386, .inl (I .int, 40, .inl f10401)), (q10387, .inl (I .int, 200, .inl f10402)), (q10388, .inl (I .int, 200, .inl f10403)), (q10389, .inl (I .int, 200, .inl f10404)), (q10390, .inl (I .int, 200, .inl f10405)), (q10391, .inl (I .int, 200, .inl f10406)), (q10392, .inl (I .int, 200, .inl f10407))]) (gV_ok D I) (ct_10422_Listing_addOperand l hl0 D I q10381 q10383 z10414 z10415 p10394 f10398 bp10394 bf10398) d_cX4_addSource_59 ⟨w_6_191, w_1_13, w_6_194, by decide, rfl, (Nat.le_of_ble_eq_true rfl), (Nat.le_of_ble_eq_true rfl)⟩ w_6_193 w_p_69 0 rfl rfl [0, 2] [1, 3, 4, 5, 6, 7, 8, 9, 10, 11] rfl rfl rfl rfl (by decide) (Nat.le_of_ble_eq_true rfl) (Nat.le_of_ble_eq_true rfl) (Nat.le_of_ble_eq_true rfl) (fun r w hp => ?_) (fun _ _ _ z => z.elim)
      obtain ⟨o10433, f10434, rfl, rfl, bo10433, bf10434⟩ := hp
      change G _ _ _ _ _ _ _ _ _ _ _
      refine G_ws (ws' := [(q10382, .inr (5, [.ref q10384, .ref q10385, .ref q10386, .ref q10387, .ref q10388, .ref q10389, .ref q10390, .ref q10391, .ref q10392, .int p10395, .int p10396, .int p10397])), (q10384, .inl (I .int, 40, .inl f10399)), (q10385, .inl (I .int, 40, .inl f10400)), (q10386, .inl (I .int, 40, .inl f10401)), (q10387, .inl (I .int, 200, .inl f10402)), (q10388, .inl (I .int, 200, .inl f10403)), (q10389, .inl (I .int, 200, .inl f10404)), (q10390, .inl (I .int, 200, .inl f10405)), (q10391, .inl (I .int, 200, .inl f10406)), (q10392, .inl (I .int, 200, .inl f10407)), (q10381, .inr (9, [.ref q10383, .int o10433])), (q10383, .inl (I .byte, 16384, .inl f10434))]) (cs' := 0) (sl' := 0) rfl rfl rfl ?_
      refine G_aload_n 1 d_cX4_addSource_62 rfl ?_
      refine G_getfN 0 3 d_cX4_addSource_63 rfl (gk_X0 D I) (Nat.le_of_ble_eq_true rfl) (fun _ _ _ h => gn_w 15 rfl h) rfl ?_
      refine G_iload_n 2 d_cX4_addSource_66 rfl ?_
      refine G_iald 4 0 d_cX4_addSource_67 rfl rfl (gB_in bp10393 (by decide) (by decide)) (G_eqi (y := z10409) hz10409.symm ?_)
      refine G_bipush 14 d_cX4_addSource_68 (by decide +kernel) ?_
      refine G_icmp_ge 99 d_cX4_addSource_70 (by decide +kernel) (fun hc10435 => ?_) (fun hc10435 => ?_)
      · have r10436 : 14 ≤ z10409.toInt := gj_leL hc10435 (show Int32.toInt 14 = 14 by decide)
        have bz10409' : gB z10409 14 21 := ⟨by omega, by omega⟩
        refine G_sub (ws' := [(q10381, .inr (9, [.ref q10383, .int o10433])), (q10382, .inr (5, [.ref q10384, .ref q10385, .ref q10386, .ref q10387, .ref q10388, .ref q10389, .ref q10390, .ref q10391, .ref q10392, .int p10395, .int p10396, .int p10397])), (q10383, .inl (I .byte, 16384, .inl f10434)), (q10384, .inl (I .int, 40, .inl f10399)), (q10385, .inl (I .int, 40, .inl f10400)), (q10386, .inl (I .int, 40, .inl f10401)), (q10387, .inl (I .int, 200, .inl f10402)), (q10388, .inl (I .int, 200, .inl f10403)), (q10389, .inl (I .int, 200, .inl f10404)), (q10390, .inl (I .int, 200, .inl f10405)), (q10391, .inl (I .int, 200, .inl f10406)), (q10392, .inl (I .int, 200, .inl f10407))]) [10, 0, 11, 1, 2, 3, 4, 5, 6, 7, 8, 9] rfl rfl ?_
        exact G_vret d_cX4_addSource_99 rfl (Nat.le_of_ble_eq_true rfl) (Nat.le_of_ble_eq_true rfl) ⟨o10433, f10434, rfl, rfl, bo10433, bf10434⟩
      · have r10437 : z10409.toInt < 14 := gj_nleL hc10435 (show Int32.toInt 14 = 14 by decide)
        have bz10409' : gB z10409 0 13 := ⟨by omega, by omega⟩
        refine G_aload_n 0 d_cX4_addSource_73 rfl ?_
        refine G_aload_n 1 d_cX4_addSource_74 rfl ?_
        refine G_getfN 0 3 d_cX4_addSource_75 rfl (gk_X0 D I) (Nat.le_of_ble_eq_true rfl) (fun _ _ _ h => gn_w 15 rfl h) rfl ?_
        refine G_iload_n 2 d_cX4_addSource_78 rfl ?_
        refine G_iald 4 0 d_cX4_addSource_79 rfl rfl (gB_in bp10393 (by decide) (by decide)) (G_eqi (y := z10409) hz10409.symm ?_)
        refine G_callV (As := [.int z10409]) (wr := [(q10382, .inr (5, [.ref q10384, .ref q10385, .ref q10386, .ref q10387, .ref q10388, .ref q10389, .ref q10390, .ref q10391, .ref q10392, .int p10395, .int p10396, .int p10397])), (q10384, .inl (I .int, 40, .inl f10399)), (q10385, .inl (I .int, 40, .inl f10400)), (q10386, .inl (I .int, 40, .inl f10401)), (q10387, .inl (I .int, 200, .inl f10402)), (q10388, .inl (I .int, 200, .inl f10403)), (q10389, .inl (I .int, 200, .inl f10404)), (q10390, .inl (I .int, 200, .inl f10405)), (q10391, .inl (I .int, 200, .inl f10406)), (q10392, .inl (I .int, 200, .inl f10407))]) (gV_ok D I) (ct_10443_Listing_addOp l hl0 D I q10381 q10383 z10409 o10433 f10434 bz10409' bo10433 bf10434) d_cX4_addSource_80 ⟨w_6_212, w_1_13, w_6_215, by decide, rfl, (Nat.le_of_ble_eq_true rfl), (Nat.le_of_ble_eq_true rfl)⟩ w_6_214 w_p_72 10 rfl rfl [10, 11] [0, 1, 2, 3, 4, 5, 6, 7, 8, 9] rfl rfl rfl rfl (by decide) (Nat.le_of_ble_eq_true rfl) (Nat.le_of_ble_eq_true rfl) (Nat.le_of_ble_eq_true rfl) (fun r w hp => ?_) (fun _ _ _ z => z.elim)
        obtain ⟨o10470, f10471, rfl, rfl, bo10470, bf10471⟩ := hp
        change G _ _ _ _ _ _ _ _ _ _ _
        refine G_ws (ws' := [(q10382, .inr (5, [.ref q10384, .ref q10385, .ref q10386, .ref q10387, .ref q10388, .ref q10389, .ref q10390, .ref q10391, .ref q10392, .int p10395, .int p10396, .int p10397])), (q10384, .inl (I .int, 40, .inl f10399)), (q10385, .inl (I .int, 40, .inl f10400)), (q10386, .inl (I .int, 40, .inl f10401)), (q10387, .inl (I .int, 200, .inl f10402)), (q10388, .inl (I .int, 200, .inl f10403)), (q10389, .inl (I .int, 200, .inl f10404)), (q10390, .inl (I .int, 200, .inl f10405)), (q10391, .inl (I .int, 200, .inl f10406)), (q10392, .inl (I .int, 200, .inl f10407)), (q10381, .inr (9, [.ref q10383, .int o10470])), (q10383, .inl (I .byte, 16384, .inl f10471))]) (cs' := 0) (sl' := 0) rfl rfl rfl ?_
        refine G_aload_n 0 d_cX4_addSource_83 rfl ?_
        refine G_aload_n 1 d_cX4_addSource_84 rfl ?_
        refine G_getfN 0 7 d_cX4_addSource_85 rfl (gk_X0 D I) (Nat.le_of_ble_eq_true rfl) (fun _ _ _ h => gn_w 31 rfl h) rfl ?_
        refine G_iload_n 2 d_cX4_addSource_88 rfl ?_
        refine G_iald 8 0 d_cX4_addSource_89 rfl rfl (gB_in bp10393 (by decide) (by decide)) (G_nam fun z10472 hz10472 => ?_)
        have bz10472 : gB z10472 (-2147483648) 2147483647 := gB_any z10472
        refine G_aload_n 1 d_cX4_addSource_90 rfl ?_
        refine G_getfN 0 8 d_cX4_addSource_91 rfl (gk_X0 D I) (Nat.le_of_ble_eq_true rfl) (fun _ _ _ h => gn_w 34 rfl h) rfl ?_
        refine G_iload_n 2 d_cX4_addSource_94 rfl ?_
        refine G_iald 9 0 d_cX4_addSource_95 rfl rfl (gB_in bp10393 (by decide) (by decide)) (G_nam fun z10473 hz10473 => ?_)
        have bz10473 : gB z10473 (-2147483648) 2147483647 := gB_any z10473
        refine G_callV (As := [.int z10472, .int z10473]) (wr := [(q10382, .inr (5, [.ref q10384, .ref q10385, .ref q10386, .ref q10387, .ref q10388, .ref q10389, .ref q10390, .ref q10391, .ref q10392, .int p10395, .int p10396, .int p10397])), (q10384, .inl (I .int, 40, .inl f10399)), (q10385, .inl (I .int, 40, .inl f10400)), (q10386, .inl (I .int, 40, .inl f10401)), (q10387, .inl (I .int, 200, .inl f10402)), (q10388, .inl (I .int, 200, .inl f10403)), (q10389, .inl (I .int, 200, .inl f10404)), (q10390, .inl (I .int, 200, .inl f10405)), (q10391, .inl (I .int, 200, .inl f10406)), (q10392, .inl (I .int, 200, .inl f10407))]) (gV_ok D I) (ct_10422_Listing_addOperand l hl0 D I q10381 q10383 z10472 z10473 o10470 f10471 (gB_w bo10470 (by decide) (by decide)) bf10471) d_cX4_addSource_96 ⟨w_6_191, w_1_13, w_6_194, by decide, rfl, (Nat.le_of_ble_eq_true rfl), (Nat.le_of_ble_eq_true rfl)⟩ w_6_193 w_p_69 10 rfl rfl [10, 11] [0, 1, 2, 3, 4, 5, 6, 7, 8, 9] rfl rfl rfl rfl (by decide) (Nat.le_of_ble_eq_true rfl) (Nat.le_of_ble_eq_true rfl) (Nat.le_of_ble_eq_true rfl) (fun r w hp => ?_) (fun _ _ _ z => z.elim)
        obtain ⟨o10474, f10475, rfl, rfl, bo10474, bf10475⟩ := hp
        change G _ _ _ _ _ _ _ _ _ _ _
        refine G_ws (ws' := [(q10382, .inr (5, [.ref q10384, .ref q10385, .ref q10386, .ref q10387, .ref q10388, .ref q10389, .ref q10390, .ref q10391, .ref q10392, .int p10395, .int p10396, .int p10397])), (q10384, .inl (I .int, 40, .inl f10399)), (q10385, .inl (I .int, 40, .inl f10400)), (q10386, .inl (I .int, 40, .inl f10401)), (q10387, .inl (I .int, 200, .inl f10402)), (q10388, .inl (I .int, 200, .inl f10403)), (q10389, .inl (I .int, 200, .inl f10404)), (q10390, .inl (I .int, 200, .inl f10405)), (q10391, .inl (I .int, 200, .inl f10406)), (q10392, .inl (I .int, 200, .inl f10407)), (q10381, .inr (9, [.ref q10383, .int o10474])), (q10383, .inl (I .byte, 16384, .inl f10475))]) (cs' := 0) (sl' := 0) rfl rfl rfl ?_
        refine G_sub (ws' := [(q10381, .inr (9, [.ref q10383, .int o10474])), (q10382, .inr (5, [.ref q10384, .ref q10385, .ref q10386, .ref q10387, .ref q10388, .ref q10389, .ref q10390, .ref q10391, .ref q10392, .int p10395, .int p10396, .int p10397])), (q10383, .inl (I .byte, 16384, .inl f10475)), (q10384, .inl (I .int, 40, .inl f10399)), (q10385, .inl (I .int, 40, .inl f10400)), (q10386, .inl (I .int, 40, .inl f10401)), (q10387, .inl (I .int, 200, .inl f10402)), (q10388, .inl (I .int, 200, .inl f10403)), (q10389, .inl (I .int, 200, .inl f10404)), (q10390, .inl (I .int, 200, .inl f10405)), (q10391, .inl (I .int, 200, .inl f10406)), (q10392, .inl (I .int, 200, .inl f10407))]) [10, 0, 11, 1, 2, 3, 4, 5, 6, 7, 8, 9] rfl rfl ?_
        exact G_vret d_cX4_addSource_99 rfl (Nat.le_of_ble_eq_true rfl) (Nat.le_of_ble_eq_true rfl) ⟨o10474, f10475, rfl, rfl, bo10474, bf10475⟩
    · have r10476 : z10409.toInt = 17 := gj_eq hc10412 (show Int32.toInt 17 = 17 by decide)
      have bz10409' : gB z10409 17 17 := ⟨by omega, by omega⟩
      refine G_aload_n 0 d_cX4_addSource_31 rfl ?_
      refine G_ldcK (a := D.2 1000 26) d_cX4_addSource_32 (fun _ _ _ h => gx_vk 26 rfl rfl h) ?_
      have hl26_10476 : (sb_26.length : Int) = 5 := rfl
      refine G_aload_n 1 d_cX4_addSource_34 rfl ?_
      refine G_getfN 1 8 d_cX4_addSource_35 rfl (gk_X0 D I) (Nat.le_of_ble_eq_true rfl) (fun _ _ _ h => gn_w 34 rfl h) rfl ?_
      refine G_iload_n 2 d_cX4_addSource_38 rfl ?_
      refine G_iald 11 0 d_cX4_addSource_39 rfl rfl (gB_in bp10393 (by decide) (by decide)) (G_nam fun z10478 hz10478 => ?_)
      have bz10478 : gB z10478 (-2147483648) 2147483647 := gB_any z10478
      refine G_callV (As := [.ref (D.2 1000 26), .int z10478]) (wr := [(q10382, .inr (5, [.ref q10384, .ref q10385, .ref q10386, .ref q10387, .ref q10388, .ref q10389, .ref q10390, .ref q10391, .ref q10392, .int p10395, .int p10396, .int p10397])), (q10384, .inl (I .int, 40, .inl f10399)), (q10385, .inl (I .int, 40, .inl f10400)), (q10386, .inl (I .int, 40, .inl f10401)), (q10387, .inl (I .int, 200, .inl f10402)), (q10388, .inl (I .int, 200, .inl f10403)), (q10389, .inl (I .int, 200, .inl f10404)), (q10390, .inl (I .int, 200, .inl f10405)), (q10391, .inl (I .int, 200, .inl f10406)), (q10392, .inl (I .int, 200, .inl f10407))]) (gV_ok D I) (ct_7582_Listing_addNamed l hl0 D I q10381 q10383 (D.2 1000 26) (D.2 1001 26) sb_26 z10478 p10394 f10398 (gx_sc 26 rfl rfl) (by omega) bp10394 bf10398) d_cX4_addSource_40 ⟨w_6_161, w_1_13, w_6_164, by decide, rfl, (Nat.le_of_ble_eq_true rfl), (Nat.le_of_ble_eq_true rfl)⟩ w_6_163 w_p_64 0 rfl rfl [0, 2] [1, 3, 4, 5, 6, 7, 8, 9, 10, 11] rfl rfl rfl rfl (by decide) (Nat.le_of_ble_eq_true rfl) (Nat.le_of_ble_eq_true rfl) (Nat.le_of_ble_eq_true rfl) (fun r w hp => ?_) (fun _ _ _ z => z.elim)
      obtain ⟨o10479, f10480, rfl, rfl, bo10479, bf10480⟩ := hp
      change G _ _ _ _ _ _ _ _ _ _ _
      refine G_ws (ws' := [(q10382, .inr (5, [.ref q10384, .ref q10385, .ref q10386, .ref q10387, .ref q10388, .ref q10389, .ref q10390, .ref q10391, .ref q10392, .int p10395, .int p10396, .int p10397])), (q10384, .inl (I .int, 40, .inl f10399)), (q10385, .inl (I .int, 40, .inl f10400)), (q10386, .inl (I .int, 40, .inl f10401)), (q10387, .inl (I .int, 200, .inl f10402)), (q10388, .inl (I .int, 200, .inl f10403)), (q10389, .inl (I .int, 200, .inl f10404)), (q10390, .inl (I .int, 200, .inl f10405)), (q10391, .inl (I .int, 200, .inl f10406)), (q10392, .inl (I .int, 200, .inl f10407)), (q10381, .inr (9, [.ref q10383, .int o10479])), (q10383, .inl (I .byte, 16384, .inl f10480))]) (cs' := 0) (sl' := 0) rfl rfl rfl ?_
      refine G_goto 99 d_cX4_addSource_43 (by decide +kernel) ?_
      refine G_sub (ws' := [(q10381, .inr (9, [.ref q10383, .int o10479])), (q10382, .inr (5, [.ref q10384, .ref q10385, .ref q10386, .ref q10387, .ref q10388, .ref q10389, .ref q10390, .ref q10391, .ref q10392, .int p10395, .int p10396, .int p10397])), (q10383, .inl (I .byte, 16384, .inl f10480)), (q10384, .inl (I .int, 40, .inl f10399)), (q10385, .inl (I .int, 40, .inl f10400)), (q10386, .inl (I .int, 40, .inl f10401)), (q10387, .inl (I .int, 200, .inl f10402)), (q10388, .inl (I .int, 200, .inl f10403)), (q10389, .inl (I .int, 200, .inl f10404)), (q10390, .inl (I .int, 200, .inl f10405)), (q10391, .inl (I .int, 200, .inl f10406)), (q10392, .inl (I .int, 200, .inl f10407))]) [10, 0, 11, 1, 2, 3, 4, 5, 6, 7, 8, 9] rfl rfl ?_
      exact G_vret d_cX4_addSource_99 rfl (Nat.le_of_ble_eq_true rfl) (Nat.le_of_ble_eq_true rfl) ⟨o10479, f10480, rfl, rfl, bo10479, bf10480⟩
  · have r10481 : z10409.toInt = 15 := gj_eq hc10410 (show Int32.toInt 15 = 15 by decide)
    have bz10409' : gB z10409 15 15 := ⟨by omega, by omega⟩
    refine G_aload_n 0 d_cX4_addSource_11 rfl ?_
    refine G_ldcK (a := D.2 1000 29) d_cX4_addSource_12 (fun _ _ _ h => gx_vk 29 rfl rfl h) ?_
    have hl29_10481 : (sb_29.length : Int) = 2 := rfl
    refine G_callV (As := [.ref (D.2 1000 29)]) (wr := [(q10382, .inr (5, [.ref q10384, .ref q10385, .ref q10386, .ref q10387, .ref q10388, .ref q10389, .ref q10390, .ref q10391, .ref q10392, .int p10395, .int p10396, .int p10397])), (q10384, .inl (I .int, 40, .inl f10399)), (q10385, .inl (I .int, 40, .inl f10400)), (q10386, .inl (I .int, 40, .inl f10401)), (q10387, .inl (I .int, 200, .inl f10402)), (q10388, .inl (I .int, 200, .inl f10403)), (q10389, .inl (I .int, 200, .inl f10404)), (q10390, .inl (I .int, 200, .inl f10405)), (q10391, .inl (I .int, 200, .inl f10406)), (q10392, .inl (I .int, 200, .inl f10407))]) (gV_ok D I) (ct_7590_Listing_addText l hl0 D I q10381 q10383 (D.2 1000 29) (D.2 1001 29) sb_29 p10394 f10398 (gx_sc 29 rfl rfl) (by omega) bp10394 bf10398) d_cX4_addSource_14 ⟨w_6_165, w_1_13, w_6_168, by decide, rfl, (Nat.le_of_ble_eq_true rfl), (Nat.le_of_ble_eq_true rfl)⟩ w_6_167 w_p_65 0 rfl rfl [0, 2] [1, 3, 4, 5, 6, 7, 8, 9, 10, 11] rfl rfl rfl rfl (by decide) (Nat.le_of_ble_eq_true rfl) (Nat.le_of_ble_eq_true rfl) (Nat.le_of_ble_eq_true rfl) (fun r w hp => ?_) (fun _ _ _ z => z.elim)
    obtain ⟨o10483, f10484, rfl, rfl, bo10483, bf10484⟩ := hp
    change G _ _ _ _ _ _ _ _ _ _ _
    refine G_ws (ws' := [(q10382, .inr (5, [.ref q10384, .ref q10385, .ref q10386, .ref q10387, .ref q10388, .ref q10389, .ref q10390, .ref q10391, .ref q10392, .int p10395, .int p10396, .int p10397])), (q10384, .inl (I .int, 40, .inl f10399)), (q10385, .inl (I .int, 40, .inl f10400)), (q10386, .inl (I .int, 40, .inl f10401)), (q10387, .inl (I .int, 200, .inl f10402)), (q10388, .inl (I .int, 200, .inl f10403)), (q10389, .inl (I .int, 200, .inl f10404)), (q10390, .inl (I .int, 200, .inl f10405)), (q10391, .inl (I .int, 200, .inl f10406)), (q10392, .inl (I .int, 200, .inl f10407)), (q10381, .inr (9, [.ref q10383, .int o10483])), (q10383, .inl (I .byte, 16384, .inl f10484))]) (cs' := 0) (sl' := 0) rfl rfl rfl ?_
    refine G_goto 99 d_cX4_addSource_17 (by decide +kernel) ?_
    refine G_sub (ws' := [(q10381, .inr (9, [.ref q10383, .int o10483])), (q10382, .inr (5, [.ref q10384, .ref q10385, .ref q10386, .ref q10387, .ref q10388, .ref q10389, .ref q10390, .ref q10391, .ref q10392, .int p10395, .int p10396, .int p10397])), (q10383, .inl (I .byte, 16384, .inl f10484)), (q10384, .inl (I .int, 40, .inl f10399)), (q10385, .inl (I .int, 40, .inl f10400)), (q10386, .inl (I .int, 40, .inl f10401)), (q10387, .inl (I .int, 200, .inl f10402)), (q10388, .inl (I .int, 200, .inl f10403)), (q10389, .inl (I .int, 200, .inl f10404)), (q10390, .inl (I .int, 200, .inl f10405)), (q10391, .inl (I .int, 200, .inl f10406)), (q10392, .inl (I .int, 200, .inl f10407))]) [10, 0, 11, 1, 2, 3, 4, 5, 6, 7, 8, 9] rfl rfl ?_
    exact G_vret d_cX4_addSource_99 rfl (Nat.le_of_ble_eq_true rfl) (Nat.le_of_ble_eq_true rfl) ⟨o10483, f10484, rfl, rfl, bo10483, bf10484⟩
abbrev ky_10368_Listing_addRow : gKey := (cX4_addRow, 3, yX4_addRow.cls, none, [], yX4_addRow.name, fun _ _ => True)
abbrev po_10368_Listing_addRow (I : FieldType → ClassId) (q10341 : Nat) (q10342 : Nat) (q10343 : Nat) (q10344 : Nat) (q10345 : Nat) (q10346 : Nat) (q10347 : Nat) (q10348 : Nat) (q10349 : Nat) (q10350 : Nat) (q10351 : Nat) (q10352 : Nat) (p10353 : Int32) (p10354 : Int32) (p10355 : Int32) (p10356 : Int32) (p10357 : Int32) (f10358 : Nat → Int32) (f10359 : Nat → Int32) (f10360 : Nat → Int32) (f10361 : Nat → Int32) (f10362 : Nat → Int32) (f10363 : Nat → Int32) (f10364 : Nat → Int32) (f10365 : Nat → Int32) (f10366 : Nat → Int32) (f10367 : Nat → Int32) : Option Value → va_W → Prop := fun r w => ∃ (o10506 : Int32) (f10507 : Nat → Int32), r = none ∧ w = [(q10341, .inr (9, [.ref q10343, .int o10506])), (q10342, .inr (5, [.ref q10344, .ref q10345, .ref q10346, .ref q10347, .ref q10348, .ref q10349, .ref q10350, .ref q10351, .ref q10352, .int p10355, .int p10356, .int p10357])), (q10343, .inl (I .byte, 16384, .inl f10507)), (q10344, .inl (I .int, 40, .inl f10359)), (q10345, .inl (I .int, 40, .inl f10360)), (q10346, .inl (I .int, 40, .inl f10361)), (q10347, .inl (I .int, 200, .inl f10362)), (q10348, .inl (I .int, 200, .inl f10363)), (q10349, .inl (I .int, 200, .inl f10364)), (q10350, .inl (I .int, 200, .inl f10365)), (q10351, .inl (I .int, 200, .inl f10366)), (q10352, .inl (I .int, 200, .inl f10367))] ∧ gB o10506 0 16384 ∧ gF f10507 (-128) 127
set_option maxRecDepth 100000 in
set_option maxHeartbeats 4000000 in
theorem ct_10368_Listing_addRow (l : Launch) (hl0 : l.stackTraces = false) (D : va_G) (I : FieldType → ClassId) (q10341 : Nat) (q10342 : Nat) (q10343 : Nat) (q10344 : Nat) (q10345 : Nat) (q10346 : Nat) (q10347 : Nat) (q10348 : Nat) (q10349 : Nat) (q10350 : Nat) (q10351 : Nat) (q10352 : Nat) (p10353 : Int32) (p10354 : Int32) (p10355 : Int32) (p10356 : Int32) (p10357 : Int32) (f10358 : Nat → Int32) (f10359 : Nat → Int32) (f10360 : Nat → Int32) (f10361 : Nat → Int32) (f10362 : Nat → Int32) (f10363 : Nat → Int32) (f10364 : Nat → Int32) (f10365 : Nat → Int32) (f10366 : Nat → Int32) (f10367 : Nat → Int32) (bp10353 : gB p10353 0 199) (bp10354 : gB p10354 0 16384) (bp10355 : gB p10355 0 40) (bp10356 : gB p10356 0 200) (bp10357 : gB p10357 0 1) (bf10358 : gF f10358 (-128) 127) (bf10359 : gF f10359 0 200) (bf10362 : gF f10362 0 21) : Ct (gV D I) l yX4_addRow cX4_addRow 3 none 8 173 0 0 [.ref q10341, .ref q10342, .int p10353] [(q10341, .inr (9, [.ref q10343, .int p10354])), (q10342, .inr (5, [.ref q10344, .ref q10345, .ref q10346, .ref q10347, .ref q10348, .ref q10349, .ref q10350, .ref q10351, .ref q10352, .int p10355, .int p10356, .int p10357])), (q10343, .inl (I .byte, 16384, .inl f10358)), (q10344, .inl (I .int, 40, .inl f10359)), (q10345, .inl (I .int, 40, .inl f10360)), (q10346, .inl (I .int, 40, .inl f10361)), (q10347, .inl (I .int, 200, .inl f10362)), (q10348, .inl (I .int, 200, .inl f10363)), (q10349, .inl (I .int, 200, .inl f10364)), (q10350, .inl (I .int, 200, .inl f10365)), (q10351, .inl (I .int, 200, .inl f10366)), (q10352, .inl (I .int, 200, .inl f10367))] (po_10368_Listing_addRow I q10341 q10342 q10343 q10344 q10345 q10346 q10347 q10348 q10349 q10350 q10351 q10352 p10353 p10354 p10355 p10356 p10357 f10358 f10359 f10360 f10361 f10362 f10363 f10364 f10365 f10366 f10367) gN := by
  refine Ct_of hl0 (by decide) (Nat.le_of_ble_eq_true rfl) ?_
  refine G_aload_n 1 d_cX4_addRow_0 rfl ?_
  refine G_getfN 1 3 d_cX4_addRow_1 rfl (gk_X0 D I) (Nat.le_of_ble_eq_true rfl) (fun _ _ _ h => gn_w 15 rfl h) rfl ?_
  refine G_iload_n 2 d_cX4_addRow_4 rfl ?_
  refine G_iald 6 0 d_cX4_addRow_5 rfl rfl (gB_in bp10353 (by decide) (by decide)) (G_nam fun z10369 hz10369 => ?_)
  have bz10369 : gB z10369 0 21 := by rw [hz10369]; exact bf10362 _
  refine G_bipush 16 d_cX4_addRow_6 (by decide +kernel) ?_
  refine G_icmp_ne 36 d_cX4_addRow_8 (by decide +kernel) (fun hc10370 => ?_) (fun hc10370 => ?_)
  · have r10371 : z10369.toInt ≠ 16 := gj_neq hc10370 (show Int32.toInt 16 = 16 by decide)
    refine G_aload_n 1 d_cX4_addRow_36 rfl ?_
    refine G_getfN 1 3 d_cX4_addRow_37 rfl (gk_X0 D I) (Nat.le_of_ble_eq_true rfl) (fun _ _ _ h => gn_w 15 rfl h) rfl ?_
    refine G_iload_n 2 d_cX4_addRow_40 rfl ?_
    refine G_iald 6 0 d_cX4_addRow_41 rfl rfl (gB_in bp10353 (by decide) (by decide)) (G_eqi (y := z10369) hz10369.symm ?_)
    refine G_bipush 18 d_cX4_addRow_42 (by decide +kernel) ?_
    refine G_icmp_ne 74 d_cX4_addRow_44 (by decide +kernel) (fun hc10372 => ?_) (fun hc10372 => ?_)
    · have r10373 : z10369.toInt ≠ 18 := gj_neq hc10372 (show Int32.toInt 18 = 18 by decide)
      refine G_aload_n 0 d_cX4_addRow_74 rfl ?_
      refine G_ldcK (a := D.2 1000 21) d_cX4_addRow_75 (fun _ _ _ h => gx_vk 21 rfl rfl h) ?_
      have hl21_10373 : (sb_21.length : Int) = 1 := rfl
      refine G_aload_n 1 d_cX4_addRow_77 rfl ?_
      refine G_getfN 1 4 d_cX4_addRow_78 rfl (gk_X0 D I) (Nat.le_of_ble_eq_true rfl) (fun _ _ _ h => gn_w 19 rfl h) rfl ?_
      refine G_iload_n 2 d_cX4_addRow_81 rfl ?_
      refine G_iald 7 0 d_cX4_addRow_82 rfl rfl (gB_in bp10353 (by decide) (by decide)) (G_nam fun z10375 hz10375 => ?_)
      have bz10375 : gB z10375 (-2147483648) 2147483647 := gB_any z10375
      refine G_callV (As := [.ref (D.2 1000 21), .int z10375]) (wr := [(q10342, .inr (5, [.ref q10344, .ref q10345, .ref q10346, .ref q10347, .ref q10348, .ref q10349, .ref q10350, .ref q10351, .ref q10352, .int p10355, .int p10356, .int p10357])), (q10344, .inl (I .int, 40, .inl f10359)), (q10345, .inl (I .int, 40, .inl f10360)), (q10346, .inl (I .int, 40, .inl f10361)), (q10347, .inl (I .int, 200, .inl f10362)), (q10348, .inl (I .int, 200, .inl f10363)), (q10349, .inl (I .int, 200, .inl f10364)), (q10350, .inl (I .int, 200, .inl f10365)), (q10351, .inl (I .int, 200, .inl f10366)), (q10352, .inl (I .int, 200, .inl f10367))]) (gV_ok D I) (ct_7582_Listing_addNamed l hl0 D I q10341 q10343 (D.2 1000 21) (D.2 1001 21) sb_21 z10375 p10354 f10358 (gx_sc 21 rfl rfl) (by omega) bp10354 bf10358) d_cX4_addRow_83 ⟨w_6_161, w_1_13, w_6_164, by decide, rfl, (Nat.le_of_ble_eq_true rfl), (Nat.le_of_ble_eq_true rfl)⟩ w_6_163 w_p_64 0 rfl rfl [0, 2] [1, 3, 4, 5, 6, 7, 8, 9, 10, 11] rfl rfl rfl rfl (by decide) (Nat.le_of_ble_eq_true rfl) (Nat.le_of_ble_eq_true rfl) (Nat.le_of_ble_eq_true rfl) (fun r w hp => ?_) (fun _ _ _ z => z.elim)
      obtain ⟨o10376, f10377, rfl, rfl, bo10376, bf10377⟩ := hp
      change G _ _ _ _ _ _ _ _ _ _ _
      refine G_ws (ws' := [(q10342, .inr (5, [.ref q10344, .ref q10345, .ref q10346, .ref q10347, .ref q10348, .ref q10349, .ref q10350, .ref q10351, .ref q10352, .int p10355, .int p10356, .int p10357])), (q10344, .inl (I .int, 40, .inl f10359)), (q10345, .inl (I .int, 40, .inl f10360)), (q10346, .inl (I .int, 40, .inl f10361)), (q10347, .inl (I .int, 200, .inl f10362)), (q10348, .inl (I .int, 200, .inl f10363)), (q10349, .inl (I .int, 200, .inl f10364)), (q10350, .inl (I .int, 200, .inl f10365)), (q10351, .inl (I .int, 200, .inl f10366)), (q10352, .inl (I .int, 200, .inl f10367)), (q10341, .inr (9, [.ref q10343, .int o10376])), (q10343, .inl (I .byte, 16384, .inl f10377))]) (cs' := 0) (sl' := 0) rfl rfl rfl ?_
      refine G_aload_n 0 d_cX4_addRow_86 rfl ?_
      refine G_ldcK (a := D.2 1000 28) d_cX4_addRow_87 (fun _ _ _ h => gx_vk 28 rfl rfl h) ?_
      have hl28_10377 : (sb_28.length : Int) = 3 := rfl
      refine G_callV (As := [.ref (D.2 1000 28)]) (wr := [(q10342, .inr (5, [.ref q10344, .ref q10345, .ref q10346, .ref q10347, .ref q10348, .ref q10349, .ref q10350, .ref q10351, .ref q10352, .int p10355, .int p10356, .int p10357])), (q10344, .inl (I .int, 40, .inl f10359)), (q10345, .inl (I .int, 40, .inl f10360)), (q10346, .inl (I .int, 40, .inl f10361)), (q10347, .inl (I .int, 200, .inl f10362)), (q10348, .inl (I .int, 200, .inl f10363)), (q10349, .inl (I .int, 200, .inl f10364)), (q10350, .inl (I .int, 200, .inl f10365)), (q10351, .inl (I .int, 200, .inl f10366)), (q10352, .inl (I .int, 200, .inl f10367))]) (gV_ok D I) (ct_7590_Listing_addText l hl0 D I q10341 q10343 (D.2 1000 28) (D.2 1001 28) sb_28 o10376 f10377 (gx_sc 28 rfl rfl) (by omega) bo10376 bf10377) d_cX4_addRow_89 ⟨w_6_165, w_1_13, w_6_168, by decide, rfl, (Nat.le_of_ble_eq_true rfl), (Nat.le_of_ble_eq_true rfl)⟩ w_6_167 w_p_65 10 rfl rfl [10, 11] [0, 1, 2, 3, 4, 5, 6, 7, 8, 9] rfl rfl rfl rfl (by decide) (Nat.le_of_ble_eq_true rfl) (Nat.le_of_ble_eq_true rfl) (Nat.le_of_ble_eq_true rfl) (fun r w hp => ?_) (fun _ _ _ z => z.elim)
      obtain ⟨o10379, f10380, rfl, rfl, bo10379, bf10380⟩ := hp
      change G _ _ _ _ _ _ _ _ _ _ _
      refine G_ws (ws' := [(q10342, .inr (5, [.ref q10344, .ref q10345, .ref q10346, .ref q10347, .ref q10348, .ref q10349, .ref q10350, .ref q10351, .ref q10352, .int p10355, .int p10356, .int p10357])), (q10344, .inl (I .int, 40, .inl f10359)), (q10345, .inl (I .int, 40, .inl f10360)), (q10346, .inl (I .int, 40, .inl f10361)), (q10347, .inl (I .int, 200, .inl f10362)), (q10348, .inl (I .int, 200, .inl f10363)), (q10349, .inl (I .int, 200, .inl f10364)), (q10350, .inl (I .int, 200, .inl f10365)), (q10351, .inl (I .int, 200, .inl f10366)), (q10352, .inl (I .int, 200, .inl f10367)), (q10341, .inr (9, [.ref q10343, .int o10379])), (q10343, .inl (I .byte, 16384, .inl f10380))]) (cs' := 0) (sl' := 0) rfl rfl rfl ?_
      refine G_aload_n 0 d_cX4_addRow_92 rfl ?_
      refine G_aload_n 1 d_cX4_addRow_93 rfl ?_
      refine G_iload_n 2 d_cX4_addRow_94 rfl ?_
      refine G_callV (As := [.ref q10342, .int p10353]) (wr := []) (gV_ok D I) (ct_10408_Listing_addSource l hl0 D I q10341 q10342 q10343 q10344 q10345 q10346 q10347 q10348 q10349 q10350 q10351 q10352 p10353 o10379 p10355 p10356 p10357 f10380 f10359 f10360 f10361 f10362 f10363 f10364 f10365 f10366 f10367 bp10353 bo10379 bp10355 bp10356 bp10357 bf10380 bf10359 bf10362) d_cX4_addRow_95 ⟨w_6_207, w_1_13, w_6_210, by decide, rfl, (Nat.le_of_ble_eq_true rfl), (Nat.le_of_ble_eq_true rfl)⟩ w_6_209 w_p_71 10 rfl rfl [10, 0, 11, 1, 2, 3, 4, 5, 6, 7, 8, 9] [] rfl rfl rfl rfl (by decide) (Nat.le_of_ble_eq_true rfl) (Nat.le_of_ble_eq_true rfl) (Nat.le_of_ble_eq_true rfl) (fun r w hp => ?_) (fun _ _ _ z => z.elim)
      obtain ⟨o10487, f10488, rfl, rfl, bo10487, bf10488⟩ := hp
      change G _ _ _ _ _ _ _ _ _ _ _
      refine G_ws (ws' := [(q10341, .inr (9, [.ref q10343, .int o10487])), (q10342, .inr (5, [.ref q10344, .ref q10345, .ref q10346, .ref q10347, .ref q10348, .ref q10349, .ref q10350, .ref q10351, .ref q10352, .int p10355, .int p10356, .int p10357])), (q10343, .inl (I .byte, 16384, .inl f10488)), (q10344, .inl (I .int, 40, .inl f10359)), (q10345, .inl (I .int, 40, .inl f10360)), (q10346, .inl (I .int, 40, .inl f10361)), (q10347, .inl (I .int, 200, .inl f10362)), (q10348, .inl (I .int, 200, .inl f10363)), (q10349, .inl (I .int, 200, .inl f10364)), (q10350, .inl (I .int, 200, .inl f10365)), (q10351, .inl (I .int, 200, .inl f10366)), (q10352, .inl (I .int, 200, .inl f10367))]) (cs' := 0) (sl' := 0) rfl rfl rfl ?_
      exact G_vret d_cX4_addRow_98 rfl (Nat.le_of_ble_eq_true rfl) (Nat.le_of_ble_eq_true rfl) ⟨o10487, f10488, rfl, rfl, bo10487, bf10488⟩
    · have r10489 : z10369.toInt = 18 := gj_eq hc10372 (show Int32.toInt 18 = 18 by decide)
      have bz10369' : gB z10369 18 18 := ⟨by omega, by omega⟩
      refine G_aload_n 0 d_cX4_addRow_47 rfl ?_
      refine G_ldcK (a := D.2 1000 26) d_cX4_addRow_48 (fun _ _ _ h => gx_vk 26 rfl rfl h) ?_
      have hl26_10489 : (sb_26.length : Int) = 5 := rfl
      refine G_aload_n 1 d_cX4_addRow_50 rfl ?_
      refine G_getfN 1 8 d_cX4_addRow_51 rfl (gk_X0 D I) (Nat.le_of_ble_eq_true rfl) (fun _ _ _ h => gn_w 34 rfl h) rfl ?_
      refine G_iload_n 2 d_cX4_addRow_54 rfl ?_
      refine G_iald 11 0 d_cX4_addRow_55 rfl rfl (gB_in bp10353 (by decide) (by decide)) (G_nam fun z10491 hz10491 => ?_)
      have bz10491 : gB z10491 (-2147483648) 2147483647 := gB_any z10491
      refine G_callV (As := [.ref (D.2 1000 26), .int z10491]) (wr := [(q10342, .inr (5, [.ref q10344, .ref q10345, .ref q10346, .ref q10347, .ref q10348, .ref q10349, .ref q10350, .ref q10351, .ref q10352, .int p10355, .int p10356, .int p10357])), (q10344, .inl (I .int, 40, .inl f10359)), (q10345, .inl (I .int, 40, .inl f10360)), (q10346, .inl (I .int, 40, .inl f10361)), (q10347, .inl (I .int, 200, .inl f10362)), (q10348, .inl (I .int, 200, .inl f10363)), (q10349, .inl (I .int, 200, .inl f10364)), (q10350, .inl (I .int, 200, .inl f10365)), (q10351, .inl (I .int, 200, .inl f10366)), (q10352, .inl (I .int, 200, .inl f10367))]) (gV_ok D I) (ct_7582_Listing_addNamed l hl0 D I q10341 q10343 (D.2 1000 26) (D.2 1001 26) sb_26 z10491 p10354 f10358 (gx_sc 26 rfl rfl) (by omega) bp10354 bf10358) d_cX4_addRow_56 ⟨w_6_161, w_1_13, w_6_164, by decide, rfl, (Nat.le_of_ble_eq_true rfl), (Nat.le_of_ble_eq_true rfl)⟩ w_6_163 w_p_64 0 rfl rfl [0, 2] [1, 3, 4, 5, 6, 7, 8, 9, 10, 11] rfl rfl rfl rfl (by decide) (Nat.le_of_ble_eq_true rfl) (Nat.le_of_ble_eq_true rfl) (Nat.le_of_ble_eq_true rfl) (fun r w hp => ?_) (fun _ _ _ z => z.elim)
      obtain ⟨o10492, f10493, rfl, rfl, bo10492, bf10493⟩ := hp
      change G _ _ _ _ _ _ _ _ _ _ _
      refine G_ws (ws' := [(q10342, .inr (5, [.ref q10344, .ref q10345, .ref q10346, .ref q10347, .ref q10348, .ref q10349, .ref q10350, .ref q10351, .ref q10352, .int p10355, .int p10356, .int p10357])), (q10344, .inl (I .int, 40, .inl f10359)), (q10345, .inl (I .int, 40, .inl f10360)), (q10346, .inl (I .int, 40, .inl f10361)), (q10347, .inl (I .int, 200, .inl f10362)), (q10348, .inl (I .int, 200, .inl f10363)), (q10349, .inl (I .int, 200, .inl f10364)), (q10350, .inl (I .int, 200, .inl f10365)), (q10351, .inl (I .int, 200, .inl f10366)), (q10352, .inl (I .int, 200, .inl f10367)), (q10341, .inr (9, [.ref q10343, .int o10492])), (q10343, .inl (I .byte, 16384, .inl f10493))]) (cs' := 0) (sl' := 0) rfl rfl rfl ?_
      refine G_aload_n 0 d_cX4_addRow_59 rfl ?_
      refine G_ldcK (a := D.2 1000 27) d_cX4_addRow_60 (fun _ _ _ h => gx_vk 27 rfl rfl h) ?_
      have hl27_10493 : (sb_27.length : Int) = 4 := rfl
      refine G_aload_n 1 d_cX4_addRow_62 rfl ?_
      refine G_getfN 0 5 d_cX4_addRow_63 rfl (gk_X0 D I) (Nat.le_of_ble_eq_true rfl) (fun _ _ _ h => gn_w 23 rfl h) rfl ?_
      refine G_iload_n 2 d_cX4_addRow_66 rfl ?_
      refine G_iald 6 0 d_cX4_addRow_67 rfl rfl (gB_in bp10353 (by decide) (by decide)) (G_nam fun z10495 hz10495 => ?_)
      have bz10495 : gB z10495 (-2147483648) 2147483647 := gB_any z10495
      refine G_callV (As := [.ref (D.2 1000 27), .int z10495]) (wr := [(q10342, .inr (5, [.ref q10344, .ref q10345, .ref q10346, .ref q10347, .ref q10348, .ref q10349, .ref q10350, .ref q10351, .ref q10352, .int p10355, .int p10356, .int p10357])), (q10344, .inl (I .int, 40, .inl f10359)), (q10345, .inl (I .int, 40, .inl f10360)), (q10346, .inl (I .int, 40, .inl f10361)), (q10347, .inl (I .int, 200, .inl f10362)), (q10348, .inl (I .int, 200, .inl f10363)), (q10349, .inl (I .int, 200, .inl f10364)), (q10350, .inl (I .int, 200, .inl f10365)), (q10351, .inl (I .int, 200, .inl f10366)), (q10352, .inl (I .int, 200, .inl f10367))]) (gV_ok D I) (ct_7582_Listing_addNamed l hl0 D I q10341 q10343 (D.2 1000 27) (D.2 1001 27) sb_27 z10495 o10492 f10493 (gx_sc 27 rfl rfl) (by omega) bo10492 bf10493) d_cX4_addRow_68 ⟨w_6_161, w_1_13, w_6_164, by decide, rfl, (Nat.le_of_ble_eq_true rfl), (Nat.le_of_ble_eq_true rfl)⟩ w_6_163 w_p_64 10 rfl rfl [10, 11] [0, 1, 2, 3, 4, 5, 6, 7, 8, 9] rfl rfl rfl rfl (by decide) (Nat.le_of_ble_eq_true rfl) (Nat.le_of_ble_eq_true rfl) (Nat.le_of_ble_eq_true rfl) (fun r w hp => ?_) (fun _ _ _ z => z.elim)
      obtain ⟨o10496, f10497, rfl, rfl, bo10496, bf10497⟩ := hp
      change G _ _ _ _ _ _ _ _ _ _ _
      refine G_ws (ws' := [(q10342, .inr (5, [.ref q10344, .ref q10345, .ref q10346, .ref q10347, .ref q10348, .ref q10349, .ref q10350, .ref q10351, .ref q10352, .int p10355, .int p10356, .int p10357])), (q10344, .inl (I .int, 40, .inl f10359)), (q10345, .inl (I .int, 40, .inl f10360)), (q10346, .inl (I .int, 40, .inl f10361)), (q10347, .inl (I .int, 200, .inl f10362)), (q10348, .inl (I .int, 200, .inl f10363)), (q10349, .inl (I .int, 200, .inl f10364)), (q10350, .inl (I .int, 200, .inl f10365)), (q10351, .inl (I .int, 200, .inl f10366)), (q10352, .inl (I .int, 200, .inl f10367)), (q10341, .inr (9, [.ref q10343, .int o10496])), (q10343, .inl (I .byte, 16384, .inl f10497))]) (cs' := 0) (sl' := 0) rfl rfl rfl ?_
      refine G_goto 98 d_cX4_addRow_71 (by decide +kernel) ?_
      refine G_sub (ws' := [(q10341, .inr (9, [.ref q10343, .int o10496])), (q10342, .inr (5, [.ref q10344, .ref q10345, .ref q10346, .ref q10347, .ref q10348, .ref q10349, .ref q10350, .ref q10351, .ref q10352, .int p10355, .int p10356, .int p10357])), (q10343, .inl (I .byte, 16384, .inl f10497)), (q10344, .inl (I .int, 40, .inl f10359)), (q10345, .inl (I .int, 40, .inl f10360)), (q10346, .inl (I .int, 40, .inl f10361)), (q10347, .inl (I .int, 200, .inl f10362)), (q10348, .inl (I .int, 200, .inl f10363)), (q10349, .inl (I .int, 200, .inl f10364)), (q10350, .inl (I .int, 200, .inl f10365)), (q10351, .inl (I .int, 200, .inl f10366)), (q10352, .inl (I .int, 200, .inl f10367))]) [10, 0, 11, 1, 2, 3, 4, 5, 6, 7, 8, 9] rfl rfl ?_
      exact G_vret d_cX4_addRow_98 rfl (Nat.le_of_ble_eq_true rfl) (Nat.le_of_ble_eq_true rfl) ⟨o10496, f10497, rfl, rfl, bo10496, bf10497⟩
  · have r10498 : z10369.toInt = 16 := gj_eq hc10370 (show Int32.toInt 16 = 16 by decide)
    have bz10369' : gB z10369 16 16 := ⟨by omega, by omega⟩
    refine G_aload_n 0 d_cX4_addRow_11 rfl ?_
    refine G_ldcK (a := D.2 1000 25) d_cX4_addRow_12 (fun _ _ _ h => gx_vk 25 rfl rfl h) ?_
    have hl25_10498 : (sb_25.length : Int) = 5 := rfl
    refine G_callV (As := [.ref (D.2 1000 25)]) (wr := [(q10342, .inr (5, [.ref q10344, .ref q10345, .ref q10346, .ref q10347, .ref q10348, .ref q10349, .ref q10350, .ref q10351, .ref q10352, .int p10355, .int p10356, .int p10357])), (q10344, .inl (I .int, 40, .inl f10359)), (q10345, .inl (I .int, 40, .inl f10360)), (q10346, .inl (I .int, 40, .inl f10361)), (q10347, .inl (I .int, 200, .inl f10362)), (q10348, .inl (I .int, 200, .inl f10363)), (q10349, .inl (I .int, 200, .inl f10364)), (q10350, .inl (I .int, 200, .inl f10365)), (q10351, .inl (I .int, 200, .inl f10366)), (q10352, .inl (I .int, 200, .inl f10367))]) (gV_ok D I) (ct_7590_Listing_addText l hl0 D I q10341 q10343 (D.2 1000 25) (D.2 1001 25) sb_25 p10354 f10358 (gx_sc 25 rfl rfl) (by omega) bp10354 bf10358) d_cX4_addRow_14 ⟨w_6_165, w_1_13, w_6_168, by decide, rfl, (Nat.le_of_ble_eq_true rfl), (Nat.le_of_ble_eq_true rfl)⟩ w_6_167 w_p_65 0 rfl rfl [0, 2] [1, 3, 4, 5, 6, 7, 8, 9, 10, 11] rfl rfl rfl rfl (by decide) (Nat.le_of_ble_eq_true rfl) (Nat.le_of_ble_eq_true rfl) (Nat.le_of_ble_eq_true rfl) (fun r w hp => ?_) (fun _ _ _ z => z.elim)
    obtain ⟨o10500, f10501, rfl, rfl, bo10500, bf10501⟩ := hp
    change G _ _ _ _ _ _ _ _ _ _ _
    refine G_ws (ws' := [(q10342, .inr (5, [.ref q10344, .ref q10345, .ref q10346, .ref q10347, .ref q10348, .ref q10349, .ref q10350, .ref q10351, .ref q10352, .int p10355, .int p10356, .int p10357])), (q10344, .inl (I .int, 40, .inl f10359)), (q10345, .inl (I .int, 40, .inl f10360)), (q10346, .inl (I .int, 40, .inl f10361)), (q10347, .inl (I .int, 200, .inl f10362)), (q10348, .inl (I .int, 200, .inl f10363)), (q10349, .inl (I .int, 200, .inl f10364)), (q10350, .inl (I .int, 200, .inl f10365)), (q10351, .inl (I .int, 200, .inl f10366)), (q10352, .inl (I .int, 200, .inl f10367)), (q10341, .inr (9, [.ref q10343, .int o10500])), (q10343, .inl (I .byte, 16384, .inl f10501))]) (cs' := 0) (sl' := 0) rfl rfl rfl ?_
    refine G_aload_n 0 d_cX4_addRow_17 rfl ?_
    refine G_aload_n 1 d_cX4_addRow_18 rfl ?_
    refine G_getfN 0 5 d_cX4_addRow_19 rfl (gk_X0 D I) (Nat.le_of_ble_eq_true rfl) (fun _ _ _ h => gn_w 23 rfl h) rfl ?_
    refine G_iload_n 2 d_cX4_addRow_22 rfl ?_
    refine G_iald 6 0 d_cX4_addRow_23 rfl rfl (gB_in bp10353 (by decide) (by decide)) (G_nam fun z10502 hz10502 => ?_)
    have bz10502 : gB z10502 (-2147483648) 2147483647 := gB_any z10502
    refine G_aload_n 1 d_cX4_addRow_24 rfl ?_
    refine G_getfN 0 6 d_cX4_addRow_25 rfl (gk_X0 D I) (Nat.le_of_ble_eq_true rfl) (fun _ _ _ h => gn_w 27 rfl h) rfl ?_
    refine G_iload_n 2 d_cX4_addRow_28 rfl ?_
    refine G_iald 7 0 d_cX4_addRow_29 rfl rfl (gB_in bp10353 (by decide) (by decide)) (G_nam fun z10503 hz10503 => ?_)
    have bz10503 : gB z10503 (-2147483648) 2147483647 := gB_any z10503
    refine G_callV (As := [.int z10502, .int z10503]) (wr := [(q10342, .inr (5, [.ref q10344, .ref q10345, .ref q10346, .ref q10347, .ref q10348, .ref q10349, .ref q10350, .ref q10351, .ref q10352, .int p10355, .int p10356, .int p10357])), (q10344, .inl (I .int, 40, .inl f10359)), (q10345, .inl (I .int, 40, .inl f10360)), (q10346, .inl (I .int, 40, .inl f10361)), (q10347, .inl (I .int, 200, .inl f10362)), (q10348, .inl (I .int, 200, .inl f10363)), (q10349, .inl (I .int, 200, .inl f10364)), (q10350, .inl (I .int, 200, .inl f10365)), (q10351, .inl (I .int, 200, .inl f10366)), (q10352, .inl (I .int, 200, .inl f10367))]) (gV_ok D I) (ct_10422_Listing_addOperand l hl0 D I q10341 q10343 z10502 z10503 o10500 f10501 bo10500 bf10501) d_cX4_addRow_30 ⟨w_6_191, w_1_13, w_6_194, by decide, rfl, (Nat.le_of_ble_eq_true rfl), (Nat.le_of_ble_eq_true rfl)⟩ w_6_193 w_p_69 10 rfl rfl [10, 11] [0, 1, 2, 3, 4, 5, 6, 7, 8, 9] rfl rfl rfl rfl (by decide) (Nat.le_of_ble_eq_true rfl) (Nat.le_of_ble_eq_true rfl) (Nat.le_of_ble_eq_true rfl) (fun r w hp => ?_) (fun _ _ _ z => z.elim)
    obtain ⟨o10504, f10505, rfl, rfl, bo10504, bf10505⟩ := hp
    change G _ _ _ _ _ _ _ _ _ _ _
    refine G_ws (ws' := [(q10342, .inr (5, [.ref q10344, .ref q10345, .ref q10346, .ref q10347, .ref q10348, .ref q10349, .ref q10350, .ref q10351, .ref q10352, .int p10355, .int p10356, .int p10357])), (q10344, .inl (I .int, 40, .inl f10359)), (q10345, .inl (I .int, 40, .inl f10360)), (q10346, .inl (I .int, 40, .inl f10361)), (q10347, .inl (I .int, 200, .inl f10362)), (q10348, .inl (I .int, 200, .inl f10363)), (q10349, .inl (I .int, 200, .inl f10364)), (q10350, .inl (I .int, 200, .inl f10365)), (q10351, .inl (I .int, 200, .inl f10366)), (q10352, .inl (I .int, 200, .inl f10367)), (q10341, .inr (9, [.ref q10343, .int o10504])), (q10343, .inl (I .byte, 16384, .inl f10505))]) (cs' := 0) (sl' := 0) rfl rfl rfl ?_
    refine G_goto 98 d_cX4_addRow_33 (by decide +kernel) ?_
    refine G_sub (ws' := [(q10341, .inr (9, [.ref q10343, .int o10504])), (q10342, .inr (5, [.ref q10344, .ref q10345, .ref q10346, .ref q10347, .ref q10348, .ref q10349, .ref q10350, .ref q10351, .ref q10352, .int p10355, .int p10356, .int p10357])), (q10343, .inl (I .byte, 16384, .inl f10505)), (q10344, .inl (I .int, 40, .inl f10359)), (q10345, .inl (I .int, 40, .inl f10360)), (q10346, .inl (I .int, 40, .inl f10361)), (q10347, .inl (I .int, 200, .inl f10362)), (q10348, .inl (I .int, 200, .inl f10363)), (q10349, .inl (I .int, 200, .inl f10364)), (q10350, .inl (I .int, 200, .inl f10365)), (q10351, .inl (I .int, 200, .inl f10366)), (q10352, .inl (I .int, 200, .inl f10367))]) [10, 0, 11, 1, 2, 3, 4, 5, 6, 7, 8, 9] rfl rfl ?_
    exact G_vret d_cX4_addRow_98 rfl (Nat.le_of_ble_eq_true rfl) (Nat.le_of_ble_eq_true rfl) ⟨o10504, f10505, rfl, rfl, bo10504, bf10505⟩
abbrev ky_10542_Listing_addEnd : gKey := (cX4_addEnd, 4, yX4_addEnd.cls, none, [], yX4_addEnd.name, fun _ _ => True)
abbrev po_10542_Listing_addEnd (I : FieldType → ClassId) (q10514 : Nat) (q10515 : Nat) (q10516 : Nat) (q10517 : Nat) (q10518 : Nat) (q10519 : Nat) (q10520 : Nat) (q10521 : Nat) (q10522 : Nat) (q10523 : Nat) (q10524 : Nat) (q10525 : Nat) (p10526 : Int32) (p10527 : Int32) (p10528 : Int32) (p10529 : Int32) (p10530 : Int32) (p10531 : Int32) (f10532 : Nat → Int32) (f10533 : Nat → Int32) (f10534 : Nat → Int32) (f10535 : Nat → Int32) (f10536 : Nat → Int32) (f10537 : Nat → Int32) (f10538 : Nat → Int32) (f10539 : Nat → Int32) (f10540 : Nat → Int32) (f10541 : Nat → Int32) : Option Value → va_W → Prop := fun r w => ∃ (o10576 : Int32) (f10577 : Nat → Int32), r = none ∧ w = [(q10514, .inr (9, [.ref q10516, .int o10576])), (q10515, .inr (5, [.ref q10517, .ref q10518, .ref q10519, .ref q10520, .ref q10521, .ref q10522, .ref q10523, .ref q10524, .ref q10525, .int p10529, .int p10530, .int p10531])), (q10516, .inl (I .byte, 16384, .inl f10577)), (q10517, .inl (I .int, 40, .inl f10533)), (q10518, .inl (I .int, 40, .inl f10534)), (q10519, .inl (I .int, 40, .inl f10535)), (q10520, .inl (I .int, 200, .inl f10536)), (q10521, .inl (I .int, 200, .inl f10537)), (q10522, .inl (I .int, 200, .inl f10538)), (q10523, .inl (I .int, 200, .inl f10539)), (q10524, .inl (I .int, 200, .inl f10540)), (q10525, .inl (I .int, 200, .inl f10541))] ∧ gB o10576 0 16384 ∧ gF f10577 (-128) 127
set_option maxRecDepth 100000 in
set_option maxHeartbeats 4000000 in
theorem ct_10542_Listing_addEnd (l : Launch) (hl0 : l.stackTraces = false) (D : va_G) (I : FieldType → ClassId) (q10514 : Nat) (q10515 : Nat) (q10516 : Nat) (q10517 : Nat) (q10518 : Nat) (q10519 : Nat) (q10520 : Nat) (q10521 : Nat) (q10522 : Nat) (q10523 : Nat) (q10524 : Nat) (q10525 : Nat) (p10526 : Int32) (p10527 : Int32) (p10528 : Int32) (p10529 : Int32) (p10530 : Int32) (p10531 : Int32) (f10532 : Nat → Int32) (f10533 : Nat → Int32) (f10534 : Nat → Int32) (f10535 : Nat → Int32) (f10536 : Nat → Int32) (f10537 : Nat → Int32) (f10538 : Nat → Int32) (f10539 : Nat → Int32) (f10540 : Nat → Int32) (f10541 : Nat → Int32) (bp10526 : gB p10526 0 39) (bp10527 : gB p10527 0 199) (bp10528 : gB p10528 0 16384) (bp10529 : gB p10529 0 40) (bp10530 : gB p10530 0 200) (bp10531 : gB p10531 0 1) (bf10532 : gF f10532 (-128) 127) (bf10533 : gF f10533 0 200) (bf10536 : gF f10536 0 21) : Ct (gV D I) l yX4_addEnd cX4_addEnd 4 none 7 151 0 0 [.ref q10514, .ref q10515, .int p10526, .int p10527] [(q10514, .inr (9, [.ref q10516, .int p10528])), (q10515, .inr (5, [.ref q10517, .ref q10518, .ref q10519, .ref q10520, .ref q10521, .ref q10522, .ref q10523, .ref q10524, .ref q10525, .int p10529, .int p10530, .int p10531])), (q10516, .inl (I .byte, 16384, .inl f10532)), (q10517, .inl (I .int, 40, .inl f10533)), (q10518, .inl (I .int, 40, .inl f10534)), (q10519, .inl (I .int, 40, .inl f10535)), (q10520, .inl (I .int, 200, .inl f10536)), (q10521, .inl (I .int, 200, .inl f10537)), (q10522, .inl (I .int, 200, .inl f10538)), (q10523, .inl (I .int, 200, .inl f10539)), (q10524, .inl (I .int, 200, .inl f10540)), (q10525, .inl (I .int, 200, .inl f10541))] (po_10542_Listing_addEnd I q10514 q10515 q10516 q10517 q10518 q10519 q10520 q10521 q10522 q10523 q10524 q10525 p10526 p10527 p10528 p10529 p10530 p10531 f10532 f10533 f10534 f10535 f10536 f10537 f10538 f10539 f10540 f10541) gN := by
  refine Ct_of hl0 (by decide) (Nat.le_of_ble_eq_true rfl) ?_
  refine G_aload_n 1 d_cX4_addEnd_0 rfl ?_
  refine G_getfN 1 3 d_cX4_addEnd_1 rfl (gk_X0 D I) (Nat.le_of_ble_eq_true rfl) (fun _ _ _ h => gn_w 15 rfl h) rfl ?_
  refine G_iload_n 3 d_cX4_addEnd_4 rfl ?_
  refine G_iald 6 0 d_cX4_addEnd_5 rfl rfl (gB_in bp10527 (by decide) (by decide)) (G_nam fun z10543 hz10543 => ?_)
  have bz10543 : gB z10543 0 21 := by rw [hz10543]; exact bf10536 _
  refine G_bipush 21 d_cX4_addEnd_6 (by decide +kernel) ?_
  refine G_icmp_ne 36 d_cX4_addEnd_8 (by decide +kernel) (fun hc10544 => ?_) (fun hc10544 => ?_)
  · have r10545 : z10543.toInt ≠ 21 := gj_neq hc10544 (show Int32.toInt 21 = 21 by decide)
    have bz10543' : gB z10543 0 20 := ⟨by omega, by omega⟩
    refine G_aload_n 1 d_cX4_addEnd_36 rfl ?_
    refine G_getfN 1 3 d_cX4_addEnd_37 rfl (gk_X0 D I) (Nat.le_of_ble_eq_true rfl) (fun _ _ _ h => gn_w 15 rfl h) rfl ?_
    refine G_iload_n 3 d_cX4_addEnd_40 rfl ?_
    refine G_iald 6 0 d_cX4_addEnd_41 rfl rfl (gB_in bp10527 (by decide) (by decide)) (G_eqi (y := z10543) hz10543.symm ?_)
    refine G_bipush 19 d_cX4_addEnd_42 (by decide +kernel) ?_
    refine G_icmp_ne 62 d_cX4_addEnd_44 (by decide +kernel) (fun hc10546 => ?_) (fun hc10546 => ?_)
    · have r10547 : z10543.toInt ≠ 19 := gj_neq hc10546 (show Int32.toInt 19 = 19 by decide)
      refine G_aload_n 0 d_cX4_addEnd_62 rfl ?_
      refine G_ldcK (a := D.2 1000 23) d_cX4_addEnd_63 (fun _ _ _ h => gx_vk 23 rfl rfl h) ?_
      have hl23_10547 : (sb_23.length : Int) = 3 := rfl
      refine G_callV (As := [.ref (D.2 1000 23)]) (wr := [(q10515, .inr (5, [.ref q10517, .ref q10518, .ref q10519, .ref q10520, .ref q10521, .ref q10522, .ref q10523, .ref q10524, .ref q10525, .int p10529, .int p10530, .int p10531])), (q10517, .inl (I .int, 40, .inl f10533)), (q10518, .inl (I .int, 40, .inl f10534)), (q10519, .inl (I .int, 40, .inl f10535)), (q10520, .inl (I .int, 200, .inl f10536)), (q10521, .inl (I .int, 200, .inl f10537)), (q10522, .inl (I .int, 200, .inl f10538)), (q10523, .inl (I .int, 200, .inl f10539)), (q10524, .inl (I .int, 200, .inl f10540)), (q10525, .inl (I .int, 200, .inl f10541))]) (gV_ok D I) (ct_7590_Listing_addText l hl0 D I q10514 q10516 (D.2 1000 23) (D.2 1001 23) sb_23 p10528 f10532 (gx_sc 23 rfl rfl) (by omega) bp10528 bf10532) d_cX4_addEnd_65 ⟨w_6_165, w_1_13, w_6_168, by decide, rfl, (Nat.le_of_ble_eq_true rfl), (Nat.le_of_ble_eq_true rfl)⟩ w_6_167 w_p_65 0 rfl rfl [0, 2] [1, 3, 4, 5, 6, 7, 8, 9, 10, 11] rfl rfl rfl rfl (by decide) (Nat.le_of_ble_eq_true rfl) (Nat.le_of_ble_eq_true rfl) (Nat.le_of_ble_eq_true rfl) (fun r w hp => ?_) (fun _ _ _ z => z.elim)
      obtain ⟨o10549, f10550, rfl, rfl, bo10549, bf10550⟩ := hp
      change G _ _ _ _ _ _ _ _ _ _ _
      refine G_ws (ws' := [(q10515, .inr (5, [.ref q10517, .ref q10518, .ref q10519, .ref q10520, .ref q10521, .ref q10522, .ref q10523, .ref q10524, .ref q10525, .int p10529, .int p10530, .int p10531])), (q10517, .inl (I .int, 40, .inl f10533)), (q10518, .inl (I .int, 40, .inl f10534)), (q10519, .inl (I .int, 40, .inl f10535)), (q10520, .inl (I .int, 200, .inl f10536)), (q10521, .inl (I .int, 200, .inl f10537)), (q10522, .inl (I .int, 200, .inl f10538)), (q10523, .inl (I .int, 200, .inl f10539)), (q10524, .inl (I .int, 200, .inl f10540)), (q10525, .inl (I .int, 200, .inl f10541)), (q10514, .inr (9, [.ref q10516, .int o10549])), (q10516, .inl (I .byte, 16384, .inl f10550))]) (cs' := 0) (sl' := 0) rfl rfl rfl ?_
      refine G_aload_n 0 d_cX4_addEnd_68 rfl ?_
      refine G_aload_n 1 d_cX4_addEnd_69 rfl ?_
      refine G_getfN 0 5 d_cX4_addEnd_70 rfl (gk_X0 D I) (Nat.le_of_ble_eq_true rfl) (fun _ _ _ h => gn_w 23 rfl h) rfl ?_
      refine G_iload_n 3 d_cX4_addEnd_73 rfl ?_
      refine G_iald 6 0 d_cX4_addEnd_74 rfl rfl (gB_in bp10527 (by decide) (by decide)) (G_nam fun z10551 hz10551 => ?_)
      have bz10551 : gB z10551 (-2147483648) 2147483647 := gB_any z10551
      refine G_aload_n 1 d_cX4_addEnd_75 rfl ?_
      refine G_getfN 0 6 d_cX4_addEnd_76 rfl (gk_X0 D I) (Nat.le_of_ble_eq_true rfl) (fun _ _ _ h => gn_w 27 rfl h) rfl ?_
      refine G_iload_n 3 d_cX4_addEnd_79 rfl ?_
      refine G_iald 7 0 d_cX4_addEnd_80 rfl rfl (gB_in bp10527 (by decide) (by decide)) (G_nam fun z10552 hz10552 => ?_)
      have bz10552 : gB z10552 (-2147483648) 2147483647 := gB_any z10552
      refine G_callV (As := [.int z10551, .int z10552]) (wr := [(q10515, .inr (5, [.ref q10517, .ref q10518, .ref q10519, .ref q10520, .ref q10521, .ref q10522, .ref q10523, .ref q10524, .ref q10525, .int p10529, .int p10530, .int p10531])), (q10517, .inl (I .int, 40, .inl f10533)), (q10518, .inl (I .int, 40, .inl f10534)), (q10519, .inl (I .int, 40, .inl f10535)), (q10520, .inl (I .int, 200, .inl f10536)), (q10521, .inl (I .int, 200, .inl f10537)), (q10522, .inl (I .int, 200, .inl f10538)), (q10523, .inl (I .int, 200, .inl f10539)), (q10524, .inl (I .int, 200, .inl f10540)), (q10525, .inl (I .int, 200, .inl f10541))]) (gV_ok D I) (ct_10422_Listing_addOperand l hl0 D I q10514 q10516 z10551 z10552 o10549 f10550 bo10549 bf10550) d_cX4_addEnd_81 ⟨w_6_191, w_1_13, w_6_194, by decide, rfl, (Nat.le_of_ble_eq_true rfl), (Nat.le_of_ble_eq_true rfl)⟩ w_6_193 w_p_69 10 rfl rfl [10, 11] [0, 1, 2, 3, 4, 5, 6, 7, 8, 9] rfl rfl rfl rfl (by decide) (Nat.le_of_ble_eq_true rfl) (Nat.le_of_ble_eq_true rfl) (Nat.le_of_ble_eq_true rfl) (fun r w hp => ?_) (fun _ _ _ z => z.elim)
      obtain ⟨o10553, f10554, rfl, rfl, bo10553, bf10554⟩ := hp
      change G _ _ _ _ _ _ _ _ _ _ _
      refine G_ws (ws' := [(q10515, .inr (5, [.ref q10517, .ref q10518, .ref q10519, .ref q10520, .ref q10521, .ref q10522, .ref q10523, .ref q10524, .ref q10525, .int p10529, .int p10530, .int p10531])), (q10517, .inl (I .int, 40, .inl f10533)), (q10518, .inl (I .int, 40, .inl f10534)), (q10519, .inl (I .int, 40, .inl f10535)), (q10520, .inl (I .int, 200, .inl f10536)), (q10521, .inl (I .int, 200, .inl f10537)), (q10522, .inl (I .int, 200, .inl f10538)), (q10523, .inl (I .int, 200, .inl f10539)), (q10524, .inl (I .int, 200, .inl f10540)), (q10525, .inl (I .int, 200, .inl f10541)), (q10514, .inr (9, [.ref q10516, .int o10553])), (q10516, .inl (I .byte, 16384, .inl f10554))]) (cs' := 0) (sl' := 0) rfl rfl rfl ?_
      refine G_aload_n 0 d_cX4_addEnd_84 rfl ?_
      refine G_ldcK (a := D.2 1000 24) d_cX4_addEnd_85 (fun _ _ _ h => gx_vk 24 rfl rfl h) ?_
      have hl24_10554 : (sb_24.length : Int) = 2 := rfl
      refine G_aload_n 1 d_cX4_addEnd_87 rfl ?_
      refine G_getfN 0 1 d_cX4_addEnd_88 rfl (gk_X0 D I) (Nat.le_of_ble_eq_true rfl) (fun _ _ _ h => gn_w 8 rfl h) rfl ?_
      refine G_iload_n 2 d_cX4_addEnd_91 rfl ?_
      refine G_iald 2 0 d_cX4_addEnd_92 rfl rfl (gB_in bp10526 (by decide) (by decide)) (G_nam fun z10556 hz10556 => ?_)
      have bz10556 : gB z10556 (-2147483648) 2147483647 := gB_any z10556
      refine G_callV (As := [.ref (D.2 1000 24), .int z10556]) (wr := [(q10515, .inr (5, [.ref q10517, .ref q10518, .ref q10519, .ref q10520, .ref q10521, .ref q10522, .ref q10523, .ref q10524, .ref q10525, .int p10529, .int p10530, .int p10531])), (q10517, .inl (I .int, 40, .inl f10533)), (q10518, .inl (I .int, 40, .inl f10534)), (q10519, .inl (I .int, 40, .inl f10535)), (q10520, .inl (I .int, 200, .inl f10536)), (q10521, .inl (I .int, 200, .inl f10537)), (q10522, .inl (I .int, 200, .inl f10538)), (q10523, .inl (I .int, 200, .inl f10539)), (q10524, .inl (I .int, 200, .inl f10540)), (q10525, .inl (I .int, 200, .inl f10541))]) (gV_ok D I) (ct_7582_Listing_addNamed l hl0 D I q10514 q10516 (D.2 1000 24) (D.2 1001 24) sb_24 z10556 o10553 f10554 (gx_sc 24 rfl rfl) (by omega) bo10553 bf10554) d_cX4_addEnd_93 ⟨w_6_161, w_1_13, w_6_164, by decide, rfl, (Nat.le_of_ble_eq_true rfl), (Nat.le_of_ble_eq_true rfl)⟩ w_6_163 w_p_64 10 rfl rfl [10, 11] [0, 1, 2, 3, 4, 5, 6, 7, 8, 9] rfl rfl rfl rfl (by decide) (Nat.le_of_ble_eq_true rfl) (Nat.le_of_ble_eq_true rfl) (Nat.le_of_ble_eq_true rfl) (fun r w hp => ?_) (fun _ _ _ z => z.elim)
      obtain ⟨o10557, f10558, rfl, rfl, bo10557, bf10558⟩ := hp
      change G _ _ _ _ _ _ _ _ _ _ _
      refine G_ws (ws' := [(q10515, .inr (5, [.ref q10517, .ref q10518, .ref q10519, .ref q10520, .ref q10521, .ref q10522, .ref q10523, .ref q10524, .ref q10525, .int p10529, .int p10530, .int p10531])), (q10517, .inl (I .int, 40, .inl f10533)), (q10518, .inl (I .int, 40, .inl f10534)), (q10519, .inl (I .int, 40, .inl f10535)), (q10520, .inl (I .int, 200, .inl f10536)), (q10521, .inl (I .int, 200, .inl f10537)), (q10522, .inl (I .int, 200, .inl f10538)), (q10523, .inl (I .int, 200, .inl f10539)), (q10524, .inl (I .int, 200, .inl f10540)), (q10525, .inl (I .int, 200, .inl f10541)), (q10514, .inr (9, [.ref q10516, .int o10557])), (q10516, .inl (I .byte, 16384, .inl f10558))]) (cs' := 0) (sl' := 0) rfl rfl rfl ?_
      refine G_aload_n 0 d_cX4_addEnd_96 rfl ?_
      refine G_ldcK (a := D.2 1000 24) d_cX4_addEnd_97 (fun _ _ _ h => gx_vk 24 rfl rfl h) ?_
      have hl24_10558 : (sb_24.length : Int) = 2 := rfl
      refine G_aload_n 1 d_cX4_addEnd_99 rfl ?_
      refine G_getfN 0 2 d_cX4_addEnd_100 rfl (gk_X0 D I) (Nat.le_of_ble_eq_true rfl) (fun _ _ _ h => gn_w 12 rfl h) rfl ?_
      refine G_iload_n 2 d_cX4_addEnd_103 rfl ?_
      refine G_iald 3 0 d_cX4_addEnd_104 rfl rfl (gB_in bp10526 (by decide) (by decide)) (G_nam fun z10560 hz10560 => ?_)
      have bz10560 : gB z10560 (-2147483648) 2147483647 := gB_any z10560
      refine G_callV (As := [.ref (D.2 1000 24), .int z10560]) (wr := [(q10515, .inr (5, [.ref q10517, .ref q10518, .ref q10519, .ref q10520, .ref q10521, .ref q10522, .ref q10523, .ref q10524, .ref q10525, .int p10529, .int p10530, .int p10531])), (q10517, .inl (I .int, 40, .inl f10533)), (q10518, .inl (I .int, 40, .inl f10534)), (q10519, .inl (I .int, 40, .inl f10535)), (q10520, .inl (I .int, 200, .inl f10536)), (q10521, .inl (I .int, 200, .inl f10537)), (q10522, .inl (I .int, 200, .inl f10538)), (q10523, .inl (I .int, 200, .inl f10539)), (q10524, .inl (I .int, 200, .inl f10540)), (q10525, .inl (I .int, 200, .inl f10541))]) (gV_ok D I) (ct_7582_Listing_addNamed l hl0 D I q10514 q10516 (D.2 1000 24) (D.2 1001 24) sb_24 z10560 o10557 f10558 (gx_sc 24 rfl rfl) (by omega) bo10557 bf10558) d_cX4_addEnd_105 ⟨w_6_161, w_1_13, w_6_164, by decide, rfl, (Nat.le_of_ble_eq_true rfl), (Nat.le_of_ble_eq_true rfl)⟩ w_6_163 w_p_64 10 rfl rfl [10, 11] [0, 1, 2, 3, 4, 5, 6, 7, 8, 9] rfl rfl rfl rfl (by decide) (Nat.le_of_ble_eq_true rfl) (Nat.le_of_ble_eq_true rfl) (Nat.le_of_ble_eq_true rfl) (fun r w hp => ?_) (fun _ _ _ z => z.elim)
      obtain ⟨o10561, f10562, rfl, rfl, bo10561, bf10562⟩ := hp
      change G _ _ _ _ _ _ _ _ _ _ _
      refine G_ws (ws' := [(q10515, .inr (5, [.ref q10517, .ref q10518, .ref q10519, .ref q10520, .ref q10521, .ref q10522, .ref q10523, .ref q10524, .ref q10525, .int p10529, .int p10530, .int p10531])), (q10517, .inl (I .int, 40, .inl f10533)), (q10518, .inl (I .int, 40, .inl f10534)), (q10519, .inl (I .int, 40, .inl f10535)), (q10520, .inl (I .int, 200, .inl f10536)), (q10521, .inl (I .int, 200, .inl f10537)), (q10522, .inl (I .int, 200, .inl f10538)), (q10523, .inl (I .int, 200, .inl f10539)), (q10524, .inl (I .int, 200, .inl f10540)), (q10525, .inl (I .int, 200, .inl f10541)), (q10514, .inr (9, [.ref q10516, .int o10561])), (q10516, .inl (I .byte, 16384, .inl f10562))]) (cs' := 0) (sl' := 0) rfl rfl rfl ?_
      refine G_sub (ws' := [(q10514, .inr (9, [.ref q10516, .int o10561])), (q10515, .inr (5, [.ref q10517, .ref q10518, .ref q10519, .ref q10520, .ref q10521, .ref q10522, .ref q10523, .ref q10524, .ref q10525, .int p10529, .int p10530, .int p10531])), (q10516, .inl (I .byte, 16384, .inl f10562)), (q10517, .inl (I .int, 40, .inl f10533)), (q10518, .inl (I .int, 40, .inl f10534)), (q10519, .inl (I .int, 40, .inl f10535)), (q10520, .inl (I .int, 200, .inl f10536)), (q10521, .inl (I .int, 200, .inl f10537)), (q10522, .inl (I .int, 200, .inl f10538)), (q10523, .inl (I .int, 200, .inl f10539)), (q10524, .inl (I .int, 200, .inl f10540)), (q10525, .inl (I .int, 200, .inl f10541))]) [10, 0, 11, 1, 2, 3, 4, 5, 6, 7, 8, 9] rfl rfl ?_
      exact G_vret d_cX4_addEnd_108 rfl (Nat.le_of_ble_eq_true rfl) (Nat.le_of_ble_eq_true rfl) ⟨o10561, f10562, rfl, rfl, bo10561, bf10562⟩
    · have r10563 : z10543.toInt = 19 := gj_eq hc10546 (show Int32.toInt 19 = 19 by decide)
      have bz10543'' : gB z10543 19 19 := ⟨by omega, by omega⟩
      refine G_aload_n 0 d_cX4_addEnd_47 rfl ?_
      refine G_ldcK (a := D.2 1000 22) d_cX4_addEnd_48 (fun _ _ _ h => gx_vk 22 rfl rfl h) ?_
      have hl22_10563 : (sb_22.length : Int) = 6 := rfl
      refine G_aload_n 1 d_cX4_addEnd_50 rfl ?_
      refine G_getfN 1 1 d_cX4_addEnd_51 rfl (gk_X0 D I) (Nat.le_of_ble_eq_true rfl) (fun _ _ _ h => gn_w 8 rfl h) rfl ?_
      refine G_iload_n 2 d_cX4_addEnd_54 rfl ?_
      refine G_iald 4 0 d_cX4_addEnd_55 rfl rfl (gB_in bp10526 (by decide) (by decide)) (G_nam fun z10565 hz10565 => ?_)
      have bz10565 : gB z10565 (-2147483648) 2147483647 := gB_any z10565
      refine G_callV (As := [.ref (D.2 1000 22), .int z10565]) (wr := [(q10515, .inr (5, [.ref q10517, .ref q10518, .ref q10519, .ref q10520, .ref q10521, .ref q10522, .ref q10523, .ref q10524, .ref q10525, .int p10529, .int p10530, .int p10531])), (q10517, .inl (I .int, 40, .inl f10533)), (q10518, .inl (I .int, 40, .inl f10534)), (q10519, .inl (I .int, 40, .inl f10535)), (q10520, .inl (I .int, 200, .inl f10536)), (q10521, .inl (I .int, 200, .inl f10537)), (q10522, .inl (I .int, 200, .inl f10538)), (q10523, .inl (I .int, 200, .inl f10539)), (q10524, .inl (I .int, 200, .inl f10540)), (q10525, .inl (I .int, 200, .inl f10541))]) (gV_ok D I) (ct_7582_Listing_addNamed l hl0 D I q10514 q10516 (D.2 1000 22) (D.2 1001 22) sb_22 z10565 p10528 f10532 (gx_sc 22 rfl rfl) (by omega) bp10528 bf10532) d_cX4_addEnd_56 ⟨w_6_161, w_1_13, w_6_164, by decide, rfl, (Nat.le_of_ble_eq_true rfl), (Nat.le_of_ble_eq_true rfl)⟩ w_6_163 w_p_64 0 rfl rfl [0, 2] [1, 3, 4, 5, 6, 7, 8, 9, 10, 11] rfl rfl rfl rfl (by decide) (Nat.le_of_ble_eq_true rfl) (Nat.le_of_ble_eq_true rfl) (Nat.le_of_ble_eq_true rfl) (fun r w hp => ?_) (fun _ _ _ z => z.elim)
      obtain ⟨o10566, f10567, rfl, rfl, bo10566, bf10567⟩ := hp
      change G _ _ _ _ _ _ _ _ _ _ _
      refine G_ws (ws' := [(q10515, .inr (5, [.ref q10517, .ref q10518, .ref q10519, .ref q10520, .ref q10521, .ref q10522, .ref q10523, .ref q10524, .ref q10525, .int p10529, .int p10530, .int p10531])), (q10517, .inl (I .int, 40, .inl f10533)), (q10518, .inl (I .int, 40, .inl f10534)), (q10519, .inl (I .int, 40, .inl f10535)), (q10520, .inl (I .int, 200, .inl f10536)), (q10521, .inl (I .int, 200, .inl f10537)), (q10522, .inl (I .int, 200, .inl f10538)), (q10523, .inl (I .int, 200, .inl f10539)), (q10524, .inl (I .int, 200, .inl f10540)), (q10525, .inl (I .int, 200, .inl f10541)), (q10514, .inr (9, [.ref q10516, .int o10566])), (q10516, .inl (I .byte, 16384, .inl f10567))]) (cs' := 0) (sl' := 0) rfl rfl rfl ?_
      refine G_goto 108 d_cX4_addEnd_59 (by decide +kernel) ?_
      refine G_sub (ws' := [(q10514, .inr (9, [.ref q10516, .int o10566])), (q10515, .inr (5, [.ref q10517, .ref q10518, .ref q10519, .ref q10520, .ref q10521, .ref q10522, .ref q10523, .ref q10524, .ref q10525, .int p10529, .int p10530, .int p10531])), (q10516, .inl (I .byte, 16384, .inl f10567)), (q10517, .inl (I .int, 40, .inl f10533)), (q10518, .inl (I .int, 40, .inl f10534)), (q10519, .inl (I .int, 40, .inl f10535)), (q10520, .inl (I .int, 200, .inl f10536)), (q10521, .inl (I .int, 200, .inl f10537)), (q10522, .inl (I .int, 200, .inl f10538)), (q10523, .inl (I .int, 200, .inl f10539)), (q10524, .inl (I .int, 200, .inl f10540)), (q10525, .inl (I .int, 200, .inl f10541))]) [10, 0, 11, 1, 2, 3, 4, 5, 6, 7, 8, 9] rfl rfl ?_
      exact G_vret d_cX4_addEnd_108 rfl (Nat.le_of_ble_eq_true rfl) (Nat.le_of_ble_eq_true rfl) ⟨o10566, f10567, rfl, rfl, bo10566, bf10567⟩
  · have r10568 : z10543.toInt = 21 := gj_eq hc10544 (show Int32.toInt 21 = 21 by decide)
    have bz10543' : gB z10543 21 21 := ⟨by omega, by omega⟩
    refine G_aload_n 0 d_cX4_addEnd_11 rfl ?_
    refine G_ldcK (a := D.2 1000 20) d_cX4_addEnd_12 (fun _ _ _ h => gx_vk 20 rfl rfl h) ?_
    have hl20_10568 : (sb_20.length : Int) = 4 := rfl
    refine G_callV (As := [.ref (D.2 1000 20)]) (wr := [(q10515, .inr (5, [.ref q10517, .ref q10518, .ref q10519, .ref q10520, .ref q10521, .ref q10522, .ref q10523, .ref q10524, .ref q10525, .int p10529, .int p10530, .int p10531])), (q10517, .inl (I .int, 40, .inl f10533)), (q10518, .inl (I .int, 40, .inl f10534)), (q10519, .inl (I .int, 40, .inl f10535)), (q10520, .inl (I .int, 200, .inl f10536)), (q10521, .inl (I .int, 200, .inl f10537)), (q10522, .inl (I .int, 200, .inl f10538)), (q10523, .inl (I .int, 200, .inl f10539)), (q10524, .inl (I .int, 200, .inl f10540)), (q10525, .inl (I .int, 200, .inl f10541))]) (gV_ok D I) (ct_7590_Listing_addText l hl0 D I q10514 q10516 (D.2 1000 20) (D.2 1001 20) sb_20 p10528 f10532 (gx_sc 20 rfl rfl) (by omega) bp10528 bf10532) d_cX4_addEnd_14 ⟨w_6_165, w_1_13, w_6_168, by decide, rfl, (Nat.le_of_ble_eq_true rfl), (Nat.le_of_ble_eq_true rfl)⟩ w_6_167 w_p_65 0 rfl rfl [0, 2] [1, 3, 4, 5, 6, 7, 8, 9, 10, 11] rfl rfl rfl rfl (by decide) (Nat.le_of_ble_eq_true rfl) (Nat.le_of_ble_eq_true rfl) (Nat.le_of_ble_eq_true rfl) (fun r w hp => ?_) (fun _ _ _ z => z.elim)
    obtain ⟨o10570, f10571, rfl, rfl, bo10570, bf10571⟩ := hp
    change G _ _ _ _ _ _ _ _ _ _ _
    refine G_ws (ws' := [(q10515, .inr (5, [.ref q10517, .ref q10518, .ref q10519, .ref q10520, .ref q10521, .ref q10522, .ref q10523, .ref q10524, .ref q10525, .int p10529, .int p10530, .int p10531])), (q10517, .inl (I .int, 40, .inl f10533)), (q10518, .inl (I .int, 40, .inl f10534)), (q10519, .inl (I .int, 40, .inl f10535)), (q10520, .inl (I .int, 200, .inl f10536)), (q10521, .inl (I .int, 200, .inl f10537)), (q10522, .inl (I .int, 200, .inl f10538)), (q10523, .inl (I .int, 200, .inl f10539)), (q10524, .inl (I .int, 200, .inl f10540)), (q10525, .inl (I .int, 200, .inl f10541)), (q10514, .inr (9, [.ref q10516, .int o10570])), (q10516, .inl (I .byte, 16384, .inl f10571))]) (cs' := 0) (sl' := 0) rfl rfl rfl ?_
    refine G_aload_n 0 d_cX4_addEnd_17 rfl ?_
    refine G_aload_n 1 d_cX4_addEnd_18 rfl ?_
    refine G_getfN 0 5 d_cX4_addEnd_19 rfl (gk_X0 D I) (Nat.le_of_ble_eq_true rfl) (fun _ _ _ h => gn_w 23 rfl h) rfl ?_
    refine G_iload_n 3 d_cX4_addEnd_22 rfl ?_
    refine G_iald 6 0 d_cX4_addEnd_23 rfl rfl (gB_in bp10527 (by decide) (by decide)) (G_nam fun z10572 hz10572 => ?_)
    have bz10572 : gB z10572 (-2147483648) 2147483647 := gB_any z10572
    refine G_aload_n 1 d_cX4_addEnd_24 rfl ?_
    refine G_getfN 0 6 d_cX4_addEnd_25 rfl (gk_X0 D I) (Nat.le_of_ble_eq_true rfl) (fun _ _ _ h => gn_w 27 rfl h) rfl ?_
    refine G_iload_n 3 d_cX4_addEnd_28 rfl ?_
    refine G_iald 7 0 d_cX4_addEnd_29 rfl rfl (gB_in bp10527 (by decide) (by decide)) (G_nam fun z10573 hz10573 => ?_)
    have bz10573 : gB z10573 (-2147483648) 2147483647 := gB_any z10573
    refine G_callV (As := [.int z10572, .int z10573]) (wr := [(q10515, .inr (5, [.ref q10517, .ref q10518, .ref q10519, .ref q10520, .ref q10521, .ref q10522, .ref q10523, .ref q10524, .ref q10525, .int p10529, .int p10530, .int p10531])), (q10517, .inl (I .int, 40, .inl f10533)), (q10518, .inl (I .int, 40, .inl f10534)), (q10519, .inl (I .int, 40, .inl f10535)), (q10520, .inl (I .int, 200, .inl f10536)), (q10521, .inl (I .int, 200, .inl f10537)), (q10522, .inl (I .int, 200, .inl f10538)), (q10523, .inl (I .int, 200, .inl f10539)), (q10524, .inl (I .int, 200, .inl f10540)), (q10525, .inl (I .int, 200, .inl f10541))]) (gV_ok D I) (ct_10422_Listing_addOperand l hl0 D I q10514 q10516 z10572 z10573 o10570 f10571 bo10570 bf10571) d_cX4_addEnd_30 ⟨w_6_191, w_1_13, w_6_194, by decide, rfl, (Nat.le_of_ble_eq_true rfl), (Nat.le_of_ble_eq_true rfl)⟩ w_6_193 w_p_69 10 rfl rfl [10, 11] [0, 1, 2, 3, 4, 5, 6, 7, 8, 9] rfl rfl rfl rfl (by decide) (Nat.le_of_ble_eq_true rfl) (Nat.le_of_ble_eq_true rfl) (Nat.le_of_ble_eq_true rfl) (fun r w hp => ?_) (fun _ _ _ z => z.elim)
    obtain ⟨o10574, f10575, rfl, rfl, bo10574, bf10575⟩ := hp
    change G _ _ _ _ _ _ _ _ _ _ _
    refine G_ws (ws' := [(q10515, .inr (5, [.ref q10517, .ref q10518, .ref q10519, .ref q10520, .ref q10521, .ref q10522, .ref q10523, .ref q10524, .ref q10525, .int p10529, .int p10530, .int p10531])), (q10517, .inl (I .int, 40, .inl f10533)), (q10518, .inl (I .int, 40, .inl f10534)), (q10519, .inl (I .int, 40, .inl f10535)), (q10520, .inl (I .int, 200, .inl f10536)), (q10521, .inl (I .int, 200, .inl f10537)), (q10522, .inl (I .int, 200, .inl f10538)), (q10523, .inl (I .int, 200, .inl f10539)), (q10524, .inl (I .int, 200, .inl f10540)), (q10525, .inl (I .int, 200, .inl f10541)), (q10514, .inr (9, [.ref q10516, .int o10574])), (q10516, .inl (I .byte, 16384, .inl f10575))]) (cs' := 0) (sl' := 0) rfl rfl rfl ?_
    refine G_goto 108 d_cX4_addEnd_33 (by decide +kernel) ?_
    refine G_sub (ws' := [(q10514, .inr (9, [.ref q10516, .int o10574])), (q10515, .inr (5, [.ref q10517, .ref q10518, .ref q10519, .ref q10520, .ref q10521, .ref q10522, .ref q10523, .ref q10524, .ref q10525, .int p10529, .int p10530, .int p10531])), (q10516, .inl (I .byte, 16384, .inl f10575)), (q10517, .inl (I .int, 40, .inl f10533)), (q10518, .inl (I .int, 40, .inl f10534)), (q10519, .inl (I .int, 40, .inl f10535)), (q10520, .inl (I .int, 200, .inl f10536)), (q10521, .inl (I .int, 200, .inl f10537)), (q10522, .inl (I .int, 200, .inl f10538)), (q10523, .inl (I .int, 200, .inl f10539)), (q10524, .inl (I .int, 200, .inl f10540)), (q10525, .inl (I .int, 200, .inl f10541))]) [10, 0, 11, 1, 2, 3, 4, 5, 6, 7, 8, 9] rfl rfl ?_
    exact G_vret d_cX4_addEnd_108 rfl (Nat.le_of_ble_eq_true rfl) (Nat.le_of_ble_eq_true rfl) ⟨o10574, f10575, rfl, rfl, bo10574, bf10575⟩
abbrev ky_7569_Listing_write : gKey := (cX4_write, 4, yX4_write.cls, none, [], yX4_write.name, fun _ _ => True)
abbrev po_7569_Listing_write (I : FieldType → ClassId) (q7543 : Nat) (q7544 : Nat) (q7545 : Nat) (q7546 : Nat) (q7547 : Nat) (q7548 : Nat) (q7549 : Nat) (q7550 : Nat) (q7551 : Nat) (q7552 : Nat) (q7553 : Nat) (q7554 : Nat) (p7555 : Int32) (p7556 : Int32) (p7557 : Int32) (p7558 : Int32) (f7559 : Nat → Int32) (f7560 : Nat → Int32) (f7561 : Nat → Int32) (f7562 : Nat → Int32) (f7563 : Nat → Int32) (f7564 : Nat → Int32) (f7565 : Nat → Int32) (f7566 : Nat → Int32) (f7567 : Nat → Int32) (f7568 : Nat → Int32) : Option Value → va_W → Prop := fun r w => ∃ (o11696 : Int32) (f11697 : Nat → Int32), r = none ∧ w = [(q7543, .inr (9, [.ref q7545, .int o11696])), (q7544, .inr (5, [.ref q7546, .ref q7547, .ref q7548, .ref q7549, .ref q7550, .ref q7551, .ref q7552, .ref q7553, .ref q7554, .int p7556, .int p7557, .int p7558])), (q7545, .inl (I .byte, 16384, .inl f11697)), (q7546, .inl (I .int, 40, .inl f7560)), (q7547, .inl (I .int, 40, .inl f7561)), (q7548, .inl (I .int, 40, .inl f7562)), (q7549, .inl (I .int, 200, .inl f7563)), (q7550, .inl (I .int, 200, .inl f7564)), (q7551, .inl (I .int, 200, .inl f7565)), (q7552, .inl (I .int, 200, .inl f7566)), (q7553, .inl (I .int, 200, .inl f7567)), (q7554, .inl (I .int, 200, .inl f7568))] ∧ gB o11696 0 16384 ∧ gF f11697 (-128) 127
set_option maxRecDepth 100000 in
set_option maxHeartbeats 4000000 in
theorem ct_7569_Listing_write (l : Launch) (hl0 : l.stackTraces = false) (D : va_G) (I : FieldType → ClassId) (q7543 : Nat) (q7544 : Nat) (q7545 : Nat) (q7546 : Nat) (q7547 : Nat) (q7548 : Nat) (q7549 : Nat) (q7550 : Nat) (q7551 : Nat) (q7552 : Nat) (q7553 : Nat) (q7554 : Nat) (p7555 : Int32) (p7556 : Int32) (p7557 : Int32) (p7558 : Int32) (f7559 : Nat → Int32) (f7560 : Nat → Int32) (f7561 : Nat → Int32) (f7562 : Nat → Int32) (f7563 : Nat → Int32) (f7564 : Nat → Int32) (f7565 : Nat → Int32) (f7566 : Nat → Int32) (f7567 : Nat → Int32) (f7568 : Nat → Int32) (bp7555 : gB p7555 0 16384) (bp7556 : gB p7556 0 40) (bp7557 : gB p7557 0 200) (bp7558 : gB p7558 0 1) (bf7559 : gF f7559 (-128) 127) (bf7560 : gF f7560 0 200) (bf7563 : gF f7563 0 21) : Ct (gV D I) l yX4_write cX4_write 4 none 9 195 0 0 [.ref q7543, .ref q7544] [(q7543, .inr (9, [.ref q7545, .int p7555])), (q7544, .inr (5, [.ref q7546, .ref q7547, .ref q7548, .ref q7549, .ref q7550, .ref q7551, .ref q7552, .ref q7553, .ref q7554, .int p7556, .int p7557, .int p7558])), (q7545, .inl (I .byte, 16384, .inl f7559)), (q7546, .inl (I .int, 40, .inl f7560)), (q7547, .inl (I .int, 40, .inl f7561)), (q7548, .inl (I .int, 40, .inl f7562)), (q7549, .inl (I .int, 200, .inl f7563)), (q7550, .inl (I .int, 200, .inl f7564)), (q7551, .inl (I .int, 200, .inl f7565)), (q7552, .inl (I .int, 200, .inl f7566)), (q7553, .inl (I .int, 200, .inl f7567)), (q7554, .inl (I .int, 200, .inl f7568))] (po_7569_Listing_write I q7543 q7544 q7545 q7546 q7547 q7548 q7549 q7550 q7551 q7552 q7553 q7554 p7555 p7556 p7557 p7558 f7559 f7560 f7561 f7562 f7563 f7564 f7565 f7566 f7567 f7568) gN := by
  refine Ct_of hl0 (by decide) (Nat.le_of_ble_eq_true rfl) ?_
  refine G_aload_n 0 d_cX4_write_0 rfl ?_
  refine G_iconst 0 d_cX4_write_1 (by decide +kernel) ?_
  refine G_putf (ws' := [(q7543, .inr (9, [.ref q7545, .int 0])), (q7544, .inr (5, [.ref q7546, .ref q7547, .ref q7548, .ref q7549, .ref q7550, .ref q7551, .ref q7552, .ref q7553, .ref q7554, .int p7556, .int p7557, .int p7558])), (q7545, .inl (I .byte, 16384, .inl f7559)), (q7546, .inl (I .int, 40, .inl f7560)), (q7547, .inl (I .int, 40, .inl f7561)), (q7548, .inl (I .int, 40, .inl f7562)), (q7549, .inl (I .int, 200, .inl f7563)), (q7550, .inl (I .int, 200, .inl f7564)), (q7551, .inl (I .int, 200, .inl f7565)), (q7552, .inl (I .int, 200, .inl f7566)), (q7553, .inl (I .int, 200, .inl f7567)), (q7554, .inl (I .int, 200, .inl f7568))]) 0 1 d_cX4_write_2 rfl (gk_X4 D I) (Nat.le_of_ble_eq_true rfl) w_2_201 rfl rfl rfl (Nat.le_of_ble_eq_true rfl) rfl ?_
  refine G_iconst 0 d_cX4_write_5 (by decide +kernel) ?_
  refine G_istore_n (L' := [(2, .int 0), (0, .ref q7543), (1, .ref q7544)]) d_cX4_write_6 (Nat.le_of_ble_eq_true rfl) rfl ?_
  have hlp7_11532 : ∀ (n7_11532 : Nat) (g11530 : Int32) (g11531 : Int32) (f11532 : Nat → Int32), gB g11530 0 40 → gB g11531 0 16384 → gF f11532 (-128) 127 → ((41 : Int) - g11530.toInt).toNat < n7_11532 → G (gV D I) l (gRm 9 195 0 0) (gM (gV D I) (po_7569_Listing_write I q7543 q7544 q7545 q7546 q7547 q7548 q7549 q7550 q7551 q7552 q7553 q7554 p7555 p7556 p7557 p7558 f7559 f7560 f7561 f7562 f7563 f7564 f7565 f7566 f7567 f7568) gN 0 0) ky_7569_Listing_write 7 [(2, .int g11530), (0, .ref q7543), (1, .ref q7544)] [] [(q7543, .inr (9, [.ref q7545, .int g11531])), (q7544, .inr (5, [.ref q7546, .ref q7547, .ref q7548, .ref q7549, .ref q7550, .ref q7551, .ref q7552, .ref q7553, .ref q7554, .int p7556, .int p7557, .int p7558])), (q7545, .inl (I .byte, 16384, .inl f11532)), (q7546, .inl (I .int, 40, .inl f7560)), (q7547, .inl (I .int, 40, .inl f7561)), (q7548, .inl (I .int, 40, .inl f7562)), (q7549, .inl (I .int, 200, .inl f7563)), (q7550, .inl (I .int, 200, .inl f7564)), (q7551, .inl (I .int, 200, .inl f7565)), (q7552, .inl (I .int, 200, .inl f7566)), (q7553, .inl (I .int, 200, .inl f7567)), (q7554, .inl (I .int, 200, .inl f7568))] 0 0 := by
    intro n7_11532
    induction n7_11532 with
    | zero => intro g11530 g11531 f11532 bg11530 bg11531 bf11532 hm7_11532; exact absurd hm7_11532 (Nat.not_lt_zero _)
    | succ n7_11532 ih7_11532 =>
      intro g11530 g11531 f11532 bg11530 bg11531 bf11532 hm7_11532
      refine G_iload_n 0 d_cX4_write_7 rfl ?_
      refine G_aload_n 2 d_cX4_write_8 rfl ?_
      refine G_getfN 1 9 d_cX4_write_9 rfl (gk_X0 D I) (Nat.le_of_ble_eq_true rfl) (fun _ _ _ h => gn_w 39 rfl h) rfl ?_
      refine G_icmp_ge 89 d_cX4_write_12 (by decide +kernel) (fun hc11533 => ?_) (fun hc11533 => ?_)
      · have r11534 : p7556.toInt ≤ g11530.toInt := gC_le hc11533
        exact G_vret d_cX4_write_89 rfl (Nat.le_of_ble_eq_true rfl) (Nat.le_of_ble_eq_true rfl) ⟨g11531, f11532, rfl, rfl, bg11531, bf11532⟩
      · have r11535 : g11530.toInt < p7556.toInt := gC_nle hc11533
        have bg11530' : gB g11530 0 39 := ⟨by omega, by omega⟩
        have bp7556' : gB p7556 1 40 := ⟨by omega, by omega⟩
        refine G_aload_n 1 d_cX4_write_15 rfl ?_
        refine G_ldcK (a := D.2 1000 18) d_cX4_write_16 (fun _ _ _ h => gx_vk 18 rfl rfl h) ?_
        have hl18_11535 : (sb_18.length : Int) = 1 := rfl
        refine G_iload_n 0 d_cX4_write_18 rfl ?_
        refine G_callV (As := [.ref (D.2 1000 18), .int g11530]) (wr := [(q7544, .inr (5, [.ref q7546, .ref q7547, .ref q7548, .ref q7549, .ref q7550, .ref q7551, .ref q7552, .ref q7553, .ref q7554, .int p7556, .int p7557, .int p7558])), (q7546, .inl (I .int, 40, .inl f7560)), (q7547, .inl (I .int, 40, .inl f7561)), (q7548, .inl (I .int, 40, .inl f7562)), (q7549, .inl (I .int, 200, .inl f7563)), (q7550, .inl (I .int, 200, .inl f7564)), (q7551, .inl (I .int, 200, .inl f7565)), (q7552, .inl (I .int, 200, .inl f7566)), (q7553, .inl (I .int, 200, .inl f7567)), (q7554, .inl (I .int, 200, .inl f7568))]) (gV_ok D I) (ct_7582_Listing_addNamed l hl0 D I q7543 q7545 (D.2 1000 18) (D.2 1001 18) sb_18 g11530 g11531 f11532 (gx_sc 18 rfl rfl) (by omega) bg11531 bf11532) d_cX4_write_19 ⟨w_6_161, w_1_13, w_6_164, by decide, rfl, (Nat.le_of_ble_eq_true rfl), (Nat.le_of_ble_eq_true rfl)⟩ w_6_163 w_p_64 0 rfl rfl [0, 2] [1, 3, 4, 5, 6, 7, 8, 9, 10, 11] rfl rfl rfl rfl (by decide) (Nat.le_of_ble_eq_true rfl) (Nat.le_of_ble_eq_true rfl) (Nat.le_of_ble_eq_true rfl) (fun r w hp => ?_) (fun _ _ _ z => z.elim)
        obtain ⟨o11537, f11538, rfl, rfl, bo11537, bf11538⟩ := hp
        change G _ _ _ _ _ _ _ _ _ _ _
        refine G_ws (ws' := [(q7544, .inr (5, [.ref q7546, .ref q7547, .ref q7548, .ref q7549, .ref q7550, .ref q7551, .ref q7552, .ref q7553, .ref q7554, .int p7556, .int p7557, .int p7558])), (q7546, .inl (I .int, 40, .inl f7560)), (q7547, .inl (I .int, 40, .inl f7561)), (q7548, .inl (I .int, 40, .inl f7562)), (q7549, .inl (I .int, 200, .inl f7563)), (q7550, .inl (I .int, 200, .inl f7564)), (q7551, .inl (I .int, 200, .inl f7565)), (q7552, .inl (I .int, 200, .inl f7566)), (q7553, .inl (I .int, 200, .inl f7567)), (q7554, .inl (I .int, 200, .inl f7568)), (q7543, .inr (9, [.ref q7545, .int o11537])), (q7545, .inl (I .byte, 16384, .inl f11538))]) (cs' := 0) (sl' := 0) rfl rfl rfl ?_
        refine G_aload_n 1 d_cX4_write_22 rfl ?_
        refine G_ldcK (a := D.2 1000 19) d_cX4_write_23 (fun _ _ _ h => gx_vk 19 rfl rfl h) ?_
        have hl19_11538 : (sb_19.length : Int) = 2 := rfl
        refine G_callV (As := [.ref (D.2 1000 19)]) (wr := [(q7544, .inr (5, [.ref q7546, .ref q7547, .ref q7548, .ref q7549, .ref q7550, .ref q7551, .ref q7552, .ref q7553, .ref q7554, .int p7556, .int p7557, .int p7558])), (q7546, .inl (I .int, 40, .inl f7560)), (q7547, .inl (I .int, 40, .inl f7561)), (q7548, .inl (I .int, 40, .inl f7562)), (q7549, .inl (I .int, 200, .inl f7563)), (q7550, .inl (I .int, 200, .inl f7564)), (q7551, .inl (I .int, 200, .inl f7565)), (q7552, .inl (I .int, 200, .inl f7566)), (q7553, .inl (I .int, 200, .inl f7567)), (q7554, .inl (I .int, 200, .inl f7568))]) (gV_ok D I) (ct_7590_Listing_addText l hl0 D I q7543 q7545 (D.2 1000 19) (D.2 1001 19) sb_19 o11537 f11538 (gx_sc 19 rfl rfl) (by omega) bo11537 bf11538) d_cX4_write_25 ⟨w_6_165, w_1_13, w_6_168, by decide, rfl, (Nat.le_of_ble_eq_true rfl), (Nat.le_of_ble_eq_true rfl)⟩ w_6_167 w_p_65 10 rfl rfl [10, 11] [0, 1, 2, 3, 4, 5, 6, 7, 8, 9] rfl rfl rfl rfl (by decide) (Nat.le_of_ble_eq_true rfl) (Nat.le_of_ble_eq_true rfl) (Nat.le_of_ble_eq_true rfl) (fun r w hp => ?_) (fun _ _ _ z => z.elim)
        obtain ⟨o11540, f11541, rfl, rfl, bo11540, bf11541⟩ := hp
        change G _ _ _ _ _ _ _ _ _ _ _
        refine G_ws (ws' := [(q7544, .inr (5, [.ref q7546, .ref q7547, .ref q7548, .ref q7549, .ref q7550, .ref q7551, .ref q7552, .ref q7553, .ref q7554, .int p7556, .int p7557, .int p7558])), (q7546, .inl (I .int, 40, .inl f7560)), (q7547, .inl (I .int, 40, .inl f7561)), (q7548, .inl (I .int, 40, .inl f7562)), (q7549, .inl (I .int, 200, .inl f7563)), (q7550, .inl (I .int, 200, .inl f7564)), (q7551, .inl (I .int, 200, .inl f7565)), (q7552, .inl (I .int, 200, .inl f7566)), (q7553, .inl (I .int, 200, .inl f7567)), (q7554, .inl (I .int, 200, .inl f7568)), (q7543, .inr (9, [.ref q7545, .int o11540])), (q7545, .inl (I .byte, 16384, .inl f11541))]) (cs' := 0) (sl' := 0) rfl rfl rfl ?_
        refine G_aload_n 2 d_cX4_write_28 rfl ?_
        refine G_getfN 0 0 d_cX4_write_29 rfl (gk_X0 D I) (Nat.le_of_ble_eq_true rfl) (fun _ _ _ h => gn_w 3 rfl h) rfl ?_
        refine G_iload_n 0 d_cX4_write_32 rfl ?_
        refine G_iald 1 0 d_cX4_write_33 rfl rfl (gB_in bg11530' (by decide) (by decide)) (G_nam fun z11542 hz11542 => ?_)
        have bz11542 : gB z11542 0 200 := by rw [hz11542]; exact bf7560 _
        refine G_istore_n (L' := [(3, .int z11542), (2, .int g11530), (0, .ref q7543), (1, .ref q7544)]) d_cX4_write_34 (Nat.le_of_ble_eq_true rfl) rfl ?_
        have hlp35_11646 : ∀ (n35_11646 : Nat) (g11644 : Int32) (g11645 : Int32) (f11646 : Nat → Int32), gB g11644 0 200 → gB g11645 0 16384 → gF f11646 (-128) 127 → ((201 : Int) - g11644.toInt).toNat < n35_11646 → G (gV D I) l (gRm 9 195 0 0) (gM (gV D I) (po_7569_Listing_write I q7543 q7544 q7545 q7546 q7547 q7548 q7549 q7550 q7551 q7552 q7553 q7554 p7555 p7556 p7557 p7558 f7559 f7560 f7561 f7562 f7563 f7564 f7565 f7566 f7567 f7568) gN 0 0) ky_7569_Listing_write 35 [(3, .int g11644), (2, .int g11530), (0, .ref q7543), (1, .ref q7544)] [] [(q7544, .inr (5, [.ref q7546, .ref q7547, .ref q7548, .ref q7549, .ref q7550, .ref q7551, .ref q7552, .ref q7553, .ref q7554, .int p7556, .int p7557, .int p7558])), (q7546, .inl (I .int, 40, .inl f7560)), (q7547, .inl (I .int, 40, .inl f7561)), (q7548, .inl (I .int, 40, .inl f7562)), (q7549, .inl (I .int, 200, .inl f7563)), (q7550, .inl (I .int, 200, .inl f7564)), (q7551, .inl (I .int, 200, .inl f7565)), (q7552, .inl (I .int, 200, .inl f7566)), (q7553, .inl (I .int, 200, .inl f7567)), (q7554, .inl (I .int, 200, .inl f7568)), (q7543, .inr (9, [.ref q7545, .int g11645])), (q7545, .inl (I .byte, 16384, .inl f11646))] 0 0 := by
          intro n35_11646
          induction n35_11646 with
          | zero => intro g11644 g11645 f11646 bg11644 bg11645 bf11646 hm35_11646; exact absurd hm35_11646 (Nat.not_lt_zero _)
          | succ n35_11646 ih35_11646 =>
            intro g11644 g11645 f11646 bg11644 bg11645 bf11646 hm35_11646
            refine G_iload_n 0 d_cX4_write_35 rfl ?_
            refine G_aload_n 3 d_cX4_write_36 rfl ?_
            refine G_iload_n 1 d_cX4_write_37 rfl ?_
            refine G_callV (As := [.int g11530]) (wr := [(q7543, .inr (9, [.ref q7545, .int g11645])), (q7545, .inl (I .byte, 16384, .inl f11646))]) (gV_ok D I) (ct_752_Code_blockEnd l hl0 D I q7544 q7546 q7547 q7548 q7549 q7550 q7551 q7552 q7553 q7554 g11530 p7556 p7557 p7558 f7560 f7561 f7562 f7563 f7564 f7565 f7566 f7567 f7568 bg11530' (gB_w bp7556' (by decide) (by decide)) bp7557 bp7558 bf7560 bf7563) d_cX4_write_38 ⟨w_6_185, w_1_5, w_4_38, by decide, rfl, (Nat.le_of_ble_eq_true rfl), (Nat.le_of_ble_eq_true rfl)⟩ w_4_36 w_4_37 0 rfl rfl [0, 1, 2, 3, 4, 5, 6, 7, 8, 9] [10, 11] rfl rfl rfl rfl (by decide) (Nat.le_of_ble_eq_true rfl) (Nat.le_of_ble_eq_true rfl) (Nat.le_of_ble_eq_true rfl) (fun r w hp => ?_) (fun _ _ _ z => z.elim)
            rcases hp with ⟨z11647, rfl, rfl, r11648, r11649, r11650⟩ | ⟨z11651, z11652, z11653, rfl, rfl, r11654, r11655, r11656, hz11651, r11657, r11658, r11659⟩
            · change G _ _ _ _ _ _ _ (.int p7557 :: _) _ _ _
              refine G_ws (ws' := [(q7543, .inr (9, [.ref q7545, .int g11645])), (q7545, .inl (I .byte, 16384, .inl f11646)), (q7544, .inr (5, [.ref q7546, .ref q7547, .ref q7548, .ref q7549, .ref q7550, .ref q7551, .ref q7552, .ref q7553, .ref q7554, .int p7556, .int p7557, .int p7558])), (q7546, .inl (I .int, 40, .inl f7560)), (q7547, .inl (I .int, 40, .inl f7561)), (q7548, .inl (I .int, 40, .inl f7562)), (q7549, .inl (I .int, 200, .inl f7563)), (q7550, .inl (I .int, 200, .inl f7564)), (q7551, .inl (I .int, 200, .inl f7565)), (q7552, .inl (I .int, 200, .inl f7566)), (q7553, .inl (I .int, 200, .inl f7567)), (q7554, .inl (I .int, 200, .inl f7568))]) (cs' := 0) (sl' := 0) rfl rfl rfl ?_
              refine G_icmp_ge 83 d_cX4_write_41 (by decide +kernel) (fun hc11660 => ?_) (fun hc11660 => ?_)
              · have r11661 : p7557.toInt ≤ g11644.toInt := gC_le hc11660
                obtain ⟨z11662, hz11662⟩ : ∃ z : Int32, z = g11530 + Int32.ofInt 1 := ⟨_, rfl⟩
                have ez11662 : z11662.toInt = g11530.toInt + 1 := gI_inc hz11662 (by decide) bg11530' (by decide) (by decide)
                have bz11662 : gB z11662 1 40 := ⟨by omega, by omega⟩
                refine G_iinc (L' := [(2, .int z11662), (3, .int g11644), (0, .ref q7543), (1, .ref q7544)]) z11662 1 d_cX4_write_83 rfl hz11662.symm (Nat.le_of_ble_eq_true rfl) rfl ?_
                refine G_goto 7 d_cX4_write_86 (by decide +kernel) ?_
                refine G_lv (L' := [(2, .int z11662), (0, .ref q7543), (1, .ref q7544)]) [0, 2, 3] rfl ?_
                refine G_sub (ws' := [(q7543, .inr (9, [.ref q7545, .int g11645])), (q7544, .inr (5, [.ref q7546, .ref q7547, .ref q7548, .ref q7549, .ref q7550, .ref q7551, .ref q7552, .ref q7553, .ref q7554, .int p7556, .int p7557, .int p7558])), (q7545, .inl (I .byte, 16384, .inl f11646)), (q7546, .inl (I .int, 40, .inl f7560)), (q7547, .inl (I .int, 40, .inl f7561)), (q7548, .inl (I .int, 40, .inl f7562)), (q7549, .inl (I .int, 200, .inl f7563)), (q7550, .inl (I .int, 200, .inl f7564)), (q7551, .inl (I .int, 200, .inl f7565)), (q7552, .inl (I .int, 200, .inl f7566)), (q7553, .inl (I .int, 200, .inl f7567)), (q7554, .inl (I .int, 200, .inl f7568))]) [0, 2, 1, 3, 4, 5, 6, 7, 8, 9, 10, 11] rfl rfl ?_
                exact ih7_11532 z11662 g11645 f11646 (gB_w bz11662 (by decide) (by decide)) bg11645 bf11646 (by omega)
              · have r11663 : g11644.toInt < p7557.toInt := gC_nle hc11660
                have bg11644' : gB g11644 0 199 := ⟨by omega, by omega⟩
                have bp7557' : gB p7557 1 200 := ⟨by omega, by omega⟩
                refine G_aload_n 3 d_cX4_write_44 rfl ?_
                refine G_getfN 2 3 d_cX4_write_45 rfl (gk_X0 D I) (Nat.le_of_ble_eq_true rfl) (fun _ _ _ h => gn_w 15 rfl h) rfl ?_
                refine G_iload_n 0 d_cX4_write_48 rfl ?_
                refine G_iald 6 0 d_cX4_write_49 rfl rfl (gB_in bg11644' (by decide) (by decide)) (G_nam fun z11664 hz11664 => ?_)
                have bz11664 : gB z11664 0 21 := by rw [hz11664]; exact bf7563 _
                refine G_bipush 19 d_cX4_write_50 (by decide +kernel) ?_
                refine G_icmp_lt 65 d_cX4_write_52 (by decide +kernel) (fun hc11665 => ?_) (fun hc11665 => ?_)
                · have r11666 : z11664.toInt < 19 := gj_lt hc11665 (show Int32.toInt 19 = 19 by decide)
                  have bz11664' : gB z11664 0 18 := ⟨by omega, by omega⟩
                  refine G_aload_n 2 d_cX4_write_65 rfl ?_
                  refine G_aload_n 3 d_cX4_write_66 rfl ?_
                  refine G_iload_n 0 d_cX4_write_67 rfl ?_
                  refine G_callV (As := [.ref q7544, .int g11644]) (wr := []) (gV_ok D I) (ct_10368_Listing_addRow l hl0 D I q7543 q7544 q7545 q7546 q7547 q7548 q7549 q7550 q7551 q7552 q7553 q7554 g11644 g11645 p7556 p7557 p7558 f11646 f7560 f7561 f7562 f7563 f7564 f7565 f7566 f7567 f7568 bg11644' bg11645 (gB_w bp7556' (by decide) (by decide)) (gB_w bp7557' (by decide) (by decide)) bp7558 bf11646 bf7560 bf7563) d_cX4_write_68 ⟨w_6_199, w_1_13, w_6_202, by decide, rfl, (Nat.le_of_ble_eq_true rfl), (Nat.le_of_ble_eq_true rfl)⟩ w_6_201 w_p_70 0 rfl rfl [0, 2, 1, 3, 4, 5, 6, 7, 8, 9, 10, 11] [] rfl rfl rfl rfl (by decide) (Nat.le_of_ble_eq_true rfl) (Nat.le_of_ble_eq_true rfl) (Nat.le_of_ble_eq_true rfl) (fun r w hp => ?_) (fun _ _ _ z => z.elim)
                  obtain ⟨o11667, f11668, rfl, rfl, bo11667, bf11668⟩ := hp
                  change G _ _ _ _ _ _ _ _ _ _ _
                  refine G_ws (ws' := [(q7543, .inr (9, [.ref q7545, .int o11667])), (q7544, .inr (5, [.ref q7546, .ref q7547, .ref q7548, .ref q7549, .ref q7550, .ref q7551, .ref q7552, .ref q7553, .ref q7554, .int p7556, .int p7557, .int p7558])), (q7545, .inl (I .byte, 16384, .inl f11668)), (q7546, .inl (I .int, 40, .inl f7560)), (q7547, .inl (I .int, 40, .inl f7561)), (q7548, .inl (I .int, 40, .inl f7562)), (q7549, .inl (I .int, 200, .inl f7563)), (q7550, .inl (I .int, 200, .inl f7564)), (q7551, .inl (I .int, 200, .inl f7565)), (q7552, .inl (I .int, 200, .inl f7566)), (q7553, .inl (I .int, 200, .inl f7567)), (q7554, .inl (I .int, 200, .inl f7568))]) (cs' := 0) (sl' := 0) rfl rfl rfl ?_
                  refine G_aload_n 2 d_cX4_write_71 rfl ?_
                  refine G_bipush 10 d_cX4_write_72 (by decide +kernel) ?_
                  refine G_callV (As := [.int 10]) (wr := [(q7544, .inr (5, [.ref q7546, .ref q7547, .ref q7548, .ref q7549, .ref q7550, .ref q7551, .ref q7552, .ref q7553, .ref q7554, .int p7556, .int p7557, .int p7558])), (q7546, .inl (I .int, 40, .inl f7560)), (q7547, .inl (I .int, 40, .inl f7561)), (q7548, .inl (I .int, 40, .inl f7562)), (q7549, .inl (I .int, 200, .inl f7563)), (q7550, .inl (I .int, 200, .inl f7564)), (q7551, .inl (I .int, 200, .inl f7565)), (q7552, .inl (I .int, 200, .inl f7566)), (q7553, .inl (I .int, 200, .inl f7567)), (q7554, .inl (I .int, 200, .inl f7568))]) (gV_ok D I) (ct_7602_Listing_addByte l hl0 D I q7543 q7545 10 o11667 f11668 (gB_w (gBl (show Int32.toInt 10 = 10 by decide)) (by decide) (by decide)) bo11667 bf11668) d_cX4_write_74 ⟨w_6_171, w_1_13, w_6_174, by decide, rfl, (Nat.le_of_ble_eq_true rfl), (Nat.le_of_ble_eq_true rfl)⟩ w_6_173 w_p_66 0 rfl rfl [0, 2] [1, 3, 4, 5, 6, 7, 8, 9, 10, 11] rfl rfl rfl rfl (by decide) (Nat.le_of_ble_eq_true rfl) (Nat.le_of_ble_eq_true rfl) (Nat.le_of_ble_eq_true rfl) (fun r w hp => ?_) (fun _ _ _ z => z.elim)
                  obtain ⟨o11669, f11670, rfl, rfl, bo11669, bf11670⟩ := hp
                  change G _ _ _ _ _ _ _ _ _ _ _
                  refine G_ws (ws' := [(q7544, .inr (5, [.ref q7546, .ref q7547, .ref q7548, .ref q7549, .ref q7550, .ref q7551, .ref q7552, .ref q7553, .ref q7554, .int p7556, .int p7557, .int p7558])), (q7546, .inl (I .int, 40, .inl f7560)), (q7547, .inl (I .int, 40, .inl f7561)), (q7548, .inl (I .int, 40, .inl f7562)), (q7549, .inl (I .int, 200, .inl f7563)), (q7550, .inl (I .int, 200, .inl f7564)), (q7551, .inl (I .int, 200, .inl f7565)), (q7552, .inl (I .int, 200, .inl f7566)), (q7553, .inl (I .int, 200, .inl f7567)), (q7554, .inl (I .int, 200, .inl f7568)), (q7543, .inr (9, [.ref q7545, .int o11669])), (q7545, .inl (I .byte, 16384, .inl f11670))]) (cs' := 0) (sl' := 0) rfl rfl rfl ?_
                  obtain ⟨z11671, hz11671⟩ : ∃ z : Int32, z = g11644 + Int32.ofInt 1 := ⟨_, rfl⟩
                  have ez11671 : z11671.toInt = g11644.toInt + 1 := gI_inc hz11671 (by decide) bg11644' (by decide) (by decide)
                  have bz11671 : gB z11671 1 200 := ⟨by omega, by omega⟩
                  refine G_iinc (L' := [(3, .int z11671), (2, .int g11530), (0, .ref q7543), (1, .ref q7544)]) z11671 0 d_cX4_write_77 rfl hz11671.symm (Nat.le_of_ble_eq_true rfl) rfl ?_
                  refine G_goto 35 d_cX4_write_80 (by decide +kernel) ?_
                  exact ih35_11646 z11671 o11669 f11670 (gB_w bz11671 (by decide) (by decide)) (gB_w bo11669 (by decide) (by decide)) bf11670 (by omega)
                · have r11672 : 19 ≤ z11664.toInt := gj_nlt hc11665 (show Int32.toInt 19 = 19 by decide)
                  have bz11664' : gB z11664 19 21 := ⟨by omega, by omega⟩
                  refine G_aload_n 2 d_cX4_write_55 rfl ?_
                  refine G_aload_n 3 d_cX4_write_56 rfl ?_
                  refine G_iload_n 1 d_cX4_write_57 rfl ?_
                  refine G_iload_n 0 d_cX4_write_58 rfl ?_
                  refine G_callV (As := [.ref q7544, .int g11530, .int g11644]) (wr := []) (gV_ok D I) (ct_10542_Listing_addEnd l hl0 D I q7543 q7544 q7545 q7546 q7547 q7548 q7549 q7550 q7551 q7552 q7553 q7554 g11530 g11644 g11645 p7556 p7557 p7558 f11646 f7560 f7561 f7562 f7563 f7564 f7565 f7566 f7567 f7568 bg11530' bg11644' bg11645 (gB_w bp7556' (by decide) (by decide)) (gB_w bp7557' (by decide) (by decide)) bp7558 bf11646 bf7560 bf7563) d_cX4_write_59 ⟨w_6_186, w_1_13, w_6_189, by decide, rfl, (Nat.le_of_ble_eq_true rfl), (Nat.le_of_ble_eq_true rfl)⟩ w_6_188 w_p_68 0 rfl rfl [0, 2, 1, 3, 4, 5, 6, 7, 8, 9, 10, 11] [] rfl rfl rfl rfl (by decide) (Nat.le_of_ble_eq_true rfl) (Nat.le_of_ble_eq_true rfl) (Nat.le_of_ble_eq_true rfl) (fun r w hp => ?_) (fun _ _ _ z => z.elim)
                  obtain ⟨o11673, f11674, rfl, rfl, bo11673, bf11674⟩ := hp
                  change G _ _ _ _ _ _ _ _ _ _ _
                  refine G_ws (ws' := [(q7543, .inr (9, [.ref q7545, .int o11673])), (q7544, .inr (5, [.ref q7546, .ref q7547, .ref q7548, .ref q7549, .ref q7550, .ref q7551, .ref q7552, .ref q7553, .ref q7554, .int p7556, .int p7557, .int p7558])), (q7545, .inl (I .byte, 16384, .inl f11674)), (q7546, .inl (I .int, 40, .inl f7560)), (q7547, .inl (I .int, 40, .inl f7561)), (q7548, .inl (I .int, 40, .inl f7562)), (q7549, .inl (I .int, 200, .inl f7563)), (q7550, .inl (I .int, 200, .inl f7564)), (q7551, .inl (I .int, 200, .inl f7565)), (q7552, .inl (I .int, 200, .inl f7566)), (q7553, .inl (I .int, 200, .inl f7567)), (q7554, .inl (I .int, 200, .inl f7568))]) (cs' := 0) (sl' := 0) rfl rfl rfl ?_
                  refine G_goto 71 d_cX4_write_62 (by decide +kernel) ?_
                  refine G_aload_n 2 d_cX4_write_71 rfl ?_
                  refine G_bipush 10 d_cX4_write_72 (by decide +kernel) ?_
                  refine G_callV (As := [.int 10]) (wr := [(q7544, .inr (5, [.ref q7546, .ref q7547, .ref q7548, .ref q7549, .ref q7550, .ref q7551, .ref q7552, .ref q7553, .ref q7554, .int p7556, .int p7557, .int p7558])), (q7546, .inl (I .int, 40, .inl f7560)), (q7547, .inl (I .int, 40, .inl f7561)), (q7548, .inl (I .int, 40, .inl f7562)), (q7549, .inl (I .int, 200, .inl f7563)), (q7550, .inl (I .int, 200, .inl f7564)), (q7551, .inl (I .int, 200, .inl f7565)), (q7552, .inl (I .int, 200, .inl f7566)), (q7553, .inl (I .int, 200, .inl f7567)), (q7554, .inl (I .int, 200, .inl f7568))]) (gV_ok D I) (ct_7602_Listing_addByte l hl0 D I q7543 q7545 10 o11673 f11674 (gB_w (gBl (show Int32.toInt 10 = 10 by decide)) (by decide) (by decide)) bo11673 bf11674) d_cX4_write_74 ⟨w_6_171, w_1_13, w_6_174, by decide, rfl, (Nat.le_of_ble_eq_true rfl), (Nat.le_of_ble_eq_true rfl)⟩ w_6_173 w_p_66 0 rfl rfl [0, 2] [1, 3, 4, 5, 6, 7, 8, 9, 10, 11] rfl rfl rfl rfl (by decide) (Nat.le_of_ble_eq_true rfl) (Nat.le_of_ble_eq_true rfl) (Nat.le_of_ble_eq_true rfl) (fun r w hp => ?_) (fun _ _ _ z => z.elim)
                  obtain ⟨o11675, f11676, rfl, rfl, bo11675, bf11676⟩ := hp
                  change G _ _ _ _ _ _ _ _ _ _ _
                  refine G_ws (ws' := [(q7544, .inr (5, [.ref q7546, .ref q7547, .ref q7548, .ref q7549, .ref q7550, .ref q7551, .ref q7552, .ref q7553, .ref q7554, .int p7556, .int p7557, .int p7558])), (q7546, .inl (I .int, 40, .inl f7560)), (q7547, .inl (I .int, 40, .inl f7561)), (q7548, .inl (I .int, 40, .inl f7562)), (q7549, .inl (I .int, 200, .inl f7563)), (q7550, .inl (I .int, 200, .inl f7564)), (q7551, .inl (I .int, 200, .inl f7565)), (q7552, .inl (I .int, 200, .inl f7566)), (q7553, .inl (I .int, 200, .inl f7567)), (q7554, .inl (I .int, 200, .inl f7568)), (q7543, .inr (9, [.ref q7545, .int o11675])), (q7545, .inl (I .byte, 16384, .inl f11676))]) (cs' := 0) (sl' := 0) rfl rfl rfl ?_
                  obtain ⟨z11677, hz11677⟩ : ∃ z : Int32, z = g11644 + Int32.ofInt 1 := ⟨_, rfl⟩
                  have ez11677 : z11677.toInt = g11644.toInt + 1 := gI_inc hz11677 (by decide) bg11644' (by decide) (by decide)
                  have bz11677 : gB z11677 1 200 := ⟨by omega, by omega⟩
                  refine G_iinc (L' := [(3, .int z11677), (2, .int g11530), (0, .ref q7543), (1, .ref q7544)]) z11677 0 d_cX4_write_77 rfl hz11677.symm (Nat.le_of_ble_eq_true rfl) rfl ?_
                  refine G_goto 35 d_cX4_write_80 (by decide +kernel) ?_
                  exact ih35_11646 z11677 o11675 f11676 (gB_w bz11677 (by decide) (by decide)) (gB_w bo11675 (by decide) (by decide)) bf11676 (by omega)
            · have bp7556'' : gB p7556 2 40 := ⟨by omega, by omega⟩
              change G _ _ _ _ _ _ _ (.int z11651 :: _) _ _ _
              refine G_ws (ws' := [(q7543, .inr (9, [.ref q7545, .int g11645])), (q7545, .inl (I .byte, 16384, .inl f11646)), (q7544, .inr (5, [.ref q7546, .ref q7547, .ref q7548, .ref q7549, .ref q7550, .ref q7551, .ref q7552, .ref q7553, .ref q7554, .int p7556, .int p7557, .int p7558])), (q7546, .inl (I .int, 40, .inl f7560)), (q7547, .inl (I .int, 40, .inl f7561)), (q7548, .inl (I .int, 40, .inl f7562)), (q7549, .inl (I .int, 200, .inl f7563)), (q7550, .inl (I .int, 200, .inl f7564)), (q7551, .inl (I .int, 200, .inl f7565)), (q7552, .inl (I .int, 200, .inl f7566)), (q7553, .inl (I .int, 200, .inl f7567)), (q7554, .inl (I .int, 200, .inl f7568))]) (cs' := 0) (sl' := 0) rfl rfl rfl ?_
              refine G_icmp_ge 83 d_cX4_write_41 (by decide +kernel) (fun hc11678 => ?_) (fun hc11678 => ?_)
              · have r11679 : z11651.toInt ≤ g11644.toInt := gC_le hc11678
                obtain ⟨z11680, hz11680⟩ : ∃ z : Int32, z = g11530 + Int32.ofInt 1 := ⟨_, rfl⟩
                have ez11680 : z11680.toInt = g11530.toInt + 1 := gI_inc hz11680 (by decide) bg11530' (by decide) (by decide)
                have bz11680 : gB z11680 1 40 := ⟨by omega, by omega⟩
                refine G_iinc (L' := [(2, .int z11680), (3, .int g11644), (0, .ref q7543), (1, .ref q7544)]) z11680 1 d_cX4_write_83 rfl hz11680.symm (Nat.le_of_ble_eq_true rfl) rfl ?_
                refine G_goto 7 d_cX4_write_86 (by decide +kernel) ?_
                refine G_lv (L' := [(2, .int z11680), (0, .ref q7543), (1, .ref q7544)]) [0, 2, 3] rfl ?_
                refine G_sub (ws' := [(q7543, .inr (9, [.ref q7545, .int g11645])), (q7544, .inr (5, [.ref q7546, .ref q7547, .ref q7548, .ref q7549, .ref q7550, .ref q7551, .ref q7552, .ref q7553, .ref q7554, .int p7556, .int p7557, .int p7558])), (q7545, .inl (I .byte, 16384, .inl f11646)), (q7546, .inl (I .int, 40, .inl f7560)), (q7547, .inl (I .int, 40, .inl f7561)), (q7548, .inl (I .int, 40, .inl f7562)), (q7549, .inl (I .int, 200, .inl f7563)), (q7550, .inl (I .int, 200, .inl f7564)), (q7551, .inl (I .int, 200, .inl f7565)), (q7552, .inl (I .int, 200, .inl f7566)), (q7553, .inl (I .int, 200, .inl f7567)), (q7554, .inl (I .int, 200, .inl f7568))]) [0, 2, 1, 3, 4, 5, 6, 7, 8, 9, 10, 11] rfl rfl ?_
                exact ih7_11532 z11680 g11645 f11646 (gB_w bz11680 (by decide) (by decide)) bg11645 bf11646 (by omega)
              · have r11681 : g11644.toInt < z11651.toInt := gC_nle hc11678
                have bg11644' : gB g11644 0 199 := ⟨by omega, by omega⟩
                have r11657' : gB z11651 1 200 := ⟨by omega, by omega⟩
                refine G_aload_n 3 d_cX4_write_44 rfl ?_
                refine G_getfN 2 3 d_cX4_write_45 rfl (gk_X0 D I) (Nat.le_of_ble_eq_true rfl) (fun _ _ _ h => gn_w 15 rfl h) rfl ?_
                refine G_iload_n 0 d_cX4_write_48 rfl ?_
                refine G_iald 6 0 d_cX4_write_49 rfl rfl (gB_in bg11644' (by decide) (by decide)) (G_nam fun z11682 hz11682 => ?_)
                have bz11682 : gB z11682 0 21 := by rw [hz11682]; exact bf7563 _
                refine G_bipush 19 d_cX4_write_50 (by decide +kernel) ?_
                refine G_icmp_lt 65 d_cX4_write_52 (by decide +kernel) (fun hc11683 => ?_) (fun hc11683 => ?_)
                · have r11684 : z11682.toInt < 19 := gj_lt hc11683 (show Int32.toInt 19 = 19 by decide)
                  have bz11682' : gB z11682 0 18 := ⟨by omega, by omega⟩
                  refine G_aload_n 2 d_cX4_write_65 rfl ?_
                  refine G_aload_n 3 d_cX4_write_66 rfl ?_
                  refine G_iload_n 0 d_cX4_write_67 rfl ?_
                  refine G_callV (As := [.ref q7544, .int g11644]) (wr := []) (gV_ok D I) (ct_10368_Listing_addRow l hl0 D I q7543 q7544 q7545 q7546 q7547 q7548 q7549 q7550 q7551 q7552 q7553 q7554 g11644 g11645 p7556 p7557 p7558 f11646 f7560 f7561 f7562 f7563 f7564 f7565 f7566 f7567 f7568 bg11644' bg11645 (gB_w bp7556'' (by decide) (by decide)) bp7557 bp7558 bf11646 bf7560 bf7563) d_cX4_write_68 ⟨w_6_199, w_1_13, w_6_202, by decide, rfl, (Nat.le_of_ble_eq_true rfl), (Nat.le_of_ble_eq_true rfl)⟩ w_6_201 w_p_70 0 rfl rfl [0, 2, 1, 3, 4, 5, 6, 7, 8, 9, 10, 11] [] rfl rfl rfl rfl (by decide) (Nat.le_of_ble_eq_true rfl) (Nat.le_of_ble_eq_true rfl) (Nat.le_of_ble_eq_true rfl) (fun r w hp => ?_) (fun _ _ _ z => z.elim)
                  obtain ⟨o11685, f11686, rfl, rfl, bo11685, bf11686⟩ := hp
                  change G _ _ _ _ _ _ _ _ _ _ _
                  refine G_ws (ws' := [(q7543, .inr (9, [.ref q7545, .int o11685])), (q7544, .inr (5, [.ref q7546, .ref q7547, .ref q7548, .ref q7549, .ref q7550, .ref q7551, .ref q7552, .ref q7553, .ref q7554, .int p7556, .int p7557, .int p7558])), (q7545, .inl (I .byte, 16384, .inl f11686)), (q7546, .inl (I .int, 40, .inl f7560)), (q7547, .inl (I .int, 40, .inl f7561)), (q7548, .inl (I .int, 40, .inl f7562)), (q7549, .inl (I .int, 200, .inl f7563)), (q7550, .inl (I .int, 200, .inl f7564)), (q7551, .inl (I .int, 200, .inl f7565)), (q7552, .inl (I .int, 200, .inl f7566)), (q7553, .inl (I .int, 200, .inl f7567)), (q7554, .inl (I .int, 200, .inl f7568))]) (cs' := 0) (sl' := 0) rfl rfl rfl ?_
                  refine G_aload_n 2 d_cX4_write_71 rfl ?_
                  refine G_bipush 10 d_cX4_write_72 (by decide +kernel) ?_
                  refine G_callV (As := [.int 10]) (wr := [(q7544, .inr (5, [.ref q7546, .ref q7547, .ref q7548, .ref q7549, .ref q7550, .ref q7551, .ref q7552, .ref q7553, .ref q7554, .int p7556, .int p7557, .int p7558])), (q7546, .inl (I .int, 40, .inl f7560)), (q7547, .inl (I .int, 40, .inl f7561)), (q7548, .inl (I .int, 40, .inl f7562)), (q7549, .inl (I .int, 200, .inl f7563)), (q7550, .inl (I .int, 200, .inl f7564)), (q7551, .inl (I .int, 200, .inl f7565)), (q7552, .inl (I .int, 200, .inl f7566)), (q7553, .inl (I .int, 200, .inl f7567)), (q7554, .inl (I .int, 200, .inl f7568))]) (gV_ok D I) (ct_7602_Listing_addByte l hl0 D I q7543 q7545 10 o11685 f11686 (gB_w (gBl (show Int32.toInt 10 = 10 by decide)) (by decide) (by decide)) bo11685 bf11686) d_cX4_write_74 ⟨w_6_171, w_1_13, w_6_174, by decide, rfl, (Nat.le_of_ble_eq_true rfl), (Nat.le_of_ble_eq_true rfl)⟩ w_6_173 w_p_66 0 rfl rfl [0, 2] [1, 3, 4, 5, 6, 7, 8, 9, 10, 11] rfl rfl rfl rfl (by decide) (Nat.le_of_ble_eq_true rfl) (Nat.le_of_ble_eq_true rfl) (Nat.le_of_ble_eq_true rfl) (fun r w hp => ?_) (fun _ _ _ z => z.elim)
                  obtain ⟨o11687, f11688, rfl, rfl, bo11687, bf11688⟩ := hp
                  change G _ _ _ _ _ _ _ _ _ _ _
                  refine G_ws (ws' := [(q7544, .inr (5, [.ref q7546, .ref q7547, .ref q7548, .ref q7549, .ref q7550, .ref q7551, .ref q7552, .ref q7553, .ref q7554, .int p7556, .int p7557, .int p7558])), (q7546, .inl (I .int, 40, .inl f7560)), (q7547, .inl (I .int, 40, .inl f7561)), (q7548, .inl (I .int, 40, .inl f7562)), (q7549, .inl (I .int, 200, .inl f7563)), (q7550, .inl (I .int, 200, .inl f7564)), (q7551, .inl (I .int, 200, .inl f7565)), (q7552, .inl (I .int, 200, .inl f7566)), (q7553, .inl (I .int, 200, .inl f7567)), (q7554, .inl (I .int, 200, .inl f7568)), (q7543, .inr (9, [.ref q7545, .int o11687])), (q7545, .inl (I .byte, 16384, .inl f11688))]) (cs' := 0) (sl' := 0) rfl rfl rfl ?_
                  obtain ⟨z11689, hz11689⟩ : ∃ z : Int32, z = g11644 + Int32.ofInt 1 := ⟨_, rfl⟩
                  have ez11689 : z11689.toInt = g11644.toInt + 1 := gI_inc hz11689 (by decide) bg11644' (by decide) (by decide)
                  have bz11689 : gB z11689 1 200 := ⟨by omega, by omega⟩
                  refine G_iinc (L' := [(3, .int z11689), (2, .int g11530), (0, .ref q7543), (1, .ref q7544)]) z11689 0 d_cX4_write_77 rfl hz11689.symm (Nat.le_of_ble_eq_true rfl) rfl ?_
                  refine G_goto 35 d_cX4_write_80 (by decide +kernel) ?_
                  exact ih35_11646 z11689 o11687 f11688 (gB_w bz11689 (by decide) (by decide)) (gB_w bo11687 (by decide) (by decide)) bf11688 (by omega)
                · have r11690 : 19 ≤ z11682.toInt := gj_nlt hc11683 (show Int32.toInt 19 = 19 by decide)
                  have bz11682' : gB z11682 19 21 := ⟨by omega, by omega⟩
                  refine G_aload_n 2 d_cX4_write_55 rfl ?_
                  refine G_aload_n 3 d_cX4_write_56 rfl ?_
                  refine G_iload_n 1 d_cX4_write_57 rfl ?_
                  refine G_iload_n 0 d_cX4_write_58 rfl ?_
                  refine G_callV (As := [.ref q7544, .int g11530, .int g11644]) (wr := []) (gV_ok D I) (ct_10542_Listing_addEnd l hl0 D I q7543 q7544 q7545 q7546 q7547 q7548 q7549 q7550 q7551 q7552 q7553 q7554 g11530 g11644 g11645 p7556 p7557 p7558 f11646 f7560 f7561 f7562 f7563 f7564 f7565 f7566 f7567 f7568 bg11530' bg11644' bg11645 (gB_w bp7556'' (by decide) (by decide)) bp7557 bp7558 bf11646 bf7560 bf7563) d_cX4_write_59 ⟨w_6_186, w_1_13, w_6_189, by decide, rfl, (Nat.le_of_ble_eq_true rfl), (Nat.le_of_ble_eq_true rfl)⟩ w_6_188 w_p_68 0 rfl rfl [0, 2, 1, 3, 4, 5, 6, 7, 8, 9, 10, 11] [] rfl rfl rfl rfl (by decide) (Nat.le_of_ble_eq_true rfl) (Nat.le_of_ble_eq_true rfl) (Nat.le_of_ble_eq_true rfl) (fun r w hp => ?_) (fun _ _ _ z => z.elim)
                  obtain ⟨o11691, f11692, rfl, rfl, bo11691, bf11692⟩ := hp
                  change G _ _ _ _ _ _ _ _ _ _ _
                  refine G_ws (ws' := [(q7543, .inr (9, [.ref q7545, .int o11691])), (q7544, .inr (5, [.ref q7546, .ref q7547, .ref q7548, .ref q7549, .ref q7550, .ref q7551, .ref q7552, .ref q7553, .ref q7554, .int p7556, .int p7557, .int p7558])), (q7545, .inl (I .byte, 16384, .inl f11692)), (q7546, .inl (I .int, 40, .inl f7560)), (q7547, .inl (I .int, 40, .inl f7561)), (q7548, .inl (I .int, 40, .inl f7562)), (q7549, .inl (I .int, 200, .inl f7563)), (q7550, .inl (I .int, 200, .inl f7564)), (q7551, .inl (I .int, 200, .inl f7565)), (q7552, .inl (I .int, 200, .inl f7566)), (q7553, .inl (I .int, 200, .inl f7567)), (q7554, .inl (I .int, 200, .inl f7568))]) (cs' := 0) (sl' := 0) rfl rfl rfl ?_
                  refine G_goto 71 d_cX4_write_62 (by decide +kernel) ?_
                  refine G_aload_n 2 d_cX4_write_71 rfl ?_
                  refine G_bipush 10 d_cX4_write_72 (by decide +kernel) ?_
                  refine G_callV (As := [.int 10]) (wr := [(q7544, .inr (5, [.ref q7546, .ref q7547, .ref q7548, .ref q7549, .ref q7550, .ref q7551, .ref q7552, .ref q7553, .ref q7554, .int p7556, .int p7557, .int p7558])), (q7546, .inl (I .int, 40, .inl f7560)), (q7547, .inl (I .int, 40, .inl f7561)), (q7548, .inl (I .int, 40, .inl f7562)), (q7549, .inl (I .int, 200, .inl f7563)), (q7550, .inl (I .int, 200, .inl f7564)), (q7551, .inl (I .int, 200, .inl f7565)), (q7552, .inl (I .int, 200, .inl f7566)), (q7553, .inl (I .int, 200, .inl f7567)), (q7554, .inl (I .int, 200, .inl f7568))]) (gV_ok D I) (ct_7602_Listing_addByte l hl0 D I q7543 q7545 10 o11691 f11692 (gB_w (gBl (show Int32.toInt 10 = 10 by decide)) (by decide) (by decide)) bo11691 bf11692) d_cX4_write_74 ⟨w_6_171, w_1_13, w_6_174, by decide, rfl, (Nat.le_of_ble_eq_true rfl), (Nat.le_of_ble_eq_true rfl)⟩ w_6_173 w_p_66 0 rfl rfl [0, 2] [1, 3, 4, 5, 6, 7, 8, 9, 10, 11] rfl rfl rfl rfl (by decide) (Nat.le_of_ble_eq_true rfl) (Nat.le_of_ble_eq_true rfl) (Nat.le_of_ble_eq_true rfl) (fun r w hp => ?_) (fun _ _ _ z => z.elim)
                  obtain ⟨o11693, f11694, rfl, rfl, bo11693, bf11694⟩ := hp
                  change G _ _ _ _ _ _ _ _ _ _ _
                  refine G_ws (ws' := [(q7544, .inr (5, [.ref q7546, .ref q7547, .ref q7548, .ref q7549, .ref q7550, .ref q7551, .ref q7552, .ref q7553, .ref q7554, .int p7556, .int p7557, .int p7558])), (q7546, .inl (I .int, 40, .inl f7560)), (q7547, .inl (I .int, 40, .inl f7561)), (q7548, .inl (I .int, 40, .inl f7562)), (q7549, .inl (I .int, 200, .inl f7563)), (q7550, .inl (I .int, 200, .inl f7564)), (q7551, .inl (I .int, 200, .inl f7565)), (q7552, .inl (I .int, 200, .inl f7566)), (q7553, .inl (I .int, 200, .inl f7567)), (q7554, .inl (I .int, 200, .inl f7568)), (q7543, .inr (9, [.ref q7545, .int o11693])), (q7545, .inl (I .byte, 16384, .inl f11694))]) (cs' := 0) (sl' := 0) rfl rfl rfl ?_
                  obtain ⟨z11695, hz11695⟩ : ∃ z : Int32, z = g11644 + Int32.ofInt 1 := ⟨_, rfl⟩
                  have ez11695 : z11695.toInt = g11644.toInt + 1 := gI_inc hz11695 (by decide) bg11644' (by decide) (by decide)
                  have bz11695 : gB z11695 1 200 := ⟨by omega, by omega⟩
                  refine G_iinc (L' := [(3, .int z11695), (2, .int g11530), (0, .ref q7543), (1, .ref q7544)]) z11695 0 d_cX4_write_77 rfl hz11695.symm (Nat.le_of_ble_eq_true rfl) rfl ?_
                  refine G_goto 35 d_cX4_write_80 (by decide +kernel) ?_
                  exact ih35_11646 z11695 o11693 f11694 (gB_w bz11695 (by decide) (by decide)) (gB_w bo11693 (by decide) (by decide)) bf11694 (by omega)
        exact hlp35_11646 (((201 : Int) - z11542.toInt).toNat + 1) z11542 o11540 f11541 bz11542 bo11540 bf11541 (Nat.lt_succ_self _)
  exact hlp7_11532 (((41 : Int) - 0).toNat + 1) 0 0 f7559 (gB_w (gBl (show Int32.toInt 0 = 0 by decide)) (by decide) (by decide)) (gB_w (gBl (show Int32.toInt 0 = 0 by decide)) (by decide) (by decide)) bf7559 (Nat.lt_succ_self _)
