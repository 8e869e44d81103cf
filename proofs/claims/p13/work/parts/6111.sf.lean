theorem d_cX4_eightFrom_0 : decode cX4_eightFrom 0 = .ok (.lconst 0, 1) := by decide +kernel
theorem d_cX4_eightFrom_1 : decode cX4_eightFrom 1 = .ok (.lstore_n 2, 1) := by decide +kernel
theorem d_cX4_eightFrom_2 : decode cX4_eightFrom 2 = .ok (.iload_n 1, 1) := by decide +kernel
theorem d_cX4_eightFrom_3 : decode cX4_eightFrom 3 = .ok (.istore 4, 2) := by decide +kernel
theorem d_cX4_eightFrom_5 : decode cX4_eightFrom 5 = .ok (.iload 4, 2) := by decide +kernel
theorem d_cX4_eightFrom_7 : decode cX4_eightFrom 7 = .ok (.iload_n 1, 1) := by decide +kernel
theorem d_cX4_eightFrom_8 : decode cX4_eightFrom 8 = .ok (.bipush 8, 2) := by decide +kernel
theorem d_cX4_eightFrom_10 : decode cX4_eightFrom 10 = .ok (.iadd, 1) := by decide +kernel
theorem d_cX4_eightFrom_11 : decode cX4_eightFrom 11 = .ok (.if_icmp .ge 45, 3) := by decide +kernel
theorem d_cX4_eightFrom_56 : decode cX4_eightFrom 56 = .ok (.lload_n 2, 1) := by decide +kernel
theorem d_cX4_eightFrom_57 : decode cX4_eightFrom 57 = .ok (.lreturn, 1) := by decide +kernel
theorem d_cX4_eightFrom_14 : decode cX4_eightFrom 14 = .ok (.lload_n 2, 1) := by decide +kernel
theorem d_cX4_eightFrom_15 : decode cX4_eightFrom 15 = .ok (.bipush 8, 2) := by decide +kernel
theorem d_cX4_eightFrom_17 : decode cX4_eightFrom 17 = .ok (.lshl, 1) := by decide +kernel
theorem d_cX4_eightFrom_18 : decode cX4_eightFrom 18 = .ok (.iload 4, 2) := by decide +kernel
theorem d_cX4_eightFrom_20 : decode cX4_eightFrom 20 = .ok (.ifCond .lt 26, 3) := by decide +kernel
theorem d_cX4_eightFrom_46 : decode cX4_eightFrom 46 = .ok (.iconst 0, 1) := by decide +kernel
theorem d_cX4_eightFrom_47 : decode cX4_eightFrom 47 = .ok (.i2l, 1) := by decide +kernel
theorem d_cX4_eightFrom_48 : decode cX4_eightFrom 48 = .ok (.lor, 1) := by decide +kernel
theorem d_cX4_eightFrom_49 : decode cX4_eightFrom 49 = .ok (.lstore_n 2, 1) := by decide +kernel
theorem d_cX4_eightFrom_50 : decode cX4_eightFrom 50 = .ok (.iinc 4 1, 3) := by decide +kernel
theorem d_cX4_eightFrom_53 : decode cX4_eightFrom 53 = .ok (.goto (-48), 3) := by decide +kernel
theorem d_cX4_eightFrom_23 : decode cX4_eightFrom 23 = .ok (.iload 4, 2) := by decide +kernel
theorem d_cX4_eightFrom_25 : decode cX4_eightFrom 25 = .ok (.aload_n 0, 1) := by decide +kernel
theorem d_cX4_eightFrom_26 : decode cX4_eightFrom 26 = .ok (.getfield 15, 3) := by decide +kernel
theorem w_2_201 : (Jvm.Cond.fieldLink "SpillForge$Listing" (15 : Nat) "SpillForge$Listing" "size" "I") ∈ gw := gw_2 201 rfl rfl
theorem d_cX4_eightFrom_29 : decode cX4_eightFrom 29 = .ok (.if_icmp .ge 17, 3) := by decide +kernel
theorem d_cX4_eightFrom_32 : decode cX4_eightFrom 32 = .ok (.aload_n 0, 1) := by decide +kernel
theorem d_cX4_eightFrom_33 : decode cX4_eightFrom 33 = .ok (.getfield 9, 3) := by decide +kernel
theorem w_2_200 : (Jvm.Cond.fieldLink "SpillForge$Listing" (9 : Nat) "SpillForge$Listing" "bytes" "[B") ∈ gw := gw_2 200 rfl rfl
theorem d_cX4_eightFrom_36 : decode cX4_eightFrom 36 = .ok (.iload 4, 2) := by decide +kernel
theorem d_cX4_eightFrom_38 : decode cX4_eightFrom 38 = .ok (.baload, 1) := by decide +kernel
theorem d_cX4_eightFrom_39 : decode cX4_eightFrom 39 = .ok (.sipush 255, 3) := by decide +kernel
theorem d_cX4_eightFrom_42 : decode cX4_eightFrom 42 = .ok (.iand, 1) := by decide +kernel
theorem d_cX4_eightFrom_43 : decode cX4_eightFrom 43 = .ok (.goto 4, 3) := by decide +kernel
theorem d_cX4_addByte_0 : decode cX4_addByte 0 = .ok (.aload_n 0, 1) := by decide +kernel
theorem d_cX4_addByte_1 : decode cX4_addByte 1 = .ok (.getfield 15, 3) := by decide +kernel
theorem d_cX4_addByte_4 : decode cX4_addByte 4 = .ok (.aload_n 0, 1) := by decide +kernel
theorem d_cX4_addByte_5 : decode cX4_addByte 5 = .ok (.getfield 9, 3) := by decide +kernel
theorem d_cX4_addByte_8 : decode cX4_addByte 8 = .ok (.arraylength, 1) := by decide +kernel
theorem d_cX4_addByte_9 : decode cX4_addByte 9 = .ok (.if_icmp .ge 24, 3) := by decide +kernel
theorem d_cX4_addByte_33 : decode cX4_addByte 33 = .ok (.return_, 1) := by decide +kernel
theorem d_cX4_addByte_12 : decode cX4_addByte 12 = .ok (.aload_n 0, 1) := by decide +kernel
theorem d_cX4_addByte_13 : decode cX4_addByte 13 = .ok (.getfield 9, 3) := by decide +kernel
theorem d_cX4_addByte_16 : decode cX4_addByte 16 = .ok (.aload_n 0, 1) := by decide +kernel
theorem d_cX4_addByte_17 : decode cX4_addByte 17 = .ok (.getfield 15, 3) := by decide +kernel
theorem d_cX4_addByte_20 : decode cX4_addByte 20 = .ok (.iload_n 1, 1) := by decide +kernel
theorem d_cX4_addByte_21 : decode cX4_addByte 21 = .ok (.i2b, 1) := by decide +kernel
theorem d_cX4_addByte_22 : decode cX4_addByte 22 = .ok (.bastore, 1) := by decide +kernel
theorem d_cX4_addByte_23 : decode cX4_addByte 23 = .ok (.aload_n 0, 1) := by decide +kernel
theorem d_cX4_addByte_24 : decode cX4_addByte 24 = .ok (.dup, 1) := by decide +kernel
theorem d_cX4_addByte_25 : decode cX4_addByte 25 = .ok (.getfield 15, 3) := by decide +kernel
theorem d_cX4_addByte_28 : decode cX4_addByte 28 = .ok (.iconst 1, 1) := by decide +kernel
theorem d_cX4_addByte_29 : decode cX4_addByte 29 = .ok (.iadd, 1) := by decide +kernel
theorem d_cX4_addByte_30 : decode cX4_addByte 30 = .ok (.putfield 15, 3) := by decide +kernel
theorem d_cX4_addText_0 : decode cX4_addText 0 = .ok (.iconst 0, 1) := by decide +kernel
theorem d_cX4_addText_1 : decode cX4_addText 1 = .ok (.istore_n 2, 1) := by decide +kernel
theorem d_cX4_addText_2 : decode cX4_addText 2 = .ok (.iload_n 2, 1) := by decide +kernel
theorem d_cX4_addText_3 : decode cX4_addText 3 = .ok (.aload_n 1, 1) := by decide +kernel
theorem d_cX4_addText_4 : decode cX4_addText 4 = .ok (.invokevirtual 122, 3) := by decide +kernel
theorem w_6_169 : (Jvm.Cond.methodLink "SpillForge$Listing" (122 : Nat) ({ cls := "java/lang/String", name := "length", desc := "()I" } : Jvm.MethodName)) ∈ gw := gw_6 169 rfl rfl
theorem d_cX4_addText_7 : decode cX4_addText 7 = .ok (.if_icmp .ge 18, 3) := by decide +kernel
theorem d_cX4_addText_25 : decode cX4_addText 25 = .ok (.return_, 1) := by decide +kernel
theorem d_cX4_addText_10 : decode cX4_addText 10 = .ok (.aload_n 0, 1) := by decide +kernel
theorem d_cX4_addText_11 : decode cX4_addText 11 = .ok (.aload_n 1, 1) := by decide +kernel
theorem d_cX4_addText_12 : decode cX4_addText 12 = .ok (.iload_n 2, 1) := by decide +kernel
theorem d_cX4_addText_13 : decode cX4_addText 13 = .ok (.invokevirtual 113, 3) := by decide +kernel
theorem w_6_170 : (Jvm.Cond.methodLink "SpillForge$Listing" (113 : Nat) ({ cls := "java/lang/String", name := "charAt", desc := "(I)C" } : Jvm.MethodName)) ∈ gw := gw_6 170 rfl rfl
theorem d_cX4_addText_16 : decode cX4_addText 16 = .ok (.invokevirtual 55, 3) := by decide +kernel
theorem w_6_171 : (Jvm.Cond.methodLink "SpillForge$Listing" (55 : Nat) ({ cls := "SpillForge$Listing", name := "addByte", desc := "(C)V" } : Jvm.MethodName)) ∈ gw := gw_6 171 rfl rfl
theorem w_1_13 : (Jvm.Cond.initialized "SpillForge$Listing") ∈ gw := gw_1 13 rfl rfl
theorem w_6_174 : (Jvm.Cond.code ({ cls := "SpillForge$Listing", name := "addByte", desc := "(C)V" } : Jvm.MethodName) prog_6_method_13_code (2 : Nat) (Option.none : Option Jvm.ClassFile.FieldType)) ∈ gw := gw_6 174 rfl rfl
theorem w_6_173 : (Jvm.Cond.instanceMethod ({ cls := "SpillForge$Listing", name := "addByte", desc := "(C)V" } : Jvm.MethodName)) ∈ gw := gw_6 173 rfl rfl
theorem w_p_66 : Cond.selects "SpillForge$Listing" ⟨"SpillForge$Listing", "addByte", "(C)V"⟩ ⟨"SpillForge$Listing", "addByte", "(C)V"⟩ ∈ gw := gw_p _ 66 rfl rfl rfl
theorem d_cX4_addText_19 : decode cX4_addText 19 = .ok (.iinc 2 1, 3) := by decide +kernel
theorem d_cX4_addText_22 : decode cX4_addText 22 = .ok (.goto (-20), 3) := by decide +kernel
theorem d_cJ9_abs_067f4_0 : decode cJ9_abs_067f4 0 = .ok (.lload_n 0, 1) := by decide +kernel
theorem d_cJ9_abs_067f4_1 : decode cJ9_abs_067f4 1 = .ok (.lconst 0, 1) := by decide +kernel
theorem d_cJ9_abs_067f4_2 : decode cJ9_abs_067f4 2 = .ok (.lcmp, 1) := by decide +kernel
theorem d_cJ9_abs_067f4_3 : decode cJ9_abs_067f4 3 = .ok (.ifCond .ge 8, 3) := by decide +kernel
theorem d_cJ9_abs_067f4_11 : decode cJ9_abs_067f4 11 = .ok (.lload_n 0, 1) := by decide +kernel
theorem d_cJ9_abs_067f4_12 : decode cJ9_abs_067f4 12 = .ok (.lreturn, 1) := by decide +kernel
theorem d_cJ9_abs_067f4_6 : decode cJ9_abs_067f4 6 = .ok (.lload_n 0, 1) := by decide +kernel
theorem d_cJ9_abs_067f4_7 : decode cJ9_abs_067f4 7 = .ok (.lneg, 1) := by decide +kernel
theorem d_cJ9_abs_067f4_8 : decode cJ9_abs_067f4 8 = .ok (.goto 4, 3) := by decide +kernel
theorem d_cX4_addNumber_0 : decode cX4_addNumber 0 = .ok (.iload_n 1, 1) := by decide +kernel
theorem d_cX4_addNumber_1 : decode cX4_addNumber 1 = .ok (.ifCond .ge 9, 3) := by decide +kernel
theorem d_cX4_addNumber_10 : decode cX4_addNumber 10 = .ok (.iload_n 1, 1) := by decide +kernel
theorem d_cX4_addNumber_11 : decode cX4_addNumber 11 = .ok (.i2l, 1) := by decide +kernel
theorem d_cX4_addNumber_12 : decode cX4_addNumber 12 = .ok (.invokestatic 126, 3) := by decide +kernel
theorem w_6_179 : (Jvm.Cond.methodLink "SpillForge$Listing" (126 : Nat) ({ cls := "java/lang/Math", name := "abs", desc := "(J)J" } : Jvm.MethodName)) ∈ gw := gw_6 179 rfl rfl
theorem w_6_181 : (Jvm.Cond.code ({ cls := "java/lang/Math", name := "abs", desc := "(J)J" } : Jvm.MethodName) prog_32_method_61_code (2 : Nat) (Option.some Jvm.ClassFile.FieldType.long)) ∈ gw := gw_6 181 rfl rfl
theorem w_6_180 : (Jvm.Cond.static ({ cls := "java/lang/Math", name := "abs", desc := "(J)J" } : Jvm.MethodName)) ∈ gw := gw_6 180 rfl rfl
theorem d_cX4_addNumber_15 : decode cX4_addNumber 15 = .ok (.lstore_n 2, 1) := by decide +kernel
theorem d_cX4_addNumber_16 : decode cX4_addNumber 16 = .ok (.lconst 1, 1) := by decide +kernel
theorem d_cX4_addNumber_17 : decode cX4_addNumber 17 = .ok (.lstore 4, 2) := by decide +kernel
theorem d_cX4_addNumber_19 : decode cX4_addNumber 19 = .ok (.iconst 0, 1) := by decide +kernel
theorem d_cX4_addNumber_20 : decode cX4_addNumber 20 = .ok (.istore 6, 2) := by decide +kernel
theorem d_cX4_addNumber_22 : decode cX4_addNumber 22 = .ok (.iload 6, 2) := by decide +kernel
theorem d_cX4_addNumber_24 : decode cX4_addNumber 24 = .ok (.bipush 9, 2) := by decide +kernel
theorem d_cX4_addNumber_26 : decode cX4_addNumber 26 = .ok (.if_icmp .ge 28, 3) := by decide +kernel
theorem d_cX4_addNumber_54 : decode cX4_addNumber 54 = .ok (.iconst 0, 1) := by decide +kernel
theorem d_cX4_addNumber_55 : decode cX4_addNumber 55 = .ok (.istore 6, 2) := by decide +kernel
theorem d_cX4_addNumber_57 : decode cX4_addNumber 57 = .ok (.iload 6, 2) := by decide +kernel
theorem d_cX4_addNumber_59 : decode cX4_addNumber 59 = .ok (.bipush 10, 2) := by decide +kernel
theorem d_cX4_addNumber_61 : decode cX4_addNumber 61 = .ok (.if_icmp .ge 42, 3) := by decide +kernel
theorem d_cX4_addNumber_103 : decode cX4_addNumber 103 = .ok (.return_, 1) := by decide +kernel
theorem d_cX4_addNumber_64 : decode cX4_addNumber 64 = .ok (.lload 4, 2) := by decide +kernel
theorem d_cX4_addNumber_66 : decode cX4_addNumber 66 = .ok (.lconst 0, 1) := by decide +kernel
theorem d_cX4_addNumber_67 : decode cX4_addNumber 67 = .ok (.lcmp, 1) := by decide +kernel
theorem d_cX4_addNumber_68 : decode cX4_addNumber 68 = .ok (.ifCond .le 35, 3) := by decide +kernel
theorem d_cX4_addNumber_71 : decode cX4_addNumber 71 = .ok (.aload_n 0, 1) := by decide +kernel
theorem d_cX4_addNumber_72 : decode cX4_addNumber 72 = .ok (.ldc2_w 134, 3) := by decide +kernel
theorem w_6_183 : (Jvm.Cond.constantLong "SpillForge$Listing" (134 : Nat) (48 : Int64)) ∈ gw := gw_6 183 rfl rfl
theorem d_cX4_addNumber_75 : decode cX4_addNumber 75 = .ok (.lload_n 2, 1) := by decide +kernel
theorem d_cX4_addNumber_76 : decode cX4_addNumber 76 = .ok (.lload 4, 2) := by decide +kernel
theorem d_cX4_addNumber_78 : decode cX4_addNumber 78 = .ok (.ldiv, 1) := by decide +kernel
theorem d_cX4_addNumber_79 : decode cX4_addNumber 79 = .ok (.ldc2_w 132, 3) := by decide +kernel
theorem w_6_182 : (Jvm.Cond.constantLong "SpillForge$Listing" (132 : Nat) (10 : Int64)) ∈ gw := gw_6 182 rfl rfl
theorem d_cX4_addNumber_82 : decode cX4_addNumber 82 = .ok (.lrem, 1) := by decide +kernel
theorem d_cX4_addNumber_83 : decode cX4_addNumber 83 = .ok (.ladd, 1) := by decide +kernel
theorem d_cX4_addNumber_84 : decode cX4_addNumber 84 = .ok (.l2i, 1) := by decide +kernel
theorem d_cX4_addNumber_85 : decode cX4_addNumber 85 = .ok (.i2c, 1) := by decide +kernel
theorem d_cX4_addNumber_86 : decode cX4_addNumber 86 = .ok (.invokevirtual 55, 3) := by decide +kernel
theorem d_cX4_addNumber_89 : decode cX4_addNumber 89 = .ok (.lload 4, 2) := by decide +kernel
theorem d_cX4_addNumber_91 : decode cX4_addNumber 91 = .ok (.ldc2_w 132, 3) := by decide +kernel
theorem d_cX4_addNumber_94 : decode cX4_addNumber 94 = .ok (.ldiv, 1) := by decide +kernel
theorem d_cX4_addNumber_95 : decode cX4_addNumber 95 = .ok (.lstore 4, 2) := by decide +kernel
theorem d_cX4_addNumber_97 : decode cX4_addNumber 97 = .ok (.iinc 6 1, 3) := by decide +kernel
theorem d_cX4_addNumber_100 : decode cX4_addNumber 100 = .ok (.goto (-43), 3) := by decide +kernel
theorem d_cX4_addNumber_29 : decode cX4_addNumber 29 = .ok (.lload 4, 2) := by decide +kernel
theorem d_cX4_addNumber_31 : decode cX4_addNumber 31 = .ok (.lload_n 2, 1) := by decide +kernel
theorem d_cX4_addNumber_32 : decode cX4_addNumber 32 = .ok (.ldc2_w 132, 3) := by decide +kernel
theorem d_cX4_addNumber_35 : decode cX4_addNumber 35 = .ok (.ldiv, 1) := by decide +kernel
theorem d_cX4_addNumber_36 : decode cX4_addNumber 36 = .ok (.lcmp, 1) := by decide +kernel
theorem d_cX4_addNumber_37 : decode cX4_addNumber 37 = .ok (.ifCond .gt 17, 3) := by decide +kernel
theorem d_cX4_addNumber_40 : decode cX4_addNumber 40 = .ok (.lload 4, 2) := by decide +kernel
theorem d_cX4_addNumber_42 : decode cX4_addNumber 42 = .ok (.ldc2_w 132, 3) := by decide +kernel
theorem d_cX4_addNumber_45 : decode cX4_addNumber 45 = .ok (.lmul, 1) := by decide +kernel
theorem d_cX4_addNumber_46 : decode cX4_addNumber 46 = .ok (.lstore 4, 2) := by decide +kernel
theorem d_cX4_addNumber_48 : decode cX4_addNumber 48 = .ok (.iinc 6 1, 3) := by decide +kernel
theorem d_cX4_addNumber_51 : decode cX4_addNumber 51 = .ok (.goto (-29), 3) := by decide +kernel
theorem d_cX4_addNumber_4 : decode cX4_addNumber 4 = .ok (.aload_n 0, 1) := by decide +kernel
theorem d_cX4_addNumber_5 : decode cX4_addNumber 5 = .ok (.bipush 45, 2) := by decide +kernel
theorem d_cX4_addNumber_7 : decode cX4_addNumber 7 = .ok (.invokevirtual 55, 3) := by decide +kernel
theorem d_cX4_addNamed_0 : decode cX4_addNamed 0 = .ok (.aload_n 0, 1) := by decide +kernel
theorem d_cX4_addNamed_1 : decode cX4_addNamed 1 = .ok (.aload_n 1, 1) := by decide +kernel
theorem d_cX4_addNamed_2 : decode cX4_addNamed 2 = .ok (.invokevirtual 32, 3) := by decide +kernel
theorem w_6_165 : (Jvm.Cond.methodLink "SpillForge$Listing" (32 : Nat) ({ cls := "SpillForge$Listing", name := "addText", desc := "(Ljava/lang/String;)V" } : Jvm.MethodName)) ∈ gw := gw_6 165 rfl rfl
theorem w_6_168 : (Jvm.Cond.code ({ cls := "SpillForge$Listing", name := "addText", desc := "(Ljava/lang/String;)V" } : Jvm.MethodName) prog_6_method_11_code (3 : Nat) (Option.none : Option Jvm.ClassFile.FieldType)) ∈ gw := gw_6 168 rfl rfl
theorem w_6_167 : (Jvm.Cond.instanceMethod ({ cls := "SpillForge$Listing", name := "addText", desc := "(Ljava/lang/String;)V" } : Jvm.MethodName)) ∈ gw := gw_6 167 rfl rfl
theorem w_p_65 : Cond.selects "SpillForge$Listing" ⟨"SpillForge$Listing", "addText", "(Ljava/lang/String;)V"⟩ ⟨"SpillForge$Listing", "addText", "(Ljava/lang/String;)V"⟩ ∈ gw := gw_p _ 65 rfl rfl rfl
theorem d_cX4_addNamed_5 : decode cX4_addNamed 5 = .ok (.aload_n 0, 1) := by decide +kernel
theorem d_cX4_addNamed_6 : decode cX4_addNamed 6 = .ok (.iload_n 2, 1) := by decide +kernel
theorem d_cX4_addNamed_7 : decode cX4_addNamed 7 = .ok (.invokevirtual 119, 3) := by decide +kernel
theorem w_6_175 : (Jvm.Cond.methodLink "SpillForge$Listing" (119 : Nat) ({ cls := "SpillForge$Listing", name := "addNumber", desc := "(I)V" } : Jvm.MethodName)) ∈ gw := gw_6 175 rfl rfl
theorem w_6_178 : (Jvm.Cond.code ({ cls := "SpillForge$Listing", name := "addNumber", desc := "(I)V" } : Jvm.MethodName) prog_6_method_12_code (7 : Nat) (Option.none : Option Jvm.ClassFile.FieldType)) ∈ gw := gw_6 178 rfl rfl
theorem w_6_177 : (Jvm.Cond.instanceMethod ({ cls := "SpillForge$Listing", name := "addNumber", desc := "(I)V" } : Jvm.MethodName)) ∈ gw := gw_6 177 rfl rfl
theorem w_p_67 : Cond.selects "SpillForge$Listing" ⟨"SpillForge$Listing", "addNumber", "(I)V"⟩ ⟨"SpillForge$Listing", "addNumber", "(I)V"⟩ ∈ gw := gw_p _ 67 rfl rfl rfl
theorem d_cX4_addNamed_10 : decode cX4_addNamed 10 = .ok (.return_, 1) := by decide +kernel
theorem d_cX4_addOperand_0 : decode cX4_addOperand 0 = .ok (.iload_n 1, 1) := by decide +kernel
theorem d_cX4_addOperand_1 : decode cX4_addOperand 1 = .ok (.iconst (-1), 1) := by decide +kernel
theorem d_cX4_addOperand_2 : decode cX4_addOperand 2 = .ok (.if_icmp .ne 11, 3) := by decide +kernel
theorem d_cX4_addOperand_13 : decode cX4_addOperand 13 = .ok (.aload_n 0, 1) := by decide +kernel
theorem d_cX4_addOperand_14 : decode cX4_addOperand 14 = .ok (.ldc 92, 2) := by decide +kernel
theorem d_cX4_addOperand_16 : decode cX4_addOperand 16 = .ok (.iload_n 1, 1) := by decide +kernel
theorem d_cX4_addOperand_17 : decode cX4_addOperand 17 = .ok (.invokevirtual 26, 3) := by decide +kernel
theorem w_6_161 : (Jvm.Cond.methodLink "SpillForge$Listing" (26 : Nat) ({ cls := "SpillForge$Listing", name := "addNamed", desc := "(Ljava/lang/String;I)V" } : Jvm.MethodName)) ∈ gw := gw_6 161 rfl rfl
theorem w_6_164 : (Jvm.Cond.code ({ cls := "SpillForge$Listing", name := "addNamed", desc := "(Ljava/lang/String;I)V" } : Jvm.MethodName) prog_6_method_10_code (3 : Nat) (Option.none : Option Jvm.ClassFile.FieldType)) ∈ gw := gw_6 164 rfl rfl
theorem w_6_163 : (Jvm.Cond.instanceMethod ({ cls := "SpillForge$Listing", name := "addNamed", desc := "(Ljava/lang/String;I)V" } : Jvm.MethodName)) ∈ gw := gw_6 163 rfl rfl
theorem w_p_64 : Cond.selects "SpillForge$Listing" ⟨"SpillForge$Listing", "addNamed", "(Ljava/lang/String;I)V"⟩ ⟨"SpillForge$Listing", "addNamed", "(Ljava/lang/String;I)V"⟩ ∈ gw := gw_p _ 64 rfl rfl rfl
theorem d_cX4_addOperand_20 : decode cX4_addOperand 20 = .ok (.return_, 1) := by decide +kernel
theorem d_cX4_addOperand_5 : decode cX4_addOperand 5 = .ok (.aload_n 0, 1) := by decide +kernel
theorem d_cX4_addOperand_6 : decode cX4_addOperand 6 = .ok (.iload_n 2, 1) := by decide +kernel
theorem d_cX4_addOperand_7 : decode cX4_addOperand 7 = .ok (.invokevirtual 119, 3) := by decide +kernel
theorem d_cX4_addOperand_10 : decode cX4_addOperand 10 = .ok (.goto 10, 3) := by decide +kernel
theorem d_cX4_addOp_0 : decode cX4_addOp 0 = .ok (.aload_n 0, 1) := by decide +kernel
theorem d_cX4_addOp_1 : decode cX4_addOp 1 = .ok (.bipush 32, 2) := by decide +kernel
theorem d_cX4_addOp_3 : decode cX4_addOp 3 = .ok (.invokevirtual 55, 3) := by decide +kernel
theorem d_cX4_addOp_6 : decode cX4_addOp 6 = .ok (.aload_n 0, 1) := by decide +kernel
theorem d_cX4_addOp_7 : decode cX4_addOp 7 = .ok (.ldc 111, 2) := by decide +kernel
theorem d_cX4_addOp_9 : decode cX4_addOp 9 = .ok (.iconst 2, 1) := by decide +kernel
theorem d_cX4_addOp_10 : decode cX4_addOp 10 = .ok (.iload_n 1, 1) := by decide +kernel
theorem d_cX4_addOp_11 : decode cX4_addOp 11 = .ok (.imul, 1) := by decide +kernel
theorem d_cX4_addOp_12 : decode cX4_addOp 12 = .ok (.invokevirtual 113, 3) := by decide +kernel
theorem d_cX4_addOp_15 : decode cX4_addOp 15 = .ok (.invokevirtual 55, 3) := by decide +kernel
theorem d_cX4_addOp_18 : decode cX4_addOp 18 = .ok (.ldc 111, 2) := by decide +kernel
theorem d_cX4_addOp_20 : decode cX4_addOp 20 = .ok (.iconst 2, 1) := by decide +kernel
theorem d_cX4_addOp_21 : decode cX4_addOp 21 = .ok (.iload_n 1, 1) := by decide +kernel
theorem d_cX4_addOp_22 : decode cX4_addOp 22 = .ok (.imul, 1) := by decide +kernel
theorem d_cX4_addOp_23 : decode cX4_addOp 23 = .ok (.iconst 1, 1) := by decide +kernel
theorem d_cX4_addOp_24 : decode cX4_addOp 24 = .ok (.iadd, 1) := by decide +kernel
theorem d_cX4_addOp_25 : decode cX4_addOp 25 = .ok (.invokevirtual 113, 3) := by decide +kernel
theorem d_cX4_addOp_28 : decode cX4_addOp 28 = .ok (.bipush 32, 2) := by decide +kernel
theorem d_cX4_addOp_30 : decode cX4_addOp 30 = .ok (.if_icmp .eq 17, 3) := by decide +kernel
theorem d_cX4_addOp_47 : decode cX4_addOp 47 = .ok (.aload_n 0, 1) := by decide +kernel
theorem d_cX4_addOp_48 : decode cX4_addOp 48 = .ok (.bipush 32, 2) := by decide +kernel
theorem d_cX4_addOp_50 : decode cX4_addOp 50 = .ok (.invokevirtual 55, 3) := by decide +kernel
theorem d_cX4_addOp_53 : decode cX4_addOp 53 = .ok (.return_, 1) := by decide +kernel
theorem d_cX4_addOp_33 : decode cX4_addOp 33 = .ok (.aload_n 0, 1) := by decide +kernel
theorem d_cX4_addOp_34 : decode cX4_addOp 34 = .ok (.ldc 111, 2) := by decide +kernel
theorem d_cX4_addOp_36 : decode cX4_addOp 36 = .ok (.iconst 2, 1) := by decide +kernel
theorem d_cX4_addOp_37 : decode cX4_addOp 37 = .ok (.iload_n 1, 1) := by decide +kernel
theorem d_cX4_addOp_38 : decode cX4_addOp 38 = .ok (.imul, 1) := by decide +kernel
theorem d_cX4_addOp_39 : decode cX4_addOp 39 = .ok (.iconst 1, 1) := by decide +kernel
theorem d_cX4_addOp_40 : decode cX4_addOp 40 = .ok (.iadd, 1) := by decide +kernel
theorem d_cX4_addOp_41 : decode cX4_addOp 41 = .ok (.invokevirtual 113, 3) := by decide +kernel
theorem d_cX4_addOp_44 : decode cX4_addOp 44 = .ok (.invokevirtual 55, 3) := by decide +kernel
theorem d_cX4_addSource_0 : decode cX4_addSource 0 = .ok (.aload_n 1, 1) := by decide +kernel
theorem d_cX4_addSource_1 : decode cX4_addSource 1 = .ok (.getfield 44, 3) := by decide +kernel
theorem d_cX4_addSource_4 : decode cX4_addSource 4 = .ok (.iload_n 2, 1) := by decide +kernel
theorem d_cX4_addSource_5 : decode cX4_addSource 5 = .ok (.iaload, 1) := by decide +kernel
theorem d_cX4_addSource_6 : decode cX4_addSource 6 = .ok (.bipush 15, 2) := by decide +kernel
theorem d_cX4_addSource_8 : decode cX4_addSource 8 = .ok (.if_icmp .ne 12, 3) := by decide +kernel
theorem d_cX4_addSource_20 : decode cX4_addSource 20 = .ok (.aload_n 1, 1) := by decide +kernel
theorem d_cX4_addSource_21 : decode cX4_addSource 21 = .ok (.getfield 44, 3) := by decide +kernel
theorem d_cX4_addSource_24 : decode cX4_addSource 24 = .ok (.iload_n 2, 1) := by decide +kernel
theorem d_cX4_addSource_25 : decode cX4_addSource 25 = .ok (.iaload, 1) := by decide +kernel
theorem d_cX4_addSource_26 : decode cX4_addSource 26 = .ok (.bipush 17, 2) := by decide +kernel
theorem d_cX4_addSource_28 : decode cX4_addSource 28 = .ok (.if_icmp .ne 18, 3) := by decide +kernel
theorem d_cX4_addSource_46 : decode cX4_addSource 46 = .ok (.aload_n 0, 1) := by decide +kernel
theorem d_cX4_addSource_47 : decode cX4_addSource 47 = .ok (.aload_n 1, 1) := by decide +kernel
theorem d_cX4_addSource_48 : decode cX4_addSource 48 = .ok (.getfield 61, 3) := by decide +kernel
theorem d_cX4_addSource_51 : decode cX4_addSource 51 = .ok (.iload_n 2, 1) := by decide +kernel
theorem d_cX4_addSource_52 : decode cX4_addSource 52 = .ok (.iaload, 1) := by decide +kernel
theorem d_cX4_addSource_53 : decode cX4_addSource 53 = .ok (.aload_n 1, 1) := by decide +kernel
theorem d_cX4_addSource_54 : decode cX4_addSource 54 = .ok (.getfield 64, 3) := by decide +kernel
theorem d_cX4_addSource_57 : decode cX4_addSource 57 = .ok (.iload_n 2, 1) := by decide +kernel
theorem d_cX4_addSource_58 : decode cX4_addSource 58 = .ok (.iaload, 1) := by decide +kernel
theorem d_cX4_addSource_59 : decode cX4_addSource 59 = .ok (.invokevirtual 67, 3) := by decide +kernel
theorem w_6_191 : (Jvm.Cond.methodLink "SpillForge$Listing" (67 : Nat) ({ cls := "SpillForge$Listing", name := "addOperand", desc := "(II)V" } : Jvm.MethodName)) ∈ gw := gw_6 191 rfl rfl
theorem w_6_194 : (Jvm.Cond.code ({ cls := "SpillForge$Listing", name := "addOperand", desc := "(II)V" } : Jvm.MethodName) prog_6_method_9_code (3 : Nat) (Option.none : Option Jvm.ClassFile.FieldType)) ∈ gw := gw_6 194 rfl rfl
theorem w_6_193 : (Jvm.Cond.instanceMethod ({ cls := "SpillForge$Listing", name := "addOperand", desc := "(II)V" } : Jvm.MethodName)) ∈ gw := gw_6 193 rfl rfl
theorem w_p_69 : Cond.selects "SpillForge$Listing" ⟨"SpillForge$Listing", "addOperand", "(II)V"⟩ ⟨"SpillForge$Listing", "addOperand", "(II)V"⟩ ∈ gw := gw_p _ 69 rfl rfl rfl
theorem d_cX4_addSource_62 : decode cX4_addSource 62 = .ok (.aload_n 1, 1) := by decide +kernel
theorem d_cX4_addSource_63 : decode cX4_addSource 63 = .ok (.getfield 44, 3) := by decide +kernel
theorem d_cX4_addSource_66 : decode cX4_addSource 66 = .ok (.iload_n 2, 1) := by decide +kernel
theorem d_cX4_addSource_67 : decode cX4_addSource 67 = .ok (.iaload, 1) := by decide +kernel
theorem d_cX4_addSource_68 : decode cX4_addSource 68 = .ok (.bipush 14, 2) := by decide +kernel
theorem d_cX4_addSource_70 : decode cX4_addSource 70 = .ok (.if_icmp .ge 29, 3) := by decide +kernel
theorem d_cX4_addSource_99 : decode cX4_addSource 99 = .ok (.return_, 1) := by decide +kernel
theorem d_cX4_addSource_73 : decode cX4_addSource 73 = .ok (.aload_n 0, 1) := by decide +kernel
theorem d_cX4_addSource_74 : decode cX4_addSource 74 = .ok (.aload_n 1, 1) := by decide +kernel
theorem d_cX4_addSource_75 : decode cX4_addSource 75 = .ok (.getfield 44, 3) := by decide +kernel
theorem d_cX4_addSource_78 : decode cX4_addSource 78 = .ok (.iload_n 2, 1) := by decide +kernel
theorem d_cX4_addSource_79 : decode cX4_addSource 79 = .ok (.iaload, 1) := by decide +kernel
theorem d_cX4_addSource_80 : decode cX4_addSource 80 = .ok (.invokevirtual 104, 3) := by decide +kernel
theorem w_6_212 : (Jvm.Cond.methodLink "SpillForge$Listing" (104 : Nat) ({ cls := "SpillForge$Listing", name := "addOp", desc := "(I)V" } : Jvm.MethodName)) ∈ gw := gw_6 212 rfl rfl
theorem w_6_215 : (Jvm.Cond.code ({ cls := "SpillForge$Listing", name := "addOp", desc := "(I)V" } : Jvm.MethodName) prog_6_method_8_code (2 : Nat) (Option.none : Option Jvm.ClassFile.FieldType)) ∈ gw := gw_6 215 rfl rfl
theorem w_6_214 : (Jvm.Cond.instanceMethod ({ cls := "SpillForge$Listing", name := "addOp", desc := "(I)V" } : Jvm.MethodName)) ∈ gw := gw_6 214 rfl rfl
theorem w_p_72 : Cond.selects "SpillForge$Listing" ⟨"SpillForge$Listing", "addOp", "(I)V"⟩ ⟨"SpillForge$Listing", "addOp", "(I)V"⟩ ∈ gw := gw_p _ 72 rfl rfl rfl
theorem d_cX4_addSource_83 : decode cX4_addSource 83 = .ok (.aload_n 0, 1) := by decide +kernel
theorem d_cX4_addSource_84 : decode cX4_addSource 84 = .ok (.aload_n 1, 1) := by decide +kernel
theorem d_cX4_addSource_85 : decode cX4_addSource 85 = .ok (.getfield 108, 3) := by decide +kernel
theorem d_cX4_addSource_88 : decode cX4_addSource 88 = .ok (.iload_n 2, 1) := by decide +kernel
theorem d_cX4_addSource_89 : decode cX4_addSource 89 = .ok (.iaload, 1) := by decide +kernel
theorem d_cX4_addSource_90 : decode cX4_addSource 90 = .ok (.aload_n 1, 1) := by decide +kernel
theorem d_cX4_addSource_91 : decode cX4_addSource 91 = .ok (.getfield 87, 3) := by decide +kernel
theorem d_cX4_addSource_94 : decode cX4_addSource 94 = .ok (.iload_n 2, 1) := by decide +kernel
theorem d_cX4_addSource_95 : decode cX4_addSource 95 = .ok (.iaload, 1) := by decide +kernel
theorem d_cX4_addSource_96 : decode cX4_addSource 96 = .ok (.invokevirtual 67, 3) := by decide +kernel
theorem d_cX4_addSource_31 : decode cX4_addSource 31 = .ok (.aload_n 0, 1) := by decide +kernel
theorem d_cX4_addSource_32 : decode cX4_addSource 32 = .ok (.ldc 85, 2) := by decide +kernel
theorem d_cX4_addSource_34 : decode cX4_addSource 34 = .ok (.aload_n 1, 1) := by decide +kernel
theorem d_cX4_addSource_35 : decode cX4_addSource 35 = .ok (.getfield 87, 3) := by decide +kernel
theorem d_cX4_addSource_38 : decode cX4_addSource 38 = .ok (.iload_n 2, 1) := by decide +kernel
theorem d_cX4_addSource_39 : decode cX4_addSource 39 = .ok (.iaload, 1) := by decide +kernel
theorem d_cX4_addSource_40 : decode cX4_addSource 40 = .ok (.invokevirtual 26, 3) := by decide +kernel
theorem d_cX4_addSource_43 : decode cX4_addSource 43 = .ok (.goto 56, 3) := by decide +kernel
theorem d_cX4_addSource_11 : decode cX4_addSource 11 = .ok (.aload_n 0, 1) := by decide +kernel
theorem d_cX4_addSource_12 : decode cX4_addSource 12 = .ok (.ldc 102, 2) := by decide +kernel
theorem d_cX4_addSource_14 : decode cX4_addSource 14 = .ok (.invokevirtual 32, 3) := by decide +kernel
theorem d_cX4_addSource_17 : decode cX4_addSource 17 = .ok (.goto 82, 3) := by decide +kernel
abbrev ky_7114_Listing_eightFrom : gKey := (cX4_eightFrom, 5, yX4_eightFrom.cls, (some FieldType.long), [], yX4_eightFrom.name, fun _ _ => True)
abbrev po_7114_Listing_eightFrom (I : FieldType → ClassId) (q7109 : Nat) (q7110 : Nat) (p7111 : Int32) (p7112 : Int32) (f7113 : Nat → Int32) : Option Value → va_W → Prop := fun r w => ∃ (ol7186 : Int64), r = some (.long ol7186) ∧ w = [(q7109, .inr (9, [.ref q7110, .int p7112])), (q7110, .inl (I .byte, 16384, .inl f7113))] ∧ tr_Listing_eightFrom p7111 p7112 f7113 ol7186
set_option maxRecDepth 100000 in
set_option maxHeartbeats 4000000 in
theorem ct_7114_Listing_eightFrom (l : Launch) (hl0 : l.stackTraces = false) (D : va_G) (I : FieldType → ClassId) (q7109 : Nat) (q7110 : Nat) (p7111 : Int32) (p7112 : Int32) (f7113 : Nat → Int32) (bp7112 : gB p7112 0 16384) (bf7113 : gF f7113 (-128) 127) : Ct (gV D I) l yX4_eightFrom cX4_eightFrom 5 (some FieldType.long) 0 0 0 0 [.ref q7109, .int p7111] [(q7109, .inr (9, [.ref q7110, .int p7112])), (q7110, .inl (I .byte, 16384, .inl f7113))] (po_7114_Listing_eightFrom I q7109 q7110 p7111 p7112 f7113) gN := by
  refine Ct_of hl0 (by decide) (Nat.le_of_ble_eq_true rfl) ?_
  have bp7111 := gB_any p7111
  refine G_lconst 0 d_cX4_eightFrom_0 rfl ?_
  refine G_lstore_n (L' := [(2, .long 0), (0, .ref q7109), (1, .int p7111)]) d_cX4_eightFrom_1 (Nat.le_of_ble_eq_true rfl) rfl ?_
  refine G_iload_n 2 d_cX4_eightFrom_2 rfl ?_
  refine G_istore (L' := [(4, .int p7111), (2, .long 0), (0, .ref q7109), (1, .int p7111)]) d_cX4_eightFrom_3 (Nat.le_of_ble_eq_true rfl) rfl ?_
  have hlp5_7162 : ∀ (n5_7162 : Nat) (g7161 : Int32) (gl7162 : Int64), gB g7161 (-2147483648) 2147483647 → (∀ (k : Nat) (e1 : Int64), tl_Listing_eightFrom_5 p7111 p7112 f7113 g7161 gl7162 k e1 → tl_Listing_eightFrom_5 p7111 p7112 f7113 p7111 (0 : Int64) k e1) → ((2147483648 : Int) - g7161.toInt).toNat < n5_7162 → G (gV D I) l (gRm 0 0 0 0) (gM (gV D I) (po_7114_Listing_eightFrom I q7109 q7110 p7111 p7112 f7113) gN 0 0) ky_7114_Listing_eightFrom 5 [(4, .int g7161), (2, .long gl7162), (0, .ref q7109), (1, .int p7111)] [] [(q7109, .inr (9, [.ref q7110, .int p7112])), (q7110, .inl (I .byte, 16384, .inl f7113))] 0 0 := by
    intro n5_7162
    induction n5_7162 with
    | zero => intro g7161 gl7162 bg7161 kt5_7162 hm5_7162; exact absurd hm5_7162 (Nat.not_lt_zero _)
    | succ n5_7162 ih5_7162 =>
      intro g7161 gl7162 bg7161 kt5_7162 hm5_7162
      refine G_iload 0 d_cX4_eightFrom_5 rfl ?_
      refine G_iload_n 3 d_cX4_eightFrom_7 rfl ?_
      refine G_bipush 8 d_cX4_eightFrom_8 (by decide +kernel) ?_
      refine G_iadd d_cX4_eightFrom_10 (G_nam fun z7163 hz7163 => ?_)
      have bz7163 : gB z7163 (-2147483648) 2147483647 := gB_any z7163
      refine G_icmp_ge 56 d_cX4_eightFrom_11 (by decide +kernel) (fun hc7164 => ?_) (fun hc7164 => ?_)
      · have r7165 : z7163.toInt ≤ g7161.toInt := gC_le hc7164
        have hx7166 : tl_Listing_eightFrom_5 p7111 p7112 f7113 p7111 (0 : Int64) 56 gl7162 := kt5_7162 56 gl7162 (fun R c1 c2 c3 c4 => c1 g7161 gl7162 z7163 hz7163 r7165)
        refine G_lload_n 1 d_cX4_eightFrom_56 rfl ?_
        exact G_lret d_cX4_eightFrom_57 rfl (Nat.le_of_ble_eq_true rfl) (Nat.le_of_ble_eq_true rfl) ⟨gl7162, rfl, rfl, (fun R c1 => c1 gl7162 hx7166)⟩
      · have r7167 : g7161.toInt < z7163.toInt := gC_nle hc7164
        have bg7161' : gB g7161 (-2147483648) 2147483646 := ⟨by omega, by omega⟩
        have bz7163' : gB z7163 (-2147483647) 2147483647 := ⟨by omega, by omega⟩
        refine G_lload_n 1 d_cX4_eightFrom_14 rfl ?_
        refine G_bipush 8 d_cX4_eightFrom_15 (by decide +kernel) ?_
        refine G_lshl d_cX4_eightFrom_17 (G_namL fun u7168 hu7168 => ?_)
        refine G_iload 0 d_cX4_eightFrom_18 rfl ?_
        refine G_if_lt 46 d_cX4_eightFrom_20 (by decide +kernel) (fun hc7169 => ?_) (fun hc7169 => ?_)
        · have r7170 : g7161.toInt < 0 := gj_lt hc7169 (show Int32.toInt 0 = 0 by decide)
          have bg7161'' : gB g7161 (-2147483648) (-1) := ⟨by omega, by omega⟩
          refine G_iconst 0 d_cX4_eightFrom_46 (by decide +kernel) ?_
          refine G_i2l d_cX4_eightFrom_47 (G_namL fun u7171 hu7171 => ?_)
          refine G_lor d_cX4_eightFrom_48 (G_namL fun u7172 hu7172 => ?_)
          refine G_lstore_n (L' := [(2, .long u7172), (4, .int g7161), (0, .ref q7109), (1, .int p7111)]) d_cX4_eightFrom_49 (Nat.le_of_ble_eq_true rfl) rfl ?_
          obtain ⟨z7173, hz7173⟩ : ∃ z : Int32, z = g7161 + Int32.ofInt 1 := ⟨_, rfl⟩
          have ez7173 : z7173.toInt = g7161.toInt + 1 := gI_inc hz7173 (by decide) bg7161'' (by decide) (by decide)
          have bz7173 : gB z7173 (-2147483647) 0 := ⟨by omega, by omega⟩
          refine G_iinc (L' := [(4, .int z7173), (2, .long u7172), (0, .ref q7109), (1, .int p7111)]) z7173 1 d_cX4_eightFrom_50 rfl hz7173.symm (Nat.le_of_ble_eq_true rfl) rfl ?_
          refine G_goto 5 d_cX4_eightFrom_53 (by decide +kernel) ?_
          exact ih5_7162 z7173 u7172 (gB_w bz7173 (by decide) (by decide)) (fun k e1 ht => kt5_7162 k e1 (fun R c1 c2 c3 c4 => c2 g7161 gl7162 z7163 u7168 u7171 u7172 z7173 k e1 hz7163 r7167 hu7168 r7170 hu7171 hu7172 ez7173 (ht R c1 c2 c3 c4))) (by omega)
        · have r7174 : 0 ≤ g7161.toInt := gj_nlt hc7169 (show Int32.toInt 0 = 0 by decide)
          have bg7161'' : gB g7161 0 2147483646 := ⟨by omega, by omega⟩
          refine G_iload 0 d_cX4_eightFrom_23 rfl ?_
          refine G_aload_n 2 d_cX4_eightFrom_25 rfl ?_
          refine G_getf 0 1 d_cX4_eightFrom_26 rfl (gk_X4 D I) (Nat.le_of_ble_eq_true rfl) w_2_201 rfl ?_
          refine G_icmp_ge 46 d_cX4_eightFrom_29 (by decide +kernel) (fun hc7175 => ?_) (fun hc7175 => ?_)
          · have r7176 : p7112.toInt ≤ g7161.toInt := gC_le hc7175
            refine G_iconst 0 d_cX4_eightFrom_46 (by decide +kernel) ?_
            refine G_i2l d_cX4_eightFrom_47 (G_namL fun u7177 hu7177 => ?_)
            refine G_lor d_cX4_eightFrom_48 (G_namL fun u7178 hu7178 => ?_)
            refine G_lstore_n (L' := [(2, .long u7178), (4, .int g7161), (0, .ref q7109), (1, .int p7111)]) d_cX4_eightFrom_49 (Nat.le_of_ble_eq_true rfl) rfl ?_
            obtain ⟨z7179, hz7179⟩ : ∃ z : Int32, z = g7161 + Int32.ofInt 1 := ⟨_, rfl⟩
            have ez7179 : z7179.toInt = g7161.toInt + 1 := gI_inc hz7179 (by decide) bg7161'' (by decide) (by decide)
            have bz7179 : gB z7179 1 2147483647 := ⟨by omega, by omega⟩
            refine G_iinc (L' := [(4, .int z7179), (2, .long u7178), (0, .ref q7109), (1, .int p7111)]) z7179 1 d_cX4_eightFrom_50 rfl hz7179.symm (Nat.le_of_ble_eq_true rfl) rfl ?_
            refine G_goto 5 d_cX4_eightFrom_53 (by decide +kernel) ?_
            exact ih5_7162 z7179 u7178 (gB_w bz7179 (by decide) (by decide)) (fun k e1 ht => kt5_7162 k e1 (fun R c1 c2 c3 c4 => c3 g7161 gl7162 z7163 u7168 u7177 u7178 z7179 k e1 hz7163 r7167 hu7168 r7174 r7176 hu7177 hu7178 ez7179 (ht R c1 c2 c3 c4))) (by omega)
          · have r7180 : g7161.toInt < p7112.toInt := gC_nle hc7175
            have bg7161''' : gB g7161 0 16383 := ⟨by omega, by omega⟩
            have bp7112' : gB p7112 1 16384 := ⟨by omega, by omega⟩
            refine G_aload_n 2 d_cX4_eightFrom_32 rfl ?_
            refine G_getf 0 0 d_cX4_eightFrom_33 rfl (gk_X4 D I) (Nat.le_of_ble_eq_true rfl) w_2_200 rfl ?_
            refine G_iload 0 d_cX4_eightFrom_36 rfl ?_
            refine G_bald 1 1 d_cX4_eightFrom_38 rfl rfl (gB_in bg7161''' (by decide) (by decide)) (G_nam fun z7181 hz7181 => ?_)
            have bz7181 : gB z7181 (-128) 127 := by rw [hz7181]; exact bf7113 _
            refine G_sipush 255 d_cX4_eightFrom_39 (by decide +kernel) ?_
            refine G_iand d_cX4_eightFrom_42 (G_nam fun z7182 hz7182 => ?_)
            have bz7182 : gB z7182 0 255 := gB_and hz7182 (gBl (show Int32.toInt 255 = 255 by decide)) (by decide)
            refine G_goto 47 d_cX4_eightFrom_43 (by decide +kernel) ?_
            refine G_i2l d_cX4_eightFrom_47 (G_namL fun u7183 hu7183 => ?_)
            refine G_lor d_cX4_eightFrom_48 (G_namL fun u7184 hu7184 => ?_)
            refine G_lstore_n (L' := [(2, .long u7184), (4, .int g7161), (0, .ref q7109), (1, .int p7111)]) d_cX4_eightFrom_49 (Nat.le_of_ble_eq_true rfl) rfl ?_
            obtain ⟨z7185, hz7185⟩ : ∃ z : Int32, z = g7161 + Int32.ofInt 1 := ⟨_, rfl⟩
            have ez7185 : z7185.toInt = g7161.toInt + 1 := gI_inc hz7185 (by decide) bg7161''' (by decide) (by decide)
            have bz7185 : gB z7185 1 16384 := ⟨by omega, by omega⟩
            refine G_iinc (L' := [(4, .int z7185), (2, .long u7184), (0, .ref q7109), (1, .int p7111)]) z7185 1 d_cX4_eightFrom_50 rfl hz7185.symm (Nat.le_of_ble_eq_true rfl) rfl ?_
            refine G_goto 5 d_cX4_eightFrom_53 (by decide +kernel) ?_
            exact ih5_7162 z7185 u7184 (gB_w bz7185 (by decide) (by decide)) (fun k e1 ht => kt5_7162 k e1 (fun R c1 c2 c3 c4 => c4 g7161 gl7162 z7163 u7168 z7181 z7182 u7183 u7184 z7185 k e1 hz7163 r7167 hu7168 r7174 r7180 hz7181 bz7181 hz7182 hu7183 hu7184 ez7185 (ht R c1 c2 c3 c4))) (by omega)
  exact hlp5_7162 (((2147483648 : Int) - p7111.toInt).toNat + 1) p7111 0 bp7111 (fun k e1 ht => ht) (Nat.lt_succ_self _)
/- tr_Listing_addByte: Listing_size, Listing_bytes -/
def tr_Listing_addByte (a1 : Int32) (Listing_size : Int32) (Listing_bytes : Nat → Int32) (o1 : Int32) (o2 : Nat → Int32) : Prop := ∀ R : (Int32) → (Nat → Int32) → Prop,
  (16384 ≤ Listing_size.toInt → R Listing_size Listing_bytes) →
  (∀ (x1 : Int32) (x2 : Nat → Int32) (x3 : Int32), Listing_size.toInt < 16384 → x1 = a1.toInt8.toInt32 → x2 = upd Listing_bytes Listing_size.toNatClampNeg (vp_nar .byte x1) → x3.toInt = Listing_size.toInt + 1 → R x3 x2) →
  R o1 o2
abbrev ky_7248_Listing_addByte : gKey := (cX4_addByte, 2, yX4_addByte.cls, none, [], yX4_addByte.name, fun _ _ => True)
abbrev po_7248_Listing_addByte (I : FieldType → ClassId) (q7243 : Nat) (q7244 : Nat) (p7245 : Int32) (p7246 : Int32) (f7247 : Nat → Int32) : Option Value → va_W → Prop := fun r w => ∃ (o7255 : Int32) (f7256 : Nat → Int32), r = none ∧ w = [(q7243, .inr (9, [.ref q7244, .int o7255])), (q7244, .inl (I .byte, 16384, .inl f7256))] ∧ gB o7255 1 16384 ∧ gF f7256 (-128) 127 ∧ tr_Listing_addByte p7245 p7246 f7247 o7255 f7256
set_option maxRecDepth 100000 in
set_option maxHeartbeats 4000000 in
theorem ct_7248_Listing_addByte (l : Launch) (hl0 : l.stackTraces = false) (D : va_G) (I : FieldType → ClassId) (q7243 : Nat) (q7244 : Nat) (p7245 : Int32) (p7246 : Int32) (f7247 : Nat → Int32) (bp7245 : gB p7245 0 65535) (bp7246 : gB p7246 0 16384) (bf7247 : gF f7247 (-128) 127) : Ct (gV D I) l yX4_addByte cX4_addByte 2 none 0 0 0 0 [.ref q7243, .int p7245] [(q7243, .inr (9, [.ref q7244, .int p7246])), (q7244, .inl (I .byte, 16384, .inl f7247))] (po_7248_Listing_addByte I q7243 q7244 p7245 p7246 f7247) gN := by
  refine Ct_of hl0 (by decide) (Nat.le_of_ble_eq_true rfl) ?_
  refine G_aload_n 0 d_cX4_addByte_0 rfl ?_
  refine G_getf 0 1 d_cX4_addByte_1 rfl (gk_X4 D I) (Nat.le_of_ble_eq_true rfl) w_2_201 rfl ?_
  refine G_aload_n 0 d_cX4_addByte_4 rfl ?_
  refine G_getf 0 0 d_cX4_addByte_5 rfl (gk_X4 D I) (Nat.le_of_ble_eq_true rfl) w_2_200 rfl ?_
  refine G_alen 16384 1 1 d_cX4_addByte_8 rfl rfl rfl ?_
  refine G_icmp_ge 33 d_cX4_addByte_9 (by decide +kernel) (fun hc7249 => ?_) (fun hc7249 => ?_)
  · have r7250 : 16384 ≤ p7246.toInt := gj_leL hc7249 (show Int32.toInt 16384 = 16384 by decide)
    have bp7246' : gB p7246 16384 16384 := ⟨by omega, by omega⟩
    exact G_vret d_cX4_addByte_33 rfl (Nat.le_of_ble_eq_true rfl) (Nat.le_of_ble_eq_true rfl) ⟨p7246, f7247, rfl, rfl, (gB_w bp7246' (by decide) (by decide)), bf7247, (fun R c1 c2 => c1 r7250)⟩
  · have r7251 : p7246.toInt < 16384 := gj_nleL hc7249 (show Int32.toInt 16384 = 16384 by decide)
    have bp7246' : gB p7246 0 16383 := ⟨by omega, by omega⟩
    refine G_aload_n 0 d_cX4_addByte_12 rfl ?_
    refine G_getf 0 0 d_cX4_addByte_13 rfl (gk_X4 D I) (Nat.le_of_ble_eq_true rfl) w_2_200 rfl ?_
    refine G_aload_n 0 d_cX4_addByte_16 rfl ?_
    refine G_getf 0 1 d_cX4_addByte_17 rfl (gk_X4 D I) (Nat.le_of_ble_eq_true rfl) w_2_201 rfl ?_
    refine G_iload_n 1 d_cX4_addByte_20 rfl ?_
    refine G_i2b d_cX4_addByte_21 (G_nam fun z7252 hz7252 => ?_)
    have bz7252 : gB z7252 (-128) 127 := gB_i2b hz7252
    refine G_bastN 1 1 d_cX4_addByte_22 rfl rfl (gB_in bp7246' (by decide) (by decide)) (fun f7253 hf7253 => ?_)
    refine G_ws (ws' := [(q7243, .inr (9, [.ref q7244, .int p7246])), (q7244, .inl (I .byte, 16384, .inl f7253))]) (cs' := 0) (sl' := 0) rfl rfl rfl ?_
    have bf7253 : gF f7253 (-128) 127 := gF_upd hf7253 bf7247 gB_byte
    refine G_aload_n 0 d_cX4_addByte_23 rfl ?_
    refine G_dup d_cX4_addByte_24 rfl ?_
    refine G_getf 0 1 d_cX4_addByte_25 rfl (gk_X4 D I) (Nat.le_of_ble_eq_true rfl) w_2_201 rfl ?_
    refine G_iconst 1 d_cX4_addByte_28 (by decide +kernel) ?_
    refine G_iadd d_cX4_addByte_29 (G_nam fun z7254 hz7254 => ?_)
    have ez7254 : z7254.toInt = p7246.toInt + 1 := by rw [gI_add hz7254 bp7246' (gBl (show Int32.toInt 1 = 1 by decide)) (by decide) (by decide), show Int32.toInt 1 = 1 from by decide]
    have bz7254 : gB z7254 1 16384 := gB_add (gI_add hz7254 bp7246' (gBl (show Int32.toInt 1 = 1 by decide)) (by decide) (by decide)) bp7246' (gBl (show Int32.toInt 1 = 1 by decide)) (by decide) (by decide)
    refine G_putf (ws' := [(q7243, .inr (9, [.ref q7244, .int z7254])), (q7244, .inl (I .byte, 16384, .inl f7253))]) 0 1 d_cX4_addByte_30 rfl (gk_X4 D I) (Nat.le_of_ble_eq_true rfl) w_2_201 rfl rfl rfl (Nat.le_of_ble_eq_true rfl) rfl ?_
    exact G_vret d_cX4_addByte_33 rfl (Nat.le_of_ble_eq_true rfl) (Nat.le_of_ble_eq_true rfl) ⟨z7254, f7253, rfl, rfl, bz7254, bf7253, (fun R c1 c2 => c2 z7252 f7253 z7254 r7251 hz7252 hf7253 ez7254)⟩
/- tl_Listing_addText_2: l2, Listing_size, Listing_bytes; out: Listing_size, Listing_bytes -/
def tl_Listing_addText_2 (bs : List Int32) (s1 : Int32) (s2 : Int32) (s3 : Nat → Int32) (k : Nat) (e1 : Int32) (e2 : Nat → Int32) : Prop := ∀ R : (Int32) → (Int32) → (Nat → Int32) → Nat → (Int32) → (Nat → Int32) → Prop,
  (∀ (l2_1 : Int32) (Listing_size_1 : Int32) (Listing_bytes_1 : Nat → Int32) (x1 : Int32), gB l2_1 0 65535 → gB Listing_size_1 0 16384 → gB x1 0 65535 → tr_String_length bs x1 → x1.toInt ≤ l2_1.toInt → R l2_1 Listing_size_1 Listing_bytes_1 25 Listing_size_1 Listing_bytes_1) →
  (∀ (l2_1 : Int32) (Listing_size_1 : Int32) (Listing_bytes_1 : Nat → Int32) (x1 : Int32) (x2 : Int32) (x3 : Int32) (x4 : Nat → Int32) (x5 : Int32) (k : Nat) (e1 : Int32) (e2 : Nat → Int32), gB l2_1 0 65535 → gB Listing_size_1 0 16384 → gB x1 0 65535 → tr_String_length bs x1 → l2_1.toInt < x1.toInt → gB x2 0 65535 → tr_String_charAt bs l2_1 x2 → gB x3 1 16384 → tr_Listing_addByte x2 Listing_size_1 Listing_bytes_1 x3 x4 → x5.toInt = l2_1.toInt + 1 → R x5 x3 x4 k e1 e2 → R l2_1 Listing_size_1 Listing_bytes_1 k e1 e2) →
  R s1 s2 s3 k e1 e2
/- tr_Listing_addText: Listing_size, Listing_bytes -/
def tr_Listing_addText (bs : List Int32) (Listing_size : Int32) (Listing_bytes : Nat → Int32) (o1 : Int32) (o2 : Nat → Int32) : Prop := ∀ R : (Int32) → (Nat → Int32) → Prop,
  (∀ (x1 : Int32) (x2 : Nat → Int32), tl_Listing_addText_2 bs (0 : Int32) Listing_size Listing_bytes 25 x1 x2 → R x1 x2) →
  R o1 o2
abbrev ky_7234_Listing_addText : gKey := (cX4_addText, 3, yX4_addText.cls, none, [], yX4_addText.name, fun _ _ => True)
abbrev po_7234_Listing_addText (I : FieldType → ClassId) (q7227 : Nat) (q7228 : Nat) (qs7229 : Nat) (qb7230 : Nat) (bs7231 : List Int32) (p7232 : Int32) (f7233 : Nat → Int32) : Option Value → va_W → Prop := fun r w => ∃ (o7351 : Int32) (f7352 : Nat → Int32), r = none ∧ w = [(q7227, .inr (9, [.ref q7228, .int o7351])), (q7228, .inl (I .byte, 16384, .inl f7352))] ∧ gB o7351 0 16384 ∧ gF f7352 (-128) 127 ∧ tr_Listing_addText bs7231 p7232 f7233 o7351 f7352
set_option maxRecDepth 100000 in
set_option maxHeartbeats 4000000 in
theorem ct_7234_Listing_addText (l : Launch) (hl0 : l.stackTraces = false) (D : va_G) (I : FieldType → ClassId) (q7227 : Nat) (q7228 : Nat) (qs7229 : Nat) (qb7230 : Nat) (bs7231 : List Int32) (p7232 : Int32) (f7233 : Nat → Int32) (hbs7231 : ∀ A s H, (gV D I).2.2.2.1 A s H → gSC qs7229 qb7230 bs7231 A s H) (nbs7231 : (bs7231.length : Int) ≤ 65535) (bp7232 : gB p7232 0 16384) (bf7233 : gF f7233 (-128) 127) : Ct (gV D I) l yX4_addText cX4_addText 3 none 4 85 0 0 [.ref q7227, .ref qs7229] [(q7227, .inr (9, [.ref q7228, .int p7232])), (q7228, .inl (I .byte, 16384, .inl f7233))] (po_7234_Listing_addText I q7227 q7228 qs7229 qb7230 bs7231 p7232 f7233) gN := by
  refine Ct_of hl0 (by decide) (Nat.le_of_ble_eq_true rfl) ?_
  refine G_iconst 0 d_cX4_addText_0 (by decide +kernel) ?_
  refine G_istore_n (L' := [(2, .int 0), (0, .ref q7227), (1, .ref qs7229)]) d_cX4_addText_1 (Nat.le_of_ble_eq_true rfl) rfl ?_
  have hlp2_7337 : ∀ (n2_7337 : Nat) (g7335 : Int32) (g7336 : Int32) (f7337 : Nat → Int32), gB g7335 0 65535 → gB g7336 0 16384 → gF f7337 (-128) 127 → (∀ (k : Nat) (e1 : Int32) (e2 : Nat → Int32), tl_Listing_addText_2 bs7231 g7335 g7336 f7337 k e1 e2 → tl_Listing_addText_2 bs7231 (0 : Int32) p7232 f7233 k e1 e2) → ((65536 : Int) - g7335.toInt).toNat < n2_7337 → G (gV D I) l (gRm 4 85 0 0) (gM (gV D I) (po_7234_Listing_addText I q7227 q7228 qs7229 qb7230 bs7231 p7232 f7233) gN 0 0) ky_7234_Listing_addText 2 [(2, .int g7335), (0, .ref q7227), (1, .ref qs7229)] [] [(q7227, .inr (9, [.ref q7228, .int g7336])), (q7228, .inl (I .byte, 16384, .inl f7337))] 0 0 := by
    intro n2_7337
    induction n2_7337 with
    | zero => intro g7335 g7336 f7337 bg7335 bg7336 bf7337 kt2_7337 hm2_7337; exact absurd hm2_7337 (Nat.not_lt_zero _)
    | succ n2_7337 ih2_7337 =>
      intro g7335 g7336 f7337 bg7335 bg7336 bf7337 kt2_7337 hm2_7337
      refine G_iload_n 0 d_cX4_addText_2 rfl ?_
      refine G_aload_n 2 d_cX4_addText_3 rfl ?_
      refine G_callVk (As := []) (wr := [(q7227, .inr (9, [.ref q7228, .int g7336])), (q7228, .inl (I .byte, 16384, .inl f7337))]) (gV_ok D I) (ct_3926_String_length l hl0 D I qs7229 qb7230 bs7231 hbs7231 nbs7231) d_cX4_addText_4 ⟨w_6_169, w_1_21, w_3_60, by decide, rfl, (Nat.le_of_ble_eq_true rfl), (Nat.le_of_ble_eq_true rfl)⟩ w_3_58 w_3_59 (fun _ _ _ h => (hbs7231 _ _ _ h).1) [] [0, 1] rfl rfl rfl rfl (by decide) (Nat.le_of_ble_eq_true rfl) (Nat.le_of_ble_eq_true rfl) (Nat.le_of_ble_eq_true rfl) (fun r w hp => ?_) (fun _ _ _ z => z.elim)
      obtain ⟨o7338, rfl, rfl, bo7338, x7339, ht7340⟩ := hp
      change G _ _ _ _ _ _ _ (.int o7338 :: _) _ _ _
      refine G_ws (ws' := [(q7227, .inr (9, [.ref q7228, .int g7336])), (q7228, .inl (I .byte, 16384, .inl f7337))]) (cs' := 0) (sl' := 0) rfl rfl rfl ?_
      refine G_icmp_ge 25 d_cX4_addText_7 (by decide +kernel) (fun hc7341 => ?_) (fun hc7341 => ?_)
      · have r7342 : o7338.toInt ≤ g7335.toInt := gC_le hc7341
        have hx7343 : tl_Listing_addText_2 bs7231 (0 : Int32) p7232 f7233 25 g7336 f7337 := kt2_7337 25 g7336 f7337 (fun R c1 c2 => c1 g7335 g7336 f7337 o7338 bg7335 bg7336 bo7338 ht7340 r7342)
        exact G_vret d_cX4_addText_25 rfl (Nat.le_of_ble_eq_true rfl) (Nat.le_of_ble_eq_true rfl) ⟨g7336, f7337, rfl, rfl, bg7336, bf7337, (fun R c1 => c1 g7336 f7337 hx7343)⟩
      · have r7344 : g7335.toInt < o7338.toInt := gC_nle hc7341
        have bg7335' : gB g7335 0 65534 := ⟨by omega, by omega⟩
        have bo7338' : gB o7338 1 65535 := ⟨by omega, by omega⟩
        refine G_aload_n 1 d_cX4_addText_10 rfl ?_
        refine G_aload_n 2 d_cX4_addText_11 rfl ?_
        refine G_iload_n 0 d_cX4_addText_12 rfl ?_
        refine G_callVk (As := [.int g7335]) (wr := [(q7227, .inr (9, [.ref q7228, .int g7336])), (q7228, .inl (I .byte, 16384, .inl f7337))]) (gV_ok D I) (ct_3954_String_charAt l hl0 D I qs7229 qb7230 bs7231 g7335 hbs7231 nbs7231 (by omega) (by omega)) d_cX4_addText_13 ⟨w_6_170, w_1_21, w_3_70, by decide, rfl, (Nat.le_of_ble_eq_true rfl), (Nat.le_of_ble_eq_true rfl)⟩ w_3_68 w_3_69 (fun _ _ _ h => (hbs7231 _ _ _ h).1) [] [0, 1] rfl rfl rfl rfl (by decide) (Nat.le_of_ble_eq_true rfl) (Nat.le_of_ble_eq_true rfl) (Nat.le_of_ble_eq_true rfl) (fun r w hp => ?_) (fun _ _ _ z => z.elim)
        obtain ⟨o7345, rfl, rfl, bo7345, ht7346⟩ := hp
        change G _ _ _ _ _ _ _ (.int o7345 :: _) _ _ _
        refine G_ws (ws' := [(q7227, .inr (9, [.ref q7228, .int g7336])), (q7228, .inl (I .byte, 16384, .inl f7337))]) (cs' := 0) (sl' := 0) rfl rfl rfl ?_
        refine G_callV (As := [.int o7345]) (wr := []) (gV_ok D I) (ct_7248_Listing_addByte l hl0 D I q7227 q7228 o7345 g7336 f7337 bo7345 bg7336 bf7337) d_cX4_addText_16 ⟨w_6_171, w_1_13, w_6_174, by decide, rfl, (Nat.le_of_ble_eq_true rfl), (Nat.le_of_ble_eq_true rfl)⟩ w_6_173 w_p_66 0 rfl rfl [0, 1] [] rfl rfl rfl rfl (by decide) (Nat.le_of_ble_eq_true rfl) (Nat.le_of_ble_eq_true rfl) (Nat.le_of_ble_eq_true rfl) (fun r w hp => ?_) (fun _ _ _ z => z.elim)
        obtain ⟨o7347, f7348, rfl, rfl, bo7347, bf7348, ht7349⟩ := hp
        change G _ _ _ _ _ _ _ _ _ _ _
        refine G_ws (ws' := [(q7227, .inr (9, [.ref q7228, .int o7347])), (q7228, .inl (I .byte, 16384, .inl f7348))]) (cs' := 0) (sl' := 0) rfl rfl rfl ?_
        obtain ⟨z7350, hz7350⟩ : ∃ z : Int32, z = g7335 + Int32.ofInt 1 := ⟨_, rfl⟩
        have ez7350 : z7350.toInt = g7335.toInt + 1 := gI_inc hz7350 (by decide) bg7335' (by decide) (by decide)
        have bz7350 : gB z7350 1 65535 := ⟨by omega, by omega⟩
        refine G_iinc (L' := [(2, .int z7350), (0, .ref q7227), (1, .ref qs7229)]) z7350 0 d_cX4_addText_19 rfl hz7350.symm (Nat.le_of_ble_eq_true rfl) rfl ?_
        refine G_goto 2 d_cX4_addText_22 (by decide +kernel) ?_
        exact ih2_7337 z7350 o7347 f7348 (gB_w bz7350 (by decide) (by decide)) (gB_w bo7347 (by decide) (by decide)) bf7348 (fun k e1 e2 ht => kt2_7337 k e1 e2 (fun R c1 c2 => c2 g7335 g7336 f7337 o7338 o7345 o7347 f7348 z7350 k e1 e2 bg7335 bg7336 bo7338 ht7340 r7344 bo7345 ht7346 bo7347 ht7349 ez7350 (ht R c1 c2))) (by omega)
  exact hlp2_7337 (((65536 : Int) - 0).toNat + 1) 0 p7232 f7233 (gB_w (gBl (show Int32.toInt 0 = 0 by decide)) (by decide) (by decide)) bp7232 bf7233 (fun k e1 e2 ht => ht) (Nat.lt_succ_self _)
/- tr_Math_abs: result -/
def tr_Math_abs (a0 : Int64) (o1 : Int64) : Prop := ∀ R : (Int64) → Prop,
  (∀ (x1 : Int32), x1 = lg_cmp a0 (0 : Int64) → 0 ≤ x1.toInt → R a0) →
  (∀ (x1 : Int32) (x2 : Int64), x1 = lg_cmp a0 (0 : Int64) → x1.toInt < 0 → x2 = -a0 → R x2) →
  R o1
abbrev ky_7366_Math_abs : gKey := (cJ9_abs_067f4, 2, yJ9_abs_067f4.cls, (some FieldType.long), [], yJ9_abs_067f4.name, fun _ _ => True)
abbrev po_7366_Math_abs (I : FieldType → ClassId) (pl7365 : Int64) : Option Value → va_W → Prop := fun r w => ∃ (ol7372 : Int64), r = some (.long ol7372) ∧ w = [] ∧ tr_Math_abs pl7365 ol7372
set_option maxRecDepth 100000 in
set_option maxHeartbeats 4000000 in
theorem ct_7366_Math_abs (l : Launch) (hl0 : l.stackTraces = false) (D : va_G) (I : FieldType → ClassId) (pl7365 : Int64)  : Ct (gV D I) l yJ9_abs_067f4 cJ9_abs_067f4 2 (some FieldType.long) 0 0 0 0 [.long pl7365] [] (po_7366_Math_abs I pl7365) gN := by
  refine Ct_ofF hl0 (by decide +kernel) (Nat.le_of_ble_eq_true rfl) ?_
  refine G_lload_n 0 d_cJ9_abs_067f4_0 rfl ?_
  refine G_lconst 0 d_cJ9_abs_067f4_1 rfl ?_
  refine G_lcmp d_cJ9_abs_067f4_2 (G_nam fun z7367 hz7367 => ?_)
  have bz7367 : gB z7367 (-1) 1 := gB_cmp hz7367
  refine G_if_ge 11 d_cJ9_abs_067f4_3 (by decide +kernel) (fun hc7368 => ?_) (fun hc7368 => ?_)
  · have r7369 : 0 ≤ z7367.toInt := gj_leL hc7368 (show Int32.toInt 0 = 0 by decide)
    have bz7367' : gB z7367 0 1 := ⟨by omega, by omega⟩
    refine G_lload_n 0 d_cJ9_abs_067f4_11 rfl ?_
    exact G_lret d_cJ9_abs_067f4_12 rfl (Nat.le_of_ble_eq_true rfl) (Nat.le_of_ble_eq_true rfl) ⟨pl7365, rfl, rfl, (fun R c1 c2 => c1 z7367 hz7367 r7369)⟩
  · have r7370 : z7367.toInt < 0 := gj_nleL hc7368 (show Int32.toInt 0 = 0 by decide)
    have bz7367' : gB z7367 (-1) (-1) := ⟨by omega, by omega⟩
    have lhc7368 := gC_cmpS hz7367 (by omega)
    refine G_lload_n 0 d_cJ9_abs_067f4_6 rfl ?_
    refine G_lneg d_cJ9_abs_067f4_7 (G_namL fun u7371 hu7371 => ?_)
    refine G_goto 12 d_cJ9_abs_067f4_8 (by decide +kernel) ?_
    exact G_lret d_cJ9_abs_067f4_12 rfl (Nat.le_of_ble_eq_true rfl) (Nat.le_of_ble_eq_true rfl) ⟨u7371, rfl, rfl, (fun R c1 c2 => c2 z7367 u7371 hz7367 r7370 hu7371)⟩
/- tl_Listing_addNumber_57: l6, l4, Listing_size, Listing_bytes; out: Listing_size, Listing_bytes -/
def tl_Listing_addNumber_57 (c1 : Int64) (s1 : Int32) (s2 : Int64) (s3 : Int32) (s4 : Nat → Int32) (k : Nat) (e1 : Int32) (e2 : Nat → Int32) : Prop := ∀ R : (Int32) → (Int64) → (Int32) → (Nat → Int32) → Nat → (Int32) → (Nat → Int32) → Prop,
  (∀ (l6_1 : Int32) (l4_1 : Int64) (Listing_size_1 : Int32) (Listing_bytes_1 : Nat → Int32), gB l6_1 0 10 → gB Listing_size_1 0 16384 → 10 ≤ l6_1.toInt → R l6_1 l4_1 Listing_size_1 Listing_bytes_1 103 Listing_size_1 Listing_bytes_1) →
  (∀ (l6_1 : Int32) (l4_1 : Int64) (Listing_size_1 : Int32) (Listing_bytes_1 : Nat → Int32) (x1 : Int32), gB l6_1 0 10 → gB Listing_size_1 0 16384 → l6_1.toInt < 10 → x1 = lg_cmp l4_1 (0 : Int64) → x1.toInt ≤ 0 → R l6_1 l4_1 Listing_size_1 Listing_bytes_1 103 Listing_size_1 Listing_bytes_1) →
  (∀ (l6_1 : Int32) (l4_1 : Int64) (Listing_size_1 : Int32) (Listing_bytes_1 : Nat → Int32) (x1 : Int32) (x2 : Int64) (x3 : Int64) (x4 : Int64) (x5 : Int32) (x6 : Int32) (x7 : Int32) (x8 : Nat → Int32) (x9 : Int64) (x10 : Int32) (k : Nat) (e1 : Int32) (e2 : Nat → Int32), gB l6_1 0 10 → gB Listing_size_1 0 16384 → l6_1.toInt < 10 → x1 = lg_cmp l4_1 (0 : Int64) → 0 < x1.toInt → x2 = c1 / l4_1 → x3 = x2 - x2 / (10 : Int64) * (10 : Int64) → x4 = (48 : Int64) + x3 → x5 = x4.toInt32 → x6 = (x5.toUInt32 % 65536).toInt32 → gB x7 1 16384 → tr_Listing_addByte x6 Listing_size_1 Listing_bytes_1 x7 x8 → x9 = l4_1 / (10 : Int64) → x10.toInt = l6_1.toInt + 1 → R x10 x9 x7 x8 k e1 e2 → R l6_1 l4_1 Listing_size_1 Listing_bytes_1 k e1 e2) →
  R s1 s2 s3 s4 k e1 e2
/- tl_Listing_addNumber_57_2: l6, l4, Listing_size, Listing_bytes; out: Listing_size, Listing_bytes -/
def tl_Listing_addNumber_57_2 (c1 : Int64) (s1 : Int32) (s2 : Int64) (s3 : Int32) (s4 : Nat → Int32) (k : Nat) (e1 : Int32) (e2 : Nat → Int32) : Prop := ∀ R : (Int32) → (Int64) → (Int32) → (Nat → Int32) → Nat → (Int32) → (Nat → Int32) → Prop,
  (∀ (l6_1 : Int32) (l4_1 : Int64) (Listing_size_1 : Int32) (Listing_bytes_1 : Nat → Int32), gB l6_1 0 10 → gB Listing_size_1 0 16384 → 10 ≤ l6_1.toInt → R l6_1 l4_1 Listing_size_1 Listing_bytes_1 103 Listing_size_1 Listing_bytes_1) →
  (∀ (l6_1 : Int32) (l4_1 : Int64) (Listing_size_1 : Int32) (Listing_bytes_1 : Nat → Int32) (x1 : Int32), gB l6_1 0 10 → gB Listing_size_1 0 16384 → l6_1.toInt < 10 → x1 = lg_cmp l4_1 (0 : Int64) → x1.toInt ≤ 0 → R l6_1 l4_1 Listing_size_1 Listing_bytes_1 103 Listing_size_1 Listing_bytes_1) →
  (∀ (l6_1 : Int32) (l4_1 : Int64) (Listing_size_1 : Int32) (Listing_bytes_1 : Nat → Int32) (x1 : Int32) (x2 : Int64) (x3 : Int64) (x4 : Int64) (x5 : Int32) (x6 : Int32) (x7 : Int32) (x8 : Nat → Int32) (x9 : Int64) (x10 : Int32) (k : Nat) (e1 : Int32) (e2 : Nat → Int32), gB l6_1 0 10 → gB Listing_size_1 0 16384 → l6_1.toInt < 10 → x1 = lg_cmp l4_1 (0 : Int64) → 0 < x1.toInt → x2 = c1 / l4_1 → x3 = x2 - x2 / (10 : Int64) * (10 : Int64) → x4 = (48 : Int64) + x3 → x5 = x4.toInt32 → x6 = (x5.toUInt32 % 65536).toInt32 → gB x7 1 16384 → tr_Listing_addByte x6 Listing_size_1 Listing_bytes_1 x7 x8 → x9 = l4_1 / (10 : Int64) → x10.toInt = l6_1.toInt + 1 → R x10 x9 x7 x8 k e1 e2 → R l6_1 l4_1 Listing_size_1 Listing_bytes_1 k e1 e2) →
  R s1 s2 s3 s4 k e1 e2
/- tl_Listing_addNumber_22: l6, l4; out: l4 -/
def tl_Listing_addNumber_22 (c1 : Int64) (s1 : Int32) (s2 : Int64) (k : Nat) (e1 : Int64) : Prop := ∀ R : (Int32) → (Int64) → Nat → (Int64) → Prop,
  (∀ (l6_1 : Int32) (l4_1 : Int64), gB l6_1 0 9 → 9 ≤ l6_1.toInt → R l6_1 l4_1 54 l4_1) →
  (∀ (l6_1 : Int32) (l4_1 : Int64) (x1 : Int64) (x2 : Int32), gB l6_1 0 9 → l6_1.toInt < 9 → x1 = c1 / (10 : Int64) → x2 = lg_cmp l4_1 x1 → 0 < x2.toInt → R l6_1 l4_1 54 l4_1) →
  (∀ (l6_1 : Int32) (l4_1 : Int64) (x1 : Int64) (x2 : Int32) (x3 : Int64) (x4 : Int32) (k : Nat) (e1 : Int64), gB l6_1 0 9 → l6_1.toInt < 9 → x1 = c1 / (10 : Int64) → x2 = lg_cmp l4_1 x1 → x2.toInt ≤ 0 → x3 = l4_1 * (10 : Int64) → x4.toInt = l6_1.toInt + 1 → R x4 x3 k e1 → R l6_1 l4_1 k e1) →
  R s1 s2 k e1
/- tl_Listing_addNumber_57_3: l6, l4, Listing_size, Listing_bytes; out: Listing_size, Listing_bytes -/
def tl_Listing_addNumber_57_3 (c1 : Int64) (s1 : Int32) (s2 : Int64) (s3 : Int32) (s4 : Nat → Int32) (k : Nat) (e1 : Int32) (e2 : Nat → Int32) : Prop := ∀ R : (Int32) → (Int64) → (Int32) → (Nat → Int32) → Nat → (Int32) → (Nat → Int32) → Prop,
  (∀ (l6_1 : Int32) (l4_1 : Int64) (Listing_size_1 : Int32) (Listing_bytes_1 : Nat → Int32), gB l6_1 0 10 → gB Listing_size_1 0 16384 → 10 ≤ l6_1.toInt → R l6_1 l4_1 Listing_size_1 Listing_bytes_1 103 Listing_size_1 Listing_bytes_1) →
  (∀ (l6_1 : Int32) (l4_1 : Int64) (Listing_size_1 : Int32) (Listing_bytes_1 : Nat → Int32) (x1 : Int32), gB l6_1 0 10 → gB Listing_size_1 0 16384 → l6_1.toInt < 10 → x1 = lg_cmp l4_1 (0 : Int64) → x1.toInt ≤ 0 → R l6_1 l4_1 Listing_size_1 Listing_bytes_1 103 Listing_size_1 Listing_bytes_1) →
  (∀ (l6_1 : Int32) (l4_1 : Int64) (Listing_size_1 : Int32) (Listing_bytes_1 : Nat → Int32) (x1 : Int32) (x2 : Int64) (x3 : Int64) (x4 : Int64) (x5 : Int32) (x6 : Int32) (x7 : Int32) (x8 : Nat → Int32) (x9 : Int64) (x10 : Int32) (k : Nat) (e1 : Int32) (e2 : Nat → Int32), gB l6_1 0 10 → gB Listing_size_1 0 16384 → l6_1.toInt < 10 → x1 = lg_cmp l4_1 (0 : Int64) → 0 < x1.toInt → x2 = c1 / l4_1 → x3 = x2 - x2 / (10 : Int64) * (10 : Int64) → x4 = (48 : Int64) + x3 → x5 = x4.toInt32 → x6 = (x5.toUInt32 % 65536).toInt32 → gB x7 1 16384 → tr_Listing_addByte x6 Listing_size_1 Listing_bytes_1 x7 x8 → x9 = l4_1 / (10 : Int64) → x10.toInt = l6_1.toInt + 1 → R x10 x9 x7 x8 k e1 e2 → R l6_1 l4_1 Listing_size_1 Listing_bytes_1 k e1 e2) →
  R s1 s2 s3 s4 k e1 e2
/- tl_Listing_addNumber_57_4: l6, l4, Listing_size, Listing_bytes; out: Listing_size, Listing_bytes -/
def tl_Listing_addNumber_57_4 (c1 : Int64) (s1 : Int32) (s2 : Int64) (s3 : Int32) (s4 : Nat → Int32) (k : Nat) (e1 : Int32) (e2 : Nat → Int32) : Prop := ∀ R : (Int32) → (Int64) → (Int32) → (Nat → Int32) → Nat → (Int32) → (Nat → Int32) → Prop,
  (∀ (l6_1 : Int32) (l4_1 : Int64) (Listing_size_1 : Int32) (Listing_bytes_1 : Nat → Int32), gB l6_1 0 10 → gB Listing_size_1 0 16384 → 10 ≤ l6_1.toInt → R l6_1 l4_1 Listing_size_1 Listing_bytes_1 103 Listing_size_1 Listing_bytes_1) →
  (∀ (l6_1 : Int32) (l4_1 : Int64) (Listing_size_1 : Int32) (Listing_bytes_1 : Nat → Int32) (x1 : Int32), gB l6_1 0 10 → gB Listing_size_1 0 16384 → l6_1.toInt < 10 → x1 = lg_cmp l4_1 (0 : Int64) → x1.toInt ≤ 0 → R l6_1 l4_1 Listing_size_1 Listing_bytes_1 103 Listing_size_1 Listing_bytes_1) →
  (∀ (l6_1 : Int32) (l4_1 : Int64) (Listing_size_1 : Int32) (Listing_bytes_1 : Nat → Int32) (x1 : Int32) (x2 : Int64) (x3 : Int64) (x4 : Int64) (x5 : Int32) (x6 : Int32) (x7 : Int32) (x8 : Nat → Int32) (x9 : Int64) (x10 : Int32) (k : Nat) (e1 : Int32) (e2 : Nat → Int32), gB l6_1 0 10 → gB Listing_size_1 0 16384 → l6_1.toInt < 10 → x1 = lg_cmp l4_1 (0 : Int64) → 0 < x1.toInt → x2 = c1 / l4_1 → x3 = x2 - x2 / (10 : Int64) * (10 : Int64) → x4 = (48 : Int64) + x3 → x5 = x4.toInt32 → x6 = (x5.toUInt32 % 65536).toInt32 → gB x7 1 16384 → tr_Listing_addByte x6 Listing_size_1 Listing_bytes_1 x7 x8 → x9 = l4_1 / (10 : Int64) → x10.toInt = l6_1.toInt + 1 → R x10 x9 x7 x8 k e1 e2 → R l6_1 l4_1 Listing_size_1 Listing_bytes_1 k e1 e2) →
  R s1 s2 s3 s4 k e1 e2
/- tl_Listing_addNumber_22_2: l6, l4; out: l4 -/
def tl_Listing_addNumber_22_2 (c1 : Int64) (s1 : Int32) (s2 : Int64) (k : Nat) (e1 : Int64) : Prop := ∀ R : (Int32) → (Int64) → Nat → (Int64) → Prop,
  (∀ (l6_1 : Int32) (l4_1 : Int64), gB l6_1 0 9 → 9 ≤ l6_1.toInt → R l6_1 l4_1 54 l4_1) →
  (∀ (l6_1 : Int32) (l4_1 : Int64) (x1 : Int64) (x2 : Int32), gB l6_1 0 9 → l6_1.toInt < 9 → x1 = c1 / (10 : Int64) → x2 = lg_cmp l4_1 x1 → 0 < x2.toInt → R l6_1 l4_1 54 l4_1) →
  (∀ (l6_1 : Int32) (l4_1 : Int64) (x1 : Int64) (x2 : Int32) (x3 : Int64) (x4 : Int32) (k : Nat) (e1 : Int64), gB l6_1 0 9 → l6_1.toInt < 9 → x1 = c1 / (10 : Int64) → x2 = lg_cmp l4_1 x1 → x2.toInt ≤ 0 → x3 = l4_1 * (10 : Int64) → x4.toInt = l6_1.toInt + 1 → R x4 x3 k e1 → R l6_1 l4_1 k e1) →
  R s1 s2 k e1
/- tr_Listing_addNumber: Listing_size, Listing_bytes -/
def tr_Listing_addNumber (a1 : Int32) (Listing_size : Int32) (Listing_bytes : Nat → Int32) (o1 : Int32) (o2 : Nat → Int32) : Prop := ∀ R : (Int32) → (Nat → Int32) → Prop,
  (∀ (x1 : Int64) (x2 : Int64) (x3 : Int64) (x4 : Int32) (x5 : Nat → Int32), 0 ≤ a1.toInt → x1 = a1.toInt64 → tr_Math_abs x1 x2 → tl_Listing_addNumber_22 x2 (0 : Int32) (1 : Int64) 54 x3 → tl_Listing_addNumber_57 x2 (0 : Int32) x3 Listing_size Listing_bytes 103 x4 x5 → R x4 x5) →
  (∀ (x1 : Int64) (x2 : Int64) (x3 : Int64) (x4 : Int32) (x5 : Nat → Int32), 0 ≤ a1.toInt → x1 = a1.toInt64 → tr_Math_abs x1 x2 → tl_Listing_addNumber_22 x2 (0 : Int32) (1 : Int64) 54 x3 → tl_Listing_addNumber_57_2 x2 (0 : Int32) x3 Listing_size Listing_bytes 103 x4 x5 → R x4 x5) →
  (∀ (x1 : Int32) (x2 : Nat → Int32) (x3 : Int64) (x4 : Int64) (x5 : Int64) (x6 : Int32) (x7 : Nat → Int32), a1.toInt < 0 → gB x1 1 16384 → tr_Listing_addByte (45 : Int32) Listing_size Listing_bytes x1 x2 → x3 = a1.toInt64 → tr_Math_abs x3 x4 → tl_Listing_addNumber_22_2 x4 (0 : Int32) (1 : Int64) 54 x5 → tl_Listing_addNumber_57_3 x4 (0 : Int32) x5 x1 x2 103 x6 x7 → R x6 x7) →
  (∀ (x1 : Int32) (x2 : Nat → Int32) (x3 : Int64) (x4 : Int64) (x5 : Int64) (x6 : Int32) (x7 : Nat → Int32), a1.toInt < 0 → gB x1 1 16384 → tr_Listing_addByte (45 : Int32) Listing_size Listing_bytes x1 x2 → x3 = a1.toInt64 → tr_Math_abs x3 x4 → tl_Listing_addNumber_22_2 x4 (0 : Int32) (1 : Int64) 54 x5 → tl_Listing_addNumber_57_4 x4 (0 : Int32) x5 x1 x2 103 x6 x7 → R x6 x7) →
  R o1 o2
abbrev ky_7361_Listing_addNumber : gKey := (cX4_addNumber, 7, yX4_addNumber.cls, none, [], yX4_addNumber.name, fun _ _ => True)
abbrev po_7361_Listing_addNumber (I : FieldType → ClassId) (q7356 : Nat) (q7357 : Nat) (p7358 : Int32) (p7359 : Int32) (f7360 : Nat → Int32) : Option Value → va_W → Prop := fun r w => ∃ (o10132 : Int32) (f10133 : Nat → Int32), r = none ∧ w = [(q7356, .inr (9, [.ref q7357, .int o10132])), (q7357, .inl (I .byte, 16384, .inl f10133))] ∧ gB o10132 0 16384 ∧ gF f10133 (-128) 127 ∧ tr_Listing_addNumber p7358 p7359 f7360 o10132 f10133
set_option maxRecDepth 100000 in
set_option maxHeartbeats 4000000 in
theorem ct_7361_Listing_addNumber (l : Launch) (hl0 : l.stackTraces = false) (D : va_G) (I : FieldType → ClassId) (q7356 : Nat) (q7357 : Nat) (p7358 : Int32) (p7359 : Int32) (f7360 : Nat → Int32) (bp7359 : gB p7359 0 16384) (bf7360 : gF f7360 (-128) 127) : Ct (gV D I) l yX4_addNumber cX4_addNumber 7 none 1 21 0 0 [.ref q7356, .int p7358] [(q7356, .inr (9, [.ref q7357, .int p7359])), (q7357, .inl (I .byte, 16384, .inl f7360))] (po_7361_Listing_addNumber I q7356 q7357 p7358 p7359 f7360) gN := by
  refine Ct_of hl0 (by decide) (Nat.le_of_ble_eq_true rfl) ?_
  have bp7358 := gB_any p7358
  refine G_iload_n 1 d_cX4_addNumber_0 rfl ?_
  refine G_if_ge 10 d_cX4_addNumber_1 (by decide +kernel) (fun hc7362 => ?_) (fun hc7362 => ?_)
  · have r7363 : 0 ≤ p7358.toInt := gj_leL hc7362 (show Int32.toInt 0 = 0 by decide)
    have bp7358' : gB p7358 0 2147483647 := ⟨by omega, by omega⟩
    refine G_iload_n 1 d_cX4_addNumber_10 rfl ?_
    refine G_i2l d_cX4_addNumber_11 (G_namL fun u7364 hu7364 => ?_)
    refine G_callS (As := [.long u7364]) (wr := [(q7356, .inr (9, [.ref q7357, .int p7359])), (q7357, .inl (I .byte, 16384, .inl f7360))]) (gV_ok D I) (ct_7366_Math_abs l hl0 D I u7364 ) d_cX4_addNumber_12 ⟨w_6_179, w_1_6, w_6_181, by decide, rfl, (Nat.le_of_ble_eq_true rfl), (Nat.le_of_ble_eq_true rfl)⟩ w_6_180 [] [0, 1] rfl rfl rfl rfl (by decide) (Nat.le_of_ble_eq_true rfl) (Nat.le_of_ble_eq_true rfl) (Nat.le_of_ble_eq_true rfl) (fun r w hp => ?_) (fun _ _ _ z => z.elim)
    obtain ⟨ol7373, rfl, rfl, ht7374⟩ := hp
    change G _ _ _ _ _ _ _ (.long ol7373 :: _) _ _ _
    refine G_ws (ws' := [(q7356, .inr (9, [.ref q7357, .int p7359])), (q7357, .inl (I .byte, 16384, .inl f7360))]) (cs' := 0) (sl' := 0) rfl rfl rfl ?_
    refine G_lstore_n (L' := [(2, .long ol7373), (0, .ref q7356), (1, .int p7358)]) d_cX4_addNumber_15 (Nat.le_of_ble_eq_true rfl) rfl ?_
    refine G_lconst 1 d_cX4_addNumber_16 rfl ?_
    refine G_lstore (L' := [(4, .long 1), (2, .long ol7373), (0, .ref q7356), (1, .int p7358)]) d_cX4_addNumber_17 (Nat.le_of_ble_eq_true rfl) rfl ?_
    refine G_iconst 0 d_cX4_addNumber_19 (by decide +kernel) ?_
    refine G_istore (L' := [(6, .int 0), (4, .long 1), (2, .long ol7373), (0, .ref q7356), (1, .int p7358)]) d_cX4_addNumber_20 (Nat.le_of_ble_eq_true rfl) rfl ?_
    have hlp22_8473 : ∀ (n22_8473 : Nat) (g8472 : Int32) (gl8473 : Int64), gB g8472 0 9 → (∀ (k : Nat) (e1 : Int64), tl_Listing_addNumber_22 ol7373 g8472 gl8473 k e1 → tl_Listing_addNumber_22 ol7373 (0 : Int32) (1 : Int64) k e1) → ((10 : Int) - g8472.toInt).toNat < n22_8473 → G (gV D I) l (gRm 1 21 0 0) (gM (gV D I) (po_7361_Listing_addNumber I q7356 q7357 p7358 p7359 f7360) gN 0 0) ky_7361_Listing_addNumber 22 [(6, .int g8472), (4, .long gl8473), (2, .long ol7373), (0, .ref q7356), (1, .int p7358)] [] [(q7356, .inr (9, [.ref q7357, .int p7359])), (q7357, .inl (I .byte, 16384, .inl f7360))] 0 0 := by
      intro n22_8473
      induction n22_8473 with
      | zero => intro g8472 gl8473 bg8472 kt22_8473 hm22_8473; exact absurd hm22_8473 (Nat.not_lt_zero _)
      | succ n22_8473 ih22_8473 =>
        intro g8472 gl8473 bg8472 kt22_8473 hm22_8473
        refine G_iload 0 d_cX4_addNumber_22 rfl ?_
        refine G_bipush 9 d_cX4_addNumber_24 (by decide +kernel) ?_
        refine G_icmp_ge 54 d_cX4_addNumber_26 (by decide +kernel) (fun hc8474 => ?_) (fun hc8474 => ?_)
        · have r8475 : 9 ≤ g8472.toInt := gj_leL hc8474 (show Int32.toInt 9 = 9 by decide)
          have bg8472' : gB g8472 9 9 := ⟨by omega, by omega⟩
          have hx8476 : tl_Listing_addNumber_22 ol7373 (0 : Int32) (1 : Int64) 54 gl8473 := kt22_8473 54 gl8473 (fun R c1 c2 c3 => c1 g8472 gl8473 bg8472 r8475)
          refine G_iconst 0 d_cX4_addNumber_54 (by decide +kernel) ?_
          refine G_istore (L' := [(6, .int 0), (4, .long gl8473), (2, .long ol7373), (0, .ref q7356), (1, .int p7358)]) d_cX4_addNumber_55 (Nat.le_of_ble_eq_true rfl) rfl ?_
          have hlp57_8589 : ∀ (n57_8589 : Nat) (g8586 : Int32) (gl8587 : Int64) (g8588 : Int32) (f8589 : Nat → Int32), gB g8586 0 10 → gB g8588 0 16384 → gF f8589 (-128) 127 → (∀ (k : Nat) (e1 : Int32) (e2 : Nat → Int32), tl_Listing_addNumber_57 ol7373 g8586 gl8587 g8588 f8589 k e1 e2 → tl_Listing_addNumber_57 ol7373 (0 : Int32) gl8473 p7359 f7360 k e1 e2) → ((11 : Int) - g8586.toInt).toNat < n57_8589 → G (gV D I) l (gRm 1 21 0 0) (gM (gV D I) (po_7361_Listing_addNumber I q7356 q7357 p7358 p7359 f7360) gN 0 0) ky_7361_Listing_addNumber 57 [(6, .int g8586), (4, .long gl8587), (2, .long ol7373), (0, .ref q7356), (1, .int p7358)] [] [(q7356, .inr (9, [.ref q7357, .int g8588])), (q7357, .inl (I .byte, 16384, .inl f8589))] 0 0 := by
            intro n57_8589
            induction n57_8589 with
            | zero => intro g8586 gl8587 g8588 f8589 bg8586 bg8588 bf8589 kt57_8589 hm57_8589; exact absurd hm57_8589 (Nat.not_lt_zero _)
            | succ n57_8589 ih57_8589 =>
              intro g8586 gl8587 g8588 f8589 bg8586 bg8588 bf8589 kt57_8589 hm57_8589
              refine G_iload 0 d_cX4_addNumber_57 rfl ?_
              refine G_bipush 10 d_cX4_addNumber_59 (by decide +kernel) ?_
              refine G_icmp_ge 103 d_cX4_addNumber_61 (by decide +kernel) (fun hc8590 => ?_) (fun hc8590 => ?_)
              · have r8591 : 10 ≤ g8586.toInt := gj_leL hc8590 (show Int32.toInt 10 = 10 by decide)
                have bg8586' : gB g8586 10 10 := ⟨by omega, by omega⟩
                have hx8592 : tl_Listing_addNumber_57 ol7373 (0 : Int32) gl8473 p7359 f7360 103 g8588 f8589 := kt57_8589 103 g8588 f8589 (fun R c1 c2 c3 => c1 g8586 gl8587 g8588 f8589 bg8586 bg8588 r8591)
                exact G_vret d_cX4_addNumber_103 rfl (Nat.le_of_ble_eq_true rfl) (Nat.le_of_ble_eq_true rfl) ⟨g8588, f8589, rfl, rfl, bg8588, bf8589, (fun R c1 c2 c3 c4 => c1 u7364 ol7373 gl8473 g8588 f8589 r7363 hu7364 ht7374 hx8476 hx8592)⟩
              · have r8593 : g8586.toInt < 10 := gj_nleL hc8590 (show Int32.toInt 10 = 10 by decide)
                have bg8586' : gB g8586 0 9 := ⟨by omega, by omega⟩
                refine G_lload 1 d_cX4_addNumber_64 rfl ?_
                refine G_lconst 0 d_cX4_addNumber_66 rfl ?_
                refine G_lcmp d_cX4_addNumber_67 (G_nam fun z8594 hz8594 => ?_)
                have bz8594 : gB z8594 (-1) 1 := gB_cmp hz8594
                refine G_if_le 103 d_cX4_addNumber_68 (by decide +kernel) (fun hc8595 => ?_) (fun hc8595 => ?_)
                · have r8596 : z8594.toInt ≤ 0 := gj_le hc8595 (show Int32.toInt 0 = 0 by decide)
                  have bz8594' : gB z8594 (-1) 0 := ⟨by omega, by omega⟩
                  have hx8597 : tl_Listing_addNumber_57 ol7373 (0 : Int32) gl8473 p7359 f7360 103 g8588 f8589 := kt57_8589 103 g8588 f8589 (fun R c1 c2 c3 => c2 g8586 gl8587 g8588 f8589 z8594 bg8586 bg8588 r8593 hz8594 r8596)
                  exact G_vret d_cX4_addNumber_103 rfl (Nat.le_of_ble_eq_true rfl) (Nat.le_of_ble_eq_true rfl) ⟨g8588, f8589, rfl, rfl, bg8588, bf8589, (fun R c1 c2 c3 c4 => c1 u7364 ol7373 gl8473 g8588 f8589 r7363 hu7364 ht7374 hx8476 hx8597)⟩
                · have r8598 : 0 < z8594.toInt := gj_nle hc8595 (show Int32.toInt 0 = 0 by decide)
                  have bz8594' : gB z8594 1 1 := ⟨by omega, by omega⟩
                  have lhc8595 := gC_cmpS hz8594 (by omega)
                  refine G_aload_n 3 d_cX4_addNumber_71 rfl ?_
                  refine G_ldc2 48 d_cX4_addNumber_72 w_6_183 ?_
                  refine G_lload_n 2 d_cX4_addNumber_75 rfl ?_
                  refine G_lload 1 d_cX4_addNumber_76 rfl ?_
                  refine G_ldiv d_cX4_addNumber_78 lhc8595 (G_namL fun u8599 hu8599 => ?_)
                  refine G_ldc2 10 d_cX4_addNumber_79 w_6_182 ?_
                  refine G_lrem d_cX4_addNumber_82 (by decide) (G_namL fun u8600 hu8600 => ?_)
                  refine G_ladd d_cX4_addNumber_83 (G_namL fun u8601 hu8601 => ?_)
                  refine G_l2i d_cX4_addNumber_84 (G_nam fun z8602 hz8602 => ?_)
                  have bz8602 : gB z8602 (-2147483648) 2147483647 := gB_any z8602
                  refine G_i2c d_cX4_addNumber_85 (G_nam fun z8603 hz8603 => ?_)
                  have bz8603 : gB z8603 0 65535 := gB_i2c hz8603
                  refine G_callV (As := [.int z8603]) (wr := []) (gV_ok D I) (ct_7248_Listing_addByte l hl0 D I q7356 q7357 z8603 g8588 f8589 bz8603 bg8588 bf8589) d_cX4_addNumber_86 ⟨w_6_171, w_1_13, w_6_174, by decide, rfl, (Nat.le_of_ble_eq_true rfl), (Nat.le_of_ble_eq_true rfl)⟩ w_6_173 w_p_66 0 rfl rfl [0, 1] [] rfl rfl rfl rfl (by decide) (Nat.le_of_ble_eq_true rfl) (Nat.le_of_ble_eq_true rfl) (Nat.le_of_ble_eq_true rfl) (fun r w hp => ?_) (fun _ _ _ z => z.elim)
                  obtain ⟨o8604, f8605, rfl, rfl, bo8604, bf8605, ht8606⟩ := hp
                  change G _ _ _ _ _ _ _ _ _ _ _
                  refine G_ws (ws' := [(q7356, .inr (9, [.ref q7357, .int o8604])), (q7357, .inl (I .byte, 16384, .inl f8605))]) (cs' := 0) (sl' := 0) rfl rfl rfl ?_
                  refine G_lload 1 d_cX4_addNumber_89 rfl ?_
                  refine G_ldc2 10 d_cX4_addNumber_91 w_6_182 ?_
                  refine G_ldiv d_cX4_addNumber_94 (by decide) (G_namL fun u8607 hu8607 => ?_)
                  refine G_lstore (L' := [(4, .long u8607), (6, .int g8586), (2, .long ol7373), (0, .ref q7356), (1, .int p7358)]) d_cX4_addNumber_95 (Nat.le_of_ble_eq_true rfl) rfl ?_
                  obtain ⟨z8608, hz8608⟩ : ∃ z : Int32, z = g8586 + Int32.ofInt 1 := ⟨_, rfl⟩
                  have ez8608 : z8608.toInt = g8586.toInt + 1 := gI_inc hz8608 (by decide) bg8586' (by decide) (by decide)
                  have bz8608 : gB z8608 1 10 := ⟨by omega, by omega⟩
                  refine G_iinc (L' := [(6, .int z8608), (4, .long u8607), (2, .long ol7373), (0, .ref q7356), (1, .int p7358)]) z8608 1 d_cX4_addNumber_97 rfl hz8608.symm (Nat.le_of_ble_eq_true rfl) rfl ?_
                  refine G_goto 57 d_cX4_addNumber_100 (by decide +kernel) ?_
                  exact ih57_8589 z8608 u8607 o8604 f8605 (gB_w bz8608 (by decide) (by decide)) (gB_w bo8604 (by decide) (by decide)) bf8605 (fun k e1 e2 ht => kt57_8589 k e1 e2 (fun R c1 c2 c3 => c3 g8586 gl8587 g8588 f8589 z8594 u8599 u8600 u8601 z8602 z8603 o8604 f8605 u8607 z8608 k e1 e2 bg8586 bg8588 r8593 hz8594 r8598 hu8599 hu8600 hu8601 hz8602 hz8603 bo8604 ht8606 hu8607 ez8608 (ht R c1 c2 c3))) (by omega)
          exact hlp57_8589 (((11 : Int) - 0).toNat + 1) 0 gl8473 p7359 f7360 (gB_w (gBl (show Int32.toInt 0 = 0 by decide)) (by decide) (by decide)) bp7359 bf7360 (fun k e1 e2 ht => ht) (Nat.lt_succ_self _)
        · have r8609 : g8472.toInt < 9 := gj_nleL hc8474 (show Int32.toInt 9 = 9 by decide)
          have bg8472' : gB g8472 0 8 := ⟨by omega, by omega⟩
          refine G_lload 1 d_cX4_addNumber_29 rfl ?_
          refine G_lload_n 2 d_cX4_addNumber_31 rfl ?_
          refine G_ldc2 10 d_cX4_addNumber_32 w_6_182 ?_
          refine G_ldiv d_cX4_addNumber_35 (by decide) (G_namL fun u8610 hu8610 => ?_)
          refine G_lcmp d_cX4_addNumber_36 (G_nam fun z8611 hz8611 => ?_)
          have bz8611 : gB z8611 (-1) 1 := gB_cmp hz8611
          refine G_if_gt 54 d_cX4_addNumber_37 (by decide +kernel) (fun hc8612 => ?_) (fun hc8612 => ?_)
          · have r8613 : 0 < z8611.toInt := gj_ltL hc8612 (show Int32.toInt 0 = 0 by decide)
            have bz8611' : gB z8611 1 1 := ⟨by omega, by omega⟩
            have lhc8612 := gC_cmpS hz8611 (by omega)
            have hx8614 : tl_Listing_addNumber_22 ol7373 (0 : Int32) (1 : Int64) 54 gl8473 := kt22_8473 54 gl8473 (fun R c1 c2 c3 => c2 g8472 gl8473 u8610 z8611 bg8472 r8609 hu8610 hz8611 r8613)
            refine G_iconst 0 d_cX4_addNumber_54 (by decide +kernel) ?_
            refine G_istore (L' := [(6, .int 0), (4, .long gl8473), (2, .long ol7373), (0, .ref q7356), (1, .int p7358)]) d_cX4_addNumber_55 (Nat.le_of_ble_eq_true rfl) rfl ?_
            have hlp57_8727 : ∀ (n57_8727 : Nat) (g8724 : Int32) (gl8725 : Int64) (g8726 : Int32) (f8727 : Nat → Int32), gB g8724 0 10 → gB g8726 0 16384 → gF f8727 (-128) 127 → (∀ (k : Nat) (e1 : Int32) (e2 : Nat → Int32), tl_Listing_addNumber_57_2 ol7373 g8724 gl8725 g8726 f8727 k e1 e2 → tl_Listing_addNumber_57_2 ol7373 (0 : Int32) gl8473 p7359 f7360 k e1 e2) → ((11 : Int) - g8724.toInt).toNat < n57_8727 → G (gV D I) l (gRm 1 21 0 0) (gM (gV D I) (po_7361_Listing_addNumber I q7356 q7357 p7358 p7359 f7360) gN 0 0) ky_7361_Listing_addNumber 57 [(6, .int g8724), (4, .long gl8725), (2, .long ol7373), (0, .ref q7356), (1, .int p7358)] [] [(q7356, .inr (9, [.ref q7357, .int g8726])), (q7357, .inl (I .byte, 16384, .inl f8727))] 0 0 := by
              intro n57_8727
              induction n57_8727 with
              | zero => intro g8724 gl8725 g8726 f8727 bg8724 bg8726 bf8727 kt57_8727 hm57_8727; exact absurd hm57_8727 (Nat.not_lt_zero _)
              | succ n57_8727 ih57_8727 =>
                intro g8724 gl8725 g8726 f8727 bg8724 bg8726 bf8727 kt57_8727 hm57_8727
                refine G_iload 0 d_cX4_addNumber_57 rfl ?_
                refine G_bipush 10 d_cX4_addNumber_59 (by decide +kernel) ?_
                refine G_icmp_ge 103 d_cX4_addNumber_61 (by decide +kernel) (fun hc8728 => ?_) (fun hc8728 => ?_)
                · have r8729 : 10 ≤ g8724.toInt := gj_leL hc8728 (show Int32.toInt 10 = 10 by decide)
                  have bg8724' : gB g8724 10 10 := ⟨by omega, by omega⟩
                  have hx8730 : tl_Listing_addNumber_57_2 ol7373 (0 : Int32) gl8473 p7359 f7360 103 g8726 f8727 := kt57_8727 103 g8726 f8727 (fun R c1 c2 c3 => c1 g8724 gl8725 g8726 f8727 bg8724 bg8726 r8729)
                  exact G_vret d_cX4_addNumber_103 rfl (Nat.le_of_ble_eq_true rfl) (Nat.le_of_ble_eq_true rfl) ⟨g8726, f8727, rfl, rfl, bg8726, bf8727, (fun R c1 c2 c3 c4 => c2 u7364 ol7373 gl8473 g8726 f8727 r7363 hu7364 ht7374 hx8614 hx8730)⟩
                · have r8731 : g8724.toInt < 10 := gj_nleL hc8728 (show Int32.toInt 10 = 10 by decide)
                  have bg8724' : gB g8724 0 9 := ⟨by omega, by omega⟩
                  refine G_lload 1 d_cX4_addNumber_64 rfl ?_
                  refine G_lconst 0 d_cX4_addNumber_66 rfl ?_
                  refine G_lcmp d_cX4_addNumber_67 (G_nam fun z8732 hz8732 => ?_)
                  have bz8732 : gB z8732 (-1) 1 := gB_cmp hz8732
                  refine G_if_le 103 d_cX4_addNumber_68 (by decide +kernel) (fun hc8733 => ?_) (fun hc8733 => ?_)
                  · have r8734 : z8732.toInt ≤ 0 := gj_le hc8733 (show Int32.toInt 0 = 0 by decide)
                    have bz8732' : gB z8732 (-1) 0 := ⟨by omega, by omega⟩
                    have hx8735 : tl_Listing_addNumber_57_2 ol7373 (0 : Int32) gl8473 p7359 f7360 103 g8726 f8727 := kt57_8727 103 g8726 f8727 (fun R c1 c2 c3 => c2 g8724 gl8725 g8726 f8727 z8732 bg8724 bg8726 r8731 hz8732 r8734)
                    exact G_vret d_cX4_addNumber_103 rfl (Nat.le_of_ble_eq_true rfl) (Nat.le_of_ble_eq_true rfl) ⟨g8726, f8727, rfl, rfl, bg8726, bf8727, (fun R c1 c2 c3 c4 => c2 u7364 ol7373 gl8473 g8726 f8727 r7363 hu7364 ht7374 hx8614 hx8735)⟩
                  · have r8736 : 0 < z8732.toInt := gj_nle hc8733 (show Int32.toInt 0 = 0 by decide)
                    have bz8732' : gB z8732 1 1 := ⟨by omega, by omega⟩
                    have lhc8733 := gC_cmpS hz8732 (by omega)
                    refine G_aload_n 3 d_cX4_addNumber_71 rfl ?_
                    refine G_ldc2 48 d_cX4_addNumber_72 w_6_183 ?_
                    refine G_lload_n 2 d_cX4_addNumber_75 rfl ?_
                    refine G_lload 1 d_cX4_addNumber_76 rfl ?_
                    refine G_ldiv d_cX4_addNumber_78 lhc8733 (G_namL fun u8737 hu8737 => ?_)
                    refine G_ldc2 10 d_cX4_addNumber_79 w_6_182 ?_
                    refine G_lrem d_cX4_addNumber_82 (by decide) (G_namL fun u8738 hu8738 => ?_)
                    refine G_ladd d_cX4_addNumber_83 (G_namL fun u8739 hu8739 => ?_)
                    refine G_l2i d_cX4_addNumber_84 (G_nam fun z8740 hz8740 => ?_)
                    have bz8740 : gB z8740 (-2147483648) 2147483647 := gB_any z8740
                    refine G_i2c d_cX4_addNumber_85 (G_nam fun z8741 hz8741 => ?_)
                    have bz8741 : gB z8741 0 65535 := gB_i2c hz8741
                    refine G_callV (As := [.int z8741]) (wr := []) (gV_ok D I) (ct_7248_Listing_addByte l hl0 D I q7356 q7357 z8741 g8726 f8727 bz8741 bg8726 bf8727) d_cX4_addNumber_86 ⟨w_6_171, w_1_13, w_6_174, by decide, rfl, (Nat.le_of_ble_eq_true rfl), (Nat.le_of_ble_eq_true rfl)⟩ w_6_173 w_p_66 0 rfl rfl [0, 1] [] rfl rfl rfl rfl (by decide) (Nat.le_of_ble_eq_true rfl) (Nat.le_of_ble_eq_true rfl) (Nat.le_of_ble_eq_true rfl) (fun r w hp => ?_) (fun _ _ _ z => z.elim)
                    obtain ⟨o8742, f8743, rfl, rfl, bo8742, bf8743, ht8744⟩ := hp
                    change G _ _ _ _ _ _ _ _ _ _ _
                    refine G_ws (ws' := [(q7356, .inr (9, [.ref q7357, .int o8742])), (q7357, .inl (I .byte, 16384, .inl f8743))]) (cs' := 0) (sl' := 0) rfl rfl rfl ?_
                    refine G_lload 1 d_cX4_addNumber_89 rfl ?_
                    refine G_ldc2 10 d_cX4_addNumber_91 w_6_182 ?_
                    refine G_ldiv d_cX4_addNumber_94 (by decide) (G_namL fun u8745 hu8745 => ?_)
                    refine G_lstore (L' := [(4, .long u8745), (6, .int g8724), (2, .long ol7373), (0, .ref q7356), (1, .int p7358)]) d_cX4_addNumber_95 (Nat.le_of_ble_eq_true rfl) rfl ?_
                    obtain ⟨z8746, hz8746⟩ : ∃ z : Int32, z = g8724 + Int32.ofInt 1 := ⟨_, rfl⟩
                    have ez8746 : z8746.toInt = g8724.toInt + 1 := gI_inc hz8746 (by decide) bg8724' (by decide) (by decide)
                    have bz8746 : gB z8746 1 10 := ⟨by omega, by omega⟩
                    refine G_iinc (L' := [(6, .int z8746), (4, .long u8745), (2, .long ol7373), (0, .ref q7356), (1, .int p7358)]) z8746 1 d_cX4_addNumber_97 rfl hz8746.symm (Nat.le_of_ble_eq_true rfl) rfl ?_
                    refine G_goto 57 d_cX4_addNumber_100 (by decide +kernel) ?_
                    exact ih57_8727 z8746 u8745 o8742 f8743 (gB_w bz8746 (by decide) (by decide)) (gB_w bo8742 (by decide) (by decide)) bf8743 (fun k e1 e2 ht => kt57_8727 k e1 e2 (fun R c1 c2 c3 => c3 g8724 gl8725 g8726 f8727 z8732 u8737 u8738 u8739 z8740 z8741 o8742 f8743 u8745 z8746 k e1 e2 bg8724 bg8726 r8731 hz8732 r8736 hu8737 hu8738 hu8739 hz8740 hz8741 bo8742 ht8744 hu8745 ez8746 (ht R c1 c2 c3))) (by omega)
            exact hlp57_8727 (((11 : Int) - 0).toNat + 1) 0 gl8473 p7359 f7360 (gB_w (gBl (show Int32.toInt 0 = 0 by decide)) (by decide) (by decide)) bp7359 bf7360 (fun k e1 e2 ht => ht) (Nat.lt_succ_self _)
          · have r8747 : z8611.toInt ≤ 0 := gj_nltL hc8612 (show Int32.toInt 0 = 0 by decide)
            have bz8611' : gB z8611 (-1) 0 := ⟨by omega, by omega⟩
            refine G_lload 1 d_cX4_addNumber_40 rfl ?_
            refine G_ldc2 10 d_cX4_addNumber_42 w_6_182 ?_
            refine G_lmul d_cX4_addNumber_45 (G_namL fun u8748 hu8748 => ?_)
            refine G_lstore (L' := [(4, .long u8748), (6, .int g8472), (2, .long ol7373), (0, .ref q7356), (1, .int p7358)]) d_cX4_addNumber_46 (Nat.le_of_ble_eq_true rfl) rfl ?_
            obtain ⟨z8749, hz8749⟩ : ∃ z : Int32, z = g8472 + Int32.ofInt 1 := ⟨_, rfl⟩
            have ez8749 : z8749.toInt = g8472.toInt + 1 := gI_inc hz8749 (by decide) bg8472' (by decide) (by decide)
            have bz8749 : gB z8749 1 9 := ⟨by omega, by omega⟩
            refine G_iinc (L' := [(6, .int z8749), (4, .long u8748), (2, .long ol7373), (0, .ref q7356), (1, .int p7358)]) z8749 1 d_cX4_addNumber_48 rfl hz8749.symm (Nat.le_of_ble_eq_true rfl) rfl ?_
            refine G_goto 22 d_cX4_addNumber_51 (by decide +kernel) ?_
            exact ih22_8473 z8749 u8748 (gB_w bz8749 (by decide) (by decide)) (fun k e1 ht => kt22_8473 k e1 (fun R c1 c2 c3 => c3 g8472 gl8473 u8610 z8611 u8748 z8749 k e1 bg8472 r8609 hu8610 hz8611 r8747 hu8748 ez8749 (ht R c1 c2 c3))) (by omega)
    exact hlp22_8473 (((10 : Int) - 0).toNat + 1) 0 1 (gB_w (gBl (show Int32.toInt 0 = 0 by decide)) (by decide) (by decide)) (fun k e1 ht => ht) (Nat.lt_succ_self _)
  · have r8750 : p7358.toInt < 0 := gj_nleL hc7362 (show Int32.toInt 0 = 0 by decide)
    have bp7358' : gB p7358 (-2147483648) (-1) := ⟨by omega, by omega⟩
    refine G_aload_n 0 d_cX4_addNumber_4 rfl ?_
    refine G_bipush 45 d_cX4_addNumber_5 (by decide +kernel) ?_
    refine G_callV (As := [.int 45]) (wr := []) (gV_ok D I) (ct_7248_Listing_addByte l hl0 D I q7356 q7357 45 p7359 f7360 (gB_w (gBl (show Int32.toInt 45 = 45 by decide)) (by decide) (by decide)) bp7359 bf7360) d_cX4_addNumber_7 ⟨w_6_171, w_1_13, w_6_174, by decide, rfl, (Nat.le_of_ble_eq_true rfl), (Nat.le_of_ble_eq_true rfl)⟩ w_6_173 w_p_66 0 rfl rfl [0, 1] [] rfl rfl rfl rfl (by decide) (Nat.le_of_ble_eq_true rfl) (Nat.le_of_ble_eq_true rfl) (Nat.le_of_ble_eq_true rfl) (fun r w hp => ?_) (fun _ _ _ z => z.elim)
    obtain ⟨o8751, f8752, rfl, rfl, bo8751, bf8752, ht8753⟩ := hp
    change G _ _ _ _ _ _ _ _ _ _ _
    refine G_ws (ws' := [(q7356, .inr (9, [.ref q7357, .int o8751])), (q7357, .inl (I .byte, 16384, .inl f8752))]) (cs' := 0) (sl' := 0) rfl rfl rfl ?_
    refine G_iload_n 1 d_cX4_addNumber_10 rfl ?_
    refine G_i2l d_cX4_addNumber_11 (G_namL fun u8754 hu8754 => ?_)
    refine G_callS (As := [.long u8754]) (wr := [(q7356, .inr (9, [.ref q7357, .int o8751])), (q7357, .inl (I .byte, 16384, .inl f8752))]) (gV_ok D I) (ct_7366_Math_abs l hl0 D I u8754 ) d_cX4_addNumber_12 ⟨w_6_179, w_1_6, w_6_181, by decide, rfl, (Nat.le_of_ble_eq_true rfl), (Nat.le_of_ble_eq_true rfl)⟩ w_6_180 [] [0, 1] rfl rfl rfl rfl (by decide) (Nat.le_of_ble_eq_true rfl) (Nat.le_of_ble_eq_true rfl) (Nat.le_of_ble_eq_true rfl) (fun r w hp => ?_) (fun _ _ _ z => z.elim)
    obtain ⟨ol8755, rfl, rfl, ht8756⟩ := hp
    change G _ _ _ _ _ _ _ (.long ol8755 :: _) _ _ _
    refine G_ws (ws' := [(q7356, .inr (9, [.ref q7357, .int o8751])), (q7357, .inl (I .byte, 16384, .inl f8752))]) (cs' := 0) (sl' := 0) rfl rfl rfl ?_
    refine G_lstore_n (L' := [(2, .long ol8755), (0, .ref q7356), (1, .int p7358)]) d_cX4_addNumber_15 (Nat.le_of_ble_eq_true rfl) rfl ?_
    refine G_lconst 1 d_cX4_addNumber_16 rfl ?_
    refine G_lstore (L' := [(4, .long 1), (2, .long ol8755), (0, .ref q7356), (1, .int p7358)]) d_cX4_addNumber_17 (Nat.le_of_ble_eq_true rfl) rfl ?_
    refine G_iconst 0 d_cX4_addNumber_19 (by decide +kernel) ?_
    refine G_istore (L' := [(6, .int 0), (4, .long 1), (2, .long ol8755), (0, .ref q7356), (1, .int p7358)]) d_cX4_addNumber_20 (Nat.le_of_ble_eq_true rfl) rfl ?_
    have hlp22_9855 : ∀ (n22_9855 : Nat) (g9854 : Int32) (gl9855 : Int64), gB g9854 0 9 → (∀ (k : Nat) (e1 : Int64), tl_Listing_addNumber_22_2 ol8755 g9854 gl9855 k e1 → tl_Listing_addNumber_22_2 ol8755 (0 : Int32) (1 : Int64) k e1) → ((10 : Int) - g9854.toInt).toNat < n22_9855 → G (gV D I) l (gRm 1 21 0 0) (gM (gV D I) (po_7361_Listing_addNumber I q7356 q7357 p7358 p7359 f7360) gN 0 0) ky_7361_Listing_addNumber 22 [(6, .int g9854), (4, .long gl9855), (2, .long ol8755), (0, .ref q7356), (1, .int p7358)] [] [(q7356, .inr (9, [.ref q7357, .int o8751])), (q7357, .inl (I .byte, 16384, .inl f8752))] 0 0 := by
      intro n22_9855
      induction n22_9855 with
      | zero => intro g9854 gl9855 bg9854 kt22_9855 hm22_9855; exact absurd hm22_9855 (Nat.not_lt_zero _)
      | succ n22_9855 ih22_9855 =>
        intro g9854 gl9855 bg9854 kt22_9855 hm22_9855
        refine G_iload 0 d_cX4_addNumber_22 rfl ?_
        refine G_bipush 9 d_cX4_addNumber_24 (by decide +kernel) ?_
        refine G_icmp_ge 54 d_cX4_addNumber_26 (by decide +kernel) (fun hc9856 => ?_) (fun hc9856 => ?_)
        · have r9857 : 9 ≤ g9854.toInt := gj_leL hc9856 (show Int32.toInt 9 = 9 by decide)
          have bg9854' : gB g9854 9 9 := ⟨by omega, by omega⟩
          have hx9858 : tl_Listing_addNumber_22_2 ol8755 (0 : Int32) (1 : Int64) 54 gl9855 := kt22_9855 54 gl9855 (fun R c1 c2 c3 => c1 g9854 gl9855 bg9854 r9857)
          refine G_iconst 0 d_cX4_addNumber_54 (by decide +kernel) ?_
          refine G_istore (L' := [(6, .int 0), (4, .long gl9855), (2, .long ol8755), (0, .ref q7356), (1, .int p7358)]) d_cX4_addNumber_55 (Nat.le_of_ble_eq_true rfl) rfl ?_
          have hlp57_9971 : ∀ (n57_9971 : Nat) (g9968 : Int32) (gl9969 : Int64) (g9970 : Int32) (f9971 : Nat → Int32), gB g9968 0 10 → gB g9970 0 16384 → gF f9971 (-128) 127 → (∀ (k : Nat) (e1 : Int32) (e2 : Nat → Int32), tl_Listing_addNumber_57_3 ol8755 g9968 gl9969 g9970 f9971 k e1 e2 → tl_Listing_addNumber_57_3 ol8755 (0 : Int32) gl9855 o8751 f8752 k e1 e2) → ((11 : Int) - g9968.toInt).toNat < n57_9971 → G (gV D I) l (gRm 1 21 0 0) (gM (gV D I) (po_7361_Listing_addNumber I q7356 q7357 p7358 p7359 f7360) gN 0 0) ky_7361_Listing_addNumber 57 [(6, .int g9968), (4, .long gl9969), (2, .long ol8755), (0, .ref q7356), (1, .int p7358)] [] [(q7356, .inr (9, [.ref q7357, .int g9970])), (q7357, .inl (I .byte, 16384, .inl f9971))] 0 0 := by
            intro n57_9971
            induction n57_9971 with
            | zero => intro g9968 gl9969 g9970 f9971 bg9968 bg9970 bf9971 kt57_9971 hm57_9971; exact absurd hm57_9971 (Nat.not_lt_zero _)
            | succ n57_9971 ih57_9971 =>
              intro g9968 gl9969 g9970 f9971 bg9968 bg9970 bf9971 kt57_9971 hm57_9971
              refine G_iload 0 d_cX4_addNumber_57 rfl ?_
              refine G_bipush 10 d_cX4_addNumber_59 (by decide +kernel) ?_
              refine G_icmp_ge 103 d_cX4_addNumber_61 (by decide +kernel) (fun hc9972 => ?_) (fun hc9972 => ?_)
              · have r9973 : 10 ≤ g9968.toInt := gj_leL hc9972 (show Int32.toInt 10 = 10 by decide)
                have bg9968' : gB g9968 10 10 := ⟨by omega, by omega⟩
                have hx9974 : tl_Listing_addNumber_57_3 ol8755 (0 : Int32) gl9855 o8751 f8752 103 g9970 f9971 := kt57_9971 103 g9970 f9971 (fun R c1 c2 c3 => c1 g9968 gl9969 g9970 f9971 bg9968 bg9970 r9973)
                exact G_vret d_cX4_addNumber_103 rfl (Nat.le_of_ble_eq_true rfl) (Nat.le_of_ble_eq_true rfl) ⟨g9970, f9971, rfl, rfl, bg9970, bf9971, (fun R c1 c2 c3 c4 => c3 o8751 f8752 u8754 ol8755 gl9855 g9970 f9971 r8750 bo8751 ht8753 hu8754 ht8756 hx9858 hx9974)⟩
              · have r9975 : g9968.toInt < 10 := gj_nleL hc9972 (show Int32.toInt 10 = 10 by decide)
                have bg9968' : gB g9968 0 9 := ⟨by omega, by omega⟩
                refine G_lload 1 d_cX4_addNumber_64 rfl ?_
                refine G_lconst 0 d_cX4_addNumber_66 rfl ?_
                refine G_lcmp d_cX4_addNumber_67 (G_nam fun z9976 hz9976 => ?_)
                have bz9976 : gB z9976 (-1) 1 := gB_cmp hz9976
                refine G_if_le 103 d_cX4_addNumber_68 (by decide +kernel) (fun hc9977 => ?_) (fun hc9977 => ?_)
                · have r9978 : z9976.toInt ≤ 0 := gj_le hc9977 (show Int32.toInt 0 = 0 by decide)
                  have bz9976' : gB z9976 (-1) 0 := ⟨by omega, by omega⟩
                  have hx9979 : tl_Listing_addNumber_57_3 ol8755 (0 : Int32) gl9855 o8751 f8752 103 g9970 f9971 := kt57_9971 103 g9970 f9971 (fun R c1 c2 c3 => c2 g9968 gl9969 g9970 f9971 z9976 bg9968 bg9970 r9975 hz9976 r9978)
                  exact G_vret d_cX4_addNumber_103 rfl (Nat.le_of_ble_eq_true rfl) (Nat.le_of_ble_eq_true rfl) ⟨g9970, f9971, rfl, rfl, bg9970, bf9971, (fun R c1 c2 c3 c4 => c3 o8751 f8752 u8754 ol8755 gl9855 g9970 f9971 r8750 bo8751 ht8753 hu8754 ht8756 hx9858 hx9979)⟩
                · have r9980 : 0 < z9976.toInt := gj_nle hc9977 (show Int32.toInt 0 = 0 by decide)
                  have bz9976' : gB z9976 1 1 := ⟨by omega, by omega⟩
                  have lhc9977 := gC_cmpS hz9976 (by omega)
                  refine G_aload_n 3 d_cX4_addNumber_71 rfl ?_
                  refine G_ldc2 48 d_cX4_addNumber_72 w_6_183 ?_
                  refine G_lload_n 2 d_cX4_addNumber_75 rfl ?_
                  refine G_lload 1 d_cX4_addNumber_76 rfl ?_
                  refine G_ldiv d_cX4_addNumber_78 lhc9977 (G_namL fun u9981 hu9981 => ?_)
                  refine G_ldc2 10 d_cX4_addNumber_79 w_6_182 ?_
                  refine G_lrem d_cX4_addNumber_82 (by decide) (G_namL fun u9982 hu9982 => ?_)
                  refine G_ladd d_cX4_addNumber_83 (G_namL fun u9983 hu9983 => ?_)
                  refine G_l2i d_cX4_addNumber_84 (G_nam fun z9984 hz9984 => ?_)
                  have bz9984 : gB z9984 (-2147483648) 2147483647 := gB_any z9984
                  refine G_i2c d_cX4_addNumber_85 (G_nam fun z9985 hz9985 => ?_)
                  have bz9985 : gB z9985 0 65535 := gB_i2c hz9985
                  refine G_callV (As := [.int z9985]) (wr := []) (gV_ok D I) (ct_7248_Listing_addByte l hl0 D I q7356 q7357 z9985 g9970 f9971 bz9985 bg9970 bf9971) d_cX4_addNumber_86 ⟨w_6_171, w_1_13, w_6_174, by decide, rfl, (Nat.le_of_ble_eq_true rfl), (Nat.le_of_ble_eq_true rfl)⟩ w_6_173 w_p_66 0 rfl rfl [0, 1] [] rfl rfl rfl rfl (by decide) (Nat.le_of_ble_eq_true rfl) (Nat.le_of_ble_eq_true rfl) (Nat.le_of_ble_eq_true rfl) (fun r w hp => ?_) (fun _ _ _ z => z.elim)
                  obtain ⟨o9986, f9987, rfl, rfl, bo9986, bf9987, ht9988⟩ := hp
                  change G _ _ _ _ _ _ _ _ _ _ _
                  refine G_ws (ws' := [(q7356, .inr (9, [.ref q7357, .int o9986])), (q7357, .inl (I .byte, 16384, .inl f9987))]) (cs' := 0) (sl' := 0) rfl rfl rfl ?_
                  refine G_lload 1 d_cX4_addNumber_89 rfl ?_
                  refine G_ldc2 10 d_cX4_addNumber_91 w_6_182 ?_
                  refine G_ldiv d_cX4_addNumber_94 (by decide) (G_namL fun u9989 hu9989 => ?_)
                  refine G_lstore (L' := [(4, .long u9989), (6, .int g9968), (2, .long ol8755), (0, .ref q7356), (1, .int p7358)]) d_cX4_addNumber_95 (Nat.le_of_ble_eq_true rfl) rfl ?_
                  obtain ⟨z9990, hz9990⟩ : ∃ z : Int32, z = g9968 + Int32.ofInt 1 := ⟨_, rfl⟩
                  have ez9990 : z9990.toInt = g9968.toInt + 1 := gI_inc hz9990 (by decide) bg9968' (by decide) (by decide)
                  have bz9990 : gB z9990 1 10 := ⟨by omega, by omega⟩
                  refine G_iinc (L' := [(6, .int z9990), (4, .long u9989), (2, .long ol8755), (0, .ref q7356), (1, .int p7358)]) z9990 1 d_cX4_addNumber_97 rfl hz9990.symm (Nat.le_of_ble_eq_true rfl) rfl ?_
                  refine G_goto 57 d_cX4_addNumber_100 (by decide +kernel) ?_
                  exact ih57_9971 z9990 u9989 o9986 f9987 (gB_w bz9990 (by decide) (by decide)) (gB_w bo9986 (by decide) (by decide)) bf9987 (fun k e1 e2 ht => kt57_9971 k e1 e2 (fun R c1 c2 c3 => c3 g9968 gl9969 g9970 f9971 z9976 u9981 u9982 u9983 z9984 z9985 o9986 f9987 u9989 z9990 k e1 e2 bg9968 bg9970 r9975 hz9976 r9980 hu9981 hu9982 hu9983 hz9984 hz9985 bo9986 ht9988 hu9989 ez9990 (ht R c1 c2 c3))) (by omega)
          exact hlp57_9971 (((11 : Int) - 0).toNat + 1) 0 gl9855 o8751 f8752 (gB_w (gBl (show Int32.toInt 0 = 0 by decide)) (by decide) (by decide)) (gB_w bo8751 (by decide) (by decide)) bf8752 (fun k e1 e2 ht => ht) (Nat.lt_succ_self _)
        · have r9991 : g9854.toInt < 9 := gj_nleL hc9856 (show Int32.toInt 9 = 9 by decide)
          have bg9854' : gB g9854 0 8 := ⟨by omega, by omega⟩
          refine G_lload 1 d_cX4_addNumber_29 rfl ?_
          refine G_lload_n 2 d_cX4_addNumber_31 rfl ?_
          refine G_ldc2 10 d_cX4_addNumber_32 w_6_182 ?_
          refine G_ldiv d_cX4_addNumber_35 (by decide) (G_namL fun u9992 hu9992 => ?_)
          refine G_lcmp d_cX4_addNumber_36 (G_nam fun z9993 hz9993 => ?_)
          have bz9993 : gB z9993 (-1) 1 := gB_cmp hz9993
          refine G_if_gt 54 d_cX4_addNumber_37 (by decide +kernel) (fun hc9994 => ?_) (fun hc9994 => ?_)
          · have r9995 : 0 < z9993.toInt := gj_ltL hc9994 (show Int32.toInt 0 = 0 by decide)
            have bz9993' : gB z9993 1 1 := ⟨by omega, by omega⟩
            have lhc9994 := gC_cmpS hz9993 (by omega)
            have hx9996 : tl_Listing_addNumber_22_2 ol8755 (0 : Int32) (1 : Int64) 54 gl9855 := kt22_9855 54 gl9855 (fun R c1 c2 c3 => c2 g9854 gl9855 u9992 z9993 bg9854 r9991 hu9992 hz9993 r9995)
            refine G_iconst 0 d_cX4_addNumber_54 (by decide +kernel) ?_
            refine G_istore (L' := [(6, .int 0), (4, .long gl9855), (2, .long ol8755), (0, .ref q7356), (1, .int p7358)]) d_cX4_addNumber_55 (Nat.le_of_ble_eq_true rfl) rfl ?_
            have hlp57_10109 : ∀ (n57_10109 : Nat) (g10106 : Int32) (gl10107 : Int64) (g10108 : Int32) (f10109 : Nat → Int32), gB g10106 0 10 → gB g10108 0 16384 → gF f10109 (-128) 127 → (∀ (k : Nat) (e1 : Int32) (e2 : Nat → Int32), tl_Listing_addNumber_57_4 ol8755 g10106 gl10107 g10108 f10109 k e1 e2 → tl_Listing_addNumber_57_4 ol8755 (0 : Int32) gl9855 o8751 f8752 k e1 e2) → ((11 : Int) - g10106.toInt).toNat < n57_10109 → G (gV D I) l (gRm 1 21 0 0) (gM (gV D I) (po_7361_Listing_addNumber I q7356 q7357 p7358 p7359 f7360) gN 0 0) ky_7361_Listing_addNumber 57 [(6, .int g10106), (4, .long gl10107), (2, .long ol8755), (0, .ref q7356), (1, .int p7358)] [] [(q7356, .inr (9, [.ref q7357, .int g10108])), (q7357, .inl (I .byte, 16384, .inl f10109))] 0 0 := by
              intro n57_10109
              induction n57_10109 with
              | zero => intro g10106 gl10107 g10108 f10109 bg10106 bg10108 bf10109 kt57_10109 hm57_10109; exact absurd hm57_10109 (Nat.not_lt_zero _)
              | succ n57_10109 ih57_10109 =>
                intro g10106 gl10107 g10108 f10109 bg10106 bg10108 bf10109 kt57_10109 hm57_10109
                refine G_iload 0 d_cX4_addNumber_57 rfl ?_
                refine G_bipush 10 d_cX4_addNumber_59 (by decide +kernel) ?_
                refine G_icmp_ge 103 d_cX4_addNumber_61 (by decide +kernel) (fun hc10110 => ?_) (fun hc10110 => ?_)
                · have r10111 : 10 ≤ g10106.toInt := gj_leL hc10110 (show Int32.toInt 10 = 10 by decide)
                  have bg10106' : gB g10106 10 10 := ⟨by omega, by omega⟩
                  have hx10112 : tl_Listing_addNumber_57_4 ol8755 (0 : Int32) gl9855 o8751 f8752 103 g10108 f10109 := kt57_10109 103 g10108 f10109 (fun R c1 c2 c3 => c1 g10106 gl10107 g10108 f10109 bg10106 bg10108 r10111)
                  exact G_vret d_cX4_addNumber_103 rfl (Nat.le_of_ble_eq_true rfl) (Nat.le_of_ble_eq_true rfl) ⟨g10108, f10109, rfl, rfl, bg10108, bf10109, (fun R c1 c2 c3 c4 => c4 o8751 f8752 u8754 ol8755 gl9855 g10108 f10109 r8750 bo8751 ht8753 hu8754 ht8756 hx9996 hx10112)⟩
                · have r10113 : g10106.toInt < 10 := gj_nleL hc10110 (show Int32.toInt 10 = 10 by decide)
                  have bg10106' : gB g10106 0 9 := ⟨by omega, by omega⟩
                  refine G_lload 1 d_cX4_addNumber_64 rfl ?_
                  refine G_lconst 0 d_cX4_addNumber_66 rfl ?_
                  refine G_lcmp d_cX4_addNumber_67 (G_nam fun z10114 hz10114 => ?_)
                  have bz10114 : gB z10114 (-1) 1 := gB_cmp hz10114
                  refine G_if_le 103 d_cX4_addNumber_68 (by decide +kernel) (fun hc10115 => ?_) (fun hc10115 => ?_)
                  · have r10116 : z10114.toInt ≤ 0 := gj_le hc10115 (show Int32.toInt 0 = 0 by decide)
                    have bz10114' : gB z10114 (-1) 0 := ⟨by omega, by omega⟩
                    have hx10117 : tl_Listing_addNumber_57_4 ol8755 (0 : Int32) gl9855 o8751 f8752 103 g10108 f10109 := kt57_10109 103 g10108 f10109 (fun R c1 c2 c3 => c2 g10106 gl10107 g10108 f10109 z10114 bg10106 bg10108 r10113 hz10114 r10116)
                    exact G_vret d_cX4_addNumber_103 rfl (Nat.le_of_ble_eq_true rfl) (Nat.le_of_ble_eq_true rfl) ⟨g10108, f10109, rfl, rfl, bg10108, bf10109, (fun R c1 c2 c3 c4 => c4 o8751 f8752 u8754 ol8755 gl9855 g10108 f10109 r8750 bo8751 ht8753 hu8754 ht8756 hx9996 hx10117)⟩
                  · have r10118 : 0 < z10114.toInt := gj_nle hc10115 (show Int32.toInt 0 = 0 by decide)
                    have bz10114' : gB z10114 1 1 := ⟨by omega, by omega⟩
                    have lhc10115 := gC_cmpS hz10114 (by omega)
                    refine G_aload_n 3 d_cX4_addNumber_71 rfl ?_
                    refine G_ldc2 48 d_cX4_addNumber_72 w_6_183 ?_
                    refine G_lload_n 2 d_cX4_addNumber_75 rfl ?_
                    refine G_lload 1 d_cX4_addNumber_76 rfl ?_
                    refine G_ldiv d_cX4_addNumber_78 lhc10115 (G_namL fun u10119 hu10119 => ?_)
                    refine G_ldc2 10 d_cX4_addNumber_79 w_6_182 ?_
                    refine G_lrem d_cX4_addNumber_82 (by decide) (G_namL fun u10120 hu10120 => ?_)
                    refine G_ladd d_cX4_addNumber_83 (G_namL fun u10121 hu10121 => ?_)
                    refine G_l2i d_cX4_addNumber_84 (G_nam fun z10122 hz10122 => ?_)
                    have bz10122 : gB z10122 (-2147483648) 2147483647 := gB_any z10122
                    refine G_i2c d_cX4_addNumber_85 (G_nam fun z10123 hz10123 => ?_)
                    have bz10123 : gB z10123 0 65535 := gB_i2c hz10123
                    refine G_callV (As := [.int z10123]) (wr := []) (gV_ok D I) (ct_7248_Listing_addByte l hl0 D I q7356 q7357 z10123 g10108 f10109 bz10123 bg10108 bf10109) d_cX4_addNumber_86 ⟨w_6_171, w_1_13, w_6_174, by decide, rfl, (Nat.le_of_ble_eq_true rfl), (Nat.le_of_ble_eq_true rfl)⟩ w_6_173 w_p_66 0 rfl rfl [0, 1] [] rfl rfl rfl rfl (by decide) (Nat.le_of_ble_eq_true rfl) (Nat.le_of_ble_eq_true rfl) (Nat.le_of_ble_eq_true rfl) (fun r w hp => ?_) (fun _ _ _ z => z.elim)
                    obtain ⟨o10124, f10125, rfl, rfl, bo10124, bf10125, ht10126⟩ := hp
                    change G _ _ _ _ _ _ _ _ _ _ _
                    refine G_ws (ws' := [(q7356, .inr (9, [.ref q7357, .int o10124])), (q7357, .inl (I .byte, 16384, .inl f10125))]) (cs' := 0) (sl' := 0) rfl rfl rfl ?_
                    refine G_lload 1 d_cX4_addNumber_89 rfl ?_
                    refine G_ldc2 10 d_cX4_addNumber_91 w_6_182 ?_
                    refine G_ldiv d_cX4_addNumber_94 (by decide) (G_namL fun u10127 hu10127 => ?_)
                    refine G_lstore (L' := [(4, .long u10127), (6, .int g10106), (2, .long ol8755), (0, .ref q7356), (1, .int p7358)]) d_cX4_addNumber_95 (Nat.le_of_ble_eq_true rfl) rfl ?_
                    obtain ⟨z10128, hz10128⟩ : ∃ z : Int32, z = g10106 + Int32.ofInt 1 := ⟨_, rfl⟩
                    have ez10128 : z10128.toInt = g10106.toInt + 1 := gI_inc hz10128 (by decide) bg10106' (by decide) (by decide)
                    have bz10128 : gB z10128 1 10 := ⟨by omega, by omega⟩
                    refine G_iinc (L' := [(6, .int z10128), (4, .long u10127), (2, .long ol8755), (0, .ref q7356), (1, .int p7358)]) z10128 1 d_cX4_addNumber_97 rfl hz10128.symm (Nat.le_of_ble_eq_true rfl) rfl ?_
                    refine G_goto 57 d_cX4_addNumber_100 (by decide +kernel) ?_
                    exact ih57_10109 z10128 u10127 o10124 f10125 (gB_w bz10128 (by decide) (by decide)) (gB_w bo10124 (by decide) (by decide)) bf10125 (fun k e1 e2 ht => kt57_10109 k e1 e2 (fun R c1 c2 c3 => c3 g10106 gl10107 g10108 f10109 z10114 u10119 u10120 u10121 z10122 z10123 o10124 f10125 u10127 z10128 k e1 e2 bg10106 bg10108 r10113 hz10114 r10118 hu10119 hu10120 hu10121 hz10122 hz10123 bo10124 ht10126 hu10127 ez10128 (ht R c1 c2 c3))) (by omega)
            exact hlp57_10109 (((11 : Int) - 0).toNat + 1) 0 gl9855 o8751 f8752 (gB_w (gBl (show Int32.toInt 0 = 0 by decide)) (by decide) (by decide)) (gB_w bo8751 (by decide) (by decide)) bf8752 (fun k e1 e2 ht => ht) (Nat.lt_succ_self _)
          · have r10129 : z9993.toInt ≤ 0 := gj_nltL hc9994 (show Int32.toInt 0 = 0 by decide)
            have bz9993' : gB z9993 (-1) 0 := ⟨by omega, by omega⟩
            refine G_lload 1 d_cX4_addNumber_40 rfl ?_
            refine G_ldc2 10 d_cX4_addNumber_42 w_6_182 ?_
            refine G_lmul d_cX4_addNumber_45 (G_namL fun u10130 hu10130 => ?_)
            refine G_lstore (L' := [(4, .long u10130), (6, .int g9854), (2, .long ol8755), (0, .ref q7356), (1, .int p7358)]) d_cX4_addNumber_46 (Nat.le_of_ble_eq_true rfl) rfl ?_
            obtain ⟨z10131, hz10131⟩ : ∃ z : Int32, z = g9854 + Int32.ofInt 1 := ⟨_, rfl⟩
            have ez10131 : z10131.toInt = g9854.toInt + 1 := gI_inc hz10131 (by decide) bg9854' (by decide) (by decide)
            have bz10131 : gB z10131 1 9 := ⟨by omega, by omega⟩
            refine G_iinc (L' := [(6, .int z10131), (4, .long u10130), (2, .long ol8755), (0, .ref q7356), (1, .int p7358)]) z10131 1 d_cX4_addNumber_48 rfl hz10131.symm (Nat.le_of_ble_eq_true rfl) rfl ?_
            refine G_goto 22 d_cX4_addNumber_51 (by decide +kernel) ?_
            exact ih22_9855 z10131 u10130 (gB_w bz10131 (by decide) (by decide)) (fun k e1 ht => kt22_9855 k e1 (fun R c1 c2 c3 => c3 g9854 gl9855 u9992 z9993 u10130 z10131 k e1 bg9854 r9991 hu9992 hz9993 r10129 hu10130 ez10131 (ht R c1 c2 c3))) (by omega)
    exact hlp22_9855 (((10 : Int) - 0).toNat + 1) 0 1 (gB_w (gBl (show Int32.toInt 0 = 0 by decide)) (by decide) (by decide)) (fun k e1 ht => ht) (Nat.lt_succ_self _)
/- tr_Listing_addNamed: Listing_size, Listing_bytes -/
def tr_Listing_addNamed (bs : List Int32) (a2 : Int32) (Listing_size : Int32) (Listing_bytes : Nat → Int32) (o1 : Int32) (o2 : Nat → Int32) : Prop := ∀ R : (Int32) → (Nat → Int32) → Prop,
  (∀ (x1 : Int32) (x2 : Nat → Int32) (x3 : Int32) (x4 : Nat → Int32), gB x1 0 16384 → tr_Listing_addText bs Listing_size Listing_bytes x1 x2 → gB x3 0 16384 → tr_Listing_addNumber a2 x1 x2 x3 x4 → R x3 x4) →
  R o1 o2
abbrev ky_7226_Listing_addNamed : gKey := (cX4_addNamed, 3, yX4_addNamed.cls, none, [], yX4_addNamed.name, fun _ _ => True)
abbrev po_7226_Listing_addNamed (I : FieldType → ClassId) (q7218 : Nat) (q7219 : Nat) (qs7220 : Nat) (qb7221 : Nat) (bs7222 : List Int32) (p7223 : Int32) (p7224 : Int32) (f7225 : Nat → Int32) : Option Value → va_W → Prop := fun r w => ∃ (o10137 : Int32) (f10138 : Nat → Int32), r = none ∧ w = [(q7218, .inr (9, [.ref q7219, .int o10137])), (q7219, .inl (I .byte, 16384, .inl f10138))] ∧ gB o10137 0 16384 ∧ gF f10138 (-128) 127 ∧ tr_Listing_addNamed bs7222 p7223 p7224 f7225 o10137 f10138
set_option maxRecDepth 100000 in
set_option maxHeartbeats 4000000 in
theorem ct_7226_Listing_addNamed (l : Launch) (hl0 : l.stackTraces = false) (D : va_G) (I : FieldType → ClassId) (q7218 : Nat) (q7219 : Nat) (qs7220 : Nat) (qb7221 : Nat) (bs7222 : List Int32) (p7223 : Int32) (p7224 : Int32) (f7225 : Nat → Int32) (hbs7222 : ∀ A s H, (gV D I).2.2.2.1 A s H → gSC qs7220 qb7221 bs7222 A s H) (nbs7222 : (bs7222.length : Int) ≤ 65535) (bp7224 : gB p7224 0 16384) (bf7225 : gF f7225 (-128) 127) : Ct (gV D I) l yX4_addNamed cX4_addNamed 3 none 5 107 0 0 [.ref q7218, .ref qs7220, .int p7223] [(q7218, .inr (9, [.ref q7219, .int p7224])), (q7219, .inl (I .byte, 16384, .inl f7225))] (po_7226_Listing_addNamed I q7218 q7219 qs7220 qb7221 bs7222 p7223 p7224 f7225) gN := by
  refine Ct_of hl0 (by decide) (Nat.le_of_ble_eq_true rfl) ?_
  have bp7223 := gB_any p7223
  refine G_aload_n 0 d_cX4_addNamed_0 rfl ?_
  refine G_aload_n 1 d_cX4_addNamed_1 rfl ?_
  refine G_callV (As := [.ref qs7220]) (wr := []) (gV_ok D I) (ct_7234_Listing_addText l hl0 D I q7218 q7219 qs7220 qb7221 bs7222 p7224 f7225 hbs7222 nbs7222 bp7224 bf7225) d_cX4_addNamed_2 ⟨w_6_165, w_1_13, w_6_168, by decide, rfl, (Nat.le_of_ble_eq_true rfl), (Nat.le_of_ble_eq_true rfl)⟩ w_6_167 w_p_65 0 rfl rfl [0, 1] [] rfl rfl rfl rfl (by decide) (Nat.le_of_ble_eq_true rfl) (Nat.le_of_ble_eq_true rfl) (Nat.le_of_ble_eq_true rfl) (fun r w hp => ?_) (fun _ _ _ z => z.elim)
  obtain ⟨o7353, f7354, rfl, rfl, bo7353, bf7354, ht7355⟩ := hp
  change G _ _ _ _ _ _ _ _ _ _ _
  refine G_ws (ws' := [(q7218, .inr (9, [.ref q7219, .int o7353])), (q7219, .inl (I .byte, 16384, .inl f7354))]) (cs' := 0) (sl' := 0) rfl rfl rfl ?_
  refine G_aload_n 0 d_cX4_addNamed_5 rfl ?_
  refine G_iload_n 2 d_cX4_addNamed_6 rfl ?_
  refine G_callV (As := [.int p7223]) (wr := []) (gV_ok D I) (ct_7361_Listing_addNumber l hl0 D I q7218 q7219 p7223 o7353 f7354 bo7353 bf7354) d_cX4_addNamed_7 ⟨w_6_175, w_1_13, w_6_178, by decide, rfl, (Nat.le_of_ble_eq_true rfl), (Nat.le_of_ble_eq_true rfl)⟩ w_6_177 w_p_67 0 rfl rfl [0, 1] [] rfl rfl rfl rfl (by decide) (Nat.le_of_ble_eq_true rfl) (Nat.le_of_ble_eq_true rfl) (Nat.le_of_ble_eq_true rfl) (fun r w hp => ?_) (fun _ _ _ z => z.elim)
  obtain ⟨o10134, f10135, rfl, rfl, bo10134, bf10135, ht10136⟩ := hp
  change G _ _ _ _ _ _ _ _ _ _ _
  refine G_ws (ws' := [(q7218, .inr (9, [.ref q7219, .int o10134])), (q7219, .inl (I .byte, 16384, .inl f10135))]) (cs' := 0) (sl' := 0) rfl rfl rfl ?_
  exact G_vret d_cX4_addNamed_10 rfl (Nat.le_of_ble_eq_true rfl) (Nat.le_of_ble_eq_true rfl) ⟨o10134, f10135, rfl, rfl, bo10134, bf10135, (fun R c1 => c1 o7353 f7354 o10134 f10135 bo7353 ht7355 bo10134 ht10136)⟩
/- tr_Listing_addOperand: Listing_size, Listing_bytes -/
def tr_Listing_addOperand (a1 : Int32) (a2 : Int32) (Listing_size : Int32) (Listing_bytes : Nat → Int32) (o1 : Int32) (o2 : Nat → Int32) : Prop := ∀ R : (Int32) → (Nat → Int32) → Prop,
  (∀ (x1 : Int32) (x2 : Nat → Int32), a1.toInt ≠ (-1) → gB x1 0 16384 → tr_Listing_addNamed sb_21 a1 Listing_size Listing_bytes x1 x2 → R x1 x2) →
  (∀ (x1 : Int32) (x2 : Nat → Int32), a1.toInt = (-1) → gB x1 0 16384 → tr_Listing_addNumber a2 Listing_size Listing_bytes x1 x2 → R x1 x2) →
  R o1 o2
abbrev ky_10251_Listing_addOperand : gKey := (cX4_addOperand, 3, yX4_addOperand.cls, none, [], yX4_addOperand.name, fun _ _ => True)
abbrev po_10251_Listing_addOperand (I : FieldType → ClassId) (q10245 : Nat) (q10246 : Nat) (p10247 : Int32) (p10248 : Int32) (p10249 : Int32) (f10250 : Nat → Int32) : Option Value → va_W → Prop := fun r w => ∃ (o10262 : Int32) (f10263 : Nat → Int32), r = none ∧ w = [(q10245, .inr (9, [.ref q10246, .int o10262])), (q10246, .inl (I .byte, 16384, .inl f10263))] ∧ gB o10262 0 16384 ∧ gF f10263 (-128) 127 ∧ tr_Listing_addOperand p10247 p10248 p10249 f10250 o10262 f10263
set_option maxRecDepth 100000 in
set_option maxHeartbeats 4000000 in
theorem ct_10251_Listing_addOperand (l : Launch) (hl0 : l.stackTraces = false) (D : va_G) (I : FieldType → ClassId) (q10245 : Nat) (q10246 : Nat) (p10247 : Int32) (p10248 : Int32) (p10249 : Int32) (f10250 : Nat → Int32) (bp10249 : gB p10249 0 16384) (bf10250 : gF f10250 (-128) 127) : Ct (gV D I) l yX4_addOperand cX4_addOperand 3 none 6 129 0 0 [.ref q10245, .int p10247, .int p10248] [(q10245, .inr (9, [.ref q10246, .int p10249])), (q10246, .inl (I .byte, 16384, .inl f10250))] (po_10251_Listing_addOperand I q10245 q10246 p10247 p10248 p10249 f10250) gN := by
  refine Ct_of hl0 (by decide) (Nat.le_of_ble_eq_true rfl) ?_
  have bp10247 := gB_any p10247
  have bp10248 := gB_any p10248
  refine G_iload_n 1 d_cX4_addOperand_0 rfl ?_
  refine G_iconst (-1) d_cX4_addOperand_1 (by decide +kernel) ?_
  refine G_icmp_ne 13 d_cX4_addOperand_2 (by decide +kernel) (fun hc10252 => ?_) (fun hc10252 => ?_)
  · have r10253 : p10247.toInt ≠ (-1) := gj_neq hc10252 (show Int32.toInt (-1) = (-1) by decide)
    refine G_aload_n 0 d_cX4_addOperand_13 rfl ?_
    refine G_ldcK (a := D.2 1000 21) d_cX4_addOperand_14 (fun _ _ _ h => gx_vk 21 rfl rfl h) ?_
    have hl21_10253 : (sb_21.length : Int) = 1 := rfl
    refine G_iload_n 1 d_cX4_addOperand_16 rfl ?_
    refine G_callV (As := [.ref (D.2 1000 21), .int p10247]) (wr := []) (gV_ok D I) (ct_7226_Listing_addNamed l hl0 D I q10245 q10246 (D.2 1000 21) (D.2 1001 21) sb_21 p10247 p10249 f10250 (gx_sc 21 rfl rfl) (by omega) bp10249 bf10250) d_cX4_addOperand_17 ⟨w_6_161, w_1_13, w_6_164, by decide, rfl, (Nat.le_of_ble_eq_true rfl), (Nat.le_of_ble_eq_true rfl)⟩ w_6_163 w_p_64 0 rfl rfl [0, 1] [] rfl rfl rfl rfl (by decide) (Nat.le_of_ble_eq_true rfl) (Nat.le_of_ble_eq_true rfl) (Nat.le_of_ble_eq_true rfl) (fun r w hp => ?_) (fun _ _ _ z => z.elim)
    obtain ⟨o10255, f10256, rfl, rfl, bo10255, bf10256, ht10257⟩ := hp
    change G _ _ _ _ _ _ _ _ _ _ _
    refine G_ws (ws' := [(q10245, .inr (9, [.ref q10246, .int o10255])), (q10246, .inl (I .byte, 16384, .inl f10256))]) (cs' := 0) (sl' := 0) rfl rfl rfl ?_
    exact G_vret d_cX4_addOperand_20 rfl (Nat.le_of_ble_eq_true rfl) (Nat.le_of_ble_eq_true rfl) ⟨o10255, f10256, rfl, rfl, bo10255, bf10256, (fun R c1 c2 => c1 o10255 f10256 r10253 bo10255 ht10257)⟩
  · have r10258 : p10247.toInt = (-1) := gj_eq hc10252 (show Int32.toInt (-1) = (-1) by decide)
    have bp10247' : gB p10247 (-1) (-1) := ⟨by omega, by omega⟩
    refine G_aload_n 0 d_cX4_addOperand_5 rfl ?_
    refine G_iload_n 2 d_cX4_addOperand_6 rfl ?_
    refine G_callV (As := [.int p10248]) (wr := []) (gV_ok D I) (ct_7361_Listing_addNumber l hl0 D I q10245 q10246 p10248 p10249 f10250 bp10249 bf10250) d_cX4_addOperand_7 ⟨w_6_175, w_1_13, w_6_178, by decide, rfl, (Nat.le_of_ble_eq_true rfl), (Nat.le_of_ble_eq_true rfl)⟩ w_6_177 w_p_67 0 rfl rfl [0, 1] [] rfl rfl rfl rfl (by decide) (Nat.le_of_ble_eq_true rfl) (Nat.le_of_ble_eq_true rfl) (Nat.le_of_ble_eq_true rfl) (fun r w hp => ?_) (fun _ _ _ z => z.elim)
    obtain ⟨o10259, f10260, rfl, rfl, bo10259, bf10260, ht10261⟩ := hp
    change G _ _ _ _ _ _ _ _ _ _ _
    refine G_ws (ws' := [(q10245, .inr (9, [.ref q10246, .int o10259])), (q10246, .inl (I .byte, 16384, .inl f10260))]) (cs' := 0) (sl' := 0) rfl rfl rfl ?_
    refine G_goto 20 d_cX4_addOperand_10 (by decide +kernel) ?_
    exact G_vret d_cX4_addOperand_20 rfl (Nat.le_of_ble_eq_true rfl) (Nat.le_of_ble_eq_true rfl) ⟨o10259, f10260, rfl, rfl, bo10259, bf10260, (fun R c1 c2 => c2 o10259 f10260 r10258 bo10259 ht10261)⟩
/- tr_Listing_addOp: Listing_size, Listing_bytes -/
def tr_Listing_addOp (a1 : Int32) (Listing_size : Int32) (Listing_bytes : Nat → Int32) (o1 : Int32) (o2 : Nat → Int32) : Prop := ∀ R : (Int32) → (Nat → Int32) → Prop,
  (∀ (x1 : Int32) (x2 : Nat → Int32) (x3 : Int32) (x4 : Int32) (x5 : Int32) (x6 : Nat → Int32) (x7 : Int32) (x8 : Int32) (x9 : Int32) (x10 : Int32) (x11 : Nat → Int32), gB x1 1 16384 → tr_Listing_addByte (32 : Int32) Listing_size Listing_bytes x1 x2 → x3.toInt = 2 * a1.toInt → gB x4 0 65535 → tr_String_charAt sb_30 x3 x4 → gB x5 1 16384 → tr_Listing_addByte x4 x1 x2 x5 x6 → x7.toInt = 2 * a1.toInt → x8.toInt = x7.toInt + 1 → gB x9 0 65535 → tr_String_charAt sb_30 x8 x9 → x9.toInt = 32 → gB x10 1 16384 → tr_Listing_addByte (32 : Int32) x5 x6 x10 x11 → R x10 x11) →
  (∀ (x1 : Int32) (x2 : Nat → Int32) (x3 : Int32) (x4 : Int32) (x5 : Int32) (x6 : Nat → Int32) (x7 : Int32) (x8 : Int32) (x9 : Int32) (x10 : Int32) (x11 : Int32) (x12 : Int32) (x13 : Int32) (x14 : Nat → Int32) (x15 : Int32) (x16 : Nat → Int32), gB x1 1 16384 → tr_Listing_addByte (32 : Int32) Listing_size Listing_bytes x1 x2 → x3.toInt = 2 * a1.toInt → gB x4 0 65535 → tr_String_charAt sb_30 x3 x4 → gB x5 1 16384 → tr_Listing_addByte x4 x1 x2 x5 x6 → x7.toInt = 2 * a1.toInt → x8.toInt = x7.toInt + 1 → gB x9 0 65535 → tr_String_charAt sb_30 x8 x9 → x9.toInt ≠ 32 → x10.toInt = 2 * a1.toInt → x11.toInt = x10.toInt + 1 → gB x12 0 65535 → tr_String_charAt sb_30 x11 x12 → gB x13 1 16384 → tr_Listing_addByte x12 x5 x6 x13 x14 → gB x15 1 16384 → tr_Listing_addByte (32 : Int32) x13 x14 x15 x16 → R x15 x16) →
  R o1 o2
abbrev ky_10275_Listing_addOp : gKey := (cX4_addOp, 2, yX4_addOp.cls, none, [], yX4_addOp.name, fun _ _ => True)
abbrev po_10275_Listing_addOp (I : FieldType → ClassId) (q10270 : Nat) (q10271 : Nat) (p10272 : Int32) (p10273 : Int32) (f10274 : Nat → Int32) : Option Value → va_W → Prop := fun r w => ∃ (o10308 : Int32) (f10309 : Nat → Int32), r = none ∧ w = [(q10270, .inr (9, [.ref q10271, .int o10308])), (q10271, .inl (I .byte, 16384, .inl f10309))] ∧ gB o10308 1 16384 ∧ gF f10309 (-128) 127 ∧ tr_Listing_addOp p10272 p10273 f10274 o10308 f10309
set_option maxRecDepth 100000 in
set_option maxHeartbeats 4000000 in
theorem ct_10275_Listing_addOp (l : Launch) (hl0 : l.stackTraces = false) (D : va_G) (I : FieldType → ClassId) (q10270 : Nat) (q10271 : Nat) (p10272 : Int32) (p10273 : Int32) (f10274 : Nat → Int32) (bp10272 : gB p10272 0 13) (bp10273 : gB p10273 0 16384) (bf10274 : gF f10274 (-128) 127) : Ct (gV D I) l yX4_addOp cX4_addOp 2 none 4 85 0 0 [.ref q10270, .int p10272] [(q10270, .inr (9, [.ref q10271, .int p10273])), (q10271, .inl (I .byte, 16384, .inl f10274))] (po_10275_Listing_addOp I q10270 q10271 p10272 p10273 f10274) gN := by
  refine Ct_of hl0 (by decide) (Nat.le_of_ble_eq_true rfl) ?_
  refine G_aload_n 0 d_cX4_addOp_0 rfl ?_
  refine G_bipush 32 d_cX4_addOp_1 (by decide +kernel) ?_
  refine G_callV (As := [.int 32]) (wr := []) (gV_ok D I) (ct_7248_Listing_addByte l hl0 D I q10270 q10271 32 p10273 f10274 (gB_w (gBl (show Int32.toInt 32 = 32 by decide)) (by decide) (by decide)) bp10273 bf10274) d_cX4_addOp_3 ⟨w_6_171, w_1_13, w_6_174, by decide, rfl, (Nat.le_of_ble_eq_true rfl), (Nat.le_of_ble_eq_true rfl)⟩ w_6_173 w_p_66 0 rfl rfl [0, 1] [] rfl rfl rfl rfl (by decide) (Nat.le_of_ble_eq_true rfl) (Nat.le_of_ble_eq_true rfl) (Nat.le_of_ble_eq_true rfl) (fun r w hp => ?_) (fun _ _ _ z => z.elim)
  obtain ⟨o10276, f10277, rfl, rfl, bo10276, bf10277, ht10278⟩ := hp
  change G _ _ _ _ _ _ _ _ _ _ _
  refine G_ws (ws' := [(q10270, .inr (9, [.ref q10271, .int o10276])), (q10271, .inl (I .byte, 16384, .inl f10277))]) (cs' := 0) (sl' := 0) rfl rfl rfl ?_
  refine G_aload_n 0 d_cX4_addOp_6 rfl ?_
  refine G_ldcK (a := D.2 1000 30) d_cX4_addOp_7 (fun _ _ _ h => gx_vk 30 rfl rfl h) ?_
  have hl30_10278 : (sb_30.length : Int) = 28 := rfl
  refine G_iconst 2 d_cX4_addOp_9 (by decide +kernel) ?_
  refine G_iload_n 1 d_cX4_addOp_10 rfl ?_
  refine G_imul d_cX4_addOp_11 (G_nam fun z10280 hz10280 => ?_)
  have ez10280 : z10280.toInt = 2 * p10272.toInt := by rw [gI_mul hz10280 (gBl (show Int32.toInt 2 = 2 by decide)) bp10272 (by decide) (by decide) (by decide), show Int32.toInt 2 = 2 from by decide]
  have bz10280 : gB z10280 0 26 := gB_mul hz10280 (gBl (show Int32.toInt 2 = 2 by decide)) bp10272 (by decide) (by decide) (by decide) (by decide)
  refine G_callVk (As := [.int z10280]) (wr := [(q10270, .inr (9, [.ref q10271, .int o10276])), (q10271, .inl (I .byte, 16384, .inl f10277))]) (gV_ok D I) (ct_3954_String_charAt l hl0 D I (D.2 1000 30) (D.2 1001 30) sb_30 z10280 (gx_sc 30 rfl rfl) (by omega) (by omega) (by omega)) d_cX4_addOp_12 ⟨w_6_170, w_1_21, w_3_70, by decide, rfl, (Nat.le_of_ble_eq_true rfl), (Nat.le_of_ble_eq_true rfl)⟩ w_3_68 w_3_69 (fun _ _ _ h => ((gx_sc 30 rfl rfl) _ _ _ h).1) [] [0, 1] rfl rfl rfl rfl (by decide) (Nat.le_of_ble_eq_true rfl) (Nat.le_of_ble_eq_true rfl) (Nat.le_of_ble_eq_true rfl) (fun r w hp => ?_) (fun _ _ _ z => z.elim)
  obtain ⟨o10281, rfl, rfl, bo10281, ht10282⟩ := hp
  change G _ _ _ _ _ _ _ (.int o10281 :: _) _ _ _
  refine G_ws (ws' := [(q10270, .inr (9, [.ref q10271, .int o10276])), (q10271, .inl (I .byte, 16384, .inl f10277))]) (cs' := 0) (sl' := 0) rfl rfl rfl ?_
  refine G_callV (As := [.int o10281]) (wr := []) (gV_ok D I) (ct_7248_Listing_addByte l hl0 D I q10270 q10271 o10281 o10276 f10277 bo10281 (gB_w bo10276 (by decide) (by decide)) bf10277) d_cX4_addOp_15 ⟨w_6_171, w_1_13, w_6_174, by decide, rfl, (Nat.le_of_ble_eq_true rfl), (Nat.le_of_ble_eq_true rfl)⟩ w_6_173 w_p_66 0 rfl rfl [0, 1] [] rfl rfl rfl rfl (by decide) (Nat.le_of_ble_eq_true rfl) (Nat.le_of_ble_eq_true rfl) (Nat.le_of_ble_eq_true rfl) (fun r w hp => ?_) (fun _ _ _ z => z.elim)
  obtain ⟨o10283, f10284, rfl, rfl, bo10283, bf10284, ht10285⟩ := hp
  change G _ _ _ _ _ _ _ _ _ _ _
  refine G_ws (ws' := [(q10270, .inr (9, [.ref q10271, .int o10283])), (q10271, .inl (I .byte, 16384, .inl f10284))]) (cs' := 0) (sl' := 0) rfl rfl rfl ?_
  refine G_ldcK (a := D.2 1000 30) d_cX4_addOp_18 (fun _ _ _ h => gx_vk 30 rfl rfl h) ?_
  have hl30_10285 : (sb_30.length : Int) = 28 := rfl
  refine G_iconst 2 d_cX4_addOp_20 (by decide +kernel) ?_
  refine G_iload_n 1 d_cX4_addOp_21 rfl ?_
  refine G_imul d_cX4_addOp_22 (G_nam fun z10287 hz10287 => ?_)
  have ez10287 : z10287.toInt = 2 * p10272.toInt := by rw [gI_mul hz10287 (gBl (show Int32.toInt 2 = 2 by decide)) bp10272 (by decide) (by decide) (by decide), show Int32.toInt 2 = 2 from by decide]
  have bz10287 : gB z10287 0 26 := gB_mul hz10287 (gBl (show Int32.toInt 2 = 2 by decide)) bp10272 (by decide) (by decide) (by decide) (by decide)
  refine G_iconst 1 d_cX4_addOp_23 (by decide +kernel) ?_
  refine G_iadd d_cX4_addOp_24 (G_nam fun z10288 hz10288 => ?_)
  have ez10288 : z10288.toInt = z10287.toInt + 1 := by rw [gI_add hz10288 bz10287 (gBl (show Int32.toInt 1 = 1 by decide)) (by decide) (by decide), show Int32.toInt 1 = 1 from by decide]
  have bz10288 : gB z10288 1 27 := gB_add (gI_add hz10288 bz10287 (gBl (show Int32.toInt 1 = 1 by decide)) (by decide) (by decide)) bz10287 (gBl (show Int32.toInt 1 = 1 by decide)) (by decide) (by decide)
  refine G_callVk (As := [.int z10288]) (wr := [(q10270, .inr (9, [.ref q10271, .int o10283])), (q10271, .inl (I .byte, 16384, .inl f10284))]) (gV_ok D I) (ct_3954_String_charAt l hl0 D I (D.2 1000 30) (D.2 1001 30) sb_30 z10288 (gx_sc 30 rfl rfl) (by omega) (by omega) (by omega)) d_cX4_addOp_25 ⟨w_6_170, w_1_21, w_3_70, by decide, rfl, (Nat.le_of_ble_eq_true rfl), (Nat.le_of_ble_eq_true rfl)⟩ w_3_68 w_3_69 (fun _ _ _ h => ((gx_sc 30 rfl rfl) _ _ _ h).1) [] [0, 1] rfl rfl rfl rfl (by decide) (Nat.le_of_ble_eq_true rfl) (Nat.le_of_ble_eq_true rfl) (Nat.le_of_ble_eq_true rfl) (fun r w hp => ?_) (fun _ _ _ z => z.elim)
  obtain ⟨o10289, rfl, rfl, bo10289, ht10290⟩ := hp
  change G _ _ _ _ _ _ _ (.int o10289 :: _) _ _ _
  refine G_ws (ws' := [(q10270, .inr (9, [.ref q10271, .int o10283])), (q10271, .inl (I .byte, 16384, .inl f10284))]) (cs' := 0) (sl' := 0) rfl rfl rfl ?_
  refine G_bipush 32 d_cX4_addOp_28 (by decide +kernel) ?_
  refine G_icmp_eq 47 d_cX4_addOp_30 (by decide +kernel) (fun hc10291 => ?_) (fun hc10291 => ?_)
  · have r10292 : o10289.toInt = 32 := gj_eq hc10291 (show Int32.toInt 32 = 32 by decide)
    have bo10289' : gB o10289 32 32 := ⟨by omega, by omega⟩
    refine G_aload_n 0 d_cX4_addOp_47 rfl ?_
    refine G_bipush 32 d_cX4_addOp_48 (by decide +kernel) ?_
    refine G_callV (As := [.int 32]) (wr := []) (gV_ok D I) (ct_7248_Listing_addByte l hl0 D I q10270 q10271 32 o10283 f10284 (gB_w (gBl (show Int32.toInt 32 = 32 by decide)) (by decide) (by decide)) (gB_w bo10283 (by decide) (by decide)) bf10284) d_cX4_addOp_50 ⟨w_6_171, w_1_13, w_6_174, by decide, rfl, (Nat.le_of_ble_eq_true rfl), (Nat.le_of_ble_eq_true rfl)⟩ w_6_173 w_p_66 0 rfl rfl [0, 1] [] rfl rfl rfl rfl (by decide) (Nat.le_of_ble_eq_true rfl) (Nat.le_of_ble_eq_true rfl) (Nat.le_of_ble_eq_true rfl) (fun r w hp => ?_) (fun _ _ _ z => z.elim)
    obtain ⟨o10293, f10294, rfl, rfl, bo10293, bf10294, ht10295⟩ := hp
    change G _ _ _ _ _ _ _ _ _ _ _
    refine G_ws (ws' := [(q10270, .inr (9, [.ref q10271, .int o10293])), (q10271, .inl (I .byte, 16384, .inl f10294))]) (cs' := 0) (sl' := 0) rfl rfl rfl ?_
    exact G_vret d_cX4_addOp_53 rfl (Nat.le_of_ble_eq_true rfl) (Nat.le_of_ble_eq_true rfl) ⟨o10293, f10294, rfl, rfl, bo10293, bf10294, (fun R c1 c2 => c1 o10276 f10277 z10280 o10281 o10283 f10284 z10287 z10288 o10289 o10293 f10294 bo10276 ht10278 ez10280 bo10281 ht10282 bo10283 ht10285 ez10287 ez10288 bo10289 ht10290 r10292 bo10293 ht10295)⟩
  · have r10296 : o10289.toInt ≠ 32 := gj_neq hc10291 (show Int32.toInt 32 = 32 by decide)
    refine G_aload_n 0 d_cX4_addOp_33 rfl ?_
    refine G_ldcK (a := D.2 1000 30) d_cX4_addOp_34 (fun _ _ _ h => gx_vk 30 rfl rfl h) ?_
    have hl30_10296 : (sb_30.length : Int) = 28 := rfl
    refine G_iconst 2 d_cX4_addOp_36 (by decide +kernel) ?_
    refine G_iload_n 1 d_cX4_addOp_37 rfl ?_
    refine G_imul d_cX4_addOp_38 (G_nam fun z10298 hz10298 => ?_)
    have ez10298 : z10298.toInt = 2 * p10272.toInt := by rw [gI_mul hz10298 (gBl (show Int32.toInt 2 = 2 by decide)) bp10272 (by decide) (by decide) (by decide), show Int32.toInt 2 = 2 from by decide]
    have bz10298 : gB z10298 0 26 := gB_mul hz10298 (gBl (show Int32.toInt 2 = 2 by decide)) bp10272 (by decide) (by decide) (by decide) (by decide)
    refine G_iconst 1 d_cX4_addOp_39 (by decide +kernel) ?_
    refine G_iadd d_cX4_addOp_40 (G_nam fun z10299 hz10299 => ?_)
    have ez10299 : z10299.toInt = z10298.toInt + 1 := by rw [gI_add hz10299 bz10298 (gBl (show Int32.toInt 1 = 1 by decide)) (by decide) (by decide), show Int32.toInt 1 = 1 from by decide]
    have bz10299 : gB z10299 1 27 := gB_add (gI_add hz10299 bz10298 (gBl (show Int32.toInt 1 = 1 by decide)) (by decide) (by decide)) bz10298 (gBl (show Int32.toInt 1 = 1 by decide)) (by decide) (by decide)
    refine G_callVk (As := [.int z10299]) (wr := [(q10270, .inr (9, [.ref q10271, .int o10283])), (q10271, .inl (I .byte, 16384, .inl f10284))]) (gV_ok D I) (ct_3954_String_charAt l hl0 D I (D.2 1000 30) (D.2 1001 30) sb_30 z10299 (gx_sc 30 rfl rfl) (by omega) (by omega) (by omega)) d_cX4_addOp_41 ⟨w_6_170, w_1_21, w_3_70, by decide, rfl, (Nat.le_of_ble_eq_true rfl), (Nat.le_of_ble_eq_true rfl)⟩ w_3_68 w_3_69 (fun _ _ _ h => ((gx_sc 30 rfl rfl) _ _ _ h).1) [] [0, 1] rfl rfl rfl rfl (by decide) (Nat.le_of_ble_eq_true rfl) (Nat.le_of_ble_eq_true rfl) (Nat.le_of_ble_eq_true rfl) (fun r w hp => ?_) (fun _ _ _ z => z.elim)
    obtain ⟨o10300, rfl, rfl, bo10300, ht10301⟩ := hp
    change G _ _ _ _ _ _ _ (.int o10300 :: _) _ _ _
    refine G_ws (ws' := [(q10270, .inr (9, [.ref q10271, .int o10283])), (q10271, .inl (I .byte, 16384, .inl f10284))]) (cs' := 0) (sl' := 0) rfl rfl rfl ?_
    refine G_callV (As := [.int o10300]) (wr := []) (gV_ok D I) (ct_7248_Listing_addByte l hl0 D I q10270 q10271 o10300 o10283 f10284 bo10300 (gB_w bo10283 (by decide) (by decide)) bf10284) d_cX4_addOp_44 ⟨w_6_171, w_1_13, w_6_174, by decide, rfl, (Nat.le_of_ble_eq_true rfl), (Nat.le_of_ble_eq_true rfl)⟩ w_6_173 w_p_66 0 rfl rfl [0, 1] [] rfl rfl rfl rfl (by decide) (Nat.le_of_ble_eq_true rfl) (Nat.le_of_ble_eq_true rfl) (Nat.le_of_ble_eq_true rfl) (fun r w hp => ?_) (fun _ _ _ z => z.elim)
    obtain ⟨o10302, f10303, rfl, rfl, bo10302, bf10303, ht10304⟩ := hp
    change G _ _ _ _ _ _ _ _ _ _ _
    refine G_ws (ws' := [(q10270, .inr (9, [.ref q10271, .int o10302])), (q10271, .inl (I .byte, 16384, .inl f10303))]) (cs' := 0) (sl' := 0) rfl rfl rfl ?_
    refine G_aload_n 0 d_cX4_addOp_47 rfl ?_
    refine G_bipush 32 d_cX4_addOp_48 (by decide +kernel) ?_
    refine G_callV (As := [.int 32]) (wr := []) (gV_ok D I) (ct_7248_Listing_addByte l hl0 D I q10270 q10271 32 o10302 f10303 (gB_w (gBl (show Int32.toInt 32 = 32 by decide)) (by decide) (by decide)) (gB_w bo10302 (by decide) (by decide)) bf10303) d_cX4_addOp_50 ⟨w_6_171, w_1_13, w_6_174, by decide, rfl, (Nat.le_of_ble_eq_true rfl), (Nat.le_of_ble_eq_true rfl)⟩ w_6_173 w_p_66 0 rfl rfl [0, 1] [] rfl rfl rfl rfl (by decide) (Nat.le_of_ble_eq_true rfl) (Nat.le_of_ble_eq_true rfl) (Nat.le_of_ble_eq_true rfl) (fun r w hp => ?_) (fun _ _ _ z => z.elim)
    obtain ⟨o10305, f10306, rfl, rfl, bo10305, bf10306, ht10307⟩ := hp
    change G _ _ _ _ _ _ _ _ _ _ _
    refine G_ws (ws' := [(q10270, .inr (9, [.ref q10271, .int o10305])), (q10271, .inl (I .byte, 16384, .inl f10306))]) (cs' := 0) (sl' := 0) rfl rfl rfl ?_
    exact G_vret d_cX4_addOp_53 rfl (Nat.le_of_ble_eq_true rfl) (Nat.le_of_ble_eq_true rfl) ⟨o10305, f10306, rfl, rfl, bo10305, bf10306, (fun R c1 c2 => c2 o10276 f10277 z10280 o10281 o10283 f10284 z10287 z10288 o10289 z10298 z10299 o10300 o10302 f10303 o10305 f10306 bo10276 ht10278 ez10280 bo10281 ht10282 bo10283 ht10285 ez10287 ez10288 bo10289 ht10290 r10296 ez10298 ez10299 bo10300 ht10301 bo10302 ht10304 bo10305 ht10307)⟩
/- tr_Listing_addSource: Listing_size, Listing_bytes -/
def tr_Listing_addSource (a2 : Int32) (Listing_size : Int32) (Listing_bytes : Nat → Int32) (Code_op : Nat → Int32) (Code_left : Nat → Int32) (Code_leftNumber : Nat → Int32) (Code_right : Nat → Int32) (Code_rightNumber : Nat → Int32) (o1 : Int32) (o2 : Nat → Int32) : Prop := ∀ R : (Int32) → (Nat → Int32) → Prop,
  (∀ (x1 : Int32) (x2 : Int32) (x3 : Int32) (x4 : Int32) (x5 : Nat → Int32), x1 = Code_op a2.toNatClampNeg → gB x1 0 21 → x1.toInt ≠ 15 → x1.toInt ≠ 17 → x2 = Code_left a2.toNatClampNeg → x3 = Code_leftNumber a2.toNatClampNeg → gB x4 0 16384 → tr_Listing_addOperand x2 x3 Listing_size Listing_bytes x4 x5 → 14 ≤ x1.toInt → R x4 x5) →
  (∀ (x1 : Int32) (x2 : Int32) (x3 : Int32) (x4 : Int32) (x5 : Nat → Int32) (x6 : Int32) (x7 : Nat → Int32) (x8 : Int32) (x9 : Int32) (x10 : Int32) (x11 : Nat → Int32), x1 = Code_op a2.toNatClampNeg → gB x1 0 21 → x1.toInt ≠ 15 → x1.toInt ≠ 17 → x2 = Code_left a2.toNatClampNeg → x3 = Code_leftNumber a2.toNatClampNeg → gB x4 0 16384 → tr_Listing_addOperand x2 x3 Listing_size Listing_bytes x4 x5 → x1.toInt < 14 → gB x6 1 16384 → tr_Listing_addOp x1 x4 x5 x6 x7 → x8 = Code_right a2.toNatClampNeg → x9 = Code_rightNumber a2.toNatClampNeg → gB x10 0 16384 → tr_Listing_addOperand x8 x9 x6 x7 x10 x11 → R x10 x11) →
  (∀ (x1 : Int32) (x2 : Int32) (x3 : Int32) (x4 : Nat → Int32), x1 = Code_op a2.toNatClampNeg → gB x1 0 21 → x1.toInt ≠ 15 → x1.toInt = 17 → x2 = Code_rightNumber a2.toNatClampNeg → gB x3 0 16384 → tr_Listing_addNamed sb_26 x2 Listing_size Listing_bytes x3 x4 → R x3 x4) →
  (∀ (x1 : Int32) (x2 : Int32) (x3 : Nat → Int32), x1 = Code_op a2.toNatClampNeg → gB x1 0 21 → x1.toInt = 15 → gB x2 0 16384 → tr_Listing_addText sb_29 Listing_size Listing_bytes x2 x3 → R x2 x3) →
  R o1 o2
abbrev ky_10237_Listing_addSource : gKey := (cX4_addSource, 3, yX4_addSource.cls, none, [], yX4_addSource.name, fun _ _ => True)
abbrev po_10237_Listing_addSource (I : FieldType → ClassId) (q10210 : Nat) (q10211 : Nat) (q10212 : Nat) (q10213 : Nat) (q10214 : Nat) (q10215 : Nat) (q10216 : Nat) (q10217 : Nat) (q10218 : Nat) (q10219 : Nat) (q10220 : Nat) (q10221 : Nat) (p10222 : Int32) (p10223 : Int32) (p10224 : Int32) (p10225 : Int32) (p10226 : Int32) (f10227 : Nat → Int32) (f10228 : Nat → Int32) (f10229 : Nat → Int32) (f10230 : Nat → Int32) (f10231 : Nat → Int32) (f10232 : Nat → Int32) (f10233 : Nat → Int32) (f10234 : Nat → Int32) (f10235 : Nat → Int32) (f10236 : Nat → Int32) : Option Value → va_W → Prop := fun r w => ∃ (o10329 : Int32) (f10330 : Nat → Int32), r = none ∧ w = [(q10210, .inr (9, [.ref q10212, .int o10329])), (q10211, .inr (5, [.ref q10213, .ref q10214, .ref q10215, .ref q10216, .ref q10217, .ref q10218, .ref q10219, .ref q10220, .ref q10221, .int p10224, .int p10225, .int p10226])), (q10212, .inl (I .byte, 16384, .inl f10330)), (q10213, .inl (I .int, 40, .inl f10228)), (q10214, .inl (I .int, 40, .inl f10229)), (q10215, .inl (I .int, 40, .inl f10230)), (q10216, .inl (I .int, 200, .inl f10231)), (q10217, .inl (I .int, 200, .inl f10232)), (q10218, .inl (I .int, 200, .inl f10233)), (q10219, .inl (I .int, 200, .inl f10234)), (q10220, .inl (I .int, 200, .inl f10235)), (q10221, .inl (I .int, 200, .inl f10236))] ∧ gB o10329 0 16384 ∧ gF f10330 (-128) 127 ∧ tr_Listing_addSource p10222 p10223 f10227 f10231 f10233 f10234 f10235 f10236 o10329 f10330
set_option maxRecDepth 100000 in
set_option maxHeartbeats 4000000 in
theorem ct_10237_Listing_addSource (l : Launch) (hl0 : l.stackTraces = false) (D : va_G) (I : FieldType → ClassId) (q10210 : Nat) (q10211 : Nat) (q10212 : Nat) (q10213 : Nat) (q10214 : Nat) (q10215 : Nat) (q10216 : Nat) (q10217 : Nat) (q10218 : Nat) (q10219 : Nat) (q10220 : Nat) (q10221 : Nat) (p10222 : Int32) (p10223 : Int32) (p10224 : Int32) (p10225 : Int32) (p10226 : Int32) (f10227 : Nat → Int32) (f10228 : Nat → Int32) (f10229 : Nat → Int32) (f10230 : Nat → Int32) (f10231 : Nat → Int32) (f10232 : Nat → Int32) (f10233 : Nat → Int32) (f10234 : Nat → Int32) (f10235 : Nat → Int32) (f10236 : Nat → Int32) (bp10222 : gB p10222 0 199) (bp10223 : gB p10223 0 16384) (bp10224 : gB p10224 0 40) (bp10225 : gB p10225 0 200) (bp10226 : gB p10226 0 1) (bf10227 : gF f10227 (-128) 127) (bf10228 : gF f10228 0 200) (bf10231 : gF f10231 0 21) : Ct (gV D I) l yX4_addSource cX4_addSource 3 none 7 151 0 0 [.ref q10210, .ref q10211, .int p10222] [(q10210, .inr (9, [.ref q10212, .int p10223])), (q10211, .inr (5, [.ref q10213, .ref q10214, .ref q10215, .ref q10216, .ref q10217, .ref q10218, .ref q10219, .ref q10220, .ref q10221, .int p10224, .int p10225, .int p10226])), (q10212, .inl (I .byte, 16384, .inl f10227)), (q10213, .inl (I .int, 40, .inl f10228)), (q10214, .inl (I .int, 40, .inl f10229)), (q10215, .inl (I .int, 40, .inl f10230)), (q10216, .inl (I .int, 200, .inl f10231)), (q10217, .inl (I .int, 200, .inl f10232)), (q10218, .inl (I .int, 200, .inl f10233)), (q10219, .inl (I .int, 200, .inl f10234)), (q10220, .inl (I .int, 200, .inl f10235)), (q10221, .inl (I .int, 200, .inl f10236))] (po_10237_Listing_addSource I q10210 q10211 q10212 q10213 q10214 q10215 q10216 q10217 q10218 q10219 q10220 q10221 p10222 p10223 p10224 p10225 p10226 f10227 f10228 f10229 f10230 f10231 f10232 f10233 f10234 f10235 f10236) gN := by
  refine Ct_of hl0 (by decide) (Nat.le_of_ble_eq_true rfl) ?_
  refine G_aload_n 1 d_cX4_addSource_0 rfl ?_
  refine G_getfN 1 3 d_cX4_addSource_1 rfl (gk_X0 D I) (Nat.le_of_ble_eq_true rfl) (fun _ _ _ h => gn_w 15 rfl h) rfl ?_
  refine G_iload_n 2 d_cX4_addSource_4 rfl ?_
  refine G_iald 6 0 d_cX4_addSource_5 rfl rfl (gB_in bp10222 (by decide) (by decide)) (G_nam fun z10238 hz10238 => ?_)
  have bz10238 : gB z10238 0 21 := by rw [hz10238]; exact bf10231 _
  refine G_bipush 15 d_cX4_addSource_6 (by decide +kernel) ?_
  refine G_icmp_ne 20 d_cX4_addSource_8 (by decide +kernel) (fun hc10239 => ?_) (fun hc10239 => ?_)
  · have r10240 : z10238.toInt ≠ 15 := gj_neq hc10239 (show Int32.toInt 15 = 15 by decide)
    refine G_aload_n 1 d_cX4_addSource_20 rfl ?_
    refine G_getfN 1 3 d_cX4_addSource_21 rfl (gk_X0 D I) (Nat.le_of_ble_eq_true rfl) (fun _ _ _ h => gn_w 15 rfl h) rfl ?_
    refine G_iload_n 2 d_cX4_addSource_24 rfl ?_
    refine G_iald 6 0 d_cX4_addSource_25 rfl rfl (gB_in bp10222 (by decide) (by decide)) (G_eqi (y := z10238) hz10238.symm ?_)
    refine G_bipush 17 d_cX4_addSource_26 (by decide +kernel) ?_
    refine G_icmp_ne 46 d_cX4_addSource_28 (by decide +kernel) (fun hc10241 => ?_) (fun hc10241 => ?_)
    · have r10242 : z10238.toInt ≠ 17 := gj_neq hc10241 (show Int32.toInt 17 = 17 by decide)
      refine G_aload_n 0 d_cX4_addSource_46 rfl ?_
      refine G_aload_n 1 d_cX4_addSource_47 rfl ?_
      refine G_getfN 1 5 d_cX4_addSource_48 rfl (gk_X0 D I) (Nat.le_of_ble_eq_true rfl) (fun _ _ _ h => gn_w 23 rfl h) rfl ?_
      refine G_iload_n 2 d_cX4_addSource_51 rfl ?_
      refine G_iald 8 0 d_cX4_addSource_52 rfl rfl (gB_in bp10222 (by decide) (by decide)) (G_nam fun z10243 hz10243 => ?_)
      have bz10243 : gB z10243 (-2147483648) 2147483647 := gB_any z10243
      refine G_aload_n 1 d_cX4_addSource_53 rfl ?_
      refine G_getfN 1 6 d_cX4_addSource_54 rfl (gk_X0 D I) (Nat.le_of_ble_eq_true rfl) (fun _ _ _ h => gn_w 27 rfl h) rfl ?_
      refine G_iload_n 2 d_cX4_addSource_57 rfl ?_
      refine G_iald 9 0 d_cX4_addSource_58 rfl rfl (gB_in bp10222 (by decide) (by decide)) (G_nam fun z10244 hz10244 => ?_)
      have bz10244 : gB z10244 (-2147483648) 2147483647 := gB_any z10244
      refine G_callV (As := [.int z10243, .int z10244]) (wr := [(q10211, .inr (5, [.ref q10213, .ref q10214, .ref q10215, .ref q10216, .ref q10217, .ref q10218, .ref q10219, .ref q10220, .ref q10221, .int p10224, .int p10225, .int p10226])), (q10213, .inl (I .int, 40, .inl f10228)), (q10214, .inl (I .int, 40, .inl f10229)), (q10215, .inl (I .int, 40, .inl f10230)), (q10216, .inl (I .int, 200, .inl f10231)), (q10217, .inl (I .int, 200, .inl f10232)), (q10218, .inl (I .int, 200, .inl f10233)), (q10219, .inl (I .int, 200, .inl f10234)), (q10220, .inl (I .int, 200, .inl f10235)), (q10221, .inl (I .int, 200, .inl f10236))]) (gV_ok D I) (ct_10251_Listing_addOperand l hl0 D I q10210 q10212 z10243 z10244 p10223 f10227 bp10223 bf10227) d_cX4_addSource_59 ⟨w_6_191, w_1_13, w_6_194, by decide, rfl, (Nat.le_of_ble_eq_true rfl), (Nat.le_of_ble_eq_true rfl)⟩ w_6_193 w_p_69 0 rfl rfl [0, 2] [1, 3, 4, 5, 6, 7, 8, 9, 10, 11] rfl rfl rfl rfl (by decide) (Nat.le_of_ble_eq_true rfl) (Nat.le_of_ble_eq_true rfl) (Nat.le_of_ble_eq_true rfl) (fun r w hp => ?_) (fun _ _ _ z => z.elim)
      obtain ⟨o10264, f10265, rfl, rfl, bo10264, bf10265, ht10266⟩ := hp
      change G _ _ _ _ _ _ _ _ _ _ _
      refine G_ws (ws' := [(q10211, .inr (5, [.ref q10213, .ref q10214, .ref q10215, .ref q10216, .ref q10217, .ref q10218, .ref q10219, .ref q10220, .ref q10221, .int p10224, .int p10225, .int p10226])), (q10213, .inl (I .int, 40, .inl f10228)), (q10214, .inl (I .int, 40, .inl f10229)), (q10215, .inl (I .int, 40, .inl f10230)), (q10216, .inl (I .int, 200, .inl f10231)), (q10217, .inl (I .int, 200, .inl f10232)), (q10218, .inl (I .int, 200, .inl f10233)), (q10219, .inl (I .int, 200, .inl f10234)), (q10220, .inl (I .int, 200, .inl f10235)), (q10221, .inl (I .int, 200, .inl f10236)), (q10210, .inr (9, [.ref q10212, .int o10264])), (q10212, .inl (I .byte, 16384, .inl f10265))]) (cs' := 0) (sl' := 0) rfl rfl rfl ?_
      refine G_aload_n 1 d_cX4_addSource_62 rfl ?_
      refine G_getfN 0 3 d_cX4_addSource_63 rfl (gk_X0 D I) (Nat.le_of_ble_eq_true rfl) (fun _ _ _ h => gn_w 15 rfl h) rfl ?_
      refine G_iload_n 2 d_cX4_addSource_66 rfl ?_
      refine G_iald 4 0 d_cX4_addSource_67 rfl rfl (gB_in bp10222 (by decide) (by decide)) (G_eqi (y := z10238) hz10238.symm ?_)
      refine G_bipush 14 d_cX4_addSource_68 (by decide +kernel) ?_
      refine G_icmp_ge 99 d_cX4_addSource_70 (by decide +kernel) (fun hc10267 => ?_) (fun hc10267 => ?_)
      · have r10268 : 14 ≤ z10238.toInt := gj_leL hc10267 (show Int32.toInt 14 = 14 by decide)
        have bz10238' : gB z10238 14 21 := ⟨by omega, by omega⟩
        refine G_sub (ws' := [(q10210, .inr (9, [.ref q10212, .int o10264])), (q10211, .inr (5, [.ref q10213, .ref q10214, .ref q10215, .ref q10216, .ref q10217, .ref q10218, .ref q10219, .ref q10220, .ref q10221, .int p10224, .int p10225, .int p10226])), (q10212, .inl (I .byte, 16384, .inl f10265)), (q10213, .inl (I .int, 40, .inl f10228)), (q10214, .inl (I .int, 40, .inl f10229)), (q10215, .inl (I .int, 40, .inl f10230)), (q10216, .inl (I .int, 200, .inl f10231)), (q10217, .inl (I .int, 200, .inl f10232)), (q10218, .inl (I .int, 200, .inl f10233)), (q10219, .inl (I .int, 200, .inl f10234)), (q10220, .inl (I .int, 200, .inl f10235)), (q10221, .inl (I .int, 200, .inl f10236))]) [10, 0, 11, 1, 2, 3, 4, 5, 6, 7, 8, 9] rfl rfl ?_
        exact G_vret d_cX4_addSource_99 rfl (Nat.le_of_ble_eq_true rfl) (Nat.le_of_ble_eq_true rfl) ⟨o10264, f10265, rfl, rfl, bo10264, bf10265, (fun R c1 c2 c3 c4 => c1 z10238 z10243 z10244 o10264 f10265 hz10238 bz10238 r10240 r10242 hz10243 hz10244 bo10264 ht10266 r10268)⟩
      · have r10269 : z10238.toInt < 14 := gj_nleL hc10267 (show Int32.toInt 14 = 14 by decide)
        have bz10238' : gB z10238 0 13 := ⟨by omega, by omega⟩
        refine G_aload_n 0 d_cX4_addSource_73 rfl ?_
        refine G_aload_n 1 d_cX4_addSource_74 rfl ?_
        refine G_getfN 0 3 d_cX4_addSource_75 rfl (gk_X0 D I) (Nat.le_of_ble_eq_true rfl) (fun _ _ _ h => gn_w 15 rfl h) rfl ?_
        refine G_iload_n 2 d_cX4_addSource_78 rfl ?_
        refine G_iald 4 0 d_cX4_addSource_79 rfl rfl (gB_in bp10222 (by decide) (by decide)) (G_eqi (y := z10238) hz10238.symm ?_)
        refine G_callV (As := [.int z10238]) (wr := [(q10211, .inr (5, [.ref q10213, .ref q10214, .ref q10215, .ref q10216, .ref q10217, .ref q10218, .ref q10219, .ref q10220, .ref q10221, .int p10224, .int p10225, .int p10226])), (q10213, .inl (I .int, 40, .inl f10228)), (q10214, .inl (I .int, 40, .inl f10229)), (q10215, .inl (I .int, 40, .inl f10230)), (q10216, .inl (I .int, 200, .inl f10231)), (q10217, .inl (I .int, 200, .inl f10232)), (q10218, .inl (I .int, 200, .inl f10233)), (q10219, .inl (I .int, 200, .inl f10234)), (q10220, .inl (I .int, 200, .inl f10235)), (q10221, .inl (I .int, 200, .inl f10236))]) (gV_ok D I) (ct_10275_Listing_addOp l hl0 D I q10210 q10212 z10238 o10264 f10265 bz10238' bo10264 bf10265) d_cX4_addSource_80 ⟨w_6_212, w_1_13, w_6_215, by decide, rfl, (Nat.le_of_ble_eq_true rfl), (Nat.le_of_ble_eq_true rfl)⟩ w_6_214 w_p_72 10 rfl rfl [10, 11] [0, 1, 2, 3, 4, 5, 6, 7, 8, 9] rfl rfl rfl rfl (by decide) (Nat.le_of_ble_eq_true rfl) (Nat.le_of_ble_eq_true rfl) (Nat.le_of_ble_eq_true rfl) (fun r w hp => ?_) (fun _ _ _ z => z.elim)
        obtain ⟨o10310, f10311, rfl, rfl, bo10310, bf10311, ht10312⟩ := hp
        change G _ _ _ _ _ _ _ _ _ _ _
        refine G_ws (ws' := [(q10211, .inr (5, [.ref q10213, .ref q10214, .ref q10215, .ref q10216, .ref q10217, .ref q10218, .ref q10219, .ref q10220, .ref q10221, .int p10224, .int p10225, .int p10226])), (q10213, .inl (I .int, 40, .inl f10228)), (q10214, .inl (I .int, 40, .inl f10229)), (q10215, .inl (I .int, 40, .inl f10230)), (q10216, .inl (I .int, 200, .inl f10231)), (q10217, .inl (I .int, 200, .inl f10232)), (q10218, .inl (I .int, 200, .inl f10233)), (q10219, .inl (I .int, 200, .inl f10234)), (q10220, .inl (I .int, 200, .inl f10235)), (q10221, .inl (I .int, 200, .inl f10236)), (q10210, .inr (9, [.ref q10212, .int o10310])), (q10212, .inl (I .byte, 16384, .inl f10311))]) (cs' := 0) (sl' := 0) rfl rfl rfl ?_
        refine G_aload_n 0 d_cX4_addSource_83 rfl ?_
        refine G_aload_n 1 d_cX4_addSource_84 rfl ?_
        refine G_getfN 0 7 d_cX4_addSource_85 rfl (gk_X0 D I) (Nat.le_of_ble_eq_true rfl) (fun _ _ _ h => gn_w 31 rfl h) rfl ?_
        refine G_iload_n 2 d_cX4_addSource_88 rfl ?_
        refine G_iald 8 0 d_cX4_addSource_89 rfl rfl (gB_in bp10222 (by decide) (by decide)) (G_nam fun z10313 hz10313 => ?_)
        have bz10313 : gB z10313 (-2147483648) 2147483647 := gB_any z10313
        refine G_aload_n 1 d_cX4_addSource_90 rfl ?_
        refine G_getfN 0 8 d_cX4_addSource_91 rfl (gk_X0 D I) (Nat.le_of_ble_eq_true rfl) (fun _ _ _ h => gn_w 34 rfl h) rfl ?_
        refine G_iload_n 2 d_cX4_addSource_94 rfl ?_
        refine G_iald 9 0 d_cX4_addSource_95 rfl rfl (gB_in bp10222 (by decide) (by decide)) (G_nam fun z10314 hz10314 => ?_)
        have bz10314 : gB z10314 (-2147483648) 2147483647 := gB_any z10314
        refine G_callV (As := [.int z10313, .int z10314]) (wr := [(q10211, .inr (5, [.ref q10213, .ref q10214, .ref q10215, .ref q10216, .ref q10217, .ref q10218, .ref q10219, .ref q10220, .ref q10221, .int p10224, .int p10225, .int p10226])), (q10213, .inl (I .int, 40, .inl f10228)), (q10214, .inl (I .int, 40, .inl f10229)), (q10215, .inl (I .int, 40, .inl f10230)), (q10216, .inl (I .int, 200, .inl f10231)), (q10217, .inl (I .int, 200, .inl f10232)), (q10218, .inl (I .int, 200, .inl f10233)), (q10219, .inl (I .int, 200, .inl f10234)), (q10220, .inl (I .int, 200, .inl f10235)), (q10221, .inl (I .int, 200, .inl f10236))]) (gV_ok D I) (ct_10251_Listing_addOperand l hl0 D I q10210 q10212 z10313 z10314 o10310 f10311 (gB_w bo10310 (by decide) (by decide)) bf10311) d_cX4_addSource_96 ⟨w_6_191, w_1_13, w_6_194, by decide, rfl, (Nat.le_of_ble_eq_true rfl), (Nat.le_of_ble_eq_true rfl)⟩ w_6_193 w_p_69 10 rfl rfl [10, 11] [0, 1, 2, 3, 4, 5, 6, 7, 8, 9] rfl rfl rfl rfl (by decide) (Nat.le_of_ble_eq_true rfl) (Nat.le_of_ble_eq_true rfl) (Nat.le_of_ble_eq_true rfl) (fun r w hp => ?_) (fun _ _ _ z => z.elim)
        obtain ⟨o10315, f10316, rfl, rfl, bo10315, bf10316, ht10317⟩ := hp
        change G _ _ _ _ _ _ _ _ _ _ _
        refine G_ws (ws' := [(q10211, .inr (5, [.ref q10213, .ref q10214, .ref q10215, .ref q10216, .ref q10217, .ref q10218, .ref q10219, .ref q10220, .ref q10221, .int p10224, .int p10225, .int p10226])), (q10213, .inl (I .int, 40, .inl f10228)), (q10214, .inl (I .int, 40, .inl f10229)), (q10215, .inl (I .int, 40, .inl f10230)), (q10216, .inl (I .int, 200, .inl f10231)), (q10217, .inl (I .int, 200, .inl f10232)), (q10218, .inl (I .int, 200, .inl f10233)), (q10219, .inl (I .int, 200, .inl f10234)), (q10220, .inl (I .int, 200, .inl f10235)), (q10221, .inl (I .int, 200, .inl f10236)), (q10210, .inr (9, [.ref q10212, .int o10315])), (q10212, .inl (I .byte, 16384, .inl f10316))]) (cs' := 0) (sl' := 0) rfl rfl rfl ?_
        refine G_sub (ws' := [(q10210, .inr (9, [.ref q10212, .int o10315])), (q10211, .inr (5, [.ref q10213, .ref q10214, .ref q10215, .ref q10216, .ref q10217, .ref q10218, .ref q10219, .ref q10220, .ref q10221, .int p10224, .int p10225, .int p10226])), (q10212, .inl (I .byte, 16384, .inl f10316)), (q10213, .inl (I .int, 40, .inl f10228)), (q10214, .inl (I .int, 40, .inl f10229)), (q10215, .inl (I .int, 40, .inl f10230)), (q10216, .inl (I .int, 200, .inl f10231)), (q10217, .inl (I .int, 200, .inl f10232)), (q10218, .inl (I .int, 200, .inl f10233)), (q10219, .inl (I .int, 200, .inl f10234)), (q10220, .inl (I .int, 200, .inl f10235)), (q10221, .inl (I .int, 200, .inl f10236))]) [10, 0, 11, 1, 2, 3, 4, 5, 6, 7, 8, 9] rfl rfl ?_
        exact G_vret d_cX4_addSource_99 rfl (Nat.le_of_ble_eq_true rfl) (Nat.le_of_ble_eq_true rfl) ⟨o10315, f10316, rfl, rfl, bo10315, bf10316, (fun R c1 c2 c3 c4 => c2 z10238 z10243 z10244 o10264 f10265 o10310 f10311 z10313 z10314 o10315 f10316 hz10238 bz10238 r10240 r10242 hz10243 hz10244 bo10264 ht10266 r10269 bo10310 ht10312 hz10313 hz10314 bo10315 ht10317)⟩
    · have r10318 : z10238.toInt = 17 := gj_eq hc10241 (show Int32.toInt 17 = 17 by decide)
      have bz10238' : gB z10238 17 17 := ⟨by omega, by omega⟩
      refine G_aload_n 0 d_cX4_addSource_31 rfl ?_
      refine G_ldcK (a := D.2 1000 26) d_cX4_addSource_32 (fun _ _ _ h => gx_vk 26 rfl rfl h) ?_
      have hl26_10318 : (sb_26.length : Int) = 5 := rfl
      refine G_aload_n 1 d_cX4_addSource_34 rfl ?_
      refine G_getfN 1 8 d_cX4_addSource_35 rfl (gk_X0 D I) (Nat.le_of_ble_eq_true rfl) (fun _ _ _ h => gn_w 34 rfl h) rfl ?_
      refine G_iload_n 2 d_cX4_addSource_38 rfl ?_
      refine G_iald 11 0 d_cX4_addSource_39 rfl rfl (gB_in bp10222 (by decide) (by decide)) (G_nam fun z10320 hz10320 => ?_)
      have bz10320 : gB z10320 (-2147483648) 2147483647 := gB_any z10320
      refine G_callV (As := [.ref (D.2 1000 26), .int z10320]) (wr := [(q10211, .inr (5, [.ref q10213, .ref q10214, .ref q10215, .ref q10216, .ref q10217, .ref q10218, .ref q10219, .ref q10220, .ref q10221, .int p10224, .int p10225, .int p10226])), (q10213, .inl (I .int, 40, .inl f10228)), (q10214, .inl (I .int, 40, .inl f10229)), (q10215, .inl (I .int, 40, .inl f10230)), (q10216, .inl (I .int, 200, .inl f10231)), (q10217, .inl (I .int, 200, .inl f10232)), (q10218, .inl (I .int, 200, .inl f10233)), (q10219, .inl (I .int, 200, .inl f10234)), (q10220, .inl (I .int, 200, .inl f10235)), (q10221, .inl (I .int, 200, .inl f10236))]) (gV_ok D I) (ct_7226_Listing_addNamed l hl0 D I q10210 q10212 (D.2 1000 26) (D.2 1001 26) sb_26 z10320 p10223 f10227 (gx_sc 26 rfl rfl) (by omega) bp10223 bf10227) d_cX4_addSource_40 ⟨w_6_161, w_1_13, w_6_164, by decide, rfl, (Nat.le_of_ble_eq_true rfl), (Nat.le_of_ble_eq_true rfl)⟩ w_6_163 w_p_64 0 rfl rfl [0, 2] [1, 3, 4, 5, 6, 7, 8, 9, 10, 11] rfl rfl rfl rfl (by decide) (Nat.le_of_ble_eq_true rfl) (Nat.le_of_ble_eq_true rfl) (Nat.le_of_ble_eq_true rfl) (fun r w hp => ?_) (fun _ _ _ z => z.elim)
      obtain ⟨o10321, f10322, rfl, rfl, bo10321, bf10322, ht10323⟩ := hp
      change G _ _ _ _ _ _ _ _ _ _ _
      refine G_ws (ws' := [(q10211, .inr (5, [.ref q10213, .ref q10214, .ref q10215, .ref q10216, .ref q10217, .ref q10218, .ref q10219, .ref q10220, .ref q10221, .int p10224, .int p10225, .int p10226])), (q10213, .inl (I .int, 40, .inl f10228)), (q10214, .inl (I .int, 40, .inl f10229)), (q10215, .inl (I .int, 40, .inl f10230)), (q10216, .inl (I .int, 200, .inl f10231)), (q10217, .inl (I .int, 200, .inl f10232)), (q10218, .inl (I .int, 200, .inl f10233)), (q10219, .inl (I .int, 200, .inl f10234)), (q10220, .inl (I .int, 200, .inl f10235)), (q10221, .inl (I .int, 200, .inl f10236)), (q10210, .inr (9, [.ref q10212, .int o10321])), (q10212, .inl (I .byte, 16384, .inl f10322))]) (cs' := 0) (sl' := 0) rfl rfl rfl ?_
      refine G_goto 99 d_cX4_addSource_43 (by decide +kernel) ?_
      refine G_sub (ws' := [(q10210, .inr (9, [.ref q10212, .int o10321])), (q10211, .inr (5, [.ref q10213, .ref q10214, .ref q10215, .ref q10216, .ref q10217, .ref q10218, .ref q10219, .ref q10220, .ref q10221, .int p10224, .int p10225, .int p10226])), (q10212, .inl (I .byte, 16384, .inl f10322)), (q10213, .inl (I .int, 40, .inl f10228)), (q10214, .inl (I .int, 40, .inl f10229)), (q10215, .inl (I .int, 40, .inl f10230)), (q10216, .inl (I .int, 200, .inl f10231)), (q10217, .inl (I .int, 200, .inl f10232)), (q10218, .inl (I .int, 200, .inl f10233)), (q10219, .inl (I .int, 200, .inl f10234)), (q10220, .inl (I .int, 200, .inl f10235)), (q10221, .inl (I .int, 200, .inl f10236))]) [10, 0, 11, 1, 2, 3, 4, 5, 6, 7, 8, 9] rfl rfl ?_
      exact G_vret d_cX4_addSource_99 rfl (Nat.le_of_ble_eq_true rfl) (Nat.le_of_ble_eq_true rfl) ⟨o10321, f10322, rfl, rfl, bo10321, bf10322, (fun R c1 c2 c3 c4 => c3 z10238 z10320 o10321 f10322 hz10238 bz10238 r10240 r10318 hz10320 bo10321 ht10323)⟩
  · have r10324 : z10238.toInt = 15 := gj_eq hc10239 (show Int32.toInt 15 = 15 by decide)
    have bz10238' : gB z10238 15 15 := ⟨by omega, by omega⟩
    refine G_aload_n 0 d_cX4_addSource_11 rfl ?_
    refine G_ldcK (a := D.2 1000 29) d_cX4_addSource_12 (fun _ _ _ h => gx_vk 29 rfl rfl h) ?_
    have hl29_10324 : (sb_29.length : Int) = 2 := rfl
    refine G_callV (As := [.ref (D.2 1000 29)]) (wr := [(q10211, .inr (5, [.ref q10213, .ref q10214, .ref q10215, .ref q10216, .ref q10217, .ref q10218, .ref q10219, .ref q10220, .ref q10221, .int p10224, .int p10225, .int p10226])), (q10213, .inl (I .int, 40, .inl f10228)), (q10214, .inl (I .int, 40, .inl f10229)), (q10215, .inl (I .int, 40, .inl f10230)), (q10216, .inl (I .int, 200, .inl f10231)), (q10217, .inl (I .int, 200, .inl f10232)), (q10218, .inl (I .int, 200, .inl f10233)), (q10219, .inl (I .int, 200, .inl f10234)), (q10220, .inl (I .int, 200, .inl f10235)), (q10221, .inl (I .int, 200, .inl f10236))]) (gV_ok D I) (ct_7234_Listing_addText l hl0 D I q10210 q10212 (D.2 1000 29) (D.2 1001 29) sb_29 p10223 f10227 (gx_sc 29 rfl rfl) (by omega) bp10223 bf10227) d_cX4_addSource_14 ⟨w_6_165, w_1_13, w_6_168, by decide, rfl, (Nat.le_of_ble_eq_true rfl), (Nat.le_of_ble_eq_true rfl)⟩ w_6_167 w_p_65 0 rfl rfl [0, 2] [1, 3, 4, 5, 6, 7, 8, 9, 10, 11] rfl rfl rfl rfl (by decide) (Nat.le_of_ble_eq_true rfl) (Nat.le_of_ble_eq_true rfl) (Nat.le_of_ble_eq_true rfl) (fun r w hp => ?_) (fun _ _ _ z => z.elim)
    obtain ⟨o10326, f10327, rfl, rfl, bo10326, bf10327, ht10328⟩ := hp
    change G _ _ _ _ _ _ _ _ _ _ _
    refine G_ws (ws' := [(q10211, .inr (5, [.ref q10213, .ref q10214, .ref q10215, .ref q10216, .ref q10217, .ref q10218, .ref q10219, .ref q10220, .ref q10221, .int p10224, .int p10225, .int p10226])), (q10213, .inl (I .int, 40, .inl f10228)), (q10214, .inl (I .int, 40, .inl f10229)), (q10215, .inl (I .int, 40, .inl f10230)), (q10216, .inl (I .int, 200, .inl f10231)), (q10217, .inl (I .int, 200, .inl f10232)), (q10218, .inl (I .int, 200, .inl f10233)), (q10219, .inl (I .int, 200, .inl f10234)), (q10220, .inl (I .int, 200, .inl f10235)), (q10221, .inl (I .int, 200, .inl f10236)), (q10210, .inr (9, [.ref q10212, .int o10326])), (q10212, .inl (I .byte, 16384, .inl f10327))]) (cs' := 0) (sl' := 0) rfl rfl rfl ?_
    refine G_goto 99 d_cX4_addSource_17 (by decide +kernel) ?_
    refine G_sub (ws' := [(q10210, .inr (9, [.ref q10212, .int o10326])), (q10211, .inr (5, [.ref q10213, .ref q10214, .ref q10215, .ref q10216, .ref q10217, .ref q10218, .ref q10219, .ref q10220, .ref q10221, .int p10224, .int p10225, .int p10226])), (q10212, .inl (I .byte, 16384, .inl f10327)), (q10213, .inl (I .int, 40, .inl f10228)), (q10214, .inl (I .int, 40, .inl f10229)), (q10215, .inl (I .int, 40, .inl f10230)), (q10216, .inl (I .int, 200, .inl f10231)), (q10217, .inl (I .int, 200, .inl f10232)), (q10218, .inl (I .int, 200, .inl f10233)), (q10219, .inl (I .int, 200, .inl f10234)), (q10220, .inl (I .int, 200, .inl f10235)), (q10221, .inl (I .int, 200, .inl f10236))]) [10, 0, 11, 1, 2, 3, 4, 5, 6, 7, 8, 9] rfl rfl ?_
    exact G_vret d_cX4_addSource_99 rfl (Nat.le_of_ble_eq_true rfl) (Nat.le_of_ble_eq_true rfl) ⟨o10326, f10327, rfl, rfl, bo10326, bf10327, (fun R c1 c2 c3 c4 => c4 z10238 o10326 f10327 hz10238 bz10238 r10324 bo10326 ht10328)⟩
/- tr_Listing_addRow: Listing_size, Listing_bytes -/
def tr_Listing_addRow (a2 : Int32) (Listing_size : Int32) (Listing_bytes : Nat → Int32) (Code_op : Nat → Int32) (Code_set : Nat → Int32) (Code_left : Nat → Int32) (Code_leftNumber : Nat → Int32) (Code_right : Nat → Int32) (Code_rightNumber : Nat → Int32) (o1 : Int32) (o2 : Nat → Int32) : Prop := ∀ R : (Int32) → (Nat → Int32) → Prop,
  (∀ (x1 : Int32) (x2 : Int32) (x3 : Int32) (x4 : Nat → Int32) (x5 : Int32) (x6 : Nat → Int32) (x7 : Int32) (x8 : Nat → Int32), x1 = Code_op a2.toNatClampNeg → gB x1 0 21 → x1.toInt ≠ 16 → x1.toInt ≠ 18 → x2 = Code_set a2.toNatClampNeg → gB x3 0 16384 → tr_Listing_addNamed sb_21 x2 Listing_size Listing_bytes x3 x4 → gB x5 0 16384 → tr_Listing_addText sb_28 x3 x4 x5 x6 → gB x7 0 16384 → tr_Listing_addSource a2 x5 x6 Code_op Code_left Code_leftNumber Code_right Code_rightNumber x7 x8 → R x7 x8) →
  (∀ (x1 : Int32) (x2 : Int32) (x3 : Int32) (x4 : Nat → Int32) (x5 : Int32) (x6 : Int32) (x7 : Nat → Int32), x1 = Code_op a2.toNatClampNeg → gB x1 0 21 → x1.toInt ≠ 16 → x1.toInt = 18 → x2 = Code_rightNumber a2.toNatClampNeg → gB x3 0 16384 → tr_Listing_addNamed sb_26 x2 Listing_size Listing_bytes x3 x4 → x5 = Code_left a2.toNatClampNeg → gB x6 0 16384 → tr_Listing_addNamed sb_27 x5 x3 x4 x6 x7 → R x6 x7) →
  (∀ (x1 : Int32) (x2 : Int32) (x3 : Nat → Int32) (x4 : Int32) (x5 : Int32) (x6 : Int32) (x7 : Nat → Int32), x1 = Code_op a2.toNatClampNeg → gB x1 0 21 → x1.toInt = 16 → gB x2 0 16384 → tr_Listing_addText sb_25 Listing_size Listing_bytes x2 x3 → x4 = Code_left a2.toNatClampNeg → x5 = Code_leftNumber a2.toNatClampNeg → gB x6 0 16384 → tr_Listing_addOperand x4 x5 x2 x3 x6 x7 → R x6 x7) →
  R o1 o2
