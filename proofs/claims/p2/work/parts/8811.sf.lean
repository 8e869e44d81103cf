theorem d_cX4_eightFrom_0 : decode cX4_eightFrom 0 = .ok (.lconst 0, 1) := by decide +kernel
theorem d_cX4_eightFrom_1 : decode cX4_eightFrom 1 = .ok (.lstore_n 2, 1) := by decide +kernel
theorem d_cX4_eightFrom_2 : decode cX4_eightFrom 2 = .ok (.iload_n 1, 1) := by decide +kernel
theorem d_cX4_eightFrom_3 : decode cX4_eightFrom 3 = .ok (.istore 4, 2) := by decide +kernel
theorem d_cX4_eightFrom_5 : decode cX4_eightFrom 5 = .ok (.iload 4, 2) := by decide +kernel
theorem d_cX4_eightFrom_7 : decode cX4_eightFrom 7 = .ok (.iload_n 1, 1) := by decide +kernel
theorem d_cX4_eightFrom_8 : decode cX4_eightFrom 8 = .ok (.bipush 8, 2) := by decide +kernel
theorem d_cX4_eightFrom_10 : decode cX4_eightFrom 10 = .ok (.iadd, 1) := by decide +kernel
theorem d_cX4_eightFrom_11 : decode cX4_eightFrom 11 = .ok (.if_icmp .ge 45, 3) := by decide +kernel
theorem d_cX4_eightFrom_56 : decode cX4_eightFrom 56 = .ok (.lload_n 2, 1) := by decide +kernel
theorem d_cX4_eightFrom_57 : decode cX4_eightFrom 57 = .ok (.lreturn, 1) := by decide +kernel
theorem d_cX4_eightFrom_14 : decode cX4_eightFrom 14 = .ok (.lload_n 2, 1) := by decide +kernel
theorem d_cX4_eightFrom_15 : decode cX4_eightFrom 15 = .ok (.bipush 8, 2) := by decide +kernel
theorem d_cX4_eightFrom_17 : decode cX4_eightFrom 17 = .ok (.lshl, 1) := by decide +kernel
theorem d_cX4_eightFrom_18 : decode cX4_eightFrom 18 = .ok (.iload 4, 2) := by decide +kernel
theorem d_cX4_eightFrom_20 : decode cX4_eightFrom 20 = .ok (.ifCond .lt 26, 3) := by decide +kernel
theorem d_cX4_eightFrom_46 : decode cX4_eightFrom 46 = .ok (.iconst 0, 1) := by decide +kernel
theorem d_cX4_eightFrom_47 : decode cX4_eightFrom 47 = .ok (.i2l, 1) := by decide +kernel
theorem d_cX4_eightFrom_48 : decode cX4_eightFrom 48 = .ok (.lor, 1) := by decide +kernel
theorem d_cX4_eightFrom_49 : decode cX4_eightFrom 49 = .ok (.lstore_n 2, 1) := by decide +kernel
theorem d_cX4_eightFrom_50 : decode cX4_eightFrom 50 = .ok (.iinc 4 1, 3) := by decide +kernel
theorem d_cX4_eightFrom_53 : decode cX4_eightFrom 53 = .ok (.goto (-48), 3) := by decide +kernel
theorem d_cX4_eightFrom_23 : decode cX4_eightFrom 23 = .ok (.iload 4, 2) := by decide +kernel
theorem d_cX4_eightFrom_25 : decode cX4_eightFrom 25 = .ok (.aload_n 0, 1) := by decide +kernel
theorem d_cX4_eightFrom_26 : decode cX4_eightFrom 26 = .ok (.getfield 15, 3) := by decide +kernel
theorem w_2_201 : (Jvm.Cond.fieldLink "SpillForge$Listing" (15 : Nat) "SpillForge$Listing" "size" "I") ∈ gw := gw_2 201 rfl rfl
theorem d_cX4_eightFrom_29 : decode cX4_eightFrom 29 = .ok (.if_icmp .ge 17, 3) := by decide +kernel
theorem d_cX4_eightFrom_32 : decode cX4_eightFrom 32 = .ok (.aload_n 0, 1) := by decide +kernel
theorem d_cX4_eightFrom_33 : decode cX4_eightFrom 33 = .ok (.getfield 9, 3) := by decide +kernel
theorem w_2_200 : (Jvm.Cond.fieldLink "SpillForge$Listing" (9 : Nat) "SpillForge$Listing" "bytes" "[B") ∈ gw := gw_2 200 rfl rfl
theorem d_cX4_eightFrom_36 : decode cX4_eightFrom 36 = .ok (.iload 4, 2) := by decide +kernel
theorem d_cX4_eightFrom_38 : decode cX4_eightFrom 38 = .ok (.baload, 1) := by decide +kernel
theorem d_cX4_eightFrom_39 : decode cX4_eightFrom 39 = .ok (.sipush 255, 3) := by decide +kernel
theorem d_cX4_eightFrom_42 : decode cX4_eightFrom 42 = .ok (.iand, 1) := by decide +kernel
theorem d_cX4_eightFrom_43 : decode cX4_eightFrom 43 = .ok (.goto 4, 3) := by decide +kernel
theorem d_cX4_addByte_0 : decode cX4_addByte 0 = .ok (.aload_n 0, 1) := by decide +kernel
theorem d_cX4_addByte_1 : decode cX4_addByte 1 = .ok (.getfield 15, 3) := by decide +kernel
theorem d_cX4_addByte_4 : decode cX4_addByte 4 = .ok (.aload_n 0, 1) := by decide +kernel
theorem d_cX4_addByte_5 : decode cX4_addByte 5 = .ok (.getfield 9, 3) := by decide +kernel
theorem d_cX4_addByte_8 : decode cX4_addByte 8 = .ok (.arraylength, 1) := by decide +kernel
theorem d_cX4_addByte_9 : decode cX4_addByte 9 = .ok (.if_icmp .ge 24, 3) := by decide +kernel
theorem d_cX4_addByte_33 : decode cX4_addByte 33 = .ok (.return_, 1) := by decide +kernel
theorem d_cX4_addByte_12 : decode cX4_addByte 12 = .ok (.aload_n 0, 1) := by decide +kernel
theorem d_cX4_addByte_13 : decode cX4_addByte 13 = .ok (.getfield 9, 3) := by decide +kernel
theorem d_cX4_addByte_16 : decode cX4_addByte 16 = .ok (.aload_n 0, 1) := by decide +kernel
theorem d_cX4_addByte_17 : decode cX4_addByte 17 = .ok (.getfield 15, 3) := by decide +kernel
theorem d_cX4_addByte_20 : decode cX4_addByte 20 = .ok (.iload_n 1, 1) := by decide +kernel
theorem d_cX4_addByte_21 : decode cX4_addByte 21 = .ok (.i2b, 1) := by decide +kernel
theorem d_cX4_addByte_22 : decode cX4_addByte 22 = .ok (.bastore, 1) := by decide +kernel
theorem d_cX4_addByte_23 : decode cX4_addByte 23 = .ok (.aload_n 0, 1) := by decide +kernel
theorem d_cX4_addByte_24 : decode cX4_addByte 24 = .ok (.dup, 1) := by decide +kernel
theorem d_cX4_addByte_25 : decode cX4_addByte 25 = .ok (.getfield 15, 3) := by decide +kernel
theorem d_cX4_addByte_28 : decode cX4_addByte 28 = .ok (.iconst 1, 1) := by decide +kernel
theorem d_cX4_addByte_29 : decode cX4_addByte 29 = .ok (.iadd, 1) := by decide +kernel
theorem d_cX4_addByte_30 : decode cX4_addByte 30 = .ok (.putfield 15, 3) := by decide +kernel
theorem d_cX4_addText_0 : decode cX4_addText 0 = .ok (.iconst 0, 1) := by decide +kernel
theorem d_cX4_addText_1 : decode cX4_addText 1 = .ok (.istore_n 2, 1) := by decide +kernel
theorem d_cX4_addText_2 : decode cX4_addText 2 = .ok (.iload_n 2, 1) := by decide +kernel
theorem d_cX4_addText_3 : decode cX4_addText 3 = .ok (.aload_n 1, 1) := by decide +kernel
theorem d_cX4_addText_4 : decode cX4_addText 4 = .ok (.invokevirtual 122, 3) := by decide +kernel
theorem w_6_169 : (Jvm.Cond.methodLink "SpillForge$Listing" (122 : Nat) ({ cls := "java/lang/String", name := "length", desc := "()I" } : Jvm.MethodName)) ∈ gw := gw_6 169 rfl rfl
theorem d_cX4_addText_7 : decode cX4_addText 7 = .ok (.if_icmp .ge 18, 3) := by decide +kernel
theorem d_cX4_addText_25 : decode cX4_addText 25 = .ok (.return_, 1) := by decide +kernel
theorem d_cX4_addText_10 : decode cX4_addText 10 = .ok (.aload_n 0, 1) := by decide +kernel
theorem d_cX4_addText_11 : decode cX4_addText 11 = .ok (.aload_n 1, 1) := by decide +kernel
theorem d_cX4_addText_12 : decode cX4_addText 12 = .ok (.iload_n 2, 1) := by decide +kernel
theorem d_cX4_addText_13 : decode cX4_addText 13 = .ok (.invokevirtual 113, 3) := by decide +kernel
theorem w_6_170 : (Jvm.Cond.methodLink "SpillForge$Listing" (113 : Nat) ({ cls := "java/lang/String", name := "charAt", desc := "(I)C" } : Jvm.MethodName)) ∈ gw := gw_6 170 rfl rfl
theorem d_cX4_addText_16 : decode cX4_addText 16 = .ok (.invokevirtual 55, 3) := by decide +kernel
theorem w_6_171 : (Jvm.Cond.methodLink "SpillForge$Listing" (55 : Nat) ({ cls := "SpillForge$Listing", name := "addByte", desc := "(C)V" } : Jvm.MethodName)) ∈ gw := gw_6 171 rfl rfl
theorem w_1_13 : (Jvm.Cond.initialized "SpillForge$Listing") ∈ gw := gw_1 13 rfl rfl
theorem w_6_174 : (Jvm.Cond.code ({ cls := "SpillForge$Listing", name := "addByte", desc := "(C)V" } : Jvm.MethodName) prog_6_method_13_code (2 : Nat) (Option.none : Option Jvm.ClassFile.FieldType)) ∈ gw := gw_6 174 rfl rfl
theorem w_6_173 : (Jvm.Cond.instanceMethod ({ cls := "SpillForge$Listing", name := "addByte", desc := "(C)V" } : Jvm.MethodName)) ∈ gw := gw_6 173 rfl rfl
theorem w_p_66 : Cond.selects "SpillForge$Listing" ⟨"SpillForge$Listing", "addByte", "(C)V"⟩ ⟨"SpillForge$Listing", "addByte", "(C)V"⟩ ∈ gw := gw_p _ 66 rfl rfl rfl
theorem d_cX4_addText_19 : decode cX4_addText 19 = .ok (.iinc 2 1, 3) := by decide +kernel
theorem d_cX4_addText_22 : decode cX4_addText 22 = .ok (.goto (-20), 3) := by decide +kernel
theorem d_cJ9_abs_067f4_0 : decode cJ9_abs_067f4 0 = .ok (.lload_n 0, 1) := by decide +kernel
theorem d_cJ9_abs_067f4_1 : decode cJ9_abs_067f4 1 = .ok (.lconst 0, 1) := by decide +kernel
theorem d_cJ9_abs_067f4_2 : decode cJ9_abs_067f4 2 = .ok (.lcmp, 1) := by decide +kernel
theorem d_cJ9_abs_067f4_3 : decode cJ9_abs_067f4 3 = .ok (.ifCond .ge 8, 3) := by decide +kernel
theorem d_cJ9_abs_067f4_11 : decode cJ9_abs_067f4 11 = .ok (.lload_n 0, 1) := by decide +kernel
theorem d_cJ9_abs_067f4_12 : decode cJ9_abs_067f4 12 = .ok (.lreturn, 1) := by decide +kernel
theorem d_cJ9_abs_067f4_6 : decode cJ9_abs_067f4 6 = .ok (.lload_n 0, 1) := by decide +kernel
theorem d_cJ9_abs_067f4_7 : decode cJ9_abs_067f4 7 = .ok (.lneg, 1) := by decide +kernel
theorem d_cJ9_abs_067f4_8 : decode cJ9_abs_067f4 8 = .ok (.goto 4, 3) := by decide +kernel
theorem d_cX4_addNumber_0 : decode cX4_addNumber 0 = .ok (.iload_n 1, 1) := by decide +kernel
theorem d_cX4_addNumber_1 : decode cX4_addNumber 1 = .ok (.ifCond .ge 9, 3) := by decide +kernel
theorem d_cX4_addNumber_10 : decode cX4_addNumber 10 = .ok (.iload_n 1, 1) := by decide +kernel
theorem d_cX4_addNumber_11 : decode cX4_addNumber 11 = .ok (.i2l, 1) := by decide +kernel
theorem d_cX4_addNumber_12 : decode cX4_addNumber 12 = .ok (.invokestatic 126, 3) := by decide +kernel
theorem w_6_179 : (Jvm.Cond.methodLink "SpillForge$Listing" (126 : Nat) ({ cls := "java/lang/Math", name := "abs", desc := "(J)J" } : Jvm.MethodName)) ∈ gw := gw_6 179 rfl rfl
theorem w_6_181 : (Jvm.Cond.code ({ cls := "java/lang/Math", name := "abs", desc := "(J)J" } : Jvm.MethodName) prog_32_method_61_code (2 : Nat) (Option.some Jvm.ClassFile.FieldType.long)) ∈ gw := gw_6 181 rfl rfl
theorem w_6_180 : (Jvm.Cond.static ({ cls := "java/lang/Math", name := "abs", desc := "(J)J" } : Jvm.MethodName)) ∈ gw := gw_6 180 rfl rfl
theorem d_cX4_addNumber_15 : decode cX4_addNumber 15 = .ok (.lstore_n 2, 1) := by decide +kernel
theorem d_cX4_addNumber_16 : decode cX4_addNumber 16 = .ok (.lconst 1, 1) := by decide +kernel
theorem d_cX4_addNumber_17 : decode cX4_addNumber 17 = .ok (.lstore 4, 2) := by decide +kernel
theorem d_cX4_addNumber_19 : decode cX4_addNumber 19 = .ok (.iconst 0, 1) := by decide +kernel
theorem d_cX4_addNumber_20 : decode cX4_addNumber 20 = .ok (.istore 6, 2) := by decide +kernel
theorem d_cX4_addNumber_22 : decode cX4_addNumber 22 = .ok (.iload 6, 2) := by decide +kernel
theorem d_cX4_addNumber_24 : decode cX4_addNumber 24 = .ok (.bipush 9, 2) := by decide +kernel
theorem d_cX4_addNumber_26 : decode cX4_addNumber 26 = .ok (.if_icmp .ge 28, 3) := by decide +kernel
theorem d_cX4_addNumber_54 : decode cX4_addNumber 54 = .ok (.iconst 0, 1) := by decide +kernel
theorem d_cX4_addNumber_55 : decode cX4_addNumber 55 = .ok (.istore 6, 2) := by decide +kernel
theorem d_cX4_addNumber_57 : decode cX4_addNumber 57 = .ok (.iload 6, 2) := by decide +kernel
theorem d_cX4_addNumber_59 : decode cX4_addNumber 59 = .ok (.bipush 10, 2) := by decide +kernel
theorem d_cX4_addNumber_61 : decode cX4_addNumber 61 = .ok (.if_icmp .ge 42, 3) := by decide +kernel
theorem d_cX4_addNumber_103 : decode cX4_addNumber 103 = .ok (.return_, 1) := by decide +kernel
theorem d_cX4_addNumber_64 : decode cX4_addNumber 64 = .ok (.lload 4, 2) := by decide +kernel
theorem d_cX4_addNumber_66 : decode cX4_addNumber 66 = .ok (.lconst 0, 1) := by decide +kernel
theorem d_cX4_addNumber_67 : decode cX4_addNumber 67 = .ok (.lcmp, 1) := by decide +kernel
theorem d_cX4_addNumber_68 : decode cX4_addNumber 68 = .ok (.ifCond .le 35, 3) := by decide +kernel
theorem d_cX4_addNumber_71 : decode cX4_addNumber 71 = .ok (.aload_n 0, 1) := by decide +kernel
theorem d_cX4_addNumber_72 : decode cX4_addNumber 72 = .ok (.ldc2_w 134, 3) := by decide +kernel
theorem w_6_183 : (Jvm.Cond.constantLong "SpillForge$Listing" (134 : Nat) (48 : Int64)) ∈ gw := gw_6 183 rfl rfl
theorem d_cX4_addNumber_75 : decode cX4_addNumber 75 = .ok (.lload_n 2, 1) := by decide +kernel
theorem d_cX4_addNumber_76 : decode cX4_addNumber 76 = .ok (.lload 4, 2) := by decide +kernel
theorem d_cX4_addNumber_78 : decode cX4_addNumber 78 = .ok (.ldiv, 1) := by decide +kernel
theorem d_cX4_addNumber_79 : decode cX4_addNumber 79 = .ok (.ldc2_w 132, 3) := by decide +kernel
theorem w_6_182 : (Jvm.Cond.constantLong "SpillForge$Listing" (132 : Nat) (10 : Int64)) ∈ gw := gw_6 182 rfl rfl
theorem d_cX4_addNumber_82 : decode cX4_addNumber 82 = .ok (.lrem, 1) := by decide +kernel
theorem d_cX4_addNumber_83 : decode cX4_addNumber 83 = .ok (.ladd, 1) := by decide +kernel
theorem d_cX4_addNumber_84 : decode cX4_addNumber 84 = .ok (.l2i, 1) := by decide +kernel
theorem d_cX4_addNumber_85 : decode cX4_addNumber 85 = .ok (.i2c, 1) := by decide +kernel
theorem d_cX4_addNumber_86 : decode cX4_addNumber 86 = .ok (.invokevirtual 55, 3) := by decide +kernel
theorem d_cX4_addNumber_89 : decode cX4_addNumber 89 = .ok (.lload 4, 2) := by decide +kernel
theorem d_cX4_addNumber_91 : decode cX4_addNumber 91 = .ok (.ldc2_w 132, 3) := by decide +kernel
theorem d_cX4_addNumber_94 : decode cX4_addNumber 94 = .ok (.ldiv, 1) := by decide +kernel
theorem d_cX4_addNumber_95 : decode cX4_addNumber 95 = .ok (.lstore 4, 2) := by decide +kernel
theorem d_cX4_addNumber_97 : decode cX4_addNumber 97 = .ok (.iinc 6 1, 3) := by decide +kernel
theorem d_cX4_addNumber_100 : decode cX4_addNumber 100 = .ok (.goto (-43), 3) := by decide +kernel
theorem d_cX4_addNumber_29 : decode cX4_addNumber 29 = .ok (.lload 4, 2) := by decide +kernel
theorem d_cX4_addNumber_31 : decode cX4_addNumber 31 = .ok (.lload_n 2, 1) := by decide +kernel
theorem d_cX4_addNumber_32 : decode cX4_addNumber 32 = .ok (.ldc2_w 132, 3) := by decide +kernel
theorem d_cX4_addNumber_35 : decode cX4_addNumber 35 = .ok (.ldiv, 1) := by decide +kernel
theorem d_cX4_addNumber_36 : decode cX4_addNumber 36 = .ok (.lcmp, 1) := by decide +kernel
theorem d_cX4_addNumber_37 : decode cX4_addNumber 37 = .ok (.ifCond .gt 17, 3) := by decide +kernel
theorem d_cX4_addNumber_40 : decode cX4_addNumber 40 = .ok (.lload 4, 2) := by decide +kernel
theorem d_cX4_addNumber_42 : decode cX4_addNumber 42 = .ok (.ldc2_w 132, 3) := by decide +kernel
theorem d_cX4_addNumber_45 : decode cX4_addNumber 45 = .ok (.lmul, 1) := by decide +kernel
theorem d_cX4_addNumber_46 : decode cX4_addNumber 46 = .ok (.lstore 4, 2) := by decide +kernel
theorem d_cX4_addNumber_48 : decode cX4_addNumber 48 = .ok (.iinc 6 1, 3) := by decide +kernel
theorem d_cX4_addNumber_51 : decode cX4_addNumber 51 = .ok (.goto (-29), 3) := by decide +kernel
theorem d_cX4_addNumber_4 : decode cX4_addNumber 4 = .ok (.aload_n 0, 1) := by decide +kernel
theorem d_cX4_addNumber_5 : decode cX4_addNumber 5 = .ok (.bipush 45, 2) := by decide +kernel
theorem d_cX4_addNumber_7 : decode cX4_addNumber 7 = .ok (.invokevirtual 55, 3) := by decide +kernel
theorem d_cX4_addNamed_0 : decode cX4_addNamed 0 = .ok (.aload_n 0, 1) := by decide +kernel
theorem d_cX4_addNamed_1 : decode cX4_addNamed 1 = .ok (.aload_n 1, 1) := by decide +kernel
theorem d_cX4_addNamed_2 : decode cX4_addNamed 2 = .ok (.invokevirtual 32, 3) := by decide +kernel
theorem w_6_165 : (Jvm.Cond.methodLink "SpillForge$Listing" (32 : Nat) ({ cls := "SpillForge$Listing", name := "addText", desc := "(Ljava/lang/String;)V" } : Jvm.MethodName)) ∈ gw := gw_6 165 rfl rfl
theorem w_6_168 : (Jvm.Cond.code ({ cls := "SpillForge$Listing", name := "addText", desc := "(Ljava/lang/String;)V" } : Jvm.MethodName) prog_6_method_11_code (3 : Nat) (Option.none : Option Jvm.ClassFile.FieldType)) ∈ gw := gw_6 168 rfl rfl
theorem w_6_167 : (Jvm.Cond.instanceMethod ({ cls := "SpillForge$Listing", name := "addText", desc := "(Ljava/lang/String;)V" } : Jvm.MethodName)) ∈ gw := gw_6 167 rfl rfl
theorem w_p_65 : Cond.selects "SpillForge$Listing" ⟨"SpillForge$Listing", "addText", "(Ljava/lang/String;)V"⟩ ⟨"SpillForge$Listing", "addText", "(Ljava/lang/String;)V"⟩ ∈ gw := gw_p _ 65 rfl rfl rfl
theorem d_cX4_addNamed_5 : decode cX4_addNamed 5 = .ok (.aload_n 0, 1) := by decide +kernel
theorem d_cX4_addNamed_6 : decode cX4_addNamed 6 = .ok (.iload_n 2, 1) := by decide +kernel
theorem d_cX4_addNamed_7 : decode cX4_addNamed 7 = .ok (.invokevirtual 119, 3) := by decide +kernel
theorem w_6_175 : (Jvm.Cond.methodLink "SpillForge$Listing" (119 : Nat) ({ cls := "SpillForge$Listing", name := "addNumber", desc := "(I)V" } : Jvm.MethodName)) ∈ gw := gw_6 175 rfl rfl
theorem w_6_178 : (Jvm.Cond.code ({ cls := "SpillForge$Listing", name := "addNumber", desc := "(I)V" } : Jvm.MethodName) prog_6_method_12_code (7 : Nat) (Option.none : Option Jvm.ClassFile.FieldType)) ∈ gw := gw_6 178 rfl rfl
theorem w_6_177 : (Jvm.Cond.instanceMethod ({ cls := "SpillForge$Listing", name := "addNumber", desc := "(I)V" } : Jvm.MethodName)) ∈ gw := gw_6 177 rfl rfl
theorem w_p_67 : Cond.selects "SpillForge$Listing" ⟨"SpillForge$Listing", "addNumber", "(I)V"⟩ ⟨"SpillForge$Listing", "addNumber", "(I)V"⟩ ∈ gw := gw_p _ 67 rfl rfl rfl
theorem d_cX4_addNamed_10 : decode cX4_addNamed 10 = .ok (.return_, 1) := by decide +kernel
theorem d_cX4_addOperand_0 : decode cX4_addOperand 0 = .ok (.iload_n 1, 1) := by decide +kernel
theorem d_cX4_addOperand_1 : decode cX4_addOperand 1 = .ok (.iconst (-1), 1) := by decide +kernel
theorem d_cX4_addOperand_2 : decode cX4_addOperand 2 = .ok (.if_icmp .ne 11, 3) := by decide +kernel
theorem d_cX4_addOperand_13 : decode cX4_addOperand 13 = .ok (.aload_n 0, 1) := by decide +kernel
theorem d_cX4_addOperand_14 : decode cX4_addOperand 14 = .ok (.ldc 92, 2) := by decide +kernel
theorem d_cX4_addOperand_16 : decode cX4_addOperand 16 = .ok (.iload_n 1, 1) := by decide +kernel
theorem d_cX4_addOperand_17 : decode cX4_addOperand 17 = .ok (.invokevirtual 26, 3) := by decide +kernel
theorem w_6_161 : (Jvm.Cond.methodLink "SpillForge$Listing" (26 : Nat) ({ cls := "SpillForge$Listing", name := "addNamed", desc := "(Ljava/lang/String;I)V" } : Jvm.MethodName)) ∈ gw := gw_6 161 rfl rfl
theorem w_6_164 : (Jvm.Cond.code ({ cls := "SpillForge$Listing", name := "addNamed", desc := "(Ljava/lang/String;I)V" } : Jvm.MethodName) prog_6_method_10_code (3 : Nat) (Option.none : Option Jvm.ClassFile.FieldType)) ∈ gw := gw_6 164 rfl rfl
theorem w_6_163 : (Jvm.Cond.instanceMethod ({ cls := "SpillForge$Listing", name := "addNamed", desc := "(Ljava/lang/String;I)V" } : Jvm.MethodName)) ∈ gw := gw_6 163 rfl rfl
theorem w_p_64 : Cond.selects "SpillForge$Listing" ⟨"SpillForge$Listing", "addNamed", "(Ljava/lang/String;I)V"⟩ ⟨"SpillForge$Listing", "addNamed", "(Ljava/lang/String;I)V"⟩ ∈ gw := gw_p _ 64 rfl rfl rfl
theorem d_cX4_addOperand_20 : decode cX4_addOperand 20 = .ok (.return_, 1) := by decide +kernel
theorem d_cX4_addOperand_5 : decode cX4_addOperand 5 = .ok (.aload_n 0, 1) := by decide +kernel
theorem d_cX4_addOperand_6 : decode cX4_addOperand 6 = .ok (.iload_n 2, 1) := by decide +kernel
theorem d_cX4_addOperand_7 : decode cX4_addOperand 7 = .ok (.invokevirtual 119, 3) := by decide +kernel
theorem d_cX4_addOperand_10 : decode cX4_addOperand 10 = .ok (.goto 10, 3) := by decide +kernel
theorem d_cX4_addOp_0 : decode cX4_addOp 0 = .ok (.aload_n 0, 1) := by decide +kernel
theorem d_cX4_addOp_1 : decode cX4_addOp 1 = .ok (.bipush 32, 2) := by decide +kernel
theorem d_cX4_addOp_3 : decode cX4_addOp 3 = .ok (.invokevirtual 55, 3) := by decide +kernel
theorem d_cX4_addOp_6 : decode cX4_addOp 6 = .ok (.aload_n 0, 1) := by decide +kernel
theorem d_cX4_addOp_7 : decode cX4_addOp 7 = .ok (.ldc 111, 2) := by decide +kernel
theorem d_cX4_addOp_9 : decode cX4_addOp 9 = .ok (.iconst 2, 1) := by decide +kernel
theorem d_cX4_addOp_10 : decode cX4_addOp 10 = .ok (.iload_n 1, 1) := by decide +kernel
theorem d_cX4_addOp_11 : decode cX4_addOp 11 = .ok (.imul, 1) := by decide +kernel
theorem d_cX4_addOp_12 : decode cX4_addOp 12 = .ok (.invokevirtual 113, 3) := by decide +kernel
theorem d_cX4_addOp_15 : decode cX4_addOp 15 = .ok (.invokevirtual 55, 3) := by decide +kernel
theorem d_cX4_addOp_18 : decode cX4_addOp 18 = .ok (.ldc 111, 2) := by decide +kernel
theorem d_cX4_addOp_20 : decode cX4_addOp 20 = .ok (.iconst 2, 1) := by decide +kernel
theorem d_cX4_addOp_21 : decode cX4_addOp 21 = .ok (.iload_n 1, 1) := by decide +kernel
theorem d_cX4_addOp_22 : decode cX4_addOp 22 = .ok (.imul, 1) := by decide +kernel
theorem d_cX4_addOp_23 : decode cX4_addOp 23 = .ok (.iconst 1, 1) := by decide +kernel
theorem d_cX4_addOp_24 : decode cX4_addOp 24 = .ok (.iadd, 1) := by decide +kernel
theorem d_cX4_addOp_25 : decode cX4_addOp 25 = .ok (.invokevirtual 113, 3) := by decide +kernel
theorem d_cX4_addOp_28 : decode cX4_addOp 28 = .ok (.bipush 32, 2) := by decide +kernel
theorem d_cX4_addOp_30 : decode cX4_addOp 30 = .ok (.if_icmp .eq 17, 3) := by decide +kernel
theorem d_cX4_addOp_47 : decode cX4_addOp 47 = .ok (.aload_n 0, 1) := by decide +kernel
theorem d_cX4_addOp_48 : decode cX4_addOp 48 = .ok (.bipush 32, 2) := by decide +kernel
theorem d_cX4_addOp_50 : decode cX4_addOp 50 = .ok (.invokevirtual 55, 3) := by decide +kernel
theorem d_cX4_addOp_53 : decode cX4_addOp 53 = .ok (.return_, 1) := by decide +kernel
theorem d_cX4_addOp_33 : decode cX4_addOp 33 = .ok (.aload_n 0, 1) := by decide +kernel
theorem d_cX4_addOp_34 : decode cX4_addOp 34 = .ok (.ldc 111, 2) := by decide +kernel
theorem d_cX4_addOp_36 : decode cX4_addOp 36 = .ok (.iconst 2, 1) := by decide +kernel
theorem d_cX4_addOp_37 : decode cX4_addOp 37 = .ok (.iload_n 1, 1) := by decide +kernel
theorem d_cX4_addOp_38 : decode cX4_addOp 38 = .ok (.imul, 1) := by decide +kernel
theorem d_cX4_addOp_39 : decode cX4_addOp 39 = .ok (.iconst 1, 1) := by decide +kernel
theorem d_cX4_addOp_40 : decode cX4_addOp 40 = .ok (.iadd, 1) := by decide +kernel
theorem d_cX4_addOp_41 : decode cX4_addOp 41 = .ok (.invokevirtual 113, 3) := by decide +kernel
theorem d_cX4_addOp_44 : decode cX4_addOp 44 = .ok (.invokevirtual 55, 3) := by decide +kernel
theorem d_cX4_addSource_0 : decode cX4_addSource 0 = .ok (.aload_n 1, 1) := by decide +kernel
theorem d_cX4_addSource_1 : decode cX4_addSource 1 = .ok (.getfield 44, 3) := by decide +kernel
theorem d_cX4_addSource_4 : decode cX4_addSource 4 = .ok (.iload_n 2, 1) := by decide +kernel
theorem d_cX4_addSource_5 : decode cX4_addSource 5 = .ok (.iaload, 1) := by decide +kernel
theorem d_cX4_addSource_6 : decode cX4_addSource 6 = .ok (.bipush 15, 2) := by decide +kernel
theorem d_cX4_addSource_8 : decode cX4_addSource 8 = .ok (.if_icmp .ne 12, 3) := by decide +kernel
theorem d_cX4_addSource_20 : decode cX4_addSource 20 = .ok (.aload_n 1, 1) := by decide +kernel
theorem d_cX4_addSource_21 : decode cX4_addSource 21 = .ok (.getfield 44, 3) := by decide +kernel
theorem d_cX4_addSource_24 : decode cX4_addSource 24 = .ok (.iload_n 2, 1) := by decide +kernel
theorem d_cX4_addSource_25 : decode cX4_addSource 25 = .ok (.iaload, 1) := by decide +kernel
theorem d_cX4_addSource_26 : decode cX4_addSource 26 = .ok (.bipush 17, 2) := by decide +kernel
theorem d_cX4_addSource_28 : decode cX4_addSource 28 = .ok (.if_icmp .ne 18, 3) := by decide +kernel
theorem d_cX4_addSource_46 : decode cX4_addSource 46 = .ok (.aload_n 0, 1) := by decide +kernel
theorem d_cX4_addSource_47 : decode cX4_addSource 47 = .ok (.aload_n 1, 1) := by decide +kernel
theorem d_cX4_addSource_48 : decode cX4_addSource 48 = .ok (.getfield 61, 3) := by decide +kernel
theorem d_cX4_addSource_51 : decode cX4_addSource 51 = .ok (.iload_n 2, 1) := by decide +kernel
theorem d_cX4_addSource_52 : decode cX4_addSource 52 = .ok (.iaload, 1) := by decide +kernel
theorem d_cX4_addSource_53 : decode cX4_addSource 53 = .ok (.aload_n 1, 1) := by decide +kernel
theorem d_cX4_addSource_54 : decode cX4_addSource 54 = .ok (.getfield 64, 3) := by decide +kernel
theorem d_cX4_addSource_57 : decode cX4_addSource 57 = .ok (.iload_n 2, 1) := by decide +kernel
theorem d_cX4_addSource_58 : decode cX4_addSource 58 = .ok (.iaload, 1) := by decide +kernel
theorem d_cX4_addSource_59 : decode cX4_addSource 59 = .ok (.invokevirtual 67, 3) := by decide +kernel
theorem w_6_191 : (Jvm.Cond.methodLink "SpillForge$Listing" (67 : Nat) ({ cls := "SpillForge$Listing", name := "addOperand", desc := "(II)V" } : Jvm.MethodName)) ∈ gw := gw_6 191 rfl rfl
theorem w_6_194 : (Jvm.Cond.code ({ cls := "SpillForge$Listing", name := "addOperand", desc := "(II)V" } : Jvm.MethodName) prog_6_method_9_code (3 : Nat) (Option.none : Option Jvm.ClassFile.FieldType)) ∈ gw := gw_6 194 rfl rfl
theorem w_6_193 : (Jvm.Cond.instanceMethod ({ cls := "SpillForge$Listing", name := "addOperand", desc := "(II)V" } : Jvm.MethodName)) ∈ gw := gw_6 193 rfl rfl
theorem w_p_69 : Cond.selects "SpillForge$Listing" ⟨"SpillForge$Listing", "addOperand", "(II)V"⟩ ⟨"SpillForge$Listing", "addOperand", "(II)V"⟩ ∈ gw := gw_p _ 69 rfl rfl rfl
theorem d_cX4_addSource_62 : decode cX4_addSource 62 = .ok (.aload_n 1, 1) := by decide +kernel
theorem d_cX4_addSource_63 : decode cX4_addSource 63 = .ok (.getfield 44, 3) := by decide +kernel
theorem d_cX4_addSource_66 : decode cX4_addSource 66 = .ok (.iload_n 2, 1) := by decide +kernel
theorem d_cX4_addSource_67 : decode cX4_addSource 67 = .ok (.iaload, 1) := by decide +kernel
theorem d_cX4_addSource_68 : decode cX4_addSource 68 = .ok (.bipush 14, 2) := by decide +kernel
theorem d_cX4_addSource_70 : decode cX4_addSource 70 = .ok (.if_icmp .ge 29, 3) := by decide +kernel
theorem d_cX4_addSource_99 : decode cX4_addSource 99 = .ok (.return_, 1) := by decide +kernel
theorem d_cX4_addSource_73 : decode cX4_addSource 73 = .ok (.aload_n 0, 1) := by decide +kernel
theorem d_cX4_addSource_74 : decode cX4_addSource 74 = .ok (.aload_n 1, 1) := by decide +kernel
theorem d_cX4_addSource_75 : decode cX4_addSource 75 = .ok (.getfield 44, 3) := by decide +kernel
theorem d_cX4_addSource_78 : decode cX4_addSource 78 = .ok (.iload_n 2, 1) := by decide +kernel
theorem d_cX4_addSource_79 : decode cX4_addSource 79 = .ok (.iaload, 1) := by decide +kernel
theorem d_cX4_addSource_80 : decode cX4_addSource 80 = .ok (.invokevirtual 104, 3) := by decide +kernel
theorem w_6_212 : (Jvm.Cond.methodLink "SpillForge$Listing" (104 : Nat) ({ cls := "SpillForge$Listing", name := "addOp", desc := "(I)V" } : Jvm.MethodName)) ∈ gw := gw_6 212 rfl rfl
theorem w_6_215 : (Jvm.Cond.code ({ cls := "SpillForge$Listing", name := "addOp", desc := "(I)V" } : Jvm.MethodName) prog_6_method_8_code (2 : Nat) (Option.none : Option Jvm.ClassFile.FieldType)) ∈ gw := gw_6 215 rfl rfl
theorem w_6_214 : (Jvm.Cond.instanceMethod ({ cls := "SpillForge$Listing", name := "addOp", desc := "(I)V" } : Jvm.MethodName)) ∈ gw := gw_6 214 rfl rfl
theorem w_p_72 : Cond.selects "SpillForge$Listing" ⟨"SpillForge$Listing", "addOp", "(I)V"⟩ ⟨"SpillForge$Listing", "addOp", "(I)V"⟩ ∈ gw := gw_p _ 72 rfl rfl rfl
theorem d_cX4_addSource_83 : decode cX4_addSource 83 = .ok (.aload_n 0, 1) := by decide +kernel
theorem d_cX4_addSource_84 : decode cX4_addSource 84 = .ok (.aload_n 1, 1) := by decide +kernel
theorem d_cX4_addSource_85 : decode cX4_addSource 85 = .ok (.getfield 108, 3) := by decide +kernel
theorem d_cX4_addSource_88 : decode cX4_addSource 88 = .ok (.iload_n 2, 1) := by decide +kernel
theorem d_cX4_addSource_89 : decode cX4_addSource 89 = .ok (.iaload, 1) := by decide +kernel
theorem d_cX4_addSource_90 : decode cX4_addSource 90 = .ok (.aload_n 1, 1) := by decide +kernel
theorem d_cX4_addSource_91 : decode cX4_addSource 91 = .ok (.getfield 87, 3) := by decide +kernel
theorem d_cX4_addSource_94 : decode cX4_addSource 94 = .ok (.iload_n 2, 1) := by decide +kernel
theorem d_cX4_addSource_95 : decode cX4_addSource 95 = .ok (.iaload, 1) := by decide +kernel
theorem d_cX4_addSource_96 : decode cX4_addSource 96 = .ok (.invokevirtual 67, 3) := by decide +kernel
theorem d_cX4_addSource_31 : decode cX4_addSource 31 = .ok (.aload_n 0, 1) := by decide +kernel
theorem d_cX4_addSource_32 : decode cX4_addSource 32 = .ok (.ldc 85, 2) := by decide +kernel
theorem d_cX4_addSource_34 : decode cX4_addSource 34 = .ok (.aload_n 1, 1) := by decide +kernel
theorem d_cX4_addSource_35 : decode cX4_addSource 35 = .ok (.getfield 87, 3) := by decide +kernel
theorem d_cX4_addSource_38 : decode cX4_addSource 38 = .ok (.iload_n 2, 1) := by decide +kernel
theorem d_cX4_addSource_39 : decode cX4_addSource 39 = .ok (.iaload, 1) := by decide +kernel
theorem d_cX4_addSource_40 : decode cX4_addSource 40 = .ok (.invokevirtual 26, 3) := by decide +kernel
theorem d_cX4_addSource_43 : decode cX4_addSource 43 = .ok (.goto 56, 3) := by decide +kernel
theorem d_cX4_addSource_11 : decode cX4_addSource 11 = .ok (.aload_n 0, 1) := by decide +kernel
theorem d_cX4_addSource_12 : decode cX4_addSource 12 = .ok (.ldc 102, 2) := by decide +kernel
theorem d_cX4_addSource_14 : decode cX4_addSource 14 = .ok (.invokevirtual 32, 3) := by decide +kernel
theorem d_cX4_addSource_17 : decode cX4_addSource 17 = .ok (.goto 82, 3) := by decide +kernel
theorem d_cX4_addRow_0 : decode cX4_addRow 0 = .ok (.aload_n 1, 1) := by decide +kernel
theorem d_cX4_addRow_1 : decode cX4_addRow 1 = .ok (.getfield 44, 3) := by decide +kernel
theorem d_cX4_addRow_4 : decode cX4_addRow 4 = .ok (.iload_n 2, 1) := by decide +kernel
theorem d_cX4_addRow_5 : decode cX4_addRow 5 = .ok (.iaload, 1) := by decide +kernel
theorem d_cX4_addRow_6 : decode cX4_addRow 6 = .ok (.bipush 16, 2) := by decide +kernel
theorem d_cX4_addRow_8 : decode cX4_addRow 8 = .ok (.if_icmp .ne 28, 3) := by decide +kernel
theorem d_cX4_addRow_36 : decode cX4_addRow 36 = .ok (.aload_n 1, 1) := by decide +kernel
theorem d_cX4_addRow_37 : decode cX4_addRow 37 = .ok (.getfield 44, 3) := by decide +kernel
theorem d_cX4_addRow_40 : decode cX4_addRow 40 = .ok (.iload_n 2, 1) := by decide +kernel
theorem d_cX4_addRow_41 : decode cX4_addRow 41 = .ok (.iaload, 1) := by decide +kernel
theorem d_cX4_addRow_42 : decode cX4_addRow 42 = .ok (.bipush 18, 2) := by decide +kernel
theorem d_cX4_addRow_44 : decode cX4_addRow 44 = .ok (.if_icmp .ne 30, 3) := by decide +kernel
theorem d_cX4_addRow_74 : decode cX4_addRow 74 = .ok (.aload_n 0, 1) := by decide +kernel
theorem d_cX4_addRow_75 : decode cX4_addRow 75 = .ok (.ldc 92, 2) := by decide +kernel
theorem d_cX4_addRow_77 : decode cX4_addRow 77 = .ok (.aload_n 1, 1) := by decide +kernel
theorem d_cX4_addRow_78 : decode cX4_addRow 78 = .ok (.getfield 94, 3) := by decide +kernel
theorem d_cX4_addRow_81 : decode cX4_addRow 81 = .ok (.iload_n 2, 1) := by decide +kernel
theorem d_cX4_addRow_82 : decode cX4_addRow 82 = .ok (.iaload, 1) := by decide +kernel
theorem d_cX4_addRow_83 : decode cX4_addRow 83 = .ok (.invokevirtual 26, 3) := by decide +kernel
theorem d_cX4_addRow_86 : decode cX4_addRow 86 = .ok (.aload_n 0, 1) := by decide +kernel
theorem d_cX4_addRow_87 : decode cX4_addRow 87 = .ok (.ldc 97, 2) := by decide +kernel
theorem d_cX4_addRow_89 : decode cX4_addRow 89 = .ok (.invokevirtual 32, 3) := by decide +kernel
theorem d_cX4_addRow_92 : decode cX4_addRow 92 = .ok (.aload_n 0, 1) := by decide +kernel
theorem d_cX4_addRow_93 : decode cX4_addRow 93 = .ok (.aload_n 1, 1) := by decide +kernel
theorem d_cX4_addRow_94 : decode cX4_addRow 94 = .ok (.iload_n 2, 1) := by decide +kernel
theorem d_cX4_addRow_95 : decode cX4_addRow 95 = .ok (.invokevirtual 99, 3) := by decide +kernel
theorem w_6_207 : (Jvm.Cond.methodLink "SpillForge$Listing" (99 : Nat) ({ cls := "SpillForge$Listing", name := "addSource", desc := "(LSpillForge$Code;I)V" } : Jvm.MethodName)) ∈ gw := gw_6 207 rfl rfl
theorem w_6_210 : (Jvm.Cond.code ({ cls := "SpillForge$Listing", name := "addSource", desc := "(LSpillForge$Code;I)V" } : Jvm.MethodName) prog_6_method_7_code (3 : Nat) (Option.none : Option Jvm.ClassFile.FieldType)) ∈ gw := gw_6 210 rfl rfl
theorem w_6_209 : (Jvm.Cond.instanceMethod ({ cls := "SpillForge$Listing", name := "addSource", desc := "(LSpillForge$Code;I)V" } : Jvm.MethodName)) ∈ gw := gw_6 209 rfl rfl
theorem w_p_71 : Cond.selects "SpillForge$Listing" ⟨"SpillForge$Listing", "addSource", "(LSpillForge$Code;I)V"⟩ ⟨"SpillForge$Listing", "addSource", "(LSpillForge$Code;I)V"⟩ ∈ gw := gw_p _ 71 rfl rfl rfl
theorem d_cX4_addRow_98 : decode cX4_addRow 98 = .ok (.return_, 1) := by decide +kernel
theorem d_cX4_addRow_47 : decode cX4_addRow 47 = .ok (.aload_n 0, 1) := by decide +kernel
theorem d_cX4_addRow_48 : decode cX4_addRow 48 = .ok (.ldc 85, 2) := by decide +kernel
theorem d_cX4_addRow_50 : decode cX4_addRow 50 = .ok (.aload_n 1, 1) := by decide +kernel
theorem d_cX4_addRow_51 : decode cX4_addRow 51 = .ok (.getfield 87, 3) := by decide +kernel
theorem d_cX4_addRow_54 : decode cX4_addRow 54 = .ok (.iload_n 2, 1) := by decide +kernel
theorem d_cX4_addRow_55 : decode cX4_addRow 55 = .ok (.iaload, 1) := by decide +kernel
theorem d_cX4_addRow_56 : decode cX4_addRow 56 = .ok (.invokevirtual 26, 3) := by decide +kernel
theorem d_cX4_addRow_59 : decode cX4_addRow 59 = .ok (.aload_n 0, 1) := by decide +kernel
theorem d_cX4_addRow_60 : decode cX4_addRow 60 = .ok (.ldc 90, 2) := by decide +kernel
theorem d_cX4_addRow_62 : decode cX4_addRow 62 = .ok (.aload_n 1, 1) := by decide +kernel
theorem d_cX4_addRow_63 : decode cX4_addRow 63 = .ok (.getfield 61, 3) := by decide +kernel
theorem d_cX4_addRow_66 : decode cX4_addRow 66 = .ok (.iload_n 2, 1) := by decide +kernel
theorem d_cX4_addRow_67 : decode cX4_addRow 67 = .ok (.iaload, 1) := by decide +kernel
theorem d_cX4_addRow_68 : decode cX4_addRow 68 = .ok (.invokevirtual 26, 3) := by decide +kernel
theorem d_cX4_addRow_71 : decode cX4_addRow 71 = .ok (.goto 27, 3) := by decide +kernel
theorem d_cX4_addRow_11 : decode cX4_addRow 11 = .ok (.aload_n 0, 1) := by decide +kernel
theorem d_cX4_addRow_12 : decode cX4_addRow 12 = .ok (.ldc 83, 2) := by decide +kernel
theorem d_cX4_addRow_14 : decode cX4_addRow 14 = .ok (.invokevirtual 32, 3) := by decide +kernel
theorem d_cX4_addRow_17 : decode cX4_addRow 17 = .ok (.aload_n 0, 1) := by decide +kernel
theorem d_cX4_addRow_18 : decode cX4_addRow 18 = .ok (.aload_n 1, 1) := by decide +kernel
theorem d_cX4_addRow_19 : decode cX4_addRow 19 = .ok (.getfield 61, 3) := by decide +kernel
theorem d_cX4_addRow_22 : decode cX4_addRow 22 = .ok (.iload_n 2, 1) := by decide +kernel
theorem d_cX4_addRow_23 : decode cX4_addRow 23 = .ok (.iaload, 1) := by decide +kernel
theorem d_cX4_addRow_24 : decode cX4_addRow 24 = .ok (.aload_n 1, 1) := by decide +kernel
theorem d_cX4_addRow_25 : decode cX4_addRow 25 = .ok (.getfield 64, 3) := by decide +kernel
theorem d_cX4_addRow_28 : decode cX4_addRow 28 = .ok (.iload_n 2, 1) := by decide +kernel
theorem d_cX4_addRow_29 : decode cX4_addRow 29 = .ok (.iaload, 1) := by decide +kernel
theorem d_cX4_addRow_30 : decode cX4_addRow 30 = .ok (.invokevirtual 67, 3) := by decide +kernel
theorem d_cX4_addRow_33 : decode cX4_addRow 33 = .ok (.goto 65, 3) := by decide +kernel
abbrev ky_7471_Listing_eightFrom : gKey := (cX4_eightFrom, 5, yX4_eightFrom.cls, (some FieldType.long), [], yX4_eightFrom.name, fun _ _ => True)
abbrev po_7471_Listing_eightFrom (I : FieldType → ClassId) (q7466 : Nat) (q7467 : Nat) (p7468 : Int32) (p7469 : Int32) (f7470 : Nat → Int32) : Option Value → va_W → Prop := fun r w => ∃ (ol7542 : Int64), r = some (.long ol7542) ∧ w = [(q7466, .inr (9, [.ref q7467, .int p7469])), (q7467, .inl (I .byte, 16384, .inl f7470))]
set_option maxRecDepth 100000 in
set_option maxHeartbeats 4000000 in
theorem ct_7471_Listing_eightFrom (l : Launch) (hl0 : l.stackTraces = false) (D : va_G) (I : FieldType → ClassId) (q7466 : Nat) (q7467 : Nat) (p7468 : Int32) (p7469 : Int32) (f7470 : Nat → Int32) (bp7469 : gB p7469 0 16384) (bf7470 : gF f7470 (-128) 127) : Ct (gV D I) l yX4_eightFrom cX4_eightFrom 5 (some FieldType.long) 0 0 0 0 [.ref q7466, .int p7468] [(q7466, .inr (9, [.ref q7467, .int p7469])), (q7467, .inl (I .byte, 16384, .inl f7470))] (po_7471_Listing_eightFrom I q7466 q7467 p7468 p7469 f7470) gN := by
  refine Ct_of hl0 (by decide) (Nat.le_of_ble_eq_true rfl) ?_
  have bp7468 := gB_any p7468
  refine G_lconst 0 d_cX4_eightFrom_0 rfl ?_
  refine G_lstore_n (L' := [(2, .long 0), (0, .ref q7466), (1, .int p7468)]) d_cX4_eightFrom_1 (Nat.le_of_ble_eq_true rfl) rfl ?_
  refine G_iload_n 2 d_cX4_eightFrom_2 rfl ?_
  refine G_istore (L' := [(4, .int p7468), (2, .long 0), (0, .ref q7466), (1, .int p7468)]) d_cX4_eightFrom_3 (Nat.le_of_ble_eq_true rfl) rfl ?_
  have hlp5_7519 : ∀ (n5_7519 : Nat) (g7518 : Int32) (gl7519 : Int64), gB g7518 (-2147483648) 2147483647 → ((2147483648 : Int) - g7518.toInt).toNat < n5_7519 → G (gV D I) l (gRm 0 0 0 0) (gM (gV D I) (po_7471_Listing_eightFrom I q7466 q7467 p7468 p7469 f7470) gN 0 0) ky_7471_Listing_eightFrom 5 [(4, .int g7518), (2, .long gl7519), (0, .ref q7466), (1, .int p7468)] [] [(q7466, .inr (9, [.ref q7467, .int p7469])), (q7467, .inl (I .byte, 16384, .inl f7470))] 0 0 := by
    intro n5_7519
    induction n5_7519 with
    | zero => intro g7518 gl7519 bg7518 hm5_7519; exact absurd hm5_7519 (Nat.not_lt_zero _)
    | succ n5_7519 ih5_7519 =>
      intro g7518 gl7519 bg7518 hm5_7519
      refine G_iload 0 d_cX4_eightFrom_5 rfl ?_
      refine G_iload_n 3 d_cX4_eightFrom_7 rfl ?_
      refine G_bipush 8 d_cX4_eightFrom_8 (by decide +kernel) ?_
      refine G_iadd d_cX4_eightFrom_10 (G_nam fun z7520 hz7520 => ?_)
      have bz7520 : gB z7520 (-2147483648) 2147483647 := gB_any z7520
      refine G_icmp_ge 56 d_cX4_eightFrom_11 (by decide +kernel) (fun hc7521 => ?_) (fun hc7521 => ?_)
      · have r7522 : z7520.toInt ≤ g7518.toInt := gC_le hc7521
        refine G_lload_n 1 d_cX4_eightFrom_56 rfl ?_
        exact G_lret d_cX4_eightFrom_57 rfl (Nat.le_of_ble_eq_true rfl) (Nat.le_of_ble_eq_true rfl) ⟨gl7519, rfl, rfl⟩
      · have r7523 : g7518.toInt < z7520.toInt := gC_nle hc7521
        have bg7518' : gB g7518 (-2147483648) 2147483646 := ⟨by omega, by omega⟩
        have bz7520' : gB z7520 (-2147483647) 2147483647 := ⟨by omega, by omega⟩
        refine G_lload_n 1 d_cX4_eightFrom_14 rfl ?_
        refine G_bipush 8 d_cX4_eightFrom_15 (by decide +kernel) ?_
        refine G_lshl d_cX4_eightFrom_17 (G_namL fun u7524 hu7524 => ?_)
        refine G_iload 0 d_cX4_eightFrom_18 rfl ?_
        refine G_if_lt 46 d_cX4_eightFrom_20 (by decide +kernel) (fun hc7525 => ?_) (fun hc7525 => ?_)
        · have r7526 : g7518.toInt < 0 := gj_lt hc7525 (show Int32.toInt 0 = 0 by decide)
          have bg7518'' : gB g7518 (-2147483648) (-1) := ⟨by omega, by omega⟩
          refine G_iconst 0 d_cX4_eightFrom_46 (by decide +kernel) ?_
          refine G_i2l d_cX4_eightFrom_47 (G_namL fun u7527 hu7527 => ?_)
          refine G_lor d_cX4_eightFrom_48 (G_namL fun u7528 hu7528 => ?_)
          refine G_lstore_n (L' := [(2, .long u7528), (4, .int g7518), (0, .ref q7466), (1, .int p7468)]) d_cX4_eightFrom_49 (Nat.le_of_ble_eq_true rfl) rfl ?_
          obtain ⟨z7529, hz7529⟩ : ∃ z : Int32, z = g7518 + Int32.ofInt 1 := ⟨_, rfl⟩
          have ez7529 : z7529.toInt = g7518.toInt + 1 := gI_inc hz7529 (by decide) bg7518'' (by decide) (by decide)
          have bz7529 : gB z7529 (-2147483647) 0 := ⟨by omega, by omega⟩
          refine G_iinc (L' := [(4, .int z7529), (2, .long u7528), (0, .ref q7466), (1, .int p7468)]) z7529 1 d_cX4_eightFrom_50 rfl hz7529.symm (Nat.le_of_ble_eq_true rfl) rfl ?_
          refine G_goto 5 d_cX4_eightFrom_53 (by decide +kernel) ?_
          exact ih5_7519 z7529 u7528 (gB_w bz7529 (by decide) (by decide)) (by omega)
        · have r7530 : 0 ≤ g7518.toInt := gj_nlt hc7525 (show Int32.toInt 0 = 0 by decide)
          have bg7518'' : gB g7518 0 2147483646 := ⟨by omega, by omega⟩
          refine G_iload 0 d_cX4_eightFrom_23 rfl ?_
          refine G_aload_n 2 d_cX4_eightFrom_25 rfl ?_
          refine G_getf 0 1 d_cX4_eightFrom_26 rfl (gk_X4 D I) (Nat.le_of_ble_eq_true rfl) w_2_201 rfl ?_
          refine G_icmp_ge 46 d_cX4_eightFrom_29 (by decide +kernel) (fun hc7531 => ?_) (fun hc7531 => ?_)
          · have r7532 : p7469.toInt ≤ g7518.toInt := gC_le hc7531
            refine G_iconst 0 d_cX4_eightFrom_46 (by decide +kernel) ?_
            refine G_i2l d_cX4_eightFrom_47 (G_namL fun u7533 hu7533 => ?_)
            refine G_lor d_cX4_eightFrom_48 (G_namL fun u7534 hu7534 => ?_)
            refine G_lstore_n (L' := [(2, .long u7534), (4, .int g7518), (0, .ref q7466), (1, .int p7468)]) d_cX4_eightFrom_49 (Nat.le_of_ble_eq_true rfl) rfl ?_
            obtain ⟨z7535, hz7535⟩ : ∃ z : Int32, z = g7518 + Int32.ofInt 1 := ⟨_, rfl⟩
            have ez7535 : z7535.toInt = g7518.toInt + 1 := gI_inc hz7535 (by decide) bg7518'' (by decide) (by decide)
            have bz7535 : gB z7535 1 2147483647 := ⟨by omega, by omega⟩
            refine G_iinc (L' := [(4, .int z7535), (2, .long u7534), (0, .ref q7466), (1, .int p7468)]) z7535 1 d_cX4_eightFrom_50 rfl hz7535.symm (Nat.le_of_ble_eq_true rfl) rfl ?_
            refine G_goto 5 d_cX4_eightFrom_53 (by decide +kernel) ?_
            exact ih5_7519 z7535 u7534 (gB_w bz7535 (by decide) (by decide)) (by omega)
          · have r7536 : g7518.toInt < p7469.toInt := gC_nle hc7531
            have bg7518''' : gB g7518 0 16383 := ⟨by omega, by omega⟩
            have bp7469' : gB p7469 1 16384 := ⟨by omega, by omega⟩
            refine G_aload_n 2 d_cX4_eightFrom_32 rfl ?_
            refine G_getf 0 0 d_cX4_eightFrom_33 rfl (gk_X4 D I) (Nat.le_of_ble_eq_true rfl) w_2_200 rfl ?_
            refine G_iload 0 d_cX4_eightFrom_36 rfl ?_
            refine G_bald 1 1 d_cX4_eightFrom_38 rfl rfl (gB_in bg7518''' (by decide) (by decide)) (G_nam fun z7537 hz7537 => ?_)
            have bz7537 : gB z7537 (-128) 127 := by rw [hz7537]; exact bf7470 _
            refine G_sipush 255 d_cX4_eightFrom_39 (by decide +kernel) ?_
            refine G_iand d_cX4_eightFrom_42 (G_nam fun z7538 hz7538 => ?_)
            have bz7538 : gB z7538 0 255 := gB_and hz7538 (gBl (show Int32.toInt 255 = 255 by decide)) (by decide)
            refine G_goto 47 d_cX4_eightFrom_43 (by decide +kernel) ?_
            refine G_i2l d_cX4_eightFrom_47 (G_namL fun u7539 hu7539 => ?_)
            refine G_lor d_cX4_eightFrom_48 (G_namL fun u7540 hu7540 => ?_)
            refine G_lstore_n (L' := [(2, .long u7540), (4, .int g7518), (0, .ref q7466), (1, .int p7468)]) d_cX4_eightFrom_49 (Nat.le_of_ble_eq_true rfl) rfl ?_
            obtain ⟨z7541, hz7541⟩ : ∃ z : Int32, z = g7518 + Int32.ofInt 1 := ⟨_, rfl⟩
            have ez7541 : z7541.toInt = g7518.toInt + 1 := gI_inc hz7541 (by decide) bg7518''' (by decide) (by decide)
            have bz7541 : gB z7541 1 16384 := ⟨by omega, by omega⟩
            refine G_iinc (L' := [(4, .int z7541), (2, .long u7540), (0, .ref q7466), (1, .int p7468)]) z7541 1 d_cX4_eightFrom_50 rfl hz7541.symm (Nat.le_of_ble_eq_true rfl) rfl ?_
            refine G_goto 5 d_cX4_eightFrom_53 (by decide +kernel) ?_
            exact ih5_7519 z7541 u7540 (gB_w bz7541 (by decide) (by decide)) (by omega)
  exact hlp5_7519 (((2147483648 : Int) - p7468.toInt).toNat + 1) p7468 0 bp7468 (Nat.lt_succ_self _)
abbrev ky_7602_Listing_addByte : gKey := (cX4_addByte, 2, yX4_addByte.cls, none, [], yX4_addByte.name, fun _ _ => True)
abbrev po_7602_Listing_addByte (I : FieldType → ClassId) (q7597 : Nat) (q7598 : Nat) (p7599 : Int32) (p7600 : Int32) (f7601 : Nat → Int32) : Option Value → va_W → Prop := fun r w => ∃ (o7609 : Int32) (f7610 : Nat → Int32), r = none ∧ w = [(q7597, .inr (9, [.ref q7598, .int o7609])), (q7598, .inl (I .byte, 16384, .inl f7610))] ∧ gB o7609 1 16384 ∧ gF f7610 (-128) 127
set_option maxRecDepth 100000 in
set_option maxHeartbeats 4000000 in
theorem ct_7602_Listing_addByte (l : Launch) (hl0 : l.stackTraces = false) (D : va_G) (I : FieldType → ClassId) (q7597 : Nat) (q7598 : Nat) (p7599 : Int32) (p7600 : Int32) (f7601 : Nat → Int32) (bp7599 : gB p7599 0 65535) (bp7600 : gB p7600 0 16384) (bf7601 : gF f7601 (-128) 127) : Ct (gV D I) l yX4_addByte cX4_addByte 2 none 0 0 0 0 [.ref q7597, .int p7599] [(q7597, .inr (9, [.ref q7598, .int p7600])), (q7598, .inl (I .byte, 16384, .inl f7601))] (po_7602_Listing_addByte I q7597 q7598 p7599 p7600 f7601) gN := by
  refine Ct_of hl0 (by decide) (Nat.le_of_ble_eq_true rfl) ?_
  refine G_aload_n 0 d_cX4_addByte_0 rfl ?_
  refine G_getf 0 1 d_cX4_addByte_1 rfl (gk_X4 D I) (Nat.le_of_ble_eq_true rfl) w_2_201 rfl ?_
  refine G_aload_n 0 d_cX4_addByte_4 rfl ?_
  refine G_getf 0 0 d_cX4_addByte_5 rfl (gk_X4 D I) (Nat.le_of_ble_eq_true rfl) w_2_200 rfl ?_
  refine G_alen 16384 1 1 d_cX4_addByte_8 rfl rfl rfl ?_
  refine G_icmp_ge 33 d_cX4_addByte_9 (by decide +kernel) (fun hc7603 => ?_) (fun hc7603 => ?_)
  · have r7604 : 16384 ≤ p7600.toInt := gj_leL hc7603 (show Int32.toInt 16384 = 16384 by decide)
    have bp7600' : gB p7600 16384 16384 := ⟨by omega, by omega⟩
    exact G_vret d_cX4_addByte_33 rfl (Nat.le_of_ble_eq_true rfl) (Nat.le_of_ble_eq_true rfl) ⟨p7600, f7601, rfl, rfl, (gB_w bp7600' (by decide) (by decide)), bf7601⟩
  · have r7605 : p7600.toInt < 16384 := gj_nleL hc7603 (show Int32.toInt 16384 = 16384 by decide)
    have bp7600' : gB p7600 0 16383 := ⟨by omega, by omega⟩
    refine G_aload_n 0 d_cX4_addByte_12 rfl ?_
    refine G_getf 0 0 d_cX4_addByte_13 rfl (gk_X4 D I) (Nat.le_of_ble_eq_true rfl) w_2_200 rfl ?_
    refine G_aload_n 0 d_cX4_addByte_16 rfl ?_
    refine G_getf 0 1 d_cX4_addByte_17 rfl (gk_X4 D I) (Nat.le_of_ble_eq_true rfl) w_2_201 rfl ?_
    refine G_iload_n 1 d_cX4_addByte_20 rfl ?_
    refine G_i2b d_cX4_addByte_21 (G_nam fun z7606 hz7606 => ?_)
    have bz7606 : gB z7606 (-128) 127 := gB_i2b hz7606
    refine G_bastN 1 1 d_cX4_addByte_22 rfl rfl (gB_in bp7600' (by decide) (by decide)) (fun f7607 hf7607 => ?_)
    refine G_ws (ws' := [(q7597, .inr (9, [.ref q7598, .int p7600])), (q7598, .inl (I .byte, 16384, .inl f7607))]) (cs' := 0) (sl' := 0) rfl rfl rfl ?_
    have bf7607 : gF f7607 (-128) 127 := gF_upd hf7607 bf7601 gB_byte
    refine G_aload_n 0 d_cX4_addByte_23 rfl ?_
    refine G_dup d_cX4_addByte_24 rfl ?_
    refine G_getf 0 1 d_cX4_addByte_25 rfl (gk_X4 D I) (Nat.le_of_ble_eq_true rfl) w_2_201 rfl ?_
    refine G_iconst 1 d_cX4_addByte_28 (by decide +kernel) ?_
    refine G_iadd d_cX4_addByte_29 (G_nam fun z7608 hz7608 => ?_)
    have ez7608 : z7608.toInt = p7600.toInt + 1 := by rw [gI_add hz7608 bp7600' (gBl (show Int32.toInt 1 = 1 by decide)) (by decide) (by decide), show Int32.toInt 1 = 1 from by decide]
    have bz7608 : gB z7608 1 16384 := gB_add (gI_add hz7608 bp7600' (gBl (show Int32.toInt 1 = 1 by decide)) (by decide) (by decide)) bp7600' (gBl (show Int32.toInt 1 = 1 by decide)) (by decide) (by decide)
    refine G_putf (ws' := [(q7597, .inr (9, [.ref q7598, .int z7608])), (q7598, .inl (I .byte, 16384, .inl f7607))]) 0 1 d_cX4_addByte_30 rfl (gk_X4 D I) (Nat.le_of_ble_eq_true rfl) w_2_201 rfl rfl rfl (Nat.le_of_ble_eq_true rfl) rfl ?_
    exact G_vret d_cX4_addByte_33 rfl (Nat.le_of_ble_eq_true rfl) (Nat.le_of_ble_eq_true rfl) ⟨z7608, f7607, rfl, rfl, bz7608, bf7607⟩
abbrev ky_7590_Listing_addText : gKey := (cX4_addText, 3, yX4_addText.cls, none, [], yX4_addText.name, fun _ _ => True)
abbrev po_7590_Listing_addText (I : FieldType → ClassId) (q7583 : Nat) (q7584 : Nat) (qs7585 : Nat) (qb7586 : Nat) (bs7587 : List Int32) (p7588 : Int32) (f7589 : Nat → Int32) : Option Value → va_W → Prop := fun r w => ∃ (o7685 : Int32) (f7686 : Nat → Int32), r = none ∧ w = [(q7583, .inr (9, [.ref q7584, .int o7685])), (q7584, .inl (I .byte, 16384, .inl f7686))] ∧ gB o7685 0 16384 ∧ gF f7686 (-128) 127
set_option maxRecDepth 100000 in
set_option maxHeartbeats 4000000 in
theorem ct_7590_Listing_addText (l : Launch) (hl0 : l.stackTraces = false) (D : va_G) (I : FieldType → ClassId) (q7583 : Nat) (q7584 : Nat) (qs7585 : Nat) (qb7586 : Nat) (bs7587 : List Int32) (p7588 : Int32) (f7589 : Nat → Int32) (hbs7587 : ∀ A s H, (gV D I).2.2.2.1 A s H → gSC qs7585 qb7586 bs7587 A s H) (nbs7587 : (bs7587.length : Int) ≤ 65535) (bp7588 : gB p7588 0 16384) (bf7589 : gF f7589 (-128) 127) : Ct (gV D I) l yX4_addText cX4_addText 3 none 4 85 0 0 [.ref q7583, .ref qs7585] [(q7583, .inr (9, [.ref q7584, .int p7588])), (q7584, .inl (I .byte, 16384, .inl f7589))] (po_7590_Listing_addText I q7583 q7584 qs7585 qb7586 bs7587 p7588 f7589) gN := by
  refine Ct_of hl0 (by decide) (Nat.le_of_ble_eq_true rfl) ?_
  refine G_iconst 0 d_cX4_addText_0 (by decide +kernel) ?_
  refine G_istore_n (L' := [(2, .int 0), (0, .ref q7583), (1, .ref qs7585)]) d_cX4_addText_1 (Nat.le_of_ble_eq_true rfl) rfl ?_
  have hlp2_7675 : ∀ (n2_7675 : Nat) (g7673 : Int32) (g7674 : Int32) (f7675 : Nat → Int32), gB g7673 0 65535 → gB g7674 0 16384 → gF f7675 (-128) 127 → ((65536 : Int) - g7673.toInt).toNat < n2_7675 → G (gV D I) l (gRm 4 85 0 0) (gM (gV D I) (po_7590_Listing_addText I q7583 q7584 qs7585 qb7586 bs7587 p7588 f7589) gN 0 0) ky_7590_Listing_addText 2 [(2, .int g7673), (0, .ref q7583), (1, .ref qs7585)] [] [(q7583, .inr (9, [.ref q7584, .int g7674])), (q7584, .inl (I .byte, 16384, .inl f7675))] 0 0 := by
    intro n2_7675
    induction n2_7675 with
    | zero => intro g7673 g7674 f7675 bg7673 bg7674 bf7675 hm2_7675; exact absurd hm2_7675 (Nat.not_lt_zero _)
    | succ n2_7675 ih2_7675 =>
      intro g7673 g7674 f7675 bg7673 bg7674 bf7675 hm2_7675
      refine G_iload_n 0 d_cX4_addText_2 rfl ?_
      refine G_aload_n 2 d_cX4_addText_3 rfl ?_
      refine G_callVk (As := []) (wr := [(q7583, .inr (9, [.ref q7584, .int g7674])), (q7584, .inl (I .byte, 16384, .inl f7675))]) (gV_ok D I) (ct_3827_String_length l hl0 D I qs7585 qb7586 bs7587 hbs7587 nbs7587) d_cX4_addText_4 ⟨w_6_169, w_1_21, w_3_60, by decide, rfl, (Nat.le_of_ble_eq_true rfl), (Nat.le_of_ble_eq_true rfl)⟩ w_3_58 w_3_59 (fun _ _ _ h => (hbs7587 _ _ _ h).1) [] [0, 1] rfl rfl rfl rfl (by decide) (Nat.le_of_ble_eq_true rfl) (Nat.le_of_ble_eq_true rfl) (Nat.le_of_ble_eq_true rfl) (fun r w hp => ?_) (fun _ _ _ z => z.elim)
      obtain ⟨o7676, rfl, rfl, bo7676, x7677⟩ := hp
      change G _ _ _ _ _ _ _ (.int o7676 :: _) _ _ _
      refine G_ws (ws' := [(q7583, .inr (9, [.ref q7584, .int g7674])), (q7584, .inl (I .byte, 16384, .inl f7675))]) (cs' := 0) (sl' := 0) rfl rfl rfl ?_
      refine G_icmp_ge 25 d_cX4_addText_7 (by decide +kernel) (fun hc7678 => ?_) (fun hc7678 => ?_)
      · have r7679 : o7676.toInt ≤ g7673.toInt := gC_le hc7678
        exact G_vret d_cX4_addText_25 rfl (Nat.le_of_ble_eq_true rfl) (Nat.le_of_ble_eq_true rfl) ⟨g7674, f7675, rfl, rfl, bg7674, bf7675⟩
      · have r7680 : g7673.toInt < o7676.toInt := gC_nle hc7678
        have bg7673' : gB g7673 0 65534 := ⟨by omega, by omega⟩
        have bo7676' : gB o7676 1 65535 := ⟨by omega, by omega⟩
        refine G_aload_n 1 d_cX4_addText_10 rfl ?_
        refine G_aload_n 2 d_cX4_addText_11 rfl ?_
        refine G_iload_n 0 d_cX4_addText_12 rfl ?_
        refine G_callVk (As := [.int g7673]) (wr := [(q7583, .inr (9, [.ref q7584, .int g7674])), (q7584, .inl (I .byte, 16384, .inl f7675))]) (gV_ok D I) (ct_3858_String_charAt l hl0 D I qs7585 qb7586 bs7587 g7673 hbs7587 nbs7587 (by omega) (by omega)) d_cX4_addText_13 ⟨w_6_170, w_1_21, w_3_70, by decide, rfl, (Nat.le_of_ble_eq_true rfl), (Nat.le_of_ble_eq_true rfl)⟩ w_3_68 w_3_69 (fun _ _ _ h => (hbs7587 _ _ _ h).1) [] [0, 1] rfl rfl rfl rfl (by decide) (Nat.le_of_ble_eq_true rfl) (Nat.le_of_ble_eq_true rfl) (Nat.le_of_ble_eq_true rfl) (fun r w hp => ?_) (fun _ _ _ z => z.elim)
        obtain ⟨o7681, rfl, rfl, bo7681⟩ := hp
        change G _ _ _ _ _ _ _ (.int o7681 :: _) _ _ _
        refine G_ws (ws' := [(q7583, .inr (9, [.ref q7584, .int g7674])), (q7584, .inl (I .byte, 16384, .inl f7675))]) (cs' := 0) (sl' := 0) rfl rfl rfl ?_
        refine G_callV (As := [.int o7681]) (wr := []) (gV_ok D I) (ct_7602_Listing_addByte l hl0 D I q7583 q7584 o7681 g7674 f7675 bo7681 bg7674 bf7675) d_cX4_addText_16 ⟨w_6_171, w_1_13, w_6_174, by decide, rfl, (Nat.le_of_ble_eq_true rfl), (Nat.le_of_ble_eq_true rfl)⟩ w_6_173 w_p_66 0 rfl rfl [0, 1] [] rfl rfl rfl rfl (by decide) (Nat.le_of_ble_eq_true rfl) (Nat.le_of_ble_eq_true rfl) (Nat.le_of_ble_eq_true rfl) (fun r w hp => ?_) (fun _ _ _ z => z.elim)
        obtain ⟨o7682, f7683, rfl, rfl, bo7682, bf7683⟩ := hp
        change G _ _ _ _ _ _ _ _ _ _ _
        refine G_ws (ws' := [(q7583, .inr (9, [.ref q7584, .int o7682])), (q7584, .inl (I .byte, 16384, .inl f7683))]) (cs' := 0) (sl' := 0) rfl rfl rfl ?_
        obtain ⟨z7684, hz7684⟩ : ∃ z : Int32, z = g7673 + Int32.ofInt 1 := ⟨_, rfl⟩
        have ez7684 : z7684.toInt = g7673.toInt + 1 := gI_inc hz7684 (by decide) bg7673' (by decide) (by decide)
        have bz7684 : gB z7684 1 65535 := ⟨by omega, by omega⟩
        refine G_iinc (L' := [(2, .int z7684), (0, .ref q7583), (1, .ref qs7585)]) z7684 0 d_cX4_addText_19 rfl hz7684.symm (Nat.le_of_ble_eq_true rfl) rfl ?_
        refine G_goto 2 d_cX4_addText_22 (by decide +kernel) ?_
        exact ih2_7675 z7684 o7682 f7683 (gB_w bz7684 (by decide) (by decide)) (gB_w bo7682 (by decide) (by decide)) bf7683 (by omega)
  exact hlp2_7675 (((65536 : Int) - 0).toNat + 1) 0 p7588 f7589 (gB_w (gBl (show Int32.toInt 0 = 0 by decide)) (by decide) (by decide)) bp7588 bf7589 (Nat.lt_succ_self _)
abbrev ky_7699_Math_abs : gKey := (cJ9_abs_067f4, 2, yJ9_abs_067f4.cls, (some FieldType.long), [], yJ9_abs_067f4.name, fun _ _ => True)
abbrev po_7699_Math_abs (I : FieldType → ClassId) (pl7698 : Int64) : Option Value → va_W → Prop := fun r w => ∃ (ol7705 : Int64), r = some (.long ol7705) ∧ w = []
set_option maxRecDepth 100000 in
set_option maxHeartbeats 4000000 in
theorem ct_7699_Math_abs (l : Launch) (hl0 : l.stackTraces = false) (D : va_G) (I : FieldType → ClassId) (pl7698 : Int64)  : Ct (gV D I) l yJ9_abs_067f4 cJ9_abs_067f4 2 (some FieldType.long) 0 0 0 0 [.long pl7698] [] (po_7699_Math_abs I pl7698) gN := by
  refine Ct_ofF hl0 (by decide +kernel) (Nat.le_of_ble_eq_true rfl) ?_
  refine G_lload_n 0 d_cJ9_abs_067f4_0 rfl ?_
  refine G_lconst 0 d_cJ9_abs_067f4_1 rfl ?_
  refine G_lcmp d_cJ9_abs_067f4_2 (G_nam fun z7700 hz7700 => ?_)
  have bz7700 : gB z7700 (-1) 1 := gB_cmp hz7700
  refine G_if_ge 11 d_cJ9_abs_067f4_3 (by decide +kernel) (fun hc7701 => ?_) (fun hc7701 => ?_)
  · have r7702 : 0 ≤ z7700.toInt := gj_leL hc7701 (show Int32.toInt 0 = 0 by decide)
    have bz7700' : gB z7700 0 1 := ⟨by omega, by omega⟩
    refine G_lload_n 0 d_cJ9_abs_067f4_11 rfl ?_
    exact G_lret d_cJ9_abs_067f4_12 rfl (Nat.le_of_ble_eq_true rfl) (Nat.le_of_ble_eq_true rfl) ⟨pl7698, rfl, rfl⟩
  · have r7703 : z7700.toInt < 0 := gj_nleL hc7701 (show Int32.toInt 0 = 0 by decide)
    have bz7700' : gB z7700 (-1) (-1) := ⟨by omega, by omega⟩
    have lhc7701 := gC_cmpS hz7700 (by omega)
    refine G_lload_n 0 d_cJ9_abs_067f4_6 rfl ?_
    refine G_lneg d_cJ9_abs_067f4_7 (G_namL fun u7704 hu7704 => ?_)
    refine G_goto 12 d_cJ9_abs_067f4_8 (by decide +kernel) ?_
    exact G_lret d_cJ9_abs_067f4_12 rfl (Nat.le_of_ble_eq_true rfl) (Nat.le_of_ble_eq_true rfl) ⟨u7704, rfl, rfl⟩
abbrev ky_7694_Listing_addNumber : gKey := (cX4_addNumber, 7, yX4_addNumber.cls, none, [], yX4_addNumber.name, fun _ _ => True)
abbrev po_7694_Listing_addNumber (I : FieldType → ClassId) (q7689 : Nat) (q7690 : Nat) (p7691 : Int32) (p7692 : Int32) (f7693 : Nat → Int32) : Option Value → va_W → Prop := fun r w => ∃ (o10310 : Int32) (f10311 : Nat → Int32), r = none ∧ w = [(q7689, .inr (9, [.ref q7690, .int o10310])), (q7690, .inl (I .byte, 16384, .inl f10311))] ∧ gB o10310 0 16384 ∧ gF f10311 (-128) 127
set_option maxRecDepth 100000 in
set_option maxHeartbeats 4000000 in
theorem ct_7694_Listing_addNumber (l : Launch) (hl0 : l.stackTraces = false) (D : va_G) (I : FieldType → ClassId) (q7689 : Nat) (q7690 : Nat) (p7691 : Int32) (p7692 : Int32) (f7693 : Nat → Int32) (bp7692 : gB p7692 0 16384) (bf7693 : gF f7693 (-128) 127) : Ct (gV D I) l yX4_addNumber cX4_addNumber 7 none 1 21 0 0 [.ref q7689, .int p7691] [(q7689, .inr (9, [.ref q7690, .int p7692])), (q7690, .inl (I .byte, 16384, .inl f7693))] (po_7694_Listing_addNumber I q7689 q7690 p7691 p7692 f7693) gN := by
  refine Ct_of hl0 (by decide) (Nat.le_of_ble_eq_true rfl) ?_
  have bp7691 := gB_any p7691
  refine G_iload_n 1 d_cX4_addNumber_0 rfl ?_
  refine G_if_ge 10 d_cX4_addNumber_1 (by decide +kernel) (fun hc7695 => ?_) (fun hc7695 => ?_)
  · have r7696 : 0 ≤ p7691.toInt := gj_leL hc7695 (show Int32.toInt 0 = 0 by decide)
    have bp7691' : gB p7691 0 2147483647 := ⟨by omega, by omega⟩
    refine G_iload_n 1 d_cX4_addNumber_10 rfl ?_
    refine G_i2l d_cX4_addNumber_11 (G_namL fun u7697 hu7697 => ?_)
    refine G_callS (As := [.long u7697]) (wr := [(q7689, .inr (9, [.ref q7690, .int p7692])), (q7690, .inl (I .byte, 16384, .inl f7693))]) (gV_ok D I) (ct_7699_Math_abs l hl0 D I u7697 ) d_cX4_addNumber_12 ⟨w_6_179, w_1_6, w_6_181, by decide, rfl, (Nat.le_of_ble_eq_true rfl), (Nat.le_of_ble_eq_true rfl)⟩ w_6_180 [] [0, 1] rfl rfl rfl rfl (by decide) (Nat.le_of_ble_eq_true rfl) (Nat.le_of_ble_eq_true rfl) (Nat.le_of_ble_eq_true rfl) (fun r w hp => ?_) (fun _ _ _ z => z.elim)
    obtain ⟨ol7706, rfl, rfl⟩ := hp
    change G _ _ _ _ _ _ _ (.long ol7706 :: _) _ _ _
    refine G_ws (ws' := [(q7689, .inr (9, [.ref q7690, .int p7692])), (q7690, .inl (I .byte, 16384, .inl f7693))]) (cs' := 0) (sl' := 0) rfl rfl rfl ?_
    refine G_lstore_n (L' := [(2, .long ol7706), (0, .ref q7689), (1, .int p7691)]) d_cX4_addNumber_15 (Nat.le_of_ble_eq_true rfl) rfl ?_
    refine G_lconst 1 d_cX4_addNumber_16 rfl ?_
    refine G_lstore (L' := [(4, .long 1), (2, .long ol7706), (0, .ref q7689), (1, .int p7691)]) d_cX4_addNumber_17 (Nat.le_of_ble_eq_true rfl) rfl ?_
    refine G_iconst 0 d_cX4_addNumber_19 (by decide +kernel) ?_
    refine G_istore (L' := [(6, .int 0), (4, .long 1), (2, .long ol7706), (0, .ref q7689), (1, .int p7691)]) d_cX4_addNumber_20 (Nat.le_of_ble_eq_true rfl) rfl ?_
    have hlp22_8749 : ∀ (n22_8749 : Nat) (g8748 : Int32) (gl8749 : Int64), gB g8748 0 9 → ((10 : Int) - g8748.toInt).toNat < n22_8749 → G (gV D I) l (gRm 1 21 0 0) (gM (gV D I) (po_7694_Listing_addNumber I q7689 q7690 p7691 p7692 f7693) gN 0 0) ky_7694_Listing_addNumber 22 [(6, .int g8748), (4, .long gl8749), (2, .long ol7706), (0, .ref q7689), (1, .int p7691)] [] [(q7689, .inr (9, [.ref q7690, .int p7692])), (q7690, .inl (I .byte, 16384, .inl f7693))] 0 0 := by
      intro n22_8749
      induction n22_8749 with
      | zero => intro g8748 gl8749 bg8748 hm22_8749; exact absurd hm22_8749 (Nat.not_lt_zero _)
      | succ n22_8749 ih22_8749 =>
        intro g8748 gl8749 bg8748 hm22_8749
        refine G_iload 0 d_cX4_addNumber_22 rfl ?_
        refine G_bipush 9 d_cX4_addNumber_24 (by decide +kernel) ?_
        refine G_icmp_ge 54 d_cX4_addNumber_26 (by decide +kernel) (fun hc8750 => ?_) (fun hc8750 => ?_)
        · have r8751 : 9 ≤ g8748.toInt := gj_leL hc8750 (show Int32.toInt 9 = 9 by decide)
          have bg8748' : gB g8748 9 9 := ⟨by omega, by omega⟩
          refine G_iconst 0 d_cX4_addNumber_54 (by decide +kernel) ?_
          refine G_istore (L' := [(6, .int 0), (4, .long gl8749), (2, .long ol7706), (0, .ref q7689), (1, .int p7691)]) d_cX4_addNumber_55 (Nat.le_of_ble_eq_true rfl) rfl ?_
          have hlp57_8858 : ∀ (n57_8858 : Nat) (g8855 : Int32) (gl8856 : Int64) (g8857 : Int32) (f8858 : Nat → Int32), gB g8855 0 10 → gB g8857 0 16384 → gF f8858 (-128) 127 → ((11 : Int) - g8855.toInt).toNat < n57_8858 → G (gV D I) l (gRm 1 21 0 0) (gM (gV D I) (po_7694_Listing_addNumber I q7689 q7690 p7691 p7692 f7693) gN 0 0) ky_7694_Listing_addNumber 57 [(6, .int g8855), (4, .long gl8856), (2, .long ol7706), (0, .ref q7689), (1, .int p7691)] [] [(q7689, .inr (9, [.ref q7690, .int g8857])), (q7690, .inl (I .byte, 16384, .inl f8858))] 0 0 := by
            intro n57_8858
            induction n57_8858 with
            | zero => intro g8855 gl8856 g8857 f8858 bg8855 bg8857 bf8858 hm57_8858; exact absurd hm57_8858 (Nat.not_lt_zero _)
            | succ n57_8858 ih57_8858 =>
              intro g8855 gl8856 g8857 f8858 bg8855 bg8857 bf8858 hm57_8858
              refine G_iload 0 d_cX4_addNumber_57 rfl ?_
              refine G_bipush 10 d_cX4_addNumber_59 (by decide +kernel) ?_
              refine G_icmp_ge 103 d_cX4_addNumber_61 (by decide +kernel) (fun hc8859 => ?_) (fun hc8859 => ?_)
              · have r8860 : 10 ≤ g8855.toInt := gj_leL hc8859 (show Int32.toInt 10 = 10 by decide)
                have bg8855' : gB g8855 10 10 := ⟨by omega, by omega⟩
                exact G_vret d_cX4_addNumber_103 rfl (Nat.le_of_ble_eq_true rfl) (Nat.le_of_ble_eq_true rfl) ⟨g8857, f8858, rfl, rfl, bg8857, bf8858⟩
              · have r8861 : g8855.toInt < 10 := gj_nleL hc8859 (show Int32.toInt 10 = 10 by decide)
                have bg8855' : gB g8855 0 9 := ⟨by omega, by omega⟩
                refine G_lload 1 d_cX4_addNumber_64 rfl ?_
                refine G_lconst 0 d_cX4_addNumber_66 rfl ?_
                refine G_lcmp d_cX4_addNumber_67 (G_nam fun z8862 hz8862 => ?_)
                have bz8862 : gB z8862 (-1) 1 := gB_cmp hz8862
                refine G_if_le 103 d_cX4_addNumber_68 (by decide +kernel) (fun hc8863 => ?_) (fun hc8863 => ?_)
                · have r8864 : z8862.toInt ≤ 0 := gj_le hc8863 (show Int32.toInt 0 = 0 by decide)
                  have bz8862' : gB z8862 (-1) 0 := ⟨by omega, by omega⟩
                  exact G_vret d_cX4_addNumber_103 rfl (Nat.le_of_ble_eq_true rfl) (Nat.le_of_ble_eq_true rfl) ⟨g8857, f8858, rfl, rfl, bg8857, bf8858⟩
                · have r8865 : 0 < z8862.toInt := gj_nle hc8863 (show Int32.toInt 0 = 0 by decide)
                  have bz8862' : gB z8862 1 1 := ⟨by omega, by omega⟩
                  have lhc8863 := gC_cmpS hz8862 (by omega)
                  refine G_aload_n 3 d_cX4_addNumber_71 rfl ?_
                  refine G_ldc2 48 d_cX4_addNumber_72 w_6_183 ?_
                  refine G_lload_n 2 d_cX4_addNumber_75 rfl ?_
                  refine G_lload 1 d_cX4_addNumber_76 rfl ?_
                  refine G_ldiv d_cX4_addNumber_78 lhc8863 (G_namL fun u8866 hu8866 => ?_)
                  refine G_ldc2 10 d_cX4_addNumber_79 w_6_182 ?_
                  refine G_lrem d_cX4_addNumber_82 (by decide) (G_namL fun u8867 hu8867 => ?_)
                  refine G_ladd d_cX4_addNumber_83 (G_namL fun u8868 hu8868 => ?_)
                  refine G_l2i d_cX4_addNumber_84 (G_nam fun z8869 hz8869 => ?_)
                  have bz8869 : gB z8869 (-2147483648) 2147483647 := gB_any z8869
                  refine G_i2c d_cX4_addNumber_85 (G_nam fun z8870 hz8870 => ?_)
                  have bz8870 : gB z8870 0 65535 := gB_i2c hz8870
                  refine G_callV (As := [.int z8870]) (wr := []) (gV_ok D I) (ct_7602_Listing_addByte l hl0 D I q7689 q7690 z8870 g8857 f8858 bz8870 bg8857 bf8858) d_cX4_addNumber_86 ⟨w_6_171, w_1_13, w_6_174, by decide, rfl, (Nat.le_of_ble_eq_true rfl), (Nat.le_of_ble_eq_true rfl)⟩ w_6_173 w_p_66 0 rfl rfl [0, 1] [] rfl rfl rfl rfl (by decide) (Nat.le_of_ble_eq_true rfl) (Nat.le_of_ble_eq_true rfl) (Nat.le_of_ble_eq_true rfl) (fun r w hp => ?_) (fun _ _ _ z => z.elim)
                  obtain ⟨o8871, f8872, rfl, rfl, bo8871, bf8872⟩ := hp
                  change G _ _ _ _ _ _ _ _ _ _ _
                  refine G_ws (ws' := [(q7689, .inr (9, [.ref q7690, .int o8871])), (q7690, .inl (I .byte, 16384, .inl f8872))]) (cs' := 0) (sl' := 0) rfl rfl rfl ?_
                  refine G_lload 1 d_cX4_addNumber_89 rfl ?_
                  refine G_ldc2 10 d_cX4_addNumber_91 w_6_182 ?_
                  refine G_ldiv d_cX4_addNumber_94 (by decide) (G_namL fun u8873 hu8873 => ?_)
                  refine G_lstore (L' := [(4, .long u8873), (6, .int g8855), (2, .long ol7706), (0, .ref q7689), (1, .int p7691)]) d_cX4_addNumber_95 (Nat.le_of_ble_eq_true rfl) rfl ?_
                  obtain ⟨z8874, hz8874⟩ : ∃ z : Int32, z = g8855 + Int32.ofInt 1 := ⟨_, rfl⟩
                  have ez8874 : z8874.toInt = g8855.toInt + 1 := gI_inc hz8874 (by decide) bg8855' (by decide) (by decide)
                  have bz8874 : gB z8874 1 10 := ⟨by omega, by omega⟩
                  refine G_iinc (L' := [(6, .int z8874), (4, .long u8873), (2, .long ol7706), (0, .ref q7689), (1, .int p7691)]) z8874 1 d_cX4_addNumber_97 rfl hz8874.symm (Nat.le_of_ble_eq_true rfl) rfl ?_
                  refine G_goto 57 d_cX4_addNumber_100 (by decide +kernel) ?_
                  exact ih57_8858 z8874 u8873 o8871 f8872 (gB_w bz8874 (by decide) (by decide)) (gB_w bo8871 (by decide) (by decide)) bf8872 (by omega)
          exact hlp57_8858 (((11 : Int) - 0).toNat + 1) 0 gl8749 p7692 f7693 (gB_w (gBl (show Int32.toInt 0 = 0 by decide)) (by decide) (by decide)) bp7692 bf7693 (Nat.lt_succ_self _)
        · have r8875 : g8748.toInt < 9 := gj_nleL hc8750 (show Int32.toInt 9 = 9 by decide)
          have bg8748' : gB g8748 0 8 := ⟨by omega, by omega⟩
          refine G_lload 1 d_cX4_addNumber_29 rfl ?_
          refine G_lload_n 2 d_cX4_addNumber_31 rfl ?_
          refine G_ldc2 10 d_cX4_addNumber_32 w_6_182 ?_
          refine G_ldiv d_cX4_addNumber_35 (by decide) (G_namL fun u8876 hu8876 => ?_)
          refine G_lcmp d_cX4_addNumber_36 (G_nam fun z8877 hz8877 => ?_)
          have bz8877 : gB z8877 (-1) 1 := gB_cmp hz8877
          refine G_if_gt 54 d_cX4_addNumber_37 (by decide +kernel) (fun hc8878 => ?_) (fun hc8878 => ?_)
          · have r8879 : 0 < z8877.toInt := gj_ltL hc8878 (show Int32.toInt 0 = 0 by decide)
            have bz8877' : gB z8877 1 1 := ⟨by omega, by omega⟩
            have lhc8878 := gC_cmpS hz8877 (by omega)
            refine G_iconst 0 d_cX4_addNumber_54 (by decide +kernel) ?_
            refine G_istore (L' := [(6, .int 0), (4, .long gl8749), (2, .long ol7706), (0, .ref q7689), (1, .int p7691)]) d_cX4_addNumber_55 (Nat.le_of_ble_eq_true rfl) rfl ?_
            have hlp57_8986 : ∀ (n57_8986 : Nat) (g8983 : Int32) (gl8984 : Int64) (g8985 : Int32) (f8986 : Nat → Int32), gB g8983 0 10 → gB g8985 0 16384 → gF f8986 (-128) 127 → ((11 : Int) - g8983.toInt).toNat < n57_8986 → G (gV D I) l (gRm 1 21 0 0) (gM (gV D I) (po_7694_Listing_addNumber I q7689 q7690 p7691 p7692 f7693) gN 0 0) ky_7694_Listing_addNumber 57 [(6, .int g8983), (4, .long gl8984), (2, .long ol7706), (0, .ref q7689), (1, .int p7691)] [] [(q7689, .inr (9, [.ref q7690, .int g8985])), (q7690, .inl (I .byte, 16384, .inl f8986))] 0 0 := by
              intro n57_8986
              induction n57_8986 with
              | zero => intro g8983 gl8984 g8985 f8986 bg8983 bg8985 bf8986 hm57_8986; exact absurd hm57_8986 (Nat.not_lt_zero _)
              | succ n57_8986 ih57_8986 =>
                intro g8983 gl8984 g8985 f8986 bg8983 bg8985 bf8986 hm57_8986
                refine G_iload 0 d_cX4_addNumber_57 rfl ?_
                refine G_bipush 10 d_cX4_addNumber_59 (by decide +kernel) ?_
                refine G_icmp_ge 103 d_cX4_addNumber_61 (by decide +kernel) (fun hc8987 => ?_) (fun hc8987 => ?_)
                · have r8988 : 10 ≤ g8983.toInt := gj_leL hc8987 (show Int32.toInt 10 = 10 by decide)
                  have bg8983' : gB g8983 10 10 := ⟨by omega, by omega⟩
                  exact G_vret d_cX4_addNumber_103 rfl (Nat.le_of_ble_eq_true rfl) (Nat.le_of_ble_eq_true rfl) ⟨g8985, f8986, rfl, rfl, bg8985, bf8986⟩
                · have r8989 : g8983.toInt < 10 := gj_nleL hc8987 (show Int32.toInt 10 = 10 by decide)
                  have bg8983' : gB g8983 0 9 := ⟨by omega, by omega⟩
                  refine G_lload 1 d_cX4_addNumber_64 rfl ?_
                  refine G_lconst 0 d_cX4_addNumber_66 rfl ?_
                  refine G_lcmp d_cX4_addNumber_67 (G_nam fun z8990 hz8990 => ?_)
                  have bz8990 : gB z8990 (-1) 1 := gB_cmp hz8990
                  refine G_if_le 103 d_cX4_addNumber_68 (by decide +kernel) (fun hc8991 => ?_) (fun hc8991 => ?_)
                  · have r8992 : z8990.toInt ≤ 0 := gj_le hc8991 (show Int32.toInt 0 = 0 by decide)
                    have bz8990' : gB z8990 (-1) 0 := ⟨by omega, by omega⟩
                    exact G_vret d_cX4_addNumber_103 rfl (Nat.le_of_ble_eq_true rfl) (Nat.le_of_ble_eq_true rfl) ⟨g8985, f8986, rfl, rfl, bg8985, bf8986⟩
                  · have r8993 : 0 < z8990.toInt := gj_nle hc8991 (show Int32.toInt 0 = 0 by decide)
                    have bz8990' : gB z8990 1 1 := ⟨by omega, by omega⟩
                    have lhc8991 := gC_cmpS hz8990 (by omega)
                    refine G_aload_n 3 d_cX4_addNumber_71 rfl ?_
                    refine G_ldc2 48 d_cX4_addNumber_72 w_6_183 ?_
                    refine G_lload_n 2 d_cX4_addNumber_75 rfl ?_
                    refine G_lload 1 d_cX4_addNumber_76 rfl ?_
                    refine G_ldiv d_cX4_addNumber_78 lhc8991 (G_namL fun u8994 hu8994 => ?_)
                    refine G_ldc2 10 d_cX4_addNumber_79 w_6_182 ?_
                    refine G_lrem d_cX4_addNumber_82 (by decide) (G_namL fun u8995 hu8995 => ?_)
                    refine G_ladd d_cX4_addNumber_83 (G_namL fun u8996 hu8996 => ?_)
                    refine G_l2i d_cX4_addNumber_84 (G_nam fun z8997 hz8997 => ?_)
                    have bz8997 : gB z8997 (-2147483648) 2147483647 := gB_any z8997
                    refine G_i2c d_cX4_addNumber_85 (G_nam fun z8998 hz8998 => ?_)
                    have bz8998 : gB z8998 0 65535 := gB_i2c hz8998
                    refine G_callV (As := [.int z8998]) (wr := []) (gV_ok D I) (ct_7602_Listing_addByte l hl0 D I q7689 q7690 z8998 g8985 f8986 bz8998 bg8985 bf8986) d_cX4_addNumber_86 ⟨w_6_171, w_1_13, w_6_174, by decide, rfl, (Nat.le_of_ble_eq_true rfl), (Nat.le_of_ble_eq_true rfl)⟩ w_6_173 w_p_66 0 rfl rfl [0, 1] [] rfl rfl rfl rfl (by decide) (Nat.le_of_ble_eq_true rfl) (Nat.le_of_ble_eq_true rfl) (Nat.le_of_ble_eq_true rfl) (fun r w hp => ?_) (fun _ _ _ z => z.elim)
                    obtain ⟨o8999, f9000, rfl, rfl, bo8999, bf9000⟩ := hp
                    change G _ _ _ _ _ _ _ _ _ _ _
                    refine G_ws (ws' := [(q7689, .inr (9, [.ref q7690, .int o8999])), (q7690, .inl (I .byte, 16384, .inl f9000))]) (cs' := 0) (sl' := 0) rfl rfl rfl ?_
                    refine G_lload 1 d_cX4_addNumber_89 rfl ?_
                    refine G_ldc2 10 d_cX4_addNumber_91 w_6_182 ?_
                    refine G_ldiv d_cX4_addNumber_94 (by decide) (G_namL fun u9001 hu9001 => ?_)
                    refine G_lstore (L' := [(4, .long u9001), (6, .int g8983), (2, .long ol7706), (0, .ref q7689), (1, .int p7691)]) d_cX4_addNumber_95 (Nat.le_of_ble_eq_true rfl) rfl ?_
                    obtain ⟨z9002, hz9002⟩ : ∃ z : Int32, z = g8983 + Int32.ofInt 1 := ⟨_, rfl⟩
                    have ez9002 : z9002.toInt = g8983.toInt + 1 := gI_inc hz9002 (by decide) bg8983' (by decide) (by decide)
                    have bz9002 : gB z9002 1 10 := ⟨by omega, by omega⟩
                    refine G_iinc (L' := [(6, .int z9002), (4, .long u9001), (2, .long ol7706), (0, .ref q7689), (1, .int p7691)]) z9002 1 d_cX4_addNumber_97 rfl hz9002.symm (Nat.le_of_ble_eq_true rfl) rfl ?_
                    refine G_goto 57 d_cX4_addNumber_100 (by decide +kernel) ?_
                    exact ih57_8986 z9002 u9001 o8999 f9000 (gB_w bz9002 (by decide) (by decide)) (gB_w bo8999 (by decide) (by decide)) bf9000 (by omega)
            exact hlp57_8986 (((11 : Int) - 0).toNat + 1) 0 gl8749 p7692 f7693 (gB_w (gBl (show Int32.toInt 0 = 0 by decide)) (by decide) (by decide)) bp7692 bf7693 (Nat.lt_succ_self _)
          · have r9003 : z8877.toInt ≤ 0 := gj_nltL hc8878 (show Int32.toInt 0 = 0 by decide)
            have bz8877' : gB z8877 (-1) 0 := ⟨by omega, by omega⟩
            refine G_lload 1 d_cX4_addNumber_40 rfl ?_
            refine G_ldc2 10 d_cX4_addNumber_42 w_6_182 ?_
            refine G_lmul d_cX4_addNumber_45 (G_namL fun u9004 hu9004 => ?_)
            refine G_lstore (L' := [(4, .long u9004), (6, .int g8748), (2, .long ol7706), (0, .ref q7689), (1, .int p7691)]) d_cX4_addNumber_46 (Nat.le_of_ble_eq_true rfl) rfl ?_
            obtain ⟨z9005, hz9005⟩ : ∃ z : Int32, z = g8748 + Int32.ofInt 1 := ⟨_, rfl⟩
            have ez9005 : z9005.toInt = g8748.toInt + 1 := gI_inc hz9005 (by decide) bg8748' (by decide) (by decide)
            have bz9005 : gB z9005 1 9 := ⟨by omega, by omega⟩
            refine G_iinc (L' := [(6, .int z9005), (4, .long u9004), (2, .long ol7706), (0, .ref q7689), (1, .int p7691)]) z9005 1 d_cX4_addNumber_48 rfl hz9005.symm (Nat.le_of_ble_eq_true rfl) rfl ?_
            refine G_goto 22 d_cX4_addNumber_51 (by decide +kernel) ?_
            exact ih22_8749 z9005 u9004 (gB_w bz9005 (by decide) (by decide)) (by omega)
    exact hlp22_8749 (((10 : Int) - 0).toNat + 1) 0 1 (gB_w (gBl (show Int32.toInt 0 = 0 by decide)) (by decide) (by decide)) (Nat.lt_succ_self _)
  · have r9006 : p7691.toInt < 0 := gj_nleL hc7695 (show Int32.toInt 0 = 0 by decide)
    have bp7691' : gB p7691 (-2147483648) (-1) := ⟨by omega, by omega⟩
    refine G_aload_n 0 d_cX4_addNumber_4 rfl ?_
    refine G_bipush 45 d_cX4_addNumber_5 (by decide +kernel) ?_
    refine G_callV (As := [.int 45]) (wr := []) (gV_ok D I) (ct_7602_Listing_addByte l hl0 D I q7689 q7690 45 p7692 f7693 (gB_w (gBl (show Int32.toInt 45 = 45 by decide)) (by decide) (by decide)) bp7692 bf7693) d_cX4_addNumber_7 ⟨w_6_171, w_1_13, w_6_174, by decide, rfl, (Nat.le_of_ble_eq_true rfl), (Nat.le_of_ble_eq_true rfl)⟩ w_6_173 w_p_66 0 rfl rfl [0, 1] [] rfl rfl rfl rfl (by decide) (Nat.le_of_ble_eq_true rfl) (Nat.le_of_ble_eq_true rfl) (Nat.le_of_ble_eq_true rfl) (fun r w hp => ?_) (fun _ _ _ z => z.elim)
    obtain ⟨o9007, f9008, rfl, rfl, bo9007, bf9008⟩ := hp
    change G _ _ _ _ _ _ _ _ _ _ _
    refine G_ws (ws' := [(q7689, .inr (9, [.ref q7690, .int o9007])), (q7690, .inl (I .byte, 16384, .inl f9008))]) (cs' := 0) (sl' := 0) rfl rfl rfl ?_
    refine G_iload_n 1 d_cX4_addNumber_10 rfl ?_
    refine G_i2l d_cX4_addNumber_11 (G_namL fun u9009 hu9009 => ?_)
    refine G_callS (As := [.long u9009]) (wr := [(q7689, .inr (9, [.ref q7690, .int o9007])), (q7690, .inl (I .byte, 16384, .inl f9008))]) (gV_ok D I) (ct_7699_Math_abs l hl0 D I u9009 ) d_cX4_addNumber_12 ⟨w_6_179, w_1_6, w_6_181, by decide, rfl, (Nat.le_of_ble_eq_true rfl), (Nat.le_of_ble_eq_true rfl)⟩ w_6_180 [] [0, 1] rfl rfl rfl rfl (by decide) (Nat.le_of_ble_eq_true rfl) (Nat.le_of_ble_eq_true rfl) (Nat.le_of_ble_eq_true rfl) (fun r w hp => ?_) (fun _ _ _ z => z.elim)
    obtain ⟨ol9010, rfl, rfl⟩ := hp
    change G _ _ _ _ _ _ _ (.long ol9010 :: _) _ _ _
    refine G_ws (ws' := [(q7689, .inr (9, [.ref q7690, .int o9007])), (q7690, .inl (I .byte, 16384, .inl f9008))]) (cs' := 0) (sl' := 0) rfl rfl rfl ?_
    refine G_lstore_n (L' := [(2, .long ol9010), (0, .ref q7689), (1, .int p7691)]) d_cX4_addNumber_15 (Nat.le_of_ble_eq_true rfl) rfl ?_
    refine G_lconst 1 d_cX4_addNumber_16 rfl ?_
    refine G_lstore (L' := [(4, .long 1), (2, .long ol9010), (0, .ref q7689), (1, .int p7691)]) d_cX4_addNumber_17 (Nat.le_of_ble_eq_true rfl) rfl ?_
    refine G_iconst 0 d_cX4_addNumber_19 (by decide +kernel) ?_
    refine G_istore (L' := [(6, .int 0), (4, .long 1), (2, .long ol9010), (0, .ref q7689), (1, .int p7691)]) d_cX4_addNumber_20 (Nat.le_of_ble_eq_true rfl) rfl ?_
    have hlp22_10053 : ∀ (n22_10053 : Nat) (g10052 : Int32) (gl10053 : Int64), gB g10052 0 9 → ((10 : Int) - g10052.toInt).toNat < n22_10053 → G (gV D I) l (gRm 1 21 0 0) (gM (gV D I) (po_7694_Listing_addNumber I q7689 q7690 p7691 p7692 f7693) gN 0 0) ky_7694_Listing_addNumber 22 [(6, .int g10052), (4, .long gl10053), (2, .long ol9010), (0, .ref q7689), (1, .int p7691)] [] [(q7689, .inr (9, [.ref q7690, .int o9007])), (q7690, .inl (I .byte, 16384, .inl f9008))] 0 0 := by
      intro n22_10053
      induction n22_10053 with
      | zero => intro g10052 gl10053 bg10052 hm22_10053; exact absurd hm22_10053 (Nat.not_lt_zero _)
      | succ n22_10053 ih22_10053 =>
        intro g10052 gl10053 bg10052 hm22_10053
        refine G_iload 0 d_cX4_addNumber_22 rfl ?_
        refine G_bipush 9 d_cX4_addNumber_24 (by decide +kernel) ?_
        refine G_icmp_ge 54 d_cX4_addNumber_26 (by decide +kernel) (fun hc10054 => ?_) (fun hc10054 => ?_)
        · have r10055 : 9 ≤ g10052.toInt := gj_leL hc10054 (show Int32.toInt 9 = 9 by decide)
          have bg10052' : gB g10052 9 9 := ⟨by omega, by omega⟩
          refine G_iconst 0 d_cX4_addNumber_54 (by decide +kernel) ?_
          refine G_istore (L' := [(6, .int 0), (4, .long gl10053), (2, .long ol9010), (0, .ref q7689), (1, .int p7691)]) d_cX4_addNumber_55 (Nat.le_of_ble_eq_true rfl) rfl ?_
          have hlp57_10162 : ∀ (n57_10162 : Nat) (g10159 : Int32) (gl10160 : Int64) (g10161 : Int32) (f10162 : Nat → Int32), gB g10159 0 10 → gB g10161 0 16384 → gF f10162 (-128) 127 → ((11 : Int) - g10159.toInt).toNat < n57_10162 → G (gV D I) l (gRm 1 21 0 0) (gM (gV D I) (po_7694_Listing_addNumber I q7689 q7690 p7691 p7692 f7693) gN 0 0) ky_7694_Listing_addNumber 57 [(6, .int g10159), (4, .long gl10160), (2, .long ol9010), (0, .ref q7689), (1, .int p7691)] [] [(q7689, .inr (9, [.ref q7690, .int g10161])), (q7690, .inl (I .byte, 16384, .inl f10162))] 0 0 := by
            intro n57_10162
            induction n57_10162 with
            | zero => intro g10159 gl10160 g10161 f10162 bg10159 bg10161 bf10162 hm57_10162; exact absurd hm57_10162 (Nat.not_lt_zero _)
            | succ n57_10162 ih57_10162 =>
              intro g10159 gl10160 g10161 f10162 bg10159 bg10161 bf10162 hm57_10162
              refine G_iload 0 d_cX4_addNumber_57 rfl ?_
              refine G_bipush 10 d_cX4_addNumber_59 (by decide +kernel) ?_
              refine G_icmp_ge 103 d_cX4_addNumber_61 (by decide +kernel) (fun hc10163 => ?_) (fun hc10163 => ?_)
              · have r10164 : 10 ≤ g10159.toInt := gj_leL hc10163 (show Int32.toInt 10 = 10 by decide)
                have bg10159' : gB g10159 10 10 := ⟨by omega, by omega⟩
                exact G_vret d_cX4_addNumber_103 rfl (Nat.le_of_ble_eq_true rfl) (Nat.le_of_ble_eq_true rfl) ⟨g10161, f10162, rfl, rfl, bg10161, bf10162⟩
              · have r10165 : g10159.toInt < 10 := gj_nleL hc10163 (show Int32.toInt 10 = 10 by decide)
                have bg10159' : gB g10159 0 9 := ⟨by omega, by omega⟩
                refine G_lload 1 d_cX4_addNumber_64 rfl ?_
                refine G_lconst 0 d_cX4_addNumber_66 rfl ?_
                refine G_lcmp d_cX4_addNumber_67 (G_nam fun z10166 hz10166 => ?_)
                have bz10166 : gB z10166 (-1) 1 := gB_cmp hz10166
                refine G_if_le 103 d_cX4_addNumber_68 (by decide +kernel) (fun hc10167 => ?_) (fun hc10167 => ?_)
                · have r10168 : z10166.toInt ≤ 0 := gj_le hc10167 (show Int32.toInt 0 = 0 by decide)
                  have bz10166' : gB z10166 (-1) 0 := ⟨by omega, by omega⟩
                  exact G_vret d_cX4_addNumber_103 rfl (Nat.le_of_ble_eq_true rfl) (Nat.le_of_ble_eq_true rfl) ⟨g10161, f10162, rfl, rfl, bg10161, bf10162⟩
                · have r10169 : 0 < z10166.toInt := gj_nle hc10167 (show Int32.toInt 0 = 0 by decide)
                  have bz10166' : gB z10166 1 1 := ⟨by omega, by omega⟩
                  have lhc10167 := gC_cmpS hz10166 (by omega)
                  refine G_aload_n 3 d_cX4_addNumber_71 rfl ?_
                  refine G_ldc2 48 d_cX4_addNumber_72 w_6_183 ?_
                  refine G_lload_n 2 d_cX4_addNumber_75 rfl ?_
                  refine G_lload 1 d_cX4_addNumber_76 rfl ?_
                  refine G_ldiv d_cX4_addNumber_78 lhc10167 (G_namL fun u10170 hu10170 => ?_)
                  refine G_ldc2 10 d_cX4_addNumber_79 w_6_182 ?_
                  refine G_lrem d_cX4_addNumber_82 (by decide) (G_namL fun u10171 hu10171 => ?_)
                  refine G_ladd d_cX4_addNumber_83 (G_namL fun u10172 hu10172 => ?_)
                  refine G_l2i d_cX4_addNumber_84 (G_nam fun z10173 hz10173 => ?_)
                  have bz10173 : gB z10173 (-2147483648) 2147483647 := gB_any z10173
                  refine G_i2c d_cX4_addNumber_85 (G_nam fun z10174 hz10174 => ?_)
                  have bz10174 : gB z10174 0 65535 := gB_i2c hz10174
                  refine G_callV (As := [.int z10174]) (wr := []) (gV_ok D I) (ct_7602_Listing_addByte l hl0 D I q7689 q7690 z10174 g10161 f10162 bz10174 bg10161 bf10162) d_cX4_addNumber_86 ⟨w_6_171, w_1_13, w_6_174, by decide, rfl, (Nat.le_of_ble_eq_true rfl), (Nat.le_of_ble_eq_true rfl)⟩ w_6_173 w_p_66 0 rfl rfl [0, 1] [] rfl rfl rfl rfl (by decide) (Nat.le_of_ble_eq_true rfl) (Nat.le_of_ble_eq_true rfl) (Nat.le_of_ble_eq_true rfl) (fun r w hp => ?_) (fun _ _ _ z => z.elim)
                  obtain ⟨o10175, f10176, rfl, rfl, bo10175, bf10176⟩ := hp
                  change G _ _ _ _ _ _ _ _ _ _ _
                  refine G_ws (ws' := [(q7689, .inr (9, [.ref q7690, .int o10175])), (q7690, .inl (I .byte, 16384, .inl f10176))]) (cs' := 0) (sl' := 0) rfl rfl rfl ?_
                  refine G_lload 1 d_cX4_addNumber_89 rfl ?_
                  refine G_ldc2 10 d_cX4_addNumber_91 w_6_182 ?_
                  refine G_ldiv d_cX4_addNumber_94 (by decide) (G_namL fun u10177 hu10177 => ?_)
                  refine G_lstore (L' := [(4, .long u10177), (6, .int g10159), (2, .long ol9010), (0, .ref q7689), (1, .int p7691)]) d_cX4_addNumber_95 (Nat.le_of_ble_eq_true rfl) rfl ?_
                  obtain ⟨z10178, hz10178⟩ : ∃ z : Int32, z = g10159 + Int32.ofInt 1 := ⟨_, rfl⟩
                  have ez10178 : z10178.toInt = g10159.toInt + 1 := gI_inc hz10178 (by decide) bg10159' (by decide) (by decide)
                  have bz10178 : gB z10178 1 10 := ⟨by omega, by omega⟩
                  refine G_iinc (L' := [(6, .int z10178), (4, .long u10177), (2, .long ol9010), (0, .ref q7689), (1, .int p7691)]) z10178 1 d_cX4_addNumber_97 rfl hz10178.symm (Nat.le_of_ble_eq_true rfl) rfl ?_
                  refine G_goto 57 d_cX4_addNumber_100 (by decide +kernel) ?_
                  exact ih57_10162 z10178 u10177 o10175 f10176 (gB_w bz10178 (by decide) (by decide)) (gB_w bo10175 (by decide) (by decide)) bf10176 (by omega)
          exact hlp57_10162 (((11 : Int) - 0).toNat + 1) 0 gl10053 o9007 f9008 (gB_w (gBl (show Int32.toInt 0 = 0 by decide)) (by decide) (by decide)) (gB_w bo9007 (by decide) (by decide)) bf9008 (Nat.lt_succ_self _)
        · have r10179 : g10052.toInt < 9 := gj_nleL hc10054 (show Int32.toInt 9 = 9 by decide)
          have bg10052' : gB g10052 0 8 := ⟨by omega, by omega⟩
          refine G_lload 1 d_cX4_addNumber_29 rfl ?_
          refine G_lload_n 2 d_cX4_addNumber_31 rfl ?_
          refine G_ldc2 10 d_cX4_addNumber_32 w_6_182 ?_
          refine G_ldiv d_cX4_addNumber_35 (by decide) (G_namL fun u10180 hu10180 => ?_)
          refine G_lcmp d_cX4_addNumber_36 (G_nam fun z10181 hz10181 => ?_)
          have bz10181 : gB z10181 (-1) 1 := gB_cmp hz10181
          refine G_if_gt 54 d_cX4_addNumber_37 (by decide +kernel) (fun hc10182 => ?_) (fun hc10182 => ?_)
          · have r10183 : 0 < z10181.toInt := gj_ltL hc10182 (show Int32.toInt 0 = 0 by decide)
            have bz10181' : gB z10181 1 1 := ⟨by omega, by omega⟩
            have lhc10182 := gC_cmpS hz10181 (by omega)
            refine G_iconst 0 d_cX4_addNumber_54 (by decide +kernel) ?_
            refine G_istore (L' := [(6, .int 0), (4, .long gl10053), (2, .long ol9010), (0, .ref q7689), (1, .int p7691)]) d_cX4_addNumber_55 (Nat.le_of_ble_eq_true rfl) rfl ?_
            have hlp57_10290 : ∀ (n57_10290 : Nat) (g10287 : Int32) (gl10288 : Int64) (g10289 : Int32) (f10290 : Nat → Int32), gB g10287 0 10 → gB g10289 0 16384 → gF f10290 (-128) 127 → ((11 : Int) - g10287.toInt).toNat < n57_10290 → G (gV D I) l (gRm 1 21 0 0) (gM (gV D I) (po_7694_Listing_addNumber I q7689 q7690 p7691 p7692 f7693) gN 0 0) ky_7694_Listing_addNumber 57 [(6, .int g10287), (4, .long gl10288), (2, .long ol9010), (0, .ref q7689), (1, .int p7691)] [] [(q7689, .inr (9, [.ref q7690, .int g10289])), (q7690, .inl (I .byte, 16384, .inl f10290))] 0 0 := by
              intro n57_10290
              induction n57_10290 with
              | zero => intro g10287 gl10288 g10289 f10290 bg10287 bg10289 bf10290 hm57_10290; exact absurd hm57_10290 (Nat.not_lt_zero _)
              | succ n57_10290 ih57_10290 =>
                intro g10287 gl10288 g10289 f10290 bg10287 bg10289 bf10290 hm57_10290
                refine G_iload 0 d_cX4_addNumber_57 rfl ?_
                refine G_bipush 10 d_cX4_addNumber_59 (by decide +kernel) ?_
                refine G_icmp_ge 103 d_cX4_addNumber_61 (by decide +kernel) (fun hc10291 => ?_) (fun hc10291 => ?_)
                · have r10292 : 10 ≤ g10287.toInt := gj_leL hc10291 (show Int32.toInt 10 = 10 by decide)
                  have bg10287' : gB g10287 10 10 := ⟨by omega, by omega⟩
                  exact G_vret d_cX4_addNumber_103 rfl (Nat.le_of_ble_eq_true rfl) (Nat.le_of_ble_eq_true rfl) ⟨g10289, f10290, rfl, rfl, bg10289, bf10290⟩
                · have r10293 : g10287.toInt < 10 := gj_nleL hc10291 (show Int32.toInt 10 = 10 by decide)
                  have bg10287' : gB g10287 0 9 := ⟨by omega, by omega⟩
                  refine G_lload 1 d_cX4_addNumber_64 rfl ?_
                  refine G_lconst 0 d_cX4_addNumber_66 rfl ?_
                  refine G_lcmp d_cX4_addNumber_67 (G_nam fun z10294 hz10294 => ?_)
                  have bz10294 : gB z10294 (-1) 1 := gB_cmp hz10294
                  refine G_if_le 103 d_cX4_addNumber_68 (by decide +kernel) (fun hc10295 => ?_) (fun hc10295 => ?_)
                  · have r10296 : z10294.toInt ≤ 0 := gj_le hc10295 (show Int32.toInt 0 = 0 by decide)
                    have bz10294' : gB z10294 (-1) 0 := ⟨by omega, by omega⟩
                    exact G_vret d_cX4_addNumber_103 rfl (Nat.le_of_ble_eq_true rfl) (Nat.le_of_ble_eq_true rfl) ⟨g10289, f10290, rfl, rfl, bg10289, bf10290⟩
                  · have r10297 : 0 < z10294.toInt := gj_nle hc10295 (show Int32.toInt 0 = 0 by decide)
                    have bz10294' : gB z10294 1 1 := ⟨by omega, by omega⟩
                    have lhc10295 := gC_cmpS hz10294 (by omega)
                    refine G_aload_n 3 d_cX4_addNumber_71 rfl ?_
                    refine G_ldc2 48 d_cX4_addNumber_72 w_6_183 ?_
                    refine G_lload_n 2 d_cX4_addNumber_75 rfl ?_
                    refine G_lload 1 d_cX4_addNumber_76 rfl ?_
                    refine G_ldiv d_cX4_addNumber_78 lhc10295 (G_namL fun u10298 hu10298 => ?_)
                    refine G_ldc2 10 d_cX4_addNumber_79 w_6_182 ?_
                    refine G_lrem d_cX4_addNumber_82 (by decide) (G_namL fun u10299 hu10299 => ?_)
                    refine G_ladd d_cX4_addNumber_83 (G_namL fun u10300 hu10300 => ?_)
                    refine G_l2i d_cX4_addNumber_84 (G_nam fun z10301 hz10301 => ?_)
                    have bz10301 : gB z10301 (-2147483648) 2147483647 := gB_any z10301
                    refine G_i2c d_cX4_addNumber_85 (G_nam fun z10302 hz10302 => ?_)
                    have bz10302 : gB z10302 0 65535 := gB_i2c hz10302
                    refine G_callV (As := [.int z10302]) (wr := []) (gV_ok D I) (ct_7602_Listing_addByte l hl0 D I q7689 q7690 z10302 g10289 f10290 bz10302 bg10289 bf10290) d_cX4_addNumber_86 ⟨w_6_171, w_1_13, w_6_174, by decide, rfl, (Nat.le_of_ble_eq_true rfl), (Nat.le_of_ble_eq_true rfl)⟩ w_6_173 w_p_66 0 rfl rfl [0, 1] [] rfl rfl rfl rfl (by decide) (Nat.le_of_ble_eq_true rfl) (Nat.le_of_ble_eq_true rfl) (Nat.le_of_ble_eq_true rfl) (fun r w hp => ?_) (fun _ _ _ z => z.elim)
                    obtain ⟨o10303, f10304, rfl, rfl, bo10303, bf10304⟩ := hp
                    change G _ _ _ _ _ _ _ _ _ _ _
                    refine G_ws (ws' := [(q7689, .inr (9, [.ref q7690, .int o10303])), (q7690, .inl (I .byte, 16384, .inl f10304))]) (cs' := 0) (sl' := 0) rfl rfl rfl ?_
                    refine G_lload 1 d_cX4_addNumber_89 rfl ?_
                    refine G_ldc2 10 d_cX4_addNumber_91 w_6_182 ?_
                    refine G_ldiv d_cX4_addNumber_94 (by decide) (G_namL fun u10305 hu10305 => ?_)
                    refine G_lstore (L' := [(4, .long u10305), (6, .int g10287), (2, .long ol9010), (0, .ref q7689), (1, .int p7691)]) d_cX4_addNumber_95 (Nat.le_of_ble_eq_true rfl) rfl ?_
                    obtain ⟨z10306, hz10306⟩ : ∃ z : Int32, z = g10287 + Int32.ofInt 1 := ⟨_, rfl⟩
                    have ez10306 : z10306.toInt = g10287.toInt + 1 := gI_inc hz10306 (by decide) bg10287' (by decide) (by decide)
                    have bz10306 : gB z10306 1 10 := ⟨by omega, by omega⟩
                    refine G_iinc (L' := [(6, .int z10306), (4, .long u10305), (2, .long ol9010), (0, .ref q7689), (1, .int p7691)]) z10306 1 d_cX4_addNumber_97 rfl hz10306.symm (Nat.le_of_ble_eq_true rfl) rfl ?_
                    refine G_goto 57 d_cX4_addNumber_100 (by decide +kernel) ?_
                    exact ih57_10290 z10306 u10305 o10303 f10304 (gB_w bz10306 (by decide) (by decide)) (gB_w bo10303 (by decide) (by decide)) bf10304 (by omega)
            exact hlp57_10290 (((11 : Int) - 0).toNat + 1) 0 gl10053 o9007 f9008 (gB_w (gBl (show Int32.toInt 0 = 0 by decide)) (by decide) (by decide)) (gB_w bo9007 (by decide) (by decide)) bf9008 (Nat.lt_succ_self _)
          · have r10307 : z10181.toInt ≤ 0 := gj_nltL hc10182 (show Int32.toInt 0 = 0 by decide)
            have bz10181' : gB z10181 (-1) 0 := ⟨by omega, by omega⟩
            refine G_lload 1 d_cX4_addNumber_40 rfl ?_
            refine G_ldc2 10 d_cX4_addNumber_42 w_6_182 ?_
            refine G_lmul d_cX4_addNumber_45 (G_namL fun u10308 hu10308 => ?_)
            refine G_lstore (L' := [(4, .long u10308), (6, .int g10052), (2, .long ol9010), (0, .ref q7689), (1, .int p7691)]) d_cX4_addNumber_46 (Nat.le_of_ble_eq_true rfl) rfl ?_
            obtain ⟨z10309, hz10309⟩ : ∃ z : Int32, z = g10052 + Int32.ofInt 1 := ⟨_, rfl⟩
            have ez10309 : z10309.toInt = g10052.toInt + 1 := gI_inc hz10309 (by decide) bg10052' (by decide) (by decide)
            have bz10309 : gB z10309 1 9 := ⟨by omega, by omega⟩
            refine G_iinc (L' := [(6, .int z10309), (4, .long u10308), (2, .long ol9010), (0, .ref q7689), (1, .int p7691)]) z10309 1 d_cX4_addNumber_48 rfl hz10309.symm (Nat.le_of_ble_eq_true rfl) rfl ?_
            refine G_goto 22 d_cX4_addNumber_51 (by decide +kernel) ?_
            exact ih22_10053 z10309 u10308 (gB_w bz10309 (by decide) (by decide)) (by omega)
    exact hlp22_10053 (((10 : Int) - 0).toNat + 1) 0 1 (gB_w (gBl (show Int32.toInt 0 = 0 by decide)) (by decide) (by decide)) (Nat.lt_succ_self _)
abbrev ky_7582_Listing_addNamed : gKey := (cX4_addNamed, 3, yX4_addNamed.cls, none, [], yX4_addNamed.name, fun _ _ => True)
abbrev po_7582_Listing_addNamed (I : FieldType → ClassId) (q7574 : Nat) (q7575 : Nat) (qs7576 : Nat) (qb7577 : Nat) (bs7578 : List Int32) (p7579 : Int32) (p7580 : Int32) (f7581 : Nat → Int32) : Option Value → va_W → Prop := fun r w => ∃ (o10314 : Int32) (f10315 : Nat → Int32), r = none ∧ w = [(q7574, .inr (9, [.ref q7575, .int o10314])), (q7575, .inl (I .byte, 16384, .inl f10315))] ∧ gB o10314 0 16384 ∧ gF f10315 (-128) 127
set_option maxRecDepth 100000 in
set_option maxHeartbeats 4000000 in
theorem ct_7582_Listing_addNamed (l : Launch) (hl0 : l.stackTraces = false) (D : va_G) (I : FieldType → ClassId) (q7574 : Nat) (q7575 : Nat) (qs7576 : Nat) (qb7577 : Nat) (bs7578 : List Int32) (p7579 : Int32) (p7580 : Int32) (f7581 : Nat → Int32) (hbs7578 : ∀ A s H, (gV D I).2.2.2.1 A s H → gSC qs7576 qb7577 bs7578 A s H) (nbs7578 : (bs7578.length : Int) ≤ 65535) (bp7580 : gB p7580 0 16384) (bf7581 : gF f7581 (-128) 127) : Ct (gV D I) l yX4_addNamed cX4_addNamed 3 none 5 107 0 0 [.ref q7574, .ref qs7576, .int p7579] [(q7574, .inr (9, [.ref q7575, .int p7580])), (q7575, .inl (I .byte, 16384, .inl f7581))] (po_7582_Listing_addNamed I q7574 q7575 qs7576 qb7577 bs7578 p7579 p7580 f7581) gN := by
  refine Ct_of hl0 (by decide) (Nat.le_of_ble_eq_true rfl) ?_
  have bp7579 := gB_any p7579
  refine G_aload_n 0 d_cX4_addNamed_0 rfl ?_
  refine G_aload_n 1 d_cX4_addNamed_1 rfl ?_
  refine G_callV (As := [.ref qs7576]) (wr := []) (gV_ok D I) (ct_7590_Listing_addText l hl0 D I q7574 q7575 qs7576 qb7577 bs7578 p7580 f7581 hbs7578 nbs7578 bp7580 bf7581) d_cX4_addNamed_2 ⟨w_6_165, w_1_13, w_6_168, by decide, rfl, (Nat.le_of_ble_eq_true rfl), (Nat.le_of_ble_eq_true rfl)⟩ w_6_167 w_p_65 0 rfl rfl [0, 1] [] rfl rfl rfl rfl (by decide) (Nat.le_of_ble_eq_true rfl) (Nat.le_of_ble_eq_true rfl) (Nat.le_of_ble_eq_true rfl) (fun r w hp => ?_) (fun _ _ _ z => z.elim)
  obtain ⟨o7687, f7688, rfl, rfl, bo7687, bf7688⟩ := hp
  change G _ _ _ _ _ _ _ _ _ _ _
  refine G_ws (ws' := [(q7574, .inr (9, [.ref q7575, .int o7687])), (q7575, .inl (I .byte, 16384, .inl f7688))]) (cs' := 0) (sl' := 0) rfl rfl rfl ?_
  refine G_aload_n 0 d_cX4_addNamed_5 rfl ?_
  refine G_iload_n 2 d_cX4_addNamed_6 rfl ?_
  refine G_callV (As := [.int p7579]) (wr := []) (gV_ok D I) (ct_7694_Listing_addNumber l hl0 D I q7574 q7575 p7579 o7687 f7688 bo7687 bf7688) d_cX4_addNamed_7 ⟨w_6_175, w_1_13, w_6_178, by decide, rfl, (Nat.le_of_ble_eq_true rfl), (Nat.le_of_ble_eq_true rfl)⟩ w_6_177 w_p_67 0 rfl rfl [0, 1] [] rfl rfl rfl rfl (by decide) (Nat.le_of_ble_eq_true rfl) (Nat.le_of_ble_eq_true rfl) (Nat.le_of_ble_eq_true rfl) (fun r w hp => ?_) (fun _ _ _ z => z.elim)
  obtain ⟨o10312, f10313, rfl, rfl, bo10312, bf10313⟩ := hp
  change G _ _ _ _ _ _ _ _ _ _ _
  refine G_ws (ws' := [(q7574, .inr (9, [.ref q7575, .int o10312])), (q7575, .inl (I .byte, 16384, .inl f10313))]) (cs' := 0) (sl' := 0) rfl rfl rfl ?_
  exact G_vret d_cX4_addNamed_10 rfl (Nat.le_of_ble_eq_true rfl) (Nat.le_of_ble_eq_true rfl) ⟨o10312, f10313, rfl, rfl, bo10312, bf10313⟩
abbrev ky_10422_Listing_addOperand : gKey := (cX4_addOperand, 3, yX4_addOperand.cls, none, [], yX4_addOperand.name, fun _ _ => True)
abbrev po_10422_Listing_addOperand (I : FieldType → ClassId) (q10416 : Nat) (q10417 : Nat) (p10418 : Int32) (p10419 : Int32) (p10420 : Int32) (f10421 : Nat → Int32) : Option Value → va_W → Prop := fun r w => ∃ (o10431 : Int32) (f10432 : Nat → Int32), r = none ∧ w = [(q10416, .inr (9, [.ref q10417, .int o10431])), (q10417, .inl (I .byte, 16384, .inl f10432))] ∧ gB o10431 0 16384 ∧ gF f10432 (-128) 127
set_option maxRecDepth 100000 in
set_option maxHeartbeats 4000000 in
theorem ct_10422_Listing_addOperand (l : Launch) (hl0 : l.stackTraces = false) (D : va_G) (I : FieldType → ClassId) (q10416 : Nat) (q10417 : Nat) (p10418 : Int32) (p10419 : Int32) (p10420 : Int32) (f10421 : Nat → Int32) (bp10420 : gB p10420 0 16384) (bf10421 : gF f10421 (-128) 127) : Ct (gV D I) l yX4_addOperand cX4_addOperand 3 none 6 129 0 0 [.ref q10416, .int p10418, .int p10419] [(q10416, .inr (9, [.ref q10417, .int p10420])), (q10417, .inl (I .byte, 16384, .inl f10421))] (po_10422_Listing_addOperand I q10416 q10417 p10418 p10419 p10420 f10421) gN := by
  refine Ct_of hl0 (by decide) (Nat.le_of_ble_eq_true rfl) ?_
  have bp10418 := gB_any p10418
  have bp10419 := gB_any p10419
  refine G_iload_n 1 d_cX4_addOperand_0 rfl ?_
  refine G_iconst (-1) d_cX4_addOperand_1 (by decide +kernel) ?_
  refine G_icmp_ne 13 d_cX4_addOperand_2 (by decide +kernel) (fun hc10423 => ?_) (fun hc10423 => ?_)
  · have r10424 : p10418.toInt ≠ (-1) := gj_neq hc10423 (show Int32.toInt (-1) = (-1) by decide)
    refine G_aload_n 0 d_cX4_addOperand_13 rfl ?_
    refine G_ldcK (a := D.2 1000 21) d_cX4_addOperand_14 (fun _ _ _ h => gx_vk 21 rfl rfl h) ?_
    have hl21_10424 : (sb_21.length : Int) = 1 := rfl
    refine G_iload_n 1 d_cX4_addOperand_16 rfl ?_
    refine G_callV (As := [.ref (D.2 1000 21), .int p10418]) (wr := []) (gV_ok D I) (ct_7582_Listing_addNamed l hl0 D I q10416 q10417 (D.2 1000 21) (D.2 1001 21) sb_21 p10418 p10420 f10421 (gx_sc 21 rfl rfl) (by omega) bp10420 bf10421) d_cX4_addOperand_17 ⟨w_6_161, w_1_13, w_6_164, by decide, rfl, (Nat.le_of_ble_eq_true rfl), (Nat.le_of_ble_eq_true rfl)⟩ w_6_163 w_p_64 0 rfl rfl [0, 1] [] rfl rfl rfl rfl (by decide) (Nat.le_of_ble_eq_true rfl) (Nat.le_of_ble_eq_true rfl) (Nat.le_of_ble_eq_true rfl) (fun r w hp => ?_) (fun _ _ _ z => z.elim)
    obtain ⟨o10426, f10427, rfl, rfl, bo10426, bf10427⟩ := hp
    change G _ _ _ _ _ _ _ _ _ _ _
    refine G_ws (ws' := [(q10416, .inr (9, [.ref q10417, .int o10426])), (q10417, .inl (I .byte, 16384, .inl f10427))]) (cs' := 0) (sl' := 0) rfl rfl rfl ?_
    exact G_vret d_cX4_addOperand_20 rfl (Nat.le_of_ble_eq_true rfl) (Nat.le_of_ble_eq_true rfl) ⟨o10426, f10427, rfl, rfl, bo10426, bf10427⟩
  · have r10428 : p10418.toInt = (-1) := gj_eq hc10423 (show Int32.toInt (-1) = (-1) by decide)
    have bp10418' : gB p10418 (-1) (-1) := ⟨by omega, by omega⟩
    refine G_aload_n 0 d_cX4_addOperand_5 rfl ?_
    refine G_iload_n 2 d_cX4_addOperand_6 rfl ?_
    refine G_callV (As := [.int p10419]) (wr := []) (gV_ok D I) (ct_7694_Listing_addNumber l hl0 D I q10416 q10417 p10419 p10420 f10421 bp10420 bf10421) d_cX4_addOperand_7 ⟨w_6_175, w_1_13, w_6_178, by decide, rfl, (Nat.le_of_ble_eq_true rfl), (Nat.le_of_ble_eq_true rfl)⟩ w_6_177 w_p_67 0 rfl rfl [0, 1] [] rfl rfl rfl rfl (by decide) (Nat.le_of_ble_eq_true rfl) (Nat.le_of_ble_eq_true rfl) (Nat.le_of_ble_eq_true rfl) (fun r w hp => ?_) (fun _ _ _ z => z.elim)
    obtain ⟨o10429, f10430, rfl, rfl, bo10429, bf10430⟩ := hp
    change G _ _ _ _ _ _ _ _ _ _ _
    refine G_ws (ws' := [(q10416, .inr (9, [.ref q10417, .int o10429])), (q10417, .inl (I .byte, 16384, .inl f10430))]) (cs' := 0) (sl' := 0) rfl rfl rfl ?_
    refine G_goto 20 d_cX4_addOperand_10 (by decide +kernel) ?_
    exact G_vret d_cX4_addOperand_20 rfl (Nat.le_of_ble_eq_true rfl) (Nat.le_of_ble_eq_true rfl) ⟨o10429, f10430, rfl, rfl, bo10429, bf10430⟩
abbrev ky_10443_Listing_addOp : gKey := (cX4_addOp, 2, yX4_addOp.cls, none, [], yX4_addOp.name, fun _ _ => True)
abbrev po_10443_Listing_addOp (I : FieldType → ClassId) (q10438 : Nat) (q10439 : Nat) (p10440 : Int32) (p10441 : Int32) (f10442 : Nat → Int32) : Option Value → va_W → Prop := fun r w => ∃ (o10468 : Int32) (f10469 : Nat → Int32), r = none ∧ w = [(q10438, .inr (9, [.ref q10439, .int o10468])), (q10439, .inl (I .byte, 16384, .inl f10469))] ∧ gB o10468 1 16384 ∧ gF f10469 (-128) 127
set_option maxRecDepth 100000 in
set_option maxHeartbeats 4000000 in
theorem ct_10443_Listing_addOp (l : Launch) (hl0 : l.stackTraces = false) (D : va_G) (I : FieldType → ClassId) (q10438 : Nat) (q10439 : Nat) (p10440 : Int32) (p10441 : Int32) (f10442 : Nat → Int32) (bp10440 : gB p10440 0 13) (bp10441 : gB p10441 0 16384) (bf10442 : gF f10442 (-128) 127) : Ct (gV D I) l yX4_addOp cX4_addOp 2 none 4 85 0 0 [.ref q10438, .int p10440] [(q10438, .inr (9, [.ref q10439, .int p10441])), (q10439, .inl (I .byte, 16384, .inl f10442))] (po_10443_Listing_addOp I q10438 q10439 p10440 p10441 f10442) gN := by
  refine Ct_of hl0 (by decide) (Nat.le_of_ble_eq_true rfl) ?_
  refine G_aload_n 0 d_cX4_addOp_0 rfl ?_
  refine G_bipush 32 d_cX4_addOp_1 (by decide +kernel) ?_
  refine G_callV (As := [.int 32]) (wr := []) (gV_ok D I) (ct_7602_Listing_addByte l hl0 D I q10438 q10439 32 p10441 f10442 (gB_w (gBl (show Int32.toInt 32 = 32 by decide)) (by decide) (by decide)) bp10441 bf10442) d_cX4_addOp_3 ⟨w_6_171, w_1_13, w_6_174, by decide, rfl, (Nat.le_of_ble_eq_true rfl), (Nat.le_of_ble_eq_true rfl)⟩ w_6_173 w_p_66 0 rfl rfl [0, 1] [] rfl rfl rfl rfl (by decide) (Nat.le_of_ble_eq_true rfl) (Nat.le_of_ble_eq_true rfl) (Nat.le_of_ble_eq_true rfl) (fun r w hp => ?_) (fun _ _ _ z => z.elim)
  obtain ⟨o10444, f10445, rfl, rfl, bo10444, bf10445⟩ := hp
  change G _ _ _ _ _ _ _ _ _ _ _
  refine G_ws (ws' := [(q10438, .inr (9, [.ref q10439, .int o10444])), (q10439, .inl (I .byte, 16384, .inl f10445))]) (cs' := 0) (sl' := 0) rfl rfl rfl ?_
  refine G_aload_n 0 d_cX4_addOp_6 rfl ?_
  refine G_ldcK (a := D.2 1000 30) d_cX4_addOp_7 (fun _ _ _ h => gx_vk 30 rfl rfl h) ?_
  have hl30_10445 : (sb_30.length : Int) = 28 := rfl
  refine G_iconst 2 d_cX4_addOp_9 (by decide +kernel) ?_
  refine G_iload_n 1 d_cX4_addOp_10 rfl ?_
  refine G_imul d_cX4_addOp_11 (G_nam fun z10447 hz10447 => ?_)
  have ez10447 : z10447.toInt = 2 * p10440.toInt := by rw [gI_mul hz10447 (gBl (show Int32.toInt 2 = 2 by decide)) bp10440 (by decide) (by decide) (by decide), show Int32.toInt 2 = 2 from by decide]
  have bz10447 : gB z10447 0 26 := gB_mul hz10447 (gBl (show Int32.toInt 2 = 2 by decide)) bp10440 (by decide) (by decide) (by decide) (by decide)
  refine G_callVk (As := [.int z10447]) (wr := [(q10438, .inr (9, [.ref q10439, .int o10444])), (q10439, .inl (I .byte, 16384, .inl f10445))]) (gV_ok D I) (ct_3858_String_charAt l hl0 D I (D.2 1000 30) (D.2 1001 30) sb_30 z10447 (gx_sc 30 rfl rfl) (by omega) (by omega) (by omega)) d_cX4_addOp_12 ⟨w_6_170, w_1_21, w_3_70, by decide, rfl, (Nat.le_of_ble_eq_true rfl), (Nat.le_of_ble_eq_true rfl)⟩ w_3_68 w_3_69 (fun _ _ _ h => ((gx_sc 30 rfl rfl) _ _ _ h).1) [] [0, 1] rfl rfl rfl rfl (by decide) (Nat.le_of_ble_eq_true rfl) (Nat.le_of_ble_eq_true rfl) (Nat.le_of_ble_eq_true rfl) (fun r w hp => ?_) (fun _ _ _ z => z.elim)
  obtain ⟨o10448, rfl, rfl, bo10448⟩ := hp
  change G _ _ _ _ _ _ _ (.int o10448 :: _) _ _ _
  refine G_ws (ws' := [(q10438, .inr (9, [.ref q10439, .int o10444])), (q10439, .inl (I .byte, 16384, .inl f10445))]) (cs' := 0) (sl' := 0) rfl rfl rfl ?_
  refine G_callV (As := [.int o10448]) (wr := []) (gV_ok D I) (ct_7602_Listing_addByte l hl0 D I q10438 q10439 o10448 o10444 f10445 bo10448 (gB_w bo10444 (by decide) (by decide)) bf10445) d_cX4_addOp_15 ⟨w_6_171, w_1_13, w_6_174, by decide, rfl, (Nat.le_of_ble_eq_true rfl), (Nat.le_of_ble_eq_true rfl)⟩ w_6_173 w_p_66 0 rfl rfl [0, 1] [] rfl rfl rfl rfl (by decide) (Nat.le_of_ble_eq_true rfl) (Nat.le_of_ble_eq_true rfl) (Nat.le_of_ble_eq_true rfl) (fun r w hp => ?_) (fun _ _ _ z => z.elim)
  obtain ⟨o10449, f10450, rfl, rfl, bo10449, bf10450⟩ := hp
  change G _ _ _ _ _ _ _ _ _ _ _
  refine G_ws (ws' := [(q10438, .inr (9, [.ref q10439, .int o10449])), (q10439, .inl (I .byte, 16384, .inl f10450))]) (cs' := 0) (sl' := 0) rfl rfl rfl ?_
  refine G_ldcK (a := D.2 1000 30) d_cX4_addOp_18 (fun _ _ _ h => gx_vk 30 rfl rfl h) ?_
  have hl30_10450 : (sb_30.length : Int) = 28 := rfl
  refine G_iconst 2 d_cX4_addOp_20 (by decide +kernel) ?_
  refine G_iload_n 1 d_cX4_addOp_21 rfl ?_
  refine G_imul d_cX4_addOp_22 (G_nam fun z10452 hz10452 => ?_)
  have ez10452 : z10452.toInt = 2 * p10440.toInt := by rw [gI_mul hz10452 (gBl (show Int32.toInt 2 = 2 by decide)) bp10440 (by decide) (by decide) (by decide), show Int32.toInt 2 = 2 from by decide]
  have bz10452 : gB z10452 0 26 := gB_mul hz10452 (gBl (show Int32.toInt 2 = 2 by decide)) bp10440 (by decide) (by decide) (by decide) (by decide)
  refine G_iconst 1 d_cX4_addOp_23 (by decide +kernel) ?_
  refine G_iadd d_cX4_addOp_24 (G_nam fun z10453 hz10453 => ?_)
  have ez10453 : z10453.toInt = z10452.toInt + 1 := by rw [gI_add hz10453 bz10452 (gBl (show Int32.toInt 1 = 1 by decide)) (by decide) (by decide), show Int32.toInt 1 = 1 from by decide]
  have bz10453 : gB z10453 1 27 := gB_add (gI_add hz10453 bz10452 (gBl (show Int32.toInt 1 = 1 by decide)) (by decide) (by decide)) bz10452 (gBl (show Int32.toInt 1 = 1 by decide)) (by decide) (by decide)
  refine G_callVk (As := [.int z10453]) (wr := [(q10438, .inr (9, [.ref q10439, .int o10449])), (q10439, .inl (I .byte, 16384, .inl f10450))]) (gV_ok D I) (ct_3858_String_charAt l hl0 D I (D.2 1000 30) (D.2 1001 30) sb_30 z10453 (gx_sc 30 rfl rfl) (by omega) (by omega) (by omega)) d_cX4_addOp_25 ⟨w_6_170, w_1_21, w_3_70, by decide, rfl, (Nat.le_of_ble_eq_true rfl), (Nat.le_of_ble_eq_true rfl)⟩ w_3_68 w_3_69 (fun _ _ _ h => ((gx_sc 30 rfl rfl) _ _ _ h).1) [] [0, 1] rfl rfl rfl rfl (by decide) (Nat.le_of_ble_eq_true rfl) (Nat.le_of_ble_eq_true rfl) (Nat.le_of_ble_eq_true rfl) (fun r w hp => ?_) (fun _ _ _ z => z.elim)
  obtain ⟨o10454, rfl, rfl, bo10454⟩ := hp
  change G _ _ _ _ _ _ _ (.int o10454 :: _) _ _ _
  refine G_ws (ws' := [(q10438, .inr (9, [.ref q10439, .int o10449])), (q10439, .inl (I .byte, 16384, .inl f10450))]) (cs' := 0) (sl' := 0) rfl rfl rfl ?_
  refine G_bipush 32 d_cX4_addOp_28 (by decide +kernel) ?_
  refine G_icmp_eq 47 d_cX4_addOp_30 (by decide +kernel) (fun hc10455 => ?_) (fun hc10455 => ?_)
  · have r10456 : o10454.toInt = 32 := gj_eq hc10455 (show Int32.toInt 32 = 32 by decide)
    have bo10454' : gB o10454 32 32 := ⟨by omega, by omega⟩
    refine G_aload_n 0 d_cX4_addOp_47 rfl ?_
    refine G_bipush 32 d_cX4_addOp_48 (by decide +kernel) ?_
    refine G_callV (As := [.int 32]) (wr := []) (gV_ok D I) (ct_7602_Listing_addByte l hl0 D I q10438 q10439 32 o10449 f10450 (gB_w (gBl (show Int32.toInt 32 = 32 by decide)) (by decide) (by decide)) (gB_w bo10449 (by decide) (by decide)) bf10450) d_cX4_addOp_50 ⟨w_6_171, w_1_13, w_6_174, by decide, rfl, (Nat.le_of_ble_eq_true rfl), (Nat.le_of_ble_eq_true rfl)⟩ w_6_173 w_p_66 0 rfl rfl [0, 1] [] rfl rfl rfl rfl (by decide) (Nat.le_of_ble_eq_true rfl) (Nat.le_of_ble_eq_true rfl) (Nat.le_of_ble_eq_true rfl) (fun r w hp => ?_) (fun _ _ _ z => z.elim)
    obtain ⟨o10457, f10458, rfl, rfl, bo10457, bf10458⟩ := hp
    change G _ _ _ _ _ _ _ _ _ _ _
    refine G_ws (ws' := [(q10438, .inr (9, [.ref q10439, .int o10457])), (q10439, .inl (I .byte, 16384, .inl f10458))]) (cs' := 0) (sl' := 0) rfl rfl rfl ?_
    exact G_vret d_cX4_addOp_53 rfl (Nat.le_of_ble_eq_true rfl) (Nat.le_of_ble_eq_true rfl) ⟨o10457, f10458, rfl, rfl, bo10457, bf10458⟩
  · have r10459 : o10454.toInt ≠ 32 := gj_neq hc10455 (show Int32.toInt 32 = 32 by decide)
    refine G_aload_n 0 d_cX4_addOp_33 rfl ?_
    refine G_ldcK (a := D.2 1000 30) d_cX4_addOp_34 (fun _ _ _ h => gx_vk 30 rfl rfl h) ?_
    have hl30_10459 : (sb_30.length : Int) = 28 := rfl
    refine G_iconst 2 d_cX4_addOp_36 (by decide +kernel) ?_
    refine G_iload_n 1 d_cX4_addOp_37 rfl ?_
    refine G_imul d_cX4_addOp_38 (G_nam fun z10461 hz10461 => ?_)
    have ez10461 : z10461.toInt = 2 * p10440.toInt := by rw [gI_mul hz10461 (gBl (show Int32.toInt 2 = 2 by decide)) bp10440 (by decide) (by decide) (by decide), show Int32.toInt 2 = 2 from by decide]
    have bz10461 : gB z10461 0 26 := gB_mul hz10461 (gBl (show Int32.toInt 2 = 2 by decide)) bp10440 (by decide) (by decide) (by decide) (by decide)
    refine G_iconst 1 d_cX4_addOp_39 (by decide +kernel) ?_
    refine G_iadd d_cX4_addOp_40 (G_nam fun z10462 hz10462 => ?_)
    have ez10462 : z10462.toInt = z10461.toInt + 1 := by rw [gI_add hz10462 bz10461 (gBl (show Int32.toInt 1 = 1 by decide)) (by decide) (by decide), show Int32.toInt 1 = 1 from by decide]
    have bz10462 : gB z10462 1 27 := gB_add (gI_add hz10462 bz10461 (gBl (show Int32.toInt 1 = 1 by decide)) (by decide) (by decide)) bz10461 (gBl (show Int32.toInt 1 = 1 by decide)) (by decide) (by decide)
    refine G_callVk (As := [.int z10462]) (wr := [(q10438, .inr (9, [.ref q10439, .int o10449])), (q10439, .inl (I .byte, 16384, .inl f10450))]) (gV_ok D I) (ct_3858_String_charAt l hl0 D I (D.2 1000 30) (D.2 1001 30) sb_30 z10462 (gx_sc 30 rfl rfl) (by omega) (by omega) (by omega)) d_cX4_addOp_41 ⟨w_6_170, w_1_21, w_3_70, by decide, rfl, (Nat.le_of_ble_eq_true rfl), (Nat.le_of_ble_eq_true rfl)⟩ w_3_68 w_3_69 (fun _ _ _ h => ((gx_sc 30 rfl rfl) _ _ _ h).1) [] [0, 1] rfl rfl rfl rfl (by decide) (Nat.le_of_ble_eq_true rfl) (Nat.le_of_ble_eq_true rfl) (Nat.le_of_ble_eq_true rfl) (fun r w hp => ?_) (fun _ _ _ z => z.elim)
    obtain ⟨o10463, rfl, rfl, bo10463⟩ := hp
    change G _ _ _ _ _ _ _ (.int o10463 :: _) _ _ _
    refine G_ws (ws' := [(q10438, .inr (9, [.ref q10439, .int o10449])), (q10439, .inl (I .byte, 16384, .inl f10450))]) (cs' := 0) (sl' := 0) rfl rfl rfl ?_
    refine G_callV (As := [.int o10463]) (wr := []) (gV_ok D I) (ct_7602_Listing_addByte l hl0 D I q10438 q10439 o10463 o10449 f10450 bo10463 (gB_w bo10449 (by decide) (by decide)) bf10450) d_cX4_addOp_44 ⟨w_6_171, w_1_13, w_6_174, by decide, rfl, (Nat.le_of_ble_eq_true rfl), (Nat.le_of_ble_eq_true rfl)⟩ w_6_173 w_p_66 0 rfl rfl [0, 1] [] rfl rfl rfl rfl (by decide) (Nat.le_of_ble_eq_true rfl) (Nat.le_of_ble_eq_true rfl) (Nat.le_of_ble_eq_true rfl) (fun r w hp => ?_) (fun _ _ _ z => z.elim)
    obtain ⟨o10464, f10465, rfl, rfl, bo10464, bf10465⟩ := hp
    change G _ _ _ _ _ _ _ _ _ _ _
    refine G_ws (ws' := [(q10438, .inr (9, [.ref q10439, .int o10464])), (q10439, .inl (I .byte, 16384, .inl f10465))]) (cs' := 0) (sl' := 0) rfl rfl rfl ?_
    refine G_aload_n 0 d_cX4_addOp_47 rfl ?_
    refine G_bipush 32 d_cX4_addOp_48 (by decide +kernel) ?_
    refine G_callV (As := [.int 32]) (wr := []) (gV_ok D I) (ct_7602_Listing_addByte l hl0 D I q10438 q10439 32 o10464 f10465 (gB_w (gBl (show Int32.toInt 32 = 32 by decide)) (by decide) (by decide)) (gB_w bo10464 (by decide) (by decide)) bf10465) d_cX4_addOp_50 ⟨w_6_171, w_1_13, w_6_174, by decide, rfl, (Nat.le_of_ble_eq_true rfl), (Nat.le_of_ble_eq_true rfl)⟩ w_6_173 w_p_66 0 rfl rfl [0, 1] [] rfl rfl rfl rfl (by decide) (Nat.le_of_ble_eq_true rfl) (Nat.le_of_ble_eq_true rfl) (Nat.le_of_ble_eq_true rfl) (fun r w hp => ?_) (fun _ _ _ z => z.elim)
    obtain ⟨o10466, f10467, rfl, rfl, bo10466, bf10467⟩ := hp
    change G _ _ _ _ _ _ _ _ _ _ _
    refine G_ws (ws' := [(q10438, .inr (9, [.ref q10439, .int o10466])), (q10439, .inl (I .byte, 16384, .inl f10467))]) (cs' := 0) (sl' := 0) rfl rfl rfl ?_
    exact G_vret d_cX4_addOp_53 rfl (Nat.le_of_ble_eq_true rfl) (Nat.le_of_ble_eq_true rfl) ⟨o10466, f10467, rfl, rfl, bo10466, bf10467⟩
abbrev ky_10408_Listing_addSource : gKey := (cX4_addSource, 3, yX4_addSource.cls, none, [], yX4_addSource.name, fun _ _ => True)
abbrev po_10408_Listing_addSource (I : FieldType → ClassId) (q10381 : Nat) (q10382 : Nat) (q10383 : Nat) (q10384 : Nat) (q10385 : Nat) (q10386 : Nat) (q10387 : Nat) (q10388 : Nat) (q10389 : Nat) (q10390 : Nat) (q10391 : Nat) (q10392 : Nat) (p10393 : Int32) (p10394 : Int32) (p10395 : Int32) (p10396 : Int32) (p10397 : Int32) (f10398 : Nat → Int32) (f10399 : Nat → Int32) (f10400 : Nat → Int32) (f10401 : Nat → Int32) (f10402 : Nat → Int32) (f10403 : Nat → Int32) (f10404 : Nat → Int32) (f10405 : Nat → Int32) (f10406 : Nat → Int32) (f10407 : Nat → Int32) : Option Value → va_W → Prop := fun r w => ∃ (o10485 : Int32) (f10486 : Nat → Int32), r = none ∧ w = [(q10381, .inr (9, [.ref q10383, .int o10485])), (q10382, .inr (5, [.ref q10384, .ref q10385, .ref q10386, .ref q10387, .ref q10388, .ref q10389, .ref q10390, .ref q10391, .ref q10392, .int p10395, .int p10396, .int p10397])), (q10383, .inl (I .byte, 16384, .inl f10486)), (q10384, .inl (I .int, 40, .inl f10399)), (q10385, .inl (I .int, 40, .inl f10400)), (q10386, .inl (I .int, 40, .inl f10401)), (q10387, .inl (I .int, 200, .inl f10402)), (q10388, .inl (I .int, 200, .inl f10403)), (q10389, .inl (I .int, 200, .inl f10404)), (q10390, .inl (I .int, 200, .inl f10405)), (q10391, .inl (I .int, 200, .inl f10406)), (q10392, .inl (I .int, 200, .inl f10407))] ∧ gB o10485 0 16384 ∧ gF f10486 (-128) 127
set_option maxRecDepth 100000 in
set_option maxHeartbeats 4000000 in
theorem ct_10408_Listing_addSource (l : Launch) (hl0 : l.stackTraces = false) (D : va_G) (I : FieldType → ClassId) (q10381 : Nat) (q10382 : Nat) (q10383 : Nat) (q10384 : Nat) (q10385 : Nat) (q10386 : Nat) (q10387 : Nat) (q10388 : Nat) (q10389 : Nat) (q10390 : Nat) (q10391 : Nat) (q10392 : Nat) (p10393 : Int32) (p10394 : Int32) (p10395 : Int32) (p10396 : Int32) (p10397 : Int32) (f10398 : Nat → Int32) (f10399 : Nat → Int32) (f10400 : Nat → Int32) (f10401 : Nat → Int32) (f10402 : Nat → Int32) (f10403 : Nat → Int32) (f10404 : Nat → Int32) (f10405 : Nat → Int32) (f10406 : Nat → Int32) (f10407 : Nat → Int32) (bp10393 : gB p10393 0 199) (bp10394 : gB p10394 0 16384) (bp10395 : gB p10395 0 40) (bp10396 : gB p10396 0 200) (bp10397 : gB p10397 0 1) (bf10398 : gF f10398 (-128) 127) (bf10399 : gF f10399 0 200) (bf10402 : gF f10402 0 21) : Ct (gV D I) l yX4_addSource cX4_addSource 3 none 7 151 0 0 [.ref q10381, .ref q10382, .int p10393] [(q10381, .inr (9, [.ref q10383, .int p10394])), (q10382, .inr (5, [.ref q10384, .ref q10385, .ref q10386, .ref q10387, .ref q10388, .ref q10389, .ref q10390, .ref q10391, .ref q10392, .int p10395, .int p10396, .int p10397])), (q10383, .inl (I .byte, 16384, .inl f10398)), (q10384, .inl (I .int, 40, .inl f10399)), (q10385, .inl (I .int, 40, .inl f10400)), (q10386, .inl (I .int, 40, .inl f10401)), (q10387, .inl (I .int, 200, .inl f10402)), (q10388, .inl (I .int, 200, .inl f10403)), (q10389, .inl (I .int, 200, .inl f10404)), (q10390, .inl (I .int, 200, .inl f10405)), (q10391, .inl (I .int, 200, .inl f10406)), (q10392, .inl (I .int, 200, .inl f10407))] (po_10408_Listing_addSource I q10381 q10382 q10383 q10384 q10385 q10386 q10387 q10388 q10389 q10390 q10391 q10392 p10393 p10394 p10395 p10396 p10397 f10398 f10399 f10400 f10401 f10402 f10403 f10404 f10405 f10406 f10407) gN := by
  refine Ct_of hl0 (by decide) (Nat.le_of_ble_eq_true rfl) ?_
  refine G_aload_n 1 d_cX4_addSource_0 rfl ?_
  refine G_getfN 1 3 d_cX4_addSource_1 rfl (gk_X0 D I) (Nat.le_of_ble_eq_true rfl) (fun _ _ _ h => gn_w 15 rfl h) rfl ?_
  refine G_iload_n 2 d_cX4_addSource_4 rfl ?_
  refine G_iald 6 0 d_cX4_addSource_5 rfl rfl (gB_in bp10393 (by decide) (by decide)) (G_nam fun z10409 hz10409 => ?_)
  have bz10409 : gB z10409 0 21 := by rw [hz10409]; exact bf10402 _
  refine G_bipush 15 d_cX4_addSource_6 (by decide +kernel) ?_
  refine G_icmp_ne 20 d_cX4_addSource_8 (by decide +kernel) (fun hc10410 => ?_) (fun hc10410 => ?_)
  · have r10411 : z10409.toInt ≠ 15 := gj_neq hc10410 (show Int32.toInt 15 = 15 by decide)
    refine G_aload_n 1 d_cX4_addSource_20 rfl ?_
    refine G_getfN 1 3 d_cX4_addSource_21 rfl (gk_X0 D I) (Nat.le_of_ble_eq_true rfl) (fun _ _ _ h => gn_w 15 rfl h) rfl ?_
    refine G_iload_n 2 d_cX4_addSource_24 rfl ?_
    refine G_iald 6 0 d_cX4_addSource_25 rfl rfl (gB_in bp10393 (by decide) (by decide)) (G_eqi (y := z10409) hz10409.symm ?_)
    refine G_bipush 17 d_cX4_addSource_26 (by decide +kernel) ?_
    refine G_icmp_ne 46 d_cX4_addSource_28 (by decide +kernel) (fun hc10412 => ?_) (fun hc10412 => ?_)
    · have r10413 : z10409.toInt ≠ 17 := gj_neq hc10412 (show Int32.toInt 17 = 17 by decide)
      refine G_aload_n 0 d_cX4_addSource_46 rfl ?_
      refine G_aload_n 1 d_cX4_addSource_47 rfl ?_
      refine G_getfN 1 5 d_cX4_addSource_48 rfl (gk_X0 D I) (Nat.le_of_ble_eq_true rfl) (fun _ _ _ h => gn_w 23 rfl h) rfl ?_
      refine G_iload_n 2 d_cX4_addSource_51 rfl ?_
      refine G_iald 8 0 d_cX4_addSource_52 rfl rfl (gB_in bp10393 (by decide) (by decide)) (G_nam fun z10414 hz10414 => ?_)
      have bz10414 : gB z10414 (-2147483648) 2147483647 := gB_any z10414
      refine G_aload_n 1 d_cX4_addSource_53 rfl ?_
      refine G_getfN 1 6 d_cX4_addSource_54 rfl (gk_X0 D I) (Nat.le_of_ble_eq_true rfl) (fun _ _ _ h => gn_w 27 rfl h) rfl ?_
      refine G_iload_n 2 d_cX4_addSource_57 rfl ?_
      refine G_iald 9 0 d_cX4_addSource_58 rfl rfl (gB_in bp10393 (by decide) (by decide)) (G_nam fun z10415 hz10415 => ?_)
      have bz10415 : gB z10415 (-2147483648) 2147483647 := gB_any z10415
      refine G_callV (As := [.int z10414, .int z10415]) (wr := [(q10382, .inr (5, [.ref q10384, .ref q10385, .ref q10386, .ref q10387, .ref q10388, .ref q10389, .ref q10390, .ref q10391, .ref q10392, .int p10395, .int p10396, .int p10397])), (q10384, .inl (I .int, 40, .inl f10399)), (q10385, .inl (I .int, 40, .inl f10400)), (q10386, .inl (I .int, 40, .inl f10401)), (q10387, .inl (I .int, 200, .inl f10402)), (q10388, .inl (I .int, 200, .inl f10403)), (q10389, .inl (I .int, 200, .inl f10404)), (q10390, .inl (I .int, 200, .inl f10405)), (q10391, .inl (I .int, 200, .inl f10406)), (q10392, .inl (I .int, 200, .inl f10407))]) (gV_ok D I) (ct_10422_Listing_addOperand l hl0 D I q10381 q10383 z10414 z10415 p10394 f10398 bp10394 bf10398) d_cX4_addSource_59 ⟨w_6_191, w_1_13, w_6_194, by decide, rfl, (Nat.le_of_ble_eq_true rfl), (Nat.le_of_ble_eq_true rfl)⟩ w_6_193 w_p_69 0 rfl rfl [0, 2] [1, 3, 4, 5, 6, 7, 8, 9, 10, 11] rfl rfl rfl rfl (by decide) (Nat.le_of_ble_eq_true rfl) (Nat.le_of_ble_eq_true rfl) (Nat.le_of_ble_eq_true rfl) (fun r w hp => ?_) (fun _ _ _ z => z.elim)
      obtain ⟨o10433, f10434, rfl, rfl, bo10433, bf10434⟩ := hp
      change G _ _ _ _ _ _ _ _ _ _ _
      refine G_ws (ws' := [(q10382, .inr (5, [.ref q10384, .ref q10385, .ref q10386, .ref q10387, .ref q10388, .ref q10389, .ref q10390, .ref q10391, .ref q10392, .int p10395, .int p10396, .int p10397])), (q10384, .inl (I .int, 40, .inl f10399)), (q10385, .inl (I .int, 40, .inl f10400)), (q10386, .inl (I .int, 40, .inl f10401)), (q10387, .inl (I .int, 200, .inl f10402)), (q10388, .inl (I .int, 200, .inl f10403)), (q10389, .inl (I .int, 200, .inl f10404)), (q10390, .inl (I .int, 200, .inl f10405)), (q10391, .inl (I .int, 200, .inl f10406)), (q10392, .inl (I .int, 200, .inl f10407)), (q10381, .inr (9, [.ref q10383, .int o10433])), (q10383, .inl (I .byte, 16384, .inl f10434))]) (cs' := 0) (sl' := 0) rfl rfl rfl ?_
      refine G_aload_n 1 d_cX4_addSource_62 rfl ?_
      refine G_getfN 0 3 d_cX4_addSource_63 rfl (gk_X0 D I) (Nat.le_of_ble_eq_true rfl) (fun _ _ _ h => gn_w 15 rfl h) rfl ?_
      refine G_iload_n 2 d_cX4_addSource_66 rfl ?_
      refine G_iald 4 0 d_cX4_addSource_67 rfl rfl (gB_in bp10393 (by decide) (by decide)) (G_eqi (y := z10409) hz10409.symm ?_)
      refine G_bipush 14 d_cX4_addSource_68 (by decide +kernel) ?_
      refine G_icmp_ge 99 d_cX4_addSource_70 (by decide +kernel) (fun hc10435 => ?_) (fun hc10435 => ?_)
      · have r10436 : 14 ≤ z10409.toInt := gj_leL hc10435 (show Int32.toInt 14 = 14 by decide)
        have bz10409' : gB z10409 14 21 := ⟨by omega, by omega⟩
        refine G_sub (ws' := [(q10381, .inr (9, [.ref q10383, .int o10433])), (q10382, .inr (5, [.ref q10384, .ref q10385, .ref q10386, .ref q10387, .ref q10388, .ref q10389, .ref q10390, .ref q10391, .ref q10392, .int p10395, .int p10396, .int p10397])), (q10383, .inl (I .byte, 16384, .inl f10434)), (q10384, .inl (I .int, 40, .inl f10399)), (q10385, .inl (I .int, 40, .inl f10400)), (q10386, .inl (I .int, 40, .inl f10401)), (q10387, .inl (I .int, 200, .inl f10402)), (q10388, .inl (I .int, 200, .inl f10403)), (q10389, .inl (I .int, 200, .inl f10404)), (q10390, .inl (I .int, 200, .inl f10405)), (q10391, .inl (I .int, 200, .inl f10406)), (q10392, .inl (I .int, 200, .inl f10407))]) [10, 0, 11, 1, 2, 3, 4, 5, 6, 7, 8, 9] rfl rfl ?_
        exact G_vret d_cX4_addSource_99 rfl (Nat.le_of_ble_eq_true rfl) (Nat.le_of_ble_eq_true rfl) ⟨o10433, f10434, rfl, rfl, bo10433, bf10434⟩
      · have r10437 : z10409.toInt < 14 := gj_nleL hc10435 (show Int32.toInt 14 = 14 by decide)
        have bz10409' : gB z10409 0 13 := ⟨by omega, by omega⟩
        refine G_aload_n 0 d_cX4_addSource_73 rfl ?_
        refine G_aload_n 1 d_cX4_addSource_74 rfl ?_
        refine G_getfN 0 3 d_cX4_addSource_75 rfl (gk_X0 D I) (Nat.le_of_ble_eq_true rfl) (fun _ _ _ h => gn_w 15 rfl h) rfl ?_
        refine G_iload_n 2 d_cX4_addSource_78 rfl ?_
        refine G_iald 4 0 d_cX4_addSource_79 rfl rfl (gB_in bp10393 (by decide) (by decide)) (G_eqi (y := z10409) hz10409.symm ?_)
        refine G_callV (As := [.int z10409]) (wr := [(q10382, .inr (5, [.ref q10384, .ref q10385, .ref q10386, .ref q10387, .ref q10388, .ref q10389, .ref q10390, .ref q10391, .ref q10392, .int p10395, .int p10396, .int p10397])), (q10384, .inl (I .int, 40, .inl f10399)), (q10385, .inl (I .int, 40, .inl f10400)), (q10386, .inl (I .int, 40, .inl f10401)), (q10387, .inl (I .int, 200, .inl f10402)), (q10388, .inl (I .int, 200, .inl f10403)), (q10389, .inl (I .int, 200, .inl f10404)), (q10390, .inl (I .int, 200, .inl f10405)), (q10391, .inl (I .int, 200, .inl f10406)), (q10392, .inl (I .int, 200, .inl f10407))]) (gV_ok D I) (ct_10443_Listing_addOp l hl0 D I q10381 q10383 z10409 o10433 f10434 bz10409' bo10433 bf10434) d_cX4_addSource_80 ⟨w_6_212, w_1_13, w_6_215, by decide, rfl, (Nat.le_of_ble_eq_true rfl), (Nat.le_of_ble_eq_true rfl)⟩ w_6_214 w_p_72 10 rfl rfl [10, 11] [0, 1, 2, 3, 4, 5, 6, 7, 8, 9] rfl rfl rfl rfl (by decide) (Nat.le_of_ble_eq_true rfl) (Nat.le_of_ble_eq_true rfl) (Nat.le_of_ble_eq_true rfl) (fun r w hp => ?_) (fun _ _ _ z => z.elim)
        obtain ⟨o10470, f10471, rfl, rfl, bo10470, bf10471⟩ := hp
        change G _ _ _ _ _ _ _ _ _ _ _
        refine G_ws (ws' := [(q10382, .inr (5, [.ref q10384, .ref q10385, .ref q10386, .ref q10387, .ref q10388, .ref q10389, .ref q10390, .ref q10391, .ref q10392, .int p10395, .int p10396, .int p10397])), (q10384, .inl (I .int, 40, .inl f10399)), (q10385, .inl (I .int, 40, .inl f10400)), (q10386, .inl (I .int, 40, .inl f10401)), (q10387, .inl (I .int, 200, .inl f10402)), (q10388, .inl (I .int, 200, .inl f10403)), (q10389, .inl (I .int, 200, .inl f10404)), (q10390, .inl (I .int, 200, .inl f10405)), (q10391, .inl (I .int, 200, .inl f10406)), (q10392, .inl (I .int, 200, .inl f10407)), (q10381, .inr (9, [.ref q10383, .int o10470])), (q10383, .inl (I .byte, 16384, .inl f10471))]) (cs' := 0) (sl' := 0) rfl rfl rfl ?_
        refine G_aload_n 0 d_cX4_addSource_83 rfl ?_
        refine G_aload_n 1 d_cX4_addSource_84 rfl ?_
        refine G_getfN 0 7 d_cX4_addSource_85 rfl (gk_X0 D I) (Nat.le_of_ble_eq_true rfl) (fun _ _ _ h => gn_w 31 rfl h) rfl ?_
        refine G_iload_n 2 d_cX4_addSource_88 rfl ?_
        refine G_iald 8 0 d_cX4_addSource_89 rfl rfl (gB_in bp10393 (by decide) (by decide)) (G_nam fun z10472 hz10472 => ?_)
        have bz10472 : gB z10472 (-2147483648) 2147483647 := gB_any z10472
        refine G_aload_n 1 d_cX4_addSource_90 rfl ?_
        refine G_getfN 0 8 d_cX4_addSource_91 rfl (gk_X0 D I) (Nat.le_of_ble_eq_true rfl) (fun _ _ _ h => gn_w 34 rfl h) rfl ?_
        refine G_iload_n 2 d_cX4_addSource_94 rfl ?_
        refine G_iald 9 0 d_cX4_addSource_95 rfl rfl (gB_in bp10393 (by decide) (by decide)) (G_nam fun z10473 hz10473 => ?_)
        have bz10473 : gB z10473 (-2147483648) 2147483647 := gB_any z10473
        refine G_callV (As := [.int z10472, .int z10473]) (wr := [(q10382, .inr (5, [.ref q10384, .ref q10385, .ref q10386, .ref q10387, .ref q10388, .ref q10389, .ref q10390, .ref q10391, .ref q10392, .int p10395, .int p10396, .int p10397])), (q10384, .inl (I .int, 40, .inl f10399)), (q10385, .inl (I .int, 40, .inl f10400)), (q10386, .inl (I .int, 40, .inl f10401)), (q10387, .inl (I .int, 200, .inl f10402)), (q10388, .inl (I .int, 200, .inl f10403)), (q10389, .inl (I .int, 200, .inl f10404)), (q10390, .inl (I .int, 200, .inl f10405)), (q10391, .inl (I .int, 200, .inl f10406)), (q10392, .inl (I .int, 200, .inl f10407))]) (gV_ok D I) (ct_10422_Listing_addOperand l hl0 D I q10381 q10383 z10472 z10473 o10470 f10471 (gB_w bo10470 (by decide) (by decide)) bf10471) d_cX4_addSource_96 ⟨w_6_191, w_1_13, w_6_194, by decide, rfl, (Nat.le_of_ble_eq_true rfl), (Nat.le_of_ble_eq_true rfl)⟩ w_6_193 w_p_69 10 rfl rfl [10, 11] [0, 1, 2, 3, 4, 5, 6, 7, 8, 9] rfl rfl rfl rfl (by decide) (Nat.le_of_ble_eq_true rfl) (Nat.le_of_ble_eq_true rfl) (Nat.le_of_ble_eq_true rfl) (fun r w hp => ?_) (fun _ _ _ z => z.elim)
        obtain ⟨o10474, f10475, rfl, rfl, bo10474, bf10475⟩ := hp
        change G _ _ _ _ _ _ _ _ _ _ _
        refine G_ws (ws' := [(q10382, .inr (5, [.ref q10384, .ref q10385, .ref q10386, .ref q10387, .ref q10388, .ref q10389, .ref q10390, .ref q10391, .ref q10392, .int p10395, .int p10396, .int p10397])), (q10384, .inl (I .int, 40, .inl f10399)), (q10385, .inl (I .int, 40, .inl f10400)), (q10386, .inl (I .int, 40, .inl f10401)), (q10387, .inl (I .int, 200, .inl f10402)), (q10388, .inl (I .int, 200, .inl f10403)), (q10389, .inl (I .int, 200, .inl f10404)), (q10390, .inl (I .int, 200, .inl f10405)), (q10391, .inl (I .int, 200, .inl f10406)), (q10392, .inl (I .int, 200, .inl f10407)), (q10381, .inr (9, [.ref q10383, .int o10474])), (q10383, .inl (I .byte, 16384, .inl f10475))]) (cs' := 0) (sl' := 0) rfl rfl rfl ?_
        refine G_sub (ws' := [(q10381, .inr (9, [.ref q10383, .int o10474])), (q10382, .inr (5, [.ref q10384, .ref q10385, .ref q10386, .ref q10387, .ref q10388, .ref q10389, .ref q10390, .ref q10391, .ref q10392, .int p10395, .int p10396, .int p10397])), (q10383, .inl (I .byte, 16384, .inl f10475)), (q10384, .inl (I .int, 40, .inl f10399)), (q10385, .inl (I .int, 40, .inl f10400)), (q10386, .inl (I .int, 40, .inl f10401)), (q10387, .inl (I .int, 200, .inl f10402)), (q10388, .inl (I .int, 200, .inl f10403)), (q10389, .inl (I .int, 200, .inl f10404)), (q10390, .inl (I .int, 200, .inl f10405)), (q10391, .inl (I .int, 200, .inl f10406)), (q10392, .inl (I .int, 200, .inl f10407))]) [10, 0, 11, 1, 2, 3, 4, 5, 6, 7, 8, 9] rfl rfl ?_
        exact G_vret d_cX4_addSource_99 rfl (Nat.le_of_ble_eq_true rfl) (Nat.le_of_ble_eq_true rfl) ⟨o10474, f10475, rfl, rfl, bo10474, bf10475⟩
    · have r10476 : z10409.toInt = 17 := gj_eq hc10412 (show Int32.toInt 17 = 17 by decide)
      have bz10409' : gB z10409 17 17 := ⟨by omega, by omega⟩
      refine G_aload_n 0 d_cX4_addSource_31 rfl ?_
      refine G_ldcK (a := D.2 1000 26) d_cX4_addSource_32 (fun _ _ _ h => gx_vk 26 rfl rfl h) ?_
      have hl26_10476 : (sb_26.length : Int) = 5 := rfl
      refine G_aload_n 1 d_cX4_addSource_34 rfl ?_
      refine G_getfN 1 8 d_cX4_addSource_35 rfl (gk_X0 D I) (Nat.le_of_ble_eq_true rfl) (fun _ _ _ h => gn_w 34 rfl h) rfl ?_
      refine G_iload_n 2 d_cX4_addSource_38 rfl ?_
      refine G_iald 11 0 d_cX4_addSource_39 rfl rfl (gB_in bp10393 (by decide) (by decide)) (G_nam fun z10478 hz10478 => ?_)
      have bz10478 : gB z10478 (-2147483648) 2147483647 := gB_any z10478
      refine G_callV (As := [.ref (D.2 1000 26), .int z10478]) (wr := [(q10382, .inr (5, [.ref q10384, .ref q10385, .ref q10386, .ref q10387, .ref q10388, .ref q10389, .ref q10390, .ref q10391, .ref q10392, .int p10395, .int p10396, .int p10397])), (q10384, .inl (I .int, 40, .inl f10399)), (q10385, .inl (I .int, 40, .inl f10400)), (q10386, .inl (I .int, 40, .inl f10401)), (q10387, .inl (I .int, 200, .inl f10402)), (q10388, .inl (I .int, 200, .inl f10403)), (q10389, .inl (I .int, 200, .inl f10404)), (q10390, .inl (I .int, 200, .inl f10405)), (q10391, .inl (I .int, 200, .inl f10406)), (q10392, .inl (I .int, 200, .inl f10407))]) (gV_ok D I) (ct_7582_Listing_addNamed l hl0 D I q10381 q10383 (D.2 1000 26) (D.2 1001 26) sb_26 z10478 p10394 f10398 (gx_sc 26 rfl rfl) (by omega) bp10394 bf10398) d_cX4_addSource_40 ⟨w_6_161, w_1_13, w_6_164, by decide, rfl, (Nat.le_of_ble_eq_true rfl), (Nat.le_of_ble_eq_true rfl)⟩ w_6_163 w_p_64 0 rfl rfl [0, 2] [1, 3, 4, 5, 6, 7, 8, 9, 10, 11] rfl rfl rfl rfl (by decide) (Nat.le_of_ble_eq_true rfl) (Nat.le_of_ble_eq_true rfl) (Nat.le_of_ble_eq_true rfl) (fun r w hp => ?_) (fun _ _ _ z => z.elim)
      obtain ⟨o10479, f10480, rfl, rfl, bo10479, bf10480⟩ := hp
      change G _ _ _ _ _ _ _ _ _ _ _
      refine G_ws (ws' := [(q10382, .inr (5, [.ref q10384, .ref q10385, .ref q10386, .ref q10387, .ref q10388, .ref q10389, .ref q10390, .ref q10391, .ref q10392, .int p10395, .int p10396, .int p10397])), (q10384, .inl (I .int, 40, .inl f10399)), (q10385, .inl (I .int, 40, .inl f10400)), (q10386, .inl (I .int, 40, .inl f10401)), (q10387, .inl (I .int, 200, .inl f10402)), (q10388, .inl (I .int, 200, .inl f10403)), (q10389, .inl (I .int, 200, .inl f10404)), (q10390, .inl (I .int, 200, .inl f10405)), (q10391, .inl (I .int, 200, .inl f10406)), (q10392, .inl (I .int, 200, .inl f10407)), (q10381, .inr (9, [.ref q10383, .int o10479])), (q10383, .inl (I .byte, 16384, .inl f10480))]) (cs' := 0) (sl' := 0) rfl rfl rfl ?_
      refine G_goto 99 d_cX4_addSource_43 (by decide +kernel) ?_
      refine G_sub (ws' := [(q10381, .inr (9, [.ref q10383, .int o10479])), (q10382, .inr (5, [.ref q10384, .ref q10385, .ref q10386, .ref q10387, .ref q10388, .ref q10389, .ref q10390, .ref q10391, .ref q10392, .int p10395, .int p10396, .int p10397])), (q10383, .inl (I .byte, 16384, .inl f10480)), (q10384, .inl (I .int, 40, .inl f10399)), (q10385, .inl (I .int, 40, .inl f10400)), (q10386, .inl (I .int, 40, .inl f10401)), (q10387, .inl (I .int, 200, .inl f10402)), (q10388, .inl (I .int, 200, .inl f10403)), (q10389, .inl (I .int, 200, .inl f10404)), (q10390, .inl (I .int, 200, .inl f10405)), (q10391, .inl (I .int, 200, .inl f10406)), (q10392, .inl (I .int, 200, .inl f10407))]) [10, 0, 11, 1, 2, 3, 4, 5, 6, 7, 8, 9] rfl rfl ?_
      exact G_vret d_cX4_addSource_99 rfl (Nat.le_of_ble_eq_true rfl) (Nat.le_of_ble_eq_true rfl) ⟨o10479, f10480, rfl, rfl, bo10479, bf10480⟩
  · have r10481 : z10409.toInt = 15 := gj_eq hc10410 (show Int32.toInt 15 = 15 by decide)
    have bz10409' : gB z10409 15 15 := ⟨by omega, by omega⟩
    refine G_aload_n 0 d_cX4_addSource_11 rfl ?_
    refine G_ldcK (a := D.2 1000 29) d_cX4_addSource_12 (fun _ _ _ h => gx_vk 29 rfl rfl h) ?_
    have hl29_10481 : (sb_29.length : Int) = 2 := rfl
    refine G_callV (As := [.ref (D.2 1000 29)]) (wr := [(q10382, .inr (5, [.ref q10384, .ref q10385, .ref q10386, .ref q10387, .ref q10388, .ref q10389, .ref q10390, .ref q10391, .ref q10392, .int p10395, .int p10396, .int p10397])), (q10384, .inl (I .int, 40, .inl f10399)), (q10385, .inl (I .int, 40, .inl f10400)), (q10386, .inl (I .int, 40, .inl f10401)), (q10387, .inl (I .int, 200, .inl f10402)), (q10388, .inl (I .int, 200, .inl f10403)), (q10389, .inl (I .int, 200, .inl f10404)), (q10390, .inl (I .int, 200, .inl f10405)), (q10391, .inl (I .int, 200, .inl f10406)), (q10392, .inl (I .int, 200, .inl f10407))]) (gV_ok D I) (ct_7590_Listing_addText l hl0 D I q10381 q10383 (D.2 1000 29) (D.2 1001 29) sb_29 p10394 f10398 (gx_sc 29 rfl rfl) (by omega) bp10394 bf10398) d_cX4_addSource_14 ⟨w_6_165, w_1_13, w_6_168, by decide, rfl, (Nat.le_of_ble_eq_true rfl), (Nat.le_of_ble_eq_true rfl)⟩ w_6_167 w_p_65 0 rfl rfl [0, 2] [1, 3, 4, 5, 6, 7, 8, 9, 10, 11] rfl rfl rfl rfl (by decide) (Nat.le_of_ble_eq_true rfl) (Nat.le_of_ble_eq_true rfl) (Nat.le_of_ble_eq_true rfl) (fun r w hp => ?_) (fun _ _ _ z => z.elim)
    obtain ⟨o10483, f10484, rfl, rfl, bo10483, bf10484⟩ := hp
    change G _ _ _ _ _ _ _ _ _ _ _
    refine G_ws (ws' := [(q10382, .inr (5, [.ref q10384, .ref q10385, .ref q10386, .ref q10387, .ref q10388, .ref q10389, .ref q10390, .ref q10391, .ref q10392, .int p10395, .int p10396, .int p10397])), (q10384, .inl (I .int, 40, .inl f10399)), (q10385, .inl (I .int, 40, .inl f10400)), (q10386, .inl (I .int, 40, .inl f10401)), (q10387, .inl (I .int, 200, .inl f10402)), (q10388, .inl (I .int, 200, .inl f10403)), (q10389, .inl (I .int, 200, .inl f10404)), (q10390, .inl (I .int, 200, .inl f10405)), (q10391, .inl (I .int, 200, .inl f10406)), (q10392, .inl (I .int, 200, .inl f10407)), (q10381, .inr (9, [.ref q10383, .int o10483])), (q10383, .inl (I .byte, 16384, .inl f10484))]) (cs' := 0) (sl' := 0) rfl rfl rfl ?_
    refine G_goto 99 d_cX4_addSource_17 (by decide +kernel) ?_
    refine G_sub (ws' := [(q10381, .inr (9, [.ref q10383, .int o10483])), (q10382, .inr (5, [.ref q10384, .ref q10385, .ref q10386, .ref q10387, .ref q10388, .ref q10389, .ref q10390, .ref q10391, .ref q10392, .int p10395, .int p10396, .int p10397])), (q10383, .inl (I .byte, 16384, .inl f10484)), (q10384, .inl (I .int, 40, .inl f10399)), (q10385, .inl (I .int, 40, .inl f10400)), (q10386, .inl (I .int, 40, .inl f10401)), (q10387, .inl (I .int, 200, .inl f10402)), (q10388, .inl (I .int, 200, .inl f10403)), (q10389, .inl (I .int, 200, .inl f10404)), (q10390, .inl (I .int, 200, .inl f10405)), (q10391, .inl (I .int, 200, .inl f10406)), (q10392, .inl (I .int, 200, .inl f10407))]) [10, 0, 11, 1, 2, 3, 4, 5, 6, 7, 8, 9] rfl rfl ?_
    exact G_vret d_cX4_addSource_99 rfl (Nat.le_of_ble_eq_true rfl) (Nat.le_of_ble_eq_true rfl) ⟨o10483, f10484, rfl, rfl, bo10483, bf10484⟩
abbrev ky_10368_Listing_addRow : gKey := (cX4_addRow, 3, yX4_addRow.cls, none, [], yX4_addRow.name, fun _ _ => True)
abbrev po_10368_Listing_addRow (I : FieldType → ClassId) (q10341 : Nat) (q10342 : Nat) (q10343 : Nat) (q10344 : Nat) (q10345 : Nat) (q10346 : Nat) (q10347 : Nat) (q10348 : Nat) (q10349 : Nat) (q10350 : Nat) (q10351 : Nat) (q10352 : Nat) (p10353 : Int32) (p10354 : Int32) (p10355 : Int32) (p10356 : Int32) (p10357 : Int32) (f10358 : Nat → Int32) (f10359 : Nat → Int32) (f10360 : Nat → Int32) (f10361 : Nat → Int32) (f10362 : Nat → Int32) (f10363 : Nat → Int32) (f10364 : Nat → Int32) (f10365 : Nat → Int32) (f10366 : Nat → Int32) (f10367 : Nat → Int32) : Option Value → va_W → Prop := fun r w => ∃ (o10506 : Int32) (f10507 : Nat → Int32), r = none ∧ w = [(q10341, .inr (9, [.ref q10343, .int o10506])), (q10342, .inr (5, [.ref q10344, .ref q10345, .ref q10346, .ref q10347, .ref q10348, .ref q10349, .ref q10350, .ref q10351, .ref q10352, .int p10355, .int p10356, .int p10357])), (q10343, .inl (I .byte, 16384, .inl f10507)), (q10344, .inl (I .int, 40, .inl f10359)), (q10345, .inl (I .int, 40, .inl f10360)), (q10346, .inl (I .int, 40, .inl f10361)), (q10347, .inl (I .int, 200, .inl f10362)), (q10348, .inl (I .int, 200, .inl f10363)), (q10349, .inl (I .int, 200, .inl f10364)), (q10350, .inl (I .int, 200, .inl f10365)), (q10351, .inl (I .int, 200, .inl f10366)), (q10352, .inl (I .int, 200, .inl f10367))] ∧ gB o10506 0 16384 ∧ gF f10507 (-128) 127
set_option maxRecDepth 100000 in
set_option maxHeartbeats 4000000 in
theorem ct_10368_Listing_addRow (l : Launch) (hl0 : l.stackTraces = false) (D : va_G) (I : FieldType → ClassId) (q10341 : Nat) (q10342 : Nat) (q10343 : Nat) (q10344 : Nat) (q10345 : Nat) (q10346 : Nat) (q10347 : Nat) (q10348 : Nat) (q10349 : Nat) (q10350 : Nat) (q10351 : Nat) (q10352 : Nat) (p10353 : Int32) (p10354 : Int32) (p10355 : Int32) (p10356 : Int32) (p10357 : Int32) (f10358 : Nat → Int32) (f10359 : Nat → Int32) (f10360 : Nat → Int32) (f10361 : Nat → Int32) (f10362 : Nat → Int32) (f10363 : Nat → Int32) (f10364 : Nat → Int32) (f10365 : Nat → Int32) (f10366 : Nat → Int32) (f10367 : Nat → Int32) (bp10353 : gB p10353 0 199) (bp10354 : gB p10354 0 16384) (bp10355 : gB p10355 0 40) (bp10356 : gB p10356 0 200) (bp10357 : gB p10357 0 1) (bf10358 : gF f10358 (-128) 127) (bf10359 : gF f10359 0 200) (bf10362 : gF f10362 0 21) : Ct (gV D I) l yX4_addRow cX4_addRow 3 none 8 173 0 0 [.ref q10341, .ref q10342, .int p10353] [(q10341, .inr (9, [.ref q10343, .int p10354])), (q10342, .inr (5, [.ref q10344, .ref q10345, .ref q10346, .ref q10347, .ref q10348, .ref q10349, .ref q10350, .ref q10351, .ref q10352, .int p10355, .int p10356, .int p10357])), (q10343, .inl (I .byte, 16384, .inl f10358)), (q10344, .inl (I .int, 40, .inl f10359)), (q10345, .inl (I .int, 40, .inl f10360)), (q10346, .inl (I .int, 40, .inl f10361)), (q10347, .inl (I .int, 200, .inl f10362)), (q10348, .inl (I .int, 200, .inl f10363)), (q10349, .inl (I .int, 200, .inl f10364)), (q10350, .inl (I .int, 200, .inl f10365)), (q10351, .inl (I .int, 200, .inl f10366)), (q10352, .inl (I .int, 200, .inl f10367))] (po_10368_Listing_addRow I q10341 q10342 q10343 q10344 q10345 q10346 q10347 q10348 q10349 q10350 q10351 q10352 p10353 p10354 p10355 p10356 p10357 f10358 f10359 f10360 f10361 f10362 f10363 f10364 f10365 f10366 f10367) gN := by
  refine Ct_of hl0 (by decide) (Nat.le_of_ble_eq_true rfl) ?_
  refine G_aload_n 1 d_cX4_addRow_0 rfl ?_
  refine G_getfN 1 3 d_cX4_addRow_1 rfl (gk_X0 D I) (Nat.le_of_ble_eq_true rfl) (fun _ _ _ h => gn_w 15 rfl h) rfl ?_
  refine G_iload_n 2 d_cX4_addRow_4 rfl ?_
  refine G_iald 6 0 d_cX4_addRow_5 rfl rfl (gB_in bp10353 (by decide) (by decide)) (G_nam fun z10369 hz10369 => ?_)
  have bz10369 : gB z10369 0 21 := by rw [hz10369]; exact bf10362 _
  refine G_bipush 16 d_cX4_addRow_6 (by decide +kernel) ?_
  refine G_icmp_ne 36 d_cX4_addRow_8 (by decide +kernel) (fun hc10370 => ?_) (fun hc10370 => ?_)
  · have r10371 : z10369.toInt ≠ 16 := gj_neq hc10370 (show Int32.toInt 16 = 16 by decide)
    refine G_aload_n 1 d_cX4_addRow_36 rfl ?_
    refine G_getfN 1 3 d_cX4_addRow_37 rfl (gk_X0 D I) (Nat.le_of_ble_eq_true rfl) (fun _ _ _ h => gn_w 15 rfl h) rfl ?_
    refine G_iload_n 2 d_cX4_addRow_40 rfl ?_
    refine G_iald 6 0 d_cX4_addRow_41 rfl rfl (gB_in bp10353 (by decide) (by decide)) (G_eqi (y := z10369) hz10369.symm ?_)
    refine G_bipush 18 d_cX4_addRow_42 (by decide +kernel) ?_
    refine G_icmp_ne 74 d_cX4_addRow_44 (by decide +kernel) (fun hc10372 => ?_) (fun hc10372 => ?_)
    · have r10373 : z10369.toInt ≠ 18 := gj_neq hc10372 (show Int32.toInt 18 = 18 by decide)
      refine G_aload_n 0 d_cX4_addRow_74 rfl ?_
      refine G_ldcK (a := D.2 1000 21) d_cX4_addRow_75 (fun _ _ _ h => gx_vk 21 rfl rfl h) ?_
      have hl21_10373 : (sb_21.length : Int) = 1 := rfl
      refine G_aload_n 1 d_cX4_addRow_77 rfl ?_
      refine G_getfN 1 4 d_cX4_addRow_78 rfl (gk_X0 D I) (Nat.le_of_ble_eq_true rfl) (fun _ _ _ h => gn_w 19 rfl h) rfl ?_
      refine G_iload_n 2 d_cX4_addRow_81 rfl ?_
      refine G_iald 7 0 d_cX4_addRow_82 rfl rfl (gB_in bp10353 (by decide) (by decide)) (G_nam fun z10375 hz10375 => ?_)
      have bz10375 : gB z10375 (-2147483648) 2147483647 := gB_any z10375
      refine G_callV (As := [.ref (D.2 1000 21), .int z10375]) (wr := [(q10342, .inr (5, [.ref q10344, .ref q10345, .ref q10346, .ref q10347, .ref q10348, .ref q10349, .ref q10350, .ref q10351, .ref q10352, .int p10355, .int p10356, .int p10357])), (q10344, .inl (I .int, 40, .inl f10359)), (q10345, .inl (I .int, 40, .inl f10360)), (q10346, .inl (I .int, 40, .inl f10361)), (q10347, .inl (I .int, 200, .inl f10362)), (q10348, .inl (I .int, 200, .inl f10363)), (q10349, .inl (I .int, 200, .inl f10364)), (q10350, .inl (I .int, 200, .inl f10365)), (q10351, .inl (I .int, 200, .inl f10366)), (q10352, .inl (I .int, 200, .inl f10367))]) (gV_ok D I) (ct_7582_Listing_addNamed l hl0 D I q10341 q10343 (D.2 1000 21) (D.2 1001 21) sb_21 z10375 p10354 f10358 (gx_sc 21 rfl rfl) (by omega) bp10354 bf10358) d_cX4_addRow_83 ⟨w_6_161, w_1_13, w_6_164, by decide, rfl, (Nat.le_of_ble_eq_true rfl), (Nat.le_of_ble_eq_true rfl)⟩ w_6_163 w_p_64 0 rfl rfl [0, 2] [1, 3, 4, 5, 6, 7, 8, 9, 10, 11] rfl rfl rfl rfl (by decide) (Nat.le_of_ble_eq_true rfl) (Nat.le_of_ble_eq_true rfl) (Nat.le_of_ble_eq_true rfl) (fun r w hp => ?_) (fun _ _ _ z => z.elim)
      obtain ⟨o10376, f10377, rfl, rfl, bo10376, bf10377⟩ := hp
      change G _ _ _ _ _ _ _ _ _ _ _
      refine G_ws (ws' := [(q10342, .inr (5, [.ref q10344, .ref q10345, .ref q10346, .ref q10347, .ref q10348, .ref q10349, .ref q10350, .ref q10351, .ref q10352, .int p10355, .int p10356, .int p10357])), (q10344, .inl (I .int, 40, .inl f10359)), (q10345, .inl (I .int, 40, .inl f10360)), (q10346, .inl (I .int, 40, .inl f10361)), (q10347, .inl (I .int, 200, .inl f10362)), (q10348, .inl (I .int, 200, .inl f10363)), (q10349, .inl (I .int, 200, .inl f10364)), (q10350, .inl (I .int, 200, .inl f10365)), (q10351, .inl (I .int, 200, .inl f10366)), (q10352, .inl (I .int, 200, .inl f10367)), (q10341, .inr (9, [.ref q10343, .int o10376])), (q10343, .inl (I .byte, 16384, .inl f10377))]) (cs' := 0) (sl' := 0) rfl rfl rfl ?_
      refine G_aload_n 0 d_cX4_addRow_86 rfl ?_
      refine G_ldcK (a := D.2 1000 28) d_cX4_addRow_87 (fun _ _ _ h => gx_vk 28 rfl rfl h) ?_
      have hl28_10377 : (sb_28.length : Int) = 3 := rfl
      refine G_callV (As := [.ref (D.2 1000 28)]) (wr := [(q10342, .inr (5, [.ref q10344, .ref q10345, .ref q10346, .ref q10347, .ref q10348, .ref q10349, .ref q10350, .ref q10351, .ref q10352, .int p10355, .int p10356, .int p10357])), (q10344, .inl (I .int, 40, .inl f10359)), (q10345, .inl (I .int, 40, .inl f10360)), (q10346, .inl (I .int, 40, .inl f10361)), (q10347, .inl (I .int, 200, .inl f10362)), (q10348, .inl (I .int, 200, .inl f10363)), (q10349, .inl (I .int, 200, .inl f10364)), (q10350, .inl (I .int, 200, .inl f10365)), (q10351, .inl (I .int, 200, .inl f10366)), (q10352, .inl (I .int, 200, .inl f10367))]) (gV_ok D I) (ct_7590_Listing_addText l hl0 D I q10341 q10343 (D.2 1000 28) (D.2 1001 28) sb_28 o10376 f10377 (gx_sc 28 rfl rfl) (by omega) bo10376 bf10377) d_cX4_addRow_89 ⟨w_6_165, w_1_13, w_6_168, by decide, rfl, (Nat.le_of_ble_eq_true rfl), (Nat.le_of_ble_eq_true rfl)⟩ w_6_167 w_p_65 10 rfl rfl [10, 11] [0, 1, 2, 3, 4, 5, 6, 7, 8, 9] rfl rfl rfl rfl (by decide) (Nat.le_of_ble_eq_true rfl) (Nat.le_of_ble_eq_true rfl) (Nat.le_of_ble_eq_true rfl) (fun r w hp => ?_) (fun _ _ _ z => z.elim)
      obtain ⟨o10379, f10380, rfl, rfl, bo10379, bf10380⟩ := hp
      change G _ _ _ _ _ _ _ _ _ _ _
      refine G_ws (ws' := [(q10342, .inr (5, [.ref q10344, .ref q10345, .ref q10346, .ref q10347, .ref q10348, .ref q10349, .ref q10350, .ref q10351, .ref q10352, .int p10355, .int p10356, .int p10357])), (q10344, .inl (I .int, 40, .inl f10359)), (q10345, .inl (I .int, 40, .inl f10360)), (q10346, .inl (I .int, 40, .inl f10361)), (q10347, .inl (I .int, 200, .inl f10362)), (q10348, .inl (I .int, 200, .inl f10363)), (q10349, .inl (I .int, 200, .inl f10364)), (q10350, .inl (I .int, 200, .inl f10365)), (q10351, .inl (I .int, 200, .inl f10366)), (q10352, .inl (I .int, 200, .inl f10367)), (q10341, .inr (9, [.ref q10343, .int o10379])), (q10343, .inl (I .byte, 16384, .inl f10380))]) (cs' := 0) (sl' := 0) rfl rfl rfl ?_
      refine G_aload_n 0 d_cX4_addRow_92 rfl ?_
      refine G_aload_n 1 d_cX4_addRow_93 rfl ?_
      refine G_iload_n 2 d_cX4_addRow_94 rfl ?_
      refine G_callV (As := [.ref q10342, .int p10353]) (wr := []) (gV_ok D I) (ct_10408_Listing_addSource l hl0 D I q10341 q10342 q10343 q10344 q10345 q10346 q10347 q10348 q10349 q10350 q10351 q10352 p10353 o10379 p10355 p10356 p10357 f10380 f10359 f10360 f10361 f10362 f10363 f10364 f10365 f10366 f10367 bp10353 bo10379 bp10355 bp10356 bp10357 bf10380 bf10359 bf10362) d_cX4_addRow_95 ⟨w_6_207, w_1_13, w_6_210, by decide, rfl, (Nat.le_of_ble_eq_true rfl), (Nat.le_of_ble_eq_true rfl)⟩ w_6_209 w_p_71 10 rfl rfl [10, 0, 11, 1, 2, 3, 4, 5, 6, 7, 8, 9] [] rfl rfl rfl rfl (by decide) (Nat.le_of_ble_eq_true rfl) (Nat.le_of_ble_eq_true rfl) (Nat.le_of_ble_eq_true rfl) (fun r w hp => ?_) (fun _ _ _ z => z.elim)
      obtain ⟨o10487, f10488, rfl, rfl, bo10487, bf10488⟩ := hp
      change G _ _ _ _ _ _ _ _ _ _ _
      refine G_ws (ws' := [(q10341, .inr (9, [.ref q10343, .int o10487])), (q10342, .inr (5, [.ref q10344, .ref q10345, .ref q10346, .ref q10347, .ref q10348, .ref q10349, .ref q10350, .ref q10351, .ref q10352, .int p10355, .int p10356, .int p10357])), (q10343, .inl (I .byte, 16384, .inl f10488)), (q10344, .inl (I .int, 40, .inl f10359)), (q10345, .inl (I .int, 40, .inl f10360)), (q10346, .inl (I .int, 40, .inl f10361)), (q10347, .inl (I .int, 200, .inl f10362)), (q10348, .inl (I .int, 200, .inl f10363)), (q10349, .inl (I .int, 200, .inl f10364)), (q10350, .inl (I .int, 200, .inl f10365)), (q10351, .inl (I .int, 200, .inl f10366)), (q10352, .inl (I .int, 200, .inl f10367))]) (cs' := 0) (sl' := 0) rfl rfl rfl ?_
      exact G_vret d_cX4_addRow_98 rfl (Nat.le_of_ble_eq_true rfl) (Nat.le_of_ble_eq_true rfl) ⟨o10487, f10488, rfl, rfl, bo10487, bf10488⟩
    · have r10489 : z10369.toInt = 18 := gj_eq hc10372 (show Int32.toInt 18 = 18 by decide)
      have bz10369' : gB z10369 18 18 := ⟨by omega, by omega⟩
      refine G_aload_n 0 d_cX4_addRow_47 rfl ?_
      refine G_ldcK (a := D.2 1000 26) d_cX4_addRow_48 (fun _ _ _ h => gx_vk 26 rfl rfl h) ?_
      have hl26_10489 : (sb_26.length : Int) = 5 := rfl
      refine G_aload_n 1 d_cX4_addRow_50 rfl ?_
      refine G_getfN 1 8 d_cX4_addRow_51 rfl (gk_X0 D I) (Nat.le_of_ble_eq_true rfl) (fun _ _ _ h => gn_w 34 rfl h) rfl ?_
      refine G_iload_n 2 d_cX4_addRow_54 rfl ?_
      refine G_iald 11 0 d_cX4_addRow_55 rfl rfl (gB_in bp10353 (by decide) (by decide)) (G_nam fun z10491 hz10491 => ?_)
      have bz10491 : gB z10491 (-2147483648) 2147483647 := gB_any z10491
      refine G_callV (As := [.ref (D.2 1000 26), .int z10491]) (wr := [(q10342, .inr (5, [.ref q10344, .ref q10345, .ref q10346, .ref q10347, .ref q10348, .ref q10349, .ref q10350, .ref q10351, .ref q10352, .int p10355, .int p10356, .int p10357])), (q10344, .inl (I .int, 40, .inl f10359)), (q10345, .inl (I .int, 40, .inl f10360)), (q10346, .inl (I .int, 40, .inl f10361)), (q10347, .inl (I .int, 200, .inl f10362)), (q10348, .inl (I .int, 200, .inl f10363)), (q10349, .inl (I .int, 200, .inl f10364)), (q10350, .inl (I .int, 200, .inl f10365)), (q10351, .inl (I .int, 200, .inl f10366)), (q10352, .inl (I .int, 200, .inl f10367))]) (gV_ok D I) (ct_7582_Listing_addNamed l hl0 D I q10341 q10343 (D.2 1000 26) (D.2 1001 26) sb_26 z10491 p10354 f10358 (gx_sc 26 rfl rfl) (by omega) bp10354 bf10358) d_cX4_addRow_56 ⟨w_6_161, w_1_13, w_6_164, by decide, rfl, (Nat.le_of_ble_eq_true rfl), (Nat.le_of_ble_eq_true rfl)⟩ w_6_163 w_p_64 0 rfl rfl [0, 2] [1, 3, 4, 5, 6, 7, 8, 9, 10, 11] rfl rfl rfl rfl (by decide) (Nat.le_of_ble_eq_true rfl) (Nat.le_of_ble_eq_true rfl) (Nat.le_of_ble_eq_true rfl) (fun r w hp => ?_) (fun _ _ _ z => z.elim)
      obtain ⟨o10492, f10493, rfl, rfl, bo10492, bf10493⟩ := hp
      change G _ _ _ _ _ _ _ _ _ _ _
      refine G_ws (ws' := [(q10342, .inr (5, [.ref q10344, .ref q10345, .ref q10346, .ref q10347, .ref q10348, .ref q10349, .ref q10350, .ref q10351, .ref q10352, .int p10355, .int p10356, .int p10357])), (q10344, .inl (I .int, 40, .inl f10359)), (q10345, .inl (I .int, 40, .inl f10360)), (q10346, .inl (I .int, 40, .inl f10361)), (q10347, .inl (I .int, 200, .inl f10362)), (q10348, .inl (I .int, 200, .inl f10363)), (q10349, .inl (I .int, 200, .inl f10364)), (q10350, .inl (I .int, 200, .inl f10365)), (q10351, .inl (I .int, 200, .inl f10366)), (q10352, .inl (I .int, 200, .inl f10367)), (q10341, .inr (9, [.ref q10343, .int o10492])), (q10343, .inl (I .byte, 16384, .inl f10493))]) (cs' := 0) (sl' := 0) rfl rfl rfl ?_
      refine G_aload_n 0 d_cX4_addRow_59 rfl ?_
      refine G_ldcK (a := D.2 1000 27) d_cX4_addRow_60 (fun _ _ _ h => gx_vk 27 rfl rfl h) ?_
      have hl27_10493 : (sb_27.length : Int) = 4 := rfl
      refine G_aload_n 1 d_cX4_addRow_62 rfl ?_
      refine G_getfN 0 5 d_cX4_addRow_63 rfl (gk_X0 D I) (Nat.le_of_ble_eq_true rfl) (fun _ _ _ h => gn_w 23 rfl h) rfl ?_
      refine G_iload_n 2 d_cX4_addRow_66 rfl ?_
      refine G_iald 6 0 d_cX4_addRow_67 rfl rfl (gB_in bp10353 (by decide) (by decide)) (G_nam fun z10495 hz10495 => ?_)
      have bz10495 : gB z10495 (-2147483648) 2147483647 := gB_any z10495
      refine G_callV (As := [.ref (D.2 1000 27), .int z10495]) (wr := [(q10342, .inr (5, [.ref q10344, .ref q10345, .ref q10346, .ref q10347, .ref q10348, .ref q10349, .ref q10350, .ref q10351, .ref q10352, .int p10355, .int p10356, .int p10357])), (q10344, .inl (I .int, 40, .inl f10359)), (q10345, .inl (I .int, 40, .inl f10360)), (q10346, .inl (I .int, 40, .inl f10361)), (q10347, .inl (I .int, 200, .inl f10362)), (q10348, .inl (I .int, 200, .inl f10363)), (q10349, .inl (I .int, 200, .inl f10364)), (q10350, .inl (I .int, 200, .inl f10365)), (q10351, .inl (I .int, 200, .inl f10366)), (q10352, .inl (I .int, 200, .inl f10367))]) (gV_ok D I) (ct_7582_Listing_addNamed l hl0 D I q10341 q10343 (D.2 1000 27) (D.2 1001 27) sb_27 z10495 o10492 f10493 (gx_sc 27 rfl rfl) (by omega) bo10492 bf10493) d_cX4_addRow_68 ⟨w_6_161, w_1_13, w_6_164, by decide, rfl, (Nat.le_of_ble_eq_true rfl), (Nat.le_of_ble_eq_true rfl)⟩ w_6_163 w_p_64 10 rfl rfl [10, 11] [0, 1, 2, 3, 4, 5, 6, 7, 8, 9] rfl rfl rfl rfl (by decide) (Nat.le_of_ble_eq_true rfl) (Nat.le_of_ble_eq_true rfl) (Nat.le_of_ble_eq_true rfl) (fun r w hp => ?_) (fun _ _ _ z => z.elim)
      obtain ⟨o10496, f10497, rfl, rfl, bo10496, bf10497⟩ := hp
      change G _ _ _ _ _ _ _ _ _ _ _
      refine G_ws (ws' := [(q10342, .inr (5, [.ref q10344, .ref q10345, .ref q10346, .ref q10347, .ref q10348, .ref q10349, .ref q10350, .ref q10351, .ref q10352, .int p10355, .int p10356, .int p10357])), (q10344, .inl (I .int, 40, .inl f10359)), (q10345, .inl (I .int, 40, .inl f10360)), (q10346, .inl (I .int, 40, .inl f10361)), (q10347, .inl (I .int, 200, .inl f10362)), (q10348, .inl (I .int, 200, .inl f10363)), (q10349, .inl (I .int, 200, .inl f10364)), (q10350, .inl (I .int, 200, .inl f10365)), (q10351, .inl (I .int, 200, .inl f10366)), (q10352, .inl (I .int, 200, .inl f10367)), (q10341, .inr (9, [.ref q10343, .int o10496])), (q10343, .inl (I .byte, 16384, .inl f10497))]) (cs' := 0) (sl' := 0) rfl rfl rfl ?_
      refine G_goto 98 d_cX4_addRow_71 (by decide +kernel) ?_
      refine G_sub (ws' := [(q10341, .inr (9, [.ref q10343, .int o10496])), (q10342, .inr (5, [.ref q10344, .ref q10345, .ref q10346, .ref q10347, .ref q10348, .ref q10349, .ref q10350, .ref q10351, .ref q10352, .int p10355, .int p10356, .int p10357])), (q10343, .inl (I .byte, 16384, .inl f10497)), (q10344, .inl (I .int, 40, .inl f10359)), (q10345, .inl (I .int, 40, .inl f10360)), (q10346, .inl (I .int, 40, .inl f10361)), (q10347, .inl (I .int, 200, .inl f10362)), (q10348, .inl (I .int, 200, .inl f10363)), (q10349, .inl (I .int, 200, .inl f10364)), (q10350, .inl (I .int, 200, .inl f10365)), (q10351, .inl (I .int, 200, .inl f10366)), (q10352, .inl (I .int, 200, .inl f10367))]) [10, 0, 11, 1, 2, 3, 4, 5, 6, 7, 8, 9] rfl rfl ?_
      exact G_vret d_cX4_addRow_98 rfl (Nat.le_of_ble_eq_true rfl) (Nat.le_of_ble_eq_true rfl) ⟨o10496, f10497, rfl, rfl, bo10496, bf10497⟩
  · have r10498 : z10369.toInt = 16 := gj_eq hc10370 (show Int32.toInt 16 = 16 by decide)
    have bz10369' : gB z10369 16 16 := ⟨by omega, by omega⟩
    refine G_aload_n 0 d_cX4_addRow_11 rfl ?_
    refine G_ldcK (a := D.2 1000 25) d_cX4_addRow_12 (fun _ _ _ h => gx_vk 25 rfl rfl h) ?_
    have hl25_10498 : (sb_25.length : Int) = 5 := rfl
    refine G_callV (As := [.ref (D.2 1000 25)]) (wr := [(q10342, .inr (5, [.ref q10344, .ref q10345, .ref q10346, .ref q10347, .ref q10348, .ref q10349, .ref q10350, .ref q10351, .ref q10352, .int p10355, .int p10356, .int p10357])), (q10344, .inl (I .int, 40, .inl f10359)), (q10345, .inl (I .int, 40, .inl f10360)), (q10346, .inl (I .int, 40, .inl f10361)), (q10347, .inl (I .int, 200, .inl f10362)), (q10348, .inl (I .int, 200, .inl f10363)), (q10349, .inl (I .int, 200, .inl f10364)), (q10350, .inl (I .int, 200, .inl f10365)), (q10351, .inl (I .int, 200, .inl f10366)), (q10352, .inl (I .int, 200, .inl f10367))]) (gV_ok D I) (ct_7590_Listing_addText l hl0 D I q10341 q10343 (D.2 1000 25) (D.2 1001 25) sb_25 p10354 f10358 (gx_sc 25 rfl rfl) (by omega) bp10354 bf10358) d_cX4_addRow_14 ⟨w_6_165, w_1_13, w_6_168, by decide, rfl, (Nat.le_of_ble_eq_true rfl), (Nat.le_of_ble_eq_true rfl)⟩ w_6_167 w_p_65 0 rfl rfl [0, 2] [1, 3, 4, 5, 6, 7, 8, 9, 10, 11] rfl rfl rfl rfl (by decide) (Nat.le_of_ble_eq_true rfl) (Nat.le_of_ble_eq_true rfl) (Nat.le_of_ble_eq_true rfl) (fun r w hp => ?_) (fun _ _ _ z => z.elim)
    obtain ⟨o10500, f10501, rfl, rfl, bo10500, bf10501⟩ := hp
    change G _ _ _ _ _ _ _ _ _ _ _
    refine G_ws (ws' := [(q10342, .inr (5, [.ref q10344, .ref q10345, .ref q10346, .ref q10347, .ref q10348, .ref q10349, .ref q10350, .ref q10351, .ref q10352, .int p10355, .int p10356, .int p10357])), (q10344, .inl (I .int, 40, .inl f10359)), (q10345, .inl (I .int, 40, .inl f10360)), (q10346, .inl (I .int, 40, .inl f10361)), (q10347, .inl (I .int, 200, .inl f10362)), (q10348, .inl (I .int, 200, .inl f10363)), (q10349, .inl (I .int, 200, .inl f10364)), (q10350, .inl (I .int, 200, .inl f10365)), (q10351, .inl (I .int, 200, .inl f10366)), (q10352, .inl (I .int, 200, .inl f10367)), (q10341, .inr (9, [.ref q10343, .int o10500])), (q10343, .inl (I .byte, 16384, .inl f10501))]) (cs' := 0) (sl' := 0) rfl rfl rfl ?_
    refine G_aload_n 0 d_cX4_addRow_17 rfl ?_
    refine G_aload_n 1 d_cX4_addRow_18 rfl ?_
    refine G_getfN 0 5 d_cX4_addRow_19 rfl (gk_X0 D I) (Nat.le_of_ble_eq_true rfl) (fun _ _ _ h => gn_w 23 rfl h) rfl ?_
    refine G_iload_n 2 d_cX4_addRow_22 rfl ?_
    refine G_iald 6 0 d_cX4_addRow_23 rfl rfl (gB_in bp10353 (by decide) (by decide)) (G_nam fun z10502 hz10502 => ?_)
    have bz10502 : gB z10502 (-2147483648) 2147483647 := gB_any z10502
    refine G_aload_n 1 d_cX4_addRow_24 rfl ?_
    refine G_getfN 0 6 d_cX4_addRow_25 rfl (gk_X0 D I) (Nat.le_of_ble_eq_true rfl) (fun _ _ _ h => gn_w 27 rfl h) rfl ?_
    refine G_iload_n 2 d_cX4_addRow_28 rfl ?_
    refine G_iald 7 0 d_cX4_addRow_29 rfl rfl (gB_in bp10353 (by decide) (by decide)) (G_nam fun z10503 hz10503 => ?_)
    have bz10503 : gB z10503 (-2147483648) 2147483647 := gB_any z10503
    refine G_callV (As := [.int z10502, .int z10503]) (wr := [(q10342, .inr (5, [.ref q10344, .ref q10345, .ref q10346, .ref q10347, .ref q10348, .ref q10349, .ref q10350, .ref q10351, .ref q10352, .int p10355, .int p10356, .int p10357])), (q10344, .inl (I .int, 40, .inl f10359)), (q10345, .inl (I .int, 40, .inl f10360)), (q10346, .inl (I .int, 40, .inl f10361)), (q10347, .inl (I .int, 200, .inl f10362)), (q10348, .inl (I .int, 200, .inl f10363)), (q10349, .inl (I .int, 200, .inl f10364)), (q10350, .inl (I .int, 200, .inl f10365)), (q10351, .inl (I .int, 200, .inl f10366)), (q10352, .inl (I .int, 200, .inl f10367))]) (gV_ok D I) (ct_10422_Listing_addOperand l hl0 D I q10341 q10343 z10502 z10503 o10500 f10501 bo10500 bf10501) d_cX4_addRow_30 ⟨w_6_191, w_1_13, w_6_194, by decide, rfl, (Nat.le_of_ble_eq_true rfl), (Nat.le_of_ble_eq_true rfl)⟩ w_6_193 w_p_69 10 rfl rfl [10, 11] [0, 1, 2, 3, 4, 5, 6, 7, 8, 9] rfl rfl rfl rfl (by decide) (Nat.le_of_ble_eq_true rfl) (Nat.le_of_ble_eq_true rfl) (Nat.le_of_ble_eq_true rfl) (fun r w hp => ?_) (fun _ _ _ z => z.elim)
    obtain ⟨o10504, f10505, rfl, rfl, bo10504, bf10505⟩ := hp
    change G _ _ _ _ _ _ _ _ _ _ _
    refine G_ws (ws' := [(q10342, .inr (5, [.ref q10344, .ref q10345, .ref q10346, .ref q10347, .ref q10348, .ref q10349, .ref q10350, .ref q10351, .ref q10352, .int p10355, .int p10356, .int p10357])), (q10344, .inl (I .int, 40, .inl f10359)), (q10345, .inl (I .int, 40, .inl f10360)), (q10346, .inl (I .int, 40, .inl f10361)), (q10347, .inl (I .int, 200, .inl f10362)), (q10348, .inl (I .int, 200, .inl f10363)), (q10349, .inl (I .int, 200, .inl f10364)), (q10350, .inl (I .int, 200, .inl f10365)), (q10351, .inl (I .int, 200, .inl f10366)), (q10352, .inl (I .int, 200, .inl f10367)), (q10341, .inr (9, [.ref q10343, .int o10504])), (q10343, .inl (I .byte, 16384, .inl f10505))]) (cs' := 0) (sl' := 0) rfl rfl rfl ?_
    refine G_goto 98 d_cX4_addRow_33 (by decide +kernel) ?_
    refine G_sub (ws' := [(q10341, .inr (9, [.ref q10343, .int o10504])), (q10342, .inr (5, [.ref q10344, .ref q10345, .ref q10346, .ref q10347, .ref q10348, .ref q10349, .ref q10350, .ref q10351, .ref q10352, .int p10355, .int p10356, .int p10357])), (q10343, .inl (I .byte, 16384, .inl f10505)), (q10344, .inl (I .int, 40, .inl f10359)), (q10345, .inl (I .int, 40, .inl f10360)), (q10346, .inl (I .int, 40, .inl f10361)), (q10347, .inl (I .int, 200, .inl f10362)), (q10348, .inl (I .int, 200, .inl f10363)), (q10349, .inl (I .int, 200, .inl f10364)), (q10350, .inl (I .int, 200, .inl f10365)), (q10351, .inl (I .int, 200, .inl f10366)), (q10352, .inl (I .int, 200, .inl f10367))]) [10, 0, 11, 1, 2, 3, 4, 5, 6, 7, 8, 9] rfl rfl ?_
    exact G_vret d_cX4_addRow_98 rfl (Nat.le_of_ble_eq_true rfl) (Nat.le_of_ble_eq_true rfl) ⟨o10504, f10505, rfl, rfl, bo10504, bf10505⟩
