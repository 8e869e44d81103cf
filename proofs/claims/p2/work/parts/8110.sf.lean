theorem d_cX8_readInto_0 : decode cX8_readInto 0 = .ok (.aload_n 1, 1) := by decide +kernel
theorem d_cX8_readInto_1 : decode cX8_readInto 1 = .ok (.invokevirtual 28, 3) := by decide +kernel
theorem w_3_0 : (Jvm.Cond.methodLink "SpillForge$Reader" (28 : Nat) ({ cls := "SpillForge$Code", name := "clear", desc := "()V" } : Jvm.MethodName)) ∈ gw := gw_3 0 rfl rfl
theorem w_3_3 : (Jvm.Cond.code ({ cls := "SpillForge$Code", name := "clear", desc := "()V" } : Jvm.MethodName) prog_2_method_2_code (1 : Nat) (Option.none : Option Jvm.ClassFile.FieldType)) ∈ gw := gw_3 3 rfl rfl
theorem w_3_1 : (Jvm.Cond.instanceMethod ({ cls := "SpillForge$Code", name := "clear", desc := "()V" } : Jvm.MethodName)) ∈ gw := gw_3 1 rfl rfl
theorem w_3_2 : (Jvm.Cond.selects "SpillForge$Code" ({ cls := "SpillForge$Code", name := "clear", desc := "()V" } : Jvm.MethodName) ({ cls := "SpillForge$Code", name := "clear", desc := "()V" } : Jvm.MethodName)) ∈ gw := gw_3 2 rfl rfl
theorem d_cX8_readInto_4 : decode cX8_readInto 4 = .ok (.aload_n 0, 1) := by decide +kernel
theorem d_cX8_readInto_5 : decode cX8_readInto 5 = .ok (.lconst 0, 1) := by decide +kernel
theorem d_cX8_readInto_6 : decode cX8_readInto 6 = .ok (.putfield 33, 3) := by decide +kernel
theorem d_cX8_readInto_9 : decode cX8_readInto 9 = .ok (.aload_n 0, 1) := by decide +kernel
theorem d_cX8_readInto_10 : decode cX8_readInto 10 = .ok (.iconst 0, 1) := by decide +kernel
theorem d_cX8_readInto_11 : decode cX8_readInto 11 = .ok (.putfield 37, 3) := by decide +kernel
theorem d_cX8_readInto_14 : decode cX8_readInto 14 = .ok (.aload_n 0, 1) := by decide +kernel
theorem d_cX8_readInto_15 : decode cX8_readInto 15 = .ok (.iconst (-1), 1) := by decide +kernel
theorem d_cX8_readInto_16 : decode cX8_readInto 16 = .ok (.putfield 40, 3) := by decide +kernel
theorem d_cX8_readInto_19 : decode cX8_readInto 19 = .ok (.aload_n 0, 1) := by decide +kernel
theorem d_cX8_readInto_20 : decode cX8_readInto 20 = .ok (.iconst 0, 1) := by decide +kernel
theorem d_cX8_readInto_21 : decode cX8_readInto 21 = .ok (.putfield 43, 3) := by decide +kernel
theorem d_cX8_readInto_24 : decode cX8_readInto 24 = .ok (.aload_n 0, 1) := by decide +kernel
theorem d_cX8_readInto_25 : decode cX8_readInto 25 = .ok (.iconst 0, 1) := by decide +kernel
theorem d_cX8_readInto_26 : decode cX8_readInto 26 = .ok (.putfield 46, 3) := by decide +kernel
theorem d_cX8_readInto_29 : decode cX8_readInto 29 = .ok (.aload_n 0, 1) := by decide +kernel
theorem d_cX8_readInto_30 : decode cX8_readInto 30 = .ok (.getfield 20, 3) := by decide +kernel
theorem d_cX8_readInto_33 : decode cX8_readInto 33 = .ok (.invokevirtual 49, 3) := by decide +kernel
theorem w_3_4 : (Jvm.Cond.methodLink "SpillForge$Reader" (49 : Nat) ({ cls := "SpillForge$Signs", name := "open", desc := "()V" } : Jvm.MethodName)) ∈ gw := gw_3 4 rfl rfl
theorem w_3_7 : (Jvm.Cond.code ({ cls := "SpillForge$Signs", name := "open", desc := "()V" } : Jvm.MethodName) prog_11_method_5_code (1 : Nat) (Option.none : Option Jvm.ClassFile.FieldType)) ∈ gw := gw_3 7 rfl rfl
theorem w_3_5 : (Jvm.Cond.instanceMethod ({ cls := "SpillForge$Signs", name := "open", desc := "()V" } : Jvm.MethodName)) ∈ gw := gw_3 5 rfl rfl
theorem w_3_6 : (Jvm.Cond.selects "SpillForge$Signs" ({ cls := "SpillForge$Signs", name := "open", desc := "()V" } : Jvm.MethodName) ({ cls := "SpillForge$Signs", name := "open", desc := "()V" } : Jvm.MethodName)) ∈ gw := gw_3 6 rfl rfl
theorem d_cX8_readInto_36 : decode cX8_readInto 36 = .ok (.iconst 1, 1) := by decide +kernel
theorem d_cX8_readInto_37 : decode cX8_readInto 37 = .ok (.istore_n 2, 1) := by decide +kernel
theorem d_cX8_readInto_38 : decode cX8_readInto 38 = .ok (.iconst 0, 1) := by decide +kernel
theorem d_cX8_readInto_39 : decode cX8_readInto 39 = .ok (.istore_n 3, 1) := by decide +kernel
theorem d_cX8_readInto_40 : decode cX8_readInto 40 = .ok (.iload_n 3, 1) := by decide +kernel
theorem d_cX8_readInto_41 : decode cX8_readInto 41 = .ok (.sipush 8192, 3) := by decide +kernel
theorem d_cX8_readInto_44 : decode cX8_readInto 44 = .ok (.if_icmp .ge 41, 3) := by decide +kernel
theorem d_cX8_readInto_85 : decode cX8_readInto 85 = .ok (.iload_n 2, 1) := by decide +kernel
theorem d_cX8_readInto_86 : decode cX8_readInto 86 = .ok (.ifCond .eq 11, 3) := by decide +kernel
theorem d_cX8_readInto_97 : decode cX8_readInto 97 = .ok (.aload_n 0, 1) := by decide +kernel
theorem d_cX8_readInto_98 : decode cX8_readInto 98 = .ok (.iconst 1, 1) := by decide +kernel
theorem d_cX8_readInto_99 : decode cX8_readInto 99 = .ok (.putfield 24, 3) := by decide +kernel
theorem w_1_98 : (Jvm.Cond.fieldLink "SpillForge$Reader" (24 : Nat) "SpillForge$Reader" "reason" "I") ∈ gw := gw_1 98 rfl rfl
theorem d_cX8_readInto_102 : decode cX8_readInto 102 = .ok (.aload_n 0, 1) := by decide +kernel
theorem d_cX8_readInto_103 : decode cX8_readInto 103 = .ok (.getfield 20, 3) := by decide +kernel
theorem d_cX8_readInto_106 : decode cX8_readInto 106 = .ok (.invokevirtual 63, 3) := by decide +kernel
theorem d_cX8_readInto_109 : decode cX8_readInto 109 = .ok (.ireturn, 1) := by decide +kernel
theorem d_cX8_readInto_89 : decode cX8_readInto 89 = .ok (.aload_n 0, 1) := by decide +kernel
theorem d_cX8_readInto_90 : decode cX8_readInto 90 = .ok (.getfield 46, 3) := by decide +kernel
theorem d_cX8_readInto_93 : decode cX8_readInto 93 = .ok (.iconst 1, 1) := by decide +kernel
theorem d_cX8_readInto_94 : decode cX8_readInto 94 = .ok (.if_icmp .eq 16, 3) := by decide +kernel
theorem d_cX8_readInto_110 : decode cX8_readInto 110 = .ok (.aload_n 0, 1) := by decide +kernel
theorem d_cX8_readInto_111 : decode cX8_readInto 111 = .ok (.aload_n 1, 1) := by decide +kernel
theorem d_cX8_readInto_112 : decode cX8_readInto 112 = .ok (.invokevirtual 66, 3) := by decide +kernel
theorem w_3_214 : (Jvm.Cond.methodLink "SpillForge$Reader" (66 : Nat) ({ cls := "SpillForge$Reader", name := "checkGoals", desc := "(LSpillForge$Code;)V" } : Jvm.MethodName)) ∈ gw := gw_3 214 rfl rfl
theorem w_3_217 : (Jvm.Cond.code ({ cls := "SpillForge$Reader", name := "checkGoals", desc := "(LSpillForge$Code;)V" } : Jvm.MethodName) prog_10_method_22_code (4 : Nat) (Option.none : Option Jvm.ClassFile.FieldType)) ∈ gw := gw_3 217 rfl rfl
theorem w_3_216 : (Jvm.Cond.instanceMethod ({ cls := "SpillForge$Reader", name := "checkGoals", desc := "(LSpillForge$Code;)V" } : Jvm.MethodName)) ∈ gw := gw_3 216 rfl rfl
theorem w_p_25 : Cond.selects "SpillForge$Reader" ⟨"SpillForge$Reader", "checkGoals", "(LSpillForge$Code;)V"⟩ ⟨"SpillForge$Reader", "checkGoals", "(LSpillForge$Code;)V"⟩ ∈ gw := gw_p _ 25 rfl rfl rfl
theorem d_cX8_readInto_115 : decode cX8_readInto 115 = .ok (.aload_n 0, 1) := by decide +kernel
theorem d_cX8_readInto_116 : decode cX8_readInto 116 = .ok (.aload_n 0, 1) := by decide +kernel
theorem d_cX8_readInto_117 : decode cX8_readInto 117 = .ok (.getfield 43, 3) := by decide +kernel
theorem d_cX8_readInto_120 : decode cX8_readInto 120 = .ok (.putfield 24, 3) := by decide +kernel
theorem d_cX8_readInto_123 : decode cX8_readInto 123 = .ok (.aload_n 0, 1) := by decide +kernel
theorem d_cX8_readInto_124 : decode cX8_readInto 124 = .ok (.getfield 40, 3) := by decide +kernel
theorem d_cX8_readInto_127 : decode cX8_readInto 127 = .ok (.ireturn, 1) := by decide +kernel
theorem d_cX8_readInto_47 : decode cX8_readInto 47 = .ok (.iload_n 2, 1) := by decide +kernel
theorem d_cX8_readInto_48 : decode cX8_readInto 48 = .ok (.ifCond .eq 37, 3) := by decide +kernel
theorem d_cX8_readInto_51 : decode cX8_readInto 51 = .ok (.aload_n 0, 1) := by decide +kernel
theorem d_cX8_readInto_52 : decode cX8_readInto 52 = .ok (.getfield 20, 3) := by decide +kernel
theorem d_cX8_readInto_55 : decode cX8_readInto 55 = .ok (.invokevirtual 52, 3) := by decide +kernel
theorem d_cX8_readInto_58 : decode cX8_readInto 58 = .ok (.iconst 1, 1) := by decide +kernel
theorem d_cX8_readInto_59 : decode cX8_readInto 59 = .ok (.if_icmp .eq 26, 3) := by decide +kernel
theorem d_cX8_readInto_62 : decode cX8_readInto 62 = .ok (.aload_n 0, 1) := by decide +kernel
theorem d_cX8_readInto_63 : decode cX8_readInto 63 = .ok (.aload_n 1, 1) := by decide +kernel
theorem d_cX8_readInto_64 : decode cX8_readInto 64 = .ok (.invokevirtual 56, 3) := by decide +kernel
theorem w_3_121 : (Jvm.Cond.methodLink "SpillForge$Reader" (56 : Nat) ({ cls := "SpillForge$Reader", name := "accept", desc := "(LSpillForge$Code;)Z" } : Jvm.MethodName)) ∈ gw := gw_3 121 rfl rfl
theorem w_3_124 : (Jvm.Cond.code ({ cls := "SpillForge$Reader", name := "accept", desc := "(LSpillForge$Code;)Z" } : Jvm.MethodName) prog_10_method_4_code (2 : Nat) (Option.some Jvm.ClassFile.FieldType.boolean)) ∈ gw := gw_3 124 rfl rfl
theorem w_3_123 : (Jvm.Cond.instanceMethod ({ cls := "SpillForge$Reader", name := "accept", desc := "(LSpillForge$Code;)Z" } : Jvm.MethodName)) ∈ gw := gw_3 123 rfl rfl
theorem w_p_7 : Cond.selects "SpillForge$Reader" ⟨"SpillForge$Reader", "accept", "(LSpillForge$Code;)Z"⟩ ⟨"SpillForge$Reader", "accept", "(LSpillForge$Code;)Z"⟩ ∈ gw := gw_p _ 7 rfl rfl rfl
theorem d_cX8_readInto_67 : decode cX8_readInto 67 = .ok (.istore_n 2, 1) := by decide +kernel
theorem d_cX8_readInto_68 : decode cX8_readInto 68 = .ok (.iload_n 2, 1) := by decide +kernel
theorem d_cX8_readInto_69 : decode cX8_readInto 69 = .ok (.ifCond .eq 10, 3) := by decide +kernel
theorem d_cX8_readInto_79 : decode cX8_readInto 79 = .ok (.iinc 3 1, 3) := by decide +kernel
theorem d_cX8_readInto_82 : decode cX8_readInto 82 = .ok (.goto (-42), 3) := by decide +kernel
theorem d_cX8_readInto_72 : decode cX8_readInto 72 = .ok (.aload_n 0, 1) := by decide +kernel
theorem d_cX8_readInto_73 : decode cX8_readInto 73 = .ok (.getfield 20, 3) := by decide +kernel
theorem d_cX8_readInto_76 : decode cX8_readInto 76 = .ok (.invokevirtual 60, 3) := by decide +kernel
theorem w_3_213 : (Jvm.Cond.methodLink "SpillForge$Reader" (60 : Nat) ({ cls := "SpillForge$Signs", name := "advance", desc := "()V" } : Jvm.MethodName)) ∈ gw := gw_3 213 rfl rfl
theorem d_cX4_eightFrom_0 : decode cX4_eightFrom 0 = .ok (.lconst 0, 1) := by decide +kernel
theorem d_cX4_eightFrom_1 : decode cX4_eightFrom 1 = .ok (.lstore_n 2, 1) := by decide +kernel
theorem d_cX4_eightFrom_2 : decode cX4_eightFrom 2 = .ok (.iload_n 1, 1) := by decide +kernel
theorem d_cX4_eightFrom_3 : decode cX4_eightFrom 3 = .ok (.istore 4, 2) := by decide +kernel
theorem d_cX4_eightFrom_5 : decode cX4_eightFrom 5 = .ok (.iload 4, 2) := by decide +kernel
theorem d_cX4_eightFrom_7 : decode cX4_eightFrom 7 = .ok (.iload_n 1, 1) := by decide +kernel
theorem d_cX4_eightFrom_8 : decode cX4_eightFrom 8 = .ok (.bipush 8, 2) := by decide +kernel
theorem d_cX4_eightFrom_10 : decode cX4_eightFrom 10 = .ok (.iadd, 1) := by decide +kernel
theorem d_cX4_eightFrom_11 : decode cX4_eightFrom 11 = .ok (.if_icmp .ge 45, 3) := by decide +kernel
theorem d_cX4_eightFrom_56 : decode cX4_eightFrom 56 = .ok (.lload_n 2, 1) := by decide +kernel
theorem d_cX4_eightFrom_57 : decode cX4_eightFrom 57 = .ok (.lreturn, 1) := by decide +kernel
theorem d_cX4_eightFrom_14 : decode cX4_eightFrom 14 = .ok (.lload_n 2, 1) := by decide +kernel
theorem d_cX4_eightFrom_15 : decode cX4_eightFrom 15 = .ok (.bipush 8, 2) := by decide +kernel
theorem d_cX4_eightFrom_17 : decode cX4_eightFrom 17 = .ok (.lshl, 1) := by decide +kernel
theorem d_cX4_eightFrom_18 : decode cX4_eightFrom 18 = .ok (.iload 4, 2) := by decide +kernel
theorem d_cX4_eightFrom_20 : decode cX4_eightFrom 20 = .ok (.ifCond .lt 26, 3) := by decide +kernel
theorem d_cX4_eightFrom_46 : decode cX4_eightFrom 46 = .ok (.iconst 0, 1) := by decide +kernel
theorem d_cX4_eightFrom_47 : decode cX4_eightFrom 47 = .ok (.i2l, 1) := by decide +kernel
theorem d_cX4_eightFrom_48 : decode cX4_eightFrom 48 = .ok (.lor, 1) := by decide +kernel
theorem d_cX4_eightFrom_49 : decode cX4_eightFrom 49 = .ok (.lstore_n 2, 1) := by decide +kernel
theorem d_cX4_eightFrom_50 : decode cX4_eightFrom 50 = .ok (.iinc 4 1, 3) := by decide +kernel
theorem d_cX4_eightFrom_53 : decode cX4_eightFrom 53 = .ok (.goto (-48), 3) := by decide +kernel
theorem d_cX4_eightFrom_23 : decode cX4_eightFrom 23 = .ok (.iload 4, 2) := by decide +kernel
theorem d_cX4_eightFrom_25 : decode cX4_eightFrom 25 = .ok (.aload_n 0, 1) := by decide +kernel
theorem d_cX4_eightFrom_26 : decode cX4_eightFrom 26 = .ok (.getfield 15, 3) := by decide +kernel
theorem w_2_201 : (Jvm.Cond.fieldLink "SpillForge$Listing" (15 : Nat) "SpillForge$Listing" "size" "I") ∈ gw := gw_2 201 rfl rfl
theorem d_cX4_eightFrom_29 : decode cX4_eightFrom 29 = .ok (.if_icmp .ge 17, 3) := by decide +kernel
theorem d_cX4_eightFrom_32 : decode cX4_eightFrom 32 = .ok (.aload_n 0, 1) := by decide +kernel
theorem d_cX4_eightFrom_33 : decode cX4_eightFrom 33 = .ok (.getfield 9, 3) := by decide +kernel
theorem w_2_200 : (Jvm.Cond.fieldLink "SpillForge$Listing" (9 : Nat) "SpillForge$Listing" "bytes" "[B") ∈ gw := gw_2 200 rfl rfl
theorem d_cX4_eightFrom_36 : decode cX4_eightFrom 36 = .ok (.iload 4, 2) := by decide +kernel
theorem d_cX4_eightFrom_38 : decode cX4_eightFrom 38 = .ok (.baload, 1) := by decide +kernel
theorem d_cX4_eightFrom_39 : decode cX4_eightFrom 39 = .ok (.sipush 255, 3) := by decide +kernel
theorem d_cX4_eightFrom_42 : decode cX4_eightFrom 42 = .ok (.iand, 1) := by decide +kernel
theorem d_cX4_eightFrom_43 : decode cX4_eightFrom 43 = .ok (.goto 4, 3) := by decide +kernel
theorem d_cX4_addByte_0 : decode cX4_addByte 0 = .ok (.aload_n 0, 1) := by decide +kernel
theorem d_cX4_addByte_1 : decode cX4_addByte 1 = .ok (.getfield 15, 3) := by decide +kernel
theorem d_cX4_addByte_4 : decode cX4_addByte 4 = .ok (.aload_n 0, 1) := by decide +kernel
theorem d_cX4_addByte_5 : decode cX4_addByte 5 = .ok (.getfield 9, 3) := by decide +kernel
theorem d_cX4_addByte_8 : decode cX4_addByte 8 = .ok (.arraylength, 1) := by decide +kernel
theorem d_cX4_addByte_9 : decode cX4_addByte 9 = .ok (.if_icmp .ge 24, 3) := by decide +kernel
theorem d_cX4_addByte_33 : decode cX4_addByte 33 = .ok (.return_, 1) := by decide +kernel
theorem d_cX4_addByte_12 : decode cX4_addByte 12 = .ok (.aload_n 0, 1) := by decide +kernel
theorem d_cX4_addByte_13 : decode cX4_addByte 13 = .ok (.getfield 9, 3) := by decide +kernel
theorem d_cX4_addByte_16 : decode cX4_addByte 16 = .ok (.aload_n 0, 1) := by decide +kernel
theorem d_cX4_addByte_17 : decode cX4_addByte 17 = .ok (.getfield 15, 3) := by decide +kernel
theorem d_cX4_addByte_20 : decode cX4_addByte 20 = .ok (.iload_n 1, 1) := by decide +kernel
theorem d_cX4_addByte_21 : decode cX4_addByte 21 = .ok (.i2b, 1) := by decide +kernel
theorem d_cX4_addByte_22 : decode cX4_addByte 22 = .ok (.bastore, 1) := by decide +kernel
theorem d_cX4_addByte_23 : decode cX4_addByte 23 = .ok (.aload_n 0, 1) := by decide +kernel
theorem d_cX4_addByte_24 : decode cX4_addByte 24 = .ok (.dup, 1) := by decide +kernel
theorem d_cX4_addByte_25 : decode cX4_addByte 25 = .ok (.getfield 15, 3) := by decide +kernel
theorem d_cX4_addByte_28 : decode cX4_addByte 28 = .ok (.iconst 1, 1) := by decide +kernel
theorem d_cX4_addByte_29 : decode cX4_addByte 29 = .ok (.iadd, 1) := by decide +kernel
theorem d_cX4_addByte_30 : decode cX4_addByte 30 = .ok (.putfield 15, 3) := by decide +kernel
theorem d_cX4_addText_0 : decode cX4_addText 0 = .ok (.iconst 0, 1) := by decide +kernel
theorem d_cX4_addText_1 : decode cX4_addText 1 = .ok (.istore_n 2, 1) := by decide +kernel
theorem d_cX4_addText_2 : decode cX4_addText 2 = .ok (.iload_n 2, 1) := by decide +kernel
theorem d_cX4_addText_3 : decode cX4_addText 3 = .ok (.aload_n 1, 1) := by decide +kernel
theorem d_cX4_addText_4 : decode cX4_addText 4 = .ok (.invokevirtual 122, 3) := by decide +kernel
theorem w_6_169 : (Jvm.Cond.methodLink "SpillForge$Listing" (122 : Nat) ({ cls := "java/lang/String", name := "length", desc := "()I" } : Jvm.MethodName)) ∈ gw := gw_6 169 rfl rfl
theorem d_cX4_addText_7 : decode cX4_addText 7 = .ok (.if_icmp .ge 18, 3) := by decide +kernel
theorem d_cX4_addText_25 : decode cX4_addText 25 = .ok (.return_, 1) := by decide +kernel
theorem d_cX4_addText_10 : decode cX4_addText 10 = .ok (.aload_n 0, 1) := by decide +kernel
theorem d_cX4_addText_11 : decode cX4_addText 11 = .ok (.aload_n 1, 1) := by decide +kernel
theorem d_cX4_addText_12 : decode cX4_addText 12 = .ok (.iload_n 2, 1) := by decide +kernel
theorem d_cX4_addText_13 : decode cX4_addText 13 = .ok (.invokevirtual 113, 3) := by decide +kernel
theorem w_6_170 : (Jvm.Cond.methodLink "SpillForge$Listing" (113 : Nat) ({ cls := "java/lang/String", name := "charAt", desc := "(I)C" } : Jvm.MethodName)) ∈ gw := gw_6 170 rfl rfl
theorem d_cX4_addText_16 : decode cX4_addText 16 = .ok (.invokevirtual 55, 3) := by decide +kernel
theorem w_6_171 : (Jvm.Cond.methodLink "SpillForge$Listing" (55 : Nat) ({ cls := "SpillForge$Listing", name := "addByte", desc := "(C)V" } : Jvm.MethodName)) ∈ gw := gw_6 171 rfl rfl
theorem w_1_13 : (Jvm.Cond.initialized "SpillForge$Listing") ∈ gw := gw_1 13 rfl rfl
theorem w_6_174 : (Jvm.Cond.code ({ cls := "SpillForge$Listing", name := "addByte", desc := "(C)V" } : Jvm.MethodName) prog_6_method_13_code (2 : Nat) (Option.none : Option Jvm.ClassFile.FieldType)) ∈ gw := gw_6 174 rfl rfl
theorem w_6_173 : (Jvm.Cond.instanceMethod ({ cls := "SpillForge$Listing", name := "addByte", desc := "(C)V" } : Jvm.MethodName)) ∈ gw := gw_6 173 rfl rfl
theorem w_p_66 : Cond.selects "SpillForge$Listing" ⟨"SpillForge$Listing", "addByte", "(C)V"⟩ ⟨"SpillForge$Listing", "addByte", "(C)V"⟩ ∈ gw := gw_p _ 66 rfl rfl rfl
theorem d_cX4_addText_19 : decode cX4_addText 19 = .ok (.iinc 2 1, 3) := by decide +kernel
theorem d_cX4_addText_22 : decode cX4_addText 22 = .ok (.goto (-20), 3) := by decide +kernel
theorem d_cJ9_abs_067f4_0 : decode cJ9_abs_067f4 0 = .ok (.lload_n 0, 1) := by decide +kernel
theorem d_cJ9_abs_067f4_1 : decode cJ9_abs_067f4 1 = .ok (.lconst 0, 1) := by decide +kernel
theorem d_cJ9_abs_067f4_2 : decode cJ9_abs_067f4 2 = .ok (.lcmp, 1) := by decide +kernel
theorem d_cJ9_abs_067f4_3 : decode cJ9_abs_067f4 3 = .ok (.ifCond .ge 8, 3) := by decide +kernel
theorem d_cJ9_abs_067f4_11 : decode cJ9_abs_067f4 11 = .ok (.lload_n 0, 1) := by decide +kernel
theorem d_cJ9_abs_067f4_12 : decode cJ9_abs_067f4 12 = .ok (.lreturn, 1) := by decide +kernel
theorem d_cJ9_abs_067f4_6 : decode cJ9_abs_067f4 6 = .ok (.lload_n 0, 1) := by decide +kernel
theorem d_cJ9_abs_067f4_7 : decode cJ9_abs_067f4 7 = .ok (.lneg, 1) := by decide +kernel
theorem d_cJ9_abs_067f4_8 : decode cJ9_abs_067f4 8 = .ok (.goto 4, 3) := by decide +kernel
theorem d_cX4_addNumber_0 : decode cX4_addNumber 0 = .ok (.iload_n 1, 1) := by decide +kernel
theorem d_cX4_addNumber_1 : decode cX4_addNumber 1 = .ok (.ifCond .ge 9, 3) := by decide +kernel
theorem d_cX4_addNumber_10 : decode cX4_addNumber 10 = .ok (.iload_n 1, 1) := by decide +kernel
theorem d_cX4_addNumber_11 : decode cX4_addNumber 11 = .ok (.i2l, 1) := by decide +kernel
theorem d_cX4_addNumber_12 : decode cX4_addNumber 12 = .ok (.invokestatic 126, 3) := by decide +kernel
theorem w_6_179 : (Jvm.Cond.methodLink "SpillForge$Listing" (126 : Nat) ({ cls := "java/lang/Math", name := "abs", desc := "(J)J" } : Jvm.MethodName)) ∈ gw := gw_6 179 rfl rfl
theorem w_6_181 : (Jvm.Cond.code ({ cls := "java/lang/Math", name := "abs", desc := "(J)J" } : Jvm.MethodName) prog_32_method_61_code (2 : Nat) (Option.some Jvm.ClassFile.FieldType.long)) ∈ gw := gw_6 181 rfl rfl
theorem w_6_180 : (Jvm.Cond.static ({ cls := "java/lang/Math", name := "abs", desc := "(J)J" } : Jvm.MethodName)) ∈ gw := gw_6 180 rfl rfl
theorem d_cX4_addNumber_15 : decode cX4_addNumber 15 = .ok (.lstore_n 2, 1) := by decide +kernel
theorem d_cX4_addNumber_16 : decode cX4_addNumber 16 = .ok (.lconst 1, 1) := by decide +kernel
theorem d_cX4_addNumber_17 : decode cX4_addNumber 17 = .ok (.lstore 4, 2) := by decide +kernel
theorem d_cX4_addNumber_19 : decode cX4_addNumber 19 = .ok (.iconst 0, 1) := by decide +kernel
theorem d_cX4_addNumber_20 : decode cX4_addNumber 20 = .ok (.istore 6, 2) := by decide +kernel
theorem d_cX4_addNumber_22 : decode cX4_addNumber 22 = .ok (.iload 6, 2) := by decide +kernel
theorem d_cX4_addNumber_24 : decode cX4_addNumber 24 = .ok (.bipush 9, 2) := by decide +kernel
theorem d_cX4_addNumber_26 : decode cX4_addNumber 26 = .ok (.if_icmp .ge 28, 3) := by decide +kernel
theorem d_cX4_addNumber_54 : decode cX4_addNumber 54 = .ok (.iconst 0, 1) := by decide +kernel
theorem d_cX4_addNumber_55 : decode cX4_addNumber 55 = .ok (.istore 6, 2) := by decide +kernel
theorem d_cX4_addNumber_57 : decode cX4_addNumber 57 = .ok (.iload 6, 2) := by decide +kernel
theorem d_cX4_addNumber_59 : decode cX4_addNumber 59 = .ok (.bipush 10, 2) := by decide +kernel
theorem d_cX4_addNumber_61 : decode cX4_addNumber 61 = .ok (.if_icmp .ge 42, 3) := by decide +kernel
theorem d_cX4_addNumber_103 : decode cX4_addNumber 103 = .ok (.return_, 1) := by decide +kernel
theorem d_cX4_addNumber_64 : decode cX4_addNumber 64 = .ok (.lload 4, 2) := by decide +kernel
theorem d_cX4_addNumber_66 : decode cX4_addNumber 66 = .ok (.lconst 0, 1) := by decide +kernel
theorem d_cX4_addNumber_67 : decode cX4_addNumber 67 = .ok (.lcmp, 1) := by decide +kernel
theorem d_cX4_addNumber_68 : decode cX4_addNumber 68 = .ok (.ifCond .le 35, 3) := by decide +kernel
theorem d_cX4_addNumber_71 : decode cX4_addNumber 71 = .ok (.aload_n 0, 1) := by decide +kernel
theorem d_cX4_addNumber_72 : decode cX4_addNumber 72 = .ok (.ldc2_w 134, 3) := by decide +kernel
theorem w_6_183 : (Jvm.Cond.constantLong "SpillForge$Listing" (134 : Nat) (48 : Int64)) ∈ gw := gw_6 183 rfl rfl
theorem d_cX4_addNumber_75 : decode cX4_addNumber 75 = .ok (.lload_n 2, 1) := by decide +kernel
theorem d_cX4_addNumber_76 : decode cX4_addNumber 76 = .ok (.lload 4, 2) := by decide +kernel
theorem d_cX4_addNumber_78 : decode cX4_addNumber 78 = .ok (.ldiv, 1) := by decide +kernel
theorem d_cX4_addNumber_79 : decode cX4_addNumber 79 = .ok (.ldc2_w 132, 3) := by decide +kernel
theorem w_6_182 : (Jvm.Cond.constantLong "SpillForge$Listing" (132 : Nat) (10 : Int64)) ∈ gw := gw_6 182 rfl rfl
theorem d_cX4_addNumber_82 : decode cX4_addNumber 82 = .ok (.lrem, 1) := by decide +kernel
theorem d_cX4_addNumber_83 : decode cX4_addNumber 83 = .ok (.ladd, 1) := by decide +kernel
theorem d_cX4_addNumber_84 : decode cX4_addNumber 84 = .ok (.l2i, 1) := by decide +kernel
theorem d_cX4_addNumber_85 : decode cX4_addNumber 85 = .ok (.i2c, 1) := by decide +kernel
theorem d_cX4_addNumber_86 : decode cX4_addNumber 86 = .ok (.invokevirtual 55, 3) := by decide +kernel
theorem d_cX4_addNumber_89 : decode cX4_addNumber 89 = .ok (.lload 4, 2) := by decide +kernel
theorem d_cX4_addNumber_91 : decode cX4_addNumber 91 = .ok (.ldc2_w 132, 3) := by decide +kernel
theorem d_cX4_addNumber_94 : decode cX4_addNumber 94 = .ok (.ldiv, 1) := by decide +kernel
theorem d_cX4_addNumber_95 : decode cX4_addNumber 95 = .ok (.lstore 4, 2) := by decide +kernel
theorem d_cX4_addNumber_97 : decode cX4_addNumber 97 = .ok (.iinc 6 1, 3) := by decide +kernel
theorem d_cX4_addNumber_100 : decode cX4_addNumber 100 = .ok (.goto (-43), 3) := by decide +kernel
theorem d_cX4_addNumber_29 : decode cX4_addNumber 29 = .ok (.lload 4, 2) := by decide +kernel
theorem d_cX4_addNumber_31 : decode cX4_addNumber 31 = .ok (.lload_n 2, 1) := by decide +kernel
theorem d_cX4_addNumber_32 : decode cX4_addNumber 32 = .ok (.ldc2_w 132, 3) := by decide +kernel
theorem d_cX4_addNumber_35 : decode cX4_addNumber 35 = .ok (.ldiv, 1) := by decide +kernel
theorem d_cX4_addNumber_36 : decode cX4_addNumber 36 = .ok (.lcmp, 1) := by decide +kernel
theorem d_cX4_addNumber_37 : decode cX4_addNumber 37 = .ok (.ifCond .gt 17, 3) := by decide +kernel
theorem d_cX4_addNumber_40 : decode cX4_addNumber 40 = .ok (.lload 4, 2) := by decide +kernel
theorem d_cX4_addNumber_42 : decode cX4_addNumber 42 = .ok (.ldc2_w 132, 3) := by decide +kernel
theorem d_cX4_addNumber_45 : decode cX4_addNumber 45 = .ok (.lmul, 1) := by decide +kernel
theorem d_cX4_addNumber_46 : decode cX4_addNumber 46 = .ok (.lstore 4, 2) := by decide +kernel
theorem d_cX4_addNumber_48 : decode cX4_addNumber 48 = .ok (.iinc 6 1, 3) := by decide +kernel
theorem d_cX4_addNumber_51 : decode cX4_addNumber 51 = .ok (.goto (-29), 3) := by decide +kernel
theorem d_cX4_addNumber_4 : decode cX4_addNumber 4 = .ok (.aload_n 0, 1) := by decide +kernel
theorem d_cX4_addNumber_5 : decode cX4_addNumber 5 = .ok (.bipush 45, 2) := by decide +kernel
theorem d_cX4_addNumber_7 : decode cX4_addNumber 7 = .ok (.invokevirtual 55, 3) := by decide +kernel
abbrev ky_5455_Reader_readInto : gKey := (cX8_readInto, 4, yX8_readInto.cls, (some FieldType.int), [], yX8_readInto.name, fun _ _ => True)
abbrev po_5455_Reader_readInto (I : FieldType → ClassId) (q5410 : Nat) (q5411 : Nat) (q5412 : Nat) (q5413 : Nat) (q5414 : Nat) (q5415 : Nat) (q5416 : Nat) (q5417 : Nat) (q5418 : Nat) (q5419 : Nat) (q5420 : Nat) (q5421 : Nat) (q5422 : Nat) (q5423 : Nat) (q5424 : Nat) (p5425 : Int32) (p5426 : Int32) (p5427 : Int32) (pl5428 : Int64) (p5429 : Int32) (p5430 : Int32) (p5431 : Int32) (p5432 : Int32) (p5433 : Int32) (p5434 : Int32) (p5435 : Int32) (p5436 : Int32) (p5437 : Int32) (p5438 : Int32) (p5439 : Int32) (p5440 : Int32) (p5441 : Int32) (f5442 : Nat → Int32) (f5443 : Nat → Int32) (f5444 : Nat → Int32) (f5445 : Nat → Int32) (f5446 : Nat → Int32) (f5447 : Nat → Int32) (f5448 : Nat → Int32) (f5449 : Nat → Int32) (f5450 : Nat → Int32) (f5451 : Nat → Int32) (p5452 : Int32) (f5453 : Nat → Int32) : Option Value → va_W → Prop := fun r w => ∃ (o7461 : Int32) (o7434 : Int32) (o7435 : Int32) (o7436 : Int32) (ol7437 : Int64) (o7438 : Int32) (o7439 : Int32) (o7440 : Int32) (o7441 : Int32) (o7442 : Int32) (o7443 : Int32) (o7444 : Int32) (o7445 : Int32) (o7446 : Int32) (o7447 : Int32) (o7448 : Int32) (o7449 : Int32) (o7450 : Int32) (f7451 : Nat → Int32) (f7452 : Nat → Int32) (f7453 : Nat → Int32) (f7454 : Nat → Int32) (f7455 : Nat → Int32) (f7456 : Nat → Int32) (f7457 : Nat → Int32) (f7458 : Nat → Int32) (f7459 : Nat → Int32) (f7460 : Nat → Int32), r = some (.int o7461) ∧ w = [(q5410, .inr (13, [.ref q5412, .ref q5413, .int o7434, .int o7435, .int o7436, .long ol7437, .int o7438, .int o7439, .int o7440, .int o7441, .int o7442, .int o7443])), (q5411, .inr (5, [.ref q5414, .ref q5415, .ref q5416, .ref q5417, .ref q5418, .ref q5419, .ref q5420, .ref q5421, .ref q5422, .int o7444, .int o7445, .int o7446])), (q5412, .inr (14, [.ref q5423, .int o7447, .int o7448, .int o7449, .int o7450])), (q5413, .inl (I .int, 80, .inl f7451)), (q5414, .inl (I .int, 40, .inl f7452)), (q5415, .inl (I .int, 40, .inl f7453)), (q5416, .inl (I .int, 40, .inl f7454)), (q5417, .inl (I .int, 200, .inl f7455)), (q5418, .inl (I .int, 200, .inl f7456)), (q5419, .inl (I .int, 200, .inl f7457)), (q5420, .inl (I .int, 200, .inl f7458)), (q5421, .inl (I .int, 200, .inl f7459)), (q5422, .inl (I .int, 200, .inl f7460)), (q5423, .inr (15, [.ref q5424, .int p5452])), (q5424, .inl (I .byte, 8192, .inl f5453))] ∧ gB o7461 (-2147483648) 2147483647 ∧ gB o7434 (-2147483648) 2147483647 ∧ gB o7435 (-2147483648) 2147483647 ∧ gB o7436 (-2147483648) 2147483647 ∧ gB o7438 (-2147483648) 2147483647 ∧ gB o7439 (-2147483648) 2147483647 ∧ gB o7440 0 13 ∧ gB o7441 (-2147483648) 2147483647 ∧ gB o7442 (-2147483648) 2147483647 ∧ gB o7443 (-2147483648) 2147483647 ∧ gB o7444 0 40 ∧ gB o7445 0 200 ∧ gB o7446 0 1 ∧ gB o7447 0 12 ∧ gB o7448 (-2147483648) 2147483647 ∧ gB o7449 (-2147483648) 8192 ∧ gB o7450 (-2147483648) 2147483647 ∧ gF f7451 (-2147483648) 2147483647 ∧ gF f7452 0 200 ∧ gF f7453 (-2147483648) 2147483647 ∧ gF f7454 (-2147483648) 2147483647 ∧ gF f7455 0 21 ∧ gF f7456 (-2147483648) 2147483647 ∧ gF f7457 (-2147483648) 2147483647 ∧ gF f7458 (-2147483648) 2147483647 ∧ gF f7459 (-2147483648) 2147483647 ∧ gF f7460 (-2147483648) 2147483647 ∧ (o7447.toInt ≠ 5 ∨ (0 ≤ o7448.toInt ∧ o7448.toInt ≤ 13))
set_option maxRecDepth 100000 in
set_option maxHeartbeats 4000000 in
theorem ct_5455_Reader_readInto (l : Launch) (hl0 : l.stackTraces = false) (D : va_G) (I : FieldType → ClassId) (q5410 : Nat) (q5411 : Nat) (q5412 : Nat) (q5413 : Nat) (q5414 : Nat) (q5415 : Nat) (q5416 : Nat) (q5417 : Nat) (q5418 : Nat) (q5419 : Nat) (q5420 : Nat) (q5421 : Nat) (q5422 : Nat) (q5423 : Nat) (q5424 : Nat) (p5425 : Int32) (p5426 : Int32) (p5427 : Int32) (pl5428 : Int64) (p5429 : Int32) (p5430 : Int32) (p5431 : Int32) (p5432 : Int32) (p5433 : Int32) (p5434 : Int32) (p5435 : Int32) (p5436 : Int32) (p5437 : Int32) (p5438 : Int32) (p5439 : Int32) (p5440 : Int32) (p5441 : Int32) (f5442 : Nat → Int32) (f5443 : Nat → Int32) (f5444 : Nat → Int32) (f5445 : Nat → Int32) (f5446 : Nat → Int32) (f5447 : Nat → Int32) (f5448 : Nat → Int32) (f5449 : Nat → Int32) (f5450 : Nat → Int32) (f5451 : Nat → Int32) (p5452 : Int32) (f5453 : Nat → Int32) (bp5431 : gB p5431 0 13) (bp5435 : gB p5435 0 40) (bp5436 : gB p5436 0 200) (bp5437 : gB p5437 0 1) (bf5443 : gF f5443 0 200) (bf5446 : gF f5446 0 21) (bp5452 : gB p5452 0 8192) (bf5453 : gF f5453 (-128) 127) (x5454 : (p5438.toInt ≠ 5 ∨ (0 ≤ p5439.toInt ∧ p5439.toInt ≤ 13))) : Ct (gV D I) l yX8_readInto cX8_readInto 4 (some FieldType.int) 8 173 0 0 [.ref q5410, .ref q5411] [(q5410, .inr (13, [.ref q5412, .ref q5413, .int p5425, .int p5426, .int p5427, .long pl5428, .int p5429, .int p5430, .int p5431, .int p5432, .int p5433, .int p5434])), (q5411, .inr (5, [.ref q5414, .ref q5415, .ref q5416, .ref q5417, .ref q5418, .ref q5419, .ref q5420, .ref q5421, .ref q5422, .int p5435, .int p5436, .int p5437])), (q5412, .inr (14, [.ref q5423, .int p5438, .int p5439, .int p5440, .int p5441])), (q5413, .inl (I .int, 80, .inl f5442)), (q5414, .inl (I .int, 40, .inl f5443)), (q5415, .inl (I .int, 40, .inl f5444)), (q5416, .inl (I .int, 40, .inl f5445)), (q5417, .inl (I .int, 200, .inl f5446)), (q5418, .inl (I .int, 200, .inl f5447)), (q5419, .inl (I .int, 200, .inl f5448)), (q5420, .inl (I .int, 200, .inl f5449)), (q5421, .inl (I .int, 200, .inl f5450)), (q5422, .inl (I .int, 200, .inl f5451)), (q5423, .inr (15, [.ref q5424, .int p5452])), (q5424, .inl (I .byte, 8192, .inl f5453))] (po_5455_Reader_readInto I q5410 q5411 q5412 q5413 q5414 q5415 q5416 q5417 q5418 q5419 q5420 q5421 q5422 q5423 q5424 p5425 p5426 p5427 pl5428 p5429 p5430 p5431 p5432 p5433 p5434 p5435 p5436 p5437 p5438 p5439 p5440 p5441 f5442 f5443 f5444 f5445 f5446 f5447 f5448 f5449 f5450 f5451 p5452 f5453) gN := by
  refine Ct_of hl0 (by decide) (Nat.le_of_ble_eq_true rfl) ?_
  have bp5425 := gB_any p5425
  have bp5426 := gB_any p5426
  have bp5427 := gB_any p5427
  have bp5429 := gB_any p5429
  have bp5430 := gB_any p5430
  have bp5432 := gB_any p5432
  have bp5433 := gB_any p5433
  have bp5434 := gB_any p5434
  have bp5438 := gB_any p5438
  have bp5439 := gB_any p5439
  have bp5440 := gB_any p5440
  have bp5441 := gB_any p5441
  refine G_aload_n 1 d_cX8_readInto_0 rfl ?_
  refine G_callV (As := []) (wr := [(q5410, .inr (13, [.ref q5412, .ref q5413, .int p5425, .int p5426, .int p5427, .long pl5428, .int p5429, .int p5430, .int p5431, .int p5432, .int p5433, .int p5434])), (q5412, .inr (14, [.ref q5423, .int p5438, .int p5439, .int p5440, .int p5441])), (q5413, .inl (I .int, 80, .inl f5442)), (q5423, .inr (15, [.ref q5424, .int p5452])), (q5424, .inl (I .byte, 8192, .inl f5453))]) (gV_ok D I) (ct_696_Code_clear l hl0 D I q5411 q5414 q5415 q5416 q5417 q5418 q5419 q5420 q5421 q5422 p5435 p5436 p5437 f5443 f5444 f5445 f5446 f5447 f5448 f5449 f5450 f5451 bp5435 bp5436 bp5437 bf5443 bf5446) d_cX8_readInto_1 ⟨w_3_0, w_1_5, w_3_3, by decide, rfl, (Nat.le_of_ble_eq_true rfl), (Nat.le_of_ble_eq_true rfl)⟩ w_3_1 w_3_2 1 rfl rfl [1, 4, 5, 6, 7, 8, 9, 10, 11, 12] [0, 2, 3, 13, 14] rfl rfl rfl rfl (by decide) (Nat.le_of_ble_eq_true rfl) (Nat.le_of_ble_eq_true rfl) (Nat.le_of_ble_eq_true rfl) (fun r w hp => ?_) (fun _ _ _ z => z.elim)
  obtain ⟨o5456, o5457, o5458, rfl, rfl, bo5456, bo5457, bo5458⟩ := hp
  change G _ _ _ _ _ _ _ _ _ _ _
  refine G_ws (ws' := [(q5410, .inr (13, [.ref q5412, .ref q5413, .int p5425, .int p5426, .int p5427, .long pl5428, .int p5429, .int p5430, .int p5431, .int p5432, .int p5433, .int p5434])), (q5412, .inr (14, [.ref q5423, .int p5438, .int p5439, .int p5440, .int p5441])), (q5413, .inl (I .int, 80, .inl f5442)), (q5423, .inr (15, [.ref q5424, .int p5452])), (q5424, .inl (I .byte, 8192, .inl f5453)), (q5411, .inr (5, [.ref q5414, .ref q5415, .ref q5416, .ref q5417, .ref q5418, .ref q5419, .ref q5420, .ref q5421, .ref q5422, .int o5456, .int o5457, .int o5458])), (q5414, .inl (I .int, 40, .inl f5443)), (q5415, .inl (I .int, 40, .inl f5444)), (q5416, .inl (I .int, 40, .inl f5445)), (q5417, .inl (I .int, 200, .inl f5446)), (q5418, .inl (I .int, 200, .inl f5447)), (q5419, .inl (I .int, 200, .inl f5448)), (q5420, .inl (I .int, 200, .inl f5449)), (q5421, .inl (I .int, 200, .inl f5450)), (q5422, .inl (I .int, 200, .inl f5451))]) (cs' := 0) (sl' := 0) rfl rfl rfl ?_
  refine G_aload_n 0 d_cX8_readInto_4 rfl ?_
  refine G_lconst 0 d_cX8_readInto_5 rfl ?_
  refine G_putf (ws' := [(q5410, .inr (13, [.ref q5412, .ref q5413, .int p5425, .int p5426, .int p5427, .long 0, .int p5429, .int p5430, .int p5431, .int p5432, .int p5433, .int p5434])), (q5412, .inr (14, [.ref q5423, .int p5438, .int p5439, .int p5440, .int p5441])), (q5413, .inl (I .int, 80, .inl f5442)), (q5423, .inr (15, [.ref q5424, .int p5452])), (q5424, .inl (I .byte, 8192, .inl f5453)), (q5411, .inr (5, [.ref q5414, .ref q5415, .ref q5416, .ref q5417, .ref q5418, .ref q5419, .ref q5420, .ref q5421, .ref q5422, .int o5456, .int o5457, .int o5458])), (q5414, .inl (I .int, 40, .inl f5443)), (q5415, .inl (I .int, 40, .inl f5444)), (q5416, .inl (I .int, 40, .inl f5445)), (q5417, .inl (I .int, 200, .inl f5446)), (q5418, .inl (I .int, 200, .inl f5447)), (q5419, .inl (I .int, 200, .inl f5448)), (q5420, .inl (I .int, 200, .inl f5449)), (q5421, .inl (I .int, 200, .inl f5450)), (q5422, .inl (I .int, 200, .inl f5451))]) 0 5 d_cX8_readInto_6 rfl (gk_X8 D I) (Nat.le_of_ble_eq_true rfl) w_1_101 rfl rfl rfl (Nat.le_of_ble_eq_true rfl) rfl ?_
  refine G_aload_n 0 d_cX8_readInto_9 rfl ?_
  refine G_iconst 0 d_cX8_readInto_10 (by decide +kernel) ?_
  refine G_putf (ws' := [(q5410, .inr (13, [.ref q5412, .ref q5413, .int p5425, .int p5426, .int p5427, .long 0, .int 0, .int p5430, .int p5431, .int p5432, .int p5433, .int p5434])), (q5412, .inr (14, [.ref q5423, .int p5438, .int p5439, .int p5440, .int p5441])), (q5413, .inl (I .int, 80, .inl f5442)), (q5423, .inr (15, [.ref q5424, .int p5452])), (q5424, .inl (I .byte, 8192, .inl f5453)), (q5411, .inr (5, [.ref q5414, .ref q5415, .ref q5416, .ref q5417, .ref q5418, .ref q5419, .ref q5420, .ref q5421, .ref q5422, .int o5456, .int o5457, .int o5458])), (q5414, .inl (I .int, 40, .inl f5443)), (q5415, .inl (I .int, 40, .inl f5444)), (q5416, .inl (I .int, 40, .inl f5445)), (q5417, .inl (I .int, 200, .inl f5446)), (q5418, .inl (I .int, 200, .inl f5447)), (q5419, .inl (I .int, 200, .inl f5448)), (q5420, .inl (I .int, 200, .inl f5449)), (q5421, .inl (I .int, 200, .inl f5450)), (q5422, .inl (I .int, 200, .inl f5451))]) 0 6 d_cX8_readInto_11 rfl (gk_X8 D I) (Nat.le_of_ble_eq_true rfl) w_1_102 rfl rfl rfl (Nat.le_of_ble_eq_true rfl) rfl ?_
  refine G_aload_n 0 d_cX8_readInto_14 rfl ?_
  refine G_iconst (-1) d_cX8_readInto_15 (by decide +kernel) ?_
  refine G_putf (ws' := [(q5410, .inr (13, [.ref q5412, .ref q5413, .int p5425, .int (-1), .int p5427, .long 0, .int 0, .int p5430, .int p5431, .int p5432, .int p5433, .int p5434])), (q5412, .inr (14, [.ref q5423, .int p5438, .int p5439, .int p5440, .int p5441])), (q5413, .inl (I .int, 80, .inl f5442)), (q5423, .inr (15, [.ref q5424, .int p5452])), (q5424, .inl (I .byte, 8192, .inl f5453)), (q5411, .inr (5, [.ref q5414, .ref q5415, .ref q5416, .ref q5417, .ref q5418, .ref q5419, .ref q5420, .ref q5421, .ref q5422, .int o5456, .int o5457, .int o5458])), (q5414, .inl (I .int, 40, .inl f5443)), (q5415, .inl (I .int, 40, .inl f5444)), (q5416, .inl (I .int, 40, .inl f5445)), (q5417, .inl (I .int, 200, .inl f5446)), (q5418, .inl (I .int, 200, .inl f5447)), (q5419, .inl (I .int, 200, .inl f5448)), (q5420, .inl (I .int, 200, .inl f5449)), (q5421, .inl (I .int, 200, .inl f5450)), (q5422, .inl (I .int, 200, .inl f5451))]) 0 3 d_cX8_readInto_16 rfl (gk_X8 D I) (Nat.le_of_ble_eq_true rfl) w_1_99 rfl rfl rfl (Nat.le_of_ble_eq_true rfl) rfl ?_
  refine G_aload_n 0 d_cX8_readInto_19 rfl ?_
  refine G_iconst 0 d_cX8_readInto_20 (by decide +kernel) ?_
  refine G_putf (ws' := [(q5410, .inr (13, [.ref q5412, .ref q5413, .int p5425, .int (-1), .int 0, .long 0, .int 0, .int p5430, .int p5431, .int p5432, .int p5433, .int p5434])), (q5412, .inr (14, [.ref q5423, .int p5438, .int p5439, .int p5440, .int p5441])), (q5413, .inl (I .int, 80, .inl f5442)), (q5423, .inr (15, [.ref q5424, .int p5452])), (q5424, .inl (I .byte, 8192, .inl f5453)), (q5411, .inr (5, [.ref q5414, .ref q5415, .ref q5416, .ref q5417, .ref q5418, .ref q5419, .ref q5420, .ref q5421, .ref q5422, .int o5456, .int o5457, .int o5458])), (q5414, .inl (I .int, 40, .inl f5443)), (q5415, .inl (I .int, 40, .inl f5444)), (q5416, .inl (I .int, 40, .inl f5445)), (q5417, .inl (I .int, 200, .inl f5446)), (q5418, .inl (I .int, 200, .inl f5447)), (q5419, .inl (I .int, 200, .inl f5448)), (q5420, .inl (I .int, 200, .inl f5449)), (q5421, .inl (I .int, 200, .inl f5450)), (q5422, .inl (I .int, 200, .inl f5451))]) 0 4 d_cX8_readInto_21 rfl (gk_X8 D I) (Nat.le_of_ble_eq_true rfl) w_1_100 rfl rfl rfl (Nat.le_of_ble_eq_true rfl) rfl ?_
  refine G_aload_n 0 d_cX8_readInto_24 rfl ?_
  refine G_iconst 0 d_cX8_readInto_25 (by decide +kernel) ?_
  refine G_putf (ws' := [(q5410, .inr (13, [.ref q5412, .ref q5413, .int p5425, .int (-1), .int 0, .long 0, .int 0, .int 0, .int p5431, .int p5432, .int p5433, .int p5434])), (q5412, .inr (14, [.ref q5423, .int p5438, .int p5439, .int p5440, .int p5441])), (q5413, .inl (I .int, 80, .inl f5442)), (q5423, .inr (15, [.ref q5424, .int p5452])), (q5424, .inl (I .byte, 8192, .inl f5453)), (q5411, .inr (5, [.ref q5414, .ref q5415, .ref q5416, .ref q5417, .ref q5418, .ref q5419, .ref q5420, .ref q5421, .ref q5422, .int o5456, .int o5457, .int o5458])), (q5414, .inl (I .int, 40, .inl f5443)), (q5415, .inl (I .int, 40, .inl f5444)), (q5416, .inl (I .int, 40, .inl f5445)), (q5417, .inl (I .int, 200, .inl f5446)), (q5418, .inl (I .int, 200, .inl f5447)), (q5419, .inl (I .int, 200, .inl f5448)), (q5420, .inl (I .int, 200, .inl f5449)), (q5421, .inl (I .int, 200, .inl f5450)), (q5422, .inl (I .int, 200, .inl f5451))]) 0 7 d_cX8_readInto_26 rfl (gk_X8 D I) (Nat.le_of_ble_eq_true rfl) w_1_103 rfl rfl rfl (Nat.le_of_ble_eq_true rfl) rfl ?_
  refine G_aload_n 0 d_cX8_readInto_29 rfl ?_
  refine G_getf 0 0 d_cX8_readInto_30 rfl (gk_X8 D I) (Nat.le_of_ble_eq_true rfl) w_1_96 rfl ?_
  refine G_callV (As := []) (wr := [(q5410, .inr (13, [.ref q5412, .ref q5413, .int p5425, .int (-1), .int 0, .long 0, .int 0, .int 0, .int p5431, .int p5432, .int p5433, .int p5434])), (q5413, .inl (I .int, 80, .inl f5442)), (q5411, .inr (5, [.ref q5414, .ref q5415, .ref q5416, .ref q5417, .ref q5418, .ref q5419, .ref q5420, .ref q5421, .ref q5422, .int o5456, .int o5457, .int o5458])), (q5414, .inl (I .int, 40, .inl f5443)), (q5415, .inl (I .int, 40, .inl f5444)), (q5416, .inl (I .int, 40, .inl f5445)), (q5417, .inl (I .int, 200, .inl f5446)), (q5418, .inl (I .int, 200, .inl f5447)), (q5419, .inl (I .int, 200, .inl f5448)), (q5420, .inl (I .int, 200, .inl f5449)), (q5421, .inl (I .int, 200, .inl f5450)), (q5422, .inl (I .int, 200, .inl f5451))]) (gV_ok D I) (ct_5400_Signs_open l hl0 D I q5412 q5423 q5424 p5438 p5439 p5440 p5441 p5452 f5453 bp5452 bf5453 (by have qa0 : Int32.toInt (-1) = (-1) := (by decide); have qa1 : Int32.toInt 0 = 0 := (by decide); omega)) d_cX8_readInto_33 ⟨w_3_4, w_1_4, w_3_7, by decide, rfl, (Nat.le_of_ble_eq_true rfl), (Nat.le_of_ble_eq_true rfl)⟩ w_3_5 w_3_6 1 rfl rfl [1, 3, 4] [0, 2, 5, 6, 7, 8, 9, 10, 11, 12, 13, 14] rfl rfl rfl rfl (by decide) (Nat.le_of_ble_eq_true rfl) (Nat.le_of_ble_eq_true rfl) (Nat.le_of_ble_eq_true rfl) (fun r w hp => ?_) (fun _ _ _ z => z.elim)
  obtain ⟨o5459, o5460, o5461, o5462, rfl, rfl, bo5459, bo5460, bo5461, bo5462, x5463⟩ := hp
  change G _ _ _ _ _ _ _ _ _ _ _
  refine G_ws (ws' := [(q5410, .inr (13, [.ref q5412, .ref q5413, .int p5425, .int (-1), .int 0, .long 0, .int 0, .int 0, .int p5431, .int p5432, .int p5433, .int p5434])), (q5413, .inl (I .int, 80, .inl f5442)), (q5411, .inr (5, [.ref q5414, .ref q5415, .ref q5416, .ref q5417, .ref q5418, .ref q5419, .ref q5420, .ref q5421, .ref q5422, .int o5456, .int o5457, .int o5458])), (q5414, .inl (I .int, 40, .inl f5443)), (q5415, .inl (I .int, 40, .inl f5444)), (q5416, .inl (I .int, 40, .inl f5445)), (q5417, .inl (I .int, 200, .inl f5446)), (q5418, .inl (I .int, 200, .inl f5447)), (q5419, .inl (I .int, 200, .inl f5448)), (q5420, .inl (I .int, 200, .inl f5449)), (q5421, .inl (I .int, 200, .inl f5450)), (q5422, .inl (I .int, 200, .inl f5451)), (q5412, .inr (14, [.ref q5423, .int o5459, .int o5460, .int o5461, .int o5462])), (q5423, .inr (15, [.ref q5424, .int p5452])), (q5424, .inl (I .byte, 8192, .inl f5453))]) (cs' := 0) (sl' := 0) rfl rfl rfl ?_
  refine G_iconst 1 d_cX8_readInto_36 (by decide +kernel) ?_
  refine G_istore_n (L' := [(2, .int 1), (0, .ref q5410), (1, .ref q5411)]) d_cX8_readInto_37 (Nat.le_of_ble_eq_true rfl) rfl ?_
  refine G_iconst 0 d_cX8_readInto_38 (by decide +kernel) ?_
  refine G_istore_n (L' := [(3, .int 0), (2, .int 1), (0, .ref q5410), (1, .ref q5411)]) d_cX8_readInto_39 (Nat.le_of_ble_eq_true rfl) rfl ?_
  have hlp40_7378 : ∀ (n40_7378 : Nat) (g7350 : Int32) (g7351 : Int32) (g7352 : Int32) (g7353 : Int32) (gl7354 : Int64) (g7355 : Int32) (g7356 : Int32) (g7357 : Int32) (g7358 : Int32) (g7359 : Int32) (g7360 : Int32) (f7361 : Nat → Int32) (g7362 : Int32) (g7363 : Int32) (g7364 : Int32) (f7365 : Nat → Int32) (f7366 : Nat → Int32) (f7367 : Nat → Int32) (f7368 : Nat → Int32) (f7369 : Nat → Int32) (f7370 : Nat → Int32) (f7371 : Nat → Int32) (f7372 : Nat → Int32) (f7373 : Nat → Int32) (g7374 : Int32) (g7375 : Int32) (g7376 : Int32) (g7377 : Int32), gB g7350 0 8192 → gB g7351 0 1 → gB g7352 (-2147483648) 2147483647 → gB g7353 (-2147483648) 2147483647 → gB g7355 (-2147483648) 2147483647 → gB g7356 (-2147483648) 2147483647 → gB g7357 0 13 → gB g7358 (-2147483648) 2147483647 → gB g7359 (-2147483648) 2147483647 → gB g7360 (-2147483648) 2147483647 → gF f7361 (-2147483648) 2147483647 → gB g7362 0 40 → gB g7363 0 200 → gB g7364 0 1 → gF f7365 0 200 → gF f7366 (-2147483648) 2147483647 → gF f7367 (-2147483648) 2147483647 → gF f7368 0 21 → gF f7369 (-2147483648) 2147483647 → gF f7370 (-2147483648) 2147483647 → gF f7371 (-2147483648) 2147483647 → gF f7372 (-2147483648) 2147483647 → gF f7373 (-2147483648) 2147483647 → gB g7374 0 12 → gB g7375 (-2147483648) 2147483647 → gB g7376 (-2147483648) 8192 → gB g7377 (-2147483648) 2147483647 → (g7374.toInt ≠ 5 ∨ (0 ≤ g7375.toInt ∧ g7375.toInt ≤ 13)) → ((8193 : Int) - g7350.toInt).toNat < n40_7378 → G (gV D I) l (gRm 8 173 0 0) (gM (gV D I) (po_5455_Reader_readInto I q5410 q5411 q5412 q5413 q5414 q5415 q5416 q5417 q5418 q5419 q5420 q5421 q5422 q5423 q5424 p5425 p5426 p5427 pl5428 p5429 p5430 p5431 p5432 p5433 p5434 p5435 p5436 p5437 p5438 p5439 p5440 p5441 f5442 f5443 f5444 f5445 f5446 f5447 f5448 f5449 f5450 f5451 p5452 f5453) gN 0 0) ky_5455_Reader_readInto 40 [(3, .int g7350), (2, .int g7351), (0, .ref q5410), (1, .ref q5411)] [] [(q5410, .inr (13, [.ref q5412, .ref q5413, .int p5425, .int g7352, .int g7353, .long gl7354, .int g7355, .int g7356, .int g7357, .int g7358, .int g7359, .int g7360])), (q5413, .inl (I .int, 80, .inl f7361)), (q5411, .inr (5, [.ref q5414, .ref q5415, .ref q5416, .ref q5417, .ref q5418, .ref q5419, .ref q5420, .ref q5421, .ref q5422, .int g7362, .int g7363, .int g7364])), (q5414, .inl (I .int, 40, .inl f7365)), (q5415, .inl (I .int, 40, .inl f7366)), (q5416, .inl (I .int, 40, .inl f7367)), (q5417, .inl (I .int, 200, .inl f7368)), (q5418, .inl (I .int, 200, .inl f7369)), (q5419, .inl (I .int, 200, .inl f7370)), (q5420, .inl (I .int, 200, .inl f7371)), (q5421, .inl (I .int, 200, .inl f7372)), (q5422, .inl (I .int, 200, .inl f7373)), (q5412, .inr (14, [.ref q5423, .int g7374, .int g7375, .int g7376, .int g7377])), (q5423, .inr (15, [.ref q5424, .int p5452])), (q5424, .inl (I .byte, 8192, .inl f5453))] 0 0 := by
    intro n40_7378
    induction n40_7378 with
    | zero => intro g7350 g7351 g7352 g7353 gl7354 g7355 g7356 g7357 g7358 g7359 g7360 f7361 g7362 g7363 g7364 f7365 f7366 f7367 f7368 f7369 f7370 f7371 f7372 f7373 g7374 g7375 g7376 g7377 bg7350 bg7351 bg7352 bg7353 bg7355 bg7356 bg7357 bg7358 bg7359 bg7360 bf7361 bg7362 bg7363 bg7364 bf7365 bf7366 bf7367 bf7368 bf7369 bf7370 bf7371 bf7372 bf7373 bg7374 bg7375 bg7376 bg7377 x7378 hm40_7378; exact absurd hm40_7378 (Nat.not_lt_zero _)
    | succ n40_7378 ih40_7378 =>
      intro g7350 g7351 g7352 g7353 gl7354 g7355 g7356 g7357 g7358 g7359 g7360 f7361 g7362 g7363 g7364 f7365 f7366 f7367 f7368 f7369 f7370 f7371 f7372 f7373 g7374 g7375 g7376 g7377 bg7350 bg7351 bg7352 bg7353 bg7355 bg7356 bg7357 bg7358 bg7359 bg7360 bf7361 bg7362 bg7363 bg7364 bf7365 bf7366 bf7367 bf7368 bf7369 bf7370 bf7371 bf7372 bf7373 bg7374 bg7375 bg7376 bg7377 x7378 hm40_7378
      refine G_iload_n 0 d_cX8_readInto_40 rfl ?_
      refine G_sipush 8192 d_cX8_readInto_41 (by decide +kernel) ?_
      refine G_icmp_ge 85 d_cX8_readInto_44 (by decide +kernel) (fun hc7379 => ?_) (fun hc7379 => ?_)
      · have r7380 : 8192 ≤ g7350.toInt := gj_leL hc7379 (show Int32.toInt 8192 = 8192 by decide)
        have bg7350' : gB g7350 8192 8192 := ⟨by omega, by omega⟩
        refine G_iload_n 1 d_cX8_readInto_85 rfl ?_
        refine G_if_eq 97 d_cX8_readInto_86 (by decide +kernel) (fun hc7381 => ?_) (fun hc7381 => ?_)
        · have r7382 : g7351.toInt = 0 := gj_eq hc7381 (show Int32.toInt 0 = 0 by decide)
          have bg7351' : gB g7351 0 0 := ⟨by omega, by omega⟩
          refine G_aload_n 2 d_cX8_readInto_97 rfl ?_
          refine G_iconst 1 d_cX8_readInto_98 (by decide +kernel) ?_
          refine G_putf (ws' := [(q5410, .inr (13, [.ref q5412, .ref q5413, .int 1, .int g7352, .int g7353, .long gl7354, .int g7355, .int g7356, .int g7357, .int g7358, .int g7359, .int g7360])), (q5413, .inl (I .int, 80, .inl f7361)), (q5411, .inr (5, [.ref q5414, .ref q5415, .ref q5416, .ref q5417, .ref q5418, .ref q5419, .ref q5420, .ref q5421, .ref q5422, .int g7362, .int g7363, .int g7364])), (q5414, .inl (I .int, 40, .inl f7365)), (q5415, .inl (I .int, 40, .inl f7366)), (q5416, .inl (I .int, 40, .inl f7367)), (q5417, .inl (I .int, 200, .inl f7368)), (q5418, .inl (I .int, 200, .inl f7369)), (q5419, .inl (I .int, 200, .inl f7370)), (q5420, .inl (I .int, 200, .inl f7371)), (q5421, .inl (I .int, 200, .inl f7372)), (q5422, .inl (I .int, 200, .inl f7373)), (q5412, .inr (14, [.ref q5423, .int g7374, .int g7375, .int g7376, .int g7377])), (q5423, .inr (15, [.ref q5424, .int p5452])), (q5424, .inl (I .byte, 8192, .inl f5453))]) 0 2 d_cX8_readInto_99 rfl (gk_X8 D I) (Nat.le_of_ble_eq_true rfl) w_1_98 rfl rfl rfl (Nat.le_of_ble_eq_true rfl) rfl ?_
          refine G_aload_n 2 d_cX8_readInto_102 rfl ?_
          refine G_getf 0 0 d_cX8_readInto_103 rfl (gk_X8 D I) (Nat.le_of_ble_eq_true rfl) w_1_96 rfl ?_
          refine G_callV (As := []) (wr := [(q5410, .inr (13, [.ref q5412, .ref q5413, .int 1, .int g7352, .int g7353, .long gl7354, .int g7355, .int g7356, .int g7357, .int g7358, .int g7359, .int g7360])), (q5413, .inl (I .int, 80, .inl f7361)), (q5411, .inr (5, [.ref q5414, .ref q5415, .ref q5416, .ref q5417, .ref q5418, .ref q5419, .ref q5420, .ref q5421, .ref q5422, .int g7362, .int g7363, .int g7364])), (q5414, .inl (I .int, 40, .inl f7365)), (q5415, .inl (I .int, 40, .inl f7366)), (q5416, .inl (I .int, 40, .inl f7367)), (q5417, .inl (I .int, 200, .inl f7368)), (q5418, .inl (I .int, 200, .inl f7369)), (q5419, .inl (I .int, 200, .inl f7370)), (q5420, .inl (I .int, 200, .inl f7371)), (q5421, .inl (I .int, 200, .inl f7372)), (q5422, .inl (I .int, 200, .inl f7373))]) (gV_ok D I) (ct_298_Signs_place l hl0 D I q5412 q5423 q5424 g7374 g7375 g7376 g7377 p5452 f5453 bp5452 bf5453 (by have qa0 : Int32.toInt 1 = 1 := (by decide); omega)) d_cX8_readInto_106 ⟨w_3_145, w_1_4, w_3_148, by decide, rfl, (Nat.le_of_ble_eq_true rfl), (Nat.le_of_ble_eq_true rfl)⟩ w_3_146 w_3_147 12 rfl rfl [12, 13, 14] [0, 1, 2, 3, 4, 5, 6, 7, 8, 9, 10, 11] rfl rfl rfl rfl (by decide) (Nat.le_of_ble_eq_true rfl) (Nat.le_of_ble_eq_true rfl) (Nat.le_of_ble_eq_true rfl) (fun r w hp => ?_) (fun _ _ _ z => z.elim)
          obtain ⟨rfl, rfl⟩ := hp
          change G _ _ _ _ _ _ _ (.int g7376 :: _) _ _ _
          refine G_ws (ws' := [(q5410, .inr (13, [.ref q5412, .ref q5413, .int 1, .int g7352, .int g7353, .long gl7354, .int g7355, .int g7356, .int g7357, .int g7358, .int g7359, .int g7360])), (q5413, .inl (I .int, 80, .inl f7361)), (q5411, .inr (5, [.ref q5414, .ref q5415, .ref q5416, .ref q5417, .ref q5418, .ref q5419, .ref q5420, .ref q5421, .ref q5422, .int g7362, .int g7363, .int g7364])), (q5414, .inl (I .int, 40, .inl f7365)), (q5415, .inl (I .int, 40, .inl f7366)), (q5416, .inl (I .int, 40, .inl f7367)), (q5417, .inl (I .int, 200, .inl f7368)), (q5418, .inl (I .int, 200, .inl f7369)), (q5419, .inl (I .int, 200, .inl f7370)), (q5420, .inl (I .int, 200, .inl f7371)), (q5421, .inl (I .int, 200, .inl f7372)), (q5422, .inl (I .int, 200, .inl f7373)), (q5412, .inr (14, [.ref q5423, .int g7374, .int g7375, .int g7376, .int g7377])), (q5423, .inr (15, [.ref q5424, .int p5452])), (q5424, .inl (I .byte, 8192, .inl f5453))]) (cs' := 0) (sl' := 0) rfl rfl rfl ?_
          refine G_sub (ws' := [(q5410, .inr (13, [.ref q5412, .ref q5413, .int 1, .int g7352, .int g7353, .long gl7354, .int g7355, .int g7356, .int g7357, .int g7358, .int g7359, .int g7360])), (q5411, .inr (5, [.ref q5414, .ref q5415, .ref q5416, .ref q5417, .ref q5418, .ref q5419, .ref q5420, .ref q5421, .ref q5422, .int g7362, .int g7363, .int g7364])), (q5412, .inr (14, [.ref q5423, .int g7374, .int g7375, .int g7376, .int g7377])), (q5413, .inl (I .int, 80, .inl f7361)), (q5414, .inl (I .int, 40, .inl f7365)), (q5415, .inl (I .int, 40, .inl f7366)), (q5416, .inl (I .int, 40, .inl f7367)), (q5417, .inl (I .int, 200, .inl f7368)), (q5418, .inl (I .int, 200, .inl f7369)), (q5419, .inl (I .int, 200, .inl f7370)), (q5420, .inl (I .int, 200, .inl f7371)), (q5421, .inl (I .int, 200, .inl f7372)), (q5422, .inl (I .int, 200, .inl f7373)), (q5423, .inr (15, [.ref q5424, .int p5452])), (q5424, .inl (I .byte, 8192, .inl f5453))]) [0, 2, 12, 1, 3, 4, 5, 6, 7, 8, 9, 10, 11, 13, 14] rfl rfl ?_
          exact G_iret d_cX8_readInto_109 rfl (Nat.le_of_ble_eq_true rfl) (Nat.le_of_ble_eq_true rfl) ⟨g7376, 1, g7352, g7353, gl7354, g7355, g7356, g7357, g7358, g7359, g7360, g7362, g7363, g7364, g7374, g7375, g7376, g7377, f7361, f7365, f7366, f7367, f7368, f7369, f7370, f7371, f7372, f7373, rfl, rfl, (gB_w bg7376 (by decide) (by decide)), (gB_w (gBl (show Int32.toInt 1 = 1 by decide)) (by decide) (by decide)), bg7352, bg7353, bg7355, bg7356, bg7357, bg7358, bg7359, bg7360, bg7362, bg7363, bg7364, bg7374, bg7375, bg7376, bg7377, bf7361, bf7365, bf7366, bf7367, bf7368, bf7369, bf7370, bf7371, bf7372, bf7373, (by have qa0 : Int32.toInt 1 = 1 := (by decide); omega)⟩
        · have r7383 : g7351.toInt ≠ 0 := gj_neq hc7381 (show Int32.toInt 0 = 0 by decide)
          have bg7351' : gB g7351 1 1 := ⟨by omega, by omega⟩
          refine G_aload_n 2 d_cX8_readInto_89 rfl ?_
          refine G_getf 0 7 d_cX8_readInto_90 rfl (gk_X8 D I) (Nat.le_of_ble_eq_true rfl) w_1_103 rfl ?_
          refine G_iconst 1 d_cX8_readInto_93 (by decide +kernel) ?_
          refine G_icmp_eq 110 d_cX8_readInto_94 (by decide +kernel) (fun hc7384 => ?_) (fun hc7384 => ?_)
          · have r7385 : g7356.toInt = 1 := gj_eq hc7384 (show Int32.toInt 1 = 1 by decide)
            have bg7356' : gB g7356 1 1 := ⟨by omega, by omega⟩
            refine G_aload_n 2 d_cX8_readInto_110 rfl ?_
            refine G_aload_n 3 d_cX8_readInto_111 rfl ?_
            refine G_callV (As := [.ref q5411]) (wr := []) (gV_ok D I) (ct_6705_Reader_checkGoals l hl0 D I q5410 q5411 q5412 q5413 q5414 q5415 q5416 q5417 q5418 q5419 q5420 q5421 q5422 q5423 q5424 p5425 g7352 g7353 gl7354 g7355 g7356 g7357 g7358 g7359 g7360 g7362 g7363 g7364 g7374 g7375 g7376 g7377 f7361 f7365 f7366 f7367 f7368 f7369 f7370 f7371 f7372 f7373 p5452 f5453 bg7357 bg7362 bg7363 bg7364 bf7365 bf7368 bp5452 bf5453 (by omega)) d_cX8_readInto_112 ⟨w_3_214, w_1_3, w_3_217, by decide, rfl, (Nat.le_of_ble_eq_true rfl), (Nat.le_of_ble_eq_true rfl)⟩ w_3_216 w_p_25 0 rfl rfl [0, 2, 12, 1, 3, 4, 5, 6, 7, 8, 9, 10, 11, 13, 14] [] rfl rfl rfl rfl (by decide) (Nat.le_of_ble_eq_true rfl) (Nat.le_of_ble_eq_true rfl) (Nat.le_of_ble_eq_true rfl) (fun r w hp => ?_) (fun _ _ _ z => z.elim)
            obtain ⟨o7386, o7387, rfl, rfl, bo7386, bo7387⟩ := hp
            change G _ _ _ _ _ _ _ _ _ _ _
            refine G_ws (ws' := [(q5410, .inr (13, [.ref q5412, .ref q5413, .int p5425, .int o7386, .int o7387, .long gl7354, .int g7355, .int g7356, .int g7357, .int g7358, .int g7359, .int g7360])), (q5411, .inr (5, [.ref q5414, .ref q5415, .ref q5416, .ref q5417, .ref q5418, .ref q5419, .ref q5420, .ref q5421, .ref q5422, .int g7362, .int g7363, .int g7364])), (q5412, .inr (14, [.ref q5423, .int g7374, .int g7375, .int g7376, .int g7377])), (q5413, .inl (I .int, 80, .inl f7361)), (q5414, .inl (I .int, 40, .inl f7365)), (q5415, .inl (I .int, 40, .inl f7366)), (q5416, .inl (I .int, 40, .inl f7367)), (q5417, .inl (I .int, 200, .inl f7368)), (q5418, .inl (I .int, 200, .inl f7369)), (q5419, .inl (I .int, 200, .inl f7370)), (q5420, .inl (I .int, 200, .inl f7371)), (q5421, .inl (I .int, 200, .inl f7372)), (q5422, .inl (I .int, 200, .inl f7373)), (q5423, .inr (15, [.ref q5424, .int p5452])), (q5424, .inl (I .byte, 8192, .inl f5453))]) (cs' := 0) (sl' := 0) rfl rfl rfl ?_
            refine G_aload_n 2 d_cX8_readInto_115 rfl ?_
            refine G_aload_n 2 d_cX8_readInto_116 rfl ?_
            refine G_getf 0 4 d_cX8_readInto_117 rfl (gk_X8 D I) (Nat.le_of_ble_eq_true rfl) w_1_100 rfl ?_
            refine G_putf (ws' := [(q5410, .inr (13, [.ref q5412, .ref q5413, .int o7387, .int o7386, .int o7387, .long gl7354, .int g7355, .int g7356, .int g7357, .int g7358, .int g7359, .int g7360])), (q5411, .inr (5, [.ref q5414, .ref q5415, .ref q5416, .ref q5417, .ref q5418, .ref q5419, .ref q5420, .ref q5421, .ref q5422, .int g7362, .int g7363, .int g7364])), (q5412, .inr (14, [.ref q5423, .int g7374, .int g7375, .int g7376, .int g7377])), (q5413, .inl (I .int, 80, .inl f7361)), (q5414, .inl (I .int, 40, .inl f7365)), (q5415, .inl (I .int, 40, .inl f7366)), (q5416, .inl (I .int, 40, .inl f7367)), (q5417, .inl (I .int, 200, .inl f7368)), (q5418, .inl (I .int, 200, .inl f7369)), (q5419, .inl (I .int, 200, .inl f7370)), (q5420, .inl (I .int, 200, .inl f7371)), (q5421, .inl (I .int, 200, .inl f7372)), (q5422, .inl (I .int, 200, .inl f7373)), (q5423, .inr (15, [.ref q5424, .int p5452])), (q5424, .inl (I .byte, 8192, .inl f5453))]) 0 2 d_cX8_readInto_120 rfl (gk_X8 D I) (Nat.le_of_ble_eq_true rfl) w_1_98 rfl rfl rfl (Nat.le_of_ble_eq_true rfl) rfl ?_
            refine G_aload_n 2 d_cX8_readInto_123 rfl ?_
            refine G_getf 0 3 d_cX8_readInto_124 rfl (gk_X8 D I) (Nat.le_of_ble_eq_true rfl) w_1_99 rfl ?_
            exact G_iret d_cX8_readInto_127 rfl (Nat.le_of_ble_eq_true rfl) (Nat.le_of_ble_eq_true rfl) ⟨o7386, o7387, o7386, o7387, gl7354, g7355, g7356, g7357, g7358, g7359, g7360, g7362, g7363, g7364, g7374, g7375, g7376, g7377, f7361, f7365, f7366, f7367, f7368, f7369, f7370, f7371, f7372, f7373, rfl, rfl, bo7386, bo7387, bo7386, bo7387, bg7355, (gB_w bg7356' (by decide) (by decide)), bg7357, bg7358, bg7359, bg7360, bg7362, bg7363, bg7364, bg7374, bg7375, bg7376, bg7377, bf7361, bf7365, bf7366, bf7367, bf7368, bf7369, bf7370, bf7371, bf7372, bf7373, (by omega)⟩
          · have r7388 : g7356.toInt ≠ 1 := gj_neq hc7384 (show Int32.toInt 1 = 1 by decide)
            refine G_aload_n 2 d_cX8_readInto_97 rfl ?_
            refine G_iconst 1 d_cX8_readInto_98 (by decide +kernel) ?_
            refine G_putf (ws' := [(q5410, .inr (13, [.ref q5412, .ref q5413, .int 1, .int g7352, .int g7353, .long gl7354, .int g7355, .int g7356, .int g7357, .int g7358, .int g7359, .int g7360])), (q5413, .inl (I .int, 80, .inl f7361)), (q5411, .inr (5, [.ref q5414, .ref q5415, .ref q5416, .ref q5417, .ref q5418, .ref q5419, .ref q5420, .ref q5421, .ref q5422, .int g7362, .int g7363, .int g7364])), (q5414, .inl (I .int, 40, .inl f7365)), (q5415, .inl (I .int, 40, .inl f7366)), (q5416, .inl (I .int, 40, .inl f7367)), (q5417, .inl (I .int, 200, .inl f7368)), (q5418, .inl (I .int, 200, .inl f7369)), (q5419, .inl (I .int, 200, .inl f7370)), (q5420, .inl (I .int, 200, .inl f7371)), (q5421, .inl (I .int, 200, .inl f7372)), (q5422, .inl (I .int, 200, .inl f7373)), (q5412, .inr (14, [.ref q5423, .int g7374, .int g7375, .int g7376, .int g7377])), (q5423, .inr (15, [.ref q5424, .int p5452])), (q5424, .inl (I .byte, 8192, .inl f5453))]) 0 2 d_cX8_readInto_99 rfl (gk_X8 D I) (Nat.le_of_ble_eq_true rfl) w_1_98 rfl rfl rfl (Nat.le_of_ble_eq_true rfl) rfl ?_
            refine G_aload_n 2 d_cX8_readInto_102 rfl ?_
            refine G_getf 0 0 d_cX8_readInto_103 rfl (gk_X8 D I) (Nat.le_of_ble_eq_true rfl) w_1_96 rfl ?_
            refine G_callV (As := []) (wr := [(q5410, .inr (13, [.ref q5412, .ref q5413, .int 1, .int g7352, .int g7353, .long gl7354, .int g7355, .int g7356, .int g7357, .int g7358, .int g7359, .int g7360])), (q5413, .inl (I .int, 80, .inl f7361)), (q5411, .inr (5, [.ref q5414, .ref q5415, .ref q5416, .ref q5417, .ref q5418, .ref q5419, .ref q5420, .ref q5421, .ref q5422, .int g7362, .int g7363, .int g7364])), (q5414, .inl (I .int, 40, .inl f7365)), (q5415, .inl (I .int, 40, .inl f7366)), (q5416, .inl (I .int, 40, .inl f7367)), (q5417, .inl (I .int, 200, .inl f7368)), (q5418, .inl (I .int, 200, .inl f7369)), (q5419, .inl (I .int, 200, .inl f7370)), (q5420, .inl (I .int, 200, .inl f7371)), (q5421, .inl (I .int, 200, .inl f7372)), (q5422, .inl (I .int, 200, .inl f7373))]) (gV_ok D I) (ct_298_Signs_place l hl0 D I q5412 q5423 q5424 g7374 g7375 g7376 g7377 p5452 f5453 bp5452 bf5453 (by have qa0 : Int32.toInt 1 = 1 := (by decide); omega)) d_cX8_readInto_106 ⟨w_3_145, w_1_4, w_3_148, by decide, rfl, (Nat.le_of_ble_eq_true rfl), (Nat.le_of_ble_eq_true rfl)⟩ w_3_146 w_3_147 12 rfl rfl [12, 13, 14] [0, 1, 2, 3, 4, 5, 6, 7, 8, 9, 10, 11] rfl rfl rfl rfl (by decide) (Nat.le_of_ble_eq_true rfl) (Nat.le_of_ble_eq_true rfl) (Nat.le_of_ble_eq_true rfl) (fun r w hp => ?_) (fun _ _ _ z => z.elim)
            obtain ⟨rfl, rfl⟩ := hp
            change G _ _ _ _ _ _ _ (.int g7376 :: _) _ _ _
            refine G_ws (ws' := [(q5410, .inr (13, [.ref q5412, .ref q5413, .int 1, .int g7352, .int g7353, .long gl7354, .int g7355, .int g7356, .int g7357, .int g7358, .int g7359, .int g7360])), (q5413, .inl (I .int, 80, .inl f7361)), (q5411, .inr (5, [.ref q5414, .ref q5415, .ref q5416, .ref q5417, .ref q5418, .ref q5419, .ref q5420, .ref q5421, .ref q5422, .int g7362, .int g7363, .int g7364])), (q5414, .inl (I .int, 40, .inl f7365)), (q5415, .inl (I .int, 40, .inl f7366)), (q5416, .inl (I .int, 40, .inl f7367)), (q5417, .inl (I .int, 200, .inl f7368)), (q5418, .inl (I .int, 200, .inl f7369)), (q5419, .inl (I .int, 200, .inl f7370)), (q5420, .inl (I .int, 200, .inl f7371)), (q5421, .inl (I .int, 200, .inl f7372)), (q5422, .inl (I .int, 200, .inl f7373)), (q5412, .inr (14, [.ref q5423, .int g7374, .int g7375, .int g7376, .int g7377])), (q5423, .inr (15, [.ref q5424, .int p5452])), (q5424, .inl (I .byte, 8192, .inl f5453))]) (cs' := 0) (sl' := 0) rfl rfl rfl ?_
            refine G_sub (ws' := [(q5410, .inr (13, [.ref q5412, .ref q5413, .int 1, .int g7352, .int g7353, .long gl7354, .int g7355, .int g7356, .int g7357, .int g7358, .int g7359, .int g7360])), (q5411, .inr (5, [.ref q5414, .ref q5415, .ref q5416, .ref q5417, .ref q5418, .ref q5419, .ref q5420, .ref q5421, .ref q5422, .int g7362, .int g7363, .int g7364])), (q5412, .inr (14, [.ref q5423, .int g7374, .int g7375, .int g7376, .int g7377])), (q5413, .inl (I .int, 80, .inl f7361)), (q5414, .inl (I .int, 40, .inl f7365)), (q5415, .inl (I .int, 40, .inl f7366)), (q5416, .inl (I .int, 40, .inl f7367)), (q5417, .inl (I .int, 200, .inl f7368)), (q5418, .inl (I .int, 200, .inl f7369)), (q5419, .inl (I .int, 200, .inl f7370)), (q5420, .inl (I .int, 200, .inl f7371)), (q5421, .inl (I .int, 200, .inl f7372)), (q5422, .inl (I .int, 200, .inl f7373)), (q5423, .inr (15, [.ref q5424, .int p5452])), (q5424, .inl (I .byte, 8192, .inl f5453))]) [0, 2, 12, 1, 3, 4, 5, 6, 7, 8, 9, 10, 11, 13, 14] rfl rfl ?_
            exact G_iret d_cX8_readInto_109 rfl (Nat.le_of_ble_eq_true rfl) (Nat.le_of_ble_eq_true rfl) ⟨g7376, 1, g7352, g7353, gl7354, g7355, g7356, g7357, g7358, g7359, g7360, g7362, g7363, g7364, g7374, g7375, g7376, g7377, f7361, f7365, f7366, f7367, f7368, f7369, f7370, f7371, f7372, f7373, rfl, rfl, (gB_w bg7376 (by decide) (by decide)), (gB_w (gBl (show Int32.toInt 1 = 1 by decide)) (by decide) (by decide)), bg7352, bg7353, bg7355, bg7356, bg7357, bg7358, bg7359, bg7360, bg7362, bg7363, bg7364, bg7374, bg7375, bg7376, bg7377, bf7361, bf7365, bf7366, bf7367, bf7368, bf7369, bf7370, bf7371, bf7372, bf7373, (by have qa0 : Int32.toInt 1 = 1 := (by decide); omega)⟩
      · have r7389 : g7350.toInt < 8192 := gj_nleL hc7379 (show Int32.toInt 8192 = 8192 by decide)
        have bg7350' : gB g7350 0 8191 := ⟨by omega, by omega⟩
        refine G_iload_n 1 d_cX8_readInto_47 rfl ?_
        refine G_if_eq 85 d_cX8_readInto_48 (by decide +kernel) (fun hc7390 => ?_) (fun hc7390 => ?_)
        · have r7391 : g7351.toInt = 0 := gj_eq hc7390 (show Int32.toInt 0 = 0 by decide)
          have bg7351' : gB g7351 0 0 := ⟨by omega, by omega⟩
          refine G_iload_n 1 d_cX8_readInto_85 rfl ?_
          refine G_if_eq 97 d_cX8_readInto_86 (by decide +kernel) (fun _ => ?_) (fun hc => absurd (show False by have := gj_neq hc (show Int32.toInt 0 = 0 by decide); omega) not_false)
          refine G_aload_n 2 d_cX8_readInto_97 rfl ?_
          refine G_iconst 1 d_cX8_readInto_98 (by decide +kernel) ?_
          refine G_putf (ws' := [(q5410, .inr (13, [.ref q5412, .ref q5413, .int 1, .int g7352, .int g7353, .long gl7354, .int g7355, .int g7356, .int g7357, .int g7358, .int g7359, .int g7360])), (q5413, .inl (I .int, 80, .inl f7361)), (q5411, .inr (5, [.ref q5414, .ref q5415, .ref q5416, .ref q5417, .ref q5418, .ref q5419, .ref q5420, .ref q5421, .ref q5422, .int g7362, .int g7363, .int g7364])), (q5414, .inl (I .int, 40, .inl f7365)), (q5415, .inl (I .int, 40, .inl f7366)), (q5416, .inl (I .int, 40, .inl f7367)), (q5417, .inl (I .int, 200, .inl f7368)), (q5418, .inl (I .int, 200, .inl f7369)), (q5419, .inl (I .int, 200, .inl f7370)), (q5420, .inl (I .int, 200, .inl f7371)), (q5421, .inl (I .int, 200, .inl f7372)), (q5422, .inl (I .int, 200, .inl f7373)), (q5412, .inr (14, [.ref q5423, .int g7374, .int g7375, .int g7376, .int g7377])), (q5423, .inr (15, [.ref q5424, .int p5452])), (q5424, .inl (I .byte, 8192, .inl f5453))]) 0 2 d_cX8_readInto_99 rfl (gk_X8 D I) (Nat.le_of_ble_eq_true rfl) w_1_98 rfl rfl rfl (Nat.le_of_ble_eq_true rfl) rfl ?_
          refine G_aload_n 2 d_cX8_readInto_102 rfl ?_
          refine G_getf 0 0 d_cX8_readInto_103 rfl (gk_X8 D I) (Nat.le_of_ble_eq_true rfl) w_1_96 rfl ?_
          refine G_callV (As := []) (wr := [(q5410, .inr (13, [.ref q5412, .ref q5413, .int 1, .int g7352, .int g7353, .long gl7354, .int g7355, .int g7356, .int g7357, .int g7358, .int g7359, .int g7360])), (q5413, .inl (I .int, 80, .inl f7361)), (q5411, .inr (5, [.ref q5414, .ref q5415, .ref q5416, .ref q5417, .ref q5418, .ref q5419, .ref q5420, .ref q5421, .ref q5422, .int g7362, .int g7363, .int g7364])), (q5414, .inl (I .int, 40, .inl f7365)), (q5415, .inl (I .int, 40, .inl f7366)), (q5416, .inl (I .int, 40, .inl f7367)), (q5417, .inl (I .int, 200, .inl f7368)), (q5418, .inl (I .int, 200, .inl f7369)), (q5419, .inl (I .int, 200, .inl f7370)), (q5420, .inl (I .int, 200, .inl f7371)), (q5421, .inl (I .int, 200, .inl f7372)), (q5422, .inl (I .int, 200, .inl f7373))]) (gV_ok D I) (ct_298_Signs_place l hl0 D I q5412 q5423 q5424 g7374 g7375 g7376 g7377 p5452 f5453 bp5452 bf5453 (by have qa0 : Int32.toInt 1 = 1 := (by decide); omega)) d_cX8_readInto_106 ⟨w_3_145, w_1_4, w_3_148, by decide, rfl, (Nat.le_of_ble_eq_true rfl), (Nat.le_of_ble_eq_true rfl)⟩ w_3_146 w_3_147 12 rfl rfl [12, 13, 14] [0, 1, 2, 3, 4, 5, 6, 7, 8, 9, 10, 11] rfl rfl rfl rfl (by decide) (Nat.le_of_ble_eq_true rfl) (Nat.le_of_ble_eq_true rfl) (Nat.le_of_ble_eq_true rfl) (fun r w hp => ?_) (fun _ _ _ z => z.elim)
          obtain ⟨rfl, rfl⟩ := hp
          change G _ _ _ _ _ _ _ (.int g7376 :: _) _ _ _
          refine G_ws (ws' := [(q5410, .inr (13, [.ref q5412, .ref q5413, .int 1, .int g7352, .int g7353, .long gl7354, .int g7355, .int g7356, .int g7357, .int g7358, .int g7359, .int g7360])), (q5413, .inl (I .int, 80, .inl f7361)), (q5411, .inr (5, [.ref q5414, .ref q5415, .ref q5416, .ref q5417, .ref q5418, .ref q5419, .ref q5420, .ref q5421, .ref q5422, .int g7362, .int g7363, .int g7364])), (q5414, .inl (I .int, 40, .inl f7365)), (q5415, .inl (I .int, 40, .inl f7366)), (q5416, .inl (I .int, 40, .inl f7367)), (q5417, .inl (I .int, 200, .inl f7368)), (q5418, .inl (I .int, 200, .inl f7369)), (q5419, .inl (I .int, 200, .inl f7370)), (q5420, .inl (I .int, 200, .inl f7371)), (q5421, .inl (I .int, 200, .inl f7372)), (q5422, .inl (I .int, 200, .inl f7373)), (q5412, .inr (14, [.ref q5423, .int g7374, .int g7375, .int g7376, .int g7377])), (q5423, .inr (15, [.ref q5424, .int p5452])), (q5424, .inl (I .byte, 8192, .inl f5453))]) (cs' := 0) (sl' := 0) rfl rfl rfl ?_
          refine G_sub (ws' := [(q5410, .inr (13, [.ref q5412, .ref q5413, .int 1, .int g7352, .int g7353, .long gl7354, .int g7355, .int g7356, .int g7357, .int g7358, .int g7359, .int g7360])), (q5411, .inr (5, [.ref q5414, .ref q5415, .ref q5416, .ref q5417, .ref q5418, .ref q5419, .ref q5420, .ref q5421, .ref q5422, .int g7362, .int g7363, .int g7364])), (q5412, .inr (14, [.ref q5423, .int g7374, .int g7375, .int g7376, .int g7377])), (q5413, .inl (I .int, 80, .inl f7361)), (q5414, .inl (I .int, 40, .inl f7365)), (q5415, .inl (I .int, 40, .inl f7366)), (q5416, .inl (I .int, 40, .inl f7367)), (q5417, .inl (I .int, 200, .inl f7368)), (q5418, .inl (I .int, 200, .inl f7369)), (q5419, .inl (I .int, 200, .inl f7370)), (q5420, .inl (I .int, 200, .inl f7371)), (q5421, .inl (I .int, 200, .inl f7372)), (q5422, .inl (I .int, 200, .inl f7373)), (q5423, .inr (15, [.ref q5424, .int p5452])), (q5424, .inl (I .byte, 8192, .inl f5453))]) [0, 2, 12, 1, 3, 4, 5, 6, 7, 8, 9, 10, 11, 13, 14] rfl rfl ?_
          exact G_iret d_cX8_readInto_109 rfl (Nat.le_of_ble_eq_true rfl) (Nat.le_of_ble_eq_true rfl) ⟨g7376, 1, g7352, g7353, gl7354, g7355, g7356, g7357, g7358, g7359, g7360, g7362, g7363, g7364, g7374, g7375, g7376, g7377, f7361, f7365, f7366, f7367, f7368, f7369, f7370, f7371, f7372, f7373, rfl, rfl, (gB_w bg7376 (by decide) (by decide)), (gB_w (gBl (show Int32.toInt 1 = 1 by decide)) (by decide) (by decide)), bg7352, bg7353, bg7355, bg7356, bg7357, bg7358, bg7359, bg7360, bg7362, bg7363, bg7364, bg7374, bg7375, bg7376, bg7377, bf7361, bf7365, bf7366, bf7367, bf7368, bf7369, bf7370, bf7371, bf7372, bf7373, (by have qa0 : Int32.toInt 1 = 1 := (by decide); omega)⟩
        · have r7392 : g7351.toInt ≠ 0 := gj_neq hc7390 (show Int32.toInt 0 = 0 by decide)
          have bg7351' : gB g7351 1 1 := ⟨by omega, by omega⟩
          refine G_aload_n 2 d_cX8_readInto_51 rfl ?_
          refine G_getf 0 0 d_cX8_readInto_52 rfl (gk_X8 D I) (Nat.le_of_ble_eq_true rfl) w_1_96 rfl ?_
          refine G_callV (As := []) (wr := [(q5410, .inr (13, [.ref q5412, .ref q5413, .int p5425, .int g7352, .int g7353, .long gl7354, .int g7355, .int g7356, .int g7357, .int g7358, .int g7359, .int g7360])), (q5413, .inl (I .int, 80, .inl f7361)), (q5411, .inr (5, [.ref q5414, .ref q5415, .ref q5416, .ref q5417, .ref q5418, .ref q5419, .ref q5420, .ref q5421, .ref q5422, .int g7362, .int g7363, .int g7364])), (q5414, .inl (I .int, 40, .inl f7365)), (q5415, .inl (I .int, 40, .inl f7366)), (q5416, .inl (I .int, 40, .inl f7367)), (q5417, .inl (I .int, 200, .inl f7368)), (q5418, .inl (I .int, 200, .inl f7369)), (q5419, .inl (I .int, 200, .inl f7370)), (q5420, .inl (I .int, 200, .inl f7371)), (q5421, .inl (I .int, 200, .inl f7372)), (q5422, .inl (I .int, 200, .inl f7373))]) (gV_ok D I) (ct_276_Signs_kind l hl0 D I q5412 q5423 q5424 g7374 g7375 g7376 g7377 p5452 f5453 bp5452 bf5453 (by omega)) d_cX8_readInto_55 ⟨w_3_117, w_1_4, w_3_120, by decide, rfl, (Nat.le_of_ble_eq_true rfl), (Nat.le_of_ble_eq_true rfl)⟩ w_3_118 w_3_119 12 rfl rfl [12, 13, 14] [0, 1, 2, 3, 4, 5, 6, 7, 8, 9, 10, 11] rfl rfl rfl rfl (by decide) (Nat.le_of_ble_eq_true rfl) (Nat.le_of_ble_eq_true rfl) (Nat.le_of_ble_eq_true rfl) (fun r w hp => ?_) (fun _ _ _ z => z.elim)
          obtain ⟨rfl, rfl⟩ := hp
          change G _ _ _ _ _ _ _ (.int g7374 :: _) _ _ _
          refine G_ws (ws' := [(q5410, .inr (13, [.ref q5412, .ref q5413, .int p5425, .int g7352, .int g7353, .long gl7354, .int g7355, .int g7356, .int g7357, .int g7358, .int g7359, .int g7360])), (q5413, .inl (I .int, 80, .inl f7361)), (q5411, .inr (5, [.ref q5414, .ref q5415, .ref q5416, .ref q5417, .ref q5418, .ref q5419, .ref q5420, .ref q5421, .ref q5422, .int g7362, .int g7363, .int g7364])), (q5414, .inl (I .int, 40, .inl f7365)), (q5415, .inl (I .int, 40, .inl f7366)), (q5416, .inl (I .int, 40, .inl f7367)), (q5417, .inl (I .int, 200, .inl f7368)), (q5418, .inl (I .int, 200, .inl f7369)), (q5419, .inl (I .int, 200, .inl f7370)), (q5420, .inl (I .int, 200, .inl f7371)), (q5421, .inl (I .int, 200, .inl f7372)), (q5422, .inl (I .int, 200, .inl f7373)), (q5412, .inr (14, [.ref q5423, .int g7374, .int g7375, .int g7376, .int g7377])), (q5423, .inr (15, [.ref q5424, .int p5452])), (q5424, .inl (I .byte, 8192, .inl f5453))]) (cs' := 0) (sl' := 0) rfl rfl rfl ?_
          refine G_iconst 1 d_cX8_readInto_58 (by decide +kernel) ?_
          refine G_icmp_eq 85 d_cX8_readInto_59 (by decide +kernel) (fun hc7393 => ?_) (fun hc7393 => ?_)
          · have r7394 : g7374.toInt = 1 := gj_eq hc7393 (show Int32.toInt 1 = 1 by decide)
            have bg7374' : gB g7374 1 1 := ⟨by omega, by omega⟩
            refine G_iload_n 1 d_cX8_readInto_85 rfl ?_
            refine G_if_eq 97 d_cX8_readInto_86 (by decide +kernel) (fun hc => absurd (show False by have := gj_eq hc (show Int32.toInt 0 = 0 by decide); omega) not_false) (fun _ => ?_)
            refine G_aload_n 2 d_cX8_readInto_89 rfl ?_
            refine G_getf 0 7 d_cX8_readInto_90 rfl (gk_X8 D I) (Nat.le_of_ble_eq_true rfl) w_1_103 rfl ?_
            refine G_iconst 1 d_cX8_readInto_93 (by decide +kernel) ?_
            refine G_icmp_eq 110 d_cX8_readInto_94 (by decide +kernel) (fun hc7395 => ?_) (fun hc7395 => ?_)
            · have r7396 : g7356.toInt = 1 := gj_eq hc7395 (show Int32.toInt 1 = 1 by decide)
              have bg7356' : gB g7356 1 1 := ⟨by omega, by omega⟩
              refine G_aload_n 2 d_cX8_readInto_110 rfl ?_
              refine G_aload_n 3 d_cX8_readInto_111 rfl ?_
              refine G_callV (As := [.ref q5411]) (wr := []) (gV_ok D I) (ct_6705_Reader_checkGoals l hl0 D I q5410 q5411 q5412 q5413 q5414 q5415 q5416 q5417 q5418 q5419 q5420 q5421 q5422 q5423 q5424 p5425 g7352 g7353 gl7354 g7355 g7356 g7357 g7358 g7359 g7360 g7362 g7363 g7364 g7374 g7375 g7376 g7377 f7361 f7365 f7366 f7367 f7368 f7369 f7370 f7371 f7372 f7373 p5452 f5453 bg7357 bg7362 bg7363 bg7364 bf7365 bf7368 bp5452 bf5453 (by omega)) d_cX8_readInto_112 ⟨w_3_214, w_1_3, w_3_217, by decide, rfl, (Nat.le_of_ble_eq_true rfl), (Nat.le_of_ble_eq_true rfl)⟩ w_3_216 w_p_25 0 rfl rfl [0, 2, 12, 1, 3, 4, 5, 6, 7, 8, 9, 10, 11, 13, 14] [] rfl rfl rfl rfl (by decide) (Nat.le_of_ble_eq_true rfl) (Nat.le_of_ble_eq_true rfl) (Nat.le_of_ble_eq_true rfl) (fun r w hp => ?_) (fun _ _ _ z => z.elim)
              obtain ⟨o7397, o7398, rfl, rfl, bo7397, bo7398⟩ := hp
              change G _ _ _ _ _ _ _ _ _ _ _
              refine G_ws (ws' := [(q5410, .inr (13, [.ref q5412, .ref q5413, .int p5425, .int o7397, .int o7398, .long gl7354, .int g7355, .int g7356, .int g7357, .int g7358, .int g7359, .int g7360])), (q5411, .inr (5, [.ref q5414, .ref q5415, .ref q5416, .ref q5417, .ref q5418, .ref q5419, .ref q5420, .ref q5421, .ref q5422, .int g7362, .int g7363, .int g7364])), (q5412, .inr (14, [.ref q5423, .int g7374, .int g7375, .int g7376, .int g7377])), (q5413, .inl (I .int, 80, .inl f7361)), (q5414, .inl (I .int, 40, .inl f7365)), (q5415, .inl (I .int, 40, .inl f7366)), (q5416, .inl (I .int, 40, .inl f7367)), (q5417, .inl (I .int, 200, .inl f7368)), (q5418, .inl (I .int, 200, .inl f7369)), (q5419, .inl (I .int, 200, .inl f7370)), (q5420, .inl (I .int, 200, .inl f7371)), (q5421, .inl (I .int, 200, .inl f7372)), (q5422, .inl (I .int, 200, .inl f7373)), (q5423, .inr (15, [.ref q5424, .int p5452])), (q5424, .inl (I .byte, 8192, .inl f5453))]) (cs' := 0) (sl' := 0) rfl rfl rfl ?_
              refine G_aload_n 2 d_cX8_readInto_115 rfl ?_
              refine G_aload_n 2 d_cX8_readInto_116 rfl ?_
              refine G_getf 0 4 d_cX8_readInto_117 rfl (gk_X8 D I) (Nat.le_of_ble_eq_true rfl) w_1_100 rfl ?_
              refine G_putf (ws' := [(q5410, .inr (13, [.ref q5412, .ref q5413, .int o7398, .int o7397, .int o7398, .long gl7354, .int g7355, .int g7356, .int g7357, .int g7358, .int g7359, .int g7360])), (q5411, .inr (5, [.ref q5414, .ref q5415, .ref q5416, .ref q5417, .ref q5418, .ref q5419, .ref q5420, .ref q5421, .ref q5422, .int g7362, .int g7363, .int g7364])), (q5412, .inr (14, [.ref q5423, .int g7374, .int g7375, .int g7376, .int g7377])), (q5413, .inl (I .int, 80, .inl f7361)), (q5414, .inl (I .int, 40, .inl f7365)), (q5415, .inl (I .int, 40, .inl f7366)), (q5416, .inl (I .int, 40, .inl f7367)), (q5417, .inl (I .int, 200, .inl f7368)), (q5418, .inl (I .int, 200, .inl f7369)), (q5419, .inl (I .int, 200, .inl f7370)), (q5420, .inl (I .int, 200, .inl f7371)), (q5421, .inl (I .int, 200, .inl f7372)), (q5422, .inl (I .int, 200, .inl f7373)), (q5423, .inr (15, [.ref q5424, .int p5452])), (q5424, .inl (I .byte, 8192, .inl f5453))]) 0 2 d_cX8_readInto_120 rfl (gk_X8 D I) (Nat.le_of_ble_eq_true rfl) w_1_98 rfl rfl rfl (Nat.le_of_ble_eq_true rfl) rfl ?_
              refine G_aload_n 2 d_cX8_readInto_123 rfl ?_
              refine G_getf 0 3 d_cX8_readInto_124 rfl (gk_X8 D I) (Nat.le_of_ble_eq_true rfl) w_1_99 rfl ?_
              exact G_iret d_cX8_readInto_127 rfl (Nat.le_of_ble_eq_true rfl) (Nat.le_of_ble_eq_true rfl) ⟨o7397, o7398, o7397, o7398, gl7354, g7355, g7356, g7357, g7358, g7359, g7360, g7362, g7363, g7364, g7374, g7375, g7376, g7377, f7361, f7365, f7366, f7367, f7368, f7369, f7370, f7371, f7372, f7373, rfl, rfl, bo7397, bo7398, bo7397, bo7398, bg7355, (gB_w bg7356' (by decide) (by decide)), bg7357, bg7358, bg7359, bg7360, bg7362, bg7363, bg7364, (gB_w bg7374' (by decide) (by decide)), bg7375, bg7376, bg7377, bf7361, bf7365, bf7366, bf7367, bf7368, bf7369, bf7370, bf7371, bf7372, bf7373, (by omega)⟩
            · have r7399 : g7356.toInt ≠ 1 := gj_neq hc7395 (show Int32.toInt 1 = 1 by decide)
              refine G_aload_n 2 d_cX8_readInto_97 rfl ?_
              refine G_iconst 1 d_cX8_readInto_98 (by decide +kernel) ?_
              refine G_putf (ws' := [(q5410, .inr (13, [.ref q5412, .ref q5413, .int 1, .int g7352, .int g7353, .long gl7354, .int g7355, .int g7356, .int g7357, .int g7358, .int g7359, .int g7360])), (q5413, .inl (I .int, 80, .inl f7361)), (q5411, .inr (5, [.ref q5414, .ref q5415, .ref q5416, .ref q5417, .ref q5418, .ref q5419, .ref q5420, .ref q5421, .ref q5422, .int g7362, .int g7363, .int g7364])), (q5414, .inl (I .int, 40, .inl f7365)), (q5415, .inl (I .int, 40, .inl f7366)), (q5416, .inl (I .int, 40, .inl f7367)), (q5417, .inl (I .int, 200, .inl f7368)), (q5418, .inl (I .int, 200, .inl f7369)), (q5419, .inl (I .int, 200, .inl f7370)), (q5420, .inl (I .int, 200, .inl f7371)), (q5421, .inl (I .int, 200, .inl f7372)), (q5422, .inl (I .int, 200, .inl f7373)), (q5412, .inr (14, [.ref q5423, .int g7374, .int g7375, .int g7376, .int g7377])), (q5423, .inr (15, [.ref q5424, .int p5452])), (q5424, .inl (I .byte, 8192, .inl f5453))]) 0 2 d_cX8_readInto_99 rfl (gk_X8 D I) (Nat.le_of_ble_eq_true rfl) w_1_98 rfl rfl rfl (Nat.le_of_ble_eq_true rfl) rfl ?_
              refine G_aload_n 2 d_cX8_readInto_102 rfl ?_
              refine G_getf 0 0 d_cX8_readInto_103 rfl (gk_X8 D I) (Nat.le_of_ble_eq_true rfl) w_1_96 rfl ?_
              refine G_callV (As := []) (wr := [(q5410, .inr (13, [.ref q5412, .ref q5413, .int 1, .int g7352, .int g7353, .long gl7354, .int g7355, .int g7356, .int g7357, .int g7358, .int g7359, .int g7360])), (q5413, .inl (I .int, 80, .inl f7361)), (q5411, .inr (5, [.ref q5414, .ref q5415, .ref q5416, .ref q5417, .ref q5418, .ref q5419, .ref q5420, .ref q5421, .ref q5422, .int g7362, .int g7363, .int g7364])), (q5414, .inl (I .int, 40, .inl f7365)), (q5415, .inl (I .int, 40, .inl f7366)), (q5416, .inl (I .int, 40, .inl f7367)), (q5417, .inl (I .int, 200, .inl f7368)), (q5418, .inl (I .int, 200, .inl f7369)), (q5419, .inl (I .int, 200, .inl f7370)), (q5420, .inl (I .int, 200, .inl f7371)), (q5421, .inl (I .int, 200, .inl f7372)), (q5422, .inl (I .int, 200, .inl f7373))]) (gV_ok D I) (ct_298_Signs_place l hl0 D I q5412 q5423 q5424 g7374 g7375 g7376 g7377 p5452 f5453 bp5452 bf5453 (by have qa0 : Int32.toInt 1 = 1 := (by decide); omega)) d_cX8_readInto_106 ⟨w_3_145, w_1_4, w_3_148, by decide, rfl, (Nat.le_of_ble_eq_true rfl), (Nat.le_of_ble_eq_true rfl)⟩ w_3_146 w_3_147 12 rfl rfl [12, 13, 14] [0, 1, 2, 3, 4, 5, 6, 7, 8, 9, 10, 11] rfl rfl rfl rfl (by decide) (Nat.le_of_ble_eq_true rfl) (Nat.le_of_ble_eq_true rfl) (Nat.le_of_ble_eq_true rfl) (fun r w hp => ?_) (fun _ _ _ z => z.elim)
              obtain ⟨rfl, rfl⟩ := hp
              change G _ _ _ _ _ _ _ (.int g7376 :: _) _ _ _
              refine G_ws (ws' := [(q5410, .inr (13, [.ref q5412, .ref q5413, .int 1, .int g7352, .int g7353, .long gl7354, .int g7355, .int g7356, .int g7357, .int g7358, .int g7359, .int g7360])), (q5413, .inl (I .int, 80, .inl f7361)), (q5411, .inr (5, [.ref q5414, .ref q5415, .ref q5416, .ref q5417, .ref q5418, .ref q5419, .ref q5420, .ref q5421, .ref q5422, .int g7362, .int g7363, .int g7364])), (q5414, .inl (I .int, 40, .inl f7365)), (q5415, .inl (I .int, 40, .inl f7366)), (q5416, .inl (I .int, 40, .inl f7367)), (q5417, .inl (I .int, 200, .inl f7368)), (q5418, .inl (I .int, 200, .inl f7369)), (q5419, .inl (I .int, 200, .inl f7370)), (q5420, .inl (I .int, 200, .inl f7371)), (q5421, .inl (I .int, 200, .inl f7372)), (q5422, .inl (I .int, 200, .inl f7373)), (q5412, .inr (14, [.ref q5423, .int g7374, .int g7375, .int g7376, .int g7377])), (q5423, .inr (15, [.ref q5424, .int p5452])), (q5424, .inl (I .byte, 8192, .inl f5453))]) (cs' := 0) (sl' := 0) rfl rfl rfl ?_
              refine G_sub (ws' := [(q5410, .inr (13, [.ref q5412, .ref q5413, .int 1, .int g7352, .int g7353, .long gl7354, .int g7355, .int g7356, .int g7357, .int g7358, .int g7359, .int g7360])), (q5411, .inr (5, [.ref q5414, .ref q5415, .ref q5416, .ref q5417, .ref q5418, .ref q5419, .ref q5420, .ref q5421, .ref q5422, .int g7362, .int g7363, .int g7364])), (q5412, .inr (14, [.ref q5423, .int g7374, .int g7375, .int g7376, .int g7377])), (q5413, .inl (I .int, 80, .inl f7361)), (q5414, .inl (I .int, 40, .inl f7365)), (q5415, .inl (I .int, 40, .inl f7366)), (q5416, .inl (I .int, 40, .inl f7367)), (q5417, .inl (I .int, 200, .inl f7368)), (q5418, .inl (I .int, 200, .inl f7369)), (q5419, .inl (I .int, 200, .inl f7370)), (q5420, .inl (I .int, 200, .inl f7371)), (q5421, .inl (I .int, 200, .inl f7372)), (q5422, .inl (I .int, 200, .inl f7373)), (q5423, .inr (15, [.ref q5424, .int p5452])), (q5424, .inl (I .byte, 8192, .inl f5453))]) [0, 2, 12, 1, 3, 4, 5, 6, 7, 8, 9, 10, 11, 13, 14] rfl rfl ?_
              exact G_iret d_cX8_readInto_109 rfl (Nat.le_of_ble_eq_true rfl) (Nat.le_of_ble_eq_true rfl) ⟨g7376, 1, g7352, g7353, gl7354, g7355, g7356, g7357, g7358, g7359, g7360, g7362, g7363, g7364, g7374, g7375, g7376, g7377, f7361, f7365, f7366, f7367, f7368, f7369, f7370, f7371, f7372, f7373, rfl, rfl, (gB_w bg7376 (by decide) (by decide)), (gB_w (gBl (show Int32.toInt 1 = 1 by decide)) (by decide) (by decide)), bg7352, bg7353, bg7355, bg7356, bg7357, bg7358, bg7359, bg7360, bg7362, bg7363, bg7364, (gB_w bg7374' (by decide) (by decide)), bg7375, bg7376, bg7377, bf7361, bf7365, bf7366, bf7367, bf7368, bf7369, bf7370, bf7371, bf7372, bf7373, (by have qa0 : Int32.toInt 1 = 1 := (by decide); omega)⟩
          · have r7400 : g7374.toInt ≠ 1 := gj_neq hc7393 (show Int32.toInt 1 = 1 by decide)
            refine G_aload_n 2 d_cX8_readInto_62 rfl ?_
            refine G_aload_n 3 d_cX8_readInto_63 rfl ?_
            refine G_callV (As := [.ref q5411]) (wr := []) (gV_ok D I) (ct_5512_Reader_accept l hl0 D I q5410 q5411 q5412 q5413 q5414 q5415 q5416 q5417 q5418 q5419 q5420 q5421 q5422 q5423 q5424 p5425 g7352 g7353 gl7354 g7355 g7356 g7357 g7358 g7359 g7360 g7362 g7363 g7364 g7374 g7375 g7376 g7377 f7361 f7365 f7366 f7367 f7368 f7369 f7370 f7371 f7372 f7373 p5452 f5453 bg7357 bg7362 bg7363 bg7364 bf7365 bf7368 bp5452 bf5453 (by omega)) d_cX8_readInto_64 ⟨w_3_121, w_1_3, w_3_124, by decide, rfl, (Nat.le_of_ble_eq_true rfl), (Nat.le_of_ble_eq_true rfl)⟩ w_3_123 w_p_7 0 rfl rfl [0, 2, 12, 1, 3, 4, 5, 6, 7, 8, 9, 10, 11, 13, 14] [] rfl rfl rfl rfl (by decide) (Nat.le_of_ble_eq_true rfl) (Nat.le_of_ble_eq_true rfl) (Nat.le_of_ble_eq_true rfl) (fun r w hp => ?_) (fun _ _ _ z => z.elim)
            obtain ⟨o7401, o7402, o7403, ol7404, o7405, o7406, f7407, f7408, f7409, o7410, o7411, o7412, o7413, o7414, o7415, f7416, f7417, f7418, f7419, f7420, f7421, o7422, f7423, rfl, rfl, bo7401, bo7402, bo7403, bo7405, bo7406, bf7407, bf7408, bf7409, bo7410, bo7411, bo7412, bo7413, bo7414, bo7415, bf7416, bf7417, bf7418, bf7419, bf7420, bf7421, bo7422, bf7423⟩ := hp
            change G _ _ _ _ _ _ _ (.int o7401 :: _) _ _ _
            refine G_ws (ws' := [(q5410, .inr (13, [.ref q5412, .ref q5413, .int p5425, .int o7402, .int o7403, .long ol7404, .int o7410, .int o7405, .int o7422, .int o7411, .int o7412, .int o7413])), (q5411, .inr (5, [.ref q5414, .ref q5415, .ref q5416, .ref q5417, .ref q5418, .ref q5419, .ref q5420, .ref q5421, .ref q5422, .int o7406, .int o7414, .int o7415])), (q5412, .inr (14, [.ref q5423, .int g7374, .int g7375, .int g7376, .int g7377])), (q5413, .inl (I .int, 80, .inl f7423)), (q5414, .inl (I .int, 40, .inl f7407)), (q5415, .inl (I .int, 40, .inl f7408)), (q5416, .inl (I .int, 40, .inl f7409)), (q5417, .inl (I .int, 200, .inl f7416)), (q5418, .inl (I .int, 200, .inl f7417)), (q5419, .inl (I .int, 200, .inl f7418)), (q5420, .inl (I .int, 200, .inl f7419)), (q5421, .inl (I .int, 200, .inl f7420)), (q5422, .inl (I .int, 200, .inl f7421)), (q5423, .inr (15, [.ref q5424, .int p5452])), (q5424, .inl (I .byte, 8192, .inl f5453))]) (cs' := 0) (sl' := 0) rfl rfl rfl ?_
            refine G_istore_n (L' := [(2, .int o7401), (3, .int g7350), (0, .ref q5410), (1, .ref q5411)]) d_cX8_readInto_67 (Nat.le_of_ble_eq_true rfl) rfl ?_
            refine G_iload_n 0 d_cX8_readInto_68 rfl ?_
            refine G_if_eq 79 d_cX8_readInto_69 (by decide +kernel) (fun hc7424 => ?_) (fun hc7424 => ?_)
            · have r7425 : o7401.toInt = 0 := gj_eq hc7424 (show Int32.toInt 0 = 0 by decide)
              have bo7401' : gB o7401 0 0 := ⟨by omega, by omega⟩
              obtain ⟨z7426, hz7426⟩ : ∃ z : Int32, z = g7350 + Int32.ofInt 1 := ⟨_, rfl⟩
              have ez7426 : z7426.toInt = g7350.toInt + 1 := gI_inc hz7426 (by decide) bg7350' (by decide) (by decide)
              have bz7426 : gB z7426 1 8192 := ⟨by omega, by omega⟩
              refine G_iinc (L' := [(3, .int z7426), (2, .int o7401), (0, .ref q5410), (1, .ref q5411)]) z7426 1 d_cX8_readInto_79 rfl hz7426.symm (Nat.le_of_ble_eq_true rfl) rfl ?_
              refine G_goto 40 d_cX8_readInto_82 (by decide +kernel) ?_
              refine G_sub (ws' := [(q5410, .inr (13, [.ref q5412, .ref q5413, .int p5425, .int o7402, .int o7403, .long ol7404, .int o7410, .int o7405, .int o7422, .int o7411, .int o7412, .int o7413])), (q5413, .inl (I .int, 80, .inl f7423)), (q5411, .inr (5, [.ref q5414, .ref q5415, .ref q5416, .ref q5417, .ref q5418, .ref q5419, .ref q5420, .ref q5421, .ref q5422, .int o7406, .int o7414, .int o7415])), (q5414, .inl (I .int, 40, .inl f7407)), (q5415, .inl (I .int, 40, .inl f7408)), (q5416, .inl (I .int, 40, .inl f7409)), (q5417, .inl (I .int, 200, .inl f7416)), (q5418, .inl (I .int, 200, .inl f7417)), (q5419, .inl (I .int, 200, .inl f7418)), (q5420, .inl (I .int, 200, .inl f7419)), (q5421, .inl (I .int, 200, .inl f7420)), (q5422, .inl (I .int, 200, .inl f7421)), (q5412, .inr (14, [.ref q5423, .int g7374, .int g7375, .int g7376, .int g7377])), (q5423, .inr (15, [.ref q5424, .int p5452])), (q5424, .inl (I .byte, 8192, .inl f5453))]) [0, 3, 1, 4, 5, 6, 7, 8, 9, 10, 11, 12, 2, 13, 14] rfl rfl ?_
              exact ih40_7378 z7426 o7401 o7402 o7403 ol7404 o7410 o7405 o7422 o7411 o7412 o7413 f7423 o7406 o7414 o7415 f7407 f7408 f7409 f7416 f7417 f7418 f7419 f7420 f7421 g7374 g7375 g7376 g7377 (gB_w bz7426 (by decide) (by decide)) (gB_w bo7401' (by decide) (by decide)) bo7402 bo7403 bo7410 bo7405 bo7422 bo7411 bo7412 bo7413 bf7423 bo7406 bo7414 bo7415 bf7407 bf7408 bf7409 bf7416 bf7417 bf7418 bf7419 bf7420 bf7421 bg7374 bg7375 bg7376 bg7377 (by omega) (by omega)
            · have r7427 : o7401.toInt ≠ 0 := gj_neq hc7424 (show Int32.toInt 0 = 0 by decide)
              have bo7401' : gB o7401 1 1 := ⟨by omega, by omega⟩
              refine G_aload_n 2 d_cX8_readInto_72 rfl ?_
              refine G_getf 0 0 d_cX8_readInto_73 rfl (gk_X8 D I) (Nat.le_of_ble_eq_true rfl) w_1_96 rfl ?_
              refine G_callV (As := []) (wr := [(q5410, .inr (13, [.ref q5412, .ref q5413, .int p5425, .int o7402, .int o7403, .long ol7404, .int o7410, .int o7405, .int o7422, .int o7411, .int o7412, .int o7413])), (q5411, .inr (5, [.ref q5414, .ref q5415, .ref q5416, .ref q5417, .ref q5418, .ref q5419, .ref q5420, .ref q5421, .ref q5422, .int o7406, .int o7414, .int o7415])), (q5413, .inl (I .int, 80, .inl f7423)), (q5414, .inl (I .int, 40, .inl f7407)), (q5415, .inl (I .int, 40, .inl f7408)), (q5416, .inl (I .int, 40, .inl f7409)), (q5417, .inl (I .int, 200, .inl f7416)), (q5418, .inl (I .int, 200, .inl f7417)), (q5419, .inl (I .int, 200, .inl f7418)), (q5420, .inl (I .int, 200, .inl f7419)), (q5421, .inl (I .int, 200, .inl f7420)), (q5422, .inl (I .int, 200, .inl f7421))]) (gV_ok D I) (ct_4664_Signs_advance l hl0 D I q5412 q5423 q5424 g7374 g7375 g7376 g7377 p5452 f5453 bp5452 bf5453 (by omega)) d_cX8_readInto_76 ⟨w_3_213, w_1_4, w_3_11, by decide, rfl, (Nat.le_of_ble_eq_true rfl), (Nat.le_of_ble_eq_true rfl)⟩ w_3_9 w_3_10 2 rfl rfl [2, 13, 14] [0, 1, 3, 4, 5, 6, 7, 8, 9, 10, 11, 12] rfl rfl rfl rfl (by decide) (Nat.le_of_ble_eq_true rfl) (Nat.le_of_ble_eq_true rfl) (Nat.le_of_ble_eq_true rfl) (fun r w hp => ?_) (fun _ _ _ z => z.elim)
              obtain ⟨o7428, o7429, o7430, o7431, rfl, rfl, bo7428, bo7429, bo7430, bo7431, x7432⟩ := hp
              change G _ _ _ _ _ _ _ _ _ _ _
              refine G_ws (ws' := [(q5410, .inr (13, [.ref q5412, .ref q5413, .int p5425, .int o7402, .int o7403, .long ol7404, .int o7410, .int o7405, .int o7422, .int o7411, .int o7412, .int o7413])), (q5411, .inr (5, [.ref q5414, .ref q5415, .ref q5416, .ref q5417, .ref q5418, .ref q5419, .ref q5420, .ref q5421, .ref q5422, .int o7406, .int o7414, .int o7415])), (q5413, .inl (I .int, 80, .inl f7423)), (q5414, .inl (I .int, 40, .inl f7407)), (q5415, .inl (I .int, 40, .inl f7408)), (q5416, .inl (I .int, 40, .inl f7409)), (q5417, .inl (I .int, 200, .inl f7416)), (q5418, .inl (I .int, 200, .inl f7417)), (q5419, .inl (I .int, 200, .inl f7418)), (q5420, .inl (I .int, 200, .inl f7419)), (q5421, .inl (I .int, 200, .inl f7420)), (q5422, .inl (I .int, 200, .inl f7421)), (q5412, .inr (14, [.ref q5423, .int o7428, .int o7429, .int o7430, .int o7431])), (q5423, .inr (15, [.ref q5424, .int p5452])), (q5424, .inl (I .byte, 8192, .inl f5453))]) (cs' := 0) (sl' := 0) rfl rfl rfl ?_
              obtain ⟨z7433, hz7433⟩ : ∃ z : Int32, z = g7350 + Int32.ofInt 1 := ⟨_, rfl⟩
              have ez7433 : z7433.toInt = g7350.toInt + 1 := gI_inc hz7433 (by decide) bg7350' (by decide) (by decide)
              have bz7433 : gB z7433 1 8192 := ⟨by omega, by omega⟩
              refine G_iinc (L' := [(3, .int z7433), (2, .int o7401), (0, .ref q5410), (1, .ref q5411)]) z7433 1 d_cX8_readInto_79 rfl hz7433.symm (Nat.le_of_ble_eq_true rfl) rfl ?_
              refine G_goto 40 d_cX8_readInto_82 (by decide +kernel) ?_
              refine G_sub (ws' := [(q5410, .inr (13, [.ref q5412, .ref q5413, .int p5425, .int o7402, .int o7403, .long ol7404, .int o7410, .int o7405, .int o7422, .int o7411, .int o7412, .int o7413])), (q5413, .inl (I .int, 80, .inl f7423)), (q5411, .inr (5, [.ref q5414, .ref q5415, .ref q5416, .ref q5417, .ref q5418, .ref q5419, .ref q5420, .ref q5421, .ref q5422, .int o7406, .int o7414, .int o7415])), (q5414, .inl (I .int, 40, .inl f7407)), (q5415, .inl (I .int, 40, .inl f7408)), (q5416, .inl (I .int, 40, .inl f7409)), (q5417, .inl (I .int, 200, .inl f7416)), (q5418, .inl (I .int, 200, .inl f7417)), (q5419, .inl (I .int, 200, .inl f7418)), (q5420, .inl (I .int, 200, .inl f7419)), (q5421, .inl (I .int, 200, .inl f7420)), (q5422, .inl (I .int, 200, .inl f7421)), (q5412, .inr (14, [.ref q5423, .int o7428, .int o7429, .int o7430, .int o7431])), (q5423, .inr (15, [.ref q5424, .int p5452])), (q5424, .inl (I .byte, 8192, .inl f5453))]) [0, 2, 1, 3, 4, 5, 6, 7, 8, 9, 10, 11, 12, 13, 14] rfl rfl ?_
              exact ih40_7378 z7433 o7401 o7402 o7403 ol7404 o7410 o7405 o7422 o7411 o7412 o7413 f7423 o7406 o7414 o7415 f7407 f7408 f7409 f7416 f7417 f7418 f7419 f7420 f7421 o7428 o7429 o7430 o7431 (gB_w bz7433 (by decide) (by decide)) (gB_w bo7401' (by decide) (by decide)) bo7402 bo7403 bo7410 bo7405 bo7422 bo7411 bo7412 bo7413 bf7423 bo7406 bo7414 bo7415 bf7407 bf7408 bf7409 bf7416 bf7417 bf7418 bf7419 bf7420 bf7421 bo7428 bo7429 bo7430 bo7431 (by omega) (by omega)
  exact hlp40_7378 (((8193 : Int) - 0).toNat + 1) 0 1 (-1) 0 0 0 0 p5431 p5432 p5433 p5434 f5442 o5456 o5457 o5458 f5443 f5444 f5445 f5446 f5447 f5448 f5449 f5450 f5451 o5459 o5460 o5461 o5462 (gB_w (gBl (show Int32.toInt 0 = 0 by decide)) (by decide) (by decide)) (gB_w (gBl (show Int32.toInt 1 = 1 by decide)) (by decide) (by decide)) (gB_w (gBl (show Int32.toInt (-1) = (-1) by decide)) (by decide) (by decide)) (gB_w (gBl (show Int32.toInt 0 = 0 by decide)) (by decide) (by decide)) (gB_w (gBl (show Int32.toInt 0 = 0 by decide)) (by decide) (by decide)) (gB_w (gBl (show Int32.toInt 0 = 0 by decide)) (by decide) (by decide)) bp5431 bp5432 bp5433 bp5434 (gF_any f5442) (gB_w bo5456 (by decide) (by decide)) (gB_w bo5457 (by decide) (by decide)) (gB_w bo5458 (by decide) (by decide)) bf5443 (gF_any f5444) (gF_any f5445) bf5446 (gF_any f5447) (gF_any f5448) (gF_any f5449) (gF_any f5450) (gF_any f5451) bo5459 bo5460 bo5461 bo5462 (by have qa0 : Int32.toInt (-1) = (-1) := (by decide); have qa1 : Int32.toInt 0 = 0 := (by decide); have qa2 : Int32.toInt 1 = 1 := (by decide); omega) (Nat.lt_succ_self _)
abbrev ky_7467_Listing_eightFrom : gKey := (cX4_eightFrom, 5, yX4_eightFrom.cls, (some FieldType.long), [], yX4_eightFrom.name, fun _ _ => True)
abbrev po_7467_Listing_eightFrom (I : FieldType → ClassId) (q7462 : Nat) (q7463 : Nat) (p7464 : Int32) (p7465 : Int32) (f7466 : Nat → Int32) : Option Value → va_W → Prop := fun r w => ∃ (ol7538 : Int64), r = some (.long ol7538) ∧ w = [(q7462, .inr (9, [.ref q7463, .int p7465])), (q7463, .inl (I .byte, 16384, .inl f7466))]
set_option maxRecDepth 100000 in
set_option maxHeartbeats 4000000 in
theorem ct_7467_Listing_eightFrom (l : Launch) (hl0 : l.stackTraces = false) (D : va_G) (I : FieldType → ClassId) (q7462 : Nat) (q7463 : Nat) (p7464 : Int32) (p7465 : Int32) (f7466 : Nat → Int32) (bp7465 : gB p7465 0 16384) (bf7466 : gF f7466 (-128) 127) : Ct (gV D I) l yX4_eightFrom cX4_eightFrom 5 (some FieldType.long) 0 0 0 0 [.ref q7462, .int p7464] [(q7462, .inr (9, [.ref q7463, .int p7465])), (q7463, .inl (I .byte, 16384, .inl f7466))] (po_7467_Listing_eightFrom I q7462 q7463 p7464 p7465 f7466) gN := by
  refine Ct_of hl0 (by decide) (Nat.le_of_ble_eq_true rfl) ?_
  have bp7464 := gB_any p7464
  refine G_lconst 0 d_cX4_eightFrom_0 rfl ?_
  refine G_lstore_n (L' := [(2, .long 0), (0, .ref q7462), (1, .int p7464)]) d_cX4_eightFrom_1 (Nat.le_of_ble_eq_true rfl) rfl ?_
  refine G_iload_n 2 d_cX4_eightFrom_2 rfl ?_
  refine G_istore (L' := [(4, .int p7464), (2, .long 0), (0, .ref q7462), (1, .int p7464)]) d_cX4_eightFrom_3 (Nat.le_of_ble_eq_true rfl) rfl ?_
  have hlp5_7515 : ∀ (n5_7515 : Nat) (g7514 : Int32) (gl7515 : Int64), gB g7514 (-2147483648) 2147483647 → ((2147483648 : Int) - g7514.toInt).toNat < n5_7515 → G (gV D I) l (gRm 0 0 0 0) (gM (gV D I) (po_7467_Listing_eightFrom I q7462 q7463 p7464 p7465 f7466) gN 0 0) ky_7467_Listing_eightFrom 5 [(4, .int g7514), (2, .long gl7515), (0, .ref q7462), (1, .int p7464)] [] [(q7462, .inr (9, [.ref q7463, .int p7465])), (q7463, .inl (I .byte, 16384, .inl f7466))] 0 0 := by
    intro n5_7515
    induction n5_7515 with
    | zero => intro g7514 gl7515 bg7514 hm5_7515; exact absurd hm5_7515 (Nat.not_lt_zero _)
    | succ n5_7515 ih5_7515 =>
      intro g7514 gl7515 bg7514 hm5_7515
      refine G_iload 0 d_cX4_eightFrom_5 rfl ?_
      refine G_iload_n 3 d_cX4_eightFrom_7 rfl ?_
      refine G_bipush 8 d_cX4_eightFrom_8 (by decide +kernel) ?_
      refine G_iadd d_cX4_eightFrom_10 (G_nam fun z7516 hz7516 => ?_)
      have bz7516 : gB z7516 (-2147483648) 2147483647 := gB_any z7516
      refine G_icmp_ge 56 d_cX4_eightFrom_11 (by decide +kernel) (fun hc7517 => ?_) (fun hc7517 => ?_)
      · have r7518 : z7516.toInt ≤ g7514.toInt := gC_le hc7517
        refine G_lload_n 1 d_cX4_eightFrom_56 rfl ?_
        exact G_lret d_cX4_eightFrom_57 rfl (Nat.le_of_ble_eq_true rfl) (Nat.le_of_ble_eq_true rfl) ⟨gl7515, rfl, rfl⟩
      · have r7519 : g7514.toInt < z7516.toInt := gC_nle hc7517
        have bg7514' : gB g7514 (-2147483648) 2147483646 := ⟨by omega, by omega⟩
        have bz7516' : gB z7516 (-2147483647) 2147483647 := ⟨by omega, by omega⟩
        refine G_lload_n 1 d_cX4_eightFrom_14 rfl ?_
        refine G_bipush 8 d_cX4_eightFrom_15 (by decide +kernel) ?_
        refine G_lshl d_cX4_eightFrom_17 (G_namL fun u7520 hu7520 => ?_)
        refine G_iload 0 d_cX4_eightFrom_18 rfl ?_
        refine G_if_lt 46 d_cX4_eightFrom_20 (by decide +kernel) (fun hc7521 => ?_) (fun hc7521 => ?_)
        · have r7522 : g7514.toInt < 0 := gj_lt hc7521 (show Int32.toInt 0 = 0 by decide)
          have bg7514'' : gB g7514 (-2147483648) (-1) := ⟨by omega, by omega⟩
          refine G_iconst 0 d_cX4_eightFrom_46 (by decide +kernel) ?_
          refine G_i2l d_cX4_eightFrom_47 (G_namL fun u7523 hu7523 => ?_)
          refine G_lor d_cX4_eightFrom_48 (G_namL fun u7524 hu7524 => ?_)
          refine G_lstore_n (L' := [(2, .long u7524), (4, .int g7514), (0, .ref q7462), (1, .int p7464)]) d_cX4_eightFrom_49 (Nat.le_of_ble_eq_true rfl) rfl ?_
          obtain ⟨z7525, hz7525⟩ : ∃ z : Int32, z = g7514 + Int32.ofInt 1 := ⟨_, rfl⟩
          have ez7525 : z7525.toInt = g7514.toInt + 1 := gI_inc hz7525 (by decide) bg7514'' (by decide) (by decide)
          have bz7525 : gB z7525 (-2147483647) 0 := ⟨by omega, by omega⟩
          refine G_iinc (L' := [(4, .int z7525), (2, .long u7524), (0, .ref q7462), (1, .int p7464)]) z7525 1 d_cX4_eightFrom_50 rfl hz7525.symm (Nat.le_of_ble_eq_true rfl) rfl ?_
          refine G_goto 5 d_cX4_eightFrom_53 (by decide +kernel) ?_
          exact ih5_7515 z7525 u7524 (gB_w bz7525 (by decide) (by decide)) (by omega)
        · have r7526 : 0 ≤ g7514.toInt := gj_nlt hc7521 (show Int32.toInt 0 = 0 by decide)
          have bg7514'' : gB g7514 0 2147483646 := ⟨by omega, by omega⟩
          refine G_iload 0 d_cX4_eightFrom_23 rfl ?_
          refine G_aload_n 2 d_cX4_eightFrom_25 rfl ?_
          refine G_getf 0 1 d_cX4_eightFrom_26 rfl (gk_X4 D I) (Nat.le_of_ble_eq_true rfl) w_2_201 rfl ?_
          refine G_icmp_ge 46 d_cX4_eightFrom_29 (by decide +kernel) (fun hc7527 => ?_) (fun hc7527 => ?_)
          · have r7528 : p7465.toInt ≤ g7514.toInt := gC_le hc7527
            refine G_iconst 0 d_cX4_eightFrom_46 (by decide +kernel) ?_
            refine G_i2l d_cX4_eightFrom_47 (G_namL fun u7529 hu7529 => ?_)
            refine G_lor d_cX4_eightFrom_48 (G_namL fun u7530 hu7530 => ?_)
            refine G_lstore_n (L' := [(2, .long u7530), (4, .int g7514), (0, .ref q7462), (1, .int p7464)]) d_cX4_eightFrom_49 (Nat.le_of_ble_eq_true rfl) rfl ?_
            obtain ⟨z7531, hz7531⟩ : ∃ z : Int32, z = g7514 + Int32.ofInt 1 := ⟨_, rfl⟩
            have ez7531 : z7531.toInt = g7514.toInt + 1 := gI_inc hz7531 (by decide) bg7514'' (by decide) (by decide)
            have bz7531 : gB z7531 1 2147483647 := ⟨by omega, by omega⟩
            refine G_iinc (L' := [(4, .int z7531), (2, .long u7530), (0, .ref q7462), (1, .int p7464)]) z7531 1 d_cX4_eightFrom_50 rfl hz7531.symm (Nat.le_of_ble_eq_true rfl) rfl ?_
            refine G_goto 5 d_cX4_eightFrom_53 (by decide +kernel) ?_
            exact ih5_7515 z7531 u7530 (gB_w bz7531 (by decide) (by decide)) (by omega)
          · have r7532 : g7514.toInt < p7465.toInt := gC_nle hc7527
            have bg7514''' : gB g7514 0 16383 := ⟨by omega, by omega⟩
            have bp7465' : gB p7465 1 16384 := ⟨by omega, by omega⟩
            refine G_aload_n 2 d_cX4_eightFrom_32 rfl ?_
            refine G_getf 0 0 d_cX4_eightFrom_33 rfl (gk_X4 D I) (Nat.le_of_ble_eq_true rfl) w_2_200 rfl ?_
            refine G_iload 0 d_cX4_eightFrom_36 rfl ?_
            refine G_bald 1 1 d_cX4_eightFrom_38 rfl rfl (gB_in bg7514''' (by decide) (by decide)) (G_nam fun z7533 hz7533 => ?_)
            have bz7533 : gB z7533 (-128) 127 := by rw [hz7533]; exact bf7466 _
            refine G_sipush 255 d_cX4_eightFrom_39 (by decide +kernel) ?_
            refine G_iand d_cX4_eightFrom_42 (G_nam fun z7534 hz7534 => ?_)
            have bz7534 : gB z7534 0 255 := gB_and hz7534 (gBl (show Int32.toInt 255 = 255 by decide)) (by decide)
            refine G_goto 47 d_cX4_eightFrom_43 (by decide +kernel) ?_
            refine G_i2l d_cX4_eightFrom_47 (G_namL fun u7535 hu7535 => ?_)
            refine G_lor d_cX4_eightFrom_48 (G_namL fun u7536 hu7536 => ?_)
            refine G_lstore_n (L' := [(2, .long u7536), (4, .int g7514), (0, .ref q7462), (1, .int p7464)]) d_cX4_eightFrom_49 (Nat.le_of_ble_eq_true rfl) rfl ?_
            obtain ⟨z7537, hz7537⟩ : ∃ z : Int32, z = g7514 + Int32.ofInt 1 := ⟨_, rfl⟩
            have ez7537 : z7537.toInt = g7514.toInt + 1 := gI_inc hz7537 (by decide) bg7514''' (by decide) (by decide)
            have bz7537 : gB z7537 1 16384 := ⟨by omega, by omega⟩
            refine G_iinc (L' := [(4, .int z7537), (2, .long u7536), (0, .ref q7462), (1, .int p7464)]) z7537 1 d_cX4_eightFrom_50 rfl hz7537.symm (Nat.le_of_ble_eq_true rfl) rfl ?_
            refine G_goto 5 d_cX4_eightFrom_53 (by decide +kernel) ?_
            exact ih5_7515 z7537 u7536 (gB_w bz7537 (by decide) (by decide)) (by omega)
  exact hlp5_7515 (((2147483648 : Int) - p7464.toInt).toNat + 1) p7464 0 bp7464 (Nat.lt_succ_self _)
abbrev ky_7598_Listing_addByte : gKey := (cX4_addByte, 2, yX4_addByte.cls, none, [], yX4_addByte.name, fun _ _ => True)
abbrev po_7598_Listing_addByte (I : FieldType → ClassId) (q7593 : Nat) (q7594 : Nat) (p7595 : Int32) (p7596 : Int32) (f7597 : Nat → Int32) : Option Value → va_W → Prop := fun r w => ∃ (o7605 : Int32) (f7606 : Nat → Int32), r = none ∧ w = [(q7593, .inr (9, [.ref q7594, .int o7605])), (q7594, .inl (I .byte, 16384, .inl f7606))] ∧ gB o7605 1 16384 ∧ gF f7606 (-128) 127
set_option maxRecDepth 100000 in
set_option maxHeartbeats 4000000 in
theorem ct_7598_Listing_addByte (l : Launch) (hl0 : l.stackTraces = false) (D : va_G) (I : FieldType → ClassId) (q7593 : Nat) (q7594 : Nat) (p7595 : Int32) (p7596 : Int32) (f7597 : Nat → Int32) (bp7595 : gB p7595 0 65535) (bp7596 : gB p7596 0 16384) (bf7597 : gF f7597 (-128) 127) : Ct (gV D I) l yX4_addByte cX4_addByte 2 none 0 0 0 0 [.ref q7593, .int p7595] [(q7593, .inr (9, [.ref q7594, .int p7596])), (q7594, .inl (I .byte, 16384, .inl f7597))] (po_7598_Listing_addByte I q7593 q7594 p7595 p7596 f7597) gN := by
  refine Ct_of hl0 (by decide) (Nat.le_of_ble_eq_true rfl) ?_
  refine G_aload_n 0 d_cX4_addByte_0 rfl ?_
  refine G_getf 0 1 d_cX4_addByte_1 rfl (gk_X4 D I) (Nat.le_of_ble_eq_true rfl) w_2_201 rfl ?_
  refine G_aload_n 0 d_cX4_addByte_4 rfl ?_
  refine G_getf 0 0 d_cX4_addByte_5 rfl (gk_X4 D I) (Nat.le_of_ble_eq_true rfl) w_2_200 rfl ?_
  refine G_alen 16384 1 1 d_cX4_addByte_8 rfl rfl rfl ?_
  refine G_icmp_ge 33 d_cX4_addByte_9 (by decide +kernel) (fun hc7599 => ?_) (fun hc7599 => ?_)
  · have r7600 : 16384 ≤ p7596.toInt := gj_leL hc7599 (show Int32.toInt 16384 = 16384 by decide)
    have bp7596' : gB p7596 16384 16384 := ⟨by omega, by omega⟩
    exact G_vret d_cX4_addByte_33 rfl (Nat.le_of_ble_eq_true rfl) (Nat.le_of_ble_eq_true rfl) ⟨p7596, f7597, rfl, rfl, (gB_w bp7596' (by decide) (by decide)), bf7597⟩
  · have r7601 : p7596.toInt < 16384 := gj_nleL hc7599 (show Int32.toInt 16384 = 16384 by decide)
    have bp7596' : gB p7596 0 16383 := ⟨by omega, by omega⟩
    refine G_aload_n 0 d_cX4_addByte_12 rfl ?_
    refine G_getf 0 0 d_cX4_addByte_13 rfl (gk_X4 D I) (Nat.le_of_ble_eq_true rfl) w_2_200 rfl ?_
    refine G_aload_n 0 d_cX4_addByte_16 rfl ?_
    refine G_getf 0 1 d_cX4_addByte_17 rfl (gk_X4 D I) (Nat.le_of_ble_eq_true rfl) w_2_201 rfl ?_
    refine G_iload_n 1 d_cX4_addByte_20 rfl ?_
    refine G_i2b d_cX4_addByte_21 (G_nam fun z7602 hz7602 => ?_)
    have bz7602 : gB z7602 (-128) 127 := gB_i2b hz7602
    refine G_bastN 1 1 d_cX4_addByte_22 rfl rfl (gB_in bp7596' (by decide) (by decide)) (fun f7603 hf7603 => ?_)
    refine G_ws (ws' := [(q7593, .inr (9, [.ref q7594, .int p7596])), (q7594, .inl (I .byte, 16384, .inl f7603))]) (cs' := 0) (sl' := 0) rfl rfl rfl ?_
    have bf7603 : gF f7603 (-128) 127 := gF_upd hf7603 bf7597 gB_byte
    refine G_aload_n 0 d_cX4_addByte_23 rfl ?_
    refine G_dup d_cX4_addByte_24 rfl ?_
    refine G_getf 0 1 d_cX4_addByte_25 rfl (gk_X4 D I) (Nat.le_of_ble_eq_true rfl) w_2_201 rfl ?_
    refine G_iconst 1 d_cX4_addByte_28 (by decide +kernel) ?_
    refine G_iadd d_cX4_addByte_29 (G_nam fun z7604 hz7604 => ?_)
    have ez7604 : z7604.toInt = p7596.toInt + 1 := by rw [gI_add hz7604 bp7596' (gBl (show Int32.toInt 1 = 1 by decide)) (by decide) (by decide), show Int32.toInt 1 = 1 from by decide]
    have bz7604 : gB z7604 1 16384 := gB_add (gI_add hz7604 bp7596' (gBl (show Int32.toInt 1 = 1 by decide)) (by decide) (by decide)) bp7596' (gBl (show Int32.toInt 1 = 1 by decide)) (by decide) (by decide)
    refine G_putf (ws' := [(q7593, .inr (9, [.ref q7594, .int z7604])), (q7594, .inl (I .byte, 16384, .inl f7603))]) 0 1 d_cX4_addByte_30 rfl (gk_X4 D I) (Nat.le_of_ble_eq_true rfl) w_2_201 rfl rfl rfl (Nat.le_of_ble_eq_true rfl) rfl ?_
    exact G_vret d_cX4_addByte_33 rfl (Nat.le_of_ble_eq_true rfl) (Nat.le_of_ble_eq_true rfl) ⟨z7604, f7603, rfl, rfl, bz7604, bf7603⟩
abbrev ky_7586_Listing_addText : gKey := (cX4_addText, 3, yX4_addText.cls, none, [], yX4_addText.name, fun _ _ => True)
abbrev po_7586_Listing_addText (I : FieldType → ClassId) (q7579 : Nat) (q7580 : Nat) (qs7581 : Nat) (qb7582 : Nat) (bs7583 : List Int32) (p7584 : Int32) (f7585 : Nat → Int32) : Option Value → va_W → Prop := fun r w => ∃ (o7681 : Int32) (f7682 : Nat → Int32), r = none ∧ w = [(q7579, .inr (9, [.ref q7580, .int o7681])), (q7580, .inl (I .byte, 16384, .inl f7682))] ∧ gB o7681 0 16384 ∧ gF f7682 (-128) 127
set_option maxRecDepth 100000 in
set_option maxHeartbeats 4000000 in
theorem ct_7586_Listing_addText (l : Launch) (hl0 : l.stackTraces = false) (D : va_G) (I : FieldType → ClassId) (q7579 : Nat) (q7580 : Nat) (qs7581 : Nat) (qb7582 : Nat) (bs7583 : List Int32) (p7584 : Int32) (f7585 : Nat → Int32) (hbs7583 : ∀ A s H, (gV D I).2.2.2.1 A s H → gSC qs7581 qb7582 bs7583 A s H) (nbs7583 : (bs7583.length : Int) ≤ 65535) (bp7584 : gB p7584 0 16384) (bf7585 : gF f7585 (-128) 127) : Ct (gV D I) l yX4_addText cX4_addText 3 none 4 85 0 0 [.ref q7579, .ref qs7581] [(q7579, .inr (9, [.ref q7580, .int p7584])), (q7580, .inl (I .byte, 16384, .inl f7585))] (po_7586_Listing_addText I q7579 q7580 qs7581 qb7582 bs7583 p7584 f7585) gN := by
  refine Ct_of hl0 (by decide) (Nat.le_of_ble_eq_true rfl) ?_
  refine G_iconst 0 d_cX4_addText_0 (by decide +kernel) ?_
  refine G_istore_n (L' := [(2, .int 0), (0, .ref q7579), (1, .ref qs7581)]) d_cX4_addText_1 (Nat.le_of_ble_eq_true rfl) rfl ?_
  have hlp2_7671 : ∀ (n2_7671 : Nat) (g7669 : Int32) (g7670 : Int32) (f7671 : Nat → Int32), gB g7669 0 65535 → gB g7670 0 16384 → gF f7671 (-128) 127 → ((65536 : Int) - g7669.toInt).toNat < n2_7671 → G (gV D I) l (gRm 4 85 0 0) (gM (gV D I) (po_7586_Listing_addText I q7579 q7580 qs7581 qb7582 bs7583 p7584 f7585) gN 0 0) ky_7586_Listing_addText 2 [(2, .int g7669), (0, .ref q7579), (1, .ref qs7581)] [] [(q7579, .inr (9, [.ref q7580, .int g7670])), (q7580, .inl (I .byte, 16384, .inl f7671))] 0 0 := by
    intro n2_7671
    induction n2_7671 with
    | zero => intro g7669 g7670 f7671 bg7669 bg7670 bf7671 hm2_7671; exact absurd hm2_7671 (Nat.not_lt_zero _)
    | succ n2_7671 ih2_7671 =>
      intro g7669 g7670 f7671 bg7669 bg7670 bf7671 hm2_7671
      refine G_iload_n 0 d_cX4_addText_2 rfl ?_
      refine G_aload_n 2 d_cX4_addText_3 rfl ?_
      refine G_callVk (As := []) (wr := [(q7579, .inr (9, [.ref q7580, .int g7670])), (q7580, .inl (I .byte, 16384, .inl f7671))]) (gV_ok D I) (ct_3823_String_length l hl0 D I qs7581 qb7582 bs7583 hbs7583 nbs7583) d_cX4_addText_4 ⟨w_6_169, w_1_21, w_3_60, by decide, rfl, (Nat.le_of_ble_eq_true rfl), (Nat.le_of_ble_eq_true rfl)⟩ w_3_58 w_3_59 (fun _ _ _ h => (hbs7583 _ _ _ h).1) [] [0, 1] rfl rfl rfl rfl (by decide) (Nat.le_of_ble_eq_true rfl) (Nat.le_of_ble_eq_true rfl) (Nat.le_of_ble_eq_true rfl) (fun r w hp => ?_) (fun _ _ _ z => z.elim)
      obtain ⟨o7672, rfl, rfl, bo7672, x7673⟩ := hp
      change G _ _ _ _ _ _ _ (.int o7672 :: _) _ _ _
      refine G_ws (ws' := [(q7579, .inr (9, [.ref q7580, .int g7670])), (q7580, .inl (I .byte, 16384, .inl f7671))]) (cs' := 0) (sl' := 0) rfl rfl rfl ?_
      refine G_icmp_ge 25 d_cX4_addText_7 (by decide +kernel) (fun hc7674 => ?_) (fun hc7674 => ?_)
      · have r7675 : o7672.toInt ≤ g7669.toInt := gC_le hc7674
        exact G_vret d_cX4_addText_25 rfl (Nat.le_of_ble_eq_true rfl) (Nat.le_of_ble_eq_true rfl) ⟨g7670, f7671, rfl, rfl, bg7670, bf7671⟩
      · have r7676 : g7669.toInt < o7672.toInt := gC_nle hc7674
        have bg7669' : gB g7669 0 65534 := ⟨by omega, by omega⟩
        have bo7672' : gB o7672 1 65535 := ⟨by omega, by omega⟩
        refine G_aload_n 1 d_cX4_addText_10 rfl ?_
        refine G_aload_n 2 d_cX4_addText_11 rfl ?_
        refine G_iload_n 0 d_cX4_addText_12 rfl ?_
        refine G_callVk (As := [.int g7669]) (wr := [(q7579, .inr (9, [.ref q7580, .int g7670])), (q7580, .inl (I .byte, 16384, .inl f7671))]) (gV_ok D I) (ct_3854_String_charAt l hl0 D I qs7581 qb7582 bs7583 g7669 hbs7583 nbs7583 (by omega) (by omega)) d_cX4_addText_13 ⟨w_6_170, w_1_21, w_3_70, by decide, rfl, (Nat.le_of_ble_eq_true rfl), (Nat.le_of_ble_eq_true rfl)⟩ w_3_68 w_3_69 (fun _ _ _ h => (hbs7583 _ _ _ h).1) [] [0, 1] rfl rfl rfl rfl (by decide) (Nat.le_of_ble_eq_true rfl) (Nat.le_of_ble_eq_true rfl) (Nat.le_of_ble_eq_true rfl) (fun r w hp => ?_) (fun _ _ _ z => z.elim)
        obtain ⟨o7677, rfl, rfl, bo7677⟩ := hp
        change G _ _ _ _ _ _ _ (.int o7677 :: _) _ _ _
        refine G_ws (ws' := [(q7579, .inr (9, [.ref q7580, .int g7670])), (q7580, .inl (I .byte, 16384, .inl f7671))]) (cs' := 0) (sl' := 0) rfl rfl rfl ?_
        refine G_callV (As := [.int o7677]) (wr := []) (gV_ok D I) (ct_7598_Listing_addByte l hl0 D I q7579 q7580 o7677 g7670 f7671 bo7677 bg7670 bf7671) d_cX4_addText_16 ⟨w_6_171, w_1_13, w_6_174, by decide, rfl, (Nat.le_of_ble_eq_true rfl), (Nat.le_of_ble_eq_true rfl)⟩ w_6_173 w_p_66 0 rfl rfl [0, 1] [] rfl rfl rfl rfl (by decide) (Nat.le_of_ble_eq_true rfl) (Nat.le_of_ble_eq_true rfl) (Nat.le_of_ble_eq_true rfl) (fun r w hp => ?_) (fun _ _ _ z => z.elim)
        obtain ⟨o7678, f7679, rfl, rfl, bo7678, bf7679⟩ := hp
        change G _ _ _ _ _ _ _ _ _ _ _
        refine G_ws (ws' := [(q7579, .inr (9, [.ref q7580, .int o7678])), (q7580, .inl (I .byte, 16384, .inl f7679))]) (cs' := 0) (sl' := 0) rfl rfl rfl ?_
        obtain ⟨z7680, hz7680⟩ : ∃ z : Int32, z = g7669 + Int32.ofInt 1 := ⟨_, rfl⟩
        have ez7680 : z7680.toInt = g7669.toInt + 1 := gI_inc hz7680 (by decide) bg7669' (by decide) (by decide)
        have bz7680 : gB z7680 1 65535 := ⟨by omega, by omega⟩
        refine G_iinc (L' := [(2, .int z7680), (0, .ref q7579), (1, .ref qs7581)]) z7680 0 d_cX4_addText_19 rfl hz7680.symm (Nat.le_of_ble_eq_true rfl) rfl ?_
        refine G_goto 2 d_cX4_addText_22 (by decide +kernel) ?_
        exact ih2_7671 z7680 o7678 f7679 (gB_w bz7680 (by decide) (by decide)) (gB_w bo7678 (by decide) (by decide)) bf7679 (by omega)
  exact hlp2_7671 (((65536 : Int) - 0).toNat + 1) 0 p7584 f7585 (gB_w (gBl (show Int32.toInt 0 = 0 by decide)) (by decide) (by decide)) bp7584 bf7585 (Nat.lt_succ_self _)
abbrev ky_7695_Math_abs : gKey := (cJ9_abs_067f4, 2, yJ9_abs_067f4.cls, (some FieldType.long), [], yJ9_abs_067f4.name, fun _ _ => True)
abbrev po_7695_Math_abs (I : FieldType → ClassId) (pl7694 : Int64) : Option Value → va_W → Prop := fun r w => ∃ (ol7701 : Int64), r = some (.long ol7701) ∧ w = []
set_option maxRecDepth 100000 in
set_option maxHeartbeats 4000000 in
theorem ct_7695_Math_abs (l : Launch) (hl0 : l.stackTraces = false) (D : va_G) (I : FieldType → ClassId) (pl7694 : Int64)  : Ct (gV D I) l yJ9_abs_067f4 cJ9_abs_067f4 2 (some FieldType.long) 0 0 0 0 [.long pl7694] [] (po_7695_Math_abs I pl7694) gN := by
  refine Ct_ofF hl0 (by decide +kernel) (Nat.le_of_ble_eq_true rfl) ?_
  refine G_lload_n 0 d_cJ9_abs_067f4_0 rfl ?_
  refine G_lconst 0 d_cJ9_abs_067f4_1 rfl ?_
  refine G_lcmp d_cJ9_abs_067f4_2 (G_nam fun z7696 hz7696 => ?_)
  have bz7696 : gB z7696 (-1) 1 := gB_cmp hz7696
  refine G_if_ge 11 d_cJ9_abs_067f4_3 (by decide +kernel) (fun hc7697 => ?_) (fun hc7697 => ?_)
  · have r7698 : 0 ≤ z7696.toInt := gj_leL hc7697 (show Int32.toInt 0 = 0 by decide)
    have bz7696' : gB z7696 0 1 := ⟨by omega, by omega⟩
    refine G_lload_n 0 d_cJ9_abs_067f4_11 rfl ?_
    exact G_lret d_cJ9_abs_067f4_12 rfl (Nat.le_of_ble_eq_true rfl) (Nat.le_of_ble_eq_true rfl) ⟨pl7694, rfl, rfl⟩
  · have r7699 : z7696.toInt < 0 := gj_nleL hc7697 (show Int32.toInt 0 = 0 by decide)
    have bz7696' : gB z7696 (-1) (-1) := ⟨by omega, by omega⟩
    have lhc7697 := gC_cmpS hz7696 (by omega)
    refine G_lload_n 0 d_cJ9_abs_067f4_6 rfl ?_
    refine G_lneg d_cJ9_abs_067f4_7 (G_namL fun u7700 hu7700 => ?_)
    refine G_goto 12 d_cJ9_abs_067f4_8 (by decide +kernel) ?_
    exact G_lret d_cJ9_abs_067f4_12 rfl (Nat.le_of_ble_eq_true rfl) (Nat.le_of_ble_eq_true rfl) ⟨u7700, rfl, rfl⟩
abbrev ky_7690_Listing_addNumber : gKey := (cX4_addNumber, 7, yX4_addNumber.cls, none, [], yX4_addNumber.name, fun _ _ => True)
abbrev po_7690_Listing_addNumber (I : FieldType → ClassId) (q7685 : Nat) (q7686 : Nat) (p7687 : Int32) (p7688 : Int32) (f7689 : Nat → Int32) : Option Value → va_W → Prop := fun r w => ∃ (o10306 : Int32) (f10307 : Nat → Int32), r = none ∧ w = [(q7685, .inr (9, [.ref q7686, .int o10306])), (q7686, .inl (I .byte, 16384, .inl f10307))] ∧ gB o10306 0 16384 ∧ gF f10307 (-128) 127
set_option maxRecDepth 100000 in
set_option maxHeartbeats 4000000 in
theorem ct_7690_Listing_addNumber (l : Launch) (hl0 : l.stackTraces = false) (D : va_G) (I : FieldType → ClassId) (q7685 : Nat) (q7686 : Nat) (p7687 : Int32) (p7688 : Int32) (f7689 : Nat → Int32) (bp7688 : gB p7688 0 16384) (bf7689 : gF f7689 (-128) 127) : Ct (gV D I) l yX4_addNumber cX4_addNumber 7 none 1 21 0 0 [.ref q7685, .int p7687] [(q7685, .inr (9, [.ref q7686, .int p7688])), (q7686, .inl (I .byte, 16384, .inl f7689))] (po_7690_Listing_addNumber I q7685 q7686 p7687 p7688 f7689) gN := by
  refine Ct_of hl0 (by decide) (Nat.le_of_ble_eq_true rfl) ?_
  have bp7687 := gB_any p7687
  refine G_iload_n 1 d_cX4_addNumber_0 rfl ?_
  refine G_if_ge 10 d_cX4_addNumber_1 (by decide +kernel) (fun hc7691 => ?_) (fun hc7691 => ?_)
  · have r7692 : 0 ≤ p7687.toInt := gj_leL hc7691 (show Int32.toInt 0 = 0 by decide)
    have bp7687' : gB p7687 0 2147483647 := ⟨by omega, by omega⟩
    refine G_iload_n 1 d_cX4_addNumber_10 rfl ?_
    refine G_i2l d_cX4_addNumber_11 (G_namL fun u7693 hu7693 => ?_)
    refine G_callS (As := [.long u7693]) (wr := [(q7685, .inr (9, [.ref q7686, .int p7688])), (q7686, .inl (I .byte, 16384, .inl f7689))]) (gV_ok D I) (ct_7695_Math_abs l hl0 D I u7693 ) d_cX4_addNumber_12 ⟨w_6_179, w_1_6, w_6_181, by decide, rfl, (Nat.le_of_ble_eq_true rfl), (Nat.le_of_ble_eq_true rfl)⟩ w_6_180 [] [0, 1] rfl rfl rfl rfl (by decide) (Nat.le_of_ble_eq_true rfl) (Nat.le_of_ble_eq_true rfl) (Nat.le_of_ble_eq_true rfl) (fun r w hp => ?_) (fun _ _ _ z => z.elim)
    obtain ⟨ol7702, rfl, rfl⟩ := hp
    change G _ _ _ _ _ _ _ (.long ol7702 :: _) _ _ _
    refine G_ws (ws' := [(q7685, .inr (9, [.ref q7686, .int p7688])), (q7686, .inl (I .byte, 16384, .inl f7689))]) (cs' := 0) (sl' := 0) rfl rfl rfl ?_
    refine G_lstore_n (L' := [(2, .long ol7702), (0, .ref q7685), (1, .int p7687)]) d_cX4_addNumber_15 (Nat.le_of_ble_eq_true rfl) rfl ?_
    refine G_lconst 1 d_cX4_addNumber_16 rfl ?_
    refine G_lstore (L' := [(4, .long 1), (2, .long ol7702), (0, .ref q7685), (1, .int p7687)]) d_cX4_addNumber_17 (Nat.le_of_ble_eq_true rfl) rfl ?_
    refine G_iconst 0 d_cX4_addNumber_19 (by decide +kernel) ?_
    refine G_istore (L' := [(6, .int 0), (4, .long 1), (2, .long ol7702), (0, .ref q7685), (1, .int p7687)]) d_cX4_addNumber_20 (Nat.le_of_ble_eq_true rfl) rfl ?_
    have hlp22_8745 : ∀ (n22_8745 : Nat) (g8744 : Int32) (gl8745 : Int64), gB g8744 0 9 → ((10 : Int) - g8744.toInt).toNat < n22_8745 → G (gV D I) l (gRm 1 21 0 0) (gM (gV D I) (po_7690_Listing_addNumber I q7685 q7686 p7687 p7688 f7689) gN 0 0) ky_7690_Listing_addNumber 22 [(6, .int g8744), (4, .long gl8745), (2, .long ol7702), (0, .ref q7685), (1, .int p7687)] [] [(q7685, .inr (9, [.ref q7686, .int p7688])), (q7686, .inl (I .byte, 16384, .inl f7689))] 0 0 := by
      intro n22_8745
      induction n22_8745 with
      | zero => intro g8744 gl8745 bg8744 hm22_8745; exact absurd hm22_8745 (Nat.not_lt_zero _)
      | succ n22_8745 ih22_8745 =>
        intro g8744 gl8745 bg8744 hm22_8745
        refine G_iload 0 d_cX4_addNumber_22 rfl ?_
        refine G_bipush 9 d_cX4_addNumber_24 (by decide +kernel) ?_
        refine G_icmp_ge 54 d_cX4_addNumber_26 (by decide +kernel) (fun hc8746 => ?_) (fun hc8746 => ?_)
        · have r8747 : 9 ≤ g8744.toInt := gj_leL hc8746 (show Int32.toInt 9 = 9 by decide)
          have bg8744' : gB g8744 9 9 := ⟨by omega, by omega⟩
          refine G_iconst 0 d_cX4_addNumber_54 (by decide +kernel) ?_
          refine G_istore (L' := [(6, .int 0), (4, .long gl8745), (2, .long ol7702), (0, .ref q7685), (1, .int p7687)]) d_cX4_addNumber_55 (Nat.le_of_ble_eq_true rfl) rfl ?_
          have hlp57_8854 : ∀ (n57_8854 : Nat) (g8851 : Int32) (gl8852 : Int64) (g8853 : Int32) (f8854 : Nat → Int32), gB g8851 0 10 → gB g8853 0 16384 → gF f8854 (-128) 127 → ((11 : Int) - g8851.toInt).toNat < n57_8854 → G (gV D I) l (gRm 1 21 0 0) (gM (gV D I) (po_7690_Listing_addNumber I q7685 q7686 p7687 p7688 f7689) gN 0 0) ky_7690_Listing_addNumber 57 [(6, .int g8851), (4, .long gl8852), (2, .long ol7702), (0, .ref q7685), (1, .int p7687)] [] [(q7685, .inr (9, [.ref q7686, .int g8853])), (q7686, .inl (I .byte, 16384, .inl f8854))] 0 0 := by
            intro n57_8854
            induction n57_8854 with
            | zero => intro g8851 gl8852 g8853 f8854 bg8851 bg8853 bf8854 hm57_8854; exact absurd hm57_8854 (Nat.not_lt_zero _)
            | succ n57_8854 ih57_8854 =>
              intro g8851 gl8852 g8853 f8854 bg8851 bg8853 bf8854 hm57_8854
              refine G_iload 0 d_cX4_addNumber_57 rfl ?_
              refine G_bipush 10 d_cX4_addNumber_59 (by decide +kernel) ?_
              refine G_icmp_ge 103 d_cX4_addNumber_61 (by decide +kernel) (fun hc8855 => ?_) (fun hc8855 => ?_)
              · have r8856 : 10 ≤ g8851.toInt := gj_leL hc8855 (show Int32.toInt 10 = 10 by decide)
                have bg8851' : gB g8851 10 10 := ⟨by omega, by omega⟩
                exact G_vret d_cX4_addNumber_103 rfl (Nat.le_of_ble_eq_true rfl) (Nat.le_of_ble_eq_true rfl) ⟨g8853, f8854, rfl, rfl, bg8853, bf8854⟩
              · have r8857 : g8851.toInt < 10 := gj_nleL hc8855 (show Int32.toInt 10 = 10 by decide)
                have bg8851' : gB g8851 0 9 := ⟨by omega, by omega⟩
                refine G_lload 1 d_cX4_addNumber_64 rfl ?_
                refine G_lconst 0 d_cX4_addNumber_66 rfl ?_
                refine G_lcmp d_cX4_addNumber_67 (G_nam fun z8858 hz8858 => ?_)
                have bz8858 : gB z8858 (-1) 1 := gB_cmp hz8858
                refine G_if_le 103 d_cX4_addNumber_68 (by decide +kernel) (fun hc8859 => ?_) (fun hc8859 => ?_)
                · have r8860 : z8858.toInt ≤ 0 := gj_le hc8859 (show Int32.toInt 0 = 0 by decide)
                  have bz8858' : gB z8858 (-1) 0 := ⟨by omega, by omega⟩
                  exact G_vret d_cX4_addNumber_103 rfl (Nat.le_of_ble_eq_true rfl) (Nat.le_of_ble_eq_true rfl) ⟨g8853, f8854, rfl, rfl, bg8853, bf8854⟩
                · have r8861 : 0 < z8858.toInt := gj_nle hc8859 (show Int32.toInt 0 = 0 by decide)
                  have bz8858' : gB z8858 1 1 := ⟨by omega, by omega⟩
                  have lhc8859 := gC_cmpS hz8858 (by omega)
                  refine G_aload_n 3 d_cX4_addNumber_71 rfl ?_
                  refine G_ldc2 48 d_cX4_addNumber_72 w_6_183 ?_
                  refine G_lload_n 2 d_cX4_addNumber_75 rfl ?_
                  refine G_lload 1 d_cX4_addNumber_76 rfl ?_
                  refine G_ldiv d_cX4_addNumber_78 lhc8859 (G_namL fun u8862 hu8862 => ?_)
                  refine G_ldc2 10 d_cX4_addNumber_79 w_6_182 ?_
                  refine G_lrem d_cX4_addNumber_82 (by decide) (G_namL fun u8863 hu8863 => ?_)
                  refine G_ladd d_cX4_addNumber_83 (G_namL fun u8864 hu8864 => ?_)
                  refine G_l2i d_cX4_addNumber_84 (G_nam fun z8865 hz8865 => ?_)
                  have bz8865 : gB z8865 (-2147483648) 2147483647 := gB_any z8865
                  refine G_i2c d_cX4_addNumber_85 (G_nam fun z8866 hz8866 => ?_)
                  have bz8866 : gB z8866 0 65535 := gB_i2c hz8866
                  refine G_callV (As := [.int z8866]) (wr := []) (gV_ok D I) (ct_7598_Listing_addByte l hl0 D I q7685 q7686 z8866 g8853 f8854 bz8866 bg8853 bf8854) d_cX4_addNumber_86 ⟨w_6_171, w_1_13, w_6_174, by decide, rfl, (Nat.le_of_ble_eq_true rfl), (Nat.le_of_ble_eq_true rfl)⟩ w_6_173 w_p_66 0 rfl rfl [0, 1] [] rfl rfl rfl rfl (by decide) (Nat.le_of_ble_eq_true rfl) (Nat.le_of_ble_eq_true rfl) (Nat.le_of_ble_eq_true rfl) (fun r w hp => ?_) (fun _ _ _ z => z.elim)
                  obtain ⟨o8867, f8868, rfl, rfl, bo8867, bf8868⟩ := hp
                  change G _ _ _ _ _ _ _ _ _ _ _
                  refine G_ws (ws' := [(q7685, .inr (9, [.ref q7686, .int o8867])), (q7686, .inl (I .byte, 16384, .inl f8868))]) (cs' := 0) (sl' := 0) rfl rfl rfl ?_
                  refine G_lload 1 d_cX4_addNumber_89 rfl ?_
                  refine G_ldc2 10 d_cX4_addNumber_91 w_6_182 ?_
                  refine G_ldiv d_cX4_addNumber_94 (by decide) (G_namL fun u8869 hu8869 => ?_)
                  refine G_lstore (L' := [(4, .long u8869), (6, .int g8851), (2, .long ol7702), (0, .ref q7685), (1, .int p7687)]) d_cX4_addNumber_95 (Nat.le_of_ble_eq_true rfl) rfl ?_
                  obtain ⟨z8870, hz8870⟩ : ∃ z : Int32, z = g8851 + Int32.ofInt 1 := ⟨_, rfl⟩
                  have ez8870 : z8870.toInt = g8851.toInt + 1 := gI_inc hz8870 (by decide) bg8851' (by decide) (by decide)
                  have bz8870 : gB z8870 1 10 := ⟨by omega, by omega⟩
                  refine G_iinc (L' := [(6, .int z8870), (4, .long u8869), (2, .long ol7702), (0, .ref q7685), (1, .int p7687)]) z8870 1 d_cX4_addNumber_97 rfl hz8870.symm (Nat.le_of_ble_eq_true rfl) rfl ?_
                  refine G_goto 57 d_cX4_addNumber_100 (by decide +kernel) ?_
                  exact ih57_8854 z8870 u8869 o8867 f8868 (gB_w bz8870 (by decide) (by decide)) (gB_w bo8867 (by decide) (by decide)) bf8868 (by omega)
          exact hlp57_8854 (((11 : Int) - 0).toNat + 1) 0 gl8745 p7688 f7689 (gB_w (gBl (show Int32.toInt 0 = 0 by decide)) (by decide) (by decide)) bp7688 bf7689 (Nat.lt_succ_self _)
        · have r8871 : g8744.toInt < 9 := gj_nleL hc8746 (show Int32.toInt 9 = 9 by decide)
          have bg8744' : gB g8744 0 8 := ⟨by omega, by omega⟩
          refine G_lload 1 d_cX4_addNumber_29 rfl ?_
          refine G_lload_n 2 d_cX4_addNumber_31 rfl ?_
          refine G_ldc2 10 d_cX4_addNumber_32 w_6_182 ?_
          refine G_ldiv d_cX4_addNumber_35 (by decide) (G_namL fun u8872 hu8872 => ?_)
          refine G_lcmp d_cX4_addNumber_36 (G_nam fun z8873 hz8873 => ?_)
          have bz8873 : gB z8873 (-1) 1 := gB_cmp hz8873
          refine G_if_gt 54 d_cX4_addNumber_37 (by decide +kernel) (fun hc8874 => ?_) (fun hc8874 => ?_)
          · have r8875 : 0 < z8873.toInt := gj_ltL hc8874 (show Int32.toInt 0 = 0 by decide)
            have bz8873' : gB z8873 1 1 := ⟨by omega, by omega⟩
            have lhc8874 := gC_cmpS hz8873 (by omega)
            refine G_iconst 0 d_cX4_addNumber_54 (by decide +kernel) ?_
            refine G_istore (L' := [(6, .int 0), (4, .long gl8745), (2, .long ol7702), (0, .ref q7685), (1, .int p7687)]) d_cX4_addNumber_55 (Nat.le_of_ble_eq_true rfl) rfl ?_
            have hlp57_8982 : ∀ (n57_8982 : Nat) (g8979 : Int32) (gl8980 : Int64) (g8981 : Int32) (f8982 : Nat → Int32), gB g8979 0 10 → gB g8981 0 16384 → gF f8982 (-128) 127 → ((11 : Int) - g8979.toInt).toNat < n57_8982 → G (gV D I) l (gRm 1 21 0 0) (gM (gV D I) (po_7690_Listing_addNumber I q7685 q7686 p7687 p7688 f7689) gN 0 0) ky_7690_Listing_addNumber 57 [(6, .int g8979), (4, .long gl8980), (2, .long ol7702), (0, .ref q7685), (1, .int p7687)] [] [(q7685, .inr (9, [.ref q7686, .int g8981])), (q7686, .inl (I .byte, 16384, .inl f8982))] 0 0 := by
              intro n57_8982
              induction n57_8982 with
              | zero => intro g8979 gl8980 g8981 f8982 bg8979 bg8981 bf8982 hm57_8982; exact absurd hm57_8982 (Nat.not_lt_zero _)
              | succ n57_8982 ih57_8982 =>
                intro g8979 gl8980 g8981 f8982 bg8979 bg8981 bf8982 hm57_8982
                refine G_iload 0 d_cX4_addNumber_57 rfl ?_
                refine G_bipush 10 d_cX4_addNumber_59 (by decide +kernel) ?_
                refine G_icmp_ge 103 d_cX4_addNumber_61 (by decide +kernel) (fun hc8983 => ?_) (fun hc8983 => ?_)
                · have r8984 : 10 ≤ g8979.toInt := gj_leL hc8983 (show Int32.toInt 10 = 10 by decide)
                  have bg8979' : gB g8979 10 10 := ⟨by omega, by omega⟩
                  exact G_vret d_cX4_addNumber_103 rfl (Nat.le_of_ble_eq_true rfl) (Nat.le_of_ble_eq_true rfl) ⟨g8981, f8982, rfl, rfl, bg8981, bf8982⟩
                · have r8985 : g8979.toInt < 10 := gj_nleL hc8983 (show Int32.toInt 10 = 10 by decide)
                  have bg8979' : gB g8979 0 9 := ⟨by omega, by omega⟩
                  refine G_lload 1 d_cX4_addNumber_64 rfl ?_
                  refine G_lconst 0 d_cX4_addNumber_66 rfl ?_
                  refine G_lcmp d_cX4_addNumber_67 (G_nam fun z8986 hz8986 => ?_)
                  have bz8986 : gB z8986 (-1) 1 := gB_cmp hz8986
                  refine G_if_le 103 d_cX4_addNumber_68 (by decide +kernel) (fun hc8987 => ?_) (fun hc8987 => ?_)
                  · have r8988 : z8986.toInt ≤ 0 := gj_le hc8987 (show Int32.toInt 0 = 0 by decide)
                    have bz8986' : gB z8986 (-1) 0 := ⟨by omega, by omega⟩
                    exact G_vret d_cX4_addNumber_103 rfl (Nat.le_of_ble_eq_true rfl) (Nat.le_of_ble_eq_true rfl) ⟨g8981, f8982, rfl, rfl, bg8981, bf8982⟩
                  · have r8989 : 0 < z8986.toInt := gj_nle hc8987 (show Int32.toInt 0 = 0 by decide)
                    have bz8986' : gB z8986 1 1 := ⟨by omega, by omega⟩
                    have lhc8987 := gC_cmpS hz8986 (by omega)
                    refine G_aload_n 3 d_cX4_addNumber_71 rfl ?_
                    refine G_ldc2 48 d_cX4_addNumber_72 w_6_183 ?_
                    refine G_lload_n 2 d_cX4_addNumber_75 rfl ?_
                    refine G_lload 1 d_cX4_addNumber_76 rfl ?_
                    refine G_ldiv d_cX4_addNumber_78 lhc8987 (G_namL fun u8990 hu8990 => ?_)
                    refine G_ldc2 10 d_cX4_addNumber_79 w_6_182 ?_
                    refine G_lrem d_cX4_addNumber_82 (by decide) (G_namL fun u8991 hu8991 => ?_)
                    refine G_ladd d_cX4_addNumber_83 (G_namL fun u8992 hu8992 => ?_)
                    refine G_l2i d_cX4_addNumber_84 (G_nam fun z8993 hz8993 => ?_)
                    have bz8993 : gB z8993 (-2147483648) 2147483647 := gB_any z8993
                    refine G_i2c d_cX4_addNumber_85 (G_nam fun z8994 hz8994 => ?_)
                    have bz8994 : gB z8994 0 65535 := gB_i2c hz8994
                    refine G_callV (As := [.int z8994]) (wr := []) (gV_ok D I) (ct_7598_Listing_addByte l hl0 D I q7685 q7686 z8994 g8981 f8982 bz8994 bg8981 bf8982) d_cX4_addNumber_86 ⟨w_6_171, w_1_13, w_6_174, by decide, rfl, (Nat.le_of_ble_eq_true rfl), (Nat.le_of_ble_eq_true rfl)⟩ w_6_173 w_p_66 0 rfl rfl [0, 1] [] rfl rfl rfl rfl (by decide) (Nat.le_of_ble_eq_true rfl) (Nat.le_of_ble_eq_true rfl) (Nat.le_of_ble_eq_true rfl) (fun r w hp => ?_) (fun _ _ _ z => z.elim)
                    obtain ⟨o8995, f8996, rfl, rfl, bo8995, bf8996⟩ := hp
                    change G _ _ _ _ _ _ _ _ _ _ _
                    refine G_ws (ws' := [(q7685, .inr (9, [.ref q7686, .int o8995])), (q7686, .inl (I .byte, 16384, .inl f8996))]) (cs' := 0) (sl' := 0) rfl rfl rfl ?_
                    refine G_lload 1 d_cX4_addNumber_89 rfl ?_
                    refine G_ldc2 10 d_cX4_addNumber_91 w_6_182 ?_
                    refine G_ldiv d_cX4_addNumber_94 (by decide) (G_namL fun u8997 hu8997 => ?_)
                    refine G_lstore (L' := [(4, .long u8997), (6, .int g8979), (2, .long ol7702), (0, .ref q7685), (1, .int p7687)]) d_cX4_addNumber_95 (Nat.le_of_ble_eq_true rfl) rfl ?_
                    obtain ⟨z8998, hz8998⟩ : ∃ z : Int32, z = g8979 + Int32.ofInt 1 := ⟨_, rfl⟩
                    have ez8998 : z8998.toInt = g8979.toInt + 1 := gI_inc hz8998 (by decide) bg8979' (by decide) (by decide)
                    have bz8998 : gB z8998 1 10 := ⟨by omega, by omega⟩
                    refine G_iinc (L' := [(6, .int z8998), (4, .long u8997), (2, .long ol7702), (0, .ref q7685), (1, .int p7687)]) z8998 1 d_cX4_addNumber_97 rfl hz8998.symm (Nat.le_of_ble_eq_true rfl) rfl ?_
                    refine G_goto 57 d_cX4_addNumber_100 (by decide +kernel) ?_
                    exact ih57_8982 z8998 u8997 o8995 f8996 (gB_w bz8998 (by decide) (by decide)) (gB_w bo8995 (by decide) (by decide)) bf8996 (by omega)
            exact hlp57_8982 (((11 : Int) - 0).toNat + 1) 0 gl8745 p7688 f7689 (gB_w (gBl (show Int32.toInt 0 = 0 by decide)) (by decide) (by decide)) bp7688 bf7689 (Nat.lt_succ_self _)
          · have r8999 : z8873.toInt ≤ 0 := gj_nltL hc8874 (show Int32.toInt 0 = 0 by decide)
            have bz8873' : gB z8873 (-1) 0 := ⟨by omega, by omega⟩
            refine G_lload 1 d_cX4_addNumber_40 rfl ?_
            refine G_ldc2 10 d_cX4_addNumber_42 w_6_182 ?_
            refine G_lmul d_cX4_addNumber_45 (G_namL fun u9000 hu9000 => ?_)
            refine G_lstore (L' := [(4, .long u9000), (6, .int g8744), (2, .long ol7702), (0, .ref q7685), (1, .int p7687)]) d_cX4_addNumber_46 (Nat.le_of_ble_eq_true rfl) rfl ?_
            obtain ⟨z9001, hz9001⟩ : ∃ z : Int32, z = g8744 + Int32.ofInt 1 := ⟨_, rfl⟩
            have ez9001 : z9001.toInt = g8744.toInt + 1 := gI_inc hz9001 (by decide) bg8744' (by decide) (by decide)
            have bz9001 : gB z9001 1 9 := ⟨by omega, by omega⟩
            refine G_iinc (L' := [(6, .int z9001), (4, .long u9000), (2, .long ol7702), (0, .ref q7685), (1, .int p7687)]) z9001 1 d_cX4_addNumber_48 rfl hz9001.symm (Nat.le_of_ble_eq_true rfl) rfl ?_
            refine G_goto 22 d_cX4_addNumber_51 (by decide +kernel) ?_
            exact ih22_8745 z9001 u9000 (gB_w bz9001 (by decide) (by decide)) (by omega)
    exact hlp22_8745 (((10 : Int) - 0).toNat + 1) 0 1 (gB_w (gBl (show Int32.toInt 0 = 0 by decide)) (by decide) (by decide)) (Nat.lt_succ_self _)
  · have r9002 : p7687.toInt < 0 := gj_nleL hc7691 (show Int32.toInt 0 = 0 by decide)
    have bp7687' : gB p7687 (-2147483648) (-1) := ⟨by omega, by omega⟩
    refine G_aload_n 0 d_cX4_addNumber_4 rfl ?_
    refine G_bipush 45 d_cX4_addNumber_5 (by decide +kernel) ?_
    refine G_callV (As := [.int 45]) (wr := []) (gV_ok D I) (ct_7598_Listing_addByte l hl0 D I q7685 q7686 45 p7688 f7689 (gB_w (gBl (show Int32.toInt 45 = 45 by decide)) (by decide) (by decide)) bp7688 bf7689) d_cX4_addNumber_7 ⟨w_6_171, w_1_13, w_6_174, by decide, rfl, (Nat.le_of_ble_eq_true rfl), (Nat.le_of_ble_eq_true rfl)⟩ w_6_173 w_p_66 0 rfl rfl [0, 1] [] rfl rfl rfl rfl (by decide) (Nat.le_of_ble_eq_true rfl) (Nat.le_of_ble_eq_true rfl) (Nat.le_of_ble_eq_true rfl) (fun r w hp => ?_) (fun _ _ _ z => z.elim)
    obtain ⟨o9003, f9004, rfl, rfl, bo9003, bf9004⟩ := hp
    change G _ _ _ _ _ _ _ _ _ _ _
    refine G_ws (ws' := [(q7685, .inr (9, [.ref q7686, .int o9003])), (q7686, .inl (I .byte, 16384, .inl f9004))]) (cs' := 0) (sl' := 0) rfl rfl rfl ?_
    refine G_iload_n 1 d_cX4_addNumber_10 rfl ?_
    refine G_i2l d_cX4_addNumber_11 (G_namL fun u9005 hu9005 => ?_)
    refine G_callS (As := [.long u9005]) (wr := [(q7685, .inr (9, [.ref q7686, .int o9003])), (q7686, .inl (I .byte, 16384, .inl f9004))]) (gV_ok D I) (ct_7695_Math_abs l hl0 D I u9005 ) d_cX4_addNumber_12 ⟨w_6_179, w_1_6, w_6_181, by decide, rfl, (Nat.le_of_ble_eq_true rfl), (Nat.le_of_ble_eq_true rfl)⟩ w_6_180 [] [0, 1] rfl rfl rfl rfl (by decide) (Nat.le_of_ble_eq_true rfl) (Nat.le_of_ble_eq_true rfl) (Nat.le_of_ble_eq_true rfl) (fun r w hp => ?_) (fun _ _ _ z => z.elim)
    obtain ⟨ol9006, rfl, rfl⟩ := hp
    change G _ _ _ _ _ _ _ (.long ol9006 :: _) _ _ _
    refine G_ws (ws' := [(q7685, .inr (9, [.ref q7686, .int o9003])), (q7686, .inl (I .byte, 16384, .inl f9004))]) (cs' := 0) (sl' := 0) rfl rfl rfl ?_
    refine G_lstore_n (L' := [(2, .long ol9006), (0, .ref q7685), (1, .int p7687)]) d_cX4_addNumber_15 (Nat.le_of_ble_eq_true rfl) rfl ?_
    refine G_lconst 1 d_cX4_addNumber_16 rfl ?_
    refine G_lstore (L' := [(4, .long 1), (2, .long ol9006), (0, .ref q7685), (1, .int p7687)]) d_cX4_addNumber_17 (Nat.le_of_ble_eq_true rfl) rfl ?_
    refine G_iconst 0 d_cX4_addNumber_19 (by decide +kernel) ?_
    refine G_istore (L' := [(6, .int 0), (4, .long 1), (2, .long ol9006), (0, .ref q7685), (1, .int p7687)]) d_cX4_addNumber_20 (Nat.le_of_ble_eq_true rfl) rfl ?_
    have hlp22_10049 : ∀ (n22_10049 : Nat) (g10048 : Int32) (gl10049 : Int64), gB g10048 0 9 → ((10 : Int) - g10048.toInt).toNat < n22_10049 → G (gV D I) l (gRm 1 21 0 0) (gM (gV D I) (po_7690_Listing_addNumber I q7685 q7686 p7687 p7688 f7689) gN 0 0) ky_7690_Listing_addNumber 22 [(6, .int g10048), (4, .long gl10049), (2, .long ol9006), (0, .ref q7685), (1, .int p7687)] [] [(q7685, .inr (9, [.ref q7686, .int o9003])), (q7686, .inl (I .byte, 16384, .inl f9004))] 0 0 := by
      intro n22_10049
      induction n22_10049 with
      | zero => intro g10048 gl10049 bg10048 hm22_10049; exact absurd hm22_10049 (Nat.not_lt_zero _)
      | succ n22_10049 ih22_10049 =>
        intro g10048 gl10049 bg10048 hm22_10049
        refine G_iload 0 d_cX4_addNumber_22 rfl ?_
        refine G_bipush 9 d_cX4_addNumber_24 (by decide +kernel) ?_
        refine G_icmp_ge 54 d_cX4_addNumber_26 (by decide +kernel) (fun hc10050 => ?_) (fun hc10050 => ?_)
        · have r10051 : 9 ≤ g10048.toInt := gj_leL hc10050 (show Int32.toInt 9 = 9 by decide)
          have bg10048' : gB g10048 9 9 := ⟨by omega, by omega⟩
          refine G_iconst 0 d_cX4_addNumber_54 (by decide +kernel) ?_
          refine G_istore (L' := [(6, .int 0), (4, .long gl10049), (2, .long ol9006), (0, .ref q7685), (1, .int p7687)]) d_cX4_addNumber_55 (Nat.le_of_ble_eq_true rfl) rfl ?_
          have hlp57_10158 : ∀ (n57_10158 : Nat) (g10155 : Int32) (gl10156 : Int64) (g10157 : Int32) (f10158 : Nat → Int32), gB g10155 0 10 → gB g10157 0 16384 → gF f10158 (-128) 127 → ((11 : Int) - g10155.toInt).toNat < n57_10158 → G (gV D I) l (gRm 1 21 0 0) (gM (gV D I) (po_7690_Listing_addNumber I q7685 q7686 p7687 p7688 f7689) gN 0 0) ky_7690_Listing_addNumber 57 [(6, .int g10155), (4, .long gl10156), (2, .long ol9006), (0, .ref q7685), (1, .int p7687)] [] [(q7685, .inr (9, [.ref q7686, .int g10157])), (q7686, .inl (I .byte, 16384, .inl f10158))] 0 0 := by
            intro n57_10158
            induction n57_10158 with
            | zero => intro g10155 gl10156 g10157 f10158 bg10155 bg10157 bf10158 hm57_10158; exact absurd hm57_10158 (Nat.not_lt_zero _)
            | succ n57_10158 ih57_10158 =>
              intro g10155 gl10156 g10157 f10158 bg10155 bg10157 bf10158 hm57_10158
              refine G_iload 0 d_cX4_addNumber_57 rfl ?_
              refine G_bipush 10 d_cX4_addNumber_59 (by decide +kernel) ?_
              refine G_icmp_ge 103 d_cX4_addNumber_61 (by decide +kernel) (fun hc10159 => ?_) (fun hc10159 => ?_)
              · have r10160 : 10 ≤ g10155.toInt := gj_leL hc10159 (show Int32.toInt 10 = 10 by decide)
                have bg10155' : gB g10155 10 10 := ⟨by omega, by omega⟩
                exact G_vret d_cX4_addNumber_103 rfl (Nat.le_of_ble_eq_true rfl) (Nat.le_of_ble_eq_true rfl) ⟨g10157, f10158, rfl, rfl, bg10157, bf10158⟩
              · have r10161 : g10155.toInt < 10 := gj_nleL hc10159 (show Int32.toInt 10 = 10 by decide)
                have bg10155' : gB g10155 0 9 := ⟨by omega, by omega⟩
                refine G_lload 1 d_cX4_addNumber_64 rfl ?_
                refine G_lconst 0 d_cX4_addNumber_66 rfl ?_
                refine G_lcmp d_cX4_addNumber_67 (G_nam fun z10162 hz10162 => ?_)
                have bz10162 : gB z10162 (-1) 1 := gB_cmp hz10162
                refine G_if_le 103 d_cX4_addNumber_68 (by decide +kernel) (fun hc10163 => ?_) (fun hc10163 => ?_)
                · have r10164 : z10162.toInt ≤ 0 := gj_le hc10163 (show Int32.toInt 0 = 0 by decide)
                  have bz10162' : gB z10162 (-1) 0 := ⟨by omega, by omega⟩
                  exact G_vret d_cX4_addNumber_103 rfl (Nat.le_of_ble_eq_true rfl) (Nat.le_of_ble_eq_true rfl) ⟨g10157, f10158, rfl, rfl, bg10157, bf10158⟩
                · have r10165 : 0 < z10162.toInt := gj_nle hc10163 (show Int32.toInt 0 = 0 by decide)
                  have bz10162' : gB z10162 1 1 := ⟨by omega, by omega⟩
                  have lhc10163 := gC_cmpS hz10162 (by omega)
                  refine G_aload_n 3 d_cX4_addNumber_71 rfl ?_
                  refine G_ldc2 48 d_cX4_addNumber_72 w_6_183 ?_
                  refine G_lload_n 2 d_cX4_addNumber_75 rfl ?_
                  refine G_lload 1 d_cX4_addNumber_76 rfl ?_
                  refine G_ldiv d_cX4_addNumber_78 lhc10163 (G_namL fun u10166 hu10166 => ?_)
                  refine G_ldc2 10 d_cX4_addNumber_79 w_6_182 ?_
                  refine G_lrem d_cX4_addNumber_82 (by decide) (G_namL fun u10167 hu10167 => ?_)
                  refine G_ladd d_cX4_addNumber_83 (G_namL fun u10168 hu10168 => ?_)
                  refine G_l2i d_cX4_addNumber_84 (G_nam fun z10169 hz10169 => ?_)
                  have bz10169 : gB z10169 (-2147483648) 2147483647 := gB_any z10169
                  refine G_i2c d_cX4_addNumber_85 (G_nam fun z10170 hz10170 => ?_)
                  have bz10170 : gB z10170 0 65535 := gB_i2c hz10170
                  refine G_callV (As := [.int z10170]) (wr := []) (gV_ok D I) (ct_7598_Listing_addByte l hl0 D I q7685 q7686 z10170 g10157 f10158 bz10170 bg10157 bf10158) d_cX4_addNumber_86 ⟨w_6_171, w_1_13, w_6_174, by decide, rfl, (Nat.le_of_ble_eq_true rfl), (Nat.le_of_ble_eq_true rfl)⟩ w_6_173 w_p_66 0 rfl rfl [0, 1] [] rfl rfl rfl rfl (by decide) (Nat.le_of_ble_eq_true rfl) (Nat.le_of_ble_eq_true rfl) (Nat.le_of_ble_eq_true rfl) (fun r w hp => ?_) (fun _ _ _ z => z.elim)
                  obtain ⟨o10171, f10172, rfl, rfl, bo10171, bf10172⟩ := hp
                  change G _ _ _ _ _ _ _ _ _ _ _
                  refine G_ws (ws' := [(q7685, .inr (9, [.ref q7686, .int o10171])), (q7686, .inl (I .byte, 16384, .inl f10172))]) (cs' := 0) (sl' := 0) rfl rfl rfl ?_
                  refine G_lload 1 d_cX4_addNumber_89 rfl ?_
                  refine G_ldc2 10 d_cX4_addNumber_91 w_6_182 ?_
                  refine G_ldiv d_cX4_addNumber_94 (by decide) (G_namL fun u10173 hu10173 => ?_)
                  refine G_lstore (L' := [(4, .long u10173), (6, .int g10155), (2, .long ol9006), (0, .ref q7685), (1, .int p7687)]) d_cX4_addNumber_95 (Nat.le_of_ble_eq_true rfl) rfl ?_
                  obtain ⟨z10174, hz10174⟩ : ∃ z : Int32, z = g10155 + Int32.ofInt 1 := ⟨_, rfl⟩
                  have ez10174 : z10174.toInt = g10155.toInt + 1 := gI_inc hz10174 (by decide) bg10155' (by decide) (by decide)
                  have bz10174 : gB z10174 1 10 := ⟨by omega, by omega⟩
                  refine G_iinc (L' := [(6, .int z10174), (4, .long u10173), (2, .long ol9006), (0, .ref q7685), (1, .int p7687)]) z10174 1 d_cX4_addNumber_97 rfl hz10174.symm (Nat.le_of_ble_eq_true rfl) rfl ?_
                  refine G_goto 57 d_cX4_addNumber_100 (by decide +kernel) ?_
                  exact ih57_10158 z10174 u10173 o10171 f10172 (gB_w bz10174 (by decide) (by decide)) (gB_w bo10171 (by decide) (by decide)) bf10172 (by omega)
          exact hlp57_10158 (((11 : Int) - 0).toNat + 1) 0 gl10049 o9003 f9004 (gB_w (gBl (show Int32.toInt 0 = 0 by decide)) (by decide) (by decide)) (gB_w bo9003 (by decide) (by decide)) bf9004 (Nat.lt_succ_self _)
        · have r10175 : g10048.toInt < 9 := gj_nleL hc10050 (show Int32.toInt 9 = 9 by decide)
          have bg10048' : gB g10048 0 8 := ⟨by omega, by omega⟩
          refine G_lload 1 d_cX4_addNumber_29 rfl ?_
          refine G_lload_n 2 d_cX4_addNumber_31 rfl ?_
          refine G_ldc2 10 d_cX4_addNumber_32 w_6_182 ?_
          refine G_ldiv d_cX4_addNumber_35 (by decide) (G_namL fun u10176 hu10176 => ?_)
          refine G_lcmp d_cX4_addNumber_36 (G_nam fun z10177 hz10177 => ?_)
          have bz10177 : gB z10177 (-1) 1 := gB_cmp hz10177
          refine G_if_gt 54 d_cX4_addNumber_37 (by decide +kernel) (fun hc10178 => ?_) (fun hc10178 => ?_)
          · have r10179 : 0 < z10177.toInt := gj_ltL hc10178 (show Int32.toInt 0 = 0 by decide)
            have bz10177' : gB z10177 1 1 := ⟨by omega, by omega⟩
            have lhc10178 := gC_cmpS hz10177 (by omega)
            refine G_iconst 0 d_cX4_addNumber_54 (by decide +kernel) ?_
            refine G_istore (L' := [(6, .int 0), (4, .long gl10049), (2, .long ol9006), (0, .ref q7685), (1, .int p7687)]) d_cX4_addNumber_55 (Nat.le_of_ble_eq_true rfl) rfl ?_
            have hlp57_10286 : ∀ (n57_10286 : Nat) (g10283 : Int32) (gl10284 : Int64) (g10285 : Int32) (f10286 : Nat → Int32), gB g10283 0 10 → gB g10285 0 16384 → gF f10286 (-128) 127 → ((11 : Int) - g10283.toInt).toNat < n57_10286 → G (gV D I) l (gRm 1 21 0 0) (gM (gV D I) (po_7690_Listing_addNumber I q7685 q7686 p7687 p7688 f7689) gN 0 0) ky_7690_Listing_addNumber 57 [(6, .int g10283), (4, .long gl10284), (2, .long ol9006), (0, .ref q7685), (1, .int p7687)] [] [(q7685, .inr (9, [.ref q7686, .int g10285])), (q7686, .inl (I .byte, 16384, .inl f10286))] 0 0 := by
              intro n57_10286
              induction n57_10286 with
              | zero => intro g10283 gl10284 g10285 f10286 bg10283 bg10285 bf10286 hm57_10286; exact absurd hm57_10286 (Nat.not_lt_zero _)
              | succ n57_10286 ih57_10286 =>
                intro g10283 gl10284 g10285 f10286 bg10283 bg10285 bf10286 hm57_10286
                refine G_iload 0 d_cX4_addNumber_57 rfl ?_
                refine G_bipush 10 d_cX4_addNumber_59 (by decide +kernel) ?_
                refine G_icmp_ge 103 d_cX4_addNumber_61 (by decide +kernel) (fun hc10287 => ?_) (fun hc10287 => ?_)
                · have r10288 : 10 ≤ g10283.toInt := gj_leL hc10287 (show Int32.toInt 10 = 10 by decide)
                  have bg10283' : gB g10283 10 10 := ⟨by omega, by omega⟩
                  exact G_vret d_cX4_addNumber_103 rfl (Nat.le_of_ble_eq_true rfl) (Nat.le_of_ble_eq_true rfl) ⟨g10285, f10286, rfl, rfl, bg10285, bf10286⟩
                · have r10289 : g10283.toInt < 10 := gj_nleL hc10287 (show Int32.toInt 10 = 10 by decide)
                  have bg10283' : gB g10283 0 9 := ⟨by omega, by omega⟩
                  refine G_lload 1 d_cX4_addNumber_64 rfl ?_
                  refine G_lconst 0 d_cX4_addNumber_66 rfl ?_
                  refine G_lcmp d_cX4_addNumber_67 (G_nam fun z10290 hz10290 => ?_)
                  have bz10290 : gB z10290 (-1) 1 := gB_cmp hz10290
                  refine G_if_le 103 d_cX4_addNumber_68 (by decide +kernel) (fun hc10291 => ?_) (fun hc10291 => ?_)
                  · have r10292 : z10290.toInt ≤ 0 := gj_le hc10291 (show Int32.toInt 0 = 0 by decide)
                    have bz10290' : gB z10290 (-1) 0 := ⟨by omega, by omega⟩
                    exact G_vret d_cX4_addNumber_103 rfl (Nat.le_of_ble_eq_true rfl) (Nat.le_of_ble_eq_true rfl) ⟨g10285, f10286, rfl, rfl, bg10285, bf10286⟩
                  · have r10293 : 0 < z10290.toInt := gj_nle hc10291 (show Int32.toInt 0 = 0 by decide)
                    have bz10290' : gB z10290 1 1 := ⟨by omega, by omega⟩
                    have lhc10291 := gC_cmpS hz10290 (by omega)
                    refine G_aload_n 3 d_cX4_addNumber_71 rfl ?_
                    refine G_ldc2 48 d_cX4_addNumber_72 w_6_183 ?_
                    refine G_lload_n 2 d_cX4_addNumber_75 rfl ?_
                    refine G_lload 1 d_cX4_addNumber_76 rfl ?_
                    refine G_ldiv d_cX4_addNumber_78 lhc10291 (G_namL fun u10294 hu10294 => ?_)
                    refine G_ldc2 10 d_cX4_addNumber_79 w_6_182 ?_
                    refine G_lrem d_cX4_addNumber_82 (by decide) (G_namL fun u10295 hu10295 => ?_)
                    refine G_ladd d_cX4_addNumber_83 (G_namL fun u10296 hu10296 => ?_)
                    refine G_l2i d_cX4_addNumber_84 (G_nam fun z10297 hz10297 => ?_)
                    have bz10297 : gB z10297 (-2147483648) 2147483647 := gB_any z10297
                    refine G_i2c d_cX4_addNumber_85 (G_nam fun z10298 hz10298 => ?_)
                    have bz10298 : gB z10298 0 65535 := gB_i2c hz10298
                    refine G_callV (As := [.int z10298]) (wr := []) (gV_ok D I) (ct_7598_Listing_addByte l hl0 D I q7685 q7686 z10298 g10285 f10286 bz10298 bg10285 bf10286) d_cX4_addNumber_86 ⟨w_6_171, w_1_13, w_6_174, by decide, rfl, (Nat.le_of_ble_eq_true rfl), (Nat.le_of_ble_eq_true rfl)⟩ w_6_173 w_p_66 0 rfl rfl [0, 1] [] rfl rfl rfl rfl (by decide) (Nat.le_of_ble_eq_true rfl) (Nat.le_of_ble_eq_true rfl) (Nat.le_of_ble_eq_true rfl) (fun r w hp => ?_) (fun _ _ _ z => z.elim)
                    obtain ⟨o10299, f10300, rfl, rfl, bo10299, bf10300⟩ := hp
                    change G _ _ _ _ _ _ _ _ _ _ _
                    refine G_ws (ws' := [(q7685, .inr (9, [.ref q7686, .int o10299])), (q7686, .inl (I .byte, 16384, .inl f10300))]) (cs' := 0) (sl' := 0) rfl rfl rfl ?_
                    refine G_lload 1 d_cX4_addNumber_89 rfl ?_
                    refine G_ldc2 10 d_cX4_addNumber_91 w_6_182 ?_
                    refine G_ldiv d_cX4_addNumber_94 (by decide) (G_namL fun u10301 hu10301 => ?_)
                    refine G_lstore (L' := [(4, .long u10301), (6, .int g10283), (2, .long ol9006), (0, .ref q7685), (1, .int p7687)]) d_cX4_addNumber_95 (Nat.le_of_ble_eq_true rfl) rfl ?_
                    obtain ⟨z10302, hz10302⟩ : ∃ z : Int32, z = g10283 + Int32.ofInt 1 := ⟨_, rfl⟩
                    have ez10302 : z10302.toInt = g10283.toInt + 1 := gI_inc hz10302 (by decide) bg10283' (by decide) (by decide)
                    have bz10302 : gB z10302 1 10 := ⟨by omega, by omega⟩
                    refine G_iinc (L' := [(6, .int z10302), (4, .long u10301), (2, .long ol9006), (0, .ref q7685), (1, .int p7687)]) z10302 1 d_cX4_addNumber_97 rfl hz10302.symm (Nat.le_of_ble_eq_true rfl) rfl ?_
                    refine G_goto 57 d_cX4_addNumber_100 (by decide +kernel) ?_
                    exact ih57_10286 z10302 u10301 o10299 f10300 (gB_w bz10302 (by decide) (by decide)) (gB_w bo10299 (by decide) (by decide)) bf10300 (by omega)
            exact hlp57_10286 (((11 : Int) - 0).toNat + 1) 0 gl10049 o9003 f9004 (gB_w (gBl (show Int32.toInt 0 = 0 by decide)) (by decide) (by decide)) (gB_w bo9003 (by decide) (by decide)) bf9004 (Nat.lt_succ_self _)
          · have r10303 : z10177.toInt ≤ 0 := gj_nltL hc10178 (show Int32.toInt 0 = 0 by decide)
            have bz10177' : gB z10177 (-1) 0 := ⟨by omega, by omega⟩
            refine G_lload 1 d_cX4_addNumber_40 rfl ?_
            refine G_ldc2 10 d_cX4_addNumber_42 w_6_182 ?_
            refine G_lmul d_cX4_addNumber_45 (G_namL fun u10304 hu10304 => ?_)
            refine G_lstore (L' := [(4, .long u10304), (6, .int g10048), (2, .long ol9006), (0, .ref q7685), (1, .int p7687)]) d_cX4_addNumber_46 (Nat.le_of_ble_eq_true rfl) rfl ?_
            obtain ⟨z10305, hz10305⟩ : ∃ z : Int32, z = g10048 + Int32.ofInt 1 := ⟨_, rfl⟩
            have ez10305 : z10305.toInt = g10048.toInt + 1 := gI_inc hz10305 (by decide) bg10048' (by decide) (by decide)
            have bz10305 : gB z10305 1 9 := ⟨by omega, by omega⟩
            refine G_iinc (L' := [(6, .int z10305), (4, .long u10304), (2, .long ol9006), (0, .ref q7685), (1, .int p7687)]) z10305 1 d_cX4_addNumber_48 rfl hz10305.symm (Nat.le_of_ble_eq_true rfl) rfl ?_
            refine G_goto 22 d_cX4_addNumber_51 (by decide +kernel) ?_
            exact ih22_10049 z10305 u10304 (gB_w bz10305 (by decide) (by decide)) (by omega)
    exact hlp22_10049 (((10 : Int) - 0).toNat + 1) 0 1 (gB_w (gBl (show Int32.toInt 0 = 0 by decide)) (by decide) (by decide)) (Nat.lt_succ_self _)
