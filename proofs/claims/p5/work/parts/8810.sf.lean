theorem d_cX8_readInto_0 : decode cX8_readInto 0 = .ok (.aload_n 1, 1) := by decide +kernel
theorem d_cX8_readInto_1 : decode cX8_readInto 1 = .ok (.invokevirtual 28, 3) := by decide +kernel
theorem w_3_0 : (Jvm.Cond.methodLink "SpillForge$Reader" (28 : Nat) ({ cls := "SpillForge$Code", name := "clear", desc := "()V" } : Jvm.MethodName)) ∈ gw := gw_3 0 rfl rfl
theorem w_3_3 : (Jvm.Cond.code ({ cls := "SpillForge$Code", name := "clear", desc := "()V" } : Jvm.MethodName) prog_2_method_2_code (1 : Nat) (Option.none : Option Jvm.ClassFile.FieldType)) ∈ gw := gw_3 3 rfl rfl
theorem w_3_1 : (Jvm.Cond.instanceMethod ({ cls := "SpillForge$Code", name := "clear", desc := "()V" } : Jvm.MethodName)) ∈ gw := gw_3 1 rfl rfl
theorem w_3_2 : (Jvm.Cond.selects "SpillForge$Code" ({ cls := "SpillForge$Code", name := "clear", desc := "()V" } : Jvm.MethodName) ({ cls := "SpillForge$Code", name := "clear", desc := "()V" } : Jvm.MethodName)) ∈ gw := gw_3 2 rfl rfl
theorem d_cX8_readInto_4 : decode cX8_readInto 4 = .ok (.aload_n 0, 1) := by decide +kernel
theorem d_cX8_readInto_5 : decode cX8_readInto 5 = .ok (.lconst 0, 1) := by decide +kernel
theorem d_cX8_readInto_6 : decode cX8_readInto 6 = .ok (.putfield 33, 3) := by decide +kernel
theorem d_cX8_readInto_9 : decode cX8_readInto 9 = .ok (.aload_n 0, 1) := by decide +kernel
theorem d_cX8_readInto_10 : decode cX8_readInto 10 = .ok (.iconst 0, 1) := by decide +kernel
theorem d_cX8_readInto_11 : decode cX8_readInto 11 = .ok (.putfield 37, 3) := by decide +kernel
theorem d_cX8_readInto_14 : decode cX8_readInto 14 = .ok (.aload_n 0, 1) := by decide +kernel
theorem d_cX8_readInto_15 : decode cX8_readInto 15 = .ok (.iconst (-1), 1) := by decide +kernel
theorem d_cX8_readInto_16 : decode cX8_readInto 16 = .ok (.putfield 40, 3) := by decide +kernel
theorem d_cX8_readInto_19 : decode cX8_readInto 19 = .ok (.aload_n 0, 1) := by decide +kernel
theorem d_cX8_readInto_20 : decode cX8_readInto 20 = .ok (.iconst 0, 1) := by decide +kernel
theorem d_cX8_readInto_21 : decode cX8_readInto 21 = .ok (.putfield 43, 3) := by decide +kernel
theorem d_cX8_readInto_24 : decode cX8_readInto 24 = .ok (.aload_n 0, 1) := by decide +kernel
theorem d_cX8_readInto_25 : decode cX8_readInto 25 = .ok (.iconst 0, 1) := by decide +kernel
theorem d_cX8_readInto_26 : decode cX8_readInto 26 = .ok (.putfield 46, 3) := by decide +kernel
theorem d_cX8_readInto_29 : decode cX8_readInto 29 = .ok (.aload_n 0, 1) := by decide +kernel
theorem d_cX8_readInto_30 : decode cX8_readInto 30 = .ok (.getfield 20, 3) := by decide +kernel
theorem d_cX8_readInto_33 : decode cX8_readInto 33 = .ok (.invokevirtual 49, 3) := by decide +kernel
theorem w_3_4 : (Jvm.Cond.methodLink "SpillForge$Reader" (49 : Nat) ({ cls := "SpillForge$Signs", name := "open", desc := "()V" } : Jvm.MethodName)) ∈ gw := gw_3 4 rfl rfl
theorem w_3_7 : (Jvm.Cond.code ({ cls := "SpillForge$Signs", name := "open", desc := "()V" } : Jvm.MethodName) prog_11_method_5_code (1 : Nat) (Option.none : Option Jvm.ClassFile.FieldType)) ∈ gw := gw_3 7 rfl rfl
theorem w_3_5 : (Jvm.Cond.instanceMethod ({ cls := "SpillForge$Signs", name := "open", desc := "()V" } : Jvm.MethodName)) ∈ gw := gw_3 5 rfl rfl
theorem w_3_6 : (Jvm.Cond.selects "SpillForge$Signs" ({ cls := "SpillForge$Signs", name := "open", desc := "()V" } : Jvm.MethodName) ({ cls := "SpillForge$Signs", name := "open", desc := "()V" } : Jvm.MethodName)) ∈ gw := gw_3 6 rfl rfl
theorem d_cX8_readInto_36 : decode cX8_readInto 36 = .ok (.iconst 1, 1) := by decide +kernel
theorem d_cX8_readInto_37 : decode cX8_readInto 37 = .ok (.istore_n 2, 1) := by decide +kernel
theorem d_cX8_readInto_38 : decode cX8_readInto 38 = .ok (.iconst 0, 1) := by decide +kernel
theorem d_cX8_readInto_39 : decode cX8_readInto 39 = .ok (.istore_n 3, 1) := by decide +kernel
theorem d_cX8_readInto_40 : decode cX8_readInto 40 = .ok (.iload_n 3, 1) := by decide +kernel
theorem d_cX8_readInto_41 : decode cX8_readInto 41 = .ok (.sipush 8192, 3) := by decide +kernel
theorem d_cX8_readInto_44 : decode cX8_readInto 44 = .ok (.if_icmp .ge 41, 3) := by decide +kernel
theorem d_cX8_readInto_85 : decode cX8_readInto 85 = .ok (.iload_n 2, 1) := by decide +kernel
theorem d_cX8_readInto_86 : decode cX8_readInto 86 = .ok (.ifCond .eq 11, 3) := by decide +kernel
theorem d_cX8_readInto_97 : decode cX8_readInto 97 = .ok (.aload_n 0, 1) := by decide +kernel
theorem d_cX8_readInto_98 : decode cX8_readInto 98 = .ok (.iconst 1, 1) := by decide +kernel
theorem d_cX8_readInto_99 : decode cX8_readInto 99 = .ok (.putfield 24, 3) := by decide +kernel
theorem w_1_98 : (Jvm.Cond.fieldLink "SpillForge$Reader" (24 : Nat) "SpillForge$Reader" "reason" "I") ∈ gw := gw_1 98 rfl rfl
theorem d_cX8_readInto_102 : decode cX8_readInto 102 = .ok (.aload_n 0, 1) := by decide +kernel
theorem d_cX8_readInto_103 : decode cX8_readInto 103 = .ok (.getfield 20, 3) := by decide +kernel
theorem d_cX8_readInto_106 : decode cX8_readInto 106 = .ok (.invokevirtual 63, 3) := by decide +kernel
theorem d_cX8_readInto_109 : decode cX8_readInto 109 = .ok (.ireturn, 1) := by decide +kernel
theorem d_cX8_readInto_89 : decode cX8_readInto 89 = .ok (.aload_n 0, 1) := by decide +kernel
theorem d_cX8_readInto_90 : decode cX8_readInto 90 = .ok (.getfield 46, 3) := by decide +kernel
theorem d_cX8_readInto_93 : decode cX8_readInto 93 = .ok (.iconst 1, 1) := by decide +kernel
theorem d_cX8_readInto_94 : decode cX8_readInto 94 = .ok (.if_icmp .eq 16, 3) := by decide +kernel
theorem d_cX8_readInto_110 : decode cX8_readInto 110 = .ok (.aload_n 0, 1) := by decide +kernel
theorem d_cX8_readInto_111 : decode cX8_readInto 111 = .ok (.aload_n 1, 1) := by decide +kernel
theorem d_cX8_readInto_112 : decode cX8_readInto 112 = .ok (.invokevirtual 66, 3) := by decide +kernel
theorem w_3_214 : (Jvm.Cond.methodLink "SpillForge$Reader" (66 : Nat) ({ cls := "SpillForge$Reader", name := "checkGoals", desc := "(LSpillForge$Code;)V" } : Jvm.MethodName)) ∈ gw := gw_3 214 rfl rfl
theorem w_3_217 : (Jvm.Cond.code ({ cls := "SpillForge$Reader", name := "checkGoals", desc := "(LSpillForge$Code;)V" } : Jvm.MethodName) prog_10_method_22_code (4 : Nat) (Option.none : Option Jvm.ClassFile.FieldType)) ∈ gw := gw_3 217 rfl rfl
theorem w_3_216 : (Jvm.Cond.instanceMethod ({ cls := "SpillForge$Reader", name := "checkGoals", desc := "(LSpillForge$Code;)V" } : Jvm.MethodName)) ∈ gw := gw_3 216 rfl rfl
theorem w_p_25 : Cond.selects "SpillForge$Reader" ⟨"SpillForge$Reader", "checkGoals", "(LSpillForge$Code;)V"⟩ ⟨"SpillForge$Reader", "checkGoals", "(LSpillForge$Code;)V"⟩ ∈ gw := gw_p _ 25 rfl rfl rfl
theorem d_cX8_readInto_115 : decode cX8_readInto 115 = .ok (.aload_n 0, 1) := by decide +kernel
theorem d_cX8_readInto_116 : decode cX8_readInto 116 = .ok (.aload_n 0, 1) := by decide +kernel
theorem d_cX8_readInto_117 : decode cX8_readInto 117 = .ok (.getfield 43, 3) := by decide +kernel
theorem d_cX8_readInto_120 : decode cX8_readInto 120 = .ok (.putfield 24, 3) := by decide +kernel
theorem d_cX8_readInto_123 : decode cX8_readInto 123 = .ok (.aload_n 0, 1) := by decide +kernel
theorem d_cX8_readInto_124 : decode cX8_readInto 124 = .ok (.getfield 40, 3) := by decide +kernel
theorem d_cX8_readInto_127 : decode cX8_readInto 127 = .ok (.ireturn, 1) := by decide +kernel
theorem d_cX8_readInto_47 : decode cX8_readInto 47 = .ok (.iload_n 2, 1) := by decide +kernel
theorem d_cX8_readInto_48 : decode cX8_readInto 48 = .ok (.ifCond .eq 37, 3) := by decide +kernel
theorem d_cX8_readInto_51 : decode cX8_readInto 51 = .ok (.aload_n 0, 1) := by decide +kernel
theorem d_cX8_readInto_52 : decode cX8_readInto 52 = .ok (.getfield 20, 3) := by decide +kernel
theorem d_cX8_readInto_55 : decode cX8_readInto 55 = .ok (.invokevirtual 52, 3) := by decide +kernel
theorem d_cX8_readInto_58 : decode cX8_readInto 58 = .ok (.iconst 1, 1) := by decide +kernel
theorem d_cX8_readInto_59 : decode cX8_readInto 59 = .ok (.if_icmp .eq 26, 3) := by decide +kernel
theorem d_cX8_readInto_62 : decode cX8_readInto 62 = .ok (.aload_n 0, 1) := by decide +kernel
theorem d_cX8_readInto_63 : decode cX8_readInto 63 = .ok (.aload_n 1, 1) := by decide +kernel
theorem d_cX8_readInto_64 : decode cX8_readInto 64 = .ok (.invokevirtual 56, 3) := by decide +kernel
theorem w_3_121 : (Jvm.Cond.methodLink "SpillForge$Reader" (56 : Nat) ({ cls := "SpillForge$Reader", name := "accept", desc := "(LSpillForge$Code;)Z" } : Jvm.MethodName)) ∈ gw := gw_3 121 rfl rfl
theorem w_3_124 : (Jvm.Cond.code ({ cls := "SpillForge$Reader", name := "accept", desc := "(LSpillForge$Code;)Z" } : Jvm.MethodName) prog_10_method_4_code (2 : Nat) (Option.some Jvm.ClassFile.FieldType.boolean)) ∈ gw := gw_3 124 rfl rfl
theorem w_3_123 : (Jvm.Cond.instanceMethod ({ cls := "SpillForge$Reader", name := "accept", desc := "(LSpillForge$Code;)Z" } : Jvm.MethodName)) ∈ gw := gw_3 123 rfl rfl
theorem w_p_7 : Cond.selects "SpillForge$Reader" ⟨"SpillForge$Reader", "accept", "(LSpillForge$Code;)Z"⟩ ⟨"SpillForge$Reader", "accept", "(LSpillForge$Code;)Z"⟩ ∈ gw := gw_p _ 7 rfl rfl rfl
theorem d_cX8_readInto_67 : decode cX8_readInto 67 = .ok (.istore_n 2, 1) := by decide +kernel
theorem d_cX8_readInto_68 : decode cX8_readInto 68 = .ok (.iload_n 2, 1) := by decide +kernel
theorem d_cX8_readInto_69 : decode cX8_readInto 69 = .ok (.ifCond .eq 10, 3) := by decide +kernel
theorem d_cX8_readInto_79 : decode cX8_readInto 79 = .ok (.iinc 3 1, 3) := by decide +kernel
theorem d_cX8_readInto_82 : decode cX8_readInto 82 = .ok (.goto (-42), 3) := by decide +kernel
theorem d_cX8_readInto_72 : decode cX8_readInto 72 = .ok (.aload_n 0, 1) := by decide +kernel
theorem d_cX8_readInto_73 : decode cX8_readInto 73 = .ok (.getfield 20, 3) := by decide +kernel
theorem d_cX8_readInto_76 : decode cX8_readInto 76 = .ok (.invokevirtual 60, 3) := by decide +kernel
theorem w_3_213 : (Jvm.Cond.methodLink "SpillForge$Reader" (60 : Nat) ({ cls := "SpillForge$Signs", name := "advance", desc := "()V" } : Jvm.MethodName)) ∈ gw := gw_3 213 rfl rfl
theorem d_cX4_eightFrom_0 : decode cX4_eightFrom 0 = .ok (.lconst 0, 1) := by decide +kernel
theorem d_cX4_eightFrom_1 : decode cX4_eightFrom 1 = .ok (.lstore_n 2, 1) := by decide +kernel
theorem d_cX4_eightFrom_2 : decode cX4_eightFrom 2 = .ok (.iload_n 1, 1) := by decide +kernel
theorem d_cX4_eightFrom_3 : decode cX4_eightFrom 3 = .ok (.istore 4, 2) := by decide +kernel
theorem d_cX4_eightFrom_5 : decode cX4_eightFrom 5 = .ok (.iload 4, 2) := by decide +kernel
theorem d_cX4_eightFrom_7 : decode cX4_eightFrom 7 = .ok (.iload_n 1, 1) := by decide +kernel
theorem d_cX4_eightFrom_8 : decode cX4_eightFrom 8 = .ok (.bipush 8, 2) := by decide +kernel
theorem d_cX4_eightFrom_10 : decode cX4_eightFrom 10 = .ok (.iadd, 1) := by decide +kernel
theorem d_cX4_eightFrom_11 : decode cX4_eightFrom 11 = .ok (.if_icmp .ge 45, 3) := by decide +kernel
theorem d_cX4_eightFrom_56 : decode cX4_eightFrom 56 = .ok (.lload_n 2, 1) := by decide +kernel
theorem d_cX4_eightFrom_57 : decode cX4_eightFrom 57 = .ok (.lreturn, 1) := by decide +kernel
theorem d_cX4_eightFrom_14 : decode cX4_eightFrom 14 = .ok (.lload_n 2, 1) := by decide +kernel
theorem d_cX4_eightFrom_15 : decode cX4_eightFrom 15 = .ok (.bipush 8, 2) := by decide +kernel
theorem d_cX4_eightFrom_17 : decode cX4_eightFrom 17 = .ok (.lshl, 1) := by decide +kernel
theorem d_cX4_eightFrom_18 : decode cX4_eightFrom 18 = .ok (.iload 4, 2) := by decide +kernel
theorem d_cX4_eightFrom_20 : decode cX4_eightFrom 20 = .ok (.ifCond .lt 26, 3) := by decide +kernel
theorem d_cX4_eightFrom_46 : decode cX4_eightFrom 46 = .ok (.iconst 0, 1) := by decide +kernel
theorem d_cX4_eightFrom_47 : decode cX4_eightFrom 47 = .ok (.i2l, 1) := by decide +kernel
theorem d_cX4_eightFrom_48 : decode cX4_eightFrom 48 = .ok (.lor, 1) := by decide +kernel
theorem d_cX4_eightFrom_49 : decode cX4_eightFrom 49 = .ok (.lstore_n 2, 1) := by decide +kernel
theorem d_cX4_eightFrom_50 : decode cX4_eightFrom 50 = .ok (.iinc 4 1, 3) := by decide +kernel
theorem d_cX4_eightFrom_53 : decode cX4_eightFrom 53 = .ok (.goto (-48), 3) := by decide +kernel
theorem d_cX4_eightFrom_23 : decode cX4_eightFrom 23 = .ok (.iload 4, 2) := by decide +kernel
theorem d_cX4_eightFrom_25 : decode cX4_eightFrom 25 = .ok (.aload_n 0, 1) := by decide +kernel
theorem d_cX4_eightFrom_26 : decode cX4_eightFrom 26 = .ok (.getfield 15, 3) := by decide +kernel
theorem w_2_201 : (Jvm.Cond.fieldLink "SpillForge$Listing" (15 : Nat) "SpillForge$Listing" "size" "I") ∈ gw := gw_2 201 rfl rfl
theorem d_cX4_eightFrom_29 : decode cX4_eightFrom 29 = .ok (.if_icmp .ge 17, 3) := by decide +kernel
theorem d_cX4_eightFrom_32 : decode cX4_eightFrom 32 = .ok (.aload_n 0, 1) := by decide +kernel
theorem d_cX4_eightFrom_33 : decode cX4_eightFrom 33 = .ok (.getfield 9, 3) := by decide +kernel
theorem w_2_200 : (Jvm.Cond.fieldLink "SpillForge$Listing" (9 : Nat) "SpillForge$Listing" "bytes" "[B") ∈ gw := gw_2 200 rfl rfl
theorem d_cX4_eightFrom_36 : decode cX4_eightFrom 36 = .ok (.iload 4, 2) := by decide +kernel
theorem d_cX4_eightFrom_38 : decode cX4_eightFrom 38 = .ok (.baload, 1) := by decide +kernel
theorem d_cX4_eightFrom_39 : decode cX4_eightFrom 39 = .ok (.sipush 255, 3) := by decide +kernel
theorem d_cX4_eightFrom_42 : decode cX4_eightFrom 42 = .ok (.iand, 1) := by decide +kernel
theorem d_cX4_eightFrom_43 : decode cX4_eightFrom 43 = .ok (.goto 4, 3) := by decide +kernel
theorem d_cX4_addByte_0 : decode cX4_addByte 0 = .ok (.aload_n 0, 1) := by decide +kernel
theorem d_cX4_addByte_1 : decode cX4_addByte 1 = .ok (.getfield 15, 3) := by decide +kernel
theorem d_cX4_addByte_4 : decode cX4_addByte 4 = .ok (.aload_n 0, 1) := by decide +kernel
theorem d_cX4_addByte_5 : decode cX4_addByte 5 = .ok (.getfield 9, 3) := by decide +kernel
theorem d_cX4_addByte_8 : decode cX4_addByte 8 = .ok (.arraylength, 1) := by decide +kernel
theorem d_cX4_addByte_9 : decode cX4_addByte 9 = .ok (.if_icmp .ge 24, 3) := by decide +kernel
theorem d_cX4_addByte_33 : decode cX4_addByte 33 = .ok (.return_, 1) := by decide +kernel
theorem d_cX4_addByte_12 : decode cX4_addByte 12 = .ok (.aload_n 0, 1) := by decide +kernel
theorem d_cX4_addByte_13 : decode cX4_addByte 13 = .ok (.getfield 9, 3) := by decide +kernel
theorem d_cX4_addByte_16 : decode cX4_addByte 16 = .ok (.aload_n 0, 1) := by decide +kernel
theorem d_cX4_addByte_17 : decode cX4_addByte 17 = .ok (.getfield 15, 3) := by decide +kernel
theorem d_cX4_addByte_20 : decode cX4_addByte 20 = .ok (.iload_n 1, 1) := by decide +kernel
theorem d_cX4_addByte_21 : decode cX4_addByte 21 = .ok (.i2b, 1) := by decide +kernel
theorem d_cX4_addByte_22 : decode cX4_addByte 22 = .ok (.bastore, 1) := by decide +kernel
theorem d_cX4_addByte_23 : decode cX4_addByte 23 = .ok (.aload_n 0, 1) := by decide +kernel
theorem d_cX4_addByte_24 : decode cX4_addByte 24 = .ok (.dup, 1) := by decide +kernel
theorem d_cX4_addByte_25 : decode cX4_addByte 25 = .ok (.getfield 15, 3) := by decide +kernel
theorem d_cX4_addByte_28 : decode cX4_addByte 28 = .ok (.iconst 1, 1) := by decide +kernel
theorem d_cX4_addByte_29 : decode cX4_addByte 29 = .ok (.iadd, 1) := by decide +kernel
theorem d_cX4_addByte_30 : decode cX4_addByte 30 = .ok (.putfield 15, 3) := by decide +kernel
theorem d_cX4_addText_0 : decode cX4_addText 0 = .ok (.iconst 0, 1) := by decide +kernel
theorem d_cX4_addText_1 : decode cX4_addText 1 = .ok (.istore_n 2, 1) := by decide +kernel
theorem d_cX4_addText_2 : decode cX4_addText 2 = .ok (.iload_n 2, 1) := by decide +kernel
theorem d_cX4_addText_3 : decode cX4_addText 3 = .ok (.aload_n 1, 1) := by decide +kernel
theorem d_cX4_addText_4 : decode cX4_addText 4 = .ok (.invokevirtual 122, 3) := by decide +kernel
theorem w_6_169 : (Jvm.Cond.methodLink "SpillForge$Listing" (122 : Nat) ({ cls := "java/lang/String", name := "length", desc := "()I" } : Jvm.MethodName)) ∈ gw := gw_6 169 rfl rfl
theorem d_cX4_addText_7 : decode cX4_addText 7 = .ok (.if_icmp .ge 18, 3) := by decide +kernel
theorem d_cX4_addText_25 : decode cX4_addText 25 = .ok (.return_, 1) := by decide +kernel
theorem d_cX4_addText_10 : decode cX4_addText 10 = .ok (.aload_n 0, 1) := by decide +kernel
theorem d_cX4_addText_11 : decode cX4_addText 11 = .ok (.aload_n 1, 1) := by decide +kernel
theorem d_cX4_addText_12 : decode cX4_addText 12 = .ok (.iload_n 2, 1) := by decide +kernel
theorem d_cX4_addText_13 : decode cX4_addText 13 = .ok (.invokevirtual 113, 3) := by decide +kernel
theorem w_6_170 : (Jvm.Cond.methodLink "SpillForge$Listing" (113 : Nat) ({ cls := "java/lang/String", name := "charAt", desc := "(I)C" } : Jvm.MethodName)) ∈ gw := gw_6 170 rfl rfl
theorem d_cX4_addText_16 : decode cX4_addText 16 = .ok (.invokevirtual 55, 3) := by decide +kernel
theorem w_6_171 : (Jvm.Cond.methodLink "SpillForge$Listing" (55 : Nat) ({ cls := "SpillForge$Listing", name := "addByte", desc := "(C)V" } : Jvm.MethodName)) ∈ gw := gw_6 171 rfl rfl
theorem w_1_13 : (Jvm.Cond.initialized "SpillForge$Listing") ∈ gw := gw_1 13 rfl rfl
theorem w_6_174 : (Jvm.Cond.code ({ cls := "SpillForge$Listing", name := "addByte", desc := "(C)V" } : Jvm.MethodName) prog_6_method_13_code (2 : Nat) (Option.none : Option Jvm.ClassFile.FieldType)) ∈ gw := gw_6 174 rfl rfl
theorem w_6_173 : (Jvm.Cond.instanceMethod ({ cls := "SpillForge$Listing", name := "addByte", desc := "(C)V" } : Jvm.MethodName)) ∈ gw := gw_6 173 rfl rfl
theorem w_p_66 : Cond.selects "SpillForge$Listing" ⟨"SpillForge$Listing", "addByte", "(C)V"⟩ ⟨"SpillForge$Listing", "addByte", "(C)V"⟩ ∈ gw := gw_p _ 66 rfl rfl rfl
theorem d_cX4_addText_19 : decode cX4_addText 19 = .ok (.iinc 2 1, 3) := by decide +kernel
theorem d_cX4_addText_22 : decode cX4_addText 22 = .ok (.goto (-20), 3) := by decide +kernel
theorem d_cJ9_abs_067f4_0 : decode cJ9_abs_067f4 0 = .ok (.lload_n 0, 1) := by decide +kernel
theorem d_cJ9_abs_067f4_1 : decode cJ9_abs_067f4 1 = .ok (.lconst 0, 1) := by decide +kernel
theorem d_cJ9_abs_067f4_2 : decode cJ9_abs_067f4 2 = .ok (.lcmp, 1) := by decide +kernel
theorem d_cJ9_abs_067f4_3 : decode cJ9_abs_067f4 3 = .ok (.ifCond .ge 8, 3) := by decide +kernel
theorem d_cJ9_abs_067f4_11 : decode cJ9_abs_067f4 11 = .ok (.lload_n 0, 1) := by decide +kernel
theorem d_cJ9_abs_067f4_12 : decode cJ9_abs_067f4 12 = .ok (.lreturn, 1) := by decide +kernel
theorem d_cJ9_abs_067f4_6 : decode cJ9_abs_067f4 6 = .ok (.lload_n 0, 1) := by decide +kernel
theorem d_cJ9_abs_067f4_7 : decode cJ9_abs_067f4 7 = .ok (.lneg, 1) := by decide +kernel
theorem d_cJ9_abs_067f4_8 : decode cJ9_abs_067f4 8 = .ok (.goto 4, 3) := by decide +kernel
theorem d_cX4_addNumber_0 : decode cX4_addNumber 0 = .ok (.iload_n 1, 1) := by decide +kernel
theorem d_cX4_addNumber_1 : decode cX4_addNumber 1 = .ok (.ifCond .ge 9, 3) := by decide +kernel
theorem d_cX4_addNumber_10 : decode cX4_addNumber 10 = .ok (.iload_n 1, 1) := by decide +kernel
theorem d_cX4_addNumber_11 : decode cX4_addNumber 11 = .ok (.i2l, 1) := by decide +kernel
theorem d_cX4_addNumber_12 : decode cX4_addNumber 12 = .ok (.invokestatic 126, 3) := by decide +kernel
theorem w_6_179 : (Jvm.Cond.methodLink "SpillForge$Listing" (126 : Nat) ({ cls := "java/lang/Math", name := "abs", desc := "(J)J" } : Jvm.MethodName)) ∈ gw := gw_6 179 rfl rfl
theorem w_6_181 : (Jvm.Cond.code ({ cls := "java/lang/Math", name := "abs", desc := "(J)J" } : Jvm.MethodName) prog_32_method_61_code (2 : Nat) (Option.some Jvm.ClassFile.FieldType.long)) ∈ gw := gw_6 181 rfl rfl
theorem w_6_180 : (Jvm.Cond.static ({ cls := "java/lang/Math", name := "abs", desc := "(J)J" } : Jvm.MethodName)) ∈ gw := gw_6 180 rfl rfl
theorem d_cX4_addNumber_15 : decode cX4_addNumber 15 = .ok (.lstore_n 2, 1) := by decide +kernel
theorem d_cX4_addNumber_16 : decode cX4_addNumber 16 = .ok (.lconst 1, 1) := by decide +kernel
theorem d_cX4_addNumber_17 : decode cX4_addNumber 17 = .ok (.lstore 4, 2) := by decide +kernel
theorem d_cX4_addNumber_19 : decode cX4_addNumber 19 = .ok (.iconst 0, 1) := by decide +kernel
theorem d_cX4_addNumber_20 : decode cX4_addNumber 20 = .ok (.istore 6, 2) := by decide +kernel
theorem d_cX4_addNumber_22 : decode cX4_addNumber 22 = .ok (.iload 6, 2) := by decide +kernel
theorem d_cX4_addNumber_24 : decode cX4_addNumber 24 = .ok (.bipush 9, 2) := by decide +kernel
theorem d_cX4_addNumber_26 : decode cX4_addNumber 26 = .ok (.if_icmp .ge 28, 3) := by decide +kernel
theorem d_cX4_addNumber_54 : decode cX4_addNumber 54 = .ok (.iconst 0, 1) := by decide +kernel
theorem d_cX4_addNumber_55 : decode cX4_addNumber 55 = .ok (.istore 6, 2) := by decide +kernel
theorem d_cX4_addNumber_57 : decode cX4_addNumber 57 = .ok (.iload 6, 2) := by decide +kernel
theorem d_cX4_addNumber_59 : decode cX4_addNumber 59 = .ok (.bipush 10, 2) := by decide +kernel
theorem d_cX4_addNumber_61 : decode cX4_addNumber 61 = .ok (.if_icmp .ge 42, 3) := by decide +kernel
theorem d_cX4_addNumber_103 : decode cX4_addNumber 103 = .ok (.return_, 1) := by decide +kernel
theorem d_cX4_addNumber_64 : decode cX4_addNumber 64 = .ok (.lload 4, 2) := by decide +kernel
theorem d_cX4_addNumber_66 : decode cX4_addNumber 66 = .ok (.lconst 0, 1) := by decide +kernel
theorem d_cX4_addNumber_67 : decode cX4_addNumber 67 = .ok (.lcmp, 1) := by decide +kernel
theorem d_cX4_addNumber_68 : decode cX4_addNumber 68 = .ok (.ifCond .le 35, 3) := by decide +kernel
theorem d_cX4_addNumber_71 : decode cX4_addNumber 71 = .ok (.aload_n 0, 1) := by decide +kernel
theorem d_cX4_addNumber_72 : decode cX4_addNumber 72 = .ok (.ldc2_w 134, 3) := by decide +kernel
theorem w_6_183 : (Jvm.Cond.constantLong "SpillForge$Listing" (134 : Nat) (48 : Int64)) ∈ gw := gw_6 183 rfl rfl
theorem d_cX4_addNumber_75 : decode cX4_addNumber 75 = .ok (.lload_n 2, 1) := by decide +kernel
theorem d_cX4_addNumber_76 : decode cX4_addNumber 76 = .ok (.lload 4, 2) := by decide +kernel
theorem d_cX4_addNumber_78 : decode cX4_addNumber 78 = .ok (.ldiv, 1) := by decide +kernel
theorem d_cX4_addNumber_79 : decode cX4_addNumber 79 = .ok (.ldc2_w 132, 3) := by decide +kernel
theorem w_6_182 : (Jvm.Cond.constantLong "SpillForge$Listing" (132 : Nat) (10 : Int64)) ∈ gw := gw_6 182 rfl rfl
theorem d_cX4_addNumber_82 : decode cX4_addNumber 82 = .ok (.lrem, 1) := by decide +kernel
theorem d_cX4_addNumber_83 : decode cX4_addNumber 83 = .ok (.ladd, 1) := by decide +kernel
theorem d_cX4_addNumber_84 : decode cX4_addNumber 84 = .ok (.l2i, 1) := by decide +kernel
theorem d_cX4_addNumber_85 : decode cX4_addNumber 85 = .ok (.i2c, 1) := by decide +kernel
theorem d_cX4_addNumber_86 : decode cX4_addNumber 86 = .ok (.invokevirtual 55, 3) := by decide +kernel
theorem d_cX4_addNumber_89 : decode cX4_addNumber 89 = .ok (.lload 4, 2) := by decide +kernel
theorem d_cX4_addNumber_91 : decode cX4_addNumber 91 = .ok (.ldc2_w 132, 3) := by decide +kernel
theorem d_cX4_addNumber_94 : decode cX4_addNumber 94 = .ok (.ldiv, 1) := by decide +kernel
theorem d_cX4_addNumber_95 : decode cX4_addNumber 95 = .ok (.lstore 4, 2) := by decide +kernel
theorem d_cX4_addNumber_97 : decode cX4_addNumber 97 = .ok (.iinc 6 1, 3) := by decide +kernel
theorem d_cX4_addNumber_100 : decode cX4_addNumber 100 = .ok (.goto (-43), 3) := by decide +kernel
theorem d_cX4_addNumber_29 : decode cX4_addNumber 29 = .ok (.lload 4, 2) := by decide +kernel
theorem d_cX4_addNumber_31 : decode cX4_addNumber 31 = .ok (.lload_n 2, 1) := by decide +kernel
theorem d_cX4_addNumber_32 : decode cX4_addNumber 32 = .ok (.ldc2_w 132, 3) := by decide +kernel
theorem d_cX4_addNumber_35 : decode cX4_addNumber 35 = .ok (.ldiv, 1) := by decide +kernel
theorem d_cX4_addNumber_36 : decode cX4_addNumber 36 = .ok (.lcmp, 1) := by decide +kernel
theorem d_cX4_addNumber_37 : decode cX4_addNumber 37 = .ok (.ifCond .gt 17, 3) := by decide +kernel
theorem d_cX4_addNumber_40 : decode cX4_addNumber 40 = .ok (.lload 4, 2) := by decide +kernel
theorem d_cX4_addNumber_42 : decode cX4_addNumber 42 = .ok (.ldc2_w 132, 3) := by decide +kernel
theorem d_cX4_addNumber_45 : decode cX4_addNumber 45 = .ok (.lmul, 1) := by decide +kernel
theorem d_cX4_addNumber_46 : decode cX4_addNumber 46 = .ok (.lstore 4, 2) := by decide +kernel
theorem d_cX4_addNumber_48 : decode cX4_addNumber 48 = .ok (.iinc 6 1, 3) := by decide +kernel
theorem d_cX4_addNumber_51 : decode cX4_addNumber 51 = .ok (.goto (-29), 3) := by decide +kernel
theorem d_cX4_addNumber_4 : decode cX4_addNumber 4 = .ok (.aload_n 0, 1) := by decide +kernel
theorem d_cX4_addNumber_5 : decode cX4_addNumber 5 = .ok (.bipush 45, 2) := by decide +kernel
theorem d_cX4_addNumber_7 : decode cX4_addNumber 7 = .ok (.invokevirtual 55, 3) := by decide +kernel
abbrev ky_5459_Reader_readInto : gKey := (cX8_readInto, 4, yX8_readInto.cls, (some FieldType.int), [], yX8_readInto.name, fun _ _ => True)
abbrev po_5459_Reader_readInto (I : FieldType → ClassId) (q5414 : Nat) (q5415 : Nat) (q5416 : Nat) (q5417 : Nat) (q5418 : Nat) (q5419 : Nat) (q5420 : Nat) (q5421 : Nat) (q5422 : Nat) (q5423 : Nat) (q5424 : Nat) (q5425 : Nat) (q5426 : Nat) (q5427 : Nat) (q5428 : Nat) (p5429 : Int32) (p5430 : Int32) (p5431 : Int32) (pl5432 : Int64) (p5433 : Int32) (p5434 : Int32) (p5435 : Int32) (p5436 : Int32) (p5437 : Int32) (p5438 : Int32) (p5439 : Int32) (p5440 : Int32) (p5441 : Int32) (p5442 : Int32) (p5443 : Int32) (p5444 : Int32) (p5445 : Int32) (f5446 : Nat → Int32) (f5447 : Nat → Int32) (f5448 : Nat → Int32) (f5449 : Nat → Int32) (f5450 : Nat → Int32) (f5451 : Nat → Int32) (f5452 : Nat → Int32) (f5453 : Nat → Int32) (f5454 : Nat → Int32) (f5455 : Nat → Int32) (p5456 : Int32) (f5457 : Nat → Int32) : Option Value → va_W → Prop := fun r w => ∃ (o7465 : Int32) (o7438 : Int32) (o7439 : Int32) (o7440 : Int32) (ol7441 : Int64) (o7442 : Int32) (o7443 : Int32) (o7444 : Int32) (o7445 : Int32) (o7446 : Int32) (o7447 : Int32) (o7448 : Int32) (o7449 : Int32) (o7450 : Int32) (o7451 : Int32) (o7452 : Int32) (o7453 : Int32) (o7454 : Int32) (f7455 : Nat → Int32) (f7456 : Nat → Int32) (f7457 : Nat → Int32) (f7458 : Nat → Int32) (f7459 : Nat → Int32) (f7460 : Nat → Int32) (f7461 : Nat → Int32) (f7462 : Nat → Int32) (f7463 : Nat → Int32) (f7464 : Nat → Int32), r = some (.int o7465) ∧ w = [(q5414, .inr (13, [.ref q5416, .ref q5417, .int o7438, .int o7439, .int o7440, .long ol7441, .int o7442, .int o7443, .int o7444, .int o7445, .int o7446, .int o7447])), (q5415, .inr (5, [.ref q5418, .ref q5419, .ref q5420, .ref q5421, .ref q5422, .ref q5423, .ref q5424, .ref q5425, .ref q5426, .int o7448, .int o7449, .int o7450])), (q5416, .inr (14, [.ref q5427, .int o7451, .int o7452, .int o7453, .int o7454])), (q5417, .inl (I .int, 80, .inl f7455)), (q5418, .inl (I .int, 40, .inl f7456)), (q5419, .inl (I .int, 40, .inl f7457)), (q5420, .inl (I .int, 40, .inl f7458)), (q5421, .inl (I .int, 200, .inl f7459)), (q5422, .inl (I .int, 200, .inl f7460)), (q5423, .inl (I .int, 200, .inl f7461)), (q5424, .inl (I .int, 200, .inl f7462)), (q5425, .inl (I .int, 200, .inl f7463)), (q5426, .inl (I .int, 200, .inl f7464)), (q5427, .inr (15, [.ref q5428, .int p5456])), (q5428, .inl (I .byte, 8192, .inl f5457))] ∧ gB o7465 (-2147483648) 2147483647 ∧ gB o7438 (-2147483648) 2147483647 ∧ gB o7439 (-2147483648) 2147483647 ∧ gB o7440 (-2147483648) 2147483647 ∧ gB o7442 (-2147483648) 2147483647 ∧ gB o7443 (-2147483648) 2147483647 ∧ gB o7444 0 13 ∧ gB o7445 (-2147483648) 2147483647 ∧ gB o7446 (-2147483648) 2147483647 ∧ gB o7447 (-2147483648) 2147483647 ∧ gB o7448 0 40 ∧ gB o7449 0 200 ∧ gB o7450 0 1 ∧ gB o7451 0 12 ∧ gB o7452 (-2147483648) 2147483647 ∧ gB o7453 (-2147483648) 8192 ∧ gB o7454 (-2147483648) 2147483647 ∧ gF f7455 (-2147483648) 2147483647 ∧ gF f7456 0 200 ∧ gF f7457 (-2147483648) 2147483647 ∧ gF f7458 (-2147483648) 2147483647 ∧ gF f7459 0 21 ∧ gF f7460 (-2147483648) 2147483647 ∧ gF f7461 (-2147483648) 2147483647 ∧ gF f7462 (-2147483648) 2147483647 ∧ gF f7463 (-2147483648) 2147483647 ∧ gF f7464 (-2147483648) 2147483647 ∧ (o7451.toInt ≠ 5 ∨ (0 ≤ o7452.toInt ∧ o7452.toInt ≤ 13))
set_option maxRecDepth 100000 in
set_option maxHeartbeats 4000000 in
theorem ct_5459_Reader_readInto (l : Launch) (hl0 : l.stackTraces = false) (D : va_G) (I : FieldType → ClassId) (q5414 : Nat) (q5415 : Nat) (q5416 : Nat) (q5417 : Nat) (q5418 : Nat) (q5419 : Nat) (q5420 : Nat) (q5421 : Nat) (q5422 : Nat) (q5423 : Nat) (q5424 : Nat) (q5425 : Nat) (q5426 : Nat) (q5427 : Nat) (q5428 : Nat) (p5429 : Int32) (p5430 : Int32) (p5431 : Int32) (pl5432 : Int64) (p5433 : Int32) (p5434 : Int32) (p5435 : Int32) (p5436 : Int32) (p5437 : Int32) (p5438 : Int32) (p5439 : Int32) (p5440 : Int32) (p5441 : Int32) (p5442 : Int32) (p5443 : Int32) (p5444 : Int32) (p5445 : Int32) (f5446 : Nat → Int32) (f5447 : Nat → Int32) (f5448 : Nat → Int32) (f5449 : Nat → Int32) (f5450 : Nat → Int32) (f5451 : Nat → Int32) (f5452 : Nat → Int32) (f5453 : Nat → Int32) (f5454 : Nat → Int32) (f5455 : Nat → Int32) (p5456 : Int32) (f5457 : Nat → Int32) (bp5435 : gB p5435 0 13) (bp5439 : gB p5439 0 40) (bp5440 : gB p5440 0 200) (bp5441 : gB p5441 0 1) (bf5447 : gF f5447 0 200) (bf5450 : gF f5450 0 21) (bp5456 : gB p5456 0 8192) (bf5457 : gF f5457 (-128) 127) (x5458 : (p5442.toInt ≠ 5 ∨ (0 ≤ p5443.toInt ∧ p5443.toInt ≤ 13))) : Ct (gV D I) l yX8_readInto cX8_readInto 4 (some FieldType.int) 8 173 0 0 [.ref q5414, .ref q5415] [(q5414, .inr (13, [.ref q5416, .ref q5417, .int p5429, .int p5430, .int p5431, .long pl5432, .int p5433, .int p5434, .int p5435, .int p5436, .int p5437, .int p5438])), (q5415, .inr (5, [.ref q5418, .ref q5419, .ref q5420, .ref q5421, .ref q5422, .ref q5423, .ref q5424, .ref q5425, .ref q5426, .int p5439, .int p5440, .int p5441])), (q5416, .inr (14, [.ref q5427, .int p5442, .int p5443, .int p5444, .int p5445])), (q5417, .inl (I .int, 80, .inl f5446)), (q5418, .inl (I .int, 40, .inl f5447)), (q5419, .inl (I .int, 40, .inl f5448)), (q5420, .inl (I .int, 40, .inl f5449)), (q5421, .inl (I .int, 200, .inl f5450)), (q5422, .inl (I .int, 200, .inl f5451)), (q5423, .inl (I .int, 200, .inl f5452)), (q5424, .inl (I .int, 200, .inl f5453)), (q5425, .inl (I .int, 200, .inl f5454)), (q5426, .inl (I .int, 200, .inl f5455)), (q5427, .inr (15, [.ref q5428, .int p5456])), (q5428, .inl (I .byte, 8192, .inl f5457))] (po_5459_Reader_readInto I q5414 q5415 q5416 q5417 q5418 q5419 q5420 q5421 q5422 q5423 q5424 q5425 q5426 q5427 q5428 p5429 p5430 p5431 pl5432 p5433 p5434 p5435 p5436 p5437 p5438 p5439 p5440 p5441 p5442 p5443 p5444 p5445 f5446 f5447 f5448 f5449 f5450 f5451 f5452 f5453 f5454 f5455 p5456 f5457) gN := by
  refine Ct_of hl0 (by decide) (Nat.le_of_ble_eq_true rfl) ?_
  have bp5429 := gB_any p5429
  have bp5430 := gB_any p5430
  have bp5431 := gB_any p5431
  have bp5433 := gB_any p5433
  have bp5434 := gB_any p5434
  have bp5436 := gB_any p5436
  have bp5437 := gB_any p5437
  have bp5438 := gB_any p5438
  have bp5442 := gB_any p5442
  have bp5443 := gB_any p5443
  have bp5444 := gB_any p5444
  have bp5445 := gB_any p5445
  refine G_aload_n 1 d_cX8_readInto_0 rfl ?_
  refine G_callV (As := []) (wr := [(q5414, .inr (13, [.ref q5416, .ref q5417, .int p5429, .int p5430, .int p5431, .long pl5432, .int p5433, .int p5434, .int p5435, .int p5436, .int p5437, .int p5438])), (q5416, .inr (14, [.ref q5427, .int p5442, .int p5443, .int p5444, .int p5445])), (q5417, .inl (I .int, 80, .inl f5446)), (q5427, .inr (15, [.ref q5428, .int p5456])), (q5428, .inl (I .byte, 8192, .inl f5457))]) (gV_ok D I) (ct_700_Code_clear l hl0 D I q5415 q5418 q5419 q5420 q5421 q5422 q5423 q5424 q5425 q5426 p5439 p5440 p5441 f5447 f5448 f5449 f5450 f5451 f5452 f5453 f5454 f5455 bp5439 bp5440 bp5441 bf5447 bf5450) d_cX8_readInto_1 ⟨w_3_0, w_1_5, w_3_3, by decide, rfl, (Nat.le_of_ble_eq_true rfl), (Nat.le_of_ble_eq_true rfl)⟩ w_3_1 w_3_2 1 rfl rfl [1, 4, 5, 6, 7, 8, 9, 10, 11, 12] [0, 2, 3, 13, 14] rfl rfl rfl rfl (by decide) (Nat.le_of_ble_eq_true rfl) (Nat.le_of_ble_eq_true rfl) (Nat.le_of_ble_eq_true rfl) (fun r w hp => ?_) (fun _ _ _ z => z.elim)
  obtain ⟨o5460, o5461, o5462, rfl, rfl, bo5460, bo5461, bo5462⟩ := hp
  change G _ _ _ _ _ _ _ _ _ _ _
  refine G_ws (ws' := [(q5414, .inr (13, [.ref q5416, .ref q5417, .int p5429, .int p5430, .int p5431, .long pl5432, .int p5433, .int p5434, .int p5435, .int p5436, .int p5437, .int p5438])), (q5416, .inr (14, [.ref q5427, .int p5442, .int p5443, .int p5444, .int p5445])), (q5417, .inl (I .int, 80, .inl f5446)), (q5427, .inr (15, [.ref q5428, .int p5456])), (q5428, .inl (I .byte, 8192, .inl f5457)), (q5415, .inr (5, [.ref q5418, .ref q5419, .ref q5420, .ref q5421, .ref q5422, .ref q5423, .ref q5424, .ref q5425, .ref q5426, .int o5460, .int o5461, .int o5462])), (q5418, .inl (I .int, 40, .inl f5447)), (q5419, .inl (I .int, 40, .inl f5448)), (q5420, .inl (I .int, 40, .inl f5449)), (q5421, .inl (I .int, 200, .inl f5450)), (q5422, .inl (I .int, 200, .inl f5451)), (q5423, .inl (I .int, 200, .inl f5452)), (q5424, .inl (I .int, 200, .inl f5453)), (q5425, .inl (I .int, 200, .inl f5454)), (q5426, .inl (I .int, 200, .inl f5455))]) (cs' := 0) (sl' := 0) rfl rfl rfl ?_
  refine G_aload_n 0 d_cX8_readInto_4 rfl ?_
  refine G_lconst 0 d_cX8_readInto_5 rfl ?_
  refine G_putf (ws' := [(q5414, .inr (13, [.ref q5416, .ref q5417, .int p5429, .int p5430, .int p5431, .long 0, .int p5433, .int p5434, .int p5435, .int p5436, .int p5437, .int p5438])), (q5416, .inr (14, [.ref q5427, .int p5442, .int p5443, .int p5444, .int p5445])), (q5417, .inl (I .int, 80, .inl f5446)), (q5427, .inr (15, [.ref q5428, .int p5456])), (q5428, .inl (I .byte, 8192, .inl f5457)), (q5415, .inr (5, [.ref q5418, .ref q5419, .ref q5420, .ref q5421, .ref q5422, .ref q5423, .ref q5424, .ref q5425, .ref q5426, .int o5460, .int o5461, .int o5462])), (q5418, .inl (I .int, 40, .inl f5447)), (q5419, .inl (I .int, 40, .inl f5448)), (q5420, .inl (I .int, 40, .inl f5449)), (q5421, .inl (I .int, 200, .inl f5450)), (q5422, .inl (I .int, 200, .inl f5451)), (q5423, .inl (I .int, 200, .inl f5452)), (q5424, .inl (I .int, 200, .inl f5453)), (q5425, .inl (I .int, 200, .inl f5454)), (q5426, .inl (I .int, 200, .inl f5455))]) 0 5 d_cX8_readInto_6 rfl (gk_X8 D I) (Nat.le_of_ble_eq_true rfl) w_1_101 rfl rfl rfl (Nat.le_of_ble_eq_true rfl) rfl ?_
  refine G_aload_n 0 d_cX8_readInto_9 rfl ?_
  refine G_iconst 0 d_cX8_readInto_10 (by decide +kernel) ?_
  refine G_putf (ws' := [(q5414, .inr (13, [.ref q5416, .ref q5417, .int p5429, .int p5430, .int p5431, .long 0, .int 0, .int p5434, .int p5435, .int p5436, .int p5437, .int p5438])), (q5416, .inr (14, [.ref q5427, .int p5442, .int p5443, .int p5444, .int p5445])), (q5417, .inl (I .int, 80, .inl f5446)), (q5427, .inr (15, [.ref q5428, .int p5456])), (q5428, .inl (I .byte, 8192, .inl f5457)), (q5415, .inr (5, [.ref q5418, .ref q5419, .ref q5420, .ref q5421, .ref q5422, .ref q5423, .ref q5424, .ref q5425, .ref q5426, .int o5460, .int o5461, .int o5462])), (q5418, .inl (I .int, 40, .inl f5447)), (q5419, .inl (I .int, 40, .inl f5448)), (q5420, .inl (I .int, 40, .inl f5449)), (q5421, .inl (I .int, 200, .inl f5450)), (q5422, .inl (I .int, 200, .inl f5451)), (q5423, .inl (I .int, 200, .inl f5452)), (q5424, .inl (I .int, 200, .inl f5453)), (q5425, .inl (I .int, 200, .inl f5454)), (q5426, .inl (I .int, 200, .inl f5455))]) 0 6 d_cX8_readInto_11 rfl (gk_X8 D I) (Nat.le_of_ble_eq_true rfl) w_1_102 rfl rfl rfl (Nat.le_of_ble_eq_true rfl) rfl ?_
  refine G_aload_n 0 d_cX8_readInto_14 rfl ?_
  refine G_iconst (-1) d_cX8_readInto_15 (by decide +kernel) ?_
  refine G_putf (ws' := [(q5414, .inr (13, [.ref q5416, .ref q5417, .int p5429, .int (-1), .int p5431, .long 0, .int 0, .int p5434, .int p5435, .int p5436, .int p5437, .int p5438])), (q5416, .inr (14, [.ref q5427, .int p5442, .int p5443, .int p5444, .int p5445])), (q5417, .inl (I .int, 80, .inl f5446)), (q5427, .inr (15, [.ref q5428, .int p5456])), (q5428, .inl (I .byte, 8192, .inl f5457)), (q5415, .inr (5, [.ref q5418, .ref q5419, .ref q5420, .ref q5421, .ref q5422, .ref q5423, .ref q5424, .ref q5425, .ref q5426, .int o5460, .int o5461, .int o5462])), (q5418, .inl (I .int, 40, .inl f5447)), (q5419, .inl (I .int, 40, .inl f5448)), (q5420, .inl (I .int, 40, .inl f5449)), (q5421, .inl (I .int, 200, .inl f5450)), (q5422, .inl (I .int, 200, .inl f5451)), (q5423, .inl (I .int, 200, .inl f5452)), (q5424, .inl (I .int, 200, .inl f5453)), (q5425, .inl (I .int, 200, .inl f5454)), (q5426, .inl (I .int, 200, .inl f5455))]) 0 3 d_cX8_readInto_16 rfl (gk_X8 D I) (Nat.le_of_ble_eq_true rfl) w_1_99 rfl rfl rfl (Nat.le_of_ble_eq_true rfl) rfl ?_
  refine G_aload_n 0 d_cX8_readInto_19 rfl ?_
  refine G_iconst 0 d_cX8_readInto_20 (by decide +kernel) ?_
  refine G_putf (ws' := [(q5414, .inr (13, [.ref q5416, .ref q5417, .int p5429, .int (-1), .int 0, .long 0, .int 0, .int p5434, .int p5435, .int p5436, .int p5437, .int p5438])), (q5416, .inr (14, [.ref q5427, .int p5442, .int p5443, .int p5444, .int p5445])), (q5417, .inl (I .int, 80, .inl f5446)), (q5427, .inr (15, [.ref q5428, .int p5456])), (q5428, .inl (I .byte, 8192, .inl f5457)), (q5415, .inr (5, [.ref q5418, .ref q5419, .ref q5420, .ref q5421, .ref q5422, .ref q5423, .ref q5424, .ref q5425, .ref q5426, .int o5460, .int o5461, .int o5462])), (q5418, .inl (I .int, 40, .inl f5447)), (q5419, .inl (I .int, 40, .inl f5448)), (q5420, .inl (I .int, 40, .inl f5449)), (q5421, .inl (I .int, 200, .inl f5450)), (q5422, .inl (I .int, 200, .inl f5451)), (q5423, .inl (I .int, 200, .inl f5452)), (q5424, .inl (I .int, 200, .inl f5453)), (q5425, .inl (I .int, 200, .inl f5454)), (q5426, .inl (I .int, 200, .inl f5455))]) 0 4 d_cX8_readInto_21 rfl (gk_X8 D I) (Nat.le_of_ble_eq_true rfl) w_1_100 rfl rfl rfl (Nat.le_of_ble_eq_true rfl) rfl ?_
  refine G_aload_n 0 d_cX8_readInto_24 rfl ?_
  refine G_iconst 0 d_cX8_readInto_25 (by decide +kernel) ?_
  refine G_putf (ws' := [(q5414, .inr (13, [.ref q5416, .ref q5417, .int p5429, .int (-1), .int 0, .long 0, .int 0, .int 0, .int p5435, .int p5436, .int p5437, .int p5438])), (q5416, .inr (14, [.ref q5427, .int p5442, .int p5443, .int p5444, .int p5445])), (q5417, .inl (I .int, 80, .inl f5446)), (q5427, .inr (15, [.ref q5428, .int p5456])), (q5428, .inl (I .byte, 8192, .inl f5457)), (q5415, .inr (5, [.ref q5418, .ref q5419, .ref q5420, .ref q5421, .ref q5422, .ref q5423, .ref q5424, .ref q5425, .ref q5426, .int o5460, .int o5461, .int o5462])), (q5418, .inl (I .int, 40, .inl f5447)), (q5419, .inl (I .int, 40, .inl f5448)), (q5420, .inl (I .int, 40, .inl f5449)), (q5421, .inl (I .int, 200, .inl f5450)), (q5422, .inl (I .int, 200, .inl f5451)), (q5423, .inl (I .int, 200, .inl f5452)), (q5424, .inl (I .int, 200, .inl f5453)), (q5425, .inl (I .int, 200, .inl f5454)), (q5426, .inl (I .int, 200, .inl f5455))]) 0 7 d_cX8_readInto_26 rfl (gk_X8 D I) (Nat.le_of_ble_eq_true rfl) w_1_103 rfl rfl rfl (Nat.le_of_ble_eq_true rfl) rfl ?_
  refine G_aload_n 0 d_cX8_readInto_29 rfl ?_
  refine G_getf 0 0 d_cX8_readInto_30 rfl (gk_X8 D I) (Nat.le_of_ble_eq_true rfl) w_1_96 rfl ?_
  refine G_callV (As := []) (wr := [(q5414, .inr (13, [.ref q5416, .ref q5417, .int p5429, .int (-1), .int 0, .long 0, .int 0, .int 0, .int p5435, .int p5436, .int p5437, .int p5438])), (q5417, .inl (I .int, 80, .inl f5446)), (q5415, .inr (5, [.ref q5418, .ref q5419, .ref q5420, .ref q5421, .ref q5422, .ref q5423, .ref q5424, .ref q5425, .ref q5426, .int o5460, .int o5461, .int o5462])), (q5418, .inl (I .int, 40, .inl f5447)), (q5419, .inl (I .int, 40, .inl f5448)), (q5420, .inl (I .int, 40, .inl f5449)), (q5421, .inl (I .int, 200, .inl f5450)), (q5422, .inl (I .int, 200, .inl f5451)), (q5423, .inl (I .int, 200, .inl f5452)), (q5424, .inl (I .int, 200, .inl f5453)), (q5425, .inl (I .int, 200, .inl f5454)), (q5426, .inl (I .int, 200, .inl f5455))]) (gV_ok D I) (ct_5404_Signs_open l hl0 D I q5416 q5427 q5428 p5442 p5443 p5444 p5445 p5456 f5457 bp5456 bf5457 (by have qa0 : Int32.toInt (-1) = (-1) := (by decide); have qa1 : Int32.toInt 0 = 0 := (by decide); omega)) d_cX8_readInto_33 ⟨w_3_4, w_1_4, w_3_7, by decide, rfl, (Nat.le_of_ble_eq_true rfl), (Nat.le_of_ble_eq_true rfl)⟩ w_3_5 w_3_6 1 rfl rfl [1, 3, 4] [0, 2, 5, 6, 7, 8, 9, 10, 11, 12, 13, 14] rfl rfl rfl rfl (by decide) (Nat.le_of_ble_eq_true rfl) (Nat.le_of_ble_eq_true rfl) (Nat.le_of_ble_eq_true rfl) (fun r w hp => ?_) (fun _ _ _ z => z.elim)
  obtain ⟨o5463, o5464, o5465, o5466, rfl, rfl, bo5463, bo5464, bo5465, bo5466, x5467⟩ := hp
  change G _ _ _ _ _ _ _ _ _ _ _
  refine G_ws (ws' := [(q5414, .inr (13, [.ref q5416, .ref q5417, .int p5429, .int (-1), .int 0, .long 0, .int 0, .int 0, .int p5435, .int p5436, .int p5437, .int p5438])), (q5417, .inl (I .int, 80, .inl f5446)), (q5415, .inr (5, [.ref q5418, .ref q5419, .ref q5420, .ref q5421, .ref q5422, .ref q5423, .ref q5424, .ref q5425, .ref q5426, .int o5460, .int o5461, .int o5462])), (q5418, .inl (I .int, 40, .inl f5447)), (q5419, .inl (I .int, 40, .inl f5448)), (q5420, .inl (I .int, 40, .inl f5449)), (q5421, .inl (I .int, 200, .inl f5450)), (q5422, .inl (I .int, 200, .inl f5451)), (q5423, .inl (I .int, 200, .inl f5452)), (q5424, .inl (I .int, 200, .inl f5453)), (q5425, .inl (I .int, 200, .inl f5454)), (q5426, .inl (I .int, 200, .inl f5455)), (q5416, .inr (14, [.ref q5427, .int o5463, .int o5464, .int o5465, .int o5466])), (q5427, .inr (15, [.ref q5428, .int p5456])), (q5428, .inl (I .byte, 8192, .inl f5457))]) (cs' := 0) (sl' := 0) rfl rfl rfl ?_
  refine G_iconst 1 d_cX8_readInto_36 (by decide +kernel) ?_
  refine G_istore_n (L' := [(2, .int 1), (0, .ref q5414), (1, .ref q5415)]) d_cX8_readInto_37 (Nat.le_of_ble_eq_true rfl) rfl ?_
  refine G_iconst 0 d_cX8_readInto_38 (by decide +kernel) ?_
  refine G_istore_n (L' := [(3, .int 0), (2, .int 1), (0, .ref q5414), (1, .ref q5415)]) d_cX8_readInto_39 (Nat.le_of_ble_eq_true rfl) rfl ?_
  have hlp40_7382 : ∀ (n40_7382 : Nat) (g7354 : Int32) (g7355 : Int32) (g7356 : Int32) (g7357 : Int32) (gl7358 : Int64) (g7359 : Int32) (g7360 : Int32) (g7361 : Int32) (g7362 : Int32) (g7363 : Int32) (g7364 : Int32) (f7365 : Nat → Int32) (g7366 : Int32) (g7367 : Int32) (g7368 : Int32) (f7369 : Nat → Int32) (f7370 : Nat → Int32) (f7371 : Nat → Int32) (f7372 : Nat → Int32) (f7373 : Nat → Int32) (f7374 : Nat → Int32) (f7375 : Nat → Int32) (f7376 : Nat → Int32) (f7377 : Nat → Int32) (g7378 : Int32) (g7379 : Int32) (g7380 : Int32) (g7381 : Int32), gB g7354 0 8192 → gB g7355 0 1 → gB g7356 (-2147483648) 2147483647 → gB g7357 (-2147483648) 2147483647 → gB g7359 (-2147483648) 2147483647 → gB g7360 (-2147483648) 2147483647 → gB g7361 0 13 → gB g7362 (-2147483648) 2147483647 → gB g7363 (-2147483648) 2147483647 → gB g7364 (-2147483648) 2147483647 → gF f7365 (-2147483648) 2147483647 → gB g7366 0 40 → gB g7367 0 200 → gB g7368 0 1 → gF f7369 0 200 → gF f7370 (-2147483648) 2147483647 → gF f7371 (-2147483648) 2147483647 → gF f7372 0 21 → gF f7373 (-2147483648) 2147483647 → gF f7374 (-2147483648) 2147483647 → gF f7375 (-2147483648) 2147483647 → gF f7376 (-2147483648) 2147483647 → gF f7377 (-2147483648) 2147483647 → gB g7378 0 12 → gB g7379 (-2147483648) 2147483647 → gB g7380 (-2147483648) 8192 → gB g7381 (-2147483648) 2147483647 → (g7378.toInt ≠ 5 ∨ (0 ≤ g7379.toInt ∧ g7379.toInt ≤ 13)) → ((8193 : Int) - g7354.toInt).toNat < n40_7382 → G (gV D I) l (gRm 8 173 0 0) (gM (gV D I) (po_5459_Reader_readInto I q5414 q5415 q5416 q5417 q5418 q5419 q5420 q5421 q5422 q5423 q5424 q5425 q5426 q5427 q5428 p5429 p5430 p5431 pl5432 p5433 p5434 p5435 p5436 p5437 p5438 p5439 p5440 p5441 p5442 p5443 p5444 p5445 f5446 f5447 f5448 f5449 f5450 f5451 f5452 f5453 f5454 f5455 p5456 f5457) gN 0 0) ky_5459_Reader_readInto 40 [(3, .int g7354), (2, .int g7355), (0, .ref q5414), (1, .ref q5415)] [] [(q5414, .inr (13, [.ref q5416, .ref q5417, .int p5429, .int g7356, .int g7357, .long gl7358, .int g7359, .int g7360, .int g7361, .int g7362, .int g7363, .int g7364])), (q5417, .inl (I .int, 80, .inl f7365)), (q5415, .inr (5, [.ref q5418, .ref q5419, .ref q5420, .ref q5421, .ref q5422, .ref q5423, .ref q5424, .ref q5425, .ref q5426, .int g7366, .int g7367, .int g7368])), (q5418, .inl (I .int, 40, .inl f7369)), (q5419, .inl (I .int, 40, .inl f7370)), (q5420, .inl (I .int, 40, .inl f7371)), (q5421, .inl (I .int, 200, .inl f7372)), (q5422, .inl (I .int, 200, .inl f7373)), (q5423, .inl (I .int, 200, .inl f7374)), (q5424, .inl (I .int, 200, .inl f7375)), (q5425, .inl (I .int, 200, .inl f7376)), (q5426, .inl (I .int, 200, .inl f7377)), (q5416, .inr (14, [.ref q5427, .int g7378, .int g7379, .int g7380, .int g7381])), (q5427, .inr (15, [.ref q5428, .int p5456])), (q5428, .inl (I .byte, 8192, .inl f5457))] 0 0 := by
    intro n40_7382
    induction n40_7382 with
    | zero => intro g7354 g7355 g7356 g7357 gl7358 g7359 g7360 g7361 g7362 g7363 g7364 f7365 g7366 g7367 g7368 f7369 f7370 f7371 f7372 f7373 f7374 f7375 f7376 f7377 g7378 g7379 g7380 g7381 bg7354 bg7355 bg7356 bg7357 bg7359 bg7360 bg7361 bg7362 bg7363 bg7364 bf7365 bg7366 bg7367 bg7368 bf7369 bf7370 bf7371 bf7372 bf7373 bf7374 bf7375 bf7376 bf7377 bg7378 bg7379 bg7380 bg7381 x7382 hm40_7382; exact absurd hm40_7382 (Nat.not_lt_zero _)
    | succ n40_7382 ih40_7382 =>
      intro g7354 g7355 g7356 g7357 gl7358 g7359 g7360 g7361 g7362 g7363 g7364 f7365 g7366 g7367 g7368 f7369 f7370 f7371 f7372 f7373 f7374 f7375 f7376 f7377 g7378 g7379 g7380 g7381 bg7354 bg7355 bg7356 bg7357 bg7359 bg7360 bg7361 bg7362 bg7363 bg7364 bf7365 bg7366 bg7367 bg7368 bf7369 bf7370 bf7371 bf7372 bf7373 bf7374 bf7375 bf7376 bf7377 bg7378 bg7379 bg7380 bg7381 x7382 hm40_7382
      refine G_iload_n 0 d_cX8_readInto_40 rfl ?_
      refine G_sipush 8192 d_cX8_readInto_41 (by decide +kernel) ?_
      refine G_icmp_ge 85 d_cX8_readInto_44 (by decide +kernel) (fun hc7383 => ?_) (fun hc7383 => ?_)
      · have r7384 : 8192 ≤ g7354.toInt := gj_leL hc7383 (show Int32.toInt 8192 = 8192 by decide)
        have bg7354' : gB g7354 8192 8192 := ⟨by omega, by omega⟩
        refine G_iload_n 1 d_cX8_readInto_85 rfl ?_
        refine G_if_eq 97 d_cX8_readInto_86 (by decide +kernel) (fun hc7385 => ?_) (fun hc7385 => ?_)
        · have r7386 : g7355.toInt = 0 := gj_eq hc7385 (show Int32.toInt 0 = 0 by decide)
          have bg7355' : gB g7355 0 0 := ⟨by omega, by omega⟩
          refine G_aload_n 2 d_cX8_readInto_97 rfl ?_
          refine G_iconst 1 d_cX8_readInto_98 (by decide +kernel) ?_
          refine G_putf (ws' := [(q5414, .inr (13, [.ref q5416, .ref q5417, .int 1, .int g7356, .int g7357, .long gl7358, .int g7359, .int g7360, .int g7361, .int g7362, .int g7363, .int g7364])), (q5417, .inl (I .int, 80, .inl f7365)), (q5415, .inr (5, [.ref q5418, .ref q5419, .ref q5420, .ref q5421, .ref q5422, .ref q5423, .ref q5424, .ref q5425, .ref q5426, .int g7366, .int g7367, .int g7368])), (q5418, .inl (I .int, 40, .inl f7369)), (q5419, .inl (I .int, 40, .inl f7370)), (q5420, .inl (I .int, 40, .inl f7371)), (q5421, .inl (I .int, 200, .inl f7372)), (q5422, .inl (I .int, 200, .inl f7373)), (q5423, .inl (I .int, 200, .inl f7374)), (q5424, .inl (I .int, 200, .inl f7375)), (q5425, .inl (I .int, 200, .inl f7376)), (q5426, .inl (I .int, 200, .inl f7377)), (q5416, .inr (14, [.ref q5427, .int g7378, .int g7379, .int g7380, .int g7381])), (q5427, .inr (15, [.ref q5428, .int p5456])), (q5428, .inl (I .byte, 8192, .inl f5457))]) 0 2 d_cX8_readInto_99 rfl (gk_X8 D I) (Nat.le_of_ble_eq_true rfl) w_1_98 rfl rfl rfl (Nat.le_of_ble_eq_true rfl) rfl ?_
          refine G_aload_n 2 d_cX8_readInto_102 rfl ?_
          refine G_getf 0 0 d_cX8_readInto_103 rfl (gk_X8 D I) (Nat.le_of_ble_eq_true rfl) w_1_96 rfl ?_
          refine G_callV (As := []) (wr := [(q5414, .inr (13, [.ref q5416, .ref q5417, .int 1, .int g7356, .int g7357, .long gl7358, .int g7359, .int g7360, .int g7361, .int g7362, .int g7363, .int g7364])), (q5417, .inl (I .int, 80, .inl f7365)), (q5415, .inr (5, [.ref q5418, .ref q5419, .ref q5420, .ref q5421, .ref q5422, .ref q5423, .ref q5424, .ref q5425, .ref q5426, .int g7366, .int g7367, .int g7368])), (q5418, .inl (I .int, 40, .inl f7369)), (q5419, .inl (I .int, 40, .inl f7370)), (q5420, .inl (I .int, 40, .inl f7371)), (q5421, .inl (I .int, 200, .inl f7372)), (q5422, .inl (I .int, 200, .inl f7373)), (q5423, .inl (I .int, 200, .inl f7374)), (q5424, .inl (I .int, 200, .inl f7375)), (q5425, .inl (I .int, 200, .inl f7376)), (q5426, .inl (I .int, 200, .inl f7377))]) (gV_ok D I) (ct_302_Signs_place l hl0 D I q5416 q5427 q5428 g7378 g7379 g7380 g7381 p5456 f5457 bp5456 bf5457 (by have qa0 : Int32.toInt 1 = 1 := (by decide); omega)) d_cX8_readInto_106 ⟨w_3_145, w_1_4, w_3_148, by decide, rfl, (Nat.le_of_ble_eq_true rfl), (Nat.le_of_ble_eq_true rfl)⟩ w_3_146 w_3_147 12 rfl rfl [12, 13, 14] [0, 1, 2, 3, 4, 5, 6, 7, 8, 9, 10, 11] rfl rfl rfl rfl (by decide) (Nat.le_of_ble_eq_true rfl) (Nat.le_of_ble_eq_true rfl) (Nat.le_of_ble_eq_true rfl) (fun r w hp => ?_) (fun _ _ _ z => z.elim)
          obtain ⟨rfl, rfl⟩ := hp
          change G _ _ _ _ _ _ _ (.int g7380 :: _) _ _ _
          refine G_ws (ws' := [(q5414, .inr (13, [.ref q5416, .ref q5417, .int 1, .int g7356, .int g7357, .long gl7358, .int g7359, .int g7360, .int g7361, .int g7362, .int g7363, .int g7364])), (q5417, .inl (I .int, 80, .inl f7365)), (q5415, .inr (5, [.ref q5418, .ref q5419, .ref q5420, .ref q5421, .ref q5422, .ref q5423, .ref q5424, .ref q5425, .ref q5426, .int g7366, .int g7367, .int g7368])), (q5418, .inl (I .int, 40, .inl f7369)), (q5419, .inl (I .int, 40, .inl f7370)), (q5420, .inl (I .int, 40, .inl f7371)), (q5421, .inl (I .int, 200, .inl f7372)), (q5422, .inl (I .int, 200, .inl f7373)), (q5423, .inl (I .int, 200, .inl f7374)), (q5424, .inl (I .int, 200, .inl f7375)), (q5425, .inl (I .int, 200, .inl f7376)), (q5426, .inl (I .int, 200, .inl f7377)), (q5416, .inr (14, [.ref q5427, .int g7378, .int g7379, .int g7380, .int g7381])), (q5427, .inr (15, [.ref q5428, .int p5456])), (q5428, .inl (I .byte, 8192, .inl f5457))]) (cs' := 0) (sl' := 0) rfl rfl rfl ?_
          refine G_sub (ws' := [(q5414, .inr (13, [.ref q5416, .ref q5417, .int 1, .int g7356, .int g7357, .long gl7358, .int g7359, .int g7360, .int g7361, .int g7362, .int g7363, .int g7364])), (q5415, .inr (5, [.ref q5418, .ref q5419, .ref q5420, .ref q5421, .ref q5422, .ref q5423, .ref q5424, .ref q5425, .ref q5426, .int g7366, .int g7367, .int g7368])), (q5416, .inr (14, [.ref q5427, .int g7378, .int g7379, .int g7380, .int g7381])), (q5417, .inl (I .int, 80, .inl f7365)), (q5418, .inl (I .int, 40, .inl f7369)), (q5419, .inl (I .int, 40, .inl f7370)), (q5420, .inl (I .int, 40, .inl f7371)), (q5421, .inl (I .int, 200, .inl f7372)), (q5422, .inl (I .int, 200, .inl f7373)), (q5423, .inl (I .int, 200, .inl f7374)), (q5424, .inl (I .int, 200, .inl f7375)), (q5425, .inl (I .int, 200, .inl f7376)), (q5426, .inl (I .int, 200, .inl f7377)), (q5427, .inr (15, [.ref q5428, .int p5456])), (q5428, .inl (I .byte, 8192, .inl f5457))]) [0, 2, 12, 1, 3, 4, 5, 6, 7, 8, 9, 10, 11, 13, 14] rfl rfl ?_
          exact G_iret d_cX8_readInto_109 rfl (Nat.le_of_ble_eq_true rfl) (Nat.le_of_ble_eq_true rfl) ⟨g7380, 1, g7356, g7357, gl7358, g7359, g7360, g7361, g7362, g7363, g7364, g7366, g7367, g7368, g7378, g7379, g7380, g7381, f7365, f7369, f7370, f7371, f7372, f7373, f7374, f7375, f7376, f7377, rfl, rfl, (gB_w bg7380 (by decide) (by decide)), (gB_w (gBl (show Int32.toInt 1 = 1 by decide)) (by decide) (by decide)), bg7356, bg7357, bg7359, bg7360, bg7361, bg7362, bg7363, bg7364, bg7366, bg7367, bg7368, bg7378, bg7379, bg7380, bg7381, bf7365, bf7369, bf7370, bf7371, bf7372, bf7373, bf7374, bf7375, bf7376, bf7377, (by have qa0 : Int32.toInt 1 = 1 := (by decide); omega)⟩
        · have r7387 : g7355.toInt ≠ 0 := gj_neq hc7385 (show Int32.toInt 0 = 0 by decide)
          have bg7355' : gB g7355 1 1 := ⟨by omega, by omega⟩
          refine G_aload_n 2 d_cX8_readInto_89 rfl ?_
          refine G_getf 0 7 d_cX8_readInto_90 rfl (gk_X8 D I) (Nat.le_of_ble_eq_true rfl) w_1_103 rfl ?_
          refine G_iconst 1 d_cX8_readInto_93 (by decide +kernel) ?_
          refine G_icmp_eq 110 d_cX8_readInto_94 (by decide +kernel) (fun hc7388 => ?_) (fun hc7388 => ?_)
          · have r7389 : g7360.toInt = 1 := gj_eq hc7388 (show Int32.toInt 1 = 1 by decide)
            have bg7360' : gB g7360 1 1 := ⟨by omega, by omega⟩
            refine G_aload_n 2 d_cX8_readInto_110 rfl ?_
            refine G_aload_n 3 d_cX8_readInto_111 rfl ?_
            refine G_callV (As := [.ref q5415]) (wr := []) (gV_ok D I) (ct_6709_Reader_checkGoals l hl0 D I q5414 q5415 q5416 q5417 q5418 q5419 q5420 q5421 q5422 q5423 q5424 q5425 q5426 q5427 q5428 p5429 g7356 g7357 gl7358 g7359 g7360 g7361 g7362 g7363 g7364 g7366 g7367 g7368 g7378 g7379 g7380 g7381 f7365 f7369 f7370 f7371 f7372 f7373 f7374 f7375 f7376 f7377 p5456 f5457 bg7361 bg7366 bg7367 bg7368 bf7369 bf7372 bp5456 bf5457 (by omega)) d_cX8_readInto_112 ⟨w_3_214, w_1_3, w_3_217, by decide, rfl, (Nat.le_of_ble_eq_true rfl), (Nat.le_of_ble_eq_true rfl)⟩ w_3_216 w_p_25 0 rfl rfl [0, 2, 12, 1, 3, 4, 5, 6, 7, 8, 9, 10, 11, 13, 14] [] rfl rfl rfl rfl (by decide) (Nat.le_of_ble_eq_true rfl) (Nat.le_of_ble_eq_true rfl) (Nat.le_of_ble_eq_true rfl) (fun r w hp => ?_) (fun _ _ _ z => z.elim)
            obtain ⟨o7390, o7391, rfl, rfl, bo7390, bo7391⟩ := hp
            change G _ _ _ _ _ _ _ _ _ _ _
            refine G_ws (ws' := [(q5414, .inr (13, [.ref q5416, .ref q5417, .int p5429, .int o7390, .int o7391, .long gl7358, .int g7359, .int g7360, .int g7361, .int g7362, .int g7363, .int g7364])), (q5415, .inr (5, [.ref q5418, .ref q5419, .ref q5420, .ref q5421, .ref q5422, .ref q5423, .ref q5424, .ref q5425, .ref q5426, .int g7366, .int g7367, .int g7368])), (q5416, .inr (14, [.ref q5427, .int g7378, .int g7379, .int g7380, .int g7381])), (q5417, .inl (I .int, 80, .inl f7365)), (q5418, .inl (I .int, 40, .inl f7369)), (q5419, .inl (I .int, 40, .inl f7370)), (q5420, .inl (I .int, 40, .inl f7371)), (q5421, .inl (I .int, 200, .inl f7372)), (q5422, .inl (I .int, 200, .inl f7373)), (q5423, .inl (I .int, 200, .inl f7374)), (q5424, .inl (I .int, 200, .inl f7375)), (q5425, .inl (I .int, 200, .inl f7376)), (q5426, .inl (I .int, 200, .inl f7377)), (q5427, .inr (15, [.ref q5428, .int p5456])), (q5428, .inl (I .byte, 8192, .inl f5457))]) (cs' := 0) (sl' := 0) rfl rfl rfl ?_
            refine G_aload_n 2 d_cX8_readInto_115 rfl ?_
            refine G_aload_n 2 d_cX8_readInto_116 rfl ?_
            refine G_getf 0 4 d_cX8_readInto_117 rfl (gk_X8 D I) (Nat.le_of_ble_eq_true rfl) w_1_100 rfl ?_
            refine G_putf (ws' := [(q5414, .inr (13, [.ref q5416, .ref q5417, .int o7391, .int o7390, .int o7391, .long gl7358, .int g7359, .int g7360, .int g7361, .int g7362, .int g7363, .int g7364])), (q5415, .inr (5, [.ref q5418, .ref q5419, .ref q5420, .ref q5421, .ref q5422, .ref q5423, .ref q5424, .ref q5425, .ref q5426, .int g7366, .int g7367, .int g7368])), (q5416, .inr (14, [.ref q5427, .int g7378, .int g7379, .int g7380, .int g7381])), (q5417, .inl (I .int, 80, .inl f7365)), (q5418, .inl (I .int, 40, .inl f7369)), (q5419, .inl (I .int, 40, .inl f7370)), (q5420, .inl (I .int, 40, .inl f7371)), (q5421, .inl (I .int, 200, .inl f7372)), (q5422, .inl (I .int, 200, .inl f7373)), (q5423, .inl (I .int, 200, .inl f7374)), (q5424, .inl (I .int, 200, .inl f7375)), (q5425, .inl (I .int, 200, .inl f7376)), (q5426, .inl (I .int, 200, .inl f7377)), (q5427, .inr (15, [.ref q5428, .int p5456])), (q5428, .inl (I .byte, 8192, .inl f5457))]) 0 2 d_cX8_readInto_120 rfl (gk_X8 D I) (Nat.le_of_ble_eq_true rfl) w_1_98 rfl rfl rfl (Nat.le_of_ble_eq_true rfl) rfl ?_
            refine G_aload_n 2 d_cX8_readInto_123 rfl ?_
            refine G_getf 0 3 d_cX8_readInto_124 rfl (gk_X8 D I) (Nat.le_of_ble_eq_true rfl) w_1_99 rfl ?_
            exact G_iret d_cX8_readInto_127 rfl (Nat.le_of_ble_eq_true rfl) (Nat.le_of_ble_eq_true rfl) ⟨o7390, o7391, o7390, o7391, gl7358, g7359, g7360, g7361, g7362, g7363, g7364, g7366, g7367, g7368, g7378, g7379, g7380, g7381, f7365, f7369, f7370, f7371, f7372, f7373, f7374, f7375, f7376, f7377, rfl, rfl, bo7390, bo7391, bo7390, bo7391, bg7359, (gB_w bg7360' (by decide) (by decide)), bg7361, bg7362, bg7363, bg7364, bg7366, bg7367, bg7368, bg7378, bg7379, bg7380, bg7381, bf7365, bf7369, bf7370, bf7371, bf7372, bf7373, bf7374, bf7375, bf7376, bf7377, (by omega)⟩
          · have r7392 : g7360.toInt ≠ 1 := gj_neq hc7388 (show Int32.toInt 1 = 1 by decide)
            refine G_aload_n 2 d_cX8_readInto_97 rfl ?_
            refine G_iconst 1 d_cX8_readInto_98 (by decide +kernel) ?_
            refine G_putf (ws' := [(q5414, .inr (13, [.ref q5416, .ref q5417, .int 1, .int g7356, .int g7357, .long gl7358, .int g7359, .int g7360, .int g7361, .int g7362, .int g7363, .int g7364])), (q5417, .inl (I .int, 80, .inl f7365)), (q5415, .inr (5, [.ref q5418, .ref q5419, .ref q5420, .ref q5421, .ref q5422, .ref q5423, .ref q5424, .ref q5425, .ref q5426, .int g7366, .int g7367, .int g7368])), (q5418, .inl (I .int, 40, .inl f7369)), (q5419, .inl (I .int, 40, .inl f7370)), (q5420, .inl (I .int, 40, .inl f7371)), (q5421, .inl (I .int, 200, .inl f7372)), (q5422, .inl (I .int, 200, .inl f7373)), (q5423, .inl (I .int, 200, .inl f7374)), (q5424, .inl (I .int, 200, .inl f7375)), (q5425, .inl (I .int, 200, .inl f7376)), (q5426, .inl (I .int, 200, .inl f7377)), (q5416, .inr (14, [.ref q5427, .int g7378, .int g7379, .int g7380, .int g7381])), (q5427, .inr (15, [.ref q5428, .int p5456])), (q5428, .inl (I .byte, 8192, .inl f5457))]) 0 2 d_cX8_readInto_99 rfl (gk_X8 D I) (Nat.le_of_ble_eq_true rfl) w_1_98 rfl rfl rfl (Nat.le_of_ble_eq_true rfl) rfl ?_
            refine G_aload_n 2 d_cX8_readInto_102 rfl ?_
            refine G_getf 0 0 d_cX8_readInto_103 rfl (gk_X8 D I) (Nat.le_of_ble_eq_true rfl) w_1_96 rfl ?_
            refine G_callV (As := []) (wr := [(q5414, .inr (13, [.ref q5416, .ref q5417, .int 1, .int g7356, .int g7357, .long gl7358, .int g7359, .int g7360, .int g7361, .int g7362, .int g7363, .int g7364])), (q5417, .inl (I .int, 80, .inl f7365)), (q5415, .inr (5, [.ref q5418, .ref q5419, .ref q5420, .ref q5421, .ref q5422, .ref q5423, .ref q5424, .ref q5425, .ref q5426, .int g7366, .int g7367, .int g7368])), (q5418, .inl (I .int, 40, .inl f7369)), (q5419, .inl (I .int, 40, .inl f7370)), (q5420, .inl (I .int, 40, .inl f7371)), (q5421, .inl (I .int, 200, .inl f7372)), (q5422, .inl (I .int, 200, .inl f7373)), (q5423, .inl (I .int, 200, .inl f7374)), (q5424, .inl (I .int, 200, .inl f7375)), (q5425, .inl (I .int, 200, .inl f7376)), (q5426, .inl (I .int, 200, .inl f7377))]) (gV_ok D I) (ct_302_Signs_place l hl0 D I q5416 q5427 q5428 g7378 g7379 g7380 g7381 p5456 f5457 bp5456 bf5457 (by have qa0 : Int32.toInt 1 = 1 := (by decide); omega)) d_cX8_readInto_106 ⟨w_3_145, w_1_4, w_3_148, by decide, rfl, (Nat.le_of_ble_eq_true rfl), (Nat.le_of_ble_eq_true rfl)⟩ w_3_146 w_3_147 12 rfl rfl [12, 13, 14] [0, 1, 2, 3, 4, 5, 6, 7, 8, 9, 10, 11] rfl rfl rfl rfl (by decide) (Nat.le_of_ble_eq_true rfl) (Nat.le_of_ble_eq_true rfl) (Nat.le_of_ble_eq_true rfl) (fun r w hp => ?_) (fun _ _ _ z => z.elim)
            obtain ⟨rfl, rfl⟩ := hp
            change G _ _ _ _ _ _ _ (.int g7380 :: _) _ _ _
            refine G_ws (ws' := [(q5414, .inr (13, [.ref q5416, .ref q5417, .int 1, .int g7356, .int g7357, .long gl7358, .int g7359, .int g7360, .int g7361, .int g7362, .int g7363, .int g7364])), (q5417, .inl (I .int, 80, .inl f7365)), (q5415, .inr (5, [.ref q5418, .ref q5419, .ref q5420, .ref q5421, .ref q5422, .ref q5423, .ref q5424, .ref q5425, .ref q5426, .int g7366, .int g7367, .int g7368])), (q5418, .inl (I .int, 40, .inl f7369)), (q5419, .inl (I .int, 40, .inl f7370)), (q5420, .inl (I .int, 40, .inl f7371)), (q5421, .inl (I .int, 200, .inl f7372)), (q5422, .inl (I .int, 200, .inl f7373)), (q5423, .inl (I .int, 200, .inl f7374)), (q5424, .inl (I .int, 200, .inl f7375)), (q5425, .inl (I .int, 200, .inl f7376)), (q5426, .inl (I .int, 200, .inl f7377)), (q5416, .inr (14, [.ref q5427, .int g7378, .int g7379, .int g7380, .int g7381])), (q5427, .inr (15, [.ref q5428, .int p5456])), (q5428, .inl (I .byte, 8192, .inl f5457))]) (cs' := 0) (sl' := 0) rfl rfl rfl ?_
            refine G_sub (ws' := [(q5414, .inr (13, [.ref q5416, .ref q5417, .int 1, .int g7356, .int g7357, .long gl7358, .int g7359, .int g7360, .int g7361, .int g7362, .int g7363, .int g7364])), (q5415, .inr (5, [.ref q5418, .ref q5419, .ref q5420, .ref q5421, .ref q5422, .ref q5423, .ref q5424, .ref q5425, .ref q5426, .int g7366, .int g7367, .int g7368])), (q5416, .inr (14, [.ref q5427, .int g7378, .int g7379, .int g7380, .int g7381])), (q5417, .inl (I .int, 80, .inl f7365)), (q5418, .inl (I .int, 40, .inl f7369)), (q5419, .inl (I .int, 40, .inl f7370)), (q5420, .inl (I .int, 40, .inl f7371)), (q5421, .inl (I .int, 200, .inl f7372)), (q5422, .inl (I .int, 200, .inl f7373)), (q5423, .inl (I .int, 200, .inl f7374)), (q5424, .inl (I .int, 200, .inl f7375)), (q5425, .inl (I .int, 200, .inl f7376)), (q5426, .inl (I .int, 200, .inl f7377)), (q5427, .inr (15, [.ref q5428, .int p5456])), (q5428, .inl (I .byte, 8192, .inl f5457))]) [0, 2, 12, 1, 3, 4, 5, 6, 7, 8, 9, 10, 11, 13, 14] rfl rfl ?_
            exact G_iret d_cX8_readInto_109 rfl (Nat.le_of_ble_eq_true rfl) (Nat.le_of_ble_eq_true rfl) ⟨g7380, 1, g7356, g7357, gl7358, g7359, g7360, g7361, g7362, g7363, g7364, g7366, g7367, g7368, g7378, g7379, g7380, g7381, f7365, f7369, f7370, f7371, f7372, f7373, f7374, f7375, f7376, f7377, rfl, rfl, (gB_w bg7380 (by decide) (by decide)), (gB_w (gBl (show Int32.toInt 1 = 1 by decide)) (by decide) (by decide)), bg7356, bg7357, bg7359, bg7360, bg7361, bg7362, bg7363, bg7364, bg7366, bg7367, bg7368, bg7378, bg7379, bg7380, bg7381, bf7365, bf7369, bf7370, bf7371, bf7372, bf7373, bf7374, bf7375, bf7376, bf7377, (by have qa0 : Int32.toInt 1 = 1 := (by decide); omega)⟩
      · have r7393 : g7354.toInt < 8192 := gj_nleL hc7383 (show Int32.toInt 8192 = 8192 by decide)
        have bg7354' : gB g7354 0 8191 := ⟨by omega, by omega⟩
        refine G_iload_n 1 d_cX8_readInto_47 rfl ?_
        refine G_if_eq 85 d_cX8_readInto_48 (by decide +kernel) (fun hc7394 => ?_) (fun hc7394 => ?_)
        · have r7395 : g7355.toInt = 0 := gj_eq hc7394 (show Int32.toInt 0 = 0 by decide)
          have bg7355' : gB g7355 0 0 := ⟨by omega, by omega⟩
          refine G_iload_n 1 d_cX8_readInto_85 rfl ?_
          refine G_if_eq 97 d_cX8_readInto_86 (by decide +kernel) (fun _ => ?_) (fun hc => absurd (show False by have := gj_neq hc (show Int32.toInt 0 = 0 by decide); omega) not_false)
          refine G_aload_n 2 d_cX8_readInto_97 rfl ?_
          refine G_iconst 1 d_cX8_readInto_98 (by decide +kernel) ?_
          refine G_putf (ws' := [(q5414, .inr (13, [.ref q5416, .ref q5417, .int 1, .int g7356, .int g7357, .long gl7358, .int g7359, .int g7360, .int g7361, .int g7362, .int g7363, .int g7364])), (q5417, .inl (I .int, 80, .inl f7365)), (q5415, .inr (5, [.ref q5418, .ref q5419, .ref q5420, .ref q5421, .ref q5422, .ref q5423, .ref q5424, .ref q5425, .ref q5426, .int g7366, .int g7367, .int g7368])), (q5418, .inl (I .int, 40, .inl f7369)), (q5419, .inl (I .int, 40, .inl f7370)), (q5420, .inl (I .int, 40, .inl f7371)), (q5421, .inl (I .int, 200, .inl f7372)), (q5422, .inl (I .int, 200, .inl f7373)), (q5423, .inl (I .int, 200, .inl f7374)), (q5424, .inl (I .int, 200, .inl f7375)), (q5425, .inl (I .int, 200, .inl f7376)), (q5426, .inl (I .int, 200, .inl f7377)), (q5416, .inr (14, [.ref q5427, .int g7378, .int g7379, .int g7380, .int g7381])), (q5427, .inr (15, [.ref q5428, .int p5456])), (q5428, .inl (I .byte, 8192, .inl f5457))]) 0 2 d_cX8_readInto_99 rfl (gk_X8 D I) (Nat.le_of_ble_eq_true rfl) w_1_98 rfl rfl rfl (Nat.le_of_ble_eq_true rfl) rfl ?_
          refine G_aload_n 2 d_cX8_readInto_102 rfl ?_
          refine G_getf 0 0 d_cX8_readInto_103 rfl (gk_X8 D I) (Nat.le_of_ble_eq_true rfl) w_1_96 rfl ?_
          refine G_callV (As := []) (wr := [(q5414, .inr (13, [.ref q5416, .ref q5417, .int 1, .int g7356, .int g7357, .long gl7358, .int g7359, .int g7360, .int g7361, .int g7362, .int g7363, .int g7364])), (q5417, .inl (I .int, 80, .inl f7365)), (q5415, .inr (5, [.ref q5418, .ref q5419, .ref q5420, .ref q5421, .ref q5422, .ref q5423, .ref q5424, .ref q5425, .ref q5426, .int g7366, .int g7367, .int g7368])), (q5418, .inl (I .int, 40, .inl f7369)), (q5419, .inl (I .int, 40, .inl f7370)), (q5420, .inl (I .int, 40, .inl f7371)), (q5421, .inl (I .int, 200, .inl f7372)), (q5422, .inl (I .int, 200, .inl f7373)), (q5423, .inl (I .int, 200, .inl f7374)), (q5424, .inl (I .int, 200, .inl f7375)), (q5425, .inl (I .int, 200, .inl f7376)), (q5426, .inl (I .int, 200, .inl f7377))]) (gV_ok D I) (ct_302_Signs_place l hl0 D I q5416 q5427 q5428 g7378 g7379 g7380 g7381 p5456 f5457 bp5456 bf5457 (by have qa0 : Int32.toInt 1 = 1 := (by decide); omega)) d_cX8_readInto_106 ⟨w_3_145, w_1_4, w_3_148, by decide, rfl, (Nat.le_of_ble_eq_true rfl), (Nat.le_of_ble_eq_true rfl)⟩ w_3_146 w_3_147 12 rfl rfl [12, 13, 14] [0, 1, 2, 3, 4, 5, 6, 7, 8, 9, 10, 11] rfl rfl rfl rfl (by decide) (Nat.le_of_ble_eq_true rfl) (Nat.le_of_ble_eq_true rfl) (Nat.le_of_ble_eq_true rfl) (fun r w hp => ?_) (fun _ _ _ z => z.elim)
          obtain ⟨rfl, rfl⟩ := hp
          change G _ _ _ _ _ _ _ (.int g7380 :: _) _ _ _
          refine G_ws (ws' := [(q5414, .inr (13, [.ref q5416, .ref q5417, .int 1, .int g7356, .int g7357, .long gl7358, .int g7359, .int g7360, .int g7361, .int g7362, .int g7363, .int g7364])), (q5417, .inl (I .int, 80, .inl f7365)), (q5415, .inr (5, [.ref q5418, .ref q5419, .ref q5420, .ref q5421, .ref q5422, .ref q5423, .ref q5424, .ref q5425, .ref q5426, .int g7366, .int g7367, .int g7368])), (q5418, .inl (I .int, 40, .inl f7369)), (q5419, .inl (I .int, 40, .inl f7370)), (q5420, .inl (I .int, 40, .inl f7371)), (q5421, .inl (I .int, 200, .inl f7372)), (q5422, .inl (I .int, 200, .inl f7373)), (q5423, .inl (I .int, 200, .inl f7374)), (q5424, .inl (I .int, 200, .inl f7375)), (q5425, .inl (I .int, 200, .inl f7376)), (q5426, .inl (I .int, 200, .inl f7377)), (q5416, .inr (14, [.ref q5427, .int g7378, .int g7379, .int g7380, .int g7381])), (q5427, .inr (15, [.ref q5428, .int p5456])), (q5428, .inl (I .byte, 8192, .inl f5457))]) (cs' := 0) (sl' := 0) rfl rfl rfl ?_
          refine G_sub (ws' := [(q5414, .inr (13, [.ref q5416, .ref q5417, .int 1, .int g7356, .int g7357, .long gl7358, .int g7359, .int g7360, .int g7361, .int g7362, .int g7363, .int g7364])), (q5415, .inr (5, [.ref q5418, .ref q5419, .ref q5420, .ref q5421, .ref q5422, .ref q5423, .ref q5424, .ref q5425, .ref q5426, .int g7366, .int g7367, .int g7368])), (q5416, .inr (14, [.ref q5427, .int g7378, .int g7379, .int g7380, .int g7381])), (q5417, .inl (I .int, 80, .inl f7365)), (q5418, .inl (I .int, 40, .inl f7369)), (q5419, .inl (I .int, 40, .inl f7370)), (q5420, .inl (I .int, 40, .inl f7371)), (q5421, .inl (I .int, 200, .inl f7372)), (q5422, .inl (I .int, 200, .inl f7373)), (q5423, .inl (I .int, 200, .inl f7374)), (q5424, .inl (I .int, 200, .inl f7375)), (q5425, .inl (I .int, 200, .inl f7376)), (q5426, .inl (I .int, 200, .inl f7377)), (q5427, .inr (15, [.ref q5428, .int p5456])), (q5428, .inl (I .byte, 8192, .inl f5457))]) [0, 2, 12, 1, 3, 4, 5, 6, 7, 8, 9, 10, 11, 13, 14] rfl rfl ?_
          exact G_iret d_cX8_readInto_109 rfl (Nat.le_of_ble_eq_true rfl) (Nat.le_of_ble_eq_true rfl) ⟨g7380, 1, g7356, g7357, gl7358, g7359, g7360, g7361, g7362, g7363, g7364, g7366, g7367, g7368, g7378, g7379, g7380, g7381, f7365, f7369, f7370, f7371, f7372, f7373, f7374, f7375, f7376, f7377, rfl, rfl, (gB_w bg7380 (by decide) (by decide)), (gB_w (gBl (show Int32.toInt 1 = 1 by decide)) (by decide) (by decide)), bg7356, bg7357, bg7359, bg7360, bg7361, bg7362, bg7363, bg7364, bg7366, bg7367, bg7368, bg7378, bg7379, bg7380, bg7381, bf7365, bf7369, bf7370, bf7371, bf7372, bf7373, bf7374, bf7375, bf7376, bf7377, (by have qa0 : Int32.toInt 1 = 1 := (by decide); omega)⟩
        · have r7396 : g7355.toInt ≠ 0 := gj_neq hc7394 (show Int32.toInt 0 = 0 by decide)
          have bg7355' : gB g7355 1 1 := ⟨by omega, by omega⟩
          refine G_aload_n 2 d_cX8_readInto_51 rfl ?_
          refine G_getf 0 0 d_cX8_readInto_52 rfl (gk_X8 D I) (Nat.le_of_ble_eq_true rfl) w_1_96 rfl ?_
          refine G_callV (As := []) (wr := [(q5414, .inr (13, [.ref q5416, .ref q5417, .int p5429, .int g7356, .int g7357, .long gl7358, .int g7359, .int g7360, .int g7361, .int g7362, .int g7363, .int g7364])), (q5417, .inl (I .int, 80, .inl f7365)), (q5415, .inr (5, [.ref q5418, .ref q5419, .ref q5420, .ref q5421, .ref q5422, .ref q5423, .ref q5424, .ref q5425, .ref q5426, .int g7366, .int g7367, .int g7368])), (q5418, .inl (I .int, 40, .inl f7369)), (q5419, .inl (I .int, 40, .inl f7370)), (q5420, .inl (I .int, 40, .inl f7371)), (q5421, .inl (I .int, 200, .inl f7372)), (q5422, .inl (I .int, 200, .inl f7373)), (q5423, .inl (I .int, 200, .inl f7374)), (q5424, .inl (I .int, 200, .inl f7375)), (q5425, .inl (I .int, 200, .inl f7376)), (q5426, .inl (I .int, 200, .inl f7377))]) (gV_ok D I) (ct_280_Signs_kind l hl0 D I q5416 q5427 q5428 g7378 g7379 g7380 g7381 p5456 f5457 bp5456 bf5457 (by omega)) d_cX8_readInto_55 ⟨w_3_117, w_1_4, w_3_120, by decide, rfl, (Nat.le_of_ble_eq_true rfl), (Nat.le_of_ble_eq_true rfl)⟩ w_3_118 w_3_119 12 rfl rfl [12, 13, 14] [0, 1, 2, 3, 4, 5, 6, 7, 8, 9, 10, 11] rfl rfl rfl rfl (by decide) (Nat.le_of_ble_eq_true rfl) (Nat.le_of_ble_eq_true rfl) (Nat.le_of_ble_eq_true rfl) (fun r w hp => ?_) (fun _ _ _ z => z.elim)
          obtain ⟨rfl, rfl⟩ := hp
          change G _ _ _ _ _ _ _ (.int g7378 :: _) _ _ _
          refine G_ws (ws' := [(q5414, .inr (13, [.ref q5416, .ref q5417, .int p5429, .int g7356, .int g7357, .long gl7358, .int g7359, .int g7360, .int g7361, .int g7362, .int g7363, .int g7364])), (q5417, .inl (I .int, 80, .inl f7365)), (q5415, .inr (5, [.ref q5418, .ref q5419, .ref q5420, .ref q5421, .ref q5422, .ref q5423, .ref q5424, .ref q5425, .ref q5426, .int g7366, .int g7367, .int g7368])), (q5418, .inl (I .int, 40, .inl f7369)), (q5419, .inl (I .int, 40, .inl f7370)), (q5420, .inl (I .int, 40, .inl f7371)), (q5421, .inl (I .int, 200, .inl f7372)), (q5422, .inl (I .int, 200, .inl f7373)), (q5423, .inl (I .int, 200, .inl f7374)), (q5424, .inl (I .int, 200, .inl f7375)), (q5425, .inl (I .int, 200, .inl f7376)), (q5426, .inl (I .int, 200, .inl f7377)), (q5416, .inr (14, [.ref q5427, .int g7378, .int g7379, .int g7380, .int g7381])), (q5427, .inr (15, [.ref q5428, .int p5456])), (q5428, .inl (I .byte, 8192, .inl f5457))]) (cs' := 0) (sl' := 0) rfl rfl rfl ?_
          refine G_iconst 1 d_cX8_readInto_58 (by decide +kernel) ?_
          refine G_icmp_eq 85 d_cX8_readInto_59 (by decide +kernel) (fun hc7397 => ?_) (fun hc7397 => ?_)
          · have r7398 : g7378.toInt = 1 := gj_eq hc7397 (show Int32.toInt 1 = 1 by decide)
            have bg7378' : gB g7378 1 1 := ⟨by omega, by omega⟩
            refine G_iload_n 1 d_cX8_readInto_85 rfl ?_
            refine G_if_eq 97 d_cX8_readInto_86 (by decide +kernel) (fun hc => absurd (show False by have := gj_eq hc (show Int32.toInt 0 = 0 by decide); omega) not_false) (fun _ => ?_)
            refine G_aload_n 2 d_cX8_readInto_89 rfl ?_
            refine G_getf 0 7 d_cX8_readInto_90 rfl (gk_X8 D I) (Nat.le_of_ble_eq_true rfl) w_1_103 rfl ?_
            refine G_iconst 1 d_cX8_readInto_93 (by decide +kernel) ?_
            refine G_icmp_eq 110 d_cX8_readInto_94 (by decide +kernel) (fun hc7399 => ?_) (fun hc7399 => ?_)
            · have r7400 : g7360.toInt = 1 := gj_eq hc7399 (show Int32.toInt 1 = 1 by decide)
              have bg7360' : gB g7360 1 1 := ⟨by omega, by omega⟩
              refine G_aload_n 2 d_cX8_readInto_110 rfl ?_
              refine G_aload_n 3 d_cX8_readInto_111 rfl ?_
              refine G_callV (As := [.ref q5415]) (wr := []) (gV_ok D I) (ct_6709_Reader_checkGoals l hl0 D I q5414 q5415 q5416 q5417 q5418 q5419 q5420 q5421 q5422 q5423 q5424 q5425 q5426 q5427 q5428 p5429 g7356 g7357 gl7358 g7359 g7360 g7361 g7362 g7363 g7364 g7366 g7367 g7368 g7378 g7379 g7380 g7381 f7365 f7369 f7370 f7371 f7372 f7373 f7374 f7375 f7376 f7377 p5456 f5457 bg7361 bg7366 bg7367 bg7368 bf7369 bf7372 bp5456 bf5457 (by omega)) d_cX8_readInto_112 ⟨w_3_214, w_1_3, w_3_217, by decide, rfl, (Nat.le_of_ble_eq_true rfl), (Nat.le_of_ble_eq_true rfl)⟩ w_3_216 w_p_25 0 rfl rfl [0, 2, 12, 1, 3, 4, 5, 6, 7, 8, 9, 10, 11, 13, 14] [] rfl rfl rfl rfl (by decide) (Nat.le_of_ble_eq_true rfl) (Nat.le_of_ble_eq_true rfl) (Nat.le_of_ble_eq_true rfl) (fun r w hp => ?_) (fun _ _ _ z => z.elim)
              obtain ⟨o7401, o7402, rfl, rfl, bo7401, bo7402⟩ := hp
              change G _ _ _ _ _ _ _ _ _ _ _
              refine G_ws (ws' := [(q5414, .inr (13, [.ref q5416, .ref q5417, .int p5429, .int o7401, .int o7402, .long gl7358, .int g7359, .int g7360, .int g7361, .int g7362, .int g7363, .int g7364])), (q5415, .inr (5, [.ref q5418, .ref q5419, .ref q5420, .ref q5421, .ref q5422, .ref q5423, .ref q5424, .ref q5425, .ref q5426, .int g7366, .int g7367, .int g7368])), (q5416, .inr (14, [.ref q5427, .int g7378, .int g7379, .int g7380, .int g7381])), (q5417, .inl (I .int, 80, .inl f7365)), (q5418, .inl (I .int, 40, .inl f7369)), (q5419, .inl (I .int, 40, .inl f7370)), (q5420, .inl (I .int, 40, .inl f7371)), (q5421, .inl (I .int, 200, .inl f7372)), (q5422, .inl (I .int, 200, .inl f7373)), (q5423, .inl (I .int, 200, .inl f7374)), (q5424, .inl (I .int, 200, .inl f7375)), (q5425, .inl (I .int, 200, .inl f7376)), (q5426, .inl (I .int, 200, .inl f7377)), (q5427, .inr (15, [.ref q5428, .int p5456])), (q5428, .inl (I .byte, 8192, .inl f5457))]) (cs' := 0) (sl' := 0) rfl rfl rfl ?_
              refine G_aload_n 2 d_cX8_readInto_115 rfl ?_
              refine G_aload_n 2 d_cX8_readInto_116 rfl ?_
              refine G_getf 0 4 d_cX8_readInto_117 rfl (gk_X8 D I) (Nat.le_of_ble_eq_true rfl) w_1_100 rfl ?_
              refine G_putf (ws' := [(q5414, .inr (13, [.ref q5416, .ref q5417, .int o7402, .int o7401, .int o7402, .long gl7358, .int g7359, .int g7360, .int g7361, .int g7362, .int g7363, .int g7364])), (q5415, .inr (5, [.ref q5418, .ref q5419, .ref q5420, .ref q5421, .ref q5422, .ref q5423, .ref q5424, .ref q5425, .ref q5426, .int g7366, .int g7367, .int g7368])), (q5416, .inr (14, [.ref q5427, .int g7378, .int g7379, .int g7380, .int g7381])), (q5417, .inl (I .int, 80, .inl f7365)), (q5418, .inl (I .int, 40, .inl f7369)), (q5419, .inl (I .int, 40, .inl f7370)), (q5420, .inl (I .int, 40, .inl f7371)), (q5421, .inl (I .int, 200, .inl f7372)), (q5422, .inl (I .int, 200, .inl f7373)), (q5423, .inl (I .int, 200, .inl f7374)), (q5424, .inl (I .int, 200, .inl f7375)), (q5425, .inl (I .int, 200, .inl f7376)), (q5426, .inl (I .int, 200, .inl f7377)), (q5427, .inr (15, [.ref q5428, .int p5456])), (q5428, .inl (I .byte, 8192, .inl f5457))]) 0 2 d_cX8_readInto_120 rfl (gk_X8 D I) (Nat.le_of_ble_eq_true rfl) w_1_98 rfl rfl rfl (Nat.le_of_ble_eq_true rfl) rfl ?_
              refine G_aload_n 2 d_cX8_readInto_123 rfl ?_
              refine G_getf 0 3 d_cX8_readInto_124 rfl (gk_X8 D I) (Nat.le_of_ble_eq_true rfl) w_1_99 rfl ?_
              exact G_iret d_cX8_readInto_127 rfl (Nat.le_of_ble_eq_true rfl) (Nat.le_of_ble_eq_true rfl) ⟨o7401, o7402, o7401, o7402, gl7358, g7359, g7360, g7361, g7362, g7363, g7364, g7366, g7367, g7368, g7378, g7379, g7380, g7381, f7365, f7369, f7370, f7371, f7372, f7373, f7374, f7375, f7376, f7377, rfl, rfl, bo7401, bo7402, bo7401, bo7402, bg7359, (gB_w bg7360' (by decide) (by decide)), bg7361, bg7362, bg7363, bg7364, bg7366, bg7367, bg7368, (gB_w bg7378' (by decide) (by decide)), bg7379, bg7380, bg7381, bf7365, bf7369, bf7370, bf7371, bf7372, bf7373, bf7374, bf7375, bf7376, bf7377, (by omega)⟩
            · have r7403 : g7360.toInt ≠ 1 := gj_neq hc7399 (show Int32.toInt 1 = 1 by decide)
              refine G_aload_n 2 d_cX8_readInto_97 rfl ?_
              refine G_iconst 1 d_cX8_readInto_98 (by decide +kernel) ?_
              refine G_putf (ws' := [(q5414, .inr (13, [.ref q5416, .ref q5417, .int 1, .int g7356, .int g7357, .long gl7358, .int g7359, .int g7360, .int g7361, .int g7362, .int g7363, .int g7364])), (q5417, .inl (I .int, 80, .inl f7365)), (q5415, .inr (5, [.ref q5418, .ref q5419, .ref q5420, .ref q5421, .ref q5422, .ref q5423, .ref q5424, .ref q5425, .ref q5426, .int g7366, .int g7367, .int g7368])), (q5418, .inl (I .int, 40, .inl f7369)), (q5419, .inl (I .int, 40, .inl f7370)), (q5420, .inl (I .int, 40, .inl f7371)), (q5421, .inl (I .int, 200, .inl f7372)), (q5422, .inl (I .int, 200, .inl f7373)), (q5423, .inl (I .int, 200, .inl f7374)), (q5424, .inl (I .int, 200, .inl f7375)), (q5425, .inl (I .int, 200, .inl f7376)), (q5426, .inl (I .int, 200, .inl f7377)), (q5416, .inr (14, [.ref q5427, .int g7378, .int g7379, .int g7380, .int g7381])), (q5427, .inr (15, [.ref q5428, .int p5456])), (q5428, .inl (I .byte, 8192, .inl f5457))]) 0 2 d_cX8_readInto_99 rfl (gk_X8 D I) (Nat.le_of_ble_eq_true rfl) w_1_98 rfl rfl rfl (Nat.le_of_ble_eq_true rfl) rfl ?_
              refine G_aload_n 2 d_cX8_readInto_102 rfl ?_
              refine G_getf 0 0 d_cX8_readInto_103 rfl (gk_X8 D I) (Nat.le_of_ble_eq_true rfl) w_1_96 rfl ?_
              refine G_callV (As := []) (wr := [(q5414, .inr (13, [.ref q5416, .ref q5417, .int 1, .int g7356, .int g7357, .long gl7358, .int g7359, .int g7360, .int g7361, .int g7362, .int g7363, .int g7364])), (q5417, .inl (I .int, 80, .inl f7365)), (q5415, .inr (5, [.ref q5418, .ref q5419, .ref q5420, .ref q5421, .ref q5422, .ref q5423, .ref q5424, .ref q5425, .ref q5426, .int g7366, .int g7367, .int g7368])), (q5418, .inl (I .int, 40, .inl f7369)), (q5419, .inl (I .int, 40, .inl f7370)), (q5420, .inl (I .int, 40, .inl f7371)), (q5421, .inl (I .int, 200, .inl f7372)), (q5422, .inl (I .int, 200, .inl f7373)), (q5423, .inl (I .int, 200, .inl f7374)), (q5424, .inl (I .int, 200, .inl f7375)), (q5425, .inl (I .int, 200, .inl f7376)), (q5426, .inl (I .int, 200, .inl f7377))]) (gV_ok D I) (ct_302_Signs_place l hl0 D I q5416 q5427 q5428 g7378 g7379 g7380 g7381 p5456 f5457 bp5456 bf5457 (by have qa0 : Int32.toInt 1 = 1 := (by decide); omega)) d_cX8_readInto_106 ⟨w_3_145, w_1_4, w_3_148, by decide, rfl, (Nat.le_of_ble_eq_true rfl), (Nat.le_of_ble_eq_true rfl)⟩ w_3_146 w_3_147 12 rfl rfl [12, 13, 14] [0, 1, 2, 3, 4, 5, 6, 7, 8, 9, 10, 11] rfl rfl rfl rfl (by decide) (Nat.le_of_ble_eq_true rfl) (Nat.le_of_ble_eq_true rfl) (Nat.le_of_ble_eq_true rfl) (fun r w hp => ?_) (fun _ _ _ z => z.elim)
              obtain ⟨rfl, rfl⟩ := hp
              change G _ _ _ _ _ _ _ (.int g7380 :: _) _ _ _
              refine G_ws (ws' := [(q5414, .inr (13, [.ref q5416, .ref q5417, .int 1, .int g7356, .int g7357, .long gl7358, .int g7359, .int g7360, .int g7361, .int g7362, .int g7363, .int g7364])), (q5417, .inl (I .int, 80, .inl f7365)), (q5415, .inr (5, [.ref q5418, .ref q5419, .ref q5420, .ref q5421, .ref q5422, .ref q5423, .ref q5424, .ref q5425, .ref q5426, .int g7366, .int g7367, .int g7368])), (q5418, .inl (I .int, 40, .inl f7369)), (q5419, .inl (I .int, 40, .inl f7370)), (q5420, .inl (I .int, 40, .inl f7371)), (q5421, .inl (I .int, 200, .inl f7372)), (q5422, .inl (I .int, 200, .inl f7373)), (q5423, .inl (I .int, 200, .inl f7374)), (q5424, .inl (I .int, 200, .inl f7375)), (q5425, .inl (I .int, 200, .inl f7376)), (q5426, .inl (I .int, 200, .inl f7377)), (q5416, .inr (14, [.ref q5427, .int g7378, .int g7379, .int g7380, .int g7381])), (q5427, .inr (15, [.ref q5428, .int p5456])), (q5428, .inl (I .byte, 8192, .inl f5457))]) (cs' := 0) (sl' := 0) rfl rfl rfl ?_
              refine G_sub (ws' := [(q5414, .inr (13, [.ref q5416, .ref q5417, .int 1, .int g7356, .int g7357, .long gl7358, .int g7359, .int g7360, .int g7361, .int g7362, .int g7363, .int g7364])), (q5415, .inr (5, [.ref q5418, .ref q5419, .ref q5420, .ref q5421, .ref q5422, .ref q5423, .ref q5424, .ref q5425, .ref q5426, .int g7366, .int g7367, .int g7368])), (q5416, .inr (14, [.ref q5427, .int g7378, .int g7379, .int g7380, .int g7381])), (q5417, .inl (I .int, 80, .inl f7365)), (q5418, .inl (I .int, 40, .inl f7369)), (q5419, .inl (I .int, 40, .inl f7370)), (q5420, .inl (I .int, 40, .inl f7371)), (q5421, .inl (I .int, 200, .inl f7372)), (q5422, .inl (I .int, 200, .inl f7373)), (q5423, .inl (I .int, 200, .inl f7374)), (q5424, .inl (I .int, 200, .inl f7375)), (q5425, .inl (I .int, 200, .inl f7376)), (q5426, .inl (I .int, 200, .inl f7377)), (q5427, .inr (15, [.ref q5428, .int p5456])), (q5428, .inl (I .byte, 8192, .inl f5457))]) [0, 2, 12, 1, 3, 4, 5, 6, 7, 8, 9, 10, 11, 13, 14] rfl rfl ?_
              exact G_iret d_cX8_readInto_109 rfl (Nat.le_of_ble_eq_true rfl) (Nat.le_of_ble_eq_true rfl) ⟨g7380, 1, g7356, g7357, gl7358, g7359, g7360, g7361, g7362, g7363, g7364, g7366, g7367, g7368, g7378, g7379, g7380, g7381, f7365, f7369, f7370, f7371, f7372, f7373, f7374, f7375, f7376, f7377, rfl, rfl, (gB_w bg7380 (by decide) (by decide)), (gB_w (gBl (show Int32.toInt 1 = 1 by decide)) (by decide) (by decide)), bg7356, bg7357, bg7359, bg7360, bg7361, bg7362, bg7363, bg7364, bg7366, bg7367, bg7368, (gB_w bg7378' (by decide) (by decide)), bg7379, bg7380, bg7381, bf7365, bf7369, bf7370, bf7371, bf7372, bf7373, bf7374, bf7375, bf7376, bf7377, (by have qa0 : Int32.toInt 1 = 1 := (by decide); omega)⟩
          · have r7404 : g7378.toInt ≠ 1 := gj_neq hc7397 (show Int32.toInt 1 = 1 by decide)
            refine G_aload_n 2 d_cX8_readInto_62 rfl ?_
            refine G_aload_n 3 d_cX8_readInto_63 rfl ?_
            refine G_callV (As := [.ref q5415]) (wr := []) (gV_ok D I) (ct_5516_Reader_accept l hl0 D I q5414 q5415 q5416 q5417 q5418 q5419 q5420 q5421 q5422 q5423 q5424 q5425 q5426 q5427 q5428 p5429 g7356 g7357 gl7358 g7359 g7360 g7361 g7362 g7363 g7364 g7366 g7367 g7368 g7378 g7379 g7380 g7381 f7365 f7369 f7370 f7371 f7372 f7373 f7374 f7375 f7376 f7377 p5456 f5457 bg7361 bg7366 bg7367 bg7368 bf7369 bf7372 bp5456 bf5457 (by omega)) d_cX8_readInto_64 ⟨w_3_121, w_1_3, w_3_124, by decide, rfl, (Nat.le_of_ble_eq_true rfl), (Nat.le_of_ble_eq_true rfl)⟩ w_3_123 w_p_7 0 rfl rfl [0, 2, 12, 1, 3, 4, 5, 6, 7, 8, 9, 10, 11, 13, 14] [] rfl rfl rfl rfl (by decide) (Nat.le_of_ble_eq_true rfl) (Nat.le_of_ble_eq_true rfl) (Nat.le_of_ble_eq_true rfl) (fun r w hp => ?_) (fun _ _ _ z => z.elim)
            obtain ⟨o7405, o7406, o7407, ol7408, o7409, o7410, f7411, f7412, f7413, o7414, o7415, o7416, o7417, o7418, o7419, f7420, f7421, f7422, f7423, f7424, f7425, o7426, f7427, rfl, rfl, bo7405, bo7406, bo7407, bo7409, bo7410, bf7411, bf7412, bf7413, bo7414, bo7415, bo7416, bo7417, bo7418, bo7419, bf7420, bf7421, bf7422, bf7423, bf7424, bf7425, bo7426, bf7427⟩ := hp
            change G _ _ _ _ _ _ _ (.int o7405 :: _) _ _ _
            refine G_ws (ws' := [(q5414, .inr (13, [.ref q5416, .ref q5417, .int p5429, .int o7406, .int o7407, .long ol7408, .int o7414, .int o7409, .int o7426, .int o7415, .int o7416, .int o7417])), (q5415, .inr (5, [.ref q5418, .ref q5419, .ref q5420, .ref q5421, .ref q5422, .ref q5423, .ref q5424, .ref q5425, .ref q5426, .int o7410, .int o7418, .int o7419])), (q5416, .inr (14, [.ref q5427, .int g7378, .int g7379, .int g7380, .int g7381])), (q5417, .inl (I .int, 80, .inl f7427)), (q5418, .inl (I .int, 40, .inl f7411)), (q5419, .inl (I .int, 40, .inl f7412)), (q5420, .inl (I .int, 40, .inl f7413)), (q5421, .inl (I .int, 200, .inl f7420)), (q5422, .inl (I .int, 200, .inl f7421)), (q5423, .inl (I .int, 200, .inl f7422)), (q5424, .inl (I .int, 200, .inl f7423)), (q5425, .inl (I .int, 200, .inl f7424)), (q5426, .inl (I .int, 200, .inl f7425)), (q5427, .inr (15, [.ref q5428, .int p5456])), (q5428, .inl (I .byte, 8192, .inl f5457))]) (cs' := 0) (sl' := 0) rfl rfl rfl ?_
            refine G_istore_n (L' := [(2, .int o7405), (3, .int g7354), (0, .ref q5414), (1, .ref q5415)]) d_cX8_readInto_67 (Nat.le_of_ble_eq_true rfl) rfl ?_
            refine G_iload_n 0 d_cX8_readInto_68 rfl ?_
            refine G_if_eq 79 d_cX8_readInto_69 (by decide +kernel) (fun hc7428 => ?_) (fun hc7428 => ?_)
            · have r7429 : o7405.toInt = 0 := gj_eq hc7428 (show Int32.toInt 0 = 0 by decide)
              have bo7405' : gB o7405 0 0 := ⟨by omega, by omega⟩
              obtain ⟨z7430, hz7430⟩ : ∃ z : Int32, z = g7354 + Int32.ofInt 1 := ⟨_, rfl⟩
              have ez7430 : z7430.toInt = g7354.toInt + 1 := gI_inc hz7430 (by decide) bg7354' (by decide) (by decide)
              have bz7430 : gB z7430 1 8192 := ⟨by omega, by omega⟩
              refine G_iinc (L' := [(3, .int z7430), (2, .int o7405), (0, .ref q5414), (1, .ref q5415)]) z7430 1 d_cX8_readInto_79 rfl hz7430.symm (Nat.le_of_ble_eq_true rfl) rfl ?_
              refine G_goto 40 d_cX8_readInto_82 (by decide +kernel) ?_
              refine G_sub (ws' := [(q5414, .inr (13, [.ref q5416, .ref q5417, .int p5429, .int o7406, .int o7407, .long ol7408, .int o7414, .int o7409, .int o7426, .int o7415, .int o7416, .int o7417])), (q5417, .inl (I .int, 80, .inl f7427)), (q5415, .inr (5, [.ref q5418, .ref q5419, .ref q5420, .ref q5421, .ref q5422, .ref q5423, .ref q5424, .ref q5425, .ref q5426, .int o7410, .int o7418, .int o7419])), (q5418, .inl (I .int, 40, .inl f7411)), (q5419, .inl (I .int, 40, .inl f7412)), (q5420, .inl (I .int, 40, .inl f7413)), (q5421, .inl (I .int, 200, .inl f7420)), (q5422, .inl (I .int, 200, .inl f7421)), (q5423, .inl (I .int, 200, .inl f7422)), (q5424, .inl (I .int, 200, .inl f7423)), (q5425, .inl (I .int, 200, .inl f7424)), (q5426, .inl (I .int, 200, .inl f7425)), (q5416, .inr (14, [.ref q5427, .int g7378, .int g7379, .int g7380, .int g7381])), (q5427, .inr (15, [.ref q5428, .int p5456])), (q5428, .inl (I .byte, 8192, .inl f5457))]) [0, 3, 1, 4, 5, 6, 7, 8, 9, 10, 11, 12, 2, 13, 14] rfl rfl ?_
              exact ih40_7382 z7430 o7405 o7406 o7407 ol7408 o7414 o7409 o7426 o7415 o7416 o7417 f7427 o7410 o7418 o7419 f7411 f7412 f7413 f7420 f7421 f7422 f7423 f7424 f7425 g7378 g7379 g7380 g7381 (gB_w bz7430 (by decide) (by decide)) (gB_w bo7405' (by decide) (by decide)) bo7406 bo7407 bo7414 bo7409 bo7426 bo7415 bo7416 bo7417 bf7427 bo7410 bo7418 bo7419 bf7411 bf7412 bf7413 bf7420 bf7421 bf7422 bf7423 bf7424 bf7425 bg7378 bg7379 bg7380 bg7381 (by omega) (by omega)
            · have r7431 : o7405.toInt ≠ 0 := gj_neq hc7428 (show Int32.toInt 0 = 0 by decide)
              have bo7405' : gB o7405 1 1 := ⟨by omega, by omega⟩
              refine G_aload_n 2 d_cX8_readInto_72 rfl ?_
              refine G_getf 0 0 d_cX8_readInto_73 rfl (gk_X8 D I) (Nat.le_of_ble_eq_true rfl) w_1_96 rfl ?_
              refine G_callV (As := []) (wr := [(q5414, .inr (13, [.ref q5416, .ref q5417, .int p5429, .int o7406, .int o7407, .long ol7408, .int o7414, .int o7409, .int o7426, .int o7415, .int o7416, .int o7417])), (q5415, .inr (5, [.ref q5418, .ref q5419, .ref q5420, .ref q5421, .ref q5422, .ref q5423, .ref q5424, .ref q5425, .ref q5426, .int o7410, .int o7418, .int o7419])), (q5417, .inl (I .int, 80, .inl f7427)), (q5418, .inl (I .int, 40, .inl f7411)), (q5419, .inl (I .int, 40, .inl f7412)), (q5420, .inl (I .int, 40, .inl f7413)), (q5421, .inl (I .int, 200, .inl f7420)), (q5422, .inl (I .int, 200, .inl f7421)), (q5423, .inl (I .int, 200, .inl f7422)), (q5424, .inl (I .int, 200, .inl f7423)), (q5425, .inl (I .int, 200, .inl f7424)), (q5426, .inl (I .int, 200, .inl f7425))]) (gV_ok D I) (ct_4668_Signs_advance l hl0 D I q5416 q5427 q5428 g7378 g7379 g7380 g7381 p5456 f5457 bp5456 bf5457 (by omega)) d_cX8_readInto_76 ⟨w_3_213, w_1_4, w_3_11, by decide, rfl, (Nat.le_of_ble_eq_true rfl), (Nat.le_of_ble_eq_true rfl)⟩ w_3_9 w_3_10 2 rfl rfl [2, 13, 14] [0, 1, 3, 4, 5, 6, 7, 8, 9, 10, 11, 12] rfl rfl rfl rfl (by decide) (Nat.le_of_ble_eq_true rfl) (Nat.le_of_ble_eq_true rfl) (Nat.le_of_ble_eq_true rfl) (fun r w hp => ?_) (fun _ _ _ z => z.elim)
              obtain ⟨o7432, o7433, o7434, o7435, rfl, rfl, bo7432, bo7433, bo7434, bo7435, x7436⟩ := hp
              change G _ _ _ _ _ _ _ _ _ _ _
              refine G_ws (ws' := [(q5414, .inr (13, [.ref q5416, .ref q5417, .int p5429, .int o7406, .int o7407, .long ol7408, .int o7414, .int o7409, .int o7426, .int o7415, .int o7416, .int o7417])), (q5415, .inr (5, [.ref q5418, .ref q5419, .ref q5420, .ref q5421, .ref q5422, .ref q5423, .ref q5424, .ref q5425, .ref q5426, .int o7410, .int o7418, .int o7419])), (q5417, .inl (I .int, 80, .inl f7427)), (q5418, .inl (I .int, 40, .inl f7411)), (q5419, .inl (I .int, 40, .inl f7412)), (q5420, .inl (I .int, 40, .inl f7413)), (q5421, .inl (I .int, 200, .inl f7420)), (q5422, .inl (I .int, 200, .inl f7421)), (q5423, .inl (I .int, 200, .inl f7422)), (q5424, .inl (I .int, 200, .inl f7423)), (q5425, .inl (I .int, 200, .inl f7424)), (q5426, .inl (I .int, 200, .inl f7425)), (q5416, .inr (14, [.ref q5427, .int o7432, .int o7433, .int o7434, .int o7435])), (q5427, .inr (15, [.ref q5428, .int p5456])), (q5428, .inl (I .byte, 8192, .inl f5457))]) (cs' := 0) (sl' := 0) rfl rfl rfl ?_
              obtain ⟨z7437, hz7437⟩ : ∃ z : Int32, z = g7354 + Int32.ofInt 1 := ⟨_, rfl⟩
              have ez7437 : z7437.toInt = g7354.toInt + 1 := gI_inc hz7437 (by decide) bg7354' (by decide) (by decide)
              have bz7437 : gB z7437 1 8192 := ⟨by omega, by omega⟩
              refine G_iinc (L' := [(3, .int z7437), (2, .int o7405), (0, .ref q5414), (1, .ref q5415)]) z7437 1 d_cX8_readInto_79 rfl hz7437.symm (Nat.le_of_ble_eq_true rfl) rfl ?_
              refine G_goto 40 d_cX8_readInto_82 (by decide +kernel) ?_
              refine G_sub (ws' := [(q5414, .inr (13, [.ref q5416, .ref q5417, .int p5429, .int o7406, .int o7407, .long ol7408, .int o7414, .int o7409, .int o7426, .int o7415, .int o7416, .int o7417])), (q5417, .inl (I .int, 80, .inl f7427)), (q5415, .inr (5, [.ref q5418, .ref q5419, .ref q5420, .ref q5421, .ref q5422, .ref q5423, .ref q5424, .ref q5425, .ref q5426, .int o7410, .int o7418, .int o7419])), (q5418, .inl (I .int, 40, .inl f7411)), (q5419, .inl (I .int, 40, .inl f7412)), (q5420, .inl (I .int, 40, .inl f7413)), (q5421, .inl (I .int, 200, .inl f7420)), (q5422, .inl (I .int, 200, .inl f7421)), (q5423, .inl (I .int, 200, .inl f7422)), (q5424, .inl (I .int, 200, .inl f7423)), (q5425, .inl (I .int, 200, .inl f7424)), (q5426, .inl (I .int, 200, .inl f7425)), (q5416, .inr (14, [.ref q5427, .int o7432, .int o7433, .int o7434, .int o7435])), (q5427, .inr (15, [.ref q5428, .int p5456])), (q5428, .inl (I .byte, 8192, .inl f5457))]) [0, 2, 1, 3, 4, 5, 6, 7, 8, 9, 10, 11, 12, 13, 14] rfl rfl ?_
              exact ih40_7382 z7437 o7405 o7406 o7407 ol7408 o7414 o7409 o7426 o7415 o7416 o7417 f7427 o7410 o7418 o7419 f7411 f7412 f7413 f7420 f7421 f7422 f7423 f7424 f7425 o7432 o7433 o7434 o7435 (gB_w bz7437 (by decide) (by decide)) (gB_w bo7405' (by decide) (by decide)) bo7406 bo7407 bo7414 bo7409 bo7426 bo7415 bo7416 bo7417 bf7427 bo7410 bo7418 bo7419 bf7411 bf7412 bf7413 bf7420 bf7421 bf7422 bf7423 bf7424 bf7425 bo7432 bo7433 bo7434 bo7435 (by omega) (by omega)
  exact hlp40_7382 (((8193 : Int) - 0).toNat + 1) 0 1 (-1) 0 0 0 0 p5435 p5436 p5437 p5438 f5446 o5460 o5461 o5462 f5447 f5448 f5449 f5450 f5451 f5452 f5453 f5454 f5455 o5463 o5464 o5465 o5466 (gB_w (gBl (show Int32.toInt 0 = 0 by decide)) (by decide) (by decide)) (gB_w (gBl (show Int32.toInt 1 = 1 by decide)) (by decide) (by decide)) (gB_w (gBl (show Int32.toInt (-1) = (-1) by decide)) (by decide) (by decide)) (gB_w (gBl (show Int32.toInt 0 = 0 by decide)) (by decide) (by decide)) (gB_w (gBl (show Int32.toInt 0 = 0 by decide)) (by decide) (by decide)) (gB_w (gBl (show Int32.toInt 0 = 0 by decide)) (by decide) (by decide)) bp5435 bp5436 bp5437 bp5438 (gF_any f5446) (gB_w bo5460 (by decide) (by decide)) (gB_w bo5461 (by decide) (by decide)) (gB_w bo5462 (by decide) (by decide)) bf5447 (gF_any f5448) (gF_any f5449) bf5450 (gF_any f5451) (gF_any f5452) (gF_any f5453) (gF_any f5454) (gF_any f5455) bo5463 bo5464 bo5465 bo5466 (by have qa0 : Int32.toInt (-1) = (-1) := (by decide); have qa1 : Int32.toInt 0 = 0 := (by decide); have qa2 : Int32.toInt 1 = 1 := (by decide); omega) (Nat.lt_succ_self _)
abbrev ky_7471_Listing_eightFrom : gKey := (cX4_eightFrom, 5, yX4_eightFrom.cls, (some FieldType.long), [], yX4_eightFrom.name, fun _ _ => True)
abbrev po_7471_Listing_eightFrom (I : FieldType → ClassId) (q7466 : Nat) (q7467 : Nat) (p7468 : Int32) (p7469 : Int32) (f7470 : Nat → Int32) : Option Value → va_W → Prop := fun r w => ∃ (ol7542 : Int64), r = some (.long ol7542) ∧ w = [(q7466, .inr (9, [.ref q7467, .int p7469])), (q7467, .inl (I .byte, 16384, .inl f7470))]
set_option maxRecDepth 100000 in
set_option maxHeartbeats 4000000 in
theorem ct_7471_Listing_eightFrom (l : Launch) (hl0 : l.stackTraces = false) (D : va_G) (I : FieldType → ClassId) (q7466 : Nat) (q7467 : Nat) (p7468 : Int32) (p7469 : Int32) (f7470 : Nat → Int32) (bp7469 : gB p7469 0 16384) (bf7470 : gF f7470 (-128) 127) : Ct (gV D I) l yX4_eightFrom cX4_eightFrom 5 (some FieldType.long) 0 0 0 0 [.ref q7466, .int p7468] [(q7466, .inr (9, [.ref q7467, .int p7469])), (q7467, .inl (I .byte, 16384, .inl f7470))] (po_7471_Listing_eightFrom I q7466 q7467 p7468 p7469 f7470) gN := by
  refine Ct_of hl0 (by decide) (Nat.le_of_ble_eq_true rfl) ?_
  have bp7468 := gB_any p7468
  refine G_lconst 0 d_cX4_eightFrom_0 rfl ?_
  refine G_lstore_n (L' := [(2, .long 0), (0, .ref q7466), (1, .int p7468)]) d_cX4_eightFrom_1 (Nat.le_of_ble_eq_true rfl) rfl ?_
  refine G_iload_n 2 d_cX4_eightFrom_2 rfl ?_
  refine G_istore (L' := [(4, .int p7468), (2, .long 0), (0, .ref q7466), (1, .int p7468)]) d_cX4_eightFrom_3 (Nat.le_of_ble_eq_true rfl) rfl ?_
  have hlp5_7519 : ∀ (n5_7519 : Nat) (g7518 : Int32) (gl7519 : Int64), gB g7518 (-2147483648) 2147483647 → ((2147483648 : Int) - g7518.toInt).toNat < n5_7519 → G (gV D I) l (gRm 0 0 0 0) (gM (gV D I) (po_7471_Listing_eightFrom I q7466 q7467 p7468 p7469 f7470) gN 0 0) ky_7471_Listing_eightFrom 5 [(4, .int g7518), (2, .long gl7519), (0, .ref q7466), (1, .int p7468)] [] [(q7466, .inr (9, [.ref q7467, .int p7469])), (q7467, .inl (I .byte, 16384, .inl f7470))] 0 0 := by
    intro n5_7519
    induction n5_7519 with
    | zero => intro g7518 gl7519 bg7518 hm5_7519; exact absurd hm5_7519 (Nat.not_lt_zero _)
    | succ n5_7519 ih5_7519 =>
      intro g7518 gl7519 bg7518 hm5_7519
      refine G_iload 0 d_cX4_eightFrom_5 rfl ?_
      refine G_iload_n 3 d_cX4_eightFrom_7 rfl ?_
      refine G_bipush 8 d_cX4_eightFrom_8 (by decide +kernel) ?_
      refine G_iadd d_cX4_eightFrom_10 (G_nam fun z7520 hz7520 => ?_)
      have bz7520 : gB z7520 (-2147483648) 2147483647 := gB_any z7520
      refine G_icmp_ge 56 d_cX4_eightFrom_11 (by decide +kernel) (fun hc7521 => ?_) (fun hc7521 => ?_)
      · have r7522 : z7520.toInt ≤ g7518.toInt := gC_le hc7521
        refine G_lload_n 1 d_cX4_eightFrom_56 rfl ?_
        exact G_lret d_cX4_eightFrom_57 rfl (Nat.le_of_ble_eq_true rfl) (Nat.le_of_ble_eq_true rfl) ⟨gl7519, rfl, rfl⟩
      · have r7523 : g7518.toInt < z7520.toInt := gC_nle hc7521
        have bg7518' : gB g7518 (-2147483648) 2147483646 := ⟨by omega, by omega⟩
        have bz7520' : gB z7520 (-2147483647) 2147483647 := ⟨by omega, by omega⟩
        refine G_lload_n 1 d_cX4_eightFrom_14 rfl ?_
        refine G_bipush 8 d_cX4_eightFrom_15 (by decide +kernel) ?_
        refine G_lshl d_cX4_eightFrom_17 (G_namL fun u7524 hu7524 => ?_)
        refine G_iload 0 d_cX4_eightFrom_18 rfl ?_
        refine G_if_lt 46 d_cX4_eightFrom_20 (by decide +kernel) (fun hc7525 => ?_) (fun hc7525 => ?_)
        · have r7526 : g7518.toInt < 0 := gj_lt hc7525 (show Int32.toInt 0 = 0 by decide)
          have bg7518'' : gB g7518 (-2147483648) (-1) := ⟨by omega, by omega⟩
          refine G_iconst 0 d_cX4_eightFrom_46 (by decide +kernel) ?_
          refine G_i2l d_cX4_eightFrom_47 (G_namL fun u7527 hu7527 => ?_)
          refine G_lor d_cX4_eightFrom_48 (G_namL fun u7528 hu7528 => ?_)
          refine G_lstore_n (L' := [(2, .long u7528), (4, .int g7518), (0, .ref q7466), (1, .int p7468)]) d_cX4_eightFrom_49 (Nat.le_of_ble_eq_true rfl) rfl ?_
          obtain ⟨z7529, hz7529⟩ : ∃ z : Int32, z = g7518 + Int32.ofInt 1 := ⟨_, rfl⟩
          have ez7529 : z7529.toInt = g7518.toInt + 1 := gI_inc hz7529 (by decide) bg7518'' (by decide) (by decide)
          have bz7529 : gB z7529 (-2147483647) 0 := ⟨by omega, by omega⟩
          refine G_iinc (L' := [(4, .int z7529), (2, .long u7528), (0, .ref q7466), (1, .int p7468)]) z7529 1 d_cX4_eightFrom_50 rfl hz7529.symm (Nat.le_of_ble_eq_true rfl) rfl ?_
          refine G_goto 5 d_cX4_eightFrom_53 (by decide +kernel) ?_
          exact ih5_7519 z7529 u7528 (gB_w bz7529 (by decide) (by decide)) (by omega)
        · have r7530 : 0 ≤ g7518.toInt := gj_nlt hc7525 (show Int32.toInt 0 = 0 by decide)
          have bg7518'' : gB g7518 0 2147483646 := ⟨by omega, by omega⟩
          refine G_iload 0 d_cX4_eightFrom_23 rfl ?_
          refine G_aload_n 2 d_cX4_eightFrom_25 rfl ?_
          refine G_getf 0 1 d_cX4_eightFrom_26 rfl (gk_X4 D I) (Nat.le_of_ble_eq_true rfl) w_2_201 rfl ?_
          refine G_icmp_ge 46 d_cX4_eightFrom_29 (by decide +kernel) (fun hc7531 => ?_) (fun hc7531 => ?_)
          · have r7532 : p7469.toInt ≤ g7518.toInt := gC_le hc7531
            refine G_iconst 0 d_cX4_eightFrom_46 (by decide +kernel) ?_
            refine G_i2l d_cX4_eightFrom_47 (G_namL fun u7533 hu7533 => ?_)
            refine G_lor d_cX4_eightFrom_48 (G_namL fun u7534 hu7534 => ?_)
            refine G_lstore_n (L' := [(2, .long u7534), (4, .int g7518), (0, .ref q7466), (1, .int p7468)]) d_cX4_eightFrom_49 (Nat.le_of_ble_eq_true rfl) rfl ?_
            obtain ⟨z7535, hz7535⟩ : ∃ z : Int32, z = g7518 + Int32.ofInt 1 := ⟨_, rfl⟩
            have ez7535 : z7535.toInt = g7518.toInt + 1 := gI_inc hz7535 (by decide) bg7518'' (by decide) (by decide)
            have bz7535 : gB z7535 1 2147483647 := ⟨by omega, by omega⟩
            refine G_iinc (L' := [(4, .int z7535), (2, .long u7534), (0, .ref q7466), (1, .int p7468)]) z7535 1 d_cX4_eightFrom_50 rfl hz7535.symm (Nat.le_of_ble_eq_true rfl) rfl ?_
            refine G_goto 5 d_cX4_eightFrom_53 (by decide +kernel) ?_
            exact ih5_7519 z7535 u7534 (gB_w bz7535 (by decide) (by decide)) (by omega)
          · have r7536 : g7518.toInt < p7469.toInt := gC_nle hc7531
            have bg7518''' : gB g7518 0 16383 := ⟨by omega, by omega⟩
            have bp7469' : gB p7469 1 16384 := ⟨by omega, by omega⟩
            refine G_aload_n 2 d_cX4_eightFrom_32 rfl ?_
            refine G_getf 0 0 d_cX4_eightFrom_33 rfl (gk_X4 D I) (Nat.le_of_ble_eq_true rfl) w_2_200 rfl ?_
            refine G_iload 0 d_cX4_eightFrom_36 rfl ?_
            refine G_bald 1 1 d_cX4_eightFrom_38 rfl rfl (gB_in bg7518''' (by decide) (by decide)) (G_nam fun z7537 hz7537 => ?_)
            have bz7537 : gB z7537 (-128) 127 := by rw [hz7537]; exact bf7470 _
            refine G_sipush 255 d_cX4_eightFrom_39 (by decide +kernel) ?_
            refine G_iand d_cX4_eightFrom_42 (G_nam fun z7538 hz7538 => ?_)
            have bz7538 : gB z7538 0 255 := gB_and hz7538 (gBl (show Int32.toInt 255 = 255 by decide)) (by decide)
            refine G_goto 47 d_cX4_eightFrom_43 (by decide +kernel) ?_
            refine G_i2l d_cX4_eightFrom_47 (G_namL fun u7539 hu7539 => ?_)
            refine G_lor d_cX4_eightFrom_48 (G_namL fun u7540 hu7540 => ?_)
            refine G_lstore_n (L' := [(2, .long u7540), (4, .int g7518), (0, .ref q7466), (1, .int p7468)]) d_cX4_eightFrom_49 (Nat.le_of_ble_eq_true rfl) rfl ?_
            obtain ⟨z7541, hz7541⟩ : ∃ z : Int32, z = g7518 + Int32.ofInt 1 := ⟨_, rfl⟩
            have ez7541 : z7541.toInt = g7518.toInt + 1 := gI_inc hz7541 (by decide) bg7518''' (by decide) (by decide)
            have bz7541 : gB z7541 1 16384 := ⟨by omega, by omega⟩
            refine G_iinc (L' := [(4, .int z7541), (2, .long u7540), (0, .ref q7466), (1, .int p7468)]) z7541 1 d_cX4_eightFrom_50 rfl hz7541.symm (Nat.le_of_ble_eq_true rfl) rfl ?_
            refine G_goto 5 d_cX4_eightFrom_53 (by decide +kernel) ?_
            exact ih5_7519 z7541 u7540 (gB_w bz7541 (by decide) (by decide)) (by omega)
  exact hlp5_7519 (((2147483648 : Int) - p7468.toInt).toNat + 1) p7468 0 bp7468 (Nat.lt_succ_self _)
abbrev ky_7602_Listing_addByte : gKey := (cX4_addByte, 2, yX4_addByte.cls, none, [], yX4_addByte.name, fun _ _ => True)
abbrev po_7602_Listing_addByte (I : FieldType → ClassId) (q7597 : Nat) (q7598 : Nat) (p7599 : Int32) (p7600 : Int32) (f7601 : Nat → Int32) : Option Value → va_W → Prop := fun r w => ∃ (o7609 : Int32) (f7610 : Nat → Int32), r = none ∧ w = [(q7597, .inr (9, [.ref q7598, .int o7609])), (q7598, .inl (I .byte, 16384, .inl f7610))] ∧ gB o7609 1 16384 ∧ gF f7610 (-128) 127
set_option maxRecDepth 100000 in
set_option maxHeartbeats 4000000 in
theorem ct_7602_Listing_addByte (l : Launch) (hl0 : l.stackTraces = false) (D : va_G) (I : FieldType → ClassId) (q7597 : Nat) (q7598 : Nat) (p7599 : Int32) (p7600 : Int32) (f7601 : Nat → Int32) (bp7599 : gB p7599 0 65535) (bp7600 : gB p7600 0 16384) (bf7601 : gF f7601 (-128) 127) : Ct (gV D I) l yX4_addByte cX4_addByte 2 none 0 0 0 0 [.ref q7597, .int p7599] [(q7597, .inr (9, [.ref q7598, .int p7600])), (q7598, .inl (I .byte, 16384, .inl f7601))] (po_7602_Listing_addByte I q7597 q7598 p7599 p7600 f7601) gN := by
  refine Ct_of hl0 (by decide) (Nat.le_of_ble_eq_true rfl) ?_
  refine G_aload_n 0 d_cX4_addByte_0 rfl ?_
  refine G_getf 0 1 d_cX4_addByte_1 rfl (gk_X4 D I) (Nat.le_of_ble_eq_true rfl) w_2_201 rfl ?_
  refine G_aload_n 0 d_cX4_addByte_4 rfl ?_
  refine G_getf 0 0 d_cX4_addByte_5 rfl (gk_X4 D I) (Nat.le_of_ble_eq_true rfl) w_2_200 rfl ?_
  refine G_alen 16384 1 1 d_cX4_addByte_8 rfl rfl rfl ?_
  refine G_icmp_ge 33 d_cX4_addByte_9 (by decide +kernel) (fun hc7603 => ?_) (fun hc7603 => ?_)
  · have r7604 : 16384 ≤ p7600.toInt := gj_leL hc7603 (show Int32.toInt 16384 = 16384 by decide)
    have bp7600' : gB p7600 16384 16384 := ⟨by omega, by omega⟩
    exact G_vret d_cX4_addByte_33 rfl (Nat.le_of_ble_eq_true rfl) (Nat.le_of_ble_eq_true rfl) ⟨p7600, f7601, rfl, rfl, (gB_w bp7600' (by decide) (by decide)), bf7601⟩
  · have r7605 : p7600.toInt < 16384 := gj_nleL hc7603 (show Int32.toInt 16384 = 16384 by decide)
    have bp7600' : gB p7600 0 16383 := ⟨by omega, by omega⟩
    refine G_aload_n 0 d_cX4_addByte_12 rfl ?_
    refine G_getf 0 0 d_cX4_addByte_13 rfl (gk_X4 D I) (Nat.le_of_ble_eq_true rfl) w_2_200 rfl ?_
    refine G_aload_n 0 d_cX4_addByte_16 rfl ?_
    refine G_getf 0 1 d_cX4_addByte_17 rfl (gk_X4 D I) (Nat.le_of_ble_eq_true rfl) w_2_201 rfl ?_
    refine G_iload_n 1 d_cX4_addByte_20 rfl ?_
    refine G_i2b d_cX4_addByte_21 (G_nam fun z7606 hz7606 => ?_)
    have bz7606 : gB z7606 (-128) 127 := gB_i2b hz7606
    refine G_bastN 1 1 d_cX4_addByte_22 rfl rfl (gB_in bp7600' (by decide) (by decide)) (fun f7607 hf7607 => ?_)
    refine G_ws (ws' := [(q7597, .inr (9, [.ref q7598, .int p7600])), (q7598, .inl (I .byte, 16384, .inl f7607))]) (cs' := 0) (sl' := 0) rfl rfl rfl ?_
    have bf7607 : gF f7607 (-128) 127 := gF_upd hf7607 bf7601 gB_byte
    refine G_aload_n 0 d_cX4_addByte_23 rfl ?_
    refine G_dup d_cX4_addByte_24 rfl ?_
    refine G_getf 0 1 d_cX4_addByte_25 rfl (gk_X4 D I) (Nat.le_of_ble_eq_true rfl) w_2_201 rfl ?_
    refine G_iconst 1 d_cX4_addByte_28 (by decide +kernel) ?_
    refine G_iadd d_cX4_addByte_29 (G_nam fun z7608 hz7608 => ?_)
    have ez7608 : z7608.toInt = p7600.toInt + 1 := by rw [gI_add hz7608 bp7600' (gBl (show Int32.toInt 1 = 1 by decide)) (by decide) (by decide), show Int32.toInt 1 = 1 from by decide]
    have bz7608 : gB z7608 1 16384 := gB_add (gI_add hz7608 bp7600' (gBl (show Int32.toInt 1 = 1 by decide)) (by decide) (by decide)) bp7600' (gBl (show Int32.toInt 1 = 1 by decide)) (by decide) (by decide)
    refine G_putf (ws' := [(q7597, .inr (9, [.ref q7598, .int z7608])), (q7598, .inl (I .byte, 16384, .inl f7607))]) 0 1 d_cX4_addByte_30 rfl (gk_X4 D I) (Nat.le_of_ble_eq_true rfl) w_2_201 rfl rfl rfl (Nat.le_of_ble_eq_true rfl) rfl ?_
    exact G_vret d_cX4_addByte_33 rfl (Nat.le_of_ble_eq_true rfl) (Nat.le_of_ble_eq_true rfl) ⟨z7608, f7607, rfl, rfl, bz7608, bf7607⟩
abbrev ky_7590_Listing_addText : gKey := (cX4_addText, 3, yX4_addText.cls, none, [], yX4_addText.name, fun _ _ => True)
abbrev po_7590_Listing_addText (I : FieldType → ClassId) (q7583 : Nat) (q7584 : Nat) (qs7585 : Nat) (qb7586 : Nat) (bs7587 : List Int32) (p7588 : Int32) (f7589 : Nat → Int32) : Option Value → va_W → Prop := fun r w => ∃ (o7685 : Int32) (f7686 : Nat → Int32), r = none ∧ w = [(q7583, .inr (9, [.ref q7584, .int o7685])), (q7584, .inl (I .byte, 16384, .inl f7686))] ∧ gB o7685 0 16384 ∧ gF f7686 (-128) 127
set_option maxRecDepth 100000 in
set_option maxHeartbeats 4000000 in
theorem ct_7590_Listing_addText (l : Launch) (hl0 : l.stackTraces = false) (D : va_G) (I : FieldType → ClassId) (q7583 : Nat) (q7584 : Nat) (qs7585 : Nat) (qb7586 : Nat) (bs7587 : List Int32) (p7588 : Int32) (f7589 : Nat → Int32) (hbs7587 : ∀ A s H, (gV D I).2.2.2.1 A s H → gSC qs7585 qb7586 bs7587 A s H) (nbs7587 : (bs7587.length : Int) ≤ 65535) (bp7588 : gB p7588 0 16384) (bf7589 : gF f7589 (-128) 127) : Ct (gV D I) l yX4_addText cX4_addText 3 none 4 85 0 0 [.ref q7583, .ref qs7585] [(q7583, .inr (9, [.ref q7584, .int p7588])), (q7584, .inl (I .byte, 16384, .inl f7589))] (po_7590_Listing_addText I q7583 q7584 qs7585 qb7586 bs7587 p7588 f7589) gN := by
  refine Ct_of hl0 (by decide) (Nat.le_of_ble_eq_true rfl) ?_
  refine G_iconst 0 d_cX4_addText_0 (by decide +kernel) ?_
  refine G_istore_n (L' := [(2, .int 0), (0, .ref q7583), (1, .ref qs7585)]) d_cX4_addText_1 (Nat.le_of_ble_eq_true rfl) rfl ?_
  have hlp2_7675 : ∀ (n2_7675 : Nat) (g7673 : Int32) (g7674 : Int32) (f7675 : Nat → Int32), gB g7673 0 65535 → gB g7674 0 16384 → gF f7675 (-128) 127 → ((65536 : Int) - g7673.toInt).toNat < n2_7675 → G (gV D I) l (gRm 4 85 0 0) (gM (gV D I) (po_7590_Listing_addText I q7583 q7584 qs7585 qb7586 bs7587 p7588 f7589) gN 0 0) ky_7590_Listing_addText 2 [(2, .int g7673), (0, .ref q7583), (1, .ref qs7585)] [] [(q7583, .inr (9, [.ref q7584, .int g7674])), (q7584, .inl (I .byte, 16384, .inl f7675))] 0 0 := by
    intro n2_7675
    induction n2_7675 with
    | zero => intro g7673 g7674 f7675 bg7673 bg7674 bf7675 hm2_7675; exact absurd hm2_7675 (Nat.not_lt_zero _)
    | succ n2_7675 ih2_7675 =>
      intro g7673 g7674 f7675 bg7673 bg7674 bf7675 hm2_7675
      refine G_iload_n 0 d_cX4_addText_2 rfl ?_
      refine G_aload_n 2 d_cX4_addText_3 rfl ?_
      refine G_callVk (As := []) (wr := [(q7583, .inr (9, [.ref q7584, .int g7674])), (q7584, .inl (I .byte, 16384, .inl f7675))]) (gV_ok D I) (ct_3827_String_length l hl0 D I qs7585 qb7586 bs7587 hbs7587 nbs7587) d_cX4_addText_4 ⟨w_6_169, w_1_21, w_3_60, by decide, rfl, (Nat.le_of_ble_eq_true rfl), (Nat.le_of_ble_eq_true rfl)⟩ w_3_58 w_3_59 (fun _ _ _ h => (hbs7587 _ _ _ h).1) [] [0, 1] rfl rfl rfl rfl (by decide) (Nat.le_of_ble_eq_true rfl) (Nat.le_of_ble_eq_true rfl) (Nat.le_of_ble_eq_true rfl) (fun r w hp => ?_) (fun _ _ _ z => z.elim)
      obtain ⟨o7676, rfl, rfl, bo7676, x7677⟩ := hp
      change G _ _ _ _ _ _ _ (.int o7676 :: _) _ _ _
      refine G_ws (ws' := [(q7583, .inr (9, [.ref q7584, .int g7674])), (q7584, .inl (I .byte, 16384, .inl f7675))]) (cs' := 0) (sl' := 0) rfl rfl rfl ?_
      refine G_icmp_ge 25 d_cX4_addText_7 (by decide +kernel) (fun hc7678 => ?_) (fun hc7678 => ?_)
      · have r7679 : o7676.toInt ≤ g7673.toInt := gC_le hc7678
        exact G_vret d_cX4_addText_25 rfl (Nat.le_of_ble_eq_true rfl) (Nat.le_of_ble_eq_true rfl) ⟨g7674, f7675, rfl, rfl, bg7674, bf7675⟩
      · have r7680 : g7673.toInt < o7676.toInt := gC_nle hc7678
        have bg7673' : gB g7673 0 65534 := ⟨by omega, by omega⟩
        have bo7676' : gB o7676 1 65535 := ⟨by omega, by omega⟩
        refine G_aload_n 1 d_cX4_addText_10 rfl ?_
        refine G_aload_n 2 d_cX4_addText_11 rfl ?_
        refine G_iload_n 0 d_cX4_addText_12 rfl ?_
        refine G_callVk (As := [.int g7673]) (wr := [(q7583, .inr (9, [.ref q7584, .int g7674])), (q7584, .inl (I .byte, 16384, .inl f7675))]) (gV_ok D I) (ct_3858_String_charAt l hl0 D I qs7585 qb7586 bs7587 g7673 hbs7587 nbs7587 (by omega) (by omega)) d_cX4_addText_13 ⟨w_6_170, w_1_21, w_3_70, by decide, rfl, (Nat.le_of_ble_eq_true rfl), (Nat.le_of_ble_eq_true rfl)⟩ w_3_68 w_3_69 (fun _ _ _ h => (hbs7587 _ _ _ h).1) [] [0, 1] rfl rfl rfl rfl (by decide) (Nat.le_of_ble_eq_true rfl) (Nat.le_of_ble_eq_true rfl) (Nat.le_of_ble_eq_true rfl) (fun r w hp => ?_) (fun _ _ _ z => z.elim)
        obtain ⟨o7681, rfl, rfl, bo7681⟩ := hp
        change G _ _ _ _ _ _ _ (.int o7681 :: _) _ _ _
        refine G_ws (ws' := [(q7583, .inr (9, [.ref q7584, .int g7674])), (q7584, .inl (I .byte, 16384, .inl f7675))]) (cs' := 0) (sl' := 0) rfl rfl rfl ?_
        refine G_callV (As := [.int o7681]) (wr := []) (gV_ok D I) (ct_7602_Listing_addByte l hl0 D I q7583 q7584 o7681 g7674 f7675 bo7681 bg7674 bf7675) d_cX4_addText_16 ⟨w_6_171, w_1_13, w_6_174, by decide, rfl, (Nat.le_of_ble_eq_true rfl), (Nat.le_of_ble_eq_true rfl)⟩ w_6_173 w_p_66 0 rfl rfl [0, 1] [] rfl rfl rfl rfl (by decide) (Nat.le_of_ble_eq_true rfl) (Nat.le_of_ble_eq_true rfl) (Nat.le_of_ble_eq_true rfl) (fun r w hp => ?_) (fun _ _ _ z => z.elim)
        obtain ⟨o7682, f7683, rfl, rfl, bo7682, bf7683⟩ := hp
        change G _ _ _ _ _ _ _ _ _ _ _
        refine G_ws (ws' := [(q7583, .inr (9, [.ref q7584, .int o7682])), (q7584, .inl (I .byte, 16384, .inl f7683))]) (cs' := 0) (sl' := 0) rfl rfl rfl ?_
        obtain ⟨z7684, hz7684⟩ : ∃ z : Int32, z = g7673 + Int32.ofInt 1 := ⟨_, rfl⟩
        have ez7684 : z7684.toInt = g7673.toInt + 1 := gI_inc hz7684 (by decide) bg7673' (by decide) (by decide)
        have bz7684 : gB z7684 1 65535 := ⟨by omega, by omega⟩
        refine G_iinc (L' := [(2, .int z7684), (0, .ref q7583), (1, .ref qs7585)]) z7684 0 d_cX4_addText_19 rfl hz7684.symm (Nat.le_of_ble_eq_true rfl) rfl ?_
        refine G_goto 2 d_cX4_addText_22 (by decide +kernel) ?_
        exact ih2_7675 z7684 o7682 f7683 (gB_w bz7684 (by decide) (by decide)) (gB_w bo7682 (by decide) (by decide)) bf7683 (by omega)
  exact hlp2_7675 (((65536 : Int) - 0).toNat + 1) 0 p7588 f7589 (gB_w (gBl (show Int32.toInt 0 = 0 by decide)) (by decide) (by decide)) bp7588 bf7589 (Nat.lt_succ_self _)
abbrev ky_7699_Math_abs : gKey := (cJ9_abs_067f4, 2, yJ9_abs_067f4.cls, (some FieldType.long), [], yJ9_abs_067f4.name, fun _ _ => True)
abbrev po_7699_Math_abs (I : FieldType → ClassId) (pl7698 : Int64) : Option Value → va_W → Prop := fun r w => ∃ (ol7705 : Int64), r = some (.long ol7705) ∧ w = []
set_option maxRecDepth 100000 in
set_option maxHeartbeats 4000000 in
theorem ct_7699_Math_abs (l : Launch) (hl0 : l.stackTraces = false) (D : va_G) (I : FieldType → ClassId) (pl7698 : Int64)  : Ct (gV D I) l yJ9_abs_067f4 cJ9_abs_067f4 2 (some FieldType.long) 0 0 0 0 [.long pl7698] [] (po_7699_Math_abs I pl7698) gN := by
  refine Ct_ofF hl0 (by decide +kernel) (Nat.le_of_ble_eq_true rfl) ?_
  refine G_lload_n 0 d_cJ9_abs_067f4_0 rfl ?_
  refine G_lconst 0 d_cJ9_abs_067f4_1 rfl ?_
  refine G_lcmp d_cJ9_abs_067f4_2 (G_nam fun z7700 hz7700 => ?_)
  have bz7700 : gB z7700 (-1) 1 := gB_cmp hz7700
  refine G_if_ge 11 d_cJ9_abs_067f4_3 (by decide +kernel) (fun hc7701 => ?_) (fun hc7701 => ?_)
  · have r7702 : 0 ≤ z7700.toInt := gj_leL hc7701 (show Int32.toInt 0 = 0 by decide)
    have bz7700' : gB z7700 0 1 := ⟨by omega, by omega⟩
    refine G_lload_n 0 d_cJ9_abs_067f4_11 rfl ?_
    exact G_lret d_cJ9_abs_067f4_12 rfl (Nat.le_of_ble_eq_true rfl) (Nat.le_of_ble_eq_true rfl) ⟨pl7698, rfl, rfl⟩
  · have r7703 : z7700.toInt < 0 := gj_nleL hc7701 (show Int32.toInt 0 = 0 by decide)
    have bz7700' : gB z7700 (-1) (-1) := ⟨by omega, by omega⟩
    have lhc7701 := gC_cmpS hz7700 (by omega)
    refine G_lload_n 0 d_cJ9_abs_067f4_6 rfl ?_
    refine G_lneg d_cJ9_abs_067f4_7 (G_namL fun u7704 hu7704 => ?_)
    refine G_goto 12 d_cJ9_abs_067f4_8 (by decide +kernel) ?_
    exact G_lret d_cJ9_abs_067f4_12 rfl (Nat.le_of_ble_eq_true rfl) (Nat.le_of_ble_eq_true rfl) ⟨u7704, rfl, rfl⟩
abbrev ky_7694_Listing_addNumber : gKey := (cX4_addNumber, 7, yX4_addNumber.cls, none, [], yX4_addNumber.name, fun _ _ => True)
abbrev po_7694_Listing_addNumber (I : FieldType → ClassId) (q7689 : Nat) (q7690 : Nat) (p7691 : Int32) (p7692 : Int32) (f7693 : Nat → Int32) : Option Value → va_W → Prop := fun r w => ∃ (o10310 : Int32) (f10311 : Nat → Int32), r = none ∧ w = [(q7689, .inr (9, [.ref q7690, .int o10310])), (q7690, .inl (I .byte, 16384, .inl f10311))] ∧ gB o10310 0 16384 ∧ gF f10311 (-128) 127
set_option maxRecDepth 100000 in
set_option maxHeartbeats 4000000 in
theorem ct_7694_Listing_addNumber (l : Launch) (hl0 : l.stackTraces = false) (D : va_G) (I : FieldType → ClassId) (q7689 : Nat) (q7690 : Nat) (p7691 : Int32) (p7692 : Int32) (f7693 : Nat → Int32) (bp7692 : gB p7692 0 16384) (bf7693 : gF f7693 (-128) 127) : Ct (gV D I) l yX4_addNumber cX4_addNumber 7 none 1 21 0 0 [.ref q7689, .int p7691] [(q7689, .inr (9, [.ref q7690, .int p7692])), (q7690, .inl (I .byte, 16384, .inl f7693))] (po_7694_Listing_addNumber I q7689 q7690 p7691 p7692 f7693) gN := by
  refine Ct_of hl0 (by decide) (Nat.le_of_ble_eq_true rfl) ?_
  have bp7691 := gB_any p7691
  refine G_iload_n 1 d_cX4_addNumber_0 rfl ?_
  refine G_if_ge 10 d_cX4_addNumber_1 (by decide +kernel) (fun hc7695 => ?_) (fun hc7695 => ?_)
  · have r7696 : 0 ≤ p7691.toInt := gj_leL hc7695 (show Int32.toInt 0 = 0 by decide)
    have bp7691' : gB p7691 0 2147483647 := ⟨by omega, by omega⟩
    refine G_iload_n 1 d_cX4_addNumber_10 rfl ?_
    refine G_i2l d_cX4_addNumber_11 (G_namL fun u7697 hu7697 => ?_)
    refine G_callS (As := [.long u7697]) (wr := [(q7689, .inr (9, [.ref q7690, .int p7692])), (q7690, .inl (I .byte, 16384, .inl f7693))]) (gV_ok D I) (ct_7699_Math_abs l hl0 D I u7697 ) d_cX4_addNumber_12 ⟨w_6_179, w_1_6, w_6_181, by decide, rfl, (Nat.le_of_ble_eq_true rfl), (Nat.le_of_ble_eq_true rfl)⟩ w_6_180 [] [0, 1] rfl rfl rfl rfl (by decide) (Nat.le_of_ble_eq_true rfl) (Nat.le_of_ble_eq_true rfl) (Nat.le_of_ble_eq_true rfl) (fun r w hp => ?_) (fun _ _ _ z => z.elim)
    obtain ⟨ol7706, rfl, rfl⟩ := hp
    change G _ _ _ _ _ _ _ (.long ol7706 :: _) _ _ _
    refine G_ws (ws' := [(q7689, .inr (9, [.ref q7690, .int p7692])), (q7690, .inl (I .byte, 16384, .inl f7693))]) (cs' := 0) (sl' := 0) rfl rfl rfl ?_
    refine G_lstore_n (L' := [(2, .long ol7706), (0, .ref q7689), (1, .int p7691)]) d_cX4_addNumber_15 (Nat.le_of_ble_eq_true rfl) rfl ?_
    refine G_lconst 1 d_cX4_addNumber_16 rfl ?_
    refine G_lstore (L' := [(4, .long 1), (2, .long ol7706), (0, .ref q7689), (1, .int p7691)]) d_cX4_addNumber_17 (Nat.le_of_ble_eq_true rfl) rfl ?_
    refine G_iconst 0 d_cX4_addNumber_19 (by decide +kernel) ?_
    refine G_istore (L' := [(6, .int 0), (4, .long 1), (2, .long ol7706), (0, .ref q7689), (1, .int p7691)]) d_cX4_addNumber_20 (Nat.le_of_ble_eq_true rfl) rfl ?_
    have hlp22_8749 : ∀ (n22_8749 : Nat) (g8748 : Int32) (gl8749 : Int64), gB g8748 0 9 → ((10 : Int) - g8748.toInt).toNat < n22_8749 → G (gV D I) l (gRm 1 21 0 0) (gM (gV D I) (po_7694_Listing_addNumber I q7689 q7690 p7691 p7692 f7693) gN 0 0) ky_7694_Listing_addNumber 22 [(6, .int g8748), (4, .long gl8749), (2, .long ol7706), (0, .ref q7689), (1, .int p7691)] [] [(q7689, .inr (9, [.ref q7690, .int p7692])), (q7690, .inl (I .byte, 16384, .inl f7693))] 0 0 := by
      intro n22_8749
      induction n22_8749 with
      | zero => intro g8748 gl8749 bg8748 hm22_8749; exact absurd hm22_8749 (Nat.not_lt_zero _)
      | succ n22_8749 ih22_8749 =>
        intro g8748 gl8749 bg8748 hm22_8749
        refine G_iload 0 d_cX4_addNumber_22 rfl ?_
        refine G_bipush 9 d_cX4_addNumber_24 (by decide +kernel) ?_
        refine G_icmp_ge 54 d_cX4_addNumber_26 (by decide +kernel) (fun hc8750 => ?_) (fun hc8750 => ?_)
        · have r8751 : 9 ≤ g8748.toInt := gj_leL hc8750 (show Int32.toInt 9 = 9 by decide)
          have bg8748' : gB g8748 9 9 := ⟨by omega, by omega⟩
          refine G_iconst 0 d_cX4_addNumber_54 (by decide +kernel) ?_
          refine G_istore (L' := [(6, .int 0), (4, .long gl8749), (2, .long ol7706), (0, .ref q7689), (1, .int p7691)]) d_cX4_addNumber_55 (Nat.le_of_ble_eq_true rfl) rfl ?_
          have hlp57_8858 : ∀ (n57_8858 : Nat) (g8855 : Int32) (gl8856 : Int64) (g8857 : Int32) (f8858 : Nat → Int32), gB g8855 0 10 → gB g8857 0 16384 → gF f8858 (-128) 127 → ((11 : Int) - g8855.toInt).toNat < n57_8858 → G (gV D I) l (gRm 1 21 0 0) (gM (gV D I) (po_7694_Listing_addNumber I q7689 q7690 p7691 p7692 f7693) gN 0 0) ky_7694_Listing_addNumber 57 [(6, .int g8855), (4, .long gl8856), (2, .long ol7706), (0, .ref q7689), (1, .int p7691)] [] [(q7689, .inr (9, [.ref q7690, .int g8857])), (q7690, .inl (I .byte, 16384, .inl f8858))] 0 0 := by
            intro n57_8858
            induction n57_8858 with
            | zero => intro g8855 gl8856 g8857 f8858 bg8855 bg8857 bf8858 hm57_8858; exact absurd hm57_8858 (Nat.not_lt_zero _)
            | succ n57_8858 ih57_8858 =>
              intro g8855 gl8856 g8857 f8858 bg8855 bg8857 bf8858 hm57_8858
              refine G_iload 0 d_cX4_addNumber_57 rfl ?_
              refine G_bipush 10 d_cX4_addNumber_59 (by decide +kernel) ?_
              refine G_icmp_ge 103 d_cX4_addNumber_61 (by decide +kernel) (fun hc8859 => ?_) (fun hc8859 => ?_)
              · have r8860 : 10 ≤ g8855.toInt := gj_leL hc8859 (show Int32.toInt 10 = 10 by decide)
                have bg8855' : gB g8855 10 10 := ⟨by omega, by omega⟩
                exact G_vret d_cX4_addNumber_103 rfl (Nat.le_of_ble_eq_true rfl) (Nat.le_of_ble_eq_true rfl) ⟨g8857, f8858, rfl, rfl, bg8857, bf8858⟩
              · have r8861 : g8855.toInt < 10 := gj_nleL hc8859 (show Int32.toInt 10 = 10 by decide)
                have bg8855' : gB g8855 0 9 := ⟨by omega, by omega⟩
                refine G_lload 1 d_cX4_addNumber_64 rfl ?_
                refine G_lconst 0 d_cX4_addNumber_66 rfl ?_
                refine G_lcmp d_cX4_addNumber_67 (G_nam fun z8862 hz8862 => ?_)
                have bz8862 : gB z8862 (-1) 1 := gB_cmp hz8862
                refine G_if_le 103 d_cX4_addNumber_68 (by decide +kernel) (fun hc8863 => ?_) (fun hc8863 => ?_)
                · have r8864 : z8862.toInt ≤ 0 := gj_le hc8863 (show Int32.toInt 0 = 0 by decide)
                  have bz8862' : gB z8862 (-1) 0 := ⟨by omega, by omega⟩
                  exact G_vret d_cX4_addNumber_103 rfl (Nat.le_of_ble_eq_true rfl) (Nat.le_of_ble_eq_true rfl) ⟨g8857, f8858, rfl, rfl, bg8857, bf8858⟩
                · have r8865 : 0 < z8862.toInt := gj_nle hc8863 (show Int32.toInt 0 = 0 by decide)
                  have bz8862' : gB z8862 1 1 := ⟨by omega, by omega⟩
                  have lhc8863 := gC_cmpS hz8862 (by omega)
                  refine G_aload_n 3 d_cX4_addNumber_71 rfl ?_
                  refine G_ldc2 48 d_cX4_addNumber_72 w_6_183 ?_
                  refine G_lload_n 2 d_cX4_addNumber_75 rfl ?_
                  refine G_lload 1 d_cX4_addNumber_76 rfl ?_
                  refine G_ldiv d_cX4_addNumber_78 lhc8863 (G_namL fun u8866 hu8866 => ?_)
                  refine G_ldc2 10 d_cX4_addNumber_79 w_6_182 ?_
                  refine G_lrem d_cX4_addNumber_82 (by decide) (G_namL fun u8867 hu8867 => ?_)
                  refine G_ladd d_cX4_addNumber_83 (G_namL fun u8868 hu8868 => ?_)
                  refine G_l2i d_cX4_addNumber_84 (G_nam fun z8869 hz8869 => ?_)
                  have bz8869 : gB z8869 (-2147483648) 2147483647 := gB_any z8869
                  refine G_i2c d_cX4_addNumber_85 (G_nam fun z8870 hz8870 => ?_)
                  have bz8870 : gB z8870 0 65535 := gB_i2c hz8870
                  refine G_callV (As := [.int z8870]) (wr := []) (gV_ok D I) (ct_7602_Listing_addByte l hl0 D I q7689 q7690 z8870 g8857 f8858 bz8870 bg8857 bf8858) d_cX4_addNumber_86 ⟨w_6_171, w_1_13, w_6_174, by decide, rfl, (Nat.le_of_ble_eq_true rfl), (Nat.le_of_ble_eq_true rfl)⟩ w_6_173 w_p_66 0 rfl rfl [0, 1] [] rfl rfl rfl rfl (by decide) (Nat.le_of_ble_eq_true rfl) (Nat.le_of_ble_eq_true rfl) (Nat.le_of_ble_eq_true rfl) (fun r w hp => ?_) (fun _ _ _ z => z.elim)
                  obtain ⟨o8871, f8872, rfl, rfl, bo8871, bf8872⟩ := hp
                  change G _ _ _ _ _ _ _ _ _ _ _
                  refine G_ws (ws' := [(q7689, .inr (9, [.ref q7690, .int o8871])), (q7690, .inl (I .byte, 16384, .inl f8872))]) (cs' := 0) (sl' := 0) rfl rfl rfl ?_
                  refine G_lload 1 d_cX4_addNumber_89 rfl ?_
                  refine G_ldc2 10 d_cX4_addNumber_91 w_6_182 ?_
                  refine G_ldiv d_cX4_addNumber_94 (by decide) (G_namL fun u8873 hu8873 => ?_)
                  refine G_lstore (L' := [(4, .long u8873), (6, .int g8855), (2, .long ol7706), (0, .ref q7689), (1, .int p7691)]) d_cX4_addNumber_95 (Nat.le_of_ble_eq_true rfl) rfl ?_
                  obtain ⟨z8874, hz8874⟩ : ∃ z : Int32, z = g8855 + Int32.ofInt 1 := ⟨_, rfl⟩
                  have ez8874 : z8874.toInt = g8855.toInt + 1 := gI_inc hz8874 (by decide) bg8855' (by decide) (by decide)
                  have bz8874 : gB z8874 1 10 := ⟨by omega, by omega⟩
                  refine G_iinc (L' := [(6, .int z8874), (4, .long u8873), (2, .long ol7706), (0, .ref q7689), (1, .int p7691)]) z8874 1 d_cX4_addNumber_97 rfl hz8874.symm (Nat.le_of_ble_eq_true rfl) rfl ?_
                  refine G_goto 57 d_cX4_addNumber_100 (by decide +kernel) ?_
                  exact ih57_8858 z8874 u8873 o8871 f8872 (gB_w bz8874 (by decide) (by decide)) (gB_w bo8871 (by decide) (by decide)) bf8872 (by omega)
          exact hlp57_8858 (((11 : Int) - 0).toNat + 1) 0 gl8749 p7692 f7693 (gB_w (gBl (show Int32.toInt 0 = 0 by decide)) (by decide) (by decide)) bp7692 bf7693 (Nat.lt_succ_self _)
        · have r8875 : g8748.toInt < 9 := gj_nleL hc8750 (show Int32.toInt 9 = 9 by decide)
          have bg8748' : gB g8748 0 8 := ⟨by omega, by omega⟩
          refine G_lload 1 d_cX4_addNumber_29 rfl ?_
          refine G_lload_n 2 d_cX4_addNumber_31 rfl ?_
          refine G_ldc2 10 d_cX4_addNumber_32 w_6_182 ?_
          refine G_ldiv d_cX4_addNumber_35 (by decide) (G_namL fun u8876 hu8876 => ?_)
          refine G_lcmp d_cX4_addNumber_36 (G_nam fun z8877 hz8877 => ?_)
          have bz8877 : gB z8877 (-1) 1 := gB_cmp hz8877
          refine G_if_gt 54 d_cX4_addNumber_37 (by decide +kernel) (fun hc8878 => ?_) (fun hc8878 => ?_)
          · have r8879 : 0 < z8877.toInt := gj_ltL hc8878 (show Int32.toInt 0 = 0 by decide)
            have bz8877' : gB z8877 1 1 := ⟨by omega, by omega⟩
            have lhc8878 := gC_cmpS hz8877 (by omega)
            refine G_iconst 0 d_cX4_addNumber_54 (by decide +kernel) ?_
            refine G_istore (L' := [(6, .int 0), (4, .long gl8749), (2, .long ol7706), (0, .ref q7689), (1, .int p7691)]) d_cX4_addNumber_55 (Nat.le_of_ble_eq_true rfl) rfl ?_
            have hlp57_8986 : ∀ (n57_8986 : Nat) (g8983 : Int32) (gl8984 : Int64) (g8985 : Int32) (f8986 : Nat → Int32), gB g8983 0 10 → gB g8985 0 16384 → gF f8986 (-128) 127 → ((11 : Int) - g8983.toInt).toNat < n57_8986 → G (gV D I) l (gRm 1 21 0 0) (gM (gV D I) (po_7694_Listing_addNumber I q7689 q7690 p7691 p7692 f7693) gN 0 0) ky_7694_Listing_addNumber 57 [(6, .int g8983), (4, .long gl8984), (2, .long ol7706), (0, .ref q7689), (1, .int p7691)] [] [(q7689, .inr (9, [.ref q7690, .int g8985])), (q7690, .inl (I .byte, 16384, .inl f8986))] 0 0 := by
              intro n57_8986
              induction n57_8986 with
              | zero => intro g8983 gl8984 g8985 f8986 bg8983 bg8985 bf8986 hm57_8986; exact absurd hm57_8986 (Nat.not_lt_zero _)
              | succ n57_8986 ih57_8986 =>
                intro g8983 gl8984 g8985 f8986 bg8983 bg8985 bf8986 hm57_8986
                refine G_iload 0 d_cX4_addNumber_57 rfl ?_
                refine G_bipush 10 d_cX4_addNumber_59 (by decide +kernel) ?_
                refine G_icmp_ge 103 d_cX4_addNumber_61 (by decide +kernel) (fun hc8987 => ?_) (fun hc8987 => ?_)
                · have r8988 : 10 ≤ g8983.toInt := gj_leL hc8987 (show Int32.toInt 10 = 10 by decide)
                  have bg8983' : gB g8983 10 10 := ⟨by omega, by omega⟩
                  exact G_vret d_cX4_addNumber_103 rfl (Nat.le_of_ble_eq_true rfl) (Nat.le_of_ble_eq_true rfl) ⟨g8985, f8986, rfl, rfl, bg8985, bf8986⟩
                · have r8989 : g8983.toInt < 10 := gj_nleL hc8987 (show Int32.toInt 10 = 10 by decide)
                  have bg8983' : gB g8983 0 9 := ⟨by omega, by omega⟩
                  refine G_lload 1 d_cX4_addNumber_64 rfl ?_
                  refine G_lconst 0 d_cX4_addNumber_66 rfl ?_
                  refine G_lcmp d_cX4_addNumber_67 (G_nam fun z8990 hz8990 => ?_)
                  have bz8990 : gB z8990 (-1) 1 := gB_cmp hz8990
                  refine G_if_le 103 d_cX4_addNumber_68 (by decide +kernel) (fun hc8991 => ?_) (fun hc8991 => ?_)
                  · have r8992 : z8990.toInt ≤ 0 := gj_le hc8991 (show Int32.toInt 0 = 0 by decide)
                    have bz8990' : gB z8990 (-1) 0 := ⟨by omega, by omega⟩
                    exact G_vret d_cX4_addNumber_103 rfl (Nat.le_of_ble_eq_true rfl) (Nat.le_of_ble_eq_true rfl) ⟨g8985, f8986, rfl, rfl, bg8985, bf8986⟩
                  · have r8993 : 0 < z8990.toInt := gj_nle hc8991 (show Int32.toInt 0 = 0 by decide)
                    have bz8990' : gB z8990 1 1 := ⟨by omega, by omega⟩
                    have lhc8991 := gC_cmpS hz8990 (by omega)
                    refine G_aload_n 3 d_cX4_addNumber_71 rfl ?_
                    refine G_ldc2 48 d_cX4_addNumber_72 w_6_183 ?_
                    refine G_lload_n 2 d_cX4_addNumber_75 rfl ?_
                    refine G_lload 1 d_cX4_addNumber_76 rfl ?_
                    refine G_ldiv d_cX4_addNumber_78 lhc8991 (G_namL fun u8994 hu8994 => ?_)
                    refine G_ldc2 10 d_cX4_addNumber_79 w_6_182 ?_
                    refine G_lrem d_cX4_addNumber_82 (by decide) (G_namL fun u8995 hu8995 => ?_)
                    refine G_ladd d_cX4_addNumber_83 (G_namL fun u8996 hu8996 => ?_)
                    refine G_l2i d_cX4_addNumber_84 (G_nam fun z8997 hz8997 => ?_)
                    have bz8997 : gB z8997 (-2147483648) 2147483647 := gB_any z8997
                    refine G_i2c d_cX4_addNumber_85 (G_nam fun z8998 hz8998 => ?_)
                    have bz8998 : gB z8998 0 65535 := gB_i2c hz8998
                    refine G_callV (As := [.int z8998]) (wr := []) (gV_ok D I) (ct_7602_Listing_addByte l hl0 D I q7689 q7690 z8998 g8985 f8986 bz8998 bg8985 bf8986) d_cX4_addNumber_86 ⟨w_6_171, w_1_13, w_6_174, by decide, rfl, (Nat.le_of_ble_eq_true rfl), (Nat.le_of_ble_eq_true rfl)⟩ w_6_173 w_p_66 0 rfl rfl [0, 1] [] rfl rfl rfl rfl (by decide) (Nat.le_of_ble_eq_true rfl) (Nat.le_of_ble_eq_true rfl) (Nat.le_of_ble_eq_true rfl) (fun r w hp => ?_) (fun _ _ _ z => z.elim)
                    obtain ⟨o8999, f9000, rfl, rfl, bo8999, bf9000⟩ := hp
                    change G _ _ _ _ _ _ _ _ _ _ _
                    refine G_ws (ws' := [(q7689, .inr (9, [.ref q7690, .int o8999])), (q7690, .inl (I .byte, 16384, .inl f9000))]) (cs' := 0) (sl' := 0) rfl rfl rfl ?_
                    refine G_lload 1 d_cX4_addNumber_89 rfl ?_
                    refine G_ldc2 10 d_cX4_addNumber_91 w_6_182 ?_
                    refine G_ldiv d_cX4_addNumber_94 (by decide) (G_namL fun u9001 hu9001 => ?_)
                    refine G_lstore (L' := [(4, .long u9001), (6, .int g8983), (2, .long ol7706), (0, .ref q7689), (1, .int p7691)]) d_cX4_addNumber_95 (Nat.le_of_ble_eq_true rfl) rfl ?_
                    obtain ⟨z9002, hz9002⟩ : ∃ z : Int32, z = g8983 + Int32.ofInt 1 := ⟨_, rfl⟩
                    have ez9002 : z9002.toInt = g8983.toInt + 1 := gI_inc hz9002 (by decide) bg8983' (by decide) (by decide)
                    have bz9002 : gB z9002 1 10 := ⟨by omega, by omega⟩
                    refine G_iinc (L' := [(6, .int z9002), (4, .long u9001), (2, .long ol7706), (0, .ref q7689), (1, .int p7691)]) z9002 1 d_cX4_addNumber_97 rfl hz9002.symm (Nat.le_of_ble_eq_true rfl) rfl ?_
                    refine G_goto 57 d_cX4_addNumber_100 (by decide +kernel) ?_
                    exact ih57_8986 z9002 u9001 o8999 f9000 (gB_w bz9002 (by decide) (by decide)) (gB_w bo8999 (by decide) (by decide)) bf9000 (by omega)
            exact hlp57_8986 (((11 : Int) - 0).toNat + 1) 0 gl8749 p7692 f7693 (gB_w (gBl (show Int32.toInt 0 = 0 by decide)) (by decide) (by decide)) bp7692 bf7693 (Nat.lt_succ_self _)
          · have r9003 : z8877.toInt ≤ 0 := gj_nltL hc8878 (show Int32.toInt 0 = 0 by decide)
            have bz8877' : gB z8877 (-1) 0 := ⟨by omega, by omega⟩
            refine G_lload 1 d_cX4_addNumber_40 rfl ?_
            refine G_ldc2 10 d_cX4_addNumber_42 w_6_182 ?_
            refine G_lmul d_cX4_addNumber_45 (G_namL fun u9004 hu9004 => ?_)
            refine G_lstore (L' := [(4, .long u9004), (6, .int g8748), (2, .long ol7706), (0, .ref q7689), (1, .int p7691)]) d_cX4_addNumber_46 (Nat.le_of_ble_eq_true rfl) rfl ?_
            obtain ⟨z9005, hz9005⟩ : ∃ z : Int32, z = g8748 + Int32.ofInt 1 := ⟨_, rfl⟩
            have ez9005 : z9005.toInt = g8748.toInt + 1 := gI_inc hz9005 (by decide) bg8748' (by decide) (by decide)
            have bz9005 : gB z9005 1 9 := ⟨by omega, by omega⟩
            refine G_iinc (L' := [(6, .int z9005), (4, .long u9004), (2, .long ol7706), (0, .ref q7689), (1, .int p7691)]) z9005 1 d_cX4_addNumber_48 rfl hz9005.symm (Nat.le_of_ble_eq_true rfl) rfl ?_
            refine G_goto 22 d_cX4_addNumber_51 (by decide +kernel) ?_
            exact ih22_8749 z9005 u9004 (gB_w bz9005 (by decide) (by decide)) (by omega)
    exact hlp22_8749 (((10 : Int) - 0).toNat + 1) 0 1 (gB_w (gBl (show Int32.toInt 0 = 0 by decide)) (by decide) (by decide)) (Nat.lt_succ_self _)
  · have r9006 : p7691.toInt < 0 := gj_nleL hc7695 (show Int32.toInt 0 = 0 by decide)
    have bp7691' : gB p7691 (-2147483648) (-1) := ⟨by omega, by omega⟩
    refine G_aload_n 0 d_cX4_addNumber_4 rfl ?_
    refine G_bipush 45 d_cX4_addNumber_5 (by decide +kernel) ?_
    refine G_callV (As := [.int 45]) (wr := []) (gV_ok D I) (ct_7602_Listing_addByte l hl0 D I q7689 q7690 45 p7692 f7693 (gB_w (gBl (show Int32.toInt 45 = 45 by decide)) (by decide) (by decide)) bp7692 bf7693) d_cX4_addNumber_7 ⟨w_6_171, w_1_13, w_6_174, by decide, rfl, (Nat.le_of_ble_eq_true rfl), (Nat.le_of_ble_eq_true rfl)⟩ w_6_173 w_p_66 0 rfl rfl [0, 1] [] rfl rfl rfl rfl (by decide) (Nat.le_of_ble_eq_true rfl) (Nat.le_of_ble_eq_true rfl) (Nat.le_of_ble_eq_true rfl) (fun r w hp => ?_) (fun _ _ _ z => z.elim)
    obtain ⟨o9007, f9008, rfl, rfl, bo9007, bf9008⟩ := hp
    change G _ _ _ _ _ _ _ _ _ _ _
    refine G_ws (ws' := [(q7689, .inr (9, [.ref q7690, .int o9007])), (q7690, .inl (I .byte, 16384, .inl f9008))]) (cs' := 0) (sl' := 0) rfl rfl rfl ?_
    refine G_iload_n 1 d_cX4_addNumber_10 rfl ?_
    refine G_i2l d_cX4_addNumber_11 (G_namL fun u9009 hu9009 => ?_)
    refine G_callS (As := [.long u9009]) (wr := [(q7689, .inr (9, [.ref q7690, .int o9007])), (q7690, .inl (I .byte, 16384, .inl f9008))]) (gV_ok D I) (ct_7699_Math_abs l hl0 D I u9009 ) d_cX4_addNumber_12 ⟨w_6_179, w_1_6, w_6_181, by decide, rfl, (Nat.le_of_ble_eq_true rfl), (Nat.le_of_ble_eq_true rfl)⟩ w_6_180 [] [0, 1] rfl rfl rfl rfl (by decide) (Nat.le_of_ble_eq_true rfl) (Nat.le_of_ble_eq_true rfl) (Nat.le_of_ble_eq_true rfl) (fun r w hp => ?_) (fun _ _ _ z => z.elim)
    obtain ⟨ol9010, rfl, rfl⟩ := hp
    change G _ _ _ _ _ _ _ (.long ol9010 :: _) _ _ _
    refine G_ws (ws' := [(q7689, .inr (9, [.ref q7690, .int o9007])), (q7690, .inl (I .byte, 16384, .inl f9008))]) (cs' := 0) (sl' := 0) rfl rfl rfl ?_
    refine G_lstore_n (L' := [(2, .long ol9010), (0, .ref q7689), (1, .int p7691)]) d_cX4_addNumber_15 (Nat.le_of_ble_eq_true rfl) rfl ?_
    refine G_lconst 1 d_cX4_addNumber_16 rfl ?_
    refine G_lstore (L' := [(4, .long 1), (2, .long ol9010), (0, .ref q7689), (1, .int p7691)]) d_cX4_addNumber_17 (Nat.le_of_ble_eq_true rfl) rfl ?_
    refine G_iconst 0 d_cX4_addNumber_19 (by decide +kernel) ?_
    refine G_istore (L' := [(6, .int 0), (4, .long 1), (2, .long ol9010), (0, .ref q7689), (1, .int p7691)]) d_cX4_addNumber_20 (Nat.le_of_ble_eq_true rfl) rfl ?_
    have hlp22_10053 : ∀ (n22_10053 : Nat) (g10052 : Int32) (gl10053 : Int64), gB g10052 0 9 → ((10 : Int) - g10052.toInt).toNat < n22_10053 → G (gV D I) l (gRm 1 21 0 0) (gM (gV D I) (po_7694_Listing_addNumber I q7689 q7690 p7691 p7692 f7693) gN 0 0) ky_7694_Listing_addNumber 22 [(6, .int g10052), (4, .long gl10053), (2, .long ol9010), (0, .ref q7689), (1, .int p7691)] [] [(q7689, .inr (9, [.ref q7690, .int o9007])), (q7690, .inl (I .byte, 16384, .inl f9008))] 0 0 := by
      intro n22_10053
      induction n22_10053 with
      | zero => intro g10052 gl10053 bg10052 hm22_10053; exact absurd hm22_10053 (Nat.not_lt_zero _)
      | succ n22_10053 ih22_10053 =>
        intro g10052 gl10053 bg10052 hm22_10053
        refine G_iload 0 d_cX4_addNumber_22 rfl ?_
        refine G_bipush 9 d_cX4_addNumber_24 (by decide +kernel) ?_
        refine G_icmp_ge 54 d_cX4_addNumber_26 (by decide +kernel) (fun hc10054 => ?_) (fun hc10054 => ?_)
        · have r10055 : 9 ≤ g10052.toInt := gj_leL hc10054 (show Int32.toInt 9 = 9 by decide)
          have bg10052' : gB g10052 9 9 := ⟨by omega, by omega⟩
          refine G_iconst 0 d_cX4_addNumber_54 (by decide +kernel) ?_
          refine G_istore (L' := [(6, .int 0), (4, .long gl10053), (2, .long ol9010), (0, .ref q7689), (1, .int p7691)]) d_cX4_addNumber_55 (Nat.le_of_ble_eq_true rfl) rfl ?_
          have hlp57_10162 : ∀ (n57_10162 : Nat) (g10159 : Int32) (gl10160 : Int64) (g10161 : Int32) (f10162 : Nat → Int32), gB g10159 0 10 → gB g10161 0 16384 → gF f10162 (-128) 127 → ((11 : Int) - g10159.toInt).toNat < n57_10162 → G (gV D I) l (gRm 1 21 0 0) (gM (gV D I) (po_7694_Listing_addNumber I q7689 q7690 p7691 p7692 f7693) gN 0 0) ky_7694_Listing_addNumber 57 [(6, .int g10159), (4, .long gl10160), (2, .long ol9010), (0, .ref q7689), (1, .int p7691)] [] [(q7689, .inr (9, [.ref q7690, .int g10161])), (q7690, .inl (I .byte, 16384, .inl f10162))] 0 0 := by
            intro n57_10162
            induction n57_10162 with
            | zero => intro g10159 gl10160 g10161 f10162 bg10159 bg10161 bf10162 hm57_10162; exact absurd hm57_10162 (Nat.not_lt_zero _)
            | succ n57_10162 ih57_10162 =>
              intro g10159 gl10160 g10161 f10162 bg10159 bg10161 bf10162 hm57_10162
              refine G_iload 0 d_cX4_addNumber_57 rfl ?_
              refine G_bipush 10 d_cX4_addNumber_59 (by decide +kernel) ?_
              refine G_icmp_ge 103 d_cX4_addNumber_61 (by decide +kernel) (fun hc10163 => ?_) (fun hc10163 => ?_)
              · have r10164 : 10 ≤ g10159.toInt := gj_leL hc10163 (show Int32.toInt 10 = 10 by decide)
                have bg10159' : gB g10159 10 10 := ⟨by omega, by omega⟩
                exact G_vret d_cX4_addNumber_103 rfl (Nat.le_of_ble_eq_true rfl) (Nat.le_of_ble_eq_true rfl) ⟨g10161, f10162, rfl, rfl, bg10161, bf10162⟩
              · have r10165 : g10159.toInt < 10 := gj_nleL hc10163 (show Int32.toInt 10 = 10 by decide)
                have bg10159' : gB g10159 0 9 := ⟨by omega, by omega⟩
                refine G_lload 1 d_cX4_addNumber_64 rfl ?_
                refine G_lconst 0 d_cX4_addNumber_66 rfl ?_
                refine G_lcmp d_cX4_addNumber_67 (G_nam fun z10166 hz10166 => ?_)
                have bz10166 : gB z10166 (-1) 1 := gB_cmp hz10166
                refine G_if_le 103 d_cX4_addNumber_68 (by decide +kernel) (fun hc10167 => ?_) (fun hc10167 => ?_)
                · have r10168 : z10166.toInt ≤ 0 := gj_le hc10167 (show Int32.toInt 0 = 0 by decide)
                  have bz10166' : gB z10166 (-1) 0 := ⟨by omega, by omega⟩
                  exact G_vret d_cX4_addNumber_103 rfl (Nat.le_of_ble_eq_true rfl) (Nat.le_of_ble_eq_true rfl) ⟨g10161, f10162, rfl, rfl, bg10161, bf10162⟩
                · have r10169 : 0 < z10166.toInt := gj_nle hc10167 (show Int32.toInt 0 = 0 by decide)
                  have bz10166' : gB z10166 1 1 := ⟨by omega, by omega⟩
                  have lhc10167 := gC_cmpS hz10166 (by omega)
                  refine G_aload_n 3 d_cX4_addNumber_71 rfl ?_
                  refine G_ldc2 48 d_cX4_addNumber_72 w_6_183 ?_
                  refine G_lload_n 2 d_cX4_addNumber_75 rfl ?_
                  refine G_lload 1 d_cX4_addNumber_76 rfl ?_
                  refine G_ldiv d_cX4_addNumber_78 lhc10167 (G_namL fun u10170 hu10170 => ?_)
                  refine G_ldc2 10 d_cX4_addNumber_79 w_6_182 ?_
                  refine G_lrem d_cX4_addNumber_82 (by decide) (G_namL fun u10171 hu10171 => ?_)
                  refine G_ladd d_cX4_addNumber_83 (G_namL fun u10172 hu10172 => ?_)
                  refine G_l2i d_cX4_addNumber_84 (G_nam fun z10173 hz10173 => ?_)
                  have bz10173 : gB z10173 (-2147483648) 2147483647 := gB_any z10173
                  refine G_i2c d_cX4_addNumber_85 (G_nam fun z10174 hz10174 => ?_)
                  have bz10174 : gB z10174 0 65535 := gB_i2c hz10174
                  refine G_callV (As := [.int z10174]) (wr := []) (gV_ok D I) (ct_7602_Listing_addByte l hl0 D I q7689 q7690 z10174 g10161 f10162 bz10174 bg10161 bf10162) d_cX4_addNumber_86 ⟨w_6_171, w_1_13, w_6_174, by decide, rfl, (Nat.le_of_ble_eq_true rfl), (Nat.le_of_ble_eq_true rfl)⟩ w_6_173 w_p_66 0 rfl rfl [0, 1] [] rfl rfl rfl rfl (by decide) (Nat.le_of_ble_eq_true rfl) (Nat.le_of_ble_eq_true rfl) (Nat.le_of_ble_eq_true rfl) (fun r w hp => ?_) (fun _ _ _ z => z.elim)
                  obtain ⟨o10175, f10176, rfl, rfl, bo10175, bf10176⟩ := hp
                  change G _ _ _ _ _ _ _ _ _ _ _
                  refine G_ws (ws' := [(q7689, .inr (9, [.ref q7690, .int o10175])), (q7690, .inl (I .byte, 16384, .inl f10176))]) (cs' := 0) (sl' := 0) rfl rfl rfl ?_
                  refine G_lload 1 d_cX4_addNumber_89 rfl ?_
                  refine G_ldc2 10 d_cX4_addNumber_91 w_6_182 ?_
                  refine G_ldiv d_cX4_addNumber_94 (by decide) (G_namL fun u10177 hu10177 => ?_)
                  refine G_lstore (L' := [(4, .long u10177), (6, .int g10159), (2, .long ol9010), (0, .ref q7689), (1, .int p7691)]) d_cX4_addNumber_95 (Nat.le_of_ble_eq_true rfl) rfl ?_
                  obtain ⟨z10178, hz10178⟩ : ∃ z : Int32, z = g10159 + Int32.ofInt 1 := ⟨_, rfl⟩
                  have ez10178 : z10178.toInt = g10159.toInt + 1 := gI_inc hz10178 (by decide) bg10159' (by decide) (by decide)
                  have bz10178 : gB z10178 1 10 := ⟨by omega, by omega⟩
                  refine G_iinc (L' := [(6, .int z10178), (4, .long u10177), (2, .long ol9010), (0, .ref q7689), (1, .int p7691)]) z10178 1 d_cX4_addNumber_97 rfl hz10178.symm (Nat.le_of_ble_eq_true rfl) rfl ?_
                  refine G_goto 57 d_cX4_addNumber_100 (by decide +kernel) ?_
                  exact ih57_10162 z10178 u10177 o10175 f10176 (gB_w bz10178 (by decide) (by decide)) (gB_w bo10175 (by decide) (by decide)) bf10176 (by omega)
          exact hlp57_10162 (((11 : Int) - 0).toNat + 1) 0 gl10053 o9007 f9008 (gB_w (gBl (show Int32.toInt 0 = 0 by decide)) (by decide) (by decide)) (gB_w bo9007 (by decide) (by decide)) bf9008 (Nat.lt_succ_self _)
        · have r10179 : g10052.toInt < 9 := gj_nleL hc10054 (show Int32.toInt 9 = 9 by decide)
          have bg10052' : gB g10052 0 8 := ⟨by omega, by omega⟩
          refine G_lload 1 d_cX4_addNumber_29 rfl ?_
          refine G_lload_n 2 d_cX4_addNumber_31 rfl ?_
          refine G_ldc2 10 d_cX4_addNumber_32 w_6_182 ?_
          refine G_ldiv d_cX4_addNumber_35 (by decide) (G_namL fun u10180 hu10180 => ?_)
          refine G_lcmp d_cX4_addNumber_36 (G_nam fun z10181 hz10181 => ?_)
          have bz10181 : gB z10181 (-1) 1 := gB_cmp hz10181
          refine G_if_gt 54 d_cX4_addNumber_37 (by decide +kernel) (fun hc10182 => ?_) (fun hc10182 => ?_)
          · have r10183 : 0 < z10181.toInt := gj_ltL hc10182 (show Int32.toInt 0 = 0 by decide)
            have bz10181' : gB z10181 1 1 := ⟨by omega, by omega⟩
            have lhc10182 := gC_cmpS hz10181 (by omega)
            refine G_iconst 0 d_cX4_addNumber_54 (by decide +kernel) ?_
            refine G_istore (L' := [(6, .int 0), (4, .long gl10053), (2, .long ol9010), (0, .ref q7689), (1, .int p7691)]) d_cX4_addNumber_55 (Nat.le_of_ble_eq_true rfl) rfl ?_
            have hlp57_10290 : ∀ (n57_10290 : Nat) (g10287 : Int32) (gl10288 : Int64) (g10289 : Int32) (f10290 : Nat → Int32), gB g10287 0 10 → gB g10289 0 16384 → gF f10290 (-128) 127 → ((11 : Int) - g10287.toInt).toNat < n57_10290 → G (gV D I) l (gRm 1 21 0 0) (gM (gV D I) (po_7694_Listing_addNumber I q7689 q7690 p7691 p7692 f7693) gN 0 0) ky_7694_Listing_addNumber 57 [(6, .int g10287), (4, .long gl10288), (2, .long ol9010), (0, .ref q7689), (1, .int p7691)] [] [(q7689, .inr (9, [.ref q7690, .int g10289])), (q7690, .inl (I .byte, 16384, .inl f10290))] 0 0 := by
              intro n57_10290
              induction n57_10290 with
              | zero => intro g10287 gl10288 g10289 f10290 bg10287 bg10289 bf10290 hm57_10290; exact absurd hm57_10290 (Nat.not_lt_zero _)
              | succ n57_10290 ih57_10290 =>
                intro g10287 gl10288 g10289 f10290 bg10287 bg10289 bf10290 hm57_10290
                refine G_iload 0 d_cX4_addNumber_57 rfl ?_
                refine G_bipush 10 d_cX4_addNumber_59 (by decide +kernel) ?_
                refine G_icmp_ge 103 d_cX4_addNumber_61 (by decide +kernel) (fun hc10291 => ?_) (fun hc10291 => ?_)
                · have r10292 : 10 ≤ g10287.toInt := gj_leL hc10291 (show Int32.toInt 10 = 10 by decide)
                  have bg10287' : gB g10287 10 10 := ⟨by omega, by omega⟩
                  exact G_vret d_cX4_addNumber_103 rfl (Nat.le_of_ble_eq_true rfl) (Nat.le_of_ble_eq_true rfl) ⟨g10289, f10290, rfl, rfl, bg10289, bf10290⟩
                · have r10293 : g10287.toInt < 10 := gj_nleL hc10291 (show Int32.toInt 10 = 10 by decide)
                  have bg10287' : gB g10287 0 9 := ⟨by omega, by omega⟩
                  refine G_lload 1 d_cX4_addNumber_64 rfl ?_
                  refine G_lconst 0 d_cX4_addNumber_66 rfl ?_
                  refine G_lcmp d_cX4_addNumber_67 (G_nam fun z10294 hz10294 => ?_)
                  have bz10294 : gB z10294 (-1) 1 := gB_cmp hz10294
                  refine G_if_le 103 d_cX4_addNumber_68 (by decide +kernel) (fun hc10295 => ?_) (fun hc10295 => ?_)
                  · have r10296 : z10294.toInt ≤ 0 := gj_le hc10295 (show Int32.toInt 0 = 0 by decide)
                    have bz10294' : gB z10294 (-1) 0 := ⟨by omega, by omega⟩
                    exact G_vret d_cX4_addNumber_103 rfl (Nat.le_of_ble_eq_true rfl) (Nat.le_of_ble_eq_true rfl) ⟨g10289, f10290, rfl, rfl, bg10289, bf10290⟩
                  · have r10297 : 0 < z10294.toInt := gj_nle hc10295 (show Int32.toInt 0 = 0 by decide)
                    have bz10294' : gB z10294 1 1 := ⟨by omega, by omega⟩
                    have lhc10295 := gC_cmpS hz10294 (by omega)
                    refine G_aload_n 3 d_cX4_addNumber_71 rfl ?_
                    refine G_ldc2 48 d_cX4_addNumber_72 w_6_183 ?_
                    refine G_lload_n 2 d_cX4_addNumber_75 rfl ?_
                    refine G_lload 1 d_cX4_addNumber_76 rfl ?_
                    refine G_ldiv d_cX4_addNumber_78 lhc10295 (G_namL fun u10298 hu10298 => ?_)
                    refine G_ldc2 10 d_cX4_addNumber_79 w_6_182 ?_
                    refine G_lrem d_cX4_addNumber_82 (by decide) (G_namL fun u10299 hu10299 => ?_)
                    refine G_ladd d_cX4_addNumber_83 (G_namL fun u10300 hu10300 => ?_)
                    refine G_l2i d_cX4_addNumber_84 (G_nam fun z10301 hz10301 => ?_)
                    have bz10301 : gB z10301 (-2147483648) 2147483647 := gB_any z10301
                    refine G_i2c d_cX4_addNumber_85 (G_nam fun z10302 hz10302 => ?_)
                    have bz10302 : gB z10302 0 65535 := gB_i2c hz10302
                    refine G_callV (As := [.int z10302]) (wr := []) (gV_ok D I) (ct_7602_Listing_addByte l hl0 D I q7689 q7690 z10302 g10289 f10290 bz10302 bg10289 bf10290) d_cX4_addNumber_86 ⟨w_6_171, w_1_13, w_6_174, by decide, rfl, (Nat.le_of_ble_eq_true rfl), (Nat.le_of_ble_eq_true rfl)⟩ w_6_173 w_p_66 0 rfl rfl [0, 1] [] rfl rfl rfl rfl (by decide) (Nat.le_of_ble_eq_true rfl) (Nat.le_of_ble_eq_true rfl) (Nat.le_of_ble_eq_true rfl) (fun r w hp => ?_) (fun _ _ _ z => z.elim)
                    obtain ⟨o10303, f10304, rfl, rfl, bo10303, bf10304⟩ := hp
                    change G _ _ _ _ _ _ _ _ _ _ _
                    refine G_ws (ws' := [(q7689, .inr (9, [.ref q7690, .int o10303])), (q7690, .inl (I .byte, 16384, .inl f10304))]) (cs' := 0) (sl' := 0) rfl rfl rfl ?_
                    refine G_lload 1 d_cX4_addNumber_89 rfl ?_
                    refine G_ldc2 10 d_cX4_addNumber_91 w_6_182 ?_
                    refine G_ldiv d_cX4_addNumber_94 (by decide) (G_namL fun u10305 hu10305 => ?_)
                    refine G_lstore (L' := [(4, .long u10305), (6, .int g10287), (2, .long ol9010), (0, .ref q7689), (1, .int p7691)]) d_cX4_addNumber_95 (Nat.le_of_ble_eq_true rfl) rfl ?_
                    obtain ⟨z10306, hz10306⟩ : ∃ z : Int32, z = g10287 + Int32.ofInt 1 := ⟨_, rfl⟩
                    have ez10306 : z10306.toInt = g10287.toInt + 1 := gI_inc hz10306 (by decide) bg10287' (by decide) (by decide)
                    have bz10306 : gB z10306 1 10 := ⟨by omega, by omega⟩
                    refine G_iinc (L' := [(6, .int z10306), (4, .long u10305), (2, .long ol9010), (0, .ref q7689), (1, .int p7691)]) z10306 1 d_cX4_addNumber_97 rfl hz10306.symm (Nat.le_of_ble_eq_true rfl) rfl ?_
                    refine G_goto 57 d_cX4_addNumber_100 (by decide +kernel) ?_
                    exact ih57_10290 z10306 u10305 o10303 f10304 (gB_w bz10306 (by decide) (by decide)) (gB_w bo10303 (by decide) (by decide)) bf10304 (by omega)
            exact hlp57_10290 (((11 : Int) - 0).toNat + 1) 0 gl10053 o9007 f9008 (gB_w (gBl (show Int32.toInt 0 = 0 by decide)) (by decide) (by decide)) (gB_w bo9007 (by decide) (by decide)) bf9008 (Nat.lt_succ_self _)
          · have r10307 : z10181.toInt ≤ 0 := gj_nltL hc10182 (show Int32.toInt 0 = 0 by decide)
            have bz10181' : gB z10181 (-1) 0 := ⟨by omega, by omega⟩
            refine G_lload 1 d_cX4_addNumber_40 rfl ?_
            refine G_ldc2 10 d_cX4_addNumber_42 w_6_182 ?_
            refine G_lmul d_cX4_addNumber_45 (G_namL fun u10308 hu10308 => ?_)
            refine G_lstore (L' := [(4, .long u10308), (6, .int g10052), (2, .long ol9010), (0, .ref q7689), (1, .int p7691)]) d_cX4_addNumber_46 (Nat.le_of_ble_eq_true rfl) rfl ?_
            obtain ⟨z10309, hz10309⟩ : ∃ z : Int32, z = g10052 + Int32.ofInt 1 := ⟨_, rfl⟩
            have ez10309 : z10309.toInt = g10052.toInt + 1 := gI_inc hz10309 (by decide) bg10052' (by decide) (by decide)
            have bz10309 : gB z10309 1 9 := ⟨by omega, by omega⟩
            refine G_iinc (L' := [(6, .int z10309), (4, .long u10308), (2, .long ol9010), (0, .ref q7689), (1, .int p7691)]) z10309 1 d_cX4_addNumber_48 rfl hz10309.symm (Nat.le_of_ble_eq_true rfl) rfl ?_
            refine G_goto 22 d_cX4_addNumber_51 (by decide +kernel) ?_
            exact ih22_10053 z10309 u10308 (gB_w bz10309 (by decide) (by decide)) (by omega)
    exact hlp22_10053 (((10 : Int) - 0).toNat + 1) 0 1 (gB_w (gBl (show Int32.toInt 0 = 0 by decide)) (by decide) (by decide)) (Nat.lt_succ_self _)
