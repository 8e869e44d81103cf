section
theorem dr_cJ5_getValue_6d5f1_0 : decode cJ5_getValue_6d5f1 0 = .ok (.aload_n 0, 1) := by decide +kernel
theorem dr_cJ5_getValue_6d5f1_1 : decode cJ5_getValue_6d5f1 1 = .ok (.getfield 15, 3) := by decide +kernel
theorem dr_cJ5_getValue_6d5f1_4 : decode cJ5_getValue_6d5f1 4 = .ok (.areturn, 1) := by decide +kernel
theorem dr_cJ7_checkLength_df160_0 : decode cJ7_checkLength_df160 0 = .ok (.iload_n 1, 1) := by decide +kernel
theorem dr_cJ7_checkLength_df160_1 : decode cJ7_checkLength_df160 1 = .ok (.iload_n 0, 1) := by decide +kernel
theorem dr_cJ7_checkLength_df160_2 : decode cJ7_checkLength_df160 2 = .ok (.if_icmp .ge 35, 3) := by decide +kernel
theorem dr_cJ7_checkLength_df160_37 : decode cJ7_checkLength_df160 37 = .ok (.return_, 1) := by decide +kernel
theorem dr_cJ7_copyOfRangeByte_39247_0 : decode cJ7_copyOfRangeByte_39247 0 = .ok (.iload_n 1, 1) := by decide +kernel
theorem dr_cJ7_copyOfRangeByte_39247_1 : decode cJ7_copyOfRangeByte_39247 1 = .ok (.iload_n 2, 1) := by decide +kernel
theorem dr_cJ7_copyOfRangeByte_39247_2 : decode cJ7_copyOfRangeByte_39247 2 = .ok (.invokestatic 343, 3) := by decide +kernel
theorem wr_8_99 : (Jvm.Cond.methodLink "java/util/Arrays" (343 : Nat) ({ cls := "java/util/Arrays", name := "checkLength", desc := "(II)V" } : Jvm.MethodName)) ∈ gw := gw_8 99 rfl rfl
theorem wr_8_101 : (Jvm.Cond.code ({ cls := "java/util/Arrays", name := "checkLength", desc := "(II)V" } : Jvm.MethodName) prog_44_method_131_code (2 : Nat) (Option.none : Option Jvm.ClassFile.FieldType)) ∈ gw := gw_8 101 rfl rfl
theorem wr_8_100 : (Jvm.Cond.static ({ cls := "java/util/Arrays", name := "checkLength", desc := "(II)V" } : Jvm.MethodName)) ∈ gw := gw_8 100 rfl rfl
theorem dr_cJ7_copyOfRangeByte_39247_5 : decode cJ7_copyOfRangeByte_39247 5 = .ok (.iload_n 2, 1) := by decide +kernel
theorem dr_cJ7_copyOfRangeByte_39247_6 : decode cJ7_copyOfRangeByte_39247 6 = .ok (.iload_n 1, 1) := by decide +kernel
theorem dr_cJ7_copyOfRangeByte_39247_7 : decode cJ7_copyOfRangeByte_39247 7 = .ok (.isub, 1) := by decide +kernel
theorem dr_cJ7_copyOfRangeByte_39247_8 : decode cJ7_copyOfRangeByte_39247 8 = .ok (.istore_n 3, 1) := by decide +kernel
theorem dr_cJ7_copyOfRangeByte_39247_9 : decode cJ7_copyOfRangeByte_39247 9 = .ok (.iload_n 3, 1) := by decide +kernel
theorem dr_cJ7_copyOfRangeByte_39247_10 : decode cJ7_copyOfRangeByte_39247 10 = .ok (.newarray .byte, 2) := by decide +kernel
theorem dr_cJ7_copyOfRangeByte_39247_12 : decode cJ7_copyOfRangeByte_39247 12 = .ok (.astore 4, 2) := by decide +kernel
theorem dr_cJ7_copyOfRangeByte_39247_14 : decode cJ7_copyOfRangeByte_39247 14 = .ok (.aload_n 0, 1) := by decide +kernel
theorem dr_cJ7_copyOfRangeByte_39247_15 : decode cJ7_copyOfRangeByte_39247 15 = .ok (.iload_n 1, 1) := by decide +kernel
theorem dr_cJ7_copyOfRangeByte_39247_16 : decode cJ7_copyOfRangeByte_39247 16 = .ok (.aload 4, 2) := by decide +kernel
theorem dr_cJ7_copyOfRangeByte_39247_18 : decode cJ7_copyOfRangeByte_39247 18 = .ok (.iconst 0, 1) := by decide +kernel
theorem dr_cJ7_copyOfRangeByte_39247_19 : decode cJ7_copyOfRangeByte_39247 19 = .ok (.aload_n 0, 1) := by decide +kernel
theorem dr_cJ7_copyOfRangeByte_39247_20 : decode cJ7_copyOfRangeByte_39247 20 = .ok (.arraylength, 1) := by decide +kernel
theorem dr_cJ7_copyOfRangeByte_39247_21 : decode cJ7_copyOfRangeByte_39247 21 = .ok (.iload_n 1, 1) := by decide +kernel
theorem dr_cJ7_copyOfRangeByte_39247_22 : decode cJ7_copyOfRangeByte_39247 22 = .ok (.isub, 1) := by decide +kernel
theorem dr_cJ7_copyOfRangeByte_39247_23 : decode cJ7_copyOfRangeByte_39247 23 = .ok (.iload_n 3, 1) := by decide +kernel
theorem dr_cJ7_copyOfRangeByte_39247_24 : decode cJ7_copyOfRangeByte_39247 24 = .ok (.invokestatic 304, 3) := by decide +kernel
theorem dr_cJ7_copyOfRangeByte_39247_27 : decode cJ7_copyOfRangeByte_39247 27 = .ok (.invokestatic 150, 3) := by decide +kernel
theorem dr_cJ7_copyOfRangeByte_39247_30 : decode cJ7_copyOfRangeByte_39247 30 = .ok (.aload 4, 2) := by decide +kernel
theorem dr_cJ7_copyOfRangeByte_39247_32 : decode cJ7_copyOfRangeByte_39247 32 = .ok (.areturn, 1) := by decide +kernel
theorem dr_cJ7_copyOfRange_39247_0 : decode cJ7_copyOfRange_39247 0 = .ok (.iload_n 1, 1) := by decide +kernel
theorem dr_cJ7_copyOfRange_39247_1 : decode cJ7_copyOfRange_39247 1 = .ok (.ifCond .ne 9, 3) := by decide +kernel
theorem dr_cJ7_copyOfRange_39247_4 : decode cJ7_copyOfRange_39247 4 = .ok (.iload_n 2, 1) := by decide +kernel
theorem dr_cJ7_copyOfRange_39247_5 : decode cJ7_copyOfRange_39247 5 = .ok (.aload_n 0, 1) := by decide +kernel
theorem dr_cJ7_copyOfRange_39247_6 : decode cJ7_copyOfRange_39247 6 = .ok (.arraylength, 1) := by decide +kernel
theorem dr_cJ7_copyOfRange_39247_7 : decode cJ7_copyOfRange_39247 7 = .ok (.if_icmp .eq 10, 3) := by decide +kernel
theorem dr_cJ7_copyOfRange_39247_17 : decode cJ7_copyOfRange_39247 17 = .ok (.aload_n 0, 1) := by decide +kernel
theorem dr_cJ7_copyOfRange_39247_18 : decode cJ7_copyOfRange_39247 18 = .ok (.invokevirtual 310, 3) := by decide +kernel
theorem wr_8_24 : (Jvm.Cond.methodLink "java/util/Arrays" (310 : Nat) ({ cls := "[B", name := "clone", desc := "()Ljava/lang/Object;" } : Jvm.MethodName)) ∈ gw := gw_8 24 rfl rfl
theorem wr_8_25 : (Jvm.Cond.sameMethod "[B" "java/lang/Object" "clone" "()Ljava/lang/Object;") ∈ gw := gw_8 25 rfl rfl
theorem wr_8_26 : (Jvm.Cond.native ({ cls := "java/lang/Object", name := "clone", desc := "()Ljava/lang/Object;" } : Jvm.MethodName)) ∈ gw := gw_8 26 rfl rfl
theorem wr_8_27 : (Jvm.Cond.instanceMethod ({ cls := "java/lang/Object", name := "clone", desc := "()Ljava/lang/Object;" } : Jvm.MethodName)) ∈ gw := gw_8 27 rfl rfl
theorem wr_8_28 : (Jvm.Cond.selects "[B" ({ cls := "[B", name := "clone", desc := "()Ljava/lang/Object;" } : Jvm.MethodName) ({ cls := "java/lang/Object", name := "clone", desc := "()Ljava/lang/Object;" } : Jvm.MethodName)) ∈ gw := gw_8 28 rfl rfl
theorem dr_cJ7_copyOfRange_39247_21 : decode cJ7_copyOfRange_39247 21 = .ok (.checkcast 311, 3) := by decide +kernel
theorem wr_8_30 : (Jvm.Cond.classLink "java/util/Arrays" (311 : Nat) "[B") ∈ gw := gw_8 30 rfl rfl
theorem dr_cJ7_copyOfRange_39247_24 : decode cJ7_copyOfRange_39247 24 = .ok (.areturn, 1) := by decide +kernel
theorem dr_cJ7_copyOfRange_39247_10 : decode cJ7_copyOfRange_39247 10 = .ok (.aload_n 0, 1) := by decide +kernel
theorem dr_cJ7_copyOfRange_39247_11 : decode cJ7_copyOfRange_39247 11 = .ok (.iload_n 1, 1) := by decide +kernel
theorem dr_cJ7_copyOfRange_39247_12 : decode cJ7_copyOfRange_39247 12 = .ok (.iload_n 2, 1) := by decide +kernel
theorem dr_cJ7_copyOfRange_39247_13 : decode cJ7_copyOfRange_39247 13 = .ok (.invokestatic 339, 3) := by decide +kernel
theorem wr_8_96 : (Jvm.Cond.methodLink "java/util/Arrays" (339 : Nat) ({ cls := "java/util/Arrays", name := "copyOfRangeByte", desc := "([BII)[B" } : Jvm.MethodName)) ∈ gw := gw_8 96 rfl rfl
theorem wr_8_98 : (Jvm.Cond.code ({ cls := "java/util/Arrays", name := "copyOfRangeByte", desc := "([BII)[B" } : Jvm.MethodName) prog_44_method_133_code (5 : Nat) (Option.some (Jvm.ClassFile.FieldType.array Jvm.ClassFile.FieldType.byte))) ∈ gw := gw_8 98 rfl rfl
theorem wr_8_97 : (Jvm.Cond.static ({ cls := "java/util/Arrays", name := "copyOfRangeByte", desc := "([BII)[B" } : Jvm.MethodName)) ∈ gw := gw_8 97 rfl rfl
theorem dr_cJ7_copyOfRange_39247_16 : decode cJ7_copyOfRange_39247 16 = .ok (.areturn, 1) := by decide +kernel
theorem dr_cJ0_init_db425_0 : decode cJ0_init_db425 0 = .ok (.aload_n 0, 1) := by decide +kernel
theorem dr_cJ0_init_db425_1 : decode cJ0_init_db425 1 = .ok (.invokespecial 1, 3) := by decide +kernel
theorem wr_8_78 : (Jvm.Cond.methodLink "java/lang/String" (1 : Nat) ({ cls := "java/lang/Object", name := "<init>", desc := "()V" } : Jvm.MethodName)) ∈ gw := gw_8 78 rfl rfl
theorem dr_cJ0_init_db425_4 : decode cJ0_init_db425 4 = .ok (.aload_n 1, 1) := by decide +kernel
theorem dr_cJ0_init_db425_5 : decode cJ0_init_db425 5 = .ok (.invokevirtual 552, 3) := by decide +kernel
theorem wr_8_79 : (Jvm.Cond.methodLink "java/lang/String" (552 : Nat) ({ cls := "java/lang/AbstractStringBuilder", name := "getValue", desc := "()[B" } : Jvm.MethodName)) ∈ gw := gw_8 79 rfl rfl
theorem wr_8_83 : (Jvm.Cond.code ({ cls := "java/lang/AbstractStringBuilder", name := "getValue", desc := "()[B" } : Jvm.MethodName) prog_21_method_64_code (1 : Nat) (Option.some (Jvm.ClassFile.FieldType.array Jvm.ClassFile.FieldType.byte))) ∈ gw := gw_8 83 rfl rfl
theorem wr_8_80 : (Jvm.Cond.instanceMethod ({ cls := "java/lang/AbstractStringBuilder", name := "getValue", desc := "()[B" } : Jvm.MethodName)) ∈ gw := gw_8 80 rfl rfl
theorem wr_8_82 : (Jvm.Cond.selects "java/lang/StringBuilder" ({ cls := "java/lang/AbstractStringBuilder", name := "getValue", desc := "()[B" } : Jvm.MethodName) ({ cls := "java/lang/AbstractStringBuilder", name := "getValue", desc := "()[B" } : Jvm.MethodName)) ∈ gw := gw_8 82 rfl rfl
theorem dr_cJ0_init_db425_8 : decode cJ0_init_db425 8 = .ok (.astore_n 3, 1) := by decide +kernel
theorem dr_cJ0_init_db425_9 : decode cJ0_init_db425 9 = .ok (.aload_n 1, 1) := by decide +kernel
theorem dr_cJ0_init_db425_10 : decode cJ0_init_db425 10 = .ok (.invokevirtual 549, 3) := by decide +kernel
theorem wr_8_84 : (Jvm.Cond.methodLink "java/lang/String" (549 : Nat) ({ cls := "java/lang/AbstractStringBuilder", name := "length", desc := "()I" } : Jvm.MethodName)) ∈ gw := gw_8 84 rfl rfl
theorem wr_8_87 : (Jvm.Cond.selects "java/lang/StringBuilder" ({ cls := "java/lang/AbstractStringBuilder", name := "length", desc := "()I" } : Jvm.MethodName) ({ cls := "java/lang/StringBuilder", name := "length", desc := "()I" } : Jvm.MethodName)) ∈ gw := gw_8 87 rfl rfl
theorem wr_8_88 : (Jvm.Cond.instanceMethod ({ cls := "java/lang/StringBuilder", name := "length", desc := "()I" } : Jvm.MethodName)) ∈ gw := gw_8 88 rfl rfl
theorem wr_1_20 : (Jvm.Cond.initialized "java/lang/StringBuilder") ∈ gw := gw_1 20 rfl rfl
theorem wr_8_89 : (Jvm.Cond.code ({ cls := "java/lang/StringBuilder", name := "length", desc := "()I" } : Jvm.MethodName) prog_35_method_93_code (1 : Nat) (Option.some Jvm.ClassFile.FieldType.int)) ∈ gw := gw_8 89 rfl rfl
theorem dr_cJ0_init_db425_13 : decode cJ0_init_db425 13 = .ok (.istore 4, 2) := by decide +kernel
theorem dr_cJ0_init_db425_15 : decode cJ0_init_db425 15 = .ok (.aload_n 1, 1) := by decide +kernel
theorem dr_cJ0_init_db425_16 : decode cJ0_init_db425 16 = .ok (.invokevirtual 1047, 3) := by decide +kernel
theorem wr_8_92 : (Jvm.Cond.methodLink "java/lang/String" (1047 : Nat) ({ cls := "java/lang/AbstractStringBuilder", name := "isLatin1", desc := "()Z" } : Jvm.MethodName)) ∈ gw := gw_8 92 rfl rfl
theorem dr_cJ0_init_db425_19 : decode cJ0_init_db425 19 = .ok (.ifCond .eq 22, 3) := by decide +kernel
theorem dr_cJ0_init_db425_22 : decode cJ0_init_db425 22 = .ok (.aload_n 0, 1) := by decide +kernel
theorem dr_cJ0_init_db425_23 : decode cJ0_init_db425 23 = .ok (.iconst 0, 1) := by decide +kernel
theorem dr_cJ0_init_db425_24 : decode cJ0_init_db425 24 = .ok (.putfield 15, 3) := by decide +kernel
theorem dr_cJ0_init_db425_27 : decode cJ0_init_db425 27 = .ok (.aload_n 0, 1) := by decide +kernel
theorem dr_cJ0_init_db425_28 : decode cJ0_init_db425 28 = .ok (.aload_n 3, 1) := by decide +kernel
theorem dr_cJ0_init_db425_29 : decode cJ0_init_db425 29 = .ok (.iconst 0, 1) := by decide +kernel
theorem dr_cJ0_init_db425_30 : decode cJ0_init_db425 30 = .ok (.iload 4, 2) := by decide +kernel
theorem dr_cJ0_init_db425_32 : decode cJ0_init_db425 32 = .ok (.invokestatic 54, 3) := by decide +kernel
theorem wr_8_93 : (Jvm.Cond.methodLink "java/lang/String" (54 : Nat) ({ cls := "java/util/Arrays", name := "copyOfRange", desc := "([BII)[B" } : Jvm.MethodName)) ∈ gw := gw_8 93 rfl rfl
theorem wr_8_95 : (Jvm.Cond.code ({ cls := "java/util/Arrays", name := "copyOfRange", desc := "([BII)[B" } : Jvm.MethodName) prog_44_method_132_code (3 : Nat) (Option.some (Jvm.ClassFile.FieldType.array Jvm.ClassFile.FieldType.byte))) ∈ gw := gw_8 95 rfl rfl
theorem wr_8_94 : (Jvm.Cond.static ({ cls := "java/util/Arrays", name := "copyOfRange", desc := "([BII)[B" } : Jvm.MethodName)) ∈ gw := gw_8 94 rfl rfl
theorem dr_cJ0_init_db425_35 : decode cJ0_init_db425 35 = .ok (.putfield 9, 3) := by decide +kernel
theorem dr_cJ0_init_db425_38 : decode cJ0_init_db425 38 = .ok (.goto 59, 3) := by decide +kernel
theorem dr_cJ0_init_db425_97 : decode cJ0_init_db425 97 = .ok (.return_, 1) := by decide +kernel
theorem dr_cJ0_init_81219_0 : decode cJ0_init_81219 0 = .ok (.aload_n 0, 1) := by decide +kernel
theorem dr_cJ0_init_81219_1 : decode cJ0_init_81219 1 = .ok (.aload_n 1, 1) := by decide +kernel
theorem dr_cJ0_init_81219_2 : decode cJ0_init_81219 2 = .ok (.aconst_null, 1) := by decide +kernel
theorem dr_cJ0_init_81219_3 : decode cJ0_init_81219 3 = .ok (.invokespecial 489, 3) := by decide +kernel
theorem wr_8_75 : (Jvm.Cond.methodLink "java/lang/String" (489 : Nat) ({ cls := "java/lang/String", name := "<init>", desc := "(Ljava/lang/AbstractStringBuilder;Ljava/lang/Void;)V" } : Jvm.MethodName)) ∈ gw := gw_8 75 rfl rfl
theorem wr_8_77 : (Jvm.Cond.code ({ cls := "java/lang/String", name := "<init>", desc := "(Ljava/lang/AbstractStringBuilder;Ljava/lang/Void;)V" } : Jvm.MethodName) prog_34_method_150_code (5 : Nat) (Option.none : Option Jvm.ClassFile.FieldType)) ∈ gw := gw_8 77 rfl rfl
theorem wr_8_76 : (Jvm.Cond.instanceMethod ({ cls := "java/lang/String", name := "<init>", desc := "(Ljava/lang/AbstractStringBuilder;Ljava/lang/Void;)V" } : Jvm.MethodName)) ∈ gw := gw_8 76 rfl rfl
theorem dr_cJ0_init_81219_6 : decode cJ0_init_81219 6 = .ok (.return_, 1) := by decide +kernel
theorem dr_cJ4_toString_0e30d_0 : decode cJ4_toString_0e30d 0 = .ok (.new 18, 3) := by decide +kernel
theorem wr_8_70 : (Jvm.Cond.classLink "java/lang/StringBuilder" (18 : Nat) "java/lang/String") ∈ gw := gw_8 70 rfl rfl
theorem wr_8_71 : (Jvm.Cond.instantiable "java/lang/String" (4 : Nat)) ∈ gw := gw_8 71 rfl rfl
theorem dr_cJ4_toString_0e30d_3 : decode cJ4_toString_0e30d 3 = .ok (.dup, 1) := by decide +kernel
theorem dr_cJ4_toString_0e30d_4 : decode cJ4_toString_0e30d 4 = .ok (.aload_n 0, 1) := by decide +kernel
theorem dr_cJ4_toString_0e30d_5 : decode cJ4_toString_0e30d 5 = .ok (.invokespecial 137, 3) := by decide +kernel
theorem wr_8_72 : (Jvm.Cond.methodLink "java/lang/StringBuilder" (137 : Nat) ({ cls := "java/lang/String", name := "<init>", desc := "(Ljava/lang/StringBuilder;)V" } : Jvm.MethodName)) ∈ gw := gw_8 72 rfl rfl
theorem wr_8_74 : (Jvm.Cond.code ({ cls := "java/lang/String", name := "<init>", desc := "(Ljava/lang/StringBuilder;)V" } : Jvm.MethodName) prog_34_method_53_code (2 : Nat) (Option.none : Option Jvm.ClassFile.FieldType)) ∈ gw := gw_8 74 rfl rfl
theorem wr_8_73 : (Jvm.Cond.instanceMethod ({ cls := "java/lang/String", name := "<init>", desc := "(Ljava/lang/StringBuilder;)V" } : Jvm.MethodName)) ∈ gw := gw_8 73 rfl rfl
theorem dr_cJ4_toString_0e30d_8 : decode cJ4_toString_0e30d 8 = .ok (.areturn, 1) := by decide +kernel
theorem dr_cJ1_equals_b5fdf_0 : decode cJ1_equals_b5fdf 0 = .ok (.aload_n 0, 1) := by decide +kernel
theorem dr_cJ1_equals_b5fdf_1 : decode cJ1_equals_b5fdf 1 = .ok (.arraylength, 1) := by decide +kernel
theorem dr_cJ1_equals_b5fdf_2 : decode cJ1_equals_b5fdf 2 = .ok (.aload_n 1, 1) := by decide +kernel
theorem dr_cJ1_equals_b5fdf_3 : decode cJ1_equals_b5fdf 3 = .ok (.arraylength, 1) := by decide +kernel
theorem dr_cJ1_equals_b5fdf_4 : decode cJ1_equals_b5fdf 4 = .ok (.if_icmp .ne 30, 3) := by decide +kernel
theorem dr_cJ1_equals_b5fdf_34 : decode cJ1_equals_b5fdf 34 = .ok (.iconst 0, 1) := by decide +kernel
theorem dr_cJ1_equals_b5fdf_35 : decode cJ1_equals_b5fdf 35 = .ok (.ireturn, 1) := by decide +kernel
theorem dr_cJ1_equals_b5fdf_7 : decode cJ1_equals_b5fdf 7 = .ok (.iconst 0, 1) := by decide +kernel
theorem dr_cJ1_equals_b5fdf_8 : decode cJ1_equals_b5fdf 8 = .ok (.istore_n 2, 1) := by decide +kernel
theorem dr_cJ1_equals_b5fdf_9 : decode cJ1_equals_b5fdf 9 = .ok (.iload_n 2, 1) := by decide +kernel
theorem dr_cJ1_equals_b5fdf_10 : decode cJ1_equals_b5fdf 10 = .ok (.aload_n 0, 1) := by decide +kernel
theorem dr_cJ1_equals_b5fdf_11 : decode cJ1_equals_b5fdf 11 = .ok (.arraylength, 1) := by decide +kernel
theorem dr_cJ1_equals_b5fdf_12 : decode cJ1_equals_b5fdf 12 = .ok (.if_icmp .ge 20, 3) := by decide +kernel
theorem dr_cJ1_equals_b5fdf_32 : decode cJ1_equals_b5fdf 32 = .ok (.iconst 1, 1) := by decide +kernel
theorem dr_cJ1_equals_b5fdf_33 : decode cJ1_equals_b5fdf 33 = .ok (.ireturn, 1) := by decide +kernel
theorem dr_cJ1_equals_b5fdf_15 : decode cJ1_equals_b5fdf 15 = .ok (.aload_n 0, 1) := by decide +kernel
theorem dr_cJ1_equals_b5fdf_16 : decode cJ1_equals_b5fdf 16 = .ok (.iload_n 2, 1) := by decide +kernel
theorem dr_cJ1_equals_b5fdf_17 : decode cJ1_equals_b5fdf 17 = .ok (.baload, 1) := by decide +kernel
theorem dr_cJ1_equals_b5fdf_18 : decode cJ1_equals_b5fdf 18 = .ok (.aload_n 1, 1) := by decide +kernel
theorem dr_cJ1_equals_b5fdf_19 : decode cJ1_equals_b5fdf 19 = .ok (.iload_n 2, 1) := by decide +kernel
theorem dr_cJ1_equals_b5fdf_20 : decode cJ1_equals_b5fdf 20 = .ok (.baload, 1) := by decide +kernel
theorem dr_cJ1_equals_b5fdf_21 : decode cJ1_equals_b5fdf 21 = .ok (.if_icmp .eq 5, 3) := by decide +kernel
theorem dr_cJ1_equals_b5fdf_26 : decode cJ1_equals_b5fdf 26 = .ok (.iinc 2 1, 3) := by decide +kernel
theorem dr_cJ1_equals_b5fdf_29 : decode cJ1_equals_b5fdf 29 = .ok (.goto (-20), 3) := by decide +kernel
theorem dr_cJ1_equals_b5fdf_24 : decode cJ1_equals_b5fdf 24 = .ok (.iconst 0, 1) := by decide +kernel
theorem dr_cJ1_equals_b5fdf_25 : decode cJ1_equals_b5fdf 25 = .ok (.ireturn, 1) := by decide +kernel
theorem dr_cJ0_equals_9ea2d_0 : decode cJ0_equals_9ea2d 0 = .ok (.aload_n 0, 1) := by decide +kernel
theorem dr_cJ0_equals_9ea2d_1 : decode cJ0_equals_9ea2d 1 = .ok (.aload_n 1, 1) := by decide +kernel
theorem dr_cJ0_equals_9ea2d_2 : decode cJ0_equals_9ea2d 2 = .ok (.if_acmp .ne 5, 3) := by decide +kernel
theorem dr_cJ0_equals_9ea2d_7 : decode cJ0_equals_9ea2d 7 = .ok (.aload_n 1, 1) := by decide +kernel
theorem dr_cJ0_equals_9ea2d_8 : decode cJ0_equals_9ea2d 8 = .ok (.instanceof 10, 3) := by decide +kernel
theorem wr_9_149 : (Jvm.Cond.classLink "java/lang/String" (10 : Nat) "java/lang/String") ∈ gw := gw_9 149 rfl rfl
theorem dr_cJ0_equals_9ea2d_11 : decode cJ0_equals_9ea2d 11 = .ok (.ifCond .eq 43, 3) := by decide +kernel
theorem dr_cJ0_equals_9ea2d_14 : decode cJ0_equals_9ea2d 14 = .ok (.aload_n 1, 1) := by decide +kernel
theorem dr_cJ0_equals_9ea2d_15 : decode cJ0_equals_9ea2d 15 = .ok (.checkcast 10, 3) := by decide +kernel
theorem dr_cJ0_equals_9ea2d_18 : decode cJ0_equals_9ea2d 18 = .ok (.astore_n 2, 1) := by decide +kernel
theorem dr_cJ0_equals_9ea2d_19 : decode cJ0_equals_9ea2d 19 = .ok (.getstatic 38, 3) := by decide +kernel
theorem dr_cJ0_equals_9ea2d_22 : decode cJ0_equals_9ea2d 22 = .ok (.ifCond .eq 14, 3) := by decide +kernel
theorem dr_cJ0_equals_9ea2d_25 : decode cJ0_equals_9ea2d 25 = .ok (.aload_n 0, 1) := by decide +kernel
theorem dr_cJ0_equals_9ea2d_26 : decode cJ0_equals_9ea2d 26 = .ok (.getfield 15, 3) := by decide +kernel
theorem dr_cJ0_equals_9ea2d_29 : decode cJ0_equals_9ea2d 29 = .ok (.aload_n 2, 1) := by decide +kernel
theorem dr_cJ0_equals_9ea2d_30 : decode cJ0_equals_9ea2d 30 = .ok (.getfield 15, 3) := by decide +kernel
theorem dr_cJ0_equals_9ea2d_33 : decode cJ0_equals_9ea2d 33 = .ok (.if_icmp .ne 21, 3) := by decide +kernel
theorem dr_cJ0_equals_9ea2d_36 : decode cJ0_equals_9ea2d 36 = .ok (.aload_n 0, 1) := by decide +kernel
theorem dr_cJ0_equals_9ea2d_37 : decode cJ0_equals_9ea2d 37 = .ok (.getfield 9, 3) := by decide +kernel
theorem dr_cJ0_equals_9ea2d_40 : decode cJ0_equals_9ea2d 40 = .ok (.aload_n 2, 1) := by decide +kernel
theorem dr_cJ0_equals_9ea2d_41 : decode cJ0_equals_9ea2d 41 = .ok (.getfield 9, 3) := by decide +kernel
theorem dr_cJ0_equals_9ea2d_44 : decode cJ0_equals_9ea2d 44 = .ok (.invokestatic 541, 3) := by decide +kernel
theorem wr_9_150 : (Jvm.Cond.methodLink "java/lang/String" (541 : Nat) ({ cls := "java/lang/StringLatin1", name := "equals", desc := "([B[B)Z" } : Jvm.MethodName)) ∈ gw := gw_9 150 rfl rfl
theorem wr_9_152 : (Jvm.Cond.code ({ cls := "java/lang/StringLatin1", name := "equals", desc := "([B[B)Z" } : Jvm.MethodName) prog_37_method_13_code (3 : Nat) (Option.some Jvm.ClassFile.FieldType.boolean)) ∈ gw := gw_9 152 rfl rfl
theorem wr_9_151 : (Jvm.Cond.static ({ cls := "java/lang/StringLatin1", name := "equals", desc := "([B[B)Z" } : Jvm.MethodName)) ∈ gw := gw_9 151 rfl rfl
theorem dr_cJ0_equals_9ea2d_47 : decode cJ0_equals_9ea2d 47 = .ok (.ifCond .eq 7, 3) := by decide +kernel
theorem dr_cJ0_equals_9ea2d_54 : decode cJ0_equals_9ea2d 54 = .ok (.iconst 0, 1) := by decide +kernel
theorem dr_cJ0_equals_9ea2d_55 : decode cJ0_equals_9ea2d 55 = .ok (.ireturn, 1) := by decide +kernel
theorem dr_cJ0_equals_9ea2d_50 : decode cJ0_equals_9ea2d 50 = .ok (.iconst 1, 1) := by decide +kernel
theorem dr_cJ0_equals_9ea2d_51 : decode cJ0_equals_9ea2d 51 = .ok (.goto 4, 3) := by decide +kernel
abbrev ky_659765_StringBuilder_append : gKey := (cJ4_append_15ec4, 2, "java/lang/StringBuilder", (some (FieldType.object "java/lang/StringBuilder")), [], "append", fun _ _ => True)
def pp_659765_StringBuilder_append (D : va_G) (I : FieldType → ClassId) (P659750 : List Nat) (F659751 : Nat → va_E) (q659752 : Nat) (q659753 : Nat) (qs659754 : Nat) (qb659755 : Nat) (bs659756 : List Int32) (p659757 : Int32) (p659758 : Int32) (f659759 : Nat → Int32) (n659760 : Nat) : Option Value → va_W → Nat → Nat → Prop := fun r w dc ds => ∃ (P659878 : List Nat) (F659879 : Nat → va_E) (o659874 : Int32) (q659875 : Nat) (n659876 : Nat) (f659877 : Nat → Int32), r = some (.ref q659752) ∧ w = va_pl P659878 F659879 ∧ rSub P659750 P659878 ∧ rFr [q659752, q659753] P659750 F659751 F659879 ∧ F659879 q659752 = .inr (1, [.ref q659875, .int 0, .int p659757, .int o659874]) ∧ F659879 q659875 = .inl (I .byte, n659876, .inl f659877) ∧ q659875 ∈ P659878 ∧ (q659875 = q659753 ∨ q659875 ∉ P659750) ∧ dc ≤ 1 ∧ ds ≤ 2 * (n659876 - n659760) ∧ gB o659874 0 16777216 ∧ gF f659877 (-128) 127 ∧ o659874.toInt = p659758.toInt + (bs659756.length : Int) ∧ o659874.toInt ≤ (n659876 : Int) ∧ (n659760 : Int) ≤ (n659876 : Int) ∧ (n659876 : Int) ≤ 2 * (n659760 : Int) + 2 + p659758.toInt + (bs659756.length : Int) ∧ ((n659876 : Int) = (n659760 : Int) ∨ (n659760 : Int) < o659874.toInt) ∧ tr_RStringBuilder_append6 bs659756 p659758 f659759 n659760 o659874 n659876 f659877
set_option maxRecDepth 100000 in
set_option maxHeartbeats 4000000 in
theorem cp_659765_StringBuilder_append (l : Launch) (hl0 : l.stackTraces = false) (D : va_G) (I : FieldType → ClassId) (P659750 : List Nat) (F659751 : Nat → va_E) (q659752 : Nat) (q659753 : Nat) (qs659754 : Nat) (qb659755 : Nat) (bs659756 : List Int32) (p659757 : Int32) (p659758 : Int32) (f659759 : Nat → Int32) (n659760 : Nat) (hmq659752 : q659752 ∈ P659750) (hmq659753 : q659753 ∈ P659750) (heq659752 : F659751 q659752 = .inr (1, [.ref q659753, .int 0, .int p659757, .int p659758])) (heq659753 : F659751 q659753 = .inl (I .byte, n659760, .inl f659759)) (hbs659756 : ∀ A s H, (gV D I).2.2.2.1 A s H → gSC qs659754 qb659755 bs659756 A s H) (nbs659756 : (bs659756.length : Int) ≤ 65535) (lbs659756 : gLB bs659756) (bp659757 : gB p659757 0 1) (bp659758 : gB p659758 0 16777216) (bf659759 : gF f659759 (-128) 127) (x659761 : (bs659756.length : Int) ≤ 65535) (x659762 : (n659760 : Int) ≤ 8388608 - 100000) (x659763 : p659758.toInt ≤ (n659760 : Int)) (x659764 : ((n659760 : Int) ≤ 16777216)) : CtA (gV D I) l yJ4_append_15ec4 cJ4_append_15ec4 2 (some (FieldType.object "java/lang/StringBuilder")) 5 106 1 (4 * n659760 + 4 + 2 * bs659756.length) [.ref q659752, .ref qs659754] (va_pl P659750 F659751) (pp_659765_StringBuilder_append D I P659750 F659751 q659752 q659753 qs659754 qb659755 bs659756 p659757 p659758 f659759 n659760) gNA := by
  refine CtA_ofF hl0 (by decide +kernel) (Nat.le_of_ble_eq_true rfl) ?_
  refine G_aload_n 0 dr_cJ4_append_15ec4_0 rfl ?_
  refine G_aload_n 1 dr_cJ4_append_15ec4_1 rfl ?_
  refine Gw_callSU (As := [.ref qs659754]) (gV_ok D I) (cp_659781_AbstractStringBuilder_append l hl0 D I P659750 F659751 q659752 q659753 qs659754 qb659755 bs659756 p659757 p659758 f659759 n659760 hmq659752 hmq659753 heq659752 heq659753 hbs659756 nbs659756 lbs659756 bp659757 bp659758 bf659759 (by have qa0 : Int32.toInt 0 = 0 := (by decide); omega) (by have qa0 : Int32.toInt 0 = 0 := (by decide); omega) (by have qa0 : Int32.toInt 0 = 0 := (by decide); omega) (by have qa0 : Int32.toInt 0 = 0 := (by decide); omega)) dr_cJ4_append_15ec4_2 ⟨wr_8_144, wr_1_19, wr_8_146, by decide, rfl, (Nat.le_of_ble_eq_true rfl), (Nat.le_of_ble_eq_true rfl)⟩ wr_8_145 wr_11_229 wr_7_73 wr_7_44 (by decide) hmq659752 heq659752 rfl (show 0 + 1 ≤ 1 by first | omega | decide) (show 0 + (4 * n659760 + 4 + 2 * bs659756.length) ≤ (4 * n659760 + 4 + 2 * bs659756.length) by first | omega | decide) (Nat.le_of_ble_eq_true rfl) (fun r659849 w659850 dc659846 ds659847 hp659848 => ?_)
  obtain ⟨P659861, F659862, o659851, q659852, n659853, f659854, rfl, rfl, hsb659863, hfr659864, he659865, he659866, hm659867, hq659868, hdc, hds, bo659851, bf659854, x659855, x659856, x659857, x659858, x659859, ht659860⟩ := hp659848
  have hm659869 : q659752 ∈ P659861 := hsb659863 q659752 hmq659752
  have hm659870 : q659753 ∈ P659861 := hsb659863 q659753 hmq659753
  have hor659871 : q659852 = q659753 ∨ q659852 ∉ P659750 := hq659868.elim Or.inl (fun n => Or.inr (fun z => n ((rSub_rf (P := P659750)) _ z)))
  have hsb659872 : rSub P659750 P659861 := rSub_tr (rSub_rf (P := P659750)) hsb659863
  have hfr659873 : rFr [q659752, q659753] P659750 F659751 F659862 := rFr_call (rSub_rf (P := P659750)) (rFr_rf (W := []) (P := P659750) (F := F659751)) hfr659864 (fun b hb hn => ⟨nm_n, (nm_c (fun e => hn (e ▸ List.mem_cons_self)) (nm_c (fun e => hn (e ▸ (List.mem_cons_of_mem _ List.mem_cons_self))) nm_n))⟩)
  change G _ _ _ _ _ _ _ (.ref q659752 :: _) _ _ _
  refine G_widen (cs' := 1) (sl' := 2 * (n659853 - n659760)) (by omega) (by omega) ?_
  refine G_pop dr_cJ4_append_15ec4_5 rfl ?_
  refine G_aload_n 0 dr_cJ4_append_15ec4_6 rfl ?_
  exact G_aretA (FieldType.object "java/lang/StringBuilder") dr_cJ4_append_15ec4_7 rfl (by first | exact Or.inl ⟨_, rfl⟩ | exact Or.inr ⟨_, rfl⟩) (Or.inr ⟨_, rfl⟩) (Nat.le_of_ble_eq_true rfl) (show 2 * (n659853 - n659760) ≤ (4 * n659760 + 4 + 2 * bs659756.length) by omega) ⟨P659861, F659862, o659851, q659852, n659853, f659854, rfl, rfl, hsb659872, hfr659873, he659865, he659866, hm659867, hor659871, (Nat.le_of_ble_eq_true rfl), (by omega), bo659851, bf659854, (by have qa0 : Int32.toInt 0 = 0 := (by decide); omega), (by have qa0 : Int32.toInt 0 = 0 := (by decide); omega), (by have qa0 : Int32.toInt 0 = 0 := (by decide); omega), (by have qa0 : Int32.toInt 0 = 0 := (by decide); omega), (by have qa0 : Int32.toInt 0 = 0 := (by decide); omega), (fun R c1 => c1 o659851 n659853 f659854 bo659851 ht659860)⟩
abbrev ky_659944_AbstractStringBuilder_getValue : gKey := (cJ5_getValue_6d5f1, 1, "java/lang/AbstractStringBuilder", (some (FieldType.array FieldType.byte)), [], "getValue", fun _ _ => True)
def pp_659944_AbstractStringBuilder_getValue (D : va_G) (I : FieldType → ClassId) (P659935 : List Nat) (F659936 : Nat → va_E) (q659937 : Nat) (q659938 : Nat) (p659939 : Int32) (p659940 : Int32) (f659941 : Nat → Int32) (n659942 : Nat) : Option Value → va_W → Nat → Nat → Prop := fun r w dc ds => r = some (.ref q659938) ∧ w = va_pl P659935 F659936 ∧ dc ≤ 0 ∧ ds ≤ 0
set_option maxRecDepth 100000 in
set_option maxHeartbeats 4000000 in
theorem cp_659944_AbstractStringBuilder_getValue (l : Launch) (hl0 : l.stackTraces = false) (D : va_G) (I : FieldType → ClassId) (P659935 : List Nat) (F659936 : Nat → va_E) (q659937 : Nat) (q659938 : Nat) (p659939 : Int32) (p659940 : Int32) (f659941 : Nat → Int32) (n659942 : Nat) (hmq659937 : q659937 ∈ P659935) (hmq659938 : q659938 ∈ P659935) (heq659937 : F659936 q659937 = .inr (1, [.ref q659938, .int 0, .int p659939, .int p659940])) (heq659938 : F659936 q659938 = .inl (I .byte, n659942, .inl f659941)) (bp659939 : gB p659939 0 1) (bp659940 : gB p659940 0 16777216) (bf659941 : gF f659941 (-128) 127) (x659943 : ((n659942 : Int) ≤ 16777216)) : CtA (gV D I) l yJ5_getValue_6d5f1 cJ5_getValue_6d5f1 1 (some (FieldType.array FieldType.byte)) 0 0 0 0 [.ref q659937] (va_pl P659935 F659936) (pp_659944_AbstractStringBuilder_getValue D I P659935 F659936 q659937 q659938 p659939 p659940 f659941 n659942) gNA := by
  refine CtA_ofF hl0 (by decide +kernel) (Nat.le_of_ble_eq_true rfl) ?_
  refine G_aload_n 0 dr_cJ5_getValue_6d5f1_0 rfl ?_
  refine Gp_get 0 hmq659937 heq659937 dr_cJ5_getValue_6d5f1_1 (gk_J4 D I) (Nat.le_of_ble_eq_true rfl) wr_7_60 rfl ?_
  exact G_aretA (FieldType.array FieldType.byte) dr_cJ5_getValue_6d5f1_4 rfl (by first | exact Or.inl ⟨_, rfl⟩ | exact Or.inr ⟨_, rfl⟩) (Or.inr ⟨_, rfl⟩) (Nat.le_of_ble_eq_true rfl) (Nat.le_of_ble_eq_true rfl) ⟨rfl, rfl, (Nat.le_of_ble_eq_true rfl), (Nat.le_of_ble_eq_true rfl)⟩
abbrev ky_660006_Arrays_checkLength : gKey := (cJ7_checkLength_df160, 2, "java/util/Arrays", none, [], "checkLength", fun _ _ => True)
def pp_660006_Arrays_checkLength (D : va_G) (I : FieldType → ClassId) (P660003 : List Nat) (F660004 : Nat → va_E) (p660005 : Int32) : Option Value → va_W → Nat → Nat → Prop := fun r w dc ds => r = none ∧ w = va_pl P660003 F660004 ∧ dc ≤ 0 ∧ ds ≤ 0
set_option maxRecDepth 100000 in
set_option maxHeartbeats 4000000 in
theorem cp_660006_Arrays_checkLength (l : Launch) (hl0 : l.stackTraces = false) (D : va_G) (I : FieldType → ClassId) (P660003 : List Nat) (F660004 : Nat → va_E) (p660005 : Int32) (bp660005 : gB p660005 0 16777216) : CtA (gV D I) l yJ7_checkLength_df160 cJ7_checkLength_df160 2 none 0 0 0 0 [.int 0, .int p660005] (va_pl P660003 F660004) (pp_660006_Arrays_checkLength D I P660003 F660004 p660005) gNA := by
  refine CtA_ofF hl0 (by decide +kernel) (Nat.le_of_ble_eq_true rfl) ?_
  refine G_iload_n 1 dr_cJ7_checkLength_df160_0 rfl ?_
  refine G_iload_n 0 dr_cJ7_checkLength_df160_1 rfl ?_
  refine G_icmp_ge 37 dr_cJ7_checkLength_df160_2 (by decide +kernel) (fun _ => ?_) (fun hc => absurd (show False by have := gj_nleL hc (show Int32.toInt 0 = 0 by decide); omega) not_false)
  exact G_vretA dr_cJ7_checkLength_df160_37 rfl (Nat.le_of_ble_eq_true rfl) (Nat.le_of_ble_eq_true rfl) ⟨rfl, rfl, (Nat.le_of_ble_eq_true rfl), (Nat.le_of_ble_eq_true rfl)⟩
/- tr_RArrays_copyOfRangeByte: a.3.#, a.3.[] -/
def tr_RArrays_copyOfRangeByte (a2 : Int32) (a0_v : Nat → Int32) (a0_n : Nat) (o1 : Nat) (o2 : Nat → Int32) : Prop := ∀ R : (Nat) → (Nat → Int32) → Prop,
  (∀ (x1 : Int32) (x2 : Int32) (x3 : Int32) (x4 : Int32) (x5 : Nat → Int32), x1.toInt = a2.toInt - 0 → x2.toInt = (a0_n : Nat) → x3.toInt = x2.toInt - 0 → (x3.toInt ≥ x4.toInt ∧ x1.toInt ≥ x4.toInt ∧ (x4.toInt = x3.toInt ∨ x4.toInt = x1.toInt)) → (x5 = va_cpy a0_v (fun _ => 0) (0 : Int32).toNatClampNeg (0 : Int32).toNatClampNeg x4.toNatClampNeg) → R x1.toInt.toNat x5) →
  R o1 o2
abbrev ky_660002_Arrays_copyOfRangeByte : gKey := (cJ7_copyOfRangeByte_39247, 5, "java/util/Arrays", (some (FieldType.array FieldType.byte)), [], "copyOfRangeByte", fun _ _ => True)
def pp_660002_Arrays_copyOfRangeByte (D : va_G) (I : FieldType → ClassId) (P659994 : List Nat) (F659995 : Nat → va_E) (q659996 : Nat) (p659997 : Int32) (f659998 : Nat → Int32) (n659999 : Nat) : Option Value → va_W → Nat → Nat → Prop := fun r w dc ds => ∃ (P660040 : List Nat) (F660041 : Nat → va_E) (q660037 : Nat) (n660038 : Nat) (f660039 : Nat → Int32), r = some (.ref q660037) ∧ w = va_pl P660040 F660041 ∧ rSub P659994 P660040 ∧ rFr [] P659994 F659995 F660041 ∧ F660041 q659996 = .inl (I .byte, n659999, .inl f659998) ∧ F660041 q660037 = .inl (I .byte, n660038, .inl f660039) ∧ q660037 ∈ P660040 ∧ q660037 ∉ P659994 ∧ dc ≤ 1 ∧ ds ≤ p659997.toInt.toNat ∧ gF f660039 (-128) 127 ∧ (n660038 : Int) = p659997.toInt ∧ sK f659998 f660039 p659997.toInt ∧ tr_RArrays_copyOfRangeByte p659997 f659998 n659999 n660038 f660039
set_option maxRecDepth 100000 in
set_option maxHeartbeats 4000000 in
theorem cp_660002_Arrays_copyOfRangeByte (l : Launch) (hl0 : l.stackTraces = false) (D : va_G) (I : FieldType → ClassId) (P659994 : List Nat) (F659995 : Nat → va_E) (q659996 : Nat) (p659997 : Int32) (f659998 : Nat → Int32) (n659999 : Nat) (hmq659996 : q659996 ∈ P659994) (heq659996 : F659995 q659996 = .inl (I .byte, n659999, .inl f659998)) (bp659997 : gB p659997 0 16777216) (bf659998 : gF f659998 (-128) 127) (x660000 : p659997.toInt ≤ (n659999 : Int)) (x660001 : ((n659999 : Int) ≤ 16777216)) : CtA (gV D I) l yJ7_copyOfRangeByte_39247 cJ7_copyOfRangeByte_39247 5 (some (FieldType.array FieldType.byte)) 1 21 1 p659997.toInt.toNat [.ref q659996, .int 0, .int p659997] (va_pl P659994 F659995) (pp_660002_Arrays_copyOfRangeByte D I P659994 F659995 q659996 p659997 f659998 n659999) gNA := by
  refine CtA_ofF hl0 (by decide +kernel) (Nat.le_of_ble_eq_true rfl) ?_
  refine G_iload_n 1 dr_cJ7_copyOfRangeByte_39247_0 rfl ?_
  refine G_iload_n 2 dr_cJ7_copyOfRangeByte_39247_1 rfl ?_
  refine Gw_callS (As := [.int 0, .int p659997]) (gV_ok D I) (cp_660006_Arrays_checkLength l hl0 D I P659994 F659995 p659997 bp659997) dr_cJ7_copyOfRangeByte_39247_2 ⟨wr_8_99, wr_1_30, wr_8_101, by decide, rfl, (Nat.le_of_ble_eq_true rfl), (Nat.le_of_ble_eq_true rfl)⟩ wr_8_100 (show 0 + 0 ≤ 1 by first | omega | decide) (show 0 + 0 ≤ p659997.toInt.toNat by first | omega | decide) (Nat.le_of_ble_eq_true rfl) (fun r660010 w660011 dc660007 ds660008 hp660009 => ?_) (fun _ _ _ _ _ z => z.elim)
  obtain ⟨rfl, rfl, hdc, hds⟩ := hp660009
  change G _ _ _ _ _ _ _ _ _ _ _
  refine G_widen (cs' := 0) (sl' := 0) (by omega) (by omega) ?_
  refine G_iload_n 2 dr_cJ7_copyOfRangeByte_39247_5 rfl ?_
  refine G_iload_n 1 dr_cJ7_copyOfRangeByte_39247_6 rfl ?_
  refine G_isub dr_cJ7_copyOfRangeByte_39247_7 (G_nam fun z660012 hz660012 => ?_)
  have ez660012 : z660012.toInt = p659997.toInt - 0 := by rw [gI_sub hz660012 bp659997 (gBl (show Int32.toInt 0 = 0 by decide)) (by decide) (by decide), show Int32.toInt 0 = 0 from by decide]
  have bz660012 : gB z660012 0 16777216 := gB_sub (gI_sub hz660012 bp659997 (gBl (show Int32.toInt 0 = 0 by decide)) (by decide) (by decide)) bp659997 (gBl (show Int32.toInt 0 = 0 by decide)) (by decide) (by decide)
  refine G_istore_n (L' := [(3, .int z660012), (0, .ref q659996), (1, .int 0), (2, .int p659997)]) dr_cJ7_copyOfRangeByte_39247_8 (Nat.le_of_ble_eq_true rfl) rfl ?_
  refine G_iload_n 0 dr_cJ7_copyOfRangeByte_39247_9 rfl ?_
  refine G_newa 1 (z660012.toInt.toNat, .inl (fun _ => 0)) dr_cJ7_copyOfRangeByte_39247_10 rfl rfl (by intro C h; cases h) wr_1_66 (fun _ => ga_byte _ _) (g_n0 (by omega)) rfl (show z660012.toInt.toNat * 1 ≤ 536870912 by omega) (show 0 + 1 ≤ 1 by first | omega | decide) (show 0 + z660012.toInt.toNat ≤ p659997.toInt.toNat by first | omega | decide) (fun q660013 => Gp_in (fun P660014 F660015 hq660016 hP660017 e660018 n660019 => ?_))
  refine G_widen (cs' := 1) (sl' := z660012.toInt.toNat) (by omega) (by omega) ?_
  have he660020 : F660015 q659996 = .inl (I .byte, n659999, .inl f659998) := (n660019 q659996 (fun h => hq660016 (h ▸ hmq659996))).trans heq659996
  have he660021 : F660015 q660013 = .inl (I .byte, z660012.toInt.toNat, .inl (fun _ => 0)) := e660018
  have hm660022 : q659996 ∈ P660014 := (hP660017 q659996).mpr (Or.inl hmq659996)
  have hm660023 : q660013 ∈ P660014 := (hP660017 q660013).mpr (Or.inr rfl)
  have hq660024 : q660013 ∉ P659994 := fun z => hq660016 ((rSub_rf (P := P659994)) q660013 z)
  have hfr660025 : rFr [] P659994 F659995 F660015 := rFr_new (rSub_rf (P := P659994)) hq660016 (rFr_rf (W := []) (P := P659994) (F := F659995)) n660019
  have hsb660026 : rSub P659994 P660014 := rSub_new (rSub_rf (P := P659994)) hP660017
  refine G_astore (L' := [(4, .ref q660013), (3, .int z660012), (0, .ref q659996), (1, .int 0), (2, .int p659997)]) dr_cJ7_copyOfRangeByte_39247_12 (Nat.le_of_ble_eq_true rfl) rfl ?_
  refine G_aload_n 2 dr_cJ7_copyOfRangeByte_39247_14 rfl ?_
  refine G_iload_n 3 dr_cJ7_copyOfRangeByte_39247_15 rfl ?_
  refine G_aload 0 dr_cJ7_copyOfRangeByte_39247_16 rfl ?_
  refine G_iconst 0 dr_cJ7_copyOfRangeByte_39247_18 (by decide +kernel) ?_
  refine G_aload_n 2 dr_cJ7_copyOfRangeByte_39247_19 rfl ?_
  refine Gp_alen (Int32.ofNat n659999) 1 hm660022 he660020 dr_cJ7_copyOfRangeByte_39247_20 rfl rfl (G_nam fun z660027 hz660027 => ?_)
  have ez660027 : z660027.toInt = (n659999 : Nat) := gI_ofM hz660027 (by omega)
  have bz660027 : gB z660027 0 16777216 := ⟨by omega, by omega⟩
  refine G_iload_n 3 dr_cJ7_copyOfRangeByte_39247_21 rfl ?_
  refine G_isub dr_cJ7_copyOfRangeByte_39247_22 (G_nam fun z660028 hz660028 => ?_)
  have ez660028 : z660028.toInt = z660027.toInt - 0 := by rw [gI_sub hz660028 bz660027 (gBl (show Int32.toInt 0 = 0 by decide)) (by decide) (by decide), show Int32.toInt 0 = 0 from by decide]
  have bz660028 : gB z660028 0 16777216 := gB_sub (gI_sub hz660028 bz660027 (gBl (show Int32.toInt 0 = 0 by decide)) (by decide) (by decide)) bz660027 (gBl (show Int32.toInt 0 = 0 by decide)) (by decide) (by decide)
  refine G_iload_n 1 dr_cJ7_copyOfRangeByte_39247_23 rfl ?_
  refine G_mmin dr_cJ7_copyOfRangeByte_39247_24 wr_8_31 wr_3_227 wr_1_6 wr_3_228 (Nat.le_of_ble_eq_true rfl) (Nat.le_of_ble_eq_true rfl) (show 1 ≤ 1 by first | omega | decide) (show z660012.toInt.toNat ≤ p659997.toInt.toNat by first | omega | decide) (G_nam fun z660029 hz660029 => ?_)
  have ez660029 : z660028.toInt ≥ z660029.toInt ∧ z660012.toInt ≥ z660029.toInt ∧ (z660029.toInt = z660028.toInt ∨ z660029.toInt = z660012.toInt) := by have := gI_min hz660029; omega
  have bz660029 : gB z660029 0 16777216 := ⟨by omega, by omega⟩
  refine Gp_copyp 1 hm660022 hm660023 he660020 he660021 dr_cJ7_copyOfRangeByte_39247_27 wr_8_32 wr_5_113 wr_5_112 wr_1_34 rfl rfl (fun j => gT_byte (bf659998 j)) (by decide) (by decide) (by omega) (by have qa0 : Int32.toInt 0 = 0 := (by decide); omega) (by have qa0 : Int32.toInt 0 = 0 := (by decide); omega) (Nat.le_of_ble_eq_true rfl) (Nat.le_of_ble_eq_true rfl) (fun F660030 e660031 n660032 => ?_)
  obtain ⟨f660033, hf660033⟩ : ∃ z, z = va_cpy f659998 (fun _ => 0) (0 : Int32).toNatClampNeg (0 : Int32).toNatClampNeg z660029.toNatClampNeg := ⟨_, rfl⟩
  rw [← hf660033] at e660031
  have bf660033 : gF f660033 (-128) 127 := gF_cpy hf660033 bf659998 (gF_w gF_0 (by decide) (by decide))
  have he660034 : F660030 q659996 = .inl (I .byte, n659999, .inl f659998) := (n660032 q659996 (fun h => hq660024 (h ▸ hmq659996))).trans he660020
  have he660035 : F660030 q660013 = .inl (I .byte, z660012.toInt.toNat, .inl f660033) := e660031
  have hfr660036 : rFr [] P659994 F659995 F660030 := rFr_newp hq660024 hfr660025 n660032
  refine G_aload 0 dr_cJ7_copyOfRangeByte_39247_30 rfl ?_
  exact G_aretA (FieldType.array FieldType.byte) dr_cJ7_copyOfRangeByte_39247_32 rfl (by first | exact Or.inl ⟨_, rfl⟩ | exact Or.inr ⟨_, rfl⟩) (Or.inr ⟨_, rfl⟩) (Nat.le_of_ble_eq_true rfl) (show z660012.toInt.toNat ≤ p659997.toInt.toNat by omega) ⟨P660014, F660030, q660013, z660012.toInt.toNat, f660033, rfl, rfl, hsb660026, hfr660036, he660034, he660035, hm660023, hq660024, (Nat.le_of_ble_eq_true rfl), (by omega), bf660033, (by have qa0 : Int32.toInt 0 = 0 := (by decide); omega), (sK_cp2 hf660033 (by decide) (by decide) (by omega)), (fun R c1 => c1 z660012 z660027 z660028 z660029 f660033 ez660012 ez660027 ez660028 ez660029 hf660033)⟩
/- tr_RArrays_copyOfRange: a.3.#, a.3.[] -/
def tr_RArrays_copyOfRange (a2 : Int32) (a0_v : Nat → Int32) (a0_n : Nat) (o1 : Nat) (o2 : Nat → Int32) : Prop := ∀ R : (Nat) → (Nat → Int32) → Prop,
  (∀ (x1 : Int32), x1.toInt = (a0_n : Nat) → a2.toInt = x1.toInt → R a0_n a0_v) →
  (∀ (x1 : Int32) (x2 : Nat) (x3 : Nat → Int32), x1.toInt = (a0_n : Nat) → a2.toInt ≠ x1.toInt → tr_RArrays_copyOfRangeByte a2 a0_v a0_n x2 x3 → R x2 x3) →
  R o1 o2
abbrev ky_659975_Arrays_copyOfRange : gKey := (cJ7_copyOfRange_39247, 3, "java/util/Arrays", (some (FieldType.array FieldType.byte)), [], "copyOfRange", fun _ _ => True)
def pp_659975_Arrays_copyOfRange (D : va_G) (I : FieldType → ClassId) (P659967 : List Nat) (F659968 : Nat → va_E) (q659969 : Nat) (p659970 : Int32) (f659971 : Nat → Int32) (n659972 : Nat) : Option Value → va_W → Nat → Nat → Prop := fun r w dc ds => ∃ (P660068 : List Nat) (F660069 : Nat → va_E) (q660065 : Nat) (n660066 : Nat) (f660067 : Nat → Int32), r = some (.ref q660065) ∧ w = va_pl P660068 F660069 ∧ rSub P659967 P660068 ∧ rFr [] P659967 F659968 F660069 ∧ F660069 q659969 = .inl (I .byte, n659972, .inl f659971) ∧ F660069 q660065 = .inl (I .byte, n660066, .inl f660067) ∧ q660065 ∈ P660068 ∧ q660065 ∉ P659967 ∧ dc ≤ 1 ∧ ds ≤ p659970.toInt.toNat ∧ gF f660067 (-128) 127 ∧ (n660066 : Int) = p659970.toInt ∧ sK f659971 f660067 p659970.toInt ∧ tr_RArrays_copyOfRange p659970 f659971 n659972 n660066 f660067
set_option maxRecDepth 100000 in
set_option maxHeartbeats 4000000 in
theorem cp_659975_Arrays_copyOfRange (l : Launch) (hl0 : l.stackTraces = false) (D : va_G) (I : FieldType → ClassId) (P659967 : List Nat) (F659968 : Nat → va_E) (q659969 : Nat) (p659970 : Int32) (f659971 : Nat → Int32) (n659972 : Nat) (hmq659969 : q659969 ∈ P659967) (heq659969 : F659968 q659969 = .inl (I .byte, n659972, .inl f659971)) (bp659970 : gB p659970 0 16777216) (bf659971 : gF f659971 (-128) 127) (x659973 : p659970.toInt ≤ (n659972 : Int)) (x659974 : ((n659972 : Int) ≤ 16777216)) : CtA (gV D I) l yJ7_copyOfRange_39247 cJ7_copyOfRange_39247 3 (some (FieldType.array FieldType.byte)) 2 45 1 p659970.toInt.toNat [.ref q659969, .int 0, .int p659970] (va_pl P659967 F659968) (pp_659975_Arrays_copyOfRange D I P659967 F659968 q659969 p659970 f659971 n659972) gNA := by
  refine CtA_ofF hl0 (by decide +kernel) (Nat.le_of_ble_eq_true rfl) ?_
  refine G_iload_n 1 dr_cJ7_copyOfRange_39247_0 rfl ?_
  refine G_if_ne 10 dr_cJ7_copyOfRange_39247_1 (by decide +kernel) (fun hc => absurd hc (by decide)) (fun _ => ?_)
  refine G_iload_n 2 dr_cJ7_copyOfRange_39247_4 rfl ?_
  refine G_aload_n 0 dr_cJ7_copyOfRange_39247_5 rfl ?_
  refine Gp_alen (Int32.ofNat n659972) 1 hmq659969 heq659969 dr_cJ7_copyOfRange_39247_6 rfl rfl (G_nam fun z659976 hz659976 => ?_)
  have ez659976 : z659976.toInt = (n659972 : Nat) := gI_ofM hz659976 (by omega)
  have bz659976 : gB z659976 0 16777216 := ⟨by omega, by omega⟩
  refine G_icmp_eq 17 dr_cJ7_copyOfRange_39247_7 (by decide +kernel) (fun hc659977 => ?_) (fun hc659977 => ?_)
  · have r659978 : p659970.toInt = z659976.toInt := gC_eq hc659977
    refine G_aload_n 0 dr_cJ7_copyOfRange_39247_17 rfl ?_
    refine Gp_clone 1 hmq659969 heq659969 rfl dr_cJ7_copyOfRange_39247_18 wr_8_24 wr_8_25 wr_8_26 wr_8_27 wr_8_28 (fun _ _ _ h => gn_w 76 rfl h) bf659971 (Nat.le_of_ble_eq_true rfl) (Nat.le_of_ble_eq_true rfl) (show 0 + 1 ≤ 1 by first | omega | decide) (show 0 + n659972 ≤ p659970.toInt.toNat by first | omega | decide) (fun q659979 P659980 F659981 hq659982 hP659983 e659984 n659985 => ?_)
    refine G_widen (cs' := 1) (sl' := n659972) (by omega) (by omega) ?_
    have he659986 : F659981 q659969 = .inl (I .byte, n659972, .inl f659971) := (n659985 q659969 (fun h => hq659982 (h ▸ hmq659969))).trans heq659969
    have he659987 : F659981 q659979 = .inl (I .byte, n659972, .inl f659971) := e659984
    have hm659988 : q659969 ∈ P659980 := (hP659983 q659969).mpr (Or.inl hmq659969)
    have hm659989 : q659979 ∈ P659980 := (hP659983 q659979).mpr (Or.inr rfl)
    have hq659990 : q659979 ∉ P659967 := fun z => hq659982 ((rSub_rf (P := P659967)) q659979 z)
    have hfr659991 : rFr [] P659967 F659968 F659981 := rFr_new (rSub_rf (P := P659967)) hq659982 (rFr_rf (W := []) (P := P659967) (F := F659968)) n659985
    have hsb659992 : rSub P659967 P659980 := rSub_new (rSub_rf (P := P659967)) hP659983
    refine Gp_casA 1 hm659989 he659987 rfl dr_cJ7_copyOfRange_39247_21 wr_8_30 ?_
    exact G_aretA (FieldType.array FieldType.byte) dr_cJ7_copyOfRange_39247_24 rfl (by first | exact Or.inl ⟨_, rfl⟩ | exact Or.inr ⟨_, rfl⟩) (Or.inr ⟨_, rfl⟩) (Nat.le_of_ble_eq_true rfl) (show n659972 ≤ p659970.toInt.toNat by omega) ⟨P659980, F659981, q659979, n659972, f659971, rfl, rfl, hsb659992, hfr659991, he659986, he659987, hm659989, hq659990, (Nat.le_of_ble_eq_true rfl), (by omega), bf659971, (by have qa0 : Int32.toInt 0 = 0 := (by decide); omega), sK_rf, (fun R c1 c2 => c1 z659976 ez659976 r659978)⟩
  · have r659993 : p659970.toInt ≠ z659976.toInt := gC_ne hc659977
    refine G_aload_n 0 dr_cJ7_copyOfRange_39247_10 rfl ?_
    refine G_iload_n 1 dr_cJ7_copyOfRange_39247_11 rfl ?_
    refine G_iload_n 2 dr_cJ7_copyOfRange_39247_12 rfl ?_
    refine Gw_callS (As := [.ref q659969, .int 0, .int p659970]) (gV_ok D I) (cp_660002_Arrays_copyOfRangeByte l hl0 D I P659967 F659968 q659969 p659970 f659971 n659972 hmq659969 heq659969 bp659970 bf659971 (by have qa0 : Int32.toInt 0 = 0 := (by decide); omega) (by have qa0 : Int32.toInt 0 = 0 := (by decide); omega)) dr_cJ7_copyOfRange_39247_13 ⟨wr_8_96, wr_1_30, wr_8_98, by decide, rfl, (Nat.le_of_ble_eq_true rfl), (Nat.le_of_ble_eq_true rfl)⟩ wr_8_97 (show 0 + 1 ≤ 1 by first | omega | decide) (show 0 + p659970.toInt.toNat ≤ p659970.toInt.toNat by first | omega | decide) (Nat.le_of_ble_eq_true rfl) (fun r660045 w660046 dc660042 ds660043 hp660044 => ?_) (fun _ _ _ _ _ z => z.elim)
    obtain ⟨P660053, F660054, q660047, n660048, f660049, rfl, rfl, hsb660055, hfr660056, he660057, he660058, hm660059, hq660060, hdc, hds, bf660049, x660050, x660051, ht660052⟩ := hp660044
    have hm660061 : q659969 ∈ P660053 := hsb660055 q659969 hmq659969
    have hq660062 : q660047 ∉ P659967 := fun z => hq660060 ((rSub_rf (P := P659967)) q660047 z)
    have hsb660063 : rSub P659967 P660053 := rSub_tr (rSub_rf (P := P659967)) hsb660055
    have hfr660064 : rFr [] P659967 F659968 F660054 := rFr_call (rSub_rf (P := P659967)) (rFr_rf (W := []) (P := P659967) (F := F659968)) hfr660056 (fun b hb hn => ⟨nm_n, nm_n⟩)
    change G _ _ _ _ _ _ _ (.ref q660047 :: _) _ _ _
    refine G_widen (cs' := 1) (sl' := p659970.toInt.toNat) (by omega) (by omega) ?_
    exact G_aretA (FieldType.array FieldType.byte) dr_cJ7_copyOfRange_39247_16 rfl (by first | exact Or.inl ⟨_, rfl⟩ | exact Or.inr ⟨_, rfl⟩) (Or.inr ⟨_, rfl⟩) (Nat.le_of_ble_eq_true rfl) (show p659970.toInt.toNat ≤ p659970.toInt.toNat by omega) ⟨P660053, F660054, q660047, n660048, f660049, rfl, rfl, hsb660063, hfr660064, he660057, he660058, hm660059, hq660062, (Nat.le_of_ble_eq_true rfl), (by omega), bf660049, (by have qa0 : Int32.toInt 0 = 0 := (by decide); omega), (sK_c x660051 (by omega)), (fun R c1 c2 => c2 z659976 n660048 f660049 ez659976 r659993 ht660052)⟩
/- tr_RString_init2: a.0.value.#, a.0.value.[] -/
def tr_RString_init2 (a1_count : Int32) (a1_value_v : Nat → Int32) (a1_value_n : Nat) (o1 : Nat) (o2 : Nat → Int32) : Prop := ∀ R : (Nat) → (Nat → Int32) → Prop,
  (∀ (x1 : Nat) (x2 : Nat → Int32), tr_RArrays_copyOfRange a1_count a1_value_v a1_value_n x1 x2 → R x1 x2) →
  R o1 o2
abbrev ky_659934_String_init : gKey := (cJ0_init_db425, 5, "java/lang/String", none, [], "<init>", fun _ _ => True)
def pp_659934_String_init (D : va_G) (I : FieldType → ClassId) (P659921 : List Nat) (F659922 : Nat → va_E) (q659923 : Nat) (q659924 : Nat) (q659925 : Nat) (p659926 : Int32) (p659927 : Int32) (p659928 : Int32) (p659929 : Int32) (f659930 : Nat → Int32) (n659931 : Nat) : Option Value → va_W → Nat → Nat → Prop := fun r w dc ds => ∃ (P660108 : List Nat) (F660109 : Nat → va_E) (q660105 : Nat) (n660106 : Nat) (f660107 : Nat → Int32), r = none ∧ w = va_pl P660108 F660109 ∧ rSub P659921 P660108 ∧ rFr [q659923] P659921 F659922 F660109 ∧ F660109 q659923 = .inr (0, [.ref q660105, .int 0, .int p659926, .int p659927]) ∧ F660109 q659924 = .inr (1, [.ref q659925, .int 0, .int p659928, .int p659929]) ∧ F660109 q659925 = .inl (I .byte, n659931, .inl f659930) ∧ F660109 q660105 = .inl (I .byte, n660106, .inl f660107) ∧ q660105 ∈ P660108 ∧ q660105 ∉ P659921 ∧ dc ≤ 1 ∧ ds ≤ p659929.toInt.toNat ∧ gF f660107 (-128) 127 ∧ (n660106 : Int) = p659929.toInt ∧ sK f659930 f660107 p659929.toInt ∧ tr_RString_init2 p659929 f659930 n659931 n660106 f660107
set_option maxRecDepth 100000 in
set_option maxHeartbeats 4000000 in
theorem cp_659934_String_init (l : Launch) (hl0 : l.stackTraces = false) (D : va_G) (I : FieldType → ClassId) (P659921 : List Nat) (F659922 : Nat → va_E) (q659923 : Nat) (q659924 : Nat) (q659925 : Nat) (p659926 : Int32) (p659927 : Int32) (p659928 : Int32) (p659929 : Int32) (f659930 : Nat → Int32) (n659931 : Nat) (hmq659923 : q659923 ∈ P659921) (hmq659924 : q659924 ∈ P659921) (hmq659925 : q659925 ∈ P659921) (heq659923 : F659922 q659923 = .inr (0, [.null, .int 0, .int p659926, .int p659927])) (heq659924 : F659922 q659924 = .inr (1, [.ref q659925, .int 0, .int p659928, .int p659929])) (heq659925 : F659922 q659925 = .inl (I .byte, n659931, .inl f659930)) (bp659927 : gB p659927 0 1) (bp659928 : gB p659928 0 1) (bp659929 : gB p659929 0 16777216) (bf659930 : gF f659930 (-128) 127) (x659932 : p659929.toInt ≤ (n659931 : Int)) (x659933 : ((n659931 : Int) ≤ 16777216)) : CtA (gV D I) l yJ0_init_db425 cJ0_init_db425 5 none 3 67 1 p659929.toInt.toNat [.ref q659923, .ref q659924, .null] (va_pl P659921 F659922) (pp_659934_String_init D I P659921 F659922 q659923 q659924 q659925 p659926 p659927 p659928 p659929 f659930 n659931) gNA := by
  refine CtA_ofF hl0 (by decide +kernel) (Nat.le_of_ble_eq_true rfl) ?_
  have bp659926 := gB_any p659926
  refine G_aload_n 0 dr_cJ0_init_db425_0 rfl ?_
  refine G_obj dr_cJ0_init_db425_1 wr_8_78 wr_1_51 wr_1_52 (Nat.le_of_ble_eq_true rfl) (Nat.le_of_ble_eq_true rfl) ?_
  refine G_aload_n 1 dr_cJ0_init_db425_4 rfl ?_
  refine Gw_callVB (As := []) (gV_ok D I) (cp_659944_AbstractStringBuilder_getValue l hl0 D I P659921 F659922 q659924 q659925 p659928 p659929 f659930 n659931 hmq659924 hmq659925 heq659924 heq659925 bp659928 bp659929 bf659930 (by have qa0 : Int32.toInt 0 = 0 := (by decide); omega)) dr_cJ0_init_db425_5 ⟨wr_8_79, wr_1_19, wr_8_83, by decide, rfl, (Nat.le_of_ble_eq_true rfl), (Nat.le_of_ble_eq_true rfl)⟩ wr_8_80 wr_8_82 hmq659924 heq659924 rfl (show 0 + 0 ≤ 1 by first | omega | decide) (show 0 + 0 ≤ p659929.toInt.toNat by first | omega | decide) (Nat.le_of_ble_eq_true rfl) (fun r659948 w659949 dc659945 ds659946 hp659947 => ?_) (fun _ _ _ _ _ z => z.elim)
  obtain ⟨rfl, rfl, hdc, hds⟩ := hp659947
  change G _ _ _ _ _ _ _ (.ref q659925 :: _) _ _ _
  refine G_widen (cs' := 0) (sl' := 0) (by omega) (by omega) ?_
  refine G_astore_n (L' := [(3, .ref q659925), (0, .ref q659923), (1, .ref q659924), (2, .null)]) dr_cJ0_init_db425_8 (Nat.le_of_ble_eq_true rfl) rfl ?_
  refine G_aload_n 2 dr_cJ0_init_db425_9 rfl ?_
  refine Gw_callVU (As := []) (owner := "java/lang/AbstractStringBuilder") (gV_ok D I) (cp_658573_StringBuilder_length l hl0 D I P659921 F659922 q659924 q659925 p659928 p659929 f659930 n659931 hmq659924 hmq659925 heq659924 heq659925 bp659928 bp659929 bf659930 (by have qa0 : Int32.toInt 0 = 0 := (by decide); omega)) dr_cJ0_init_db425_10 ⟨wr_8_84, wr_8_86, wr_8_85, wr_8_91, wr_8_87, wr_8_88, wr_1_20, wr_8_89, by decide, rfl, (Nat.le_of_ble_eq_true rfl), (Nat.le_of_ble_eq_true rfl)⟩ hmq659924 heq659924 rfl (show 0 + 0 ≤ 1 by first | omega | decide) (show 0 + 0 ≤ p659929.toInt.toNat by first | omega | decide) (Nat.le_of_ble_eq_true rfl) (fun r659953 w659954 dc659950 ds659951 hp659952 => ?_) (fun _ _ _ _ _ z => z.elim)
  obtain ⟨rfl, rfl, hdc, hds⟩ := hp659952
  change G _ _ _ _ _ _ _ (.int p659929 :: _) _ _ _
  refine G_widen (cs' := 0) (sl' := 0) (by omega) (by omega) ?_
  refine G_istore (L' := [(4, .int p659929), (3, .ref q659925), (0, .ref q659923), (1, .ref q659924), (2, .null)]) dr_cJ0_init_db425_13 (Nat.le_of_ble_eq_true rfl) rfl ?_
  refine G_aload_n 3 dr_cJ0_init_db425_15 rfl ?_
  refine Gw_callVB (As := []) (gV_ok D I) (cp_658723_AbstractStringBuilder_isLatin1 l hl0 D I P659921 F659922 q659924 q659925 p659928 p659929 f659930 n659931 hmq659924 hmq659925 heq659924 heq659925 bp659928 bp659929 bf659930 (by have qa0 : Int32.toInt 0 = 0 := (by decide); omega)) dr_cJ0_init_db425_16 ⟨wr_8_92, wr_1_19, wr_8_37, by decide, rfl, (Nat.le_of_ble_eq_true rfl), (Nat.le_of_ble_eq_true rfl)⟩ wr_8_34 wr_8_36 hmq659924 heq659924 rfl (show 0 + 0 ≤ 1 by first | omega | decide) (show 0 + 0 ≤ p659929.toInt.toNat by first | omega | decide) (Nat.le_of_ble_eq_true rfl) (fun r659958 w659959 dc659955 ds659956 hp659957 => ?_) (fun _ _ _ _ _ z => z.elim)
  obtain ⟨rfl, rfl, hdc, hds⟩ := hp659957
  change G _ _ _ _ _ _ _ (.int 1 :: _) _ _ _
  refine G_widen (cs' := 0) (sl' := 0) (by omega) (by omega) ?_
  refine G_if_eq 41 dr_cJ0_init_db425_19 (by decide +kernel) (fun hc => absurd hc (by decide)) (fun _ => ?_)
  refine G_aload_n 2 dr_cJ0_init_db425_22 rfl ?_
  refine G_iconst 0 dr_cJ0_init_db425_23 (by decide +kernel) ?_
  refine Gp_putF 1 hmq659923 heq659923 dr_cJ0_init_db425_24 (gk_J0 D I) (Nat.le_of_ble_eq_true rfl) wr_8_183 rfl rfl rfl rfl rfl (Nat.le_of_ble_eq_true rfl) (fun F659960 e659961 n659962 => ?_)
  have he659963 : F659960 q659924 = .inr (1, [.ref q659925, .int 0, .int p659928, .int p659929]) := (n659962 q659924 (rn_oo heq659924 heq659923 (by decide))).trans heq659924
  have he659964 : F659960 q659925 = .inl (I .byte, n659931, .inl f659930) := (n659962 q659925 (rn_ao heq659925 heq659923)).trans heq659925
  have he659965 : F659960 q659923 = .inr (0, [.null, .int 0, .int p659926, .int p659927]) := e659961
  have hfr659966 : rFr [q659923] P659921 F659922 F659960 := rFr_put (rFr_rf (W := []) (P := P659921) (F := F659922)) n659962
  refine G_aload_n 2 dr_cJ0_init_db425_27 rfl ?_
  refine G_aload_n 1 dr_cJ0_init_db425_28 rfl ?_
  refine G_iconst 0 dr_cJ0_init_db425_29 (by decide +kernel) ?_
  refine G_iload 0 dr_cJ0_init_db425_30 rfl ?_
  refine Gw_callS (As := [.ref q659925, .int 0, .int p659929]) (gV_ok D I) (cp_659975_Arrays_copyOfRange l hl0 D I P659921 F659960 q659925 p659929 f659930 n659931 hmq659925 he659964 bp659929 bf659930 (by have qa0 : Int32.toInt 0 = 0 := (by decide); omega) (by have qa0 : Int32.toInt 0 = 0 := (by decide); omega)) dr_cJ0_init_db425_32 ⟨wr_8_93, wr_1_30, wr_8_95, by decide, rfl, (Nat.le_of_ble_eq_true rfl), (Nat.le_of_ble_eq_true rfl)⟩ wr_8_94 (show 0 + 1 ≤ 1 by first | omega | decide) (show 0 + p659929.toInt.toNat ≤ p659929.toInt.toNat by first | omega | decide) (Nat.le_of_ble_eq_true rfl) (fun r660073 w660074 dc660070 ds660071 hp660072 => ?_) (fun _ _ _ _ _ z => z.elim)
  obtain ⟨P660081, F660082, q660075, n660076, f660077, rfl, rfl, hsb660083, hfr660084, he660085, he660086, hm660087, hq660088, hdc, hds, bf660077, x660078, x660079, ht660080⟩ := hp660072
  have hm660089 : q659923 ∈ P660081 := hsb660083 q659923 hmq659923
  have hm660090 : q659924 ∈ P660081 := hsb660083 q659924 hmq659924
  have hm660091 : q659925 ∈ P660081 := hsb660083 q659925 hmq659925
  have hq660092 : q660075 ∉ P659921 := fun z => hq660088 ((rSub_rf (P := P659921)) q660075 z)
  have hsb660093 : rSub P659921 P660081 := rSub_tr (rSub_rf (P := P659921)) hsb660083
  have he660094 : F660082 q659923 = .inr (0, [.null, .int 0, .int p659926, .int p659927]) := (hfr660084 q659923 hmq659923 nm_n).trans he659965
  have he660095 : F660082 q659924 = .inr (1, [.ref q659925, .int 0, .int p659928, .int p659929]) := (hfr660084 q659924 hmq659924 nm_n).trans he659963
  have hfr660096 : rFr [q659923] P659921 F659922 F660082 := rFr_call (rSub_rf (P := P659921)) hfr659966 hfr660084 (fun b hb hn => ⟨(nm_c (fun e => hn (e ▸ List.mem_cons_self)) nm_n), nm_n⟩)
  change G _ _ _ _ _ _ _ (.ref q660075 :: _) _ _ _
  refine G_widen (cs' := 1) (sl' := p659929.toInt.toNat) (by omega) (by omega) ?_
  refine Gp_putF 0 hm660089 he660094 dr_cJ0_init_db425_35 (gk_J0 D I) (Nat.le_of_ble_eq_true rfl) wr_8_182 rfl rfl rfl rfl rfl (Nat.le_of_ble_eq_true rfl) (fun F660097 e660098 n660099 => ?_)
  have he660100 : F660097 q659924 = .inr (1, [.ref q659925, .int 0, .int p659928, .int p659929]) := (n660099 q659924 (rn_oo he660095 he660094 (by decide))).trans he660095
  have he660101 : F660097 q659925 = .inl (I .byte, n659931, .inl f659930) := (n660099 q659925 (rn_ao he660085 he660094)).trans he660085
  have he660102 : F660097 q660075 = .inl (I .byte, n660076, .inl f660077) := (n660099 q660075 (fun h => hq660092 (h ▸ hmq659923))).trans he660086
  have he660103 : F660097 q659923 = .inr (0, [.ref q660075, .int 0, .int p659926, .int p659927]) := e660098
  have hfr660104 : rFr [q659923] P659921 F659922 F660097 := rFr_put' List.mem_cons_self hfr660096 n660099
  refine G_goto 97 dr_cJ0_init_db425_38 (by decide +kernel) ?_
  exact G_vretA dr_cJ0_init_db425_97 rfl (Nat.le_of_ble_eq_true rfl) (show p659929.toInt.toNat ≤ p659929.toInt.toNat by omega) ⟨P660081, F660097, q660075, n660076, f660077, rfl, rfl, hsb660093, hfr660104, he660103, he660100, he660101, he660102, hm660087, hq660092, (Nat.le_of_ble_eq_true rfl), (by omega), bf660077, (by have qa0 : Int32.toInt 0 = 0 := (by decide); omega), (sK_c x660079 (by omega)), (fun R c1 => c1 n660076 f660077 ht660080)⟩
/- tr_RString_init: a.0.value.#, a.0.value.[] -/
def tr_RString_init (a1_count : Int32) (a1_value_v : Nat → Int32) (a1_value_n : Nat) (o1 : Nat) (o2 : Nat → Int32) : Prop := ∀ R : (Nat) → (Nat → Int32) → Prop,
  (∀ (x1 : Nat) (x2 : Nat → Int32), tr_RString_init2 a1_count a1_value_v a1_value_n x1 x2 → R x1 x2) →
  R o1 o2
abbrev ky_659920_String_init : gKey := (cJ0_init_81219, 2, "java/lang/String", none, [], "<init>", fun _ _ => True)
def pp_659920_String_init (D : va_G) (I : FieldType → ClassId) (P659907 : List Nat) (F659908 : Nat → va_E) (q659909 : Nat) (q659910 : Nat) (q659911 : Nat) (p659912 : Int32) (p659913 : Int32) (p659914 : Int32) (p659915 : Int32) (f659916 : Nat → Int32) (n659917 : Nat) : Option Value → va_W → Nat → Nat → Prop := fun r w dc ds => ∃ (P660140 : List Nat) (F660141 : Nat → va_E) (q660137 : Nat) (n660138 : Nat) (f660139 : Nat → Int32), r = none ∧ w = va_pl P660140 F660141 ∧ rSub P659907 P660140 ∧ rFr [q659909] P659907 F659908 F660141 ∧ F660141 q659909 = .inr (0, [.ref q660137, .int 0, .int p659912, .int p659913]) ∧ F660141 q659910 = .inr (1, [.ref q659911, .int 0, .int p659914, .int p659915]) ∧ F660141 q659911 = .inl (I .byte, n659917, .inl f659916) ∧ F660141 q660137 = .inl (I .byte, n660138, .inl f660139) ∧ q660137 ∈ P660140 ∧ q660137 ∉ P659907 ∧ dc ≤ 1 ∧ ds ≤ p659915.toInt.toNat ∧ gF f660139 (-128) 127 ∧ (n660138 : Int) = p659915.toInt ∧ sK f659916 f660139 p659915.toInt ∧ tr_RString_init p659915 f659916 n659917 n660138 f660139
set_option maxRecDepth 100000 in
set_option maxHeartbeats 4000000 in
theorem cp_659920_String_init (l : Launch) (hl0 : l.stackTraces = false) (D : va_G) (I : FieldType → ClassId) (P659907 : List Nat) (F659908 : Nat → va_E) (q659909 : Nat) (q659910 : Nat) (q659911 : Nat) (p659912 : Int32) (p659913 : Int32) (p659914 : Int32) (p659915 : Int32) (f659916 : Nat → Int32) (n659917 : Nat) (hmq659909 : q659909 ∈ P659907) (hmq659910 : q659910 ∈ P659907) (hmq659911 : q659911 ∈ P659907) (heq659909 : F659908 q659909 = .inr (0, [.null, .int 0, .int p659912, .int p659913])) (heq659910 : F659908 q659910 = .inr (1, [.ref q659911, .int 0, .int p659914, .int p659915])) (heq659911 : F659908 q659911 = .inl (I .byte, n659917, .inl f659916)) (bp659913 : gB p659913 0 1) (bp659914 : gB p659914 0 1) (bp659915 : gB p659915 0 16777216) (bf659916 : gF f659916 (-128) 127) (x659918 : p659915.toInt ≤ (n659917 : Int)) (x659919 : ((n659917 : Int) ≤ 16777216)) : CtA (gV D I) l yJ0_init_81219 cJ0_init_81219 2 none 4 91 1 p659915.toInt.toNat [.ref q659909, .ref q659910] (va_pl P659907 F659908) (pp_659920_String_init D I P659907 F659908 q659909 q659910 q659911 p659912 p659913 p659914 p659915 f659916 n659917) gNA := by
  refine CtA_ofF hl0 (by decide +kernel) (Nat.le_of_ble_eq_true rfl) ?_
  have bp659912 := gB_any p659912
  refine G_aload_n 0 dr_cJ0_init_81219_0 rfl ?_
  refine G_aload_n 1 dr_cJ0_init_81219_1 rfl ?_
  refine G_null dr_cJ0_init_81219_2 ?_
  refine Gw_callI (As := [.ref q659910, .null]) (gV_ok D I) (cp_659934_String_init l hl0 D I P659907 F659908 q659909 q659910 q659911 p659912 p659913 p659914 p659915 f659916 n659917 hmq659909 hmq659910 hmq659911 heq659909 heq659910 heq659911 bp659913 bp659914 bp659915 bf659916 (by have qa0 : Int32.toInt 0 = 0 := (by decide); omega) (by have qa0 : Int32.toInt 0 = 0 := (by decide); omega)) dr_cJ0_init_81219_3 ⟨wr_8_75, wr_1_21, wr_8_77, by decide, rfl, (Nat.le_of_ble_eq_true rfl), (Nat.le_of_ble_eq_true rfl)⟩ wr_8_76 rfl (show 0 + 1 ≤ 1 by first | omega | decide) (show 0 + p659915.toInt.toNat ≤ p659915.toInt.toNat by first | omega | decide) (Nat.le_of_ble_eq_true rfl) (fun r660113 w660114 dc660110 ds660111 hp660112 => ?_)
  obtain ⟨P660121, F660122, q660115, n660116, f660117, rfl, rfl, hsb660123, hfr660124, he660125, he660126, he660127, he660128, hm660129, hq660130, hdc, hds, bf660117, x660118, x660119, ht660120⟩ := hp660112
  have hm660131 : q659909 ∈ P660121 := hsb660123 q659909 hmq659909
  have hm660132 : q659910 ∈ P660121 := hsb660123 q659910 hmq659910
  have hm660133 : q659911 ∈ P660121 := hsb660123 q659911 hmq659911
  have hq660134 : q660115 ∉ P659907 := fun z => hq660130 ((rSub_rf (P := P659907)) q660115 z)
  have hsb660135 : rSub P659907 P660121 := rSub_tr (rSub_rf (P := P659907)) hsb660123
  have hfr660136 : rFr [q659909] P659907 F659908 F660122 := rFr_call (rSub_rf (P := P659907)) (rFr_rf (W := []) (P := P659907) (F := F659908)) hfr660124 (fun b hb hn => ⟨nm_n, (nm_c (fun e => hn (e ▸ List.mem_cons_self)) nm_n)⟩)
  change G _ _ _ _ _ _ _ _ _ _ _
  refine G_widen (cs' := 1) (sl' := p659915.toInt.toNat) (by omega) (by omega) ?_
  exact G_vretA dr_cJ0_init_81219_6 rfl (Nat.le_of_ble_eq_true rfl) (show p659915.toInt.toNat ≤ p659915.toInt.toNat by omega) ⟨P660121, F660122, q660115, n660116, f660117, rfl, rfl, hsb660135, hfr660136, he660125, he660126, he660127, he660128, hm660129, hq660134, (Nat.le_of_ble_eq_true rfl), (by omega), bf660117, (by have qa0 : Int32.toInt 0 = 0 := (by decide); omega), (sK_c x660119 (by omega)), (fun R c1 => c1 n660116 f660117 ht660120)⟩
/- tr_RStringBuilder_toString: a.1.value.#, a.1.value.[] -/
def tr_RStringBuilder_toString (a0_count : Int32) (a0_value_v : Nat → Int32) (a0_value_n : Nat) (o1 : Nat) (o2 : Nat → Int32) : Prop := ∀ R : (Nat) → (Nat → Int32) → Prop,
  (∀ (x1 : Nat) (x2 : Nat → Int32), tr_RString_init a0_count a0_value_v a0_value_n x1 x2 → R x1 x2) →
  R o1 o2
abbrev ky_659890_StringBuilder_toString : gKey := (cJ4_toString_0e30d, 1, "java/lang/StringBuilder", (some (FieldType.object "java/lang/String")), [], "toString", fun _ _ => True)
def pp_659890_StringBuilder_toString (D : va_G) (I : FieldType → ClassId) (P659880 : List Nat) (F659881 : Nat → va_E) (q659882 : Nat) (q659883 : Nat) (p659884 : Int32) (p659885 : Int32) (f659886 : Nat → Int32) (n659887 : Nat) : Option Value → va_W → Nat → Nat → Prop := fun r w dc ds => ∃ (P660173 : List Nat) (F660174 : Nat → va_E) (q660169 : Nat) (q660170 : Nat) (n660171 : Nat) (f660172 : Nat → Int32), r = some (.ref q660169) ∧ w = va_pl P660173 F660174 ∧ rSub P659880 P660173 ∧ rFr [] P659880 F659881 F660174 ∧ F660174 q660169 = .inr (0, [.ref q660170, .int 0, .int 0, .int 0]) ∧ F660174 q659882 = .inr (1, [.ref q659883, .int 0, .int p659884, .int p659885]) ∧ F660174 q659883 = .inl (I .byte, n659887, .inl f659886) ∧ F660174 q660170 = .inl (I .byte, n660171, .inl f660172) ∧ q660169 ∈ P660173 ∧ q660169 ∉ P659880 ∧ q660170 ∈ P660173 ∧ q660170 ∉ P659880 ∧ dc ≤ 2 ∧ ds ≤ p659885.toInt.toNat + 4 ∧ gF f660172 (-128) 127 ∧ (n660171 : Int) = p659885.toInt ∧ sK f659886 f660172 p659885.toInt ∧ tr_RStringBuilder_toString p659885 f659886 n659887 n660171 f660172
set_option maxRecDepth 100000 in
set_option maxHeartbeats 4000000 in
theorem cp_659890_StringBuilder_toString (l : Launch) (hl0 : l.stackTraces = false) (D : va_G) (I : FieldType → ClassId) (P659880 : List Nat) (F659881 : Nat → va_E) (q659882 : Nat) (q659883 : Nat) (p659884 : Int32) (p659885 : Int32) (f659886 : Nat → Int32) (n659887 : Nat) (hmq659882 : q659882 ∈ P659880) (hmq659883 : q659883 ∈ P659880) (heq659882 : F659881 q659882 = .inr (1, [.ref q659883, .int 0, .int p659884, .int p659885])) (heq659883 : F659881 q659883 = .inl (I .byte, n659887, .inl f659886)) (bp659884 : gB p659884 0 1) (bp659885 : gB p659885 0 16777216) (bf659886 : gF f659886 (-128) 127) (x659888 : p659885.toInt ≤ (n659887 : Int)) (x659889 : ((n659887 : Int) ≤ 16777216)) : CtA (gV D I) l yJ4_toString_0e30d cJ4_toString_0e30d 1 (some (FieldType.object "java/lang/String")) 5 112 2 (p659885.toInt.toNat + 4) [.ref q659882] (va_pl P659880 F659881) (pp_659890_StringBuilder_toString D I P659880 F659881 q659882 q659883 p659884 p659885 f659886 n659887) gNA := by
  refine CtA_ofF hl0 (by decide +kernel) (Nat.le_of_ble_eq_true rfl) ?_
  refine G_new [.null, .int 0, .int 0, .int 0] dr_cJ4_toString_0e30d_0 (gk_J0 D I) wr_8_70 wr_8_71 wr_1_21 (gfs_J0) (show 0 + 1 ≤ 2 by first | omega | decide) (show 0 + 4 ≤ (p659885.toInt.toNat + 4) by first | omega | decide) (fun q659891 => Gp_in (fun P659892 F659893 hq659894 hP659895 e659896 n659897 => ?_))
  refine G_widen (cs' := 1) (sl' := 4) (by omega) (by omega) ?_
  have he659898 : F659893 q659882 = .inr (1, [.ref q659883, .int 0, .int p659884, .int p659885]) := (n659897 q659882 (fun h => hq659894 (h ▸ hmq659882))).trans heq659882
  have he659899 : F659893 q659883 = .inl (I .byte, n659887, .inl f659886) := (n659897 q659883 (fun h => hq659894 (h ▸ hmq659883))).trans heq659883
  have he659900 : F659893 q659891 = .inr (0, [.null, .int 0, .int 0, .int 0]) := e659896
  have hm659901 : q659882 ∈ P659892 := (hP659895 q659882).mpr (Or.inl hmq659882)
  have hm659902 : q659883 ∈ P659892 := (hP659895 q659883).mpr (Or.inl hmq659883)
  have hm659903 : q659891 ∈ P659892 := (hP659895 q659891).mpr (Or.inr rfl)
  have hq659904 : q659891 ∉ P659880 := fun z => hq659894 ((rSub_rf (P := P659880)) q659891 z)
  have hfr659905 : rFr [] P659880 F659881 F659893 := rFr_new (rSub_rf (P := P659880)) hq659894 (rFr_rf (W := []) (P := P659880) (F := F659881)) n659897
  have hsb659906 : rSub P659880 P659892 := rSub_new (rSub_rf (P := P659880)) hP659895
  refine G_dup dr_cJ4_toString_0e30d_3 rfl ?_
  refine G_aload_n 0 dr_cJ4_toString_0e30d_4 rfl ?_
  refine Gw_callI (As := [.ref q659882]) (gV_ok D I) (cp_659920_String_init l hl0 D I P659892 F659893 q659891 q659882 q659883 0 0 p659884 p659885 f659886 n659887 hm659903 hm659901 hm659902 he659900 he659898 he659899 (gB_w (gBl (show Int32.toInt 0 = 0 by decide)) (by decide) (by decide)) bp659884 bp659885 bf659886 (by have qa0 : Int32.toInt 0 = 0 := (by decide); omega) (by have qa0 : Int32.toInt 0 = 0 := (by decide); omega)) dr_cJ4_toString_0e30d_5 ⟨wr_8_72, wr_1_21, wr_8_74, by decide, rfl, (Nat.le_of_ble_eq_true rfl), (Nat.le_of_ble_eq_true rfl)⟩ wr_8_73 rfl (show 1 + 1 ≤ 2 by first | omega | decide) (show 4 + p659885.toInt.toNat ≤ (p659885.toInt.toNat + 4) by first | omega | decide) (Nat.le_of_ble_eq_true rfl) (fun r660145 w660146 dc660142 ds660143 hp660144 => ?_)
  obtain ⟨P660153, F660154, q660147, n660148, f660149, rfl, rfl, hsb660155, hfr660156, he660157, he660158, he660159, he660160, hm660161, hq660162, hdc, hds, bf660149, x660150, x660151, ht660152⟩ := hp660144
  have hm660163 : q659882 ∈ P660153 := hsb660155 q659882 hm659901
  have hm660164 : q659883 ∈ P660153 := hsb660155 q659883 hm659902
  have hm660165 : q659891 ∈ P660153 := hsb660155 q659891 hm659903
  have hq660166 : q660147 ∉ P659880 := fun z => hq660162 (hsb659906 q660147 z)
  have hsb660167 : rSub P659880 P660153 := rSub_tr hsb659906 hsb660155
  have hfr660168 : rFr [] P659880 F659881 F660154 := rFr_call hsb659906 hfr659905 hfr660156 (fun b hb hn => ⟨nm_n, (nm_c (fun e => hq659904 (e ▸ hb)) nm_n)⟩)
  change G _ _ _ _ _ _ _ _ _ _ _
  refine G_widen (cs' := 2) (sl' := 4 + p659885.toInt.toNat) (by omega) (by omega) ?_
  exact G_aretA (FieldType.object "java/lang/String") dr_cJ4_toString_0e30d_8 rfl (by first | exact Or.inl ⟨_, rfl⟩ | exact Or.inr ⟨_, rfl⟩) (Or.inr ⟨_, rfl⟩) (Nat.le_of_ble_eq_true rfl) (show 4 + p659885.toInt.toNat ≤ (p659885.toInt.toNat + 4) by omega) ⟨P660153, F660154, q659891, q660147, n660148, f660149, rfl, rfl, hsb660167, hfr660168, he660157, he660158, he660159, he660160, hm660165, hq659904, hm660161, hq660166, (Nat.le_of_ble_eq_true rfl), (by omega), bf660149, (by have qa0 : Int32.toInt 0 = 0 := (by decide); omega), (sK_c x660151 (by omega)), (fun R c1 => c1 n660148 f660149 ht660152)⟩
/- tl_RStringLatin1_equals_9: l2; out:  -/
def tl_RStringLatin1_equals_9 (a0_n : Nat) (a0_v : Nat → Int32) (bs : List Int32) (s1 : Int32) (k : Nat) : Prop := ∀ R : (Int32) → Nat → Prop,
  (∀ (l2_1 : Int32) (x1 : Int32), gB l2_1 0 16777216 → x1.toInt = (a0_n : Nat) → x1.toInt ≤ l2_1.toInt → R l2_1 32) →
  (∀ (l2_1 : Int32) (x1 : Int32) (x2 : Int32) (x3 : Int32) (x4 : Int32) (k : Nat), gB l2_1 0 16777216 → x1.toInt = (a0_n : Nat) → l2_1.toInt < x1.toInt → x2 = a0_v l2_1.toNatClampNeg → gB x2 (-128) 127 → x3 = bs.getD l2_1.toNatClampNeg 0 → x2.toInt = x3.toInt → x4.toInt = l2_1.toInt + 1 → R x4 k → R l2_1 k) →
  (∀ (l2_1 : Int32) (x1 : Int32) (x2 : Int32) (x3 : Int32), gB l2_1 0 16777216 → x1.toInt = (a0_n : Nat) → l2_1.toInt < x1.toInt → x2 = a0_v l2_1.toNatClampNeg → gB x2 (-128) 127 → x3 = bs.getD l2_1.toNatClampNeg 0 → x2.toInt ≠ x3.toInt → R l2_1 24) →
  R s1 k
/- tr_RStringLatin1_equals: result -/
def tr_RStringLatin1_equals (bs : List Int32) (a0_v : Nat → Int32) (a0_n : Nat) (o1 : Int32) : Prop := ∀ R : (Int32) → Prop,
  (∀ (x1 : Int32) (x2 : Int32), x1.toInt = (a0_n : Nat) → x2.toInt = (bs.length : Int) → x1.toInt ≠ x2.toInt → R (0 : Int32)) →
  (∀ (x1 : Int32) (x2 : Int32), x1.toInt = (a0_n : Nat) → x2.toInt = (bs.length : Int) → x1.toInt = x2.toInt → tl_RStringLatin1_equals_9 a0_n a0_v bs (0 : Int32) 32 → R (1 : Int32)) →
  (∀ (x1 : Int32) (x2 : Int32), x1.toInt = (a0_n : Nat) → x2.toInt = (bs.length : Int) → x1.toInt = x2.toInt → tl_RStringLatin1_equals_9 a0_n a0_v bs (0 : Int32) 24 → R (0 : Int32)) →
  R o1
abbrev ky_660197_StringLatin1_equals : gKey := (cJ1_equals_b5fdf, 3, "java/lang/StringLatin1", (some FieldType.boolean), [], "equals", fun _ _ => True)
def pp_660197_StringLatin1_equals (D : va_G) (I : FieldType → ClassId) (P660189 : List Nat) (F660190 : Nat → va_E) (q660191 : Nat) (qs660192 : Nat) (bs660193 : List Int32) (f660194 : Nat → Int32) (n660195 : Nat) : Option Value → va_W → Nat → Nat → Prop := fun r w dc ds => ∃ (o660280 : Int32), r = some (.int o660280) ∧ w = va_pl P660189 F660190 ∧ dc ≤ 0 ∧ ds ≤ 0 ∧ gB o660280 0 1 ∧ tr_RStringLatin1_equals bs660193 f660194 n660195 o660280
set_option maxRecDepth 100000 in
set_option maxHeartbeats 4000000 in
theorem cp_660197_StringLatin1_equals (l : Launch) (hl0 : l.stackTraces = false) (D : va_G) (I : FieldType → ClassId) (P660189 : List Nat) (F660190 : Nat → va_E) (q660191 : Nat) (qs660192 : Nat) (bs660193 : List Int32) (f660194 : Nat → Int32) (n660195 : Nat) (hmq660191 : q660191 ∈ P660189) (heq660191 : F660190 q660191 = .inl (I .byte, n660195, .inl f660194)) (hbs660193 : ∀ A s H, (gV D I).2.2.2.1 A s H → va_T .byte qs660192 bs660193.length (fun j => .int (bs660193.getD j 0)) A s H) (nbs660193 : (bs660193.length : Int) ≤ 65535) (lbs660193 : gLB bs660193) (bf660194 : gF f660194 (-128) 127) (x660196 : ((n660195 : Int) ≤ 16777216)) : CtA (gV D I) l yJ1_equals_b5fdf cJ1_equals_b5fdf 3 (some FieldType.boolean) 0 0 0 0 [.ref q660191, .ref qs660192] (va_pl P660189 F660190) (pp_660197_StringLatin1_equals D I P660189 F660190 q660191 qs660192 bs660193 f660194 n660195) gNA := by
  refine CtA_ofF hl0 (by decide +kernel) (Nat.le_of_ble_eq_true rfl) ?_
  refine G_aload_n 0 dr_cJ1_equals_b5fdf_0 rfl ?_
  refine Gp_alen (Int32.ofNat n660195) 1 hmq660191 heq660191 dr_cJ1_equals_b5fdf_1 rfl rfl (G_nam fun z660198 hz660198 => ?_)
  have ez660198 : z660198.toInt = (n660195 : Nat) := gI_ofM hz660198 (by omega)
  have bz660198 : gB z660198 0 16777216 := ⟨by omega, by omega⟩
  refine G_aload_n 1 dr_cJ1_equals_b5fdf_2 rfl ?_
  refine G_klen dr_cJ1_equals_b5fdf_3 hbs660193 (G_nam fun z660199 hz660199 => ?_)
  have ez660199 : z660199.toInt = (bs660193.length : Int) := gI_ofN hz660199 nbs660193
  have bz660199 : gB z660199 0 65535 := ⟨by omega, by omega⟩
  refine G_icmp_ne 34 dr_cJ1_equals_b5fdf_4 (by decide +kernel) (fun hc660200 => ?_) (fun hc660200 => ?_)
  · have r660201 : z660198.toInt ≠ z660199.toInt := gC_ne hc660200
    refine G_iconst 0 dr_cJ1_equals_b5fdf_34 (by decide +kernel) ?_
    exact G_zretA FieldType.boolean dr_cJ1_equals_b5fdf_35 rfl rfl (Nat.le_of_ble_eq_true rfl) (Nat.le_of_ble_eq_true rfl) ⟨0, rfl, rfl, (Nat.le_of_ble_eq_true rfl), (Nat.le_of_ble_eq_true rfl), (gB_w (gBl (show Int32.toInt 0 = 0 by decide)) (by decide) (by decide)), (fun R c1 c2 c3 => c1 z660198 z660199 ez660198 ez660199 r660201)⟩
  · have r660202 : z660198.toInt = z660199.toInt := gC_eq hc660200
    have bz660198' : gB z660198 0 65535 := ⟨by omega, by omega⟩
    refine G_iconst 0 dr_cJ1_equals_b5fdf_7 (by decide +kernel) ?_
    refine G_istore_n (L' := [(2, .int 0), (0, .ref q660191), (1, .ref qs660192)]) dr_cJ1_equals_b5fdf_8 (Nat.le_of_ble_eq_true rfl) rfl ?_
    have hlp9_660267 : ∀ (n9_660267 : Nat) (g660267 : Int32), gB g660267 0 16777216 → (∀ (k : Nat), tl_RStringLatin1_equals_9 n660195 f660194 bs660193 g660267 k → tl_RStringLatin1_equals_9 n660195 f660194 bs660193 (0 : Int32) k) → ((16777217 : Int) - g660267.toInt).toNat < n9_660267 → G (gV D I) l (gRm 0 0 0 0) (gMA (gV D I) (pp_660197_StringLatin1_equals D I P660189 F660190 q660191 qs660192 bs660193 f660194 n660195) gNA 0 0) ky_660197_StringLatin1_equals 9 [(2, .int g660267), (0, .ref q660191), (1, .ref qs660192)] [] (va_pl P660189 F660190) 0 0 := by
      intro n9_660267
      induction n9_660267 with
      | zero => intro g660267 bg660267 kt9_660267 hm9_660267; exact absurd hm9_660267 (Nat.not_lt_zero _)
      | succ n9_660267 ih9_660267 =>
        intro g660267 bg660267 kt9_660267 hm9_660267
        refine G_iload_n 0 dr_cJ1_equals_b5fdf_9 rfl ?_
        refine G_aload_n 1 dr_cJ1_equals_b5fdf_10 rfl ?_
        refine Gp_alen (Int32.ofNat n660195) 1 hmq660191 heq660191 dr_cJ1_equals_b5fdf_11 rfl rfl (G_nam fun z660268 hz660268 => ?_)
        have ez660268 : z660268.toInt = (n660195 : Nat) := gI_ofM hz660268 (by omega)
        have bz660268 : gB z660268 0 16777216 := ⟨by omega, by omega⟩
        refine G_icmp_ge 32 dr_cJ1_equals_b5fdf_12 (by decide +kernel) (fun hc660269 => ?_) (fun hc660269 => ?_)
        · have r660270 : z660268.toInt ≤ g660267.toInt := gC_le hc660269
          have hx660271 : tl_RStringLatin1_equals_9 n660195 f660194 bs660193 (0 : Int32) 32 := kt9_660267 32 (fun R c1 c2 c3 => c1 g660267 z660268 bg660267 ez660268 r660270)
          refine G_iconst 1 dr_cJ1_equals_b5fdf_32 (by decide +kernel) ?_
          exact G_zretA FieldType.boolean dr_cJ1_equals_b5fdf_33 rfl rfl (Nat.le_of_ble_eq_true rfl) (Nat.le_of_ble_eq_true rfl) ⟨1, rfl, rfl, (Nat.le_of_ble_eq_true rfl), (Nat.le_of_ble_eq_true rfl), (gB_w (gBl (show Int32.toInt 1 = 1 by decide)) (by decide) (by decide)), (fun R c1 c2 c3 => c2 z660198 z660199 ez660198 ez660199 r660202 hx660271)⟩
        · have r660272 : g660267.toInt < z660268.toInt := gC_nle hc660269
          have bg660267' : gB g660267 0 16777215 := ⟨by omega, by omega⟩
          have bz660268' : gB z660268 1 16777216 := ⟨by omega, by omega⟩
          refine G_aload_n 1 dr_cJ1_equals_b5fdf_15 rfl ?_
          refine G_iload_n 0 dr_cJ1_equals_b5fdf_16 rfl ?_
          refine Gp_bald 1 hmq660191 heq660191 dr_cJ1_equals_b5fdf_17 rfl (gB_inr (by omega) (by omega)) (G_nam fun z660273 hz660273 => ?_)
          have bz660273 : gB z660273 (-128) 127 := by rw [hz660273]; exact bf660194 _
          refine G_aload_n 2 dr_cJ1_equals_b5fdf_18 rfl ?_
          refine G_iload_n 0 dr_cJ1_equals_b5fdf_19 rfl ?_
          refine G_kbald (f := fun j => bs660193.getD j 0) dr_cJ1_equals_b5fdf_20 hbs660193 (gB_inr (by omega) (by omega)) (G_nam fun z660274 hz660274 => ?_)
          have bz660274 : gB z660274 (-2147483648) 2147483647 := gB_any z660274
          refine G_icmp_eq 26 dr_cJ1_equals_b5fdf_21 (by decide +kernel) (fun hc660275 => ?_) (fun hc660275 => ?_)
          · have r660276 : z660273.toInt = z660274.toInt := gC_eq hc660275
            have bz660274' : gB z660274 (-128) 127 := ⟨by omega, by omega⟩
            obtain ⟨z660277, hz660277⟩ : ∃ z : Int32, z = g660267 + Int32.ofInt 1 := ⟨_, rfl⟩
            have ez660277 : z660277.toInt = g660267.toInt + 1 := gI_inc hz660277 (by decide) bg660267' (by decide) (by decide)
            have bz660277 : gB z660277 1 16777216 := ⟨by omega, by omega⟩
            refine G_iinc (L' := [(2, .int z660277), (0, .ref q660191), (1, .ref qs660192)]) z660277 0 dr_cJ1_equals_b5fdf_26 rfl hz660277.symm (Nat.le_of_ble_eq_true rfl) rfl ?_
            refine G_goto 9 dr_cJ1_equals_b5fdf_29 (by decide +kernel) ?_
            exact ih9_660267 z660277 (gB_w bz660277 (by decide) (by decide)) (fun k ht => kt9_660267 k (fun R c1 c2 c3 => c2 g660267 z660268 z660273 z660274 z660277 k bg660267 ez660268 r660272 hz660273 bz660273 hz660274 r660276 ez660277 (ht R c1 c2 c3))) (by omega)
          · have r660278 : z660273.toInt ≠ z660274.toInt := gC_ne hc660275
            have hx660279 : tl_RStringLatin1_equals_9 n660195 f660194 bs660193 (0 : Int32) 24 := kt9_660267 24 (fun R c1 c2 c3 => c3 g660267 z660268 z660273 z660274 bg660267 ez660268 r660272 hz660273 bz660273 hz660274 r660278)
            refine G_iconst 0 dr_cJ1_equals_b5fdf_24 (by decide +kernel) ?_
            exact G_zretA FieldType.boolean dr_cJ1_equals_b5fdf_25 rfl rfl (Nat.le_of_ble_eq_true rfl) (Nat.le_of_ble_eq_true rfl) ⟨0, rfl, rfl, (Nat.le_of_ble_eq_true rfl), (Nat.le_of_ble_eq_true rfl), (gB_w (gBl (show Int32.toInt 0 = 0 by decide)) (by decide) (by decide)), (fun R c1 c2 c3 => c3 z660198 z660199 ez660198 ez660199 r660202 hx660279)⟩
    exact hlp9_660267 (((16777217 : Int) - 0).toNat + 1) 0 (gB_w (gBl (show Int32.toInt 0 = 0 by decide)) (by decide) (by decide)) (fun k ht => ht) (Nat.lt_succ_self _)
/- tr_RString_equals: result -/
def tr_RString_equals (bs : List Int32) (a0_value_v : Nat → Int32) (a0_value_n : Nat) (o1 : Int32) : Prop := ∀ R : (Int32) → Prop,
  (∀ (x1 : Int32), gB x1 0 1 → tr_RStringLatin1_equals bs a0_value_v a0_value_n x1 → x1.toInt = 0 → R (0 : Int32)) →
  (∀ (x1 : Int32), gB x1 0 1 → tr_RStringLatin1_equals bs a0_value_v a0_value_n x1 → x1.toInt ≠ 0 → R (1 : Int32)) →
  R o1
abbrev ky_660187_String_equals : gKey := (cJ0_equals_9ea2d, 3, "java/lang/String", (some FieldType.boolean), [], "equals", fun _ _ => True)
def pp_660187_String_equals (D : va_G) (I : FieldType → ClassId) (P660175 : List Nat) (F660176 : Nat → va_E) (q660177 : Nat) (q660178 : Nat) (qs660179 : Nat) (qb660180 : Nat) (bs660181 : List Int32) (p660182 : Int32) (p660183 : Int32) (f660184 : Nat → Int32) (n660185 : Nat) : Option Value → va_W → Nat → Nat → Prop := fun r w dc ds => (∃ (o660286 : Int32), r = some (.int 0) ∧ w = va_pl P660175 F660176 ∧ dc ≤ 0 ∧ ds ≤ 0 ∧ o660286.toInt = 0 ∧ gB o660286 0 0 ∧ tr_RString_equals bs660181 f660184 n660185 (0 : Int32)) ∨ (∃ (o660286 : Int32), r = some (.int 1) ∧ w = va_pl P660175 F660176 ∧ dc ≤ 0 ∧ ds ≤ 0 ∧ o660286.toInt ≠ 0 ∧ gB o660286 1 1 ∧ tr_RString_equals bs660181 f660184 n660185 (1 : Int32))
set_option maxRecDepth 100000 in
set_option maxHeartbeats 4000000 in
theorem cp_660187_String_equals (l : Launch) (hl0 : l.stackTraces = false) (D : va_G) (I : FieldType → ClassId) (P660175 : List Nat) (F660176 : Nat → va_E) (q660177 : Nat) (q660178 : Nat) (qs660179 : Nat) (qb660180 : Nat) (bs660181 : List Int32) (p660182 : Int32) (p660183 : Int32) (f660184 : Nat → Int32) (n660185 : Nat) (hmq660177 : q660177 ∈ P660175) (hmq660178 : q660178 ∈ P660175) (heq660177 : F660176 q660177 = .inr (0, [.ref q660178, .int 0, .int p660182, .int p660183])) (heq660178 : F660176 q660178 = .inl (I .byte, n660185, .inl f660184)) (hbs660181 : ∀ A s H, (gV D I).2.2.2.1 A s H → gSC qs660179 qb660180 bs660181 A s H) (nbs660181 : (bs660181.length : Int) ≤ 65535) (lbs660181 : gLB bs660181) (bp660183 : gB p660183 0 1) (bf660184 : gF f660184 (-128) 127) (x660186 : ((n660185 : Int) ≤ 16777216)) : CtA (gV D I) l yJ0_equals_9ea2d cJ0_equals_9ea2d 3 (some FieldType.boolean) 1 22 0 0 [.ref q660177, .ref qs660179] (va_pl P660175 F660176) (pp_660187_String_equals D I P660175 F660176 q660177 q660178 qs660179 qb660180 bs660181 p660182 p660183 f660184 n660185) gNA := by
  refine CtA_ofF hl0 (by decide +kernel) (Nat.le_of_ble_eq_true rfl) ?_
  have bp660182 := gB_any p660182
  refine G_aload_n 0 dr_cJ0_equals_9ea2d_0 rfl ?_
  refine G_aload_n 1 dr_cJ0_equals_9ea2d_1 rfl ?_
  refine G_pkne0 hmq660177 (fun _ _ _ h => (hbs660181 _ _ _ h).2.1) (fun hne660188 => ?_)
  refine G_acmp_ne 7 dr_cJ0_equals_9ea2d_2 (by decide +kernel) (fun _ => ?_) (fun hc => absurd hc hne660188)
  refine G_aload_n 1 dr_cJ0_equals_9ea2d_7 rfl ?_
  refine G_instK dr_cJ0_equals_9ea2d_8 wr_9_149 wr_8_71 (fun _ _ _ h => (hbs660181 _ _ _ h).1) ?_
  refine G_if_eq 54 dr_cJ0_equals_9ea2d_11 (by decide +kernel) (fun hc => absurd hc (by decide)) (fun _ => ?_)
  refine G_aload_n 1 dr_cJ0_equals_9ea2d_14 rfl ?_
  refine G_casK dr_cJ0_equals_9ea2d_15 wr_9_149 wr_8_71 (fun _ _ _ h => (hbs660181 _ _ _ h).1) ?_
  refine G_astore_n (L' := [(2, .ref qs660179), (0, .ref q660177), (1, .ref qs660179)]) dr_cJ0_equals_9ea2d_18 (Nat.le_of_ble_eq_true rfl) rfl ?_
  refine G_gets dr_cJ0_equals_9ea2d_19 wr_3_65 gz_cs (fun x hx => ?_)
  subst hx
  refine G_if_eq 36 dr_cJ0_equals_9ea2d_22 (by decide +kernel) (fun hc => absurd hc (by decide)) (fun _ => ?_)
  refine G_aload_n 1 dr_cJ0_equals_9ea2d_25 rfl ?_
  refine Gp_get 1 hmq660177 heq660177 dr_cJ0_equals_9ea2d_26 (gk_J0 D I) (Nat.le_of_ble_eq_true rfl) wr_8_183 rfl ?_
  refine G_aload_n 0 dr_cJ0_equals_9ea2d_29 rfl ?_
  refine G_kget dr_cJ0_equals_9ea2d_30 wr_8_183 (fun _ _ _ h => (hbs660181 _ _ _ h).2.1) ?_
  refine G_icmp_ne 54 dr_cJ0_equals_9ea2d_33 (by decide +kernel) (fun hc => absurd hc (by decide)) (fun _ => ?_)
  refine G_aload_n 1 dr_cJ0_equals_9ea2d_36 rfl ?_
  refine Gp_get 0 hmq660177 heq660177 dr_cJ0_equals_9ea2d_37 (gk_J0 D I) (Nat.le_of_ble_eq_true rfl) wr_8_182 rfl ?_
  refine G_aload_n 0 dr_cJ0_equals_9ea2d_40 rfl ?_
  refine G_kget dr_cJ0_equals_9ea2d_41 wr_8_182 (fun _ _ _ h => (hbs660181 _ _ _ h).2.2.1) ?_
  refine Gw_callS (As := [.ref q660178, .ref qb660180]) (gV_ok D I) (cp_660197_StringLatin1_equals l hl0 D I P660175 F660176 q660178 qb660180 bs660181 f660184 n660185 hmq660178 heq660178 (fun _ _ _ h => (hbs660181 _ _ _ h).2.2.2) (by omega) lbs660181 bf660184 (by have qa0 : Int32.toInt 0 = 0 := (by decide); omega)) dr_cJ0_equals_9ea2d_44 ⟨wr_9_150, wr_1_28, wr_9_152, by decide, rfl, (Nat.le_of_ble_eq_true rfl), (Nat.le_of_ble_eq_true rfl)⟩ wr_9_151 (show 0 + 0 ≤ 0 by first | omega | decide) (show 0 + 0 ≤ 0 by first | omega | decide) (Nat.le_of_ble_eq_true rfl) (fun r660284 w660285 dc660281 ds660282 hp660283 => ?_) (fun _ _ _ _ _ z => z.elim)
  obtain ⟨o660286, rfl, rfl, hdc, hds, bo660286, ht660287⟩ := hp660283
  change G _ _ _ _ _ _ _ (.int o660286 :: _) _ _ _
  refine G_widen (cs' := 0) (sl' := 0) (by omega) (by omega) ?_
  refine G_if_eq 54 dr_cJ0_equals_9ea2d_47 (by decide +kernel) (fun hc660288 => ?_) (fun hc660288 => ?_)
  · have r660289 : o660286.toInt = 0 := gj_eq hc660288 (show Int32.toInt 0 = 0 by decide)
    have bo660286' : gB o660286 0 0 := ⟨by omega, by omega⟩
    refine G_iconst 0 dr_cJ0_equals_9ea2d_54 (by decide +kernel) ?_
    exact G_zretA FieldType.boolean dr_cJ0_equals_9ea2d_55 rfl rfl (Nat.le_of_ble_eq_true rfl) (Nat.le_of_ble_eq_true rfl) (Or.inl ⟨o660286, rfl, rfl, (Nat.le_of_ble_eq_true rfl), (Nat.le_of_ble_eq_true rfl), r660289, bo660286', (fun R c1 c2 => c1 o660286 bo660286 ht660287 r660289)⟩)
  · have r660290 : o660286.toInt ≠ 0 := gj_neq hc660288 (show Int32.toInt 0 = 0 by decide)
    have bo660286' : gB o660286 1 1 := ⟨by omega, by omega⟩
    refine G_iconst 1 dr_cJ0_equals_9ea2d_50 (by decide +kernel) ?_
    refine G_goto 55 dr_cJ0_equals_9ea2d_51 (by decide +kernel) ?_
    exact G_zretA FieldType.boolean dr_cJ0_equals_9ea2d_55 rfl rfl (Nat.le_of_ble_eq_true rfl) (Nat.le_of_ble_eq_true rfl) (Or.inr (⟨o660286, rfl, rfl, (Nat.le_of_ble_eq_true rfl), (Nat.le_of_ble_eq_true rfl), r660290, bo660286', (fun R c1 c2 => c2 o660286 bo660286 ht660287 r660290)⟩))
end
section
theorem dr_cJ0_isLatin1_aae02_0 : decode cJ0_isLatin1_aae02 0 = .ok (.getstatic 38, 3) := by decide +kernel
theorem dr_cJ0_isLatin1_aae02_3 : decode cJ0_isLatin1_aae02 3 = .ok (.ifCond .eq 14, 3) := by decide +kernel
theorem dr_cJ0_isLatin1_aae02_6 : decode cJ0_isLatin1_aae02 6 = .ok (.aload_n 0, 1) := by decide +kernel
theorem dr_cJ0_isLatin1_aae02_7 : decode cJ0_isLatin1_aae02 7 = .ok (.getfield 15, 3) := by decide +kernel
theorem dr_cJ0_isLatin1_aae02_10 : decode cJ0_isLatin1_aae02 10 = .ok (.ifCond .ne 7, 3) := by decide +kernel
theorem dr_cJ0_isLatin1_aae02_13 : decode cJ0_isLatin1_aae02 13 = .ok (.iconst 1, 1) := by decide +kernel
theorem dr_cJ0_isLatin1_aae02_14 : decode cJ0_isLatin1_aae02 14 = .ok (.goto 4, 3) := by decide +kernel
theorem dr_cJ0_isLatin1_aae02_18 : decode cJ0_isLatin1_aae02 18 = .ok (.ireturn, 1) := by decide +kernel
theorem dr_cJ1_charAt_3b067_0 : decode cJ1_charAt_3b067 0 = .ok (.iload_n 1, 1) := by decide +kernel
theorem dr_cJ1_charAt_3b067_1 : decode cJ1_charAt_3b067 1 = .ok (.aload_n 0, 1) := by decide +kernel
theorem dr_cJ1_charAt_3b067_2 : decode cJ1_charAt_3b067 2 = .ok (.arraylength, 1) := by decide +kernel
theorem dr_cJ1_charAt_3b067_3 : decode cJ1_charAt_3b067 3 = .ok (.invokestatic 9, 3) := by decide +kernel
theorem wr_3_78 : (Jvm.Cond.methodLink "java/lang/StringLatin1" (9 : Nat) ({ cls := "java/lang/String", name := "checkIndex", desc := "(II)V" } : Jvm.MethodName)) ∈ gw := gw_3 78 rfl rfl
theorem dr_cJ1_charAt_3b067_6 : decode cJ1_charAt_3b067 6 = .ok (.aload_n 0, 1) := by decide +kernel
theorem dr_cJ1_charAt_3b067_7 : decode cJ1_charAt_3b067 7 = .ok (.iload_n 1, 1) := by decide +kernel
theorem dr_cJ1_charAt_3b067_8 : decode cJ1_charAt_3b067 8 = .ok (.baload, 1) := by decide +kernel
theorem dr_cJ1_charAt_3b067_9 : decode cJ1_charAt_3b067 9 = .ok (.sipush 255, 3) := by decide +kernel
theorem dr_cJ1_charAt_3b067_12 : decode cJ1_charAt_3b067 12 = .ok (.iand, 1) := by decide +kernel
theorem dr_cJ1_charAt_3b067_13 : decode cJ1_charAt_3b067 13 = .ok (.i2c, 1) := by decide +kernel
theorem dr_cJ1_charAt_3b067_14 : decode cJ1_charAt_3b067 14 = .ok (.ireturn, 1) := by decide +kernel
theorem dr_cJ0_charAt_5068e_0 : decode cJ0_charAt_5068e 0 = .ok (.aload_n 0, 1) := by decide +kernel
theorem dr_cJ0_charAt_5068e_1 : decode cJ0_charAt_5068e 1 = .ok (.invokevirtual 492, 3) := by decide +kernel
theorem wr_3_71 : (Jvm.Cond.methodLink "java/lang/String" (492 : Nat) ({ cls := "java/lang/String", name := "isLatin1", desc := "()Z" } : Jvm.MethodName)) ∈ gw := gw_3 71 rfl rfl
theorem wr_3_74 : (Jvm.Cond.code ({ cls := "java/lang/String", name := "isLatin1", desc := "()Z" } : Jvm.MethodName) prog_34_method_154_code (1 : Nat) (Option.some Jvm.ClassFile.FieldType.boolean)) ∈ gw := gw_3 74 rfl rfl
theorem wr_3_72 : (Jvm.Cond.instanceMethod ({ cls := "java/lang/String", name := "isLatin1", desc := "()Z" } : Jvm.MethodName)) ∈ gw := gw_3 72 rfl rfl
theorem wr_3_73 : (Jvm.Cond.selects "java/lang/String" ({ cls := "java/lang/String", name := "isLatin1", desc := "()Z" } : Jvm.MethodName) ({ cls := "java/lang/String", name := "isLatin1", desc := "()Z" } : Jvm.MethodName)) ∈ gw := gw_3 73 rfl rfl
theorem dr_cJ0_charAt_5068e_4 : decode cJ0_charAt_5068e 4 = .ok (.ifCond .eq 12, 3) := by decide +kernel
theorem dr_cJ0_charAt_5068e_7 : decode cJ0_charAt_5068e 7 = .ok (.aload_n 0, 1) := by decide +kernel
theorem dr_cJ0_charAt_5068e_8 : decode cJ0_charAt_5068e 8 = .ok (.getfield 9, 3) := by decide +kernel
theorem dr_cJ0_charAt_5068e_11 : decode cJ0_charAt_5068e 11 = .ok (.iload_n 1, 1) := by decide +kernel
theorem dr_cJ0_charAt_5068e_12 : decode cJ0_charAt_5068e 12 = .ok (.invokestatic 495, 3) := by decide +kernel
theorem wr_3_75 : (Jvm.Cond.methodLink "java/lang/String" (495 : Nat) ({ cls := "java/lang/StringLatin1", name := "charAt", desc := "([BI)C" } : Jvm.MethodName)) ∈ gw := gw_3 75 rfl rfl
theorem wr_3_77 : (Jvm.Cond.code ({ cls := "java/lang/StringLatin1", name := "charAt", desc := "([BI)C" } : Jvm.MethodName) prog_37_method_2_code (2 : Nat) (Option.some Jvm.ClassFile.FieldType.char)) ∈ gw := gw_3 77 rfl rfl
theorem wr_3_76 : (Jvm.Cond.static ({ cls := "java/lang/StringLatin1", name := "charAt", desc := "([BI)C" } : Jvm.MethodName)) ∈ gw := gw_3 76 rfl rfl
theorem dr_cJ0_charAt_5068e_15 : decode cJ0_charAt_5068e 15 = .ok (.ireturn, 1) := by decide +kernel
theorem dr_cJ1_indexOf_5af95_0 : decode cJ1_indexOf_5af95 0 = .ok (.aload_n 2, 1) := by decide +kernel
theorem dr_cJ1_indexOf_5af95_1 : decode cJ1_indexOf_5af95 1 = .ok (.iconst 0, 1) := by decide +kernel
theorem dr_cJ1_indexOf_5af95_2 : decode cJ1_indexOf_5af95 2 = .ok (.baload, 1) := by decide +kernel
theorem dr_cJ1_indexOf_5af95_3 : decode cJ1_indexOf_5af95 3 = .ok (.istore 5, 2) := by decide +kernel
theorem dr_cJ1_indexOf_5af95_5 : decode cJ1_indexOf_5af95 5 = .ok (.iload_n 1, 1) := by decide +kernel
theorem dr_cJ1_indexOf_5af95_6 : decode cJ1_indexOf_5af95 6 = .ok (.iload_n 3, 1) := by decide +kernel
theorem dr_cJ1_indexOf_5af95_7 : decode cJ1_indexOf_5af95 7 = .ok (.isub, 1) := by decide +kernel
theorem dr_cJ1_indexOf_5af95_8 : decode cJ1_indexOf_5af95 8 = .ok (.istore 6, 2) := by decide +kernel
theorem dr_cJ1_indexOf_5af95_10 : decode cJ1_indexOf_5af95 10 = .ok (.iload 4, 2) := by decide +kernel
theorem dr_cJ1_indexOf_5af95_12 : decode cJ1_indexOf_5af95 12 = .ok (.istore 7, 2) := by decide +kernel
theorem dr_cJ1_indexOf_5af95_14 : decode cJ1_indexOf_5af95 14 = .ok (.iload 7, 2) := by decide +kernel
theorem dr_cJ1_indexOf_5af95_16 : decode cJ1_indexOf_5af95 16 = .ok (.iload 6, 2) := by decide +kernel
theorem dr_cJ1_indexOf_5af95_18 : decode cJ1_indexOf_5af95 18 = .ok (.if_icmp .gt 101, 3) := by decide +kernel
theorem dr_cJ1_indexOf_5af95_119 : decode cJ1_indexOf_5af95 119 = .ok (.iconst (-1), 1) := by decide +kernel
theorem dr_cJ1_indexOf_5af95_120 : decode cJ1_indexOf_5af95 120 = .ok (.ireturn, 1) := by decide +kernel
theorem dr_cJ1_indexOf_5af95_21 : decode cJ1_indexOf_5af95 21 = .ok (.aload_n 0, 1) := by decide +kernel
theorem dr_cJ1_indexOf_5af95_22 : decode cJ1_indexOf_5af95 22 = .ok (.iload 7, 2) := by decide +kernel
theorem dr_cJ1_indexOf_5af95_24 : decode cJ1_indexOf_5af95 24 = .ok (.baload, 1) := by decide +kernel
theorem dr_cJ1_indexOf_5af95_25 : decode cJ1_indexOf_5af95 25 = .ok (.iload 5, 2) := by decide +kernel
theorem dr_cJ1_indexOf_5af95_27 : decode cJ1_indexOf_5af95 27 = .ok (.if_icmp .eq 25, 3) := by decide +kernel
theorem dr_cJ1_indexOf_5af95_52 : decode cJ1_indexOf_5af95 52 = .ok (.iload 7, 2) := by decide +kernel
theorem dr_cJ1_indexOf_5af95_54 : decode cJ1_indexOf_5af95 54 = .ok (.iload 6, 2) := by decide +kernel
theorem dr_cJ1_indexOf_5af95_56 : decode cJ1_indexOf_5af95 56 = .ok (.if_icmp .gt 57, 3) := by decide +kernel
theorem dr_cJ1_indexOf_5af95_113 : decode cJ1_indexOf_5af95 113 = .ok (.iinc 7 1, 3) := by decide +kernel
theorem dr_cJ1_indexOf_5af95_116 : decode cJ1_indexOf_5af95 116 = .ok (.goto (-102), 3) := by decide +kernel
theorem dr_cJ1_indexOf_5af95_59 : decode cJ1_indexOf_5af95 59 = .ok (.iload 7, 2) := by decide +kernel
theorem dr_cJ1_indexOf_5af95_61 : decode cJ1_indexOf_5af95 61 = .ok (.iconst 1, 1) := by decide +kernel
theorem dr_cJ1_indexOf_5af95_62 : decode cJ1_indexOf_5af95 62 = .ok (.iadd, 1) := by decide +kernel
theorem dr_cJ1_indexOf_5af95_63 : decode cJ1_indexOf_5af95 63 = .ok (.istore 8, 2) := by decide +kernel
theorem dr_cJ1_indexOf_5af95_65 : decode cJ1_indexOf_5af95 65 = .ok (.iload 8, 2) := by decide +kernel
theorem dr_cJ1_indexOf_5af95_67 : decode cJ1_indexOf_5af95 67 = .ok (.iload_n 3, 1) := by decide +kernel
theorem dr_cJ1_indexOf_5af95_68 : decode cJ1_indexOf_5af95 68 = .ok (.iadd, 1) := by decide +kernel
theorem dr_cJ1_indexOf_5af95_69 : decode cJ1_indexOf_5af95 69 = .ok (.iconst 1, 1) := by decide +kernel
theorem dr_cJ1_indexOf_5af95_70 : decode cJ1_indexOf_5af95 70 = .ok (.isub, 1) := by decide +kernel
theorem dr_cJ1_indexOf_5af95_71 : decode cJ1_indexOf_5af95 71 = .ok (.istore 9, 2) := by decide +kernel
theorem dr_cJ1_indexOf_5af95_73 : decode cJ1_indexOf_5af95 73 = .ok (.iconst 1, 1) := by decide +kernel
theorem dr_cJ1_indexOf_5af95_74 : decode cJ1_indexOf_5af95 74 = .ok (.istore 10, 2) := by decide +kernel
theorem dr_cJ1_indexOf_5af95_76 : decode cJ1_indexOf_5af95 76 = .ok (.iload 8, 2) := by decide +kernel
theorem dr_cJ1_indexOf_5af95_78 : decode cJ1_indexOf_5af95 78 = .ok (.iload 9, 2) := by decide +kernel
theorem dr_cJ1_indexOf_5af95_80 : decode cJ1_indexOf_5af95 80 = .ok (.if_icmp .ge 23, 3) := by decide +kernel
theorem dr_cJ1_indexOf_5af95_103 : decode cJ1_indexOf_5af95 103 = .ok (.iload 8, 2) := by decide +kernel
theorem dr_cJ1_indexOf_5af95_105 : decode cJ1_indexOf_5af95 105 = .ok (.iload 9, 2) := by decide +kernel
theorem dr_cJ1_indexOf_5af95_107 : decode cJ1_indexOf_5af95 107 = .ok (.if_icmp .ne 6, 3) := by decide +kernel
theorem dr_cJ1_indexOf_5af95_110 : decode cJ1_indexOf_5af95 110 = .ok (.iload 7, 2) := by decide +kernel
theorem dr_cJ1_indexOf_5af95_112 : decode cJ1_indexOf_5af95 112 = .ok (.ireturn, 1) := by decide +kernel
theorem dr_cJ1_indexOf_5af95_83 : decode cJ1_indexOf_5af95 83 = .ok (.aload_n 0, 1) := by decide +kernel
theorem dr_cJ1_indexOf_5af95_84 : decode cJ1_indexOf_5af95 84 = .ok (.iload 8, 2) := by decide +kernel
theorem dr_cJ1_indexOf_5af95_86 : decode cJ1_indexOf_5af95 86 = .ok (.baload, 1) := by decide +kernel
theorem dr_cJ1_indexOf_5af95_87 : decode cJ1_indexOf_5af95 87 = .ok (.aload_n 2, 1) := by decide +kernel
theorem dr_cJ1_indexOf_5af95_88 : decode cJ1_indexOf_5af95 88 = .ok (.iload 10, 2) := by decide +kernel
theorem dr_cJ1_indexOf_5af95_90 : decode cJ1_indexOf_5af95 90 = .ok (.baload, 1) := by decide +kernel
theorem dr_cJ1_indexOf_5af95_91 : decode cJ1_indexOf_5af95 91 = .ok (.if_icmp .ne 12, 3) := by decide +kernel
theorem dr_cJ1_indexOf_5af95_94 : decode cJ1_indexOf_5af95 94 = .ok (.iinc 8 1, 3) := by decide +kernel
theorem dr_cJ1_indexOf_5af95_97 : decode cJ1_indexOf_5af95 97 = .ok (.iinc 10 1, 3) := by decide +kernel
theorem dr_cJ1_indexOf_5af95_100 : decode cJ1_indexOf_5af95 100 = .ok (.goto (-24), 3) := by decide +kernel
theorem dr_cJ1_indexOf_5af95_30 : decode cJ1_indexOf_5af95 30 = .ok (.iinc 7 1, 3) := by decide +kernel
theorem dr_cJ1_indexOf_5af95_33 : decode cJ1_indexOf_5af95 33 = .ok (.iload 7, 2) := by decide +kernel
theorem dr_cJ1_indexOf_5af95_35 : decode cJ1_indexOf_5af95 35 = .ok (.iload 6, 2) := by decide +kernel
theorem dr_cJ1_indexOf_5af95_37 : decode cJ1_indexOf_5af95 37 = .ok (.if_icmp .gt 15, 3) := by decide +kernel
theorem dr_cJ1_indexOf_5af95_40 : decode cJ1_indexOf_5af95 40 = .ok (.aload_n 0, 1) := by decide +kernel
theorem dr_cJ1_indexOf_5af95_41 : decode cJ1_indexOf_5af95 41 = .ok (.iload 7, 2) := by decide +kernel
theorem dr_cJ1_indexOf_5af95_43 : decode cJ1_indexOf_5af95 43 = .ok (.baload, 1) := by decide +kernel
theorem dr_cJ1_indexOf_5af95_44 : decode cJ1_indexOf_5af95 44 = .ok (.iload 5, 2) := by decide +kernel
theorem dr_cJ1_indexOf_5af95_46 : decode cJ1_indexOf_5af95 46 = .ok (.if_icmp .eq 6, 3) := by decide +kernel
theorem dr_cJ1_indexOf_5af95_49 : decode cJ1_indexOf_5af95 49 = .ok (.goto (-19), 3) := by decide +kernel
abbrev ky_660304_String_isLatin1 : gKey := (cJ0_isLatin1_aae02, 1, "java/lang/String", (some FieldType.boolean), [], "isLatin1", fun _ _ => True)
def pp_660304_String_isLatin1 (D : va_G) (I : FieldType → ClassId) (P660299 : List Nat) (F660300 : Nat → va_E) (qs660301 : Nat) (qb660302 : Nat) (bs660303 : List Int32) : Option Value → va_W → Nat → Nat → Prop := fun r w dc ds => r = some (.int 1) ∧ w = va_pl P660299 F660300 ∧ dc ≤ 0 ∧ ds ≤ 0
set_option maxRecDepth 100000 in
set_option maxHeartbeats 4000000 in
theorem cp_660304_String_isLatin1 (l : Launch) (hl0 : l.stackTraces = false) (D : va_G) (I : FieldType → ClassId) (P660299 : List Nat) (F660300 : Nat → va_E) (qs660301 : Nat) (qb660302 : Nat) (bs660303 : List Int32) (hbs660303 : ∀ A s H, (gV D I).2.2.2.1 A s H → gSC qs660301 qb660302 bs660303 A s H) (nbs660303 : (bs660303.length : Int) ≤ 65535) (lbs660303 : gLB bs660303) : CtA (gV D I) l yJ0_isLatin1_aae02 cJ0_isLatin1_aae02 1 (some FieldType.boolean) 0 0 0 0 [.ref qs660301] (va_pl P660299 F660300) (pp_660304_String_isLatin1 D I P660299 F660300 qs660301 qb660302 bs660303) gNA := by
  refine CtA_ofF hl0 (by decide +kernel) (Nat.le_of_ble_eq_true rfl) ?_
  refine G_gets dr_cJ0_isLatin1_aae02_0 wr_3_65 gz_cs (fun x hx => ?_)
  subst hx
  refine G_if_eq 17 dr_cJ0_isLatin1_aae02_3 (by decide +kernel) (fun hc => absurd hc (by decide)) (fun _ => ?_)
  refine G_aload_n 0 dr_cJ0_isLatin1_aae02_6 rfl ?_
  refine G_kget dr_cJ0_isLatin1_aae02_7 wr_8_183 (fun _ _ _ h => (hbs660303 _ _ _ h).2.1) ?_
  refine G_if_ne 17 dr_cJ0_isLatin1_aae02_10 (by decide +kernel) (fun hc => absurd hc (by decide)) (fun _ => ?_)
  refine G_iconst 1 dr_cJ0_isLatin1_aae02_13 (by decide +kernel) ?_
  refine G_goto 18 dr_cJ0_isLatin1_aae02_14 (by decide +kernel) ?_
  exact G_zretA FieldType.boolean dr_cJ0_isLatin1_aae02_18 rfl rfl (Nat.le_of_ble_eq_true rfl) (Nat.le_of_ble_eq_true rfl) ⟨rfl, rfl, (Nat.le_of_ble_eq_true rfl), (Nat.le_of_ble_eq_true rfl)⟩
/- tr_RStringLatin1_charAt: result -/
def tr_RStringLatin1_charAt (bs : List Int32) (a1 : Int32) (o1 : Int32) : Prop := ∀ R : (Int32) → Prop,
  (∀ (x1 : Int32) (x2 : Int32) (x3 : Int32) (x4 : Int32), x1.toInt = (bs.length : Int) → tr_RString_checkIndex a1 x1 → x2 = bs.getD a1.toNatClampNeg 0 → x3 = x2 &&& (255 : Int32) → x4 = (x3.toUInt32 % 65536).toInt32 → R x4) →
  R o1
abbrev ky_660316_StringLatin1_charAt : gKey := (cJ1_charAt_3b067, 2, "java/lang/StringLatin1", (some FieldType.char), [], "charAt", fun _ _ => True)
def pp_660316_StringLatin1_charAt (D : va_G) (I : FieldType → ClassId) (P660310 : List Nat) (F660311 : Nat → va_E) (qs660312 : Nat) (bs660313 : List Int32) (p660314 : Int32) : Option Value → va_W → Nat → Nat → Prop := fun r w dc ds => ∃ (o660327 : Int32), r = some (.int o660327) ∧ w = va_pl P660310 F660311 ∧ dc ≤ 0 ∧ ds ≤ 0 ∧ gB o660327 0 65535 ∧ tr_RStringLatin1_charAt bs660313 p660314 o660327
set_option maxRecDepth 100000 in
set_option maxHeartbeats 4000000 in
theorem cp_660316_StringLatin1_charAt (l : Launch) (hl0 : l.stackTraces = false) (D : va_G) (I : FieldType → ClassId) (P660310 : List Nat) (F660311 : Nat → va_E) (qs660312 : Nat) (bs660313 : List Int32) (p660314 : Int32) (hbs660313 : ∀ A s H, (gV D I).2.2.2.1 A s H → va_T .byte qs660312 bs660313.length (fun j => .int (bs660313.getD j 0)) A s H) (nbs660313 : (bs660313.length : Int) ≤ 65535) (lbs660313 : gLB bs660313) (bp660314 : gB p660314 0 16777215) (x660315 : p660314.toInt < (bs660313.length : Int)) : CtA (gV D I) l yJ1_charAt_3b067 cJ1_charAt_3b067 2 (some FieldType.char) 2 43 0 0 [.ref qs660312, .int p660314] (va_pl P660310 F660311) (pp_660316_StringLatin1_charAt D I P660310 F660311 qs660312 bs660313 p660314) gNA := by
  refine CtA_ofF hl0 (by decide +kernel) (Nat.le_of_ble_eq_true rfl) ?_
  refine G_iload_n 1 dr_cJ1_charAt_3b067_0 rfl ?_
  refine G_aload_n 0 dr_cJ1_charAt_3b067_1 rfl ?_
  refine G_klen dr_cJ1_charAt_3b067_2 hbs660313 (G_nam fun z660317 hz660317 => ?_)
  have ez660317 : z660317.toInt = (bs660313.length : Int) := gI_ofN hz660317 nbs660313
  have bz660317 : gB z660317 0 65535 := ⟨by omega, by omega⟩
  refine Gw_callS (As := [.int p660314, .int z660317]) (gV_ok D I) (cp_658623_String_checkIndex l hl0 D I P660310 F660311 p660314 z660317 (gB_w bp660314 (by decide) (by decide)) (gB_w bz660317 (by decide) (by decide)) (by omega)) dr_cJ1_charAt_3b067_3 ⟨wr_3_78, wr_1_21, wr_3_80, by decide, rfl, (Nat.le_of_ble_eq_true rfl), (Nat.le_of_ble_eq_true rfl)⟩ wr_3_79 (show 0 + 0 ≤ 0 by first | omega | decide) (show 0 + 0 ≤ 0 by first | omega | decide) (Nat.le_of_ble_eq_true rfl) (fun r660321 w660322 dc660318 ds660319 hp660320 => ?_) (fun _ _ _ _ _ z => z.elim)
  obtain ⟨rfl, rfl, hdc, hds, ht660323⟩ := hp660320
  change G _ _ _ _ _ _ _ _ _ _ _
  refine G_widen (cs' := 0) (sl' := 0) (by omega) (by omega) ?_
  refine G_aload_n 0 dr_cJ1_charAt_3b067_6 rfl ?_
  refine G_iload_n 1 dr_cJ1_charAt_3b067_7 rfl ?_
  refine G_kbald (f := fun j => bs660313.getD j 0) dr_cJ1_charAt_3b067_8 hbs660313 (gB_inr (by omega) (by omega)) (G_nam fun z660324 hz660324 => ?_)
  have bz660324 : gB z660324 (-2147483648) 2147483647 := gB_any z660324
  refine G_sipush 255 dr_cJ1_charAt_3b067_9 (by decide +kernel) ?_
  refine G_iand dr_cJ1_charAt_3b067_12 (G_nam fun z660325 hz660325 => ?_)
  have bz660325 : gB z660325 0 255 := gB_and hz660325 (gBl (show Int32.toInt 255 = 255 by decide)) (by decide)
  refine G_i2c dr_cJ1_charAt_3b067_13 (G_nam fun z660326 hz660326 => ?_)
  have bz660326 : gB z660326 0 65535 := gB_i2c hz660326
  exact G_zretA FieldType.char dr_cJ1_charAt_3b067_14 rfl (gN_char bz660326) (Nat.le_of_ble_eq_true rfl) (Nat.le_of_ble_eq_true rfl) ⟨z660326, rfl, rfl, (Nat.le_of_ble_eq_true rfl), (Nat.le_of_ble_eq_true rfl), bz660326, (fun R c1 => c1 z660317 z660324 z660325 z660326 ez660317 ht660323 hz660324 hz660325 hz660326)⟩
/- tr_RString_charAt: result -/
def tr_RString_charAt (bs : List Int32) (a1 : Int32) (o1 : Int32) : Prop := ∀ R : (Int32) → Prop,
  (∀ (x1 : Int32), gB x1 0 65535 → tr_RStringLatin1_charAt bs a1 x1 → R x1) →
  R o1
abbrev ky_660298_String_charAt : gKey := (cJ0_charAt_5068e, 2, "java/lang/String", (some FieldType.char), [], "charAt", fun _ _ => True)
def pp_660298_String_charAt (D : va_G) (I : FieldType → ClassId) (P660291 : List Nat) (F660292 : Nat → va_E) (qs660293 : Nat) (qb660294 : Nat) (bs660295 : List Int32) (p660296 : Int32) : Option Value → va_W → Nat → Nat → Prop := fun r w dc ds => ∃ (o660335 : Int32), r = some (.int o660335) ∧ w = va_pl P660291 F660292 ∧ dc ≤ 0 ∧ ds ≤ 0 ∧ gB o660335 0 65535 ∧ tr_RString_charAt bs660295 p660296 o660335
set_option maxRecDepth 100000 in
set_option maxHeartbeats 4000000 in
theorem cp_660298_String_charAt (l : Launch) (hl0 : l.stackTraces = false) (D : va_G) (I : FieldType → ClassId) (P660291 : List Nat) (F660292 : Nat → va_E) (qs660293 : Nat) (qb660294 : Nat) (bs660295 : List Int32) (p660296 : Int32) (hbs660295 : ∀ A s H, (gV D I).2.2.2.1 A s H → gSC qs660293 qb660294 bs660295 A s H) (nbs660295 : (bs660295.length : Int) ≤ 65535) (lbs660295 : gLB bs660295) (bp660296 : gB p660296 0 65535) (x660297 : p660296.toInt < (bs660295.length : Int)) : CtA (gV D I) l yJ0_charAt_5068e cJ0_charAt_5068e 2 (some FieldType.char) 3 64 0 0 [.ref qs660293, .int p660296] (va_pl P660291 F660292) (pp_660298_String_charAt D I P660291 F660292 qs660293 qb660294 bs660295 p660296) gNA := by
  refine CtA_ofF hl0 (by decide +kernel) (Nat.le_of_ble_eq_true rfl) ?_
  refine G_aload_n 0 dr_cJ0_charAt_5068e_0 rfl ?_
  refine Gw_callVk (As := []) (gV_ok D I) (cp_660304_String_isLatin1 l hl0 D I P660291 F660292 qs660293 qb660294 bs660295 hbs660295 nbs660295 lbs660295) dr_cJ0_charAt_5068e_1 ⟨wr_3_71, wr_1_21, wr_3_74, by decide, rfl, (Nat.le_of_ble_eq_true rfl), (Nat.le_of_ble_eq_true rfl)⟩ wr_3_72 wr_3_73 (fun _ _ _ h => (hbs660295 _ _ _ h).1) (show 0 + 0 ≤ 0 by first | omega | decide) (show 0 + 0 ≤ 0 by first | omega | decide) (Nat.le_of_ble_eq_true rfl) (fun r660308 w660309 dc660305 ds660306 hp660307 => ?_) (fun _ _ _ _ _ z => z.elim)
  obtain ⟨rfl, rfl, hdc, hds⟩ := hp660307
  change G _ _ _ _ _ _ _ (.int 1 :: _) _ _ _
  refine G_widen (cs' := 0) (sl' := 0) (by omega) (by omega) ?_
  refine G_if_eq 16 dr_cJ0_charAt_5068e_4 (by decide +kernel) (fun hc => absurd hc (by decide)) (fun _ => ?_)
  refine G_aload_n 0 dr_cJ0_charAt_5068e_7 rfl ?_
  refine G_kget dr_cJ0_charAt_5068e_8 wr_8_182 (fun _ _ _ h => (hbs660295 _ _ _ h).2.2.1) ?_
  refine G_iload_n 1 dr_cJ0_charAt_5068e_11 rfl ?_
  refine Gw_callS (As := [.ref qb660294, .int p660296]) (gV_ok D I) (cp_660316_StringLatin1_charAt l hl0 D I P660291 F660292 qb660294 bs660295 p660296 (fun _ _ _ h => (hbs660295 _ _ _ h).2.2.2) (by omega) lbs660295 (gB_w bp660296 (by decide) (by decide)) (by omega)) dr_cJ0_charAt_5068e_12 ⟨wr_3_75, wr_1_28, wr_3_77, by decide, rfl, (Nat.le_of_ble_eq_true rfl), (Nat.le_of_ble_eq_true rfl)⟩ wr_3_76 (show 0 + 0 ≤ 0 by first | omega | decide) (show 0 + 0 ≤ 0 by first | omega | decide) (Nat.le_of_ble_eq_true rfl) (fun r660331 w660332 dc660328 ds660329 hp660330 => ?_) (fun _ _ _ _ _ z => z.elim)
  obtain ⟨o660333, rfl, rfl, hdc, hds, bo660333, ht660334⟩ := hp660330
  change G _ _ _ _ _ _ _ (.int o660333 :: _) _ _ _
  refine G_widen (cs' := 0) (sl' := 0) (by omega) (by omega) ?_
  exact G_zretA FieldType.char dr_cJ0_charAt_5068e_15 rfl (gN_char bo660333) (Nat.le_of_ble_eq_true rfl) (Nat.le_of_ble_eq_true rfl) ⟨o660333, rfl, rfl, (Nat.le_of_ble_eq_true rfl), (Nat.le_of_ble_eq_true rfl), bo660333, (fun R c1 => c1 o660333 bo660333 ht660334)⟩
/- tl_RStringLatin1_indexOf2_76: l10, l8; out: l8 -/
def tl_RStringLatin1_indexOf2_76 (c1 : Int32) (bs : List Int32) (a2_v : Nat → Int32) (s1 : Int32) (s2 : Int32) (k : Nat) (e1 : Int32) : Prop := ∀ R : (Int32) → (Int32) → Nat → (Int32) → Prop,
  (∀ (l10_2 : Int32) (l8_2 : Int32), gB l10_2 1 16777217 → gB l8_2 (-2147483645) 33554431 → c1.toInt ≤ l8_2.toInt → R l10_2 l8_2 103 l8_2) →
  (∀ (l10_2 : Int32) (l8_2 : Int32) (x1 : Int32) (x2 : Int32), gB l10_2 1 16777217 → gB l8_2 (-2147483645) 33554431 → l8_2.toInt < c1.toInt → x1 = bs.getD l8_2.toNatClampNeg 0 → x2 = a2_v l10_2.toNatClampNeg → gB x2 (-128) 127 → x1.toInt ≠ x2.toInt → R l10_2 l8_2 103 l8_2) →
  (∀ (l10_2 : Int32) (l8_2 : Int32) (x1 : Int32) (x2 : Int32) (x3 : Int32) (x4 : Int32) (k : Nat) (e1 : Int32), gB l10_2 1 16777217 → gB l8_2 (-2147483645) 33554431 → l8_2.toInt < c1.toInt → x1 = bs.getD l8_2.toNatClampNeg 0 → x2 = a2_v l10_2.toNatClampNeg → gB x2 (-128) 127 → x1.toInt = x2.toInt → x3.toInt = l8_2.toInt + 1 → x4.toInt = l10_2.toInt + 1 → R x4 x3 k e1 → R l10_2 l8_2 k e1) →
  R s1 s2 k e1
/- tl_RStringLatin1_indexOf2_76_2: l10, l8; out: l8 -/
def tl_RStringLatin1_indexOf2_76_2 (c1 : Int32) (bs : List Int32) (a2_v : Nat → Int32) (s1 : Int32) (s2 : Int32) (k : Nat) (e1 : Int32) : Prop := ∀ R : (Int32) → (Int32) → Nat → (Int32) → Prop,
  (∀ (l10_2 : Int32) (l8_2 : Int32), gB l10_2 1 16777217 → gB l8_2 (-16777214) 33554431 → c1.toInt ≤ l8_2.toInt → R l10_2 l8_2 103 l8_2) →
  (∀ (l10_2 : Int32) (l8_2 : Int32) (x1 : Int32) (x2 : Int32), gB l10_2 1 16777217 → gB l8_2 (-16777214) 33554431 → l8_2.toInt < c1.toInt → x1 = bs.getD l8_2.toNatClampNeg 0 → x2 = a2_v l10_2.toNatClampNeg → gB x2 (-128) 127 → x1.toInt ≠ x2.toInt → R l10_2 l8_2 103 l8_2) →
  (∀ (l10_2 : Int32) (l8_2 : Int32) (x1 : Int32) (x2 : Int32) (x3 : Int32) (x4 : Int32) (k : Nat) (e1 : Int32), gB l10_2 1 16777217 → gB l8_2 (-16777214) 33554431 → l8_2.toInt < c1.toInt → x1 = bs.getD l8_2.toNatClampNeg 0 → x2 = a2_v l10_2.toNatClampNeg → gB x2 (-128) 127 → x1.toInt = x2.toInt → x3.toInt = l8_2.toInt + 1 → x4.toInt = l10_2.toInt + 1 → R x4 x3 k e1 → R l10_2 l8_2 k e1) →
  R s1 s2 k e1
/- tl_RStringLatin1_indexOf2_76_3: l10, l8; out: l8 -/
def tl_RStringLatin1_indexOf2_76_3 (c1 : Int32) (bs : List Int32) (a2_v : Nat → Int32) (s1 : Int32) (s2 : Int32) (k : Nat) (e1 : Int32) : Prop := ∀ R : (Int32) → (Int32) → Nat → (Int32) → Prop,
  (∀ (l10_2 : Int32) (l8_2 : Int32), gB l10_2 1 16777217 → gB l8_2 (-2147483644) 33554431 → c1.toInt ≤ l8_2.toInt → R l10_2 l8_2 103 l8_2) →
  (∀ (l10_2 : Int32) (l8_2 : Int32) (x1 : Int32) (x2 : Int32), gB l10_2 1 16777217 → gB l8_2 (-2147483644) 33554431 → l8_2.toInt < c1.toInt → x1 = bs.getD l8_2.toNatClampNeg 0 → x2 = a2_v l10_2.toNatClampNeg → gB x2 (-128) 127 → x1.toInt ≠ x2.toInt → R l10_2 l8_2 103 l8_2) →
  (∀ (l10_2 : Int32) (l8_2 : Int32) (x1 : Int32) (x2 : Int32) (x3 : Int32) (x4 : Int32) (k : Nat) (e1 : Int32), gB l10_2 1 16777217 → gB l8_2 (-2147483644) 33554431 → l8_2.toInt < c1.toInt → x1 = bs.getD l8_2.toNatClampNeg 0 → x2 = a2_v l10_2.toNatClampNeg → gB x2 (-128) 127 → x1.toInt = x2.toInt → x3.toInt = l8_2.toInt + 1 → x4.toInt = l10_2.toInt + 1 → R x4 x3 k e1 → R l10_2 l8_2 k e1) →
  R s1 s2 k e1
/- tl_RStringLatin1_indexOf2_30: l7; out: l7 -/
def tl_RStringLatin1_indexOf2_30 (c1 : Int32) (bs : List Int32) (c2 : Int32) (s1 : Int32) (k : Nat) (e1 : Int32) : Prop := ∀ R : (Int32) → Nat → (Int32) → Prop,
  (∀ (l7_2 : Int32) (x1 : Int32), gB l7_2 (-2147483646) 16777215 → x1.toInt = l7_2.toInt + 1 → c1.toInt < x1.toInt → R l7_2 52 x1) →
  (∀ (l7_2 : Int32) (x1 : Int32) (x2 : Int32), gB l7_2 (-2147483646) 16777215 → x1.toInt = l7_2.toInt + 1 → x1.toInt ≤ c1.toInt → x2 = bs.getD x1.toNatClampNeg 0 → x2.toInt = c2.toInt → R l7_2 52 x1) →
  (∀ (l7_2 : Int32) (x1 : Int32) (x2 : Int32) (k : Nat) (e1 : Int32), gB l7_2 (-2147483646) 16777215 → x1.toInt = l7_2.toInt + 1 → x1.toInt ≤ c1.toInt → x2 = bs.getD x1.toNatClampNeg 0 → x2.toInt ≠ c2.toInt → R x1 k e1 → R l7_2 k e1) →
  R s1 k e1
/- tl_RStringLatin1_indexOf2_14: l7; out: l7 -/
def tl_RStringLatin1_indexOf2_14 (c1 : Int32) (bs : List Int32) (c2 : Int32) (a3 : Int32) (a2_v : Nat → Int32) (s1 : Int32) (k : Nat) (e1 : Int32) : Prop := ∀ R : (Int32) → Nat → (Int32) → Prop,
  (∀ (l7_1 : Int32), gB l7_1 (-2147483646) 16777217 → c1.toInt < l7_1.toInt → R l7_1 119 (0 : Int32)) →
  (∀ (l7_1 : Int32) (x1 : Int32) (x2 : Int32) (k : Nat) (e1 : Int32), gB l7_1 (-2147483646) 16777217 → l7_1.toInt ≤ c1.toInt → x1 = bs.getD l7_1.toNatClampNeg 0 → x1.toInt = c2.toInt → c1.toInt < l7_1.toInt → x2.toInt = l7_1.toInt + 1 → R x2 k e1 → R l7_1 k e1) →
  (∀ (l7_1 : Int32) (x1 : Int32) (x2 : Int32) (x3 : Int32) (x4 : Int32) (x5 : Int32) (x6 : Int32) (k : Nat) (e1 : Int32), gB l7_1 (-2147483646) 16777217 → l7_1.toInt ≤ c1.toInt → x1 = bs.getD l7_1.toNatClampNeg 0 → x1.toInt = c2.toInt → l7_1.toInt ≤ c1.toInt → x2.toInt = l7_1.toInt + 1 → x3.toInt = x2.toInt + a3.toInt → x4.toInt = x3.toInt - 1 → tl_RStringLatin1_indexOf2_76 x4 bs a2_v (1 : Int32) x2 103 x5 → x5.toInt ≠ x4.toInt → x6.toInt = l7_1.toInt + 1 → R x6 k e1 → R l7_1 k e1) →
  (∀ (l7_1 : Int32) (x1 : Int32) (x2 : Int32) (x3 : Int32) (x4 : Int32) (x5 : Int32), gB l7_1 (-2147483646) 16777217 → l7_1.toInt ≤ c1.toInt → x1 = bs.getD l7_1.toNatClampNeg 0 → x1.toInt = c2.toInt → l7_1.toInt ≤ c1.toInt → x2.toInt = l7_1.toInt + 1 → x3.toInt = x2.toInt + a3.toInt → x4.toInt = x3.toInt - 1 → tl_RStringLatin1_indexOf2_76 x4 bs a2_v (1 : Int32) x2 103 x5 → x5.toInt = x4.toInt → R l7_1 110 l7_1) →
  (∀ (l7_1 : Int32) (x1 : Int32) (x2 : Int32) (x3 : Int32) (k : Nat) (e1 : Int32), gB l7_1 (-2147483646) 16777217 → l7_1.toInt ≤ c1.toInt → x1 = bs.getD l7_1.toNatClampNeg 0 → x1.toInt ≠ c2.toInt → tl_RStringLatin1_indexOf2_30 c1 bs c2 l7_1 52 x2 → c1.toInt < x2.toInt → x3.toInt = x2.toInt + 1 → R x3 k e1 → R l7_1 k e1) →
  (∀ (l7_1 : Int32) (x1 : Int32) (x2 : Int32) (x3 : Int32) (x4 : Int32) (x5 : Int32) (x6 : Int32) (x7 : Int32) (k : Nat) (e1 : Int32), gB l7_1 (-2147483646) 16777217 → l7_1.toInt ≤ c1.toInt → x1 = bs.getD l7_1.toNatClampNeg 0 → x1.toInt ≠ c2.toInt → tl_RStringLatin1_indexOf2_30 c1 bs c2 l7_1 52 x2 → x2.toInt ≤ c1.toInt → x3.toInt = x2.toInt + 1 → x4.toInt = x3.toInt + a3.toInt → x5.toInt = x4.toInt - 1 → tl_RStringLatin1_indexOf2_76_2 x5 bs a2_v (1 : Int32) x3 103 x6 → x6.toInt ≠ x5.toInt → x7.toInt = x2.toInt + 1 → R x7 k e1 → R l7_1 k e1) →
  (∀ (l7_1 : Int32) (x1 : Int32) (x2 : Int32) (x3 : Int32) (x4 : Int32) (x5 : Int32) (x6 : Int32), gB l7_1 (-2147483646) 16777217 → l7_1.toInt ≤ c1.toInt → x1 = bs.getD l7_1.toNatClampNeg 0 → x1.toInt ≠ c2.toInt → tl_RStringLatin1_indexOf2_30 c1 bs c2 l7_1 52 x2 → x2.toInt ≤ c1.toInt → x3.toInt = x2.toInt + 1 → x4.toInt = x3.toInt + a3.toInt → x5.toInt = x4.toInt - 1 → tl_RStringLatin1_indexOf2_76_2 x5 bs a2_v (1 : Int32) x3 103 x6 → x6.toInt = x5.toInt → R l7_1 110 x2) →
  (∀ (l7_1 : Int32) (x1 : Int32) (x2 : Int32) (x3 : Int32) (x4 : Int32) (x5 : Int32) (x6 : Int32) (x7 : Int32) (k : Nat) (e1 : Int32), gB l7_1 (-2147483646) 16777217 → l7_1.toInt ≤ c1.toInt → x1 = bs.getD l7_1.toNatClampNeg 0 → x1.toInt ≠ c2.toInt → tl_RStringLatin1_indexOf2_30 c1 bs c2 l7_1 52 x2 → x2.toInt ≤ c1.toInt → x3.toInt = x2.toInt + 1 → x4.toInt = x3.toInt + a3.toInt → x5.toInt = x4.toInt - 1 → tl_RStringLatin1_indexOf2_76_3 x5 bs a2_v (1 : Int32) x3 103 x6 → x6.toInt ≠ x5.toInt → x7.toInt = x2.toInt + 1 → R x7 k e1 → R l7_1 k e1) →
  (∀ (l7_1 : Int32) (x1 : Int32) (x2 : Int32) (x3 : Int32) (x4 : Int32) (x5 : Int32) (x6 : Int32), gB l7_1 (-2147483646) 16777217 → l7_1.toInt ≤ c1.toInt → x1 = bs.getD l7_1.toNatClampNeg 0 → x1.toInt ≠ c2.toInt → tl_RStringLatin1_indexOf2_30 c1 bs c2 l7_1 52 x2 → x2.toInt ≤ c1.toInt → x3.toInt = x2.toInt + 1 → x4.toInt = x3.toInt + a3.toInt → x5.toInt = x4.toInt - 1 → tl_RStringLatin1_indexOf2_76_3 x5 bs a2_v (1 : Int32) x3 103 x6 → x6.toInt = x5.toInt → R l7_1 110 x2) →
  R s1 k e1
/- tr_RStringLatin1_indexOf2: result -/
def tr_RStringLatin1_indexOf2 (bs : List Int32) (a1 : Int32) (a3 : Int32) (a2_v : Nat → Int32) (o1 : Int32) : Prop := ∀ R : (Int32) → Prop,
  (∀ (x1 : Int32) (x2 : Int32), x1 = a2_v (0 : Int32).toNatClampNeg → gB x1 (-128) 127 → x2.toInt = a1.toInt - a3.toInt → tl_RStringLatin1_indexOf2_14 x2 bs x1 a3 a2_v (0 : Int32) 119 (0 : Int32) → R (-1 : Int32)) →
  (∀ (x1 : Int32) (x2 : Int32) (x3 : Int32), x1 = a2_v (0 : Int32).toNatClampNeg → gB x1 (-128) 127 → x2.toInt = a1.toInt - a3.toInt → tl_RStringLatin1_indexOf2_14 x2 bs x1 a3 a2_v (0 : Int32) 110 x3 → R x3) →
  R o1
abbrev ky_660396_StringLatin1_indexOf : gKey := (cJ1_indexOf_5af95, 11, "java/lang/StringLatin1", (some FieldType.int), [], "indexOf", fun _ _ => True)
def pp_660396_StringLatin1_indexOf (D : va_G) (I : FieldType → ClassId) (P660384 : List Nat) (F660385 : Nat → va_E) (q660386 : Nat) (qs660387 : Nat) (bs660388 : List Int32) (p660389 : Int32) (p660390 : Int32) (f660391 : Nat → Int32) (n660392 : Nat) : Option Value → va_W → Nat → Nat → Prop := fun r w dc ds => ∃ (o667396 : Int32), r = some (.int o667396) ∧ w = va_pl P660384 F660385 ∧ dc ≤ 0 ∧ ds ≤ 0 ∧ gB o667396 (-2147483646) 16777215 ∧ (o667396.toInt < 0 ∨ o667396.toInt + p660390.toInt ≤ p660389.toInt) ∧ ixP (fun j => bs660388.getD j 0) f660391 o667396 ∧ tr_RStringLatin1_indexOf2 bs660388 p660389 p660390 f660391 o667396
set_option maxRecDepth 100000 in
set_option maxHeartbeats 4000000 in
theorem cp_660396_StringLatin1_indexOf (l : Launch) (hl0 : l.stackTraces = false) (D : va_G) (I : FieldType → ClassId) (P660384 : List Nat) (F660385 : Nat → va_E) (q660386 : Nat) (qs660387 : Nat) (bs660388 : List Int32) (p660389 : Int32) (p660390 : Int32) (f660391 : Nat → Int32) (n660392 : Nat) (hmq660386 : q660386 ∈ P660384) (heq660386 : F660385 q660386 = .inl (I .byte, n660392, .inl f660391)) (hbs660388 : ∀ A s H, (gV D I).2.2.2.1 A s H → va_T .byte qs660387 bs660388.length (fun j => .int (bs660388.getD j 0)) A s H) (nbs660388 : (bs660388.length : Int) ≤ 65535) (lbs660388 : gLB bs660388) (bp660389 : gB p660389 0 16777216) (bp660390 : gB p660390 1 16777216) (bf660391 : gF f660391 (-128) 127) (x660393 : p660389.toInt = (bs660388.length : Int)) (x660394 : p660390.toInt = (n660392 : Int)) (x660395 : ((n660392 : Int) ≤ 16777216)) : CtA (gV D I) l yJ1_indexOf_5af95 cJ1_indexOf_5af95 11 (some FieldType.int) 0 0 0 0 [.ref qs660387, .int p660389, .ref q660386, .int p660390, .int 0] (va_pl P660384 F660385) (pp_660396_StringLatin1_indexOf D I P660384 F660385 q660386 qs660387 bs660388 p660389 p660390 f660391 n660392) gNA := by
  refine CtA_ofF hl0 (by decide +kernel) (Nat.le_of_ble_eq_true rfl) ?_
  refine G_aload_n 2 dr_cJ1_indexOf_5af95_0 rfl ?_
  refine G_iconst 0 dr_cJ1_indexOf_5af95_1 (by decide +kernel) ?_
  refine Gp_bald 1 hmq660386 heq660386 dr_cJ1_indexOf_5af95_2 rfl (gB_inr (x := 0) (show (0 : Int) ≤ Int32.toInt 0 by decide) (show Int32.toInt 0 < _ by rw [show Int32.toInt 0 = 0 by decide]; omega)) (G_nam fun z660397 hz660397 => ?_)
  have bz660397 : gB z660397 (-128) 127 := by rw [hz660397]; exact bf660391 _
  refine G_istore (L' := [(5, .int z660397), (0, .ref qs660387), (1, .int p660389), (2, .ref q660386), (3, .int p660390), (4, .int 0)]) dr_cJ1_indexOf_5af95_3 (Nat.le_of_ble_eq_true rfl) rfl ?_
  refine G_iload_n 2 dr_cJ1_indexOf_5af95_5 rfl ?_
  refine G_iload_n 4 dr_cJ1_indexOf_5af95_6 rfl ?_
  refine G_isub dr_cJ1_indexOf_5af95_7 (G_nam fun z660398 hz660398 => ?_)
  have ez660398 : z660398.toInt = p660389.toInt - p660390.toInt := by rw [gI_sub hz660398 bp660389 bp660390 (by decide) (by decide)]
  have bz660398 : gB z660398 (-16777216) 16777215 := gB_sub (gI_sub hz660398 bp660389 bp660390 (by decide) (by decide)) bp660389 bp660390 (by decide) (by decide)
  refine G_istore (L' := [(6, .int z660398), (5, .int z660397), (0, .ref qs660387), (1, .int p660389), (2, .ref q660386), (3, .int p660390), (4, .int 0)]) dr_cJ1_indexOf_5af95_8 (Nat.le_of_ble_eq_true rfl) rfl ?_
  refine G_iload 6 dr_cJ1_indexOf_5af95_10 rfl ?_
  refine G_istore (L' := [(7, .int 0), (6, .int z660398), (5, .int z660397), (0, .ref qs660387), (1, .int p660389), (2, .ref q660386), (3, .int p660390), (4, .int 0)]) dr_cJ1_indexOf_5af95_12 (Nat.le_of_ble_eq_true rfl) rfl ?_
  have hlp14_666309 : ∀ (n14_666309 : Nat) (g666308 : Int32), gB g666308 (-2147483646) 16777217 → 0 ≤ g666308.toInt → (∀ (k : Nat) (e1 : Int32), tl_RStringLatin1_indexOf2_14 z660398 bs660388 z660397 p660390 f660391 g666308 k e1 → tl_RStringLatin1_indexOf2_14 z660398 bs660388 z660397 p660390 f660391 (0 : Int32) k e1) → ((z660398.toInt : Int) + 2 - g666308.toInt).toNat < n14_666309 → G (gV D I) l (gRm 0 0 0 0) (gMA (gV D I) (pp_660396_StringLatin1_indexOf D I P660384 F660385 q660386 qs660387 bs660388 p660389 p660390 f660391 n660392) gNA 0 0) ky_660396_StringLatin1_indexOf 14 [(7, .int g666308), (6, .int z660398), (5, .int z660397), (0, .ref qs660387), (1, .int p660389), (2, .ref q660386), (3, .int p660390), (4, .int 0)] [] (va_pl P660384 F660385) 0 0 := by
    intro n14_666309
    induction n14_666309 with
    | zero => intro g666308 bg666308 x666309 kt14_666309 hm14_666309; exact absurd hm14_666309 (Nat.not_lt_zero _)
    | succ n14_666309 ih14_666309 =>
      intro g666308 bg666308 x666309 kt14_666309 hm14_666309
      refine G_iload 0 dr_cJ1_indexOf_5af95_14 rfl ?_
      refine G_iload 1 dr_cJ1_indexOf_5af95_16 rfl ?_
      refine G_icmp_gt 119 dr_cJ1_indexOf_5af95_18 (by decide +kernel) (fun hc666310 => ?_) (fun hc666310 => ?_)
      · have r666311 : z660398.toInt < g666308.toInt := gC_lt hc666310
        have bg666308' : gB g666308 (-16777215) 16777217 := ⟨by omega, by omega⟩
        have hx666312 : tl_RStringLatin1_indexOf2_14 z660398 bs660388 z660397 p660390 f660391 (0 : Int32) 119 (0 : Int32) := kt14_666309 119 (0 : Int32) (fun R c1 c2 c3 c4 c5 c6 c7 c8 c9 => c1 g666308 bg666308 r666311)
        refine G_iconst (-1) dr_cJ1_indexOf_5af95_119 (by decide +kernel) ?_
        exact G_iretA dr_cJ1_indexOf_5af95_120 rfl (Nat.le_of_ble_eq_true rfl) (Nat.le_of_ble_eq_true rfl) ⟨(-1), rfl, rfl, (Nat.le_of_ble_eq_true rfl), (Nat.le_of_ble_eq_true rfl), (gB_w (gBl (show Int32.toInt (-1) = (-1) by decide)) (by decide) (by decide)), (by have qa0 : Int32.toInt (-1) = (-1) := (by decide); have qa1 : Int32.toInt 0 = 0 := (by decide); omega), (ixP_n (by decide)), (fun R c1 c2 => c1 z660397 z660398 hz660397 bz660397 ez660398 hx666312)⟩
      · have r666313 : g666308.toInt ≤ z660398.toInt := gC_nlt hc666310
        have bg666308' : gB g666308 (-2147483646) 16777215 := ⟨by omega, by omega⟩
        refine G_aload_n 3 dr_cJ1_indexOf_5af95_21 rfl ?_
        refine G_iload 0 dr_cJ1_indexOf_5af95_22 rfl ?_
        refine G_kbald (f := fun j => bs660388.getD j 0) dr_cJ1_indexOf_5af95_24 hbs660388 (gB_inr (by omega) (by omega)) (G_nam fun z666314 hz666314 => ?_)
        have bz666314 : gB z666314 (-2147483648) 2147483647 := gB_any z666314
        refine G_iload 2 dr_cJ1_indexOf_5af95_25 rfl ?_
        refine G_icmp_eq 52 dr_cJ1_indexOf_5af95_27 (by decide +kernel) (fun hc666315 => ?_) (fun hc666315 => ?_)
        · have r666316 : z666314.toInt = z660397.toInt := gC_eq hc666315
          have bz666314' : gB z666314 (-128) 127 := ⟨by omega, by omega⟩
          refine G_iload 0 dr_cJ1_indexOf_5af95_52 rfl ?_
          refine G_iload 1 dr_cJ1_indexOf_5af95_54 rfl ?_
          refine G_icmp_gt 113 dr_cJ1_indexOf_5af95_56 (by decide +kernel) (fun hc666317 => ?_) (fun hc666317 => ?_)
          · have r666318 : z660398.toInt < g666308.toInt := gC_lt hc666317
            have bz660398' : gB z660398 (-16777216) 16777214 := ⟨by omega, by omega⟩
            have bg666308'' : gB g666308 (-16777215) 16777215 := ⟨by omega, by omega⟩
            obtain ⟨z666319, hz666319⟩ : ∃ z : Int32, z = g666308 + Int32.ofInt 1 := ⟨_, rfl⟩
            have ez666319 : z666319.toInt = g666308.toInt + 1 := gI_inc hz666319 (by decide) bg666308'' (by decide) (by decide)
            have bz666319 : gB z666319 (-16777214) 16777216 := ⟨by omega, by omega⟩
            refine G_iinc (L' := [(7, .int z666319), (6, .int z660398), (5, .int z660397), (0, .ref qs660387), (1, .int p660389), (2, .ref q660386), (3, .int p660390), (4, .int 0)]) z666319 0 dr_cJ1_indexOf_5af95_113 rfl hz666319.symm (Nat.le_of_ble_eq_true rfl) rfl ?_
            refine G_goto 14 dr_cJ1_indexOf_5af95_116 (by decide +kernel) ?_
            exact ih14_666309 z666319 (gB_w bz666319 (by decide) (by decide)) (by have qa0 : Int32.toInt 0 = 0 := (by decide); omega) (fun k e1 ht => kt14_666309 k e1 (fun R c1 c2 c3 c4 c5 c6 c7 c8 c9 => c2 g666308 z666314 z666319 k e1 bg666308 r666313 hz666314 r666316 r666318 ez666319 (ht R c1 c2 c3 c4 c5 c6 c7 c8 c9))) (by have qa0 : Int32.toInt 0 = 0 := (by decide); omega)
          · have r666320 : g666308.toInt ≤ z660398.toInt := gC_nlt hc666317
            refine G_iload 0 dr_cJ1_indexOf_5af95_59 rfl ?_
            refine G_iconst 1 dr_cJ1_indexOf_5af95_61 (by decide +kernel) ?_
            refine G_iadd dr_cJ1_indexOf_5af95_62 (G_nam fun z666321 hz666321 => ?_)
            have ez666321 : z666321.toInt = g666308.toInt + 1 := by rw [gI_add hz666321 bg666308' (gBl (show Int32.toInt 1 = 1 by decide)) (by decide) (by decide), show Int32.toInt 1 = 1 from by decide]
            have bz666321 : gB z666321 (-2147483645) 16777216 := gB_add (gI_add hz666321 bg666308' (gBl (show Int32.toInt 1 = 1 by decide)) (by decide) (by decide)) bg666308' (gBl (show Int32.toInt 1 = 1 by decide)) (by decide) (by decide)
            refine G_istore (L' := [(8, .int z666321), (7, .int g666308), (6, .int z660398), (5, .int z660397), (0, .ref qs660387), (1, .int p660389), (2, .ref q660386), (3, .int p660390), (4, .int 0)]) dr_cJ1_indexOf_5af95_63 (Nat.le_of_ble_eq_true rfl) rfl ?_
            refine G_iload 0 dr_cJ1_indexOf_5af95_65 rfl ?_
            refine G_iload_n 7 dr_cJ1_indexOf_5af95_67 rfl ?_
            refine G_iadd dr_cJ1_indexOf_5af95_68 (G_nam fun z666322 hz666322 => ?_)
            have ez666322 : z666322.toInt = z666321.toInt + p660390.toInt := by rw [gI_add hz666322 bz666321 bp660390 (by decide) (by decide)]
            have bz666322 : gB z666322 (-2147483644) 33554432 := gB_add (gI_add hz666322 bz666321 bp660390 (by decide) (by decide)) bz666321 bp660390 (by decide) (by decide)
            refine G_iconst 1 dr_cJ1_indexOf_5af95_69 (by decide +kernel) ?_
            refine G_isub dr_cJ1_indexOf_5af95_70 (G_nam fun z666323 hz666323 => ?_)
            have ez666323 : z666323.toInt = z666322.toInt - 1 := by rw [gI_sub hz666323 bz666322 (gBl (show Int32.toInt 1 = 1 by decide)) (by decide) (by decide), show Int32.toInt 1 = 1 from by decide]
            have bz666323 : gB z666323 (-2147483645) 33554431 := gB_sub (gI_sub hz666323 bz666322 (gBl (show Int32.toInt 1 = 1 by decide)) (by decide) (by decide)) bz666322 (gBl (show Int32.toInt 1 = 1 by decide)) (by decide) (by decide)
            refine G_istore (L' := [(9, .int z666323), (8, .int z666321), (7, .int g666308), (6, .int z660398), (5, .int z660397), (0, .ref qs660387), (1, .int p660389), (2, .ref q660386), (3, .int p660390), (4, .int 0)]) dr_cJ1_indexOf_5af95_71 (Nat.le_of_ble_eq_true rfl) rfl ?_
            refine G_iconst 1 dr_cJ1_indexOf_5af95_73 (by decide +kernel) ?_
            refine G_istore (L' := [(10, .int 1), (9, .int z666323), (8, .int z666321), (7, .int g666308), (6, .int z660398), (5, .int z660397), (0, .ref qs660387), (1, .int p660389), (2, .ref q660386), (3, .int p660390), (4, .int 0)]) dr_cJ1_indexOf_5af95_74 (Nat.le_of_ble_eq_true rfl) rfl ?_
            have hlp76_666446 : ∀ (n76_666446 : Nat) (g666441 : Int32) (g666442 : Int32), gB g666441 1 16777217 → gB g666442 (-2147483645) 33554431 → 0 ≤ g666442.toInt → g666441.toInt = g666442.toInt - g666308.toInt → 1 ≤ g666441.toInt → g666442.toInt ≤ z666323.toInt → (∀ (k : Nat) (e1 : Int32), tl_RStringLatin1_indexOf2_76 z666323 bs660388 f660391 g666441 g666442 k e1 → tl_RStringLatin1_indexOf2_76 z666323 bs660388 f660391 (1 : Int32) z666321 k e1) → ((z666323.toInt : Int) + 2 - g666442.toInt).toNat < n76_666446 → G (gV D I) l (gRm 0 0 0 0) (gMA (gV D I) (pp_660396_StringLatin1_indexOf D I P660384 F660385 q660386 qs660387 bs660388 p660389 p660390 f660391 n660392) gNA 0 0) ky_660396_StringLatin1_indexOf 76 [(10, .int g666441), (9, .int z666323), (8, .int g666442), (7, .int g666308), (6, .int z660398), (5, .int z660397), (0, .ref qs660387), (1, .int p660389), (2, .ref q660386), (3, .int p660390), (4, .int 0)] [] (va_pl P660384 F660385) 0 0 := by
              intro n76_666446
              induction n76_666446 with
              | zero => intro g666441 g666442 bg666441 bg666442 x666443 x666444 x666445 x666446 kt76_666446 hm76_666446; exact absurd hm76_666446 (Nat.not_lt_zero _)
              | succ n76_666446 ih76_666446 =>
                intro g666441 g666442 bg666441 bg666442 x666443 x666444 x666445 x666446 kt76_666446 hm76_666446
                refine G_iload 2 dr_cJ1_indexOf_5af95_76 rfl ?_
                refine G_iload 1 dr_cJ1_indexOf_5af95_78 rfl ?_
                refine G_icmp_ge 103 dr_cJ1_indexOf_5af95_80 (by decide +kernel) (fun hc666447 => ?_) (fun hc666447 => ?_)
                · have r666448 : z666323.toInt ≤ g666442.toInt := gC_le hc666447
                  have hx666449 : tl_RStringLatin1_indexOf2_76 z666323 bs660388 f660391 (1 : Int32) z666321 103 g666442 := kt76_666446 103 g666442 (fun R c1 c2 c3 => c1 g666441 g666442 bg666441 bg666442 r666448)
                  refine G_iload 2 dr_cJ1_indexOf_5af95_103 rfl ?_
                  refine G_iload 1 dr_cJ1_indexOf_5af95_105 rfl ?_
                  refine G_icmp_ne 113 dr_cJ1_indexOf_5af95_107 (by decide +kernel) (fun hc666450 => ?_) (fun hc666450 => ?_)
                  · have r666451 : g666442.toInt ≠ z666323.toInt := gC_ne hc666450
                    obtain ⟨z666452, hz666452⟩ : ∃ z : Int32, z = g666308 + Int32.ofInt 1 := ⟨_, rfl⟩
                    have ez666452 : z666452.toInt = g666308.toInt + 1 := gI_inc hz666452 (by decide) bg666308' (by decide) (by decide)
                    have bz666452 : gB z666452 (-2147483645) 16777216 := ⟨by omega, by omega⟩
                    refine G_iinc (L' := [(7, .int z666452), (10, .int g666441), (9, .int z666323), (8, .int g666442), (6, .int z660398), (5, .int z660397), (0, .ref qs660387), (1, .int p660389), (2, .ref q660386), (3, .int p660390), (4, .int 0)]) z666452 3 dr_cJ1_indexOf_5af95_113 rfl hz666452.symm (Nat.le_of_ble_eq_true rfl) rfl ?_
                    refine G_goto 14 dr_cJ1_indexOf_5af95_116 (by decide +kernel) ?_
                    refine G_lv (L' := [(7, .int z666452), (6, .int z660398), (5, .int z660397), (0, .ref qs660387), (1, .int p660389), (2, .ref q660386), (3, .int p660390), (4, .int 0)]) [0, 4, 5, 6, 7, 8, 9, 10] rfl ?_
                    exact ih14_666309 z666452 (gB_w bz666452 (by decide) (by decide)) (by have qa0 : Int32.toInt 0 = 0 := (by decide); omega) (fun k e1 ht => kt14_666309 k e1 (fun R c1 c2 c3 c4 c5 c6 c7 c8 c9 => c3 g666308 z666314 z666321 z666322 z666323 g666442 z666452 k e1 bg666308 r666313 hz666314 r666316 r666320 ez666321 ez666322 ez666323 hx666449 r666451 ez666452 (ht R c1 c2 c3 c4 c5 c6 c7 c8 c9))) (by have qa0 : Int32.toInt 0 = 0 := (by decide); omega)
                  · have r666453 : g666442.toInt = z666323.toInt := gC_eq hc666450
                    have hx666454 : tl_RStringLatin1_indexOf2_14 z660398 bs660388 z660397 p660390 f660391 (0 : Int32) 110 g666308 := kt14_666309 110 g666308 (fun R c1 c2 c3 c4 c5 c6 c7 c8 c9 => c4 g666308 z666314 z666321 z666322 z666323 g666442 bg666308 r666313 hz666314 r666316 r666320 ez666321 ez666322 ez666323 hx666449 r666453)
                    refine G_iload 3 dr_cJ1_indexOf_5af95_110 rfl ?_
                    exact G_iretA dr_cJ1_indexOf_5af95_112 rfl (Nat.le_of_ble_eq_true rfl) (Nat.le_of_ble_eq_true rfl) ⟨g666308, rfl, rfl, (Nat.le_of_ble_eq_true rfl), (Nat.le_of_ble_eq_true rfl), bg666308', (by have qa0 : Int32.toInt 0 = 0 := (by decide); omega), (by first | exact ixP_of (by assumption) (by assumption) (by omega) | exact absurd (show False by omega) not_false), (fun R c1 c2 => c2 z660397 z660398 g666308 hz660397 bz660397 ez660398 hx666454)⟩
                · have r666455 : g666442.toInt < z666323.toInt := gC_nle hc666447
                  have bg666442' : gB g666442 (-2147483645) 33554430 := ⟨by omega, by omega⟩
                  have bz666323' : gB z666323 (-2147483644) 33554431 := ⟨by omega, by omega⟩
                  refine G_aload_n 6 dr_cJ1_indexOf_5af95_83 rfl ?_
                  refine G_iload 2 dr_cJ1_indexOf_5af95_84 rfl ?_
                  refine G_kbald (f := fun j => bs660388.getD j 0) dr_cJ1_indexOf_5af95_86 hbs660388 (gB_inr (by omega) (by omega)) (G_nam fun z666456 hz666456 => ?_)
                  have bz666456 : gB z666456 (-2147483648) 2147483647 := gB_any z666456
                  refine G_aload_n 8 dr_cJ1_indexOf_5af95_87 rfl ?_
                  refine G_iload 0 dr_cJ1_indexOf_5af95_88 rfl ?_
                  refine Gp_bald 1 hmq660386 heq660386 dr_cJ1_indexOf_5af95_90 rfl (gB_inr (by omega) (by omega)) (G_nam fun z666457 hz666457 => ?_)
                  have bz666457 : gB z666457 (-128) 127 := by rw [hz666457]; exact bf660391 _
                  refine G_icmp_ne 103 dr_cJ1_indexOf_5af95_91 (by decide +kernel) (fun hc666458 => ?_) (fun hc666458 => ?_)
                  · have r666459 : z666456.toInt ≠ z666457.toInt := gC_ne hc666458
                    have hx666460 : tl_RStringLatin1_indexOf2_76 z666323 bs660388 f660391 (1 : Int32) z666321 103 g666442 := kt76_666446 103 g666442 (fun R c1 c2 c3 => c2 g666441 g666442 z666456 z666457 bg666441 bg666442 r666455 hz666456 hz666457 bz666457 r666459)
                    refine G_iload 2 dr_cJ1_indexOf_5af95_103 rfl ?_
                    refine G_iload 1 dr_cJ1_indexOf_5af95_105 rfl ?_
                    refine G_icmp_ne 113 dr_cJ1_indexOf_5af95_107 (by decide +kernel) (fun hc666461 => ?_) (fun hc666461 => ?_)
                    · have r666462 : g666442.toInt ≠ z666323.toInt := gC_ne hc666461
                      obtain ⟨z666463, hz666463⟩ : ∃ z : Int32, z = g666308 + Int32.ofInt 1 := ⟨_, rfl⟩
                      have ez666463 : z666463.toInt = g666308.toInt + 1 := gI_inc hz666463 (by decide) bg666308' (by decide) (by decide)
                      have bz666463 : gB z666463 (-2147483645) 16777216 := ⟨by omega, by omega⟩
                      refine G_iinc (L' := [(7, .int z666463), (10, .int g666441), (9, .int z666323), (8, .int g666442), (6, .int z660398), (5, .int z660397), (0, .ref qs660387), (1, .int p660389), (2, .ref q660386), (3, .int p660390), (4, .int 0)]) z666463 3 dr_cJ1_indexOf_5af95_113 rfl hz666463.symm (Nat.le_of_ble_eq_true rfl) rfl ?_
                      refine G_goto 14 dr_cJ1_indexOf_5af95_116 (by decide +kernel) ?_
                      refine G_lv (L' := [(7, .int z666463), (6, .int z660398), (5, .int z660397), (0, .ref qs660387), (1, .int p660389), (2, .ref q660386), (3, .int p660390), (4, .int 0)]) [0, 4, 5, 6, 7, 8, 9, 10] rfl ?_
                      exact ih14_666309 z666463 (gB_w bz666463 (by decide) (by decide)) (by have qa0 : Int32.toInt 0 = 0 := (by decide); omega) (fun k e1 ht => kt14_666309 k e1 (fun R c1 c2 c3 c4 c5 c6 c7 c8 c9 => c3 g666308 z666314 z666321 z666322 z666323 g666442 z666463 k e1 bg666308 r666313 hz666314 r666316 r666320 ez666321 ez666322 ez666323 hx666460 r666462 ez666463 (ht R c1 c2 c3 c4 c5 c6 c7 c8 c9))) (by have qa0 : Int32.toInt 0 = 0 := (by decide); omega)
                    · have r666464 : g666442.toInt = z666323.toInt := gC_eq hc666461
                      have bg666442'' : gB g666442 (-2147483644) 33554430 := ⟨by omega, by omega⟩
                      have bz666323'' : gB z666323 (-2147483644) 33554430 := ⟨by omega, by omega⟩
                      have hx666465 : tl_RStringLatin1_indexOf2_14 z660398 bs660388 z660397 p660390 f660391 (0 : Int32) 110 g666308 := kt14_666309 110 g666308 (fun R c1 c2 c3 c4 c5 c6 c7 c8 c9 => c4 g666308 z666314 z666321 z666322 z666323 g666442 bg666308 r666313 hz666314 r666316 r666320 ez666321 ez666322 ez666323 hx666460 r666464)
                      refine G_iload 3 dr_cJ1_indexOf_5af95_110 rfl ?_
                      exact G_iretA dr_cJ1_indexOf_5af95_112 rfl (Nat.le_of_ble_eq_true rfl) (Nat.le_of_ble_eq_true rfl) ⟨g666308, rfl, rfl, (Nat.le_of_ble_eq_true rfl), (Nat.le_of_ble_eq_true rfl), bg666308', (by have qa0 : Int32.toInt 0 = 0 := (by decide); omega), (by first | exact ixP_of (by assumption) (by assumption) (by omega) | exact absurd (show False by omega) not_false), (fun R c1 c2 => c2 z660397 z660398 g666308 hz660397 bz660397 ez660398 hx666465)⟩
                  · have r666466 : z666456.toInt = z666457.toInt := gC_eq hc666458
                    have bz666456' : gB z666456 (-128) 127 := ⟨by omega, by omega⟩
                    obtain ⟨z666467, hz666467⟩ : ∃ z : Int32, z = g666442 + Int32.ofInt 1 := ⟨_, rfl⟩
                    have ez666467 : z666467.toInt = g666442.toInt + 1 := gI_inc hz666467 (by decide) bg666442' (by decide) (by decide)
                    have bz666467 : gB z666467 (-2147483644) 33554431 := ⟨by omega, by omega⟩
                    refine G_iinc (L' := [(8, .int z666467), (10, .int g666441), (9, .int z666323), (7, .int g666308), (6, .int z660398), (5, .int z660397), (0, .ref qs660387), (1, .int p660389), (2, .ref q660386), (3, .int p660390), (4, .int 0)]) z666467 2 dr_cJ1_indexOf_5af95_94 rfl hz666467.symm (Nat.le_of_ble_eq_true rfl) rfl ?_
                    have bg666441' : gB g666441 1 16777216 := ⟨by omega, by omega⟩
                    obtain ⟨z666468, hz666468⟩ : ∃ z : Int32, z = g666441 + Int32.ofInt 1 := ⟨_, rfl⟩
                    have ez666468 : z666468.toInt = g666441.toInt + 1 := gI_inc hz666468 (by decide) bg666441' (by decide) (by decide)
                    have bz666468 : gB z666468 2 16777217 := ⟨by omega, by omega⟩
                    refine G_iinc (L' := [(10, .int z666468), (8, .int z666467), (9, .int z666323), (7, .int g666308), (6, .int z660398), (5, .int z660397), (0, .ref qs660387), (1, .int p660389), (2, .ref q660386), (3, .int p660390), (4, .int 0)]) z666468 1 dr_cJ1_indexOf_5af95_97 rfl hz666468.symm (Nat.le_of_ble_eq_true rfl) rfl ?_
                    refine G_goto 76 dr_cJ1_indexOf_5af95_100 (by decide +kernel) ?_
                    refine G_lv (L' := [(10, .int z666468), (9, .int z666323), (8, .int z666467), (7, .int g666308), (6, .int z660398), (5, .int z660397), (0, .ref qs660387), (1, .int p660389), (2, .ref q660386), (3, .int p660390), (4, .int 0)]) [0, 2, 1, 3, 4, 5, 6, 7, 8, 9, 10] rfl ?_
                    exact ih76_666446 z666468 z666467 (gB_w bz666468 (by decide) (by decide)) (gB_w bz666467 (by decide) (by decide)) (by have qa0 : Int32.toInt 0 = 0 := (by decide); omega) (by have qa0 : Int32.toInt 0 = 0 := (by decide); omega) (by have qa0 : Int32.toInt 0 = 0 := (by decide); omega) (by have qa0 : Int32.toInt 0 = 0 := (by decide); omega) (fun k e1 ht => kt76_666446 k e1 (fun R c1 c2 c3 => c3 g666441 g666442 z666456 z666457 z666467 z666468 k e1 bg666441 bg666442 r666455 hz666456 hz666457 bz666457 r666466 ez666467 ez666468 (ht R c1 c2 c3))) (by have qa0 : Int32.toInt 0 = 0 := (by decide); omega)
            exact hlp76_666446 (((z666323.toInt : Int) + 2 - z666321.toInt).toNat + 1) 1 z666321 (gB_w (gBl (show Int32.toInt 1 = 1 by decide)) (by decide) (by decide)) (gB_w bz666321 (by decide) (by decide)) (by have qa0 : Int32.toInt 0 = 0 := (by decide); have qa1 : Int32.toInt 1 = 1 := (by decide); omega) (by have qa0 : Int32.toInt 0 = 0 := (by decide); have qa1 : Int32.toInt 1 = 1 := (by decide); omega) (by have qa0 : Int32.toInt 0 = 0 := (by decide); have qa1 : Int32.toInt 1 = 1 := (by decide); omega) (by have qa0 : Int32.toInt 0 = 0 := (by decide); have qa1 : Int32.toInt 1 = 1 := (by decide); omega) (fun k e1 ht => ht) (Nat.lt_succ_self _)
        · have r666469 : z666314.toInt ≠ z660397.toInt := gC_ne hc666315
          have hlp30_667081 : ∀ (n30_667081 : Nat) (g667079 : Int32), gB g667079 (-2147483646) 16777215 → 0 ≤ g667079.toInt → g666308.toInt ≤ g667079.toInt → (∀ (k : Nat) (e1 : Int32), tl_RStringLatin1_indexOf2_30 z660398 bs660388 z660397 g667079 k e1 → tl_RStringLatin1_indexOf2_30 z660398 bs660388 z660397 g666308 k e1) → ((z660398.toInt : Int) + 2 - g667079.toInt).toNat < n30_667081 → G (gV D I) l (gRm 0 0 0 0) (gMA (gV D I) (pp_660396_StringLatin1_indexOf D I P660384 F660385 q660386 qs660387 bs660388 p660389 p660390 f660391 n660392) gNA 0 0) ky_660396_StringLatin1_indexOf 30 [(7, .int g667079), (6, .int z660398), (5, .int z660397), (0, .ref qs660387), (1, .int p660389), (2, .ref q660386), (3, .int p660390), (4, .int 0)] [] (va_pl P660384 F660385) 0 0 := by
            intro n30_667081
            induction n30_667081 with
            | zero => intro g667079 bg667079 x667080 x667081 kt30_667081 hm30_667081; exact absurd hm30_667081 (Nat.not_lt_zero _)
            | succ n30_667081 ih30_667081 =>
              intro g667079 bg667079 x667080 x667081 kt30_667081 hm30_667081
              obtain ⟨z667082, hz667082⟩ : ∃ z : Int32, z = g667079 + Int32.ofInt 1 := ⟨_, rfl⟩
              have ez667082 : z667082.toInt = g667079.toInt + 1 := gI_inc hz667082 (by decide) bg667079 (by decide) (by decide)
              have bz667082 : gB z667082 (-2147483645) 16777216 := ⟨by omega, by omega⟩
              refine G_iinc (L' := [(7, .int z667082), (6, .int z660398), (5, .int z660397), (0, .ref qs660387), (1, .int p660389), (2, .ref q660386), (3, .int p660390), (4, .int 0)]) z667082 0 dr_cJ1_indexOf_5af95_30 rfl hz667082.symm (Nat.le_of_ble_eq_true rfl) rfl ?_
              refine G_iload 0 dr_cJ1_indexOf_5af95_33 rfl ?_
              refine G_iload 1 dr_cJ1_indexOf_5af95_35 rfl ?_
              refine G_icmp_gt 52 dr_cJ1_indexOf_5af95_37 (by decide +kernel) (fun hc667083 => ?_) (fun hc667083 => ?_)
              · have r667084 : z660398.toInt < z667082.toInt := gC_lt hc667083
                have bz667082' : gB z667082 (-16777215) 16777216 := ⟨by omega, by omega⟩
                have hx667085 : tl_RStringLatin1_indexOf2_30 z660398 bs660388 z660397 g666308 52 z667082 := kt30_667081 52 z667082 (fun R c1 c2 c3 => c1 g667079 z667082 bg667079 ez667082 r667084)
                refine G_iload 0 dr_cJ1_indexOf_5af95_52 rfl ?_
                refine G_iload 1 dr_cJ1_indexOf_5af95_54 rfl ?_
                refine G_icmp_gt 113 dr_cJ1_indexOf_5af95_56 (by decide +kernel) (fun hc667086 => ?_) (fun hc667086 => ?_)
                · have r667087 : z660398.toInt < z667082.toInt := gC_lt hc667086
                  obtain ⟨z667088, hz667088⟩ : ∃ z : Int32, z = z667082 + Int32.ofInt 1 := ⟨_, rfl⟩
                  have ez667088 : z667088.toInt = z667082.toInt + 1 := gI_inc hz667088 (by decide) bz667082' (by decide) (by decide)
                  have bz667088 : gB z667088 (-16777214) 16777217 := ⟨by omega, by omega⟩
                  refine G_iinc (L' := [(7, .int z667088), (6, .int z660398), (5, .int z660397), (0, .ref qs660387), (1, .int p660389), (2, .ref q660386), (3, .int p660390), (4, .int 0)]) z667088 0 dr_cJ1_indexOf_5af95_113 rfl hz667088.symm (Nat.le_of_ble_eq_true rfl) rfl ?_
                  refine G_goto 14 dr_cJ1_indexOf_5af95_116 (by decide +kernel) ?_
                  exact ih14_666309 z667088 (gB_w bz667088 (by decide) (by decide)) (by have qa0 : Int32.toInt 0 = 0 := (by decide); omega) (fun k e1 ht => kt14_666309 k e1 (fun R c1 c2 c3 c4 c5 c6 c7 c8 c9 => c5 g666308 z666314 z667082 z667088 k e1 bg666308 r666313 hz666314 r666469 hx667085 r667087 ez667088 (ht R c1 c2 c3 c4 c5 c6 c7 c8 c9))) (by have qa0 : Int32.toInt 0 = 0 := (by decide); omega)
                · have r667089 : z667082.toInt ≤ z660398.toInt := gC_nlt hc667086
                  have bz667082'' : gB z667082 (-16777215) 16777215 := ⟨by omega, by omega⟩
                  have bz660398' : gB z660398 (-16777215) 16777215 := ⟨by omega, by omega⟩
                  refine G_iload 0 dr_cJ1_indexOf_5af95_59 rfl ?_
                  refine G_iconst 1 dr_cJ1_indexOf_5af95_61 (by decide +kernel) ?_
                  refine G_iadd dr_cJ1_indexOf_5af95_62 (G_nam fun z667090 hz667090 => ?_)
                  have ez667090 : z667090.toInt = z667082.toInt + 1 := by rw [gI_add hz667090 bz667082'' (gBl (show Int32.toInt 1 = 1 by decide)) (by decide) (by decide), show Int32.toInt 1 = 1 from by decide]
                  have bz667090 : gB z667090 (-16777214) 16777216 := gB_add (gI_add hz667090 bz667082'' (gBl (show Int32.toInt 1 = 1 by decide)) (by decide) (by decide)) bz667082'' (gBl (show Int32.toInt 1 = 1 by decide)) (by decide) (by decide)
                  refine G_istore (L' := [(8, .int z667090), (7, .int z667082), (6, .int z660398), (5, .int z660397), (0, .ref qs660387), (1, .int p660389), (2, .ref q660386), (3, .int p660390), (4, .int 0)]) dr_cJ1_indexOf_5af95_63 (Nat.le_of_ble_eq_true rfl) rfl ?_
                  refine G_iload 0 dr_cJ1_indexOf_5af95_65 rfl ?_
                  refine G_iload_n 7 dr_cJ1_indexOf_5af95_67 rfl ?_
                  refine G_iadd dr_cJ1_indexOf_5af95_68 (G_nam fun z667091 hz667091 => ?_)
                  have ez667091 : z667091.toInt = z667090.toInt + p660390.toInt := by rw [gI_add hz667091 bz667090 bp660390 (by decide) (by decide)]
                  have bz667091 : gB z667091 (-16777213) 33554432 := gB_add (gI_add hz667091 bz667090 bp660390 (by decide) (by decide)) bz667090 bp660390 (by decide) (by decide)
                  refine G_iconst 1 dr_cJ1_indexOf_5af95_69 (by decide +kernel) ?_
                  refine G_isub dr_cJ1_indexOf_5af95_70 (G_nam fun z667092 hz667092 => ?_)
                  have ez667092 : z667092.toInt = z667091.toInt - 1 := by rw [gI_sub hz667092 bz667091 (gBl (show Int32.toInt 1 = 1 by decide)) (by decide) (by decide), show Int32.toInt 1 = 1 from by decide]
                  have bz667092 : gB z667092 (-16777214) 33554431 := gB_sub (gI_sub hz667092 bz667091 (gBl (show Int32.toInt 1 = 1 by decide)) (by decide) (by decide)) bz667091 (gBl (show Int32.toInt 1 = 1 by decide)) (by decide) (by decide)
                  refine G_istore (L' := [(9, .int z667092), (8, .int z667090), (7, .int z667082), (6, .int z660398), (5, .int z660397), (0, .ref qs660387), (1, .int p660389), (2, .ref q660386), (3, .int p660390), (4, .int 0)]) dr_cJ1_indexOf_5af95_71 (Nat.le_of_ble_eq_true rfl) rfl ?_
                  refine G_iconst 1 dr_cJ1_indexOf_5af95_73 (by decide +kernel) ?_
                  refine G_istore (L' := [(10, .int 1), (9, .int z667092), (8, .int z667090), (7, .int z667082), (6, .int z660398), (5, .int z660397), (0, .ref qs660387), (1, .int p660389), (2, .ref q660386), (3, .int p660390), (4, .int 0)]) dr_cJ1_indexOf_5af95_74 (Nat.le_of_ble_eq_true rfl) rfl ?_
                  have hlp76_667215 : ∀ (n76_667215 : Nat) (g667210 : Int32) (g667211 : Int32), gB g667210 1 16777217 → gB g667211 (-16777214) 33554431 → 0 ≤ g667211.toInt → g667210.toInt = g667211.toInt - z667082.toInt → 1 ≤ g667210.toInt → g667211.toInt ≤ z667092.toInt → (∀ (k : Nat) (e1 : Int32), tl_RStringLatin1_indexOf2_76_2 z667092 bs660388 f660391 g667210 g667211 k e1 → tl_RStringLatin1_indexOf2_76_2 z667092 bs660388 f660391 (1 : Int32) z667090 k e1) → ((z667092.toInt : Int) + 2 - g667211.toInt).toNat < n76_667215 → G (gV D I) l (gRm 0 0 0 0) (gMA (gV D I) (pp_660396_StringLatin1_indexOf D I P660384 F660385 q660386 qs660387 bs660388 p660389 p660390 f660391 n660392) gNA 0 0) ky_660396_StringLatin1_indexOf 76 [(10, .int g667210), (9, .int z667092), (8, .int g667211), (7, .int z667082), (6, .int z660398), (5, .int z660397), (0, .ref qs660387), (1, .int p660389), (2, .ref q660386), (3, .int p660390), (4, .int 0)] [] (va_pl P660384 F660385) 0 0 := by
                    intro n76_667215
                    induction n76_667215 with
                    | zero => intro g667210 g667211 bg667210 bg667211 x667212 x667213 x667214 x667215 kt76_667215 hm76_667215; exact absurd hm76_667215 (Nat.not_lt_zero _)
                    | succ n76_667215 ih76_667215 =>
                      intro g667210 g667211 bg667210 bg667211 x667212 x667213 x667214 x667215 kt76_667215 hm76_667215
                      refine G_iload 2 dr_cJ1_indexOf_5af95_76 rfl ?_
                      refine G_iload 1 dr_cJ1_indexOf_5af95_78 rfl ?_
                      refine G_icmp_ge 103 dr_cJ1_indexOf_5af95_80 (by decide +kernel) (fun hc667216 => ?_) (fun hc667216 => ?_)
                      · have r667217 : z667092.toInt ≤ g667211.toInt := gC_le hc667216
                        have hx667218 : tl_RStringLatin1_indexOf2_76_2 z667092 bs660388 f660391 (1 : Int32) z667090 103 g667211 := kt76_667215 103 g667211 (fun R c1 c2 c3 => c1 g667210 g667211 bg667210 bg667211 r667217)
                        refine G_iload 2 dr_cJ1_indexOf_5af95_103 rfl ?_
                        refine G_iload 1 dr_cJ1_indexOf_5af95_105 rfl ?_
                        refine G_icmp_ne 113 dr_cJ1_indexOf_5af95_107 (by decide +kernel) (fun hc667219 => ?_) (fun hc667219 => ?_)
                        · have r667220 : g667211.toInt ≠ z667092.toInt := gC_ne hc667219
                          obtain ⟨z667221, hz667221⟩ : ∃ z : Int32, z = z667082 + Int32.ofInt 1 := ⟨_, rfl⟩
                          have ez667221 : z667221.toInt = z667082.toInt + 1 := gI_inc hz667221 (by decide) bz667082'' (by decide) (by decide)
                          have bz667221 : gB z667221 (-16777214) 16777216 := ⟨by omega, by omega⟩
                          refine G_iinc (L' := [(7, .int z667221), (10, .int g667210), (9, .int z667092), (8, .int g667211), (6, .int z660398), (5, .int z660397), (0, .ref qs660387), (1, .int p660389), (2, .ref q660386), (3, .int p660390), (4, .int 0)]) z667221 3 dr_cJ1_indexOf_5af95_113 rfl hz667221.symm (Nat.le_of_ble_eq_true rfl) rfl ?_
                          refine G_goto 14 dr_cJ1_indexOf_5af95_116 (by decide +kernel) ?_
                          refine G_lv (L' := [(7, .int z667221), (6, .int z660398), (5, .int z660397), (0, .ref qs660387), (1, .int p660389), (2, .ref q660386), (3, .int p660390), (4, .int 0)]) [0, 4, 5, 6, 7, 8, 9, 10] rfl ?_
                          exact ih14_666309 z667221 (gB_w bz667221 (by decide) (by decide)) (by have qa0 : Int32.toInt 0 = 0 := (by decide); omega) (fun k e1 ht => kt14_666309 k e1 (fun R c1 c2 c3 c4 c5 c6 c7 c8 c9 => c6 g666308 z666314 z667082 z667090 z667091 z667092 g667211 z667221 k e1 bg666308 r666313 hz666314 r666469 hx667085 r667089 ez667090 ez667091 ez667092 hx667218 r667220 ez667221 (ht R c1 c2 c3 c4 c5 c6 c7 c8 c9))) (by have qa0 : Int32.toInt 0 = 0 := (by decide); omega)
                        · have r667222 : g667211.toInt = z667092.toInt := gC_eq hc667219
                          have hx667223 : tl_RStringLatin1_indexOf2_14 z660398 bs660388 z660397 p660390 f660391 (0 : Int32) 110 z667082 := kt14_666309 110 z667082 (fun R c1 c2 c3 c4 c5 c6 c7 c8 c9 => c7 g666308 z666314 z667082 z667090 z667091 z667092 g667211 bg666308 r666313 hz666314 r666469 hx667085 r667089 ez667090 ez667091 ez667092 hx667218 r667222)
                          refine G_iload 3 dr_cJ1_indexOf_5af95_110 rfl ?_
                          exact G_iretA dr_cJ1_indexOf_5af95_112 rfl (Nat.le_of_ble_eq_true rfl) (Nat.le_of_ble_eq_true rfl) ⟨z667082, rfl, rfl, (Nat.le_of_ble_eq_true rfl), (Nat.le_of_ble_eq_true rfl), (gB_w bz667082'' (by decide) (by decide)), (by have qa0 : Int32.toInt 0 = 0 := (by decide); omega), (by first | exact ixP_of (by assumption) (by assumption) (by omega) | exact absurd (show False by omega) not_false), (fun R c1 c2 => c2 z660397 z660398 z667082 hz660397 bz660397 ez660398 hx667223)⟩
                      · have r667224 : g667211.toInt < z667092.toInt := gC_nle hc667216
                        have bg667211' : gB g667211 (-16777214) 33554430 := ⟨by omega, by omega⟩
                        have bz667092' : gB z667092 (-16777213) 33554431 := ⟨by omega, by omega⟩
                        refine G_aload_n 6 dr_cJ1_indexOf_5af95_83 rfl ?_
                        refine G_iload 2 dr_cJ1_indexOf_5af95_84 rfl ?_
                        refine G_kbald (f := fun j => bs660388.getD j 0) dr_cJ1_indexOf_5af95_86 hbs660388 (gB_inr (by omega) (by omega)) (G_nam fun z667225 hz667225 => ?_)
                        have bz667225 : gB z667225 (-2147483648) 2147483647 := gB_any z667225
                        refine G_aload_n 8 dr_cJ1_indexOf_5af95_87 rfl ?_
                        refine G_iload 0 dr_cJ1_indexOf_5af95_88 rfl ?_
                        refine Gp_bald 1 hmq660386 heq660386 dr_cJ1_indexOf_5af95_90 rfl (gB_inr (by omega) (by omega)) (G_nam fun z667226 hz667226 => ?_)
                        have bz667226 : gB z667226 (-128) 127 := by rw [hz667226]; exact bf660391 _
                        refine G_icmp_ne 103 dr_cJ1_indexOf_5af95_91 (by decide +kernel) (fun hc667227 => ?_) (fun hc667227 => ?_)
                        · have r667228 : z667225.toInt ≠ z667226.toInt := gC_ne hc667227
                          have hx667229 : tl_RStringLatin1_indexOf2_76_2 z667092 bs660388 f660391 (1 : Int32) z667090 103 g667211 := kt76_667215 103 g667211 (fun R c1 c2 c3 => c2 g667210 g667211 z667225 z667226 bg667210 bg667211 r667224 hz667225 hz667226 bz667226 r667228)
                          refine G_iload 2 dr_cJ1_indexOf_5af95_103 rfl ?_
                          refine G_iload 1 dr_cJ1_indexOf_5af95_105 rfl ?_
                          refine G_icmp_ne 113 dr_cJ1_indexOf_5af95_107 (by decide +kernel) (fun hc667230 => ?_) (fun hc667230 => ?_)
                          · have r667231 : g667211.toInt ≠ z667092.toInt := gC_ne hc667230
                            obtain ⟨z667232, hz667232⟩ : ∃ z : Int32, z = z667082 + Int32.ofInt 1 := ⟨_, rfl⟩
                            have ez667232 : z667232.toInt = z667082.toInt + 1 := gI_inc hz667232 (by decide) bz667082'' (by decide) (by decide)
                            have bz667232 : gB z667232 (-16777214) 16777216 := ⟨by omega, by omega⟩
                            refine G_iinc (L' := [(7, .int z667232), (10, .int g667210), (9, .int z667092), (8, .int g667211), (6, .int z660398), (5, .int z660397), (0, .ref qs660387), (1, .int p660389), (2, .ref q660386), (3, .int p660390), (4, .int 0)]) z667232 3 dr_cJ1_indexOf_5af95_113 rfl hz667232.symm (Nat.le_of_ble_eq_true rfl) rfl ?_
                            refine G_goto 14 dr_cJ1_indexOf_5af95_116 (by decide +kernel) ?_
                            refine G_lv (L' := [(7, .int z667232), (6, .int z660398), (5, .int z660397), (0, .ref qs660387), (1, .int p660389), (2, .ref q660386), (3, .int p660390), (4, .int 0)]) [0, 4, 5, 6, 7, 8, 9, 10] rfl ?_
                            exact ih14_666309 z667232 (gB_w bz667232 (by decide) (by decide)) (by have qa0 : Int32.toInt 0 = 0 := (by decide); omega) (fun k e1 ht => kt14_666309 k e1 (fun R c1 c2 c3 c4 c5 c6 c7 c8 c9 => c6 g666308 z666314 z667082 z667090 z667091 z667092 g667211 z667232 k e1 bg666308 r666313 hz666314 r666469 hx667085 r667089 ez667090 ez667091 ez667092 hx667229 r667231 ez667232 (ht R c1 c2 c3 c4 c5 c6 c7 c8 c9))) (by have qa0 : Int32.toInt 0 = 0 := (by decide); omega)
                          · have r667233 : g667211.toInt = z667092.toInt := gC_eq hc667230
                            have bg667211'' : gB g667211 (-16777213) 33554430 := ⟨by omega, by omega⟩
                            have bz667092'' : gB z667092 (-16777213) 33554430 := ⟨by omega, by omega⟩
                            have hx667234 : tl_RStringLatin1_indexOf2_14 z660398 bs660388 z660397 p660390 f660391 (0 : Int32) 110 z667082 := kt14_666309 110 z667082 (fun R c1 c2 c3 c4 c5 c6 c7 c8 c9 => c7 g666308 z666314 z667082 z667090 z667091 z667092 g667211 bg666308 r666313 hz666314 r666469 hx667085 r667089 ez667090 ez667091 ez667092 hx667229 r667233)
                            refine G_iload 3 dr_cJ1_indexOf_5af95_110 rfl ?_
                            exact G_iretA dr_cJ1_indexOf_5af95_112 rfl (Nat.le_of_ble_eq_true rfl) (Nat.le_of_ble_eq_true rfl) ⟨z667082, rfl, rfl, (Nat.le_of_ble_eq_true rfl), (Nat.le_of_ble_eq_true rfl), (gB_w bz667082'' (by decide) (by decide)), (by have qa0 : Int32.toInt 0 = 0 := (by decide); omega), (by first | exact ixP_of (by assumption) (by assumption) (by omega) | exact absurd (show False by omega) not_false), (fun R c1 c2 => c2 z660397 z660398 z667082 hz660397 bz660397 ez660398 hx667234)⟩
                        · have r667235 : z667225.toInt = z667226.toInt := gC_eq hc667227
                          have bz667225' : gB z667225 (-128) 127 := ⟨by omega, by omega⟩
                          obtain ⟨z667236, hz667236⟩ : ∃ z : Int32, z = g667211 + Int32.ofInt 1 := ⟨_, rfl⟩
                          have ez667236 : z667236.toInt = g667211.toInt + 1 := gI_inc hz667236 (by decide) bg667211' (by decide) (by decide)
                          have bz667236 : gB z667236 (-16777213) 33554431 := ⟨by omega, by omega⟩
                          refine G_iinc (L' := [(8, .int z667236), (10, .int g667210), (9, .int z667092), (7, .int z667082), (6, .int z660398), (5, .int z660397), (0, .ref qs660387), (1, .int p660389), (2, .ref q660386), (3, .int p660390), (4, .int 0)]) z667236 2 dr_cJ1_indexOf_5af95_94 rfl hz667236.symm (Nat.le_of_ble_eq_true rfl) rfl ?_
                          have bg667210' : gB g667210 1 16777216 := ⟨by omega, by omega⟩
                          obtain ⟨z667237, hz667237⟩ : ∃ z : Int32, z = g667210 + Int32.ofInt 1 := ⟨_, rfl⟩
                          have ez667237 : z667237.toInt = g667210.toInt + 1 := gI_inc hz667237 (by decide) bg667210' (by decide) (by decide)
                          have bz667237 : gB z667237 2 16777217 := ⟨by omega, by omega⟩
                          refine G_iinc (L' := [(10, .int z667237), (8, .int z667236), (9, .int z667092), (7, .int z667082), (6, .int z660398), (5, .int z660397), (0, .ref qs660387), (1, .int p660389), (2, .ref q660386), (3, .int p660390), (4, .int 0)]) z667237 1 dr_cJ1_indexOf_5af95_97 rfl hz667237.symm (Nat.le_of_ble_eq_true rfl) rfl ?_
                          refine G_goto 76 dr_cJ1_indexOf_5af95_100 (by decide +kernel) ?_
                          refine G_lv (L' := [(10, .int z667237), (9, .int z667092), (8, .int z667236), (7, .int z667082), (6, .int z660398), (5, .int z660397), (0, .ref qs660387), (1, .int p660389), (2, .ref q660386), (3, .int p660390), (4, .int 0)]) [0, 2, 1, 3, 4, 5, 6, 7, 8, 9, 10] rfl ?_
                          exact ih76_667215 z667237 z667236 (gB_w bz667237 (by decide) (by decide)) (gB_w bz667236 (by decide) (by decide)) (by have qa0 : Int32.toInt 0 = 0 := (by decide); omega) (by have qa0 : Int32.toInt 0 = 0 := (by decide); omega) (by have qa0 : Int32.toInt 0 = 0 := (by decide); omega) (by have qa0 : Int32.toInt 0 = 0 := (by decide); omega) (fun k e1 ht => kt76_667215 k e1 (fun R c1 c2 c3 => c3 g667210 g667211 z667225 z667226 z667236 z667237 k e1 bg667210 bg667211 r667224 hz667225 hz667226 bz667226 r667235 ez667236 ez667237 (ht R c1 c2 c3))) (by have qa0 : Int32.toInt 0 = 0 := (by decide); omega)
                  exact hlp76_667215 (((z667092.toInt : Int) + 2 - z667090.toInt).toNat + 1) 1 z667090 (gB_w (gBl (show Int32.toInt 1 = 1 by decide)) (by decide) (by decide)) (gB_w bz667090 (by decide) (by decide)) (by have qa0 : Int32.toInt 0 = 0 := (by decide); have qa1 : Int32.toInt 1 = 1 := (by decide); omega) (by have qa0 : Int32.toInt 0 = 0 := (by decide); have qa1 : Int32.toInt 1 = 1 := (by decide); omega) (by have qa0 : Int32.toInt 0 = 0 := (by decide); have qa1 : Int32.toInt 1 = 1 := (by decide); omega) (by have qa0 : Int32.toInt 0 = 0 := (by decide); have qa1 : Int32.toInt 1 = 1 := (by decide); omega) (fun k e1 ht => ht) (Nat.lt_succ_self _)
              · have r667238 : z667082.toInt ≤ z660398.toInt := gC_nlt hc667083
                have bz667082' : gB z667082 (-2147483645) 16777215 := ⟨by omega, by omega⟩
                refine G_aload_n 3 dr_cJ1_indexOf_5af95_40 rfl ?_
                refine G_iload 0 dr_cJ1_indexOf_5af95_41 rfl ?_
                refine G_kbald (f := fun j => bs660388.getD j 0) dr_cJ1_indexOf_5af95_43 hbs660388 (gB_inr (by omega) (by omega)) (G_nam fun z667239 hz667239 => ?_)
                have bz667239 : gB z667239 (-2147483648) 2147483647 := gB_any z667239
                refine G_iload 2 dr_cJ1_indexOf_5af95_44 rfl ?_
                refine G_icmp_eq 52 dr_cJ1_indexOf_5af95_46 (by decide +kernel) (fun hc667240 => ?_) (fun hc667240 => ?_)
                · have r667241 : z667239.toInt = z660397.toInt := gC_eq hc667240
                  have bz667239' : gB z667239 (-128) 127 := ⟨by omega, by omega⟩
                  have hx667242 : tl_RStringLatin1_indexOf2_30 z660398 bs660388 z660397 g666308 52 z667082 := kt30_667081 52 z667082 (fun R c1 c2 c3 => c2 g667079 z667082 z667239 bg667079 ez667082 r667238 hz667239 r667241)
                  refine G_iload 0 dr_cJ1_indexOf_5af95_52 rfl ?_
                  refine G_iload 1 dr_cJ1_indexOf_5af95_54 rfl ?_
                  refine G_icmp_gt 113 dr_cJ1_indexOf_5af95_56 (by decide +kernel) (fun hc667243 => ?_) (fun hc667243 => ?_)
                  · have r667244 : z660398.toInt < z667082.toInt := gC_lt hc667243
                    have bz660398' : gB z660398 (-16777216) 16777214 := ⟨by omega, by omega⟩
                    have bz667082'' : gB z667082 (-16777215) 16777215 := ⟨by omega, by omega⟩
                    obtain ⟨z667245, hz667245⟩ : ∃ z : Int32, z = z667082 + Int32.ofInt 1 := ⟨_, rfl⟩
                    have ez667245 : z667245.toInt = z667082.toInt + 1 := gI_inc hz667245 (by decide) bz667082'' (by decide) (by decide)
                    have bz667245 : gB z667245 (-16777214) 16777216 := ⟨by omega, by omega⟩
                    refine G_iinc (L' := [(7, .int z667245), (6, .int z660398), (5, .int z660397), (0, .ref qs660387), (1, .int p660389), (2, .ref q660386), (3, .int p660390), (4, .int 0)]) z667245 0 dr_cJ1_indexOf_5af95_113 rfl hz667245.symm (Nat.le_of_ble_eq_true rfl) rfl ?_
                    refine G_goto 14 dr_cJ1_indexOf_5af95_116 (by decide +kernel) ?_
                    exact ih14_666309 z667245 (gB_w bz667245 (by decide) (by decide)) (by have qa0 : Int32.toInt 0 = 0 := (by decide); omega) (fun k e1 ht => kt14_666309 k e1 (fun R c1 c2 c3 c4 c5 c6 c7 c8 c9 => c5 g666308 z666314 z667082 z667245 k e1 bg666308 r666313 hz666314 r666469 hx667242 r667244 ez667245 (ht R c1 c2 c3 c4 c5 c6 c7 c8 c9))) (by have qa0 : Int32.toInt 0 = 0 := (by decide); omega)
                  · have r667246 : z667082.toInt ≤ z660398.toInt := gC_nlt hc667243
                    refine G_iload 0 dr_cJ1_indexOf_5af95_59 rfl ?_
                    refine G_iconst 1 dr_cJ1_indexOf_5af95_61 (by decide +kernel) ?_
                    refine G_iadd dr_cJ1_indexOf_5af95_62 (G_nam fun z667247 hz667247 => ?_)
                    have ez667247 : z667247.toInt = z667082.toInt + 1 := by rw [gI_add hz667247 bz667082' (gBl (show Int32.toInt 1 = 1 by decide)) (by decide) (by decide), show Int32.toInt 1 = 1 from by decide]
                    have bz667247 : gB z667247 (-2147483644) 16777216 := gB_add (gI_add hz667247 bz667082' (gBl (show Int32.toInt 1 = 1 by decide)) (by decide) (by decide)) bz667082' (gBl (show Int32.toInt 1 = 1 by decide)) (by decide) (by decide)
                    refine G_istore (L' := [(8, .int z667247), (7, .int z667082), (6, .int z660398), (5, .int z660397), (0, .ref qs660387), (1, .int p660389), (2, .ref q660386), (3, .int p660390), (4, .int 0)]) dr_cJ1_indexOf_5af95_63 (Nat.le_of_ble_eq_true rfl) rfl ?_
                    refine G_iload 0 dr_cJ1_indexOf_5af95_65 rfl ?_
                    refine G_iload_n 7 dr_cJ1_indexOf_5af95_67 rfl ?_
                    refine G_iadd dr_cJ1_indexOf_5af95_68 (G_nam fun z667248 hz667248 => ?_)
                    have ez667248 : z667248.toInt = z667247.toInt + p660390.toInt := by rw [gI_add hz667248 bz667247 bp660390 (by decide) (by decide)]
                    have bz667248 : gB z667248 (-2147483643) 33554432 := gB_add (gI_add hz667248 bz667247 bp660390 (by decide) (by decide)) bz667247 bp660390 (by decide) (by decide)
                    refine G_iconst 1 dr_cJ1_indexOf_5af95_69 (by decide +kernel) ?_
                    refine G_isub dr_cJ1_indexOf_5af95_70 (G_nam fun z667249 hz667249 => ?_)
                    have ez667249 : z667249.toInt = z667248.toInt - 1 := by rw [gI_sub hz667249 bz667248 (gBl (show Int32.toInt 1 = 1 by decide)) (by decide) (by decide), show Int32.toInt 1 = 1 from by decide]
                    have bz667249 : gB z667249 (-2147483644) 33554431 := gB_sub (gI_sub hz667249 bz667248 (gBl (show Int32.toInt 1 = 1 by decide)) (by decide) (by decide)) bz667248 (gBl (show Int32.toInt 1 = 1 by decide)) (by decide) (by decide)
                    refine G_istore (L' := [(9, .int z667249), (8, .int z667247), (7, .int z667082), (6, .int z660398), (5, .int z660397), (0, .ref qs660387), (1, .int p660389), (2, .ref q660386), (3, .int p660390), (4, .int 0)]) dr_cJ1_indexOf_5af95_71 (Nat.le_of_ble_eq_true rfl) rfl ?_
                    refine G_iconst 1 dr_cJ1_indexOf_5af95_73 (by decide +kernel) ?_
                    refine G_istore (L' := [(10, .int 1), (9, .int z667249), (8, .int z667247), (7, .int z667082), (6, .int z660398), (5, .int z660397), (0, .ref qs660387), (1, .int p660389), (2, .ref q660386), (3, .int p660390), (4, .int 0)]) dr_cJ1_indexOf_5af95_74 (Nat.le_of_ble_eq_true rfl) rfl ?_
                    have hlp76_667372 : ∀ (n76_667372 : Nat) (g667367 : Int32) (g667368 : Int32), gB g667367 1 16777217 → gB g667368 (-2147483644) 33554431 → 0 ≤ g667368.toInt → g667367.toInt = g667368.toInt - z667082.toInt → 1 ≤ g667367.toInt → g667368.toInt ≤ z667249.toInt → (∀ (k : Nat) (e1 : Int32), tl_RStringLatin1_indexOf2_76_3 z667249 bs660388 f660391 g667367 g667368 k e1 → tl_RStringLatin1_indexOf2_76_3 z667249 bs660388 f660391 (1 : Int32) z667247 k e1) → ((z667249.toInt : Int) + 2 - g667368.toInt).toNat < n76_667372 → G (gV D I) l (gRm 0 0 0 0) (gMA (gV D I) (pp_660396_StringLatin1_indexOf D I P660384 F660385 q660386 qs660387 bs660388 p660389 p660390 f660391 n660392) gNA 0 0) ky_660396_StringLatin1_indexOf 76 [(10, .int g667367), (9, .int z667249), (8, .int g667368), (7, .int z667082), (6, .int z660398), (5, .int z660397), (0, .ref qs660387), (1, .int p660389), (2, .ref q660386), (3, .int p660390), (4, .int 0)] [] (va_pl P660384 F660385) 0 0 := by
                      intro n76_667372
                      induction n76_667372 with
                      | zero => intro g667367 g667368 bg667367 bg667368 x667369 x667370 x667371 x667372 kt76_667372 hm76_667372; exact absurd hm76_667372 (Nat.not_lt_zero _)
                      | succ n76_667372 ih76_667372 =>
                        intro g667367 g667368 bg667367 bg667368 x667369 x667370 x667371 x667372 kt76_667372 hm76_667372
                        refine G_iload 2 dr_cJ1_indexOf_5af95_76 rfl ?_
                        refine G_iload 1 dr_cJ1_indexOf_5af95_78 rfl ?_
                        refine G_icmp_ge 103 dr_cJ1_indexOf_5af95_80 (by decide +kernel) (fun hc667373 => ?_) (fun hc667373 => ?_)
                        · have r667374 : z667249.toInt ≤ g667368.toInt := gC_le hc667373
                          have hx667375 : tl_RStringLatin1_indexOf2_76_3 z667249 bs660388 f660391 (1 : Int32) z667247 103 g667368 := kt76_667372 103 g667368 (fun R c1 c2 c3 => c1 g667367 g667368 bg667367 bg667368 r667374)
                          refine G_iload 2 dr_cJ1_indexOf_5af95_103 rfl ?_
                          refine G_iload 1 dr_cJ1_indexOf_5af95_105 rfl ?_
                          refine G_icmp_ne 113 dr_cJ1_indexOf_5af95_107 (by decide +kernel) (fun hc667376 => ?_) (fun hc667376 => ?_)
                          · have r667377 : g667368.toInt ≠ z667249.toInt := gC_ne hc667376
                            obtain ⟨z667378, hz667378⟩ : ∃ z : Int32, z = z667082 + Int32.ofInt 1 := ⟨_, rfl⟩
                            have ez667378 : z667378.toInt = z667082.toInt + 1 := gI_inc hz667378 (by decide) bz667082' (by decide) (by decide)
                            have bz667378 : gB z667378 (-2147483644) 16777216 := ⟨by omega, by omega⟩
                            refine G_iinc (L' := [(7, .int z667378), (10, .int g667367), (9, .int z667249), (8, .int g667368), (6, .int z660398), (5, .int z660397), (0, .ref qs660387), (1, .int p660389), (2, .ref q660386), (3, .int p660390), (4, .int 0)]) z667378 3 dr_cJ1_indexOf_5af95_113 rfl hz667378.symm (Nat.le_of_ble_eq_true rfl) rfl ?_
                            refine G_goto 14 dr_cJ1_indexOf_5af95_116 (by decide +kernel) ?_
                            refine G_lv (L' := [(7, .int z667378), (6, .int z660398), (5, .int z660397), (0, .ref qs660387), (1, .int p660389), (2, .ref q660386), (3, .int p660390), (4, .int 0)]) [0, 4, 5, 6, 7, 8, 9, 10] rfl ?_
                            exact ih14_666309 z667378 (gB_w bz667378 (by decide) (by decide)) (by have qa0 : Int32.toInt 0 = 0 := (by decide); omega) (fun k e1 ht => kt14_666309 k e1 (fun R c1 c2 c3 c4 c5 c6 c7 c8 c9 => c8 g666308 z666314 z667082 z667247 z667248 z667249 g667368 z667378 k e1 bg666308 r666313 hz666314 r666469 hx667242 r667246 ez667247 ez667248 ez667249 hx667375 r667377 ez667378 (ht R c1 c2 c3 c4 c5 c6 c7 c8 c9))) (by have qa0 : Int32.toInt 0 = 0 := (by decide); omega)
                          · have r667379 : g667368.toInt = z667249.toInt := gC_eq hc667376
                            have hx667380 : tl_RStringLatin1_indexOf2_14 z660398 bs660388 z660397 p660390 f660391 (0 : Int32) 110 z667082 := kt14_666309 110 z667082 (fun R c1 c2 c3 c4 c5 c6 c7 c8 c9 => c9 g666308 z666314 z667082 z667247 z667248 z667249 g667368 bg666308 r666313 hz666314 r666469 hx667242 r667246 ez667247 ez667248 ez667249 hx667375 r667379)
                            refine G_iload 3 dr_cJ1_indexOf_5af95_110 rfl ?_
                            exact G_iretA dr_cJ1_indexOf_5af95_112 rfl (Nat.le_of_ble_eq_true rfl) (Nat.le_of_ble_eq_true rfl) ⟨z667082, rfl, rfl, (Nat.le_of_ble_eq_true rfl), (Nat.le_of_ble_eq_true rfl), (gB_w bz667082' (by decide) (by decide)), (by have qa0 : Int32.toInt 0 = 0 := (by decide); omega), (by first | exact ixP_of (by assumption) (by assumption) (by omega) | exact absurd (show False by omega) not_false), (fun R c1 c2 => c2 z660397 z660398 z667082 hz660397 bz660397 ez660398 hx667380)⟩
                        · have r667381 : g667368.toInt < z667249.toInt := gC_nle hc667373
                          have bg667368' : gB g667368 (-2147483644) 33554430 := ⟨by omega, by omega⟩
                          have bz667249' : gB z667249 (-2147483643) 33554431 := ⟨by omega, by omega⟩
                          refine G_aload_n 6 dr_cJ1_indexOf_5af95_83 rfl ?_
                          refine G_iload 2 dr_cJ1_indexOf_5af95_84 rfl ?_
                          refine G_kbald (f := fun j => bs660388.getD j 0) dr_cJ1_indexOf_5af95_86 hbs660388 (gB_inr (by omega) (by omega)) (G_nam fun z667382 hz667382 => ?_)
                          have bz667382 : gB z667382 (-2147483648) 2147483647 := gB_any z667382
                          refine G_aload_n 8 dr_cJ1_indexOf_5af95_87 rfl ?_
                          refine G_iload 0 dr_cJ1_indexOf_5af95_88 rfl ?_
                          refine Gp_bald 1 hmq660386 heq660386 dr_cJ1_indexOf_5af95_90 rfl (gB_inr (by omega) (by omega)) (G_nam fun z667383 hz667383 => ?_)
                          have bz667383 : gB z667383 (-128) 127 := by rw [hz667383]; exact bf660391 _
                          refine G_icmp_ne 103 dr_cJ1_indexOf_5af95_91 (by decide +kernel) (fun hc667384 => ?_) (fun hc667384 => ?_)
                          · have r667385 : z667382.toInt ≠ z667383.toInt := gC_ne hc667384
                            have hx667386 : tl_RStringLatin1_indexOf2_76_3 z667249 bs660388 f660391 (1 : Int32) z667247 103 g667368 := kt76_667372 103 g667368 (fun R c1 c2 c3 => c2 g667367 g667368 z667382 z667383 bg667367 bg667368 r667381 hz667382 hz667383 bz667383 r667385)
                            refine G_iload 2 dr_cJ1_indexOf_5af95_103 rfl ?_
                            refine G_iload 1 dr_cJ1_indexOf_5af95_105 rfl ?_
                            refine G_icmp_ne 113 dr_cJ1_indexOf_5af95_107 (by decide +kernel) (fun hc667387 => ?_) (fun hc667387 => ?_)
                            · have r667388 : g667368.toInt ≠ z667249.toInt := gC_ne hc667387
                              obtain ⟨z667389, hz667389⟩ : ∃ z : Int32, z = z667082 + Int32.ofInt 1 := ⟨_, rfl⟩
                              have ez667389 : z667389.toInt = z667082.toInt + 1 := gI_inc hz667389 (by decide) bz667082' (by decide) (by decide)
                              have bz667389 : gB z667389 (-2147483644) 16777216 := ⟨by omega, by omega⟩
                              refine G_iinc (L' := [(7, .int z667389), (10, .int g667367), (9, .int z667249), (8, .int g667368), (6, .int z660398), (5, .int z660397), (0, .ref qs660387), (1, .int p660389), (2, .ref q660386), (3, .int p660390), (4, .int 0)]) z667389 3 dr_cJ1_indexOf_5af95_113 rfl hz667389.symm (Nat.le_of_ble_eq_true rfl) rfl ?_
                              refine G_goto 14 dr_cJ1_indexOf_5af95_116 (by decide +kernel) ?_
                              refine G_lv (L' := [(7, .int z667389), (6, .int z660398), (5, .int z660397), (0, .ref qs660387), (1, .int p660389), (2, .ref q660386), (3, .int p660390), (4, .int 0)]) [0, 4, 5, 6, 7, 8, 9, 10] rfl ?_
                              exact ih14_666309 z667389 (gB_w bz667389 (by decide) (by decide)) (by have qa0 : Int32.toInt 0 = 0 := (by decide); omega) (fun k e1 ht => kt14_666309 k e1 (fun R c1 c2 c3 c4 c5 c6 c7 c8 c9 => c8 g666308 z666314 z667082 z667247 z667248 z667249 g667368 z667389 k e1 bg666308 r666313 hz666314 r666469 hx667242 r667246 ez667247 ez667248 ez667249 hx667386 r667388 ez667389 (ht R c1 c2 c3 c4 c5 c6 c7 c8 c9))) (by have qa0 : Int32.toInt 0 = 0 := (by decide); omega)
                            · have r667390 : g667368.toInt = z667249.toInt := gC_eq hc667387
                              have bg667368'' : gB g667368 (-2147483643) 33554430 := ⟨by omega, by omega⟩
                              have bz667249'' : gB z667249 (-2147483643) 33554430 := ⟨by omega, by omega⟩
                              have hx667391 : tl_RStringLatin1_indexOf2_14 z660398 bs660388 z660397 p660390 f660391 (0 : Int32) 110 z667082 := kt14_666309 110 z667082 (fun R c1 c2 c3 c4 c5 c6 c7 c8 c9 => c9 g666308 z666314 z667082 z667247 z667248 z667249 g667368 bg666308 r666313 hz666314 r666469 hx667242 r667246 ez667247 ez667248 ez667249 hx667386 r667390)
                              refine G_iload 3 dr_cJ1_indexOf_5af95_110 rfl ?_
                              exact G_iretA dr_cJ1_indexOf_5af95_112 rfl (Nat.le_of_ble_eq_true rfl) (Nat.le_of_ble_eq_true rfl) ⟨z667082, rfl, rfl, (Nat.le_of_ble_eq_true rfl), (Nat.le_of_ble_eq_true rfl), (gB_w bz667082' (by decide) (by decide)), (by have qa0 : Int32.toInt 0 = 0 := (by decide); omega), (by first | exact ixP_of (by assumption) (by assumption) (by omega) | exact absurd (show False by omega) not_false), (fun R c1 c2 => c2 z660397 z660398 z667082 hz660397 bz660397 ez660398 hx667391)⟩
                          · have r667392 : z667382.toInt = z667383.toInt := gC_eq hc667384
                            have bz667382' : gB z667382 (-128) 127 := ⟨by omega, by omega⟩
                            obtain ⟨z667393, hz667393⟩ : ∃ z : Int32, z = g667368 + Int32.ofInt 1 := ⟨_, rfl⟩
                            have ez667393 : z667393.toInt = g667368.toInt + 1 := gI_inc hz667393 (by decide) bg667368' (by decide) (by decide)
                            have bz667393 : gB z667393 (-2147483643) 33554431 := ⟨by omega, by omega⟩
                            refine G_iinc (L' := [(8, .int z667393), (10, .int g667367), (9, .int z667249), (7, .int z667082), (6, .int z660398), (5, .int z660397), (0, .ref qs660387), (1, .int p660389), (2, .ref q660386), (3, .int p660390), (4, .int 0)]) z667393 2 dr_cJ1_indexOf_5af95_94 rfl hz667393.symm (Nat.le_of_ble_eq_true rfl) rfl ?_
                            have bg667367' : gB g667367 1 16777216 := ⟨by omega, by omega⟩
                            obtain ⟨z667394, hz667394⟩ : ∃ z : Int32, z = g667367 + Int32.ofInt 1 := ⟨_, rfl⟩
                            have ez667394 : z667394.toInt = g667367.toInt + 1 := gI_inc hz667394 (by decide) bg667367' (by decide) (by decide)
                            have bz667394 : gB z667394 2 16777217 := ⟨by omega, by omega⟩
                            refine G_iinc (L' := [(10, .int z667394), (8, .int z667393), (9, .int z667249), (7, .int z667082), (6, .int z660398), (5, .int z660397), (0, .ref qs660387), (1, .int p660389), (2, .ref q660386), (3, .int p660390), (4, .int 0)]) z667394 1 dr_cJ1_indexOf_5af95_97 rfl hz667394.symm (Nat.le_of_ble_eq_true rfl) rfl ?_
                            refine G_goto 76 dr_cJ1_indexOf_5af95_100 (by decide +kernel) ?_
                            refine G_lv (L' := [(10, .int z667394), (9, .int z667249), (8, .int z667393), (7, .int z667082), (6, .int z660398), (5, .int z660397), (0, .ref qs660387), (1, .int p660389), (2, .ref q660386), (3, .int p660390), (4, .int 0)]) [0, 2, 1, 3, 4, 5, 6, 7, 8, 9, 10] rfl ?_
                            exact ih76_667372 z667394 z667393 (gB_w bz667394 (by decide) (by decide)) (gB_w bz667393 (by decide) (by decide)) (by have qa0 : Int32.toInt 0 = 0 := (by decide); omega) (by have qa0 : Int32.toInt 0 = 0 := (by decide); omega) (by have qa0 : Int32.toInt 0 = 0 := (by decide); omega) (by have qa0 : Int32.toInt 0 = 0 := (by decide); omega) (fun k e1 ht => kt76_667372 k e1 (fun R c1 c2 c3 => c3 g667367 g667368 z667382 z667383 z667393 z667394 k e1 bg667367 bg667368 r667381 hz667382 hz667383 bz667383 r667392 ez667393 ez667394 (ht R c1 c2 c3))) (by have qa0 : Int32.toInt 0 = 0 := (by decide); omega)
                    exact hlp76_667372 (((z667249.toInt : Int) + 2 - z667247.toInt).toNat + 1) 1 z667247 (gB_w (gBl (show Int32.toInt 1 = 1 by decide)) (by decide) (by decide)) (gB_w bz667247 (by decide) (by decide)) (by have qa0 : Int32.toInt 0 = 0 := (by decide); have qa1 : Int32.toInt 1 = 1 := (by decide); omega) (by have qa0 : Int32.toInt 0 = 0 := (by decide); have qa1 : Int32.toInt 1 = 1 := (by decide); omega) (by have qa0 : Int32.toInt 0 = 0 := (by decide); have qa1 : Int32.toInt 1 = 1 := (by decide); omega) (by have qa0 : Int32.toInt 0 = 0 := (by decide); have qa1 : Int32.toInt 1 = 1 := (by decide); omega) (fun k e1 ht => ht) (Nat.lt_succ_self _)
                · have r667395 : z667239.toInt ≠ z660397.toInt := gC_ne hc667240
                  refine G_goto 30 dr_cJ1_indexOf_5af95_49 (by decide +kernel) ?_
                  exact ih30_667081 z667082 (gB_w bz667082' (by decide) (by decide)) (by have qa0 : Int32.toInt 0 = 0 := (by decide); omega) (by have qa0 : Int32.toInt 0 = 0 := (by decide); omega) (fun k e1 ht => kt30_667081 k e1 (fun R c1 c2 c3 => c3 g667079 z667082 z667239 k e1 bg667079 ez667082 r667238 hz667239 r667395 (ht R c1 c2 c3))) (by have qa0 : Int32.toInt 0 = 0 := (by decide); omega)
          exact hlp30_667081 (((z660398.toInt : Int) + 2 - g666308.toInt).toNat + 1) g666308 bg666308' (by have qa0 : Int32.toInt 0 = 0 := (by decide); omega) (by have qa0 : Int32.toInt 0 = 0 := (by decide); omega) (fun k e1 ht => ht) (Nat.lt_succ_self _)
  exact hlp14_666309 (((z660398.toInt : Int) + 2 - 0).toNat + 1) 0 (gB_w (gBl (show Int32.toInt 0 = 0 by decide)) (by decide) (by decide)) (by have qa0 : Int32.toInt 0 = 0 := (by decide); omega) (fun k e1 ht => ht) (Nat.lt_succ_self _)
/- tr_RStringLatin1_indexOf: result -/
def tr_RStringLatin1_indexOf (bs : List Int32) (a1_v : Nat → Int32) (a1_n : Nat) (o1 : Int32) : Prop := ∀ R : (Int32) → Prop,
  (∀ (x1 : Int32) (x2 : Int32) (x3 : Int32) (x4 : Int32) (x5 : Int32), x1.toInt = (a1_n : Nat) → x1.toInt ≠ 0 → x2.toInt = (bs.length : Int) → x2.toInt ≠ 0 → x3.toInt = (bs.length : Int) → x4.toInt = (a1_n : Nat) → gB x5 (-2147483646) 16777215 → tr_RStringLatin1_indexOf2 bs x3 x4 a1_v x5 → R x5) →
  (∀ (x1 : Int32) (x2 : Int32), x1.toInt = (a1_n : Nat) → x1.toInt ≠ 0 → x2.toInt = (bs.length : Int) → x2.toInt = 0 → R (-1 : Int32)) →
  R o1
end
section
theorem dr_cJ1_indexOf_b82b6_0 : decode cJ1_indexOf_b82b6 0 = .ok (.aload_n 1, 1) := by decide +kernel
theorem dr_cJ1_indexOf_b82b6_1 : decode cJ1_indexOf_b82b6 1 = .ok (.arraylength, 1) := by decide +kernel
theorem dr_cJ1_indexOf_b82b6_2 : decode cJ1_indexOf_b82b6 2 = .ok (.ifCond .ne 5, 3) := by decide +kernel
theorem dr_cJ1_indexOf_b82b6_7 : decode cJ1_indexOf_b82b6 7 = .ok (.aload_n 0, 1) := by decide +kernel
theorem dr_cJ1_indexOf_b82b6_8 : decode cJ1_indexOf_b82b6 8 = .ok (.arraylength, 1) := by decide +kernel
theorem dr_cJ1_indexOf_b82b6_9 : decode cJ1_indexOf_b82b6 9 = .ok (.ifCond .ne 5, 3) := by decide +kernel
theorem dr_cJ1_indexOf_b82b6_14 : decode cJ1_indexOf_b82b6 14 = .ok (.aload_n 0, 1) := by decide +kernel
theorem dr_cJ1_indexOf_b82b6_15 : decode cJ1_indexOf_b82b6 15 = .ok (.aload_n 0, 1) := by decide +kernel
theorem dr_cJ1_indexOf_b82b6_16 : decode cJ1_indexOf_b82b6 16 = .ok (.arraylength, 1) := by decide +kernel
theorem dr_cJ1_indexOf_b82b6_17 : decode cJ1_indexOf_b82b6 17 = .ok (.aload_n 1, 1) := by decide +kernel
theorem dr_cJ1_indexOf_b82b6_18 : decode cJ1_indexOf_b82b6 18 = .ok (.aload_n 1, 1) := by decide +kernel
theorem dr_cJ1_indexOf_b82b6_19 : decode cJ1_indexOf_b82b6 19 = .ok (.arraylength, 1) := by decide +kernel
theorem dr_cJ1_indexOf_b82b6_20 : decode cJ1_indexOf_b82b6 20 = .ok (.iconst 0, 1) := by decide +kernel
theorem dr_cJ1_indexOf_b82b6_21 : decode cJ1_indexOf_b82b6 21 = .ok (.invokestatic 99, 3) := by decide +kernel
theorem wr_8_203 : (Jvm.Cond.methodLink "java/lang/StringLatin1" (99 : Nat) ({ cls := "java/lang/StringLatin1", name := "indexOf", desc := "([BI[BII)I" } : Jvm.MethodName)) ∈ gw := gw_8 203 rfl rfl
theorem wr_8_205 : (Jvm.Cond.code ({ cls := "java/lang/StringLatin1", name := "indexOf", desc := "([BI[BII)I" } : Jvm.MethodName) prog_37_method_25_code (11 : Nat) (Option.some Jvm.ClassFile.FieldType.int)) ∈ gw := gw_8 205 rfl rfl
theorem wr_8_204 : (Jvm.Cond.static ({ cls := "java/lang/StringLatin1", name := "indexOf", desc := "([BI[BII)I" } : Jvm.MethodName)) ∈ gw := gw_8 204 rfl rfl
theorem dr_cJ1_indexOf_b82b6_24 : decode cJ1_indexOf_b82b6 24 = .ok (.ireturn, 1) := by decide +kernel
theorem dr_cJ1_indexOf_b82b6_12 : decode cJ1_indexOf_b82b6 12 = .ok (.iconst (-1), 1) := by decide +kernel
theorem dr_cJ1_indexOf_b82b6_13 : decode cJ1_indexOf_b82b6 13 = .ok (.ireturn, 1) := by decide +kernel
theorem dr_cJ0_indexOf_2f485_0 : decode cJ0_indexOf_2f485 0 = .ok (.aload_n 0, 1) := by decide +kernel
theorem dr_cJ0_indexOf_2f485_1 : decode cJ0_indexOf_2f485 1 = .ok (.invokevirtual 335, 3) := by decide +kernel
theorem dr_cJ0_indexOf_2f485_4 : decode cJ0_indexOf_2f485 4 = .ok (.istore_n 2, 1) := by decide +kernel
theorem dr_cJ0_indexOf_2f485_5 : decode cJ0_indexOf_2f485 5 = .ok (.iload_n 2, 1) := by decide +kernel
theorem dr_cJ0_indexOf_2f485_6 : decode cJ0_indexOf_2f485 6 = .ok (.aload_n 1, 1) := by decide +kernel
theorem dr_cJ0_indexOf_2f485_7 : decode cJ0_indexOf_2f485 7 = .ok (.invokevirtual 335, 3) := by decide +kernel
theorem dr_cJ0_indexOf_2f485_10 : decode cJ0_indexOf_2f485 10 = .ok (.if_icmp .ne 36, 3) := by decide +kernel
theorem dr_cJ0_indexOf_2f485_13 : decode cJ0_indexOf_2f485 13 = .ok (.aload_n 0, 1) := by decide +kernel
theorem dr_cJ0_indexOf_2f485_14 : decode cJ0_indexOf_2f485 14 = .ok (.invokevirtual 492, 3) := by decide +kernel
theorem dr_cJ0_indexOf_2f485_17 : decode cJ0_indexOf_2f485 17 = .ok (.ifCond .eq 17, 3) := by decide +kernel
theorem dr_cJ0_indexOf_2f485_20 : decode cJ0_indexOf_2f485 20 = .ok (.aload_n 0, 1) := by decide +kernel
theorem dr_cJ0_indexOf_2f485_21 : decode cJ0_indexOf_2f485 21 = .ok (.getfield 9, 3) := by decide +kernel
theorem dr_cJ0_indexOf_2f485_24 : decode cJ0_indexOf_2f485 24 = .ok (.aload_n 1, 1) := by decide +kernel
theorem dr_cJ0_indexOf_2f485_25 : decode cJ0_indexOf_2f485 25 = .ok (.getfield 9, 3) := by decide +kernel
theorem dr_cJ0_indexOf_2f485_28 : decode cJ0_indexOf_2f485 28 = .ok (.invokestatic 647, 3) := by decide +kernel
theorem wr_8_200 : (Jvm.Cond.methodLink "java/lang/String" (647 : Nat) ({ cls := "java/lang/StringLatin1", name := "indexOf", desc := "([B[B)I" } : Jvm.MethodName)) ∈ gw := gw_8 200 rfl rfl
theorem wr_8_202 : (Jvm.Cond.code ({ cls := "java/lang/StringLatin1", name := "indexOf", desc := "([B[B)I" } : Jvm.MethodName) prog_37_method_24_code (2 : Nat) (Option.some Jvm.ClassFile.FieldType.int)) ∈ gw := gw_8 202 rfl rfl
theorem wr_8_201 : (Jvm.Cond.static ({ cls := "java/lang/StringLatin1", name := "indexOf", desc := "([B[B)I" } : Jvm.MethodName)) ∈ gw := gw_8 201 rfl rfl
theorem dr_cJ0_indexOf_2f485_31 : decode cJ0_indexOf_2f485 31 = .ok (.goto 14, 3) := by decide +kernel
theorem dr_cJ0_indexOf_2f485_45 : decode cJ0_indexOf_2f485 45 = .ok (.ireturn, 1) := by decide +kernel
theorem dr_cJ1_canEncode_9a6ad_0 : decode cJ1_canEncode_9a6ad 0 = .ok (.iload_n 0, 1) := by decide +kernel
theorem dr_cJ1_canEncode_9a6ad_1 : decode cJ1_canEncode_9a6ad 1 = .ok (.ifCond .lt 14, 3) := by decide +kernel
theorem dr_cJ1_canEncode_9a6ad_15 : decode cJ1_canEncode_9a6ad 15 = .ok (.iconst 0, 1) := by decide +kernel
theorem dr_cJ1_canEncode_9a6ad_16 : decode cJ1_canEncode_9a6ad 16 = .ok (.ireturn, 1) := by decide +kernel
theorem dr_cJ1_canEncode_9a6ad_4 : decode cJ1_canEncode_9a6ad 4 = .ok (.iload_n 0, 1) := by decide +kernel
theorem dr_cJ1_canEncode_9a6ad_5 : decode cJ1_canEncode_9a6ad 5 = .ok (.sipush 255, 3) := by decide +kernel
theorem dr_cJ1_canEncode_9a6ad_8 : decode cJ1_canEncode_9a6ad 8 = .ok (.if_icmp .gt 7, 3) := by decide +kernel
theorem dr_cJ1_canEncode_9a6ad_11 : decode cJ1_canEncode_9a6ad 11 = .ok (.iconst 1, 1) := by decide +kernel
theorem dr_cJ1_canEncode_9a6ad_12 : decode cJ1_canEncode_9a6ad 12 = .ok (.goto 4, 3) := by decide +kernel
theorem dr_cJ1_indexOfChar_4cfef_0 : decode cJ1_indexOfChar_4cfef 0 = .ok (.iload_n 1, 1) := by decide +kernel
theorem dr_cJ1_indexOfChar_4cfef_1 : decode cJ1_indexOfChar_4cfef 1 = .ok (.i2b, 1) := by decide +kernel
theorem dr_cJ1_indexOfChar_4cfef_2 : decode cJ1_indexOfChar_4cfef 2 = .ok (.istore 4, 2) := by decide +kernel
theorem dr_cJ1_indexOfChar_4cfef_4 : decode cJ1_indexOfChar_4cfef 4 = .ok (.iload_n 2, 1) := by decide +kernel
theorem dr_cJ1_indexOfChar_4cfef_5 : decode cJ1_indexOfChar_4cfef 5 = .ok (.istore 5, 2) := by decide +kernel
theorem dr_cJ1_indexOfChar_4cfef_7 : decode cJ1_indexOfChar_4cfef 7 = .ok (.iload 5, 2) := by decide +kernel
theorem dr_cJ1_indexOfChar_4cfef_9 : decode cJ1_indexOfChar_4cfef 9 = .ok (.iload_n 3, 1) := by decide +kernel
theorem dr_cJ1_indexOfChar_4cfef_10 : decode cJ1_indexOfChar_4cfef 10 = .ok (.if_icmp .ge 21, 3) := by decide +kernel
theorem dr_cJ1_indexOfChar_4cfef_31 : decode cJ1_indexOfChar_4cfef 31 = .ok (.iconst (-1), 1) := by decide +kernel
theorem dr_cJ1_indexOfChar_4cfef_32 : decode cJ1_indexOfChar_4cfef 32 = .ok (.ireturn, 1) := by decide +kernel
theorem dr_cJ1_indexOfChar_4cfef_13 : decode cJ1_indexOfChar_4cfef 13 = .ok (.aload_n 0, 1) := by decide +kernel
theorem dr_cJ1_indexOfChar_4cfef_14 : decode cJ1_indexOfChar_4cfef 14 = .ok (.iload 5, 2) := by decide +kernel
theorem dr_cJ1_indexOfChar_4cfef_16 : decode cJ1_indexOfChar_4cfef 16 = .ok (.baload, 1) := by decide +kernel
theorem dr_cJ1_indexOfChar_4cfef_17 : decode cJ1_indexOfChar_4cfef 17 = .ok (.iload 4, 2) := by decide +kernel
theorem dr_cJ1_indexOfChar_4cfef_19 : decode cJ1_indexOfChar_4cfef 19 = .ok (.if_icmp .ne 6, 3) := by decide +kernel
theorem dr_cJ1_indexOfChar_4cfef_25 : decode cJ1_indexOfChar_4cfef 25 = .ok (.iinc 5 1, 3) := by decide +kernel
theorem dr_cJ1_indexOfChar_4cfef_28 : decode cJ1_indexOfChar_4cfef 28 = .ok (.goto (-21), 3) := by decide +kernel
theorem dr_cJ1_indexOfChar_4cfef_22 : decode cJ1_indexOfChar_4cfef 22 = .ok (.iload 5, 2) := by decide +kernel
theorem dr_cJ1_indexOfChar_4cfef_24 : decode cJ1_indexOfChar_4cfef 24 = .ok (.ireturn, 1) := by decide +kernel
theorem dr_cJ1_indexOf_4cfef_0 : decode cJ1_indexOf_4cfef 0 = .ok (.iload_n 1, 1) := by decide +kernel
theorem dr_cJ1_indexOf_4cfef_1 : decode cJ1_indexOf_4cfef 1 = .ok (.invokestatic 88, 3) := by decide +kernel
theorem wr_9_2 : (Jvm.Cond.methodLink "java/lang/StringLatin1" (88 : Nat) ({ cls := "java/lang/StringLatin1", name := "canEncode", desc := "(I)Z" } : Jvm.MethodName)) ∈ gw := gw_9 2 rfl rfl
theorem wr_9_4 : (Jvm.Cond.code ({ cls := "java/lang/StringLatin1", name := "canEncode", desc := "(I)Z" } : Jvm.MethodName) prog_37_method_4_code (1 : Nat) (Option.some Jvm.ClassFile.FieldType.boolean)) ∈ gw := gw_9 4 rfl rfl
theorem wr_9_3 : (Jvm.Cond.static ({ cls := "java/lang/StringLatin1", name := "canEncode", desc := "(I)Z" } : Jvm.MethodName)) ∈ gw := gw_9 3 rfl rfl
theorem dr_cJ1_indexOf_4cfef_4 : decode cJ1_indexOf_4cfef 4 = .ok (.ifCond .ne 5, 3) := by decide +kernel
theorem dr_cJ1_indexOf_4cfef_7 : decode cJ1_indexOf_4cfef 7 = .ok (.iconst (-1), 1) := by decide +kernel
theorem dr_cJ1_indexOf_4cfef_8 : decode cJ1_indexOf_4cfef 8 = .ok (.ireturn, 1) := by decide +kernel
theorem dr_cJ1_indexOf_4cfef_9 : decode cJ1_indexOf_4cfef 9 = .ok (.iload_n 2, 1) := by decide +kernel
theorem dr_cJ1_indexOf_4cfef_10 : decode cJ1_indexOf_4cfef 10 = .ok (.iconst 0, 1) := by decide +kernel
theorem dr_cJ1_indexOf_4cfef_11 : decode cJ1_indexOf_4cfef 11 = .ok (.invokestatic 92, 3) := by decide +kernel
theorem wr_9_5 : (Jvm.Cond.methodLink "java/lang/StringLatin1" (92 : Nat) ({ cls := "java/lang/Math", name := "max", desc := "(II)I" } : Jvm.MethodName)) ∈ gw := gw_9 5 rfl rfl
theorem dr_cJ1_indexOf_4cfef_14 : decode cJ1_indexOf_4cfef 14 = .ok (.istore_n 2, 1) := by decide +kernel
theorem dr_cJ1_indexOf_4cfef_15 : decode cJ1_indexOf_4cfef 15 = .ok (.iload_n 3, 1) := by decide +kernel
theorem dr_cJ1_indexOf_4cfef_16 : decode cJ1_indexOf_4cfef 16 = .ok (.aload_n 0, 1) := by decide +kernel
theorem dr_cJ1_indexOf_4cfef_17 : decode cJ1_indexOf_4cfef 17 = .ok (.arraylength, 1) := by decide +kernel
theorem dr_cJ1_indexOf_4cfef_18 : decode cJ1_indexOf_4cfef 18 = .ok (.invokestatic 38, 3) := by decide +kernel
theorem wr_9_6 : (Jvm.Cond.methodLink "java/lang/StringLatin1" (38 : Nat) ({ cls := "java/lang/Math", name := "min", desc := "(II)I" } : Jvm.MethodName)) ∈ gw := gw_9 6 rfl rfl
theorem dr_cJ1_indexOf_4cfef_21 : decode cJ1_indexOf_4cfef 21 = .ok (.istore_n 3, 1) := by decide +kernel
theorem dr_cJ1_indexOf_4cfef_22 : decode cJ1_indexOf_4cfef 22 = .ok (.iload_n 2, 1) := by decide +kernel
theorem dr_cJ1_indexOf_4cfef_23 : decode cJ1_indexOf_4cfef 23 = .ok (.iload_n 3, 1) := by decide +kernel
theorem dr_cJ1_indexOf_4cfef_24 : decode cJ1_indexOf_4cfef 24 = .ok (.if_icmp .lt 5, 3) := by decide +kernel
theorem dr_cJ1_indexOf_4cfef_29 : decode cJ1_indexOf_4cfef 29 = .ok (.aload_n 0, 1) := by decide +kernel
theorem dr_cJ1_indexOf_4cfef_30 : decode cJ1_indexOf_4cfef 30 = .ok (.iload_n 1, 1) := by decide +kernel
theorem dr_cJ1_indexOf_4cfef_31 : decode cJ1_indexOf_4cfef 31 = .ok (.iload_n 2, 1) := by decide +kernel
theorem dr_cJ1_indexOf_4cfef_32 : decode cJ1_indexOf_4cfef 32 = .ok (.iload_n 3, 1) := by decide +kernel
theorem dr_cJ1_indexOf_4cfef_33 : decode cJ1_indexOf_4cfef 33 = .ok (.invokestatic 95, 3) := by decide +kernel
theorem wr_9_7 : (Jvm.Cond.methodLink "java/lang/StringLatin1" (95 : Nat) ({ cls := "java/lang/StringLatin1", name := "indexOfChar", desc := "([BIII)I" } : Jvm.MethodName)) ∈ gw := gw_9 7 rfl rfl
theorem wr_9_9 : (Jvm.Cond.code ({ cls := "java/lang/StringLatin1", name := "indexOfChar", desc := "([BIII)I" } : Jvm.MethodName) prog_37_method_23_code (6 : Nat) (Option.some Jvm.ClassFile.FieldType.int)) ∈ gw := gw_9 9 rfl rfl
theorem wr_9_8 : (Jvm.Cond.static ({ cls := "java/lang/StringLatin1", name := "indexOfChar", desc := "([BIII)I" } : Jvm.MethodName)) ∈ gw := gw_9 8 rfl rfl
theorem dr_cJ1_indexOf_4cfef_36 : decode cJ1_indexOf_4cfef 36 = .ok (.ireturn, 1) := by decide +kernel
theorem dr_cJ1_indexOf_4cfef_27 : decode cJ1_indexOf_4cfef 27 = .ok (.iconst (-1), 1) := by decide +kernel
theorem dr_cJ1_indexOf_4cfef_28 : decode cJ1_indexOf_4cfef 28 = .ok (.ireturn, 1) := by decide +kernel
theorem dr_cJ0_indexOf_7cf53_0 : decode cJ0_indexOf_7cf53 0 = .ok (.aload_n 0, 1) := by decide +kernel
theorem dr_cJ0_indexOf_7cf53_1 : decode cJ0_indexOf_7cf53 1 = .ok (.invokevirtual 492, 3) := by decide +kernel
theorem dr_cJ0_indexOf_7cf53_4 : decode cJ0_indexOf_7cf53 4 = .ok (.ifCond .eq 19, 3) := by decide +kernel
theorem dr_cJ0_indexOf_7cf53_7 : decode cJ0_indexOf_7cf53 7 = .ok (.aload_n 0, 1) := by decide +kernel
theorem dr_cJ0_indexOf_7cf53_8 : decode cJ0_indexOf_7cf53 8 = .ok (.getfield 9, 3) := by decide +kernel
theorem dr_cJ0_indexOf_7cf53_11 : decode cJ0_indexOf_7cf53 11 = .ok (.iload_n 1, 1) := by decide +kernel
theorem dr_cJ0_indexOf_7cf53_12 : decode cJ0_indexOf_7cf53 12 = .ok (.iload_n 2, 1) := by decide +kernel
theorem dr_cJ0_indexOf_7cf53_13 : decode cJ0_indexOf_7cf53 13 = .ok (.aload_n 0, 1) := by decide +kernel
theorem dr_cJ0_indexOf_7cf53_14 : decode cJ0_indexOf_7cf53 14 = .ok (.invokevirtual 505, 3) := by decide +kernel
theorem wr_8_238 : (Jvm.Cond.methodLink "java/lang/String" (505 : Nat) ({ cls := "java/lang/String", name := "length", desc := "()I" } : Jvm.MethodName)) ∈ gw := gw_8 238 rfl rfl
theorem dr_cJ0_indexOf_7cf53_17 : decode cJ0_indexOf_7cf53 17 = .ok (.invokestatic 637, 3) := by decide +kernel
theorem wr_8_239 : (Jvm.Cond.methodLink "java/lang/String" (637 : Nat) ({ cls := "java/lang/StringLatin1", name := "indexOf", desc := "([BIII)I" } : Jvm.MethodName)) ∈ gw := gw_8 239 rfl rfl
theorem wr_9_1 : (Jvm.Cond.code ({ cls := "java/lang/StringLatin1", name := "indexOf", desc := "([BIII)I" } : Jvm.MethodName) prog_37_method_22_code (4 : Nat) (Option.some Jvm.ClassFile.FieldType.int)) ∈ gw := gw_9 1 rfl rfl
theorem wr_9_0 : (Jvm.Cond.static ({ cls := "java/lang/StringLatin1", name := "indexOf", desc := "([BIII)I" } : Jvm.MethodName)) ∈ gw := gw_9 0 rfl rfl
theorem dr_cJ0_indexOf_7cf53_20 : decode cJ0_indexOf_7cf53 20 = .ok (.goto 16, 3) := by decide +kernel
theorem dr_cJ0_indexOf_7cf53_36 : decode cJ0_indexOf_7cf53 36 = .ok (.ireturn, 1) := by decide +kernel
theorem dr_cJ0_indexOf_0f7a4_0 : decode cJ0_indexOf_0f7a4 0 = .ok (.aload_n 0, 1) := by decide +kernel
theorem dr_cJ0_indexOf_0f7a4_1 : decode cJ0_indexOf_0f7a4 1 = .ok (.iload_n 1, 1) := by decide +kernel
theorem dr_cJ0_indexOf_0f7a4_2 : decode cJ0_indexOf_0f7a4 2 = .ok (.iconst 0, 1) := by decide +kernel
theorem dr_cJ0_indexOf_0f7a4_3 : decode cJ0_indexOf_0f7a4 3 = .ok (.invokevirtual 633, 3) := by decide +kernel
theorem wr_8_234 : (Jvm.Cond.methodLink "java/lang/String" (633 : Nat) ({ cls := "java/lang/String", name := "indexOf", desc := "(II)I" } : Jvm.MethodName)) ∈ gw := gw_8 234 rfl rfl
theorem wr_8_237 : (Jvm.Cond.code ({ cls := "java/lang/String", name := "indexOf", desc := "(II)I" } : Jvm.MethodName) prog_34_method_80_code (3 : Nat) (Option.some Jvm.ClassFile.FieldType.int)) ∈ gw := gw_8 237 rfl rfl
theorem wr_8_235 : (Jvm.Cond.instanceMethod ({ cls := "java/lang/String", name := "indexOf", desc := "(II)I" } : Jvm.MethodName)) ∈ gw := gw_8 235 rfl rfl
theorem wr_8_236 : (Jvm.Cond.selects "java/lang/String" ({ cls := "java/lang/String", name := "indexOf", desc := "(II)I" } : Jvm.MethodName) ({ cls := "java/lang/String", name := "indexOf", desc := "(II)I" } : Jvm.MethodName)) ∈ gw := gw_8 236 rfl rfl
theorem dr_cJ0_indexOf_0f7a4_6 : decode cJ0_indexOf_0f7a4 6 = .ok (.ireturn, 1) := by decide +kernel
theorem dr_cJ6_stringSize_0f7a4_0 : decode cJ6_stringSize_0f7a4 0 = .ok (.iconst 1, 1) := by decide +kernel
theorem dr_cJ6_stringSize_0f7a4_1 : decode cJ6_stringSize_0f7a4 1 = .ok (.istore_n 1, 1) := by decide +kernel
theorem dr_cJ6_stringSize_0f7a4_2 : decode cJ6_stringSize_0f7a4 2 = .ok (.iload_n 0, 1) := by decide +kernel
theorem dr_cJ6_stringSize_0f7a4_3 : decode cJ6_stringSize_0f7a4 3 = .ok (.ifCond .lt 8, 3) := by decide +kernel
theorem dr_cJ6_stringSize_0f7a4_11 : decode cJ6_stringSize_0f7a4 11 = .ok (.bipush (-10), 2) := by decide +kernel
theorem dr_cJ6_stringSize_0f7a4_13 : decode cJ6_stringSize_0f7a4 13 = .ok (.istore_n 2, 1) := by decide +kernel
theorem dr_cJ6_stringSize_0f7a4_14 : decode cJ6_stringSize_0f7a4 14 = .ok (.iconst 1, 1) := by decide +kernel
theorem dr_cJ6_stringSize_0f7a4_15 : decode cJ6_stringSize_0f7a4 15 = .ok (.istore_n 3, 1) := by decide +kernel
theorem dr_cJ6_stringSize_0f7a4_16 : decode cJ6_stringSize_0f7a4 16 = .ok (.iload_n 3, 1) := by decide +kernel
theorem dr_cJ6_stringSize_0f7a4_17 : decode cJ6_stringSize_0f7a4 17 = .ok (.bipush 10, 2) := by decide +kernel
theorem dr_cJ6_stringSize_0f7a4_19 : decode cJ6_stringSize_0f7a4 19 = .ok (.if_icmp .ge 23, 3) := by decide +kernel
theorem dr_cJ6_stringSize_0f7a4_42 : decode cJ6_stringSize_0f7a4 42 = .ok (.bipush 10, 2) := by decide +kernel
theorem dr_cJ6_stringSize_0f7a4_44 : decode cJ6_stringSize_0f7a4 44 = .ok (.iload_n 1, 1) := by decide +kernel
theorem dr_cJ6_stringSize_0f7a4_45 : decode cJ6_stringSize_0f7a4 45 = .ok (.iadd, 1) := by decide +kernel
theorem dr_cJ6_stringSize_0f7a4_46 : decode cJ6_stringSize_0f7a4 46 = .ok (.ireturn, 1) := by decide +kernel
theorem dr_cJ6_stringSize_0f7a4_22 : decode cJ6_stringSize_0f7a4 22 = .ok (.iload_n 0, 1) := by decide +kernel
theorem dr_cJ6_stringSize_0f7a4_23 : decode cJ6_stringSize_0f7a4 23 = .ok (.iload_n 2, 1) := by decide +kernel
theorem dr_cJ6_stringSize_0f7a4_24 : decode cJ6_stringSize_0f7a4 24 = .ok (.if_icmp .le 7, 3) := by decide +kernel
theorem dr_cJ6_stringSize_0f7a4_31 : decode cJ6_stringSize_0f7a4 31 = .ok (.bipush 10, 2) := by decide +kernel
theorem dr_cJ6_stringSize_0f7a4_33 : decode cJ6_stringSize_0f7a4 33 = .ok (.iload_n 2, 1) := by decide +kernel
theorem dr_cJ6_stringSize_0f7a4_34 : decode cJ6_stringSize_0f7a4 34 = .ok (.imul, 1) := by decide +kernel
theorem dr_cJ6_stringSize_0f7a4_35 : decode cJ6_stringSize_0f7a4 35 = .ok (.istore_n 2, 1) := by decide +kernel
theorem dr_cJ6_stringSize_0f7a4_36 : decode cJ6_stringSize_0f7a4 36 = .ok (.iinc 3 1, 3) := by decide +kernel
theorem dr_cJ6_stringSize_0f7a4_39 : decode cJ6_stringSize_0f7a4 39 = .ok (.goto (-23), 3) := by decide +kernel
theorem dr_cJ6_stringSize_0f7a4_27 : decode cJ6_stringSize_0f7a4 27 = .ok (.iload_n 3, 1) := by decide +kernel
theorem dr_cJ6_stringSize_0f7a4_28 : decode cJ6_stringSize_0f7a4 28 = .ok (.iload_n 1, 1) := by decide +kernel
theorem dr_cJ6_stringSize_0f7a4_29 : decode cJ6_stringSize_0f7a4 29 = .ok (.iadd, 1) := by decide +kernel
theorem dr_cJ6_stringSize_0f7a4_30 : decode cJ6_stringSize_0f7a4 30 = .ok (.ireturn, 1) := by decide +kernel
theorem dr_cJ6_stringSize_0f7a4_6 : decode cJ6_stringSize_0f7a4 6 = .ok (.iconst 0, 1) := by decide +kernel
theorem dr_cJ6_stringSize_0f7a4_7 : decode cJ6_stringSize_0f7a4 7 = .ok (.istore_n 1, 1) := by decide +kernel
theorem dr_cJ6_stringSize_0f7a4_8 : decode cJ6_stringSize_0f7a4 8 = .ok (.iload_n 0, 1) := by decide +kernel
theorem dr_cJ6_stringSize_0f7a4_9 : decode cJ6_stringSize_0f7a4 9 = .ok (.ineg, 1) := by decide +kernel
theorem dr_cJ6_stringSize_0f7a4_10 : decode cJ6_stringSize_0f7a4 10 = .ok (.istore_n 0, 1) := by decide +kernel
abbrev ky_660374_StringLatin1_indexOf : gKey := (cJ1_indexOf_b82b6, 2, "java/lang/StringLatin1", (some FieldType.int), [], "indexOf", fun _ _ => True)
def pp_660374_StringLatin1_indexOf (D : va_G) (I : FieldType → ClassId) (P660365 : List Nat) (F660366 : Nat → va_E) (q660367 : Nat) (qs660368 : Nat) (bs660369 : List Int32) (f660370 : Nat → Int32) (n660371 : Nat) : Option Value → va_W → Nat → Nat → Prop := fun r w dc ds => ∃ (o667407 : Int32), r = some (.int o667407) ∧ w = va_pl P660365 F660366 ∧ dc ≤ 0 ∧ ds ≤ 0 ∧ gB o667407 (-2147483646) 16777215 ∧ (o667407.toInt < 0 ∨ o667407.toInt + (n660371 : Int) ≤ (bs660369.length : Int)) ∧ ixP (fun j => bs660369.getD j 0) f660370 o667407 ∧ tr_RStringLatin1_indexOf bs660369 f660370 n660371 o667407
set_option maxRecDepth 100000 in
set_option maxHeartbeats 4000000 in
theorem cp_660374_StringLatin1_indexOf (l : Launch) (hl0 : l.stackTraces = false) (D : va_G) (I : FieldType → ClassId) (P660365 : List Nat) (F660366 : Nat → va_E) (q660367 : Nat) (qs660368 : Nat) (bs660369 : List Int32) (f660370 : Nat → Int32) (n660371 : Nat) (hmq660367 : q660367 ∈ P660365) (heq660367 : F660366 q660367 = .inl (I .byte, n660371, .inl f660370)) (hbs660369 : ∀ A s H, (gV D I).2.2.2.1 A s H → va_T .byte qs660368 bs660369.length (fun j => .int (bs660369.getD j 0)) A s H) (nbs660369 : (bs660369.length : Int) ≤ 65535) (lbs660369 : gLB bs660369) (bf660370 : gF f660370 (-128) 127) (x660372 : 1 ≤ (n660371 : Int)) (x660373 : ((n660371 : Int) ≤ 16777216)) : CtA (gV D I) l yJ1_indexOf_b82b6 cJ1_indexOf_b82b6 2 (some FieldType.int) 1 30 0 0 [.ref qs660368, .ref q660367] (va_pl P660365 F660366) (pp_660374_StringLatin1_indexOf D I P660365 F660366 q660367 qs660368 bs660369 f660370 n660371) gNA := by
  refine CtA_ofF hl0 (by decide +kernel) (Nat.le_of_ble_eq_true rfl) ?_
  refine G_aload_n 1 dr_cJ1_indexOf_b82b6_0 rfl ?_
  refine Gp_alen (Int32.ofNat n660371) 1 hmq660367 heq660367 dr_cJ1_indexOf_b82b6_1 rfl rfl (G_nam fun z660375 hz660375 => ?_)
  have ez660375 : z660375.toInt = (n660371 : Nat) := gI_ofM hz660375 (by omega)
  have bz660375 : gB z660375 0 16777216 := ⟨by omega, by omega⟩
  refine G_if_ne 7 dr_cJ1_indexOf_b82b6_2 (by decide +kernel) (fun hc660376 => ?_) (fun hc => absurd (show False by have := gj_eq hc (show Int32.toInt 0 = 0 by decide); omega) not_false)
  have r660378 : z660375.toInt ≠ 0 := gj_neq hc660376 (show Int32.toInt 0 = 0 by decide)
  have bz660375' : gB z660375 1 16777216 := ⟨by omega, by omega⟩
  refine G_aload_n 0 dr_cJ1_indexOf_b82b6_7 rfl ?_
  refine G_klen dr_cJ1_indexOf_b82b6_8 hbs660369 (G_nam fun z660379 hz660379 => ?_)
  have ez660379 : z660379.toInt = (bs660369.length : Int) := gI_ofN hz660379 nbs660369
  have bz660379 : gB z660379 0 65535 := ⟨by omega, by omega⟩
  refine G_if_ne 14 dr_cJ1_indexOf_b82b6_9 (by decide +kernel) (fun hc660380 => ?_) (fun hc660380 => ?_)
  · have r660381 : z660379.toInt ≠ 0 := gj_neq hc660380 (show Int32.toInt 0 = 0 by decide)
    have bz660379' : gB z660379 1 65535 := ⟨by omega, by omega⟩
    refine G_aload_n 0 dr_cJ1_indexOf_b82b6_14 rfl ?_
    refine G_aload_n 0 dr_cJ1_indexOf_b82b6_15 rfl ?_
    refine G_klen dr_cJ1_indexOf_b82b6_16 hbs660369 (G_nam fun z660382 hz660382 => ?_)
    have ez660382 : z660382.toInt = (bs660369.length : Int) := gI_ofN hz660382 nbs660369
    have bz660382 : gB z660382 0 65535 := ⟨by omega, by omega⟩
    refine G_aload_n 1 dr_cJ1_indexOf_b82b6_17 rfl ?_
    refine G_aload_n 1 dr_cJ1_indexOf_b82b6_18 rfl ?_
    refine Gp_alen (Int32.ofNat n660371) 1 hmq660367 heq660367 dr_cJ1_indexOf_b82b6_19 rfl rfl (G_nam fun z660383 hz660383 => ?_)
    have ez660383 : z660383.toInt = (n660371 : Nat) := gI_ofM hz660383 (by omega)
    have bz660383 : gB z660383 0 16777216 := ⟨by omega, by omega⟩
    refine G_iconst 0 dr_cJ1_indexOf_b82b6_20 (by decide +kernel) ?_
    refine Gw_callS (As := [.ref qs660368, .int z660382, .ref q660367, .int z660383, .int 0]) (gV_ok D I) (cp_660396_StringLatin1_indexOf l hl0 D I P660365 F660366 q660367 qs660368 bs660369 z660382 z660383 f660370 n660371 hmq660367 heq660367 hbs660369 nbs660369 lbs660369 (gB_w bz660382 (by decide) (by decide)) ⟨by omega, by omega⟩ bf660370 (by omega) (by omega) (by omega)) dr_cJ1_indexOf_b82b6_21 ⟨wr_8_203, wr_1_28, wr_8_205, by decide, rfl, (Nat.le_of_ble_eq_true rfl), (Nat.le_of_ble_eq_true rfl)⟩ wr_8_204 (show 0 + 0 ≤ 0 by first | omega | decide) (show 0 + 0 ≤ 0 by first | omega | decide) (Nat.le_of_ble_eq_true rfl) (fun r667400 w667401 dc667397 ds667398 hp667399 => ?_) (fun _ _ _ _ _ z => z.elim)
    obtain ⟨o667402, rfl, rfl, hdc, hds, bo667402, x667403, x667404, ht667405⟩ := hp667399
    change G _ _ _ _ _ _ _ (.int o667402 :: _) _ _ _
    refine G_widen (cs' := 0) (sl' := 0) (by omega) (by omega) ?_
    exact G_iretA dr_cJ1_indexOf_b82b6_24 rfl (Nat.le_of_ble_eq_true rfl) (Nat.le_of_ble_eq_true rfl) ⟨o667402, rfl, rfl, (Nat.le_of_ble_eq_true rfl), (Nat.le_of_ble_eq_true rfl), bo667402, (by omega), x667404, (fun R c1 c2 => c1 z660375 z660379 z660382 z660383 o667402 ez660375 r660378 ez660379 r660381 ez660382 ez660383 bo667402 ht667405)⟩
  · have r667406 : z660379.toInt = 0 := gj_eq hc660380 (show Int32.toInt 0 = 0 by decide)
    have bz660379' : gB z660379 0 0 := ⟨by omega, by omega⟩
    refine G_iconst (-1) dr_cJ1_indexOf_b82b6_12 (by decide +kernel) ?_
    exact G_iretA dr_cJ1_indexOf_b82b6_13 rfl (Nat.le_of_ble_eq_true rfl) (Nat.le_of_ble_eq_true rfl) ⟨(-1), rfl, rfl, (Nat.le_of_ble_eq_true rfl), (Nat.le_of_ble_eq_true rfl), (gB_w (gBl (show Int32.toInt (-1) = (-1) by decide)) (by decide) (by decide)), (by have qa0 : Int32.toInt (-1) = (-1) := (by decide); omega), (ixP_n (by decide)), (fun R c1 c2 => c2 z660375 z660379 ez660375 r660378 ez660379 r667406)⟩
/- tr_RString_indexOf: result -/
def tr_RString_indexOf (bs : List Int32) (a1_value_v : Nat → Int32) (a1_value_n : Nat) (o1 : Int32) : Prop := ∀ R : (Int32) → Prop,
  (∀ (x1 : Int32), gB x1 (-2147483646) 16777215 → tr_RStringLatin1_indexOf bs a1_value_v a1_value_n x1 → R x1) →
  R o1
abbrev ky_660349_String_indexOf : gKey := (cJ0_indexOf_2f485, 3, "java/lang/String", (some FieldType.int), [], "indexOf", fun _ _ => True)
def pp_660349_String_indexOf (D : va_G) (I : FieldType → ClassId) (P660336 : List Nat) (F660337 : Nat → va_E) (q660338 : Nat) (q660339 : Nat) (qs660340 : Nat) (qb660341 : Nat) (bs660342 : List Int32) (p660343 : Int32) (p660344 : Int32) (f660345 : Nat → Int32) (n660346 : Nat) : Option Value → va_W → Nat → Nat → Prop := fun r w dc ds => ∃ (o667417 : Int32), r = some (.int o667417) ∧ w = va_pl P660336 F660337 ∧ dc ≤ 0 ∧ ds ≤ 0 ∧ gB o667417 (-2147483646) 16777215 ∧ (o667417.toInt < 0 ∨ o667417.toInt + (n660346 : Int) ≤ (bs660342.length : Int)) ∧ ixP (fun j => bs660342.getD j 0) f660345 o667417 ∧ tr_RString_indexOf bs660342 f660345 n660346 o667417
set_option maxRecDepth 100000 in
set_option maxHeartbeats 4000000 in
theorem cp_660349_String_indexOf (l : Launch) (hl0 : l.stackTraces = false) (D : va_G) (I : FieldType → ClassId) (P660336 : List Nat) (F660337 : Nat → va_E) (q660338 : Nat) (q660339 : Nat) (qs660340 : Nat) (qb660341 : Nat) (bs660342 : List Int32) (p660343 : Int32) (p660344 : Int32) (f660345 : Nat → Int32) (n660346 : Nat) (hmq660338 : q660338 ∈ P660336) (hmq660339 : q660339 ∈ P660336) (heq660338 : F660337 q660338 = .inr (0, [.ref q660339, .int 0, .int p660343, .int p660344])) (heq660339 : F660337 q660339 = .inl (I .byte, n660346, .inl f660345)) (hbs660342 : ∀ A s H, (gV D I).2.2.2.1 A s H → gSC qs660340 qb660341 bs660342 A s H) (nbs660342 : (bs660342.length : Int) ≤ 65535) (lbs660342 : gLB bs660342) (bp660344 : gB p660344 0 1) (bf660345 : gF f660345 (-128) 127) (x660347 : 1 ≤ (n660346 : Int)) (x660348 : ((n660346 : Int) ≤ 16777216)) : CtA (gV D I) l yJ0_indexOf_2f485 cJ0_indexOf_2f485 3 (some FieldType.int) 2 51 0 0 [.ref qs660340, .ref q660338] (va_pl P660336 F660337) (pp_660349_String_indexOf D I P660336 F660337 q660338 q660339 qs660340 qb660341 bs660342 p660343 p660344 f660345 n660346) gNA := by
  refine CtA_ofF hl0 (by decide +kernel) (Nat.le_of_ble_eq_true rfl) ?_
  have bp660343 := gB_any p660343
  refine G_aload_n 0 dr_cJ0_indexOf_2f485_0 rfl ?_
  refine Gw_callVk (As := []) (gV_ok D I) (cp_659444_String_coder l hl0 D I P660336 F660337 qs660340 qb660341 bs660342 hbs660342 nbs660342 lbs660342) dr_cJ0_indexOf_2f485_1 ⟨wr_3_61, wr_1_21, wr_3_64, by decide, rfl, (Nat.le_of_ble_eq_true rfl), (Nat.le_of_ble_eq_true rfl)⟩ wr_3_62 wr_3_63 (fun _ _ _ h => (hbs660342 _ _ _ h).1) (show 0 + 0 ≤ 0 by first | omega | decide) (show 0 + 0 ≤ 0 by first | omega | decide) (Nat.le_of_ble_eq_true rfl) (fun r660353 w660354 dc660350 ds660351 hp660352 => ?_) (fun _ _ _ _ _ z => z.elim)
  obtain ⟨rfl, rfl, hdc, hds⟩ := hp660352
  change G _ _ _ _ _ _ _ (.int 0 :: _) _ _ _
  refine G_widen (cs' := 0) (sl' := 0) (by omega) (by omega) ?_
  refine G_istore_n (L' := [(2, .int 0), (0, .ref qs660340), (1, .ref q660338)]) dr_cJ0_indexOf_2f485_4 (Nat.le_of_ble_eq_true rfl) rfl ?_
  refine G_iload_n 0 dr_cJ0_indexOf_2f485_5 rfl ?_
  refine G_aload_n 2 dr_cJ0_indexOf_2f485_6 rfl ?_
  refine Gw_callV (As := []) (gV_ok D I) (cp_659228_String_coder l hl0 D I P660336 F660337 q660338 q660339 p660343 p660344 f660345 n660346 hmq660338 hmq660339 heq660338 heq660339 bp660344 bf660345 (by have qa0 : Int32.toInt 0 = 0 := (by decide); omega)) dr_cJ0_indexOf_2f485_7 ⟨wr_3_61, wr_1_21, wr_3_64, by decide, rfl, (Nat.le_of_ble_eq_true rfl), (Nat.le_of_ble_eq_true rfl)⟩ wr_3_62 wr_3_63 hmq660338 heq660338 rfl (show 0 + 0 ≤ 0 by first | omega | decide) (show 0 + 0 ≤ 0 by first | omega | decide) (Nat.le_of_ble_eq_true rfl) (fun r660358 w660359 dc660355 ds660356 hp660357 => ?_) (fun _ _ _ _ _ z => z.elim)
  obtain ⟨rfl, rfl, hdc, hds⟩ := hp660357
  change G _ _ _ _ _ _ _ (.int 0 :: _) _ _ _
  refine G_widen (cs' := 0) (sl' := 0) (by omega) (by omega) ?_
  refine G_icmp_ne 46 dr_cJ0_indexOf_2f485_10 (by decide +kernel) (fun hc => absurd hc (by decide)) (fun _ => ?_)
  refine G_aload_n 1 dr_cJ0_indexOf_2f485_13 rfl ?_
  refine Gw_callVk (As := []) (gV_ok D I) (cp_660304_String_isLatin1 l hl0 D I P660336 F660337 qs660340 qb660341 bs660342 hbs660342 nbs660342 lbs660342) dr_cJ0_indexOf_2f485_14 ⟨wr_3_71, wr_1_21, wr_3_74, by decide, rfl, (Nat.le_of_ble_eq_true rfl), (Nat.le_of_ble_eq_true rfl)⟩ wr_3_72 wr_3_73 (fun _ _ _ h => (hbs660342 _ _ _ h).1) (show 0 + 0 ≤ 0 by first | omega | decide) (show 0 + 0 ≤ 0 by first | omega | decide) (Nat.le_of_ble_eq_true rfl) (fun r660363 w660364 dc660360 ds660361 hp660362 => ?_) (fun _ _ _ _ _ z => z.elim)
  obtain ⟨rfl, rfl, hdc, hds⟩ := hp660362
  change G _ _ _ _ _ _ _ (.int 1 :: _) _ _ _
  refine G_widen (cs' := 0) (sl' := 0) (by omega) (by omega) ?_
  refine G_if_eq 34 dr_cJ0_indexOf_2f485_17 (by decide +kernel) (fun hc => absurd hc (by decide)) (fun _ => ?_)
  refine G_aload_n 1 dr_cJ0_indexOf_2f485_20 rfl ?_
  refine G_kget dr_cJ0_indexOf_2f485_21 wr_8_182 (fun _ _ _ h => (hbs660342 _ _ _ h).2.2.1) ?_
  refine G_aload_n 2 dr_cJ0_indexOf_2f485_24 rfl ?_
  refine Gp_get 0 hmq660338 heq660338 dr_cJ0_indexOf_2f485_25 (gk_J0 D I) (Nat.le_of_ble_eq_true rfl) wr_8_182 rfl ?_
  refine Gw_callS (As := [.ref qb660341, .ref q660339]) (gV_ok D I) (cp_660374_StringLatin1_indexOf l hl0 D I P660336 F660337 q660339 qb660341 bs660342 f660345 n660346 hmq660339 heq660339 (fun _ _ _ h => (hbs660342 _ _ _ h).2.2.2) (by omega) lbs660342 bf660345 (by have qa0 : Int32.toInt 0 = 0 := (by decide); omega) (by have qa0 : Int32.toInt 0 = 0 := (by decide); omega)) dr_cJ0_indexOf_2f485_28 ⟨wr_8_200, wr_1_28, wr_8_202, by decide, rfl, (Nat.le_of_ble_eq_true rfl), (Nat.le_of_ble_eq_true rfl)⟩ wr_8_201 (show 0 + 0 ≤ 0 by first | omega | decide) (show 0 + 0 ≤ 0 by first | omega | decide) (Nat.le_of_ble_eq_true rfl) (fun r667411 w667412 dc667408 ds667409 hp667410 => ?_) (fun _ _ _ _ _ z => z.elim)
  obtain ⟨o667413, rfl, rfl, hdc, hds, bo667413, x667414, x667415, ht667416⟩ := hp667410
  change G _ _ _ _ _ _ _ (.int o667413 :: _) _ _ _
  refine G_widen (cs' := 0) (sl' := 0) (by omega) (by omega) ?_
  refine G_goto 45 dr_cJ0_indexOf_2f485_31 (by decide +kernel) ?_
  exact G_iretA dr_cJ0_indexOf_2f485_45 rfl (Nat.le_of_ble_eq_true rfl) (Nat.le_of_ble_eq_true rfl) ⟨o667413, rfl, rfl, (Nat.le_of_ble_eq_true rfl), (Nat.le_of_ble_eq_true rfl), bo667413, (by have qa0 : Int32.toInt 0 = 0 := (by decide); omega), x667415, (fun R c1 => c1 o667413 bo667413 ht667416)⟩
/- tr_RStringLatin1_canEncode2: result -/
def tr_RStringLatin1_canEncode2 (a0 : Int32) (o1 : Int32) : Prop := ∀ R : (Int32) → Prop,
  (a0.toInt < 0 → R (0 : Int32)) →
  (0 ≤ a0.toInt → 255 < a0.toInt → R (0 : Int32)) →
  (0 ≤ a0.toInt → a0.toInt ≤ 255 → R (1 : Int32)) →
  R o1
abbrev ky_667458_StringLatin1_canEncode : gKey := (cJ1_canEncode_9a6ad, 1, "java/lang/StringLatin1", (some FieldType.boolean), [], "canEncode", fun _ _ => True)
def pp_667458_StringLatin1_canEncode (D : va_G) (I : FieldType → ClassId) (P667455 : List Nat) (F667456 : Nat → va_E) (p667457 : Int32) : Option Value → va_W → Nat → Nat → Prop := fun r w dc ds => (r = some (.int 0) ∧ w = va_pl P667455 F667456 ∧ dc ≤ 0 ∧ ds ≤ 0 ∧ p667457.toInt < 0 ∧ tr_RStringLatin1_canEncode2 p667457 (0 : Int32)) ∨ (r = some (.int 0) ∧ w = va_pl P667455 F667456 ∧ dc ≤ 0 ∧ ds ≤ 0 ∧ 0 ≤ p667457.toInt ∧ 255 < p667457.toInt ∧ tr_RStringLatin1_canEncode2 p667457 (0 : Int32)) ∨ (r = some (.int 1) ∧ w = va_pl P667455 F667456 ∧ dc ≤ 0 ∧ ds ≤ 0 ∧ 0 ≤ p667457.toInt ∧ p667457.toInt ≤ 255 ∧ tr_RStringLatin1_canEncode2 p667457 (1 : Int32))
set_option maxRecDepth 100000 in
set_option maxHeartbeats 4000000 in
theorem cp_667458_StringLatin1_canEncode (l : Launch) (hl0 : l.stackTraces = false) (D : va_G) (I : FieldType → ClassId) (P667455 : List Nat) (F667456 : Nat → va_E) (p667457 : Int32)  : CtA (gV D I) l yJ1_canEncode_9a6ad cJ1_canEncode_9a6ad 1 (some FieldType.boolean) 0 0 0 0 [.int p667457] (va_pl P667455 F667456) (pp_667458_StringLatin1_canEncode D I P667455 F667456 p667457) gNA := by
  refine CtA_ofF hl0 (by decide +kernel) (Nat.le_of_ble_eq_true rfl) ?_
  have bp667457 := gB_any p667457
  refine G_iload_n 0 dr_cJ1_canEncode_9a6ad_0 rfl ?_
  refine G_if_lt 15 dr_cJ1_canEncode_9a6ad_1 (by decide +kernel) (fun hc667459 => ?_) (fun hc667459 => ?_)
  · have r667460 : p667457.toInt < 0 := gj_lt hc667459 (show Int32.toInt 0 = 0 by decide)
    have bp667457' : gB p667457 (-2147483648) (-1) := ⟨by omega, by omega⟩
    refine G_iconst 0 dr_cJ1_canEncode_9a6ad_15 (by decide +kernel) ?_
    exact G_zretA FieldType.boolean dr_cJ1_canEncode_9a6ad_16 rfl rfl (Nat.le_of_ble_eq_true rfl) (Nat.le_of_ble_eq_true rfl) (Or.inl ⟨rfl, rfl, (Nat.le_of_ble_eq_true rfl), (Nat.le_of_ble_eq_true rfl), r667460, (fun R c1 c2 c3 => c1 r667460)⟩)
  · have r667461 : 0 ≤ p667457.toInt := gj_nlt hc667459 (show Int32.toInt 0 = 0 by decide)
    have bp667457' : gB p667457 0 2147483647 := ⟨by omega, by omega⟩
    refine G_iload_n 0 dr_cJ1_canEncode_9a6ad_4 rfl ?_
    refine G_sipush 255 dr_cJ1_canEncode_9a6ad_5 (by decide +kernel) ?_
    refine G_icmp_gt 15 dr_cJ1_canEncode_9a6ad_8 (by decide +kernel) (fun hc667462 => ?_) (fun hc667462 => ?_)
    · have r667463 : 255 < p667457.toInt := gj_ltL hc667462 (show Int32.toInt 255 = 255 by decide)
      have bp667457'' : gB p667457 256 2147483647 := ⟨by omega, by omega⟩
      refine G_iconst 0 dr_cJ1_canEncode_9a6ad_15 (by decide +kernel) ?_
      exact G_zretA FieldType.boolean dr_cJ1_canEncode_9a6ad_16 rfl rfl (Nat.le_of_ble_eq_true rfl) (Nat.le_of_ble_eq_true rfl) (Or.inr (Or.inl ⟨rfl, rfl, (Nat.le_of_ble_eq_true rfl), (Nat.le_of_ble_eq_true rfl), r667461, r667463, (fun R c1 c2 c3 => c2 r667461 r667463)⟩))
    · have r667464 : p667457.toInt ≤ 255 := gj_nltL hc667462 (show Int32.toInt 255 = 255 by decide)
      have bp667457'' : gB p667457 0 255 := ⟨by omega, by omega⟩
      refine G_iconst 1 dr_cJ1_canEncode_9a6ad_11 (by decide +kernel) ?_
      refine G_goto 16 dr_cJ1_canEncode_9a6ad_12 (by decide +kernel) ?_
      exact G_zretA FieldType.boolean dr_cJ1_canEncode_9a6ad_16 rfl rfl (Nat.le_of_ble_eq_true rfl) (Nat.le_of_ble_eq_true rfl) (Or.inr (Or.inr (⟨rfl, rfl, (Nat.le_of_ble_eq_true rfl), (Nat.le_of_ble_eq_true rfl), r667461, r667464, (fun R c1 c2 c3 => c3 r667461 r667464)⟩)))
/- tl_RStringLatin1_indexOfChar_7: l5; out: l5 -/
def tl_RStringLatin1_indexOfChar_7 (a3 : Int32) (bs : List Int32) (c1 : Int32) (s1 : Int32) (k : Nat) (e1 : Int32) : Prop := ∀ R : (Int32) → Nat → (Int32) → Prop,
  (∀ (l5_1 : Int32), gB l5_1 0 65535 → a3.toInt ≤ l5_1.toInt → R l5_1 31 (0 : Int32)) →
  (∀ (l5_1 : Int32) (x1 : Int32) (x2 : Int32) (k : Nat) (e1 : Int32), gB l5_1 0 65535 → l5_1.toInt < a3.toInt → x1 = bs.getD l5_1.toNatClampNeg 0 → x1.toInt ≠ c1.toInt → x2.toInt = l5_1.toInt + 1 → R x2 k e1 → R l5_1 k e1) →
  (∀ (l5_1 : Int32) (x1 : Int32), gB l5_1 0 65535 → l5_1.toInt < a3.toInt → x1 = bs.getD l5_1.toNatClampNeg 0 → x1.toInt = c1.toInt → R l5_1 22 l5_1) →
  R s1 k e1
/- tr_RStringLatin1_indexOfChar: result -/
def tr_RStringLatin1_indexOfChar (bs : List Int32) (a1 : Int32) (a2 : Int32) (a3 : Int32) (o1 : Int32) : Prop := ∀ R : (Int32) → Prop,
  (∀ (x1 : Int32), x1 = a1.toInt8.toInt32 → tl_RStringLatin1_indexOfChar_7 a3 bs x1 a2 31 (0 : Int32) → R (-1 : Int32)) →
  (∀ (x1 : Int32) (x2 : Int32), x1 = a1.toInt8.toInt32 → tl_RStringLatin1_indexOfChar_7 a3 bs x1 a2 22 x2 → R x2) →
  R o1
abbrev ky_667492_StringLatin1_indexOfChar : gKey := (cJ1_indexOfChar_4cfef, 6, "java/lang/StringLatin1", (some FieldType.int), [], "indexOfChar", fun _ _ => True)
def pp_667492_StringLatin1_indexOfChar (D : va_G) (I : FieldType → ClassId) (P667484 : List Nat) (F667485 : Nat → va_E) (qs667486 : Nat) (bs667487 : List Int32) (p667488 : Int32) (p667489 : Int32) (p667490 : Int32) : Option Value → va_W → Nat → Nat → Prop := fun r w dc ds => ∃ (o667522 : Int32), r = some (.int o667522) ∧ w = va_pl P667484 F667485 ∧ dc ≤ 0 ∧ ds ≤ 0 ∧ gB o667522 (-1) 65534 ∧ tr_RStringLatin1_indexOfChar bs667487 p667488 p667489 p667490 o667522
set_option maxRecDepth 100000 in
set_option maxHeartbeats 4000000 in
theorem cp_667492_StringLatin1_indexOfChar (l : Launch) (hl0 : l.stackTraces = false) (D : va_G) (I : FieldType → ClassId) (P667484 : List Nat) (F667485 : Nat → va_E) (qs667486 : Nat) (bs667487 : List Int32) (p667488 : Int32) (p667489 : Int32) (p667490 : Int32) (hbs667487 : ∀ A s H, (gV D I).2.2.2.1 A s H → va_T .byte qs667486 bs667487.length (fun j => .int (bs667487.getD j 0)) A s H) (nbs667487 : (bs667487.length : Int) ≤ 65535) (lbs667487 : gLB bs667487) (bp667488 : gB p667488 0 65535) (bp667489 : gB p667489 0 65535) (bp667490 : gB p667490 0 65535) (x667491 : p667490.toInt ≤ (bs667487.length : Int)) : CtA (gV D I) l yJ1_indexOfChar_4cfef cJ1_indexOfChar_4cfef 6 (some FieldType.int) 0 0 0 0 [.ref qs667486, .int p667488, .int p667489, .int p667490] (va_pl P667484 F667485) (pp_667492_StringLatin1_indexOfChar D I P667484 F667485 qs667486 bs667487 p667488 p667489 p667490) gNA := by
  refine CtA_ofF hl0 (by decide +kernel) (Nat.le_of_ble_eq_true rfl) ?_
  refine G_iload_n 1 dr_cJ1_indexOfChar_4cfef_0 rfl ?_
  refine G_i2b dr_cJ1_indexOfChar_4cfef_1 (G_nam fun z667493 hz667493 => ?_)
  have bz667493 : gB z667493 (-128) 127 := gB_i2b hz667493
  refine G_istore (L' := [(4, .int z667493), (0, .ref qs667486), (1, .int p667488), (2, .int p667489), (3, .int p667490)]) dr_cJ1_indexOfChar_4cfef_2 (Nat.le_of_ble_eq_true rfl) rfl ?_
  refine G_iload_n 3 dr_cJ1_indexOfChar_4cfef_4 rfl ?_
  refine G_istore (L' := [(5, .int p667489), (4, .int z667493), (0, .ref qs667486), (1, .int p667488), (2, .int p667489), (3, .int p667490)]) dr_cJ1_indexOfChar_4cfef_5 (Nat.le_of_ble_eq_true rfl) rfl ?_
  have hlp7_667511 : ∀ (n7_667511 : Nat) (g667511 : Int32), gB g667511 0 65535 → (∀ (k : Nat) (e1 : Int32), tl_RStringLatin1_indexOfChar_7 p667490 bs667487 z667493 g667511 k e1 → tl_RStringLatin1_indexOfChar_7 p667490 bs667487 z667493 p667489 k e1) → ((65536 : Int) - g667511.toInt).toNat < n7_667511 → G (gV D I) l (gRm 0 0 0 0) (gMA (gV D I) (pp_667492_StringLatin1_indexOfChar D I P667484 F667485 qs667486 bs667487 p667488 p667489 p667490) gNA 0 0) ky_667492_StringLatin1_indexOfChar 7 [(5, .int g667511), (4, .int z667493), (0, .ref qs667486), (1, .int p667488), (2, .int p667489), (3, .int p667490)] [] (va_pl P667484 F667485) 0 0 := by
    intro n7_667511
    induction n7_667511 with
    | zero => intro g667511 bg667511 kt7_667511 hm7_667511; exact absurd hm7_667511 (Nat.not_lt_zero _)
    | succ n7_667511 ih7_667511 =>
      intro g667511 bg667511 kt7_667511 hm7_667511
      refine G_iload 0 dr_cJ1_indexOfChar_4cfef_7 rfl ?_
      refine G_iload_n 5 dr_cJ1_indexOfChar_4cfef_9 rfl ?_
      refine G_icmp_ge 31 dr_cJ1_indexOfChar_4cfef_10 (by decide +kernel) (fun hc667512 => ?_) (fun hc667512 => ?_)
      · have r667513 : p667490.toInt ≤ g667511.toInt := gC_le hc667512
        have hx667514 : tl_RStringLatin1_indexOfChar_7 p667490 bs667487 z667493 p667489 31 (0 : Int32) := kt7_667511 31 (0 : Int32) (fun R c1 c2 c3 => c1 g667511 bg667511 r667513)
        refine G_iconst (-1) dr_cJ1_indexOfChar_4cfef_31 (by decide +kernel) ?_
        exact G_iretA dr_cJ1_indexOfChar_4cfef_32 rfl (Nat.le_of_ble_eq_true rfl) (Nat.le_of_ble_eq_true rfl) ⟨(-1), rfl, rfl, (Nat.le_of_ble_eq_true rfl), (Nat.le_of_ble_eq_true rfl), (gB_w (gBl (show Int32.toInt (-1) = (-1) by decide)) (by decide) (by decide)), (fun R c1 c2 => c1 z667493 hz667493 hx667514)⟩
      · have r667515 : g667511.toInt < p667490.toInt := gC_nle hc667512
        have bg667511' : gB g667511 0 65534 := ⟨by omega, by omega⟩
        have bp667490' : gB p667490 1 65535 := ⟨by omega, by omega⟩
        refine G_aload_n 2 dr_cJ1_indexOfChar_4cfef_13 rfl ?_
        refine G_iload 0 dr_cJ1_indexOfChar_4cfef_14 rfl ?_
        refine G_kbald (f := fun j => bs667487.getD j 0) dr_cJ1_indexOfChar_4cfef_16 hbs667487 (gB_inr (by omega) (by omega)) (G_nam fun z667516 hz667516 => ?_)
        have bz667516 : gB z667516 (-2147483648) 2147483647 := gB_any z667516
        refine G_iload 1 dr_cJ1_indexOfChar_4cfef_17 rfl ?_
        refine G_icmp_ne 25 dr_cJ1_indexOfChar_4cfef_19 (by decide +kernel) (fun hc667517 => ?_) (fun hc667517 => ?_)
        · have r667518 : z667516.toInt ≠ z667493.toInt := gC_ne hc667517
          obtain ⟨z667519, hz667519⟩ : ∃ z : Int32, z = g667511 + Int32.ofInt 1 := ⟨_, rfl⟩
          have ez667519 : z667519.toInt = g667511.toInt + 1 := gI_inc hz667519 (by decide) bg667511' (by decide) (by decide)
          have bz667519 : gB z667519 1 65535 := ⟨by omega, by omega⟩
          refine G_iinc (L' := [(5, .int z667519), (4, .int z667493), (0, .ref qs667486), (1, .int p667488), (2, .int p667489), (3, .int p667490)]) z667519 0 dr_cJ1_indexOfChar_4cfef_25 rfl hz667519.symm (Nat.le_of_ble_eq_true rfl) rfl ?_
          refine G_goto 7 dr_cJ1_indexOfChar_4cfef_28 (by decide +kernel) ?_
          exact ih7_667511 z667519 (gB_w bz667519 (by decide) (by decide)) (fun k e1 ht => kt7_667511 k e1 (fun R c1 c2 c3 => c2 g667511 z667516 z667519 k e1 bg667511 r667515 hz667516 r667518 ez667519 (ht R c1 c2 c3))) (by omega)
        · have r667520 : z667516.toInt = z667493.toInt := gC_eq hc667517
          have bz667516' : gB z667516 (-128) 127 := ⟨by omega, by omega⟩
          have hx667521 : tl_RStringLatin1_indexOfChar_7 p667490 bs667487 z667493 p667489 22 g667511 := kt7_667511 22 g667511 (fun R c1 c2 c3 => c3 g667511 z667516 bg667511 r667515 hz667516 r667520)
          refine G_iload 0 dr_cJ1_indexOfChar_4cfef_22 rfl ?_
          exact G_iretA dr_cJ1_indexOfChar_4cfef_24 rfl (Nat.le_of_ble_eq_true rfl) (Nat.le_of_ble_eq_true rfl) ⟨g667511, rfl, rfl, (Nat.le_of_ble_eq_true rfl), (Nat.le_of_ble_eq_true rfl), (gB_w bg667511' (by decide) (by decide)), (fun R c1 c2 => c2 z667493 g667511 hz667493 hx667521)⟩
  exact hlp7_667511 (((65536 : Int) - p667489.toInt).toNat + 1) p667489 bp667489 (fun k e1 ht => ht) (Nat.lt_succ_self _)
/- tr_RStringLatin1_indexOf3: result -/
def tr_RStringLatin1_indexOf3 (bs : List Int32) (a1 : Int32) (a2 : Int32) (a3 : Int32) (o1 : Int32) : Prop := ∀ R : (Int32) → Prop,
  (tr_RStringLatin1_canEncode2 a1 (0 : Int32) → R (-1 : Int32)) →
  (∀ (x1 : Int32) (x2 : Int32) (x3 : Int32) (x4 : Int32), tr_RStringLatin1_canEncode2 a1 (1 : Int32) → (a2.toInt ≤ x1.toInt ∧ 0 ≤ x1.toInt ∧ (x1.toInt = a2.toInt ∨ x1.toInt = 0)) → x2.toInt = (bs.length : Int) → (a3.toInt ≥ x3.toInt ∧ x2.toInt ≥ x3.toInt ∧ (x3.toInt = a3.toInt ∨ x3.toInt = x2.toInt)) → x1.toInt < x3.toInt → gB x4 (-1) 65534 → tr_RStringLatin1_indexOfChar bs a1 x1 x3 x4 → R x4) →
  (∀ (x1 : Int32) (x2 : Int32) (x3 : Int32), tr_RStringLatin1_canEncode2 a1 (1 : Int32) → (a2.toInt ≤ x1.toInt ∧ 0 ≤ x1.toInt ∧ (x1.toInt = a2.toInt ∨ x1.toInt = 0)) → x2.toInt = (bs.length : Int) → (a3.toInt ≥ x3.toInt ∧ x2.toInt ≥ x3.toInt ∧ (x3.toInt = a3.toInt ∨ x3.toInt = x2.toInt)) → x3.toInt ≤ x1.toInt → R (-1 : Int32)) →
  R o1
abbrev ky_667454_StringLatin1_indexOf : gKey := (cJ1_indexOf_4cfef, 4, "java/lang/StringLatin1", (some FieldType.int), [], "indexOf", fun _ _ => True)
def pp_667454_StringLatin1_indexOf (D : va_G) (I : FieldType → ClassId) (P667446 : List Nat) (F667447 : Nat → va_E) (qs667448 : Nat) (bs667449 : List Int32) (p667450 : Int32) (p667451 : Int32) (p667452 : Int32) : Option Value → va_W → Nat → Nat → Prop := fun r w dc ds => ∃ (o667531 : Int32), r = some (.int o667531) ∧ w = va_pl P667446 F667447 ∧ dc ≤ 0 ∧ ds ≤ 0 ∧ gB o667531 (-1) 65534 ∧ tr_RStringLatin1_indexOf3 bs667449 p667450 p667451 p667452 o667531
set_option maxRecDepth 100000 in
set_option maxHeartbeats 4000000 in
theorem cp_667454_StringLatin1_indexOf (l : Launch) (hl0 : l.stackTraces = false) (D : va_G) (I : FieldType → ClassId) (P667446 : List Nat) (F667447 : Nat → va_E) (qs667448 : Nat) (bs667449 : List Int32) (p667450 : Int32) (p667451 : Int32) (p667452 : Int32) (hbs667449 : ∀ A s H, (gV D I).2.2.2.1 A s H → va_T .byte qs667448 bs667449.length (fun j => .int (bs667449.getD j 0)) A s H) (nbs667449 : (bs667449.length : Int) ≤ 65535) (lbs667449 : gLB bs667449) (bp667450 : gB p667450 0 65535) (bp667451 : gB p667451 0 1) (bp667452 : gB p667452 0 65535) (x667453 : p667452.toInt = (bs667449.length : Int)) : CtA (gV D I) l yJ1_indexOf_4cfef cJ1_indexOf_4cfef 4 (some FieldType.int) 1 25 0 0 [.ref qs667448, .int p667450, .int p667451, .int p667452] (va_pl P667446 F667447) (pp_667454_StringLatin1_indexOf D I P667446 F667447 qs667448 bs667449 p667450 p667451 p667452) gNA := by
  refine CtA_ofF hl0 (by decide +kernel) (Nat.le_of_ble_eq_true rfl) ?_
  refine G_iload_n 1 dr_cJ1_indexOf_4cfef_0 rfl ?_
  refine Gw_callS (As := [.int p667450]) (gV_ok D I) (cp_667458_StringLatin1_canEncode l hl0 D I P667446 F667447 p667450 ) dr_cJ1_indexOf_4cfef_1 ⟨wr_9_2, wr_1_28, wr_9_4, by decide, rfl, (Nat.le_of_ble_eq_true rfl), (Nat.le_of_ble_eq_true rfl)⟩ wr_9_3 (show 0 + 0 ≤ 0 by first | omega | decide) (show 0 + 0 ≤ 0 by first | omega | decide) (Nat.le_of_ble_eq_true rfl) (fun r667468 w667469 dc667465 ds667466 hp667467 => ?_) (fun _ _ _ _ _ z => z.elim)
  rcases hp667467 with ⟨rfl, rfl, hdc, hds, r667470, r667471⟩ | ⟨rfl, rfl, hdc, hds, r667472, r667473, r667474⟩ | ⟨rfl, rfl, hdc, hds, r667475, r667476, r667477⟩
  · exact absurd (show False by omega) not_false
  · have bp667450' : gB p667450 256 65535 := ⟨by omega, by omega⟩
    change G _ _ _ _ _ _ _ (.int 0 :: _) _ _ _
    refine G_widen (cs' := 0) (sl' := 0) (by omega) (by omega) ?_
    refine G_if_ne 9 dr_cJ1_indexOf_4cfef_4 (by decide +kernel) (fun hc => absurd hc (by decide)) (fun _ => ?_)
    refine G_iconst (-1) dr_cJ1_indexOf_4cfef_7 (by decide +kernel) ?_
    exact G_iretA dr_cJ1_indexOf_4cfef_8 rfl (Nat.le_of_ble_eq_true rfl) (Nat.le_of_ble_eq_true rfl) ⟨(-1), rfl, rfl, (Nat.le_of_ble_eq_true rfl), (Nat.le_of_ble_eq_true rfl), (gB_w (gBl (show Int32.toInt (-1) = (-1) by decide)) (by decide) (by decide)), (fun R c1 c2 c3 => c1 r667474)⟩
  · have bp667450' : gB p667450 0 255 := ⟨by omega, by omega⟩
    change G _ _ _ _ _ _ _ (.int 1 :: _) _ _ _
    refine G_widen (cs' := 0) (sl' := 0) (by omega) (by omega) ?_
    refine G_if_ne 9 dr_cJ1_indexOf_4cfef_4 (by decide +kernel) (fun _ => ?_) (fun hc => absurd hc (by decide))
    refine G_iload_n 2 dr_cJ1_indexOf_4cfef_9 rfl ?_
    refine G_iconst 0 dr_cJ1_indexOf_4cfef_10 (by decide +kernel) ?_
    refine G_mmax dr_cJ1_indexOf_4cfef_11 wr_9_5 wr_1_140 wr_1_6 wr_1_141 (Nat.le_of_ble_eq_true rfl) (Nat.le_of_ble_eq_true rfl) (show 0 ≤ 0 by first | omega | decide) (show 0 ≤ 0 by first | omega | decide) (G_nam fun z667479 hz667479 => ?_)
    have ez667479 : p667451.toInt ≤ z667479.toInt ∧ 0 ≤ z667479.toInt ∧ (z667479.toInt = p667451.toInt ∨ z667479.toInt = 0) := by have := gI_max hz667479; rw [show Int32.toInt 0 = 0 from by decide] at this; omega
    have bz667479 : gB z667479 0 1 := ⟨by omega, by omega⟩
    refine G_istore_n (L' := [(2, .int z667479), (0, .ref qs667448), (1, .int p667450), (3, .int p667452)]) dr_cJ1_indexOf_4cfef_14 (Nat.le_of_ble_eq_true rfl) rfl ?_
    refine G_iload_n 3 dr_cJ1_indexOf_4cfef_15 rfl ?_
    refine G_aload_n 1 dr_cJ1_indexOf_4cfef_16 rfl ?_
    refine G_klen dr_cJ1_indexOf_4cfef_17 hbs667449 (G_nam fun z667480 hz667480 => ?_)
    have ez667480 : z667480.toInt = (bs667449.length : Int) := gI_ofN hz667480 nbs667449
    have bz667480 : gB z667480 0 65535 := ⟨by omega, by omega⟩
    refine G_mmin dr_cJ1_indexOf_4cfef_18 wr_9_6 wr_3_227 wr_1_6 wr_3_228 (Nat.le_of_ble_eq_true rfl) (Nat.le_of_ble_eq_true rfl) (show 0 ≤ 0 by first | omega | decide) (show 0 ≤ 0 by first | omega | decide) (G_nam fun z667481 hz667481 => ?_)
    have ez667481 : p667452.toInt ≥ z667481.toInt ∧ z667480.toInt ≥ z667481.toInt ∧ (z667481.toInt = p667452.toInt ∨ z667481.toInt = z667480.toInt) := by have := gI_min hz667481; omega
    have bz667481 : gB z667481 0 65535 := ⟨by omega, by omega⟩
    refine G_istore_n (L' := [(3, .int z667481), (2, .int z667479), (0, .ref qs667448), (1, .int p667450)]) dr_cJ1_indexOf_4cfef_21 (Nat.le_of_ble_eq_true rfl) rfl ?_
    refine G_iload_n 1 dr_cJ1_indexOf_4cfef_22 rfl ?_
    refine G_iload_n 0 dr_cJ1_indexOf_4cfef_23 rfl ?_
    refine G_icmp_lt 29 dr_cJ1_indexOf_4cfef_24 (by decide +kernel) (fun hc667482 => ?_) (fun hc667482 => ?_)
    · have r667483 : z667479.toInt < z667481.toInt := gC_lt hc667482
      have bz667481' : gB z667481 1 65535 := ⟨by omega, by omega⟩
      refine G_aload_n 2 dr_cJ1_indexOf_4cfef_29 rfl ?_
      refine G_iload_n 3 dr_cJ1_indexOf_4cfef_30 rfl ?_
      refine G_iload_n 1 dr_cJ1_indexOf_4cfef_31 rfl ?_
      refine G_iload_n 0 dr_cJ1_indexOf_4cfef_32 rfl ?_
      refine Gw_callS (As := [.ref qs667448, .int p667450, .int z667479, .int z667481]) (gV_ok D I) (cp_667492_StringLatin1_indexOfChar l hl0 D I P667446 F667447 qs667448 bs667449 p667450 z667479 z667481 hbs667449 nbs667449 lbs667449 (gB_w bp667450' (by decide) (by decide)) (gB_w bz667479 (by decide) (by decide)) (gB_w bz667481' (by decide) (by decide)) (by omega)) dr_cJ1_indexOf_4cfef_33 ⟨wr_9_7, wr_1_28, wr_9_9, by decide, rfl, (Nat.le_of_ble_eq_true rfl), (Nat.le_of_ble_eq_true rfl)⟩ wr_9_8 (show 0 + 0 ≤ 0 by first | omega | decide) (show 0 + 0 ≤ 0 by first | omega | decide) (Nat.le_of_ble_eq_true rfl) (fun r667526 w667527 dc667523 ds667524 hp667525 => ?_) (fun _ _ _ _ _ z => z.elim)
      obtain ⟨o667528, rfl, rfl, hdc, hds, bo667528, ht667529⟩ := hp667525
      change G _ _ _ _ _ _ _ (.int o667528 :: _) _ _ _
      refine G_widen (cs' := 0) (sl' := 0) (by omega) (by omega) ?_
      exact G_iretA dr_cJ1_indexOf_4cfef_36 rfl (Nat.le_of_ble_eq_true rfl) (Nat.le_of_ble_eq_true rfl) ⟨o667528, rfl, rfl, (Nat.le_of_ble_eq_true rfl), (Nat.le_of_ble_eq_true rfl), bo667528, (fun R c1 c2 c3 => c2 z667479 z667480 z667481 o667528 r667477 ez667479 ez667480 ez667481 r667483 bo667528 ht667529)⟩
    · have r667530 : z667481.toInt ≤ z667479.toInt := gC_nlt hc667482
      have bz667481' : gB z667481 0 1 := ⟨by omega, by omega⟩
      refine G_iconst (-1) dr_cJ1_indexOf_4cfef_27 (by decide +kernel) ?_
      exact G_iretA dr_cJ1_indexOf_4cfef_28 rfl (Nat.le_of_ble_eq_true rfl) (Nat.le_of_ble_eq_true rfl) ⟨(-1), rfl, rfl, (Nat.le_of_ble_eq_true rfl), (Nat.le_of_ble_eq_true rfl), (gB_w (gBl (show Int32.toInt (-1) = (-1) by decide)) (by decide) (by decide)), (fun R c1 c2 c3 => c3 z667479 z667480 z667481 r667477 ez667479 ez667480 ez667481 r667530)⟩
/- tr_RString_indexOf3: result -/
def tr_RString_indexOf3 (bs : List Int32) (a1 : Int32) (a2 : Int32) (o1 : Int32) : Prop := ∀ R : (Int32) → Prop,
  (∀ (x1 : Int32) (x2 : Int32), gB x1 0 65535 → tr_RString_length2 bs x1 → gB x2 (-1) 65534 → tr_RStringLatin1_indexOf3 bs a1 a2 x1 x2 → R x2) →
  R o1
abbrev ky_667432_String_indexOf : gKey := (cJ0_indexOf_7cf53, 3, "java/lang/String", (some FieldType.int), [], "indexOf", fun _ _ => True)
def pp_667432_String_indexOf (D : va_G) (I : FieldType → ClassId) (P667425 : List Nat) (F667426 : Nat → va_E) (qs667427 : Nat) (qb667428 : Nat) (bs667429 : List Int32) (p667430 : Int32) (p667431 : Int32) : Option Value → va_W → Nat → Nat → Prop := fun r w dc ds => ∃ (o667539 : Int32), r = some (.int o667539) ∧ w = va_pl P667425 F667426 ∧ dc ≤ 0 ∧ ds ≤ 0 ∧ gB o667539 (-1) 65534 ∧ tr_RString_indexOf3 bs667429 p667430 p667431 o667539
set_option maxRecDepth 100000 in
set_option maxHeartbeats 4000000 in
theorem cp_667432_String_indexOf (l : Launch) (hl0 : l.stackTraces = false) (D : va_G) (I : FieldType → ClassId) (P667425 : List Nat) (F667426 : Nat → va_E) (qs667427 : Nat) (qb667428 : Nat) (bs667429 : List Int32) (p667430 : Int32) (p667431 : Int32) (hbs667429 : ∀ A s H, (gV D I).2.2.2.1 A s H → gSC qs667427 qb667428 bs667429 A s H) (nbs667429 : (bs667429.length : Int) ≤ 65535) (lbs667429 : gLB bs667429) (bp667430 : gB p667430 0 65535) (bp667431 : gB p667431 0 1) : CtA (gV D I) l yJ0_indexOf_7cf53 cJ0_indexOf_7cf53 3 (some FieldType.int) 2 48 0 0 [.ref qs667427, .int p667430, .int p667431] (va_pl P667425 F667426) (pp_667432_String_indexOf D I P667425 F667426 qs667427 qb667428 bs667429 p667430 p667431) gNA := by
  refine CtA_ofF hl0 (by decide +kernel) (Nat.le_of_ble_eq_true rfl) ?_
  refine G_aload_n 0 dr_cJ0_indexOf_7cf53_0 rfl ?_
  refine Gw_callVk (As := []) (gV_ok D I) (cp_660304_String_isLatin1 l hl0 D I P667425 F667426 qs667427 qb667428 bs667429 hbs667429 nbs667429 lbs667429) dr_cJ0_indexOf_7cf53_1 ⟨wr_3_71, wr_1_21, wr_3_74, by decide, rfl, (Nat.le_of_ble_eq_true rfl), (Nat.le_of_ble_eq_true rfl)⟩ wr_3_72 wr_3_73 (fun _ _ _ h => (hbs667429 _ _ _ h).1) (show 0 + 0 ≤ 0 by first | omega | decide) (show 0 + 0 ≤ 0 by first | omega | decide) (Nat.le_of_ble_eq_true rfl) (fun r667436 w667437 dc667433 ds667434 hp667435 => ?_) (fun _ _ _ _ _ z => z.elim)
  obtain ⟨rfl, rfl, hdc, hds⟩ := hp667435
  change G _ _ _ _ _ _ _ (.int 1 :: _) _ _ _
  refine G_widen (cs' := 0) (sl' := 0) (by omega) (by omega) ?_
  refine G_if_eq 23 dr_cJ0_indexOf_7cf53_4 (by decide +kernel) (fun hc => absurd hc (by decide)) (fun _ => ?_)
  refine G_aload_n 0 dr_cJ0_indexOf_7cf53_7 rfl ?_
  refine G_kget dr_cJ0_indexOf_7cf53_8 wr_8_182 (fun _ _ _ h => (hbs667429 _ _ _ h).2.2.1) ?_
  refine G_iload_n 1 dr_cJ0_indexOf_7cf53_11 rfl ?_
  refine G_iload_n 2 dr_cJ0_indexOf_7cf53_12 rfl ?_
  refine G_aload_n 0 dr_cJ0_indexOf_7cf53_13 rfl ?_
  refine Gw_callVk (As := []) (gV_ok D I) (cp_659437_String_length l hl0 D I P667425 F667426 qs667427 qb667428 bs667429 hbs667429 nbs667429 lbs667429) dr_cJ0_indexOf_7cf53_14 ⟨wr_8_238, wr_1_21, wr_3_60, by decide, rfl, (Nat.le_of_ble_eq_true rfl), (Nat.le_of_ble_eq_true rfl)⟩ wr_3_58 wr_3_59 (fun _ _ _ h => (hbs667429 _ _ _ h).1) (show 0 + 0 ≤ 0 by first | omega | decide) (show 0 + 0 ≤ 0 by first | omega | decide) (Nat.le_of_ble_eq_true rfl) (fun r667441 w667442 dc667438 ds667439 hp667440 => ?_) (fun _ _ _ _ _ z => z.elim)
  obtain ⟨o667443, rfl, rfl, hdc, hds, bo667443, x667444, ht667445⟩ := hp667440
  change G _ _ _ _ _ _ _ (.int o667443 :: _) _ _ _
  refine G_widen (cs' := 0) (sl' := 0) (by omega) (by omega) ?_
  refine Gw_callS (As := [.ref qb667428, .int p667430, .int p667431, .int o667443]) (gV_ok D I) (cp_667454_StringLatin1_indexOf l hl0 D I P667425 F667426 qb667428 bs667429 p667430 p667431 o667443 (fun _ _ _ h => (hbs667429 _ _ _ h).2.2.2) (by omega) lbs667429 bp667430 bp667431 bo667443 (by omega)) dr_cJ0_indexOf_7cf53_17 ⟨wr_8_239, wr_1_28, wr_9_1, by decide, rfl, (Nat.le_of_ble_eq_true rfl), (Nat.le_of_ble_eq_true rfl)⟩ wr_9_0 (show 0 + 0 ≤ 0 by first | omega | decide) (show 0 + 0 ≤ 0 by first | omega | decide) (Nat.le_of_ble_eq_true rfl) (fun r667535 w667536 dc667532 ds667533 hp667534 => ?_) (fun _ _ _ _ _ z => z.elim)
  obtain ⟨o667537, rfl, rfl, hdc, hds, bo667537, ht667538⟩ := hp667534
  change G _ _ _ _ _ _ _ (.int o667537 :: _) _ _ _
  refine G_widen (cs' := 0) (sl' := 0) (by omega) (by omega) ?_
  refine G_goto 36 dr_cJ0_indexOf_7cf53_20 (by decide +kernel) ?_
  exact G_iretA dr_cJ0_indexOf_7cf53_36 rfl (Nat.le_of_ble_eq_true rfl) (Nat.le_of_ble_eq_true rfl) ⟨o667537, rfl, rfl, (Nat.le_of_ble_eq_true rfl), (Nat.le_of_ble_eq_true rfl), bo667537, (fun R c1 => c1 o667443 o667537 bo667443 ht667445 bo667537 ht667538)⟩
/- tr_RString_indexOf2: result -/
def tr_RString_indexOf2 (bs : List Int32) (a1 : Int32) (o1 : Int32) : Prop := ∀ R : (Int32) → Prop,
  (∀ (x1 : Int32), gB x1 (-1) 65534 → tr_RString_indexOf3 bs a1 (0 : Int32) x1 → R x1) →
  R o1
abbrev ky_667424_String_indexOf : gKey := (cJ0_indexOf_0f7a4, 2, "java/lang/String", (some FieldType.int), [], "indexOf", fun _ _ => True)
def pp_667424_String_indexOf (D : va_G) (I : FieldType → ClassId) (P667418 : List Nat) (F667419 : Nat → va_E) (qs667420 : Nat) (qb667421 : Nat) (bs667422 : List Int32) (p667423 : Int32) : Option Value → va_W → Nat → Nat → Prop := fun r w dc ds => ∃ (o667547 : Int32), r = some (.int o667547) ∧ w = va_pl P667418 F667419 ∧ dc ≤ 0 ∧ ds ≤ 0 ∧ gB o667547 (-1) 65534 ∧ tr_RString_indexOf2 bs667422 p667423 o667547
set_option maxRecDepth 100000 in
set_option maxHeartbeats 4000000 in
theorem cp_667424_String_indexOf (l : Launch) (hl0 : l.stackTraces = false) (D : va_G) (I : FieldType → ClassId) (P667418 : List Nat) (F667419 : Nat → va_E) (qs667420 : Nat) (qb667421 : Nat) (bs667422 : List Int32) (p667423 : Int32) (hbs667422 : ∀ A s H, (gV D I).2.2.2.1 A s H → gSC qs667420 qb667421 bs667422 A s H) (nbs667422 : (bs667422.length : Int) ≤ 65535) (lbs667422 : gLB bs667422) (bp667423 : gB p667423 0 65535) : CtA (gV D I) l yJ0_indexOf_0f7a4 cJ0_indexOf_0f7a4 2 (some FieldType.int) 3 70 0 0 [.ref qs667420, .int p667423] (va_pl P667418 F667419) (pp_667424_String_indexOf D I P667418 F667419 qs667420 qb667421 bs667422 p667423) gNA := by
  refine CtA_ofF hl0 (by decide +kernel) (Nat.le_of_ble_eq_true rfl) ?_
  refine G_aload_n 0 dr_cJ0_indexOf_0f7a4_0 rfl ?_
  refine G_iload_n 1 dr_cJ0_indexOf_0f7a4_1 rfl ?_
  refine G_iconst 0 dr_cJ0_indexOf_0f7a4_2 (by decide +kernel) ?_
  refine Gw_callVk (As := [.int p667423, .int 0]) (gV_ok D I) (cp_667432_String_indexOf l hl0 D I P667418 F667419 qs667420 qb667421 bs667422 p667423 0 hbs667422 nbs667422 lbs667422 bp667423 (gB_w (gBl (show Int32.toInt 0 = 0 by decide)) (by decide) (by decide))) dr_cJ0_indexOf_0f7a4_3 ⟨wr_8_234, wr_1_21, wr_8_237, by decide, rfl, (Nat.le_of_ble_eq_true rfl), (Nat.le_of_ble_eq_true rfl)⟩ wr_8_235 wr_8_236 (fun _ _ _ h => (hbs667422 _ _ _ h).1) (show 0 + 0 ≤ 0 by first | omega | decide) (show 0 + 0 ≤ 0 by first | omega | decide) (Nat.le_of_ble_eq_true rfl) (fun r667543 w667544 dc667540 ds667541 hp667542 => ?_) (fun _ _ _ _ _ z => z.elim)
  obtain ⟨o667545, rfl, rfl, hdc, hds, bo667545, ht667546⟩ := hp667542
  change G _ _ _ _ _ _ _ (.int o667545 :: _) _ _ _
  refine G_widen (cs' := 0) (sl' := 0) (by omega) (by omega) ?_
  exact G_iretA dr_cJ0_indexOf_0f7a4_6 rfl (Nat.le_of_ble_eq_true rfl) (Nat.le_of_ble_eq_true rfl) ⟨o667545, rfl, rfl, (Nat.le_of_ble_eq_true rfl), (Nat.le_of_ble_eq_true rfl), bo667545, (fun R c1 => c1 o667545 bo667545 ht667546)⟩
/- tl_RInteger_stringSize_16: l3, l2; out: l3 -/
def tl_RInteger_stringSize_16 (a0 : Int32) (s1 : Int32) (s2 : Int32) (k : Nat) (e1 : Int32) : Prop := ∀ R : (Int32) → (Int32) → Nat → (Int32) → Prop,
  (∀ (l3_1 : Int32) (l2_1 : Int32), gB l3_1 1 10 → 10 ≤ l3_1.toInt → R l3_1 l2_1 42 (0 : Int32)) →
  (∀ (l3_1 : Int32) (l2_1 : Int32) (x1 : Int32) (x2 : Int32) (k : Nat) (e1 : Int32), gB l3_1 1 10 → l3_1.toInt < 10 → a0.toInt ≤ l2_1.toInt → x1 = (10 : Int32) * l2_1 → x2.toInt = l3_1.toInt + 1 → R x2 x1 k e1 → R l3_1 l2_1 k e1) →
  (∀ (l3_1 : Int32) (l2_1 : Int32), gB l3_1 1 10 → l3_1.toInt < 10 → l2_1.toInt < a0.toInt → R l3_1 l2_1 27 l3_1) →
  R s1 s2 k e1
/- tl_RInteger_stringSize_16_2: l3, l2; out: l3 -/
def tl_RInteger_stringSize_16_2 (c1 : Int32) (s1 : Int32) (s2 : Int32) (k : Nat) (e1 : Int32) : Prop := ∀ R : (Int32) → (Int32) → Nat → (Int32) → Prop,
  (∀ (l3_1 : Int32) (l2_1 : Int32), gB l3_1 1 10 → 10 ≤ l3_1.toInt → R l3_1 l2_1 42 (0 : Int32)) →
  (∀ (l3_1 : Int32) (l2_1 : Int32) (x1 : Int32) (x2 : Int32) (k : Nat) (e1 : Int32), gB l3_1 1 10 → l3_1.toInt < 10 → c1.toInt ≤ l2_1.toInt → x1 = (10 : Int32) * l2_1 → x2.toInt = l3_1.toInt + 1 → R x2 x1 k e1 → R l3_1 l2_1 k e1) →
  (∀ (l3_1 : Int32) (l2_1 : Int32), gB l3_1 1 10 → l3_1.toInt < 10 → l2_1.toInt < c1.toInt → R l3_1 l2_1 27 l3_1) →
  R s1 s2 k e1
/- tr_RInteger_stringSize: result -/
def tr_RInteger_stringSize (a0 : Int32) (o1 : Int32) : Prop := ∀ R : (Int32) → Prop,
  (a0.toInt < 0 → tl_RInteger_stringSize_16 a0 (1 : Int32) (-10 : Int32) 42 (0 : Int32) → R (11 : Int32)) →
  (∀ (x1 : Int32) (x2 : Int32), a0.toInt < 0 → tl_RInteger_stringSize_16 a0 (1 : Int32) (-10 : Int32) 27 x1 → x2.toInt = x1.toInt + 1 → R x2) →
  (∀ (x1 : Int32), 0 ≤ a0.toInt → x1 = -a0 → tl_RInteger_stringSize_16_2 x1 (1 : Int32) (-10 : Int32) 42 (0 : Int32) → R (10 : Int32)) →
  (∀ (x1 : Int32) (x2 : Int32) (x3 : Int32), 0 ≤ a0.toInt → x1 = -a0 → tl_RInteger_stringSize_16_2 x1 (1 : Int32) (-10 : Int32) 27 x2 → x3.toInt = x2.toInt + 0 → R x3) →
  R o1
abbrev ky_667577_Integer_stringSize : gKey := (cJ6_stringSize_0f7a4, 4, "java/lang/Integer", (some FieldType.int), [], "stringSize", fun _ _ => True)
def pp_667577_Integer_stringSize (D : va_G) (I : FieldType → ClassId) (P667574 : List Nat) (F667575 : Nat → va_E) (p667576 : Int32) : Option Value → va_W → Nat → Nat → Prop := fun r w dc ds => ∃ (o667708 : Int32), r = some (.int o667708) ∧ w = va_pl P667574 F667575 ∧ dc ≤ 0 ∧ ds ≤ 0 ∧ gB o667708 1 11 ∧ dgS p667576.toInt o667708.toInt ∧ tr_RInteger_stringSize p667576 o667708
set_option maxRecDepth 100000 in
set_option maxHeartbeats 4000000 in
theorem cp_667577_Integer_stringSize (l : Launch) (hl0 : l.stackTraces = false) (D : va_G) (I : FieldType → ClassId) (P667574 : List Nat) (F667575 : Nat → va_E) (p667576 : Int32)  : CtA (gV D I) l yJ6_stringSize_0f7a4 cJ6_stringSize_0f7a4 4 (some FieldType.int) 0 0 0 0 [.int p667576] (va_pl P667574 F667575) (pp_667577_Integer_stringSize D I P667574 F667575 p667576) gNA := by
  refine CtA_ofF hl0 (by decide +kernel) (Nat.le_of_ble_eq_true rfl) ?_
  have bp667576 := gB_any p667576
  refine G_iconst 1 dr_cJ6_stringSize_0f7a4_0 (by decide +kernel) ?_
  refine G_istore_n (L' := [(1, .int 1), (0, .int p667576)]) dr_cJ6_stringSize_0f7a4_1 (Nat.le_of_ble_eq_true rfl) rfl ?_
  refine G_iload_n 1 dr_cJ6_stringSize_0f7a4_2 rfl ?_
  refine G_if_lt 11 dr_cJ6_stringSize_0f7a4_3 (by decide +kernel) (fun hc667578 => ?_) (fun hc667578 => ?_)
  · have r667579 : p667576.toInt < 0 := gj_lt hc667578 (show Int32.toInt 0 = 0 by decide)
    have bp667576' : gB p667576 (-2147483648) (-1) := ⟨by omega, by omega⟩
    refine G_bipush (-10) dr_cJ6_stringSize_0f7a4_11 (by decide +kernel) ?_
    refine G_istore_n (L' := [(2, .int (-10)), (1, .int 1), (0, .int p667576)]) dr_cJ6_stringSize_0f7a4_13 (Nat.le_of_ble_eq_true rfl) rfl ?_
    refine G_iconst 1 dr_cJ6_stringSize_0f7a4_14 (by decide +kernel) ?_
    refine G_istore_n (L' := [(3, .int 1), (2, .int (-10)), (1, .int 1), (0, .int p667576)]) dr_cJ6_stringSize_0f7a4_15 (Nat.le_of_ble_eq_true rfl) rfl ?_
    have hlp16_667631 : ∀ (n16_667631 : Nat) (g667629 : Int32) (g667630 : Int32), gB g667629 1 10 → ssI g667629 g667630 → (∀ (k : Nat) (e1 : Int32), tl_RInteger_stringSize_16 p667576 g667629 g667630 k e1 → tl_RInteger_stringSize_16 p667576 (1 : Int32) (-10 : Int32) k e1) → ((11 : Int) - g667629.toInt).toNat < n16_667631 → G (gV D I) l (gRm 0 0 0 0) (gMA (gV D I) (pp_667577_Integer_stringSize D I P667574 F667575 p667576) gNA 0 0) ky_667577_Integer_stringSize 16 [(3, .int g667629), (2, .int g667630), (1, .int 1), (0, .int p667576)] [] (va_pl P667574 F667575) 0 0 := by
      intro n16_667631
      induction n16_667631 with
      | zero => intro g667629 g667630 bg667629 x667631 kt16_667631 hm16_667631; exact absurd hm16_667631 (Nat.not_lt_zero _)
      | succ n16_667631 ih16_667631 =>
        intro g667629 g667630 bg667629 x667631 kt16_667631 hm16_667631
        have bg667630 := gB_any g667630
        refine G_iload_n 0 dr_cJ6_stringSize_0f7a4_16 rfl ?_
        refine G_bipush 10 dr_cJ6_stringSize_0f7a4_17 (by decide +kernel) ?_
        refine G_icmp_ge 42 dr_cJ6_stringSize_0f7a4_19 (by decide +kernel) (fun hc667632 => ?_) (fun hc667632 => ?_)
        · have r667633 : 10 ≤ g667629.toInt := gj_leL hc667632 (show Int32.toInt 10 = 10 by decide)
          have bg667629' : gB g667629 10 10 := ⟨by omega, by omega⟩
          have hx667634 : tl_RInteger_stringSize_16 p667576 (1 : Int32) (-10 : Int32) 42 (0 : Int32) := kt16_667631 42 (0 : Int32) (fun R c1 c2 c3 => c1 g667629 g667630 bg667629 r667633)
          refine G_bipush 10 dr_cJ6_stringSize_0f7a4_42 (by decide +kernel) ?_
          refine G_iload_n 2 dr_cJ6_stringSize_0f7a4_44 rfl ?_
          refine G_iadd dr_cJ6_stringSize_0f7a4_45 ?_
          refine G_eqi (y := 11) (by decide) ?_
          exact G_iretA dr_cJ6_stringSize_0f7a4_46 rfl (Nat.le_of_ble_eq_true rfl) (Nat.le_of_ble_eq_true rfl) ⟨11, rfl, rfl, (Nat.le_of_ble_eq_true rfl), (Nat.le_of_ble_eq_true rfl), (gB_w (gBl (show Int32.toInt 11 = 11 by decide)) (by decide) (by decide)), (by have q10 : Int32.toInt 10 = 10 := (by decide); have q11 : Int32.toInt 11 = 11 := (by decide); first | exact dgS_p (x := -p667576.toInt) (by omega) rfl (dgB_up (ssI_r x667631 (by omega) (fun _ => by omega)) (by omega) (by omega)) | exact dgS_n (by omega) (by omega) (ssI_r x667631 (by omega) (fun _ => by omega))), (fun R c1 c2 c3 c4 => c1 r667579 hx667634)⟩
        · have r667635 : g667629.toInt < 10 := gj_nleL hc667632 (show Int32.toInt 10 = 10 by decide)
          have bg667629' : gB g667629 1 9 := ⟨by omega, by omega⟩
          refine G_iload_n 3 dr_cJ6_stringSize_0f7a4_22 rfl ?_
          refine G_iload_n 1 dr_cJ6_stringSize_0f7a4_23 rfl ?_
          refine G_icmp_le 31 dr_cJ6_stringSize_0f7a4_24 (by decide +kernel) (fun hc667636 => ?_) (fun hc667636 => ?_)
          · have r667637 : p667576.toInt ≤ g667630.toInt := gC_le hc667636
            refine G_bipush 10 dr_cJ6_stringSize_0f7a4_31 (by decide +kernel) ?_
            refine G_iload_n 1 dr_cJ6_stringSize_0f7a4_33 rfl ?_
            refine G_imul dr_cJ6_stringSize_0f7a4_34 (G_nam fun z667638 hz667638 => ?_)
            have bz667638 : gB z667638 (-2147483648) 2147483647 := gB_any z667638
            refine G_istore_n (L' := [(2, .int z667638), (3, .int g667629), (1, .int 1), (0, .int p667576)]) dr_cJ6_stringSize_0f7a4_35 (Nat.le_of_ble_eq_true rfl) rfl ?_
            obtain ⟨z667639, hz667639⟩ : ∃ z : Int32, z = g667629 + Int32.ofInt 1 := ⟨_, rfl⟩
            have ez667639 : z667639.toInt = g667629.toInt + 1 := gI_inc hz667639 (by decide) bg667629' (by decide) (by decide)
            have bz667639 : gB z667639 2 10 := ⟨by omega, by omega⟩
            refine G_iinc (L' := [(3, .int z667639), (2, .int z667638), (1, .int 1), (0, .int p667576)]) z667639 1 dr_cJ6_stringSize_0f7a4_36 rfl hz667639.symm (Nat.le_of_ble_eq_true rfl) rfl ?_
            refine G_goto 16 dr_cJ6_stringSize_0f7a4_39 (by decide +kernel) ?_
            exact ih16_667631 z667639 z667638 (gB_w bz667639 (by decide) (by decide)) (ssI_st x667631 (by omega) (by omega) hz667638) (fun k e1 ht => kt16_667631 k e1 (fun R c1 c2 c3 => c2 g667629 g667630 z667638 z667639 k e1 bg667629 r667635 r667637 hz667638 ez667639 (ht R c1 c2 c3))) (by have qa0 : Int32.toInt 1 = 1 := (by decide); omega)
          · have r667640 : g667630.toInt < p667576.toInt := gC_nle hc667636
            have bg667630' : gB g667630 (-2147483648) (-2) := ⟨by omega, by omega⟩
            have bp667576'' : gB p667576 (-2147483647) (-1) := ⟨by omega, by omega⟩
            have hx667641 : tl_RInteger_stringSize_16 p667576 (1 : Int32) (-10 : Int32) 27 g667629 := kt16_667631 27 g667629 (fun R c1 c2 c3 => c3 g667629 g667630 bg667629 r667635 r667640)
            refine G_iload_n 0 dr_cJ6_stringSize_0f7a4_27 rfl ?_
            refine G_iload_n 2 dr_cJ6_stringSize_0f7a4_28 rfl ?_
            refine G_iadd dr_cJ6_stringSize_0f7a4_29 (G_nam fun z667642 hz667642 => ?_)
            have ez667642 : z667642.toInt = g667629.toInt + 1 := by rw [gI_add hz667642 bg667629' (gBl (show Int32.toInt 1 = 1 by decide)) (by decide) (by decide), show Int32.toInt 1 = 1 from by decide]
            have bz667642 : gB z667642 2 10 := gB_add (gI_add hz667642 bg667629' (gBl (show Int32.toInt 1 = 1 by decide)) (by decide) (by decide)) bg667629' (gBl (show Int32.toInt 1 = 1 by decide)) (by decide) (by decide)
            exact G_iretA dr_cJ6_stringSize_0f7a4_30 rfl (Nat.le_of_ble_eq_true rfl) (Nat.le_of_ble_eq_true rfl) ⟨z667642, rfl, rfl, (Nat.le_of_ble_eq_true rfl), (Nat.le_of_ble_eq_true rfl), (gB_w bz667642 (by decide) (by decide)), (by have q10 : Int32.toInt 10 = 10 := (by decide); have q11 : Int32.toInt 11 = 11 := (by decide); first | exact dgS_p (x := -p667576.toInt) (by omega) rfl (dgB_up (ssI_r x667631 (by omega) (fun _ => by omega)) (by omega) (by omega)) | exact dgS_n (by omega) (by omega) (ssI_r x667631 (by omega) (fun _ => by omega))), (fun R c1 c2 c3 c4 => c2 g667629 z667642 r667579 hx667641 ez667642)⟩
    exact hlp16_667631 (((11 : Int) - 1).toNat + 1) 1 (-10) (gB_w (gBl (show Int32.toInt 1 = 1 by decide)) (by decide) (by decide)) ssI_0 (fun k e1 ht => ht) (Nat.lt_succ_self _)
  · have r667643 : 0 ≤ p667576.toInt := gj_nlt hc667578 (show Int32.toInt 0 = 0 by decide)
    have bp667576' : gB p667576 0 2147483647 := ⟨by omega, by omega⟩
    refine G_iconst 0 dr_cJ6_stringSize_0f7a4_6 (by decide +kernel) ?_
    refine G_istore_n (L' := [(1, .int 0), (0, .int p667576)]) dr_cJ6_stringSize_0f7a4_7 (Nat.le_of_ble_eq_true rfl) rfl ?_
    refine G_iload_n 1 dr_cJ6_stringSize_0f7a4_8 rfl ?_
    refine G_ineg dr_cJ6_stringSize_0f7a4_9 (G_nam fun z667644 hz667644 => ?_)
    have ez667644 : z667644.toInt = -p667576.toInt := gI_neg hz667644 bp667576' (by decide)
    have bz667644 : gB z667644 (-2147483647) 0 := ⟨by omega, by omega⟩
    refine G_istore_n (L' := [(0, .int z667644), (1, .int 0)]) dr_cJ6_stringSize_0f7a4_10 (Nat.le_of_ble_eq_true rfl) rfl ?_
    refine G_bipush (-10) dr_cJ6_stringSize_0f7a4_11 (by decide +kernel) ?_
    refine G_istore_n (L' := [(2, .int (-10)), (0, .int z667644), (1, .int 0)]) dr_cJ6_stringSize_0f7a4_13 (Nat.le_of_ble_eq_true rfl) rfl ?_
    refine G_iconst 1 dr_cJ6_stringSize_0f7a4_14 (by decide +kernel) ?_
    refine G_istore_n (L' := [(3, .int 1), (2, .int (-10)), (0, .int z667644), (1, .int 0)]) dr_cJ6_stringSize_0f7a4_15 (Nat.le_of_ble_eq_true rfl) rfl ?_
    have hlp16_667696 : ∀ (n16_667696 : Nat) (g667694 : Int32) (g667695 : Int32), gB g667694 1 10 → ssI g667694 g667695 → (∀ (k : Nat) (e1 : Int32), tl_RInteger_stringSize_16_2 z667644 g667694 g667695 k e1 → tl_RInteger_stringSize_16_2 z667644 (1 : Int32) (-10 : Int32) k e1) → ((11 : Int) - g667694.toInt).toNat < n16_667696 → G (gV D I) l (gRm 0 0 0 0) (gMA (gV D I) (pp_667577_Integer_stringSize D I P667574 F667575 p667576) gNA 0 0) ky_667577_Integer_stringSize 16 [(3, .int g667694), (2, .int g667695), (0, .int z667644), (1, .int 0)] [] (va_pl P667574 F667575) 0 0 := by
      intro n16_667696
      induction n16_667696 with
      | zero => intro g667694 g667695 bg667694 x667696 kt16_667696 hm16_667696; exact absurd hm16_667696 (Nat.not_lt_zero _)
      | succ n16_667696 ih16_667696 =>
        intro g667694 g667695 bg667694 x667696 kt16_667696 hm16_667696
        have bg667695 := gB_any g667695
        refine G_iload_n 0 dr_cJ6_stringSize_0f7a4_16 rfl ?_
        refine G_bipush 10 dr_cJ6_stringSize_0f7a4_17 (by decide +kernel) ?_
        refine G_icmp_ge 42 dr_cJ6_stringSize_0f7a4_19 (by decide +kernel) (fun hc667697 => ?_) (fun hc667697 => ?_)
        · have r667698 : 10 ≤ g667694.toInt := gj_leL hc667697 (show Int32.toInt 10 = 10 by decide)
          have bg667694' : gB g667694 10 10 := ⟨by omega, by omega⟩
          have hx667699 : tl_RInteger_stringSize_16_2 z667644 (1 : Int32) (-10 : Int32) 42 (0 : Int32) := kt16_667696 42 (0 : Int32) (fun R c1 c2 c3 => c1 g667694 g667695 bg667694 r667698)
          refine G_bipush 10 dr_cJ6_stringSize_0f7a4_42 (by decide +kernel) ?_
          refine G_iload_n 3 dr_cJ6_stringSize_0f7a4_44 rfl ?_
          refine G_iadd dr_cJ6_stringSize_0f7a4_45 ?_
          refine G_eqi (y := 10) (by decide) ?_
          exact G_iretA dr_cJ6_stringSize_0f7a4_46 rfl (Nat.le_of_ble_eq_true rfl) (Nat.le_of_ble_eq_true rfl) ⟨10, rfl, rfl, (Nat.le_of_ble_eq_true rfl), (Nat.le_of_ble_eq_true rfl), (gB_w (gBl (show Int32.toInt 10 = 10 by decide)) (by decide) (by decide)), (by have q10 : Int32.toInt 10 = 10 := (by decide); have q11 : Int32.toInt 11 = 11 := (by decide); first | exact dgS_p (x := -p667576.toInt) (by omega) rfl (dgB_up (ssI_r x667696 (by omega) (fun _ => by omega)) (by omega) (by omega)) | exact dgS_n (by omega) (by omega) (ssI_r x667696 (by omega) (fun _ => by omega))), (fun R c1 c2 c3 c4 => c3 z667644 r667643 hz667644 hx667699)⟩
        · have r667700 : g667694.toInt < 10 := gj_nleL hc667697 (show Int32.toInt 10 = 10 by decide)
          have bg667694' : gB g667694 1 9 := ⟨by omega, by omega⟩
          refine G_iload_n 2 dr_cJ6_stringSize_0f7a4_22 rfl ?_
          refine G_iload_n 1 dr_cJ6_stringSize_0f7a4_23 rfl ?_
          refine G_icmp_le 31 dr_cJ6_stringSize_0f7a4_24 (by decide +kernel) (fun hc667701 => ?_) (fun hc667701 => ?_)
          · have r667702 : z667644.toInt ≤ g667695.toInt := gC_le hc667701
            have bg667695' : gB g667695 (-2147483647) 2147483647 := ⟨by omega, by omega⟩
            refine G_bipush 10 dr_cJ6_stringSize_0f7a4_31 (by decide +kernel) ?_
            refine G_iload_n 1 dr_cJ6_stringSize_0f7a4_33 rfl ?_
            refine G_imul dr_cJ6_stringSize_0f7a4_34 (G_nam fun z667703 hz667703 => ?_)
            have bz667703 : gB z667703 (-2147483648) 2147483647 := gB_any z667703
            refine G_istore_n (L' := [(2, .int z667703), (3, .int g667694), (0, .int z667644), (1, .int 0)]) dr_cJ6_stringSize_0f7a4_35 (Nat.le_of_ble_eq_true rfl) rfl ?_
            obtain ⟨z667704, hz667704⟩ : ∃ z : Int32, z = g667694 + Int32.ofInt 1 := ⟨_, rfl⟩
            have ez667704 : z667704.toInt = g667694.toInt + 1 := gI_inc hz667704 (by decide) bg667694' (by decide) (by decide)
            have bz667704 : gB z667704 2 10 := ⟨by omega, by omega⟩
            refine G_iinc (L' := [(3, .int z667704), (2, .int z667703), (0, .int z667644), (1, .int 0)]) z667704 1 dr_cJ6_stringSize_0f7a4_36 rfl hz667704.symm (Nat.le_of_ble_eq_true rfl) rfl ?_
            refine G_goto 16 dr_cJ6_stringSize_0f7a4_39 (by decide +kernel) ?_
            exact ih16_667696 z667704 z667703 (gB_w bz667704 (by decide) (by decide)) (ssI_st x667696 (by omega) (by omega) hz667703) (fun k e1 ht => kt16_667696 k e1 (fun R c1 c2 c3 => c2 g667694 g667695 z667703 z667704 k e1 bg667694 r667700 r667702 hz667703 ez667704 (ht R c1 c2 c3))) (by have qa0 : Int32.toInt 0 = 0 := (by decide); omega)
          · have r667705 : g667695.toInt < z667644.toInt := gC_nle hc667701
            have bg667695' : gB g667695 (-2147483648) (-1) := ⟨by omega, by omega⟩
            have hx667706 : tl_RInteger_stringSize_16_2 z667644 (1 : Int32) (-10 : Int32) 27 g667694 := kt16_667696 27 g667694 (fun R c1 c2 c3 => c3 g667694 g667695 bg667694 r667700 r667705)
            refine G_iload_n 0 dr_cJ6_stringSize_0f7a4_27 rfl ?_
            refine G_iload_n 3 dr_cJ6_stringSize_0f7a4_28 rfl ?_
            refine G_iadd dr_cJ6_stringSize_0f7a4_29 (G_nam fun z667707 hz667707 => ?_)
            have ez667707 : z667707.toInt = g667694.toInt + 0 := by rw [gI_add hz667707 bg667694' (gBl (show Int32.toInt 0 = 0 by decide)) (by decide) (by decide), show Int32.toInt 0 = 0 from by decide]
            have bz667707 : gB z667707 1 9 := gB_add (gI_add hz667707 bg667694' (gBl (show Int32.toInt 0 = 0 by decide)) (by decide) (by decide)) bg667694' (gBl (show Int32.toInt 0 = 0 by decide)) (by decide) (by decide)
            exact G_iretA dr_cJ6_stringSize_0f7a4_30 rfl (Nat.le_of_ble_eq_true rfl) (Nat.le_of_ble_eq_true rfl) ⟨z667707, rfl, rfl, (Nat.le_of_ble_eq_true rfl), (Nat.le_of_ble_eq_true rfl), (gB_w bz667707 (by decide) (by decide)), (by have q10 : Int32.toInt 10 = 10 := (by decide); have q11 : Int32.toInt 11 = 11 := (by decide); first | exact dgS_p (x := -p667576.toInt) (by omega) rfl (dgB_up (ssI_r x667696 (by omega) (fun _ => by omega)) (by omega) (by omega)) | exact dgS_n (by omega) (by omega) (ssI_r x667696 (by omega) (fun _ => by omega))), (fun R c1 c2 c3 c4 => c4 z667644 g667694 z667707 r667643 hz667644 hx667706 ez667707)⟩
    exact hlp16_667696 (((11 : Int) - 1).toNat + 1) 1 (-10) (gB_w (gBl (show Int32.toInt 1 = 1 by decide)) (by decide) (by decide)) ssI_0 (fun k e1 ht => ht) (Nat.lt_succ_self _)
/- tl_RInteger_getChars_22: l0, l5, a2_v; out: l0, l5, a2_v -/
def tl_RInteger_getChars_22 (s1 : Int32) (s2 : Int32) (s3 : Nat → Int32) (k : Nat) (e1 : Int32) (e2 : Int32) (e3 : Nat → Int32) : Prop := ∀ R : (Int32) → (Int32) → (Nat → Int32) → Nat → (Int32) → (Int32) → (Nat → Int32) → Prop,
  (∀ (l0_1 : Int32) (l5_1 : Int32) (a2_v_1 : Nat → Int32), gB l0_1 (-2147483647) 0 → gB l5_1 0 16777216 → (-100) < l0_1.toInt → R l0_1 l5_1 a2_v_1 72 l0_1 l5_1 a2_v_1) →
  (∀ (l0_1 : Int32) (l5_1 : Int32) (a2_v_1 : Nat → Int32) (x1 : Int32) (x2 : Int32) (x3 : Int32) (x4 : Int32) (x5 : Int32) (x6 : Nat → Int32) (x7 : Int32) (x8 : Int32) (x9 : Nat → Int32) (k : Nat) (e1 : Int32) (e2 : Int32) (e3 : Nat → Int32), gB l0_1 (-2147483647) 0 → gB l5_1 0 16777216 → l0_1.toInt ≤ (-100) → x1.toInt = -((-l0_1.toInt) / 100) → x2.toInt = x1.toInt * 100 → x3.toInt = x2.toInt - l0_1.toInt → x4.toInt = l5_1.toInt + (-1) → x5 = dg_O x3.toNatClampNeg → x6 = upd a2_v_1 x4.toNatClampNeg (vp_nar .byte x5) → x7.toInt = x4.toInt + (-1) → x8 = dg_T x3.toNatClampNeg → x9 = upd x6 x7.toNatClampNeg (vp_nar .byte x8) → R x1 x7 x9 k e1 e2 e3 → R l0_1 l5_1 a2_v_1 k e1 e2 e3) →
  R s1 s2 s3 k e1 e2 e3
/- tl_RInteger_getChars_22_2: l5, l0, a2_v; out: l5, l0, a2_v -/
def tl_RInteger_getChars_22_2 (s1 : Int32) (s2 : Int32) (s3 : Nat → Int32) (k : Nat) (e1 : Int32) (e2 : Int32) (e3 : Nat → Int32) : Prop := ∀ R : (Int32) → (Int32) → (Nat → Int32) → Nat → (Int32) → (Int32) → (Nat → Int32) → Prop,
  (∀ (l5_1 : Int32) (l0_1 : Int32) (a2_v_1 : Nat → Int32), gB l5_1 0 16777216 → gB l0_1 (-2147483648) (-1) → (-100) < l0_1.toInt → R l5_1 l0_1 a2_v_1 72 l5_1 l0_1 a2_v_1) →
  (∀ (l5_1 : Int32) (l0_1 : Int32) (a2_v_1 : Nat → Int32) (x1 : Int32) (x2 : Int32) (x3 : Int32) (x4 : Int32) (x5 : Int32) (x6 : Nat → Int32) (x7 : Int32) (x8 : Int32) (x9 : Nat → Int32) (k : Nat) (e1 : Int32) (e2 : Int32) (e3 : Nat → Int32), gB l5_1 0 16777216 → gB l0_1 (-2147483648) (-1) → l0_1.toInt ≤ (-100) → x1.toInt = -((-l0_1.toInt) / 100) → x2.toInt = x1.toInt * 100 → x3.toInt = x2.toInt - l0_1.toInt → x4.toInt = l5_1.toInt + (-1) → x5 = dg_O x3.toNatClampNeg → x6 = upd a2_v_1 x4.toNatClampNeg (vp_nar .byte x5) → x7.toInt = x4.toInt + (-1) → x8 = dg_T x3.toNatClampNeg → x9 = upd x6 x7.toNatClampNeg (vp_nar .byte x8) → R x7 x1 x9 k e1 e2 e3 → R l5_1 l0_1 a2_v_1 k e1 e2 e3) →
  R s1 s2 s3 k e1 e2 e3
/- tr_RInteger_getChars: result, a.2.[] -/
def tr_RInteger_getChars (a0 : Int32) (a1 : Int32) (a2_v : Nat → Int32) (o1 : Int32) (o2 : Nat → Int32) : Prop := ∀ R : (Int32) → (Nat → Int32) → Prop,
  (∀ (x1 : Int32) (x2 : Int32) (x3 : Int32) (x4 : Nat → Int32) (x5 : Int32) (x6 : Int32) (x7 : Int32) (x8 : Nat → Int32), 0 ≤ a0.toInt → x1 = -a0 → tl_RInteger_getChars_22 x1 a1 a2_v 72 x2 x3 x4 → x5.toInt = x3.toInt + (-1) → x6 = -x2 → x7 = dg_O x6.toNatClampNeg → x8 = upd x4 x5.toNatClampNeg (vp_nar .byte x7) → (-9) ≤ x2.toInt → R x5 x8) →
  (∀ (x1 : Int32) (x2 : Int32) (x3 : Int32) (x4 : Nat → Int32) (x5 : Int32) (x6 : Int32) (x7 : Int32) (x8 : Nat → Int32) (x9 : Int32) (x10 : Int32) (x11 : Int32) (x12 : Nat → Int32), 0 ≤ a0.toInt → x1 = -a0 → tl_RInteger_getChars_22 x1 a1 a2_v 72 x2 x3 x4 → x5.toInt = x3.toInt + (-1) → x6 = -x2 → x7 = dg_O x6.toNatClampNeg → x8 = upd x4 x5.toNatClampNeg (vp_nar .byte x7) → x2.toInt < (-9) → x9.toInt = x5.toInt + (-1) → x10 = -x2 → x11 = dg_T x10.toNatClampNeg → x12 = upd x8 x9.toNatClampNeg (vp_nar .byte x11) → R x9 x12) →
  (∀ (x1 : Int32) (x2 : Int32) (x3 : Nat → Int32) (x4 : Int32) (x5 : Int32) (x6 : Int32) (x7 : Nat → Int32) (x8 : Int32) (x9 : Nat → Int32), a0.toInt < 0 → tl_RInteger_getChars_22_2 a1 a0 a2_v 72 x1 x2 x3 → x4.toInt = x1.toInt + (-1) → x5 = -x2 → x6 = dg_O x5.toNatClampNeg → x7 = upd x3 x4.toNatClampNeg (vp_nar .byte x6) → (-9) ≤ x2.toInt → x8.toInt = x4.toInt + (-1) → x9 = upd x7 x8.toNatClampNeg (vp_nar .byte 45) → R x8 x9) →
  (∀ (x1 : Int32) (x2 : Int32) (x3 : Nat → Int32) (x4 : Int32) (x5 : Int32) (x6 : Int32) (x7 : Nat → Int32) (x8 : Int32) (x9 : Int32) (x10 : Int32) (x11 : Nat → Int32) (x12 : Int32) (x13 : Nat → Int32), a0.toInt < 0 → tl_RInteger_getChars_22_2 a1 a0 a2_v 72 x1 x2 x3 → x4.toInt = x1.toInt + (-1) → x5 = -x2 → x6 = dg_O x5.toNatClampNeg → x7 = upd x3 x4.toNatClampNeg (vp_nar .byte x6) → x2.toInt < (-9) → x8.toInt = x4.toInt + (-1) → x9 = -x2 → x10 = dg_T x9.toNatClampNeg → x11 = upd x7 x8.toNatClampNeg (vp_nar .byte x10) → x12.toInt = x8.toInt + (-1) → x13 = upd x11 x12.toNatClampNeg (vp_nar .byte 45) → R x12 x13) →
  R o1 o2
end
section
theorem dr_cJ6_getChars_ba4f3_0 : decode cJ6_getChars_ba4f3 0 = .ok (.iload_n 1, 1) := by decide +kernel
theorem dr_cJ6_getChars_ba4f3_1 : decode cJ6_getChars_ba4f3 1 = .ok (.istore 5, 2) := by decide +kernel
theorem dr_cJ6_getChars_ba4f3_3 : decode cJ6_getChars_ba4f3 3 = .ok (.iload_n 0, 1) := by decide +kernel
theorem dr_cJ6_getChars_ba4f3_4 : decode cJ6_getChars_ba4f3 4 = .ok (.ifCond .ge 7, 3) := by decide +kernel
theorem dr_cJ6_getChars_ba4f3_11 : decode cJ6_getChars_ba4f3 11 = .ok (.iconst 0, 1) := by decide +kernel
theorem dr_cJ6_getChars_ba4f3_12 : decode cJ6_getChars_ba4f3 12 = .ok (.istore 6, 2) := by decide +kernel
theorem dr_cJ6_getChars_ba4f3_14 : decode cJ6_getChars_ba4f3 14 = .ok (.iload 6, 2) := by decide +kernel
theorem dr_cJ6_getChars_ba4f3_16 : decode cJ6_getChars_ba4f3 16 = .ok (.ifCond .ne 6, 3) := by decide +kernel
theorem dr_cJ6_getChars_ba4f3_19 : decode cJ6_getChars_ba4f3 19 = .ok (.iload_n 0, 1) := by decide +kernel
theorem dr_cJ6_getChars_ba4f3_20 : decode cJ6_getChars_ba4f3 20 = .ok (.ineg, 1) := by decide +kernel
theorem dr_cJ6_getChars_ba4f3_21 : decode cJ6_getChars_ba4f3 21 = .ok (.istore_n 0, 1) := by decide +kernel
theorem dr_cJ6_getChars_ba4f3_22 : decode cJ6_getChars_ba4f3 22 = .ok (.iload_n 0, 1) := by decide +kernel
theorem dr_cJ6_getChars_ba4f3_23 : decode cJ6_getChars_ba4f3 23 = .ok (.bipush (-100), 2) := by decide +kernel
theorem dr_cJ6_getChars_ba4f3_25 : decode cJ6_getChars_ba4f3 25 = .ok (.if_icmp .gt 47, 3) := by decide +kernel
theorem dr_cJ6_getChars_ba4f3_72 : decode cJ6_getChars_ba4f3 72 = .ok (.aload_n 2, 1) := by decide +kernel
theorem dr_cJ6_getChars_ba4f3_73 : decode cJ6_getChars_ba4f3 73 = .ok (.iinc 5 (-1), 3) := by decide +kernel
theorem dr_cJ6_getChars_ba4f3_76 : decode cJ6_getChars_ba4f3 76 = .ok (.iload 5, 2) := by decide +kernel
theorem dr_cJ6_getChars_ba4f3_78 : decode cJ6_getChars_ba4f3 78 = .ok (.getstatic 83, 3) := by decide +kernel
theorem wr_8_118 : (Jvm.Cond.fieldLink "java/lang/Integer" (83 : Nat) "java/lang/Integer" "DigitOnes" "[B") ∈ gw := gw_8 118 rfl rfl
theorem dr_cJ6_getChars_ba4f3_81 : decode cJ6_getChars_ba4f3 81 = .ok (.iload_n 0, 1) := by decide +kernel
theorem dr_cJ6_getChars_ba4f3_82 : decode cJ6_getChars_ba4f3 82 = .ok (.ineg, 1) := by decide +kernel
theorem dr_cJ6_getChars_ba4f3_83 : decode cJ6_getChars_ba4f3 83 = .ok (.baload, 1) := by decide +kernel
theorem dr_cJ6_getChars_ba4f3_84 : decode cJ6_getChars_ba4f3 84 = .ok (.bastore, 1) := by decide +kernel
theorem dr_cJ6_getChars_ba4f3_85 : decode cJ6_getChars_ba4f3 85 = .ok (.iload_n 0, 1) := by decide +kernel
theorem dr_cJ6_getChars_ba4f3_86 : decode cJ6_getChars_ba4f3 86 = .ok (.bipush (-9), 2) := by decide +kernel
theorem dr_cJ6_getChars_ba4f3_88 : decode cJ6_getChars_ba4f3 88 = .ok (.if_icmp .ge 16, 3) := by decide +kernel
theorem dr_cJ6_getChars_ba4f3_104 : decode cJ6_getChars_ba4f3 104 = .ok (.iload 6, 2) := by decide +kernel
theorem dr_cJ6_getChars_ba4f3_106 : decode cJ6_getChars_ba4f3 106 = .ok (.ifCond .eq 12, 3) := by decide +kernel
theorem dr_cJ6_getChars_ba4f3_118 : decode cJ6_getChars_ba4f3 118 = .ok (.iload 5, 2) := by decide +kernel
theorem dr_cJ6_getChars_ba4f3_120 : decode cJ6_getChars_ba4f3 120 = .ok (.ireturn, 1) := by decide +kernel
theorem dr_cJ6_getChars_ba4f3_91 : decode cJ6_getChars_ba4f3 91 = .ok (.aload_n 2, 1) := by decide +kernel
theorem dr_cJ6_getChars_ba4f3_92 : decode cJ6_getChars_ba4f3 92 = .ok (.iinc 5 (-1), 3) := by decide +kernel
theorem dr_cJ6_getChars_ba4f3_95 : decode cJ6_getChars_ba4f3 95 = .ok (.iload 5, 2) := by decide +kernel
theorem dr_cJ6_getChars_ba4f3_97 : decode cJ6_getChars_ba4f3 97 = .ok (.getstatic 87, 3) := by decide +kernel
theorem wr_8_120 : (Jvm.Cond.fieldLink "java/lang/Integer" (87 : Nat) "java/lang/Integer" "DigitTens" "[B") ∈ gw := gw_8 120 rfl rfl
theorem dr_cJ6_getChars_ba4f3_100 : decode cJ6_getChars_ba4f3 100 = .ok (.iload_n 0, 1) := by decide +kernel
theorem dr_cJ6_getChars_ba4f3_101 : decode cJ6_getChars_ba4f3 101 = .ok (.ineg, 1) := by decide +kernel
theorem dr_cJ6_getChars_ba4f3_102 : decode cJ6_getChars_ba4f3 102 = .ok (.baload, 1) := by decide +kernel
theorem dr_cJ6_getChars_ba4f3_103 : decode cJ6_getChars_ba4f3 103 = .ok (.bastore, 1) := by decide +kernel
theorem dr_cJ6_getChars_ba4f3_28 : decode cJ6_getChars_ba4f3 28 = .ok (.iload_n 0, 1) := by decide +kernel
theorem dr_cJ6_getChars_ba4f3_29 : decode cJ6_getChars_ba4f3 29 = .ok (.bipush 100, 2) := by decide +kernel
theorem dr_cJ6_getChars_ba4f3_31 : decode cJ6_getChars_ba4f3 31 = .ok (.idiv, 1) := by decide +kernel
theorem dr_cJ6_getChars_ba4f3_32 : decode cJ6_getChars_ba4f3 32 = .ok (.istore_n 3, 1) := by decide +kernel
theorem dr_cJ6_getChars_ba4f3_33 : decode cJ6_getChars_ba4f3 33 = .ok (.iload_n 3, 1) := by decide +kernel
theorem dr_cJ6_getChars_ba4f3_34 : decode cJ6_getChars_ba4f3 34 = .ok (.bipush 100, 2) := by decide +kernel
theorem dr_cJ6_getChars_ba4f3_36 : decode cJ6_getChars_ba4f3 36 = .ok (.imul, 1) := by decide +kernel
theorem dr_cJ6_getChars_ba4f3_37 : decode cJ6_getChars_ba4f3 37 = .ok (.iload_n 0, 1) := by decide +kernel
theorem dr_cJ6_getChars_ba4f3_38 : decode cJ6_getChars_ba4f3 38 = .ok (.isub, 1) := by decide +kernel
theorem dr_cJ6_getChars_ba4f3_39 : decode cJ6_getChars_ba4f3 39 = .ok (.istore 4, 2) := by decide +kernel
theorem dr_cJ6_getChars_ba4f3_41 : decode cJ6_getChars_ba4f3 41 = .ok (.iload_n 3, 1) := by decide +kernel
theorem dr_cJ6_getChars_ba4f3_42 : decode cJ6_getChars_ba4f3 42 = .ok (.istore_n 0, 1) := by decide +kernel
theorem dr_cJ6_getChars_ba4f3_43 : decode cJ6_getChars_ba4f3 43 = .ok (.aload_n 2, 1) := by decide +kernel
theorem dr_cJ6_getChars_ba4f3_44 : decode cJ6_getChars_ba4f3 44 = .ok (.iinc 5 (-1), 3) := by decide +kernel
theorem dr_cJ6_getChars_ba4f3_47 : decode cJ6_getChars_ba4f3 47 = .ok (.iload 5, 2) := by decide +kernel
theorem dr_cJ6_getChars_ba4f3_49 : decode cJ6_getChars_ba4f3 49 = .ok (.getstatic 83, 3) := by decide +kernel
theorem dr_cJ6_getChars_ba4f3_52 : decode cJ6_getChars_ba4f3 52 = .ok (.iload 4, 2) := by decide +kernel
theorem dr_cJ6_getChars_ba4f3_54 : decode cJ6_getChars_ba4f3 54 = .ok (.baload, 1) := by decide +kernel
theorem dr_cJ6_getChars_ba4f3_55 : decode cJ6_getChars_ba4f3 55 = .ok (.bastore, 1) := by decide +kernel
theorem dr_cJ6_getChars_ba4f3_56 : decode cJ6_getChars_ba4f3 56 = .ok (.aload_n 2, 1) := by decide +kernel
theorem dr_cJ6_getChars_ba4f3_57 : decode cJ6_getChars_ba4f3 57 = .ok (.iinc 5 (-1), 3) := by decide +kernel
theorem dr_cJ6_getChars_ba4f3_60 : decode cJ6_getChars_ba4f3 60 = .ok (.iload 5, 2) := by decide +kernel
theorem dr_cJ6_getChars_ba4f3_62 : decode cJ6_getChars_ba4f3 62 = .ok (.getstatic 87, 3) := by decide +kernel
theorem dr_cJ6_getChars_ba4f3_65 : decode cJ6_getChars_ba4f3 65 = .ok (.iload 4, 2) := by decide +kernel
theorem dr_cJ6_getChars_ba4f3_67 : decode cJ6_getChars_ba4f3 67 = .ok (.baload, 1) := by decide +kernel
theorem dr_cJ6_getChars_ba4f3_68 : decode cJ6_getChars_ba4f3 68 = .ok (.bastore, 1) := by decide +kernel
theorem dr_cJ6_getChars_ba4f3_69 : decode cJ6_getChars_ba4f3 69 = .ok (.goto (-47), 3) := by decide +kernel
theorem dr_cJ6_getChars_ba4f3_7 : decode cJ6_getChars_ba4f3 7 = .ok (.iconst 1, 1) := by decide +kernel
theorem dr_cJ6_getChars_ba4f3_8 : decode cJ6_getChars_ba4f3 8 = .ok (.goto 4, 3) := by decide +kernel
theorem dr_cJ6_getChars_ba4f3_109 : decode cJ6_getChars_ba4f3 109 = .ok (.aload_n 2, 1) := by decide +kernel
theorem dr_cJ6_getChars_ba4f3_110 : decode cJ6_getChars_ba4f3 110 = .ok (.iinc 5 (-1), 3) := by decide +kernel
theorem dr_cJ6_getChars_ba4f3_113 : decode cJ6_getChars_ba4f3 113 = .ok (.iload 5, 2) := by decide +kernel
theorem dr_cJ6_getChars_ba4f3_115 : decode cJ6_getChars_ba4f3 115 = .ok (.bipush 45, 2) := by decide +kernel
theorem dr_cJ6_getChars_ba4f3_117 : decode cJ6_getChars_ba4f3 117 = .ok (.bastore, 1) := by decide +kernel
theorem dr_cJ5_append_c97b9_0 : decode cJ5_append_c97b9 0 = .ok (.aload_n 0, 1) := by decide +kernel
theorem dr_cJ5_append_c97b9_1 : decode cJ5_append_c97b9 1 = .ok (.getfield 79, 3) := by decide +kernel
theorem dr_cJ5_append_c97b9_4 : decode cJ5_append_c97b9 4 = .ok (.istore_n 2, 1) := by decide +kernel
theorem dr_cJ5_append_c97b9_5 : decode cJ5_append_c97b9 5 = .ok (.iload_n 2, 1) := by decide +kernel
theorem dr_cJ5_append_c97b9_6 : decode cJ5_append_c97b9 6 = .ok (.iload_n 1, 1) := by decide +kernel
theorem dr_cJ5_append_c97b9_7 : decode cJ5_append_c97b9 7 = .ok (.invokestatic 245, 3) := by decide +kernel
theorem wr_8_112 : (Jvm.Cond.methodLink "java/lang/AbstractStringBuilder" (245 : Nat) ({ cls := "java/lang/Integer", name := "stringSize", desc := "(I)I" } : Jvm.MethodName)) ∈ gw := gw_8 112 rfl rfl
theorem wr_8_114 : (Jvm.Cond.code ({ cls := "java/lang/Integer", name := "stringSize", desc := "(I)I" } : Jvm.MethodName) prog_29_method_13_code (4 : Nat) (Option.some Jvm.ClassFile.FieldType.int)) ∈ gw := gw_8 114 rfl rfl
theorem wr_8_113 : (Jvm.Cond.static ({ cls := "java/lang/Integer", name := "stringSize", desc := "(I)I" } : Jvm.MethodName)) ∈ gw := gw_8 113 rfl rfl
theorem dr_cJ5_append_c97b9_10 : decode cJ5_append_c97b9 10 = .ok (.iadd, 1) := by decide +kernel
theorem dr_cJ5_append_c97b9_11 : decode cJ5_append_c97b9 11 = .ok (.istore_n 3, 1) := by decide +kernel
theorem dr_cJ5_append_c97b9_12 : decode cJ5_append_c97b9 12 = .ok (.aload_n 0, 1) := by decide +kernel
theorem dr_cJ5_append_c97b9_13 : decode cJ5_append_c97b9 13 = .ok (.iload_n 3, 1) := by decide +kernel
theorem dr_cJ5_append_c97b9_14 : decode cJ5_append_c97b9 14 = .ok (.invokevirtual 100, 3) := by decide +kernel
theorem dr_cJ5_append_c97b9_17 : decode cJ5_append_c97b9 17 = .ok (.aload_n 0, 1) := by decide +kernel
theorem dr_cJ5_append_c97b9_18 : decode cJ5_append_c97b9 18 = .ok (.invokevirtual 83, 3) := by decide +kernel
theorem dr_cJ5_append_c97b9_21 : decode cJ5_append_c97b9 21 = .ok (.ifCond .eq 16, 3) := by decide +kernel
theorem dr_cJ5_append_c97b9_24 : decode cJ5_append_c97b9 24 = .ok (.iload_n 1, 1) := by decide +kernel
theorem dr_cJ5_append_c97b9_25 : decode cJ5_append_c97b9 25 = .ok (.iload_n 3, 1) := by decide +kernel
theorem dr_cJ5_append_c97b9_26 : decode cJ5_append_c97b9 26 = .ok (.aload_n 0, 1) := by decide +kernel
theorem dr_cJ5_append_c97b9_27 : decode cJ5_append_c97b9 27 = .ok (.getfield 15, 3) := by decide +kernel
theorem dr_cJ5_append_c97b9_30 : decode cJ5_append_c97b9 30 = .ok (.invokestatic 248, 3) := by decide +kernel
theorem wr_8_115 : (Jvm.Cond.methodLink "java/lang/AbstractStringBuilder" (248 : Nat) ({ cls := "java/lang/Integer", name := "getChars", desc := "(II[B)I" } : Jvm.MethodName)) ∈ gw := gw_8 115 rfl rfl
theorem wr_8_117 : (Jvm.Cond.code ({ cls := "java/lang/Integer", name := "getChars", desc := "(II[B)I" } : Jvm.MethodName) prog_29_method_12_code (7 : Nat) (Option.some Jvm.ClassFile.FieldType.int)) ∈ gw := gw_8 117 rfl rfl
theorem wr_8_116 : (Jvm.Cond.static ({ cls := "java/lang/Integer", name := "getChars", desc := "(II[B)I" } : Jvm.MethodName)) ∈ gw := gw_8 116 rfl rfl
theorem dr_cJ5_append_c97b9_33 : decode cJ5_append_c97b9 33 = .ok (.pop, 1) := by decide +kernel
theorem dr_cJ5_append_c97b9_34 : decode cJ5_append_c97b9 34 = .ok (.goto 14, 3) := by decide +kernel
theorem dr_cJ5_append_c97b9_48 : decode cJ5_append_c97b9 48 = .ok (.aload_n 0, 1) := by decide +kernel
theorem dr_cJ5_append_c97b9_49 : decode cJ5_append_c97b9 49 = .ok (.iload_n 3, 1) := by decide +kernel
theorem dr_cJ5_append_c97b9_50 : decode cJ5_append_c97b9 50 = .ok (.putfield 79, 3) := by decide +kernel
theorem dr_cJ5_append_c97b9_53 : decode cJ5_append_c97b9 53 = .ok (.aload_n 0, 1) := by decide +kernel
theorem dr_cJ5_append_c97b9_54 : decode cJ5_append_c97b9 54 = .ok (.areturn, 1) := by decide +kernel
theorem dr_cJ4_append_bf812_0 : decode cJ4_append_bf812 0 = .ok (.aload_n 0, 1) := by decide +kernel
theorem dr_cJ4_append_bf812_1 : decode cJ4_append_bf812 1 = .ok (.iload_n 1, 1) := by decide +kernel
theorem dr_cJ4_append_bf812_2 : decode cJ4_append_bf812 2 = .ok (.invokespecial 53, 3) := by decide +kernel
theorem wr_8_109 : (Jvm.Cond.methodLink "java/lang/StringBuilder" (53 : Nat) ({ cls := "java/lang/AbstractStringBuilder", name := "append", desc := "(I)Ljava/lang/AbstractStringBuilder;" } : Jvm.MethodName)) ∈ gw := gw_8 109 rfl rfl
theorem wr_8_111 : (Jvm.Cond.code ({ cls := "java/lang/AbstractStringBuilder", name := "append", desc := "(I)Ljava/lang/AbstractStringBuilder;" } : Jvm.MethodName) prog_21_method_32_code (4 : Nat) (Option.some (Jvm.ClassFile.FieldType.object "java/lang/AbstractStringBuilder"))) ∈ gw := gw_8 111 rfl rfl
theorem wr_8_110 : (Jvm.Cond.instanceMethod ({ cls := "java/lang/AbstractStringBuilder", name := "append", desc := "(I)Ljava/lang/AbstractStringBuilder;" } : Jvm.MethodName)) ∈ gw := gw_8 110 rfl rfl
theorem wr_11_228 : (Jvm.Cond.sameMethod "java/lang/AbstractStringBuilder" "java/lang/AbstractStringBuilder" "append" "(I)Ljava/lang/AbstractStringBuilder;") ∈ gw := gw_11 228 rfl rfl
theorem dr_cJ4_append_bf812_5 : decode cJ4_append_bf812 5 = .ok (.pop, 1) := by decide +kernel
theorem dr_cJ4_append_bf812_6 : decode cJ4_append_bf812 6 = .ok (.aload_n 0, 1) := by decide +kernel
theorem dr_cJ4_append_bf812_7 : decode cJ4_append_bf812 7 = .ok (.areturn, 1) := by decide +kernel
theorem dr_cJ9_min_f86c9_0 : decode cJ9_min_f86c9 0 = .ok (.lload_n 0, 1) := by decide +kernel
theorem dr_cJ9_min_f86c9_1 : decode cJ9_min_f86c9 1 = .ok (.lload_n 2, 1) := by decide +kernel
theorem dr_cJ9_min_f86c9_2 : decode cJ9_min_f86c9 2 = .ok (.lcmp, 1) := by decide +kernel
theorem dr_cJ9_min_f86c9_3 : decode cJ9_min_f86c9 3 = .ok (.ifCond .gt 7, 3) := by decide +kernel
theorem dr_cJ9_min_f86c9_10 : decode cJ9_min_f86c9 10 = .ok (.lload_n 2, 1) := by decide +kernel
theorem dr_cJ9_min_f86c9_11 : decode cJ9_min_f86c9 11 = .ok (.lreturn, 1) := by decide +kernel
theorem dr_cJ9_min_f86c9_6 : decode cJ9_min_f86c9 6 = .ok (.lload_n 0, 1) := by decide +kernel
theorem dr_cJ9_min_f86c9_7 : decode cJ9_min_f86c9 7 = .ok (.goto 4, 3) := by decide +kernel
abbrev ky_667760_Integer_getChars : gKey := (cJ6_getChars_ba4f3, 7, "java/lang/Integer", (some FieldType.int), [], "getChars", fun _ _ => True)
def pp_667760_Integer_getChars (D : va_G) (I : FieldType → ClassId) (P667750 : List Nat) (F667751 : Nat → va_E) (q667752 : Nat) (p667753 : Int32) (p667754 : Int32) (f667755 : Nat → Int32) (n667756 : Nat) : Option Value → va_W → Nat → Nat → Prop := fun r w dc ds => ∃ (F668154 : Nat → va_E) (o668152 : Int32) (f668151 : Nat → Int32), r = some (.int o668152) ∧ w = va_pl P667750 F668154 ∧ rFr [q667752] P667750 F667751 F668154 ∧ F668154 q667752 = .inl (I .byte, n667756, .inl f668151) ∧ dc ≤ 0 ∧ ds ≤ 0 ∧ gB o668152 0 16777215 ∧ gF f668151 (-128) 127 ∧ tr_RInteger_getChars p667753 p667754 f667755 o668152 f668151
set_option maxRecDepth 100000 in
set_option maxHeartbeats 4000000 in
theorem cp_667760_Integer_getChars (l : Launch) (hl0 : l.stackTraces = false) (D : va_G) (I : FieldType → ClassId) (P667750 : List Nat) (F667751 : Nat → va_E) (q667752 : Nat) (p667753 : Int32) (p667754 : Int32) (f667755 : Nat → Int32) (n667756 : Nat) (hmq667752 : q667752 ∈ P667750) (heq667752 : F667751 q667752 = .inl (I .byte, n667756, .inl f667755)) (bp667754 : gB p667754 0 16777216) (bf667755 : gF f667755 (-128) 127) (x667757 : p667754.toInt ≤ (n667756 : Int)) (x667758 : dgS p667753.toInt p667754.toInt) (x667759 : ((n667756 : Int) ≤ 16777216)) : CtA (gV D I) l yJ6_getChars_ba4f3 cJ6_getChars_ba4f3 7 (some FieldType.int) 0 0 0 0 [.int p667753, .int p667754, .ref q667752] (va_pl P667750 F667751) (pp_667760_Integer_getChars D I P667750 F667751 q667752 p667753 p667754 f667755 n667756) gNA := by
  refine CtA_ofF hl0 (by decide +kernel) (Nat.le_of_ble_eq_true rfl) ?_
  have bp667753 := gB_any p667753
  refine G_iload_n 1 dr_cJ6_getChars_ba4f3_0 rfl ?_
  refine G_istore (L' := [(5, .int p667754), (0, .int p667753), (1, .int p667754), (2, .ref q667752)]) dr_cJ6_getChars_ba4f3_1 (Nat.le_of_ble_eq_true rfl) rfl ?_
  refine G_iload_n 1 dr_cJ6_getChars_ba4f3_3 rfl ?_
  refine G_if_ge 11 dr_cJ6_getChars_ba4f3_4 (by decide +kernel) (fun hc667761 => ?_) (fun hc667761 => ?_)
  · have r667762 : 0 ≤ p667753.toInt := gj_leL hc667761 (show Int32.toInt 0 = 0 by decide)
    have bp667753' : gB p667753 0 2147483647 := ⟨by omega, by omega⟩
    refine G_iconst 0 dr_cJ6_getChars_ba4f3_11 (by decide +kernel) ?_
    refine G_istore (L' := [(6, .int 0), (5, .int p667754), (0, .int p667753), (1, .int p667754), (2, .ref q667752)]) dr_cJ6_getChars_ba4f3_12 (Nat.le_of_ble_eq_true rfl) rfl ?_
    refine G_iload 0 dr_cJ6_getChars_ba4f3_14 rfl ?_
    refine G_if_ne 22 dr_cJ6_getChars_ba4f3_16 (by decide +kernel) (fun hc => absurd hc (by decide)) (fun _ => ?_)
    refine G_iload_n 2 dr_cJ6_getChars_ba4f3_19 rfl ?_
    refine G_ineg dr_cJ6_getChars_ba4f3_20 (G_nam fun z667763 hz667763 => ?_)
    have ez667763 : z667763.toInt = -p667753.toInt := gI_neg hz667763 bp667753' (by decide)
    have bz667763 : gB z667763 (-2147483647) 0 := ⟨by omega, by omega⟩
    refine G_istore_n (L' := [(0, .int z667763), (6, .int 0), (5, .int p667754), (1, .int p667754), (2, .ref q667752)]) dr_cJ6_getChars_ba4f3_21 (Nat.le_of_ble_eq_true rfl) rfl ?_
    have hlp22_667880 : ∀ (n22_667880 : Nat) (F667875 : Nat → va_E) (g667872 : Int32) (g667873 : Int32) (f667874 : Nat → Int32), gB g667872 (-2147483647) 0 → gB g667873 0 16777216 → gF f667874 (-128) 127 → rFr [q667752] P667750 F667751 F667875 → F667875 q667752 = .inl (I .byte, n667756, .inl f667874) → g667872.toInt ≤ 0 → dgB g667872.toInt (g667873.toInt - 0) → g667873.toInt ≤ p667754.toInt → (∀ (k : Nat) (e1 : Int32) (e2 : Int32) (e3 : Nat → Int32), tl_RInteger_getChars_22 g667872 g667873 f667874 k e1 e2 e3 → tl_RInteger_getChars_22 z667763 p667754 f667755 k e1 e2 e3) → (-g667872.toInt).toNat < n22_667880 → G (gV D I) l (gRm 0 0 0 0) (gMA (gV D I) (pp_667760_Integer_getChars D I P667750 F667751 q667752 p667753 p667754 f667755 n667756) gNA 0 0) ky_667760_Integer_getChars 22 [(0, .int g667872), (6, .int 0), (5, .int g667873), (1, .int p667754), (2, .ref q667752)] [] (va_pl P667750 F667875) 0 0 := by
      intro n22_667880
      induction n22_667880 with
      | zero => intro F667875 g667872 g667873 f667874 bg667872 bg667873 bf667874 hfr667877 he667876 x667878 x667879 x667880 kt22_667880 hm22_667880; exact absurd hm22_667880 (Nat.not_lt_zero _)
      | succ n22_667880 ih22_667880 =>
        intro F667875 g667872 g667873 f667874 bg667872 bg667873 bf667874 hfr667877 he667876 x667878 x667879 x667880 kt22_667880 hm22_667880
        refine G_iload_n 0 dr_cJ6_getChars_ba4f3_22 rfl ?_
        refine G_bipush (-100) dr_cJ6_getChars_ba4f3_23 (by decide +kernel) ?_
        refine G_icmp_gt 72 dr_cJ6_getChars_ba4f3_25 (by decide +kernel) (fun hc667881 => ?_) (fun hc667881 => ?_)
        · have r667882 : (-100) < g667872.toInt := gj_ltL hc667881 (show Int32.toInt (-100) = (-100) by decide)
          have bg667872' : gB g667872 (-99) 0 := ⟨by omega, by omega⟩
          have hx667883 : tl_RInteger_getChars_22 z667763 p667754 f667755 72 g667872 g667873 f667874 := kt22_667880 72 g667872 g667873 f667874 (fun R c1 c2 => c1 g667872 g667873 f667874 bg667872 bg667873 r667882)
          have x667884 : (1 : Int) ≤ (g667873.toInt - 0) := dgB_1 x667879
          refine G_aload_n 4 dr_cJ6_getChars_ba4f3_72 rfl ?_
          have bg667873' : gB g667873 1 16777216 := ⟨by omega, by omega⟩
          obtain ⟨z667885, hz667885⟩ : ∃ z : Int32, z = g667873 + Int32.ofInt (-1) := ⟨_, rfl⟩
          have ez667885 : z667885.toInt = g667873.toInt + (-1) := gI_inc hz667885 (by decide) bg667873' (by decide) (by decide)
          have bz667885 : gB z667885 0 16777215 := ⟨by omega, by omega⟩
          refine G_iinc (L' := [(5, .int z667885), (0, .int g667872), (6, .int 0), (1, .int p667754), (2, .ref q667752)]) z667885 2 dr_cJ6_getChars_ba4f3_73 rfl hz667885.symm (Nat.le_of_ble_eq_true rfl) rfl ?_
          refine G_iload 0 dr_cJ6_getChars_ba4f3_76 rfl ?_
          refine G_gets dr_cJ6_getChars_ba4f3_78 wr_8_118 gr_on (fun x667887 hx667886 => ?_)
          subst hx667886
          refine G_iload_n 1 dr_cJ6_getChars_ba4f3_81 rfl ?_
          refine G_ineg dr_cJ6_getChars_ba4f3_82 (G_nam fun z667888 hz667888 => ?_)
          have ez667888 : z667888.toInt = -g667872.toInt := gI_neg hz667888 bg667872' (by decide)
          have bz667888 : gB z667888 0 99 := ⟨by omega, by omega⟩
          refine G_kbald (f := dg_O) dr_cJ6_getChars_ba4f3_83 gr_ont (gB_inr (by omega) (by omega)) (G_nam fun z667889 hz667889 => ?_)
          have bz667889 : gB z667889 (-2147483648) 2147483647 := gB_any z667889
          refine Gp_bast 1 hmq667752 he667876 dr_cJ6_getChars_ba4f3_84 rfl (gB_inr (by omega) (by omega)) (fun F667890 e667891 n667892 => ?_)
          obtain ⟨f667893, hf667893⟩ : ∃ z, z = upd f667874 z667885.toNatClampNeg (vp_nar .byte z667889) := ⟨_, rfl⟩
          rw [← hf667893] at e667891
          have he667894 : F667890 q667752 = .inl (I .byte, n667756, .inl f667893) := e667891
          have hfr667895 : rFr [q667752] P667750 F667751 F667890 := rFr_put' List.mem_cons_self hfr667877 n667892
          have bf667893 : gF f667893 (-128) 127 := gF_upd hf667893 bf667874 gB_byte
          refine G_iload_n 1 dr_cJ6_getChars_ba4f3_85 rfl ?_
          refine G_bipush (-9) dr_cJ6_getChars_ba4f3_86 (by decide +kernel) ?_
          refine G_icmp_ge 104 dr_cJ6_getChars_ba4f3_88 (by decide +kernel) (fun hc667896 => ?_) (fun hc667896 => ?_)
          · have r667897 : (-9) ≤ g667872.toInt := gj_leL hc667896 (show Int32.toInt (-9) = (-9) by decide)
            have bg667872'' : gB g667872 (-9) 0 := ⟨by omega, by omega⟩
            refine G_iload 2 dr_cJ6_getChars_ba4f3_104 rfl ?_
            refine G_if_eq 118 dr_cJ6_getChars_ba4f3_106 (by decide +kernel) (fun _ => ?_) (fun hc => absurd hc (by decide))
            refine G_iload 0 dr_cJ6_getChars_ba4f3_118 rfl ?_
            exact G_iretA dr_cJ6_getChars_ba4f3_120 rfl (Nat.le_of_ble_eq_true rfl) (Nat.le_of_ble_eq_true rfl) ⟨F667890, z667885, f667893, rfl, rfl, hfr667895, he667894, (Nat.le_of_ble_eq_true rfl), (Nat.le_of_ble_eq_true rfl), bz667885, bf667893, (fun R c1 c2 c3 c4 => c1 z667763 g667872 g667873 f667874 z667885 z667888 z667889 f667893 r667762 hz667763 hx667883 ez667885 hz667888 hz667889 hf667893 r667897)⟩
          · have r667898 : g667872.toInt < (-9) := gj_nleL hc667896 (show Int32.toInt (-9) = (-9) by decide)
            have bg667872'' : gB g667872 (-99) (-10) := ⟨by omega, by omega⟩
            have x667899 : (2 : Int) ≤ (g667873.toInt - 0) := dgB_2 x667879 (by omega)
            refine G_aload_n 4 dr_cJ6_getChars_ba4f3_91 rfl ?_
            have bz667885' : gB z667885 1 16777215 := ⟨by omega, by omega⟩
            obtain ⟨z667900, hz667900⟩ : ∃ z : Int32, z = z667885 + Int32.ofInt (-1) := ⟨_, rfl⟩
            have ez667900 : z667900.toInt = z667885.toInt + (-1) := gI_inc hz667900 (by decide) bz667885' (by decide) (by decide)
            have bz667900 : gB z667900 0 16777214 := ⟨by omega, by omega⟩
            refine G_iinc (L' := [(5, .int z667900), (0, .int g667872), (6, .int 0), (1, .int p667754), (2, .ref q667752)]) z667900 0 dr_cJ6_getChars_ba4f3_92 rfl hz667900.symm (Nat.le_of_ble_eq_true rfl) rfl ?_
            refine G_iload 0 dr_cJ6_getChars_ba4f3_95 rfl ?_
            refine G_gets dr_cJ6_getChars_ba4f3_97 wr_8_120 gr_te (fun x667902 hx667901 => ?_)
            subst hx667901
            refine G_iload_n 1 dr_cJ6_getChars_ba4f3_100 rfl ?_
            refine G_ineg dr_cJ6_getChars_ba4f3_101 (G_nam fun z667903 hz667903 => ?_)
            have ez667903 : z667903.toInt = -g667872.toInt := gI_neg hz667903 bg667872'' (by decide)
            have bz667903 : gB z667903 10 99 := ⟨by omega, by omega⟩
            refine G_kbald (f := dg_T) dr_cJ6_getChars_ba4f3_102 gr_tet (gB_inr (by omega) (by omega)) (G_nam fun z667904 hz667904 => ?_)
            have bz667904 : gB z667904 (-2147483648) 2147483647 := gB_any z667904
            refine Gp_bast 1 hmq667752 he667894 dr_cJ6_getChars_ba4f3_103 rfl (gB_inr (by omega) (by omega)) (fun F667905 e667906 n667907 => ?_)
            obtain ⟨f667908, hf667908⟩ : ∃ z, z = upd f667893 z667900.toNatClampNeg (vp_nar .byte z667904) := ⟨_, rfl⟩
            rw [← hf667908] at e667906
            have he667909 : F667905 q667752 = .inl (I .byte, n667756, .inl f667908) := e667906
            have hfr667910 : rFr [q667752] P667750 F667751 F667905 := rFr_put' List.mem_cons_self hfr667895 n667907
            have bf667908 : gF f667908 (-128) 127 := gF_upd hf667908 bf667893 gB_byte
            refine G_iload 2 dr_cJ6_getChars_ba4f3_104 rfl ?_
            refine G_if_eq 118 dr_cJ6_getChars_ba4f3_106 (by decide +kernel) (fun _ => ?_) (fun hc => absurd hc (by decide))
            refine G_iload 0 dr_cJ6_getChars_ba4f3_118 rfl ?_
            exact G_iretA dr_cJ6_getChars_ba4f3_120 rfl (Nat.le_of_ble_eq_true rfl) (Nat.le_of_ble_eq_true rfl) ⟨F667905, z667900, f667908, rfl, rfl, hfr667910, he667909, (Nat.le_of_ble_eq_true rfl), (Nat.le_of_ble_eq_true rfl), (gB_w bz667900 (by decide) (by decide)), bf667908, (fun R c1 c2 c3 c4 => c2 z667763 g667872 g667873 f667874 z667885 z667888 z667889 f667893 z667900 z667903 z667904 f667908 r667762 hz667763 hx667883 ez667885 hz667888 hz667889 hf667893 r667898 ez667900 hz667903 hz667904 hf667908)⟩
        · have r667911 : g667872.toInt ≤ (-100) := gj_nltL hc667881 (show Int32.toInt (-100) = (-100) by decide)
          have bg667872' : gB g667872 (-2147483647) (-100) := ⟨by omega, by omega⟩
          have x667912 : (3 : Int) ≤ (g667873.toInt - 0) := dgB_3 x667879 (by omega)
          refine G_iload_n 0 dr_cJ6_getChars_ba4f3_28 rfl ?_
          refine G_bipush 100 dr_cJ6_getChars_ba4f3_29 (by decide +kernel) ?_
          refine G_idiv dr_cJ6_getChars_ba4f3_31 (by decide) (G_nam fun z667913 hz667913 => ?_)
          have ez667913 : z667913.toInt = -((-g667872.toInt) / 100) := gI_divn hz667913 bg667872' (by decide) (by decide) (by decide)
          have bz667913 : gB z667913 (-21474836) (-1) := ⟨by omega, by omega⟩
          refine G_istore_n (L' := [(3, .int z667913), (0, .int g667872), (6, .int 0), (5, .int g667873), (1, .int p667754), (2, .ref q667752)]) dr_cJ6_getChars_ba4f3_32 (Nat.le_of_ble_eq_true rfl) rfl ?_
          refine G_iload_n 0 dr_cJ6_getChars_ba4f3_33 rfl ?_
          refine G_bipush 100 dr_cJ6_getChars_ba4f3_34 (by decide +kernel) ?_
          refine G_imul dr_cJ6_getChars_ba4f3_36 (G_nam fun z667914 hz667914 => ?_)
          have ez667914 : z667914.toInt = z667913.toInt * 100 := gI_mulK hz667914 (by decide) (by omega) (by omega)
          have bz667914 : gB z667914 (-2147483600) (-100) := ⟨by omega, by omega⟩
          refine G_iload_n 1 dr_cJ6_getChars_ba4f3_37 rfl ?_
          refine G_isub dr_cJ6_getChars_ba4f3_38 (G_nam fun z667915 hz667915 => ?_)
          have ez667915 : z667915.toInt = z667914.toInt - g667872.toInt := by rw [gI_sub hz667915 bz667914 bg667872' (by decide) (by decide)]
          have bz667915 : gB z667915 (-2147483500) 2147483547 := gB_sub (gI_sub hz667915 bz667914 bg667872' (by decide) (by decide)) bz667914 bg667872' (by decide) (by decide)
          refine G_istore (L' := [(4, .int z667915), (3, .int z667913), (0, .int g667872), (6, .int 0), (5, .int g667873), (1, .int p667754), (2, .ref q667752)]) dr_cJ6_getChars_ba4f3_39 (Nat.le_of_ble_eq_true rfl) rfl ?_
          refine G_iload_n 1 dr_cJ6_getChars_ba4f3_41 rfl ?_
          refine G_istore_n (L' := [(0, .int z667913), (4, .int z667915), (3, .int z667913), (6, .int 0), (5, .int g667873), (1, .int p667754), (2, .ref q667752)]) dr_cJ6_getChars_ba4f3_42 (Nat.le_of_ble_eq_true rfl) rfl ?_
          refine G_aload_n 6 dr_cJ6_getChars_ba4f3_43 rfl ?_
          have bg667873' : gB g667873 2 16777216 := ⟨by omega, by omega⟩
          obtain ⟨z667916, hz667916⟩ : ∃ z : Int32, z = g667873 + Int32.ofInt (-1) := ⟨_, rfl⟩
          have ez667916 : z667916.toInt = g667873.toInt + (-1) := gI_inc hz667916 (by decide) bg667873' (by decide) (by decide)
          have bz667916 : gB z667916 1 16777215 := ⟨by omega, by omega⟩
          refine G_iinc (L' := [(5, .int z667916), (0, .int z667913), (4, .int z667915), (3, .int z667913), (6, .int 0), (1, .int p667754), (2, .ref q667752)]) z667916 4 dr_cJ6_getChars_ba4f3_44 rfl hz667916.symm (Nat.le_of_ble_eq_true rfl) rfl ?_
          refine G_iload 0 dr_cJ6_getChars_ba4f3_47 rfl ?_
          refine G_gets dr_cJ6_getChars_ba4f3_49 wr_8_118 gr_on (fun x667918 hx667917 => ?_)
          subst hx667917
          refine G_iload 2 dr_cJ6_getChars_ba4f3_52 rfl ?_
          refine G_kbald (f := dg_O) dr_cJ6_getChars_ba4f3_54 gr_ont (gB_inr (by omega) (by omega)) (G_nam fun z667919 hz667919 => ?_)
          have bz667919 : gB z667919 (-2147483648) 2147483647 := gB_any z667919
          refine Gp_bast 1 hmq667752 he667876 dr_cJ6_getChars_ba4f3_55 rfl (gB_inr (by omega) (by omega)) (fun F667920 e667921 n667922 => ?_)
          obtain ⟨f667923, hf667923⟩ : ∃ z, z = upd f667874 z667916.toNatClampNeg (vp_nar .byte z667919) := ⟨_, rfl⟩
          rw [← hf667923] at e667921
          have he667924 : F667920 q667752 = .inl (I .byte, n667756, .inl f667923) := e667921
          have hfr667925 : rFr [q667752] P667750 F667751 F667920 := rFr_put' List.mem_cons_self hfr667877 n667922
          have bf667923 : gF f667923 (-128) 127 := gF_upd hf667923 bf667874 gB_byte
          refine G_aload_n 6 dr_cJ6_getChars_ba4f3_56 rfl ?_
          obtain ⟨z667926, hz667926⟩ : ∃ z : Int32, z = z667916 + Int32.ofInt (-1) := ⟨_, rfl⟩
          have ez667926 : z667926.toInt = z667916.toInt + (-1) := gI_inc hz667926 (by decide) bz667916 (by decide) (by decide)
          have bz667926 : gB z667926 0 16777214 := ⟨by omega, by omega⟩
          refine G_iinc (L' := [(5, .int z667926), (0, .int z667913), (4, .int z667915), (3, .int z667913), (6, .int 0), (1, .int p667754), (2, .ref q667752)]) z667926 0 dr_cJ6_getChars_ba4f3_57 rfl hz667926.symm (Nat.le_of_ble_eq_true rfl) rfl ?_
          refine G_iload 0 dr_cJ6_getChars_ba4f3_60 rfl ?_
          refine G_gets dr_cJ6_getChars_ba4f3_62 wr_8_120 gr_te (fun x667928 hx667927 => ?_)
          subst hx667927
          refine G_iload 2 dr_cJ6_getChars_ba4f3_65 rfl ?_
          refine G_kbald (f := dg_T) dr_cJ6_getChars_ba4f3_67 gr_tet (gB_inr (by omega) (by omega)) (G_nam fun z667929 hz667929 => ?_)
          have bz667929 : gB z667929 (-2147483648) 2147483647 := gB_any z667929
          refine Gp_bast 1 hmq667752 he667924 dr_cJ6_getChars_ba4f3_68 rfl (gB_inr (by omega) (by omega)) (fun F667930 e667931 n667932 => ?_)
          obtain ⟨f667933, hf667933⟩ : ∃ z, z = upd f667923 z667926.toNatClampNeg (vp_nar .byte z667929) := ⟨_, rfl⟩
          rw [← hf667933] at e667931
          have he667934 : F667930 q667752 = .inl (I .byte, n667756, .inl f667933) := e667931
          have hfr667935 : rFr [q667752] P667750 F667751 F667930 := rFr_put' List.mem_cons_self hfr667925 n667932
          have bf667933 : gF f667933 (-128) 127 := gF_upd hf667933 bf667923 gB_byte
          refine G_goto 22 dr_cJ6_getChars_ba4f3_69 (by decide +kernel) ?_
          refine G_lv (L' := [(0, .int z667913), (6, .int 0), (5, .int z667926), (1, .int p667754), (2, .ref q667752)]) [1, 4, 0, 5, 6] rfl ?_
          exact ih22_667880 F667930 z667913 z667926 f667933 (gB_w bz667913 (by decide) (by decide)) (gB_w bz667926 (by decide) (by decide)) bf667933 hfr667935 he667934 (by have qa0 : Int32.toInt 0 = 0 := (by decide); omega) (by have q10 : Int32.toInt 10 = 10 := (by decide); have q11 : Int32.toInt 11 = 11 := (by decide); first | exact dgB_up (dgS_ip x667758 (by omega) (by omega)) (by omega) (by omega) | exact dgB_up (dgS_in x667758 (by omega)) (by omega) (by omega) | exact dgB_up x667879 (by omega) (by omega) | exact dgB_up (dgB_st x667879 (by omega) (by omega) (by omega)) (by omega) (by omega)) (by have qa0 : Int32.toInt 0 = 0 := (by decide); omega) (fun k e1 e2 e3 ht => kt22_667880 k e1 e2 e3 (fun R c1 c2 => c2 g667872 g667873 f667874 z667913 z667914 z667915 z667916 z667919 f667923 z667926 z667929 f667933 k e1 e2 e3 bg667872 bg667873 r667911 ez667913 ez667914 ez667915 ez667916 hz667919 hf667923 ez667926 hz667929 hf667933 (ht R c1 c2))) (by have qa0 : Int32.toInt 0 = 0 := (by decide); omega)
    exact hlp22_667880 ((-z667763.toInt).toNat + 1) F667751 z667763 p667754 f667755 bz667763 bp667754 bf667755 (rFr_v (rFr_rf (W := []) (P := P667750) (F := F667751)) (fun b hn => nm_n)) heq667752 (by have qa0 : Int32.toInt 0 = 0 := (by decide); omega) (by have q10 : Int32.toInt 10 = 10 := (by decide); have q11 : Int32.toInt 11 = 11 := (by decide); first | exact dgB_up (dgS_ip x667758 (by omega) (by omega)) (by omega) (by omega) | exact dgB_up (dgS_in x667758 (by omega)) (by omega) (by omega)) (by have qa0 : Int32.toInt 0 = 0 := (by decide); omega) (fun k e1 e2 e3 ht => ht) (Nat.lt_succ_self _)
  · have r667936 : p667753.toInt < 0 := gj_nleL hc667761 (show Int32.toInt 0 = 0 by decide)
    have bp667753' : gB p667753 (-2147483648) (-1) := ⟨by omega, by omega⟩
    refine G_iconst 1 dr_cJ6_getChars_ba4f3_7 (by decide +kernel) ?_
    refine G_goto 12 dr_cJ6_getChars_ba4f3_8 (by decide +kernel) ?_
    refine G_istore (L' := [(6, .int 1), (5, .int p667754), (0, .int p667753), (1, .int p667754), (2, .ref q667752)]) dr_cJ6_getChars_ba4f3_12 (Nat.le_of_ble_eq_true rfl) rfl ?_
    refine G_iload 0 dr_cJ6_getChars_ba4f3_14 rfl ?_
    refine G_if_ne 22 dr_cJ6_getChars_ba4f3_16 (by decide +kernel) (fun _ => ?_) (fun hc => absurd hc (by decide))
    have hlp22_668081 : ∀ (n22_668081 : Nat) (F668076 : Nat → va_E) (g668073 : Int32) (g668074 : Int32) (f668075 : Nat → Int32), gB g668073 0 16777216 → gB g668074 (-2147483648) (-1) → gF f668075 (-128) 127 → rFr [q667752] P667750 F667751 F668076 → F668076 q667752 = .inl (I .byte, n667756, .inl f668075) → g668074.toInt ≤ 0 → dgB g668074.toInt (g668073.toInt - 1) → g668073.toInt ≤ p667754.toInt → (∀ (k : Nat) (e1 : Int32) (e2 : Int32) (e3 : Nat → Int32), tl_RInteger_getChars_22_2 g668073 g668074 f668075 k e1 e2 e3 → tl_RInteger_getChars_22_2 p667754 p667753 f667755 k e1 e2 e3) → (-g668074.toInt).toNat < n22_668081 → G (gV D I) l (gRm 0 0 0 0) (gMA (gV D I) (pp_667760_Integer_getChars D I P667750 F667751 q667752 p667753 p667754 f667755 n667756) gNA 0 0) ky_667760_Integer_getChars 22 [(6, .int 1), (5, .int g668073), (0, .int g668074), (1, .int p667754), (2, .ref q667752)] [] (va_pl P667750 F668076) 0 0 := by
      intro n22_668081
      induction n22_668081 with
      | zero => intro F668076 g668073 g668074 f668075 bg668073 bg668074 bf668075 hfr668078 he668077 x668079 x668080 x668081 kt22_668081 hm22_668081; exact absurd hm22_668081 (Nat.not_lt_zero _)
      | succ n22_668081 ih22_668081 =>
        intro F668076 g668073 g668074 f668075 bg668073 bg668074 bf668075 hfr668078 he668077 x668079 x668080 x668081 kt22_668081 hm22_668081
        refine G_iload_n 2 dr_cJ6_getChars_ba4f3_22 rfl ?_
        refine G_bipush (-100) dr_cJ6_getChars_ba4f3_23 (by decide +kernel) ?_
        refine G_icmp_gt 72 dr_cJ6_getChars_ba4f3_25 (by decide +kernel) (fun hc668082 => ?_) (fun hc668082 => ?_)
        · have r668083 : (-100) < g668074.toInt := gj_ltL hc668082 (show Int32.toInt (-100) = (-100) by decide)
          have bg668074' : gB g668074 (-99) (-1) := ⟨by omega, by omega⟩
          have hx668084 : tl_RInteger_getChars_22_2 p667754 p667753 f667755 72 g668073 g668074 f668075 := kt22_668081 72 g668073 g668074 f668075 (fun R c1 c2 => c1 g668073 g668074 f668075 bg668073 bg668074 r668083)
          have x668085 : (1 : Int) ≤ (g668073.toInt - 1) := dgB_1 x668080
          refine G_aload_n 4 dr_cJ6_getChars_ba4f3_72 rfl ?_
          have bg668073' : gB g668073 1 16777216 := ⟨by omega, by omega⟩
          obtain ⟨z668086, hz668086⟩ : ∃ z : Int32, z = g668073 + Int32.ofInt (-1) := ⟨_, rfl⟩
          have ez668086 : z668086.toInt = g668073.toInt + (-1) := gI_inc hz668086 (by decide) bg668073' (by decide) (by decide)
          have bz668086 : gB z668086 0 16777215 := ⟨by omega, by omega⟩
          refine G_iinc (L' := [(5, .int z668086), (6, .int 1), (0, .int g668074), (1, .int p667754), (2, .ref q667752)]) z668086 1 dr_cJ6_getChars_ba4f3_73 rfl hz668086.symm (Nat.le_of_ble_eq_true rfl) rfl ?_
          refine G_iload 0 dr_cJ6_getChars_ba4f3_76 rfl ?_
          refine G_gets dr_cJ6_getChars_ba4f3_78 wr_8_118 gr_on (fun x668088 hx668087 => ?_)
          subst hx668087
          refine G_iload_n 2 dr_cJ6_getChars_ba4f3_81 rfl ?_
          refine G_ineg dr_cJ6_getChars_ba4f3_82 (G_nam fun z668089 hz668089 => ?_)
          have ez668089 : z668089.toInt = -g668074.toInt := gI_neg hz668089 bg668074' (by decide)
          have bz668089 : gB z668089 1 99 := ⟨by omega, by omega⟩
          refine G_kbald (f := dg_O) dr_cJ6_getChars_ba4f3_83 gr_ont (gB_inr (by omega) (by omega)) (G_nam fun z668090 hz668090 => ?_)
          have bz668090 : gB z668090 (-2147483648) 2147483647 := gB_any z668090
          refine Gp_bast 1 hmq667752 he668077 dr_cJ6_getChars_ba4f3_84 rfl (gB_inr (by omega) (by omega)) (fun F668091 e668092 n668093 => ?_)
          obtain ⟨f668094, hf668094⟩ : ∃ z, z = upd f668075 z668086.toNatClampNeg (vp_nar .byte z668090) := ⟨_, rfl⟩
          rw [← hf668094] at e668092
          have he668095 : F668091 q667752 = .inl (I .byte, n667756, .inl f668094) := e668092
          have hfr668096 : rFr [q667752] P667750 F667751 F668091 := rFr_put' List.mem_cons_self hfr668078 n668093
          have bf668094 : gF f668094 (-128) 127 := gF_upd hf668094 bf668075 gB_byte
          refine G_iload_n 2 dr_cJ6_getChars_ba4f3_85 rfl ?_
          refine G_bipush (-9) dr_cJ6_getChars_ba4f3_86 (by decide +kernel) ?_
          refine G_icmp_ge 104 dr_cJ6_getChars_ba4f3_88 (by decide +kernel) (fun hc668097 => ?_) (fun hc668097 => ?_)
          · have r668098 : (-9) ≤ g668074.toInt := gj_leL hc668097 (show Int32.toInt (-9) = (-9) by decide)
            have bg668074'' : gB g668074 (-9) (-1) := ⟨by omega, by omega⟩
            refine G_iload 1 dr_cJ6_getChars_ba4f3_104 rfl ?_
            refine G_if_eq 118 dr_cJ6_getChars_ba4f3_106 (by decide +kernel) (fun hc => absurd hc (by decide)) (fun _ => ?_)
            refine G_aload_n 4 dr_cJ6_getChars_ba4f3_109 rfl ?_
            have bz668086' : gB z668086 1 16777215 := ⟨by omega, by omega⟩
            obtain ⟨z668099, hz668099⟩ : ∃ z : Int32, z = z668086 + Int32.ofInt (-1) := ⟨_, rfl⟩
            have ez668099 : z668099.toInt = z668086.toInt + (-1) := gI_inc hz668099 (by decide) bz668086' (by decide) (by decide)
            have bz668099 : gB z668099 0 16777214 := ⟨by omega, by omega⟩
            refine G_iinc (L' := [(5, .int z668099), (6, .int 1), (0, .int g668074), (1, .int p667754), (2, .ref q667752)]) z668099 0 dr_cJ6_getChars_ba4f3_110 rfl hz668099.symm (Nat.le_of_ble_eq_true rfl) rfl ?_
            refine G_iload 0 dr_cJ6_getChars_ba4f3_113 rfl ?_
            refine G_bipush 45 dr_cJ6_getChars_ba4f3_115 (by decide +kernel) ?_
            refine Gp_bast 1 hmq667752 he668095 dr_cJ6_getChars_ba4f3_117 rfl (gB_inr (by omega) (by omega)) (fun F668100 e668101 n668102 => ?_)
            obtain ⟨f668103, hf668103⟩ : ∃ z, z = upd f668094 z668099.toNatClampNeg (vp_nar .byte 45) := ⟨_, rfl⟩
            rw [← hf668103] at e668101
            have he668104 : F668100 q667752 = .inl (I .byte, n667756, .inl f668103) := e668101
            have hfr668105 : rFr [q667752] P667750 F667751 F668100 := rFr_put' List.mem_cons_self hfr668096 n668102
            have bf668103 : gF f668103 (-128) 127 := gF_upd hf668103 bf668094 gB_byte
            refine G_iload 0 dr_cJ6_getChars_ba4f3_118 rfl ?_
            exact G_iretA dr_cJ6_getChars_ba4f3_120 rfl (Nat.le_of_ble_eq_true rfl) (Nat.le_of_ble_eq_true rfl) ⟨F668100, z668099, f668103, rfl, rfl, hfr668105, he668104, (Nat.le_of_ble_eq_true rfl), (Nat.le_of_ble_eq_true rfl), (gB_w bz668099 (by decide) (by decide)), bf668103, (fun R c1 c2 c3 c4 => c3 g668073 g668074 f668075 z668086 z668089 z668090 f668094 z668099 f668103 r667936 hx668084 ez668086 hz668089 hz668090 hf668094 r668098 ez668099 hf668103)⟩
          · have r668106 : g668074.toInt < (-9) := gj_nleL hc668097 (show Int32.toInt (-9) = (-9) by decide)
            have bg668074'' : gB g668074 (-99) (-10) := ⟨by omega, by omega⟩
            have x668107 : (2 : Int) ≤ (g668073.toInt - 1) := dgB_2 x668080 (by omega)
            refine G_aload_n 4 dr_cJ6_getChars_ba4f3_91 rfl ?_
            have bz668086' : gB z668086 1 16777215 := ⟨by omega, by omega⟩
            obtain ⟨z668108, hz668108⟩ : ∃ z : Int32, z = z668086 + Int32.ofInt (-1) := ⟨_, rfl⟩
            have ez668108 : z668108.toInt = z668086.toInt + (-1) := gI_inc hz668108 (by decide) bz668086' (by decide) (by decide)
            have bz668108 : gB z668108 0 16777214 := ⟨by omega, by omega⟩
            refine G_iinc (L' := [(5, .int z668108), (6, .int 1), (0, .int g668074), (1, .int p667754), (2, .ref q667752)]) z668108 0 dr_cJ6_getChars_ba4f3_92 rfl hz668108.symm (Nat.le_of_ble_eq_true rfl) rfl ?_
            refine G_iload 0 dr_cJ6_getChars_ba4f3_95 rfl ?_
            refine G_gets dr_cJ6_getChars_ba4f3_97 wr_8_120 gr_te (fun x668110 hx668109 => ?_)
            subst hx668109
            refine G_iload_n 2 dr_cJ6_getChars_ba4f3_100 rfl ?_
            refine G_ineg dr_cJ6_getChars_ba4f3_101 (G_nam fun z668111 hz668111 => ?_)
            have ez668111 : z668111.toInt = -g668074.toInt := gI_neg hz668111 bg668074'' (by decide)
            have bz668111 : gB z668111 10 99 := ⟨by omega, by omega⟩
            refine G_kbald (f := dg_T) dr_cJ6_getChars_ba4f3_102 gr_tet (gB_inr (by omega) (by omega)) (G_nam fun z668112 hz668112 => ?_)
            have bz668112 : gB z668112 (-2147483648) 2147483647 := gB_any z668112
            refine Gp_bast 1 hmq667752 he668095 dr_cJ6_getChars_ba4f3_103 rfl (gB_inr (by omega) (by omega)) (fun F668113 e668114 n668115 => ?_)
            obtain ⟨f668116, hf668116⟩ : ∃ z, z = upd f668094 z668108.toNatClampNeg (vp_nar .byte z668112) := ⟨_, rfl⟩
            rw [← hf668116] at e668114
            have he668117 : F668113 q667752 = .inl (I .byte, n667756, .inl f668116) := e668114
            have hfr668118 : rFr [q667752] P667750 F667751 F668113 := rFr_put' List.mem_cons_self hfr668096 n668115
            have bf668116 : gF f668116 (-128) 127 := gF_upd hf668116 bf668094 gB_byte
            refine G_iload 1 dr_cJ6_getChars_ba4f3_104 rfl ?_
            refine G_if_eq 118 dr_cJ6_getChars_ba4f3_106 (by decide +kernel) (fun hc => absurd hc (by decide)) (fun _ => ?_)
            refine G_aload_n 4 dr_cJ6_getChars_ba4f3_109 rfl ?_
            have bz668108' : gB z668108 1 16777214 := ⟨by omega, by omega⟩
            obtain ⟨z668119, hz668119⟩ : ∃ z : Int32, z = z668108 + Int32.ofInt (-1) := ⟨_, rfl⟩
            have ez668119 : z668119.toInt = z668108.toInt + (-1) := gI_inc hz668119 (by decide) bz668108' (by decide) (by decide)
            have bz668119 : gB z668119 0 16777213 := ⟨by omega, by omega⟩
            refine G_iinc (L' := [(5, .int z668119), (6, .int 1), (0, .int g668074), (1, .int p667754), (2, .ref q667752)]) z668119 0 dr_cJ6_getChars_ba4f3_110 rfl hz668119.symm (Nat.le_of_ble_eq_true rfl) rfl ?_
            refine G_iload 0 dr_cJ6_getChars_ba4f3_113 rfl ?_
            refine G_bipush 45 dr_cJ6_getChars_ba4f3_115 (by decide +kernel) ?_
            refine Gp_bast 1 hmq667752 he668117 dr_cJ6_getChars_ba4f3_117 rfl (gB_inr (by omega) (by omega)) (fun F668120 e668121 n668122 => ?_)
            obtain ⟨f668123, hf668123⟩ : ∃ z, z = upd f668116 z668119.toNatClampNeg (vp_nar .byte 45) := ⟨_, rfl⟩
            rw [← hf668123] at e668121
            have he668124 : F668120 q667752 = .inl (I .byte, n667756, .inl f668123) := e668121
            have hfr668125 : rFr [q667752] P667750 F667751 F668120 := rFr_put' List.mem_cons_self hfr668118 n668122
            have bf668123 : gF f668123 (-128) 127 := gF_upd hf668123 bf668116 gB_byte
            refine G_iload 0 dr_cJ6_getChars_ba4f3_118 rfl ?_
            exact G_iretA dr_cJ6_getChars_ba4f3_120 rfl (Nat.le_of_ble_eq_true rfl) (Nat.le_of_ble_eq_true rfl) ⟨F668120, z668119, f668123, rfl, rfl, hfr668125, he668124, (Nat.le_of_ble_eq_true rfl), (Nat.le_of_ble_eq_true rfl), (gB_w bz668119 (by decide) (by decide)), bf668123, (fun R c1 c2 c3 c4 => c4 g668073 g668074 f668075 z668086 z668089 z668090 f668094 z668108 z668111 z668112 f668116 z668119 f668123 r667936 hx668084 ez668086 hz668089 hz668090 hf668094 r668106 ez668108 hz668111 hz668112 hf668116 ez668119 hf668123)⟩
        · have r668126 : g668074.toInt ≤ (-100) := gj_nltL hc668082 (show Int32.toInt (-100) = (-100) by decide)
          have bg668074' : gB g668074 (-2147483648) (-100) := ⟨by omega, by omega⟩
          have x668127 : (3 : Int) ≤ (g668073.toInt - 1) := dgB_3 x668080 (by omega)
          refine G_iload_n 2 dr_cJ6_getChars_ba4f3_28 rfl ?_
          refine G_bipush 100 dr_cJ6_getChars_ba4f3_29 (by decide +kernel) ?_
          refine G_idiv dr_cJ6_getChars_ba4f3_31 (by decide) (G_nam fun z668128 hz668128 => ?_)
          have ez668128 : z668128.toInt = -((-g668074.toInt) / 100) := gI_divn hz668128 bg668074' (by decide) (by decide) (by decide)
          have bz668128 : gB z668128 (-21474836) (-1) := ⟨by omega, by omega⟩
          refine G_istore_n (L' := [(3, .int z668128), (6, .int 1), (5, .int g668073), (0, .int g668074), (1, .int p667754), (2, .ref q667752)]) dr_cJ6_getChars_ba4f3_32 (Nat.le_of_ble_eq_true rfl) rfl ?_
          refine G_iload_n 0 dr_cJ6_getChars_ba4f3_33 rfl ?_
          refine G_bipush 100 dr_cJ6_getChars_ba4f3_34 (by decide +kernel) ?_
          refine G_imul dr_cJ6_getChars_ba4f3_36 (G_nam fun z668129 hz668129 => ?_)
          have ez668129 : z668129.toInt = z668128.toInt * 100 := gI_mulK hz668129 (by decide) (by omega) (by omega)
          have bz668129 : gB z668129 (-2147483600) (-100) := ⟨by omega, by omega⟩
          refine G_iload_n 3 dr_cJ6_getChars_ba4f3_37 rfl ?_
          refine G_isub dr_cJ6_getChars_ba4f3_38 (G_nam fun z668130 hz668130 => ?_)
          have ez668130 : z668130.toInt = z668129.toInt - g668074.toInt := by rw [gI_sub hz668130 bz668129 bg668074' (by decide) (by decide)]
          have bz668130 : gB z668130 (-2147483500) 2147483548 := gB_sub (gI_sub hz668130 bz668129 bg668074' (by decide) (by decide)) bz668129 bg668074' (by decide) (by decide)
          refine G_istore (L' := [(4, .int z668130), (3, .int z668128), (6, .int 1), (5, .int g668073), (0, .int g668074), (1, .int p667754), (2, .ref q667752)]) dr_cJ6_getChars_ba4f3_39 (Nat.le_of_ble_eq_true rfl) rfl ?_
          refine G_iload_n 1 dr_cJ6_getChars_ba4f3_41 rfl ?_
          refine G_istore_n (L' := [(0, .int z668128), (4, .int z668130), (3, .int z668128), (6, .int 1), (5, .int g668073), (1, .int p667754), (2, .ref q667752)]) dr_cJ6_getChars_ba4f3_42 (Nat.le_of_ble_eq_true rfl) rfl ?_
          refine G_aload_n 6 dr_cJ6_getChars_ba4f3_43 rfl ?_
          have bg668073' : gB g668073 2 16777216 := ⟨by omega, by omega⟩
          obtain ⟨z668131, hz668131⟩ : ∃ z : Int32, z = g668073 + Int32.ofInt (-1) := ⟨_, rfl⟩
          have ez668131 : z668131.toInt = g668073.toInt + (-1) := gI_inc hz668131 (by decide) bg668073' (by decide) (by decide)
          have bz668131 : gB z668131 1 16777215 := ⟨by omega, by omega⟩
          refine G_iinc (L' := [(5, .int z668131), (0, .int z668128), (4, .int z668130), (3, .int z668128), (6, .int 1), (1, .int p667754), (2, .ref q667752)]) z668131 4 dr_cJ6_getChars_ba4f3_44 rfl hz668131.symm (Nat.le_of_ble_eq_true rfl) rfl ?_
          refine G_iload 0 dr_cJ6_getChars_ba4f3_47 rfl ?_
          refine G_gets dr_cJ6_getChars_ba4f3_49 wr_8_118 gr_on (fun x668133 hx668132 => ?_)
          subst hx668132
          refine G_iload 2 dr_cJ6_getChars_ba4f3_52 rfl ?_
          refine G_kbald (f := dg_O) dr_cJ6_getChars_ba4f3_54 gr_ont (gB_inr (by omega) (by omega)) (G_nam fun z668134 hz668134 => ?_)
          have bz668134 : gB z668134 (-2147483648) 2147483647 := gB_any z668134
          refine Gp_bast 1 hmq667752 he668077 dr_cJ6_getChars_ba4f3_55 rfl (gB_inr (by omega) (by omega)) (fun F668135 e668136 n668137 => ?_)
          obtain ⟨f668138, hf668138⟩ : ∃ z, z = upd f668075 z668131.toNatClampNeg (vp_nar .byte z668134) := ⟨_, rfl⟩
          rw [← hf668138] at e668136
          have he668139 : F668135 q667752 = .inl (I .byte, n667756, .inl f668138) := e668136
          have hfr668140 : rFr [q667752] P667750 F667751 F668135 := rFr_put' List.mem_cons_self hfr668078 n668137
          have bf668138 : gF f668138 (-128) 127 := gF_upd hf668138 bf668075 gB_byte
          refine G_aload_n 6 dr_cJ6_getChars_ba4f3_56 rfl ?_
          obtain ⟨z668141, hz668141⟩ : ∃ z : Int32, z = z668131 + Int32.ofInt (-1) := ⟨_, rfl⟩
          have ez668141 : z668141.toInt = z668131.toInt + (-1) := gI_inc hz668141 (by decide) bz668131 (by decide) (by decide)
          have bz668141 : gB z668141 0 16777214 := ⟨by omega, by omega⟩
          refine G_iinc (L' := [(5, .int z668141), (0, .int z668128), (4, .int z668130), (3, .int z668128), (6, .int 1), (1, .int p667754), (2, .ref q667752)]) z668141 0 dr_cJ6_getChars_ba4f3_57 rfl hz668141.symm (Nat.le_of_ble_eq_true rfl) rfl ?_
          refine G_iload 0 dr_cJ6_getChars_ba4f3_60 rfl ?_
          refine G_gets dr_cJ6_getChars_ba4f3_62 wr_8_120 gr_te (fun x668143 hx668142 => ?_)
          subst hx668142
          refine G_iload 2 dr_cJ6_getChars_ba4f3_65 rfl ?_
          refine G_kbald (f := dg_T) dr_cJ6_getChars_ba4f3_67 gr_tet (gB_inr (by omega) (by omega)) (G_nam fun z668144 hz668144 => ?_)
          have bz668144 : gB z668144 (-2147483648) 2147483647 := gB_any z668144
          refine Gp_bast 1 hmq667752 he668139 dr_cJ6_getChars_ba4f3_68 rfl (gB_inr (by omega) (by omega)) (fun F668145 e668146 n668147 => ?_)
          obtain ⟨f668148, hf668148⟩ : ∃ z, z = upd f668138 z668141.toNatClampNeg (vp_nar .byte z668144) := ⟨_, rfl⟩
          rw [← hf668148] at e668146
          have he668149 : F668145 q667752 = .inl (I .byte, n667756, .inl f668148) := e668146
          have hfr668150 : rFr [q667752] P667750 F667751 F668145 := rFr_put' List.mem_cons_self hfr668140 n668147
          have bf668148 : gF f668148 (-128) 127 := gF_upd hf668148 bf668138 gB_byte
          refine G_goto 22 dr_cJ6_getChars_ba4f3_69 (by decide +kernel) ?_
          refine G_lv (L' := [(6, .int 1), (5, .int z668141), (0, .int z668128), (1, .int p667754), (2, .ref q667752)]) [4, 0, 1, 5, 6] rfl ?_
          exact ih22_668081 F668145 z668141 z668128 f668148 (gB_w bz668141 (by decide) (by decide)) (gB_w bz668128 (by decide) (by decide)) bf668148 hfr668150 he668149 (by have qa0 : Int32.toInt 1 = 1 := (by decide); omega) (by have q10 : Int32.toInt 10 = 10 := (by decide); have q11 : Int32.toInt 11 = 11 := (by decide); first | exact dgB_up (dgS_ip x667758 (by omega) (by omega)) (by omega) (by omega) | exact dgB_up (dgS_in x667758 (by omega)) (by omega) (by omega) | exact dgB_up x668080 (by omega) (by omega) | exact dgB_up (dgB_st x668080 (by omega) (by omega) (by omega)) (by omega) (by omega)) (by have qa0 : Int32.toInt 1 = 1 := (by decide); omega) (fun k e1 e2 e3 ht => kt22_668081 k e1 e2 e3 (fun R c1 c2 => c2 g668073 g668074 f668075 z668128 z668129 z668130 z668131 z668134 f668138 z668141 z668144 f668148 k e1 e2 e3 bg668073 bg668074 r668126 ez668128 ez668129 ez668130 ez668131 hz668134 hf668138 ez668141 hz668144 hf668148 (ht R c1 c2))) (by have qa0 : Int32.toInt 1 = 1 := (by decide); omega)
    exact hlp22_668081 ((-p667753.toInt).toNat + 1) F667751 p667754 p667753 f667755 bp667754 bp667753' bf667755 (rFr_v (rFr_rf (W := []) (P := P667750) (F := F667751)) (fun b hn => nm_n)) heq667752 (by have qa0 : Int32.toInt 1 = 1 := (by decide); omega) (by have q10 : Int32.toInt 10 = 10 := (by decide); have q11 : Int32.toInt 11 = 11 := (by decide); first | exact dgB_up (dgS_ip x667758 (by omega) (by omega)) (by omega) (by omega) | exact dgB_up (dgS_in x667758 (by omega)) (by omega) (by omega)) (by have qa0 : Int32.toInt 1 = 1 := (by decide); omega) (fun k e1 e2 e3 ht => ht) (Nat.lt_succ_self _)
/- tr_RAbstractStringBuilder_append7: a.0...count, a.0.value.#, a.0.value.[] -/
def tr_RAbstractStringBuilder_append7 (a1 : Int32) (a0_count : Int32) (a0_value_v : Nat → Int32) (a0_value_n : Nat) (o1 : Int32) (o2 : Nat) (o3 : Nat → Int32) : Prop := ∀ R : (Int32) → (Nat) → (Nat → Int32) → Prop,
  (∀ (x1 : Int32) (x2 : Int32) (x3 : Nat) (x4 : Nat → Int32) (x5 : Int32) (x6 : Nat → Int32), gB x1 1 11 → tr_RInteger_stringSize a1 x1 → x2.toInt = a0_count.toInt + x1.toInt → tr_RAbstractStringBuilder_ensureCapacityInternal2 x2 a0_value_v a0_value_n x3 x4 → gB x5 0 16777215 → tr_RInteger_getChars a1 x2 x4 x5 x6 → R x2 x3 x6) →
  R o1 o2 o3
abbrev ky_667573_AbstractStringBuilder_append : gKey := (cJ5_append_c97b9, 4, "java/lang/AbstractStringBuilder", (some (FieldType.object "java/lang/AbstractStringBuilder")), [], "append", fun _ _ => True)
def pp_667573_AbstractStringBuilder_append (D : va_G) (I : FieldType → ClassId) (P667561 : List Nat) (F667562 : Nat → va_E) (q667563 : Nat) (q667564 : Nat) (p667565 : Int32) (p667566 : Int32) (p667567 : Int32) (f667568 : Nat → Int32) (n667569 : Nat) : Option Value → va_W → Nat → Nat → Prop := fun r w dc ds => ∃ (P668179 : List Nat) (F668180 : Nat → va_E) (o668175 : Int32) (q668176 : Nat) (n668177 : Nat) (f668178 : Nat → Int32), r = some (.ref q667563) ∧ w = va_pl P668179 F668180 ∧ rSub P667561 P668179 ∧ rFr [q667563, q667564] P667561 F667562 F668180 ∧ F668180 q667563 = .inr (1, [.ref q668176, .int 0, .int p667566, .int o668175]) ∧ F668180 q668176 = .inl (I .byte, n668177, .inl f668178) ∧ q668176 ∈ P668179 ∧ (q668176 = q667564 ∨ q668176 ∉ P667561) ∧ dc ≤ 1 ∧ ds ≤ 2 * (n668177 - n667569) ∧ gB o668175 1 16777216 ∧ gF f668178 (-128) 127 ∧ p667567.toInt ≤ o668175.toInt ∧ o668175.toInt ≤ p667567.toInt + 11 ∧ o668175.toInt ≤ (n668177 : Int) ∧ (n667569 : Int) ≤ (n668177 : Int) ∧ ((n668177 : Int) ≤ 2 * (n667569 : Int) + 2 ∨ (n668177 : Int) ≤ p667567.toInt + 11) ∧ tr_RAbstractStringBuilder_append7 p667565 p667567 f667568 n667569 o668175 n668177 f668178
set_option maxRecDepth 100000 in
set_option maxHeartbeats 4000000 in
theorem cp_667573_AbstractStringBuilder_append (l : Launch) (hl0 : l.stackTraces = false) (D : va_G) (I : FieldType → ClassId) (P667561 : List Nat) (F667562 : Nat → va_E) (q667563 : Nat) (q667564 : Nat) (p667565 : Int32) (p667566 : Int32) (p667567 : Int32) (f667568 : Nat → Int32) (n667569 : Nat) (hmq667563 : q667563 ∈ P667561) (hmq667564 : q667564 ∈ P667561) (heq667563 : F667562 q667563 = .inr (1, [.ref q667564, .int 0, .int p667566, .int p667567])) (heq667564 : F667562 q667564 = .inl (I .byte, n667569, .inl f667568)) (bp667566 : gB p667566 0 1) (bp667567 : gB p667567 0 16777216) (bf667568 : gF f667568 (-128) 127) (x667570 : (n667569 : Int) ≤ 8388608 - 100000) (x667571 : p667567.toInt ≤ (n667569 : Int)) (x667572 : ((n667569 : Int) ≤ 16777216)) : CtA (gV D I) l yJ5_append_c97b9 cJ5_append_c97b9 4 (some (FieldType.object "java/lang/AbstractStringBuilder")) 4 84 1 (4 * n667569 + 64) [.ref q667563, .int p667565] (va_pl P667561 F667562) (pp_667573_AbstractStringBuilder_append D I P667561 F667562 q667563 q667564 p667565 p667566 p667567 f667568 n667569) gNA := by
  refine CtA_ofF hl0 (by decide +kernel) (Nat.le_of_ble_eq_true rfl) ?_
  have bp667565 := gB_any p667565
  refine G_aload_n 0 dr_cJ5_append_c97b9_0 rfl ?_
  refine Gp_get 3 hmq667563 heq667563 dr_cJ5_append_c97b9_1 (gk_J4 D I) (Nat.le_of_ble_eq_true rfl) wr_7_64 rfl ?_
  refine G_istore_n (L' := [(2, .int p667567), (0, .ref q667563), (1, .int p667565)]) dr_cJ5_append_c97b9_4 (Nat.le_of_ble_eq_true rfl) rfl ?_
  refine G_iload_n 0 dr_cJ5_append_c97b9_5 rfl ?_
  refine G_iload_n 2 dr_cJ5_append_c97b9_6 rfl ?_
  refine Gw_callS (As := [.int p667565]) (gV_ok D I) (cp_667577_Integer_stringSize l hl0 D I P667561 F667562 p667565 ) dr_cJ5_append_c97b9_7 ⟨wr_8_112, wr_1_35, wr_8_114, by decide, rfl, (Nat.le_of_ble_eq_true rfl), (Nat.le_of_ble_eq_true rfl)⟩ wr_8_113 (show 0 + 0 ≤ 1 by first | omega | decide) (show 0 + 0 ≤ (4 * n667569 + 64) by first | omega | decide) (Nat.le_of_ble_eq_true rfl) (fun r667712 w667713 dc667709 ds667710 hp667711 => ?_) (fun _ _ _ _ _ z => z.elim)
  obtain ⟨o667714, rfl, rfl, hdc, hds, bo667714, x667715, ht667716⟩ := hp667711
  change G _ _ _ _ _ _ _ (.int o667714 :: _) _ _ _
  refine G_widen (cs' := 0) (sl' := 0) (by omega) (by omega) ?_
  refine G_iadd dr_cJ5_append_c97b9_10 (G_nam fun z667717 hz667717 => ?_)
  have ez667717 : z667717.toInt = p667567.toInt + o667714.toInt := by rw [gI_add hz667717 bp667567 bo667714 (by decide) (by decide)]
  have bz667717 : gB z667717 1 16777227 := gB_add (gI_add hz667717 bp667567 bo667714 (by decide) (by decide)) bp667567 bo667714 (by decide) (by decide)
  refine G_istore_n (L' := [(3, .int z667717), (2, .int p667567), (0, .ref q667563), (1, .int p667565)]) dr_cJ5_append_c97b9_11 (Nat.le_of_ble_eq_true rfl) rfl ?_
  refine G_aload_n 2 dr_cJ5_append_c97b9_12 rfl ?_
  refine G_iload_n 0 dr_cJ5_append_c97b9_13 rfl ?_
  refine Gw_callVB (As := [.int z667717]) (gV_ok D I) (cp_658822_AbstractStringBuilder_ensureCapacityInternal l hl0 D I P667561 F667562 q667563 q667564 z667717 p667566 p667567 f667568 n667569 hmq667563 hmq667564 heq667563 heq667564 ⟨by omega, by omega⟩ bp667566 bp667567 bf667568 (by have qa0 : Int32.toInt 0 = 0 := (by decide); omega) (by have qa0 : Int32.toInt 0 = 0 := (by decide); omega)) dr_cJ5_append_c97b9_14 ⟨wr_8_4, wr_1_19, wr_8_7, by decide, rfl, (Nat.le_of_ble_eq_true rfl), (Nat.le_of_ble_eq_true rfl)⟩ wr_8_6 wr_s_0 hmq667563 heq667563 rfl (show 0 + 1 ≤ 1 by first | omega | decide) (show 0 + (2 * n667569 + 2 + z667717.toInt.toNat) ≤ (4 * n667569 + 64) by first | omega | decide) (Nat.le_of_ble_eq_true rfl) (fun r667721 w667722 dc667718 ds667719 hp667720 => ?_) (fun _ _ _ _ _ z => z.elim)
  obtain ⟨P667731, F667732, q667723, n667724, f667725, rfl, rfl, hsb667733, hfr667734, he667735, he667736, hm667737, hq667738, hdc, hds, bf667725, x667726, x667727, x667728, x667729, ht667730⟩ := hp667720
  have hm667739 : q667563 ∈ P667731 := hsb667733 q667563 hmq667563
  have hm667740 : q667564 ∈ P667731 := hsb667733 q667564 hmq667564
  have hor667741 : q667723 = q667564 ∨ q667723 ∉ P667561 := hq667738.elim Or.inl (fun n => Or.inr (fun z => n ((rSub_rf (P := P667561)) _ z)))
  have hsb667742 : rSub P667561 P667731 := rSub_tr (rSub_rf (P := P667561)) hsb667733
  have he667743 : F667732 q667564 = .inl (I .byte, n667569, .inl f667568) := (hfr667734 q667564 hmq667564 (nm_c (rn_ao heq667564 heq667563) nm_n)).trans heq667564
  have hfr667744 : rFr [q667563] P667561 F667562 F667732 := rFr_call (rSub_rf (P := P667561)) (rFr_rf (W := []) (P := P667561) (F := F667562)) hfr667734 (fun b hb hn => ⟨nm_n, (nm_c (fun e => hn (e ▸ List.mem_cons_self)) nm_n)⟩)
  change G _ _ _ _ _ _ _ _ _ _ _
  refine G_widen (cs' := 1) (sl' := 2 * (n667724 - n667569)) (by omega) (by omega) ?_
  refine G_aload_n 2 dr_cJ5_append_c97b9_17 rfl ?_
  refine Gw_callVB (As := []) (gV_ok D I) (cp_658723_AbstractStringBuilder_isLatin1 l hl0 D I P667731 F667732 q667563 q667723 p667566 p667567 f667725 n667724 hm667739 hm667737 he667735 he667736 bp667566 bp667567 bf667725 (by have qa0 : Int32.toInt 0 = 0 := (by decide); omega)) dr_cJ5_append_c97b9_18 ⟨wr_8_33, wr_1_19, wr_8_37, by decide, rfl, (Nat.le_of_ble_eq_true rfl), (Nat.le_of_ble_eq_true rfl)⟩ wr_8_34 wr_8_36 hm667739 he667735 rfl (show 1 + 0 ≤ 1 by first | omega | decide) (show 2 * (n667724 - n667569) + 0 ≤ (4 * n667569 + 64) by first | omega | decide) (Nat.le_of_ble_eq_true rfl) (fun r667748 w667749 dc667745 ds667746 hp667747 => ?_) (fun _ _ _ _ _ z => z.elim)
  obtain ⟨rfl, rfl, hdc, hds⟩ := hp667747
  change G _ _ _ _ _ _ _ (.int 1 :: _) _ _ _
  refine G_widen (cs' := 1) (sl' := 2 * (n667724 - n667569) + 0) (by omega) (by omega) ?_
  refine G_if_eq 37 dr_cJ5_append_c97b9_21 (by decide +kernel) (fun hc => absurd hc (by decide)) (fun _ => ?_)
  refine G_iload_n 3 dr_cJ5_append_c97b9_24 rfl ?_
  refine G_iload_n 0 dr_cJ5_append_c97b9_25 rfl ?_
  refine G_aload_n 2 dr_cJ5_append_c97b9_26 rfl ?_
  refine Gp_get 0 hm667739 he667735 dr_cJ5_append_c97b9_27 (gk_J4 D I) (Nat.le_of_ble_eq_true rfl) wr_7_60 rfl ?_
  refine Gw_callS (As := [.int p667565, .int z667717, .ref q667723]) (gV_ok D I) (cp_667760_Integer_getChars l hl0 D I P667731 F667732 q667723 p667565 z667717 f667725 n667724 hm667737 he667736 ⟨by omega, by omega⟩ bf667725 (by have qa0 : Int32.toInt 0 = 0 := (by decide); omega) (by have q10 : Int32.toInt 10 = 10 := (by decide); have q11 : Int32.toInt 11 = 11 := (by decide); first | exact dgS_up (by omega) (by omega) x667715 (by omega)) (by have qa0 : Int32.toInt 0 = 0 := (by decide); omega)) dr_cJ5_append_c97b9_30 ⟨wr_8_115, wr_1_35, wr_8_117, by decide, rfl, (Nat.le_of_ble_eq_true rfl), (Nat.le_of_ble_eq_true rfl)⟩ wr_8_116 (show 1 + 0 ≤ 1 by first | omega | decide) (show 2 * (n667724 - n667569) + 0 + 0 ≤ (4 * n667569 + 64) by first | omega | decide) (Nat.le_of_ble_eq_true rfl) (fun r668158 w668159 dc668155 ds668156 hp668157 => ?_) (fun _ _ _ _ _ z => z.elim)
  obtain ⟨F668163, o668160, f668161, rfl, rfl, hfr668165, he668166, hdc, hds, bo668160, bf668161, ht668162⟩ := hp668157
  have he668167 : F668163 q667563 = .inr (1, [.ref q667723, .int 0, .int p667566, .int p667567]) := (hfr668165 q667563 hm667739 (nm_c (rn_oa he667735 he667736) nm_n)).trans he667735
  have hfr668168 : rFr [q667563, q667564] P667561 F667562 F668163 := rFr_call hsb667742 hfr667744 hfr668165 (fun b hb hn => ⟨(nm_c (fun e => hn (e ▸ List.mem_cons_self)) nm_n), (nm_c (fun e => hor667741.elim (fun e2 => hn ((e.trans e2) ▸ (List.mem_cons_of_mem _ List.mem_cons_self))) (fun n => n (e ▸ hb))) nm_n)⟩)
  change G _ _ _ _ _ _ _ (.int o668160 :: _) _ _ _
  refine G_widen (cs' := 1) (sl' := 2 * (n667724 - n667569) + 0 + 0) (by omega) (by omega) ?_
  refine G_pop dr_cJ5_append_c97b9_33 rfl ?_
  refine G_goto 48 dr_cJ5_append_c97b9_34 (by decide +kernel) ?_
  refine G_aload_n 2 dr_cJ5_append_c97b9_48 rfl ?_
  refine G_iload_n 0 dr_cJ5_append_c97b9_49 rfl ?_
  refine Gp_put 3 hm667739 he668167 dr_cJ5_append_c97b9_50 (gk_J4 D I) (Nat.le_of_ble_eq_true rfl) wr_7_64 rfl rfl rfl (Nat.le_of_ble_eq_true rfl) (fun F668169 e668170 n668171 => ?_)
  have he668172 : F668169 q667723 = .inl (I .byte, n667724, .inl f668161) := (n668171 q667723 (rn_ao he668166 he668167)).trans he668166
  have he668173 : F668169 q667563 = .inr (1, [.ref q667723, .int 0, .int p667566, .int z667717]) := e668170
  have hfr668174 : rFr [q667563, q667564] P667561 F667562 F668169 := rFr_put' List.mem_cons_self hfr668168 n668171
  refine G_aload_n 2 dr_cJ5_append_c97b9_53 rfl ?_
  exact G_aretA (FieldType.object "java/lang/AbstractStringBuilder") dr_cJ5_append_c97b9_54 rfl (by first | exact Or.inl ⟨_, rfl⟩ | exact Or.inr ⟨_, rfl⟩) (Or.inr ⟨_, rfl⟩) (Nat.le_of_ble_eq_true rfl) (show 2 * (n667724 - n667569) + 0 + 0 ≤ (4 * n667569 + 64) by omega) ⟨P667731, F668169, z667717, q667723, n667724, f668161, rfl, rfl, hsb667742, hfr668174, he668173, he668172, hm667737, hor667741, (Nat.le_of_ble_eq_true rfl), (by omega), ⟨by omega, by omega⟩, bf668161, (by have qa0 : Int32.toInt 0 = 0 := (by decide); omega), (by have qa0 : Int32.toInt 0 = 0 := (by decide); omega), (by have qa0 : Int32.toInt 0 = 0 := (by decide); omega), (by have qa0 : Int32.toInt 0 = 0 := (by decide); omega), (by have qa0 : Int32.toInt 0 = 0 := (by decide); omega), (fun R c1 => c1 o667714 z667717 n667724 f667725 o668160 f668161 bo667714 ht667716 ez667717 ht667730 bo668160 ht668162)⟩
/- tr_RStringBuilder_append7: a.0...count, a.0.value.#, a.0.value.[] -/
def tr_RStringBuilder_append7 (a1 : Int32) (a0_count : Int32) (a0_value_v : Nat → Int32) (a0_value_n : Nat) (o1 : Int32) (o2 : Nat) (o3 : Nat → Int32) : Prop := ∀ R : (Int32) → (Nat) → (Nat → Int32) → Prop,
  (∀ (x1 : Int32) (x2 : Nat) (x3 : Nat → Int32), gB x1 1 16777216 → tr_RAbstractStringBuilder_append7 a1 a0_count a0_value_v a0_value_n x1 x2 x3 → R x1 x2 x3) →
  R o1 o2 o3
abbrev ky_667560_StringBuilder_append : gKey := (cJ4_append_bf812, 2, "java/lang/StringBuilder", (some (FieldType.object "java/lang/StringBuilder")), [], "append", fun _ _ => True)
def pp_667560_StringBuilder_append (D : va_G) (I : FieldType → ClassId) (P667548 : List Nat) (F667549 : Nat → va_E) (q667550 : Nat) (q667551 : Nat) (p667552 : Int32) (p667553 : Int32) (p667554 : Int32) (f667555 : Nat → Int32) (n667556 : Nat) : Option Value → va_W → Nat → Nat → Prop := fun r w dc ds => ∃ (P668213 : List Nat) (F668214 : Nat → va_E) (o668209 : Int32) (q668210 : Nat) (n668211 : Nat) (f668212 : Nat → Int32), r = some (.ref q667550) ∧ w = va_pl P668213 F668214 ∧ rSub P667548 P668213 ∧ rFr [q667550, q667551] P667548 F667549 F668214 ∧ F668214 q667550 = .inr (1, [.ref q668210, .int 0, .int p667553, .int o668209]) ∧ F668214 q668210 = .inl (I .byte, n668211, .inl f668212) ∧ q668210 ∈ P668213 ∧ (q668210 = q667551 ∨ q668210 ∉ P667548) ∧ dc ≤ 1 ∧ ds ≤ 2 * (n668211 - n667556) ∧ gB o668209 1 16777216 ∧ gF f668212 (-128) 127 ∧ p667554.toInt ≤ o668209.toInt ∧ o668209.toInt ≤ p667554.toInt + 11 ∧ o668209.toInt ≤ (n668211 : Int) ∧ (n667556 : Int) ≤ (n668211 : Int) ∧ ((n668211 : Int) ≤ 2 * (n667556 : Int) + 2 ∨ (n668211 : Int) ≤ p667554.toInt + 11) ∧ tr_RStringBuilder_append7 p667552 p667554 f667555 n667556 o668209 n668211 f668212
set_option maxRecDepth 100000 in
set_option maxHeartbeats 4000000 in
theorem cp_667560_StringBuilder_append (l : Launch) (hl0 : l.stackTraces = false) (D : va_G) (I : FieldType → ClassId) (P667548 : List Nat) (F667549 : Nat → va_E) (q667550 : Nat) (q667551 : Nat) (p667552 : Int32) (p667553 : Int32) (p667554 : Int32) (f667555 : Nat → Int32) (n667556 : Nat) (hmq667550 : q667550 ∈ P667548) (hmq667551 : q667551 ∈ P667548) (heq667550 : F667549 q667550 = .inr (1, [.ref q667551, .int 0, .int p667553, .int p667554])) (heq667551 : F667549 q667551 = .inl (I .byte, n667556, .inl f667555)) (bp667553 : gB p667553 0 1) (bp667554 : gB p667554 0 16777216) (bf667555 : gF f667555 (-128) 127) (x667557 : (n667556 : Int) ≤ 8388608 - 100000) (x667558 : p667554.toInt ≤ (n667556 : Int)) (x667559 : ((n667556 : Int) ≤ 16777216)) : CtA (gV D I) l yJ4_append_bf812 cJ4_append_bf812 2 (some (FieldType.object "java/lang/StringBuilder")) 5 107 1 (4 * n667556 + 64) [.ref q667550, .int p667552] (va_pl P667548 F667549) (pp_667560_StringBuilder_append D I P667548 F667549 q667550 q667551 p667552 p667553 p667554 f667555 n667556) gNA := by
  refine CtA_ofF hl0 (by decide +kernel) (Nat.le_of_ble_eq_true rfl) ?_
  have bp667552 := gB_any p667552
  refine G_aload_n 0 dr_cJ4_append_bf812_0 rfl ?_
  refine G_iload_n 1 dr_cJ4_append_bf812_1 rfl ?_
  refine Gw_callSU (As := [.int p667552]) (gV_ok D I) (cp_667573_AbstractStringBuilder_append l hl0 D I P667548 F667549 q667550 q667551 p667552 p667553 p667554 f667555 n667556 hmq667550 hmq667551 heq667550 heq667551 bp667553 bp667554 bf667555 (by have qa0 : Int32.toInt 0 = 0 := (by decide); omega) (by have qa0 : Int32.toInt 0 = 0 := (by decide); omega) (by have qa0 : Int32.toInt 0 = 0 := (by decide); omega)) dr_cJ4_append_bf812_2 ⟨wr_8_109, wr_1_19, wr_8_111, by decide, rfl, (Nat.le_of_ble_eq_true rfl), (Nat.le_of_ble_eq_true rfl)⟩ wr_8_110 wr_11_228 wr_7_73 wr_7_44 (by decide) hmq667550 heq667550 rfl (show 0 + 1 ≤ 1 by first | omega | decide) (show 0 + (4 * n667556 + 64) ≤ (4 * n667556 + 64) by first | omega | decide) (Nat.le_of_ble_eq_true rfl) (fun r668184 w668185 dc668181 ds668182 hp668183 => ?_)
  obtain ⟨P668196, F668197, o668186, q668187, n668188, f668189, rfl, rfl, hsb668198, hfr668199, he668200, he668201, hm668202, hq668203, hdc, hds, bo668186, bf668189, x668190, x668191, x668192, x668193, x668194, ht668195⟩ := hp668183
  have hm668204 : q667550 ∈ P668196 := hsb668198 q667550 hmq667550
  have hm668205 : q667551 ∈ P668196 := hsb668198 q667551 hmq667551
  have hor668206 : q668187 = q667551 ∨ q668187 ∉ P667548 := hq668203.elim Or.inl (fun n => Or.inr (fun z => n ((rSub_rf (P := P667548)) _ z)))
  have hsb668207 : rSub P667548 P668196 := rSub_tr (rSub_rf (P := P667548)) hsb668198
  have hfr668208 : rFr [q667550, q667551] P667548 F667549 F668197 := rFr_call (rSub_rf (P := P667548)) (rFr_rf (W := []) (P := P667548) (F := F667549)) hfr668199 (fun b hb hn => ⟨nm_n, (nm_c (fun e => hn (e ▸ List.mem_cons_self)) (nm_c (fun e => hn (e ▸ (List.mem_cons_of_mem _ List.mem_cons_self))) nm_n))⟩)
  change G _ _ _ _ _ _ _ (.ref q667550 :: _) _ _ _
  refine G_widen (cs' := 1) (sl' := 2 * (n668188 - n667556)) (by omega) (by omega) ?_
  refine G_pop dr_cJ4_append_bf812_5 rfl ?_
  refine G_aload_n 0 dr_cJ4_append_bf812_6 rfl ?_
  exact G_aretA (FieldType.object "java/lang/StringBuilder") dr_cJ4_append_bf812_7 rfl (by first | exact Or.inl ⟨_, rfl⟩ | exact Or.inr ⟨_, rfl⟩) (Or.inr ⟨_, rfl⟩) (Nat.le_of_ble_eq_true rfl) (show 2 * (n668188 - n667556) ≤ (4 * n667556 + 64) by omega) ⟨P668196, F668197, o668186, q668187, n668188, f668189, rfl, rfl, hsb668207, hfr668208, he668200, he668201, hm668202, hor668206, (Nat.le_of_ble_eq_true rfl), (by omega), bo668186, bf668189, (by have qa0 : Int32.toInt 0 = 0 := (by decide); omega), (by have qa0 : Int32.toInt 0 = 0 := (by decide); omega), (by have qa0 : Int32.toInt 0 = 0 := (by decide); omega), (by have qa0 : Int32.toInt 0 = 0 := (by decide); omega), (by have qa0 : Int32.toInt 0 = 0 := (by decide); omega), (fun R c1 => c1 o668186 n668188 f668189 bo668186 ht668195)⟩
/- tr_RReader_isDigit2: result -/
def tr_RReader_isDigit2 (a0 : Int32) (o1 : Int32) : Prop := ∀ R : (Int32) → Prop,
  (a0.toInt < 48 → R (0 : Int32)) →
  (48 ≤ a0.toInt → 57 < a0.toInt → R (0 : Int32)) →
  (48 ≤ a0.toInt → a0.toInt ≤ 57 → R (1 : Int32)) →
  R o1
abbrev ky_668275_Reader_isDigit : gKey := (cX14_isDigit, 1, "SpillForgeModel$Reader", (some FieldType.boolean), [], "isDigit", fun _ _ => True)
def pp_668275_Reader_isDigit (D : va_G) (I : FieldType → ClassId) (P668272 : List Nat) (F668273 : Nat → va_E) (p668274 : Int32) : Option Value → va_W → Nat → Nat → Prop := fun r w dc ds => ∃ (o668282 : Int32), r = some (.int o668282) ∧ w = va_pl P668272 F668273 ∧ dc ≤ 0 ∧ ds ≤ 0 ∧ gB o668282 0 1 ∧ isP p668274 48 57 o668282 ∧ tr_RReader_isDigit2 p668274 o668282
set_option maxRecDepth 100000 in
set_option maxHeartbeats 4000000 in
theorem cp_668275_Reader_isDigit (l : Launch) (hl0 : l.stackTraces = false) (D : va_G) (I : FieldType → ClassId) (P668272 : List Nat) (F668273 : Nat → va_E) (p668274 : Int32)  : CtA (gV D I) l yX14_isDigit cX14_isDigit 1 (some FieldType.boolean) 0 0 0 0 [.int p668274] (va_pl P668272 F668273) (pp_668275_Reader_isDigit D I P668272 F668273 p668274) gNA := by
  refine CtA_of hl0 (by decide) (Nat.le_of_ble_eq_true rfl) ?_
  have bp668274 := gB_any p668274
  refine G_iload_n 0 dr_cX14_isDigit_0 rfl ?_
  refine G_bipush 48 dr_cX14_isDigit_1 (by decide +kernel) ?_
  refine G_icmp_lt 16 dr_cX14_isDigit_3 (by decide +kernel) (fun hc668276 => ?_) (fun hc668276 => ?_)
  · have r668277 : p668274.toInt < 48 := gj_lt hc668276 (show Int32.toInt 48 = 48 by decide)
    have bp668274' : gB p668274 (-2147483648) 47 := ⟨by omega, by omega⟩
    refine G_iconst 0 dr_cX14_isDigit_16 (by decide +kernel) ?_
    exact G_zretA FieldType.boolean dr_cX14_isDigit_17 rfl rfl (Nat.le_of_ble_eq_true rfl) (Nat.le_of_ble_eq_true rfl) ⟨0, rfl, rfl, (Nat.le_of_ble_eq_true rfl), (Nat.le_of_ble_eq_true rfl), (gB_w (gBl (show Int32.toInt 0 = 0 by decide)) (by decide) (by decide)), (isP_n (by omega)), (fun R c1 c2 c3 => c1 r668277)⟩
  · have r668278 : 48 ≤ p668274.toInt := gj_nlt hc668276 (show Int32.toInt 48 = 48 by decide)
    have bp668274' : gB p668274 48 2147483647 := ⟨by omega, by omega⟩
    refine G_iload_n 0 dr_cX14_isDigit_6 rfl ?_
    refine G_bipush 57 dr_cX14_isDigit_7 (by decide +kernel) ?_
    refine G_icmp_gt 16 dr_cX14_isDigit_9 (by decide +kernel) (fun hc668279 => ?_) (fun hc668279 => ?_)
    · have r668280 : 57 < p668274.toInt := gj_ltL hc668279 (show Int32.toInt 57 = 57 by decide)
      have bp668274'' : gB p668274 58 2147483647 := ⟨by omega, by omega⟩
      refine G_iconst 0 dr_cX14_isDigit_16 (by decide +kernel) ?_
      exact G_zretA FieldType.boolean dr_cX14_isDigit_17 rfl rfl (Nat.le_of_ble_eq_true rfl) (Nat.le_of_ble_eq_true rfl) ⟨0, rfl, rfl, (Nat.le_of_ble_eq_true rfl), (Nat.le_of_ble_eq_true rfl), (gB_w (gBl (show Int32.toInt 0 = 0 by decide)) (by decide) (by decide)), (isP_n (by omega)), (fun R c1 c2 c3 => c2 r668278 r668280)⟩
    · have r668281 : p668274.toInt ≤ 57 := gj_nltL hc668279 (show Int32.toInt 57 = 57 by decide)
      have bp668274'' : gB p668274 48 57 := ⟨by omega, by omega⟩
      refine G_iconst 1 dr_cX14_isDigit_12 (by decide +kernel) ?_
      refine G_goto 17 dr_cX14_isDigit_13 (by decide +kernel) ?_
      exact G_zretA FieldType.boolean dr_cX14_isDigit_17 rfl rfl (Nat.le_of_ble_eq_true rfl) (Nat.le_of_ble_eq_true rfl) ⟨1, rfl, rfl, (Nat.le_of_ble_eq_true rfl), (Nat.le_of_ble_eq_true rfl), (gB_w (gBl (show Int32.toInt 1 = 1 by decide)) (by decide) (by decide)), (isP_y (by omega) (by omega)), (fun R c1 c2 c3 => c3 r668278 r668281)⟩
/- tr_RMath_min: result -/
def tr_RMath_min (a0 : Int64) (a1 : Int64) (o1 : Int64) : Prop := ∀ R : (Int64) → Prop,
  (∀ (x1 : Int32), x1 = lg_cmp a0 a1 → 0 < x1.toInt → R a1) →
  (∀ (x1 : Int32), x1 = lg_cmp a0 a1 → x1.toInt ≤ 0 → R a0) →
  R o1
abbrev ky_668329_Math_min : gKey := (cJ9_min_f86c9, 4, "java/lang/Math", (some FieldType.long), [], "min", fun _ _ => True)
def pp_668329_Math_min (D : va_G) (I : FieldType → ClassId) (P668325 : List Nat) (F668326 : Nat → va_E) (pl668327 : Int64) (pl668328 : Int64) : Option Value → va_W → Nat → Nat → Prop := fun r w dc ds => ∃ (ol668334 : Int64), r = some (.long ol668334) ∧ w = va_pl P668325 F668326 ∧ dc ≤ 0 ∧ ds ≤ 0 ∧ lmP pl668327 pl668328 ol668334 ∧ tr_RMath_min pl668327 pl668328 ol668334
set_option maxRecDepth 100000 in
set_option maxHeartbeats 4000000 in
theorem cp_668329_Math_min (l : Launch) (hl0 : l.stackTraces = false) (D : va_G) (I : FieldType → ClassId) (P668325 : List Nat) (F668326 : Nat → va_E) (pl668327 : Int64) (pl668328 : Int64)  : CtA (gV D I) l yJ9_min_f86c9 cJ9_min_f86c9 4 (some FieldType.long) 0 0 0 0 [.long pl668327, .long pl668328] (va_pl P668325 F668326) (pp_668329_Math_min D I P668325 F668326 pl668327 pl668328) gNA := by
  refine CtA_ofF hl0 (by decide +kernel) (Nat.le_of_ble_eq_true rfl) ?_
  refine G_lload_n 0 dr_cJ9_min_f86c9_0 rfl ?_
  refine G_lload_n 1 dr_cJ9_min_f86c9_1 rfl ?_
  refine G_lcmp dr_cJ9_min_f86c9_2 (G_nam fun z668330 hz668330 => ?_)
  have bz668330 : gB z668330 (-1) 1 := gB_cmp hz668330
  refine G_if_gt 10 dr_cJ9_min_f86c9_3 (by decide +kernel) (fun hc668331 => ?_) (fun hc668331 => ?_)
  · have r668332 : 0 < z668330.toInt := gj_ltL hc668331 (show Int32.toInt 0 = 0 by decide)
    have bz668330' : gB z668330 1 1 := ⟨by omega, by omega⟩
    have lhc668331 := gC_cmpS hz668330 (by omega)
    refine G_lload_n 1 dr_cJ9_min_f86c9_10 rfl ?_
    exact G_lretA dr_cJ9_min_f86c9_11 rfl (Nat.le_of_ble_eq_true rfl) (Nat.le_of_ble_eq_true rfl) ⟨pl668328, rfl, rfl, (Nat.le_of_ble_eq_true rfl), (Nat.le_of_ble_eq_true rfl), (by first | exact lm_r | exact lm_l (by assumption) (by omega)), (fun R c1 c2 => c1 z668330 hz668330 r668332)⟩
  · have r668333 : z668330.toInt ≤ 0 := gj_nltL hc668331 (show Int32.toInt 0 = 0 by decide)
    have bz668330' : gB z668330 (-1) 0 := ⟨by omega, by omega⟩
    refine G_lload_n 0 dr_cJ9_min_f86c9_6 rfl ?_
    refine G_goto 11 dr_cJ9_min_f86c9_7 (by decide +kernel) ?_
    exact G_lretA dr_cJ9_min_f86c9_11 rfl (Nat.le_of_ble_eq_true rfl) (Nat.le_of_ble_eq_true rfl) ⟨pl668327, rfl, rfl, (Nat.le_of_ble_eq_true rfl), (Nat.le_of_ble_eq_true rfl), (by first | exact lm_r | exact lm_l (by assumption) (by omega)), (fun R c1 c2 => c2 z668330 hz668330 r668333)⟩
/- tl_RReader_number_16: l2, a0_at; out: l2, a0_at -/
def tl_RReader_number_16 (a0_n : Int32) (a0_t_v : Nat → Int32) (s1 : Int64) (s2 : Int32) (k : Nat) (e1 : Int64) (e2 : Int32) : Prop := ∀ R : (Int64) → (Int32) → Nat → (Int64) → (Int32) → Prop,
  (∀ (l2_1 : Int64) (a0_at_1 : Int32), gB a0_at_1 0 8192 → a0_n.toInt ≤ a0_at_1.toInt → R l2_1 a0_at_1 82 l2_1 a0_at_1) →
  (∀ (l2_1 : Int64) (a0_at_1 : Int32) (x1 : Int32) (x2 : Int32), gB a0_at_1 0 8192 → a0_at_1.toInt < a0_n.toInt → x1 = a0_t_v a0_at_1.toNatClampNeg → gB x1 (-128) 127 → gB x2 0 1 → tr_RReader_isDigit2 x1 x2 → x2.toInt = 0 → R l2_1 a0_at_1 82 l2_1 a0_at_1) →
  (∀ (l2_1 : Int64) (a0_at_1 : Int32) (x1 : Int32) (x2 : Int32) (x3 : Int64) (x4 : Int64) (x5 : Int64) (x6 : Int64) (x7 : Int64) (x8 : Int32) (k : Nat) (e1 : Int64) (e2 : Int32), gB a0_at_1 0 8192 → a0_at_1.toInt < a0_n.toInt → x1 = a0_t_v a0_at_1.toNatClampNeg → gB x1 (-128) 127 → gB x2 0 1 → tr_RReader_isDigit2 x1 x2 → x2.toInt ≠ 0 → x3 = l2_1 * (10 : Int64) → x4 = x1.toInt64 → x5 = x3 + x4 → x6 = x5 - (48 : Int64) → tr_RMath_min x6 (1099511627776 : Int64) x7 → x8.toInt = a0_at_1.toInt + 1 → R x7 x8 k e1 e2 → R l2_1 a0_at_1 k e1 e2) →
  R s1 s2 k e1 e2
/- tl_RReader_number_16_2: l2, a0_at; out: l2, a0_at -/
def tl_RReader_number_16_2 (a0_n : Int32) (a0_t_v : Nat → Int32) (s1 : Int64) (s2 : Int32) (k : Nat) (e1 : Int64) (e2 : Int32) : Prop := ∀ R : (Int64) → (Int32) → Nat → (Int64) → (Int32) → Prop,
  (∀ (l2_1 : Int64) (a0_at_1 : Int32), gB a0_at_1 0 8192 → a0_n.toInt ≤ a0_at_1.toInt → R l2_1 a0_at_1 82 l2_1 a0_at_1) →
  (∀ (l2_1 : Int64) (a0_at_1 : Int32) (x1 : Int32) (x2 : Int32), gB a0_at_1 0 8192 → a0_at_1.toInt < a0_n.toInt → x1 = a0_t_v a0_at_1.toNatClampNeg → gB x1 (-128) 127 → gB x2 0 1 → tr_RReader_isDigit2 x1 x2 → x2.toInt = 0 → R l2_1 a0_at_1 82 l2_1 a0_at_1) →
  (∀ (l2_1 : Int64) (a0_at_1 : Int32) (x1 : Int32) (x2 : Int32) (x3 : Int64) (x4 : Int64) (x5 : Int64) (x6 : Int64) (x7 : Int64) (x8 : Int32) (k : Nat) (e1 : Int64) (e2 : Int32), gB a0_at_1 0 8192 → a0_at_1.toInt < a0_n.toInt → x1 = a0_t_v a0_at_1.toNatClampNeg → gB x1 (-128) 127 → gB x2 0 1 → tr_RReader_isDigit2 x1 x2 → x2.toInt ≠ 0 → x3 = l2_1 * (10 : Int64) → x4 = x1.toInt64 → x5 = x3 + x4 → x6 = x5 - (48 : Int64) → tr_RMath_min x6 (1099511627776 : Int64) x7 → x8.toInt = a0_at_1.toInt + 1 → R x7 x8 k e1 e2 → R l2_1 a0_at_1 k e1 e2) →
  R s1 s2 k e1 e2
/- tr_RReader_number: a.0...at, a.0...kind, a.0...value -/
def tr_RReader_number (a1 : Int32) (a0_n : Int32) (a0_at : Int32) (a0_t_v : Nat → Int32) (o1 : Int32) (o2 : Int32) (o3 : Int32) (o4 : gTx) : Prop := ∀ R : (Int32) → (Int32) → (Int32) → (gTx) → Prop,
  (∀ (x1 : Int64) (x2 : Int32) (x3 : Int32) (x4 : Int32) (x5 : Int64), a1.toInt = 0 → tl_RReader_number_16 a0_n a0_t_v (0 : Int64) a0_at 82 x1 x2 → x3 = x1.toInt32 → x4 = x1.toInt32 → x5 = x4.toInt64 → (¬ x1 = x5) → R x2 (6 : Int32) x3 (0, fun _ => 0)) →
  (∀ (x1 : Int64) (x2 : Int32) (x3 : Int32) (x4 : Int32) (x5 : Int64), a1.toInt = 0 → tl_RReader_number_16 a0_n a0_t_v (0 : Int64) a0_at 82 x1 x2 → x3 = x1.toInt32 → x4 = x1.toInt32 → x5 = x4.toInt64 → x1 = x5 → R x2 (4 : Int32) x3 (0, fun _ => 0)) →
  (∀ (x1 : Int32) (x2 : Int64) (x3 : Int32) (x4 : Int64) (x5 : Int32) (x6 : Int32) (x7 : Int64), a1.toInt ≠ 0 → x1.toInt = a0_at.toInt + 1 → tl_RReader_number_16_2 a0_n a0_t_v (0 : Int64) x1 82 x2 x3 → x4 = -x2 → x5 = x4.toInt32 → x6 = x4.toInt32 → x7 = x6.toInt64 → (¬ x4 = x7) → R x3 (6 : Int32) x5 (0, fun _ => 0)) →
  (∀ (x1 : Int32) (x2 : Int64) (x3 : Int32) (x4 : Int64) (x5 : Int32) (x6 : Int32) (x7 : Int64), a1.toInt ≠ 0 → x1.toInt = a0_at.toInt + 1 → tl_RReader_number_16_2 a0_n a0_t_v (0 : Int64) x1 82 x2 x3 → x4 = -x2 → x5 = x4.toInt32 → x6 = x4.toInt32 → x7 = x6.toInt64 → x4 = x7 → R x3 (4 : Int32) x5 (0, fun _ => 0)) →
  R o1 o2 o3 o4
end
