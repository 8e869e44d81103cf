theorem dr_cJ5_getValue_6d5f1_0 : decode cJ5_getValue_6d5f1 0 = .ok (.aload_n 0, 1) := by decide +kernel
theorem dr_cJ5_getValue_6d5f1_1 : decode cJ5_getValue_6d5f1 1 = .ok (.getfield 15, 3) := by decide +kernel
theorem dr_cJ5_getValue_6d5f1_4 : decode cJ5_getValue_6d5f1 4 = .ok (.areturn, 1) := by decide +kernel
theorem dr_cJ7_checkLength_df160_0 : decode cJ7_checkLength_df160 0 = .ok (.iload_n 1, 1) := by decide +kernel
theorem dr_cJ7_checkLength_df160_1 : decode cJ7_checkLength_df160 1 = .ok (.iload_n 0, 1) := by decide +kernel
theorem dr_cJ7_checkLength_df160_2 : decode cJ7_checkLength_df160 2 = .ok (.if_icmp .ge 35, 3) := by decide +kernel
theorem dr_cJ7_checkLength_df160_37 : decode cJ7_checkLength_df160 37 = .ok (.return_, 1) := by decide +kernel
theorem dr_cJ7_copyOfRangeByte_39247_0 : decode cJ7_copyOfRangeByte_39247 0 = .ok (.iload_n 1, 1) := by decide +kernel
theorem dr_cJ7_copyOfRangeByte_39247_1 : decode cJ7_copyOfRangeByte_39247 1 = .ok (.iload_n 2, 1) := by decide +kernel
theorem dr_cJ7_copyOfRangeByte_39247_2 : decode cJ7_copyOfRangeByte_39247 2 = .ok (.invokestatic 343, 3) := by decide +kernel
theorem wr_8_95 : (Jvm.Cond.methodLink "java/util/Arrays" (343 : Nat) ({ cls := "java/util/Arrays", name := "checkLength", desc := "(II)V" } : Jvm.MethodName)) ∈ gw := gw_8 95 rfl rfl
theorem wr_8_97 : (Jvm.Cond.code ({ cls := "java/util/Arrays", name := "checkLength", desc := "(II)V" } : Jvm.MethodName) prog_44_method_131_code (2 : Nat) (Option.none : Option Jvm.ClassFile.FieldType)) ∈ gw := gw_8 97 rfl rfl
theorem wr_8_96 : (Jvm.Cond.static ({ cls := "java/util/Arrays", name := "checkLength", desc := "(II)V" } : Jvm.MethodName)) ∈ gw := gw_8 96 rfl rfl
theorem dr_cJ7_copyOfRangeByte_39247_5 : decode cJ7_copyOfRangeByte_39247 5 = .ok (.iload_n 2, 1) := by decide +kernel
theorem dr_cJ7_copyOfRangeByte_39247_6 : decode cJ7_copyOfRangeByte_39247 6 = .ok (.iload_n 1, 1) := by decide +kernel
theorem dr_cJ7_copyOfRangeByte_39247_7 : decode cJ7_copyOfRangeByte_39247 7 = .ok (.isub, 1) := by decide +kernel
theorem dr_cJ7_copyOfRangeByte_39247_8 : decode cJ7_copyOfRangeByte_39247 8 = .ok (.istore_n 3, 1) := by decide +kernel
theorem dr_cJ7_copyOfRangeByte_39247_9 : decode cJ7_copyOfRangeByte_39247 9 = .ok (.iload_n 3, 1) := by decide +kernel
theorem dr_cJ7_copyOfRangeByte_39247_10 : decode cJ7_copyOfRangeByte_39247 10 = .ok (.newarray .byte, 2) := by decide +kernel
theorem dr_cJ7_copyOfRangeByte_39247_12 : decode cJ7_copyOfRangeByte_39247 12 = .ok (.astore 4, 2) := by decide +kernel
theorem dr_cJ7_copyOfRangeByte_39247_14 : decode cJ7_copyOfRangeByte_39247 14 = .ok (.aload_n 0, 1) := by decide +kernel
theorem dr_cJ7_copyOfRangeByte_39247_15 : decode cJ7_copyOfRangeByte_39247 15 = .ok (.iload_n 1, 1) := by decide +kernel
theorem dr_cJ7_copyOfRangeByte_39247_16 : decode cJ7_copyOfRangeByte_39247 16 = .ok (.aload 4, 2) := by decide +kernel
theorem dr_cJ7_copyOfRangeByte_39247_18 : decode cJ7_copyOfRangeByte_39247 18 = .ok (.iconst 0, 1) := by decide +kernel
theorem dr_cJ7_copyOfRangeByte_39247_19 : decode cJ7_copyOfRangeByte_39247 19 = .ok (.aload_n 0, 1) := by decide +kernel
theorem dr_cJ7_copyOfRangeByte_39247_20 : decode cJ7_copyOfRangeByte_39247 20 = .ok (.arraylength, 1) := by decide +kernel
theorem dr_cJ7_copyOfRangeByte_39247_21 : decode cJ7_copyOfRangeByte_39247 21 = .ok (.iload_n 1, 1) := by decide +kernel
theorem dr_cJ7_copyOfRangeByte_39247_22 : decode cJ7_copyOfRangeByte_39247 22 = .ok (.isub, 1) := by decide +kernel
theorem dr_cJ7_copyOfRangeByte_39247_23 : decode cJ7_copyOfRangeByte_39247 23 = .ok (.iload_n 3, 1) := by decide +kernel
theorem dr_cJ7_copyOfRangeByte_39247_24 : decode cJ7_copyOfRangeByte_39247 24 = .ok (.invokestatic 304, 3) := by decide +kernel
theorem dr_cJ7_copyOfRangeByte_39247_27 : decode cJ7_copyOfRangeByte_39247 27 = .ok (.invokestatic 150, 3) := by decide +kernel
theorem dr_cJ7_copyOfRangeByte_39247_30 : decode cJ7_copyOfRangeByte_39247 30 = .ok (.aload 4, 2) := by decide +kernel
theorem dr_cJ7_copyOfRangeByte_39247_32 : decode cJ7_copyOfRangeByte_39247 32 = .ok (.areturn, 1) := by decide +kernel
theorem dr_cJ7_copyOfRange_39247_0 : decode cJ7_copyOfRange_39247 0 = .ok (.iload_n 1, 1) := by decide +kernel
theorem dr_cJ7_copyOfRange_39247_1 : decode cJ7_copyOfRange_39247 1 = .ok (.ifCond .ne 9, 3) := by decide +kernel
theorem dr_cJ7_copyOfRange_39247_4 : decode cJ7_copyOfRange_39247 4 = .ok (.iload_n 2, 1) := by decide +kernel
theorem dr_cJ7_copyOfRange_39247_5 : decode cJ7_copyOfRange_39247 5 = .ok (.aload_n 0, 1) := by decide +kernel
theorem dr_cJ7_copyOfRange_39247_6 : decode cJ7_copyOfRange_39247 6 = .ok (.arraylength, 1) := by decide +kernel
theorem dr_cJ7_copyOfRange_39247_7 : decode cJ7_copyOfRange_39247 7 = .ok (.if_icmp .eq 10, 3) := by decide +kernel
theorem dr_cJ7_copyOfRange_39247_17 : decode cJ7_copyOfRange_39247 17 = .ok (.aload_n 0, 1) := by decide +kernel
theorem dr_cJ7_copyOfRange_39247_18 : decode cJ7_copyOfRange_39247 18 = .ok (.invokevirtual 310, 3) := by decide +kernel
theorem wr_8_20 : (Jvm.Cond.methodLink "java/util/Arrays" (310 : Nat) ({ cls := "[B", name := "clone", desc := "()Ljava/lang/Object;" } : Jvm.MethodName)) ∈ gw := gw_8 20 rfl rfl
theorem wr_8_21 : (Jvm.Cond.sameMethod "[B" "java/lang/Object" "clone" "()Ljava/lang/Object;") ∈ gw := gw_8 21 rfl rfl
theorem wr_8_22 : (Jvm.Cond.native ({ cls := "java/lang/Object", name := "clone", desc := "()Ljava/lang/Object;" } : Jvm.MethodName)) ∈ gw := gw_8 22 rfl rfl
theorem wr_8_23 : (Jvm.Cond.instanceMethod ({ cls := "java/lang/Object", name := "clone", desc := "()Ljava/lang/Object;" } : Jvm.MethodName)) ∈ gw := gw_8 23 rfl rfl
theorem wr_8_24 : (Jvm.Cond.selects "[B" ({ cls := "[B", name := "clone", desc := "()Ljava/lang/Object;" } : Jvm.MethodName) ({ cls := "java/lang/Object", name := "clone", desc := "()Ljava/lang/Object;" } : Jvm.MethodName)) ∈ gw := gw_8 24 rfl rfl
theorem dr_cJ7_copyOfRange_39247_21 : decode cJ7_copyOfRange_39247 21 = .ok (.checkcast 311, 3) := by decide +kernel
theorem wr_8_26 : (Jvm.Cond.classLink "java/util/Arrays" (311 : Nat) "[B") ∈ gw := gw_8 26 rfl rfl
theorem dr_cJ7_copyOfRange_39247_24 : decode cJ7_copyOfRange_39247 24 = .ok (.areturn, 1) := by decide +kernel
theorem dr_cJ7_copyOfRange_39247_10 : decode cJ7_copyOfRange_39247 10 = .ok (.aload_n 0, 1) := by decide +kernel
theorem dr_cJ7_copyOfRange_39247_11 : decode cJ7_copyOfRange_39247 11 = .ok (.iload_n 1, 1) := by decide +kernel
theorem dr_cJ7_copyOfRange_39247_12 : decode cJ7_copyOfRange_39247 12 = .ok (.iload_n 2, 1) := by decide +kernel
theorem dr_cJ7_copyOfRange_39247_13 : decode cJ7_copyOfRange_39247 13 = .ok (.invokestatic 339, 3) := by decide +kernel
theorem wr_8_92 : (Jvm.Cond.methodLink "java/util/Arrays" (339 : Nat) ({ cls := "java/util/Arrays", name := "copyOfRangeByte", desc := "([BII)[B" } : Jvm.MethodName)) ∈ gw := gw_8 92 rfl rfl
theorem wr_8_94 : (Jvm.Cond.code ({ cls := "java/util/Arrays", name := "copyOfRangeByte", desc := "([BII)[B" } : Jvm.MethodName) prog_44_method_133_code (5 : Nat) (Option.some (Jvm.ClassFile.FieldType.array Jvm.ClassFile.FieldType.byte))) ∈ gw := gw_8 94 rfl rfl
theorem wr_8_93 : (Jvm.Cond.static ({ cls := "java/util/Arrays", name := "copyOfRangeByte", desc := "([BII)[B" } : Jvm.MethodName)) ∈ gw := gw_8 93 rfl rfl
theorem dr_cJ7_copyOfRange_39247_16 : decode cJ7_copyOfRange_39247 16 = .ok (.areturn, 1) := by decide +kernel
theorem dr_cJ0_init_db425_0 : decode cJ0_init_db425 0 = .ok (.aload_n 0, 1) := by decide +kernel
theorem dr_cJ0_init_db425_1 : decode cJ0_init_db425 1 = .ok (.invokespecial 1, 3) := by decide +kernel
theorem wr_8_74 : (Jvm.Cond.methodLink "java/lang/String" (1 : Nat) ({ cls := "java/lang/Object", name := "<init>", desc := "()V" } : Jvm.MethodName)) ∈ gw := gw_8 74 rfl rfl
theorem dr_cJ0_init_db425_4 : decode cJ0_init_db425 4 = .ok (.aload_n 1, 1) := by decide +kernel
theorem dr_cJ0_init_db425_5 : decode cJ0_init_db425 5 = .ok (.invokevirtual 552, 3) := by decide +kernel
theorem wr_8_75 : (Jvm.Cond.methodLink "java/lang/String" (552 : Nat) ({ cls := "java/lang/AbstractStringBuilder", name := "getValue", desc := "()[B" } : Jvm.MethodName)) ∈ gw := gw_8 75 rfl rfl
theorem wr_8_79 : (Jvm.Cond.code ({ cls := "java/lang/AbstractStringBuilder", name := "getValue", desc := "()[B" } : Jvm.MethodName) prog_21_method_64_code (1 : Nat) (Option.some (Jvm.ClassFile.FieldType.array Jvm.ClassFile.FieldType.byte))) ∈ gw := gw_8 79 rfl rfl
theorem wr_8_76 : (Jvm.Cond.instanceMethod ({ cls := "java/lang/AbstractStringBuilder", name := "getValue", desc := "()[B" } : Jvm.MethodName)) ∈ gw := gw_8 76 rfl rfl
theorem wr_8_78 : (Jvm.Cond.selects "java/lang/StringBuilder" ({ cls := "java/lang/AbstractStringBuilder", name := "getValue", desc := "()[B" } : Jvm.MethodName) ({ cls := "java/lang/AbstractStringBuilder", name := "getValue", desc := "()[B" } : Jvm.MethodName)) ∈ gw := gw_8 78 rfl rfl
theorem dr_cJ0_init_db425_8 : decode cJ0_init_db425 8 = .ok (.astore_n 3, 1) := by decide +kernel
theorem dr_cJ0_init_db425_9 : decode cJ0_init_db425 9 = .ok (.aload_n 1, 1) := by decide +kernel
theorem dr_cJ0_init_db425_10 : decode cJ0_init_db425 10 = .ok (.invokevirtual 549, 3) := by decide +kernel
theorem wr_8_80 : (Jvm.Cond.methodLink "java/lang/String" (549 : Nat) ({ cls := "java/lang/AbstractStringBuilder", name := "length", desc := "()I" } : Jvm.MethodName)) ∈ gw := gw_8 80 rfl rfl
theorem wr_8_83 : (Jvm.Cond.selects "java/lang/StringBuilder" ({ cls := "java/lang/AbstractStringBuilder", name := "length", desc := "()I" } : Jvm.MethodName) ({ cls := "java/lang/StringBuilder", name := "length", desc := "()I" } : Jvm.MethodName)) ∈ gw := gw_8 83 rfl rfl
theorem wr_8_84 : (Jvm.Cond.instanceMethod ({ cls := "java/lang/StringBuilder", name := "length", desc := "()I" } : Jvm.MethodName)) ∈ gw := gw_8 84 rfl rfl
theorem wr_1_20 : (Jvm.Cond.initialized "java/lang/StringBuilder") ∈ gw := gw_1 20 rfl rfl
theorem wr_8_85 : (Jvm.Cond.code ({ cls := "java/lang/StringBuilder", name := "length", desc := "()I" } : Jvm.MethodName) prog_35_method_93_code (1 : Nat) (Option.some Jvm.ClassFile.FieldType.int)) ∈ gw := gw_8 85 rfl rfl
theorem dr_cJ0_init_db425_13 : decode cJ0_init_db425 13 = .ok (.istore 4, 2) := by decide +kernel
theorem dr_cJ0_init_db425_15 : decode cJ0_init_db425 15 = .ok (.aload_n 1, 1) := by decide +kernel
theorem dr_cJ0_init_db425_16 : decode cJ0_init_db425 16 = .ok (.invokevirtual 1047, 3) := by decide +kernel
theorem wr_8_88 : (Jvm.Cond.methodLink "java/lang/String" (1047 : Nat) ({ cls := "java/lang/AbstractStringBuilder", name := "isLatin1", desc := "()Z" } : Jvm.MethodName)) ∈ gw := gw_8 88 rfl rfl
theorem dr_cJ0_init_db425_19 : decode cJ0_init_db425 19 = .ok (.ifCond .eq 22, 3) := by decide +kernel
theorem dr_cJ0_init_db425_22 : decode cJ0_init_db425 22 = .ok (.aload_n 0, 1) := by decide +kernel
theorem dr_cJ0_init_db425_23 : decode cJ0_init_db425 23 = .ok (.iconst 0, 1) := by decide +kernel
theorem dr_cJ0_init_db425_24 : decode cJ0_init_db425 24 = .ok (.putfield 15, 3) := by decide +kernel
theorem dr_cJ0_init_db425_27 : decode cJ0_init_db425 27 = .ok (.aload_n 0, 1) := by decide +kernel
theorem dr_cJ0_init_db425_28 : decode cJ0_init_db425 28 = .ok (.aload_n 3, 1) := by decide +kernel
theorem dr_cJ0_init_db425_29 : decode cJ0_init_db425 29 = .ok (.iconst 0, 1) := by decide +kernel
theorem dr_cJ0_init_db425_30 : decode cJ0_init_db425 30 = .ok (.iload 4, 2) := by decide +kernel
theorem dr_cJ0_init_db425_32 : decode cJ0_init_db425 32 = .ok (.invokestatic 54, 3) := by decide +kernel
theorem wr_8_89 : (Jvm.Cond.methodLink "java/lang/String" (54 : Nat) ({ cls := "java/util/Arrays", name := "copyOfRange", desc := "([BII)[B" } : Jvm.MethodName)) ∈ gw := gw_8 89 rfl rfl
theorem wr_8_91 : (Jvm.Cond.code ({ cls := "java/util/Arrays", name := "copyOfRange", desc := "([BII)[B" } : Jvm.MethodName) prog_44_method_132_code (3 : Nat) (Option.some (Jvm.ClassFile.FieldType.array Jvm.ClassFile.FieldType.byte))) ∈ gw := gw_8 91 rfl rfl
theorem wr_8_90 : (Jvm.Cond.static ({ cls := "java/util/Arrays", name := "copyOfRange", desc := "([BII)[B" } : Jvm.MethodName)) ∈ gw := gw_8 90 rfl rfl
theorem dr_cJ0_init_db425_35 : decode cJ0_init_db425 35 = .ok (.putfield 9, 3) := by decide +kernel
theorem dr_cJ0_init_db425_38 : decode cJ0_init_db425 38 = .ok (.goto 59, 3) := by decide +kernel
theorem dr_cJ0_init_db425_97 : decode cJ0_init_db425 97 = .ok (.return_, 1) := by decide +kernel
theorem dr_cJ0_init_81219_0 : decode cJ0_init_81219 0 = .ok (.aload_n 0, 1) := by decide +kernel
theorem dr_cJ0_init_81219_1 : decode cJ0_init_81219 1 = .ok (.aload_n 1, 1) := by decide +kernel
theorem dr_cJ0_init_81219_2 : decode cJ0_init_81219 2 = .ok (.aconst_null, 1) := by decide +kernel
theorem dr_cJ0_init_81219_3 : decode cJ0_init_81219 3 = .ok (.invokespecial 489, 3) := by decide +kernel
theorem wr_8_71 : (Jvm.Cond.methodLink "java/lang/String" (489 : Nat) ({ cls := "java/lang/String", name := "<init>", desc := "(Ljava/lang/AbstractStringBuilder;Ljava/lang/Void;)V" } : Jvm.MethodName)) ∈ gw := gw_8 71 rfl rfl
theorem wr_8_73 : (Jvm.Cond.code ({ cls := "java/lang/String", name := "<init>", desc := "(Ljava/lang/AbstractStringBuilder;Ljava/lang/Void;)V" } : Jvm.MethodName) prog_34_method_150_code (5 : Nat) (Option.none : Option Jvm.ClassFile.FieldType)) ∈ gw := gw_8 73 rfl rfl
theorem wr_8_72 : (Jvm.Cond.instanceMethod ({ cls := "java/lang/String", name := "<init>", desc := "(Ljava/lang/AbstractStringBuilder;Ljava/lang/Void;)V" } : Jvm.MethodName)) ∈ gw := gw_8 72 rfl rfl
theorem dr_cJ0_init_81219_6 : decode cJ0_init_81219 6 = .ok (.return_, 1) := by decide +kernel
theorem dr_cJ4_toString_0e30d_0 : decode cJ4_toString_0e30d 0 = .ok (.new 18, 3) := by decide +kernel
theorem wr_8_66 : (Jvm.Cond.classLink "java/lang/StringBuilder" (18 : Nat) "java/lang/String") ∈ gw := gw_8 66 rfl rfl
theorem wr_8_67 : (Jvm.Cond.instantiable "java/lang/String" (4 : Nat)) ∈ gw := gw_8 67 rfl rfl
theorem dr_cJ4_toString_0e30d_3 : decode cJ4_toString_0e30d 3 = .ok (.dup, 1) := by decide +kernel
theorem dr_cJ4_toString_0e30d_4 : decode cJ4_toString_0e30d 4 = .ok (.aload_n 0, 1) := by decide +kernel
theorem dr_cJ4_toString_0e30d_5 : decode cJ4_toString_0e30d 5 = .ok (.invokespecial 137, 3) := by decide +kernel
theorem wr_8_68 : (Jvm.Cond.methodLink "java/lang/StringBuilder" (137 : Nat) ({ cls := "java/lang/String", name := "<init>", desc := "(Ljava/lang/StringBuilder;)V" } : Jvm.MethodName)) ∈ gw := gw_8 68 rfl rfl
theorem wr_8_70 : (Jvm.Cond.code ({ cls := "java/lang/String", name := "<init>", desc := "(Ljava/lang/StringBuilder;)V" } : Jvm.MethodName) prog_34_method_53_code (2 : Nat) (Option.none : Option Jvm.ClassFile.FieldType)) ∈ gw := gw_8 70 rfl rfl
theorem wr_8_69 : (Jvm.Cond.instanceMethod ({ cls := "java/lang/String", name := "<init>", desc := "(Ljava/lang/StringBuilder;)V" } : Jvm.MethodName)) ∈ gw := gw_8 69 rfl rfl
theorem dr_cJ4_toString_0e30d_8 : decode cJ4_toString_0e30d 8 = .ok (.areturn, 1) := by decide +kernel
theorem dr_cJ1_equals_b5fdf_0 : decode cJ1_equals_b5fdf 0 = .ok (.aload_n 0, 1) := by decide +kernel
theorem dr_cJ1_equals_b5fdf_1 : decode cJ1_equals_b5fdf 1 = .ok (.arraylength, 1) := by decide +kernel
theorem dr_cJ1_equals_b5fdf_2 : decode cJ1_equals_b5fdf 2 = .ok (.aload_n 1, 1) := by decide +kernel
theorem dr_cJ1_equals_b5fdf_3 : decode cJ1_equals_b5fdf 3 = .ok (.arraylength, 1) := by decide +kernel
theorem dr_cJ1_equals_b5fdf_4 : decode cJ1_equals_b5fdf 4 = .ok (.if_icmp .ne 30, 3) := by decide +kernel
theorem dr_cJ1_equals_b5fdf_34 : decode cJ1_equals_b5fdf 34 = .ok (.iconst 0, 1) := by decide +kernel
theorem dr_cJ1_equals_b5fdf_35 : decode cJ1_equals_b5fdf 35 = .ok (.ireturn, 1) := by decide +kernel
theorem dr_cJ1_equals_b5fdf_7 : decode cJ1_equals_b5fdf 7 = .ok (.iconst 0, 1) := by decide +kernel
theorem dr_cJ1_equals_b5fdf_8 : decode cJ1_equals_b5fdf 8 = .ok (.istore_n 2, 1) := by decide +kernel
theorem dr_cJ1_equals_b5fdf_9 : decode cJ1_equals_b5fdf 9 = .ok (.iload_n 2, 1) := by decide +kernel
theorem dr_cJ1_equals_b5fdf_10 : decode cJ1_equals_b5fdf 10 = .ok (.aload_n 0, 1) := by decide +kernel
theorem dr_cJ1_equals_b5fdf_11 : decode cJ1_equals_b5fdf 11 = .ok (.arraylength, 1) := by decide +kernel
theorem dr_cJ1_equals_b5fdf_12 : decode cJ1_equals_b5fdf 12 = .ok (.if_icmp .ge 20, 3) := by decide +kernel
theorem dr_cJ1_equals_b5fdf_32 : decode cJ1_equals_b5fdf 32 = .ok (.iconst 1, 1) := by decide +kernel
theorem dr_cJ1_equals_b5fdf_33 : decode cJ1_equals_b5fdf 33 = .ok (.ireturn, 1) := by decide +kernel
theorem dr_cJ1_equals_b5fdf_15 : decode cJ1_equals_b5fdf 15 = .ok (.aload_n 0, 1) := by decide +kernel
theorem dr_cJ1_equals_b5fdf_16 : decode cJ1_equals_b5fdf 16 = .ok (.iload_n 2, 1) := by decide +kernel
theorem dr_cJ1_equals_b5fdf_17 : decode cJ1_equals_b5fdf 17 = .ok (.baload, 1) := by decide +kernel
theorem dr_cJ1_equals_b5fdf_18 : decode cJ1_equals_b5fdf 18 = .ok (.aload_n 1, 1) := by decide +kernel
theorem dr_cJ1_equals_b5fdf_19 : decode cJ1_equals_b5fdf 19 = .ok (.iload_n 2, 1) := by decide +kernel
theorem dr_cJ1_equals_b5fdf_20 : decode cJ1_equals_b5fdf 20 = .ok (.baload, 1) := by decide +kernel
theorem dr_cJ1_equals_b5fdf_21 : decode cJ1_equals_b5fdf 21 = .ok (.if_icmp .eq 5, 3) := by decide +kernel
theorem dr_cJ1_equals_b5fdf_26 : decode cJ1_equals_b5fdf 26 = .ok (.iinc 2 1, 3) := by decide +kernel
theorem dr_cJ1_equals_b5fdf_29 : decode cJ1_equals_b5fdf 29 = .ok (.goto (-20), 3) := by decide +kernel
theorem dr_cJ1_equals_b5fdf_24 : decode cJ1_equals_b5fdf 24 = .ok (.iconst 0, 1) := by decide +kernel
theorem dr_cJ1_equals_b5fdf_25 : decode cJ1_equals_b5fdf 25 = .ok (.ireturn, 1) := by decide +kernel
theorem dr_cJ0_equals_9ea2d_0 : decode cJ0_equals_9ea2d 0 = .ok (.aload_n 0, 1) := by decide +kernel
theorem dr_cJ0_equals_9ea2d_1 : decode cJ0_equals_9ea2d 1 = .ok (.aload_n 1, 1) := by decide +kernel
theorem dr_cJ0_equals_9ea2d_2 : decode cJ0_equals_9ea2d 2 = .ok (.if_acmp .ne 5, 3) := by decide +kernel
theorem dr_cJ0_equals_9ea2d_7 : decode cJ0_equals_9ea2d 7 = .ok (.aload_n 1, 1) := by decide +kernel
theorem dr_cJ0_equals_9ea2d_8 : decode cJ0_equals_9ea2d 8 = .ok (.instanceof 10, 3) := by decide +kernel
theorem wr_9_145 : (Jvm.Cond.classLink "java/lang/String" (10 : Nat) "java/lang/String") ∈ gw := gw_9 145 rfl rfl
theorem dr_cJ0_equals_9ea2d_11 : decode cJ0_equals_9ea2d 11 = .ok (.ifCond .eq 43, 3) := by decide +kernel
theorem dr_cJ0_equals_9ea2d_14 : decode cJ0_equals_9ea2d 14 = .ok (.aload_n 1, 1) := by decide +kernel
theorem dr_cJ0_equals_9ea2d_15 : decode cJ0_equals_9ea2d 15 = .ok (.checkcast 10, 3) := by decide +kernel
theorem dr_cJ0_equals_9ea2d_18 : decode cJ0_equals_9ea2d 18 = .ok (.astore_n 2, 1) := by decide +kernel
theorem dr_cJ0_equals_9ea2d_19 : decode cJ0_equals_9ea2d 19 = .ok (.getstatic 38, 3) := by decide +kernel
theorem dr_cJ0_equals_9ea2d_22 : decode cJ0_equals_9ea2d 22 = .ok (.ifCond .eq 14, 3) := by decide +kernel
theorem dr_cJ0_equals_9ea2d_25 : decode cJ0_equals_9ea2d 25 = .ok (.aload_n 0, 1) := by decide +kernel
theorem dr_cJ0_equals_9ea2d_26 : decode cJ0_equals_9ea2d 26 = .ok (.getfield 15, 3) := by decide +kernel
theorem dr_cJ0_equals_9ea2d_29 : decode cJ0_equals_9ea2d 29 = .ok (.aload_n 2, 1) := by decide +kernel
theorem dr_cJ0_equals_9ea2d_30 : decode cJ0_equals_9ea2d 30 = .ok (.getfield 15, 3) := by decide +kernel
theorem dr_cJ0_equals_9ea2d_33 : decode cJ0_equals_9ea2d 33 = .ok (.if_icmp .ne 21, 3) := by decide +kernel
theorem dr_cJ0_equals_9ea2d_36 : decode cJ0_equals_9ea2d 36 = .ok (.aload_n 0, 1) := by decide +kernel
theorem dr_cJ0_equals_9ea2d_37 : decode cJ0_equals_9ea2d 37 = .ok (.getfield 9, 3) := by decide +kernel
theorem dr_cJ0_equals_9ea2d_40 : decode cJ0_equals_9ea2d 40 = .ok (.aload_n 2, 1) := by decide +kernel
theorem dr_cJ0_equals_9ea2d_41 : decode cJ0_equals_9ea2d 41 = .ok (.getfield 9, 3) := by decide +kernel
theorem dr_cJ0_equals_9ea2d_44 : decode cJ0_equals_9ea2d 44 = .ok (.invokestatic 541, 3) := by decide +kernel
theorem wr_9_146 : (Jvm.Cond.methodLink "java/lang/String" (541 : Nat) ({ cls := "java/lang/StringLatin1", name := "equals", desc := "([B[B)Z" } : Jvm.MethodName)) ∈ gw := gw_9 146 rfl rfl
theorem wr_9_148 : (Jvm.Cond.code ({ cls := "java/lang/StringLatin1", name := "equals", desc := "([B[B)Z" } : Jvm.MethodName) prog_37_method_13_code (3 : Nat) (Option.some Jvm.ClassFile.FieldType.boolean)) ∈ gw := gw_9 148 rfl rfl
theorem wr_9_147 : (Jvm.Cond.static ({ cls := "java/lang/StringLatin1", name := "equals", desc := "([B[B)Z" } : Jvm.MethodName)) ∈ gw := gw_9 147 rfl rfl
theorem dr_cJ0_equals_9ea2d_47 : decode cJ0_equals_9ea2d 47 = .ok (.ifCond .eq 7, 3) := by decide +kernel
theorem dr_cJ0_equals_9ea2d_54 : decode cJ0_equals_9ea2d 54 = .ok (.iconst 0, 1) := by decide +kernel
theorem dr_cJ0_equals_9ea2d_55 : decode cJ0_equals_9ea2d 55 = .ok (.ireturn, 1) := by decide +kernel
theorem dr_cJ0_equals_9ea2d_50 : decode cJ0_equals_9ea2d 50 = .ok (.iconst 1, 1) := by decide +kernel
theorem dr_cJ0_equals_9ea2d_51 : decode cJ0_equals_9ea2d 51 = .ok (.goto 4, 3) := by decide +kernel
theorem dr_cJ0_equals_9ea2d_5 : decode cJ0_equals_9ea2d 5 = .ok (.iconst 1, 1) := by decide +kernel
theorem dr_cJ0_equals_9ea2d_6 : decode cJ0_equals_9ea2d 6 = .ok (.ireturn, 1) := by decide +kernel
theorem dr_cJ0_isLatin1_aae02_0 : decode cJ0_isLatin1_aae02 0 = .ok (.getstatic 38, 3) := by decide +kernel
theorem dr_cJ0_isLatin1_aae02_3 : decode cJ0_isLatin1_aae02 3 = .ok (.ifCond .eq 14, 3) := by decide +kernel
theorem dr_cJ0_isLatin1_aae02_6 : decode cJ0_isLatin1_aae02 6 = .ok (.aload_n 0, 1) := by decide +kernel
theorem dr_cJ0_isLatin1_aae02_7 : decode cJ0_isLatin1_aae02 7 = .ok (.getfield 15, 3) := by decide +kernel
theorem dr_cJ0_isLatin1_aae02_10 : decode cJ0_isLatin1_aae02 10 = .ok (.ifCond .ne 7, 3) := by decide +kernel
theorem dr_cJ0_isLatin1_aae02_13 : decode cJ0_isLatin1_aae02 13 = .ok (.iconst 1, 1) := by decide +kernel
theorem dr_cJ0_isLatin1_aae02_14 : decode cJ0_isLatin1_aae02 14 = .ok (.goto 4, 3) := by decide +kernel
theorem dr_cJ0_isLatin1_aae02_18 : decode cJ0_isLatin1_aae02 18 = .ok (.ireturn, 1) := by decide +kernel
theorem dr_cJ1_charAt_3b067_0 : decode cJ1_charAt_3b067 0 = .ok (.iload_n 1, 1) := by decide +kernel
theorem dr_cJ1_charAt_3b067_1 : decode cJ1_charAt_3b067 1 = .ok (.aload_n 0, 1) := by decide +kernel
theorem dr_cJ1_charAt_3b067_2 : decode cJ1_charAt_3b067 2 = .ok (.arraylength, 1) := by decide +kernel
theorem dr_cJ1_charAt_3b067_3 : decode cJ1_charAt_3b067 3 = .ok (.invokestatic 9, 3) := by decide +kernel
theorem wr_3_78 : (Jvm.Cond.methodLink "java/lang/StringLatin1" (9 : Nat) ({ cls := "java/lang/String", name := "checkIndex", desc := "(II)V" } : Jvm.MethodName)) ∈ gw := gw_3 78 rfl rfl
theorem dr_cJ1_charAt_3b067_6 : decode cJ1_charAt_3b067 6 = .ok (.aload_n 0, 1) := by decide +kernel
theorem dr_cJ1_charAt_3b067_7 : decode cJ1_charAt_3b067 7 = .ok (.iload_n 1, 1) := by decide +kernel
theorem dr_cJ1_charAt_3b067_8 : decode cJ1_charAt_3b067 8 = .ok (.baload, 1) := by decide +kernel
theorem dr_cJ1_charAt_3b067_9 : decode cJ1_charAt_3b067 9 = .ok (.sipush 255, 3) := by decide +kernel
theorem dr_cJ1_charAt_3b067_12 : decode cJ1_charAt_3b067 12 = .ok (.iand, 1) := by decide +kernel
theorem dr_cJ1_charAt_3b067_13 : decode cJ1_charAt_3b067 13 = .ok (.i2c, 1) := by decide +kernel
theorem dr_cJ1_charAt_3b067_14 : decode cJ1_charAt_3b067 14 = .ok (.ireturn, 1) := by decide +kernel
abbrev ky_641053_StringBuilder_append : gKey := (cJ4_append_15ec4, 2, "java/lang/StringBuilder", (some (FieldType.object "java/lang/StringBuilder")), [], "append", fun _ _ => True)
def pp_641053_StringBuilder_append (D : va_G) (I : FieldType → ClassId) (P641038 : List Nat) (F641039 : Nat → va_E) (q641040 : Nat) (q641041 : Nat) (qs641042 : Nat) (qb641043 : Nat) (bs641044 : List Int32) (p641045 : Int32) (p641046 : Int32) (f641047 : Nat → Int32) (n641048 : Nat) : Option Value → va_W → Nat → Nat → Prop := fun r w dc ds => ∃ (P641162 : List Nat) (F641163 : Nat → va_E) (o641158 : Int32) (q641159 : Nat) (n641160 : Nat) (f641161 : Nat → Int32), r = some (.ref q641040) ∧ w = va_pl P641162 F641163 ∧ rSub P641038 P641162 ∧ rFr [q641040, q641041] P641038 F641039 F641163 ∧ F641163 q641040 = .inr (1, [.ref q641159, .int 0, .int p641045, .int o641158]) ∧ F641163 q641159 = .inl (I .byte, n641160, .inl f641161) ∧ q641159 ∈ P641162 ∧ (q641159 = q641041 ∨ q641159 ∉ P641038) ∧ dc ≤ 1 ∧ ds ≤ 2 * (n641160 - n641048) ∧ gB o641158 0 16777216 ∧ gF f641161 (-128) 127 ∧ o641158.toInt = p641046.toInt + (bs641044.length : Int) ∧ o641158.toInt ≤ (n641160 : Int) ∧ (n641048 : Int) ≤ (n641160 : Int) ∧ (n641160 : Int) ≤ 2 * (n641048 : Int) + 2 + p641046.toInt + (bs641044.length : Int) ∧ ((n641160 : Int) = (n641048 : Int) ∨ (n641048 : Int) < o641158.toInt)
set_option maxRecDepth 100000 in
set_option maxHeartbeats 4000000 in
theorem cp_641053_StringBuilder_append (l : Launch) (hl0 : l.stackTraces = false) (D : va_G) (I : FieldType → ClassId) (P641038 : List Nat) (F641039 : Nat → va_E) (q641040 : Nat) (q641041 : Nat) (qs641042 : Nat) (qb641043 : Nat) (bs641044 : List Int32) (p641045 : Int32) (p641046 : Int32) (f641047 : Nat → Int32) (n641048 : Nat) (hmq641040 : q641040 ∈ P641038) (hmq641041 : q641041 ∈ P641038) (heq641040 : F641039 q641040 = .inr (1, [.ref q641041, .int 0, .int p641045, .int p641046])) (heq641041 : F641039 q641041 = .inl (I .byte, n641048, .inl f641047)) (hbs641044 : ∀ A s H, (gV D I).2.2.2.1 A s H → gSC qs641042 qb641043 bs641044 A s H) (nbs641044 : (bs641044.length : Int) ≤ 65535) (lbs641044 : gLB bs641044) (bp641045 : gB p641045 0 1) (bp641046 : gB p641046 0 16777216) (bf641047 : gF f641047 (-128) 127) (x641049 : (bs641044.length : Int) ≤ 65535) (x641050 : (n641048 : Int) ≤ 8388608 - 100000) (x641051 : p641046.toInt ≤ (n641048 : Int)) (x641052 : ((n641048 : Int) ≤ 16777216)) : CtA (gV D I) l yJ4_append_15ec4 cJ4_append_15ec4 2 (some (FieldType.object "java/lang/StringBuilder")) 5 106 1 (4 * n641048 + 4 + 2 * bs641044.length) [.ref q641040, .ref qs641042] (va_pl P641038 F641039) (pp_641053_StringBuilder_append D I P641038 F641039 q641040 q641041 qs641042 qb641043 bs641044 p641045 p641046 f641047 n641048) gNA := by
  refine CtA_ofF hl0 (by decide +kernel) (Nat.le_of_ble_eq_true rfl) ?_
  refine G_aload_n 0 dr_cJ4_append_15ec4_0 rfl ?_
  refine G_aload_n 1 dr_cJ4_append_15ec4_1 rfl ?_
  refine Gw_callSU (As := [.ref qs641042]) (gV_ok D I) (cp_641069_AbstractStringBuilder_append l hl0 D I P641038 F641039 q641040 q641041 qs641042 qb641043 bs641044 p641045 p641046 f641047 n641048 hmq641040 hmq641041 heq641040 heq641041 hbs641044 nbs641044 lbs641044 bp641045 bp641046 bf641047 (by have qa0 : Int32.toInt 0 = 0 := (by decide); omega) (by have qa0 : Int32.toInt 0 = 0 := (by decide); omega) (by have qa0 : Int32.toInt 0 = 0 := (by decide); omega) (by have qa0 : Int32.toInt 0 = 0 := (by decide); omega)) dr_cJ4_append_15ec4_2 ⟨wr_8_140, wr_1_19, wr_8_142, by decide, rfl, (Nat.le_of_ble_eq_true rfl), (Nat.le_of_ble_eq_true rfl)⟩ wr_8_141 wr_11_225 wr_7_73 wr_7_44 (by decide) hmq641040 heq641040 rfl (show 0 + 1 ≤ 1 by first | omega | decide) (show 0 + (4 * n641048 + 4 + 2 * bs641044.length) ≤ (4 * n641048 + 4 + 2 * bs641044.length) by first | omega | decide) (Nat.le_of_ble_eq_true rfl) (fun r641134 w641135 dc641131 ds641132 hp641133 => ?_)
  obtain ⟨P641145, F641146, o641136, q641137, n641138, f641139, rfl, rfl, hsb641147, hfr641148, he641149, he641150, hm641151, hq641152, hdc, hds, bo641136, bf641139, x641140, x641141, x641142, x641143, x641144⟩ := hp641133
  have hm641153 : q641040 ∈ P641145 := hsb641147 q641040 hmq641040
  have hm641154 : q641041 ∈ P641145 := hsb641147 q641041 hmq641041
  have hor641155 : q641137 = q641041 ∨ q641137 ∉ P641038 := hq641152.elim Or.inl (fun n => Or.inr (fun z => n ((rSub_rf (P := P641038)) _ z)))
  have hsb641156 : rSub P641038 P641145 := rSub_tr (rSub_rf (P := P641038)) hsb641147
  have hfr641157 : rFr [q641040, q641041] P641038 F641039 F641146 := rFr_call (rSub_rf (P := P641038)) (rFr_rf (W := []) (P := P641038) (F := F641039)) hfr641148 (fun b hb hn => ⟨nm_n, (nm_c (fun e => hn (e ▸ List.mem_cons_self)) (nm_c (fun e => hn (e ▸ (List.mem_cons_of_mem _ List.mem_cons_self))) nm_n))⟩)
  change G _ _ _ _ _ _ _ (.ref q641040 :: _) _ _ _
  refine G_widen (cs' := 1) (sl' := 2 * (n641138 - n641048)) (by omega) (by omega) ?_
  refine G_pop dr_cJ4_append_15ec4_5 rfl ?_
  refine G_aload_n 0 dr_cJ4_append_15ec4_6 rfl ?_
  exact G_aretA (FieldType.object "java/lang/StringBuilder") dr_cJ4_append_15ec4_7 rfl (by first | exact Or.inl ⟨_, rfl⟩ | exact Or.inr ⟨_, rfl⟩) (Or.inr ⟨_, rfl⟩) (Nat.le_of_ble_eq_true rfl) (show 2 * (n641138 - n641048) ≤ (4 * n641048 + 4 + 2 * bs641044.length) by omega) ⟨P641145, F641146, o641136, q641137, n641138, f641139, rfl, rfl, hsb641156, hfr641157, he641149, he641150, hm641151, hor641155, (Nat.le_of_ble_eq_true rfl), (by omega), bo641136, bf641139, (by have qa0 : Int32.toInt 0 = 0 := (by decide); omega), (by have qa0 : Int32.toInt 0 = 0 := (by decide); omega), (by have qa0 : Int32.toInt 0 = 0 := (by decide); omega), (by have qa0 : Int32.toInt 0 = 0 := (by decide); omega), (by have qa0 : Int32.toInt 0 = 0 := (by decide); omega)⟩
abbrev ky_641228_AbstractStringBuilder_getValue : gKey := (cJ5_getValue_6d5f1, 1, "java/lang/AbstractStringBuilder", (some (FieldType.array FieldType.byte)), [], "getValue", fun _ _ => True)
def pp_641228_AbstractStringBuilder_getValue (D : va_G) (I : FieldType → ClassId) (P641219 : List Nat) (F641220 : Nat → va_E) (q641221 : Nat) (q641222 : Nat) (p641223 : Int32) (p641224 : Int32) (f641225 : Nat → Int32) (n641226 : Nat) : Option Value → va_W → Nat → Nat → Prop := fun r w dc ds => r = some (.ref q641222) ∧ w = va_pl P641219 F641220 ∧ dc ≤ 0 ∧ ds ≤ 0
set_option maxRecDepth 100000 in
set_option maxHeartbeats 4000000 in
theorem cp_641228_AbstractStringBuilder_getValue (l : Launch) (hl0 : l.stackTraces = false) (D : va_G) (I : FieldType → ClassId) (P641219 : List Nat) (F641220 : Nat → va_E) (q641221 : Nat) (q641222 : Nat) (p641223 : Int32) (p641224 : Int32) (f641225 : Nat → Int32) (n641226 : Nat) (hmq641221 : q641221 ∈ P641219) (hmq641222 : q641222 ∈ P641219) (heq641221 : F641220 q641221 = .inr (1, [.ref q641222, .int 0, .int p641223, .int p641224])) (heq641222 : F641220 q641222 = .inl (I .byte, n641226, .inl f641225)) (bp641223 : gB p641223 0 1) (bp641224 : gB p641224 0 16777216) (bf641225 : gF f641225 (-128) 127) (x641227 : ((n641226 : Int) ≤ 16777216)) : CtA (gV D I) l yJ5_getValue_6d5f1 cJ5_getValue_6d5f1 1 (some (FieldType.array FieldType.byte)) 0 0 0 0 [.ref q641221] (va_pl P641219 F641220) (pp_641228_AbstractStringBuilder_getValue D I P641219 F641220 q641221 q641222 p641223 p641224 f641225 n641226) gNA := by
  refine CtA_ofF hl0 (by decide +kernel) (Nat.le_of_ble_eq_true rfl) ?_
  refine G_aload_n 0 dr_cJ5_getValue_6d5f1_0 rfl ?_
  refine Gp_get 0 hmq641221 heq641221 dr_cJ5_getValue_6d5f1_1 (gk_J4 D I) (Nat.le_of_ble_eq_true rfl) wr_7_60 rfl ?_
  exact G_aretA (FieldType.array FieldType.byte) dr_cJ5_getValue_6d5f1_4 rfl (by first | exact Or.inl ⟨_, rfl⟩ | exact Or.inr ⟨_, rfl⟩) (Or.inr ⟨_, rfl⟩) (Nat.le_of_ble_eq_true rfl) (Nat.le_of_ble_eq_true rfl) ⟨rfl, rfl, (Nat.le_of_ble_eq_true rfl), (Nat.le_of_ble_eq_true rfl)⟩
abbrev ky_641290_Arrays_checkLength : gKey := (cJ7_checkLength_df160, 2, "java/util/Arrays", none, [], "checkLength", fun _ _ => True)
def pp_641290_Arrays_checkLength (D : va_G) (I : FieldType → ClassId) (P641287 : List Nat) (F641288 : Nat → va_E) (p641289 : Int32) : Option Value → va_W → Nat → Nat → Prop := fun r w dc ds => r = none ∧ w = va_pl P641287 F641288 ∧ dc ≤ 0 ∧ ds ≤ 0
set_option maxRecDepth 100000 in
set_option maxHeartbeats 4000000 in
theorem cp_641290_Arrays_checkLength (l : Launch) (hl0 : l.stackTraces = false) (D : va_G) (I : FieldType → ClassId) (P641287 : List Nat) (F641288 : Nat → va_E) (p641289 : Int32) (bp641289 : gB p641289 0 16777216) : CtA (gV D I) l yJ7_checkLength_df160 cJ7_checkLength_df160 2 none 0 0 0 0 [.int 0, .int p641289] (va_pl P641287 F641288) (pp_641290_Arrays_checkLength D I P641287 F641288 p641289) gNA := by
  refine CtA_ofF hl0 (by decide +kernel) (Nat.le_of_ble_eq_true rfl) ?_
  refine G_iload_n 1 dr_cJ7_checkLength_df160_0 rfl ?_
  refine G_iload_n 0 dr_cJ7_checkLength_df160_1 rfl ?_
  refine G_icmp_ge 37 dr_cJ7_checkLength_df160_2 (by decide +kernel) (fun _ => ?_) (fun hc => absurd (show False by have := gj_nleL hc (show Int32.toInt 0 = 0 by decide); omega) not_false)
  exact G_vretA dr_cJ7_checkLength_df160_37 rfl (Nat.le_of_ble_eq_true rfl) (Nat.le_of_ble_eq_true rfl) ⟨rfl, rfl, (Nat.le_of_ble_eq_true rfl), (Nat.le_of_ble_eq_true rfl)⟩
abbrev ky_641286_Arrays_copyOfRangeByte : gKey := (cJ7_copyOfRangeByte_39247, 5, "java/util/Arrays", (some (FieldType.array FieldType.byte)), [], "copyOfRangeByte", fun _ _ => True)
def pp_641286_Arrays_copyOfRangeByte (D : va_G) (I : FieldType → ClassId) (P641278 : List Nat) (F641279 : Nat → va_E) (q641280 : Nat) (p641281 : Int32) (f641282 : Nat → Int32) (n641283 : Nat) : Option Value → va_W → Nat → Nat → Prop := fun r w dc ds => ∃ (P641324 : List Nat) (F641325 : Nat → va_E) (q641321 : Nat) (n641322 : Nat) (f641323 : Nat → Int32), r = some (.ref q641321) ∧ w = va_pl P641324 F641325 ∧ rSub P641278 P641324 ∧ rFr [] P641278 F641279 F641325 ∧ F641325 q641280 = .inl (I .byte, n641283, .inl f641282) ∧ F641325 q641321 = .inl (I .byte, n641322, .inl f641323) ∧ q641321 ∈ P641324 ∧ q641321 ∉ P641278 ∧ dc ≤ 1 ∧ ds ≤ p641281.toInt.toNat ∧ gF f641323 (-128) 127 ∧ (n641322 : Int) = p641281.toInt ∧ sK f641282 f641323 p641281.toInt
set_option maxRecDepth 100000 in
set_option maxHeartbeats 4000000 in
theorem cp_641286_Arrays_copyOfRangeByte (l : Launch) (hl0 : l.stackTraces = false) (D : va_G) (I : FieldType → ClassId) (P641278 : List Nat) (F641279 : Nat → va_E) (q641280 : Nat) (p641281 : Int32) (f641282 : Nat → Int32) (n641283 : Nat) (hmq641280 : q641280 ∈ P641278) (heq641280 : F641279 q641280 = .inl (I .byte, n641283, .inl f641282)) (bp641281 : gB p641281 0 16777216) (bf641282 : gF f641282 (-128) 127) (x641284 : p641281.toInt ≤ (n641283 : Int)) (x641285 : ((n641283 : Int) ≤ 16777216)) : CtA (gV D I) l yJ7_copyOfRangeByte_39247 cJ7_copyOfRangeByte_39247 5 (some (FieldType.array FieldType.byte)) 1 21 1 p641281.toInt.toNat [.ref q641280, .int 0, .int p641281] (va_pl P641278 F641279) (pp_641286_Arrays_copyOfRangeByte D I P641278 F641279 q641280 p641281 f641282 n641283) gNA := by
  refine CtA_ofF hl0 (by decide +kernel) (Nat.le_of_ble_eq_true rfl) ?_
  refine G_iload_n 1 dr_cJ7_copyOfRangeByte_39247_0 rfl ?_
  refine G_iload_n 2 dr_cJ7_copyOfRangeByte_39247_1 rfl ?_
  refine Gw_callS (As := [.int 0, .int p641281]) (gV_ok D I) (cp_641290_Arrays_checkLength l hl0 D I P641278 F641279 p641281 bp641281) dr_cJ7_copyOfRangeByte_39247_2 ⟨wr_8_95, wr_1_30, wr_8_97, by decide, rfl, (Nat.le_of_ble_eq_true rfl), (Nat.le_of_ble_eq_true rfl)⟩ wr_8_96 (show 0 + 0 ≤ 1 by first | omega | decide) (show 0 + 0 ≤ p641281.toInt.toNat by first | omega | decide) (Nat.le_of_ble_eq_true rfl) (fun r641294 w641295 dc641291 ds641292 hp641293 => ?_) (fun _ _ _ _ _ z => z.elim)
  obtain ⟨rfl, rfl, hdc, hds⟩ := hp641293
  change G _ _ _ _ _ _ _ _ _ _ _
  refine G_widen (cs' := 0) (sl' := 0) (by omega) (by omega) ?_
  refine G_iload_n 2 dr_cJ7_copyOfRangeByte_39247_5 rfl ?_
  refine G_iload_n 1 dr_cJ7_copyOfRangeByte_39247_6 rfl ?_
  refine G_isub dr_cJ7_copyOfRangeByte_39247_7 (G_nam fun z641296 hz641296 => ?_)
  have ez641296 : z641296.toInt = p641281.toInt - 0 := by rw [gI_sub hz641296 bp641281 (gBl (show Int32.toInt 0 = 0 by decide)) (by decide) (by decide), show Int32.toInt 0 = 0 from by decide]
  have bz641296 : gB z641296 0 16777216 := gB_sub (gI_sub hz641296 bp641281 (gBl (show Int32.toInt 0 = 0 by decide)) (by decide) (by decide)) bp641281 (gBl (show Int32.toInt 0 = 0 by decide)) (by decide) (by decide)
  refine G_istore_n (L' := [(3, .int z641296), (0, .ref q641280), (1, .int 0), (2, .int p641281)]) dr_cJ7_copyOfRangeByte_39247_8 (Nat.le_of_ble_eq_true rfl) rfl ?_
  refine G_iload_n 0 dr_cJ7_copyOfRangeByte_39247_9 rfl ?_
  refine G_newa 1 (z641296.toInt.toNat, .inl (fun _ => 0)) dr_cJ7_copyOfRangeByte_39247_10 rfl rfl (by intro C h; cases h) wr_1_66 (fun _ => ga_byte _ _) (g_n0 (by omega)) rfl (show z641296.toInt.toNat * 1 ≤ 536870912 by omega) (show 0 + 1 ≤ 1 by first | omega | decide) (show 0 + z641296.toInt.toNat ≤ p641281.toInt.toNat by first | omega | decide) (fun q641297 => Gp_in (fun P641298 F641299 hq641300 hP641301 e641302 n641303 => ?_))
  refine G_widen (cs' := 1) (sl' := z641296.toInt.toNat) (by omega) (by omega) ?_
  have he641304 : F641299 q641280 = .inl (I .byte, n641283, .inl f641282) := (n641303 q641280 (fun h => hq641300 (h ▸ hmq641280))).trans heq641280
  have he641305 : F641299 q641297 = .inl (I .byte, z641296.toInt.toNat, .inl (fun _ => 0)) := e641302
  have hm641306 : q641280 ∈ P641298 := (hP641301 q641280).mpr (Or.inl hmq641280)
  have hm641307 : q641297 ∈ P641298 := (hP641301 q641297).mpr (Or.inr rfl)
  have hq641308 : q641297 ∉ P641278 := fun z => hq641300 ((rSub_rf (P := P641278)) q641297 z)
  have hfr641309 : rFr [] P641278 F641279 F641299 := rFr_new (rSub_rf (P := P641278)) hq641300 (rFr_rf (W := []) (P := P641278) (F := F641279)) n641303
  have hsb641310 : rSub P641278 P641298 := rSub_new (rSub_rf (P := P641278)) hP641301
  refine G_astore (L' := [(4, .ref q641297), (3, .int z641296), (0, .ref q641280), (1, .int 0), (2, .int p641281)]) dr_cJ7_copyOfRangeByte_39247_12 (Nat.le_of_ble_eq_true rfl) rfl ?_
  refine G_aload_n 2 dr_cJ7_copyOfRangeByte_39247_14 rfl ?_
  refine G_iload_n 3 dr_cJ7_copyOfRangeByte_39247_15 rfl ?_
  refine G_aload 0 dr_cJ7_copyOfRangeByte_39247_16 rfl ?_
  refine G_iconst 0 dr_cJ7_copyOfRangeByte_39247_18 (by decide +kernel) ?_
  refine G_aload_n 2 dr_cJ7_copyOfRangeByte_39247_19 rfl ?_
  refine Gp_alen (Int32.ofNat n641283) 1 hm641306 he641304 dr_cJ7_copyOfRangeByte_39247_20 rfl rfl (G_nam fun z641311 hz641311 => ?_)
  have ez641311 : z641311.toInt = (n641283 : Nat) := gI_ofM hz641311 (by omega)
  have bz641311 : gB z641311 0 16777216 := ⟨by omega, by omega⟩
  refine G_iload_n 3 dr_cJ7_copyOfRangeByte_39247_21 rfl ?_
  refine G_isub dr_cJ7_copyOfRangeByte_39247_22 (G_nam fun z641312 hz641312 => ?_)
  have ez641312 : z641312.toInt = z641311.toInt - 0 := by rw [gI_sub hz641312 bz641311 (gBl (show Int32.toInt 0 = 0 by decide)) (by decide) (by decide), show Int32.toInt 0 = 0 from by decide]
  have bz641312 : gB z641312 0 16777216 := gB_sub (gI_sub hz641312 bz641311 (gBl (show Int32.toInt 0 = 0 by decide)) (by decide) (by decide)) bz641311 (gBl (show Int32.toInt 0 = 0 by decide)) (by decide) (by decide)
  refine G_iload_n 1 dr_cJ7_copyOfRangeByte_39247_23 rfl ?_
  refine G_mmin dr_cJ7_copyOfRangeByte_39247_24 wr_8_27 wr_3_227 wr_1_6 wr_3_228 (Nat.le_of_ble_eq_true rfl) (Nat.le_of_ble_eq_true rfl) (show 1 ≤ 1 by first | omega | decide) (show z641296.toInt.toNat ≤ p641281.toInt.toNat by first | omega | decide) (G_nam fun z641313 hz641313 => ?_)
  have ez641313 : z641312.toInt ≥ z641313.toInt ∧ z641296.toInt ≥ z641313.toInt ∧ (z641313.toInt = z641312.toInt ∨ z641313.toInt = z641296.toInt) := by have := gI_min hz641313; omega
  have bz641313 : gB z641313 0 16777216 := ⟨by omega, by omega⟩
  refine Gp_copyp 1 hm641306 hm641307 he641304 he641305 dr_cJ7_copyOfRangeByte_39247_27 wr_8_28 wr_5_113 wr_5_112 wr_1_34 rfl rfl (fun j => gT_byte (bf641282 j)) (by decide) (by decide) (by omega) (by have qa0 : Int32.toInt 0 = 0 := (by decide); omega) (by have qa0 : Int32.toInt 0 = 0 := (by decide); omega) (Nat.le_of_ble_eq_true rfl) (Nat.le_of_ble_eq_true rfl) (fun F641314 e641315 n641316 => ?_)
  obtain ⟨f641317, hf641317⟩ : ∃ z, z = va_cpy f641282 (fun _ => 0) (0 : Int32).toNatClampNeg (0 : Int32).toNatClampNeg z641313.toNatClampNeg := ⟨_, rfl⟩
  rw [← hf641317] at e641315
  have bf641317 : gF f641317 (-128) 127 := gF_cpy hf641317 bf641282 (gF_w gF_0 (by decide) (by decide))
  have he641318 : F641314 q641280 = .inl (I .byte, n641283, .inl f641282) := (n641316 q641280 (fun h => hq641308 (h ▸ hmq641280))).trans he641304
  have he641319 : F641314 q641297 = .inl (I .byte, z641296.toInt.toNat, .inl f641317) := e641315
  have hfr641320 : rFr [] P641278 F641279 F641314 := rFr_newp hq641308 hfr641309 n641316
  refine G_aload 0 dr_cJ7_copyOfRangeByte_39247_30 rfl ?_
  exact G_aretA (FieldType.array FieldType.byte) dr_cJ7_copyOfRangeByte_39247_32 rfl (by first | exact Or.inl ⟨_, rfl⟩ | exact Or.inr ⟨_, rfl⟩) (Or.inr ⟨_, rfl⟩) (Nat.le_of_ble_eq_true rfl) (show z641296.toInt.toNat ≤ p641281.toInt.toNat by omega) ⟨P641298, F641314, q641297, z641296.toInt.toNat, f641317, rfl, rfl, hsb641310, hfr641320, he641318, he641319, hm641307, hq641308, (Nat.le_of_ble_eq_true rfl), (by omega), bf641317, (by have qa0 : Int32.toInt 0 = 0 := (by decide); omega), (sK_cp2 hf641317 (by decide) (by decide) (by omega))⟩
abbrev ky_641259_Arrays_copyOfRange : gKey := (cJ7_copyOfRange_39247, 3, "java/util/Arrays", (some (FieldType.array FieldType.byte)), [], "copyOfRange", fun _ _ => True)
def pp_641259_Arrays_copyOfRange (D : va_G) (I : FieldType → ClassId) (P641251 : List Nat) (F641252 : Nat → va_E) (q641253 : Nat) (p641254 : Int32) (f641255 : Nat → Int32) (n641256 : Nat) : Option Value → va_W → Nat → Nat → Prop := fun r w dc ds => ∃ (P641351 : List Nat) (F641352 : Nat → va_E) (q641348 : Nat) (n641349 : Nat) (f641350 : Nat → Int32), r = some (.ref q641348) ∧ w = va_pl P641351 F641352 ∧ rSub P641251 P641351 ∧ rFr [] P641251 F641252 F641352 ∧ F641352 q641253 = .inl (I .byte, n641256, .inl f641255) ∧ F641352 q641348 = .inl (I .byte, n641349, .inl f641350) ∧ q641348 ∈ P641351 ∧ q641348 ∉ P641251 ∧ dc ≤ 1 ∧ ds ≤ p641254.toInt.toNat ∧ gF f641350 (-128) 127 ∧ (n641349 : Int) = p641254.toInt ∧ sK f641255 f641350 p641254.toInt
set_option maxRecDepth 100000 in
set_option maxHeartbeats 4000000 in
theorem cp_641259_Arrays_copyOfRange (l : Launch) (hl0 : l.stackTraces = false) (D : va_G) (I : FieldType → ClassId) (P641251 : List Nat) (F641252 : Nat → va_E) (q641253 : Nat) (p641254 : Int32) (f641255 : Nat → Int32) (n641256 : Nat) (hmq641253 : q641253 ∈ P641251) (heq641253 : F641252 q641253 = .inl (I .byte, n641256, .inl f641255)) (bp641254 : gB p641254 0 16777216) (bf641255 : gF f641255 (-128) 127) (x641257 : p641254.toInt ≤ (n641256 : Int)) (x641258 : ((n641256 : Int) ≤ 16777216)) : CtA (gV D I) l yJ7_copyOfRange_39247 cJ7_copyOfRange_39247 3 (some (FieldType.array FieldType.byte)) 2 45 1 p641254.toInt.toNat [.ref q641253, .int 0, .int p641254] (va_pl P641251 F641252) (pp_641259_Arrays_copyOfRange D I P641251 F641252 q641253 p641254 f641255 n641256) gNA := by
  refine CtA_ofF hl0 (by decide +kernel) (Nat.le_of_ble_eq_true rfl) ?_
  refine G_iload_n 1 dr_cJ7_copyOfRange_39247_0 rfl ?_
  refine G_if_ne 10 dr_cJ7_copyOfRange_39247_1 (by decide +kernel) (fun hc => absurd hc (by decide)) (fun _ => ?_)
  refine G_iload_n 2 dr_cJ7_copyOfRange_39247_4 rfl ?_
  refine G_aload_n 0 dr_cJ7_copyOfRange_39247_5 rfl ?_
  refine Gp_alen (Int32.ofNat n641256) 1 hmq641253 heq641253 dr_cJ7_copyOfRange_39247_6 rfl rfl (G_nam fun z641260 hz641260 => ?_)
  have ez641260 : z641260.toInt = (n641256 : Nat) := gI_ofM hz641260 (by omega)
  have bz641260 : gB z641260 0 16777216 := ⟨by omega, by omega⟩
  refine G_icmp_eq 17 dr_cJ7_copyOfRange_39247_7 (by decide +kernel) (fun hc641261 => ?_) (fun hc641261 => ?_)
  · have r641262 : p641254.toInt = z641260.toInt := gC_eq hc641261
    refine G_aload_n 0 dr_cJ7_copyOfRange_39247_17 rfl ?_
    refine Gp_clone 1 hmq641253 heq641253 rfl dr_cJ7_copyOfRange_39247_18 wr_8_20 wr_8_21 wr_8_22 wr_8_23 wr_8_24 (fun _ _ _ h => gn_w 76 rfl h) bf641255 (Nat.le_of_ble_eq_true rfl) (Nat.le_of_ble_eq_true rfl) (show 0 + 1 ≤ 1 by first | omega | decide) (show 0 + n641256 ≤ p641254.toInt.toNat by first | omega | decide) (fun q641263 P641264 F641265 hq641266 hP641267 e641268 n641269 => ?_)
    refine G_widen (cs' := 1) (sl' := n641256) (by omega) (by omega) ?_
    have he641270 : F641265 q641253 = .inl (I .byte, n641256, .inl f641255) := (n641269 q641253 (fun h => hq641266 (h ▸ hmq641253))).trans heq641253
    have he641271 : F641265 q641263 = .inl (I .byte, n641256, .inl f641255) := e641268
    have hm641272 : q641253 ∈ P641264 := (hP641267 q641253).mpr (Or.inl hmq641253)
    have hm641273 : q641263 ∈ P641264 := (hP641267 q641263).mpr (Or.inr rfl)
    have hq641274 : q641263 ∉ P641251 := fun z => hq641266 ((rSub_rf (P := P641251)) q641263 z)
    have hfr641275 : rFr [] P641251 F641252 F641265 := rFr_new (rSub_rf (P := P641251)) hq641266 (rFr_rf (W := []) (P := P641251) (F := F641252)) n641269
    have hsb641276 : rSub P641251 P641264 := rSub_new (rSub_rf (P := P641251)) hP641267
    refine Gp_casA 1 hm641273 he641271 rfl dr_cJ7_copyOfRange_39247_21 wr_8_26 ?_
    exact G_aretA (FieldType.array FieldType.byte) dr_cJ7_copyOfRange_39247_24 rfl (by first | exact Or.inl ⟨_, rfl⟩ | exact Or.inr ⟨_, rfl⟩) (Or.inr ⟨_, rfl⟩) (Nat.le_of_ble_eq_true rfl) (show n641256 ≤ p641254.toInt.toNat by omega) ⟨P641264, F641265, q641263, n641256, f641255, rfl, rfl, hsb641276, hfr641275, he641270, he641271, hm641273, hq641274, (Nat.le_of_ble_eq_true rfl), (by omega), bf641255, (by have qa0 : Int32.toInt 0 = 0 := (by decide); omega), sK_rf⟩
  · have r641277 : p641254.toInt ≠ z641260.toInt := gC_ne hc641261
    refine G_aload_n 0 dr_cJ7_copyOfRange_39247_10 rfl ?_
    refine G_iload_n 1 dr_cJ7_copyOfRange_39247_11 rfl ?_
    refine G_iload_n 2 dr_cJ7_copyOfRange_39247_12 rfl ?_
    refine Gw_callS (As := [.ref q641253, .int 0, .int p641254]) (gV_ok D I) (cp_641286_Arrays_copyOfRangeByte l hl0 D I P641251 F641252 q641253 p641254 f641255 n641256 hmq641253 heq641253 bp641254 bf641255 (by have qa0 : Int32.toInt 0 = 0 := (by decide); omega) (by have qa0 : Int32.toInt 0 = 0 := (by decide); omega)) dr_cJ7_copyOfRange_39247_13 ⟨wr_8_92, wr_1_30, wr_8_94, by decide, rfl, (Nat.le_of_ble_eq_true rfl), (Nat.le_of_ble_eq_true rfl)⟩ wr_8_93 (show 0 + 1 ≤ 1 by first | omega | decide) (show 0 + p641254.toInt.toNat ≤ p641254.toInt.toNat by first | omega | decide) (Nat.le_of_ble_eq_true rfl) (fun r641329 w641330 dc641326 ds641327 hp641328 => ?_) (fun _ _ _ _ _ z => z.elim)
    obtain ⟨P641336, F641337, q641331, n641332, f641333, rfl, rfl, hsb641338, hfr641339, he641340, he641341, hm641342, hq641343, hdc, hds, bf641333, x641334, x641335⟩ := hp641328
    have hm641344 : q641253 ∈ P641336 := hsb641338 q641253 hmq641253
    have hq641345 : q641331 ∉ P641251 := fun z => hq641343 ((rSub_rf (P := P641251)) q641331 z)
    have hsb641346 : rSub P641251 P641336 := rSub_tr (rSub_rf (P := P641251)) hsb641338
    have hfr641347 : rFr [] P641251 F641252 F641337 := rFr_call (rSub_rf (P := P641251)) (rFr_rf (W := []) (P := P641251) (F := F641252)) hfr641339 (fun b hb hn => ⟨nm_n, nm_n⟩)
    change G _ _ _ _ _ _ _ (.ref q641331 :: _) _ _ _
    refine G_widen (cs' := 1) (sl' := p641254.toInt.toNat) (by omega) (by omega) ?_
    exact G_aretA (FieldType.array FieldType.byte) dr_cJ7_copyOfRange_39247_16 rfl (by first | exact Or.inl ⟨_, rfl⟩ | exact Or.inr ⟨_, rfl⟩) (Or.inr ⟨_, rfl⟩) (Nat.le_of_ble_eq_true rfl) (show p641254.toInt.toNat ≤ p641254.toInt.toNat by omega) ⟨P641336, F641337, q641331, n641332, f641333, rfl, rfl, hsb641346, hfr641347, he641340, he641341, hm641342, hq641345, (Nat.le_of_ble_eq_true rfl), (by omega), bf641333, (by have qa0 : Int32.toInt 0 = 0 := (by decide); omega), (sK_c x641335 (by omega))⟩
abbrev ky_641218_String_init : gKey := (cJ0_init_db425, 5, "java/lang/String", none, [], "<init>", fun _ _ => True)
def pp_641218_String_init (D : va_G) (I : FieldType → ClassId) (P641205 : List Nat) (F641206 : Nat → va_E) (q641207 : Nat) (q641208 : Nat) (q641209 : Nat) (p641210 : Int32) (p641211 : Int32) (p641212 : Int32) (p641213 : Int32) (f641214 : Nat → Int32) (n641215 : Nat) : Option Value → va_W → Nat → Nat → Prop := fun r w dc ds => ∃ (P641390 : List Nat) (F641391 : Nat → va_E) (q641387 : Nat) (n641388 : Nat) (f641389 : Nat → Int32), r = none ∧ w = va_pl P641390 F641391 ∧ rSub P641205 P641390 ∧ rFr [q641207] P641205 F641206 F641391 ∧ F641391 q641207 = .inr (0, [.ref q641387, .int 0, .int p641210, .int p641211]) ∧ F641391 q641208 = .inr (1, [.ref q641209, .int 0, .int p641212, .int p641213]) ∧ F641391 q641209 = .inl (I .byte, n641215, .inl f641214) ∧ F641391 q641387 = .inl (I .byte, n641388, .inl f641389) ∧ q641387 ∈ P641390 ∧ q641387 ∉ P641205 ∧ dc ≤ 1 ∧ ds ≤ p641213.toInt.toNat ∧ gF f641389 (-128) 127 ∧ (n641388 : Int) = p641213.toInt ∧ sK f641214 f641389 p641213.toInt
set_option maxRecDepth 100000 in
set_option maxHeartbeats 4000000 in
theorem cp_641218_String_init (l : Launch) (hl0 : l.stackTraces = false) (D : va_G) (I : FieldType → ClassId) (P641205 : List Nat) (F641206 : Nat → va_E) (q641207 : Nat) (q641208 : Nat) (q641209 : Nat) (p641210 : Int32) (p641211 : Int32) (p641212 : Int32) (p641213 : Int32) (f641214 : Nat → Int32) (n641215 : Nat) (hmq641207 : q641207 ∈ P641205) (hmq641208 : q641208 ∈ P641205) (hmq641209 : q641209 ∈ P641205) (heq641207 : F641206 q641207 = .inr (0, [.null, .int 0, .int p641210, .int p641211])) (heq641208 : F641206 q641208 = .inr (1, [.ref q641209, .int 0, .int p641212, .int p641213])) (heq641209 : F641206 q641209 = .inl (I .byte, n641215, .inl f641214)) (bp641211 : gB p641211 0 1) (bp641212 : gB p641212 0 1) (bp641213 : gB p641213 0 16777216) (bf641214 : gF f641214 (-128) 127) (x641216 : p641213.toInt ≤ (n641215 : Int)) (x641217 : ((n641215 : Int) ≤ 16777216)) : CtA (gV D I) l yJ0_init_db425 cJ0_init_db425 5 none 3 67 1 p641213.toInt.toNat [.ref q641207, .ref q641208, .null] (va_pl P641205 F641206) (pp_641218_String_init D I P641205 F641206 q641207 q641208 q641209 p641210 p641211 p641212 p641213 f641214 n641215) gNA := by
  refine CtA_ofF hl0 (by decide +kernel) (Nat.le_of_ble_eq_true rfl) ?_
  have bp641210 := gB_any p641210
  refine G_aload_n 0 dr_cJ0_init_db425_0 rfl ?_
  refine G_obj dr_cJ0_init_db425_1 wr_8_74 wr_1_51 wr_1_52 (Nat.le_of_ble_eq_true rfl) (Nat.le_of_ble_eq_true rfl) ?_
  refine G_aload_n 1 dr_cJ0_init_db425_4 rfl ?_
  refine Gw_callVB (As := []) (gV_ok D I) (cp_641228_AbstractStringBuilder_getValue l hl0 D I P641205 F641206 q641208 q641209 p641212 p641213 f641214 n641215 hmq641208 hmq641209 heq641208 heq641209 bp641212 bp641213 bf641214 (by have qa0 : Int32.toInt 0 = 0 := (by decide); omega)) dr_cJ0_init_db425_5 ⟨wr_8_75, wr_1_19, wr_8_79, by decide, rfl, (Nat.le_of_ble_eq_true rfl), (Nat.le_of_ble_eq_true rfl)⟩ wr_8_76 wr_8_78 hmq641208 heq641208 rfl (show 0 + 0 ≤ 1 by first | omega | decide) (show 0 + 0 ≤ p641213.toInt.toNat by first | omega | decide) (Nat.le_of_ble_eq_true rfl) (fun r641232 w641233 dc641229 ds641230 hp641231 => ?_) (fun _ _ _ _ _ z => z.elim)
  obtain ⟨rfl, rfl, hdc, hds⟩ := hp641231
  change G _ _ _ _ _ _ _ (.ref q641209 :: _) _ _ _
  refine G_widen (cs' := 0) (sl' := 0) (by omega) (by omega) ?_
  refine G_astore_n (L' := [(3, .ref q641209), (0, .ref q641207), (1, .ref q641208), (2, .null)]) dr_cJ0_init_db425_8 (Nat.le_of_ble_eq_true rfl) rfl ?_
  refine G_aload_n 2 dr_cJ0_init_db425_9 rfl ?_
  refine Gw_callVU (As := []) (owner := "java/lang/AbstractStringBuilder") (gV_ok D I) (cp_639892_StringBuilder_length l hl0 D I P641205 F641206 q641208 q641209 p641212 p641213 f641214 n641215 hmq641208 hmq641209 heq641208 heq641209 bp641212 bp641213 bf641214 (by have qa0 : Int32.toInt 0 = 0 := (by decide); omega)) dr_cJ0_init_db425_10 ⟨wr_8_80, wr_8_82, wr_8_81, wr_8_87, wr_8_83, wr_8_84, wr_1_20, wr_8_85, by decide, rfl, (Nat.le_of_ble_eq_true rfl), (Nat.le_of_ble_eq_true rfl)⟩ hmq641208 heq641208 rfl (show 0 + 0 ≤ 1 by first | omega | decide) (show 0 + 0 ≤ p641213.toInt.toNat by first | omega | decide) (Nat.le_of_ble_eq_true rfl) (fun r641237 w641238 dc641234 ds641235 hp641236 => ?_) (fun _ _ _ _ _ z => z.elim)
  obtain ⟨rfl, rfl, hdc, hds⟩ := hp641236
  change G _ _ _ _ _ _ _ (.int p641213 :: _) _ _ _
  refine G_widen (cs' := 0) (sl' := 0) (by omega) (by omega) ?_
  refine G_istore (L' := [(4, .int p641213), (3, .ref q641209), (0, .ref q641207), (1, .ref q641208), (2, .null)]) dr_cJ0_init_db425_13 (Nat.le_of_ble_eq_true rfl) rfl ?_
  refine G_aload_n 3 dr_cJ0_init_db425_15 rfl ?_
  refine Gw_callVB (As := []) (gV_ok D I) (cp_640037_AbstractStringBuilder_isLatin1 l hl0 D I P641205 F641206 q641208 q641209 p641212 p641213 f641214 n641215 hmq641208 hmq641209 heq641208 heq641209 bp641212 bp641213 bf641214 (by have qa0 : Int32.toInt 0 = 0 := (by decide); omega)) dr_cJ0_init_db425_16 ⟨wr_8_88, wr_1_19, wr_8_33, by decide, rfl, (Nat.le_of_ble_eq_true rfl), (Nat.le_of_ble_eq_true rfl)⟩ wr_8_30 wr_8_32 hmq641208 heq641208 rfl (show 0 + 0 ≤ 1 by first | omega | decide) (show 0 + 0 ≤ p641213.toInt.toNat by first | omega | decide) (Nat.le_of_ble_eq_true rfl) (fun r641242 w641243 dc641239 ds641240 hp641241 => ?_) (fun _ _ _ _ _ z => z.elim)
  obtain ⟨rfl, rfl, hdc, hds⟩ := hp641241
  change G _ _ _ _ _ _ _ (.int 1 :: _) _ _ _
  refine G_widen (cs' := 0) (sl' := 0) (by omega) (by omega) ?_
  refine G_if_eq 41 dr_cJ0_init_db425_19 (by decide +kernel) (fun hc => absurd hc (by decide)) (fun _ => ?_)
  refine G_aload_n 2 dr_cJ0_init_db425_22 rfl ?_
  refine G_iconst 0 dr_cJ0_init_db425_23 (by decide +kernel) ?_
  refine Gp_putF 1 hmq641207 heq641207 dr_cJ0_init_db425_24 (gk_J0 D I) (Nat.le_of_ble_eq_true rfl) wr_8_179 rfl rfl rfl rfl rfl (Nat.le_of_ble_eq_true rfl) (fun F641244 e641245 n641246 => ?_)
  have he641247 : F641244 q641208 = .inr (1, [.ref q641209, .int 0, .int p641212, .int p641213]) := (n641246 q641208 (rn_oo heq641208 heq641207 (by decide))).trans heq641208
  have he641248 : F641244 q641209 = .inl (I .byte, n641215, .inl f641214) := (n641246 q641209 (rn_ao heq641209 heq641207)).trans heq641209
  have he641249 : F641244 q641207 = .inr (0, [.null, .int 0, .int p641210, .int p641211]) := e641245
  have hfr641250 : rFr [q641207] P641205 F641206 F641244 := rFr_put (rFr_rf (W := []) (P := P641205) (F := F641206)) n641246
  refine G_aload_n 2 dr_cJ0_init_db425_27 rfl ?_
  refine G_aload_n 1 dr_cJ0_init_db425_28 rfl ?_
  refine G_iconst 0 dr_cJ0_init_db425_29 (by decide +kernel) ?_
  refine G_iload 0 dr_cJ0_init_db425_30 rfl ?_
  refine Gw_callS (As := [.ref q641209, .int 0, .int p641213]) (gV_ok D I) (cp_641259_Arrays_copyOfRange l hl0 D I P641205 F641244 q641209 p641213 f641214 n641215 hmq641209 he641248 bp641213 bf641214 (by have qa0 : Int32.toInt 0 = 0 := (by decide); omega) (by have qa0 : Int32.toInt 0 = 0 := (by decide); omega)) dr_cJ0_init_db425_32 ⟨wr_8_89, wr_1_30, wr_8_91, by decide, rfl, (Nat.le_of_ble_eq_true rfl), (Nat.le_of_ble_eq_true rfl)⟩ wr_8_90 (show 0 + 1 ≤ 1 by first | omega | decide) (show 0 + p641213.toInt.toNat ≤ p641213.toInt.toNat by first | omega | decide) (Nat.le_of_ble_eq_true rfl) (fun r641356 w641357 dc641353 ds641354 hp641355 => ?_) (fun _ _ _ _ _ z => z.elim)
  obtain ⟨P641363, F641364, q641358, n641359, f641360, rfl, rfl, hsb641365, hfr641366, he641367, he641368, hm641369, hq641370, hdc, hds, bf641360, x641361, x641362⟩ := hp641355
  have hm641371 : q641207 ∈ P641363 := hsb641365 q641207 hmq641207
  have hm641372 : q641208 ∈ P641363 := hsb641365 q641208 hmq641208
  have hm641373 : q641209 ∈ P641363 := hsb641365 q641209 hmq641209
  have hq641374 : q641358 ∉ P641205 := fun z => hq641370 ((rSub_rf (P := P641205)) q641358 z)
  have hsb641375 : rSub P641205 P641363 := rSub_tr (rSub_rf (P := P641205)) hsb641365
  have he641376 : F641364 q641207 = .inr (0, [.null, .int 0, .int p641210, .int p641211]) := (hfr641366 q641207 hmq641207 nm_n).trans he641249
  have he641377 : F641364 q641208 = .inr (1, [.ref q641209, .int 0, .int p641212, .int p641213]) := (hfr641366 q641208 hmq641208 nm_n).trans he641247
  have hfr641378 : rFr [q641207] P641205 F641206 F641364 := rFr_call (rSub_rf (P := P641205)) hfr641250 hfr641366 (fun b hb hn => ⟨(nm_c (fun e => hn (e ▸ List.mem_cons_self)) nm_n), nm_n⟩)
  change G _ _ _ _ _ _ _ (.ref q641358 :: _) _ _ _
  refine G_widen (cs' := 1) (sl' := p641213.toInt.toNat) (by omega) (by omega) ?_
  refine Gp_putF 0 hm641371 he641376 dr_cJ0_init_db425_35 (gk_J0 D I) (Nat.le_of_ble_eq_true rfl) wr_8_178 rfl rfl rfl rfl rfl (Nat.le_of_ble_eq_true rfl) (fun F641379 e641380 n641381 => ?_)
  have he641382 : F641379 q641208 = .inr (1, [.ref q641209, .int 0, .int p641212, .int p641213]) := (n641381 q641208 (rn_oo he641377 he641376 (by decide))).trans he641377
  have he641383 : F641379 q641209 = .inl (I .byte, n641215, .inl f641214) := (n641381 q641209 (rn_ao he641367 he641376)).trans he641367
  have he641384 : F641379 q641358 = .inl (I .byte, n641359, .inl f641360) := (n641381 q641358 (fun h => hq641374 (h ▸ hmq641207))).trans he641368
  have he641385 : F641379 q641207 = .inr (0, [.ref q641358, .int 0, .int p641210, .int p641211]) := e641380
  have hfr641386 : rFr [q641207] P641205 F641206 F641379 := rFr_put' List.mem_cons_self hfr641378 n641381
  refine G_goto 97 dr_cJ0_init_db425_38 (by decide +kernel) ?_
  exact G_vretA dr_cJ0_init_db425_97 rfl (Nat.le_of_ble_eq_true rfl) (show p641213.toInt.toNat ≤ p641213.toInt.toNat by omega) ⟨P641363, F641379, q641358, n641359, f641360, rfl, rfl, hsb641375, hfr641386, he641385, he641382, he641383, he641384, hm641369, hq641374, (Nat.le_of_ble_eq_true rfl), (by omega), bf641360, (by have qa0 : Int32.toInt 0 = 0 := (by decide); omega), (sK_c x641362 (by omega))⟩
abbrev ky_641204_String_init : gKey := (cJ0_init_81219, 2, "java/lang/String", none, [], "<init>", fun _ _ => True)
def pp_641204_String_init (D : va_G) (I : FieldType → ClassId) (P641191 : List Nat) (F641192 : Nat → va_E) (q641193 : Nat) (q641194 : Nat) (q641195 : Nat) (p641196 : Int32) (p641197 : Int32) (p641198 : Int32) (p641199 : Int32) (f641200 : Nat → Int32) (n641201 : Nat) : Option Value → va_W → Nat → Nat → Prop := fun r w dc ds => ∃ (P641421 : List Nat) (F641422 : Nat → va_E) (q641418 : Nat) (n641419 : Nat) (f641420 : Nat → Int32), r = none ∧ w = va_pl P641421 F641422 ∧ rSub P641191 P641421 ∧ rFr [q641193] P641191 F641192 F641422 ∧ F641422 q641193 = .inr (0, [.ref q641418, .int 0, .int p641196, .int p641197]) ∧ F641422 q641194 = .inr (1, [.ref q641195, .int 0, .int p641198, .int p641199]) ∧ F641422 q641195 = .inl (I .byte, n641201, .inl f641200) ∧ F641422 q641418 = .inl (I .byte, n641419, .inl f641420) ∧ q641418 ∈ P641421 ∧ q641418 ∉ P641191 ∧ dc ≤ 1 ∧ ds ≤ p641199.toInt.toNat ∧ gF f641420 (-128) 127 ∧ (n641419 : Int) = p641199.toInt ∧ sK f641200 f641420 p641199.toInt
set_option maxRecDepth 100000 in
set_option maxHeartbeats 4000000 in
theorem cp_641204_String_init (l : Launch) (hl0 : l.stackTraces = false) (D : va_G) (I : FieldType → ClassId) (P641191 : List Nat) (F641192 : Nat → va_E) (q641193 : Nat) (q641194 : Nat) (q641195 : Nat) (p641196 : Int32) (p641197 : Int32) (p641198 : Int32) (p641199 : Int32) (f641200 : Nat → Int32) (n641201 : Nat) (hmq641193 : q641193 ∈ P641191) (hmq641194 : q641194 ∈ P641191) (hmq641195 : q641195 ∈ P641191) (heq641193 : F641192 q641193 = .inr (0, [.null, .int 0, .int p641196, .int p641197])) (heq641194 : F641192 q641194 = .inr (1, [.ref q641195, .int 0, .int p641198, .int p641199])) (heq641195 : F641192 q641195 = .inl (I .byte, n641201, .inl f641200)) (bp641197 : gB p641197 0 1) (bp641198 : gB p641198 0 1) (bp641199 : gB p641199 0 16777216) (bf641200 : gF f641200 (-128) 127) (x641202 : p641199.toInt ≤ (n641201 : Int)) (x641203 : ((n641201 : Int) ≤ 16777216)) : CtA (gV D I) l yJ0_init_81219 cJ0_init_81219 2 none 4 91 1 p641199.toInt.toNat [.ref q641193, .ref q641194] (va_pl P641191 F641192) (pp_641204_String_init D I P641191 F641192 q641193 q641194 q641195 p641196 p641197 p641198 p641199 f641200 n641201) gNA := by
  refine CtA_ofF hl0 (by decide +kernel) (Nat.le_of_ble_eq_true rfl) ?_
  have bp641196 := gB_any p641196
  refine G_aload_n 0 dr_cJ0_init_81219_0 rfl ?_
  refine G_aload_n 1 dr_cJ0_init_81219_1 rfl ?_
  refine G_null dr_cJ0_init_81219_2 ?_
  refine Gw_callI (As := [.ref q641194, .null]) (gV_ok D I) (cp_641218_String_init l hl0 D I P641191 F641192 q641193 q641194 q641195 p641196 p641197 p641198 p641199 f641200 n641201 hmq641193 hmq641194 hmq641195 heq641193 heq641194 heq641195 bp641197 bp641198 bp641199 bf641200 (by have qa0 : Int32.toInt 0 = 0 := (by decide); omega) (by have qa0 : Int32.toInt 0 = 0 := (by decide); omega)) dr_cJ0_init_81219_3 ⟨wr_8_71, wr_1_21, wr_8_73, by decide, rfl, (Nat.le_of_ble_eq_true rfl), (Nat.le_of_ble_eq_true rfl)⟩ wr_8_72 rfl (show 0 + 1 ≤ 1 by first | omega | decide) (show 0 + p641199.toInt.toNat ≤ p641199.toInt.toNat by first | omega | decide) (Nat.le_of_ble_eq_true rfl) (fun r641395 w641396 dc641392 ds641393 hp641394 => ?_)
  obtain ⟨P641402, F641403, q641397, n641398, f641399, rfl, rfl, hsb641404, hfr641405, he641406, he641407, he641408, he641409, hm641410, hq641411, hdc, hds, bf641399, x641400, x641401⟩ := hp641394
  have hm641412 : q641193 ∈ P641402 := hsb641404 q641193 hmq641193
  have hm641413 : q641194 ∈ P641402 := hsb641404 q641194 hmq641194
  have hm641414 : q641195 ∈ P641402 := hsb641404 q641195 hmq641195
  have hq641415 : q641397 ∉ P641191 := fun z => hq641411 ((rSub_rf (P := P641191)) q641397 z)
  have hsb641416 : rSub P641191 P641402 := rSub_tr (rSub_rf (P := P641191)) hsb641404
  have hfr641417 : rFr [q641193] P641191 F641192 F641403 := rFr_call (rSub_rf (P := P641191)) (rFr_rf (W := []) (P := P641191) (F := F641192)) hfr641405 (fun b hb hn => ⟨nm_n, (nm_c (fun e => hn (e ▸ List.mem_cons_self)) nm_n)⟩)
  change G _ _ _ _ _ _ _ _ _ _ _
  refine G_widen (cs' := 1) (sl' := p641199.toInt.toNat) (by omega) (by omega) ?_
  exact G_vretA dr_cJ0_init_81219_6 rfl (Nat.le_of_ble_eq_true rfl) (show p641199.toInt.toNat ≤ p641199.toInt.toNat by omega) ⟨P641402, F641403, q641397, n641398, f641399, rfl, rfl, hsb641416, hfr641417, he641406, he641407, he641408, he641409, hm641410, hq641415, (Nat.le_of_ble_eq_true rfl), (by omega), bf641399, (by have qa0 : Int32.toInt 0 = 0 := (by decide); omega), (sK_c x641401 (by omega))⟩
abbrev ky_641174_StringBuilder_toString : gKey := (cJ4_toString_0e30d, 1, "java/lang/StringBuilder", (some (FieldType.object "java/lang/String")), [], "toString", fun _ _ => True)
def pp_641174_StringBuilder_toString (D : va_G) (I : FieldType → ClassId) (P641164 : List Nat) (F641165 : Nat → va_E) (q641166 : Nat) (q641167 : Nat) (p641168 : Int32) (p641169 : Int32) (f641170 : Nat → Int32) (n641171 : Nat) : Option Value → va_W → Nat → Nat → Prop := fun r w dc ds => ∃ (P641453 : List Nat) (F641454 : Nat → va_E) (q641449 : Nat) (q641450 : Nat) (n641451 : Nat) (f641452 : Nat → Int32), r = some (.ref q641449) ∧ w = va_pl P641453 F641454 ∧ rSub P641164 P641453 ∧ rFr [] P641164 F641165 F641454 ∧ F641454 q641449 = .inr (0, [.ref q641450, .int 0, .int 0, .int 0]) ∧ F641454 q641166 = .inr (1, [.ref q641167, .int 0, .int p641168, .int p641169]) ∧ F641454 q641167 = .inl (I .byte, n641171, .inl f641170) ∧ F641454 q641450 = .inl (I .byte, n641451, .inl f641452) ∧ q641449 ∈ P641453 ∧ q641449 ∉ P641164 ∧ q641450 ∈ P641453 ∧ q641450 ∉ P641164 ∧ dc ≤ 2 ∧ ds ≤ p641169.toInt.toNat + 4 ∧ gF f641452 (-128) 127 ∧ (n641451 : Int) = p641169.toInt ∧ sK f641170 f641452 p641169.toInt
set_option maxRecDepth 100000 in
set_option maxHeartbeats 4000000 in
theorem cp_641174_StringBuilder_toString (l : Launch) (hl0 : l.stackTraces = false) (D : va_G) (I : FieldType → ClassId) (P641164 : List Nat) (F641165 : Nat → va_E) (q641166 : Nat) (q641167 : Nat) (p641168 : Int32) (p641169 : Int32) (f641170 : Nat → Int32) (n641171 : Nat) (hmq641166 : q641166 ∈ P641164) (hmq641167 : q641167 ∈ P641164) (heq641166 : F641165 q641166 = .inr (1, [.ref q641167, .int 0, .int p641168, .int p641169])) (heq641167 : F641165 q641167 = .inl (I .byte, n641171, .inl f641170)) (bp641168 : gB p641168 0 1) (bp641169 : gB p641169 0 16777216) (bf641170 : gF f641170 (-128) 127) (x641172 : p641169.toInt ≤ (n641171 : Int)) (x641173 : ((n641171 : Int) ≤ 16777216)) : CtA (gV D I) l yJ4_toString_0e30d cJ4_toString_0e30d 1 (some (FieldType.object "java/lang/String")) 5 112 2 (p641169.toInt.toNat + 4) [.ref q641166] (va_pl P641164 F641165) (pp_641174_StringBuilder_toString D I P641164 F641165 q641166 q641167 p641168 p641169 f641170 n641171) gNA := by
  refine CtA_ofF hl0 (by decide +kernel) (Nat.le_of_ble_eq_true rfl) ?_
  refine G_new [.null, .int 0, .int 0, .int 0] dr_cJ4_toString_0e30d_0 (gk_J0 D I) wr_8_66 wr_8_67 wr_1_21 (gfs_J0) (show 0 + 1 ≤ 2 by first | omega | decide) (show 0 + 4 ≤ (p641169.toInt.toNat + 4) by first | omega | decide) (fun q641175 => Gp_in (fun P641176 F641177 hq641178 hP641179 e641180 n641181 => ?_))
  refine G_widen (cs' := 1) (sl' := 4) (by omega) (by omega) ?_
  have he641182 : F641177 q641166 = .inr (1, [.ref q641167, .int 0, .int p641168, .int p641169]) := (n641181 q641166 (fun h => hq641178 (h ▸ hmq641166))).trans heq641166
  have he641183 : F641177 q641167 = .inl (I .byte, n641171, .inl f641170) := (n641181 q641167 (fun h => hq641178 (h ▸ hmq641167))).trans heq641167
  have he641184 : F641177 q641175 = .inr (0, [.null, .int 0, .int 0, .int 0]) := e641180
  have hm641185 : q641166 ∈ P641176 := (hP641179 q641166).mpr (Or.inl hmq641166)
  have hm641186 : q641167 ∈ P641176 := (hP641179 q641167).mpr (Or.inl hmq641167)
  have hm641187 : q641175 ∈ P641176 := (hP641179 q641175).mpr (Or.inr rfl)
  have hq641188 : q641175 ∉ P641164 := fun z => hq641178 ((rSub_rf (P := P641164)) q641175 z)
  have hfr641189 : rFr [] P641164 F641165 F641177 := rFr_new (rSub_rf (P := P641164)) hq641178 (rFr_rf (W := []) (P := P641164) (F := F641165)) n641181
  have hsb641190 : rSub P641164 P641176 := rSub_new (rSub_rf (P := P641164)) hP641179
  refine G_dup dr_cJ4_toString_0e30d_3 rfl ?_
  refine G_aload_n 0 dr_cJ4_toString_0e30d_4 rfl ?_
  refine Gw_callI (As := [.ref q641166]) (gV_ok D I) (cp_641204_String_init l hl0 D I P641176 F641177 q641175 q641166 q641167 0 0 p641168 p641169 f641170 n641171 hm641187 hm641185 hm641186 he641184 he641182 he641183 (gB_w (gBl (show Int32.toInt 0 = 0 by decide)) (by decide) (by decide)) bp641168 bp641169 bf641170 (by have qa0 : Int32.toInt 0 = 0 := (by decide); omega) (by have qa0 : Int32.toInt 0 = 0 := (by decide); omega)) dr_cJ4_toString_0e30d_5 ⟨wr_8_68, wr_1_21, wr_8_70, by decide, rfl, (Nat.le_of_ble_eq_true rfl), (Nat.le_of_ble_eq_true rfl)⟩ wr_8_69 rfl (show 1 + 1 ≤ 2 by first | omega | decide) (show 4 + p641169.toInt.toNat ≤ (p641169.toInt.toNat + 4) by first | omega | decide) (Nat.le_of_ble_eq_true rfl) (fun r641426 w641427 dc641423 ds641424 hp641425 => ?_)
  obtain ⟨P641433, F641434, q641428, n641429, f641430, rfl, rfl, hsb641435, hfr641436, he641437, he641438, he641439, he641440, hm641441, hq641442, hdc, hds, bf641430, x641431, x641432⟩ := hp641425
  have hm641443 : q641166 ∈ P641433 := hsb641435 q641166 hm641185
  have hm641444 : q641167 ∈ P641433 := hsb641435 q641167 hm641186
  have hm641445 : q641175 ∈ P641433 := hsb641435 q641175 hm641187
  have hq641446 : q641428 ∉ P641164 := fun z => hq641442 (hsb641190 q641428 z)
  have hsb641447 : rSub P641164 P641433 := rSub_tr hsb641190 hsb641435
  have hfr641448 : rFr [] P641164 F641165 F641434 := rFr_call hsb641190 hfr641189 hfr641436 (fun b hb hn => ⟨nm_n, (nm_c (fun e => hq641188 (e ▸ hb)) nm_n)⟩)
  change G _ _ _ _ _ _ _ _ _ _ _
  refine G_widen (cs' := 2) (sl' := 4 + p641169.toInt.toNat) (by omega) (by omega) ?_
  exact G_aretA (FieldType.object "java/lang/String") dr_cJ4_toString_0e30d_8 rfl (by first | exact Or.inl ⟨_, rfl⟩ | exact Or.inr ⟨_, rfl⟩) (Or.inr ⟨_, rfl⟩) (Nat.le_of_ble_eq_true rfl) (show 4 + p641169.toInt.toNat ≤ (p641169.toInt.toNat + 4) by omega) ⟨P641433, F641434, q641175, q641428, n641429, f641430, rfl, rfl, hsb641447, hfr641448, he641437, he641438, he641439, he641440, hm641445, hq641188, hm641441, hq641446, (Nat.le_of_ble_eq_true rfl), (by omega), bf641430, (by have qa0 : Int32.toInt 0 = 0 := (by decide); omega), (sK_c x641432 (by omega))⟩
abbrev ky_641476_StringLatin1_equals : gKey := (cJ1_equals_b5fdf, 3, "java/lang/StringLatin1", (some FieldType.boolean), [], "equals", fun _ _ => True)
def pp_641476_StringLatin1_equals (D : va_G) (I : FieldType → ClassId) (P641468 : List Nat) (F641469 : Nat → va_E) (q641470 : Nat) (qs641471 : Nat) (bs641472 : List Int32) (f641473 : Nat → Int32) (n641474 : Nat) : Option Value → va_W → Nat → Nat → Prop := fun r w dc ds => ∃ (o641557 : Int32), r = some (.int o641557) ∧ w = va_pl P641468 F641469 ∧ dc ≤ 0 ∧ ds ≤ 0 ∧ gB o641557 0 1
set_option maxRecDepth 100000 in
set_option maxHeartbeats 4000000 in
theorem cp_641476_StringLatin1_equals (l : Launch) (hl0 : l.stackTraces = false) (D : va_G) (I : FieldType → ClassId) (P641468 : List Nat) (F641469 : Nat → va_E) (q641470 : Nat) (qs641471 : Nat) (bs641472 : List Int32) (f641473 : Nat → Int32) (n641474 : Nat) (hmq641470 : q641470 ∈ P641468) (heq641470 : F641469 q641470 = .inl (I .byte, n641474, .inl f641473)) (hbs641472 : ∀ A s H, (gV D I).2.2.2.1 A s H → va_T .byte qs641471 bs641472.length (fun j => .int (bs641472.getD j 0)) A s H) (nbs641472 : (bs641472.length : Int) ≤ 65535) (lbs641472 : gLB bs641472) (bf641473 : gF f641473 (-128) 127) (x641475 : ((n641474 : Int) ≤ 16777216)) : CtA (gV D I) l yJ1_equals_b5fdf cJ1_equals_b5fdf 3 (some FieldType.boolean) 0 0 0 0 [.ref q641470, .ref qs641471] (va_pl P641468 F641469) (pp_641476_StringLatin1_equals D I P641468 F641469 q641470 qs641471 bs641472 f641473 n641474) gNA := by
  refine CtA_ofF hl0 (by decide +kernel) (Nat.le_of_ble_eq_true rfl) ?_
  refine G_aload_n 0 dr_cJ1_equals_b5fdf_0 rfl ?_
  refine Gp_alen (Int32.ofNat n641474) 1 hmq641470 heq641470 dr_cJ1_equals_b5fdf_1 rfl rfl (G_nam fun z641477 hz641477 => ?_)
  have ez641477 : z641477.toInt = (n641474 : Nat) := gI_ofM hz641477 (by omega)
  have bz641477 : gB z641477 0 16777216 := ⟨by omega, by omega⟩
  refine G_aload_n 1 dr_cJ1_equals_b5fdf_2 rfl ?_
  refine G_klen dr_cJ1_equals_b5fdf_3 hbs641472 (G_nam fun z641478 hz641478 => ?_)
  have ez641478 : z641478.toInt = (bs641472.length : Int) := gI_ofN hz641478 nbs641472
  have bz641478 : gB z641478 0 65535 := ⟨by omega, by omega⟩
  refine G_icmp_ne 34 dr_cJ1_equals_b5fdf_4 (by decide +kernel) (fun hc641479 => ?_) (fun hc641479 => ?_)
  · have r641480 : z641477.toInt ≠ z641478.toInt := gC_ne hc641479
    refine G_iconst 0 dr_cJ1_equals_b5fdf_34 (by decide +kernel) ?_
    exact G_zretA FieldType.boolean dr_cJ1_equals_b5fdf_35 rfl rfl (Nat.le_of_ble_eq_true rfl) (Nat.le_of_ble_eq_true rfl) ⟨0, rfl, rfl, (Nat.le_of_ble_eq_true rfl), (Nat.le_of_ble_eq_true rfl), (gB_w (gBl (show Int32.toInt 0 = 0 by decide)) (by decide) (by decide))⟩
  · have r641481 : z641477.toInt = z641478.toInt := gC_eq hc641479
    have bz641477' : gB z641477 0 65535 := ⟨by omega, by omega⟩
    refine G_iconst 0 dr_cJ1_equals_b5fdf_7 (by decide +kernel) ?_
    refine G_istore_n (L' := [(2, .int 0), (0, .ref q641470), (1, .ref qs641471)]) dr_cJ1_equals_b5fdf_8 (Nat.le_of_ble_eq_true rfl) rfl ?_
    have hlp9_641546 : ∀ (n9_641546 : Nat) (g641546 : Int32), gB g641546 0 16777216 → ((16777217 : Int) - g641546.toInt).toNat < n9_641546 → G (gV D I) l (gRm 0 0 0 0) (gMA (gV D I) (pp_641476_StringLatin1_equals D I P641468 F641469 q641470 qs641471 bs641472 f641473 n641474) gNA 0 0) ky_641476_StringLatin1_equals 9 [(2, .int g641546), (0, .ref q641470), (1, .ref qs641471)] [] (va_pl P641468 F641469) 0 0 := by
      intro n9_641546
      induction n9_641546 with
      | zero => intro g641546 bg641546 hm9_641546; exact absurd hm9_641546 (Nat.not_lt_zero _)
      | succ n9_641546 ih9_641546 =>
        intro g641546 bg641546 hm9_641546
        refine G_iload_n 0 dr_cJ1_equals_b5fdf_9 rfl ?_
        refine G_aload_n 1 dr_cJ1_equals_b5fdf_10 rfl ?_
        refine Gp_alen (Int32.ofNat n641474) 1 hmq641470 heq641470 dr_cJ1_equals_b5fdf_11 rfl rfl (G_nam fun z641547 hz641547 => ?_)
        have ez641547 : z641547.toInt = (n641474 : Nat) := gI_ofM hz641547 (by omega)
        have bz641547 : gB z641547 0 16777216 := ⟨by omega, by omega⟩
        refine G_icmp_ge 32 dr_cJ1_equals_b5fdf_12 (by decide +kernel) (fun hc641548 => ?_) (fun hc641548 => ?_)
        · have r641549 : z641547.toInt ≤ g641546.toInt := gC_le hc641548
          refine G_iconst 1 dr_cJ1_equals_b5fdf_32 (by decide +kernel) ?_
          exact G_zretA FieldType.boolean dr_cJ1_equals_b5fdf_33 rfl rfl (Nat.le_of_ble_eq_true rfl) (Nat.le_of_ble_eq_true rfl) ⟨1, rfl, rfl, (Nat.le_of_ble_eq_true rfl), (Nat.le_of_ble_eq_true rfl), (gB_w (gBl (show Int32.toInt 1 = 1 by decide)) (by decide) (by decide))⟩
        · have r641550 : g641546.toInt < z641547.toInt := gC_nle hc641548
          have bg641546' : gB g641546 0 16777215 := ⟨by omega, by omega⟩
          have bz641547' : gB z641547 1 16777216 := ⟨by omega, by omega⟩
          refine G_aload_n 1 dr_cJ1_equals_b5fdf_15 rfl ?_
          refine G_iload_n 0 dr_cJ1_equals_b5fdf_16 rfl ?_
          refine Gp_bald 1 hmq641470 heq641470 dr_cJ1_equals_b5fdf_17 rfl (gB_inr (by omega) (by omega)) (G_nam fun z641551 hz641551 => ?_)
          have bz641551 : gB z641551 (-128) 127 := by rw [hz641551]; exact bf641473 _
          refine G_aload_n 2 dr_cJ1_equals_b5fdf_18 rfl ?_
          refine G_iload_n 0 dr_cJ1_equals_b5fdf_19 rfl ?_
          refine G_kbald (f := fun j => bs641472.getD j 0) dr_cJ1_equals_b5fdf_20 hbs641472 (gB_inr (by omega) (by omega)) (G_nam fun z641552 hz641552 => ?_)
          have bz641552 : gB z641552 (-2147483648) 2147483647 := gB_any z641552
          refine G_icmp_eq 26 dr_cJ1_equals_b5fdf_21 (by decide +kernel) (fun hc641553 => ?_) (fun hc641553 => ?_)
          · have r641554 : z641551.toInt = z641552.toInt := gC_eq hc641553
            have bz641552' : gB z641552 (-128) 127 := ⟨by omega, by omega⟩
            obtain ⟨z641555, hz641555⟩ : ∃ z : Int32, z = g641546 + Int32.ofInt 1 := ⟨_, rfl⟩
            have ez641555 : z641555.toInt = g641546.toInt + 1 := gI_inc hz641555 (by decide) bg641546' (by decide) (by decide)
            have bz641555 : gB z641555 1 16777216 := ⟨by omega, by omega⟩
            refine G_iinc (L' := [(2, .int z641555), (0, .ref q641470), (1, .ref qs641471)]) z641555 0 dr_cJ1_equals_b5fdf_26 rfl hz641555.symm (Nat.le_of_ble_eq_true rfl) rfl ?_
            refine G_goto 9 dr_cJ1_equals_b5fdf_29 (by decide +kernel) ?_
            exact ih9_641546 z641555 (gB_w bz641555 (by decide) (by decide)) (by omega)
          · have r641556 : z641551.toInt ≠ z641552.toInt := gC_ne hc641553
            refine G_iconst 0 dr_cJ1_equals_b5fdf_24 (by decide +kernel) ?_
            exact G_zretA FieldType.boolean dr_cJ1_equals_b5fdf_25 rfl rfl (Nat.le_of_ble_eq_true rfl) (Nat.le_of_ble_eq_true rfl) ⟨0, rfl, rfl, (Nat.le_of_ble_eq_true rfl), (Nat.le_of_ble_eq_true rfl), (gB_w (gBl (show Int32.toInt 0 = 0 by decide)) (by decide) (by decide))⟩
    exact hlp9_641546 (((16777217 : Int) - 0).toNat + 1) 0 (gB_w (gBl (show Int32.toInt 0 = 0 by decide)) (by decide) (by decide)) (Nat.lt_succ_self _)
abbrev ky_641467_String_equals : gKey := (cJ0_equals_9ea2d, 3, "java/lang/String", (some FieldType.boolean), [], "equals", fun _ _ => True)
def pp_641467_String_equals (D : va_G) (I : FieldType → ClassId) (P641455 : List Nat) (F641456 : Nat → va_E) (q641457 : Nat) (q641458 : Nat) (qs641459 : Nat) (qb641460 : Nat) (bs641461 : List Int32) (p641462 : Int32) (p641463 : Int32) (f641464 : Nat → Int32) (n641465 : Nat) : Option Value → va_W → Nat → Nat → Prop := fun r w dc ds => (∃ (o641563 : Int32), r = some (.int 0) ∧ w = va_pl P641455 F641456 ∧ dc ≤ 0 ∧ ds ≤ 0 ∧ o641563.toInt = 0 ∧ gB o641563 0 0) ∨ (∃ (o641563 : Int32), r = some (.int 1) ∧ w = va_pl P641455 F641456 ∧ dc ≤ 0 ∧ ds ≤ 0 ∧ o641563.toInt ≠ 0 ∧ gB o641563 1 1) ∨ (r = some (.int 1) ∧ w = va_pl P641455 F641456 ∧ dc ≤ 0 ∧ ds ≤ 0)
set_option maxRecDepth 100000 in
set_option maxHeartbeats 4000000 in
theorem cp_641467_String_equals (l : Launch) (hl0 : l.stackTraces = false) (D : va_G) (I : FieldType → ClassId) (P641455 : List Nat) (F641456 : Nat → va_E) (q641457 : Nat) (q641458 : Nat) (qs641459 : Nat) (qb641460 : Nat) (bs641461 : List Int32) (p641462 : Int32) (p641463 : Int32) (f641464 : Nat → Int32) (n641465 : Nat) (hmq641457 : q641457 ∈ P641455) (hmq641458 : q641458 ∈ P641455) (heq641457 : F641456 q641457 = .inr (0, [.ref q641458, .int 0, .int p641462, .int p641463])) (heq641458 : F641456 q641458 = .inl (I .byte, n641465, .inl f641464)) (hbs641461 : ∀ A s H, (gV D I).2.2.2.1 A s H → gSC qs641459 qb641460 bs641461 A s H) (nbs641461 : (bs641461.length : Int) ≤ 65535) (lbs641461 : gLB bs641461) (bp641463 : gB p641463 0 1) (bf641464 : gF f641464 (-128) 127) (x641466 : ((n641465 : Int) ≤ 16777216)) : CtA (gV D I) l yJ0_equals_9ea2d cJ0_equals_9ea2d 3 (some FieldType.boolean) 1 22 0 0 [.ref q641457, .ref qs641459] (va_pl P641455 F641456) (pp_641467_String_equals D I P641455 F641456 q641457 q641458 qs641459 qb641460 bs641461 p641462 p641463 f641464 n641465) gNA := by
  refine CtA_ofF hl0 (by decide +kernel) (Nat.le_of_ble_eq_true rfl) ?_
  have bp641462 := gB_any p641462
  refine G_aload_n 0 dr_cJ0_equals_9ea2d_0 rfl ?_
  refine G_aload_n 1 dr_cJ0_equals_9ea2d_1 rfl ?_
  refine G_acmp_ne 7 dr_cJ0_equals_9ea2d_2 (by decide +kernel) (fun hc => ?_) (fun hc => ?_)
  · refine G_aload_n 1 dr_cJ0_equals_9ea2d_7 rfl ?_
    refine G_instK dr_cJ0_equals_9ea2d_8 wr_9_145 wr_8_67 (fun _ _ _ h => (hbs641461 _ _ _ h).1) ?_
    refine G_if_eq 54 dr_cJ0_equals_9ea2d_11 (by decide +kernel) (fun hc => absurd hc (by decide)) (fun _ => ?_)
    refine G_aload_n 1 dr_cJ0_equals_9ea2d_14 rfl ?_
    refine G_casK dr_cJ0_equals_9ea2d_15 wr_9_145 wr_8_67 (fun _ _ _ h => (hbs641461 _ _ _ h).1) ?_
    refine G_astore_n (L' := [(2, .ref qs641459), (0, .ref q641457), (1, .ref qs641459)]) dr_cJ0_equals_9ea2d_18 (Nat.le_of_ble_eq_true rfl) rfl ?_
    refine G_gets dr_cJ0_equals_9ea2d_19 wr_3_65 gz_cs (fun x hx => ?_)
    subst hx
    refine G_if_eq 36 dr_cJ0_equals_9ea2d_22 (by decide +kernel) (fun hc => absurd hc (by decide)) (fun _ => ?_)
    refine G_aload_n 1 dr_cJ0_equals_9ea2d_25 rfl ?_
    refine Gp_get 1 hmq641457 heq641457 dr_cJ0_equals_9ea2d_26 (gk_J0 D I) (Nat.le_of_ble_eq_true rfl) wr_8_179 rfl ?_
    refine G_aload_n 0 dr_cJ0_equals_9ea2d_29 rfl ?_
    refine G_kget dr_cJ0_equals_9ea2d_30 wr_8_179 (fun _ _ _ h => (hbs641461 _ _ _ h).2.1) ?_
    refine G_icmp_ne 54 dr_cJ0_equals_9ea2d_33 (by decide +kernel) (fun hc => absurd hc (by decide)) (fun _ => ?_)
    refine G_aload_n 1 dr_cJ0_equals_9ea2d_36 rfl ?_
    refine Gp_get 0 hmq641457 heq641457 dr_cJ0_equals_9ea2d_37 (gk_J0 D I) (Nat.le_of_ble_eq_true rfl) wr_8_178 rfl ?_
    refine G_aload_n 0 dr_cJ0_equals_9ea2d_40 rfl ?_
    refine G_kget dr_cJ0_equals_9ea2d_41 wr_8_178 (fun _ _ _ h => (hbs641461 _ _ _ h).2.2.1) ?_
    refine Gw_callS (As := [.ref q641458, .ref qb641460]) (gV_ok D I) (cp_641476_StringLatin1_equals l hl0 D I P641455 F641456 q641458 qb641460 bs641461 f641464 n641465 hmq641458 heq641458 (fun _ _ _ h => (hbs641461 _ _ _ h).2.2.2) (by omega) lbs641461 bf641464 (by have qa0 : Int32.toInt 0 = 0 := (by decide); omega)) dr_cJ0_equals_9ea2d_44 ⟨wr_9_146, wr_1_28, wr_9_148, by decide, rfl, (Nat.le_of_ble_eq_true rfl), (Nat.le_of_ble_eq_true rfl)⟩ wr_9_147 (show 0 + 0 ≤ 0 by first | omega | decide) (show 0 + 0 ≤ 0 by first | omega | decide) (Nat.le_of_ble_eq_true rfl) (fun r641561 w641562 dc641558 ds641559 hp641560 => ?_) (fun _ _ _ _ _ z => z.elim)
    obtain ⟨o641563, rfl, rfl, hdc, hds, bo641563⟩ := hp641560
    change G _ _ _ _ _ _ _ (.int o641563 :: _) _ _ _
    refine G_widen (cs' := 0) (sl' := 0) (by omega) (by omega) ?_
    refine G_if_eq 54 dr_cJ0_equals_9ea2d_47 (by decide +kernel) (fun hc641564 => ?_) (fun hc641564 => ?_)
    · have r641565 : o641563.toInt = 0 := gj_eq hc641564 (show Int32.toInt 0 = 0 by decide)
      have bo641563' : gB o641563 0 0 := ⟨by omega, by omega⟩
      refine G_iconst 0 dr_cJ0_equals_9ea2d_54 (by decide +kernel) ?_
      exact G_zretA FieldType.boolean dr_cJ0_equals_9ea2d_55 rfl rfl (Nat.le_of_ble_eq_true rfl) (Nat.le_of_ble_eq_true rfl) (Or.inl ⟨o641563, rfl, rfl, (Nat.le_of_ble_eq_true rfl), (Nat.le_of_ble_eq_true rfl), r641565, bo641563'⟩)
    · have r641566 : o641563.toInt ≠ 0 := gj_neq hc641564 (show Int32.toInt 0 = 0 by decide)
      have bo641563' : gB o641563 1 1 := ⟨by omega, by omega⟩
      refine G_iconst 1 dr_cJ0_equals_9ea2d_50 (by decide +kernel) ?_
      refine G_goto 55 dr_cJ0_equals_9ea2d_51 (by decide +kernel) ?_
      exact G_zretA FieldType.boolean dr_cJ0_equals_9ea2d_55 rfl rfl (Nat.le_of_ble_eq_true rfl) (Nat.le_of_ble_eq_true rfl) (Or.inr (Or.inl ⟨o641563, rfl, rfl, (Nat.le_of_ble_eq_true rfl), (Nat.le_of_ble_eq_true rfl), r641566, bo641563'⟩))
  · refine G_iconst 1 dr_cJ0_equals_9ea2d_5 (by decide +kernel) ?_
    exact G_zretA FieldType.boolean dr_cJ0_equals_9ea2d_6 rfl rfl (Nat.le_of_ble_eq_true rfl) (Nat.le_of_ble_eq_true rfl) (Or.inr (Or.inr (⟨rfl, rfl, (Nat.le_of_ble_eq_true rfl), (Nat.le_of_ble_eq_true rfl)⟩)))
abbrev ky_641580_String_isLatin1 : gKey := (cJ0_isLatin1_aae02, 1, "java/lang/String", (some FieldType.boolean), [], "isLatin1", fun _ _ => True)
def pp_641580_String_isLatin1 (D : va_G) (I : FieldType → ClassId) (P641575 : List Nat) (F641576 : Nat → va_E) (qs641577 : Nat) (qb641578 : Nat) (bs641579 : List Int32) : Option Value → va_W → Nat → Nat → Prop := fun r w dc ds => r = some (.int 1) ∧ w = va_pl P641575 F641576 ∧ dc ≤ 0 ∧ ds ≤ 0
set_option maxRecDepth 100000 in
set_option maxHeartbeats 4000000 in
theorem cp_641580_String_isLatin1 (l : Launch) (hl0 : l.stackTraces = false) (D : va_G) (I : FieldType → ClassId) (P641575 : List Nat) (F641576 : Nat → va_E) (qs641577 : Nat) (qb641578 : Nat) (bs641579 : List Int32) (hbs641579 : ∀ A s H, (gV D I).2.2.2.1 A s H → gSC qs641577 qb641578 bs641579 A s H) (nbs641579 : (bs641579.length : Int) ≤ 65535) (lbs641579 : gLB bs641579) : CtA (gV D I) l yJ0_isLatin1_aae02 cJ0_isLatin1_aae02 1 (some FieldType.boolean) 0 0 0 0 [.ref qs641577] (va_pl P641575 F641576) (pp_641580_String_isLatin1 D I P641575 F641576 qs641577 qb641578 bs641579) gNA := by
  refine CtA_ofF hl0 (by decide +kernel) (Nat.le_of_ble_eq_true rfl) ?_
  refine G_gets dr_cJ0_isLatin1_aae02_0 wr_3_65 gz_cs (fun x hx => ?_)
  subst hx
  refine G_if_eq 17 dr_cJ0_isLatin1_aae02_3 (by decide +kernel) (fun hc => absurd hc (by decide)) (fun _ => ?_)
  refine G_aload_n 0 dr_cJ0_isLatin1_aae02_6 rfl ?_
  refine G_kget dr_cJ0_isLatin1_aae02_7 wr_8_179 (fun _ _ _ h => (hbs641579 _ _ _ h).2.1) ?_
  refine G_if_ne 17 dr_cJ0_isLatin1_aae02_10 (by decide +kernel) (fun hc => absurd hc (by decide)) (fun _ => ?_)
  refine G_iconst 1 dr_cJ0_isLatin1_aae02_13 (by decide +kernel) ?_
  refine G_goto 18 dr_cJ0_isLatin1_aae02_14 (by decide +kernel) ?_
  exact G_zretA FieldType.boolean dr_cJ0_isLatin1_aae02_18 rfl rfl (Nat.le_of_ble_eq_true rfl) (Nat.le_of_ble_eq_true rfl) ⟨rfl, rfl, (Nat.le_of_ble_eq_true rfl), (Nat.le_of_ble_eq_true rfl)⟩
abbrev ky_641592_StringLatin1_charAt : gKey := (cJ1_charAt_3b067, 2, "java/lang/StringLatin1", (some FieldType.char), [], "charAt", fun _ _ => True)
def pp_641592_StringLatin1_charAt (D : va_G) (I : FieldType → ClassId) (P641586 : List Nat) (F641587 : Nat → va_E) (qs641588 : Nat) (bs641589 : List Int32) (p641590 : Int32) : Option Value → va_W → Nat → Nat → Prop := fun r w dc ds => ∃ (o641602 : Int32), r = some (.int o641602) ∧ w = va_pl P641586 F641587 ∧ dc ≤ 0 ∧ ds ≤ 0 ∧ gB o641602 0 65535
set_option maxRecDepth 100000 in
set_option maxHeartbeats 4000000 in
theorem cp_641592_StringLatin1_charAt (l : Launch) (hl0 : l.stackTraces = false) (D : va_G) (I : FieldType → ClassId) (P641586 : List Nat) (F641587 : Nat → va_E) (qs641588 : Nat) (bs641589 : List Int32) (p641590 : Int32) (hbs641589 : ∀ A s H, (gV D I).2.2.2.1 A s H → va_T .byte qs641588 bs641589.length (fun j => .int (bs641589.getD j 0)) A s H) (nbs641589 : (bs641589.length : Int) ≤ 65535) (lbs641589 : gLB bs641589) (bp641590 : gB p641590 0 16777215) (x641591 : p641590.toInt < (bs641589.length : Int)) : CtA (gV D I) l yJ1_charAt_3b067 cJ1_charAt_3b067 2 (some FieldType.char) 2 43 0 0 [.ref qs641588, .int p641590] (va_pl P641586 F641587) (pp_641592_StringLatin1_charAt D I P641586 F641587 qs641588 bs641589 p641590) gNA := by
  refine CtA_ofF hl0 (by decide +kernel) (Nat.le_of_ble_eq_true rfl) ?_
  refine G_iload_n 1 dr_cJ1_charAt_3b067_0 rfl ?_
  refine G_aload_n 0 dr_cJ1_charAt_3b067_1 rfl ?_
  refine G_klen dr_cJ1_charAt_3b067_2 hbs641589 (G_nam fun z641593 hz641593 => ?_)
  have ez641593 : z641593.toInt = (bs641589.length : Int) := gI_ofN hz641593 nbs641589
  have bz641593 : gB z641593 0 65535 := ⟨by omega, by omega⟩
  refine Gw_callS (As := [.int p641590, .int z641593]) (gV_ok D I) (cp_639942_String_checkIndex l hl0 D I P641586 F641587 p641590 z641593 (gB_w bp641590 (by decide) (by decide)) (gB_w bz641593 (by decide) (by decide)) (by omega)) dr_cJ1_charAt_3b067_3 ⟨wr_3_78, wr_1_21, wr_3_80, by decide, rfl, (Nat.le_of_ble_eq_true rfl), (Nat.le_of_ble_eq_true rfl)⟩ wr_3_79 (show 0 + 0 ≤ 0 by first | omega | decide) (show 0 + 0 ≤ 0 by first | omega | decide) (Nat.le_of_ble_eq_true rfl) (fun r641597 w641598 dc641594 ds641595 hp641596 => ?_) (fun _ _ _ _ _ z => z.elim)
  obtain ⟨rfl, rfl, hdc, hds⟩ := hp641596
  change G _ _ _ _ _ _ _ _ _ _ _
  refine G_widen (cs' := 0) (sl' := 0) (by omega) (by omega) ?_
  refine G_aload_n 0 dr_cJ1_charAt_3b067_6 rfl ?_
  refine G_iload_n 1 dr_cJ1_charAt_3b067_7 rfl ?_
  refine G_kbald (f := fun j => bs641589.getD j 0) dr_cJ1_charAt_3b067_8 hbs641589 (gB_inr (by omega) (by omega)) (G_nam fun z641599 hz641599 => ?_)
  have bz641599 : gB z641599 (-2147483648) 2147483647 := gB_any z641599
  refine G_sipush 255 dr_cJ1_charAt_3b067_9 (by decide +kernel) ?_
  refine G_iand dr_cJ1_charAt_3b067_12 (G_nam fun z641600 hz641600 => ?_)
  have bz641600 : gB z641600 0 255 := gB_and hz641600 (gBl (show Int32.toInt 255 = 255 by decide)) (by decide)
  refine G_i2c dr_cJ1_charAt_3b067_13 (G_nam fun z641601 hz641601 => ?_)
  have bz641601 : gB z641601 0 65535 := gB_i2c hz641601
  exact G_zretA FieldType.char dr_cJ1_charAt_3b067_14 rfl (gN_char bz641601) (Nat.le_of_ble_eq_true rfl) (Nat.le_of_ble_eq_true rfl) ⟨z641601, rfl, rfl, (Nat.le_of_ble_eq_true rfl), (Nat.le_of_ble_eq_true rfl), bz641601⟩
