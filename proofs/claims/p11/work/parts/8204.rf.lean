theorem dr_cJ5_getValue_6d5f1_0 : decode cJ5_getValue_6d5f1 0 = .ok (.aload_n 0, 1) := by decide +kernel
theorem dr_cJ5_getValue_6d5f1_1 : decode cJ5_getValue_6d5f1 1 = .ok (.getfield 15, 3) := by decide +kernel
theorem dr_cJ5_getValue_6d5f1_4 : decode cJ5_getValue_6d5f1 4 = .ok (.areturn, 1) := by decide +kernel
theorem dr_cJ7_checkLength_df160_0 : decode cJ7_checkLength_df160 0 = .ok (.iload_n 1, 1) := by decide +kernel
theorem dr_cJ7_checkLength_df160_1 : decode cJ7_checkLength_df160 1 = .ok (.iload_n 0, 1) := by decide +kernel
theorem dr_cJ7_checkLength_df160_2 : decode cJ7_checkLength_df160 2 = .ok (.if_icmp .ge 35, 3) := by decide +kernel
theorem dr_cJ7_checkLength_df160_37 : decode cJ7_checkLength_df160 37 = .ok (.return_, 1) := by decide +kernel
theorem dr_cJ7_copyOfRangeByte_39247_0 : decode cJ7_copyOfRangeByte_39247 0 = .ok (.iload_n 1, 1) := by decide +kernel
theorem dr_cJ7_copyOfRangeByte_39247_1 : decode cJ7_copyOfRangeByte_39247 1 = .ok (.iload_n 2, 1) := by decide +kernel
theorem dr_cJ7_copyOfRangeByte_39247_2 : decode cJ7_copyOfRangeByte_39247 2 = .ok (.invokestatic 343, 3) := by decide +kernel
theorem wr_8_99 : (Jvm.Cond.methodLink "java/util/Arrays" (343 : Nat) ({ cls := "java/util/Arrays", name := "checkLength", desc := "(II)V" } : Jvm.MethodName)) ∈ gw := gw_8 99 rfl rfl
theorem wr_8_101 : (Jvm.Cond.code ({ cls := "java/util/Arrays", name := "checkLength", desc := "(II)V" } : Jvm.MethodName) prog_44_method_131_code (2 : Nat) (Option.none : Option Jvm.ClassFile.FieldType)) ∈ gw := gw_8 101 rfl rfl
theorem wr_8_100 : (Jvm.Cond.static ({ cls := "java/util/Arrays", name := "checkLength", desc := "(II)V" } : Jvm.MethodName)) ∈ gw := gw_8 100 rfl rfl
theorem dr_cJ7_copyOfRangeByte_39247_5 : decode cJ7_copyOfRangeByte_39247 5 = .ok (.iload_n 2, 1) := by decide +kernel
theorem dr_cJ7_copyOfRangeByte_39247_6 : decode cJ7_copyOfRangeByte_39247 6 = .ok (.iload_n 1, 1) := by decide +kernel
theorem dr_cJ7_copyOfRangeByte_39247_7 : decode cJ7_copyOfRangeByte_39247 7 = .ok (.isub, 1) := by decide +kernel
theorem dr_cJ7_copyOfRangeByte_39247_8 : decode cJ7_copyOfRangeByte_39247 8 = .ok (.istore_n 3, 1) := by decide +kernel
theorem dr_cJ7_copyOfRangeByte_39247_9 : decode cJ7_copyOfRangeByte_39247 9 = .ok (.iload_n 3, 1) := by decide +kernel
theorem dr_cJ7_copyOfRangeByte_39247_10 : decode cJ7_copyOfRangeByte_39247 10 = .ok (.newarray .byte, 2) := by decide +kernel
theorem dr_cJ7_copyOfRangeByte_39247_12 : decode cJ7_copyOfRangeByte_39247 12 = .ok (.astore 4, 2) := by decide +kernel
theorem dr_cJ7_copyOfRangeByte_39247_14 : decode cJ7_copyOfRangeByte_39247 14 = .ok (.aload_n 0, 1) := by decide +kernel
theorem dr_cJ7_copyOfRangeByte_39247_15 : decode cJ7_copyOfRangeByte_39247 15 = .ok (.iload_n 1, 1) := by decide +kernel
theorem dr_cJ7_copyOfRangeByte_39247_16 : decode cJ7_copyOfRangeByte_39247 16 = .ok (.aload 4, 2) := by decide +kernel
theorem dr_cJ7_copyOfRangeByte_39247_18 : decode cJ7_copyOfRangeByte_39247 18 = .ok (.iconst 0, 1) := by decide +kernel
theorem dr_cJ7_copyOfRangeByte_39247_19 : decode cJ7_copyOfRangeByte_39247 19 = .ok (.aload_n 0, 1) := by decide +kernel
theorem dr_cJ7_copyOfRangeByte_39247_20 : decode cJ7_copyOfRangeByte_39247 20 = .ok (.arraylength, 1) := by decide +kernel
theorem dr_cJ7_copyOfRangeByte_39247_21 : decode cJ7_copyOfRangeByte_39247 21 = .ok (.iload_n 1, 1) := by decide +kernel
theorem dr_cJ7_copyOfRangeByte_39247_22 : decode cJ7_copyOfRangeByte_39247 22 = .ok (.isub, 1) := by decide +kernel
theorem dr_cJ7_copyOfRangeByte_39247_23 : decode cJ7_copyOfRangeByte_39247 23 = .ok (.iload_n 3, 1) := by decide +kernel
theorem dr_cJ7_copyOfRangeByte_39247_24 : decode cJ7_copyOfRangeByte_39247 24 = .ok (.invokestatic 304, 3) := by decide +kernel
theorem dr_cJ7_copyOfRangeByte_39247_27 : decode cJ7_copyOfRangeByte_39247 27 = .ok (.invokestatic 150, 3) := by decide +kernel
theorem dr_cJ7_copyOfRangeByte_39247_30 : decode cJ7_copyOfRangeByte_39247 30 = .ok (.aload 4, 2) := by decide +kernel
theorem dr_cJ7_copyOfRangeByte_39247_32 : decode cJ7_copyOfRangeByte_39247 32 = .ok (.areturn, 1) := by decide +kernel
theorem dr_cJ7_copyOfRange_39247_0 : decode cJ7_copyOfRange_39247 0 = .ok (.iload_n 1, 1) := by decide +kernel
theorem dr_cJ7_copyOfRange_39247_1 : decode cJ7_copyOfRange_39247 1 = .ok (.ifCond .ne 9, 3) := by decide +kernel
theorem dr_cJ7_copyOfRange_39247_4 : decode cJ7_copyOfRange_39247 4 = .ok (.iload_n 2, 1) := by decide +kernel
theorem dr_cJ7_copyOfRange_39247_5 : decode cJ7_copyOfRange_39247 5 = .ok (.aload_n 0, 1) := by decide +kernel
theorem dr_cJ7_copyOfRange_39247_6 : decode cJ7_copyOfRange_39247 6 = .ok (.arraylength, 1) := by decide +kernel
theorem dr_cJ7_copyOfRange_39247_7 : decode cJ7_copyOfRange_39247 7 = .ok (.if_icmp .eq 10, 3) := by decide +kernel
theorem dr_cJ7_copyOfRange_39247_17 : decode cJ7_copyOfRange_39247 17 = .ok (.aload_n 0, 1) := by decide +kernel
theorem dr_cJ7_copyOfRange_39247_18 : decode cJ7_copyOfRange_39247 18 = .ok (.invokevirtual 310, 3) := by decide +kernel
theorem wr_8_24 : (Jvm.Cond.methodLink "java/util/Arrays" (310 : Nat) ({ cls := "[B", name := "clone", desc := "()Ljava/lang/Object;" } : Jvm.MethodName)) ∈ gw := gw_8 24 rfl rfl
theorem wr_8_25 : (Jvm.Cond.sameMethod "[B" "java/lang/Object" "clone" "()Ljava/lang/Object;") ∈ gw := gw_8 25 rfl rfl
theorem wr_8_26 : (Jvm.Cond.native ({ cls := "java/lang/Object", name := "clone", desc := "()Ljava/lang/Object;" } : Jvm.MethodName)) ∈ gw := gw_8 26 rfl rfl
theorem wr_8_27 : (Jvm.Cond.instanceMethod ({ cls := "java/lang/Object", name := "clone", desc := "()Ljava/lang/Object;" } : Jvm.MethodName)) ∈ gw := gw_8 27 rfl rfl
theorem wr_8_28 : (Jvm.Cond.selects "[B" ({ cls := "[B", name := "clone", desc := "()Ljava/lang/Object;" } : Jvm.MethodName) ({ cls := "java/lang/Object", name := "clone", desc := "()Ljava/lang/Object;" } : Jvm.MethodName)) ∈ gw := gw_8 28 rfl rfl
theorem dr_cJ7_copyOfRange_39247_21 : decode cJ7_copyOfRange_39247 21 = .ok (.checkcast 311, 3) := by decide +kernel
theorem wr_8_30 : (Jvm.Cond.classLink "java/util/Arrays" (311 : Nat) "[B") ∈ gw := gw_8 30 rfl rfl
theorem dr_cJ7_copyOfRange_39247_24 : decode cJ7_copyOfRange_39247 24 = .ok (.areturn, 1) := by decide +kernel
theorem dr_cJ7_copyOfRange_39247_10 : decode cJ7_copyOfRange_39247 10 = .ok (.aload_n 0, 1) := by decide +kernel
theorem dr_cJ7_copyOfRange_39247_11 : decode cJ7_copyOfRange_39247 11 = .ok (.iload_n 1, 1) := by decide +kernel
theorem dr_cJ7_copyOfRange_39247_12 : decode cJ7_copyOfRange_39247 12 = .ok (.iload_n 2, 1) := by decide +kernel
theorem dr_cJ7_copyOfRange_39247_13 : decode cJ7_copyOfRange_39247 13 = .ok (.invokestatic 339, 3) := by decide +kernel
theorem wr_8_96 : (Jvm.Cond.methodLink "java/util/Arrays" (339 : Nat) ({ cls := "java/util/Arrays", name := "copyOfRangeByte", desc := "([BII)[B" } : Jvm.MethodName)) ∈ gw := gw_8 96 rfl rfl
theorem wr_8_98 : (Jvm.Cond.code ({ cls := "java/util/Arrays", name := "copyOfRangeByte", desc := "([BII)[B" } : Jvm.MethodName) prog_44_method_133_code (5 : Nat) (Option.some (Jvm.ClassFile.FieldType.array Jvm.ClassFile.FieldType.byte))) ∈ gw := gw_8 98 rfl rfl
theorem wr_8_97 : (Jvm.Cond.static ({ cls := "java/util/Arrays", name := "copyOfRangeByte", desc := "([BII)[B" } : Jvm.MethodName)) ∈ gw := gw_8 97 rfl rfl
theorem dr_cJ7_copyOfRange_39247_16 : decode cJ7_copyOfRange_39247 16 = .ok (.areturn, 1) := by decide +kernel
theorem dr_cJ0_init_db425_0 : decode cJ0_init_db425 0 = .ok (.aload_n 0, 1) := by decide +kernel
theorem dr_cJ0_init_db425_1 : decode cJ0_init_db425 1 = .ok (.invokespecial 1, 3) := by decide +kernel
theorem wr_8_78 : (Jvm.Cond.methodLink "java/lang/String" (1 : Nat) ({ cls := "java/lang/Object", name := "<init>", desc := "()V" } : Jvm.MethodName)) ∈ gw := gw_8 78 rfl rfl
theorem dr_cJ0_init_db425_4 : decode cJ0_init_db425 4 = .ok (.aload_n 1, 1) := by decide +kernel
theorem dr_cJ0_init_db425_5 : decode cJ0_init_db425 5 = .ok (.invokevirtual 552, 3) := by decide +kernel
theorem wr_8_79 : (Jvm.Cond.methodLink "java/lang/String" (552 : Nat) ({ cls := "java/lang/AbstractStringBuilder", name := "getValue", desc := "()[B" } : Jvm.MethodName)) ∈ gw := gw_8 79 rfl rfl
theorem wr_8_83 : (Jvm.Cond.code ({ cls := "java/lang/AbstractStringBuilder", name := "getValue", desc := "()[B" } : Jvm.MethodName) prog_21_method_64_code (1 : Nat) (Option.some (Jvm.ClassFile.FieldType.array Jvm.ClassFile.FieldType.byte))) ∈ gw := gw_8 83 rfl rfl
theorem wr_8_80 : (Jvm.Cond.instanceMethod ({ cls := "java/lang/AbstractStringBuilder", name := "getValue", desc := "()[B" } : Jvm.MethodName)) ∈ gw := gw_8 80 rfl rfl
theorem wr_8_82 : (Jvm.Cond.selects "java/lang/StringBuilder" ({ cls := "java/lang/AbstractStringBuilder", name := "getValue", desc := "()[B" } : Jvm.MethodName) ({ cls := "java/lang/AbstractStringBuilder", name := "getValue", desc := "()[B" } : Jvm.MethodName)) ∈ gw := gw_8 82 rfl rfl
theorem dr_cJ0_init_db425_8 : decode cJ0_init_db425 8 = .ok (.astore_n 3, 1) := by decide +kernel
theorem dr_cJ0_init_db425_9 : decode cJ0_init_db425 9 = .ok (.aload_n 1, 1) := by decide +kernel
theorem dr_cJ0_init_db425_10 : decode cJ0_init_db425 10 = .ok (.invokevirtual 549, 3) := by decide +kernel
theorem wr_8_84 : (Jvm.Cond.methodLink "java/lang/String" (549 : Nat) ({ cls := "java/lang/AbstractStringBuilder", name := "length", desc := "()I" } : Jvm.MethodName)) ∈ gw := gw_8 84 rfl rfl
theorem wr_8_87 : (Jvm.Cond.selects "java/lang/StringBuilder" ({ cls := "java/lang/AbstractStringBuilder", name := "length", desc := "()I" } : Jvm.MethodName) ({ cls := "java/lang/StringBuilder", name := "length", desc := "()I" } : Jvm.MethodName)) ∈ gw := gw_8 87 rfl rfl
theorem wr_8_88 : (Jvm.Cond.instanceMethod ({ cls := "java/lang/StringBuilder", name := "length", desc := "()I" } : Jvm.MethodName)) ∈ gw := gw_8 88 rfl rfl
theorem wr_1_20 : (Jvm.Cond.initialized "java/lang/StringBuilder") ∈ gw := gw_1 20 rfl rfl
theorem wr_8_89 : (Jvm.Cond.code ({ cls := "java/lang/StringBuilder", name := "length", desc := "()I" } : Jvm.MethodName) prog_35_method_93_code (1 : Nat) (Option.some Jvm.ClassFile.FieldType.int)) ∈ gw := gw_8 89 rfl rfl
theorem dr_cJ0_init_db425_13 : decode cJ0_init_db425 13 = .ok (.istore 4, 2) := by decide +kernel
theorem dr_cJ0_init_db425_15 : decode cJ0_init_db425 15 = .ok (.aload_n 1, 1) := by decide +kernel
theorem dr_cJ0_init_db425_16 : decode cJ0_init_db425 16 = .ok (.invokevirtual 1047, 3) := by decide +kernel
theorem wr_8_92 : (Jvm.Cond.methodLink "java/lang/String" (1047 : Nat) ({ cls := "java/lang/AbstractStringBuilder", name := "isLatin1", desc := "()Z" } : Jvm.MethodName)) ∈ gw := gw_8 92 rfl rfl
theorem dr_cJ0_init_db425_19 : decode cJ0_init_db425 19 = .ok (.ifCond .eq 22, 3) := by decide +kernel
theorem dr_cJ0_init_db425_22 : decode cJ0_init_db425 22 = .ok (.aload_n 0, 1) := by decide +kernel
theorem dr_cJ0_init_db425_23 : decode cJ0_init_db425 23 = .ok (.iconst 0, 1) := by decide +kernel
theorem dr_cJ0_init_db425_24 : decode cJ0_init_db425 24 = .ok (.putfield 15, 3) := by decide +kernel
theorem dr_cJ0_init_db425_27 : decode cJ0_init_db425 27 = .ok (.aload_n 0, 1) := by decide +kernel
theorem dr_cJ0_init_db425_28 : decode cJ0_init_db425 28 = .ok (.aload_n 3, 1) := by decide +kernel
theorem dr_cJ0_init_db425_29 : decode cJ0_init_db425 29 = .ok (.iconst 0, 1) := by decide +kernel
theorem dr_cJ0_init_db425_30 : decode cJ0_init_db425 30 = .ok (.iload 4, 2) := by decide +kernel
theorem dr_cJ0_init_db425_32 : decode cJ0_init_db425 32 = .ok (.invokestatic 54, 3) := by decide +kernel
theorem wr_8_93 : (Jvm.Cond.methodLink "java/lang/String" (54 : Nat) ({ cls := "java/util/Arrays", name := "copyOfRange", desc := "([BII)[B" } : Jvm.MethodName)) ∈ gw := gw_8 93 rfl rfl
theorem wr_8_95 : (Jvm.Cond.code ({ cls := "java/util/Arrays", name := "copyOfRange", desc := "([BII)[B" } : Jvm.MethodName) prog_44_method_132_code (3 : Nat) (Option.some (Jvm.ClassFile.FieldType.array Jvm.ClassFile.FieldType.byte))) ∈ gw := gw_8 95 rfl rfl
theorem wr_8_94 : (Jvm.Cond.static ({ cls := "java/util/Arrays", name := "copyOfRange", desc := "([BII)[B" } : Jvm.MethodName)) ∈ gw := gw_8 94 rfl rfl
theorem dr_cJ0_init_db425_35 : decode cJ0_init_db425 35 = .ok (.putfield 9, 3) := by decide +kernel
theorem dr_cJ0_init_db425_38 : decode cJ0_init_db425 38 = .ok (.goto 59, 3) := by decide +kernel
theorem dr_cJ0_init_db425_97 : decode cJ0_init_db425 97 = .ok (.return_, 1) := by decide +kernel
theorem dr_cJ0_init_81219_0 : decode cJ0_init_81219 0 = .ok (.aload_n 0, 1) := by decide +kernel
theorem dr_cJ0_init_81219_1 : decode cJ0_init_81219 1 = .ok (.aload_n 1, 1) := by decide +kernel
theorem dr_cJ0_init_81219_2 : decode cJ0_init_81219 2 = .ok (.aconst_null, 1) := by decide +kernel
theorem dr_cJ0_init_81219_3 : decode cJ0_init_81219 3 = .ok (.invokespecial 489, 3) := by decide +kernel
theorem wr_8_75 : (Jvm.Cond.methodLink "java/lang/String" (489 : Nat) ({ cls := "java/lang/String", name := "<init>", desc := "(Ljava/lang/AbstractStringBuilder;Ljava/lang/Void;)V" } : Jvm.MethodName)) ∈ gw := gw_8 75 rfl rfl
theorem wr_8_77 : (Jvm.Cond.code ({ cls := "java/lang/String", name := "<init>", desc := "(Ljava/lang/AbstractStringBuilder;Ljava/lang/Void;)V" } : Jvm.MethodName) prog_34_method_150_code (5 : Nat) (Option.none : Option Jvm.ClassFile.FieldType)) ∈ gw := gw_8 77 rfl rfl
theorem wr_8_76 : (Jvm.Cond.instanceMethod ({ cls := "java/lang/String", name := "<init>", desc := "(Ljava/lang/AbstractStringBuilder;Ljava/lang/Void;)V" } : Jvm.MethodName)) ∈ gw := gw_8 76 rfl rfl
theorem dr_cJ0_init_81219_6 : decode cJ0_init_81219 6 = .ok (.return_, 1) := by decide +kernel
theorem dr_cJ4_toString_0e30d_0 : decode cJ4_toString_0e30d 0 = .ok (.new 18, 3) := by decide +kernel
theorem wr_8_70 : (Jvm.Cond.classLink "java/lang/StringBuilder" (18 : Nat) "java/lang/String") ∈ gw := gw_8 70 rfl rfl
theorem wr_8_71 : (Jvm.Cond.instantiable "java/lang/String" (4 : Nat)) ∈ gw := gw_8 71 rfl rfl
theorem dr_cJ4_toString_0e30d_3 : decode cJ4_toString_0e30d 3 = .ok (.dup, 1) := by decide +kernel
theorem dr_cJ4_toString_0e30d_4 : decode cJ4_toString_0e30d 4 = .ok (.aload_n 0, 1) := by decide +kernel
theorem dr_cJ4_toString_0e30d_5 : decode cJ4_toString_0e30d 5 = .ok (.invokespecial 137, 3) := by decide +kernel
theorem wr_8_72 : (Jvm.Cond.methodLink "java/lang/StringBuilder" (137 : Nat) ({ cls := "java/lang/String", name := "<init>", desc := "(Ljava/lang/StringBuilder;)V" } : Jvm.MethodName)) ∈ gw := gw_8 72 rfl rfl
theorem wr_8_74 : (Jvm.Cond.code ({ cls := "java/lang/String", name := "<init>", desc := "(Ljava/lang/StringBuilder;)V" } : Jvm.MethodName) prog_34_method_53_code (2 : Nat) (Option.none : Option Jvm.ClassFile.FieldType)) ∈ gw := gw_8 74 rfl rfl
theorem wr_8_73 : (Jvm.Cond.instanceMethod ({ cls := "java/lang/String", name := "<init>", desc := "(Ljava/lang/StringBuilder;)V" } : Jvm.MethodName)) ∈ gw := gw_8 73 rfl rfl
theorem dr_cJ4_toString_0e30d_8 : decode cJ4_toString_0e30d 8 = .ok (.areturn, 1) := by decide +kernel
theorem dr_cJ1_equals_b5fdf_0 : decode cJ1_equals_b5fdf 0 = .ok (.aload_n 0, 1) := by decide +kernel
theorem dr_cJ1_equals_b5fdf_1 : decode cJ1_equals_b5fdf 1 = .ok (.arraylength, 1) := by decide +kernel
theorem dr_cJ1_equals_b5fdf_2 : decode cJ1_equals_b5fdf 2 = .ok (.aload_n 1, 1) := by decide +kernel
theorem dr_cJ1_equals_b5fdf_3 : decode cJ1_equals_b5fdf 3 = .ok (.arraylength, 1) := by decide +kernel
theorem dr_cJ1_equals_b5fdf_4 : decode cJ1_equals_b5fdf 4 = .ok (.if_icmp .ne 30, 3) := by decide +kernel
theorem dr_cJ1_equals_b5fdf_34 : decode cJ1_equals_b5fdf 34 = .ok (.iconst 0, 1) := by decide +kernel
theorem dr_cJ1_equals_b5fdf_35 : decode cJ1_equals_b5fdf 35 = .ok (.ireturn, 1) := by decide +kernel
theorem dr_cJ1_equals_b5fdf_7 : decode cJ1_equals_b5fdf 7 = .ok (.iconst 0, 1) := by decide +kernel
theorem dr_cJ1_equals_b5fdf_8 : decode cJ1_equals_b5fdf 8 = .ok (.istore_n 2, 1) := by decide +kernel
theorem dr_cJ1_equals_b5fdf_9 : decode cJ1_equals_b5fdf 9 = .ok (.iload_n 2, 1) := by decide +kernel
theorem dr_cJ1_equals_b5fdf_10 : decode cJ1_equals_b5fdf 10 = .ok (.aload_n 0, 1) := by decide +kernel
theorem dr_cJ1_equals_b5fdf_11 : decode cJ1_equals_b5fdf 11 = .ok (.arraylength, 1) := by decide +kernel
theorem dr_cJ1_equals_b5fdf_12 : decode cJ1_equals_b5fdf 12 = .ok (.if_icmp .ge 20, 3) := by decide +kernel
theorem dr_cJ1_equals_b5fdf_32 : decode cJ1_equals_b5fdf 32 = .ok (.iconst 1, 1) := by decide +kernel
theorem dr_cJ1_equals_b5fdf_33 : decode cJ1_equals_b5fdf 33 = .ok (.ireturn, 1) := by decide +kernel
theorem dr_cJ1_equals_b5fdf_15 : decode cJ1_equals_b5fdf 15 = .ok (.aload_n 0, 1) := by decide +kernel
theorem dr_cJ1_equals_b5fdf_16 : decode cJ1_equals_b5fdf 16 = .ok (.iload_n 2, 1) := by decide +kernel
theorem dr_cJ1_equals_b5fdf_17 : decode cJ1_equals_b5fdf 17 = .ok (.baload, 1) := by decide +kernel
theorem dr_cJ1_equals_b5fdf_18 : decode cJ1_equals_b5fdf 18 = .ok (.aload_n 1, 1) := by decide +kernel
theorem dr_cJ1_equals_b5fdf_19 : decode cJ1_equals_b5fdf 19 = .ok (.iload_n 2, 1) := by decide +kernel
theorem dr_cJ1_equals_b5fdf_20 : decode cJ1_equals_b5fdf 20 = .ok (.baload, 1) := by decide +kernel
theorem dr_cJ1_equals_b5fdf_21 : decode cJ1_equals_b5fdf 21 = .ok (.if_icmp .eq 5, 3) := by decide +kernel
theorem dr_cJ1_equals_b5fdf_26 : decode cJ1_equals_b5fdf 26 = .ok (.iinc 2 1, 3) := by decide +kernel
theorem dr_cJ1_equals_b5fdf_29 : decode cJ1_equals_b5fdf 29 = .ok (.goto (-20), 3) := by decide +kernel
theorem dr_cJ1_equals_b5fdf_24 : decode cJ1_equals_b5fdf 24 = .ok (.iconst 0, 1) := by decide +kernel
theorem dr_cJ1_equals_b5fdf_25 : decode cJ1_equals_b5fdf 25 = .ok (.ireturn, 1) := by decide +kernel
theorem dr_cJ0_equals_9ea2d_0 : decode cJ0_equals_9ea2d 0 = .ok (.aload_n 0, 1) := by decide +kernel
theorem dr_cJ0_equals_9ea2d_1 : decode cJ0_equals_9ea2d 1 = .ok (.aload_n 1, 1) := by decide +kernel
theorem dr_cJ0_equals_9ea2d_2 : decode cJ0_equals_9ea2d 2 = .ok (.if_acmp .ne 5, 3) := by decide +kernel
theorem dr_cJ0_equals_9ea2d_7 : decode cJ0_equals_9ea2d 7 = .ok (.aload_n 1, 1) := by decide +kernel
theorem dr_cJ0_equals_9ea2d_8 : decode cJ0_equals_9ea2d 8 = .ok (.instanceof 10, 3) := by decide +kernel
theorem wr_9_149 : (Jvm.Cond.classLink "java/lang/String" (10 : Nat) "java/lang/String") ∈ gw := gw_9 149 rfl rfl
theorem dr_cJ0_equals_9ea2d_11 : decode cJ0_equals_9ea2d 11 = .ok (.ifCond .eq 43, 3) := by decide +kernel
theorem dr_cJ0_equals_9ea2d_14 : decode cJ0_equals_9ea2d 14 = .ok (.aload_n 1, 1) := by decide +kernel
theorem dr_cJ0_equals_9ea2d_15 : decode cJ0_equals_9ea2d 15 = .ok (.checkcast 10, 3) := by decide +kernel
theorem dr_cJ0_equals_9ea2d_18 : decode cJ0_equals_9ea2d 18 = .ok (.astore_n 2, 1) := by decide +kernel
theorem dr_cJ0_equals_9ea2d_19 : decode cJ0_equals_9ea2d 19 = .ok (.getstatic 38, 3) := by decide +kernel
theorem dr_cJ0_equals_9ea2d_22 : decode cJ0_equals_9ea2d 22 = .ok (.ifCond .eq 14, 3) := by decide +kernel
theorem dr_cJ0_equals_9ea2d_25 : decode cJ0_equals_9ea2d 25 = .ok (.aload_n 0, 1) := by decide +kernel
theorem dr_cJ0_equals_9ea2d_26 : decode cJ0_equals_9ea2d 26 = .ok (.getfield 15, 3) := by decide +kernel
theorem dr_cJ0_equals_9ea2d_29 : decode cJ0_equals_9ea2d 29 = .ok (.aload_n 2, 1) := by decide +kernel
theorem dr_cJ0_equals_9ea2d_30 : decode cJ0_equals_9ea2d 30 = .ok (.getfield 15, 3) := by decide +kernel
theorem dr_cJ0_equals_9ea2d_33 : decode cJ0_equals_9ea2d 33 = .ok (.if_icmp .ne 21, 3) := by decide +kernel
theorem dr_cJ0_equals_9ea2d_36 : decode cJ0_equals_9ea2d 36 = .ok (.aload_n 0, 1) := by decide +kernel
theorem dr_cJ0_equals_9ea2d_37 : decode cJ0_equals_9ea2d 37 = .ok (.getfield 9, 3) := by decide +kernel
theorem dr_cJ0_equals_9ea2d_40 : decode cJ0_equals_9ea2d 40 = .ok (.aload_n 2, 1) := by decide +kernel
theorem dr_cJ0_equals_9ea2d_41 : decode cJ0_equals_9ea2d 41 = .ok (.getfield 9, 3) := by decide +kernel
theorem dr_cJ0_equals_9ea2d_44 : decode cJ0_equals_9ea2d 44 = .ok (.invokestatic 541, 3) := by decide +kernel
theorem wr_9_150 : (Jvm.Cond.methodLink "java/lang/String" (541 : Nat) ({ cls := "java/lang/StringLatin1", name := "equals", desc := "([B[B)Z" } : Jvm.MethodName)) ∈ gw := gw_9 150 rfl rfl
theorem wr_9_152 : (Jvm.Cond.code ({ cls := "java/lang/StringLatin1", name := "equals", desc := "([B[B)Z" } : Jvm.MethodName) prog_37_method_13_code (3 : Nat) (Option.some Jvm.ClassFile.FieldType.boolean)) ∈ gw := gw_9 152 rfl rfl
theorem wr_9_151 : (Jvm.Cond.static ({ cls := "java/lang/StringLatin1", name := "equals", desc := "([B[B)Z" } : Jvm.MethodName)) ∈ gw := gw_9 151 rfl rfl
theorem dr_cJ0_equals_9ea2d_47 : decode cJ0_equals_9ea2d 47 = .ok (.ifCond .eq 7, 3) := by decide +kernel
theorem dr_cJ0_equals_9ea2d_54 : decode cJ0_equals_9ea2d 54 = .ok (.iconst 0, 1) := by decide +kernel
theorem dr_cJ0_equals_9ea2d_55 : decode cJ0_equals_9ea2d 55 = .ok (.ireturn, 1) := by decide +kernel
theorem dr_cJ0_equals_9ea2d_50 : decode cJ0_equals_9ea2d 50 = .ok (.iconst 1, 1) := by decide +kernel
theorem dr_cJ0_equals_9ea2d_51 : decode cJ0_equals_9ea2d 51 = .ok (.goto 4, 3) := by decide +kernel
abbrev ky_659765_StringBuilder_append : gKey := (cJ4_append_15ec4, 2, "java/lang/StringBuilder", (some (FieldType.object "java/lang/StringBuilder")), [], "append", fun _ _ => True)
def pp_659765_StringBuilder_append (D : va_G) (I : FieldType → ClassId) (P659750 : List Nat) (F659751 : Nat → va_E) (q659752 : Nat) (q659753 : Nat) (qs659754 : Nat) (qb659755 : Nat) (bs659756 : List Int32) (p659757 : Int32) (p659758 : Int32) (f659759 : Nat → Int32) (n659760 : Nat) : Option Value → va_W → Nat → Nat → Prop := fun r w dc ds => ∃ (P659878 : List Nat) (F659879 : Nat → va_E) (o659874 : Int32) (q659875 : Nat) (n659876 : Nat) (f659877 : Nat → Int32), r = some (.ref q659752) ∧ w = va_pl P659878 F659879 ∧ rSub P659750 P659878 ∧ rFr [q659752, q659753] P659750 F659751 F659879 ∧ F659879 q659752 = .inr (1, [.ref q659875, .int 0, .int p659757, .int o659874]) ∧ F659879 q659875 = .inl (I .byte, n659876, .inl f659877) ∧ q659875 ∈ P659878 ∧ (q659875 = q659753 ∨ q659875 ∉ P659750) ∧ dc ≤ 1 ∧ ds ≤ 2 * (n659876 - n659760) ∧ gB o659874 0 16777216 ∧ gF f659877 (-128) 127 ∧ o659874.toInt = p659758.toInt + (bs659756.length : Int) ∧ o659874.toInt ≤ (n659876 : Int) ∧ (n659760 : Int) ≤ (n659876 : Int) ∧ (n659876 : Int) ≤ 2 * (n659760 : Int) + 2 + p659758.toInt + (bs659756.length : Int) ∧ ((n659876 : Int) = (n659760 : Int) ∨ (n659760 : Int) < o659874.toInt) ∧ tr_RStringBuilder_append6 bs659756 p659758 f659759 n659760 o659874 n659876 f659877
set_option maxRecDepth 100000 in
set_option maxHeartbeats 4000000 in
theorem cp_659765_StringBuilder_append (l : Launch) (hl0 : l.stackTraces = false) (D : va_G) (I : FieldType → ClassId) (P659750 : List Nat) (F659751 : Nat → va_E) (q659752 : Nat) (q659753 : Nat) (qs659754 : Nat) (qb659755 : Nat) (bs659756 : List Int32) (p659757 : Int32) (p659758 : Int32) (f659759 : Nat → Int32) (n659760 : Nat) (hmq659752 : q659752 ∈ P659750) (hmq659753 : q659753 ∈ P659750) (heq659752 : F659751 q659752 = .inr (1, [.ref q659753, .int 0, .int p659757, .int p659758])) (heq659753 : F659751 q659753 = .inl (I .byte, n659760, .inl f659759)) (hbs659756 : ∀ A s H, (gV D I).2.2.2.1 A s H → gSC qs659754 qb659755 bs659756 A s H) (nbs659756 : (bs659756.length : Int) ≤ 65535) (lbs659756 : gLB bs659756) (bp659757 : gB p659757 0 1) (bp659758 : gB p659758 0 16777216) (bf659759 : gF f659759 (-128) 127) (x659761 : (bs659756.length : Int) ≤ 65535) (x659762 : (n659760 : Int) ≤ 8388608 - 100000) (x659763 : p659758.toInt ≤ (n659760 : Int)) (x659764 : ((n659760 : Int) ≤ 16777216)) : CtA (gV D I) l yJ4_append_15ec4 cJ4_append_15ec4 2 (some (FieldType.object "java/lang/StringBuilder")) 5 106 1 (4 * n659760 + 4 + 2 * bs659756.length) [.ref q659752, .ref qs659754] (va_pl P659750 F659751) (pp_659765_StringBuilder_append D I P659750 F659751 q659752 q659753 qs659754 qb659755 bs659756 p659757 p659758 f659759 n659760) gNA := by
  refine CtA_ofF hl0 (by decide +kernel) (Nat.le_of_ble_eq_true rfl) ?_
  refine G_aload_n 0 dr_cJ4_append_15ec4_0 rfl ?_
  refine G_aload_n 1 dr_cJ4_append_15ec4_1 rfl ?_
  refine Gw_callSU (As := [.ref qs659754]) (gV_ok D I) (cp_659781_AbstractStringBuilder_append l hl0 D I P659750 F659751 q659752 q659753 qs659754 qb659755 bs659756 p659757 p659758 f659759 n659760 hmq659752 hmq659753 heq659752 heq659753 hbs659756 nbs659756 lbs659756 bp659757 bp659758 bf659759 (by have qa0 : Int32.toInt 0 = 0 := (by decide); omega) (by have qa0 : Int32.toInt 0 = 0 := (by decide); omega) (by have qa0 : Int32.toInt 0 = 0 := (by decide); omega) (by have qa0 : Int32.toInt 0 = 0 := (by decide); omega)) dr_cJ4_append_15ec4_2 ⟨wr_8_144, wr_1_19, wr_8_146, by decide, rfl, (Nat.le_of_ble_eq_true rfl), (Nat.le_of_ble_eq_true rfl)⟩ wr_8_145 wr_11_229 wr_7_73 wr_7_44 (by decide) hmq659752 heq659752 rfl (show 0 + 1 ≤ 1 by first | omega | decide) (show 0 + (4 * n659760 + 4 + 2 * bs659756.length) ≤ (4 * n659760 + 4 + 2 * bs659756.length) by first | omega | decide) (Nat.le_of_ble_eq_true rfl) (fun r659849 w659850 dc659846 ds659847 hp659848 => ?_)
  obtain ⟨P659861, F659862, o659851, q659852, n659853, f659854, rfl, rfl, hsb659863, hfr659864, he659865, he659866, hm659867, hq659868, hdc, hds, bo659851, bf659854, x659855, x659856, x659857, x659858, x659859, ht659860⟩ := hp659848
  have hm659869 : q659752 ∈ P659861 := hsb659863 q659752 hmq659752
  have hm659870 : q659753 ∈ P659861 := hsb659863 q659753 hmq659753
  have hor659871 : q659852 = q659753 ∨ q659852 ∉ P659750 := hq659868.elim Or.inl (fun n => Or.inr (fun z => n ((rSub_rf (P := P659750)) _ z)))
  have hsb659872 : rSub P659750 P659861 := rSub_tr (rSub_rf (P := P659750)) hsb659863
  have hfr659873 : rFr [q659752, q659753] P659750 F659751 F659862 := rFr_call (rSub_rf (P := P659750)) (rFr_rf (W := []) (P := P659750) (F := F659751)) hfr659864 (fun b hb hn => ⟨nm_n, (nm_c (fun e => hn (e ▸ List.mem_cons_self)) (nm_c (fun e => hn (e ▸ (List.mem_cons_of_mem _ List.mem_cons_self))) nm_n))⟩)
  change G _ _ _ _ _ _ _ (.ref q659752 :: _) _ _ _
  refine G_widen (cs' := 1) (sl' := 2 * (n659853 - n659760)) (by omega) (by omega) ?_
  refine G_pop dr_cJ4_append_15ec4_5 rfl ?_
  refine G_aload_n 0 dr_cJ4_append_15ec4_6 rfl ?_
  exact G_aretA (FieldType.object "java/lang/StringBuilder") dr_cJ4_append_15ec4_7 rfl (by first | exact Or.inl ⟨_, rfl⟩ | exact Or.inr ⟨_, rfl⟩) (Or.inr ⟨_, rfl⟩) (Nat.le_of_ble_eq_true rfl) (show 2 * (n659853 - n659760) ≤ (4 * n659760 + 4 + 2 * bs659756.length) by omega) ⟨P659861, F659862, o659851, q659852, n659853, f659854, rfl, rfl, hsb659872, hfr659873, he659865, he659866, hm659867, hor659871, (Nat.le_of_ble_eq_true rfl), (by omega), bo659851, bf659854, (by have qa0 : Int32.toInt 0 = 0 := (by decide); omega), (by have qa0 : Int32.toInt 0 = 0 := (by decide); omega), (by have qa0 : Int32.toInt 0 = 0 := (by decide); omega), (by have qa0 : Int32.toInt 0 = 0 := (by decide); omega), (by have qa0 : Int32.toInt 0 = 0 := (by decide); omega), (fun R c1 => c1 o659851 n659853 f659854 bo659851 ht659860)⟩
abbrev ky_659944_AbstractStringBuilder_getValue : gKey := (cJ5_getValue_6d5f1, 1, "java/lang/AbstractStringBuilder", (some (FieldType.array FieldType.byte)), [], "getValue", fun _ _ => True)
def pp_659944_AbstractStringBuilder_getValue (D : va_G) (I : FieldType → ClassId) (P659935 : List Nat) (F659936 : Nat → va_E) (q659937 : Nat) (q659938 : Nat) (p659939 : Int32) (p659940 : Int32) (f659941 : Nat → Int32) (n659942 : Nat) : Option Value → va_W → Nat → Nat → Prop := fun r w dc ds => r = some (.ref q659938) ∧ w = va_pl P659935 F659936 ∧ dc ≤ 0 ∧ ds ≤ 0
set_option maxRecDepth 100000 in
set_option maxHeartbeats 4000000 in
theorem cp_659944_AbstractStringBuilder_getValue (l : Launch) (hl0 : l.stackTraces = false) (D : va_G) (I : FieldType → ClassId) (P659935 : List Nat) (F659936 : Nat → va_E) (q659937 : Nat) (q659938 : Nat) (p659939 : Int32) (p659940 : Int32) (f659941 : Nat → Int32) (n659942 : Nat) (hmq659937 : q659937 ∈ P659935) (hmq659938 : q659938 ∈ P659935) (heq659937 : F659936 q659937 = .inr (1, [.ref q659938, .int 0, .int p659939, .int p659940])) (heq659938 : F659936 q659938 = .inl (I .byte, n659942, .inl f659941)) (bp659939 : gB p659939 0 1) (bp659940 : gB p659940 0 16777216) (bf659941 : gF f659941 (-128) 127) (x659943 : ((n659942 : Int) ≤ 16777216)) : CtA (gV D I) l yJ5_getValue_6d5f1 cJ5_getValue_6d5f1 1 (some (FieldType.array FieldType.byte)) 0 0 0 0 [.ref q659937] (va_pl P659935 F659936) (pp_659944_AbstractStringBuilder_getValue D I P659935 F659936 q659937 q659938 p659939 p659940 f659941 n659942) gNA := by
  refine CtA_ofF hl0 (by decide +kernel) (Nat.le_of_ble_eq_true rfl) ?_
  refine G_aload_n 0 dr_cJ5_getValue_6d5f1_0 rfl ?_
  refine Gp_get 0 hmq659937 heq659937 dr_cJ5_getValue_6d5f1_1 (gk_J4 D I) (Nat.le_of_ble_eq_true rfl) wr_7_60 rfl ?_
  exact G_aretA (FieldType.array FieldType.byte) dr_cJ5_getValue_6d5f1_4 rfl (by first | exact Or.inl ⟨_, rfl⟩ | exact Or.inr ⟨_, rfl⟩) (Or.inr ⟨_, rfl⟩) (Nat.le_of_ble_eq_true rfl) (Nat.le_of_ble_eq_true rfl) ⟨rfl, rfl, (Nat.le_of_ble_eq_true rfl), (Nat.le_of_ble_eq_true rfl)⟩
abbrev ky_660006_Arrays_checkLength : gKey := (cJ7_checkLength_df160, 2, "java/util/Arrays", none, [], "checkLength", fun _ _ => True)
def pp_660006_Arrays_checkLength (D : va_G) (I : FieldType → ClassId) (P660003 : List Nat) (F660004 : Nat → va_E) (p660005 : Int32) : Option Value → va_W → Nat → Nat → Prop := fun r w dc ds => r = none ∧ w = va_pl P660003 F660004 ∧ dc ≤ 0 ∧ ds ≤ 0
set_option maxRecDepth 100000 in
set_option maxHeartbeats 4000000 in
theorem cp_660006_Arrays_checkLength (l : Launch) (hl0 : l.stackTraces = false) (D : va_G) (I : FieldType → ClassId) (P660003 : List Nat) (F660004 : Nat → va_E) (p660005 : Int32) (bp660005 : gB p660005 0 16777216) : CtA (gV D I) l yJ7_checkLength_df160 cJ7_checkLength_df160 2 none 0 0 0 0 [.int 0, .int p660005] (va_pl P660003 F660004) (pp_660006_Arrays_checkLength D I P660003 F660004 p660005) gNA := by
  refine CtA_ofF hl0 (by decide +kernel) (Nat.le_of_ble_eq_true rfl) ?_
  refine G_iload_n 1 dr_cJ7_checkLength_df160_0 rfl ?_
  refine G_iload_n 0 dr_cJ7_checkLength_df160_1 rfl ?_
  refine G_icmp_ge 37 dr_cJ7_checkLength_df160_2 (by decide +kernel) (fun _ => ?_) (fun hc => absurd (show False by have := gj_nleL hc (show Int32.toInt 0 = 0 by decide); omega) not_false)
  exact G_vretA dr_cJ7_checkLength_df160_37 rfl (Nat.le_of_ble_eq_true rfl) (Nat.le_of_ble_eq_true rfl) ⟨rfl, rfl, (Nat.le_of_ble_eq_true rfl), (Nat.le_of_ble_eq_true rfl)⟩
/- tr_RArrays_copyOfRangeByte: a.3.#, a.3.[] -/
def tr_RArrays_copyOfRangeByte (a2 : Int32) (a0_v : Nat → Int32) (a0_n : Nat) (o1 : Nat) (o2 : Nat → Int32) : Prop := ∀ R : (Nat) → (Nat → Int32) → Prop,
  (∀ (x1 : Int32) (x2 : Int32) (x3 : Int32) (x4 : Int32) (x5 : Nat → Int32), x1.toInt = a2.toInt - 0 → x2.toInt = (a0_n : Nat) → x3.toInt = x2.toInt - 0 → (x3.toInt ≥ x4.toInt ∧ x1.toInt ≥ x4.toInt ∧ (x4.toInt = x3.toInt ∨ x4.toInt = x1.toInt)) → (x5 = va_cpy a0_v (fun _ => 0) (0 : Int32).toNatClampNeg (0 : Int32).toNatClampNeg x4.toNatClampNeg) → R x1.toInt.toNat x5) →
  R o1 o2
abbrev ky_660002_Arrays_copyOfRangeByte : gKey := (cJ7_copyOfRangeByte_39247, 5, "java/util/Arrays", (some (FieldType.array FieldType.byte)), [], "copyOfRangeByte", fun _ _ => True)
def pp_660002_Arrays_copyOfRangeByte (D : va_G) (I : FieldType → ClassId) (P659994 : List Nat) (F659995 : Nat → va_E) (q659996 : Nat) (p659997 : Int32) (f659998 : Nat → Int32) (n659999 : Nat) : Option Value → va_W → Nat → Nat → Prop := fun r w dc ds => ∃ (P660040 : List Nat) (F660041 : Nat → va_E) (q660037 : Nat) (n660038 : Nat) (f660039 : Nat → Int32), r = some (.ref q660037) ∧ w = va_pl P660040 F660041 ∧ rSub P659994 P660040 ∧ rFr [] P659994 F659995 F660041 ∧ F660041 q659996 = .inl (I .byte, n659999, .inl f659998) ∧ F660041 q660037 = .inl (I .byte, n660038, .inl f660039) ∧ q660037 ∈ P660040 ∧ q660037 ∉ P659994 ∧ dc ≤ 1 ∧ ds ≤ p659997.toInt.toNat ∧ gF f660039 (-128) 127 ∧ (n660038 : Int) = p659997.toInt ∧ sK f659998 f660039 p659997.toInt ∧ tr_RArrays_copyOfRangeByte p659997 f659998 n659999 n660038 f660039
set_option maxRecDepth 100000 in
set_option maxHeartbeats 4000000 in
theorem cp_660002_Arrays_copyOfRangeByte (l : Launch) (hl0 : l.stackTraces = false) (D : va_G) (I : FieldType → ClassId) (P659994 : List Nat) (F659995 : Nat → va_E) (q659996 : Nat) (p659997 : Int32) (f659998 : Nat → Int32) (n659999 : Nat) (hmq659996 : q659996 ∈ P659994) (heq659996 : F659995 q659996 = .inl (I .byte, n659999, .inl f659998)) (bp659997 : gB p659997 0 16777216) (bf659998 : gF f659998 (-128) 127) (x660000 : p659997.toInt ≤ (n659999 : Int)) (x660001 : ((n659999 : Int) ≤ 16777216)) : CtA (gV D I) l yJ7_copyOfRangeByte_39247 cJ7_copyOfRangeByte_39247 5 (some (FieldType.array FieldType.byte)) 1 21 1 p659997.toInt.toNat [.ref q659996, .int 0, .int p659997] (va_pl P659994 F659995) (pp_660002_Arrays_copyOfRangeByte D I P659994 F659995 q659996 p659997 f659998 n659999) gNA := by
  refine CtA_ofF hl0 (by decide +kernel) (Nat.le_of_ble_eq_true rfl) ?_
  refine G_iload_n 1 dr_cJ7_copyOfRangeByte_39247_0 rfl ?_
  refine G_iload_n 2 dr_cJ7_copyOfRangeByte_39247_1 rfl ?_
  refine Gw_callS (As := [.int 0, .int p659997]) (gV_ok D I) (cp_660006_Arrays_checkLength l hl0 D I P659994 F659995 p659997 bp659997) dr_cJ7_copyOfRangeByte_39247_2 ⟨wr_8_99, wr_1_30, wr_8_101, by decide, rfl, (Nat.le_of_ble_eq_true rfl), (Nat.le_of_ble_eq_true rfl)⟩ wr_8_100 (show 0 + 0 ≤ 1 by first | omega | decide) (show 0 + 0 ≤ p659997.toInt.toNat by first | omega | decide) (Nat.le_of_ble_eq_true rfl) (fun r660010 w660011 dc660007 ds660008 hp660009 => ?_) (fun _ _ _ _ _ z => z.elim)
  obtain ⟨rfl, rfl, hdc, hds⟩ := hp660009
  change G _ _ _ _ _ _ _ _ _ _ _
  refine G_widen (cs' := 0) (sl' := 0) (by omega) (by omega) ?_
  refine G_iload_n 2 dr_cJ7_copyOfRangeByte_39247_5 rfl ?_
  refine G_iload_n 1 dr_cJ7_copyOfRangeByte_39247_6 rfl ?_
  refine G_isub dr_cJ7_copyOfRangeByte_39247_7 (G_nam fun z660012 hz660012 => ?_)
  have ez660012 : z660012.toInt = p659997.toInt - 0 := by rw [gI_sub hz660012 bp659997 (gBl (show Int32.toInt 0 = 0 by decide)) (by decide) (by decide), show Int32.toInt 0 = 0 from by decide]
  have bz660012 : gB z660012 0 16777216 := gB_sub (gI_sub hz660012 bp659997 (gBl (show Int32.toInt 0 = 0 by decide)) (by decide) (by decide)) bp659997 (gBl (show Int32.toInt 0 = 0 by decide)) (by decide) (by decide)
  refine G_istore_n (L' := [(3, .int z660012), (0, .ref q659996), (1, .int 0), (2, .int p659997)]) dr_cJ7_copyOfRangeByte_39247_8 (Nat.le_of_ble_eq_true rfl) rfl ?_
  refine G_iload_n 0 dr_cJ7_copyOfRangeByte_39247_9 rfl ?_
  refine G_newa 1 (z660012.toInt.toNat, .inl (fun _ => 0)) dr_cJ7_copyOfRangeByte_39247_10 rfl rfl (by intro C h; cases h) wr_1_66 (fun _ => ga_byte _ _) (g_n0 (by omega)) rfl (show z660012.toInt.toNat * 1 ≤ 536870912 by omega) (show 0 + 1 ≤ 1 by first | omega | decide) (show 0 + z660012.toInt.toNat ≤ p659997.toInt.toNat by first | omega | decide) (fun q660013 => Gp_in (fun P660014 F660015 hq660016 hP660017 e660018 n660019 => ?_))
  refine G_widen (cs' := 1) (sl' := z660012.toInt.toNat) (by omega) (by omega) ?_
  have he660020 : F660015 q659996 = .inl (I .byte, n659999, .inl f659998) := (n660019 q659996 (fun h => hq660016 (h ▸ hmq659996))).trans heq659996
  have he660021 : F660015 q660013 = .inl (I .byte, z660012.toInt.toNat, .inl (fun _ => 0)) := e660018
  have hm660022 : q659996 ∈ P660014 := (hP660017 q659996).mpr (Or.inl hmq659996)
  have hm660023 : q660013 ∈ P660014 := (hP660017 q660013).mpr (Or.inr rfl)
  have hq660024 : q660013 ∉ P659994 := fun z => hq660016 ((rSub_rf (P := P659994)) q660013 z)
  have hfr660025 : rFr [] P659994 F659995 F660015 := rFr_new (rSub_rf (P := P659994)) hq660016 (rFr_rf (W := []) (P := P659994) (F := F659995)) n660019
  have hsb660026 : rSub P659994 P660014 := rSub_new (rSub_rf (P := P659994)) hP660017
  refine G_astore (L' := [(4, .ref q660013), (3, .int z660012), (0, .ref q659996), (1, .int 0), (2, .int p659997)]) dr_cJ7_copyOfRangeByte_39247_12 (Nat.le_of_ble_eq_true rfl) rfl ?_
  refine G_aload_n 2 dr_cJ7_copyOfRangeByte_39247_14 rfl ?_
  refine G_iload_n 3 dr_cJ7_copyOfRangeByte_39247_15 rfl ?_
  refine G_aload 0 dr_cJ7_copyOfRangeByte_39247_16 rfl ?_
  refine G_iconst 0 dr_cJ7_copyOfRangeByte_39247_18 (by decide +kernel) ?_
  refine G_aload_n 2 dr_cJ7_copyOfRangeByte_39247_19 rfl ?_
  refine Gp_alen (Int32.ofNat n659999) 1 hm660022 he660020 dr_cJ7_copyOfRangeByte_39247_20 rfl rfl (G_nam fun z660027 hz660027 => ?_)
  have ez660027 : z660027.toInt = (n659999 : Nat) := gI_ofM hz660027 (by omega)
  have bz660027 : gB z660027 0 16777216 := ⟨by omega, by omega⟩
  refine G_iload_n 3 dr_cJ7_copyOfRangeByte_39247_21 rfl ?_
  refine G_isub dr_cJ7_copyOfRangeByte_39247_22 (G_nam fun z660028 hz660028 => ?_)
  have ez660028 : z660028.toInt = z660027.toInt - 0 := by rw [gI_sub hz660028 bz660027 (gBl (show Int32.toInt 0 = 0 by decide)) (by decide) (by decide), show Int32.toInt 0 = 0 from by decide]
  have bz660028 : gB z660028 0 16777216 := gB_sub (gI_sub hz660028 bz660027 (gBl (show Int32.toInt 0 = 0 by decide)) (by decide) (by decide)) bz660027 (gBl (show Int32.toInt 0 = 0 by decide)) (by decide) (by decide)
  refine G_iload_n 1 dr_cJ7_copyOfRangeByte_39247_23 rfl ?_
  refine G_mmin dr_cJ7_copyOfRangeByte_39247_24 wr_8_31 wr_3_227 wr_1_6 wr_3_228 (Nat.le_of_ble_eq_true rfl) (Nat.le_of_ble_eq_true rfl) (show 1 ≤ 1 by first | omega | decide) (show z660012.toInt.toNat ≤ p659997.toInt.toNat by first | omega | decide) (G_nam fun z660029 hz660029 => ?_)
  have ez660029 : z660028.toInt ≥ z660029.toInt ∧ z660012.toInt ≥ z660029.toInt ∧ (z660029.toInt = z660028.toInt ∨ z660029.toInt = z660012.toInt) := by have := gI_min hz660029; omega
  have bz660029 : gB z660029 0 16777216 := ⟨by omega, by omega⟩
  refine Gp_copyp 1 hm660022 hm660023 he660020 he660021 dr_cJ7_copyOfRangeByte_39247_27 wr_8_32 wr_5_113 wr_5_112 wr_1_34 rfl rfl (fun j => gT_byte (bf659998 j)) (by decide) (by decide) (by omega) (by have qa0 : Int32.toInt 0 = 0 := (by decide); omega) (by have qa0 : Int32.toInt 0 = 0 := (by decide); omega) (Nat.le_of_ble_eq_true rfl) (Nat.le_of_ble_eq_true rfl) (fun F660030 e660031 n660032 => ?_)
  obtain ⟨f660033, hf660033⟩ : ∃ z, z = va_cpy f659998 (fun _ => 0) (0 : Int32).toNatClampNeg (0 : Int32).toNatClampNeg z660029.toNatClampNeg := ⟨_, rfl⟩
  rw [← hf660033] at e660031
  have bf660033 : gF f660033 (-128) 127 := gF_cpy hf660033 bf659998 (gF_w gF_0 (by decide) (by decide))
  have he660034 : F660030 q659996 = .inl (I .byte, n659999, .inl f659998) := (n660032 q659996 (fun h => hq660024 (h ▸ hmq659996))).trans he660020
  have he660035 : F660030 q660013 = .inl (I .byte, z660012.toInt.toNat, .inl f660033) := e660031
  have hfr660036 : rFr [] P659994 F659995 F660030 := rFr_newp hq660024 hfr660025 n660032
  refine G_aload 0 dr_cJ7_copyOfRangeByte_39247_30 rfl ?_
  exact G_aretA (FieldType.array FieldType.byte) dr_cJ7_copyOfRangeByte_39247_32 rfl (by first | exact Or.inl ⟨_, rfl⟩ | exact Or.inr ⟨_, rfl⟩) (Or.inr ⟨_, rfl⟩) (Nat.le_of_ble_eq_true rfl) (show z660012.toInt.toNat ≤ p659997.toInt.toNat by omega) ⟨P660014, F660030, q660013, z660012.toInt.toNat, f660033, rfl, rfl, hsb660026, hfr660036, he660034, he660035, hm660023, hq660024, (Nat.le_of_ble_eq_true rfl), (by omega), bf660033, (by have qa0 : Int32.toInt 0 = 0 := (by decide); omega), (sK_cp2 hf660033 (by decide) (by decide) (by omega)), (fun R c1 => c1 z660012 z660027 z660028 z660029 f660033 ez660012 ez660027 ez660028 ez660029 hf660033)⟩
/- tr_RArrays_copyOfRange: a.3.#, a.3.[] -/
def tr_RArrays_copyOfRange (a2 : Int32) (a0_v : Nat → Int32) (a0_n : Nat) (o1 : Nat) (o2 : Nat → Int32) : Prop := ∀ R : (Nat) → (Nat → Int32) → Prop,
  (∀ (x1 : Int32), x1.toInt = (a0_n : Nat) → a2.toInt = x1.toInt → R a0_n a0_v) →
  (∀ (x1 : Int32) (x2 : Nat) (x3 : Nat → Int32), x1.toInt = (a0_n : Nat) → a2.toInt ≠ x1.toInt → tr_RArrays_copyOfRangeByte a2 a0_v a0_n x2 x3 → R x2 x3) →
  R o1 o2
abbrev ky_659975_Arrays_copyOfRange : gKey := (cJ7_copyOfRange_39247, 3, "java/util/Arrays", (some (FieldType.array FieldType.byte)), [], "copyOfRange", fun _ _ => True)
def pp_659975_Arrays_copyOfRange (D : va_G) (I : FieldType → ClassId) (P659967 : List Nat) (F659968 : Nat → va_E) (q659969 : Nat) (p659970 : Int32) (f659971 : Nat → Int32) (n659972 : Nat) : Option Value → va_W → Nat → Nat → Prop := fun r w dc ds => ∃ (P660068 : List Nat) (F660069 : Nat → va_E) (q660065 : Nat) (n660066 : Nat) (f660067 : Nat → Int32), r = some (.ref q660065) ∧ w = va_pl P660068 F660069 ∧ rSub P659967 P660068 ∧ rFr [] P659967 F659968 F660069 ∧ F660069 q659969 = .inl (I .byte, n659972, .inl f659971) ∧ F660069 q660065 = .inl (I .byte, n660066, .inl f660067) ∧ q660065 ∈ P660068 ∧ q660065 ∉ P659967 ∧ dc ≤ 1 ∧ ds ≤ p659970.toInt.toNat ∧ gF f660067 (-128) 127 ∧ (n660066 : Int) = p659970.toInt ∧ sK f659971 f660067 p659970.toInt ∧ tr_RArrays_copyOfRange p659970 f659971 n659972 n660066 f660067
set_option maxRecDepth 100000 in
set_option maxHeartbeats 4000000 in
theorem cp_659975_Arrays_copyOfRange (l : Launch) (hl0 : l.stackTraces = false) (D : va_G) (I : FieldType → ClassId) (P659967 : List Nat) (F659968 : Nat → va_E) (q659969 : Nat) (p659970 : Int32) (f659971 : Nat → Int32) (n659972 : Nat) (hmq659969 : q659969 ∈ P659967) (heq659969 : F659968 q659969 = .inl (I .byte, n659972, .inl f659971)) (bp659970 : gB p659970 0 16777216) (bf659971 : gF f659971 (-128) 127) (x659973 : p659970.toInt ≤ (n659972 : Int)) (x659974 : ((n659972 : Int) ≤ 16777216)) : CtA (gV D I) l yJ7_copyOfRange_39247 cJ7_copyOfRange_39247 3 (some (FieldType.array FieldType.byte)) 2 45 1 p659970.toInt.toNat [.ref q659969, .int 0, .int p659970] (va_pl P659967 F659968) (pp_659975_Arrays_copyOfRange D I P659967 F659968 q659969 p659970 f659971 n659972) gNA := by
  refine CtA_ofF hl0 (by decide +kernel) (Nat.le_of_ble_eq_true rfl) ?_
  refine G_iload_n 1 dr_cJ7_copyOfRange_39247_0 rfl ?_
  refine G_if_ne 10 dr_cJ7_copyOfRange_39247_1 (by decide +kernel) (fun hc => absurd hc (by decide)) (fun _ => ?_)
  refine G_iload_n 2 dr_cJ7_copyOfRange_39247_4 rfl ?_
  refine G_aload_n 0 dr_cJ7_copyOfRange_39247_5 rfl ?_
  refine Gp_alen (Int32.ofNat n659972) 1 hmq659969 heq659969 dr_cJ7_copyOfRange_39247_6 rfl rfl (G_nam fun z659976 hz659976 => ?_)
  have ez659976 : z659976.toInt = (n659972 : Nat) := gI_ofM hz659976 (by omega)
  have bz659976 : gB z659976 0 16777216 := ⟨by omega, by omega⟩
  refine G_icmp_eq 17 dr_cJ7_copyOfRange_39247_7 (by decide +kernel) (fun hc659977 => ?_) (fun hc659977 => ?_)
  · have r659978 : p659970.toInt = z659976.toInt := gC_eq hc659977
    refine G_aload_n 0 dr_cJ7_copyOfRange_39247_17 rfl ?_
    refine Gp_clone 1 hmq659969 heq659969 rfl dr_cJ7_copyOfRange_39247_18 wr_8_24 wr_8_25 wr_8_26 wr_8_27 wr_8_28 (fun _ _ _ h => gn_w 76 rfl h) bf659971 (Nat.le_of_ble_eq_true rfl) (Nat.le_of_ble_eq_true rfl) (show 0 + 1 ≤ 1 by first | omega | decide) (show 0 + n659972 ≤ p659970.toInt.toNat by first | omega | decide) (fun q659979 P659980 F659981 hq659982 hP659983 e659984 n659985 => ?_)
    refine G_widen (cs' := 1) (sl' := n659972) (by omega) (by omega) ?_
    have he659986 : F659981 q659969 = .inl (I .byte, n659972, .inl f659971) := (n659985 q659969 (fun h => hq659982 (h ▸ hmq659969))).trans heq659969
    have he659987 : F659981 q659979 = .inl (I .byte, n659972, .inl f659971) := e659984
    have hm659988 : q659969 ∈ P659980 := (hP659983 q659969).mpr (Or.inl hmq659969)
    have hm659989 : q659979 ∈ P659980 := (hP659983 q659979).mpr (Or.inr rfl)
    have hq659990 : q659979 ∉ P659967 := fun z => hq659982 ((rSub_rf (P := P659967)) q659979 z)
    have hfr659991 : rFr [] P659967 F659968 F659981 := rFr_new (rSub_rf (P := P659967)) hq659982 (rFr_rf (W := []) (P := P659967) (F := F659968)) n659985
    have hsb659992 : rSub P659967 P659980 := rSub_new (rSub_rf (P := P659967)) hP659983
    refine Gp_casA 1 hm659989 he659987 rfl dr_cJ7_copyOfRange_39247_21 wr_8_30 ?_
    exact G_aretA (FieldType.array FieldType.byte) dr_cJ7_copyOfRange_39247_24 rfl (by first | exact Or.inl ⟨_, rfl⟩ | exact Or.inr ⟨_, rfl⟩) (Or.inr ⟨_, rfl⟩) (Nat.le_of_ble_eq_true rfl) (show n659972 ≤ p659970.toInt.toNat by omega) ⟨P659980, F659981, q659979, n659972, f659971, rfl, rfl, hsb659992, hfr659991, he659986, he659987, hm659989, hq659990, (Nat.le_of_ble_eq_true rfl), (by omega), bf659971, (by have qa0 : Int32.toInt 0 = 0 := (by decide); omega), sK_rf, (fun R c1 c2 => c1 z659976 ez659976 r659978)⟩
  · have r659993 : p659970.toInt ≠ z659976.toInt := gC_ne hc659977
    refine G_aload_n 0 dr_cJ7_copyOfRange_39247_10 rfl ?_
    refine G_iload_n 1 dr_cJ7_copyOfRange_39247_11 rfl ?_
    refine G_iload_n 2 dr_cJ7_copyOfRange_39247_12 rfl ?_
    refine Gw_callS (As := [.ref q659969, .int 0, .int p659970]) (gV_ok D I) (cp_660002_Arrays_copyOfRangeByte l hl0 D I P659967 F659968 q659969 p659970 f659971 n659972 hmq659969 heq659969 bp659970 bf659971 (by have qa0 : Int32.toInt 0 = 0 := (by decide); omega) (by have qa0 : Int32.toInt 0 = 0 := (by decide); omega)) dr_cJ7_copyOfRange_39247_13 ⟨wr_8_96, wr_1_30, wr_8_98, by decide, rfl, (Nat.le_of_ble_eq_true rfl), (Nat.le_of_ble_eq_true rfl)⟩ wr_8_97 (show 0 + 1 ≤ 1 by first | omega | decide) (show 0 + p659970.toInt.toNat ≤ p659970.toInt.toNat by first | omega | decide) (Nat.le_of_ble_eq_true rfl) (fun r660045 w660046 dc660042 ds660043 hp660044 => ?_) (fun _ _ _ _ _ z => z.elim)
    obtain ⟨P660053, F660054, q660047, n660048, f660049, rfl, rfl, hsb660055, hfr660056, he660057, he660058, hm660059, hq660060, hdc, hds, bf660049, x660050, x660051, ht660052⟩ := hp660044
    have hm660061 : q659969 ∈ P660053 := hsb660055 q659969 hmq659969
    have hq660062 : q660047 ∉ P659967 := fun z => hq660060 ((rSub_rf (P := P659967)) q660047 z)
    have hsb660063 : rSub P659967 P660053 := rSub_tr (rSub_rf (P := P659967)) hsb660055
    have hfr660064 : rFr [] P659967 F659968 F660054 := rFr_call (rSub_rf (P := P659967)) (rFr_rf (W := []) (P := P659967) (F := F659968)) hfr660056 (fun b hb hn => ⟨nm_n, nm_n⟩)
    change G _ _ _ _ _ _ _ (.ref q660047 :: _) _ _ _
    refine G_widen (cs' := 1) (sl' := p659970.toInt.toNat) (by omega) (by omega) ?_
    exact G_aretA (FieldType.array FieldType.byte) dr_cJ7_copyOfRange_39247_16 rfl (by first | exact Or.inl ⟨_, rfl⟩ | exact Or.inr ⟨_, rfl⟩) (Or.inr ⟨_, rfl⟩) (Nat.le_of_ble_eq_true rfl) (show p659970.toInt.toNat ≤ p659970.toInt.toNat by omega) ⟨P660053, F660054, q660047, n660048, f660049, rfl, rfl, hsb660063, hfr660064, he660057, he660058, hm660059, hq660062, (Nat.le_of_ble_eq_true rfl), (by omega), bf660049, (by have qa0 : Int32.toInt 0 = 0 := (by decide); omega), (sK_c x660051 (by omega)), (fun R c1 c2 => c2 z659976 n660048 f660049 ez659976 r659993 ht660052)⟩
/- tr_RString_init2: a.0.value.#, a.0.value.[] -/
def tr_RString_init2 (a1_count : Int32) (a1_value_v : Nat → Int32) (a1_value_n : Nat) (o1 : Nat) (o2 : Nat → Int32) : Prop := ∀ R : (Nat) → (Nat → Int32) → Prop,
  (∀ (x1 : Nat) (x2 : Nat → Int32), tr_RArrays_copyOfRange a1_count a1_value_v a1_value_n x1 x2 → R x1 x2) →
  R o1 o2
abbrev ky_659934_String_init : gKey := (cJ0_init_db425, 5, "java/lang/String", none, [], "<init>", fun _ _ => True)
def pp_659934_String_init (D : va_G) (I : FieldType → ClassId) (P659921 : List Nat) (F659922 : Nat → va_E) (q659923 : Nat) (q659924 : Nat) (q659925 : Nat) (p659926 : Int32) (p659927 : Int32) (p659928 : Int32) (p659929 : Int32) (f659930 : Nat → Int32) (n659931 : Nat) : Option Value → va_W → Nat → Nat → Prop := fun r w dc ds => ∃ (P660108 : List Nat) (F660109 : Nat → va_E) (q660105 : Nat) (n660106 : Nat) (f660107 : Nat → Int32), r = none ∧ w = va_pl P660108 F660109 ∧ rSub P659921 P660108 ∧ rFr [q659923] P659921 F659922 F660109 ∧ F660109 q659923 = .inr (0, [.ref q660105, .int 0, .int p659926, .int p659927]) ∧ F660109 q659924 = .inr (1, [.ref q659925, .int 0, .int p659928, .int p659929]) ∧ F660109 q659925 = .inl (I .byte, n659931, .inl f659930) ∧ F660109 q660105 = .inl (I .byte, n660106, .inl f660107) ∧ q660105 ∈ P660108 ∧ q660105 ∉ P659921 ∧ dc ≤ 1 ∧ ds ≤ p659929.toInt.toNat ∧ gF f660107 (-128) 127 ∧ (n660106 : Int) = p659929.toInt ∧ sK f659930 f660107 p659929.toInt ∧ tr_RString_init2 p659929 f659930 n659931 n660106 f660107
set_option maxRecDepth 100000 in
set_option maxHeartbeats 4000000 in
theorem cp_659934_String_init (l : Launch) (hl0 : l.stackTraces = false) (D : va_G) (I : FieldType → ClassId) (P659921 : List Nat) (F659922 : Nat → va_E) (q659923 : Nat) (q659924 : Nat) (q659925 : Nat) (p659926 : Int32) (p659927 : Int32) (p659928 : Int32) (p659929 : Int32) (f659930 : Nat → Int32) (n659931 : Nat) (hmq659923 : q659923 ∈ P659921) (hmq659924 : q659924 ∈ P659921) (hmq659925 : q659925 ∈ P659921) (heq659923 : F659922 q659923 = .inr (0, [.null, .int 0, .int p659926, .int p659927])) (heq659924 : F659922 q659924 = .inr (1, [.ref q659925, .int 0, .int p659928, .int p659929])) (heq659925 : F659922 q659925 = .inl (I .byte, n659931, .inl f659930)) (bp659927 : gB p659927 0 1) (bp659928 : gB p659928 0 1) (bp659929 : gB p659929 0 16777216) (bf659930 : gF f659930 (-128) 127) (x659932 : p659929.toInt ≤ (n659931 : Int)) (x659933 : ((n659931 : Int) ≤ 16777216)) : CtA (gV D I) l yJ0_init_db425 cJ0_init_db425 5 none 3 67 1 p659929.toInt.toNat [.ref q659923, .ref q659924, .null] (va_pl P659921 F659922) (pp_659934_String_init D I P659921 F659922 q659923 q659924 q659925 p659926 p659927 p659928 p659929 f659930 n659931) gNA := by
  refine CtA_ofF hl0 (by decide +kernel) (Nat.le_of_ble_eq_true rfl) ?_
  have bp659926 := gB_any p659926
  refine G_aload_n 0 dr_cJ0_init_db425_0 rfl ?_
  refine G_obj dr_cJ0_init_db425_1 wr_8_78 wr_1_51 wr_1_52 (Nat.le_of_ble_eq_true rfl) (Nat.le_of_ble_eq_true rfl) ?_
  refine G_aload_n 1 dr_cJ0_init_db425_4 rfl ?_
  refine Gw_callVB (As := []) (gV_ok D I) (cp_659944_AbstractStringBuilder_getValue l hl0 D I P659921 F659922 q659924 q659925 p659928 p659929 f659930 n659931 hmq659924 hmq659925 heq659924 heq659925 bp659928 bp659929 bf659930 (by have qa0 : Int32.toInt 0 = 0 := (by decide); omega)) dr_cJ0_init_db425_5 ⟨wr_8_79, wr_1_19, wr_8_83, by decide, rfl, (Nat.le_of_ble_eq_true rfl), (Nat.le_of_ble_eq_true rfl)⟩ wr_8_80 wr_8_82 hmq659924 heq659924 rfl (show 0 + 0 ≤ 1 by first | omega | decide) (show 0 + 0 ≤ p659929.toInt.toNat by first | omega | decide) (Nat.le_of_ble_eq_true rfl) (fun r659948 w659949 dc659945 ds659946 hp659947 => ?_) (fun _ _ _ _ _ z => z.elim)
  obtain ⟨rfl, rfl, hdc, hds⟩ := hp659947
  change G _ _ _ _ _ _ _ (.ref q659925 :: _) _ _ _
  refine G_widen (cs' := 0) (sl' := 0) (by omega) (by omega) ?_
  refine G_astore_n (L' := [(3, .ref q659925), (0, .ref q659923), (1, .ref q659924), (2, .null)]) dr_cJ0_init_db425_8 (Nat.le_of_ble_eq_true rfl) rfl ?_
  refine G_aload_n 2 dr_cJ0_init_db425_9 rfl ?_
  refine Gw_callVU (As := []) (owner := "java/lang/AbstractStringBuilder") (gV_ok D I) (cp_658573_StringBuilder_length l hl0 D I P659921 F659922 q659924 q659925 p659928 p659929 f659930 n659931 hmq659924 hmq659925 heq659924 heq659925 bp659928 bp659929 bf659930 (by have qa0 : Int32.toInt 0 = 0 := (by decide); omega)) dr_cJ0_init_db425_10 ⟨wr_8_84, wr_8_86, wr_8_85, wr_8_91, wr_8_87, wr_8_88, wr_1_20, wr_8_89, by decide, rfl, (Nat.le_of_ble_eq_true rfl), (Nat.le_of_ble_eq_true rfl)⟩ hmq659924 heq659924 rfl (show 0 + 0 ≤ 1 by first | omega | decide) (show 0 + 0 ≤ p659929.toInt.toNat by first | omega | decide) (Nat.le_of_ble_eq_true rfl) (fun r659953 w659954 dc659950 ds659951 hp659952 => ?_) (fun _ _ _ _ _ z => z.elim)
  obtain ⟨rfl, rfl, hdc, hds⟩ := hp659952
  change G _ _ _ _ _ _ _ (.int p659929 :: _) _ _ _
  refine G_widen (cs' := 0) (sl' := 0) (by omega) (by omega) ?_
  refine G_istore (L' := [(4, .int p659929), (3, .ref q659925), (0, .ref q659923), (1, .ref q659924), (2, .null)]) dr_cJ0_init_db425_13 (Nat.le_of_ble_eq_true rfl) rfl ?_
  refine G_aload_n 3 dr_cJ0_init_db425_15 rfl ?_
  refine Gw_callVB (As := []) (gV_ok D I) (cp_658723_AbstractStringBuilder_isLatin1 l hl0 D I P659921 F659922 q659924 q659925 p659928 p659929 f659930 n659931 hmq659924 hmq659925 heq659924 heq659925 bp659928 bp659929 bf659930 (by have qa0 : Int32.toInt 0 = 0 := (by decide); omega)) dr_cJ0_init_db425_16 ⟨wr_8_92, wr_1_19, wr_8_37, by decide, rfl, (Nat.le_of_ble_eq_true rfl), (Nat.le_of_ble_eq_true rfl)⟩ wr_8_34 wr_8_36 hmq659924 heq659924 rfl (show 0 + 0 ≤ 1 by first | omega | decide) (show 0 + 0 ≤ p659929.toInt.toNat by first | omega | decide) (Nat.le_of_ble_eq_true rfl) (fun r659958 w659959 dc659955 ds659956 hp659957 => ?_) (fun _ _ _ _ _ z => z.elim)
  obtain ⟨rfl, rfl, hdc, hds⟩ := hp659957
  change G _ _ _ _ _ _ _ (.int 1 :: _) _ _ _
  refine G_widen (cs' := 0) (sl' := 0) (by omega) (by omega) ?_
  refine G_if_eq 41 dr_cJ0_init_db425_19 (by decide +kernel) (fun hc => absurd hc (by decide)) (fun _ => ?_)
  refine G_aload_n 2 dr_cJ0_init_db425_22 rfl ?_
  refine G_iconst 0 dr_cJ0_init_db425_23 (by decide +kernel) ?_
  refine Gp_putF 1 hmq659923 heq659923 dr_cJ0_init_db425_24 (gk_J0 D I) (Nat.le_of_ble_eq_true rfl) wr_8_183 rfl rfl rfl rfl rfl (Nat.le_of_ble_eq_true rfl) (fun F659960 e659961 n659962 => ?_)
  have he659963 : F659960 q659924 = .inr (1, [.ref q659925, .int 0, .int p659928, .int p659929]) := (n659962 q659924 (rn_oo heq659924 heq659923 (by decide))).trans heq659924
  have he659964 : F659960 q659925 = .inl (I .byte, n659931, .inl f659930) := (n659962 q659925 (rn_ao heq659925 heq659923)).trans heq659925
  have he659965 : F659960 q659923 = .inr (0, [.null, .int 0, .int p659926, .int p659927]) := e659961
  have hfr659966 : rFr [q659923] P659921 F659922 F659960 := rFr_put (rFr_rf (W := []) (P := P659921) (F := F659922)) n659962
  refine G_aload_n 2 dr_cJ0_init_db425_27 rfl ?_
  refine G_aload_n 1 dr_cJ0_init_db425_28 rfl ?_
  refine G_iconst 0 dr_cJ0_init_db425_29 (by decide +kernel) ?_
  refine G_iload 0 dr_cJ0_init_db425_30 rfl ?_
  refine Gw_callS (As := [.ref q659925, .int 0, .int p659929]) (gV_ok D I) (cp_659975_Arrays_copyOfRange l hl0 D I P659921 F659960 q659925 p659929 f659930 n659931 hmq659925 he659964 bp659929 bf659930 (by have qa0 : Int32.toInt 0 = 0 := (by decide); omega) (by have qa0 : Int32.toInt 0 = 0 := (by decide); omega)) dr_cJ0_init_db425_32 ⟨wr_8_93, wr_1_30, wr_8_95, by decide, rfl, (Nat.le_of_ble_eq_true rfl), (Nat.le_of_ble_eq_true rfl)⟩ wr_8_94 (show 0 + 1 ≤ 1 by first | omega | decide) (show 0 + p659929.toInt.toNat ≤ p659929.toInt.toNat by first | omega | decide) (Nat.le_of_ble_eq_true rfl) (fun r660073 w660074 dc660070 ds660071 hp660072 => ?_) (fun _ _ _ _ _ z => z.elim)
  obtain ⟨P660081, F660082, q660075, n660076, f660077, rfl, rfl, hsb660083, hfr660084, he660085, he660086, hm660087, hq660088, hdc, hds, bf660077, x660078, x660079, ht660080⟩ := hp660072
  have hm660089 : q659923 ∈ P660081 := hsb660083 q659923 hmq659923
  have hm660090 : q659924 ∈ P660081 := hsb660083 q659924 hmq659924
  have hm660091 : q659925 ∈ P660081 := hsb660083 q659925 hmq659925
  have hq660092 : q660075 ∉ P659921 := fun z => hq660088 ((rSub_rf (P := P659921)) q660075 z)
  have hsb660093 : rSub P659921 P660081 := rSub_tr (rSub_rf (P := P659921)) hsb660083
  have he660094 : F660082 q659923 = .inr (0, [.null, .int 0, .int p659926, .int p659927]) := (hfr660084 q659923 hmq659923 nm_n).trans he659965
  have he660095 : F660082 q659924 = .inr (1, [.ref q659925, .int 0, .int p659928, .int p659929]) := (hfr660084 q659924 hmq659924 nm_n).trans he659963
  have hfr660096 : rFr [q659923] P659921 F659922 F660082 := rFr_call (rSub_rf (P := P659921)) hfr659966 hfr660084 (fun b hb hn => ⟨(nm_c (fun e => hn (e ▸ List.mem_cons_self)) nm_n), nm_n⟩)
  change G _ _ _ _ _ _ _ (.ref q660075 :: _) _ _ _
  refine G_widen (cs' := 1) (sl' := p659929.toInt.toNat) (by omega) (by omega) ?_
  refine Gp_putF 0 hm660089 he660094 dr_cJ0_init_db425_35 (gk_J0 D I) (Nat.le_of_ble_eq_true rfl) wr_8_182 rfl rfl rfl rfl rfl (Nat.le_of_ble_eq_true rfl) (fun F660097 e660098 n660099 => ?_)
  have he660100 : F660097 q659924 = .inr (1, [.ref q659925, .int 0, .int p659928, .int p659929]) := (n660099 q659924 (rn_oo he660095 he660094 (by decide))).trans he660095
  have he660101 : F660097 q659925 = .inl (I .byte, n659931, .inl f659930) := (n660099 q659925 (rn_ao he660085 he660094)).trans he660085
  have he660102 : F660097 q660075 = .inl (I .byte, n660076, .inl f660077) := (n660099 q660075 (fun h => hq660092 (h ▸ hmq659923))).trans he660086
  have he660103 : F660097 q659923 = .inr (0, [.ref q660075, .int 0, .int p659926, .int p659927]) := e660098
  have hfr660104 : rFr [q659923] P659921 F659922 F660097 := rFr_put' List.mem_cons_self hfr660096 n660099
  refine G_goto 97 dr_cJ0_init_db425_38 (by decide +kernel) ?_
  exact G_vretA dr_cJ0_init_db425_97 rfl (Nat.le_of_ble_eq_true rfl) (show p659929.toInt.toNat ≤ p659929.toInt.toNat by omega) ⟨P660081, F660097, q660075, n660076, f660077, rfl, rfl, hsb660093, hfr660104, he660103, he660100, he660101, he660102, hm660087, hq660092, (Nat.le_of_ble_eq_true rfl), (by omega), bf660077, (by have qa0 : Int32.toInt 0 = 0 := (by decide); omega), (sK_c x660079 (by omega)), (fun R c1 => c1 n660076 f660077 ht660080)⟩
/- tr_RString_init: a.0.value.#, a.0.value.[] -/
def tr_RString_init (a1_count : Int32) (a1_value_v : Nat → Int32) (a1_value_n : Nat) (o1 : Nat) (o2 : Nat → Int32) : Prop := ∀ R : (Nat) → (Nat → Int32) → Prop,
  (∀ (x1 : Nat) (x2 : Nat → Int32), tr_RString_init2 a1_count a1_value_v a1_value_n x1 x2 → R x1 x2) →
  R o1 o2
abbrev ky_659920_String_init : gKey := (cJ0_init_81219, 2, "java/lang/String", none, [], "<init>", fun _ _ => True)
def pp_659920_String_init (D : va_G) (I : FieldType → ClassId) (P659907 : List Nat) (F659908 : Nat → va_E) (q659909 : Nat) (q659910 : Nat) (q659911 : Nat) (p659912 : Int32) (p659913 : Int32) (p659914 : Int32) (p659915 : Int32) (f659916 : Nat → Int32) (n659917 : Nat) : Option Value → va_W → Nat → Nat → Prop := fun r w dc ds => ∃ (P660140 : List Nat) (F660141 : Nat → va_E) (q660137 : Nat) (n660138 : Nat) (f660139 : Nat → Int32), r = none ∧ w = va_pl P660140 F660141 ∧ rSub P659907 P660140 ∧ rFr [q659909] P659907 F659908 F660141 ∧ F660141 q659909 = .inr (0, [.ref q660137, .int 0, .int p659912, .int p659913]) ∧ F660141 q659910 = .inr (1, [.ref q659911, .int 0, .int p659914, .int p659915]) ∧ F660141 q659911 = .inl (I .byte, n659917, .inl f659916) ∧ F660141 q660137 = .inl (I .byte, n660138, .inl f660139) ∧ q660137 ∈ P660140 ∧ q660137 ∉ P659907 ∧ dc ≤ 1 ∧ ds ≤ p659915.toInt.toNat ∧ gF f660139 (-128) 127 ∧ (n660138 : Int) = p659915.toInt ∧ sK f659916 f660139 p659915.toInt ∧ tr_RString_init p659915 f659916 n659917 n660138 f660139
set_option maxRecDepth 100000 in
set_option maxHeartbeats 4000000 in
theorem cp_659920_String_init (l : Launch) (hl0 : l.stackTraces = false) (D : va_G) (I : FieldType → ClassId) (P659907 : List Nat) (F659908 : Nat → va_E) (q659909 : Nat) (q659910 : Nat) (q659911 : Nat) (p659912 : Int32) (p659913 : Int32) (p659914 : Int32) (p659915 : Int32) (f659916 : Nat → Int32) (n659917 : Nat) (hmq659909 : q659909 ∈ P659907) (hmq659910 : q659910 ∈ P659907) (hmq659911 : q659911 ∈ P659907) (heq659909 : F659908 q659909 = .inr (0, [.null, .int 0, .int p659912, .int p659913])) (heq659910 : F659908 q659910 = .inr (1, [.ref q659911, .int 0, .int p659914, .int p659915])) (heq659911 : F659908 q659911 = .inl (I .byte, n659917, .inl f659916)) (bp659913 : gB p659913 0 1) (bp659914 : gB p659914 0 1) (bp659915 : gB p659915 0 16777216) (bf659916 : gF f659916 (-128) 127) (x659918 : p659915.toInt ≤ (n659917 : Int)) (x659919 : ((n659917 : Int) ≤ 16777216)) : CtA (gV D I) l yJ0_init_81219 cJ0_init_81219 2 none 4 91 1 p659915.toInt.toNat [.ref q659909, .ref q659910] (va_pl P659907 F659908) (pp_659920_String_init D I P659907 F659908 q659909 q659910 q659911 p659912 p659913 p659914 p659915 f659916 n659917) gNA := by
  refine CtA_ofF hl0 (by decide +kernel) (Nat.le_of_ble_eq_true rfl) ?_
  have bp659912 := gB_any p659912
  refine G_aload_n 0 dr_cJ0_init_81219_0 rfl ?_
  refine G_aload_n 1 dr_cJ0_init_81219_1 rfl ?_
  refine G_null dr_cJ0_init_81219_2 ?_
  refine Gw_callI (As := [.ref q659910, .null]) (gV_ok D I) (cp_659934_String_init l hl0 D I P659907 F659908 q659909 q659910 q659911 p659912 p659913 p659914 p659915 f659916 n659917 hmq659909 hmq659910 hmq659911 heq659909 heq659910 heq659911 bp659913 bp659914 bp659915 bf659916 (by have qa0 : Int32.toInt 0 = 0 := (by decide); omega) (by have qa0 : Int32.toInt 0 = 0 := (by decide); omega)) dr_cJ0_init_81219_3 ⟨wr_8_75, wr_1_21, wr_8_77, by decide, rfl, (Nat.le_of_ble_eq_true rfl), (Nat.le_of_ble_eq_true rfl)⟩ wr_8_76 rfl (show 0 + 1 ≤ 1 by first | omega | decide) (show 0 + p659915.toInt.toNat ≤ p659915.toInt.toNat by first | omega | decide) (Nat.le_of_ble_eq_true rfl) (fun r660113 w660114 dc660110 ds660111 hp660112 => ?_)
  obtain ⟨P660121, F660122, q660115, n660116, f660117, rfl, rfl, hsb660123, hfr660124, he660125, he660126, he660127, he660128, hm660129, hq660130, hdc, hds, bf660117, x660118, x660119, ht660120⟩ := hp660112
  have hm660131 : q659909 ∈ P660121 := hsb660123 q659909 hmq659909
  have hm660132 : q659910 ∈ P660121 := hsb660123 q659910 hmq659910
  have hm660133 : q659911 ∈ P660121 := hsb660123 q659911 hmq659911
  have hq660134 : q660115 ∉ P659907 := fun z => hq660130 ((rSub_rf (P := P659907)) q660115 z)
  have hsb660135 : rSub P659907 P660121 := rSub_tr (rSub_rf (P := P659907)) hsb660123
  have hfr660136 : rFr [q659909] P659907 F659908 F660122 := rFr_call (rSub_rf (P := P659907)) (rFr_rf (W := []) (P := P659907) (F := F659908)) hfr660124 (fun b hb hn => ⟨nm_n, (nm_c (fun e => hn (e ▸ List.mem_cons_self)) nm_n)⟩)
  change G _ _ _ _ _ _ _ _ _ _ _
  refine G_widen (cs' := 1) (sl' := p659915.toInt.toNat) (by omega) (by omega) ?_
  exact G_vretA dr_cJ0_init_81219_6 rfl (Nat.le_of_ble_eq_true rfl) (show p659915.toInt.toNat ≤ p659915.toInt.toNat by omega) ⟨P660121, F660122, q660115, n660116, f660117, rfl, rfl, hsb660135, hfr660136, he660125, he660126, he660127, he660128, hm660129, hq660134, (Nat.le_of_ble_eq_true rfl), (by omega), bf660117, (by have qa0 : Int32.toInt 0 = 0 := (by decide); omega), (sK_c x660119 (by omega)), (fun R c1 => c1 n660116 f660117 ht660120)⟩
/- tr_RStringBuilder_toString: a.1.value.#, a.1.value.[] -/
def tr_RStringBuilder_toString (a0_count : Int32) (a0_value_v : Nat → Int32) (a0_value_n : Nat) (o1 : Nat) (o2 : Nat → Int32) : Prop := ∀ R : (Nat) → (Nat → Int32) → Prop,
  (∀ (x1 : Nat) (x2 : Nat → Int32), tr_RString_init a0_count a0_value_v a0_value_n x1 x2 → R x1 x2) →
  R o1 o2
abbrev ky_659890_StringBuilder_toString : gKey := (cJ4_toString_0e30d, 1, "java/lang/StringBuilder", (some (FieldType.object "java/lang/String")), [], "toString", fun _ _ => True)
def pp_659890_StringBuilder_toString (D : va_G) (I : FieldType → ClassId) (P659880 : List Nat) (F659881 : Nat → va_E) (q659882 : Nat) (q659883 : Nat) (p659884 : Int32) (p659885 : Int32) (f659886 : Nat → Int32) (n659887 : Nat) : Option Value → va_W → Nat → Nat → Prop := fun r w dc ds => ∃ (P660173 : List Nat) (F660174 : Nat → va_E) (q660169 : Nat) (q660170 : Nat) (n660171 : Nat) (f660172 : Nat → Int32), r = some (.ref q660169) ∧ w = va_pl P660173 F660174 ∧ rSub P659880 P660173 ∧ rFr [] P659880 F659881 F660174 ∧ F660174 q660169 = .inr (0, [.ref q660170, .int 0, .int 0, .int 0]) ∧ F660174 q659882 = .inr (1, [.ref q659883, .int 0, .int p659884, .int p659885]) ∧ F660174 q659883 = .inl (I .byte, n659887, .inl f659886) ∧ F660174 q660170 = .inl (I .byte, n660171, .inl f660172) ∧ q660169 ∈ P660173 ∧ q660169 ∉ P659880 ∧ q660170 ∈ P660173 ∧ q660170 ∉ P659880 ∧ dc ≤ 2 ∧ ds ≤ p659885.toInt.toNat + 4 ∧ gF f660172 (-128) 127 ∧ (n660171 : Int) = p659885.toInt ∧ sK f659886 f660172 p659885.toInt ∧ tr_RStringBuilder_toString p659885 f659886 n659887 n660171 f660172
set_option maxRecDepth 100000 in
set_option maxHeartbeats 4000000 in
theorem cp_659890_StringBuilder_toString (l : Launch) (hl0 : l.stackTraces = false) (D : va_G) (I : FieldType → ClassId) (P659880 : List Nat) (F659881 : Nat → va_E) (q659882 : Nat) (q659883 : Nat) (p659884 : Int32) (p659885 : Int32) (f659886 : Nat → Int32) (n659887 : Nat) (hmq659882 : q659882 ∈ P659880) (hmq659883 : q659883 ∈ P659880) (heq659882 : F659881 q659882 = .inr (1, [.ref q659883, .int 0, .int p659884, .int p659885])) (heq659883 : F659881 q659883 = .inl (I .byte, n659887, .inl f659886)) (bp659884 : gB p659884 0 1) (bp659885 : gB p659885 0 16777216) (bf659886 : gF f659886 (-128) 127) (x659888 : p659885.toInt ≤ (n659887 : Int)) (x659889 : ((n659887 : Int) ≤ 16777216)) : CtA (gV D I) l yJ4_toString_0e30d cJ4_toString_0e30d 1 (some (FieldType.object "java/lang/String")) 5 112 2 (p659885.toInt.toNat + 4) [.ref q659882] (va_pl P659880 F659881) (pp_659890_StringBuilder_toString D I P659880 F659881 q659882 q659883 p659884 p659885 f659886 n659887) gNA := by
  refine CtA_ofF hl0 (by decide +kernel) (Nat.le_of_ble_eq_true rfl) ?_
  refine G_new [.null, .int 0, .int 0, .int 0] dr_cJ4_toString_0e30d_0 (gk_J0 D I) wr_8_70 wr_8_71 wr_1_21 (gfs_J0) (show 0 + 1 ≤ 2 by first | omega | decide) (show 0 + 4 ≤ (p659885.toInt.toNat + 4) by first | omega | decide) (fun q659891 => Gp_in (fun P659892 F659893 hq659894 hP659895 e659896 n659897 => ?_))
  refine G_widen (cs' := 1) (sl' := 4) (by omega) (by omega) ?_
  have he659898 : F659893 q659882 = .inr (1, [.ref q659883, .int 0, .int p659884, .int p659885]) := (n659897 q659882 (fun h => hq659894 (h ▸ hmq659882))).trans heq659882
  have he659899 : F659893 q659883 = .inl (I .byte, n659887, .inl f659886) := (n659897 q659883 (fun h => hq659894 (h ▸ hmq659883))).trans heq659883
  have he659900 : F659893 q659891 = .inr (0, [.null, .int 0, .int 0, .int 0]) := e659896
  have hm659901 : q659882 ∈ P659892 := (hP659895 q659882).mpr (Or.inl hmq659882)
  have hm659902 : q659883 ∈ P659892 := (hP659895 q659883).mpr (Or.inl hmq659883)
  have hm659903 : q659891 ∈ P659892 := (hP659895 q659891).mpr (Or.inr rfl)
  have hq659904 : q659891 ∉ P659880 := fun z => hq659894 ((rSub_rf (P := P659880)) q659891 z)
  have hfr659905 : rFr [] P659880 F659881 F659893 := rFr_new (rSub_rf (P := P659880)) hq659894 (rFr_rf (W := []) (P := P659880) (F := F659881)) n659897
  have hsb659906 : rSub P659880 P659892 := rSub_new (rSub_rf (P := P659880)) hP659895
  refine G_dup dr_cJ4_toString_0e30d_3 rfl ?_
  refine G_aload_n 0 dr_cJ4_toString_0e30d_4 rfl ?_
  refine Gw_callI (As := [.ref q659882]) (gV_ok D I) (cp_659920_String_init l hl0 D I P659892 F659893 q659891 q659882 q659883 0 0 p659884 p659885 f659886 n659887 hm659903 hm659901 hm659902 he659900 he659898 he659899 (gB_w (gBl (show Int32.toInt 0 = 0 by decide)) (by decide) (by decide)) bp659884 bp659885 bf659886 (by have qa0 : Int32.toInt 0 = 0 := (by decide); omega) (by have qa0 : Int32.toInt 0 = 0 := (by decide); omega)) dr_cJ4_toString_0e30d_5 ⟨wr_8_72, wr_1_21, wr_8_74, by decide, rfl, (Nat.le_of_ble_eq_true rfl), (Nat.le_of_ble_eq_true rfl)⟩ wr_8_73 rfl (show 1 + 1 ≤ 2 by first | omega | decide) (show 4 + p659885.toInt.toNat ≤ (p659885.toInt.toNat + 4) by first | omega | decide) (Nat.le_of_ble_eq_true rfl) (fun r660145 w660146 dc660142 ds660143 hp660144 => ?_)
  obtain ⟨P660153, F660154, q660147, n660148, f660149, rfl, rfl, hsb660155, hfr660156, he660157, he660158, he660159, he660160, hm660161, hq660162, hdc, hds, bf660149, x660150, x660151, ht660152⟩ := hp660144
  have hm660163 : q659882 ∈ P660153 := hsb660155 q659882 hm659901
  have hm660164 : q659883 ∈ P660153 := hsb660155 q659883 hm659902
  have hm660165 : q659891 ∈ P660153 := hsb660155 q659891 hm659903
  have hq660166 : q660147 ∉ P659880 := fun z => hq660162 (hsb659906 q660147 z)
  have hsb660167 : rSub P659880 P660153 := rSub_tr hsb659906 hsb660155
  have hfr660168 : rFr [] P659880 F659881 F660154 := rFr_call hsb659906 hfr659905 hfr660156 (fun b hb hn => ⟨nm_n, (nm_c (fun e => hq659904 (e ▸ hb)) nm_n)⟩)
  change G _ _ _ _ _ _ _ _ _ _ _
  refine G_widen (cs' := 2) (sl' := 4 + p659885.toInt.toNat) (by omega) (by omega) ?_
  exact G_aretA (FieldType.object "java/lang/String") dr_cJ4_toString_0e30d_8 rfl (by first | exact Or.inl ⟨_, rfl⟩ | exact Or.inr ⟨_, rfl⟩) (Or.inr ⟨_, rfl⟩) (Nat.le_of_ble_eq_true rfl) (show 4 + p659885.toInt.toNat ≤ (p659885.toInt.toNat + 4) by omega) ⟨P660153, F660154, q659891, q660147, n660148, f660149, rfl, rfl, hsb660167, hfr660168, he660157, he660158, he660159, he660160, hm660165, hq659904, hm660161, hq660166, (Nat.le_of_ble_eq_true rfl), (by omega), bf660149, (by have qa0 : Int32.toInt 0 = 0 := (by decide); omega), (sK_c x660151 (by omega)), (fun R c1 => c1 n660148 f660149 ht660152)⟩
/- tl_RStringLatin1_equals_9: l2; out:  -/
def tl_RStringLatin1_equals_9 (a0_n : Nat) (a0_v : Nat → Int32) (bs : List Int32) (s1 : Int32) (k : Nat) : Prop := ∀ R : (Int32) → Nat → Prop,
  (∀ (l2_1 : Int32) (x1 : Int32), gB l2_1 0 16777216 → x1.toInt = (a0_n : Nat) → x1.toInt ≤ l2_1.toInt → R l2_1 32) →
  (∀ (l2_1 : Int32) (x1 : Int32) (x2 : Int32) (x3 : Int32) (x4 : Int32) (k : Nat), gB l2_1 0 16777216 → x1.toInt = (a0_n : Nat) → l2_1.toInt < x1.toInt → x2 = a0_v l2_1.toNatClampNeg → gB x2 (-128) 127 → x3 = bs.getD l2_1.toNatClampNeg 0 → x2.toInt = x3.toInt → x4.toInt = l2_1.toInt + 1 → R x4 k → R l2_1 k) →
  (∀ (l2_1 : Int32) (x1 : Int32) (x2 : Int32) (x3 : Int32), gB l2_1 0 16777216 → x1.toInt = (a0_n : Nat) → l2_1.toInt < x1.toInt → x2 = a0_v l2_1.toNatClampNeg → gB x2 (-128) 127 → x3 = bs.getD l2_1.toNatClampNeg 0 → x2.toInt ≠ x3.toInt → R l2_1 24) →
  R s1 k
/- tr_RStringLatin1_equals: result -/
def tr_RStringLatin1_equals (bs : List Int32) (a0_v : Nat → Int32) (a0_n : Nat) (o1 : Int32) : Prop := ∀ R : (Int32) → Prop,
  (∀ (x1 : Int32) (x2 : Int32), x1.toInt = (a0_n : Nat) → x2.toInt = (bs.length : Int) → x1.toInt ≠ x2.toInt → R (0 : Int32)) →
  (∀ (x1 : Int32) (x2 : Int32), x1.toInt = (a0_n : Nat) → x2.toInt = (bs.length : Int) → x1.toInt = x2.toInt → tl_RStringLatin1_equals_9 a0_n a0_v bs (0 : Int32) 32 → R (1 : Int32)) →
  (∀ (x1 : Int32) (x2 : Int32), x1.toInt = (a0_n : Nat) → x2.toInt = (bs.length : Int) → x1.toInt = x2.toInt → tl_RStringLatin1_equals_9 a0_n a0_v bs (0 : Int32) 24 → R (0 : Int32)) →
  R o1
abbrev ky_660197_StringLatin1_equals : gKey := (cJ1_equals_b5fdf, 3, "java/lang/StringLatin1", (some FieldType.boolean), [], "equals", fun _ _ => True)
def pp_660197_StringLatin1_equals (D : va_G) (I : FieldType → ClassId) (P660189 : List Nat) (F660190 : Nat → va_E) (q660191 : Nat) (qs660192 : Nat) (bs660193 : List Int32) (f660194 : Nat → Int32) (n660195 : Nat) : Option Value → va_W → Nat → Nat → Prop := fun r w dc ds => ∃ (o660280 : Int32), r = some (.int o660280) ∧ w = va_pl P660189 F660190 ∧ dc ≤ 0 ∧ ds ≤ 0 ∧ gB o660280 0 1 ∧ tr_RStringLatin1_equals bs660193 f660194 n660195 o660280
set_option maxRecDepth 100000 in
set_option maxHeartbeats 4000000 in
theorem cp_660197_StringLatin1_equals (l : Launch) (hl0 : l.stackTraces = false) (D : va_G) (I : FieldType → ClassId) (P660189 : List Nat) (F660190 : Nat → va_E) (q660191 : Nat) (qs660192 : Nat) (bs660193 : List Int32) (f660194 : Nat → Int32) (n660195 : Nat) (hmq660191 : q660191 ∈ P660189) (heq660191 : F660190 q660191 = .inl (I .byte, n660195, .inl f660194)) (hbs660193 : ∀ A s H, (gV D I).2.2.2.1 A s H → va_T .byte qs660192 bs660193.length (fun j => .int (bs660193.getD j 0)) A s H) (nbs660193 : (bs660193.length : Int) ≤ 65535) (lbs660193 : gLB bs660193) (bf660194 : gF f660194 (-128) 127) (x660196 : ((n660195 : Int) ≤ 16777216)) : CtA (gV D I) l yJ1_equals_b5fdf cJ1_equals_b5fdf 3 (some FieldType.boolean) 0 0 0 0 [.ref q660191, .ref qs660192] (va_pl P660189 F660190) (pp_660197_StringLatin1_equals D I P660189 F660190 q660191 qs660192 bs660193 f660194 n660195) gNA := by
  refine CtA_ofF hl0 (by decide +kernel) (Nat.le_of_ble_eq_true rfl) ?_
  refine G_aload_n 0 dr_cJ1_equals_b5fdf_0 rfl ?_
  refine Gp_alen (Int32.ofNat n660195) 1 hmq660191 heq660191 dr_cJ1_equals_b5fdf_1 rfl rfl (G_nam fun z660198 hz660198 => ?_)
  have ez660198 : z660198.toInt = (n660195 : Nat) := gI_ofM hz660198 (by omega)
  have bz660198 : gB z660198 0 16777216 := ⟨by omega, by omega⟩
  refine G_aload_n 1 dr_cJ1_equals_b5fdf_2 rfl ?_
  refine G_klen dr_cJ1_equals_b5fdf_3 hbs660193 (G_nam fun z660199 hz660199 => ?_)
  have ez660199 : z660199.toInt = (bs660193.length : Int) := gI_ofN hz660199 nbs660193
  have bz660199 : gB z660199 0 65535 := ⟨by omega, by omega⟩
  refine G_icmp_ne 34 dr_cJ1_equals_b5fdf_4 (by decide +kernel) (fun hc660200 => ?_) (fun hc660200 => ?_)
  · have r660201 : z660198.toInt ≠ z660199.toInt := gC_ne hc660200
    refine G_iconst 0 dr_cJ1_equals_b5fdf_34 (by decide +kernel) ?_
    exact G_zretA FieldType.boolean dr_cJ1_equals_b5fdf_35 rfl rfl (Nat.le_of_ble_eq_true rfl) (Nat.le_of_ble_eq_true rfl) ⟨0, rfl, rfl, (Nat.le_of_ble_eq_true rfl), (Nat.le_of_ble_eq_true rfl), (gB_w (gBl (show Int32.toInt 0 = 0 by decide)) (by decide) (by decide)), (fun R c1 c2 c3 => c1 z660198 z660199 ez660198 ez660199 r660201)⟩
  · have r660202 : z660198.toInt = z660199.toInt := gC_eq hc660200
    have bz660198' : gB z660198 0 65535 := ⟨by omega, by omega⟩
    refine G_iconst 0 dr_cJ1_equals_b5fdf_7 (by decide +kernel) ?_
    refine G_istore_n (L' := [(2, .int 0), (0, .ref q660191), (1, .ref qs660192)]) dr_cJ1_equals_b5fdf_8 (Nat.le_of_ble_eq_true rfl) rfl ?_
    have hlp9_660267 : ∀ (n9_660267 : Nat) (g660267 : Int32), gB g660267 0 16777216 → (∀ (k : Nat), tl_RStringLatin1_equals_9 n660195 f660194 bs660193 g660267 k → tl_RStringLatin1_equals_9 n660195 f660194 bs660193 (0 : Int32) k) → ((16777217 : Int) - g660267.toInt).toNat < n9_660267 → G (gV D I) l (gRm 0 0 0 0) (gMA (gV D I) (pp_660197_StringLatin1_equals D I P660189 F660190 q660191 qs660192 bs660193 f660194 n660195) gNA 0 0) ky_660197_StringLatin1_equals 9 [(2, .int g660267), (0, .ref q660191), (1, .ref qs660192)] [] (va_pl P660189 F660190) 0 0 := by
      intro n9_660267
      induction n9_660267 with
      | zero => intro g660267 bg660267 kt9_660267 hm9_660267; exact absurd hm9_660267 (Nat.not_lt_zero _)
      | succ n9_660267 ih9_660267 =>
        intro g660267 bg660267 kt9_660267 hm9_660267
        refine G_iload_n 0 dr_cJ1_equals_b5fdf_9 rfl ?_
        refine G_aload_n 1 dr_cJ1_equals_b5fdf_10 rfl ?_
        refine Gp_alen (Int32.ofNat n660195) 1 hmq660191 heq660191 dr_cJ1_equals_b5fdf_11 rfl rfl (G_nam fun z660268 hz660268 => ?_)
        have ez660268 : z660268.toInt = (n660195 : Nat) := gI_ofM hz660268 (by omega)
        have bz660268 : gB z660268 0 16777216 := ⟨by omega, by omega⟩
        refine G_icmp_ge 32 dr_cJ1_equals_b5fdf_12 (by decide +kernel) (fun hc660269 => ?_) (fun hc660269 => ?_)
        · have r660270 : z660268.toInt ≤ g660267.toInt := gC_le hc660269
          have hx660271 : tl_RStringLatin1_equals_9 n660195 f660194 bs660193 (0 : Int32) 32 := kt9_660267 32 (fun R c1 c2 c3 => c1 g660267 z660268 bg660267 ez660268 r660270)
          refine G_iconst 1 dr_cJ1_equals_b5fdf_32 (by decide +kernel) ?_
          exact G_zretA FieldType.boolean dr_cJ1_equals_b5fdf_33 rfl rfl (Nat.le_of_ble_eq_true rfl) (Nat.le_of_ble_eq_true rfl) ⟨1, rfl, rfl, (Nat.le_of_ble_eq_true rfl), (Nat.le_of_ble_eq_true rfl), (gB_w (gBl (show Int32.toInt 1 = 1 by decide)) (by decide) (by decide)), (fun R c1 c2 c3 => c2 z660198 z660199 ez660198 ez660199 r660202 hx660271)⟩
        · have r660272 : g660267.toInt < z660268.toInt := gC_nle hc660269
          have bg660267' : gB g660267 0 16777215 := ⟨by omega, by omega⟩
          have bz660268' : gB z660268 1 16777216 := ⟨by omega, by omega⟩
          refine G_aload_n 1 dr_cJ1_equals_b5fdf_15 rfl ?_
          refine G_iload_n 0 dr_cJ1_equals_b5fdf_16 rfl ?_
          refine Gp_bald 1 hmq660191 heq660191 dr_cJ1_equals_b5fdf_17 rfl (gB_inr (by omega) (by omega)) (G_nam fun z660273 hz660273 => ?_)
          have bz660273 : gB z660273 (-128) 127 := by rw [hz660273]; exact bf660194 _
          refine G_aload_n 2 dr_cJ1_equals_b5fdf_18 rfl ?_
          refine G_iload_n 0 dr_cJ1_equals_b5fdf_19 rfl ?_
          refine G_kbald (f := fun j => bs660193.getD j 0) dr_cJ1_equals_b5fdf_20 hbs660193 (gB_inr (by omega) (by omega)) (G_nam fun z660274 hz660274 => ?_)
          have bz660274 : gB z660274 (-2147483648) 2147483647 := gB_any z660274
          refine G_icmp_eq 26 dr_cJ1_equals_b5fdf_21 (by decide +kernel) (fun hc660275 => ?_) (fun hc660275 => ?_)
          · have r660276 : z660273.toInt = z660274.toInt := gC_eq hc660275
            have bz660274' : gB z660274 (-128) 127 := ⟨by omega, by omega⟩
            obtain ⟨z660277, hz660277⟩ : ∃ z : Int32, z = g660267 + Int32.ofInt 1 := ⟨_, rfl⟩
            have ez660277 : z660277.toInt = g660267.toInt + 1 := gI_inc hz660277 (by decide) bg660267' (by decide) (by decide)
            have bz660277 : gB z660277 1 16777216 := ⟨by omega, by omega⟩
            refine G_iinc (L' := [(2, .int z660277), (0, .ref q660191), (1, .ref qs660192)]) z660277 0 dr_cJ1_equals_b5fdf_26 rfl hz660277.symm (Nat.le_of_ble_eq_true rfl) rfl ?_
            refine G_goto 9 dr_cJ1_equals_b5fdf_29 (by decide +kernel) ?_
            exact ih9_660267 z660277 (gB_w bz660277 (by decide) (by decide)) (fun k ht => kt9_660267 k (fun R c1 c2 c3 => c2 g660267 z660268 z660273 z660274 z660277 k bg660267 ez660268 r660272 hz660273 bz660273 hz660274 r660276 ez660277 (ht R c1 c2 c3))) (by omega)
          · have r660278 : z660273.toInt ≠ z660274.toInt := gC_ne hc660275
            have hx660279 : tl_RStringLatin1_equals_9 n660195 f660194 bs660193 (0 : Int32) 24 := kt9_660267 24 (fun R c1 c2 c3 => c3 g660267 z660268 z660273 z660274 bg660267 ez660268 r660272 hz660273 bz660273 hz660274 r660278)
            refine G_iconst 0 dr_cJ1_equals_b5fdf_24 (by decide +kernel) ?_
            exact G_zretA FieldType.boolean dr_cJ1_equals_b5fdf_25 rfl rfl (Nat.le_of_ble_eq_true rfl) (Nat.le_of_ble_eq_true rfl) ⟨0, rfl, rfl, (Nat.le_of_ble_eq_true rfl), (Nat.le_of_ble_eq_true rfl), (gB_w (gBl (show Int32.toInt 0 = 0 by decide)) (by decide) (by decide)), (fun R c1 c2 c3 => c3 z660198 z660199 ez660198 ez660199 r660202 hx660279)⟩
    exact hlp9_660267 (((16777217 : Int) - 0).toNat + 1) 0 (gB_w (gBl (show Int32.toInt 0 = 0 by decide)) (by decide) (by decide)) (fun k ht => ht) (Nat.lt_succ_self _)
/- tr_RString_equals: result -/
def tr_RString_equals (bs : List Int32) (a0_value_v : Nat → Int32) (a0_value_n : Nat) (o1 : Int32) : Prop := ∀ R : (Int32) → Prop,
  (∀ (x1 : Int32), gB x1 0 1 → tr_RStringLatin1_equals bs a0_value_v a0_value_n x1 → x1.toInt = 0 → R (0 : Int32)) →
  (∀ (x1 : Int32), gB x1 0 1 → tr_RStringLatin1_equals bs a0_value_v a0_value_n x1 → x1.toInt ≠ 0 → R (1 : Int32)) →
  R o1
abbrev ky_660187_String_equals : gKey := (cJ0_equals_9ea2d, 3, "java/lang/String", (some FieldType.boolean), [], "equals", fun _ _ => True)
def pp_660187_String_equals (D : va_G) (I : FieldType → ClassId) (P660175 : List Nat) (F660176 : Nat → va_E) (q660177 : Nat) (q660178 : Nat) (qs660179 : Nat) (qb660180 : Nat) (bs660181 : List Int32) (p660182 : Int32) (p660183 : Int32) (f660184 : Nat → Int32) (n660185 : Nat) : Option Value → va_W → Nat → Nat → Prop := fun r w dc ds => (∃ (o660286 : Int32), r = some (.int 0) ∧ w = va_pl P660175 F660176 ∧ dc ≤ 0 ∧ ds ≤ 0 ∧ o660286.toInt = 0 ∧ gB o660286 0 0 ∧ tr_RString_equals bs660181 f660184 n660185 (0 : Int32)) ∨ (∃ (o660286 : Int32), r = some (.int 1) ∧ w = va_pl P660175 F660176 ∧ dc ≤ 0 ∧ ds ≤ 0 ∧ o660286.toInt ≠ 0 ∧ gB o660286 1 1 ∧ tr_RString_equals bs660181 f660184 n660185 (1 : Int32))
set_option maxRecDepth 100000 in
set_option maxHeartbeats 4000000 in
theorem cp_660187_String_equals (l : Launch) (hl0 : l.stackTraces = false) (D : va_G) (I : FieldType → ClassId) (P660175 : List Nat) (F660176 : Nat → va_E) (q660177 : Nat) (q660178 : Nat) (qs660179 : Nat) (qb660180 : Nat) (bs660181 : List Int32) (p660182 : Int32) (p660183 : Int32) (f660184 : Nat → Int32) (n660185 : Nat) (hmq660177 : q660177 ∈ P660175) (hmq660178 : q660178 ∈ P660175) (heq660177 : F660176 q660177 = .inr (0, [.ref q660178, .int 0, .int p660182, .int p660183])) (heq660178 : F660176 q660178 = .inl (I .byte, n660185, .inl f660184)) (hbs660181 : ∀ A s H, (gV D I).2.2.2.1 A s H → gSC qs660179 qb660180 bs660181 A s H) (nbs660181 : (bs660181.length : Int) ≤ 65535) (lbs660181 : gLB bs660181) (bp660183 : gB p660183 0 1) (bf660184 : gF f660184 (-128) 127) (x660186 : ((n660185 : Int) ≤ 16777216)) : CtA (gV D I) l yJ0_equals_9ea2d cJ0_equals_9ea2d 3 (some FieldType.boolean) 1 22 0 0 [.ref q660177, .ref qs660179] (va_pl P660175 F660176) (pp_660187_String_equals D I P660175 F660176 q660177 q660178 qs660179 qb660180 bs660181 p660182 p660183 f660184 n660185) gNA := by
  refine CtA_ofF hl0 (by decide +kernel) (Nat.le_of_ble_eq_true rfl) ?_
  have bp660182 := gB_any p660182
  refine G_aload_n 0 dr_cJ0_equals_9ea2d_0 rfl ?_
  refine G_aload_n 1 dr_cJ0_equals_9ea2d_1 rfl ?_
  refine G_pkne0 hmq660177 (fun _ _ _ h => (hbs660181 _ _ _ h).2.1) (fun hne660188 => ?_)
  refine G_acmp_ne 7 dr_cJ0_equals_9ea2d_2 (by decide +kernel) (fun _ => ?_) (fun hc => absurd hc hne660188)
  refine G_aload_n 1 dr_cJ0_equals_9ea2d_7 rfl ?_
  refine G_instK dr_cJ0_equals_9ea2d_8 wr_9_149 wr_8_71 (fun _ _ _ h => (hbs660181 _ _ _ h).1) ?_
  refine G_if_eq 54 dr_cJ0_equals_9ea2d_11 (by decide +kernel) (fun hc => absurd hc (by decide)) (fun _ => ?_)
  refine G_aload_n 1 dr_cJ0_equals_9ea2d_14 rfl ?_
  refine G_casK dr_cJ0_equals_9ea2d_15 wr_9_149 wr_8_71 (fun _ _ _ h => (hbs660181 _ _ _ h).1) ?_
  refine G_astore_n (L' := [(2, .ref qs660179), (0, .ref q660177), (1, .ref qs660179)]) dr_cJ0_equals_9ea2d_18 (Nat.le_of_ble_eq_true rfl) rfl ?_
  refine G_gets dr_cJ0_equals_9ea2d_19 wr_3_65 gz_cs (fun x hx => ?_)
  subst hx
  refine G_if_eq 36 dr_cJ0_equals_9ea2d_22 (by decide +kernel) (fun hc => absurd hc (by decide)) (fun _ => ?_)
  refine G_aload_n 1 dr_cJ0_equals_9ea2d_25 rfl ?_
  refine Gp_get 1 hmq660177 heq660177 dr_cJ0_equals_9ea2d_26 (gk_J0 D I) (Nat.le_of_ble_eq_true rfl) wr_8_183 rfl ?_
  refine G_aload_n 0 dr_cJ0_equals_9ea2d_29 rfl ?_
  refine G_kget dr_cJ0_equals_9ea2d_30 wr_8_183 (fun _ _ _ h => (hbs660181 _ _ _ h).2.1) ?_
  refine G_icmp_ne 54 dr_cJ0_equals_9ea2d_33 (by decide +kernel) (fun hc => absurd hc (by decide)) (fun _ => ?_)
  refine G_aload_n 1 dr_cJ0_equals_9ea2d_36 rfl ?_
  refine Gp_get 0 hmq660177 heq660177 dr_cJ0_equals_9ea2d_37 (gk_J0 D I) (Nat.le_of_ble_eq_true rfl) wr_8_182 rfl ?_
  refine G_aload_n 0 dr_cJ0_equals_9ea2d_40 rfl ?_
  refine G_kget dr_cJ0_equals_9ea2d_41 wr_8_182 (fun _ _ _ h => (hbs660181 _ _ _ h).2.2.1) ?_
  refine Gw_callS (As := [.ref q660178, .ref qb660180]) (gV_ok D I) (cp_660197_StringLatin1_equals l hl0 D I P660175 F660176 q660178 qb660180 bs660181 f660184 n660185 hmq660178 heq660178 (fun _ _ _ h => (hbs660181 _ _ _ h).2.2.2) (by omega) lbs660181 bf660184 (by have qa0 : Int32.toInt 0 = 0 := (by decide); omega)) dr_cJ0_equals_9ea2d_44 ⟨wr_9_150, wr_1_28, wr_9_152, by decide, rfl, (Nat.le_of_ble_eq_true rfl), (Nat.le_of_ble_eq_true rfl)⟩ wr_9_151 (show 0 + 0 ≤ 0 by first | omega | decide) (show 0 + 0 ≤ 0 by first | omega | decide) (Nat.le_of_ble_eq_true rfl) (fun r660284 w660285 dc660281 ds660282 hp660283 => ?_) (fun _ _ _ _ _ z => z.elim)
  obtain ⟨o660286, rfl, rfl, hdc, hds, bo660286, ht660287⟩ := hp660283
  change G _ _ _ _ _ _ _ (.int o660286 :: _) _ _ _
  refine G_widen (cs' := 0) (sl' := 0) (by omega) (by omega) ?_
  refine G_if_eq 54 dr_cJ0_equals_9ea2d_47 (by decide +kernel) (fun hc660288 => ?_) (fun hc660288 => ?_)
  · have r660289 : o660286.toInt = 0 := gj_eq hc660288 (show Int32.toInt 0 = 0 by decide)
    have bo660286' : gB o660286 0 0 := ⟨by omega, by omega⟩
    refine G_iconst 0 dr_cJ0_equals_9ea2d_54 (by decide +kernel) ?_
    exact G_zretA FieldType.boolean dr_cJ0_equals_9ea2d_55 rfl rfl (Nat.le_of_ble_eq_true rfl) (Nat.le_of_ble_eq_true rfl) (Or.inl ⟨o660286, rfl, rfl, (Nat.le_of_ble_eq_true rfl), (Nat.le_of_ble_eq_true rfl), r660289, bo660286', (fun R c1 c2 => c1 o660286 bo660286 ht660287 r660289)⟩)
  · have r660290 : o660286.toInt ≠ 0 := gj_neq hc660288 (show Int32.toInt 0 = 0 by decide)
    have bo660286' : gB o660286 1 1 := ⟨by omega, by omega⟩
    refine G_iconst 1 dr_cJ0_equals_9ea2d_50 (by decide +kernel) ?_
    refine G_goto 55 dr_cJ0_equals_9ea2d_51 (by decide +kernel) ?_
    exact G_zretA FieldType.boolean dr_cJ0_equals_9ea2d_55 rfl rfl (Nat.le_of_ble_eq_true rfl) (Nat.le_of_ble_eq_true rfl) (Or.inr (⟨o660286, rfl, rfl, (Nat.le_of_ble_eq_true rfl), (Nat.le_of_ble_eq_true rfl), r660290, bo660286', (fun R c1 c2 => c2 o660286 bo660286 ht660287 r660290)⟩))
