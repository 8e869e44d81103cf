theorem dr_cJ5_getValue_6d5f1_0 : decode cJ5_getValue_6d5f1 0 = .ok (.aload_n 0, 1) := by decide +kernel
theorem dr_cJ5_getValue_6d5f1_1 : decode cJ5_getValue_6d5f1 1 = .ok (.getfield 15, 3) := by decide +kernel
theorem dr_cJ5_getValue_6d5f1_4 : decode cJ5_getValue_6d5f1 4 = .ok (.areturn, 1) := by decide +kernel
theorem dr_cJ7_checkLength_df160_0 : decode cJ7_checkLength_df160 0 = .ok (.iload_n 1, 1) := by decide +kernel
theorem dr_cJ7_checkLength_df160_1 : decode cJ7_checkLength_df160 1 = .ok (.iload_n 0, 1) := by decide +kernel
theorem dr_cJ7_checkLength_df160_2 : decode cJ7_checkLength_df160 2 = .ok (.if_icmp .ge 35, 3) := by decide +kernel
theorem dr_cJ7_checkLength_df160_37 : decode cJ7_checkLength_df160 37 = .ok (.return_, 1) := by decide +kernel
theorem dr_cJ7_copyOfRangeByte_39247_0 : decode cJ7_copyOfRangeByte_39247 0 = .ok (.iload_n 1, 1) := by decide +kernel
theorem dr_cJ7_copyOfRangeByte_39247_1 : decode cJ7_copyOfRangeByte_39247 1 = .ok (.iload_n 2, 1) := by decide +kernel
theorem dr_cJ7_copyOfRangeByte_39247_2 : decode cJ7_copyOfRangeByte_39247 2 = .ok (.invokestatic 343, 3) := by decide +kernel
theorem wr_8_99 : (Jvm.Cond.methodLink "java/util/Arrays" (343 : Nat) ({ cls := "java/util/Arrays", name := "checkLength", desc := "(II)V" } : Jvm.MethodName)) ∈ gw := gw_8 99 rfl rfl
theorem wr_8_101 : (Jvm.Cond.code ({ cls := "java/util/Arrays", name := "checkLength", desc := "(II)V" } : Jvm.MethodName) prog_44_method_131_code (2 : Nat) (Option.none : Option Jvm.ClassFile.FieldType)) ∈ gw := gw_8 101 rfl rfl
theorem wr_8_100 : (Jvm.Cond.static ({ cls := "java/util/Arrays", name := "checkLength", desc := "(II)V" } : Jvm.MethodName)) ∈ gw := gw_8 100 rfl rfl
theorem dr_cJ7_copyOfRangeByte_39247_5 : decode cJ7_copyOfRangeByte_39247 5 = .ok (.iload_n 2, 1) := by decide +kernel
theorem dr_cJ7_copyOfRangeByte_39247_6 : decode cJ7_copyOfRangeByte_39247 6 = .ok (.iload_n 1, 1) := by decide +kernel
theorem dr_cJ7_copyOfRangeByte_39247_7 : decode cJ7_copyOfRangeByte_39247 7 = .ok (.isub, 1) := by decide +kernel
theorem dr_cJ7_copyOfRangeByte_39247_8 : decode cJ7_copyOfRangeByte_39247 8 = .ok (.istore_n 3, 1) := by decide +kernel
theorem dr_cJ7_copyOfRangeByte_39247_9 : decode cJ7_copyOfRangeByte_39247 9 = .ok (.iload_n 3, 1) := by decide +kernel
theorem dr_cJ7_copyOfRangeByte_39247_10 : decode cJ7_copyOfRangeByte_39247 10 = .ok (.newarray .byte, 2) := by decide +kernel
theorem dr_cJ7_copyOfRangeByte_39247_12 : decode cJ7_copyOfRangeByte_39247 12 = .ok (.astore 4, 2) := by decide +kernel
theorem dr_cJ7_copyOfRangeByte_39247_14 : decode cJ7_copyOfRangeByte_39247 14 = .ok (.aload_n 0, 1) := by decide +kernel
theorem dr_cJ7_copyOfRangeByte_39247_15 : decode cJ7_copyOfRangeByte_39247 15 = .ok (.iload_n 1, 1) := by decide +kernel
theorem dr_cJ7_copyOfRangeByte_39247_16 : decode cJ7_copyOfRangeByte_39247 16 = .ok (.aload 4, 2) := by decide +kernel
theorem dr_cJ7_copyOfRangeByte_39247_18 : decode cJ7_copyOfRangeByte_39247 18 = .ok (.iconst 0, 1) := by decide +kernel
theorem dr_cJ7_copyOfRangeByte_39247_19 : decode cJ7_copyOfRangeByte_39247 19 = .ok (.aload_n 0, 1) := by decide +kernel
theorem dr_cJ7_copyOfRangeByte_39247_20 : decode cJ7_copyOfRangeByte_39247 20 = .ok (.arraylength, 1) := by decide +kernel
theorem dr_cJ7_copyOfRangeByte_39247_21 : decode cJ7_copyOfRangeByte_39247 21 = .ok (.iload_n 1, 1) := by decide +kernel
theorem dr_cJ7_copyOfRangeByte_39247_22 : decode cJ7_copyOfRangeByte_39247 22 = .ok (.isub, 1) := by decide +kernel
theorem dr_cJ7_copyOfRangeByte_39247_23 : decode cJ7_copyOfRangeByte_39247 23 = .ok (.iload_n 3, 1) := by decide +kernel
theorem dr_cJ7_copyOfRangeByte_39247_24 : decode cJ7_copyOfRangeByte_39247 24 = .ok (.invokestatic 304, 3) := by decide +kernel
theorem dr_cJ7_copyOfRangeByte_39247_27 : decode cJ7_copyOfRangeByte_39247 27 = .ok (.invokestatic 150, 3) := by decide +kernel
theorem dr_cJ7_copyOfRangeByte_39247_30 : decode cJ7_copyOfRangeByte_39247 30 = .ok (.aload 4, 2) := by decide +kernel
theorem dr_cJ7_copyOfRangeByte_39247_32 : decode cJ7_copyOfRangeByte_39247 32 = .ok (.areturn, 1) := by decide +kernel
theorem dr_cJ7_copyOfRange_39247_0 : decode cJ7_copyOfRange_39247 0 = .ok (.iload_n 1, 1) := by decide +kernel
theorem dr_cJ7_copyOfRange_39247_1 : decode cJ7_copyOfRange_39247 1 = .ok (.ifCond .ne 9, 3) := by decide +kernel
theorem dr_cJ7_copyOfRange_39247_4 : decode cJ7_copyOfRange_39247 4 = .ok (.iload_n 2, 1) := by decide +kernel
theorem dr_cJ7_copyOfRange_39247_5 : decode cJ7_copyOfRange_39247 5 = .ok (.aload_n 0, 1) := by decide +kernel
theorem dr_cJ7_copyOfRange_39247_6 : decode cJ7_copyOfRange_39247 6 = .ok (.arraylength, 1) := by decide +kernel
theorem dr_cJ7_copyOfRange_39247_7 : decode cJ7_copyOfRange_39247 7 = .ok (.if_icmp .eq 10, 3) := by decide +kernel
theorem dr_cJ7_copyOfRange_39247_17 : decode cJ7_copyOfRange_39247 17 = .ok (.aload_n 0, 1) := by decide +kernel
theorem dr_cJ7_copyOfRange_39247_18 : decode cJ7_copyOfRange_39247 18 = .ok (.invokevirtual 310, 3) := by decide +kernel
theorem wr_8_24 : (Jvm.Cond.methodLink "java/util/Arrays" (310 : Nat) ({ cls := "[B", name := "clone", desc := "()Ljava/lang/Object;" } : Jvm.MethodName)) ∈ gw := gw_8 24 rfl rfl
theorem wr_8_25 : (Jvm.Cond.sameMethod "[B" "java/lang/Object" "clone" "()Ljava/lang/Object;") ∈ gw := gw_8 25 rfl rfl
theorem wr_8_26 : (Jvm.Cond.native ({ cls := "java/lang/Object", name := "clone", desc := "()Ljava/lang/Object;" } : Jvm.MethodName)) ∈ gw := gw_8 26 rfl rfl
theorem wr_8_27 : (Jvm.Cond.instanceMethod ({ cls := "java/lang/Object", name := "clone", desc := "()Ljava/lang/Object;" } : Jvm.MethodName)) ∈ gw := gw_8 27 rfl rfl
theorem wr_8_28 : (Jvm.Cond.selects "[B" ({ cls := "[B", name := "clone", desc := "()Ljava/lang/Object;" } : Jvm.MethodName) ({ cls := "java/lang/Object", name := "clone", desc := "()Ljava/lang/Object;" } : Jvm.MethodName)) ∈ gw := gw_8 28 rfl rfl
theorem dr_cJ7_copyOfRange_39247_21 : decode cJ7_copyOfRange_39247 21 = .ok (.checkcast 311, 3) := by decide +kernel
theorem wr_8_30 : (Jvm.Cond.classLink "java/util/Arrays" (311 : Nat) "[B") ∈ gw := gw_8 30 rfl rfl
theorem dr_cJ7_copyOfRange_39247_24 : decode cJ7_copyOfRange_39247 24 = .ok (.areturn, 1) := by decide +kernel
theorem dr_cJ7_copyOfRange_39247_10 : decode cJ7_copyOfRange_39247 10 = .ok (.aload_n 0, 1) := by decide +kernel
theorem dr_cJ7_copyOfRange_39247_11 : decode cJ7_copyOfRange_39247 11 = .ok (.iload_n 1, 1) := by decide +kernel
theorem dr_cJ7_copyOfRange_39247_12 : decode cJ7_copyOfRange_39247 12 = .ok (.iload_n 2, 1) := by decide +kernel
theorem dr_cJ7_copyOfRange_39247_13 : decode cJ7_copyOfRange_39247 13 = .ok (.invokestatic 339, 3) := by decide +kernel
theorem wr_8_96 : (Jvm.Cond.methodLink "java/util/Arrays" (339 : Nat) ({ cls := "java/util/Arrays", name := "copyOfRangeByte", desc := "([BII)[B" } : Jvm.MethodName)) ∈ gw := gw_8 96 rfl rfl
theorem wr_8_98 : (Jvm.Cond.code ({ cls := "java/util/Arrays", name := "copyOfRangeByte", desc := "([BII)[B" } : Jvm.MethodName) prog_44_method_133_code (5 : Nat) (Option.some (Jvm.ClassFile.FieldType.array Jvm.ClassFile.FieldType.byte))) ∈ gw := gw_8 98 rfl rfl
theorem wr_8_97 : (Jvm.Cond.static ({ cls := "java/util/Arrays", name := "copyOfRangeByte", desc := "([BII)[B" } : Jvm.MethodName)) ∈ gw := gw_8 97 rfl rfl
theorem dr_cJ7_copyOfRange_39247_16 : decode cJ7_copyOfRange_39247 16 = .ok (.areturn, 1) := by decide +kernel
theorem dr_cJ0_init_db425_0 : decode cJ0_init_db425 0 = .ok (.aload_n 0, 1) := by decide +kernel
theorem dr_cJ0_init_db425_1 : decode cJ0_init_db425 1 = .ok (.invokespecial 1, 3) := by decide +kernel
theorem wr_8_78 : (Jvm.Cond.methodLink "java/lang/String" (1 : Nat) ({ cls := "java/lang/Object", name := "<init>", desc := "()V" } : Jvm.MethodName)) ∈ gw := gw_8 78 rfl rfl
theorem dr_cJ0_init_db425_4 : decode cJ0_init_db425 4 = .ok (.aload_n 1, 1) := by decide +kernel
theorem dr_cJ0_init_db425_5 : decode cJ0_init_db425 5 = .ok (.invokevirtual 552, 3) := by decide +kernel
theorem wr_8_79 : (Jvm.Cond.methodLink "java/lang/String" (552 : Nat) ({ cls := "java/lang/AbstractStringBuilder", name := "getValue", desc := "()[B" } : Jvm.MethodName)) ∈ gw := gw_8 79 rfl rfl
theorem wr_8_83 : (Jvm.Cond.code ({ cls := "java/lang/AbstractStringBuilder", name := "getValue", desc := "()[B" } : Jvm.MethodName) prog_21_method_64_code (1 : Nat) (Option.some (Jvm.ClassFile.FieldType.array Jvm.ClassFile.FieldType.byte))) ∈ gw := gw_8 83 rfl rfl
theorem wr_8_80 : (Jvm.Cond.instanceMethod ({ cls := "java/lang/AbstractStringBuilder", name := "getValue", desc := "()[B" } : Jvm.MethodName)) ∈ gw := gw_8 80 rfl rfl
theorem wr_8_82 : (Jvm.Cond.selects "java/lang/StringBuilder" ({ cls := "java/lang/AbstractStringBuilder", name := "getValue", desc := "()[B" } : Jvm.MethodName) ({ cls := "java/lang/AbstractStringBuilder", name := "getValue", desc := "()[B" } : Jvm.MethodName)) ∈ gw := gw_8 82 rfl rfl
theorem dr_cJ0_init_db425_8 : decode cJ0_init_db425 8 = .ok (.astore_n 3, 1) := by decide +kernel
theorem dr_cJ0_init_db425_9 : decode cJ0_init_db425 9 = .ok (.aload_n 1, 1) := by decide +kernel
theorem dr_cJ0_init_db425_10 : decode cJ0_init_db425 10 = .ok (.invokevirtual 549, 3) := by decide +kernel
theorem wr_8_84 : (Jvm.Cond.methodLink "java/lang/String" (549 : Nat) ({ cls := "java/lang/AbstractStringBuilder", name := "length", desc := "()I" } : Jvm.MethodName)) ∈ gw := gw_8 84 rfl rfl
theorem wr_8_87 : (Jvm.Cond.selects "java/lang/StringBuilder" ({ cls := "java/lang/AbstractStringBuilder", name := "length", desc := "()I" } : Jvm.MethodName) ({ cls := "java/lang/StringBuilder", name := "length", desc := "()I" } : Jvm.MethodName)) ∈ gw := gw_8 87 rfl rfl
theorem wr_8_88 : (Jvm.Cond.instanceMethod ({ cls := "java/lang/StringBuilder", name := "length", desc := "()I" } : Jvm.MethodName)) ∈ gw := gw_8 88 rfl rfl
theorem wr_1_20 : (Jvm.Cond.initialized "java/lang/StringBuilder") ∈ gw := gw_1 20 rfl rfl
theorem wr_8_89 : (Jvm.Cond.code ({ cls := "java/lang/StringBuilder", name := "length", desc := "()I" } : Jvm.MethodName) prog_35_method_93_code (1 : Nat) (Option.some Jvm.ClassFile.FieldType.int)) ∈ gw := gw_8 89 rfl rfl
theorem dr_cJ0_init_db425_13 : decode cJ0_init_db425 13 = .ok (.istore 4, 2) := by decide +kernel
theorem dr_cJ0_init_db425_15 : decode cJ0_init_db425 15 = .ok (.aload_n 1, 1) := by decide +kernel
theorem dr_cJ0_init_db425_16 : decode cJ0_init_db425 16 = .ok (.invokevirtual 1047, 3) := by decide +kernel
theorem wr_8_92 : (Jvm.Cond.methodLink "java/lang/String" (1047 : Nat) ({ cls := "java/lang/AbstractStringBuilder", name := "isLatin1", desc := "()Z" } : Jvm.MethodName)) ∈ gw := gw_8 92 rfl rfl
theorem dr_cJ0_init_db425_19 : decode cJ0_init_db425 19 = .ok (.ifCond .eq 22, 3) := by decide +kernel
theorem dr_cJ0_init_db425_22 : decode cJ0_init_db425 22 = .ok (.aload_n 0, 1) := by decide +kernel
theorem dr_cJ0_init_db425_23 : decode cJ0_init_db425 23 = .ok (.iconst 0, 1) := by decide +kernel
theorem dr_cJ0_init_db425_24 : decode cJ0_init_db425 24 = .ok (.putfield 15, 3) := by decide +kernel
theorem dr_cJ0_init_db425_27 : decode cJ0_init_db425 27 = .ok (.aload_n 0, 1) := by decide +kernel
theorem dr_cJ0_init_db425_28 : decode cJ0_init_db425 28 = .ok (.aload_n 3, 1) := by decide +kernel
theorem dr_cJ0_init_db425_29 : decode cJ0_init_db425 29 = .ok (.iconst 0, 1) := by decide +kernel
theorem dr_cJ0_init_db425_30 : decode cJ0_init_db425 30 = .ok (.iload 4, 2) := by decide +kernel
theorem dr_cJ0_init_db425_32 : decode cJ0_init_db425 32 = .ok (.invokestatic 54, 3) := by decide +kernel
theorem wr_8_93 : (Jvm.Cond.methodLink "java/lang/String" (54 : Nat) ({ cls := "java/util/Arrays", name := "copyOfRange", desc := "([BII)[B" } : Jvm.MethodName)) ∈ gw := gw_8 93 rfl rfl
theorem wr_8_95 : (Jvm.Cond.code ({ cls := "java/util/Arrays", name := "copyOfRange", desc := "([BII)[B" } : Jvm.MethodName) prog_44_method_132_code (3 : Nat) (Option.some (Jvm.ClassFile.FieldType.array Jvm.ClassFile.FieldType.byte))) ∈ gw := gw_8 95 rfl rfl
theorem wr_8_94 : (Jvm.Cond.static ({ cls := "java/util/Arrays", name := "copyOfRange", desc := "([BII)[B" } : Jvm.MethodName)) ∈ gw := gw_8 94 rfl rfl
theorem dr_cJ0_init_db425_35 : decode cJ0_init_db425 35 = .ok (.putfield 9, 3) := by decide +kernel
theorem dr_cJ0_init_db425_38 : decode cJ0_init_db425 38 = .ok (.goto 59, 3) := by decide +kernel
theorem dr_cJ0_init_db425_97 : decode cJ0_init_db425 97 = .ok (.return_, 1) := by decide +kernel
theorem dr_cJ0_init_81219_0 : decode cJ0_init_81219 0 = .ok (.aload_n 0, 1) := by decide +kernel
theorem dr_cJ0_init_81219_1 : decode cJ0_init_81219 1 = .ok (.aload_n 1, 1) := by decide +kernel
theorem dr_cJ0_init_81219_2 : decode cJ0_init_81219 2 = .ok (.aconst_null, 1) := by decide +kernel
theorem dr_cJ0_init_81219_3 : decode cJ0_init_81219 3 = .ok (.invokespecial 489, 3) := by decide +kernel
theorem wr_8_75 : (Jvm.Cond.methodLink "java/lang/String" (489 : Nat) ({ cls := "java/lang/String", name := "<init>", desc := "(Ljava/lang/AbstractStringBuilder;Ljava/lang/Void;)V" } : Jvm.MethodName)) ∈ gw := gw_8 75 rfl rfl
theorem wr_8_77 : (Jvm.Cond.code ({ cls := "java/lang/String", name := "<init>", desc := "(Ljava/lang/AbstractStringBuilder;Ljava/lang/Void;)V" } : Jvm.MethodName) prog_34_method_150_code (5 : Nat) (Option.none : Option Jvm.ClassFile.FieldType)) ∈ gw := gw_8 77 rfl rfl
theorem wr_8_76 : (Jvm.Cond.instanceMethod ({ cls := "java/lang/String", name := "<init>", desc := "(Ljava/lang/AbstractStringBuilder;Ljava/lang/Void;)V" } : Jvm.MethodName)) ∈ gw := gw_8 76 rfl rfl
theorem dr_cJ0_init_81219_6 : decode cJ0_init_81219 6 = .ok (.return_, 1) := by decide +kernel
theorem dr_cJ4_toString_0e30d_0 : decode cJ4_toString_0e30d 0 = .ok (.new 18, 3) := by decide +kernel
theorem wr_8_70 : (Jvm.Cond.classLink "java/lang/StringBuilder" (18 : Nat) "java/lang/String") ∈ gw := gw_8 70 rfl rfl
theorem wr_8_71 : (Jvm.Cond.instantiable "java/lang/String" (4 : Nat)) ∈ gw := gw_8 71 rfl rfl
theorem dr_cJ4_toString_0e30d_3 : decode cJ4_toString_0e30d 3 = .ok (.dup, 1) := by decide +kernel
theorem dr_cJ4_toString_0e30d_4 : decode cJ4_toString_0e30d 4 = .ok (.aload_n 0, 1) := by decide +kernel
theorem dr_cJ4_toString_0e30d_5 : decode cJ4_toString_0e30d 5 = .ok (.invokespecial 137, 3) := by decide +kernel
theorem wr_8_72 : (Jvm.Cond.methodLink "java/lang/StringBuilder" (137 : Nat) ({ cls := "java/lang/String", name := "<init>", desc := "(Ljava/lang/StringBuilder;)V" } : Jvm.MethodName)) ∈ gw := gw_8 72 rfl rfl
theorem wr_8_74 : (Jvm.Cond.code ({ cls := "java/lang/String", name := "<init>", desc := "(Ljava/lang/StringBuilder;)V" } : Jvm.MethodName) prog_34_method_53_code (2 : Nat) (Option.none : Option Jvm.ClassFile.FieldType)) ∈ gw := gw_8 74 rfl rfl
theorem wr_8_73 : (Jvm.Cond.instanceMethod ({ cls := "java/lang/String", name := "<init>", desc := "(Ljava/lang/StringBuilder;)V" } : Jvm.MethodName)) ∈ gw := gw_8 73 rfl rfl
theorem dr_cJ4_toString_0e30d_8 : decode cJ4_toString_0e30d 8 = .ok (.areturn, 1) := by decide +kernel
theorem dr_cJ1_equals_b5fdf_0 : decode cJ1_equals_b5fdf 0 = .ok (.aload_n 0, 1) := by decide +kernel
theorem dr_cJ1_equals_b5fdf_1 : decode cJ1_equals_b5fdf 1 = .ok (.arraylength, 1) := by decide +kernel
theorem dr_cJ1_equals_b5fdf_2 : decode cJ1_equals_b5fdf 2 = .ok (.aload_n 1, 1) := by decide +kernel
theorem dr_cJ1_equals_b5fdf_3 : decode cJ1_equals_b5fdf 3 = .ok (.arraylength, 1) := by decide +kernel
theorem dr_cJ1_equals_b5fdf_4 : decode cJ1_equals_b5fdf 4 = .ok (.if_icmp .ne 30, 3) := by decide +kernel
theorem dr_cJ1_equals_b5fdf_34 : decode cJ1_equals_b5fdf 34 = .ok (.iconst 0, 1) := by decide +kernel
theorem dr_cJ1_equals_b5fdf_35 : decode cJ1_equals_b5fdf 35 = .ok (.ireturn, 1) := by decide +kernel
theorem dr_cJ1_equals_b5fdf_7 : decode cJ1_equals_b5fdf 7 = .ok (.iconst 0, 1) := by decide +kernel
theorem dr_cJ1_equals_b5fdf_8 : decode cJ1_equals_b5fdf 8 = .ok (.istore_n 2, 1) := by decide +kernel
theorem dr_cJ1_equals_b5fdf_9 : decode cJ1_equals_b5fdf 9 = .ok (.iload_n 2, 1) := by decide +kernel
theorem dr_cJ1_equals_b5fdf_10 : decode cJ1_equals_b5fdf 10 = .ok (.aload_n 0, 1) := by decide +kernel
theorem dr_cJ1_equals_b5fdf_11 : decode cJ1_equals_b5fdf 11 = .ok (.arraylength, 1) := by decide +kernel
theorem dr_cJ1_equals_b5fdf_12 : decode cJ1_equals_b5fdf 12 = .ok (.if_icmp .ge 20, 3) := by decide +kernel
theorem dr_cJ1_equals_b5fdf_32 : decode cJ1_equals_b5fdf 32 = .ok (.iconst 1, 1) := by decide +kernel
theorem dr_cJ1_equals_b5fdf_33 : decode cJ1_equals_b5fdf 33 = .ok (.ireturn, 1) := by decide +kernel
theorem dr_cJ1_equals_b5fdf_15 : decode cJ1_equals_b5fdf 15 = .ok (.aload_n 0, 1) := by decide +kernel
theorem dr_cJ1_equals_b5fdf_16 : decode cJ1_equals_b5fdf 16 = .ok (.iload_n 2, 1) := by decide +kernel
theorem dr_cJ1_equals_b5fdf_17 : decode cJ1_equals_b5fdf 17 = .ok (.baload, 1) := by decide +kernel
theorem dr_cJ1_equals_b5fdf_18 : decode cJ1_equals_b5fdf 18 = .ok (.aload_n 1, 1) := by decide +kernel
theorem dr_cJ1_equals_b5fdf_19 : decode cJ1_equals_b5fdf 19 = .ok (.iload_n 2, 1) := by decide +kernel
theorem dr_cJ1_equals_b5fdf_20 : decode cJ1_equals_b5fdf 20 = .ok (.baload, 1) := by decide +kernel
theorem dr_cJ1_equals_b5fdf_21 : decode cJ1_equals_b5fdf 21 = .ok (.if_icmp .eq 5, 3) := by decide +kernel
theorem dr_cJ1_equals_b5fdf_26 : decode cJ1_equals_b5fdf 26 = .ok (.iinc 2 1, 3) := by decide +kernel
theorem dr_cJ1_equals_b5fdf_29 : decode cJ1_equals_b5fdf 29 = .ok (.goto (-20), 3) := by decide +kernel
theorem dr_cJ1_equals_b5fdf_24 : decode cJ1_equals_b5fdf 24 = .ok (.iconst 0, 1) := by decide +kernel
theorem dr_cJ1_equals_b5fdf_25 : decode cJ1_equals_b5fdf 25 = .ok (.ireturn, 1) := by decide +kernel
theorem dr_cJ0_equals_9ea2d_0 : decode cJ0_equals_9ea2d 0 = .ok (.aload_n 0, 1) := by decide +kernel
theorem dr_cJ0_equals_9ea2d_1 : decode cJ0_equals_9ea2d 1 = .ok (.aload_n 1, 1) := by decide +kernel
theorem dr_cJ0_equals_9ea2d_2 : decode cJ0_equals_9ea2d 2 = .ok (.if_acmp .ne 5, 3) := by decide +kernel
theorem dr_cJ0_equals_9ea2d_7 : decode cJ0_equals_9ea2d 7 = .ok (.aload_n 1, 1) := by decide +kernel
theorem dr_cJ0_equals_9ea2d_8 : decode cJ0_equals_9ea2d 8 = .ok (.instanceof 10, 3) := by decide +kernel
theorem wr_9_149 : (Jvm.Cond.classLink "java/lang/String" (10 : Nat) "java/lang/String") ∈ gw := gw_9 149 rfl rfl
theorem dr_cJ0_equals_9ea2d_11 : decode cJ0_equals_9ea2d 11 = .ok (.ifCond .eq 43, 3) := by decide +kernel
theorem dr_cJ0_equals_9ea2d_14 : decode cJ0_equals_9ea2d 14 = .ok (.aload_n 1, 1) := by decide +kernel
theorem dr_cJ0_equals_9ea2d_15 : decode cJ0_equals_9ea2d 15 = .ok (.checkcast 10, 3) := by decide +kernel
theorem dr_cJ0_equals_9ea2d_18 : decode cJ0_equals_9ea2d 18 = .ok (.astore_n 2, 1) := by decide +kernel
theorem dr_cJ0_equals_9ea2d_19 : decode cJ0_equals_9ea2d 19 = .ok (.getstatic 38, 3) := by decide +kernel
theorem dr_cJ0_equals_9ea2d_22 : decode cJ0_equals_9ea2d 22 = .ok (.ifCond .eq 14, 3) := by decide +kernel
theorem dr_cJ0_equals_9ea2d_25 : decode cJ0_equals_9ea2d 25 = .ok (.aload_n 0, 1) := by decide +kernel
theorem dr_cJ0_equals_9ea2d_26 : decode cJ0_equals_9ea2d 26 = .ok (.getfield 15, 3) := by decide +kernel
theorem dr_cJ0_equals_9ea2d_29 : decode cJ0_equals_9ea2d 29 = .ok (.aload_n 2, 1) := by decide +kernel
theorem dr_cJ0_equals_9ea2d_30 : decode cJ0_equals_9ea2d 30 = .ok (.getfield 15, 3) := by decide +kernel
theorem dr_cJ0_equals_9ea2d_33 : decode cJ0_equals_9ea2d 33 = .ok (.if_icmp .ne 21, 3) := by decide +kernel
theorem dr_cJ0_equals_9ea2d_36 : decode cJ0_equals_9ea2d 36 = .ok (.aload_n 0, 1) := by decide +kernel
theorem dr_cJ0_equals_9ea2d_37 : decode cJ0_equals_9ea2d 37 = .ok (.getfield 9, 3) := by decide +kernel
theorem dr_cJ0_equals_9ea2d_40 : decode cJ0_equals_9ea2d 40 = .ok (.aload_n 2, 1) := by decide +kernel
theorem dr_cJ0_equals_9ea2d_41 : decode cJ0_equals_9ea2d 41 = .ok (.getfield 9, 3) := by decide +kernel
theorem dr_cJ0_equals_9ea2d_44 : decode cJ0_equals_9ea2d 44 = .ok (.invokestatic 541, 3) := by decide +kernel
theorem wr_9_150 : (Jvm.Cond.methodLink "java/lang/String" (541 : Nat) ({ cls := "java/lang/StringLatin1", name := "equals", desc := "([B[B)Z" } : Jvm.MethodName)) ∈ gw := gw_9 150 rfl rfl
theorem wr_9_152 : (Jvm.Cond.code ({ cls := "java/lang/StringLatin1", name := "equals", desc := "([B[B)Z" } : Jvm.MethodName) prog_37_method_13_code (3 : Nat) (Option.some Jvm.ClassFile.FieldType.boolean)) ∈ gw := gw_9 152 rfl rfl
theorem wr_9_151 : (Jvm.Cond.static ({ cls := "java/lang/StringLatin1", name := "equals", desc := "([B[B)Z" } : Jvm.MethodName)) ∈ gw := gw_9 151 rfl rfl
theorem dr_cJ0_equals_9ea2d_47 : decode cJ0_equals_9ea2d 47 = .ok (.ifCond .eq 7, 3) := by decide +kernel
theorem dr_cJ0_equals_9ea2d_54 : decode cJ0_equals_9ea2d 54 = .ok (.iconst 0, 1) := by decide +kernel
theorem dr_cJ0_equals_9ea2d_55 : decode cJ0_equals_9ea2d 55 = .ok (.ireturn, 1) := by decide +kernel
theorem dr_cJ0_equals_9ea2d_50 : decode cJ0_equals_9ea2d 50 = .ok (.iconst 1, 1) := by decide +kernel
theorem dr_cJ0_equals_9ea2d_51 : decode cJ0_equals_9ea2d 51 = .ok (.goto 4, 3) := by decide +kernel
theorem dr_cJ0_equals_9ea2d_5 : decode cJ0_equals_9ea2d 5 = .ok (.iconst 1, 1) := by decide +kernel
theorem dr_cJ0_equals_9ea2d_6 : decode cJ0_equals_9ea2d 6 = .ok (.ireturn, 1) := by decide +kernel
theorem dr_cJ0_isLatin1_aae02_0 : decode cJ0_isLatin1_aae02 0 = .ok (.getstatic 38, 3) := by decide +kernel
theorem dr_cJ0_isLatin1_aae02_3 : decode cJ0_isLatin1_aae02 3 = .ok (.ifCond .eq 14, 3) := by decide +kernel
theorem dr_cJ0_isLatin1_aae02_6 : decode cJ0_isLatin1_aae02 6 = .ok (.aload_n 0, 1) := by decide +kernel
theorem dr_cJ0_isLatin1_aae02_7 : decode cJ0_isLatin1_aae02 7 = .ok (.getfield 15, 3) := by decide +kernel
theorem dr_cJ0_isLatin1_aae02_10 : decode cJ0_isLatin1_aae02 10 = .ok (.ifCond .ne 7, 3) := by decide +kernel
theorem dr_cJ0_isLatin1_aae02_13 : decode cJ0_isLatin1_aae02 13 = .ok (.iconst 1, 1) := by decide +kernel
theorem dr_cJ0_isLatin1_aae02_14 : decode cJ0_isLatin1_aae02 14 = .ok (.goto 4, 3) := by decide +kernel
theorem dr_cJ0_isLatin1_aae02_18 : decode cJ0_isLatin1_aae02 18 = .ok (.ireturn, 1) := by decide +kernel
theorem dr_cJ1_charAt_3b067_0 : decode cJ1_charAt_3b067 0 = .ok (.iload_n 1, 1) := by decide +kernel
theorem dr_cJ1_charAt_3b067_1 : decode cJ1_charAt_3b067 1 = .ok (.aload_n 0, 1) := by decide +kernel
theorem dr_cJ1_charAt_3b067_2 : decode cJ1_charAt_3b067 2 = .ok (.arraylength, 1) := by decide +kernel
theorem dr_cJ1_charAt_3b067_3 : decode cJ1_charAt_3b067 3 = .ok (.invokestatic 9, 3) := by decide +kernel
theorem wr_3_78 : (Jvm.Cond.methodLink "java/lang/StringLatin1" (9 : Nat) ({ cls := "java/lang/String", name := "checkIndex", desc := "(II)V" } : Jvm.MethodName)) ∈ gw := gw_3 78 rfl rfl
theorem dr_cJ1_charAt_3b067_6 : decode cJ1_charAt_3b067 6 = .ok (.aload_n 0, 1) := by decide +kernel
theorem dr_cJ1_charAt_3b067_7 : decode cJ1_charAt_3b067 7 = .ok (.iload_n 1, 1) := by decide +kernel
theorem dr_cJ1_charAt_3b067_8 : decode cJ1_charAt_3b067 8 = .ok (.baload, 1) := by decide +kernel
theorem dr_cJ1_charAt_3b067_9 : decode cJ1_charAt_3b067 9 = .ok (.sipush 255, 3) := by decide +kernel
theorem dr_cJ1_charAt_3b067_12 : decode cJ1_charAt_3b067 12 = .ok (.iand, 1) := by decide +kernel
theorem dr_cJ1_charAt_3b067_13 : decode cJ1_charAt_3b067 13 = .ok (.i2c, 1) := by decide +kernel
theorem dr_cJ1_charAt_3b067_14 : decode cJ1_charAt_3b067 14 = .ok (.ireturn, 1) := by decide +kernel
abbrev ky_641160_StringBuilder_append : gKey := (cJ4_append_15ec4, 2, "java/lang/StringBuilder", (some (FieldType.object "java/lang/StringBuilder")), [], "append", fun _ _ => True)
def pp_641160_StringBuilder_append (D : va_G) (I : FieldType → ClassId) (P641145 : List Nat) (F641146 : Nat → va_E) (q641147 : Nat) (q641148 : Nat) (qs641149 : Nat) (qb641150 : Nat) (bs641151 : List Int32) (p641152 : Int32) (p641153 : Int32) (f641154 : Nat → Int32) (n641155 : Nat) : Option Value → va_W → Nat → Nat → Prop := fun r w dc ds => ∃ (P641268 : List Nat) (F641269 : Nat → va_E) (o641264 : Int32) (q641265 : Nat) (n641266 : Nat) (f641267 : Nat → Int32), r = some (.ref q641147) ∧ w = va_pl P641268 F641269 ∧ rSub P641145 P641268 ∧ rFr [q641147, q641148] P641145 F641146 F641269 ∧ F641269 q641147 = .inr (1, [.ref q641265, .int 0, .int p641152, .int o641264]) ∧ F641269 q641265 = .inl (I .byte, n641266, .inl f641267) ∧ q641265 ∈ P641268 ∧ (q641265 = q641148 ∨ q641265 ∉ P641145) ∧ dc ≤ 1 ∧ ds ≤ 2 * (n641266 - n641155) ∧ gB o641264 0 16777216 ∧ gF f641267 (-128) 127 ∧ o641264.toInt = p641153.toInt + (bs641151.length : Int) ∧ o641264.toInt ≤ (n641266 : Int) ∧ (n641155 : Int) ≤ (n641266 : Int) ∧ (n641266 : Int) ≤ 2 * (n641155 : Int) + 2 + p641153.toInt + (bs641151.length : Int)
set_option maxRecDepth 100000 in
set_option maxHeartbeats 4000000 in
theorem cp_641160_StringBuilder_append (l : Launch) (hl0 : l.stackTraces = false) (D : va_G) (I : FieldType → ClassId) (P641145 : List Nat) (F641146 : Nat → va_E) (q641147 : Nat) (q641148 : Nat) (qs641149 : Nat) (qb641150 : Nat) (bs641151 : List Int32) (p641152 : Int32) (p641153 : Int32) (f641154 : Nat → Int32) (n641155 : Nat) (hmq641147 : q641147 ∈ P641145) (hmq641148 : q641148 ∈ P641145) (heq641147 : F641146 q641147 = .inr (1, [.ref q641148, .int 0, .int p641152, .int p641153])) (heq641148 : F641146 q641148 = .inl (I .byte, n641155, .inl f641154)) (hbs641151 : ∀ A s H, (gV D I).2.2.2.1 A s H → gSC qs641149 qb641150 bs641151 A s H) (nbs641151 : (bs641151.length : Int) ≤ 65535) (lbs641151 : gLB bs641151) (bp641152 : gB p641152 0 1) (bp641153 : gB p641153 0 16777216) (bf641154 : gF f641154 (-128) 127) (x641156 : (bs641151.length : Int) ≤ 65535) (x641157 : (n641155 : Int) ≤ 8388608 - 100000) (x641158 : p641153.toInt ≤ (n641155 : Int)) (x641159 : ((n641155 : Int) ≤ 16777216)) : CtA (gV D I) l yJ4_append_15ec4 cJ4_append_15ec4 2 (some (FieldType.object "java/lang/StringBuilder")) 5 106 1 (4 * n641155 + 4 + 2 * bs641151.length) [.ref q641147, .ref qs641149] (va_pl P641145 F641146) (pp_641160_StringBuilder_append D I P641145 F641146 q641147 q641148 qs641149 qb641150 bs641151 p641152 p641153 f641154 n641155) gNA := by
  refine CtA_ofF hl0 (by decide +kernel) (Nat.le_of_ble_eq_true rfl) ?_
  refine G_aload_n 0 dr_cJ4_append_15ec4_0 rfl ?_
  refine G_aload_n 1 dr_cJ4_append_15ec4_1 rfl ?_
  refine Gw_callSU (As := [.ref qs641149]) (gV_ok D I) (cp_641176_AbstractStringBuilder_append l hl0 D I P641145 F641146 q641147 q641148 qs641149 qb641150 bs641151 p641152 p641153 f641154 n641155 hmq641147 hmq641148 heq641147 heq641148 hbs641151 nbs641151 lbs641151 bp641152 bp641153 bf641154 (by have qa0 : Int32.toInt 0 = 0 := (by decide); omega) (by have qa0 : Int32.toInt 0 = 0 := (by decide); omega) (by have qa0 : Int32.toInt 0 = 0 := (by decide); omega) (by have qa0 : Int32.toInt 0 = 0 := (by decide); omega)) dr_cJ4_append_15ec4_2 ⟨wr_8_144, wr_1_19, wr_8_146, by decide, rfl, (Nat.le_of_ble_eq_true rfl), (Nat.le_of_ble_eq_true rfl)⟩ wr_8_145 wr_11_229 wr_7_73 wr_7_44 (by decide) hmq641147 heq641147 rfl (show 0 + 1 ≤ 1 by first | omega | decide) (show 0 + (4 * n641155 + 4 + 2 * bs641151.length) ≤ (4 * n641155 + 4 + 2 * bs641151.length) by first | omega | decide) (Nat.le_of_ble_eq_true rfl) (fun r641241 w641242 dc641238 ds641239 hp641240 => ?_)
  obtain ⟨P641251, F641252, o641243, q641244, n641245, f641246, rfl, rfl, hsb641253, hfr641254, he641255, he641256, hm641257, hq641258, hdc, hds, bo641243, bf641246, x641247, x641248, x641249, x641250⟩ := hp641240
  have hm641259 : q641147 ∈ P641251 := hsb641253 q641147 hmq641147
  have hm641260 : q641148 ∈ P641251 := hsb641253 q641148 hmq641148
  have hor641261 : q641244 = q641148 ∨ q641244 ∉ P641145 := hq641258.elim Or.inl (fun n => Or.inr (fun z => n ((rSub_rf (P := P641145)) _ z)))
  have hsb641262 : rSub P641145 P641251 := rSub_tr (rSub_rf (P := P641145)) hsb641253
  have hfr641263 : rFr [q641147, q641148] P641145 F641146 F641252 := rFr_call (rSub_rf (P := P641145)) (rFr_rf (W := []) (P := P641145) (F := F641146)) hfr641254 (fun b hb hn => ⟨nm_n, (nm_c (fun e => hn (e ▸ List.mem_cons_self)) (nm_c (fun e => hn (e ▸ (List.mem_cons_of_mem _ List.mem_cons_self))) nm_n))⟩)
  change G _ _ _ _ _ _ _ (.ref q641147 :: _) _ _ _
  refine G_widen (cs' := 1) (sl' := 2 * (n641245 - n641155)) (by omega) (by omega) ?_
  refine G_pop dr_cJ4_append_15ec4_5 rfl ?_
  refine G_aload_n 0 dr_cJ4_append_15ec4_6 rfl ?_
  exact G_aretA (FieldType.object "java/lang/StringBuilder") dr_cJ4_append_15ec4_7 rfl (by first | exact Or.inl ⟨_, rfl⟩ | exact Or.inr ⟨_, rfl⟩) (Or.inr ⟨_, rfl⟩) (Nat.le_of_ble_eq_true rfl) (show 2 * (n641245 - n641155) ≤ (4 * n641155 + 4 + 2 * bs641151.length) by omega) ⟨P641251, F641252, o641243, q641244, n641245, f641246, rfl, rfl, hsb641262, hfr641263, he641255, he641256, hm641257, hor641261, (Nat.le_of_ble_eq_true rfl), (by omega), bo641243, bf641246, (by have qa0 : Int32.toInt 0 = 0 := (by decide); omega), (by have qa0 : Int32.toInt 0 = 0 := (by decide); omega), (by have qa0 : Int32.toInt 0 = 0 := (by decide); omega), (by have qa0 : Int32.toInt 0 = 0 := (by decide); omega)⟩
abbrev ky_641334_AbstractStringBuilder_getValue : gKey := (cJ5_getValue_6d5f1, 1, "java/lang/AbstractStringBuilder", (some (FieldType.array FieldType.byte)), [], "getValue", fun _ _ => True)
def pp_641334_AbstractStringBuilder_getValue (D : va_G) (I : FieldType → ClassId) (P641325 : List Nat) (F641326 : Nat → va_E) (q641327 : Nat) (q641328 : Nat) (p641329 : Int32) (p641330 : Int32) (f641331 : Nat → Int32) (n641332 : Nat) : Option Value → va_W → Nat → Nat → Prop := fun r w dc ds => r = some (.ref q641328) ∧ w = va_pl P641325 F641326 ∧ dc ≤ 0 ∧ ds ≤ 0
set_option maxRecDepth 100000 in
set_option maxHeartbeats 4000000 in
theorem cp_641334_AbstractStringBuilder_getValue (l : Launch) (hl0 : l.stackTraces = false) (D : va_G) (I : FieldType → ClassId) (P641325 : List Nat) (F641326 : Nat → va_E) (q641327 : Nat) (q641328 : Nat) (p641329 : Int32) (p641330 : Int32) (f641331 : Nat → Int32) (n641332 : Nat) (hmq641327 : q641327 ∈ P641325) (hmq641328 : q641328 ∈ P641325) (heq641327 : F641326 q641327 = .inr (1, [.ref q641328, .int 0, .int p641329, .int p641330])) (heq641328 : F641326 q641328 = .inl (I .byte, n641332, .inl f641331)) (bp641329 : gB p641329 0 1) (bp641330 : gB p641330 0 16777216) (bf641331 : gF f641331 (-128) 127) (x641333 : ((n641332 : Int) ≤ 16777216)) : CtA (gV D I) l yJ5_getValue_6d5f1 cJ5_getValue_6d5f1 1 (some (FieldType.array FieldType.byte)) 0 0 0 0 [.ref q641327] (va_pl P641325 F641326) (pp_641334_AbstractStringBuilder_getValue D I P641325 F641326 q641327 q641328 p641329 p641330 f641331 n641332) gNA := by
  refine CtA_ofF hl0 (by decide +kernel) (Nat.le_of_ble_eq_true rfl) ?_
  refine G_aload_n 0 dr_cJ5_getValue_6d5f1_0 rfl ?_
  refine Gp_get 0 hmq641327 heq641327 dr_cJ5_getValue_6d5f1_1 (gk_J4 D I) (Nat.le_of_ble_eq_true rfl) wr_7_60 rfl ?_
  exact G_aretA (FieldType.array FieldType.byte) dr_cJ5_getValue_6d5f1_4 rfl (by first | exact Or.inl ⟨_, rfl⟩ | exact Or.inr ⟨_, rfl⟩) (Or.inr ⟨_, rfl⟩) (Nat.le_of_ble_eq_true rfl) (Nat.le_of_ble_eq_true rfl) ⟨rfl, rfl, (Nat.le_of_ble_eq_true rfl), (Nat.le_of_ble_eq_true rfl)⟩
abbrev ky_641396_Arrays_checkLength : gKey := (cJ7_checkLength_df160, 2, "java/util/Arrays", none, [], "checkLength", fun _ _ => True)
def pp_641396_Arrays_checkLength (D : va_G) (I : FieldType → ClassId) (P641393 : List Nat) (F641394 : Nat → va_E) (p641395 : Int32) : Option Value → va_W → Nat → Nat → Prop := fun r w dc ds => r = none ∧ w = va_pl P641393 F641394 ∧ dc ≤ 0 ∧ ds ≤ 0
set_option maxRecDepth 100000 in
set_option maxHeartbeats 4000000 in
theorem cp_641396_Arrays_checkLength (l : Launch) (hl0 : l.stackTraces = false) (D : va_G) (I : FieldType → ClassId) (P641393 : List Nat) (F641394 : Nat → va_E) (p641395 : Int32) (bp641395 : gB p641395 0 16777216) : CtA (gV D I) l yJ7_checkLength_df160 cJ7_checkLength_df160 2 none 0 0 0 0 [.int 0, .int p641395] (va_pl P641393 F641394) (pp_641396_Arrays_checkLength D I P641393 F641394 p641395) gNA := by
  refine CtA_ofF hl0 (by decide +kernel) (Nat.le_of_ble_eq_true rfl) ?_
  refine G_iload_n 1 dr_cJ7_checkLength_df160_0 rfl ?_
  refine G_iload_n 0 dr_cJ7_checkLength_df160_1 rfl ?_
  refine G_icmp_ge 37 dr_cJ7_checkLength_df160_2 (by decide +kernel) (fun _ => ?_) (fun hc => absurd (show False by have := gj_nleL hc (show Int32.toInt 0 = 0 by decide); omega) not_false)
  exact G_vretA dr_cJ7_checkLength_df160_37 rfl (Nat.le_of_ble_eq_true rfl) (Nat.le_of_ble_eq_true rfl) ⟨rfl, rfl, (Nat.le_of_ble_eq_true rfl), (Nat.le_of_ble_eq_true rfl)⟩
abbrev ky_641392_Arrays_copyOfRangeByte : gKey := (cJ7_copyOfRangeByte_39247, 5, "java/util/Arrays", (some (FieldType.array FieldType.byte)), [], "copyOfRangeByte", fun _ _ => True)
def pp_641392_Arrays_copyOfRangeByte (D : va_G) (I : FieldType → ClassId) (P641384 : List Nat) (F641385 : Nat → va_E) (q641386 : Nat) (p641387 : Int32) (f641388 : Nat → Int32) (n641389 : Nat) : Option Value → va_W → Nat → Nat → Prop := fun r w dc ds => ∃ (P641430 : List Nat) (F641431 : Nat → va_E) (q641427 : Nat) (n641428 : Nat) (f641429 : Nat → Int32), r = some (.ref q641427) ∧ w = va_pl P641430 F641431 ∧ rSub P641384 P641430 ∧ rFr [] P641384 F641385 F641431 ∧ F641431 q641386 = .inl (I .byte, n641389, .inl f641388) ∧ F641431 q641427 = .inl (I .byte, n641428, .inl f641429) ∧ q641427 ∈ P641430 ∧ q641427 ∉ P641384 ∧ dc ≤ 1 ∧ ds ≤ p641387.toInt.toNat ∧ gF f641429 (-128) 127 ∧ (n641428 : Int) = p641387.toInt ∧ sK f641388 f641429 p641387.toInt
set_option maxRecDepth 100000 in
set_option maxHeartbeats 4000000 in
theorem cp_641392_Arrays_copyOfRangeByte (l : Launch) (hl0 : l.stackTraces = false) (D : va_G) (I : FieldType → ClassId) (P641384 : List Nat) (F641385 : Nat → va_E) (q641386 : Nat) (p641387 : Int32) (f641388 : Nat → Int32) (n641389 : Nat) (hmq641386 : q641386 ∈ P641384) (heq641386 : F641385 q641386 = .inl (I .byte, n641389, .inl f641388)) (bp641387 : gB p641387 0 16777216) (bf641388 : gF f641388 (-128) 127) (x641390 : p641387.toInt ≤ (n641389 : Int)) (x641391 : ((n641389 : Int) ≤ 16777216)) : CtA (gV D I) l yJ7_copyOfRangeByte_39247 cJ7_copyOfRangeByte_39247 5 (some (FieldType.array FieldType.byte)) 1 21 1 p641387.toInt.toNat [.ref q641386, .int 0, .int p641387] (va_pl P641384 F641385) (pp_641392_Arrays_copyOfRangeByte D I P641384 F641385 q641386 p641387 f641388 n641389) gNA := by
  refine CtA_ofF hl0 (by decide +kernel) (Nat.le_of_ble_eq_true rfl) ?_
  refine G_iload_n 1 dr_cJ7_copyOfRangeByte_39247_0 rfl ?_
  refine G_iload_n 2 dr_cJ7_copyOfRangeByte_39247_1 rfl ?_
  refine Gw_callS (As := [.int 0, .int p641387]) (gV_ok D I) (cp_641396_Arrays_checkLength l hl0 D I P641384 F641385 p641387 bp641387) dr_cJ7_copyOfRangeByte_39247_2 ⟨wr_8_99, wr_1_30, wr_8_101, by decide, rfl, (Nat.le_of_ble_eq_true rfl), (Nat.le_of_ble_eq_true rfl)⟩ wr_8_100 (show 0 + 0 ≤ 1 by first | omega | decide) (show 0 + 0 ≤ p641387.toInt.toNat by first | omega | decide) (Nat.le_of_ble_eq_true rfl) (fun r641400 w641401 dc641397 ds641398 hp641399 => ?_) (fun _ _ _ _ _ z => z.elim)
  obtain ⟨rfl, rfl, hdc, hds⟩ := hp641399
  change G _ _ _ _ _ _ _ _ _ _ _
  refine G_widen (cs' := 0) (sl' := 0) (by omega) (by omega) ?_
  refine G_iload_n 2 dr_cJ7_copyOfRangeByte_39247_5 rfl ?_
  refine G_iload_n 1 dr_cJ7_copyOfRangeByte_39247_6 rfl ?_
  refine G_isub dr_cJ7_copyOfRangeByte_39247_7 (G_nam fun z641402 hz641402 => ?_)
  have ez641402 : z641402.toInt = p641387.toInt - 0 := by rw [gI_sub hz641402 bp641387 (gBl (show Int32.toInt 0 = 0 by decide)) (by decide) (by decide), show Int32.toInt 0 = 0 from by decide]
  have bz641402 : gB z641402 0 16777216 := gB_sub (gI_sub hz641402 bp641387 (gBl (show Int32.toInt 0 = 0 by decide)) (by decide) (by decide)) bp641387 (gBl (show Int32.toInt 0 = 0 by decide)) (by decide) (by decide)
  refine G_istore_n (L' := [(3, .int z641402), (0, .ref q641386), (1, .int 0), (2, .int p641387)]) dr_cJ7_copyOfRangeByte_39247_8 (Nat.le_of_ble_eq_true rfl) rfl ?_
  refine G_iload_n 0 dr_cJ7_copyOfRangeByte_39247_9 rfl ?_
  refine G_newa 1 (z641402.toInt.toNat, .inl (fun _ => 0)) dr_cJ7_copyOfRangeByte_39247_10 rfl rfl (by intro C h; cases h) wr_1_66 (fun _ => ga_byte _ _) (g_n0 (by omega)) rfl (show z641402.toInt.toNat * 1 ≤ 536870912 by omega) (show 0 + 1 ≤ 1 by first | omega | decide) (show 0 + z641402.toInt.toNat ≤ p641387.toInt.toNat by first | omega | decide) (fun q641403 => Gp_in (fun P641404 F641405 hq641406 hP641407 e641408 n641409 => ?_))
  refine G_widen (cs' := 1) (sl' := z641402.toInt.toNat) (by omega) (by omega) ?_
  have he641410 : F641405 q641386 = .inl (I .byte, n641389, .inl f641388) := (n641409 q641386 (fun h => hq641406 (h ▸ hmq641386))).trans heq641386
  have he641411 : F641405 q641403 = .inl (I .byte, z641402.toInt.toNat, .inl (fun _ => 0)) := e641408
  have hm641412 : q641386 ∈ P641404 := (hP641407 q641386).mpr (Or.inl hmq641386)
  have hm641413 : q641403 ∈ P641404 := (hP641407 q641403).mpr (Or.inr rfl)
  have hq641414 : q641403 ∉ P641384 := fun z => hq641406 ((rSub_rf (P := P641384)) q641403 z)
  have hfr641415 : rFr [] P641384 F641385 F641405 := rFr_new (rSub_rf (P := P641384)) hq641406 (rFr_rf (W := []) (P := P641384) (F := F641385)) n641409
  have hsb641416 : rSub P641384 P641404 := rSub_new (rSub_rf (P := P641384)) hP641407
  refine G_astore (L' := [(4, .ref q641403), (3, .int z641402), (0, .ref q641386), (1, .int 0), (2, .int p641387)]) dr_cJ7_copyOfRangeByte_39247_12 (Nat.le_of_ble_eq_true rfl) rfl ?_
  refine G_aload_n 2 dr_cJ7_copyOfRangeByte_39247_14 rfl ?_
  refine G_iload_n 3 dr_cJ7_copyOfRangeByte_39247_15 rfl ?_
  refine G_aload 0 dr_cJ7_copyOfRangeByte_39247_16 rfl ?_
  refine G_iconst 0 dr_cJ7_copyOfRangeByte_39247_18 (by decide +kernel) ?_
  refine G_aload_n 2 dr_cJ7_copyOfRangeByte_39247_19 rfl ?_
  refine Gp_alen (Int32.ofNat n641389) 1 hm641412 he641410 dr_cJ7_copyOfRangeByte_39247_20 rfl rfl (G_nam fun z641417 hz641417 => ?_)
  have ez641417 : z641417.toInt = (n641389 : Nat) := gI_ofM hz641417 (by omega)
  have bz641417 : gB z641417 0 16777216 := ⟨by omega, by omega⟩
  refine G_iload_n 3 dr_cJ7_copyOfRangeByte_39247_21 rfl ?_
  refine G_isub dr_cJ7_copyOfRangeByte_39247_22 (G_nam fun z641418 hz641418 => ?_)
  have ez641418 : z641418.toInt = z641417.toInt - 0 := by rw [gI_sub hz641418 bz641417 (gBl (show Int32.toInt 0 = 0 by decide)) (by decide) (by decide), show Int32.toInt 0 = 0 from by decide]
  have bz641418 : gB z641418 0 16777216 := gB_sub (gI_sub hz641418 bz641417 (gBl (show Int32.toInt 0 = 0 by decide)) (by decide) (by decide)) bz641417 (gBl (show Int32.toInt 0 = 0 by decide)) (by decide) (by decide)
  refine G_iload_n 1 dr_cJ7_copyOfRangeByte_39247_23 rfl ?_
  refine G_mmin dr_cJ7_copyOfRangeByte_39247_24 wr_8_31 wr_3_227 wr_1_6 wr_3_228 (Nat.le_of_ble_eq_true rfl) (Nat.le_of_ble_eq_true rfl) (show 1 ≤ 1 by first | omega | decide) (show z641402.toInt.toNat ≤ p641387.toInt.toNat by first | omega | decide) (G_nam fun z641419 hz641419 => ?_)
  have ez641419 : z641418.toInt ≥ z641419.toInt ∧ z641402.toInt ≥ z641419.toInt ∧ (z641419.toInt = z641418.toInt ∨ z641419.toInt = z641402.toInt) := by have := gI_min hz641419; omega
  have bz641419 : gB z641419 0 16777216 := ⟨by omega, by omega⟩
  refine Gp_copyp 1 hm641412 hm641413 he641410 he641411 dr_cJ7_copyOfRangeByte_39247_27 wr_8_32 wr_5_113 wr_5_112 wr_1_34 rfl rfl (fun j => gT_byte (bf641388 j)) (by decide) (by decide) (by omega) (by have qa0 : Int32.toInt 0 = 0 := (by decide); omega) (by have qa0 : Int32.toInt 0 = 0 := (by decide); omega) (Nat.le_of_ble_eq_true rfl) (Nat.le_of_ble_eq_true rfl) (fun F641420 e641421 n641422 => ?_)
  obtain ⟨f641423, hf641423⟩ : ∃ z, z = va_cpy f641388 (fun _ => 0) (0 : Int32).toNatClampNeg (0 : Int32).toNatClampNeg z641419.toNatClampNeg := ⟨_, rfl⟩
  rw [← hf641423] at e641421
  have bf641423 : gF f641423 (-128) 127 := gF_cpy hf641423 bf641388 (gF_w gF_0 (by decide) (by decide))
  have he641424 : F641420 q641386 = .inl (I .byte, n641389, .inl f641388) := (n641422 q641386 (fun h => hq641414 (h ▸ hmq641386))).trans he641410
  have he641425 : F641420 q641403 = .inl (I .byte, z641402.toInt.toNat, .inl f641423) := e641421
  have hfr641426 : rFr [] P641384 F641385 F641420 := rFr_newp hq641414 hfr641415 n641422
  refine G_aload 0 dr_cJ7_copyOfRangeByte_39247_30 rfl ?_
  exact G_aretA (FieldType.array FieldType.byte) dr_cJ7_copyOfRangeByte_39247_32 rfl (by first | exact Or.inl ⟨_, rfl⟩ | exact Or.inr ⟨_, rfl⟩) (Or.inr ⟨_, rfl⟩) (Nat.le_of_ble_eq_true rfl) (show z641402.toInt.toNat ≤ p641387.toInt.toNat by omega) ⟨P641404, F641420, q641403, z641402.toInt.toNat, f641423, rfl, rfl, hsb641416, hfr641426, he641424, he641425, hm641413, hq641414, (Nat.le_of_ble_eq_true rfl), (by omega), bf641423, (by have qa0 : Int32.toInt 0 = 0 := (by decide); omega), (sK_cp2 hf641423 (by decide) (by decide) (by omega))⟩
abbrev ky_641365_Arrays_copyOfRange : gKey := (cJ7_copyOfRange_39247, 3, "java/util/Arrays", (some (FieldType.array FieldType.byte)), [], "copyOfRange", fun _ _ => True)
def pp_641365_Arrays_copyOfRange (D : va_G) (I : FieldType → ClassId) (P641357 : List Nat) (F641358 : Nat → va_E) (q641359 : Nat) (p641360 : Int32) (f641361 : Nat → Int32) (n641362 : Nat) : Option Value → va_W → Nat → Nat → Prop := fun r w dc ds => ∃ (P641457 : List Nat) (F641458 : Nat → va_E) (q641454 : Nat) (n641455 : Nat) (f641456 : Nat → Int32), r = some (.ref q641454) ∧ w = va_pl P641457 F641458 ∧ rSub P641357 P641457 ∧ rFr [] P641357 F641358 F641458 ∧ F641458 q641359 = .inl (I .byte, n641362, .inl f641361) ∧ F641458 q641454 = .inl (I .byte, n641455, .inl f641456) ∧ q641454 ∈ P641457 ∧ q641454 ∉ P641357 ∧ dc ≤ 1 ∧ ds ≤ p641360.toInt.toNat ∧ gF f641456 (-128) 127 ∧ (n641455 : Int) = p641360.toInt ∧ sK f641361 f641456 p641360.toInt
set_option maxRecDepth 100000 in
set_option maxHeartbeats 4000000 in
theorem cp_641365_Arrays_copyOfRange (l : Launch) (hl0 : l.stackTraces = false) (D : va_G) (I : FieldType → ClassId) (P641357 : List Nat) (F641358 : Nat → va_E) (q641359 : Nat) (p641360 : Int32) (f641361 : Nat → Int32) (n641362 : Nat) (hmq641359 : q641359 ∈ P641357) (heq641359 : F641358 q641359 = .inl (I .byte, n641362, .inl f641361)) (bp641360 : gB p641360 0 16777216) (bf641361 : gF f641361 (-128) 127) (x641363 : p641360.toInt ≤ (n641362 : Int)) (x641364 : ((n641362 : Int) ≤ 16777216)) : CtA (gV D I) l yJ7_copyOfRange_39247 cJ7_copyOfRange_39247 3 (some (FieldType.array FieldType.byte)) 2 45 1 p641360.toInt.toNat [.ref q641359, .int 0, .int p641360] (va_pl P641357 F641358) (pp_641365_Arrays_copyOfRange D I P641357 F641358 q641359 p641360 f641361 n641362) gNA := by
  refine CtA_ofF hl0 (by decide +kernel) (Nat.le_of_ble_eq_true rfl) ?_
  refine G_iload_n 1 dr_cJ7_copyOfRange_39247_0 rfl ?_
  refine G_if_ne 10 dr_cJ7_copyOfRange_39247_1 (by decide +kernel) (fun hc => absurd hc (by decide)) (fun _ => ?_)
  refine G_iload_n 2 dr_cJ7_copyOfRange_39247_4 rfl ?_
  refine G_aload_n 0 dr_cJ7_copyOfRange_39247_5 rfl ?_
  refine Gp_alen (Int32.ofNat n641362) 1 hmq641359 heq641359 dr_cJ7_copyOfRange_39247_6 rfl rfl (G_nam fun z641366 hz641366 => ?_)
  have ez641366 : z641366.toInt = (n641362 : Nat) := gI_ofM hz641366 (by omega)
  have bz641366 : gB z641366 0 16777216 := ⟨by omega, by omega⟩
  refine G_icmp_eq 17 dr_cJ7_copyOfRange_39247_7 (by decide +kernel) (fun hc641367 => ?_) (fun hc641367 => ?_)
  · have r641368 : p641360.toInt = z641366.toInt := gC_eq hc641367
    refine G_aload_n 0 dr_cJ7_copyOfRange_39247_17 rfl ?_
    refine Gp_clone 1 hmq641359 heq641359 rfl dr_cJ7_copyOfRange_39247_18 wr_8_24 wr_8_25 wr_8_26 wr_8_27 wr_8_28 (fun _ _ _ h => gn_w 76 rfl h) bf641361 (Nat.le_of_ble_eq_true rfl) (Nat.le_of_ble_eq_true rfl) (show 0 + 1 ≤ 1 by first | omega | decide) (show 0 + n641362 ≤ p641360.toInt.toNat by first | omega | decide) (fun q641369 P641370 F641371 hq641372 hP641373 e641374 n641375 => ?_)
    refine G_widen (cs' := 1) (sl' := n641362) (by omega) (by omega) ?_
    have he641376 : F641371 q641359 = .inl (I .byte, n641362, .inl f641361) := (n641375 q641359 (fun h => hq641372 (h ▸ hmq641359))).trans heq641359
    have he641377 : F641371 q641369 = .inl (I .byte, n641362, .inl f641361) := e641374
    have hm641378 : q641359 ∈ P641370 := (hP641373 q641359).mpr (Or.inl hmq641359)
    have hm641379 : q641369 ∈ P641370 := (hP641373 q641369).mpr (Or.inr rfl)
    have hq641380 : q641369 ∉ P641357 := fun z => hq641372 ((rSub_rf (P := P641357)) q641369 z)
    have hfr641381 : rFr [] P641357 F641358 F641371 := rFr_new (rSub_rf (P := P641357)) hq641372 (rFr_rf (W := []) (P := P641357) (F := F641358)) n641375
    have hsb641382 : rSub P641357 P641370 := rSub_new (rSub_rf (P := P641357)) hP641373
    refine Gp_casA 1 hm641379 he641377 rfl dr_cJ7_copyOfRange_39247_21 wr_8_30 ?_
    exact G_aretA (FieldType.array FieldType.byte) dr_cJ7_copyOfRange_39247_24 rfl (by first | exact Or.inl ⟨_, rfl⟩ | exact Or.inr ⟨_, rfl⟩) (Or.inr ⟨_, rfl⟩) (Nat.le_of_ble_eq_true rfl) (show n641362 ≤ p641360.toInt.toNat by omega) ⟨P641370, F641371, q641369, n641362, f641361, rfl, rfl, hsb641382, hfr641381, he641376, he641377, hm641379, hq641380, (Nat.le_of_ble_eq_true rfl), (by omega), bf641361, (by have qa0 : Int32.toInt 0 = 0 := (by decide); omega), sK_rf⟩
  · have r641383 : p641360.toInt ≠ z641366.toInt := gC_ne hc641367
    refine G_aload_n 0 dr_cJ7_copyOfRange_39247_10 rfl ?_
    refine G_iload_n 1 dr_cJ7_copyOfRange_39247_11 rfl ?_
    refine G_iload_n 2 dr_cJ7_copyOfRange_39247_12 rfl ?_
    refine Gw_callS (As := [.ref q641359, .int 0, .int p641360]) (gV_ok D I) (cp_641392_Arrays_copyOfRangeByte l hl0 D I P641357 F641358 q641359 p641360 f641361 n641362 hmq641359 heq641359 bp641360 bf641361 (by have qa0 : Int32.toInt 0 = 0 := (by decide); omega) (by have qa0 : Int32.toInt 0 = 0 := (by decide); omega)) dr_cJ7_copyOfRange_39247_13 ⟨wr_8_96, wr_1_30, wr_8_98, by decide, rfl, (Nat.le_of_ble_eq_true rfl), (Nat.le_of_ble_eq_true rfl)⟩ wr_8_97 (show 0 + 1 ≤ 1 by first | omega | decide) (show 0 + p641360.toInt.toNat ≤ p641360.toInt.toNat by first | omega | decide) (Nat.le_of_ble_eq_true rfl) (fun r641435 w641436 dc641432 ds641433 hp641434 => ?_) (fun _ _ _ _ _ z => z.elim)
    obtain ⟨P641442, F641443, q641437, n641438, f641439, rfl, rfl, hsb641444, hfr641445, he641446, he641447, hm641448, hq641449, hdc, hds, bf641439, x641440, x641441⟩ := hp641434
    have hm641450 : q641359 ∈ P641442 := hsb641444 q641359 hmq641359
    have hq641451 : q641437 ∉ P641357 := fun z => hq641449 ((rSub_rf (P := P641357)) q641437 z)
    have hsb641452 : rSub P641357 P641442 := rSub_tr (rSub_rf (P := P641357)) hsb641444
    have hfr641453 : rFr [] P641357 F641358 F641443 := rFr_call (rSub_rf (P := P641357)) (rFr_rf (W := []) (P := P641357) (F := F641358)) hfr641445 (fun b hb hn => ⟨nm_n, nm_n⟩)
    change G _ _ _ _ _ _ _ (.ref q641437 :: _) _ _ _
    refine G_widen (cs' := 1) (sl' := p641360.toInt.toNat) (by omega) (by omega) ?_
    exact G_aretA (FieldType.array FieldType.byte) dr_cJ7_copyOfRange_39247_16 rfl (by first | exact Or.inl ⟨_, rfl⟩ | exact Or.inr ⟨_, rfl⟩) (Or.inr ⟨_, rfl⟩) (Nat.le_of_ble_eq_true rfl) (show p641360.toInt.toNat ≤ p641360.toInt.toNat by omega) ⟨P641442, F641443, q641437, n641438, f641439, rfl, rfl, hsb641452, hfr641453, he641446, he641447, hm641448, hq641451, (Nat.le_of_ble_eq_true rfl), (by omega), bf641439, (by have qa0 : Int32.toInt 0 = 0 := (by decide); omega), (sK_c x641441 (by omega))⟩
abbrev ky_641324_String_init : gKey := (cJ0_init_db425, 5, "java/lang/String", none, [], "<init>", fun _ _ => True)
def pp_641324_String_init (D : va_G) (I : FieldType → ClassId) (P641311 : List Nat) (F641312 : Nat → va_E) (q641313 : Nat) (q641314 : Nat) (q641315 : Nat) (p641316 : Int32) (p641317 : Int32) (p641318 : Int32) (p641319 : Int32) (f641320 : Nat → Int32) (n641321 : Nat) : Option Value → va_W → Nat → Nat → Prop := fun r w dc ds => ∃ (P641496 : List Nat) (F641497 : Nat → va_E) (q641493 : Nat) (n641494 : Nat) (f641495 : Nat → Int32), r = none ∧ w = va_pl P641496 F641497 ∧ rSub P641311 P641496 ∧ rFr [q641313] P641311 F641312 F641497 ∧ F641497 q641313 = .inr (0, [.ref q641493, .int 0, .int p641316, .int p641317]) ∧ F641497 q641314 = .inr (1, [.ref q641315, .int 0, .int p641318, .int p641319]) ∧ F641497 q641315 = .inl (I .byte, n641321, .inl f641320) ∧ F641497 q641493 = .inl (I .byte, n641494, .inl f641495) ∧ q641493 ∈ P641496 ∧ q641493 ∉ P641311 ∧ dc ≤ 1 ∧ ds ≤ p641319.toInt.toNat ∧ gF f641495 (-128) 127 ∧ (n641494 : Int) = p641319.toInt ∧ sK f641320 f641495 p641319.toInt
set_option maxRecDepth 100000 in
set_option maxHeartbeats 4000000 in
theorem cp_641324_String_init (l : Launch) (hl0 : l.stackTraces = false) (D : va_G) (I : FieldType → ClassId) (P641311 : List Nat) (F641312 : Nat → va_E) (q641313 : Nat) (q641314 : Nat) (q641315 : Nat) (p641316 : Int32) (p641317 : Int32) (p641318 : Int32) (p641319 : Int32) (f641320 : Nat → Int32) (n641321 : Nat) (hmq641313 : q641313 ∈ P641311) (hmq641314 : q641314 ∈ P641311) (hmq641315 : q641315 ∈ P641311) (heq641313 : F641312 q641313 = .inr (0, [.null, .int 0, .int p641316, .int p641317])) (heq641314 : F641312 q641314 = .inr (1, [.ref q641315, .int 0, .int p641318, .int p641319])) (heq641315 : F641312 q641315 = .inl (I .byte, n641321, .inl f641320)) (bp641317 : gB p641317 0 1) (bp641318 : gB p641318 0 1) (bp641319 : gB p641319 0 16777216) (bf641320 : gF f641320 (-128) 127) (x641322 : p641319.toInt ≤ (n641321 : Int)) (x641323 : ((n641321 : Int) ≤ 16777216)) : CtA (gV D I) l yJ0_init_db425 cJ0_init_db425 5 none 3 67 1 p641319.toInt.toNat [.ref q641313, .ref q641314, .null] (va_pl P641311 F641312) (pp_641324_String_init D I P641311 F641312 q641313 q641314 q641315 p641316 p641317 p641318 p641319 f641320 n641321) gNA := by
  refine CtA_ofF hl0 (by decide +kernel) (Nat.le_of_ble_eq_true rfl) ?_
  have bp641316 := gB_any p641316
  refine G_aload_n 0 dr_cJ0_init_db425_0 rfl ?_
  refine G_obj dr_cJ0_init_db425_1 wr_8_78 wr_1_51 wr_1_52 (Nat.le_of_ble_eq_true rfl) (Nat.le_of_ble_eq_true rfl) ?_
  refine G_aload_n 1 dr_cJ0_init_db425_4 rfl ?_
  refine Gw_callVB (As := []) (gV_ok D I) (cp_641334_AbstractStringBuilder_getValue l hl0 D I P641311 F641312 q641314 q641315 p641318 p641319 f641320 n641321 hmq641314 hmq641315 heq641314 heq641315 bp641318 bp641319 bf641320 (by have qa0 : Int32.toInt 0 = 0 := (by decide); omega)) dr_cJ0_init_db425_5 ⟨wr_8_79, wr_1_19, wr_8_83, by decide, rfl, (Nat.le_of_ble_eq_true rfl), (Nat.le_of_ble_eq_true rfl)⟩ wr_8_80 wr_8_82 hmq641314 heq641314 rfl (show 0 + 0 ≤ 1 by first | omega | decide) (show 0 + 0 ≤ p641319.toInt.toNat by first | omega | decide) (Nat.le_of_ble_eq_true rfl) (fun r641338 w641339 dc641335 ds641336 hp641337 => ?_) (fun _ _ _ _ _ z => z.elim)
  obtain ⟨rfl, rfl, hdc, hds⟩ := hp641337
  change G _ _ _ _ _ _ _ (.ref q641315 :: _) _ _ _
  refine G_widen (cs' := 0) (sl' := 0) (by omega) (by omega) ?_
  refine G_astore_n (L' := [(3, .ref q641315), (0, .ref q641313), (1, .ref q641314), (2, .null)]) dr_cJ0_init_db425_8 (Nat.le_of_ble_eq_true rfl) rfl ?_
  refine G_aload_n 2 dr_cJ0_init_db425_9 rfl ?_
  refine Gw_callVU (As := []) (owner := "java/lang/AbstractStringBuilder") (gV_ok D I) (cp_640000_StringBuilder_length l hl0 D I P641311 F641312 q641314 q641315 p641318 p641319 f641320 n641321 hmq641314 hmq641315 heq641314 heq641315 bp641318 bp641319 bf641320 (by have qa0 : Int32.toInt 0 = 0 := (by decide); omega)) dr_cJ0_init_db425_10 ⟨wr_8_84, wr_8_86, wr_8_85, wr_8_91, wr_8_87, wr_8_88, wr_1_20, wr_8_89, by decide, rfl, (Nat.le_of_ble_eq_true rfl), (Nat.le_of_ble_eq_true rfl)⟩ hmq641314 heq641314 rfl (show 0 + 0 ≤ 1 by first | omega | decide) (show 0 + 0 ≤ p641319.toInt.toNat by first | omega | decide) (Nat.le_of_ble_eq_true rfl) (fun r641343 w641344 dc641340 ds641341 hp641342 => ?_) (fun _ _ _ _ _ z => z.elim)
  obtain ⟨rfl, rfl, hdc, hds⟩ := hp641342
  change G _ _ _ _ _ _ _ (.int p641319 :: _) _ _ _
  refine G_widen (cs' := 0) (sl' := 0) (by omega) (by omega) ?_
  refine G_istore (L' := [(4, .int p641319), (3, .ref q641315), (0, .ref q641313), (1, .ref q641314), (2, .null)]) dr_cJ0_init_db425_13 (Nat.le_of_ble_eq_true rfl) rfl ?_
  refine G_aload_n 3 dr_cJ0_init_db425_15 rfl ?_
  refine Gw_callVB (As := []) (gV_ok D I) (cp_640145_AbstractStringBuilder_isLatin1 l hl0 D I P641311 F641312 q641314 q641315 p641318 p641319 f641320 n641321 hmq641314 hmq641315 heq641314 heq641315 bp641318 bp641319 bf641320 (by have qa0 : Int32.toInt 0 = 0 := (by decide); omega)) dr_cJ0_init_db425_16 ⟨wr_8_92, wr_1_19, wr_8_37, by decide, rfl, (Nat.le_of_ble_eq_true rfl), (Nat.le_of_ble_eq_true rfl)⟩ wr_8_34 wr_8_36 hmq641314 heq641314 rfl (show 0 + 0 ≤ 1 by first | omega | decide) (show 0 + 0 ≤ p641319.toInt.toNat by first | omega | decide) (Nat.le_of_ble_eq_true rfl) (fun r641348 w641349 dc641345 ds641346 hp641347 => ?_) (fun _ _ _ _ _ z => z.elim)
  obtain ⟨rfl, rfl, hdc, hds⟩ := hp641347
  change G _ _ _ _ _ _ _ (.int 1 :: _) _ _ _
  refine G_widen (cs' := 0) (sl' := 0) (by omega) (by omega) ?_
  refine G_if_eq 41 dr_cJ0_init_db425_19 (by decide +kernel) (fun hc => absurd hc (by decide)) (fun _ => ?_)
  refine G_aload_n 2 dr_cJ0_init_db425_22 rfl ?_
  refine G_iconst 0 dr_cJ0_init_db425_23 (by decide +kernel) ?_
  refine Gp_putF 1 hmq641313 heq641313 dr_cJ0_init_db425_24 (gk_J0 D I) (Nat.le_of_ble_eq_true rfl) wr_8_183 rfl rfl rfl rfl rfl (Nat.le_of_ble_eq_true rfl) (fun F641350 e641351 n641352 => ?_)
  have he641353 : F641350 q641314 = .inr (1, [.ref q641315, .int 0, .int p641318, .int p641319]) := (n641352 q641314 (rn_oo heq641314 heq641313 (by decide))).trans heq641314
  have he641354 : F641350 q641315 = .inl (I .byte, n641321, .inl f641320) := (n641352 q641315 (rn_ao heq641315 heq641313)).trans heq641315
  have he641355 : F641350 q641313 = .inr (0, [.null, .int 0, .int p641316, .int p641317]) := e641351
  have hfr641356 : rFr [q641313] P641311 F641312 F641350 := rFr_put (rFr_rf (W := []) (P := P641311) (F := F641312)) n641352
  refine G_aload_n 2 dr_cJ0_init_db425_27 rfl ?_
  refine G_aload_n 1 dr_cJ0_init_db425_28 rfl ?_
  refine G_iconst 0 dr_cJ0_init_db425_29 (by decide +kernel) ?_
  refine G_iload 0 dr_cJ0_init_db425_30 rfl ?_
  refine Gw_callS (As := [.ref q641315, .int 0, .int p641319]) (gV_ok D I) (cp_641365_Arrays_copyOfRange l hl0 D I P641311 F641350 q641315 p641319 f641320 n641321 hmq641315 he641354 bp641319 bf641320 (by have qa0 : Int32.toInt 0 = 0 := (by decide); omega) (by have qa0 : Int32.toInt 0 = 0 := (by decide); omega)) dr_cJ0_init_db425_32 ⟨wr_8_93, wr_1_30, wr_8_95, by decide, rfl, (Nat.le_of_ble_eq_true rfl), (Nat.le_of_ble_eq_true rfl)⟩ wr_8_94 (show 0 + 1 ≤ 1 by first | omega | decide) (show 0 + p641319.toInt.toNat ≤ p641319.toInt.toNat by first | omega | decide) (Nat.le_of_ble_eq_true rfl) (fun r641462 w641463 dc641459 ds641460 hp641461 => ?_) (fun _ _ _ _ _ z => z.elim)
  obtain ⟨P641469, F641470, q641464, n641465, f641466, rfl, rfl, hsb641471, hfr641472, he641473, he641474, hm641475, hq641476, hdc, hds, bf641466, x641467, x641468⟩ := hp641461
  have hm641477 : q641313 ∈ P641469 := hsb641471 q641313 hmq641313
  have hm641478 : q641314 ∈ P641469 := hsb641471 q641314 hmq641314
  have hm641479 : q641315 ∈ P641469 := hsb641471 q641315 hmq641315
  have hq641480 : q641464 ∉ P641311 := fun z => hq641476 ((rSub_rf (P := P641311)) q641464 z)
  have hsb641481 : rSub P641311 P641469 := rSub_tr (rSub_rf (P := P641311)) hsb641471
  have he641482 : F641470 q641313 = .inr (0, [.null, .int 0, .int p641316, .int p641317]) := (hfr641472 q641313 hmq641313 nm_n).trans he641355
  have he641483 : F641470 q641314 = .inr (1, [.ref q641315, .int 0, .int p641318, .int p641319]) := (hfr641472 q641314 hmq641314 nm_n).trans he641353
  have hfr641484 : rFr [q641313] P641311 F641312 F641470 := rFr_call (rSub_rf (P := P641311)) hfr641356 hfr641472 (fun b hb hn => ⟨(nm_c (fun e => hn (e ▸ List.mem_cons_self)) nm_n), nm_n⟩)
  change G _ _ _ _ _ _ _ (.ref q641464 :: _) _ _ _
  refine G_widen (cs' := 1) (sl' := p641319.toInt.toNat) (by omega) (by omega) ?_
  refine Gp_putF 0 hm641477 he641482 dr_cJ0_init_db425_35 (gk_J0 D I) (Nat.le_of_ble_eq_true rfl) wr_8_182 rfl rfl rfl rfl rfl (Nat.le_of_ble_eq_true rfl) (fun F641485 e641486 n641487 => ?_)
  have he641488 : F641485 q641314 = .inr (1, [.ref q641315, .int 0, .int p641318, .int p641319]) := (n641487 q641314 (rn_oo he641483 he641482 (by decide))).trans he641483
  have he641489 : F641485 q641315 = .inl (I .byte, n641321, .inl f641320) := (n641487 q641315 (rn_ao he641473 he641482)).trans he641473
  have he641490 : F641485 q641464 = .inl (I .byte, n641465, .inl f641466) := (n641487 q641464 (fun h => hq641480 (h ▸ hmq641313))).trans he641474
  have he641491 : F641485 q641313 = .inr (0, [.ref q641464, .int 0, .int p641316, .int p641317]) := e641486
  have hfr641492 : rFr [q641313] P641311 F641312 F641485 := rFr_put' List.mem_cons_self hfr641484 n641487
  refine G_goto 97 dr_cJ0_init_db425_38 (by decide +kernel) ?_
  exact G_vretA dr_cJ0_init_db425_97 rfl (Nat.le_of_ble_eq_true rfl) (show p641319.toInt.toNat ≤ p641319.toInt.toNat by omega) ⟨P641469, F641485, q641464, n641465, f641466, rfl, rfl, hsb641481, hfr641492, he641491, he641488, he641489, he641490, hm641475, hq641480, (Nat.le_of_ble_eq_true rfl), (by omega), bf641466, (by have qa0 : Int32.toInt 0 = 0 := (by decide); omega), (sK_c x641468 (by omega))⟩
abbrev ky_641310_String_init : gKey := (cJ0_init_81219, 2, "java/lang/String", none, [], "<init>", fun _ _ => True)
def pp_641310_String_init (D : va_G) (I : FieldType → ClassId) (P641297 : List Nat) (F641298 : Nat → va_E) (q641299 : Nat) (q641300 : Nat) (q641301 : Nat) (p641302 : Int32) (p641303 : Int32) (p641304 : Int32) (p641305 : Int32) (f641306 : Nat → Int32) (n641307 : Nat) : Option Value → va_W → Nat → Nat → Prop := fun r w dc ds => ∃ (P641527 : List Nat) (F641528 : Nat → va_E) (q641524 : Nat) (n641525 : Nat) (f641526 : Nat → Int32), r = none ∧ w = va_pl P641527 F641528 ∧ rSub P641297 P641527 ∧ rFr [q641299] P641297 F641298 F641528 ∧ F641528 q641299 = .inr (0, [.ref q641524, .int 0, .int p641302, .int p641303]) ∧ F641528 q641300 = .inr (1, [.ref q641301, .int 0, .int p641304, .int p641305]) ∧ F641528 q641301 = .inl (I .byte, n641307, .inl f641306) ∧ F641528 q641524 = .inl (I .byte, n641525, .inl f641526) ∧ q641524 ∈ P641527 ∧ q641524 ∉ P641297 ∧ dc ≤ 1 ∧ ds ≤ p641305.toInt.toNat ∧ gF f641526 (-128) 127 ∧ (n641525 : Int) = p641305.toInt ∧ sK f641306 f641526 p641305.toInt
set_option maxRecDepth 100000 in
set_option maxHeartbeats 4000000 in
theorem cp_641310_String_init (l : Launch) (hl0 : l.stackTraces = false) (D : va_G) (I : FieldType → ClassId) (P641297 : List Nat) (F641298 : Nat → va_E) (q641299 : Nat) (q641300 : Nat) (q641301 : Nat) (p641302 : Int32) (p641303 : Int32) (p641304 : Int32) (p641305 : Int32) (f641306 : Nat → Int32) (n641307 : Nat) (hmq641299 : q641299 ∈ P641297) (hmq641300 : q641300 ∈ P641297) (hmq641301 : q641301 ∈ P641297) (heq641299 : F641298 q641299 = .inr (0, [.null, .int 0, .int p641302, .int p641303])) (heq641300 : F641298 q641300 = .inr (1, [.ref q641301, .int 0, .int p641304, .int p641305])) (heq641301 : F641298 q641301 = .inl (I .byte, n641307, .inl f641306)) (bp641303 : gB p641303 0 1) (bp641304 : gB p641304 0 1) (bp641305 : gB p641305 0 16777216) (bf641306 : gF f641306 (-128) 127) (x641308 : p641305.toInt ≤ (n641307 : Int)) (x641309 : ((n641307 : Int) ≤ 16777216)) : CtA (gV D I) l yJ0_init_81219 cJ0_init_81219 2 none 4 91 1 p641305.toInt.toNat [.ref q641299, .ref q641300] (va_pl P641297 F641298) (pp_641310_String_init D I P641297 F641298 q641299 q641300 q641301 p641302 p641303 p641304 p641305 f641306 n641307) gNA := by
  refine CtA_ofF hl0 (by decide +kernel) (Nat.le_of_ble_eq_true rfl) ?_
  have bp641302 := gB_any p641302
  refine G_aload_n 0 dr_cJ0_init_81219_0 rfl ?_
  refine G_aload_n 1 dr_cJ0_init_81219_1 rfl ?_
  refine G_null dr_cJ0_init_81219_2 ?_
  refine Gw_callI (As := [.ref q641300, .null]) (gV_ok D I) (cp_641324_String_init l hl0 D I P641297 F641298 q641299 q641300 q641301 p641302 p641303 p641304 p641305 f641306 n641307 hmq641299 hmq641300 hmq641301 heq641299 heq641300 heq641301 bp641303 bp641304 bp641305 bf641306 (by have qa0 : Int32.toInt 0 = 0 := (by decide); omega) (by have qa0 : Int32.toInt 0 = 0 := (by decide); omega)) dr_cJ0_init_81219_3 ⟨wr_8_75, wr_1_21, wr_8_77, by decide, rfl, (Nat.le_of_ble_eq_true rfl), (Nat.le_of_ble_eq_true rfl)⟩ wr_8_76 rfl (show 0 + 1 ≤ 1 by first | omega | decide) (show 0 + p641305.toInt.toNat ≤ p641305.toInt.toNat by first | omega | decide) (Nat.le_of_ble_eq_true rfl) (fun r641501 w641502 dc641498 ds641499 hp641500 => ?_)
  obtain ⟨P641508, F641509, q641503, n641504, f641505, rfl, rfl, hsb641510, hfr641511, he641512, he641513, he641514, he641515, hm641516, hq641517, hdc, hds, bf641505, x641506, x641507⟩ := hp641500
  have hm641518 : q641299 ∈ P641508 := hsb641510 q641299 hmq641299
  have hm641519 : q641300 ∈ P641508 := hsb641510 q641300 hmq641300
  have hm641520 : q641301 ∈ P641508 := hsb641510 q641301 hmq641301
  have hq641521 : q641503 ∉ P641297 := fun z => hq641517 ((rSub_rf (P := P641297)) q641503 z)
  have hsb641522 : rSub P641297 P641508 := rSub_tr (rSub_rf (P := P641297)) hsb641510
  have hfr641523 : rFr [q641299] P641297 F641298 F641509 := rFr_call (rSub_rf (P := P641297)) (rFr_rf (W := []) (P := P641297) (F := F641298)) hfr641511 (fun b hb hn => ⟨nm_n, (nm_c (fun e => hn (e ▸ List.mem_cons_self)) nm_n)⟩)
  change G _ _ _ _ _ _ _ _ _ _ _
  refine G_widen (cs' := 1) (sl' := p641305.toInt.toNat) (by omega) (by omega) ?_
  exact G_vretA dr_cJ0_init_81219_6 rfl (Nat.le_of_ble_eq_true rfl) (show p641305.toInt.toNat ≤ p641305.toInt.toNat by omega) ⟨P641508, F641509, q641503, n641504, f641505, rfl, rfl, hsb641522, hfr641523, he641512, he641513, he641514, he641515, hm641516, hq641521, (Nat.le_of_ble_eq_true rfl), (by omega), bf641505, (by have qa0 : Int32.toInt 0 = 0 := (by decide); omega), (sK_c x641507 (by omega))⟩
abbrev ky_641280_StringBuilder_toString : gKey := (cJ4_toString_0e30d, 1, "java/lang/StringBuilder", (some (FieldType.object "java/lang/String")), [], "toString", fun _ _ => True)
def pp_641280_StringBuilder_toString (D : va_G) (I : FieldType → ClassId) (P641270 : List Nat) (F641271 : Nat → va_E) (q641272 : Nat) (q641273 : Nat) (p641274 : Int32) (p641275 : Int32) (f641276 : Nat → Int32) (n641277 : Nat) : Option Value → va_W → Nat → Nat → Prop := fun r w dc ds => ∃ (P641559 : List Nat) (F641560 : Nat → va_E) (q641555 : Nat) (q641556 : Nat) (n641557 : Nat) (f641558 : Nat → Int32), r = some (.ref q641555) ∧ w = va_pl P641559 F641560 ∧ rSub P641270 P641559 ∧ rFr [] P641270 F641271 F641560 ∧ F641560 q641555 = .inr (0, [.ref q641556, .int 0, .int 0, .int 0]) ∧ F641560 q641272 = .inr (1, [.ref q641273, .int 0, .int p641274, .int p641275]) ∧ F641560 q641273 = .inl (I .byte, n641277, .inl f641276) ∧ F641560 q641556 = .inl (I .byte, n641557, .inl f641558) ∧ q641555 ∈ P641559 ∧ q641555 ∉ P641270 ∧ q641556 ∈ P641559 ∧ q641556 ∉ P641270 ∧ dc ≤ 2 ∧ ds ≤ p641275.toInt.toNat + 4 ∧ gF f641558 (-128) 127 ∧ (n641557 : Int) = p641275.toInt ∧ sK f641276 f641558 p641275.toInt
set_option maxRecDepth 100000 in
set_option maxHeartbeats 4000000 in
theorem cp_641280_StringBuilder_toString (l : Launch) (hl0 : l.stackTraces = false) (D : va_G) (I : FieldType → ClassId) (P641270 : List Nat) (F641271 : Nat → va_E) (q641272 : Nat) (q641273 : Nat) (p641274 : Int32) (p641275 : Int32) (f641276 : Nat → Int32) (n641277 : Nat) (hmq641272 : q641272 ∈ P641270) (hmq641273 : q641273 ∈ P641270) (heq641272 : F641271 q641272 = .inr (1, [.ref q641273, .int 0, .int p641274, .int p641275])) (heq641273 : F641271 q641273 = .inl (I .byte, n641277, .inl f641276)) (bp641274 : gB p641274 0 1) (bp641275 : gB p641275 0 16777216) (bf641276 : gF f641276 (-128) 127) (x641278 : p641275.toInt ≤ (n641277 : Int)) (x641279 : ((n641277 : Int) ≤ 16777216)) : CtA (gV D I) l yJ4_toString_0e30d cJ4_toString_0e30d 1 (some (FieldType.object "java/lang/String")) 5 112 2 (p641275.toInt.toNat + 4) [.ref q641272] (va_pl P641270 F641271) (pp_641280_StringBuilder_toString D I P641270 F641271 q641272 q641273 p641274 p641275 f641276 n641277) gNA := by
  refine CtA_ofF hl0 (by decide +kernel) (Nat.le_of_ble_eq_true rfl) ?_
  refine G_new [.null, .int 0, .int 0, .int 0] dr_cJ4_toString_0e30d_0 (gk_J0 D I) wr_8_70 wr_8_71 wr_1_21 (gfs_J0) (show 0 + 1 ≤ 2 by first | omega | decide) (show 0 + 4 ≤ (p641275.toInt.toNat + 4) by first | omega | decide) (fun q641281 => Gp_in (fun P641282 F641283 hq641284 hP641285 e641286 n641287 => ?_))
  refine G_widen (cs' := 1) (sl' := 4) (by omega) (by omega) ?_
  have he641288 : F641283 q641272 = .inr (1, [.ref q641273, .int 0, .int p641274, .int p641275]) := (n641287 q641272 (fun h => hq641284 (h ▸ hmq641272))).trans heq641272
  have he641289 : F641283 q641273 = .inl (I .byte, n641277, .inl f641276) := (n641287 q641273 (fun h => hq641284 (h ▸ hmq641273))).trans heq641273
  have he641290 : F641283 q641281 = .inr (0, [.null, .int 0, .int 0, .int 0]) := e641286
  have hm641291 : q641272 ∈ P641282 := (hP641285 q641272).mpr (Or.inl hmq641272)
  have hm641292 : q641273 ∈ P641282 := (hP641285 q641273).mpr (Or.inl hmq641273)
  have hm641293 : q641281 ∈ P641282 := (hP641285 q641281).mpr (Or.inr rfl)
  have hq641294 : q641281 ∉ P641270 := fun z => hq641284 ((rSub_rf (P := P641270)) q641281 z)
  have hfr641295 : rFr [] P641270 F641271 F641283 := rFr_new (rSub_rf (P := P641270)) hq641284 (rFr_rf (W := []) (P := P641270) (F := F641271)) n641287
  have hsb641296 : rSub P641270 P641282 := rSub_new (rSub_rf (P := P641270)) hP641285
  refine G_dup dr_cJ4_toString_0e30d_3 rfl ?_
  refine G_aload_n 0 dr_cJ4_toString_0e30d_4 rfl ?_
  refine Gw_callI (As := [.ref q641272]) (gV_ok D I) (cp_641310_String_init l hl0 D I P641282 F641283 q641281 q641272 q641273 0 0 p641274 p641275 f641276 n641277 hm641293 hm641291 hm641292 he641290 he641288 he641289 (gB_w (gBl (show Int32.toInt 0 = 0 by decide)) (by decide) (by decide)) bp641274 bp641275 bf641276 (by have qa0 : Int32.toInt 0 = 0 := (by decide); omega) (by have qa0 : Int32.toInt 0 = 0 := (by decide); omega)) dr_cJ4_toString_0e30d_5 ⟨wr_8_72, wr_1_21, wr_8_74, by decide, rfl, (Nat.le_of_ble_eq_true rfl), (Nat.le_of_ble_eq_true rfl)⟩ wr_8_73 rfl (show 1 + 1 ≤ 2 by first | omega | decide) (show 4 + p641275.toInt.toNat ≤ (p641275.toInt.toNat + 4) by first | omega | decide) (Nat.le_of_ble_eq_true rfl) (fun r641532 w641533 dc641529 ds641530 hp641531 => ?_)
  obtain ⟨P641539, F641540, q641534, n641535, f641536, rfl, rfl, hsb641541, hfr641542, he641543, he641544, he641545, he641546, hm641547, hq641548, hdc, hds, bf641536, x641537, x641538⟩ := hp641531
  have hm641549 : q641272 ∈ P641539 := hsb641541 q641272 hm641291
  have hm641550 : q641273 ∈ P641539 := hsb641541 q641273 hm641292
  have hm641551 : q641281 ∈ P641539 := hsb641541 q641281 hm641293
  have hq641552 : q641534 ∉ P641270 := fun z => hq641548 (hsb641296 q641534 z)
  have hsb641553 : rSub P641270 P641539 := rSub_tr hsb641296 hsb641541
  have hfr641554 : rFr [] P641270 F641271 F641540 := rFr_call hsb641296 hfr641295 hfr641542 (fun b hb hn => ⟨nm_n, (nm_c (fun e => hq641294 (e ▸ hb)) nm_n)⟩)
  change G _ _ _ _ _ _ _ _ _ _ _
  refine G_widen (cs' := 2) (sl' := 4 + p641275.toInt.toNat) (by omega) (by omega) ?_
  exact G_aretA (FieldType.object "java/lang/String") dr_cJ4_toString_0e30d_8 rfl (by first | exact Or.inl ⟨_, rfl⟩ | exact Or.inr ⟨_, rfl⟩) (Or.inr ⟨_, rfl⟩) (Nat.le_of_ble_eq_true rfl) (show 4 + p641275.toInt.toNat ≤ (p641275.toInt.toNat + 4) by omega) ⟨P641539, F641540, q641281, q641534, n641535, f641536, rfl, rfl, hsb641553, hfr641554, he641543, he641544, he641545, he641546, hm641551, hq641294, hm641547, hq641552, (Nat.le_of_ble_eq_true rfl), (by omega), bf641536, (by have qa0 : Int32.toInt 0 = 0 := (by decide); omega), (sK_c x641538 (by omega))⟩
abbrev ky_641582_StringLatin1_equals : gKey := (cJ1_equals_b5fdf, 3, "java/lang/StringLatin1", (some FieldType.boolean), [], "equals", fun _ _ => True)
def pp_641582_StringLatin1_equals (D : va_G) (I : FieldType → ClassId) (P641574 : List Nat) (F641575 : Nat → va_E) (q641576 : Nat) (qs641577 : Nat) (bs641578 : List Int32) (f641579 : Nat → Int32) (n641580 : Nat) : Option Value → va_W → Nat → Nat → Prop := fun r w dc ds => ∃ (o641663 : Int32), r = some (.int o641663) ∧ w = va_pl P641574 F641575 ∧ dc ≤ 0 ∧ ds ≤ 0 ∧ gB o641663 0 1
set_option maxRecDepth 100000 in
set_option maxHeartbeats 4000000 in
theorem cp_641582_StringLatin1_equals (l : Launch) (hl0 : l.stackTraces = false) (D : va_G) (I : FieldType → ClassId) (P641574 : List Nat) (F641575 : Nat → va_E) (q641576 : Nat) (qs641577 : Nat) (bs641578 : List Int32) (f641579 : Nat → Int32) (n641580 : Nat) (hmq641576 : q641576 ∈ P641574) (heq641576 : F641575 q641576 = .inl (I .byte, n641580, .inl f641579)) (hbs641578 : ∀ A s H, (gV D I).2.2.2.1 A s H → va_T .byte qs641577 bs641578.length (fun j => .int (bs641578.getD j 0)) A s H) (nbs641578 : (bs641578.length : Int) ≤ 65535) (lbs641578 : gLB bs641578) (bf641579 : gF f641579 (-128) 127) (x641581 : ((n641580 : Int) ≤ 16777216)) : CtA (gV D I) l yJ1_equals_b5fdf cJ1_equals_b5fdf 3 (some FieldType.boolean) 0 0 0 0 [.ref q641576, .ref qs641577] (va_pl P641574 F641575) (pp_641582_StringLatin1_equals D I P641574 F641575 q641576 qs641577 bs641578 f641579 n641580) gNA := by
  refine CtA_ofF hl0 (by decide +kernel) (Nat.le_of_ble_eq_true rfl) ?_
  refine G_aload_n 0 dr_cJ1_equals_b5fdf_0 rfl ?_
  refine Gp_alen (Int32.ofNat n641580) 1 hmq641576 heq641576 dr_cJ1_equals_b5fdf_1 rfl rfl (G_nam fun z641583 hz641583 => ?_)
  have ez641583 : z641583.toInt = (n641580 : Nat) := gI_ofM hz641583 (by omega)
  have bz641583 : gB z641583 0 16777216 := ⟨by omega, by omega⟩
  refine G_aload_n 1 dr_cJ1_equals_b5fdf_2 rfl ?_
  refine G_klen dr_cJ1_equals_b5fdf_3 hbs641578 (G_nam fun z641584 hz641584 => ?_)
  have ez641584 : z641584.toInt = (bs641578.length : Int) := gI_ofN hz641584 nbs641578
  have bz641584 : gB z641584 0 65535 := ⟨by omega, by omega⟩
  refine G_icmp_ne 34 dr_cJ1_equals_b5fdf_4 (by decide +kernel) (fun hc641585 => ?_) (fun hc641585 => ?_)
  · have r641586 : z641583.toInt ≠ z641584.toInt := gC_ne hc641585
    refine G_iconst 0 dr_cJ1_equals_b5fdf_34 (by decide +kernel) ?_
    exact G_zretA FieldType.boolean dr_cJ1_equals_b5fdf_35 rfl rfl (Nat.le_of_ble_eq_true rfl) (Nat.le_of_ble_eq_true rfl) ⟨0, rfl, rfl, (Nat.le_of_ble_eq_true rfl), (Nat.le_of_ble_eq_true rfl), (gB_w (gBl (show Int32.toInt 0 = 0 by decide)) (by decide) (by decide))⟩
  · have r641587 : z641583.toInt = z641584.toInt := gC_eq hc641585
    have bz641583' : gB z641583 0 65535 := ⟨by omega, by omega⟩
    refine G_iconst 0 dr_cJ1_equals_b5fdf_7 (by decide +kernel) ?_
    refine G_istore_n (L' := [(2, .int 0), (0, .ref q641576), (1, .ref qs641577)]) dr_cJ1_equals_b5fdf_8 (Nat.le_of_ble_eq_true rfl) rfl ?_
    have hlp9_641652 : ∀ (n9_641652 : Nat) (g641652 : Int32), gB g641652 0 16777216 → ((16777217 : Int) - g641652.toInt).toNat < n9_641652 → G (gV D I) l (gRm 0 0 0 0) (gMA (gV D I) (pp_641582_StringLatin1_equals D I P641574 F641575 q641576 qs641577 bs641578 f641579 n641580) gNA 0 0) ky_641582_StringLatin1_equals 9 [(2, .int g641652), (0, .ref q641576), (1, .ref qs641577)] [] (va_pl P641574 F641575) 0 0 := by
      intro n9_641652
      induction n9_641652 with
      | zero => intro g641652 bg641652 hm9_641652; exact absurd hm9_641652 (Nat.not_lt_zero _)
      | succ n9_641652 ih9_641652 =>
        intro g641652 bg641652 hm9_641652
        refine G_iload_n 0 dr_cJ1_equals_b5fdf_9 rfl ?_
        refine G_aload_n 1 dr_cJ1_equals_b5fdf_10 rfl ?_
        refine Gp_alen (Int32.ofNat n641580) 1 hmq641576 heq641576 dr_cJ1_equals_b5fdf_11 rfl rfl (G_nam fun z641653 hz641653 => ?_)
        have ez641653 : z641653.toInt = (n641580 : Nat) := gI_ofM hz641653 (by omega)
        have bz641653 : gB z641653 0 16777216 := ⟨by omega, by omega⟩
        refine G_icmp_ge 32 dr_cJ1_equals_b5fdf_12 (by decide +kernel) (fun hc641654 => ?_) (fun hc641654 => ?_)
        · have r641655 : z641653.toInt ≤ g641652.toInt := gC_le hc641654
          refine G_iconst 1 dr_cJ1_equals_b5fdf_32 (by decide +kernel) ?_
          exact G_zretA FieldType.boolean dr_cJ1_equals_b5fdf_33 rfl rfl (Nat.le_of_ble_eq_true rfl) (Nat.le_of_ble_eq_true rfl) ⟨1, rfl, rfl, (Nat.le_of_ble_eq_true rfl), (Nat.le_of_ble_eq_true rfl), (gB_w (gBl (show Int32.toInt 1 = 1 by decide)) (by decide) (by decide))⟩
        · have r641656 : g641652.toInt < z641653.toInt := gC_nle hc641654
          have bg641652' : gB g641652 0 16777215 := ⟨by omega, by omega⟩
          have bz641653' : gB z641653 1 16777216 := ⟨by omega, by omega⟩
          refine G_aload_n 1 dr_cJ1_equals_b5fdf_15 rfl ?_
          refine G_iload_n 0 dr_cJ1_equals_b5fdf_16 rfl ?_
          refine Gp_bald 1 hmq641576 heq641576 dr_cJ1_equals_b5fdf_17 rfl (gB_inr (by omega) (by omega)) (G_nam fun z641657 hz641657 => ?_)
          have bz641657 : gB z641657 (-128) 127 := by rw [hz641657]; exact bf641579 _
          refine G_aload_n 2 dr_cJ1_equals_b5fdf_18 rfl ?_
          refine G_iload_n 0 dr_cJ1_equals_b5fdf_19 rfl ?_
          refine G_kbald (f := fun j => bs641578.getD j 0) dr_cJ1_equals_b5fdf_20 hbs641578 (gB_inr (by omega) (by omega)) (G_nam fun z641658 hz641658 => ?_)
          have bz641658 : gB z641658 (-2147483648) 2147483647 := gB_any z641658
          refine G_icmp_eq 26 dr_cJ1_equals_b5fdf_21 (by decide +kernel) (fun hc641659 => ?_) (fun hc641659 => ?_)
          · have r641660 : z641657.toInt = z641658.toInt := gC_eq hc641659
            have bz641658' : gB z641658 (-128) 127 := ⟨by omega, by omega⟩
            obtain ⟨z641661, hz641661⟩ : ∃ z : Int32, z = g641652 + Int32.ofInt 1 := ⟨_, rfl⟩
            have ez641661 : z641661.toInt = g641652.toInt + 1 := gI_inc hz641661 (by decide) bg641652' (by decide) (by decide)
            have bz641661 : gB z641661 1 16777216 := ⟨by omega, by omega⟩
            refine G_iinc (L' := [(2, .int z641661), (0, .ref q641576), (1, .ref qs641577)]) z641661 0 dr_cJ1_equals_b5fdf_26 rfl hz641661.symm (Nat.le_of_ble_eq_true rfl) rfl ?_
            refine G_goto 9 dr_cJ1_equals_b5fdf_29 (by decide +kernel) ?_
            exact ih9_641652 z641661 (gB_w bz641661 (by decide) (by decide)) (by omega)
          · have r641662 : z641657.toInt ≠ z641658.toInt := gC_ne hc641659
            refine G_iconst 0 dr_cJ1_equals_b5fdf_24 (by decide +kernel) ?_
            exact G_zretA FieldType.boolean dr_cJ1_equals_b5fdf_25 rfl rfl (Nat.le_of_ble_eq_true rfl) (Nat.le_of_ble_eq_true rfl) ⟨0, rfl, rfl, (Nat.le_of_ble_eq_true rfl), (Nat.le_of_ble_eq_true rfl), (gB_w (gBl (show Int32.toInt 0 = 0 by decide)) (by decide) (by decide))⟩
    exact hlp9_641652 (((16777217 : Int) - 0).toNat + 1) 0 (gB_w (gBl (show Int32.toInt 0 = 0 by decide)) (by decide) (by decide)) (Nat.lt_succ_self _)
abbrev ky_641573_String_equals : gKey := (cJ0_equals_9ea2d, 3, "java/lang/String", (some FieldType.boolean), [], "equals", fun _ _ => True)
def pp_641573_String_equals (D : va_G) (I : FieldType → ClassId) (P641561 : List Nat) (F641562 : Nat → va_E) (q641563 : Nat) (q641564 : Nat) (qs641565 : Nat) (qb641566 : Nat) (bs641567 : List Int32) (p641568 : Int32) (p641569 : Int32) (f641570 : Nat → Int32) (n641571 : Nat) : Option Value → va_W → Nat → Nat → Prop := fun r w dc ds => (∃ (o641669 : Int32), r = some (.int 0) ∧ w = va_pl P641561 F641562 ∧ dc ≤ 0 ∧ ds ≤ 0 ∧ o641669.toInt = 0 ∧ gB o641669 0 0) ∨ (∃ (o641669 : Int32), r = some (.int 1) ∧ w = va_pl P641561 F641562 ∧ dc ≤ 0 ∧ ds ≤ 0 ∧ o641669.toInt ≠ 0 ∧ gB o641669 1 1) ∨ (r = some (.int 1) ∧ w = va_pl P641561 F641562 ∧ dc ≤ 0 ∧ ds ≤ 0)
set_option maxRecDepth 100000 in
set_option maxHeartbeats 4000000 in
theorem cp_641573_String_equals (l : Launch) (hl0 : l.stackTraces = false) (D : va_G) (I : FieldType → ClassId) (P641561 : List Nat) (F641562 : Nat → va_E) (q641563 : Nat) (q641564 : Nat) (qs641565 : Nat) (qb641566 : Nat) (bs641567 : List Int32) (p641568 : Int32) (p641569 : Int32) (f641570 : Nat → Int32) (n641571 : Nat) (hmq641563 : q641563 ∈ P641561) (hmq641564 : q641564 ∈ P641561) (heq641563 : F641562 q641563 = .inr (0, [.ref q641564, .int 0, .int p641568, .int p641569])) (heq641564 : F641562 q641564 = .inl (I .byte, n641571, .inl f641570)) (hbs641567 : ∀ A s H, (gV D I).2.2.2.1 A s H → gSC qs641565 qb641566 bs641567 A s H) (nbs641567 : (bs641567.length : Int) ≤ 65535) (lbs641567 : gLB bs641567) (bp641569 : gB p641569 0 1) (bf641570 : gF f641570 (-128) 127) (x641572 : ((n641571 : Int) ≤ 16777216)) : CtA (gV D I) l yJ0_equals_9ea2d cJ0_equals_9ea2d 3 (some FieldType.boolean) 1 22 0 0 [.ref q641563, .ref qs641565] (va_pl P641561 F641562) (pp_641573_String_equals D I P641561 F641562 q641563 q641564 qs641565 qb641566 bs641567 p641568 p641569 f641570 n641571) gNA := by
  refine CtA_ofF hl0 (by decide +kernel) (Nat.le_of_ble_eq_true rfl) ?_
  have bp641568 := gB_any p641568
  refine G_aload_n 0 dr_cJ0_equals_9ea2d_0 rfl ?_
  refine G_aload_n 1 dr_cJ0_equals_9ea2d_1 rfl ?_
  refine G_acmp_ne 7 dr_cJ0_equals_9ea2d_2 (by decide +kernel) (fun hc => ?_) (fun hc => ?_)
  · refine G_aload_n 1 dr_cJ0_equals_9ea2d_7 rfl ?_
    refine G_instK dr_cJ0_equals_9ea2d_8 wr_9_149 wr_8_71 (fun _ _ _ h => (hbs641567 _ _ _ h).1) ?_
    refine G_if_eq 54 dr_cJ0_equals_9ea2d_11 (by decide +kernel) (fun hc => absurd hc (by decide)) (fun _ => ?_)
    refine G_aload_n 1 dr_cJ0_equals_9ea2d_14 rfl ?_
    refine G_casK dr_cJ0_equals_9ea2d_15 wr_9_149 wr_8_71 (fun _ _ _ h => (hbs641567 _ _ _ h).1) ?_
    refine G_astore_n (L' := [(2, .ref qs641565), (0, .ref q641563), (1, .ref qs641565)]) dr_cJ0_equals_9ea2d_18 (Nat.le_of_ble_eq_true rfl) rfl ?_
    refine G_gets dr_cJ0_equals_9ea2d_19 wr_3_65 gz_cs (fun x hx => ?_)
    subst hx
    refine G_if_eq 36 dr_cJ0_equals_9ea2d_22 (by decide +kernel) (fun hc => absurd hc (by decide)) (fun _ => ?_)
    refine G_aload_n 1 dr_cJ0_equals_9ea2d_25 rfl ?_
    refine Gp_get 1 hmq641563 heq641563 dr_cJ0_equals_9ea2d_26 (gk_J0 D I) (Nat.le_of_ble_eq_true rfl) wr_8_183 rfl ?_
    refine G_aload_n 0 dr_cJ0_equals_9ea2d_29 rfl ?_
    refine G_kget dr_cJ0_equals_9ea2d_30 wr_8_183 (fun _ _ _ h => (hbs641567 _ _ _ h).2.1) ?_
    refine G_icmp_ne 54 dr_cJ0_equals_9ea2d_33 (by decide +kernel) (fun hc => absurd hc (by decide)) (fun _ => ?_)
    refine G_aload_n 1 dr_cJ0_equals_9ea2d_36 rfl ?_
    refine Gp_get 0 hmq641563 heq641563 dr_cJ0_equals_9ea2d_37 (gk_J0 D I) (Nat.le_of_ble_eq_true rfl) wr_8_182 rfl ?_
    refine G_aload_n 0 dr_cJ0_equals_9ea2d_40 rfl ?_
    refine G_kget dr_cJ0_equals_9ea2d_41 wr_8_182 (fun _ _ _ h => (hbs641567 _ _ _ h).2.2.1) ?_
    refine Gw_callS (As := [.ref q641564, .ref qb641566]) (gV_ok D I) (cp_641582_StringLatin1_equals l hl0 D I P641561 F641562 q641564 qb641566 bs641567 f641570 n641571 hmq641564 heq641564 (fun _ _ _ h => (hbs641567 _ _ _ h).2.2.2) (by omega) lbs641567 bf641570 (by have qa0 : Int32.toInt 0 = 0 := (by decide); omega)) dr_cJ0_equals_9ea2d_44 ⟨wr_9_150, wr_1_28, wr_9_152, by decide, rfl, (Nat.le_of_ble_eq_true rfl), (Nat.le_of_ble_eq_true rfl)⟩ wr_9_151 (show 0 + 0 ≤ 0 by first | omega | decide) (show 0 + 0 ≤ 0 by first | omega | decide) (Nat.le_of_ble_eq_true rfl) (fun r641667 w641668 dc641664 ds641665 hp641666 => ?_) (fun _ _ _ _ _ z => z.elim)
    obtain ⟨o641669, rfl, rfl, hdc, hds, bo641669⟩ := hp641666
    change G _ _ _ _ _ _ _ (.int o641669 :: _) _ _ _
    refine G_widen (cs' := 0) (sl' := 0) (by omega) (by omega) ?_
    refine G_if_eq 54 dr_cJ0_equals_9ea2d_47 (by decide +kernel) (fun hc641670 => ?_) (fun hc641670 => ?_)
    · have r641671 : o641669.toInt = 0 := gj_eq hc641670 (show Int32.toInt 0 = 0 by decide)
      have bo641669' : gB o641669 0 0 := ⟨by omega, by omega⟩
      refine G_iconst 0 dr_cJ0_equals_9ea2d_54 (by decide +kernel) ?_
      exact G_zretA FieldType.boolean dr_cJ0_equals_9ea2d_55 rfl rfl (Nat.le_of_ble_eq_true rfl) (Nat.le_of_ble_eq_true rfl) (Or.inl ⟨o641669, rfl, rfl, (Nat.le_of_ble_eq_true rfl), (Nat.le_of_ble_eq_true rfl), r641671, bo641669'⟩)
    · have r641672 : o641669.toInt ≠ 0 := gj_neq hc641670 (show Int32.toInt 0 = 0 by decide)
      have bo641669' : gB o641669 1 1 := ⟨by omega, by omega⟩
      refine G_iconst 1 dr_cJ0_equals_9ea2d_50 (by decide +kernel) ?_
      refine G_goto 55 dr_cJ0_equals_9ea2d_51 (by decide +kernel) ?_
      exact G_zretA FieldType.boolean dr_cJ0_equals_9ea2d_55 rfl rfl (Nat.le_of_ble_eq_true rfl) (Nat.le_of_ble_eq_true rfl) (Or.inr (Or.inl ⟨o641669, rfl, rfl, (Nat.le_of_ble_eq_true rfl), (Nat.le_of_ble_eq_true rfl), r641672, bo641669'⟩))
  · refine G_iconst 1 dr_cJ0_equals_9ea2d_5 (by decide +kernel) ?_
    exact G_zretA FieldType.boolean dr_cJ0_equals_9ea2d_6 rfl rfl (Nat.le_of_ble_eq_true rfl) (Nat.le_of_ble_eq_true rfl) (Or.inr (Or.inr (⟨rfl, rfl, (Nat.le_of_ble_eq_true rfl), (Nat.le_of_ble_eq_true rfl)⟩)))
abbrev ky_641686_String_isLatin1 : gKey := (cJ0_isLatin1_aae02, 1, "java/lang/String", (some FieldType.boolean), [], "isLatin1", fun _ _ => True)
def pp_641686_String_isLatin1 (D : va_G) (I : FieldType → ClassId) (P641681 : List Nat) (F641682 : Nat → va_E) (qs641683 : Nat) (qb641684 : Nat) (bs641685 : List Int32) : Option Value → va_W → Nat → Nat → Prop := fun r w dc ds => r = some (.int 1) ∧ w = va_pl P641681 F641682 ∧ dc ≤ 0 ∧ ds ≤ 0
set_option maxRecDepth 100000 in
set_option maxHeartbeats 4000000 in
theorem cp_641686_String_isLatin1 (l : Launch) (hl0 : l.stackTraces = false) (D : va_G) (I : FieldType → ClassId) (P641681 : List Nat) (F641682 : Nat → va_E) (qs641683 : Nat) (qb641684 : Nat) (bs641685 : List Int32) (hbs641685 : ∀ A s H, (gV D I).2.2.2.1 A s H → gSC qs641683 qb641684 bs641685 A s H) (nbs641685 : (bs641685.length : Int) ≤ 65535) (lbs641685 : gLB bs641685) : CtA (gV D I) l yJ0_isLatin1_aae02 cJ0_isLatin1_aae02 1 (some FieldType.boolean) 0 0 0 0 [.ref qs641683] (va_pl P641681 F641682) (pp_641686_String_isLatin1 D I P641681 F641682 qs641683 qb641684 bs641685) gNA := by
  refine CtA_ofF hl0 (by decide +kernel) (Nat.le_of_ble_eq_true rfl) ?_
  refine G_gets dr_cJ0_isLatin1_aae02_0 wr_3_65 gz_cs (fun x hx => ?_)
  subst hx
  refine G_if_eq 17 dr_cJ0_isLatin1_aae02_3 (by decide +kernel) (fun hc => absurd hc (by decide)) (fun _ => ?_)
  refine G_aload_n 0 dr_cJ0_isLatin1_aae02_6 rfl ?_
  refine G_kget dr_cJ0_isLatin1_aae02_7 wr_8_183 (fun _ _ _ h => (hbs641685 _ _ _ h).2.1) ?_
  refine G_if_ne 17 dr_cJ0_isLatin1_aae02_10 (by decide +kernel) (fun hc => absurd hc (by decide)) (fun _ => ?_)
  refine G_iconst 1 dr_cJ0_isLatin1_aae02_13 (by decide +kernel) ?_
  refine G_goto 18 dr_cJ0_isLatin1_aae02_14 (by decide +kernel) ?_
  exact G_zretA FieldType.boolean dr_cJ0_isLatin1_aae02_18 rfl rfl (Nat.le_of_ble_eq_true rfl) (Nat.le_of_ble_eq_true rfl) ⟨rfl, rfl, (Nat.le_of_ble_eq_true rfl), (Nat.le_of_ble_eq_true rfl)⟩
abbrev ky_641698_StringLatin1_charAt : gKey := (cJ1_charAt_3b067, 2, "java/lang/StringLatin1", (some FieldType.char), [], "charAt", fun _ _ => True)
def pp_641698_StringLatin1_charAt (D : va_G) (I : FieldType → ClassId) (P641692 : List Nat) (F641693 : Nat → va_E) (qs641694 : Nat) (bs641695 : List Int32) (p641696 : Int32) : Option Value → va_W → Nat → Nat → Prop := fun r w dc ds => ∃ (o641708 : Int32), r = some (.int o641708) ∧ w = va_pl P641692 F641693 ∧ dc ≤ 0 ∧ ds ≤ 0 ∧ gB o641708 0 65535
set_option maxRecDepth 100000 in
set_option maxHeartbeats 4000000 in
theorem cp_641698_StringLatin1_charAt (l : Launch) (hl0 : l.stackTraces = false) (D : va_G) (I : FieldType → ClassId) (P641692 : List Nat) (F641693 : Nat → va_E) (qs641694 : Nat) (bs641695 : List Int32) (p641696 : Int32) (hbs641695 : ∀ A s H, (gV D I).2.2.2.1 A s H → va_T .byte qs641694 bs641695.length (fun j => .int (bs641695.getD j 0)) A s H) (nbs641695 : (bs641695.length : Int) ≤ 65535) (lbs641695 : gLB bs641695) (bp641696 : gB p641696 0 16777215) (x641697 : p641696.toInt < (bs641695.length : Int)) : CtA (gV D I) l yJ1_charAt_3b067 cJ1_charAt_3b067 2 (some FieldType.char) 2 43 0 0 [.ref qs641694, .int p641696] (va_pl P641692 F641693) (pp_641698_StringLatin1_charAt D I P641692 F641693 qs641694 bs641695 p641696) gNA := by
  refine CtA_ofF hl0 (by decide +kernel) (Nat.le_of_ble_eq_true rfl) ?_
  refine G_iload_n 1 dr_cJ1_charAt_3b067_0 rfl ?_
  refine G_aload_n 0 dr_cJ1_charAt_3b067_1 rfl ?_
  refine G_klen dr_cJ1_charAt_3b067_2 hbs641695 (G_nam fun z641699 hz641699 => ?_)
  have ez641699 : z641699.toInt = (bs641695.length : Int) := gI_ofN hz641699 nbs641695
  have bz641699 : gB z641699 0 65535 := ⟨by omega, by omega⟩
  refine Gw_callS (As := [.int p641696, .int z641699]) (gV_ok D I) (cp_640050_String_checkIndex l hl0 D I P641692 F641693 p641696 z641699 (gB_w bp641696 (by decide) (by decide)) (gB_w bz641699 (by decide) (by decide)) (by omega)) dr_cJ1_charAt_3b067_3 ⟨wr_3_78, wr_1_21, wr_3_80, by decide, rfl, (Nat.le_of_ble_eq_true rfl), (Nat.le_of_ble_eq_true rfl)⟩ wr_3_79 (show 0 + 0 ≤ 0 by first | omega | decide) (show 0 + 0 ≤ 0 by first | omega | decide) (Nat.le_of_ble_eq_true rfl) (fun r641703 w641704 dc641700 ds641701 hp641702 => ?_) (fun _ _ _ _ _ z => z.elim)
  obtain ⟨rfl, rfl, hdc, hds⟩ := hp641702
  change G _ _ _ _ _ _ _ _ _ _ _
  refine G_widen (cs' := 0) (sl' := 0) (by omega) (by omega) ?_
  refine G_aload_n 0 dr_cJ1_charAt_3b067_6 rfl ?_
  refine G_iload_n 1 dr_cJ1_charAt_3b067_7 rfl ?_
  refine G_kbald (f := fun j => bs641695.getD j 0) dr_cJ1_charAt_3b067_8 hbs641695 (gB_inr (by omega) (by omega)) (G_nam fun z641705 hz641705 => ?_)
  have bz641705 : gB z641705 (-2147483648) 2147483647 := gB_any z641705
  refine G_sipush 255 dr_cJ1_charAt_3b067_9 (by decide +kernel) ?_
  refine G_iand dr_cJ1_charAt_3b067_12 (G_nam fun z641706 hz641706 => ?_)
  have bz641706 : gB z641706 0 255 := gB_and hz641706 (gBl (show Int32.toInt 255 = 255 by decide)) (by decide)
  refine G_i2c dr_cJ1_charAt_3b067_13 (G_nam fun z641707 hz641707 => ?_)
  have bz641707 : gB z641707 0 65535 := gB_i2c hz641707
  exact G_zretA FieldType.char dr_cJ1_charAt_3b067_14 rfl (gN_char bz641707) (Nat.le_of_ble_eq_true rfl) (Nat.le_of_ble_eq_true rfl) ⟨z641707, rfl, rfl, (Nat.le_of_ble_eq_true rfl), (Nat.le_of_ble_eq_true rfl), bz641707⟩
