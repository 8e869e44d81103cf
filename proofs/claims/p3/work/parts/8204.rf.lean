theorem dr_cJ5_getValue_6d5f1_0 : decode cJ5_getValue_6d5f1 0 = .ok (.aload_n 0, 1) := by decide +kernel
theorem dr_cJ5_getValue_6d5f1_1 : decode cJ5_getValue_6d5f1 1 = .ok (.getfield 15, 3) := by decide +kernel
theorem dr_cJ5_getValue_6d5f1_4 : decode cJ5_getValue_6d5f1 4 = .ok (.areturn, 1) := by decide +kernel
theorem dr_cJ7_checkLength_df160_0 : decode cJ7_checkLength_df160 0 = .ok (.iload_n 1, 1) := by decide +kernel
theorem dr_cJ7_checkLength_df160_1 : decode cJ7_checkLength_df160 1 = .ok (.iload_n 0, 1) := by decide +kernel
theorem dr_cJ7_checkLength_df160_2 : decode cJ7_checkLength_df160 2 = .ok (.if_icmp .ge 35, 3) := by decide +kernel
theorem dr_cJ7_checkLength_df160_37 : decode cJ7_checkLength_df160 37 = .ok (.return_, 1) := by decide +kernel
theorem dr_cJ7_copyOfRangeByte_39247_0 : decode cJ7_copyOfRangeByte_39247 0 = .ok (.iload_n 1, 1) := by decide +kernel
theorem dr_cJ7_copyOfRangeByte_39247_1 : decode cJ7_copyOfRangeByte_39247 1 = .ok (.iload_n 2, 1) := by decide +kernel
theorem dr_cJ7_copyOfRangeByte_39247_2 : decode cJ7_copyOfRangeByte_39247 2 = .ok (.invokestatic 343, 3) := by decide +kernel
theorem wr_8_99 : (Jvm.Cond.methodLink "java/util/Arrays" (343 : Nat) ({ cls := "java/util/Arrays", name := "checkLength", desc := "(II)V" } : Jvm.MethodName)) ∈ gw := gw_8 99 rfl rfl
theorem wr_8_101 : (Jvm.Cond.code ({ cls := "java/util/Arrays", name := "checkLength", desc := "(II)V" } : Jvm.MethodName) prog_44_method_131_code (2 : Nat) (Option.none : Option Jvm.ClassFile.FieldType)) ∈ gw := gw_8 101 rfl rfl
theorem wr_8_100 : (Jvm.Cond.static ({ cls := "java/util/Arrays", name := "checkLength", desc := "(II)V" } : Jvm.MethodName)) ∈ gw := gw_8 100 rfl rfl
theorem dr_cJ7_copyOfRangeByte_39247_5 : decode cJ7_copyOfRangeByte_39247 5 = .ok (.iload_n 2, 1) := by decide +kernel
theorem dr_cJ7_copyOfRangeByte_39247_6 : decode cJ7_copyOfRangeByte_39247 6 = .ok (.iload_n 1, 1) := by decide +kernel
theorem dr_cJ7_copyOfRangeByte_39247_7 : decode cJ7_copyOfRangeByte_39247 7 = .ok (.isub, 1) := by decide +kernel
theorem dr_cJ7_copyOfRangeByte_39247_8 : decode cJ7_copyOfRangeByte_39247 8 = .ok (.istore_n 3, 1) := by decide +kernel
theorem dr_cJ7_copyOfRangeByte_39247_9 : decode cJ7_copyOfRangeByte_39247 9 = .ok (.iload_n 3, 1) := by decide +kernel
theorem dr_cJ7_copyOfRangeByte_39247_10 : decode cJ7_copyOfRangeByte_39247 10 = .ok (.newarray .byte, 2) := by decide +kernel
theorem dr_cJ7_copyOfRangeByte_39247_12 : decode cJ7_copyOfRangeByte_39247 12 = .ok (.astore 4, 2) := by decide +kernel
theorem dr_cJ7_copyOfRangeByte_39247_14 : decode cJ7_copyOfRangeByte_39247 14 = .ok (.aload_n 0, 1) := by decide +kernel
theorem dr_cJ7_copyOfRangeByte_39247_15 : decode cJ7_copyOfRangeByte_39247 15 = .ok (.iload_n 1, 1) := by decide +kernel
theorem dr_cJ7_copyOfRangeByte_39247_16 : decode cJ7_copyOfRangeByte_39247 16 = .ok (.aload 4, 2) := by decide +kernel
theorem dr_cJ7_copyOfRangeByte_39247_18 : decode cJ7_copyOfRangeByte_39247 18 = .ok (.iconst 0, 1) := by decide +kernel
theorem dr_cJ7_copyOfRangeByte_39247_19 : decode cJ7_copyOfRangeByte_39247 19 = .ok (.aload_n 0, 1) := by decide +kernel
theorem dr_cJ7_copyOfRangeByte_39247_20 : decode cJ7_copyOfRangeByte_39247 20 = .ok (.arraylength, 1) := by decide +kernel
theorem dr_cJ7_copyOfRangeByte_39247_21 : decode cJ7_copyOfRangeByte_39247 21 = .ok (.iload_n 1, 1) := by decide +kernel
theorem dr_cJ7_copyOfRangeByte_39247_22 : decode cJ7_copyOfRangeByte_39247 22 = .ok (.isub, 1) := by decide +kernel
theorem dr_cJ7_copyOfRangeByte_39247_23 : decode cJ7_copyOfRangeByte_39247 23 = .ok (.iload_n 3, 1) := by decide +kernel
theorem dr_cJ7_copyOfRangeByte_39247_24 : decode cJ7_copyOfRangeByte_39247 24 = .ok (.invokestatic 304, 3) := by decide +kernel
theorem dr_cJ7_copyOfRangeByte_39247_27 : decode cJ7_copyOfRangeByte_39247 27 = .ok (.invokestatic 150, 3) := by decide +kernel
theorem dr_cJ7_copyOfRangeByte_39247_30 : decode cJ7_copyOfRangeByte_39247 30 = .ok (.aload 4, 2) := by decide +kernel
theorem dr_cJ7_copyOfRangeByte_39247_32 : decode cJ7_copyOfRangeByte_39247 32 = .ok (.areturn, 1) := by decide +kernel
theorem dr_cJ7_copyOfRange_39247_0 : decode cJ7_copyOfRange_39247 0 = .ok (.iload_n 1, 1) := by decide +kernel
theorem dr_cJ7_copyOfRange_39247_1 : decode cJ7_copyOfRange_39247 1 = .ok (.ifCond .ne 9, 3) := by decide +kernel
theorem dr_cJ7_copyOfRange_39247_4 : decode cJ7_copyOfRange_39247 4 = .ok (.iload_n 2, 1) := by decide +kernel
theorem dr_cJ7_copyOfRange_39247_5 : decode cJ7_copyOfRange_39247 5 = .ok (.aload_n 0, 1) := by decide +kernel
theorem dr_cJ7_copyOfRange_39247_6 : decode cJ7_copyOfRange_39247 6 = .ok (.arraylength, 1) := by decide +kernel
theorem dr_cJ7_copyOfRange_39247_7 : decode cJ7_copyOfRange_39247 7 = .ok (.if_icmp .eq 10, 3) := by decide +kernel
theorem dr_cJ7_copyOfRange_39247_17 : decode cJ7_copyOfRange_39247 17 = .ok (.aload_n 0, 1) := by decide +kernel
theorem dr_cJ7_copyOfRange_39247_18 : decode cJ7_copyOfRange_39247 18 = .ok (.invokevirtual 310, 3) := by decide +kernel
theorem wr_8_24 : (Jvm.Cond.methodLink "java/util/Arrays" (310 : Nat) ({ cls := "[B", name := "clone", desc := "()Ljava/lang/Object;" } : Jvm.MethodName)) ∈ gw := gw_8 24 rfl rfl
theorem wr_8_25 : (Jvm.Cond.sameMethod "[B" "java/lang/Object" "clone" "()Ljava/lang/Object;") ∈ gw := gw_8 25 rfl rfl
theorem wr_8_26 : (Jvm.Cond.native ({ cls := "java/lang/Object", name := "clone", desc := "()Ljava/lang/Object;" } : Jvm.MethodName)) ∈ gw := gw_8 26 rfl rfl
theorem wr_8_27 : (Jvm.Cond.instanceMethod ({ cls := "java/lang/Object", name := "clone", desc := "()Ljava/lang/Object;" } : Jvm.MethodName)) ∈ gw := gw_8 27 rfl rfl
theorem wr_8_28 : (Jvm.Cond.selects "[B" ({ cls := "[B", name := "clone", desc := "()Ljava/lang/Object;" } : Jvm.MethodName) ({ cls := "java/lang/Object", name := "clone", desc := "()Ljava/lang/Object;" } : Jvm.MethodName)) ∈ gw := gw_8 28 rfl rfl
theorem dr_cJ7_copyOfRange_39247_21 : decode cJ7_copyOfRange_39247 21 = .ok (.checkcast 311, 3) := by decide +kernel
theorem wr_8_30 : (Jvm.Cond.classLink "java/util/Arrays" (311 : Nat) "[B") ∈ gw := gw_8 30 rfl rfl
theorem dr_cJ7_copyOfRange_39247_24 : decode cJ7_copyOfRange_39247 24 = .ok (.areturn, 1) := by decide +kernel
theorem dr_cJ7_copyOfRange_39247_10 : decode cJ7_copyOfRange_39247 10 = .ok (.aload_n 0, 1) := by decide +kernel
theorem dr_cJ7_copyOfRange_39247_11 : decode cJ7_copyOfRange_39247 11 = .ok (.iload_n 1, 1) := by decide +kernel
theorem dr_cJ7_copyOfRange_39247_12 : decode cJ7_copyOfRange_39247 12 = .ok (.iload_n 2, 1) := by decide +kernel
theorem dr_cJ7_copyOfRange_39247_13 : decode cJ7_copyOfRange_39247 13 = .ok (.invokestatic 339, 3) := by decide +kernel
theorem wr_8_96 : (Jvm.Cond.methodLink "java/util/Arrays" (339 : Nat) ({ cls := "java/util/Arrays", name := "copyOfRangeByte", desc := "([BII)[B" } : Jvm.MethodName)) ∈ gw := gw_8 96 rfl rfl
theorem wr_8_98 : (Jvm.Cond.code ({ cls := "java/util/Arrays", name := "copyOfRangeByte", desc := "([BII)[B" } : Jvm.MethodName) prog_44_method_133_code (5 : Nat) (Option.some (Jvm.ClassFile.FieldType.array Jvm.ClassFile.FieldType.byte))) ∈ gw := gw_8 98 rfl rfl
theorem wr_8_97 : (Jvm.Cond.static ({ cls := "java/util/Arrays", name := "copyOfRangeByte", desc := "([BII)[B" } : Jvm.MethodName)) ∈ gw := gw_8 97 rfl rfl
theorem dr_cJ7_copyOfRange_39247_16 : decode cJ7_copyOfRange_39247 16 = .ok (.areturn, 1) := by decide +kernel
theorem dr_cJ0_init_db425_0 : decode cJ0_init_db425 0 = .ok (.aload_n 0, 1) := by decide +kernel
theorem dr_cJ0_init_db425_1 : decode cJ0_init_db425 1 = .ok (.invokespecial 1, 3) := by decide +kernel
theorem wr_8_78 : (Jvm.Cond.methodLink "java/lang/String" (1 : Nat) ({ cls := "java/lang/Object", name := "<init>", desc := "()V" } : Jvm.MethodName)) ∈ gw := gw_8 78 rfl rfl
theorem dr_cJ0_init_db425_4 : decode cJ0_init_db425 4 = .ok (.aload_n 1, 1) := by decide +kernel
theorem dr_cJ0_init_db425_5 : decode cJ0_init_db425 5 = .ok (.invokevirtual 552, 3) := by decide +kernel
theorem wr_8_79 : (Jvm.Cond.methodLink "java/lang/String" (552 : Nat) ({ cls := "java/lang/AbstractStringBuilder", name := "getValue", desc := "()[B" } : Jvm.MethodName)) ∈ gw := gw_8 79 rfl rfl
theorem wr_8_83 : (Jvm.Cond.code ({ cls := "java/lang/AbstractStringBuilder", name := "getValue", desc := "()[B" } : Jvm.MethodName) prog_21_method_64_code (1 : Nat) (Option.some (Jvm.ClassFile.FieldType.array Jvm.ClassFile.FieldType.byte))) ∈ gw := gw_8 83 rfl rfl
theorem wr_8_80 : (Jvm.Cond.instanceMethod ({ cls := "java/lang/AbstractStringBuilder", name := "getValue", desc := "()[B" } : Jvm.MethodName)) ∈ gw := gw_8 80 rfl rfl
theorem wr_8_82 : (Jvm.Cond.selects "java/lang/StringBuilder" ({ cls := "java/lang/AbstractStringBuilder", name := "getValue", desc := "()[B" } : Jvm.MethodName) ({ cls := "java/lang/AbstractStringBuilder", name := "getValue", desc := "()[B" } : Jvm.MethodName)) ∈ gw := gw_8 82 rfl rfl
theorem dr_cJ0_init_db425_8 : decode cJ0_init_db425 8 = .ok (.astore_n 3, 1) := by decide +kernel
theorem dr_cJ0_init_db425_9 : decode cJ0_init_db425 9 = .ok (.aload_n 1, 1) := by decide +kernel
theorem dr_cJ0_init_db425_10 : decode cJ0_init_db425 10 = .ok (.invokevirtual 549, 3) := by decide +kernel
theorem wr_8_84 : (Jvm.Cond.methodLink "java/lang/String" (549 : Nat) ({ cls := "java/lang/AbstractStringBuilder", name := "length", desc := "()I" } : Jvm.MethodName)) ∈ gw := gw_8 84 rfl rfl
theorem wr_8_87 : (Jvm.Cond.selects "java/lang/StringBuilder" ({ cls := "java/lang/AbstractStringBuilder", name := "length", desc := "()I" } : Jvm.MethodName) ({ cls := "java/lang/StringBuilder", name := "length", desc := "()I" } : Jvm.MethodName)) ∈ gw := gw_8 87 rfl rfl
theorem wr_8_88 : (Jvm.Cond.instanceMethod ({ cls := "java/lang/StringBuilder", name := "length", desc := "()I" } : Jvm.MethodName)) ∈ gw := gw_8 88 rfl rfl
theorem wr_1_20 : (Jvm.Cond.initialized "java/lang/StringBuilder") ∈ gw := gw_1 20 rfl rfl
theorem wr_8_89 : (Jvm.Cond.code ({ cls := "java/lang/StringBuilder", name := "length", desc := "()I" } : Jvm.MethodName) prog_35_method_93_code (1 : Nat) (Option.some Jvm.ClassFile.FieldType.int)) ∈ gw := gw_8 89 rfl rfl
theorem dr_cJ0_init_db425_13 : decode cJ0_init_db425 13 = .ok (.istore 4, 2) := by decide +kernel
theorem dr_cJ0_init_db425_15 : decode cJ0_init_db425 15 = .ok (.aload_n 1, 1) := by decide +kernel
theorem dr_cJ0_init_db425_16 : decode cJ0_init_db425 16 = .ok (.invokevirtual 1047, 3) := by decide +kernel
theorem wr_8_92 : (Jvm.Cond.methodLink "java/lang/String" (1047 : Nat) ({ cls := "java/lang/AbstractStringBuilder", name := "isLatin1", desc := "()Z" } : Jvm.MethodName)) ∈ gw := gw_8 92 rfl rfl
theorem dr_cJ0_init_db425_19 : decode cJ0_init_db425 19 = .ok (.ifCond .eq 22, 3) := by decide +kernel
theorem dr_cJ0_init_db425_22 : decode cJ0_init_db425 22 = .ok (.aload_n 0, 1) := by decide +kernel
theorem dr_cJ0_init_db425_23 : decode cJ0_init_db425 23 = .ok (.iconst 0, 1) := by decide +kernel
theorem dr_cJ0_init_db425_24 : decode cJ0_init_db425 24 = .ok (.putfield 15, 3) := by decide +kernel
theorem dr_cJ0_init_db425_27 : decode cJ0_init_db425 27 = .ok (.aload_n 0, 1) := by decide +kernel
theorem dr_cJ0_init_db425_28 : decode cJ0_init_db425 28 = .ok (.aload_n 3, 1) := by decide +kernel
theorem dr_cJ0_init_db425_29 : decode cJ0_init_db425 29 = .ok (.iconst 0, 1) := by decide +kernel
theorem dr_cJ0_init_db425_30 : decode cJ0_init_db425 30 = .ok (.iload 4, 2) := by decide +kernel
theorem dr_cJ0_init_db425_32 : decode cJ0_init_db425 32 = .ok (.invokestatic 54, 3) := by decide +kernel
theorem wr_8_93 : (Jvm.Cond.methodLink "java/lang/String" (54 : Nat) ({ cls := "java/util/Arrays", name := "copyOfRange", desc := "([BII)[B" } : Jvm.MethodName)) ∈ gw := gw_8 93 rfl rfl
theorem wr_8_95 : (Jvm.Cond.code ({ cls := "java/util/Arrays", name := "copyOfRange", desc := "([BII)[B" } : Jvm.MethodName) prog_44_method_132_code (3 : Nat) (Option.some (Jvm.ClassFile.FieldType.array Jvm.ClassFile.FieldType.byte))) ∈ gw := gw_8 95 rfl rfl
theorem wr_8_94 : (Jvm.Cond.static ({ cls := "java/util/Arrays", name := "copyOfRange", desc := "([BII)[B" } : Jvm.MethodName)) ∈ gw := gw_8 94 rfl rfl
theorem dr_cJ0_init_db425_35 : decode cJ0_init_db425 35 = .ok (.putfield 9, 3) := by decide +kernel
theorem dr_cJ0_init_db425_38 : decode cJ0_init_db425 38 = .ok (.goto 59, 3) := by decide +kernel
theorem dr_cJ0_init_db425_97 : decode cJ0_init_db425 97 = .ok (.return_, 1) := by decide +kernel
theorem dr_cJ0_init_81219_0 : decode cJ0_init_81219 0 = .ok (.aload_n 0, 1) := by decide +kernel
theorem dr_cJ0_init_81219_1 : decode cJ0_init_81219 1 = .ok (.aload_n 1, 1) := by decide +kernel
theorem dr_cJ0_init_81219_2 : decode cJ0_init_81219 2 = .ok (.aconst_null, 1) := by decide +kernel
theorem dr_cJ0_init_81219_3 : decode cJ0_init_81219 3 = .ok (.invokespecial 489, 3) := by decide +kernel
theorem wr_8_75 : (Jvm.Cond.methodLink "java/lang/String" (489 : Nat) ({ cls := "java/lang/String", name := "<init>", desc := "(Ljava/lang/AbstractStringBuilder;Ljava/lang/Void;)V" } : Jvm.MethodName)) ∈ gw := gw_8 75 rfl rfl
theorem wr_8_77 : (Jvm.Cond.code ({ cls := "java/lang/String", name := "<init>", desc := "(Ljava/lang/AbstractStringBuilder;Ljava/lang/Void;)V" } : Jvm.MethodName) prog_34_method_150_code (5 : Nat) (Option.none : Option Jvm.ClassFile.FieldType)) ∈ gw := gw_8 77 rfl rfl
theorem wr_8_76 : (Jvm.Cond.instanceMethod ({ cls := "java/lang/String", name := "<init>", desc := "(Ljava/lang/AbstractStringBuilder;Ljava/lang/Void;)V" } : Jvm.MethodName)) ∈ gw := gw_8 76 rfl rfl
theorem dr_cJ0_init_81219_6 : decode cJ0_init_81219 6 = .ok (.return_, 1) := by decide +kernel
theorem dr_cJ4_toString_0e30d_0 : decode cJ4_toString_0e30d 0 = .ok (.new 18, 3) := by decide +kernel
theorem wr_8_70 : (Jvm.Cond.classLink "java/lang/StringBuilder" (18 : Nat) "java/lang/String") ∈ gw := gw_8 70 rfl rfl
theorem wr_8_71 : (Jvm.Cond.instantiable "java/lang/String" (4 : Nat)) ∈ gw := gw_8 71 rfl rfl
theorem dr_cJ4_toString_0e30d_3 : decode cJ4_toString_0e30d 3 = .ok (.dup, 1) := by decide +kernel
theorem dr_cJ4_toString_0e30d_4 : decode cJ4_toString_0e30d 4 = .ok (.aload_n 0, 1) := by decide +kernel
theorem dr_cJ4_toString_0e30d_5 : decode cJ4_toString_0e30d 5 = .ok (.invokespecial 137, 3) := by decide +kernel
theorem wr_8_72 : (Jvm.Cond.methodLink "java/lang/StringBuilder" (137 : Nat) ({ cls := "java/lang/String", name := "<init>", desc := "(Ljava/lang/StringBuilder;)V" } : Jvm.MethodName)) ∈ gw := gw_8 72 rfl rfl
theorem wr_8_74 : (Jvm.Cond.code ({ cls := "java/lang/String", name := "<init>", desc := "(Ljava/lang/StringBuilder;)V" } : Jvm.MethodName) prog_34_method_53_code (2 : Nat) (Option.none : Option Jvm.ClassFile.FieldType)) ∈ gw := gw_8 74 rfl rfl
theorem wr_8_73 : (Jvm.Cond.instanceMethod ({ cls := "java/lang/String", name := "<init>", desc := "(Ljava/lang/StringBuilder;)V" } : Jvm.MethodName)) ∈ gw := gw_8 73 rfl rfl
theorem dr_cJ4_toString_0e30d_8 : decode cJ4_toString_0e30d 8 = .ok (.areturn, 1) := by decide +kernel
theorem dr_cJ1_equals_b5fdf_0 : decode cJ1_equals_b5fdf 0 = .ok (.aload_n 0, 1) := by decide +kernel
theorem dr_cJ1_equals_b5fdf_1 : decode cJ1_equals_b5fdf 1 = .ok (.arraylength, 1) := by decide +kernel
theorem dr_cJ1_equals_b5fdf_2 : decode cJ1_equals_b5fdf 2 = .ok (.aload_n 1, 1) := by decide +kernel
theorem dr_cJ1_equals_b5fdf_3 : decode cJ1_equals_b5fdf 3 = .ok (.arraylength, 1) := by decide +kernel
theorem dr_cJ1_equals_b5fdf_4 : decode cJ1_equals_b5fdf 4 = .ok (.if_icmp .ne 30, 3) := by decide +kernel
theorem dr_cJ1_equals_b5fdf_34 : decode cJ1_equals_b5fdf 34 = .ok (.iconst 0, 1) := by decide +kernel
theorem dr_cJ1_equals_b5fdf_35 : decode cJ1_equals_b5fdf 35 = .ok (.ireturn, 1) := by decide +kernel
theorem dr_cJ1_equals_b5fdf_7 : decode cJ1_equals_b5fdf 7 = .ok (.iconst 0, 1) := by decide +kernel
theorem dr_cJ1_equals_b5fdf_8 : decode cJ1_equals_b5fdf 8 = .ok (.istore_n 2, 1) := by decide +kernel
theorem dr_cJ1_equals_b5fdf_9 : decode cJ1_equals_b5fdf 9 = .ok (.iload_n 2, 1) := by decide +kernel
theorem dr_cJ1_equals_b5fdf_10 : decode cJ1_equals_b5fdf 10 = .ok (.aload_n 0, 1) := by decide +kernel
theorem dr_cJ1_equals_b5fdf_11 : decode cJ1_equals_b5fdf 11 = .ok (.arraylength, 1) := by decide +kernel
theorem dr_cJ1_equals_b5fdf_12 : decode cJ1_equals_b5fdf 12 = .ok (.if_icmp .ge 20, 3) := by decide +kernel
theorem dr_cJ1_equals_b5fdf_32 : decode cJ1_equals_b5fdf 32 = .ok (.iconst 1, 1) := by decide +kernel
theorem dr_cJ1_equals_b5fdf_33 : decode cJ1_equals_b5fdf 33 = .ok (.ireturn, 1) := by decide +kernel
theorem dr_cJ1_equals_b5fdf_15 : decode cJ1_equals_b5fdf 15 = .ok (.aload_n 0, 1) := by decide +kernel
theorem dr_cJ1_equals_b5fdf_16 : decode cJ1_equals_b5fdf 16 = .ok (.iload_n 2, 1) := by decide +kernel
theorem dr_cJ1_equals_b5fdf_17 : decode cJ1_equals_b5fdf 17 = .ok (.baload, 1) := by decide +kernel
theorem dr_cJ1_equals_b5fdf_18 : decode cJ1_equals_b5fdf 18 = .ok (.aload_n 1, 1) := by decide +kernel
theorem dr_cJ1_equals_b5fdf_19 : decode cJ1_equals_b5fdf 19 = .ok (.iload_n 2, 1) := by decide +kernel
theorem dr_cJ1_equals_b5fdf_20 : decode cJ1_equals_b5fdf 20 = .ok (.baload, 1) := by decide +kernel
theorem dr_cJ1_equals_b5fdf_21 : decode cJ1_equals_b5fdf 21 = .ok (.if_icmp .eq 5, 3) := by decide +kernel
theorem dr_cJ1_equals_b5fdf_26 : decode cJ1_equals_b5fdf 26 = .ok (.iinc 2 1, 3) := by decide +kernel
theorem dr_cJ1_equals_b5fdf_29 : decode cJ1_equals_b5fdf 29 = .ok (.goto (-20), 3) := by decide +kernel
theorem dr_cJ1_equals_b5fdf_24 : decode cJ1_equals_b5fdf 24 = .ok (.iconst 0, 1) := by decide +kernel
theorem dr_cJ1_equals_b5fdf_25 : decode cJ1_equals_b5fdf 25 = .ok (.ireturn, 1) := by decide +kernel
theorem dr_cJ0_equals_9ea2d_0 : decode cJ0_equals_9ea2d 0 = .ok (.aload_n 0, 1) := by decide +kernel
theorem dr_cJ0_equals_9ea2d_1 : decode cJ0_equals_9ea2d 1 = .ok (.aload_n 1, 1) := by decide +kernel
theorem dr_cJ0_equals_9ea2d_2 : decode cJ0_equals_9ea2d 2 = .ok (.if_acmp .ne 5, 3) := by decide +kernel
theorem dr_cJ0_equals_9ea2d_7 : decode cJ0_equals_9ea2d 7 = .ok (.aload_n 1, 1) := by decide +kernel
theorem dr_cJ0_equals_9ea2d_8 : decode cJ0_equals_9ea2d 8 = .ok (.instanceof 10, 3) := by decide +kernel
theorem wr_9_149 : (Jvm.Cond.classLink "java/lang/String" (10 : Nat) "java/lang/String") ∈ gw := gw_9 149 rfl rfl
theorem dr_cJ0_equals_9ea2d_11 : decode cJ0_equals_9ea2d 11 = .ok (.ifCond .eq 43, 3) := by decide +kernel
theorem dr_cJ0_equals_9ea2d_14 : decode cJ0_equals_9ea2d 14 = .ok (.aload_n 1, 1) := by decide +kernel
theorem dr_cJ0_equals_9ea2d_15 : decode cJ0_equals_9ea2d 15 = .ok (.checkcast 10, 3) := by decide +kernel
theorem dr_cJ0_equals_9ea2d_18 : decode cJ0_equals_9ea2d 18 = .ok (.astore_n 2, 1) := by decide +kernel
theorem dr_cJ0_equals_9ea2d_19 : decode cJ0_equals_9ea2d 19 = .ok (.getstatic 38, 3) := by decide +kernel
theorem dr_cJ0_equals_9ea2d_22 : decode cJ0_equals_9ea2d 22 = .ok (.ifCond .eq 14, 3) := by decide +kernel
theorem dr_cJ0_equals_9ea2d_25 : decode cJ0_equals_9ea2d 25 = .ok (.aload_n 0, 1) := by decide +kernel
theorem dr_cJ0_equals_9ea2d_26 : decode cJ0_equals_9ea2d 26 = .ok (.getfield 15, 3) := by decide +kernel
theorem dr_cJ0_equals_9ea2d_29 : decode cJ0_equals_9ea2d 29 = .ok (.aload_n 2, 1) := by decide +kernel
theorem dr_cJ0_equals_9ea2d_30 : decode cJ0_equals_9ea2d 30 = .ok (.getfield 15, 3) := by decide +kernel
theorem dr_cJ0_equals_9ea2d_33 : decode cJ0_equals_9ea2d 33 = .ok (.if_icmp .ne 21, 3) := by decide +kernel
theorem dr_cJ0_equals_9ea2d_36 : decode cJ0_equals_9ea2d 36 = .ok (.aload_n 0, 1) := by decide +kernel
theorem dr_cJ0_equals_9ea2d_37 : decode cJ0_equals_9ea2d 37 = .ok (.getfield 9, 3) := by decide +kernel
theorem dr_cJ0_equals_9ea2d_40 : decode cJ0_equals_9ea2d 40 = .ok (.aload_n 2, 1) := by decide +kernel
theorem dr_cJ0_equals_9ea2d_41 : decode cJ0_equals_9ea2d 41 = .ok (.getfield 9, 3) := by decide +kernel
theorem dr_cJ0_equals_9ea2d_44 : decode cJ0_equals_9ea2d 44 = .ok (.invokestatic 541, 3) := by decide +kernel
theorem wr_9_150 : (Jvm.Cond.methodLink "java/lang/String" (541 : Nat) ({ cls := "java/lang/StringLatin1", name := "equals", desc := "([B[B)Z" } : Jvm.MethodName)) ∈ gw := gw_9 150 rfl rfl
theorem wr_9_152 : (Jvm.Cond.code ({ cls := "java/lang/StringLatin1", name := "equals", desc := "([B[B)Z" } : Jvm.MethodName) prog_37_method_13_code (3 : Nat) (Option.some Jvm.ClassFile.FieldType.boolean)) ∈ gw := gw_9 152 rfl rfl
theorem wr_9_151 : (Jvm.Cond.static ({ cls := "java/lang/StringLatin1", name := "equals", desc := "([B[B)Z" } : Jvm.MethodName)) ∈ gw := gw_9 151 rfl rfl
theorem dr_cJ0_equals_9ea2d_47 : decode cJ0_equals_9ea2d 47 = .ok (.ifCond .eq 7, 3) := by decide +kernel
theorem dr_cJ0_equals_9ea2d_54 : decode cJ0_equals_9ea2d 54 = .ok (.iconst 0, 1) := by decide +kernel
theorem dr_cJ0_equals_9ea2d_55 : decode cJ0_equals_9ea2d 55 = .ok (.ireturn, 1) := by decide +kernel
theorem dr_cJ0_equals_9ea2d_50 : decode cJ0_equals_9ea2d 50 = .ok (.iconst 1, 1) := by decide +kernel
theorem dr_cJ0_equals_9ea2d_51 : decode cJ0_equals_9ea2d 51 = .ok (.goto 4, 3) := by decide +kernel
theorem dr_cJ0_equals_9ea2d_5 : decode cJ0_equals_9ea2d 5 = .ok (.iconst 1, 1) := by decide +kernel
theorem dr_cJ0_equals_9ea2d_6 : decode cJ0_equals_9ea2d 6 = .ok (.ireturn, 1) := by decide +kernel
theorem dr_cJ0_isLatin1_aae02_0 : decode cJ0_isLatin1_aae02 0 = .ok (.getstatic 38, 3) := by decide +kernel
theorem dr_cJ0_isLatin1_aae02_3 : decode cJ0_isLatin1_aae02 3 = .ok (.ifCond .eq 14, 3) := by decide +kernel
theorem dr_cJ0_isLatin1_aae02_6 : decode cJ0_isLatin1_aae02 6 = .ok (.aload_n 0, 1) := by decide +kernel
theorem dr_cJ0_isLatin1_aae02_7 : decode cJ0_isLatin1_aae02 7 = .ok (.getfield 15, 3) := by decide +kernel
theorem dr_cJ0_isLatin1_aae02_10 : decode cJ0_isLatin1_aae02 10 = .ok (.ifCond .ne 7, 3) := by decide +kernel
theorem dr_cJ0_isLatin1_aae02_13 : decode cJ0_isLatin1_aae02 13 = .ok (.iconst 1, 1) := by decide +kernel
theorem dr_cJ0_isLatin1_aae02_14 : decode cJ0_isLatin1_aae02 14 = .ok (.goto 4, 3) := by decide +kernel
theorem dr_cJ0_isLatin1_aae02_18 : decode cJ0_isLatin1_aae02 18 = .ok (.ireturn, 1) := by decide +kernel
theorem dr_cJ1_charAt_3b067_0 : decode cJ1_charAt_3b067 0 = .ok (.iload_n 1, 1) := by decide +kernel
theorem dr_cJ1_charAt_3b067_1 : decode cJ1_charAt_3b067 1 = .ok (.aload_n 0, 1) := by decide +kernel
theorem dr_cJ1_charAt_3b067_2 : decode cJ1_charAt_3b067 2 = .ok (.arraylength, 1) := by decide +kernel
theorem dr_cJ1_charAt_3b067_3 : decode cJ1_charAt_3b067 3 = .ok (.invokestatic 9, 3) := by decide +kernel
theorem wr_3_78 : (Jvm.Cond.methodLink "java/lang/StringLatin1" (9 : Nat) ({ cls := "java/lang/String", name := "checkIndex", desc := "(II)V" } : Jvm.MethodName)) ∈ gw := gw_3 78 rfl rfl
theorem dr_cJ1_charAt_3b067_6 : decode cJ1_charAt_3b067 6 = .ok (.aload_n 0, 1) := by decide +kernel
theorem dr_cJ1_charAt_3b067_7 : decode cJ1_charAt_3b067 7 = .ok (.iload_n 1, 1) := by decide +kernel
theorem dr_cJ1_charAt_3b067_8 : decode cJ1_charAt_3b067 8 = .ok (.baload, 1) := by decide +kernel
theorem dr_cJ1_charAt_3b067_9 : decode cJ1_charAt_3b067 9 = .ok (.sipush 255, 3) := by decide +kernel
theorem dr_cJ1_charAt_3b067_12 : decode cJ1_charAt_3b067 12 = .ok (.iand, 1) := by decide +kernel
theorem dr_cJ1_charAt_3b067_13 : decode cJ1_charAt_3b067 13 = .ok (.i2c, 1) := by decide +kernel
theorem dr_cJ1_charAt_3b067_14 : decode cJ1_charAt_3b067 14 = .ok (.ireturn, 1) := by decide +kernel
abbrev ky_641161_StringBuilder_append : gKey := (cJ4_append_15ec4, 2, "java/lang/StringBuilder", (some (FieldType.object "java/lang/StringBuilder")), [], "append", fun _ _ => True)
def pp_641161_StringBuilder_append (D : va_G) (I : FieldType → ClassId) (P641146 : List Nat) (F641147 : Nat → va_E) (q641148 : Nat) (q641149 : Nat) (qs641150 : Nat) (qb641151 : Nat) (bs641152 : List Int32) (p641153 : Int32) (p641154 : Int32) (f641155 : Nat → Int32) (n641156 : Nat) : Option Value → va_W → Nat → Nat → Prop := fun r w dc ds => ∃ (P641270 : List Nat) (F641271 : Nat → va_E) (o641266 : Int32) (q641267 : Nat) (n641268 : Nat) (f641269 : Nat → Int32), r = some (.ref q641148) ∧ w = va_pl P641270 F641271 ∧ rSub P641146 P641270 ∧ rFr [q641148, q641149] P641146 F641147 F641271 ∧ F641271 q641148 = .inr (1, [.ref q641267, .int 0, .int p641153, .int o641266]) ∧ F641271 q641267 = .inl (I .byte, n641268, .inl f641269) ∧ q641267 ∈ P641270 ∧ (q641267 = q641149 ∨ q641267 ∉ P641146) ∧ dc ≤ 1 ∧ ds ≤ 2 * (n641268 - n641156) ∧ gB o641266 0 16777216 ∧ gF f641269 (-128) 127 ∧ o641266.toInt = p641154.toInt + (bs641152.length : Int) ∧ o641266.toInt ≤ (n641268 : Int) ∧ (n641156 : Int) ≤ (n641268 : Int) ∧ (n641268 : Int) ≤ 2 * (n641156 : Int) + 2 + p641154.toInt + (bs641152.length : Int) ∧ ((n641268 : Int) = (n641156 : Int) ∨ (n641156 : Int) < o641266.toInt)
set_option maxRecDepth 100000 in
set_option maxHeartbeats 4000000 in
theorem cp_641161_StringBuilder_append (l : Launch) (hl0 : l.stackTraces = false) (D : va_G) (I : FieldType → ClassId) (P641146 : List Nat) (F641147 : Nat → va_E) (q641148 : Nat) (q641149 : Nat) (qs641150 : Nat) (qb641151 : Nat) (bs641152 : List Int32) (p641153 : Int32) (p641154 : Int32) (f641155 : Nat → Int32) (n641156 : Nat) (hmq641148 : q641148 ∈ P641146) (hmq641149 : q641149 ∈ P641146) (heq641148 : F641147 q641148 = .inr (1, [.ref q641149, .int 0, .int p641153, .int p641154])) (heq641149 : F641147 q641149 = .inl (I .byte, n641156, .inl f641155)) (hbs641152 : ∀ A s H, (gV D I).2.2.2.1 A s H → gSC qs641150 qb641151 bs641152 A s H) (nbs641152 : (bs641152.length : Int) ≤ 65535) (lbs641152 : gLB bs641152) (bp641153 : gB p641153 0 1) (bp641154 : gB p641154 0 16777216) (bf641155 : gF f641155 (-128) 127) (x641157 : (bs641152.length : Int) ≤ 65535) (x641158 : (n641156 : Int) ≤ 8388608 - 100000) (x641159 : p641154.toInt ≤ (n641156 : Int)) (x641160 : ((n641156 : Int) ≤ 16777216)) : CtA (gV D I) l yJ4_append_15ec4 cJ4_append_15ec4 2 (some (FieldType.object "java/lang/StringBuilder")) 5 106 1 (4 * n641156 + 4 + 2 * bs641152.length) [.ref q641148, .ref qs641150] (va_pl P641146 F641147) (pp_641161_StringBuilder_append D I P641146 F641147 q641148 q641149 qs641150 qb641151 bs641152 p641153 p641154 f641155 n641156) gNA := by
  refine CtA_ofF hl0 (by decide +kernel) (Nat.le_of_ble_eq_true rfl) ?_
  refine G_aload_n 0 dr_cJ4_append_15ec4_0 rfl ?_
  refine G_aload_n 1 dr_cJ4_append_15ec4_1 rfl ?_
  refine Gw_callSU (As := [.ref qs641150]) (gV_ok D I) (cp_641177_AbstractStringBuilder_append l hl0 D I P641146 F641147 q641148 q641149 qs641150 qb641151 bs641152 p641153 p641154 f641155 n641156 hmq641148 hmq641149 heq641148 heq641149 hbs641152 nbs641152 lbs641152 bp641153 bp641154 bf641155 (by have qa0 : Int32.toInt 0 = 0 := (by decide); omega) (by have qa0 : Int32.toInt 0 = 0 := (by decide); omega) (by have qa0 : Int32.toInt 0 = 0 := (by decide); omega) (by have qa0 : Int32.toInt 0 = 0 := (by decide); omega)) dr_cJ4_append_15ec4_2 ⟨wr_8_144, wr_1_19, wr_8_146, by decide, rfl, (Nat.le_of_ble_eq_true rfl), (Nat.le_of_ble_eq_true rfl)⟩ wr_8_145 wr_11_229 wr_7_73 wr_7_44 (by decide) hmq641148 heq641148 rfl (show 0 + 1 ≤ 1 by first | omega | decide) (show 0 + (4 * n641156 + 4 + 2 * bs641152.length) ≤ (4 * n641156 + 4 + 2 * bs641152.length) by first | omega | decide) (Nat.le_of_ble_eq_true rfl) (fun r641242 w641243 dc641239 ds641240 hp641241 => ?_)
  obtain ⟨P641253, F641254, o641244, q641245, n641246, f641247, rfl, rfl, hsb641255, hfr641256, he641257, he641258, hm641259, hq641260, hdc, hds, bo641244, bf641247, x641248, x641249, x641250, x641251, x641252⟩ := hp641241
  have hm641261 : q641148 ∈ P641253 := hsb641255 q641148 hmq641148
  have hm641262 : q641149 ∈ P641253 := hsb641255 q641149 hmq641149
  have hor641263 : q641245 = q641149 ∨ q641245 ∉ P641146 := hq641260.elim Or.inl (fun n => Or.inr (fun z => n ((rSub_rf (P := P641146)) _ z)))
  have hsb641264 : rSub P641146 P641253 := rSub_tr (rSub_rf (P := P641146)) hsb641255
  have hfr641265 : rFr [q641148, q641149] P641146 F641147 F641254 := rFr_call (rSub_rf (P := P641146)) (rFr_rf (W := []) (P := P641146) (F := F641147)) hfr641256 (fun b hb hn => ⟨nm_n, (nm_c (fun e => hn (e ▸ List.mem_cons_self)) (nm_c (fun e => hn (e ▸ (List.mem_cons_of_mem _ List.mem_cons_self))) nm_n))⟩)
  change G _ _ _ _ _ _ _ (.ref q641148 :: _) _ _ _
  refine G_widen (cs' := 1) (sl' := 2 * (n641246 - n641156)) (by omega) (by omega) ?_
  refine G_pop dr_cJ4_append_15ec4_5 rfl ?_
  refine G_aload_n 0 dr_cJ4_append_15ec4_6 rfl ?_
  exact G_aretA (FieldType.object "java/lang/StringBuilder") dr_cJ4_append_15ec4_7 rfl (by first | exact Or.inl ⟨_, rfl⟩ | exact Or.inr ⟨_, rfl⟩) (Or.inr ⟨_, rfl⟩) (Nat.le_of_ble_eq_true rfl) (show 2 * (n641246 - n641156) ≤ (4 * n641156 + 4 + 2 * bs641152.length) by omega) ⟨P641253, F641254, o641244, q641245, n641246, f641247, rfl, rfl, hsb641264, hfr641265, he641257, he641258, hm641259, hor641263, (Nat.le_of_ble_eq_true rfl), (by omega), bo641244, bf641247, (by have qa0 : Int32.toInt 0 = 0 := (by decide); omega), (by have qa0 : Int32.toInt 0 = 0 := (by decide); omega), (by have qa0 : Int32.toInt 0 = 0 := (by decide); omega), (by have qa0 : Int32.toInt 0 = 0 := (by decide); omega), (by have qa0 : Int32.toInt 0 = 0 := (by decide); omega)⟩
abbrev ky_641336_AbstractStringBuilder_getValue : gKey := (cJ5_getValue_6d5f1, 1, "java/lang/AbstractStringBuilder", (some (FieldType.array FieldType.byte)), [], "getValue", fun _ _ => True)
def pp_641336_AbstractStringBuilder_getValue (D : va_G) (I : FieldType → ClassId) (P641327 : List Nat) (F641328 : Nat → va_E) (q641329 : Nat) (q641330 : Nat) (p641331 : Int32) (p641332 : Int32) (f641333 : Nat → Int32) (n641334 : Nat) : Option Value → va_W → Nat → Nat → Prop := fun r w dc ds => r = some (.ref q641330) ∧ w = va_pl P641327 F641328 ∧ dc ≤ 0 ∧ ds ≤ 0
set_option maxRecDepth 100000 in
set_option maxHeartbeats 4000000 in
theorem cp_641336_AbstractStringBuilder_getValue (l : Launch) (hl0 : l.stackTraces = false) (D : va_G) (I : FieldType → ClassId) (P641327 : List Nat) (F641328 : Nat → va_E) (q641329 : Nat) (q641330 : Nat) (p641331 : Int32) (p641332 : Int32) (f641333 : Nat → Int32) (n641334 : Nat) (hmq641329 : q641329 ∈ P641327) (hmq641330 : q641330 ∈ P641327) (heq641329 : F641328 q641329 = .inr (1, [.ref q641330, .int 0, .int p641331, .int p641332])) (heq641330 : F641328 q641330 = .inl (I .byte, n641334, .inl f641333)) (bp641331 : gB p641331 0 1) (bp641332 : gB p641332 0 16777216) (bf641333 : gF f641333 (-128) 127) (x641335 : ((n641334 : Int) ≤ 16777216)) : CtA (gV D I) l yJ5_getValue_6d5f1 cJ5_getValue_6d5f1 1 (some (FieldType.array FieldType.byte)) 0 0 0 0 [.ref q641329] (va_pl P641327 F641328) (pp_641336_AbstractStringBuilder_getValue D I P641327 F641328 q641329 q641330 p641331 p641332 f641333 n641334) gNA := by
  refine CtA_ofF hl0 (by decide +kernel) (Nat.le_of_ble_eq_true rfl) ?_
  refine G_aload_n 0 dr_cJ5_getValue_6d5f1_0 rfl ?_
  refine Gp_get 0 hmq641329 heq641329 dr_cJ5_getValue_6d5f1_1 (gk_J4 D I) (Nat.le_of_ble_eq_true rfl) wr_7_60 rfl ?_
  exact G_aretA (FieldType.array FieldType.byte) dr_cJ5_getValue_6d5f1_4 rfl (by first | exact Or.inl ⟨_, rfl⟩ | exact Or.inr ⟨_, rfl⟩) (Or.inr ⟨_, rfl⟩) (Nat.le_of_ble_eq_true rfl) (Nat.le_of_ble_eq_true rfl) ⟨rfl, rfl, (Nat.le_of_ble_eq_true rfl), (Nat.le_of_ble_eq_true rfl)⟩
abbrev ky_641398_Arrays_checkLength : gKey := (cJ7_checkLength_df160, 2, "java/util/Arrays", none, [], "checkLength", fun _ _ => True)
def pp_641398_Arrays_checkLength (D : va_G) (I : FieldType → ClassId) (P641395 : List Nat) (F641396 : Nat → va_E) (p641397 : Int32) : Option Value → va_W → Nat → Nat → Prop := fun r w dc ds => r = none ∧ w = va_pl P641395 F641396 ∧ dc ≤ 0 ∧ ds ≤ 0
set_option maxRecDepth 100000 in
set_option maxHeartbeats 4000000 in
theorem cp_641398_Arrays_checkLength (l : Launch) (hl0 : l.stackTraces = false) (D : va_G) (I : FieldType → ClassId) (P641395 : List Nat) (F641396 : Nat → va_E) (p641397 : Int32) (bp641397 : gB p641397 0 16777216) : CtA (gV D I) l yJ7_checkLength_df160 cJ7_checkLength_df160 2 none 0 0 0 0 [.int 0, .int p641397] (va_pl P641395 F641396) (pp_641398_Arrays_checkLength D I P641395 F641396 p641397) gNA := by
  refine CtA_ofF hl0 (by decide +kernel) (Nat.le_of_ble_eq_true rfl) ?_
  refine G_iload_n 1 dr_cJ7_checkLength_df160_0 rfl ?_
  refine G_iload_n 0 dr_cJ7_checkLength_df160_1 rfl ?_
  refine G_icmp_ge 37 dr_cJ7_checkLength_df160_2 (by decide +kernel) (fun _ => ?_) (fun hc => absurd (show False by have := gj_nleL hc (show Int32.toInt 0 = 0 by decide); omega) not_false)
  exact G_vretA dr_cJ7_checkLength_df160_37 rfl (Nat.le_of_ble_eq_true rfl) (Nat.le_of_ble_eq_true rfl) ⟨rfl, rfl, (Nat.le_of_ble_eq_true rfl), (Nat.le_of_ble_eq_true rfl)⟩
abbrev ky_641394_Arrays_copyOfRangeByte : gKey := (cJ7_copyOfRangeByte_39247, 5, "java/util/Arrays", (some (FieldType.array FieldType.byte)), [], "copyOfRangeByte", fun _ _ => True)
def pp_641394_Arrays_copyOfRangeByte (D : va_G) (I : FieldType → ClassId) (P641386 : List Nat) (F641387 : Nat → va_E) (q641388 : Nat) (p641389 : Int32) (f641390 : Nat → Int32) (n641391 : Nat) : Option Value → va_W → Nat → Nat → Prop := fun r w dc ds => ∃ (P641432 : List Nat) (F641433 : Nat → va_E) (q641429 : Nat) (n641430 : Nat) (f641431 : Nat → Int32), r = some (.ref q641429) ∧ w = va_pl P641432 F641433 ∧ rSub P641386 P641432 ∧ rFr [] P641386 F641387 F641433 ∧ F641433 q641388 = .inl (I .byte, n641391, .inl f641390) ∧ F641433 q641429 = .inl (I .byte, n641430, .inl f641431) ∧ q641429 ∈ P641432 ∧ q641429 ∉ P641386 ∧ dc ≤ 1 ∧ ds ≤ p641389.toInt.toNat ∧ gF f641431 (-128) 127 ∧ (n641430 : Int) = p641389.toInt ∧ sK f641390 f641431 p641389.toInt
set_option maxRecDepth 100000 in
set_option maxHeartbeats 4000000 in
theorem cp_641394_Arrays_copyOfRangeByte (l : Launch) (hl0 : l.stackTraces = false) (D : va_G) (I : FieldType → ClassId) (P641386 : List Nat) (F641387 : Nat → va_E) (q641388 : Nat) (p641389 : Int32) (f641390 : Nat → Int32) (n641391 : Nat) (hmq641388 : q641388 ∈ P641386) (heq641388 : F641387 q641388 = .inl (I .byte, n641391, .inl f641390)) (bp641389 : gB p641389 0 16777216) (bf641390 : gF f641390 (-128) 127) (x641392 : p641389.toInt ≤ (n641391 : Int)) (x641393 : ((n641391 : Int) ≤ 16777216)) : CtA (gV D I) l yJ7_copyOfRangeByte_39247 cJ7_copyOfRangeByte_39247 5 (some (FieldType.array FieldType.byte)) 1 21 1 p641389.toInt.toNat [.ref q641388, .int 0, .int p641389] (va_pl P641386 F641387) (pp_641394_Arrays_copyOfRangeByte D I P641386 F641387 q641388 p641389 f641390 n641391) gNA := by
  refine CtA_ofF hl0 (by decide +kernel) (Nat.le_of_ble_eq_true rfl) ?_
  refine G_iload_n 1 dr_cJ7_copyOfRangeByte_39247_0 rfl ?_
  refine G_iload_n 2 dr_cJ7_copyOfRangeByte_39247_1 rfl ?_
  refine Gw_callS (As := [.int 0, .int p641389]) (gV_ok D I) (cp_641398_Arrays_checkLength l hl0 D I P641386 F641387 p641389 bp641389) dr_cJ7_copyOfRangeByte_39247_2 ⟨wr_8_99, wr_1_30, wr_8_101, by decide, rfl, (Nat.le_of_ble_eq_true rfl), (Nat.le_of_ble_eq_true rfl)⟩ wr_8_100 (show 0 + 0 ≤ 1 by first | omega | decide) (show 0 + 0 ≤ p641389.toInt.toNat by first | omega | decide) (Nat.le_of_ble_eq_true rfl) (fun r641402 w641403 dc641399 ds641400 hp641401 => ?_) (fun _ _ _ _ _ z => z.elim)
  obtain ⟨rfl, rfl, hdc, hds⟩ := hp641401
  change G _ _ _ _ _ _ _ _ _ _ _
  refine G_widen (cs' := 0) (sl' := 0) (by omega) (by omega) ?_
  refine G_iload_n 2 dr_cJ7_copyOfRangeByte_39247_5 rfl ?_
  refine G_iload_n 1 dr_cJ7_copyOfRangeByte_39247_6 rfl ?_
  refine G_isub dr_cJ7_copyOfRangeByte_39247_7 (G_nam fun z641404 hz641404 => ?_)
  have ez641404 : z641404.toInt = p641389.toInt - 0 := by rw [gI_sub hz641404 bp641389 (gBl (show Int32.toInt 0 = 0 by decide)) (by decide) (by decide), show Int32.toInt 0 = 0 from by decide]
  have bz641404 : gB z641404 0 16777216 := gB_sub (gI_sub hz641404 bp641389 (gBl (show Int32.toInt 0 = 0 by decide)) (by decide) (by decide)) bp641389 (gBl (show Int32.toInt 0 = 0 by decide)) (by decide) (by decide)
  refine G_istore_n (L' := [(3, .int z641404), (0, .ref q641388), (1, .int 0), (2, .int p641389)]) dr_cJ7_copyOfRangeByte_39247_8 (Nat.le_of_ble_eq_true rfl) rfl ?_
  refine G_iload_n 0 dr_cJ7_copyOfRangeByte_39247_9 rfl ?_
  refine G_newa 1 (z641404.toInt.toNat, .inl (fun _ => 0)) dr_cJ7_copyOfRangeByte_39247_10 rfl rfl (by intro C h; cases h) wr_1_66 (fun _ => ga_byte _ _) (g_n0 (by omega)) rfl (show z641404.toInt.toNat * 1 ≤ 536870912 by omega) (show 0 + 1 ≤ 1 by first | omega | decide) (show 0 + z641404.toInt.toNat ≤ p641389.toInt.toNat by first | omega | decide) (fun q641405 => Gp_in (fun P641406 F641407 hq641408 hP641409 e641410 n641411 => ?_))
  refine G_widen (cs' := 1) (sl' := z641404.toInt.toNat) (by omega) (by omega) ?_
  have he641412 : F641407 q641388 = .inl (I .byte, n641391, .inl f641390) := (n641411 q641388 (fun h => hq641408 (h ▸ hmq641388))).trans heq641388
  have he641413 : F641407 q641405 = .inl (I .byte, z641404.toInt.toNat, .inl (fun _ => 0)) := e641410
  have hm641414 : q641388 ∈ P641406 := (hP641409 q641388).mpr (Or.inl hmq641388)
  have hm641415 : q641405 ∈ P641406 := (hP641409 q641405).mpr (Or.inr rfl)
  have hq641416 : q641405 ∉ P641386 := fun z => hq641408 ((rSub_rf (P := P641386)) q641405 z)
  have hfr641417 : rFr [] P641386 F641387 F641407 := rFr_new (rSub_rf (P := P641386)) hq641408 (rFr_rf (W := []) (P := P641386) (F := F641387)) n641411
  have hsb641418 : rSub P641386 P641406 := rSub_new (rSub_rf (P := P641386)) hP641409
  refine G_astore (L' := [(4, .ref q641405), (3, .int z641404), (0, .ref q641388), (1, .int 0), (2, .int p641389)]) dr_cJ7_copyOfRangeByte_39247_12 (Nat.le_of_ble_eq_true rfl) rfl ?_
  refine G_aload_n 2 dr_cJ7_copyOfRangeByte_39247_14 rfl ?_
  refine G_iload_n 3 dr_cJ7_copyOfRangeByte_39247_15 rfl ?_
  refine G_aload 0 dr_cJ7_copyOfRangeByte_39247_16 rfl ?_
  refine G_iconst 0 dr_cJ7_copyOfRangeByte_39247_18 (by decide +kernel) ?_
  refine G_aload_n 2 dr_cJ7_copyOfRangeByte_39247_19 rfl ?_
  refine Gp_alen (Int32.ofNat n641391) 1 hm641414 he641412 dr_cJ7_copyOfRangeByte_39247_20 rfl rfl (G_nam fun z641419 hz641419 => ?_)
  have ez641419 : z641419.toInt = (n641391 : Nat) := gI_ofM hz641419 (by omega)
  have bz641419 : gB z641419 0 16777216 := ⟨by omega, by omega⟩
  refine G_iload_n 3 dr_cJ7_copyOfRangeByte_39247_21 rfl ?_
  refine G_isub dr_cJ7_copyOfRangeByte_39247_22 (G_nam fun z641420 hz641420 => ?_)
  have ez641420 : z641420.toInt = z641419.toInt - 0 := by rw [gI_sub hz641420 bz641419 (gBl (show Int32.toInt 0 = 0 by decide)) (by decide) (by decide), show Int32.toInt 0 = 0 from by decide]
  have bz641420 : gB z641420 0 16777216 := gB_sub (gI_sub hz641420 bz641419 (gBl (show Int32.toInt 0 = 0 by decide)) (by decide) (by decide)) bz641419 (gBl (show Int32.toInt 0 = 0 by decide)) (by decide) (by decide)
  refine G_iload_n 1 dr_cJ7_copyOfRangeByte_39247_23 rfl ?_
  refine G_mmin dr_cJ7_copyOfRangeByte_39247_24 wr_8_31 wr_3_227 wr_1_6 wr_3_228 (Nat.le_of_ble_eq_true rfl) (Nat.le_of_ble_eq_true rfl) (show 1 ≤ 1 by first | omega | decide) (show z641404.toInt.toNat ≤ p641389.toInt.toNat by first | omega | decide) (G_nam fun z641421 hz641421 => ?_)
  have ez641421 : z641420.toInt ≥ z641421.toInt ∧ z641404.toInt ≥ z641421.toInt ∧ (z641421.toInt = z641420.toInt ∨ z641421.toInt = z641404.toInt) := by have := gI_min hz641421; omega
  have bz641421 : gB z641421 0 16777216 := ⟨by omega, by omega⟩
  refine Gp_copyp 1 hm641414 hm641415 he641412 he641413 dr_cJ7_copyOfRangeByte_39247_27 wr_8_32 wr_5_113 wr_5_112 wr_1_34 rfl rfl (fun j => gT_byte (bf641390 j)) (by decide) (by decide) (by omega) (by have qa0 : Int32.toInt 0 = 0 := (by decide); omega) (by have qa0 : Int32.toInt 0 = 0 := (by decide); omega) (Nat.le_of_ble_eq_true rfl) (Nat.le_of_ble_eq_true rfl) (fun F641422 e641423 n641424 => ?_)
  obtain ⟨f641425, hf641425⟩ : ∃ z, z = va_cpy f641390 (fun _ => 0) (0 : Int32).toNatClampNeg (0 : Int32).toNatClampNeg z641421.toNatClampNeg := ⟨_, rfl⟩
  rw [← hf641425] at e641423
  have bf641425 : gF f641425 (-128) 127 := gF_cpy hf641425 bf641390 (gF_w gF_0 (by decide) (by decide))
  have he641426 : F641422 q641388 = .inl (I .byte, n641391, .inl f641390) := (n641424 q641388 (fun h => hq641416 (h ▸ hmq641388))).trans he641412
  have he641427 : F641422 q641405 = .inl (I .byte, z641404.toInt.toNat, .inl f641425) := e641423
  have hfr641428 : rFr [] P641386 F641387 F641422 := rFr_newp hq641416 hfr641417 n641424
  refine G_aload 0 dr_cJ7_copyOfRangeByte_39247_30 rfl ?_
  exact G_aretA (FieldType.array FieldType.byte) dr_cJ7_copyOfRangeByte_39247_32 rfl (by first | exact Or.inl ⟨_, rfl⟩ | exact Or.inr ⟨_, rfl⟩) (Or.inr ⟨_, rfl⟩) (Nat.le_of_ble_eq_true rfl) (show z641404.toInt.toNat ≤ p641389.toInt.toNat by omega) ⟨P641406, F641422, q641405, z641404.toInt.toNat, f641425, rfl, rfl, hsb641418, hfr641428, he641426, he641427, hm641415, hq641416, (Nat.le_of_ble_eq_true rfl), (by omega), bf641425, (by have qa0 : Int32.toInt 0 = 0 := (by decide); omega), (sK_cp2 hf641425 (by decide) (by decide) (by omega))⟩
abbrev ky_641367_Arrays_copyOfRange : gKey := (cJ7_copyOfRange_39247, 3, "java/util/Arrays", (some (FieldType.array FieldType.byte)), [], "copyOfRange", fun _ _ => True)
def pp_641367_Arrays_copyOfRange (D : va_G) (I : FieldType → ClassId) (P641359 : List Nat) (F641360 : Nat → va_E) (q641361 : Nat) (p641362 : Int32) (f641363 : Nat → Int32) (n641364 : Nat) : Option Value → va_W → Nat → Nat → Prop := fun r w dc ds => ∃ (P641459 : List Nat) (F641460 : Nat → va_E) (q641456 : Nat) (n641457 : Nat) (f641458 : Nat → Int32), r = some (.ref q641456) ∧ w = va_pl P641459 F641460 ∧ rSub P641359 P641459 ∧ rFr [] P641359 F641360 F641460 ∧ F641460 q641361 = .inl (I .byte, n641364, .inl f641363) ∧ F641460 q641456 = .inl (I .byte, n641457, .inl f641458) ∧ q641456 ∈ P641459 ∧ q641456 ∉ P641359 ∧ dc ≤ 1 ∧ ds ≤ p641362.toInt.toNat ∧ gF f641458 (-128) 127 ∧ (n641457 : Int) = p641362.toInt ∧ sK f641363 f641458 p641362.toInt
set_option maxRecDepth 100000 in
set_option maxHeartbeats 4000000 in
theorem cp_641367_Arrays_copyOfRange (l : Launch) (hl0 : l.stackTraces = false) (D : va_G) (I : FieldType → ClassId) (P641359 : List Nat) (F641360 : Nat → va_E) (q641361 : Nat) (p641362 : Int32) (f641363 : Nat → Int32) (n641364 : Nat) (hmq641361 : q641361 ∈ P641359) (heq641361 : F641360 q641361 = .inl (I .byte, n641364, .inl f641363)) (bp641362 : gB p641362 0 16777216) (bf641363 : gF f641363 (-128) 127) (x641365 : p641362.toInt ≤ (n641364 : Int)) (x641366 : ((n641364 : Int) ≤ 16777216)) : CtA (gV D I) l yJ7_copyOfRange_39247 cJ7_copyOfRange_39247 3 (some (FieldType.array FieldType.byte)) 2 45 1 p641362.toInt.toNat [.ref q641361, .int 0, .int p641362] (va_pl P641359 F641360) (pp_641367_Arrays_copyOfRange D I P641359 F641360 q641361 p641362 f641363 n641364) gNA := by
  refine CtA_ofF hl0 (by decide +kernel) (Nat.le_of_ble_eq_true rfl) ?_
  refine G_iload_n 1 dr_cJ7_copyOfRange_39247_0 rfl ?_
  refine G_if_ne 10 dr_cJ7_copyOfRange_39247_1 (by decide +kernel) (fun hc => absurd hc (by decide)) (fun _ => ?_)
  refine G_iload_n 2 dr_cJ7_copyOfRange_39247_4 rfl ?_
  refine G_aload_n 0 dr_cJ7_copyOfRange_39247_5 rfl ?_
  refine Gp_alen (Int32.ofNat n641364) 1 hmq641361 heq641361 dr_cJ7_copyOfRange_39247_6 rfl rfl (G_nam fun z641368 hz641368 => ?_)
  have ez641368 : z641368.toInt = (n641364 : Nat) := gI_ofM hz641368 (by omega)
  have bz641368 : gB z641368 0 16777216 := ⟨by omega, by omega⟩
  refine G_icmp_eq 17 dr_cJ7_copyOfRange_39247_7 (by decide +kernel) (fun hc641369 => ?_) (fun hc641369 => ?_)
  · have r641370 : p641362.toInt = z641368.toInt := gC_eq hc641369
    refine G_aload_n 0 dr_cJ7_copyOfRange_39247_17 rfl ?_
    refine Gp_clone 1 hmq641361 heq641361 rfl dr_cJ7_copyOfRange_39247_18 wr_8_24 wr_8_25 wr_8_26 wr_8_27 wr_8_28 (fun _ _ _ h => gn_w 76 rfl h) bf641363 (Nat.le_of_ble_eq_true rfl) (Nat.le_of_ble_eq_true rfl) (show 0 + 1 ≤ 1 by first | omega | decide) (show 0 + n641364 ≤ p641362.toInt.toNat by first | omega | decide) (fun q641371 P641372 F641373 hq641374 hP641375 e641376 n641377 => ?_)
    refine G_widen (cs' := 1) (sl' := n641364) (by omega) (by omega) ?_
    have he641378 : F641373 q641361 = .inl (I .byte, n641364, .inl f641363) := (n641377 q641361 (fun h => hq641374 (h ▸ hmq641361))).trans heq641361
    have he641379 : F641373 q641371 = .inl (I .byte, n641364, .inl f641363) := e641376
    have hm641380 : q641361 ∈ P641372 := (hP641375 q641361).mpr (Or.inl hmq641361)
    have hm641381 : q641371 ∈ P641372 := (hP641375 q641371).mpr (Or.inr rfl)
    have hq641382 : q641371 ∉ P641359 := fun z => hq641374 ((rSub_rf (P := P641359)) q641371 z)
    have hfr641383 : rFr [] P641359 F641360 F641373 := rFr_new (rSub_rf (P := P641359)) hq641374 (rFr_rf (W := []) (P := P641359) (F := F641360)) n641377
    have hsb641384 : rSub P641359 P641372 := rSub_new (rSub_rf (P := P641359)) hP641375
    refine Gp_casA 1 hm641381 he641379 rfl dr_cJ7_copyOfRange_39247_21 wr_8_30 ?_
    exact G_aretA (FieldType.array FieldType.byte) dr_cJ7_copyOfRange_39247_24 rfl (by first | exact Or.inl ⟨_, rfl⟩ | exact Or.inr ⟨_, rfl⟩) (Or.inr ⟨_, rfl⟩) (Nat.le_of_ble_eq_true rfl) (show n641364 ≤ p641362.toInt.toNat by omega) ⟨P641372, F641373, q641371, n641364, f641363, rfl, rfl, hsb641384, hfr641383, he641378, he641379, hm641381, hq641382, (Nat.le_of_ble_eq_true rfl), (by omega), bf641363, (by have qa0 : Int32.toInt 0 = 0 := (by decide); omega), sK_rf⟩
  · have r641385 : p641362.toInt ≠ z641368.toInt := gC_ne hc641369
    refine G_aload_n 0 dr_cJ7_copyOfRange_39247_10 rfl ?_
    refine G_iload_n 1 dr_cJ7_copyOfRange_39247_11 rfl ?_
    refine G_iload_n 2 dr_cJ7_copyOfRange_39247_12 rfl ?_
    refine Gw_callS (As := [.ref q641361, .int 0, .int p641362]) (gV_ok D I) (cp_641394_Arrays_copyOfRangeByte l hl0 D I P641359 F641360 q641361 p641362 f641363 n641364 hmq641361 heq641361 bp641362 bf641363 (by have qa0 : Int32.toInt 0 = 0 := (by decide); omega) (by have qa0 : Int32.toInt 0 = 0 := (by decide); omega)) dr_cJ7_copyOfRange_39247_13 ⟨wr_8_96, wr_1_30, wr_8_98, by decide, rfl, (Nat.le_of_ble_eq_true rfl), (Nat.le_of_ble_eq_true rfl)⟩ wr_8_97 (show 0 + 1 ≤ 1 by first | omega | decide) (show 0 + p641362.toInt.toNat ≤ p641362.toInt.toNat by first | omega | decide) (Nat.le_of_ble_eq_true rfl) (fun r641437 w641438 dc641434 ds641435 hp641436 => ?_) (fun _ _ _ _ _ z => z.elim)
    obtain ⟨P641444, F641445, q641439, n641440, f641441, rfl, rfl, hsb641446, hfr641447, he641448, he641449, hm641450, hq641451, hdc, hds, bf641441, x641442, x641443⟩ := hp641436
    have hm641452 : q641361 ∈ P641444 := hsb641446 q641361 hmq641361
    have hq641453 : q641439 ∉ P641359 := fun z => hq641451 ((rSub_rf (P := P641359)) q641439 z)
    have hsb641454 : rSub P641359 P641444 := rSub_tr (rSub_rf (P := P641359)) hsb641446
    have hfr641455 : rFr [] P641359 F641360 F641445 := rFr_call (rSub_rf (P := P641359)) (rFr_rf (W := []) (P := P641359) (F := F641360)) hfr641447 (fun b hb hn => ⟨nm_n, nm_n⟩)
    change G _ _ _ _ _ _ _ (.ref q641439 :: _) _ _ _
    refine G_widen (cs' := 1) (sl' := p641362.toInt.toNat) (by omega) (by omega) ?_
    exact G_aretA (FieldType.array FieldType.byte) dr_cJ7_copyOfRange_39247_16 rfl (by first | exact Or.inl ⟨_, rfl⟩ | exact Or.inr ⟨_, rfl⟩) (Or.inr ⟨_, rfl⟩) (Nat.le_of_ble_eq_true rfl) (show p641362.toInt.toNat ≤ p641362.toInt.toNat by omega) ⟨P641444, F641445, q641439, n641440, f641441, rfl, rfl, hsb641454, hfr641455, he641448, he641449, hm641450, hq641453, (Nat.le_of_ble_eq_true rfl), (by omega), bf641441, (by have qa0 : Int32.toInt 0 = 0 := (by decide); omega), (sK_c x641443 (by omega))⟩
abbrev ky_641326_String_init : gKey := (cJ0_init_db425, 5, "java/lang/String", none, [], "<init>", fun _ _ => True)
def pp_641326_String_init (D : va_G) (I : FieldType → ClassId) (P641313 : List Nat) (F641314 : Nat → va_E) (q641315 : Nat) (q641316 : Nat) (q641317 : Nat) (p641318 : Int32) (p641319 : Int32) (p641320 : Int32) (p641321 : Int32) (f641322 : Nat → Int32) (n641323 : Nat) : Option Value → va_W → Nat → Nat → Prop := fun r w dc ds => ∃ (P641498 : List Nat) (F641499 : Nat → va_E) (q641495 : Nat) (n641496 : Nat) (f641497 : Nat → Int32), r = none ∧ w = va_pl P641498 F641499 ∧ rSub P641313 P641498 ∧ rFr [q641315] P641313 F641314 F641499 ∧ F641499 q641315 = .inr (0, [.ref q641495, .int 0, .int p641318, .int p641319]) ∧ F641499 q641316 = .inr (1, [.ref q641317, .int 0, .int p641320, .int p641321]) ∧ F641499 q641317 = .inl (I .byte, n641323, .inl f641322) ∧ F641499 q641495 = .inl (I .byte, n641496, .inl f641497) ∧ q641495 ∈ P641498 ∧ q641495 ∉ P641313 ∧ dc ≤ 1 ∧ ds ≤ p641321.toInt.toNat ∧ gF f641497 (-128) 127 ∧ (n641496 : Int) = p641321.toInt ∧ sK f641322 f641497 p641321.toInt
set_option maxRecDepth 100000 in
set_option maxHeartbeats 4000000 in
theorem cp_641326_String_init (l : Launch) (hl0 : l.stackTraces = false) (D : va_G) (I : FieldType → ClassId) (P641313 : List Nat) (F641314 : Nat → va_E) (q641315 : Nat) (q641316 : Nat) (q641317 : Nat) (p641318 : Int32) (p641319 : Int32) (p641320 : Int32) (p641321 : Int32) (f641322 : Nat → Int32) (n641323 : Nat) (hmq641315 : q641315 ∈ P641313) (hmq641316 : q641316 ∈ P641313) (hmq641317 : q641317 ∈ P641313) (heq641315 : F641314 q641315 = .inr (0, [.null, .int 0, .int p641318, .int p641319])) (heq641316 : F641314 q641316 = .inr (1, [.ref q641317, .int 0, .int p641320, .int p641321])) (heq641317 : F641314 q641317 = .inl (I .byte, n641323, .inl f641322)) (bp641319 : gB p641319 0 1) (bp641320 : gB p641320 0 1) (bp641321 : gB p641321 0 16777216) (bf641322 : gF f641322 (-128) 127) (x641324 : p641321.toInt ≤ (n641323 : Int)) (x641325 : ((n641323 : Int) ≤ 16777216)) : CtA (gV D I) l yJ0_init_db425 cJ0_init_db425 5 none 3 67 1 p641321.toInt.toNat [.ref q641315, .ref q641316, .null] (va_pl P641313 F641314) (pp_641326_String_init D I P641313 F641314 q641315 q641316 q641317 p641318 p641319 p641320 p641321 f641322 n641323) gNA := by
  refine CtA_ofF hl0 (by decide +kernel) (Nat.le_of_ble_eq_true rfl) ?_
  have bp641318 := gB_any p641318
  refine G_aload_n 0 dr_cJ0_init_db425_0 rfl ?_
  refine G_obj dr_cJ0_init_db425_1 wr_8_78 wr_1_51 wr_1_52 (Nat.le_of_ble_eq_true rfl) (Nat.le_of_ble_eq_true rfl) ?_
  refine G_aload_n 1 dr_cJ0_init_db425_4 rfl ?_
  refine Gw_callVB (As := []) (gV_ok D I) (cp_641336_AbstractStringBuilder_getValue l hl0 D I P641313 F641314 q641316 q641317 p641320 p641321 f641322 n641323 hmq641316 hmq641317 heq641316 heq641317 bp641320 bp641321 bf641322 (by have qa0 : Int32.toInt 0 = 0 := (by decide); omega)) dr_cJ0_init_db425_5 ⟨wr_8_79, wr_1_19, wr_8_83, by decide, rfl, (Nat.le_of_ble_eq_true rfl), (Nat.le_of_ble_eq_true rfl)⟩ wr_8_80 wr_8_82 hmq641316 heq641316 rfl (show 0 + 0 ≤ 1 by first | omega | decide) (show 0 + 0 ≤ p641321.toInt.toNat by first | omega | decide) (Nat.le_of_ble_eq_true rfl) (fun r641340 w641341 dc641337 ds641338 hp641339 => ?_) (fun _ _ _ _ _ z => z.elim)
  obtain ⟨rfl, rfl, hdc, hds⟩ := hp641339
  change G _ _ _ _ _ _ _ (.ref q641317 :: _) _ _ _
  refine G_widen (cs' := 0) (sl' := 0) (by omega) (by omega) ?_
  refine G_astore_n (L' := [(3, .ref q641317), (0, .ref q641315), (1, .ref q641316), (2, .null)]) dr_cJ0_init_db425_8 (Nat.le_of_ble_eq_true rfl) rfl ?_
  refine G_aload_n 2 dr_cJ0_init_db425_9 rfl ?_
  refine Gw_callVU (As := []) (owner := "java/lang/AbstractStringBuilder") (gV_ok D I) (cp_640000_StringBuilder_length l hl0 D I P641313 F641314 q641316 q641317 p641320 p641321 f641322 n641323 hmq641316 hmq641317 heq641316 heq641317 bp641320 bp641321 bf641322 (by have qa0 : Int32.toInt 0 = 0 := (by decide); omega)) dr_cJ0_init_db425_10 ⟨wr_8_84, wr_8_86, wr_8_85, wr_8_91, wr_8_87, wr_8_88, wr_1_20, wr_8_89, by decide, rfl, (Nat.le_of_ble_eq_true rfl), (Nat.le_of_ble_eq_true rfl)⟩ hmq641316 heq641316 rfl (show 0 + 0 ≤ 1 by first | omega | decide) (show 0 + 0 ≤ p641321.toInt.toNat by first | omega | decide) (Nat.le_of_ble_eq_true rfl) (fun r641345 w641346 dc641342 ds641343 hp641344 => ?_) (fun _ _ _ _ _ z => z.elim)
  obtain ⟨rfl, rfl, hdc, hds⟩ := hp641344
  change G _ _ _ _ _ _ _ (.int p641321 :: _) _ _ _
  refine G_widen (cs' := 0) (sl' := 0) (by omega) (by omega) ?_
  refine G_istore (L' := [(4, .int p641321), (3, .ref q641317), (0, .ref q641315), (1, .ref q641316), (2, .null)]) dr_cJ0_init_db425_13 (Nat.le_of_ble_eq_true rfl) rfl ?_
  refine G_aload_n 3 dr_cJ0_init_db425_15 rfl ?_
  refine Gw_callVB (As := []) (gV_ok D I) (cp_640145_AbstractStringBuilder_isLatin1 l hl0 D I P641313 F641314 q641316 q641317 p641320 p641321 f641322 n641323 hmq641316 hmq641317 heq641316 heq641317 bp641320 bp641321 bf641322 (by have qa0 : Int32.toInt 0 = 0 := (by decide); omega)) dr_cJ0_init_db425_16 ⟨wr_8_92, wr_1_19, wr_8_37, by decide, rfl, (Nat.le_of_ble_eq_true rfl), (Nat.le_of_ble_eq_true rfl)⟩ wr_8_34 wr_8_36 hmq641316 heq641316 rfl (show 0 + 0 ≤ 1 by first | omega | decide) (show 0 + 0 ≤ p641321.toInt.toNat by first | omega | decide) (Nat.le_of_ble_eq_true rfl) (fun r641350 w641351 dc641347 ds641348 hp641349 => ?_) (fun _ _ _ _ _ z => z.elim)
  obtain ⟨rfl, rfl, hdc, hds⟩ := hp641349
  change G _ _ _ _ _ _ _ (.int 1 :: _) _ _ _
  refine G_widen (cs' := 0) (sl' := 0) (by omega) (by omega) ?_
  refine G_if_eq 41 dr_cJ0_init_db425_19 (by decide +kernel) (fun hc => absurd hc (by decide)) (fun _ => ?_)
  refine G_aload_n 2 dr_cJ0_init_db425_22 rfl ?_
  refine G_iconst 0 dr_cJ0_init_db425_23 (by decide +kernel) ?_
  refine Gp_putF 1 hmq641315 heq641315 dr_cJ0_init_db425_24 (gk_J0 D I) (Nat.le_of_ble_eq_true rfl) wr_8_183 rfl rfl rfl rfl rfl (Nat.le_of_ble_eq_true rfl) (fun F641352 e641353 n641354 => ?_)
  have he641355 : F641352 q641316 = .inr (1, [.ref q641317, .int 0, .int p641320, .int p641321]) := (n641354 q641316 (rn_oo heq641316 heq641315 (by decide))).trans heq641316
  have he641356 : F641352 q641317 = .inl (I .byte, n641323, .inl f641322) := (n641354 q641317 (rn_ao heq641317 heq641315)).trans heq641317
  have he641357 : F641352 q641315 = .inr (0, [.null, .int 0, .int p641318, .int p641319]) := e641353
  have hfr641358 : rFr [q641315] P641313 F641314 F641352 := rFr_put (rFr_rf (W := []) (P := P641313) (F := F641314)) n641354
  refine G_aload_n 2 dr_cJ0_init_db425_27 rfl ?_
  refine G_aload_n 1 dr_cJ0_init_db425_28 rfl ?_
  refine G_iconst 0 dr_cJ0_init_db425_29 (by decide +kernel) ?_
  refine G_iload 0 dr_cJ0_init_db425_30 rfl ?_
  refine Gw_callS (As := [.ref q641317, .int 0, .int p641321]) (gV_ok D I) (cp_641367_Arrays_copyOfRange l hl0 D I P641313 F641352 q641317 p641321 f641322 n641323 hmq641317 he641356 bp641321 bf641322 (by have qa0 : Int32.toInt 0 = 0 := (by decide); omega) (by have qa0 : Int32.toInt 0 = 0 := (by decide); omega)) dr_cJ0_init_db425_32 ⟨wr_8_93, wr_1_30, wr_8_95, by decide, rfl, (Nat.le_of_ble_eq_true rfl), (Nat.le_of_ble_eq_true rfl)⟩ wr_8_94 (show 0 + 1 ≤ 1 by first | omega | decide) (show 0 + p641321.toInt.toNat ≤ p641321.toInt.toNat by first | omega | decide) (Nat.le_of_ble_eq_true rfl) (fun r641464 w641465 dc641461 ds641462 hp641463 => ?_) (fun _ _ _ _ _ z => z.elim)
  obtain ⟨P641471, F641472, q641466, n641467, f641468, rfl, rfl, hsb641473, hfr641474, he641475, he641476, hm641477, hq641478, hdc, hds, bf641468, x641469, x641470⟩ := hp641463
  have hm641479 : q641315 ∈ P641471 := hsb641473 q641315 hmq641315
  have hm641480 : q641316 ∈ P641471 := hsb641473 q641316 hmq641316
  have hm641481 : q641317 ∈ P641471 := hsb641473 q641317 hmq641317
  have hq641482 : q641466 ∉ P641313 := fun z => hq641478 ((rSub_rf (P := P641313)) q641466 z)
  have hsb641483 : rSub P641313 P641471 := rSub_tr (rSub_rf (P := P641313)) hsb641473
  have he641484 : F641472 q641315 = .inr (0, [.null, .int 0, .int p641318, .int p641319]) := (hfr641474 q641315 hmq641315 nm_n).trans he641357
  have he641485 : F641472 q641316 = .inr (1, [.ref q641317, .int 0, .int p641320, .int p641321]) := (hfr641474 q641316 hmq641316 nm_n).trans he641355
  have hfr641486 : rFr [q641315] P641313 F641314 F641472 := rFr_call (rSub_rf (P := P641313)) hfr641358 hfr641474 (fun b hb hn => ⟨(nm_c (fun e => hn (e ▸ List.mem_cons_self)) nm_n), nm_n⟩)
  change G _ _ _ _ _ _ _ (.ref q641466 :: _) _ _ _
  refine G_widen (cs' := 1) (sl' := p641321.toInt.toNat) (by omega) (by omega) ?_
  refine Gp_putF 0 hm641479 he641484 dr_cJ0_init_db425_35 (gk_J0 D I) (Nat.le_of_ble_eq_true rfl) wr_8_182 rfl rfl rfl rfl rfl (Nat.le_of_ble_eq_true rfl) (fun F641487 e641488 n641489 => ?_)
  have he641490 : F641487 q641316 = .inr (1, [.ref q641317, .int 0, .int p641320, .int p641321]) := (n641489 q641316 (rn_oo he641485 he641484 (by decide))).trans he641485
  have he641491 : F641487 q641317 = .inl (I .byte, n641323, .inl f641322) := (n641489 q641317 (rn_ao he641475 he641484)).trans he641475
  have he641492 : F641487 q641466 = .inl (I .byte, n641467, .inl f641468) := (n641489 q641466 (fun h => hq641482 (h ▸ hmq641315))).trans he641476
  have he641493 : F641487 q641315 = .inr (0, [.ref q641466, .int 0, .int p641318, .int p641319]) := e641488
  have hfr641494 : rFr [q641315] P641313 F641314 F641487 := rFr_put' List.mem_cons_self hfr641486 n641489
  refine G_goto 97 dr_cJ0_init_db425_38 (by decide +kernel) ?_
  exact G_vretA dr_cJ0_init_db425_97 rfl (Nat.le_of_ble_eq_true rfl) (show p641321.toInt.toNat ≤ p641321.toInt.toNat by omega) ⟨P641471, F641487, q641466, n641467, f641468, rfl, rfl, hsb641483, hfr641494, he641493, he641490, he641491, he641492, hm641477, hq641482, (Nat.le_of_ble_eq_true rfl), (by omega), bf641468, (by have qa0 : Int32.toInt 0 = 0 := (by decide); omega), (sK_c x641470 (by omega))⟩
abbrev ky_641312_String_init : gKey := (cJ0_init_81219, 2, "java/lang/String", none, [], "<init>", fun _ _ => True)
def pp_641312_String_init (D : va_G) (I : FieldType → ClassId) (P641299 : List Nat) (F641300 : Nat → va_E) (q641301 : Nat) (q641302 : Nat) (q641303 : Nat) (p641304 : Int32) (p641305 : Int32) (p641306 : Int32) (p641307 : Int32) (f641308 : Nat → Int32) (n641309 : Nat) : Option Value → va_W → Nat → Nat → Prop := fun r w dc ds => ∃ (P641529 : List Nat) (F641530 : Nat → va_E) (q641526 : Nat) (n641527 : Nat) (f641528 : Nat → Int32), r = none ∧ w = va_pl P641529 F641530 ∧ rSub P641299 P641529 ∧ rFr [q641301] P641299 F641300 F641530 ∧ F641530 q641301 = .inr (0, [.ref q641526, .int 0, .int p641304, .int p641305]) ∧ F641530 q641302 = .inr (1, [.ref q641303, .int 0, .int p641306, .int p641307]) ∧ F641530 q641303 = .inl (I .byte, n641309, .inl f641308) ∧ F641530 q641526 = .inl (I .byte, n641527, .inl f641528) ∧ q641526 ∈ P641529 ∧ q641526 ∉ P641299 ∧ dc ≤ 1 ∧ ds ≤ p641307.toInt.toNat ∧ gF f641528 (-128) 127 ∧ (n641527 : Int) = p641307.toInt ∧ sK f641308 f641528 p641307.toInt
set_option maxRecDepth 100000 in
set_option maxHeartbeats 4000000 in
theorem cp_641312_String_init (l : Launch) (hl0 : l.stackTraces = false) (D : va_G) (I : FieldType → ClassId) (P641299 : List Nat) (F641300 : Nat → va_E) (q641301 : Nat) (q641302 : Nat) (q641303 : Nat) (p641304 : Int32) (p641305 : Int32) (p641306 : Int32) (p641307 : Int32) (f641308 : Nat → Int32) (n641309 : Nat) (hmq641301 : q641301 ∈ P641299) (hmq641302 : q641302 ∈ P641299) (hmq641303 : q641303 ∈ P641299) (heq641301 : F641300 q641301 = .inr (0, [.null, .int 0, .int p641304, .int p641305])) (heq641302 : F641300 q641302 = .inr (1, [.ref q641303, .int 0, .int p641306, .int p641307])) (heq641303 : F641300 q641303 = .inl (I .byte, n641309, .inl f641308)) (bp641305 : gB p641305 0 1) (bp641306 : gB p641306 0 1) (bp641307 : gB p641307 0 16777216) (bf641308 : gF f641308 (-128) 127) (x641310 : p641307.toInt ≤ (n641309 : Int)) (x641311 : ((n641309 : Int) ≤ 16777216)) : CtA (gV D I) l yJ0_init_81219 cJ0_init_81219 2 none 4 91 1 p641307.toInt.toNat [.ref q641301, .ref q641302] (va_pl P641299 F641300) (pp_641312_String_init D I P641299 F641300 q641301 q641302 q641303 p641304 p641305 p641306 p641307 f641308 n641309) gNA := by
  refine CtA_ofF hl0 (by decide +kernel) (Nat.le_of_ble_eq_true rfl) ?_
  have bp641304 := gB_any p641304
  refine G_aload_n 0 dr_cJ0_init_81219_0 rfl ?_
  refine G_aload_n 1 dr_cJ0_init_81219_1 rfl ?_
  refine G_null dr_cJ0_init_81219_2 ?_
  refine Gw_callI (As := [.ref q641302, .null]) (gV_ok D I) (cp_641326_String_init l hl0 D I P641299 F641300 q641301 q641302 q641303 p641304 p641305 p641306 p641307 f641308 n641309 hmq641301 hmq641302 hmq641303 heq641301 heq641302 heq641303 bp641305 bp641306 bp641307 bf641308 (by have qa0 : Int32.toInt 0 = 0 := (by decide); omega) (by have qa0 : Int32.toInt 0 = 0 := (by decide); omega)) dr_cJ0_init_81219_3 ⟨wr_8_75, wr_1_21, wr_8_77, by decide, rfl, (Nat.le_of_ble_eq_true rfl), (Nat.le_of_ble_eq_true rfl)⟩ wr_8_76 rfl (show 0 + 1 ≤ 1 by first | omega | decide) (show 0 + p641307.toInt.toNat ≤ p641307.toInt.toNat by first | omega | decide) (Nat.le_of_ble_eq_true rfl) (fun r641503 w641504 dc641500 ds641501 hp641502 => ?_)
  obtain ⟨P641510, F641511, q641505, n641506, f641507, rfl, rfl, hsb641512, hfr641513, he641514, he641515, he641516, he641517, hm641518, hq641519, hdc, hds, bf641507, x641508, x641509⟩ := hp641502
  have hm641520 : q641301 ∈ P641510 := hsb641512 q641301 hmq641301
  have hm641521 : q641302 ∈ P641510 := hsb641512 q641302 hmq641302
  have hm641522 : q641303 ∈ P641510 := hsb641512 q641303 hmq641303
  have hq641523 : q641505 ∉ P641299 := fun z => hq641519 ((rSub_rf (P := P641299)) q641505 z)
  have hsb641524 : rSub P641299 P641510 := rSub_tr (rSub_rf (P := P641299)) hsb641512
  have hfr641525 : rFr [q641301] P641299 F641300 F641511 := rFr_call (rSub_rf (P := P641299)) (rFr_rf (W := []) (P := P641299) (F := F641300)) hfr641513 (fun b hb hn => ⟨nm_n, (nm_c (fun e => hn (e ▸ List.mem_cons_self)) nm_n)⟩)
  change G _ _ _ _ _ _ _ _ _ _ _
  refine G_widen (cs' := 1) (sl' := p641307.toInt.toNat) (by omega) (by omega) ?_
  exact G_vretA dr_cJ0_init_81219_6 rfl (Nat.le_of_ble_eq_true rfl) (show p641307.toInt.toNat ≤ p641307.toInt.toNat by omega) ⟨P641510, F641511, q641505, n641506, f641507, rfl, rfl, hsb641524, hfr641525, he641514, he641515, he641516, he641517, hm641518, hq641523, (Nat.le_of_ble_eq_true rfl), (by omega), bf641507, (by have qa0 : Int32.toInt 0 = 0 := (by decide); omega), (sK_c x641509 (by omega))⟩
abbrev ky_641282_StringBuilder_toString : gKey := (cJ4_toString_0e30d, 1, "java/lang/StringBuilder", (some (FieldType.object "java/lang/String")), [], "toString", fun _ _ => True)
def pp_641282_StringBuilder_toString (D : va_G) (I : FieldType → ClassId) (P641272 : List Nat) (F641273 : Nat → va_E) (q641274 : Nat) (q641275 : Nat) (p641276 : Int32) (p641277 : Int32) (f641278 : Nat → Int32) (n641279 : Nat) : Option Value → va_W → Nat → Nat → Prop := fun r w dc ds => ∃ (P641561 : List Nat) (F641562 : Nat → va_E) (q641557 : Nat) (q641558 : Nat) (n641559 : Nat) (f641560 : Nat → Int32), r = some (.ref q641557) ∧ w = va_pl P641561 F641562 ∧ rSub P641272 P641561 ∧ rFr [] P641272 F641273 F641562 ∧ F641562 q641557 = .inr (0, [.ref q641558, .int 0, .int 0, .int 0]) ∧ F641562 q641274 = .inr (1, [.ref q641275, .int 0, .int p641276, .int p641277]) ∧ F641562 q641275 = .inl (I .byte, n641279, .inl f641278) ∧ F641562 q641558 = .inl (I .byte, n641559, .inl f641560) ∧ q641557 ∈ P641561 ∧ q641557 ∉ P641272 ∧ q641558 ∈ P641561 ∧ q641558 ∉ P641272 ∧ dc ≤ 2 ∧ ds ≤ p641277.toInt.toNat + 4 ∧ gF f641560 (-128) 127 ∧ (n641559 : Int) = p641277.toInt ∧ sK f641278 f641560 p641277.toInt
set_option maxRecDepth 100000 in
set_option maxHeartbeats 4000000 in
theorem cp_641282_StringBuilder_toString (l : Launch) (hl0 : l.stackTraces = false) (D : va_G) (I : FieldType → ClassId) (P641272 : List Nat) (F641273 : Nat → va_E) (q641274 : Nat) (q641275 : Nat) (p641276 : Int32) (p641277 : Int32) (f641278 : Nat → Int32) (n641279 : Nat) (hmq641274 : q641274 ∈ P641272) (hmq641275 : q641275 ∈ P641272) (heq641274 : F641273 q641274 = .inr (1, [.ref q641275, .int 0, .int p641276, .int p641277])) (heq641275 : F641273 q641275 = .inl (I .byte, n641279, .inl f641278)) (bp641276 : gB p641276 0 1) (bp641277 : gB p641277 0 16777216) (bf641278 : gF f641278 (-128) 127) (x641280 : p641277.toInt ≤ (n641279 : Int)) (x641281 : ((n641279 : Int) ≤ 16777216)) : CtA (gV D I) l yJ4_toString_0e30d cJ4_toString_0e30d 1 (some (FieldType.object "java/lang/String")) 5 112 2 (p641277.toInt.toNat + 4) [.ref q641274] (va_pl P641272 F641273) (pp_641282_StringBuilder_toString D I P641272 F641273 q641274 q641275 p641276 p641277 f641278 n641279) gNA := by
  refine CtA_ofF hl0 (by decide +kernel) (Nat.le_of_ble_eq_true rfl) ?_
  refine G_new [.null, .int 0, .int 0, .int 0] dr_cJ4_toString_0e30d_0 (gk_J0 D I) wr_8_70 wr_8_71 wr_1_21 (gfs_J0) (show 0 + 1 ≤ 2 by first | omega | decide) (show 0 + 4 ≤ (p641277.toInt.toNat + 4) by first | omega | decide) (fun q641283 => Gp_in (fun P641284 F641285 hq641286 hP641287 e641288 n641289 => ?_))
  refine G_widen (cs' := 1) (sl' := 4) (by omega) (by omega) ?_
  have he641290 : F641285 q641274 = .inr (1, [.ref q641275, .int 0, .int p641276, .int p641277]) := (n641289 q641274 (fun h => hq641286 (h ▸ hmq641274))).trans heq641274
  have he641291 : F641285 q641275 = .inl (I .byte, n641279, .inl f641278) := (n641289 q641275 (fun h => hq641286 (h ▸ hmq641275))).trans heq641275
  have he641292 : F641285 q641283 = .inr (0, [.null, .int 0, .int 0, .int 0]) := e641288
  have hm641293 : q641274 ∈ P641284 := (hP641287 q641274).mpr (Or.inl hmq641274)
  have hm641294 : q641275 ∈ P641284 := (hP641287 q641275).mpr (Or.inl hmq641275)
  have hm641295 : q641283 ∈ P641284 := (hP641287 q641283).mpr (Or.inr rfl)
  have hq641296 : q641283 ∉ P641272 := fun z => hq641286 ((rSub_rf (P := P641272)) q641283 z)
  have hfr641297 : rFr [] P641272 F641273 F641285 := rFr_new (rSub_rf (P := P641272)) hq641286 (rFr_rf (W := []) (P := P641272) (F := F641273)) n641289
  have hsb641298 : rSub P641272 P641284 := rSub_new (rSub_rf (P := P641272)) hP641287
  refine G_dup dr_cJ4_toString_0e30d_3 rfl ?_
  refine G_aload_n 0 dr_cJ4_toString_0e30d_4 rfl ?_
  refine Gw_callI (As := [.ref q641274]) (gV_ok D I) (cp_641312_String_init l hl0 D I P641284 F641285 q641283 q641274 q641275 0 0 p641276 p641277 f641278 n641279 hm641295 hm641293 hm641294 he641292 he641290 he641291 (gB_w (gBl (show Int32.toInt 0 = 0 by decide)) (by decide) (by decide)) bp641276 bp641277 bf641278 (by have qa0 : Int32.toInt 0 = 0 := (by decide); omega) (by have qa0 : Int32.toInt 0 = 0 := (by decide); omega)) dr_cJ4_toString_0e30d_5 ⟨wr_8_72, wr_1_21, wr_8_74, by decide, rfl, (Nat.le_of_ble_eq_true rfl), (Nat.le_of_ble_eq_true rfl)⟩ wr_8_73 rfl (show 1 + 1 ≤ 2 by first | omega | decide) (show 4 + p641277.toInt.toNat ≤ (p641277.toInt.toNat + 4) by first | omega | decide) (Nat.le_of_ble_eq_true rfl) (fun r641534 w641535 dc641531 ds641532 hp641533 => ?_)
  obtain ⟨P641541, F641542, q641536, n641537, f641538, rfl, rfl, hsb641543, hfr641544, he641545, he641546, he641547, he641548, hm641549, hq641550, hdc, hds, bf641538, x641539, x641540⟩ := hp641533
  have hm641551 : q641274 ∈ P641541 := hsb641543 q641274 hm641293
  have hm641552 : q641275 ∈ P641541 := hsb641543 q641275 hm641294
  have hm641553 : q641283 ∈ P641541 := hsb641543 q641283 hm641295
  have hq641554 : q641536 ∉ P641272 := fun z => hq641550 (hsb641298 q641536 z)
  have hsb641555 : rSub P641272 P641541 := rSub_tr hsb641298 hsb641543
  have hfr641556 : rFr [] P641272 F641273 F641542 := rFr_call hsb641298 hfr641297 hfr641544 (fun b hb hn => ⟨nm_n, (nm_c (fun e => hq641296 (e ▸ hb)) nm_n)⟩)
  change G _ _ _ _ _ _ _ _ _ _ _
  refine G_widen (cs' := 2) (sl' := 4 + p641277.toInt.toNat) (by omega) (by omega) ?_
  exact G_aretA (FieldType.object "java/lang/String") dr_cJ4_toString_0e30d_8 rfl (by first | exact Or.inl ⟨_, rfl⟩ | exact Or.inr ⟨_, rfl⟩) (Or.inr ⟨_, rfl⟩) (Nat.le_of_ble_eq_true rfl) (show 4 + p641277.toInt.toNat ≤ (p641277.toInt.toNat + 4) by omega) ⟨P641541, F641542, q641283, q641536, n641537, f641538, rfl, rfl, hsb641555, hfr641556, he641545, he641546, he641547, he641548, hm641553, hq641296, hm641549, hq641554, (Nat.le_of_ble_eq_true rfl), (by omega), bf641538, (by have qa0 : Int32.toInt 0 = 0 := (by decide); omega), (sK_c x641540 (by omega))⟩
abbrev ky_641584_StringLatin1_equals : gKey := (cJ1_equals_b5fdf, 3, "java/lang/StringLatin1", (some FieldType.boolean), [], "equals", fun _ _ => True)
def pp_641584_StringLatin1_equals (D : va_G) (I : FieldType → ClassId) (P641576 : List Nat) (F641577 : Nat → va_E) (q641578 : Nat) (qs641579 : Nat) (bs641580 : List Int32) (f641581 : Nat → Int32) (n641582 : Nat) : Option Value → va_W → Nat → Nat → Prop := fun r w dc ds => ∃ (o641665 : Int32), r = some (.int o641665) ∧ w = va_pl P641576 F641577 ∧ dc ≤ 0 ∧ ds ≤ 0 ∧ gB o641665 0 1
set_option maxRecDepth 100000 in
set_option maxHeartbeats 4000000 in
theorem cp_641584_StringLatin1_equals (l : Launch) (hl0 : l.stackTraces = false) (D : va_G) (I : FieldType → ClassId) (P641576 : List Nat) (F641577 : Nat → va_E) (q641578 : Nat) (qs641579 : Nat) (bs641580 : List Int32) (f641581 : Nat → Int32) (n641582 : Nat) (hmq641578 : q641578 ∈ P641576) (heq641578 : F641577 q641578 = .inl (I .byte, n641582, .inl f641581)) (hbs641580 : ∀ A s H, (gV D I).2.2.2.1 A s H → va_T .byte qs641579 bs641580.length (fun j => .int (bs641580.getD j 0)) A s H) (nbs641580 : (bs641580.length : Int) ≤ 65535) (lbs641580 : gLB bs641580) (bf641581 : gF f641581 (-128) 127) (x641583 : ((n641582 : Int) ≤ 16777216)) : CtA (gV D I) l yJ1_equals_b5fdf cJ1_equals_b5fdf 3 (some FieldType.boolean) 0 0 0 0 [.ref q641578, .ref qs641579] (va_pl P641576 F641577) (pp_641584_StringLatin1_equals D I P641576 F641577 q641578 qs641579 bs641580 f641581 n641582) gNA := by
  refine CtA_ofF hl0 (by decide +kernel) (Nat.le_of_ble_eq_true rfl) ?_
  refine G_aload_n 0 dr_cJ1_equals_b5fdf_0 rfl ?_
  refine Gp_alen (Int32.ofNat n641582) 1 hmq641578 heq641578 dr_cJ1_equals_b5fdf_1 rfl rfl (G_nam fun z641585 hz641585 => ?_)
  have ez641585 : z641585.toInt = (n641582 : Nat) := gI_ofM hz641585 (by omega)
  have bz641585 : gB z641585 0 16777216 := ⟨by omega, by omega⟩
  refine G_aload_n 1 dr_cJ1_equals_b5fdf_2 rfl ?_
  refine G_klen dr_cJ1_equals_b5fdf_3 hbs641580 (G_nam fun z641586 hz641586 => ?_)
  have ez641586 : z641586.toInt = (bs641580.length : Int) := gI_ofN hz641586 nbs641580
  have bz641586 : gB z641586 0 65535 := ⟨by omega, by omega⟩
  refine G_icmp_ne 34 dr_cJ1_equals_b5fdf_4 (by decide +kernel) (fun hc641587 => ?_) (fun hc641587 => ?_)
  · have r641588 : z641585.toInt ≠ z641586.toInt := gC_ne hc641587
    refine G_iconst 0 dr_cJ1_equals_b5fdf_34 (by decide +kernel) ?_
    exact G_zretA FieldType.boolean dr_cJ1_equals_b5fdf_35 rfl rfl (Nat.le_of_ble_eq_true rfl) (Nat.le_of_ble_eq_true rfl) ⟨0, rfl, rfl, (Nat.le_of_ble_eq_true rfl), (Nat.le_of_ble_eq_true rfl), (gB_w (gBl (show Int32.toInt 0 = 0 by decide)) (by decide) (by decide))⟩
  · have r641589 : z641585.toInt = z641586.toInt := gC_eq hc641587
    have bz641585' : gB z641585 0 65535 := ⟨by omega, by omega⟩
    refine G_iconst 0 dr_cJ1_equals_b5fdf_7 (by decide +kernel) ?_
    refine G_istore_n (L' := [(2, .int 0), (0, .ref q641578), (1, .ref qs641579)]) dr_cJ1_equals_b5fdf_8 (Nat.le_of_ble_eq_true rfl) rfl ?_
    have hlp9_641654 : ∀ (n9_641654 : Nat) (g641654 : Int32), gB g641654 0 16777216 → ((16777217 : Int) - g641654.toInt).toNat < n9_641654 → G (gV D I) l (gRm 0 0 0 0) (gMA (gV D I) (pp_641584_StringLatin1_equals D I P641576 F641577 q641578 qs641579 bs641580 f641581 n641582) gNA 0 0) ky_641584_StringLatin1_equals 9 [(2, .int g641654), (0, .ref q641578), (1, .ref qs641579)] [] (va_pl P641576 F641577) 0 0 := by
      intro n9_641654
      induction n9_641654 with
      | zero => intro g641654 bg641654 hm9_641654; exact absurd hm9_641654 (Nat.not_lt_zero _)
      | succ n9_641654 ih9_641654 =>
        intro g641654 bg641654 hm9_641654
        refine G_iload_n 0 dr_cJ1_equals_b5fdf_9 rfl ?_
        refine G_aload_n 1 dr_cJ1_equals_b5fdf_10 rfl ?_
        refine Gp_alen (Int32.ofNat n641582) 1 hmq641578 heq641578 dr_cJ1_equals_b5fdf_11 rfl rfl (G_nam fun z641655 hz641655 => ?_)
        have ez641655 : z641655.toInt = (n641582 : Nat) := gI_ofM hz641655 (by omega)
        have bz641655 : gB z641655 0 16777216 := ⟨by omega, by omega⟩
        refine G_icmp_ge 32 dr_cJ1_equals_b5fdf_12 (by decide +kernel) (fun hc641656 => ?_) (fun hc641656 => ?_)
        · have r641657 : z641655.toInt ≤ g641654.toInt := gC_le hc641656
          refine G_iconst 1 dr_cJ1_equals_b5fdf_32 (by decide +kernel) ?_
          exact G_zretA FieldType.boolean dr_cJ1_equals_b5fdf_33 rfl rfl (Nat.le_of_ble_eq_true rfl) (Nat.le_of_ble_eq_true rfl) ⟨1, rfl, rfl, (Nat.le_of_ble_eq_true rfl), (Nat.le_of_ble_eq_true rfl), (gB_w (gBl (show Int32.toInt 1 = 1 by decide)) (by decide) (by decide))⟩
        · have r641658 : g641654.toInt < z641655.toInt := gC_nle hc641656
          have bg641654' : gB g641654 0 16777215 := ⟨by omega, by omega⟩
          have bz641655' : gB z641655 1 16777216 := ⟨by omega, by omega⟩
          refine G_aload_n 1 dr_cJ1_equals_b5fdf_15 rfl ?_
          refine G_iload_n 0 dr_cJ1_equals_b5fdf_16 rfl ?_
          refine Gp_bald 1 hmq641578 heq641578 dr_cJ1_equals_b5fdf_17 rfl (gB_inr (by omega) (by omega)) (G_nam fun z641659 hz641659 => ?_)
          have bz641659 : gB z641659 (-128) 127 := by rw [hz641659]; exact bf641581 _
          refine G_aload_n 2 dr_cJ1_equals_b5fdf_18 rfl ?_
          refine G_iload_n 0 dr_cJ1_equals_b5fdf_19 rfl ?_
          refine G_kbald (f := fun j => bs641580.getD j 0) dr_cJ1_equals_b5fdf_20 hbs641580 (gB_inr (by omega) (by omega)) (G_nam fun z641660 hz641660 => ?_)
          have bz641660 : gB z641660 (-2147483648) 2147483647 := gB_any z641660
          refine G_icmp_eq 26 dr_cJ1_equals_b5fdf_21 (by decide +kernel) (fun hc641661 => ?_) (fun hc641661 => ?_)
          · have r641662 : z641659.toInt = z641660.toInt := gC_eq hc641661
            have bz641660' : gB z641660 (-128) 127 := ⟨by omega, by omega⟩
            obtain ⟨z641663, hz641663⟩ : ∃ z : Int32, z = g641654 + Int32.ofInt 1 := ⟨_, rfl⟩
            have ez641663 : z641663.toInt = g641654.toInt + 1 := gI_inc hz641663 (by decide) bg641654' (by decide) (by decide)
            have bz641663 : gB z641663 1 16777216 := ⟨by omega, by omega⟩
            refine G_iinc (L' := [(2, .int z641663), (0, .ref q641578), (1, .ref qs641579)]) z641663 0 dr_cJ1_equals_b5fdf_26 rfl hz641663.symm (Nat.le_of_ble_eq_true rfl) rfl ?_
            refine G_goto 9 dr_cJ1_equals_b5fdf_29 (by decide +kernel) ?_
            exact ih9_641654 z641663 (gB_w bz641663 (by decide) (by decide)) (by omega)
          · have r641664 : z641659.toInt ≠ z641660.toInt := gC_ne hc641661
            refine G_iconst 0 dr_cJ1_equals_b5fdf_24 (by decide +kernel) ?_
            exact G_zretA FieldType.boolean dr_cJ1_equals_b5fdf_25 rfl rfl (Nat.le_of_ble_eq_true rfl) (Nat.le_of_ble_eq_true rfl) ⟨0, rfl, rfl, (Nat.le_of_ble_eq_true rfl), (Nat.le_of_ble_eq_true rfl), (gB_w (gBl (show Int32.toInt 0 = 0 by decide)) (by decide) (by decide))⟩
    exact hlp9_641654 (((16777217 : Int) - 0).toNat + 1) 0 (gB_w (gBl (show Int32.toInt 0 = 0 by decide)) (by decide) (by decide)) (Nat.lt_succ_self _)
abbrev ky_641575_String_equals : gKey := (cJ0_equals_9ea2d, 3, "java/lang/String", (some FieldType.boolean), [], "equals", fun _ _ => True)
def pp_641575_String_equals (D : va_G) (I : FieldType → ClassId) (P641563 : List Nat) (F641564 : Nat → va_E) (q641565 : Nat) (q641566 : Nat) (qs641567 : Nat) (qb641568 : Nat) (bs641569 : List Int32) (p641570 : Int32) (p641571 : Int32) (f641572 : Nat → Int32) (n641573 : Nat) : Option Value → va_W → Nat → Nat → Prop := fun r w dc ds => (∃ (o641671 : Int32), r = some (.int 0) ∧ w = va_pl P641563 F641564 ∧ dc ≤ 0 ∧ ds ≤ 0 ∧ o641671.toInt = 0 ∧ gB o641671 0 0) ∨ (∃ (o641671 : Int32), r = some (.int 1) ∧ w = va_pl P641563 F641564 ∧ dc ≤ 0 ∧ ds ≤ 0 ∧ o641671.toInt ≠ 0 ∧ gB o641671 1 1) ∨ (r = some (.int 1) ∧ w = va_pl P641563 F641564 ∧ dc ≤ 0 ∧ ds ≤ 0)
set_option maxRecDepth 100000 in
set_option maxHeartbeats 4000000 in
theorem cp_641575_String_equals (l : Launch) (hl0 : l.stackTraces = false) (D : va_G) (I : FieldType → ClassId) (P641563 : List Nat) (F641564 : Nat → va_E) (q641565 : Nat) (q641566 : Nat) (qs641567 : Nat) (qb641568 : Nat) (bs641569 : List Int32) (p641570 : Int32) (p641571 : Int32) (f641572 : Nat → Int32) (n641573 : Nat) (hmq641565 : q641565 ∈ P641563) (hmq641566 : q641566 ∈ P641563) (heq641565 : F641564 q641565 = .inr (0, [.ref q641566, .int 0, .int p641570, .int p641571])) (heq641566 : F641564 q641566 = .inl (I .byte, n641573, .inl f641572)) (hbs641569 : ∀ A s H, (gV D I).2.2.2.1 A s H → gSC qs641567 qb641568 bs641569 A s H) (nbs641569 : (bs641569.length : Int) ≤ 65535) (lbs641569 : gLB bs641569) (bp641571 : gB p641571 0 1) (bf641572 : gF f641572 (-128) 127) (x641574 : ((n641573 : Int) ≤ 16777216)) : CtA (gV D I) l yJ0_equals_9ea2d cJ0_equals_9ea2d 3 (some FieldType.boolean) 1 22 0 0 [.ref q641565, .ref qs641567] (va_pl P641563 F641564) (pp_641575_String_equals D I P641563 F641564 q641565 q641566 qs641567 qb641568 bs641569 p641570 p641571 f641572 n641573) gNA := by
  refine CtA_ofF hl0 (by decide +kernel) (Nat.le_of_ble_eq_true rfl) ?_
  have bp641570 := gB_any p641570
  refine G_aload_n 0 dr_cJ0_equals_9ea2d_0 rfl ?_
  refine G_aload_n 1 dr_cJ0_equals_9ea2d_1 rfl ?_
  refine G_acmp_ne 7 dr_cJ0_equals_9ea2d_2 (by decide +kernel) (fun hc => ?_) (fun hc => ?_)
  · refine G_aload_n 1 dr_cJ0_equals_9ea2d_7 rfl ?_
    refine G_instK dr_cJ0_equals_9ea2d_8 wr_9_149 wr_8_71 (fun _ _ _ h => (hbs641569 _ _ _ h).1) ?_
    refine G_if_eq 54 dr_cJ0_equals_9ea2d_11 (by decide +kernel) (fun hc => absurd hc (by decide)) (fun _ => ?_)
    refine G_aload_n 1 dr_cJ0_equals_9ea2d_14 rfl ?_
    refine G_casK dr_cJ0_equals_9ea2d_15 wr_9_149 wr_8_71 (fun _ _ _ h => (hbs641569 _ _ _ h).1) ?_
    refine G_astore_n (L' := [(2, .ref qs641567), (0, .ref q641565), (1, .ref qs641567)]) dr_cJ0_equals_9ea2d_18 (Nat.le_of_ble_eq_true rfl) rfl ?_
    refine G_gets dr_cJ0_equals_9ea2d_19 wr_3_65 gz_cs (fun x hx => ?_)
    subst hx
    refine G_if_eq 36 dr_cJ0_equals_9ea2d_22 (by decide +kernel) (fun hc => absurd hc (by decide)) (fun _ => ?_)
    refine G_aload_n 1 dr_cJ0_equals_9ea2d_25 rfl ?_
    refine Gp_get 1 hmq641565 heq641565 dr_cJ0_equals_9ea2d_26 (gk_J0 D I) (Nat.le_of_ble_eq_true rfl) wr_8_183 rfl ?_
    refine G_aload_n 0 dr_cJ0_equals_9ea2d_29 rfl ?_
    refine G_kget dr_cJ0_equals_9ea2d_30 wr_8_183 (fun _ _ _ h => (hbs641569 _ _ _ h).2.1) ?_
    refine G_icmp_ne 54 dr_cJ0_equals_9ea2d_33 (by decide +kernel) (fun hc => absurd hc (by decide)) (fun _ => ?_)
    refine G_aload_n 1 dr_cJ0_equals_9ea2d_36 rfl ?_
    refine Gp_get 0 hmq641565 heq641565 dr_cJ0_equals_9ea2d_37 (gk_J0 D I) (Nat.le_of_ble_eq_true rfl) wr_8_182 rfl ?_
    refine G_aload_n 0 dr_cJ0_equals_9ea2d_40 rfl ?_
    refine G_kget dr_cJ0_equals_9ea2d_41 wr_8_182 (fun _ _ _ h => (hbs641569 _ _ _ h).2.2.1) ?_
    refine Gw_callS (As := [.ref q641566, .ref qb641568]) (gV_ok D I) (cp_641584_StringLatin1_equals l hl0 D I P641563 F641564 q641566 qb641568 bs641569 f641572 n641573 hmq641566 heq641566 (fun _ _ _ h => (hbs641569 _ _ _ h).2.2.2) (by omega) lbs641569 bf641572 (by have qa0 : Int32.toInt 0 = 0 := (by decide); omega)) dr_cJ0_equals_9ea2d_44 ⟨wr_9_150, wr_1_28, wr_9_152, by decide, rfl, (Nat.le_of_ble_eq_true rfl), (Nat.le_of_ble_eq_true rfl)⟩ wr_9_151 (show 0 + 0 ≤ 0 by first | omega | decide) (show 0 + 0 ≤ 0 by first | omega | decide) (Nat.le_of_ble_eq_true rfl) (fun r641669 w641670 dc641666 ds641667 hp641668 => ?_) (fun _ _ _ _ _ z => z.elim)
    obtain ⟨o641671, rfl, rfl, hdc, hds, bo641671⟩ := hp641668
    change G _ _ _ _ _ _ _ (.int o641671 :: _) _ _ _
    refine G_widen (cs' := 0) (sl' := 0) (by omega) (by omega) ?_
    refine G_if_eq 54 dr_cJ0_equals_9ea2d_47 (by decide +kernel) (fun hc641672 => ?_) (fun hc641672 => ?_)
    · have r641673 : o641671.toInt = 0 := gj_eq hc641672 (show Int32.toInt 0 = 0 by decide)
      have bo641671' : gB o641671 0 0 := ⟨by omega, by omega⟩
      refine G_iconst 0 dr_cJ0_equals_9ea2d_54 (by decide +kernel) ?_
      exact G_zretA FieldType.boolean dr_cJ0_equals_9ea2d_55 rfl rfl (Nat.le_of_ble_eq_true rfl) (Nat.le_of_ble_eq_true rfl) (Or.inl ⟨o641671, rfl, rfl, (Nat.le_of_ble_eq_true rfl), (Nat.le_of_ble_eq_true rfl), r641673, bo641671'⟩)
    · have r641674 : o641671.toInt ≠ 0 := gj_neq hc641672 (show Int32.toInt 0 = 0 by decide)
      have bo641671' : gB o641671 1 1 := ⟨by omega, by omega⟩
      refine G_iconst 1 dr_cJ0_equals_9ea2d_50 (by decide +kernel) ?_
      refine G_goto 55 dr_cJ0_equals_9ea2d_51 (by decide +kernel) ?_
      exact G_zretA FieldType.boolean dr_cJ0_equals_9ea2d_55 rfl rfl (Nat.le_of_ble_eq_true rfl) (Nat.le_of_ble_eq_true rfl) (Or.inr (Or.inl ⟨o641671, rfl, rfl, (Nat.le_of_ble_eq_true rfl), (Nat.le_of_ble_eq_true rfl), r641674, bo641671'⟩))
  · refine G_iconst 1 dr_cJ0_equals_9ea2d_5 (by decide +kernel) ?_
    exact G_zretA FieldType.boolean dr_cJ0_equals_9ea2d_6 rfl rfl (Nat.le_of_ble_eq_true rfl) (Nat.le_of_ble_eq_true rfl) (Or.inr (Or.inr (⟨rfl, rfl, (Nat.le_of_ble_eq_true rfl), (Nat.le_of_ble_eq_true rfl)⟩)))
abbrev ky_641688_String_isLatin1 : gKey := (cJ0_isLatin1_aae02, 1, "java/lang/String", (some FieldType.boolean), [], "isLatin1", fun _ _ => True)
def pp_641688_String_isLatin1 (D : va_G) (I : FieldType → ClassId) (P641683 : List Nat) (F641684 : Nat → va_E) (qs641685 : Nat) (qb641686 : Nat) (bs641687 : List Int32) : Option Value → va_W → Nat → Nat → Prop := fun r w dc ds => r = some (.int 1) ∧ w = va_pl P641683 F641684 ∧ dc ≤ 0 ∧ ds ≤ 0
set_option maxRecDepth 100000 in
set_option maxHeartbeats 4000000 in
theorem cp_641688_String_isLatin1 (l : Launch) (hl0 : l.stackTraces = false) (D : va_G) (I : FieldType → ClassId) (P641683 : List Nat) (F641684 : Nat → va_E) (qs641685 : Nat) (qb641686 : Nat) (bs641687 : List Int32) (hbs641687 : ∀ A s H, (gV D I).2.2.2.1 A s H → gSC qs641685 qb641686 bs641687 A s H) (nbs641687 : (bs641687.length : Int) ≤ 65535) (lbs641687 : gLB bs641687) : CtA (gV D I) l yJ0_isLatin1_aae02 cJ0_isLatin1_aae02 1 (some FieldType.boolean) 0 0 0 0 [.ref qs641685] (va_pl P641683 F641684) (pp_641688_String_isLatin1 D I P641683 F641684 qs641685 qb641686 bs641687) gNA := by
  refine CtA_ofF hl0 (by decide +kernel) (Nat.le_of_ble_eq_true rfl) ?_
  refine G_gets dr_cJ0_isLatin1_aae02_0 wr_3_65 gz_cs (fun x hx => ?_)
  subst hx
  refine G_if_eq 17 dr_cJ0_isLatin1_aae02_3 (by decide +kernel) (fun hc => absurd hc (by decide)) (fun _ => ?_)
  refine G_aload_n 0 dr_cJ0_isLatin1_aae02_6 rfl ?_
  refine G_kget dr_cJ0_isLatin1_aae02_7 wr_8_183 (fun _ _ _ h => (hbs641687 _ _ _ h).2.1) ?_
  refine G_if_ne 17 dr_cJ0_isLatin1_aae02_10 (by decide +kernel) (fun hc => absurd hc (by decide)) (fun _ => ?_)
  refine G_iconst 1 dr_cJ0_isLatin1_aae02_13 (by decide +kernel) ?_
  refine G_goto 18 dr_cJ0_isLatin1_aae02_14 (by decide +kernel) ?_
  exact G_zretA FieldType.boolean dr_cJ0_isLatin1_aae02_18 rfl rfl (Nat.le_of_ble_eq_true rfl) (Nat.le_of_ble_eq_true rfl) ⟨rfl, rfl, (Nat.le_of_ble_eq_true rfl), (Nat.le_of_ble_eq_true rfl)⟩
abbrev ky_641700_StringLatin1_charAt : gKey := (cJ1_charAt_3b067, 2, "java/lang/StringLatin1", (some FieldType.char), [], "charAt", fun _ _ => True)
def pp_641700_StringLatin1_charAt (D : va_G) (I : FieldType → ClassId) (P641694 : List Nat) (F641695 : Nat → va_E) (qs641696 : Nat) (bs641697 : List Int32) (p641698 : Int32) : Option Value → va_W → Nat → Nat → Prop := fun r w dc ds => ∃ (o641710 : Int32), r = some (.int o641710) ∧ w = va_pl P641694 F641695 ∧ dc ≤ 0 ∧ ds ≤ 0 ∧ gB o641710 0 65535
set_option maxRecDepth 100000 in
set_option maxHeartbeats 4000000 in
theorem cp_641700_StringLatin1_charAt (l : Launch) (hl0 : l.stackTraces = false) (D : va_G) (I : FieldType → ClassId) (P641694 : List Nat) (F641695 : Nat → va_E) (qs641696 : Nat) (bs641697 : List Int32) (p641698 : Int32) (hbs641697 : ∀ A s H, (gV D I).2.2.2.1 A s H → va_T .byte qs641696 bs641697.length (fun j => .int (bs641697.getD j 0)) A s H) (nbs641697 : (bs641697.length : Int) ≤ 65535) (lbs641697 : gLB bs641697) (bp641698 : gB p641698 0 16777215) (x641699 : p641698.toInt < (bs641697.length : Int)) : CtA (gV D I) l yJ1_charAt_3b067 cJ1_charAt_3b067 2 (some FieldType.char) 2 43 0 0 [.ref qs641696, .int p641698] (va_pl P641694 F641695) (pp_641700_StringLatin1_charAt D I P641694 F641695 qs641696 bs641697 p641698) gNA := by
  refine CtA_ofF hl0 (by decide +kernel) (Nat.le_of_ble_eq_true rfl) ?_
  refine G_iload_n 1 dr_cJ1_charAt_3b067_0 rfl ?_
  refine G_aload_n 0 dr_cJ1_charAt_3b067_1 rfl ?_
  refine G_klen dr_cJ1_charAt_3b067_2 hbs641697 (G_nam fun z641701 hz641701 => ?_)
  have ez641701 : z641701.toInt = (bs641697.length : Int) := gI_ofN hz641701 nbs641697
  have bz641701 : gB z641701 0 65535 := ⟨by omega, by omega⟩
  refine Gw_callS (As := [.int p641698, .int z641701]) (gV_ok D I) (cp_640050_String_checkIndex l hl0 D I P641694 F641695 p641698 z641701 (gB_w bp641698 (by decide) (by decide)) (gB_w bz641701 (by decide) (by decide)) (by omega)) dr_cJ1_charAt_3b067_3 ⟨wr_3_78, wr_1_21, wr_3_80, by decide, rfl, (Nat.le_of_ble_eq_true rfl), (Nat.le_of_ble_eq_true rfl)⟩ wr_3_79 (show 0 + 0 ≤ 0 by first | omega | decide) (show 0 + 0 ≤ 0 by first | omega | decide) (Nat.le_of_ble_eq_true rfl) (fun r641705 w641706 dc641702 ds641703 hp641704 => ?_) (fun _ _ _ _ _ z => z.elim)
  obtain ⟨rfl, rfl, hdc, hds⟩ := hp641704
  change G _ _ _ _ _ _ _ _ _ _ _
  refine G_widen (cs' := 0) (sl' := 0) (by omega) (by omega) ?_
  refine G_aload_n 0 dr_cJ1_charAt_3b067_6 rfl ?_
  refine G_iload_n 1 dr_cJ1_charAt_3b067_7 rfl ?_
  refine G_kbald (f := fun j => bs641697.getD j 0) dr_cJ1_charAt_3b067_8 hbs641697 (gB_inr (by omega) (by omega)) (G_nam fun z641707 hz641707 => ?_)
  have bz641707 : gB z641707 (-2147483648) 2147483647 := gB_any z641707
  refine G_sipush 255 dr_cJ1_charAt_3b067_9 (by decide +kernel) ?_
  refine G_iand dr_cJ1_charAt_3b067_12 (G_nam fun z641708 hz641708 => ?_)
  have bz641708 : gB z641708 0 255 := gB_and hz641708 (gBl (show Int32.toInt 255 = 255 by decide)) (by decide)
  refine G_i2c dr_cJ1_charAt_3b067_13 (G_nam fun z641709 hz641709 => ?_)
  have bz641709 : gB z641709 0 65535 := gB_i2c hz641709
  exact G_zretA FieldType.char dr_cJ1_charAt_3b067_14 rfl (gN_char bz641709) (Nat.le_of_ble_eq_true rfl) (Nat.le_of_ble_eq_true rfl) ⟨z641709, rfl, rfl, (Nat.le_of_ble_eq_true rfl), (Nat.le_of_ble_eq_true rfl), bz641709⟩
