theorem dr_cJ5_getValue_6d5f1_0 : decode cJ5_getValue_6d5f1 0 = .ok (.aload_n 0, 1) := by decide +kernel
theorem dr_cJ5_getValue_6d5f1_1 : decode cJ5_getValue_6d5f1 1 = .ok (.getfield 15, 3) := by decide +kernel
theorem dr_cJ5_getValue_6d5f1_4 : decode cJ5_getValue_6d5f1 4 = .ok (.areturn, 1) := by decide +kernel
theorem dr_cJ7_checkLength_df160_0 : decode cJ7_checkLength_df160 0 = .ok (.iload_n 1, 1) := by decide +kernel
theorem dr_cJ7_checkLength_df160_1 : decode cJ7_checkLength_df160 1 = .ok (.iload_n 0, 1) := by decide +kernel
theorem dr_cJ7_checkLength_df160_2 : decode cJ7_checkLength_df160 2 = .ok (.if_icmp .ge 35, 3) := by decide +kernel
theorem dr_cJ7_checkLength_df160_37 : decode cJ7_checkLength_df160 37 = .ok (.return_, 1) := by decide +kernel
theorem dr_cJ7_copyOfRangeByte_39247_0 : decode cJ7_copyOfRangeByte_39247 0 = .ok (.iload_n 1, 1) := by decide +kernel
theorem dr_cJ7_copyOfRangeByte_39247_1 : decode cJ7_copyOfRangeByte_39247 1 = .ok (.iload_n 2, 1) := by decide +kernel
theorem dr_cJ7_copyOfRangeByte_39247_2 : decode cJ7_copyOfRangeByte_39247 2 = .ok (.invokestatic 343, 3) := by decide +kernel
theorem wr_8_99 : (Jvm.Cond.methodLink "java/util/Arrays" (343 : Nat) ({ cls := "java/util/Arrays", name := "checkLength", desc := "(II)V" } : Jvm.MethodName)) ∈ gw := gw_8 99 rfl rfl
theorem wr_8_101 : (Jvm.Cond.code ({ cls := "java/util/Arrays", name := "checkLength", desc := "(II)V" } : Jvm.MethodName) prog_44_method_131_code (2 : Nat) (Option.none : Option Jvm.ClassFile.FieldType)) ∈ gw := gw_8 101 rfl rfl
theorem wr_8_100 : (Jvm.Cond.static ({ cls := "java/util/Arrays", name := "checkLength", desc := "(II)V" } : Jvm.MethodName)) ∈ gw := gw_8 100 rfl rfl
theorem dr_cJ7_copyOfRangeByte_39247_5 : decode cJ7_copyOfRangeByte_39247 5 = .ok (.iload_n 2, 1) := by decide +kernel
theorem dr_cJ7_copyOfRangeByte_39247_6 : decode cJ7_copyOfRangeByte_39247 6 = .ok (.iload_n 1, 1) := by decide +kernel
theorem dr_cJ7_copyOfRangeByte_39247_7 : decode cJ7_copyOfRangeByte_39247 7 = .ok (.isub, 1) := by decide +kernel
theorem dr_cJ7_copyOfRangeByte_39247_8 : decode cJ7_copyOfRangeByte_39247 8 = .ok (.istore_n 3, 1) := by decide +kernel
theorem dr_cJ7_copyOfRangeByte_39247_9 : decode cJ7_copyOfRangeByte_39247 9 = .ok (.iload_n 3, 1) := by decide +kernel
theorem dr_cJ7_copyOfRangeByte_39247_10 : decode cJ7_copyOfRangeByte_39247 10 = .ok (.newarray .byte, 2) := by decide +kernel
theorem dr_cJ7_copyOfRangeByte_39247_12 : decode cJ7_copyOfRangeByte_39247 12 = .ok (.astore 4, 2) := by decide +kernel
theorem dr_cJ7_copyOfRangeByte_39247_14 : decode cJ7_copyOfRangeByte_39247 14 = .ok (.aload_n 0, 1) := by decide +kernel
theorem dr_cJ7_copyOfRangeByte_39247_15 : decode cJ7_copyOfRangeByte_39247 15 = .ok (.iload_n 1, 1) := by decide +kernel
theorem dr_cJ7_copyOfRangeByte_39247_16 : decode cJ7_copyOfRangeByte_39247 16 = .ok (.aload 4, 2) := by decide +kernel
theorem dr_cJ7_copyOfRangeByte_39247_18 : decode cJ7_copyOfRangeByte_39247 18 = .ok (.iconst 0, 1) := by decide +kernel
theorem dr_cJ7_copyOfRangeByte_39247_19 : decode cJ7_copyOfRangeByte_39247 19 = .ok (.aload_n 0, 1) := by decide +kernel
theorem dr_cJ7_copyOfRangeByte_39247_20 : decode cJ7_copyOfRangeByte_39247 20 = .ok (.arraylength, 1) := by decide +kernel
theorem dr_cJ7_copyOfRangeByte_39247_21 : decode cJ7_copyOfRangeByte_39247 21 = .ok (.iload_n 1, 1) := by decide +kernel
theorem dr_cJ7_copyOfRangeByte_39247_22 : decode cJ7_copyOfRangeByte_39247 22 = .ok (.isub, 1) := by decide +kernel
theorem dr_cJ7_copyOfRangeByte_39247_23 : decode cJ7_copyOfRangeByte_39247 23 = .ok (.iload_n 3, 1) := by decide +kernel
theorem dr_cJ7_copyOfRangeByte_39247_24 : decode cJ7_copyOfRangeByte_39247 24 = .ok (.invokestatic 304, 3) := by decide +kernel
theorem dr_cJ7_copyOfRangeByte_39247_27 : decode cJ7_copyOfRangeByte_39247 27 = .ok (.invokestatic 150, 3) := by decide +kernel
theorem dr_cJ7_copyOfRangeByte_39247_30 : decode cJ7_copyOfRangeByte_39247 30 = .ok (.aload 4, 2) := by decide +kernel
theorem dr_cJ7_copyOfRangeByte_39247_32 : decode cJ7_copyOfRangeByte_39247 32 = .ok (.areturn, 1) := by decide +kernel
theorem dr_cJ7_copyOfRange_39247_0 : decode cJ7_copyOfRange_39247 0 = .ok (.iload_n 1, 1) := by decide +kernel
theorem dr_cJ7_copyOfRange_39247_1 : decode cJ7_copyOfRange_39247 1 = .ok (.ifCond .ne 9, 3) := by decide +kernel
theorem dr_cJ7_copyOfRange_39247_4 : decode cJ7_copyOfRange_39247 4 = .ok (.iload_n 2, 1) := by decide +kernel
theorem dr_cJ7_copyOfRange_39247_5 : decode cJ7_copyOfRange_39247 5 = .ok (.aload_n 0, 1) := by decide +kernel
theorem dr_cJ7_copyOfRange_39247_6 : decode cJ7_copyOfRange_39247 6 = .ok (.arraylength, 1) := by decide +kernel
theorem dr_cJ7_copyOfRange_39247_7 : decode cJ7_copyOfRange_39247 7 = .ok (.if_icmp .eq 10, 3) := by decide +kernel
theorem dr_cJ7_copyOfRange_39247_17 : decode cJ7_copyOfRange_39247 17 = .ok (.aload_n 0, 1) := by decide +kernel
theorem dr_cJ7_copyOfRange_39247_18 : decode cJ7_copyOfRange_39247 18 = .ok (.invokevirtual 310, 3) := by decide +kernel
theorem wr_8_24 : (Jvm.Cond.methodLink "java/util/Arrays" (310 : Nat) ({ cls := "[B", name := "clone", desc := "()Ljava/lang/Object;" } : Jvm.MethodName)) ∈ gw := gw_8 24 rfl rfl
theorem wr_8_25 : (Jvm.Cond.sameMethod "[B" "java/lang/Object" "clone" "()Ljava/lang/Object;") ∈ gw := gw_8 25 rfl rfl
theorem wr_8_26 : (Jvm.Cond.native ({ cls := "java/lang/Object", name := "clone", desc := "()Ljava/lang/Object;" } : Jvm.MethodName)) ∈ gw := gw_8 26 rfl rfl
theorem wr_8_27 : (Jvm.Cond.instanceMethod ({ cls := "java/lang/Object", name := "clone", desc := "()Ljava/lang/Object;" } : Jvm.MethodName)) ∈ gw := gw_8 27 rfl rfl
theorem wr_8_28 : (Jvm.Cond.selects "[B" ({ cls := "[B", name := "clone", desc := "()Ljava/lang/Object;" } : Jvm.MethodName) ({ cls := "java/lang/Object", name := "clone", desc := "()Ljava/lang/Object;" } : Jvm.MethodName)) ∈ gw := gw_8 28 rfl rfl
theorem dr_cJ7_copyOfRange_39247_21 : decode cJ7_copyOfRange_39247 21 = .ok (.checkcast 311, 3) := by decide +kernel
theorem wr_8_30 : (Jvm.Cond.classLink "java/util/Arrays" (311 : Nat) "[B") ∈ gw := gw_8 30 rfl rfl
theorem dr_cJ7_copyOfRange_39247_24 : decode cJ7_copyOfRange_39247 24 = .ok (.areturn, 1) := by decide +kernel
theorem dr_cJ7_copyOfRange_39247_10 : decode cJ7_copyOfRange_39247 10 = .ok (.aload_n 0, 1) := by decide +kernel
theorem dr_cJ7_copyOfRange_39247_11 : decode cJ7_copyOfRange_39247 11 = .ok (.iload_n 1, 1) := by decide +kernel
theorem dr_cJ7_copyOfRange_39247_12 : decode cJ7_copyOfRange_39247 12 = .ok (.iload_n 2, 1) := by decide +kernel
theorem dr_cJ7_copyOfRange_39247_13 : decode cJ7_copyOfRange_39247 13 = .ok (.invokestatic 339, 3) := by decide +kernel
theorem wr_8_96 : (Jvm.Cond.methodLink "java/util/Arrays" (339 : Nat) ({ cls := "java/util/Arrays", name := "copyOfRangeByte", desc := "([BII)[B" } : Jvm.MethodName)) ∈ gw := gw_8 96 rfl rfl
theorem wr_8_98 : (Jvm.Cond.code ({ cls := "java/util/Arrays", name := "copyOfRangeByte", desc := "([BII)[B" } : Jvm.MethodName) prog_44_method_133_code (5 : Nat) (Option.some (Jvm.ClassFile.FieldType.array Jvm.ClassFile.FieldType.byte))) ∈ gw := gw_8 98 rfl rfl
theorem wr_8_97 : (Jvm.Cond.static ({ cls := "java/util/Arrays", name := "copyOfRangeByte", desc := "([BII)[B" } : Jvm.MethodName)) ∈ gw := gw_8 97 rfl rfl
theorem dr_cJ7_copyOfRange_39247_16 : decode cJ7_copyOfRange_39247 16 = .ok (.areturn, 1) := by decide +kernel
theorem dr_cJ0_init_db425_0 : decode cJ0_init_db425 0 = .ok (.aload_n 0, 1) := by decide +kernel
theorem dr_cJ0_init_db425_1 : decode cJ0_init_db425 1 = .ok (.invokespecial 1, 3) := by decide +kernel
theorem wr_8_78 : (Jvm.Cond.methodLink "java/lang/String" (1 : Nat) ({ cls := "java/lang/Object", name := "<init>", desc := "()V" } : Jvm.MethodName)) ∈ gw := gw_8 78 rfl rfl
theorem dr_cJ0_init_db425_4 : decode cJ0_init_db425 4 = .ok (.aload_n 1, 1) := by decide +kernel
theorem dr_cJ0_init_db425_5 : decode cJ0_init_db425 5 = .ok (.invokevirtual 552, 3) := by decide +kernel
theorem wr_8_79 : (Jvm.Cond.methodLink "java/lang/String" (552 : Nat) ({ cls := "java/lang/AbstractStringBuilder", name := "getValue", desc := "()[B" } : Jvm.MethodName)) ∈ gw := gw_8 79 rfl rfl
theorem wr_8_83 : (Jvm.Cond.code ({ cls := "java/lang/AbstractStringBuilder", name := "getValue", desc := "()[B" } : Jvm.MethodName) prog_21_method_64_code (1 : Nat) (Option.some (Jvm.ClassFile.FieldType.array Jvm.ClassFile.FieldType.byte))) ∈ gw := gw_8 83 rfl rfl
theorem wr_8_80 : (Jvm.Cond.instanceMethod ({ cls := "java/lang/AbstractStringBuilder", name := "getValue", desc := "()[B" } : Jvm.MethodName)) ∈ gw := gw_8 80 rfl rfl
theorem wr_8_82 : (Jvm.Cond.selects "java/lang/StringBuilder" ({ cls := "java/lang/AbstractStringBuilder", name := "getValue", desc := "()[B" } : Jvm.MethodName) ({ cls := "java/lang/AbstractStringBuilder", name := "getValue", desc := "()[B" } : Jvm.MethodName)) ∈ gw := gw_8 82 rfl rfl
theorem dr_cJ0_init_db425_8 : decode cJ0_init_db425 8 = .ok (.astore_n 3, 1) := by decide +kernel
theorem dr_cJ0_init_db425_9 : decode cJ0_init_db425 9 = .ok (.aload_n 1, 1) := by decide +kernel
theorem dr_cJ0_init_db425_10 : decode cJ0_init_db425 10 = .ok (.invokevirtual 549, 3) := by decide +kernel
theorem wr_8_84 : (Jvm.Cond.methodLink "java/lang/String" (549 : Nat) ({ cls := "java/lang/AbstractStringBuilder", name := "length", desc := "()I" } : Jvm.MethodName)) ∈ gw := gw_8 84 rfl rfl
theorem wr_8_87 : (Jvm.Cond.selects "java/lang/StringBuilder" ({ cls := "java/lang/AbstractStringBuilder", name := "length", desc := "()I" } : Jvm.MethodName) ({ cls := "java/lang/StringBuilder", name := "length", desc := "()I" } : Jvm.MethodName)) ∈ gw := gw_8 87 rfl rfl
theorem wr_8_88 : (Jvm.Cond.instanceMethod ({ cls := "java/lang/StringBuilder", name := "length", desc := "()I" } : Jvm.MethodName)) ∈ gw := gw_8 88 rfl rfl
theorem wr_1_20 : (Jvm.Cond.initialized "java/lang/StringBuilder") ∈ gw := gw_1 20 rfl rfl
theorem wr_8_89 : (Jvm.Cond.code ({ cls := "java/lang/StringBuilder", name := "length", desc := "()I" } : Jvm.MethodName) prog_35_method_93_code (1 : Nat) (Option.some Jvm.ClassFile.FieldType.int)) ∈ gw := gw_8 89 rfl rfl
theorem dr_cJ0_init_db425_13 : decode cJ0_init_db425 13 = .ok (.istore 4, 2) := by decide +kernel
theorem dr_cJ0_init_db425_15 : decode cJ0_init_db425 15 = .ok (.aload_n 1, 1) := by decide +kernel
theorem dr_cJ0_init_db425_16 : decode cJ0_init_db425 16 = .ok (.invokevirtual 1047, 3) := by decide +kernel
theorem wr_8_92 : (Jvm.Cond.methodLink "java/lang/String" (1047 : Nat) ({ cls := "java/lang/AbstractStringBuilder", name := "isLatin1", desc := "()Z" } : Jvm.MethodName)) ∈ gw := gw_8 92 rfl rfl
theorem dr_cJ0_init_db425_19 : decode cJ0_init_db425 19 = .ok (.ifCond .eq 22, 3) := by decide +kernel
theorem dr_cJ0_init_db425_22 : decode cJ0_init_db425 22 = .ok (.aload_n 0, 1) := by decide +kernel
theorem dr_cJ0_init_db425_23 : decode cJ0_init_db425 23 = .ok (.iconst 0, 1) := by decide +kernel
theorem dr_cJ0_init_db425_24 : decode cJ0_init_db425 24 = .ok (.putfield 15, 3) := by decide +kernel
theorem dr_cJ0_init_db425_27 : decode cJ0_init_db425 27 = .ok (.aload_n 0, 1) := by decide +kernel
theorem dr_cJ0_init_db425_28 : decode cJ0_init_db425 28 = .ok (.aload_n 3, 1) := by decide +kernel
theorem dr_cJ0_init_db425_29 : decode cJ0_init_db425 29 = .ok (.iconst 0, 1) := by decide +kernel
theorem dr_cJ0_init_db425_30 : decode cJ0_init_db425 30 = .ok (.iload 4, 2) := by decide +kernel
theorem dr_cJ0_init_db425_32 : decode cJ0_init_db425 32 = .ok (.invokestatic 54, 3) := by decide +kernel
theorem wr_8_93 : (Jvm.Cond.methodLink "java/lang/String" (54 : Nat) ({ cls := "java/util/Arrays", name := "copyOfRange", desc := "([BII)[B" } : Jvm.MethodName)) ∈ gw := gw_8 93 rfl rfl
theorem wr_8_95 : (Jvm.Cond.code ({ cls := "java/util/Arrays", name := "copyOfRange", desc := "([BII)[B" } : Jvm.MethodName) prog_44_method_132_code (3 : Nat) (Option.some (Jvm.ClassFile.FieldType.array Jvm.ClassFile.FieldType.byte))) ∈ gw := gw_8 95 rfl rfl
theorem wr_8_94 : (Jvm.Cond.static ({ cls := "java/util/Arrays", name := "copyOfRange", desc := "([BII)[B" } : Jvm.MethodName)) ∈ gw := gw_8 94 rfl rfl
theorem dr_cJ0_init_db425_35 : decode cJ0_init_db425 35 = .ok (.putfield 9, 3) := by decide +kernel
theorem dr_cJ0_init_db425_38 : decode cJ0_init_db425 38 = .ok (.goto 59, 3) := by decide +kernel
theorem dr_cJ0_init_db425_97 : decode cJ0_init_db425 97 = .ok (.return_, 1) := by decide +kernel
theorem dr_cJ0_init_81219_0 : decode cJ0_init_81219 0 = .ok (.aload_n 0, 1) := by decide +kernel
theorem dr_cJ0_init_81219_1 : decode cJ0_init_81219 1 = .ok (.aload_n 1, 1) := by decide +kernel
theorem dr_cJ0_init_81219_2 : decode cJ0_init_81219 2 = .ok (.aconst_null, 1) := by decide +kernel
theorem dr_cJ0_init_81219_3 : decode cJ0_init_81219 3 = .ok (.invokespecial 489, 3) := by decide +kernel
theorem wr_8_75 : (Jvm.Cond.methodLink "java/lang/String" (489 : Nat) ({ cls := "java/lang/String", name := "<init>", desc := "(Ljava/lang/AbstractStringBuilder;Ljava/lang/Void;)V" } : Jvm.MethodName)) ∈ gw := gw_8 75 rfl rfl
theorem wr_8_77 : (Jvm.Cond.code ({ cls := "java/lang/String", name := "<init>", desc := "(Ljava/lang/AbstractStringBuilder;Ljava/lang/Void;)V" } : Jvm.MethodName) prog_34_method_150_code (5 : Nat) (Option.none : Option Jvm.ClassFile.FieldType)) ∈ gw := gw_8 77 rfl rfl
theorem wr_8_76 : (Jvm.Cond.instanceMethod ({ cls := "java/lang/String", name := "<init>", desc := "(Ljava/lang/AbstractStringBuilder;Ljava/lang/Void;)V" } : Jvm.MethodName)) ∈ gw := gw_8 76 rfl rfl
theorem dr_cJ0_init_81219_6 : decode cJ0_init_81219 6 = .ok (.return_, 1) := by decide +kernel
theorem dr_cJ4_toString_0e30d_0 : decode cJ4_toString_0e30d 0 = .ok (.new 18, 3) := by decide +kernel
theorem wr_8_70 : (Jvm.Cond.classLink "java/lang/StringBuilder" (18 : Nat) "java/lang/String") ∈ gw := gw_8 70 rfl rfl
theorem wr_8_71 : (Jvm.Cond.instantiable "java/lang/String" (4 : Nat)) ∈ gw := gw_8 71 rfl rfl
theorem dr_cJ4_toString_0e30d_3 : decode cJ4_toString_0e30d 3 = .ok (.dup, 1) := by decide +kernel
theorem dr_cJ4_toString_0e30d_4 : decode cJ4_toString_0e30d 4 = .ok (.aload_n 0, 1) := by decide +kernel
theorem dr_cJ4_toString_0e30d_5 : decode cJ4_toString_0e30d 5 = .ok (.invokespecial 137, 3) := by decide +kernel
theorem wr_8_72 : (Jvm.Cond.methodLink "java/lang/StringBuilder" (137 : Nat) ({ cls := "java/lang/String", name := "<init>", desc := "(Ljava/lang/StringBuilder;)V" } : Jvm.MethodName)) ∈ gw := gw_8 72 rfl rfl
theorem wr_8_74 : (Jvm.Cond.code ({ cls := "java/lang/String", name := "<init>", desc := "(Ljava/lang/StringBuilder;)V" } : Jvm.MethodName) prog_34_method_53_code (2 : Nat) (Option.none : Option Jvm.ClassFile.FieldType)) ∈ gw := gw_8 74 rfl rfl
theorem wr_8_73 : (Jvm.Cond.instanceMethod ({ cls := "java/lang/String", name := "<init>", desc := "(Ljava/lang/StringBuilder;)V" } : Jvm.MethodName)) ∈ gw := gw_8 73 rfl rfl
theorem dr_cJ4_toString_0e30d_8 : decode cJ4_toString_0e30d 8 = .ok (.areturn, 1) := by decide +kernel
theorem dr_cJ1_equals_b5fdf_0 : decode cJ1_equals_b5fdf 0 = .ok (.aload_n 0, 1) := by decide +kernel
theorem dr_cJ1_equals_b5fdf_1 : decode cJ1_equals_b5fdf 1 = .ok (.arraylength, 1) := by decide +kernel
theorem dr_cJ1_equals_b5fdf_2 : decode cJ1_equals_b5fdf 2 = .ok (.aload_n 1, 1) := by decide +kernel
theorem dr_cJ1_equals_b5fdf_3 : decode cJ1_equals_b5fdf 3 = .ok (.arraylength, 1) := by decide +kernel
theorem dr_cJ1_equals_b5fdf_4 : decode cJ1_equals_b5fdf 4 = .ok (.if_icmp .ne 30, 3) := by decide +kernel
theorem dr_cJ1_equals_b5fdf_34 : decode cJ1_equals_b5fdf 34 = .ok (.iconst 0, 1) := by decide +kernel
theorem dr_cJ1_equals_b5fdf_35 : decode cJ1_equals_b5fdf 35 = .ok (.ireturn, 1) := by decide +kernel
theorem dr_cJ1_equals_b5fdf_7 : decode cJ1_equals_b5fdf 7 = .ok (.iconst 0, 1) := by decide +kernel
theorem dr_cJ1_equals_b5fdf_8 : decode cJ1_equals_b5fdf 8 = .ok (.istore_n 2, 1) := by decide +kernel
theorem dr_cJ1_equals_b5fdf_9 : decode cJ1_equals_b5fdf 9 = .ok (.iload_n 2, 1) := by decide +kernel
theorem dr_cJ1_equals_b5fdf_10 : decode cJ1_equals_b5fdf 10 = .ok (.aload_n 0, 1) := by decide +kernel
theorem dr_cJ1_equals_b5fdf_11 : decode cJ1_equals_b5fdf 11 = .ok (.arraylength, 1) := by decide +kernel
theorem dr_cJ1_equals_b5fdf_12 : decode cJ1_equals_b5fdf 12 = .ok (.if_icmp .ge 20, 3) := by decide +kernel
theorem dr_cJ1_equals_b5fdf_32 : decode cJ1_equals_b5fdf 32 = .ok (.iconst 1, 1) := by decide +kernel
theorem dr_cJ1_equals_b5fdf_33 : decode cJ1_equals_b5fdf 33 = .ok (.ireturn, 1) := by decide +kernel
theorem dr_cJ1_equals_b5fdf_15 : decode cJ1_equals_b5fdf 15 = .ok (.aload_n 0, 1) := by decide +kernel
theorem dr_cJ1_equals_b5fdf_16 : decode cJ1_equals_b5fdf 16 = .ok (.iload_n 2, 1) := by decide +kernel
theorem dr_cJ1_equals_b5fdf_17 : decode cJ1_equals_b5fdf 17 = .ok (.baload, 1) := by decide +kernel
theorem dr_cJ1_equals_b5fdf_18 : decode cJ1_equals_b5fdf 18 = .ok (.aload_n 1, 1) := by decide +kernel
theorem dr_cJ1_equals_b5fdf_19 : decode cJ1_equals_b5fdf 19 = .ok (.iload_n 2, 1) := by decide +kernel
theorem dr_cJ1_equals_b5fdf_20 : decode cJ1_equals_b5fdf 20 = .ok (.baload, 1) := by decide +kernel
theorem dr_cJ1_equals_b5fdf_21 : decode cJ1_equals_b5fdf 21 = .ok (.if_icmp .eq 5, 3) := by decide +kernel
theorem dr_cJ1_equals_b5fdf_26 : decode cJ1_equals_b5fdf 26 = .ok (.iinc 2 1, 3) := by decide +kernel
theorem dr_cJ1_equals_b5fdf_29 : decode cJ1_equals_b5fdf 29 = .ok (.goto (-20), 3) := by decide +kernel
theorem dr_cJ1_equals_b5fdf_24 : decode cJ1_equals_b5fdf 24 = .ok (.iconst 0, 1) := by decide +kernel
theorem dr_cJ1_equals_b5fdf_25 : decode cJ1_equals_b5fdf 25 = .ok (.ireturn, 1) := by decide +kernel
theorem dr_cJ0_equals_9ea2d_0 : decode cJ0_equals_9ea2d 0 = .ok (.aload_n 0, 1) := by decide +kernel
theorem dr_cJ0_equals_9ea2d_1 : decode cJ0_equals_9ea2d 1 = .ok (.aload_n 1, 1) := by decide +kernel
theorem dr_cJ0_equals_9ea2d_2 : decode cJ0_equals_9ea2d 2 = .ok (.if_acmp .ne 5, 3) := by decide +kernel
theorem dr_cJ0_equals_9ea2d_7 : decode cJ0_equals_9ea2d 7 = .ok (.aload_n 1, 1) := by decide +kernel
theorem dr_cJ0_equals_9ea2d_8 : decode cJ0_equals_9ea2d 8 = .ok (.instanceof 10, 3) := by decide +kernel
theorem wr_9_149 : (Jvm.Cond.classLink "java/lang/String" (10 : Nat) "java/lang/String") ∈ gw := gw_9 149 rfl rfl
theorem dr_cJ0_equals_9ea2d_11 : decode cJ0_equals_9ea2d 11 = .ok (.ifCond .eq 43, 3) := by decide +kernel
theorem dr_cJ0_equals_9ea2d_14 : decode cJ0_equals_9ea2d 14 = .ok (.aload_n 1, 1) := by decide +kernel
theorem dr_cJ0_equals_9ea2d_15 : decode cJ0_equals_9ea2d 15 = .ok (.checkcast 10, 3) := by decide +kernel
theorem dr_cJ0_equals_9ea2d_18 : decode cJ0_equals_9ea2d 18 = .ok (.astore_n 2, 1) := by decide +kernel
theorem dr_cJ0_equals_9ea2d_19 : decode cJ0_equals_9ea2d 19 = .ok (.getstatic 38, 3) := by decide +kernel
theorem dr_cJ0_equals_9ea2d_22 : decode cJ0_equals_9ea2d 22 = .ok (.ifCond .eq 14, 3) := by decide +kernel
theorem dr_cJ0_equals_9ea2d_25 : decode cJ0_equals_9ea2d 25 = .ok (.aload_n 0, 1) := by decide +kernel
theorem dr_cJ0_equals_9ea2d_26 : decode cJ0_equals_9ea2d 26 = .ok (.getfield 15, 3) := by decide +kernel
theorem dr_cJ0_equals_9ea2d_29 : decode cJ0_equals_9ea2d 29 = .ok (.aload_n 2, 1) := by decide +kernel
theorem dr_cJ0_equals_9ea2d_30 : decode cJ0_equals_9ea2d 30 = .ok (.getfield 15, 3) := by decide +kernel
theorem dr_cJ0_equals_9ea2d_33 : decode cJ0_equals_9ea2d 33 = .ok (.if_icmp .ne 21, 3) := by decide +kernel
theorem dr_cJ0_equals_9ea2d_36 : decode cJ0_equals_9ea2d 36 = .ok (.aload_n 0, 1) := by decide +kernel
theorem dr_cJ0_equals_9ea2d_37 : decode cJ0_equals_9ea2d 37 = .ok (.getfield 9, 3) := by decide +kernel
theorem dr_cJ0_equals_9ea2d_40 : decode cJ0_equals_9ea2d 40 = .ok (.aload_n 2, 1) := by decide +kernel
theorem dr_cJ0_equals_9ea2d_41 : decode cJ0_equals_9ea2d 41 = .ok (.getfield 9, 3) := by decide +kernel
theorem dr_cJ0_equals_9ea2d_44 : decode cJ0_equals_9ea2d 44 = .ok (.invokestatic 541, 3) := by decide +kernel
theorem wr_9_150 : (Jvm.Cond.methodLink "java/lang/String" (541 : Nat) ({ cls := "java/lang/StringLatin1", name := "equals", desc := "([B[B)Z" } : Jvm.MethodName)) ∈ gw := gw_9 150 rfl rfl
theorem wr_9_152 : (Jvm.Cond.code ({ cls := "java/lang/StringLatin1", name := "equals", desc := "([B[B)Z" } : Jvm.MethodName) prog_37_method_13_code (3 : Nat) (Option.some Jvm.ClassFile.FieldType.boolean)) ∈ gw := gw_9 152 rfl rfl
theorem wr_9_151 : (Jvm.Cond.static ({ cls := "java/lang/StringLatin1", name := "equals", desc := "([B[B)Z" } : Jvm.MethodName)) ∈ gw := gw_9 151 rfl rfl
theorem dr_cJ0_equals_9ea2d_47 : decode cJ0_equals_9ea2d 47 = .ok (.ifCond .eq 7, 3) := by decide +kernel
theorem dr_cJ0_equals_9ea2d_54 : decode cJ0_equals_9ea2d 54 = .ok (.iconst 0, 1) := by decide +kernel
theorem dr_cJ0_equals_9ea2d_55 : decode cJ0_equals_9ea2d 55 = .ok (.ireturn, 1) := by decide +kernel
theorem dr_cJ0_equals_9ea2d_50 : decode cJ0_equals_9ea2d 50 = .ok (.iconst 1, 1) := by decide +kernel
theorem dr_cJ0_equals_9ea2d_51 : decode cJ0_equals_9ea2d 51 = .ok (.goto 4, 3) := by decide +kernel
abbrev ky_659602_StringBuilder_append : gKey := (cJ4_append_15ec4, 2, "java/lang/StringBuilder", (some (FieldType.object "java/lang/StringBuilder")), [], "append", fun _ _ => True)
def pp_659602_StringBuilder_append (D : va_G) (I : FieldType → ClassId) (P659587 : List Nat) (F659588 : Nat → va_E) (q659589 : Nat) (q659590 : Nat) (qs659591 : Nat) (qb659592 : Nat) (bs659593 : List Int32) (p659594 : Int32) (p659595 : Int32) (f659596 : Nat → Int32) (n659597 : Nat) : Option Value → va_W → Nat → Nat → Prop := fun r w dc ds => ∃ (P659715 : List Nat) (F659716 : Nat → va_E) (o659711 : Int32) (q659712 : Nat) (n659713 : Nat) (f659714 : Nat → Int32), r = some (.ref q659589) ∧ w = va_pl P659715 F659716 ∧ rSub P659587 P659715 ∧ rFr [q659589, q659590] P659587 F659588 F659716 ∧ F659716 q659589 = .inr (1, [.ref q659712, .int 0, .int p659594, .int o659711]) ∧ F659716 q659712 = .inl (I .byte, n659713, .inl f659714) ∧ q659712 ∈ P659715 ∧ (q659712 = q659590 ∨ q659712 ∉ P659587) ∧ dc ≤ 1 ∧ ds ≤ 2 * (n659713 - n659597) ∧ gB o659711 0 16777216 ∧ gF f659714 (-128) 127 ∧ o659711.toInt = p659595.toInt + (bs659593.length : Int) ∧ o659711.toInt ≤ (n659713 : Int) ∧ (n659597 : Int) ≤ (n659713 : Int) ∧ (n659713 : Int) ≤ 2 * (n659597 : Int) + 2 + p659595.toInt + (bs659593.length : Int) ∧ ((n659713 : Int) = (n659597 : Int) ∨ (n659597 : Int) < o659711.toInt) ∧ tr_RStringBuilder_append6 bs659593 p659595 f659596 n659597 o659711 n659713 f659714
set_option maxRecDepth 100000 in
set_option maxHeartbeats 4000000 in
theorem cp_659602_StringBuilder_append (l : Launch) (hl0 : l.stackTraces = false) (D : va_G) (I : FieldType → ClassId) (P659587 : List Nat) (F659588 : Nat → va_E) (q659589 : Nat) (q659590 : Nat) (qs659591 : Nat) (qb659592 : Nat) (bs659593 : List Int32) (p659594 : Int32) (p659595 : Int32) (f659596 : Nat → Int32) (n659597 : Nat) (hmq659589 : q659589 ∈ P659587) (hmq659590 : q659590 ∈ P659587) (heq659589 : F659588 q659589 = .inr (1, [.ref q659590, .int 0, .int p659594, .int p659595])) (heq659590 : F659588 q659590 = .inl (I .byte, n659597, .inl f659596)) (hbs659593 : ∀ A s H, (gV D I).2.2.2.1 A s H → gSC qs659591 qb659592 bs659593 A s H) (nbs659593 : (bs659593.length : Int) ≤ 65535) (lbs659593 : gLB bs659593) (bp659594 : gB p659594 0 1) (bp659595 : gB p659595 0 16777216) (bf659596 : gF f659596 (-128) 127) (x659598 : (bs659593.length : Int) ≤ 65535) (x659599 : (n659597 : Int) ≤ 8388608 - 100000) (x659600 : p659595.toInt ≤ (n659597 : Int)) (x659601 : ((n659597 : Int) ≤ 16777216)) : CtA (gV D I) l yJ4_append_15ec4 cJ4_append_15ec4 2 (some (FieldType.object "java/lang/StringBuilder")) 5 106 1 (4 * n659597 + 4 + 2 * bs659593.length) [.ref q659589, .ref qs659591] (va_pl P659587 F659588) (pp_659602_StringBuilder_append D I P659587 F659588 q659589 q659590 qs659591 qb659592 bs659593 p659594 p659595 f659596 n659597) gNA := by
  refine CtA_ofF hl0 (by decide +kernel) (Nat.le_of_ble_eq_true rfl) ?_
  refine G_aload_n 0 dr_cJ4_append_15ec4_0 rfl ?_
  refine G_aload_n 1 dr_cJ4_append_15ec4_1 rfl ?_
  refine Gw_callSU (As := [.ref qs659591]) (gV_ok D I) (cp_659618_AbstractStringBuilder_append l hl0 D I P659587 F659588 q659589 q659590 qs659591 qb659592 bs659593 p659594 p659595 f659596 n659597 hmq659589 hmq659590 heq659589 heq659590 hbs659593 nbs659593 lbs659593 bp659594 bp659595 bf659596 (by have qa0 : Int32.toInt 0 = 0 := (by decide); omega) (by have qa0 : Int32.toInt 0 = 0 := (by decide); omega) (by have qa0 : Int32.toInt 0 = 0 := (by decide); omega) (by have qa0 : Int32.toInt 0 = 0 := (by decide); omega)) dr_cJ4_append_15ec4_2 ⟨wr_8_144, wr_1_19, wr_8_146, by decide, rfl, (Nat.le_of_ble_eq_true rfl), (Nat.le_of_ble_eq_true rfl)⟩ wr_8_145 wr_11_229 wr_7_73 wr_7_44 (by decide) hmq659589 heq659589 rfl (show 0 + 1 ≤ 1 by first | omega | decide) (show 0 + (4 * n659597 + 4 + 2 * bs659593.length) ≤ (4 * n659597 + 4 + 2 * bs659593.length) by first | omega | decide) (Nat.le_of_ble_eq_true rfl) (fun r659686 w659687 dc659683 ds659684 hp659685 => ?_)
  obtain ⟨P659698, F659699, o659688, q659689, n659690, f659691, rfl, rfl, hsb659700, hfr659701, he659702, he659703, hm659704, hq659705, hdc, hds, bo659688, bf659691, x659692, x659693, x659694, x659695, x659696, ht659697⟩ := hp659685
  have hm659706 : q659589 ∈ P659698 := hsb659700 q659589 hmq659589
  have hm659707 : q659590 ∈ P659698 := hsb659700 q659590 hmq659590
  have hor659708 : q659689 = q659590 ∨ q659689 ∉ P659587 := hq659705.elim Or.inl (fun n => Or.inr (fun z => n ((rSub_rf (P := P659587)) _ z)))
  have hsb659709 : rSub P659587 P659698 := rSub_tr (rSub_rf (P := P659587)) hsb659700
  have hfr659710 : rFr [q659589, q659590] P659587 F659588 F659699 := rFr_call (rSub_rf (P := P659587)) (rFr_rf (W := []) (P := P659587) (F := F659588)) hfr659701 (fun b hb hn => ⟨nm_n, (nm_c (fun e => hn (e ▸ List.mem_cons_self)) (nm_c (fun e => hn (e ▸ (List.mem_cons_of_mem _ List.mem_cons_self))) nm_n))⟩)
  change G _ _ _ _ _ _ _ (.ref q659589 :: _) _ _ _
  refine G_widen (cs' := 1) (sl' := 2 * (n659690 - n659597)) (by omega) (by omega) ?_
  refine G_pop dr_cJ4_append_15ec4_5 rfl ?_
  refine G_aload_n 0 dr_cJ4_append_15ec4_6 rfl ?_
  exact G_aretA (FieldType.object "java/lang/StringBuilder") dr_cJ4_append_15ec4_7 rfl (by first | exact Or.inl ⟨_, rfl⟩ | exact Or.inr ⟨_, rfl⟩) (Or.inr ⟨_, rfl⟩) (Nat.le_of_ble_eq_true rfl) (show 2 * (n659690 - n659597) ≤ (4 * n659597 + 4 + 2 * bs659593.length) by omega) ⟨P659698, F659699, o659688, q659689, n659690, f659691, rfl, rfl, hsb659709, hfr659710, he659702, he659703, hm659704, hor659708, (Nat.le_of_ble_eq_true rfl), (by omega), bo659688, bf659691, (by have qa0 : Int32.toInt 0 = 0 := (by decide); omega), (by have qa0 : Int32.toInt 0 = 0 := (by decide); omega), (by have qa0 : Int32.toInt 0 = 0 := (by decide); omega), (by have qa0 : Int32.toInt 0 = 0 := (by decide); omega), (by have qa0 : Int32.toInt 0 = 0 := (by decide); omega), (fun R c1 => c1 o659688 n659690 f659691 bo659688 ht659697)⟩
abbrev ky_659781_AbstractStringBuilder_getValue : gKey := (cJ5_getValue_6d5f1, 1, "java/lang/AbstractStringBuilder", (some (FieldType.array FieldType.byte)), [], "getValue", fun _ _ => True)
def pp_659781_AbstractStringBuilder_getValue (D : va_G) (I : FieldType → ClassId) (P659772 : List Nat) (F659773 : Nat → va_E) (q659774 : Nat) (q659775 : Nat) (p659776 : Int32) (p659777 : Int32) (f659778 : Nat → Int32) (n659779 : Nat) : Option Value → va_W → Nat → Nat → Prop := fun r w dc ds => r = some (.ref q659775) ∧ w = va_pl P659772 F659773 ∧ dc ≤ 0 ∧ ds ≤ 0
set_option maxRecDepth 100000 in
set_option maxHeartbeats 4000000 in
theorem cp_659781_AbstractStringBuilder_getValue (l : Launch) (hl0 : l.stackTraces = false) (D : va_G) (I : FieldType → ClassId) (P659772 : List Nat) (F659773 : Nat → va_E) (q659774 : Nat) (q659775 : Nat) (p659776 : Int32) (p659777 : Int32) (f659778 : Nat → Int32) (n659779 : Nat) (hmq659774 : q659774 ∈ P659772) (hmq659775 : q659775 ∈ P659772) (heq659774 : F659773 q659774 = .inr (1, [.ref q659775, .int 0, .int p659776, .int p659777])) (heq659775 : F659773 q659775 = .inl (I .byte, n659779, .inl f659778)) (bp659776 : gB p659776 0 1) (bp659777 : gB p659777 0 16777216) (bf659778 : gF f659778 (-128) 127) (x659780 : ((n659779 : Int) ≤ 16777216)) : CtA (gV D I) l yJ5_getValue_6d5f1 cJ5_getValue_6d5f1 1 (some (FieldType.array FieldType.byte)) 0 0 0 0 [.ref q659774] (va_pl P659772 F659773) (pp_659781_AbstractStringBuilder_getValue D I P659772 F659773 q659774 q659775 p659776 p659777 f659778 n659779) gNA := by
  refine CtA_ofF hl0 (by decide +kernel) (Nat.le_of_ble_eq_true rfl) ?_
  refine G_aload_n 0 dr_cJ5_getValue_6d5f1_0 rfl ?_
  refine Gp_get 0 hmq659774 heq659774 dr_cJ5_getValue_6d5f1_1 (gk_J4 D I) (Nat.le_of_ble_eq_true rfl) wr_7_60 rfl ?_
  exact G_aretA (FieldType.array FieldType.byte) dr_cJ5_getValue_6d5f1_4 rfl (by first | exact Or.inl ⟨_, rfl⟩ | exact Or.inr ⟨_, rfl⟩) (Or.inr ⟨_, rfl⟩) (Nat.le_of_ble_eq_true rfl) (Nat.le_of_ble_eq_true rfl) ⟨rfl, rfl, (Nat.le_of_ble_eq_true rfl), (Nat.le_of_ble_eq_true rfl)⟩
abbrev ky_659843_Arrays_checkLength : gKey := (cJ7_checkLength_df160, 2, "java/util/Arrays", none, [], "checkLength", fun _ _ => True)
def pp_659843_Arrays_checkLength (D : va_G) (I : FieldType → ClassId) (P659840 : List Nat) (F659841 : Nat → va_E) (p659842 : Int32) : Option Value → va_W → Nat → Nat → Prop := fun r w dc ds => r = none ∧ w = va_pl P659840 F659841 ∧ dc ≤ 0 ∧ ds ≤ 0
set_option maxRecDepth 100000 in
set_option maxHeartbeats 4000000 in
theorem cp_659843_Arrays_checkLength (l : Launch) (hl0 : l.stackTraces = false) (D : va_G) (I : FieldType → ClassId) (P659840 : List Nat) (F659841 : Nat → va_E) (p659842 : Int32) (bp659842 : gB p659842 0 16777216) : CtA (gV D I) l yJ7_checkLength_df160 cJ7_checkLength_df160 2 none 0 0 0 0 [.int 0, .int p659842] (va_pl P659840 F659841) (pp_659843_Arrays_checkLength D I P659840 F659841 p659842) gNA := by
  refine CtA_ofF hl0 (by decide +kernel) (Nat.le_of_ble_eq_true rfl) ?_
  refine G_iload_n 1 dr_cJ7_checkLength_df160_0 rfl ?_
  refine G_iload_n 0 dr_cJ7_checkLength_df160_1 rfl ?_
  refine G_icmp_ge 37 dr_cJ7_checkLength_df160_2 (by decide +kernel) (fun _ => ?_) (fun hc => absurd (show False by have := gj_nleL hc (show Int32.toInt 0 = 0 by decide); omega) not_false)
  exact G_vretA dr_cJ7_checkLength_df160_37 rfl (Nat.le_of_ble_eq_true rfl) (Nat.le_of_ble_eq_true rfl) ⟨rfl, rfl, (Nat.le_of_ble_eq_true rfl), (Nat.le_of_ble_eq_true rfl)⟩
/- tr_RArrays_copyOfRangeByte: a.3.#, a.3.[] -/
def tr_RArrays_copyOfRangeByte (a2 : Int32) (a0_v : Nat → Int32) (a0_n : Nat) (o1 : Nat) (o2 : Nat → Int32) : Prop := ∀ R : (Nat) → (Nat → Int32) → Prop,
  (∀ (x1 : Int32) (x2 : Int32) (x3 : Int32) (x4 : Int32) (x5 : Nat → Int32), x1.toInt = a2.toInt - 0 → x2.toInt = (a0_n : Nat) → x3.toInt = x2.toInt - 0 → (x3.toInt ≥ x4.toInt ∧ x1.toInt ≥ x4.toInt ∧ (x4.toInt = x3.toInt ∨ x4.toInt = x1.toInt)) → (x5 = va_cpy a0_v (fun _ => 0) (0 : Int32).toNatClampNeg (0 : Int32).toNatClampNeg x4.toNatClampNeg) → R x1.toInt.toNat x5) →
  R o1 o2
abbrev ky_659839_Arrays_copyOfRangeByte : gKey := (cJ7_copyOfRangeByte_39247, 5, "java/util/Arrays", (some (FieldType.array FieldType.byte)), [], "copyOfRangeByte", fun _ _ => True)
def pp_659839_Arrays_copyOfRangeByte (D : va_G) (I : FieldType → ClassId) (P659831 : List Nat) (F659832 : Nat → va_E) (q659833 : Nat) (p659834 : Int32) (f659835 : Nat → Int32) (n659836 : Nat) : Option Value → va_W → Nat → Nat → Prop := fun r w dc ds => ∃ (P659877 : List Nat) (F659878 : Nat → va_E) (q659874 : Nat) (n659875 : Nat) (f659876 : Nat → Int32), r = some (.ref q659874) ∧ w = va_pl P659877 F659878 ∧ rSub P659831 P659877 ∧ rFr [] P659831 F659832 F659878 ∧ F659878 q659833 = .inl (I .byte, n659836, .inl f659835) ∧ F659878 q659874 = .inl (I .byte, n659875, .inl f659876) ∧ q659874 ∈ P659877 ∧ q659874 ∉ P659831 ∧ dc ≤ 1 ∧ ds ≤ p659834.toInt.toNat ∧ gF f659876 (-128) 127 ∧ (n659875 : Int) = p659834.toInt ∧ sK f659835 f659876 p659834.toInt ∧ tr_RArrays_copyOfRangeByte p659834 f659835 n659836 n659875 f659876
set_option maxRecDepth 100000 in
set_option maxHeartbeats 4000000 in
theorem cp_659839_Arrays_copyOfRangeByte (l : Launch) (hl0 : l.stackTraces = false) (D : va_G) (I : FieldType → ClassId) (P659831 : List Nat) (F659832 : Nat → va_E) (q659833 : Nat) (p659834 : Int32) (f659835 : Nat → Int32) (n659836 : Nat) (hmq659833 : q659833 ∈ P659831) (heq659833 : F659832 q659833 = .inl (I .byte, n659836, .inl f659835)) (bp659834 : gB p659834 0 16777216) (bf659835 : gF f659835 (-128) 127) (x659837 : p659834.toInt ≤ (n659836 : Int)) (x659838 : ((n659836 : Int) ≤ 16777216)) : CtA (gV D I) l yJ7_copyOfRangeByte_39247 cJ7_copyOfRangeByte_39247 5 (some (FieldType.array FieldType.byte)) 1 21 1 p659834.toInt.toNat [.ref q659833, .int 0, .int p659834] (va_pl P659831 F659832) (pp_659839_Arrays_copyOfRangeByte D I P659831 F659832 q659833 p659834 f659835 n659836) gNA := by
  refine CtA_ofF hl0 (by decide +kernel) (Nat.le_of_ble_eq_true rfl) ?_
  refine G_iload_n 1 dr_cJ7_copyOfRangeByte_39247_0 rfl ?_
  refine G_iload_n 2 dr_cJ7_copyOfRangeByte_39247_1 rfl ?_
  refine Gw_callS (As := [.int 0, .int p659834]) (gV_ok D I) (cp_659843_Arrays_checkLength l hl0 D I P659831 F659832 p659834 bp659834) dr_cJ7_copyOfRangeByte_39247_2 ⟨wr_8_99, wr_1_30, wr_8_101, by decide, rfl, (Nat.le_of_ble_eq_true rfl), (Nat.le_of_ble_eq_true rfl)⟩ wr_8_100 (show 0 + 0 ≤ 1 by first | omega | decide) (show 0 + 0 ≤ p659834.toInt.toNat by first | omega | decide) (Nat.le_of_ble_eq_true rfl) (fun r659847 w659848 dc659844 ds659845 hp659846 => ?_) (fun _ _ _ _ _ z => z.elim)
  obtain ⟨rfl, rfl, hdc, hds⟩ := hp659846
  change G _ _ _ _ _ _ _ _ _ _ _
  refine G_widen (cs' := 0) (sl' := 0) (by omega) (by omega) ?_
  refine G_iload_n 2 dr_cJ7_copyOfRangeByte_39247_5 rfl ?_
  refine G_iload_n 1 dr_cJ7_copyOfRangeByte_39247_6 rfl ?_
  refine G_isub dr_cJ7_copyOfRangeByte_39247_7 (G_nam fun z659849 hz659849 => ?_)
  have ez659849 : z659849.toInt = p659834.toInt - 0 := by rw [gI_sub hz659849 bp659834 (gBl (show Int32.toInt 0 = 0 by decide)) (by decide) (by decide), show Int32.toInt 0 = 0 from by decide]
  have bz659849 : gB z659849 0 16777216 := gB_sub (gI_sub hz659849 bp659834 (gBl (show Int32.toInt 0 = 0 by decide)) (by decide) (by decide)) bp659834 (gBl (show Int32.toInt 0 = 0 by decide)) (by decide) (by decide)
  refine G_istore_n (L' := [(3, .int z659849), (0, .ref q659833), (1, .int 0), (2, .int p659834)]) dr_cJ7_copyOfRangeByte_39247_8 (Nat.le_of_ble_eq_true rfl) rfl ?_
  refine G_iload_n 0 dr_cJ7_copyOfRangeByte_39247_9 rfl ?_
  refine G_newa 1 (z659849.toInt.toNat, .inl (fun _ => 0)) dr_cJ7_copyOfRangeByte_39247_10 rfl rfl (by intro C h; cases h) wr_1_66 (fun _ => ga_byte _ _) (g_n0 (by omega)) rfl (show z659849.toInt.toNat * 1 ≤ 536870912 by omega) (show 0 + 1 ≤ 1 by first | omega | decide) (show 0 + z659849.toInt.toNat ≤ p659834.toInt.toNat by first | omega | decide) (fun q659850 => Gp_in (fun P659851 F659852 hq659853 hP659854 e659855 n659856 => ?_))
  refine G_widen (cs' := 1) (sl' := z659849.toInt.toNat) (by omega) (by omega) ?_
  have he659857 : F659852 q659833 = .inl (I .byte, n659836, .inl f659835) := (n659856 q659833 (fun h => hq659853 (h ▸ hmq659833))).trans heq659833
  have he659858 : F659852 q659850 = .inl (I .byte, z659849.toInt.toNat, .inl (fun _ => 0)) := e659855
  have hm659859 : q659833 ∈ P659851 := (hP659854 q659833).mpr (Or.inl hmq659833)
  have hm659860 : q659850 ∈ P659851 := (hP659854 q659850).mpr (Or.inr rfl)
  have hq659861 : q659850 ∉ P659831 := fun z => hq659853 ((rSub_rf (P := P659831)) q659850 z)
  have hfr659862 : rFr [] P659831 F659832 F659852 := rFr_new (rSub_rf (P := P659831)) hq659853 (rFr_rf (W := []) (P := P659831) (F := F659832)) n659856
  have hsb659863 : rSub P659831 P659851 := rSub_new (rSub_rf (P := P659831)) hP659854
  refine G_astore (L' := [(4, .ref q659850), (3, .int z659849), (0, .ref q659833), (1, .int 0), (2, .int p659834)]) dr_cJ7_copyOfRangeByte_39247_12 (Nat.le_of_ble_eq_true rfl) rfl ?_
  refine G_aload_n 2 dr_cJ7_copyOfRangeByte_39247_14 rfl ?_
  refine G_iload_n 3 dr_cJ7_copyOfRangeByte_39247_15 rfl ?_
  refine G_aload 0 dr_cJ7_copyOfRangeByte_39247_16 rfl ?_
  refine G_iconst 0 dr_cJ7_copyOfRangeByte_39247_18 (by decide +kernel) ?_
  refine G_aload_n 2 dr_cJ7_copyOfRangeByte_39247_19 rfl ?_
  refine Gp_alen (Int32.ofNat n659836) 1 hm659859 he659857 dr_cJ7_copyOfRangeByte_39247_20 rfl rfl (G_nam fun z659864 hz659864 => ?_)
  have ez659864 : z659864.toInt = (n659836 : Nat) := gI_ofM hz659864 (by omega)
  have bz659864 : gB z659864 0 16777216 := ⟨by omega, by omega⟩
  refine G_iload_n 3 dr_cJ7_copyOfRangeByte_39247_21 rfl ?_
  refine G_isub dr_cJ7_copyOfRangeByte_39247_22 (G_nam fun z659865 hz659865 => ?_)
  have ez659865 : z659865.toInt = z659864.toInt - 0 := by rw [gI_sub hz659865 bz659864 (gBl (show Int32.toInt 0 = 0 by decide)) (by decide) (by decide), show Int32.toInt 0 = 0 from by decide]
  have bz659865 : gB z659865 0 16777216 := gB_sub (gI_sub hz659865 bz659864 (gBl (show Int32.toInt 0 = 0 by decide)) (by decide) (by decide)) bz659864 (gBl (show Int32.toInt 0 = 0 by decide)) (by decide) (by decide)
  refine G_iload_n 1 dr_cJ7_copyOfRangeByte_39247_23 rfl ?_
  refine G_mmin dr_cJ7_copyOfRangeByte_39247_24 wr_8_31 wr_3_227 wr_1_6 wr_3_228 (Nat.le_of_ble_eq_true rfl) (Nat.le_of_ble_eq_true rfl) (show 1 ≤ 1 by first | omega | decide) (show z659849.toInt.toNat ≤ p659834.toInt.toNat by first | omega | decide) (G_nam fun z659866 hz659866 => ?_)
  have ez659866 : z659865.toInt ≥ z659866.toInt ∧ z659849.toInt ≥ z659866.toInt ∧ (z659866.toInt = z659865.toInt ∨ z659866.toInt = z659849.toInt) := by have := gI_min hz659866; omega
  have bz659866 : gB z659866 0 16777216 := ⟨by omega, by omega⟩
  refine Gp_copyp 1 hm659859 hm659860 he659857 he659858 dr_cJ7_copyOfRangeByte_39247_27 wr_8_32 wr_5_113 wr_5_112 wr_1_34 rfl rfl (fun j => gT_byte (bf659835 j)) (by decide) (by decide) (by omega) (by have qa0 : Int32.toInt 0 = 0 := (by decide); omega) (by have qa0 : Int32.toInt 0 = 0 := (by decide); omega) (Nat.le_of_ble_eq_true rfl) (Nat.le_of_ble_eq_true rfl) (fun F659867 e659868 n659869 => ?_)
  obtain ⟨f659870, hf659870⟩ : ∃ z, z = va_cpy f659835 (fun _ => 0) (0 : Int32).toNatClampNeg (0 : Int32).toNatClampNeg z659866.toNatClampNeg := ⟨_, rfl⟩
  rw [← hf659870] at e659868
  have bf659870 : gF f659870 (-128) 127 := gF_cpy hf659870 bf659835 (gF_w gF_0 (by decide) (by decide))
  have he659871 : F659867 q659833 = .inl (I .byte, n659836, .inl f659835) := (n659869 q659833 (fun h => hq659861 (h ▸ hmq659833))).trans he659857
  have he659872 : F659867 q659850 = .inl (I .byte, z659849.toInt.toNat, .inl f659870) := e659868
  have hfr659873 : rFr [] P659831 F659832 F659867 := rFr_newp hq659861 hfr659862 n659869
  refine G_aload 0 dr_cJ7_copyOfRangeByte_39247_30 rfl ?_
  exact G_aretA (FieldType.array FieldType.byte) dr_cJ7_copyOfRangeByte_39247_32 rfl (by first | exact Or.inl ⟨_, rfl⟩ | exact Or.inr ⟨_, rfl⟩) (Or.inr ⟨_, rfl⟩) (Nat.le_of_ble_eq_true rfl) (show z659849.toInt.toNat ≤ p659834.toInt.toNat by omega) ⟨P659851, F659867, q659850, z659849.toInt.toNat, f659870, rfl, rfl, hsb659863, hfr659873, he659871, he659872, hm659860, hq659861, (Nat.le_of_ble_eq_true rfl), (by omega), bf659870, (by have qa0 : Int32.toInt 0 = 0 := (by decide); omega), (sK_cp2 hf659870 (by decide) (by decide) (by omega)), (fun R c1 => c1 z659849 z659864 z659865 z659866 f659870 ez659849 ez659864 ez659865 ez659866 hf659870)⟩
/- tr_RArrays_copyOfRange: a.3.#, a.3.[] -/
def tr_RArrays_copyOfRange (a2 : Int32) (a0_v : Nat → Int32) (a0_n : Nat) (o1 : Nat) (o2 : Nat → Int32) : Prop := ∀ R : (Nat) → (Nat → Int32) → Prop,
  (∀ (x1 : Int32), x1.toInt = (a0_n : Nat) → a2.toInt = x1.toInt → R a0_n a0_v) →
  (∀ (x1 : Int32) (x2 : Nat) (x3 : Nat → Int32), x1.toInt = (a0_n : Nat) → a2.toInt ≠ x1.toInt → tr_RArrays_copyOfRangeByte a2 a0_v a0_n x2 x3 → R x2 x3) →
  R o1 o2
abbrev ky_659812_Arrays_copyOfRange : gKey := (cJ7_copyOfRange_39247, 3, "java/util/Arrays", (some (FieldType.array FieldType.byte)), [], "copyOfRange", fun _ _ => True)
def pp_659812_Arrays_copyOfRange (D : va_G) (I : FieldType → ClassId) (P659804 : List Nat) (F659805 : Nat → va_E) (q659806 : Nat) (p659807 : Int32) (f659808 : Nat → Int32) (n659809 : Nat) : Option Value → va_W → Nat → Nat → Prop := fun r w dc ds => ∃ (P659905 : List Nat) (F659906 : Nat → va_E) (q659902 : Nat) (n659903 : Nat) (f659904 : Nat → Int32), r = some (.ref q659902) ∧ w = va_pl P659905 F659906 ∧ rSub P659804 P659905 ∧ rFr [] P659804 F659805 F659906 ∧ F659906 q659806 = .inl (I .byte, n659809, .inl f659808) ∧ F659906 q659902 = .inl (I .byte, n659903, .inl f659904) ∧ q659902 ∈ P659905 ∧ q659902 ∉ P659804 ∧ dc ≤ 1 ∧ ds ≤ p659807.toInt.toNat ∧ gF f659904 (-128) 127 ∧ (n659903 : Int) = p659807.toInt ∧ sK f659808 f659904 p659807.toInt ∧ tr_RArrays_copyOfRange p659807 f659808 n659809 n659903 f659904
set_option maxRecDepth 100000 in
set_option maxHeartbeats 4000000 in
theorem cp_659812_Arrays_copyOfRange (l : Launch) (hl0 : l.stackTraces = false) (D : va_G) (I : FieldType → ClassId) (P659804 : List Nat) (F659805 : Nat → va_E) (q659806 : Nat) (p659807 : Int32) (f659808 : Nat → Int32) (n659809 : Nat) (hmq659806 : q659806 ∈ P659804) (heq659806 : F659805 q659806 = .inl (I .byte, n659809, .inl f659808)) (bp659807 : gB p659807 0 16777216) (bf659808 : gF f659808 (-128) 127) (x659810 : p659807.toInt ≤ (n659809 : Int)) (x659811 : ((n659809 : Int) ≤ 16777216)) : CtA (gV D I) l yJ7_copyOfRange_39247 cJ7_copyOfRange_39247 3 (some (FieldType.array FieldType.byte)) 2 45 1 p659807.toInt.toNat [.ref q659806, .int 0, .int p659807] (va_pl P659804 F659805) (pp_659812_Arrays_copyOfRange D I P659804 F659805 q659806 p659807 f659808 n659809) gNA := by
  refine CtA_ofF hl0 (by decide +kernel) (Nat.le_of_ble_eq_true rfl) ?_
  refine G_iload_n 1 dr_cJ7_copyOfRange_39247_0 rfl ?_
  refine G_if_ne 10 dr_cJ7_copyOfRange_39247_1 (by decide +kernel) (fun hc => absurd hc (by decide)) (fun _ => ?_)
  refine G_iload_n 2 dr_cJ7_copyOfRange_39247_4 rfl ?_
  refine G_aload_n 0 dr_cJ7_copyOfRange_39247_5 rfl ?_
  refine Gp_alen (Int32.ofNat n659809) 1 hmq659806 heq659806 dr_cJ7_copyOfRange_39247_6 rfl rfl (G_nam fun z659813 hz659813 => ?_)
  have ez659813 : z659813.toInt = (n659809 : Nat) := gI_ofM hz659813 (by omega)
  have bz659813 : gB z659813 0 16777216 := ⟨by omega, by omega⟩
  refine G_icmp_eq 17 dr_cJ7_copyOfRange_39247_7 (by decide +kernel) (fun hc659814 => ?_) (fun hc659814 => ?_)
  · have r659815 : p659807.toInt = z659813.toInt := gC_eq hc659814
    refine G_aload_n 0 dr_cJ7_copyOfRange_39247_17 rfl ?_
    refine Gp_clone 1 hmq659806 heq659806 rfl dr_cJ7_copyOfRange_39247_18 wr_8_24 wr_8_25 wr_8_26 wr_8_27 wr_8_28 (fun _ _ _ h => gn_w 76 rfl h) bf659808 (Nat.le_of_ble_eq_true rfl) (Nat.le_of_ble_eq_true rfl) (show 0 + 1 ≤ 1 by first | omega | decide) (show 0 + n659809 ≤ p659807.toInt.toNat by first | omega | decide) (fun q659816 P659817 F659818 hq659819 hP659820 e659821 n659822 => ?_)
    refine G_widen (cs' := 1) (sl' := n659809) (by omega) (by omega) ?_
    have he659823 : F659818 q659806 = .inl (I .byte, n659809, .inl f659808) := (n659822 q659806 (fun h => hq659819 (h ▸ hmq659806))).trans heq659806
    have he659824 : F659818 q659816 = .inl (I .byte, n659809, .inl f659808) := e659821
    have hm659825 : q659806 ∈ P659817 := (hP659820 q659806).mpr (Or.inl hmq659806)
    have hm659826 : q659816 ∈ P659817 := (hP659820 q659816).mpr (Or.inr rfl)
    have hq659827 : q659816 ∉ P659804 := fun z => hq659819 ((rSub_rf (P := P659804)) q659816 z)
    have hfr659828 : rFr [] P659804 F659805 F659818 := rFr_new (rSub_rf (P := P659804)) hq659819 (rFr_rf (W := []) (P := P659804) (F := F659805)) n659822
    have hsb659829 : rSub P659804 P659817 := rSub_new (rSub_rf (P := P659804)) hP659820
    refine Gp_casA 1 hm659826 he659824 rfl dr_cJ7_copyOfRange_39247_21 wr_8_30 ?_
    exact G_aretA (FieldType.array FieldType.byte) dr_cJ7_copyOfRange_39247_24 rfl (by first | exact Or.inl ⟨_, rfl⟩ | exact Or.inr ⟨_, rfl⟩) (Or.inr ⟨_, rfl⟩) (Nat.le_of_ble_eq_true rfl) (show n659809 ≤ p659807.toInt.toNat by omega) ⟨P659817, F659818, q659816, n659809, f659808, rfl, rfl, hsb659829, hfr659828, he659823, he659824, hm659826, hq659827, (Nat.le_of_ble_eq_true rfl), (by omega), bf659808, (by have qa0 : Int32.toInt 0 = 0 := (by decide); omega), sK_rf, (fun R c1 c2 => c1 z659813 ez659813 r659815)⟩
  · have r659830 : p659807.toInt ≠ z659813.toInt := gC_ne hc659814
    refine G_aload_n 0 dr_cJ7_copyOfRange_39247_10 rfl ?_
    refine G_iload_n 1 dr_cJ7_copyOfRange_39247_11 rfl ?_
    refine G_iload_n 2 dr_cJ7_copyOfRange_39247_12 rfl ?_
    refine Gw_callS (As := [.ref q659806, .int 0, .int p659807]) (gV_ok D I) (cp_659839_Arrays_copyOfRangeByte l hl0 D I P659804 F659805 q659806 p659807 f659808 n659809 hmq659806 heq659806 bp659807 bf659808 (by have qa0 : Int32.toInt 0 = 0 := (by decide); omega) (by have qa0 : Int32.toInt 0 = 0 := (by decide); omega)) dr_cJ7_copyOfRange_39247_13 ⟨wr_8_96, wr_1_30, wr_8_98, by decide, rfl, (Nat.le_of_ble_eq_true rfl), (Nat.le_of_ble_eq_true rfl)⟩ wr_8_97 (show 0 + 1 ≤ 1 by first | omega | decide) (show 0 + p659807.toInt.toNat ≤ p659807.toInt.toNat by first | omega | decide) (Nat.le_of_ble_eq_true rfl) (fun r659882 w659883 dc659879 ds659880 hp659881 => ?_) (fun _ _ _ _ _ z => z.elim)
    obtain ⟨P659890, F659891, q659884, n659885, f659886, rfl, rfl, hsb659892, hfr659893, he659894, he659895, hm659896, hq659897, hdc, hds, bf659886, x659887, x659888, ht659889⟩ := hp659881
    have hm659898 : q659806 ∈ P659890 := hsb659892 q659806 hmq659806
    have hq659899 : q659884 ∉ P659804 := fun z => hq659897 ((rSub_rf (P := P659804)) q659884 z)
    have hsb659900 : rSub P659804 P659890 := rSub_tr (rSub_rf (P := P659804)) hsb659892
    have hfr659901 : rFr [] P659804 F659805 F659891 := rFr_call (rSub_rf (P := P659804)) (rFr_rf (W := []) (P := P659804) (F := F659805)) hfr659893 (fun b hb hn => ⟨nm_n, nm_n⟩)
    change G _ _ _ _ _ _ _ (.ref q659884 :: _) _ _ _
    refine G_widen (cs' := 1) (sl' := p659807.toInt.toNat) (by omega) (by omega) ?_
    exact G_aretA (FieldType.array FieldType.byte) dr_cJ7_copyOfRange_39247_16 rfl (by first | exact Or.inl ⟨_, rfl⟩ | exact Or.inr ⟨_, rfl⟩) (Or.inr ⟨_, rfl⟩) (Nat.le_of_ble_eq_true rfl) (show p659807.toInt.toNat ≤ p659807.toInt.toNat by omega) ⟨P659890, F659891, q659884, n659885, f659886, rfl, rfl, hsb659900, hfr659901, he659894, he659895, hm659896, hq659899, (Nat.le_of_ble_eq_true rfl), (by omega), bf659886, (by have qa0 : Int32.toInt 0 = 0 := (by decide); omega), (sK_c x659888 (by omega)), (fun R c1 c2 => c2 z659813 n659885 f659886 ez659813 r659830 ht659889)⟩
/- tr_RString_init2: a.0.value.#, a.0.value.[] -/
def tr_RString_init2 (a1_count : Int32) (a1_value_v : Nat → Int32) (a1_value_n : Nat) (o1 : Nat) (o2 : Nat → Int32) : Prop := ∀ R : (Nat) → (Nat → Int32) → Prop,
  (∀ (x1 : Nat) (x2 : Nat → Int32), tr_RArrays_copyOfRange a1_count a1_value_v a1_value_n x1 x2 → R x1 x2) →
  R o1 o2
abbrev ky_659771_String_init : gKey := (cJ0_init_db425, 5, "java/lang/String", none, [], "<init>", fun _ _ => True)
def pp_659771_String_init (D : va_G) (I : FieldType → ClassId) (P659758 : List Nat) (F659759 : Nat → va_E) (q659760 : Nat) (q659761 : Nat) (q659762 : Nat) (p659763 : Int32) (p659764 : Int32) (p659765 : Int32) (p659766 : Int32) (f659767 : Nat → Int32) (n659768 : Nat) : Option Value → va_W → Nat → Nat → Prop := fun r w dc ds => ∃ (P659945 : List Nat) (F659946 : Nat → va_E) (q659942 : Nat) (n659943 : Nat) (f659944 : Nat → Int32), r = none ∧ w = va_pl P659945 F659946 ∧ rSub P659758 P659945 ∧ rFr [q659760] P659758 F659759 F659946 ∧ F659946 q659760 = .inr (0, [.ref q659942, .int 0, .int p659763, .int p659764]) ∧ F659946 q659761 = .inr (1, [.ref q659762, .int 0, .int p659765, .int p659766]) ∧ F659946 q659762 = .inl (I .byte, n659768, .inl f659767) ∧ F659946 q659942 = .inl (I .byte, n659943, .inl f659944) ∧ q659942 ∈ P659945 ∧ q659942 ∉ P659758 ∧ dc ≤ 1 ∧ ds ≤ p659766.toInt.toNat ∧ gF f659944 (-128) 127 ∧ (n659943 : Int) = p659766.toInt ∧ sK f659767 f659944 p659766.toInt ∧ tr_RString_init2 p659766 f659767 n659768 n659943 f659944
set_option maxRecDepth 100000 in
set_option maxHeartbeats 4000000 in
theorem cp_659771_String_init (l : Launch) (hl0 : l.stackTraces = false) (D : va_G) (I : FieldType → ClassId) (P659758 : List Nat) (F659759 : Nat → va_E) (q659760 : Nat) (q659761 : Nat) (q659762 : Nat) (p659763 : Int32) (p659764 : Int32) (p659765 : Int32) (p659766 : Int32) (f659767 : Nat → Int32) (n659768 : Nat) (hmq659760 : q659760 ∈ P659758) (hmq659761 : q659761 ∈ P659758) (hmq659762 : q659762 ∈ P659758) (heq659760 : F659759 q659760 = .inr (0, [.null, .int 0, .int p659763, .int p659764])) (heq659761 : F659759 q659761 = .inr (1, [.ref q659762, .int 0, .int p659765, .int p659766])) (heq659762 : F659759 q659762 = .inl (I .byte, n659768, .inl f659767)) (bp659764 : gB p659764 0 1) (bp659765 : gB p659765 0 1) (bp659766 : gB p659766 0 16777216) (bf659767 : gF f659767 (-128) 127) (x659769 : p659766.toInt ≤ (n659768 : Int)) (x659770 : ((n659768 : Int) ≤ 16777216)) : CtA (gV D I) l yJ0_init_db425 cJ0_init_db425 5 none 3 67 1 p659766.toInt.toNat [.ref q659760, .ref q659761, .null] (va_pl P659758 F659759) (pp_659771_String_init D I P659758 F659759 q659760 q659761 q659762 p659763 p659764 p659765 p659766 f659767 n659768) gNA := by
  refine CtA_ofF hl0 (by decide +kernel) (Nat.le_of_ble_eq_true rfl) ?_
  have bp659763 := gB_any p659763
  refine G_aload_n 0 dr_cJ0_init_db425_0 rfl ?_
  refine G_obj dr_cJ0_init_db425_1 wr_8_78 wr_1_51 wr_1_52 (Nat.le_of_ble_eq_true rfl) (Nat.le_of_ble_eq_true rfl) ?_
  refine G_aload_n 1 dr_cJ0_init_db425_4 rfl ?_
  refine Gw_callVB (As := []) (gV_ok D I) (cp_659781_AbstractStringBuilder_getValue l hl0 D I P659758 F659759 q659761 q659762 p659765 p659766 f659767 n659768 hmq659761 hmq659762 heq659761 heq659762 bp659765 bp659766 bf659767 (by have qa0 : Int32.toInt 0 = 0 := (by decide); omega)) dr_cJ0_init_db425_5 ⟨wr_8_79, wr_1_19, wr_8_83, by decide, rfl, (Nat.le_of_ble_eq_true rfl), (Nat.le_of_ble_eq_true rfl)⟩ wr_8_80 wr_8_82 hmq659761 heq659761 rfl (show 0 + 0 ≤ 1 by first | omega | decide) (show 0 + 0 ≤ p659766.toInt.toNat by first | omega | decide) (Nat.le_of_ble_eq_true rfl) (fun r659785 w659786 dc659782 ds659783 hp659784 => ?_) (fun _ _ _ _ _ z => z.elim)
  obtain ⟨rfl, rfl, hdc, hds⟩ := hp659784
  change G _ _ _ _ _ _ _ (.ref q659762 :: _) _ _ _
  refine G_widen (cs' := 0) (sl' := 0) (by omega) (by omega) ?_
  refine G_astore_n (L' := [(3, .ref q659762), (0, .ref q659760), (1, .ref q659761), (2, .null)]) dr_cJ0_init_db425_8 (Nat.le_of_ble_eq_true rfl) rfl ?_
  refine G_aload_n 2 dr_cJ0_init_db425_9 rfl ?_
  refine Gw_callVU (As := []) (owner := "java/lang/AbstractStringBuilder") (gV_ok D I) (cp_658410_StringBuilder_length l hl0 D I P659758 F659759 q659761 q659762 p659765 p659766 f659767 n659768 hmq659761 hmq659762 heq659761 heq659762 bp659765 bp659766 bf659767 (by have qa0 : Int32.toInt 0 = 0 := (by decide); omega)) dr_cJ0_init_db425_10 ⟨wr_8_84, wr_8_86, wr_8_85, wr_8_91, wr_8_87, wr_8_88, wr_1_20, wr_8_89, by decide, rfl, (Nat.le_of_ble_eq_true rfl), (Nat.le_of_ble_eq_true rfl)⟩ hmq659761 heq659761 rfl (show 0 + 0 ≤ 1 by first | omega | decide) (show 0 + 0 ≤ p659766.toInt.toNat by first | omega | decide) (Nat.le_of_ble_eq_true rfl) (fun r659790 w659791 dc659787 ds659788 hp659789 => ?_) (fun _ _ _ _ _ z => z.elim)
  obtain ⟨rfl, rfl, hdc, hds⟩ := hp659789
  change G _ _ _ _ _ _ _ (.int p659766 :: _) _ _ _
  refine G_widen (cs' := 0) (sl' := 0) (by omega) (by omega) ?_
  refine G_istore (L' := [(4, .int p659766), (3, .ref q659762), (0, .ref q659760), (1, .ref q659761), (2, .null)]) dr_cJ0_init_db425_13 (Nat.le_of_ble_eq_true rfl) rfl ?_
  refine G_aload_n 3 dr_cJ0_init_db425_15 rfl ?_
  refine Gw_callVB (As := []) (gV_ok D I) (cp_658560_AbstractStringBuilder_isLatin1 l hl0 D I P659758 F659759 q659761 q659762 p659765 p659766 f659767 n659768 hmq659761 hmq659762 heq659761 heq659762 bp659765 bp659766 bf659767 (by have qa0 : Int32.toInt 0 = 0 := (by decide); omega)) dr_cJ0_init_db425_16 ⟨wr_8_92, wr_1_19, wr_8_37, by decide, rfl, (Nat.le_of_ble_eq_true rfl), (Nat.le_of_ble_eq_true rfl)⟩ wr_8_34 wr_8_36 hmq659761 heq659761 rfl (show 0 + 0 ≤ 1 by first | omega | decide) (show 0 + 0 ≤ p659766.toInt.toNat by first | omega | decide) (Nat.le_of_ble_eq_true rfl) (fun r659795 w659796 dc659792 ds659793 hp659794 => ?_) (fun _ _ _ _ _ z => z.elim)
  obtain ⟨rfl, rfl, hdc, hds⟩ := hp659794
  change G _ _ _ _ _ _ _ (.int 1 :: _) _ _ _
  refine G_widen (cs' := 0) (sl' := 0) (by omega) (by omega) ?_
  refine G_if_eq 41 dr_cJ0_init_db425_19 (by decide +kernel) (fun hc => absurd hc (by decide)) (fun _ => ?_)
  refine G_aload_n 2 dr_cJ0_init_db425_22 rfl ?_
  refine G_iconst 0 dr_cJ0_init_db425_23 (by decide +kernel) ?_
  refine Gp_putF 1 hmq659760 heq659760 dr_cJ0_init_db425_24 (gk_J0 D I) (Nat.le_of_ble_eq_true rfl) wr_8_183 rfl rfl rfl rfl rfl (Nat.le_of_ble_eq_true rfl) (fun F659797 e659798 n659799 => ?_)
  have he659800 : F659797 q659761 = .inr (1, [.ref q659762, .int 0, .int p659765, .int p659766]) := (n659799 q659761 (rn_oo heq659761 heq659760 (by decide))).trans heq659761
  have he659801 : F659797 q659762 = .inl (I .byte, n659768, .inl f659767) := (n659799 q659762 (rn_ao heq659762 heq659760)).trans heq659762
  have he659802 : F659797 q659760 = .inr (0, [.null, .int 0, .int p659763, .int p659764]) := e659798
  have hfr659803 : rFr [q659760] P659758 F659759 F659797 := rFr_put (rFr_rf (W := []) (P := P659758) (F := F659759)) n659799
  refine G_aload_n 2 dr_cJ0_init_db425_27 rfl ?_
  refine G_aload_n 1 dr_cJ0_init_db425_28 rfl ?_
  refine G_iconst 0 dr_cJ0_init_db425_29 (by decide +kernel) ?_
  refine G_iload 0 dr_cJ0_init_db425_30 rfl ?_
  refine Gw_callS (As := [.ref q659762, .int 0, .int p659766]) (gV_ok D I) (cp_659812_Arrays_copyOfRange l hl0 D I P659758 F659797 q659762 p659766 f659767 n659768 hmq659762 he659801 bp659766 bf659767 (by have qa0 : Int32.toInt 0 = 0 := (by decide); omega) (by have qa0 : Int32.toInt 0 = 0 := (by decide); omega)) dr_cJ0_init_db425_32 ⟨wr_8_93, wr_1_30, wr_8_95, by decide, rfl, (Nat.le_of_ble_eq_true rfl), (Nat.le_of_ble_eq_true rfl)⟩ wr_8_94 (show 0 + 1 ≤ 1 by first | omega | decide) (show 0 + p659766.toInt.toNat ≤ p659766.toInt.toNat by first | omega | decide) (Nat.le_of_ble_eq_true rfl) (fun r659910 w659911 dc659907 ds659908 hp659909 => ?_) (fun _ _ _ _ _ z => z.elim)
  obtain ⟨P659918, F659919, q659912, n659913, f659914, rfl, rfl, hsb659920, hfr659921, he659922, he659923, hm659924, hq659925, hdc, hds, bf659914, x659915, x659916, ht659917⟩ := hp659909
  have hm659926 : q659760 ∈ P659918 := hsb659920 q659760 hmq659760
  have hm659927 : q659761 ∈ P659918 := hsb659920 q659761 hmq659761
  have hm659928 : q659762 ∈ P659918 := hsb659920 q659762 hmq659762
  have hq659929 : q659912 ∉ P659758 := fun z => hq659925 ((rSub_rf (P := P659758)) q659912 z)
  have hsb659930 : rSub P659758 P659918 := rSub_tr (rSub_rf (P := P659758)) hsb659920
  have he659931 : F659919 q659760 = .inr (0, [.null, .int 0, .int p659763, .int p659764]) := (hfr659921 q659760 hmq659760 nm_n).trans he659802
  have he659932 : F659919 q659761 = .inr (1, [.ref q659762, .int 0, .int p659765, .int p659766]) := (hfr659921 q659761 hmq659761 nm_n).trans he659800
  have hfr659933 : rFr [q659760] P659758 F659759 F659919 := rFr_call (rSub_rf (P := P659758)) hfr659803 hfr659921 (fun b hb hn => ⟨(nm_c (fun e => hn (e ▸ List.mem_cons_self)) nm_n), nm_n⟩)
  change G _ _ _ _ _ _ _ (.ref q659912 :: _) _ _ _
  refine G_widen (cs' := 1) (sl' := p659766.toInt.toNat) (by omega) (by omega) ?_
  refine Gp_putF 0 hm659926 he659931 dr_cJ0_init_db425_35 (gk_J0 D I) (Nat.le_of_ble_eq_true rfl) wr_8_182 rfl rfl rfl rfl rfl (Nat.le_of_ble_eq_true rfl) (fun F659934 e659935 n659936 => ?_)
  have he659937 : F659934 q659761 = .inr (1, [.ref q659762, .int 0, .int p659765, .int p659766]) := (n659936 q659761 (rn_oo he659932 he659931 (by decide))).trans he659932
  have he659938 : F659934 q659762 = .inl (I .byte, n659768, .inl f659767) := (n659936 q659762 (rn_ao he659922 he659931)).trans he659922
  have he659939 : F659934 q659912 = .inl (I .byte, n659913, .inl f659914) := (n659936 q659912 (fun h => hq659929 (h ▸ hmq659760))).trans he659923
  have he659940 : F659934 q659760 = .inr (0, [.ref q659912, .int 0, .int p659763, .int p659764]) := e659935
  have hfr659941 : rFr [q659760] P659758 F659759 F659934 := rFr_put' List.mem_cons_self hfr659933 n659936
  refine G_goto 97 dr_cJ0_init_db425_38 (by decide +kernel) ?_
  exact G_vretA dr_cJ0_init_db425_97 rfl (Nat.le_of_ble_eq_true rfl) (show p659766.toInt.toNat ≤ p659766.toInt.toNat by omega) ⟨P659918, F659934, q659912, n659913, f659914, rfl, rfl, hsb659930, hfr659941, he659940, he659937, he659938, he659939, hm659924, hq659929, (Nat.le_of_ble_eq_true rfl), (by omega), bf659914, (by have qa0 : Int32.toInt 0 = 0 := (by decide); omega), (sK_c x659916 (by omega)), (fun R c1 => c1 n659913 f659914 ht659917)⟩
/- tr_RString_init: a.0.value.#, a.0.value.[] -/
def tr_RString_init (a1_count : Int32) (a1_value_v : Nat → Int32) (a1_value_n : Nat) (o1 : Nat) (o2 : Nat → Int32) : Prop := ∀ R : (Nat) → (Nat → Int32) → Prop,
  (∀ (x1 : Nat) (x2 : Nat → Int32), tr_RString_init2 a1_count a1_value_v a1_value_n x1 x2 → R x1 x2) →
  R o1 o2
abbrev ky_659757_String_init : gKey := (cJ0_init_81219, 2, "java/lang/String", none, [], "<init>", fun _ _ => True)
def pp_659757_String_init (D : va_G) (I : FieldType → ClassId) (P659744 : List Nat) (F659745 : Nat → va_E) (q659746 : Nat) (q659747 : Nat) (q659748 : Nat) (p659749 : Int32) (p659750 : Int32) (p659751 : Int32) (p659752 : Int32) (f659753 : Nat → Int32) (n659754 : Nat) : Option Value → va_W → Nat → Nat → Prop := fun r w dc ds => ∃ (P659977 : List Nat) (F659978 : Nat → va_E) (q659974 : Nat) (n659975 : Nat) (f659976 : Nat → Int32), r = none ∧ w = va_pl P659977 F659978 ∧ rSub P659744 P659977 ∧ rFr [q659746] P659744 F659745 F659978 ∧ F659978 q659746 = .inr (0, [.ref q659974, .int 0, .int p659749, .int p659750]) ∧ F659978 q659747 = .inr (1, [.ref q659748, .int 0, .int p659751, .int p659752]) ∧ F659978 q659748 = .inl (I .byte, n659754, .inl f659753) ∧ F659978 q659974 = .inl (I .byte, n659975, .inl f659976) ∧ q659974 ∈ P659977 ∧ q659974 ∉ P659744 ∧ dc ≤ 1 ∧ ds ≤ p659752.toInt.toNat ∧ gF f659976 (-128) 127 ∧ (n659975 : Int) = p659752.toInt ∧ sK f659753 f659976 p659752.toInt ∧ tr_RString_init p659752 f659753 n659754 n659975 f659976
set_option maxRecDepth 100000 in
set_option maxHeartbeats 4000000 in
theorem cp_659757_String_init (l : Launch) (hl0 : l.stackTraces = false) (D : va_G) (I : FieldType → ClassId) (P659744 : List Nat) (F659745 : Nat → va_E) (q659746 : Nat) (q659747 : Nat) (q659748 : Nat) (p659749 : Int32) (p659750 : Int32) (p659751 : Int32) (p659752 : Int32) (f659753 : Nat → Int32) (n659754 : Nat) (hmq659746 : q659746 ∈ P659744) (hmq659747 : q659747 ∈ P659744) (hmq659748 : q659748 ∈ P659744) (heq659746 : F659745 q659746 = .inr (0, [.null, .int 0, .int p659749, .int p659750])) (heq659747 : F659745 q659747 = .inr (1, [.ref q659748, .int 0, .int p659751, .int p659752])) (heq659748 : F659745 q659748 = .inl (I .byte, n659754, .inl f659753)) (bp659750 : gB p659750 0 1) (bp659751 : gB p659751 0 1) (bp659752 : gB p659752 0 16777216) (bf659753 : gF f659753 (-128) 127) (x659755 : p659752.toInt ≤ (n659754 : Int)) (x659756 : ((n659754 : Int) ≤ 16777216)) : CtA (gV D I) l yJ0_init_81219 cJ0_init_81219 2 none 4 91 1 p659752.toInt.toNat [.ref q659746, .ref q659747] (va_pl P659744 F659745) (pp_659757_String_init D I P659744 F659745 q659746 q659747 q659748 p659749 p659750 p659751 p659752 f659753 n659754) gNA := by
  refine CtA_ofF hl0 (by decide +kernel) (Nat.le_of_ble_eq_true rfl) ?_
  have bp659749 := gB_any p659749
  refine G_aload_n 0 dr_cJ0_init_81219_0 rfl ?_
  refine G_aload_n 1 dr_cJ0_init_81219_1 rfl ?_
  refine G_null dr_cJ0_init_81219_2 ?_
  refine Gw_callI (As := [.ref q659747, .null]) (gV_ok D I) (cp_659771_String_init l hl0 D I P659744 F659745 q659746 q659747 q659748 p659749 p659750 p659751 p659752 f659753 n659754 hmq659746 hmq659747 hmq659748 heq659746 heq659747 heq659748 bp659750 bp659751 bp659752 bf659753 (by have qa0 : Int32.toInt 0 = 0 := (by decide); omega) (by have qa0 : Int32.toInt 0 = 0 := (by decide); omega)) dr_cJ0_init_81219_3 ⟨wr_8_75, wr_1_21, wr_8_77, by decide, rfl, (Nat.le_of_ble_eq_true rfl), (Nat.le_of_ble_eq_true rfl)⟩ wr_8_76 rfl (show 0 + 1 ≤ 1 by first | omega | decide) (show 0 + p659752.toInt.toNat ≤ p659752.toInt.toNat by first | omega | decide) (Nat.le_of_ble_eq_true rfl) (fun r659950 w659951 dc659947 ds659948 hp659949 => ?_)
  obtain ⟨P659958, F659959, q659952, n659953, f659954, rfl, rfl, hsb659960, hfr659961, he659962, he659963, he659964, he659965, hm659966, hq659967, hdc, hds, bf659954, x659955, x659956, ht659957⟩ := hp659949
  have hm659968 : q659746 ∈ P659958 := hsb659960 q659746 hmq659746
  have hm659969 : q659747 ∈ P659958 := hsb659960 q659747 hmq659747
  have hm659970 : q659748 ∈ P659958 := hsb659960 q659748 hmq659748
  have hq659971 : q659952 ∉ P659744 := fun z => hq659967 ((rSub_rf (P := P659744)) q659952 z)
  have hsb659972 : rSub P659744 P659958 := rSub_tr (rSub_rf (P := P659744)) hsb659960
  have hfr659973 : rFr [q659746] P659744 F659745 F659959 := rFr_call (rSub_rf (P := P659744)) (rFr_rf (W := []) (P := P659744) (F := F659745)) hfr659961 (fun b hb hn => ⟨nm_n, (nm_c (fun e => hn (e ▸ List.mem_cons_self)) nm_n)⟩)
  change G _ _ _ _ _ _ _ _ _ _ _
  refine G_widen (cs' := 1) (sl' := p659752.toInt.toNat) (by omega) (by omega) ?_
  exact G_vretA dr_cJ0_init_81219_6 rfl (Nat.le_of_ble_eq_true rfl) (show p659752.toInt.toNat ≤ p659752.toInt.toNat by omega) ⟨P659958, F659959, q659952, n659953, f659954, rfl, rfl, hsb659972, hfr659973, he659962, he659963, he659964, he659965, hm659966, hq659971, (Nat.le_of_ble_eq_true rfl), (by omega), bf659954, (by have qa0 : Int32.toInt 0 = 0 := (by decide); omega), (sK_c x659956 (by omega)), (fun R c1 => c1 n659953 f659954 ht659957)⟩
/- tr_RStringBuilder_toString: a.1.value.#, a.1.value.[] -/
def tr_RStringBuilder_toString (a0_count : Int32) (a0_value_v : Nat → Int32) (a0_value_n : Nat) (o1 : Nat) (o2 : Nat → Int32) : Prop := ∀ R : (Nat) → (Nat → Int32) → Prop,
  (∀ (x1 : Nat) (x2 : Nat → Int32), tr_RString_init a0_count a0_value_v a0_value_n x1 x2 → R x1 x2) →
  R o1 o2
abbrev ky_659727_StringBuilder_toString : gKey := (cJ4_toString_0e30d, 1, "java/lang/StringBuilder", (some (FieldType.object "java/lang/String")), [], "toString", fun _ _ => True)
def pp_659727_StringBuilder_toString (D : va_G) (I : FieldType → ClassId) (P659717 : List Nat) (F659718 : Nat → va_E) (q659719 : Nat) (q659720 : Nat) (p659721 : Int32) (p659722 : Int32) (f659723 : Nat → Int32) (n659724 : Nat) : Option Value → va_W → Nat → Nat → Prop := fun r w dc ds => ∃ (P660010 : List Nat) (F660011 : Nat → va_E) (q660006 : Nat) (q660007 : Nat) (n660008 : Nat) (f660009 : Nat → Int32), r = some (.ref q660006) ∧ w = va_pl P660010 F660011 ∧ rSub P659717 P660010 ∧ rFr [] P659717 F659718 F660011 ∧ F660011 q660006 = .inr (0, [.ref q660007, .int 0, .int 0, .int 0]) ∧ F660011 q659719 = .inr (1, [.ref q659720, .int 0, .int p659721, .int p659722]) ∧ F660011 q659720 = .inl (I .byte, n659724, .inl f659723) ∧ F660011 q660007 = .inl (I .byte, n660008, .inl f660009) ∧ q660006 ∈ P660010 ∧ q660006 ∉ P659717 ∧ q660007 ∈ P660010 ∧ q660007 ∉ P659717 ∧ dc ≤ 2 ∧ ds ≤ p659722.toInt.toNat + 4 ∧ gF f660009 (-128) 127 ∧ (n660008 : Int) = p659722.toInt ∧ sK f659723 f660009 p659722.toInt ∧ tr_RStringBuilder_toString p659722 f659723 n659724 n660008 f660009
set_option maxRecDepth 100000 in
set_option maxHeartbeats 4000000 in
theorem cp_659727_StringBuilder_toString (l : Launch) (hl0 : l.stackTraces = false) (D : va_G) (I : FieldType → ClassId) (P659717 : List Nat) (F659718 : Nat → va_E) (q659719 : Nat) (q659720 : Nat) (p659721 : Int32) (p659722 : Int32) (f659723 : Nat → Int32) (n659724 : Nat) (hmq659719 : q659719 ∈ P659717) (hmq659720 : q659720 ∈ P659717) (heq659719 : F659718 q659719 = .inr (1, [.ref q659720, .int 0, .int p659721, .int p659722])) (heq659720 : F659718 q659720 = .inl (I .byte, n659724, .inl f659723)) (bp659721 : gB p659721 0 1) (bp659722 : gB p659722 0 16777216) (bf659723 : gF f659723 (-128) 127) (x659725 : p659722.toInt ≤ (n659724 : Int)) (x659726 : ((n659724 : Int) ≤ 16777216)) : CtA (gV D I) l yJ4_toString_0e30d cJ4_toString_0e30d 1 (some (FieldType.object "java/lang/String")) 5 112 2 (p659722.toInt.toNat + 4) [.ref q659719] (va_pl P659717 F659718) (pp_659727_StringBuilder_toString D I P659717 F659718 q659719 q659720 p659721 p659722 f659723 n659724) gNA := by
  refine CtA_ofF hl0 (by decide +kernel) (Nat.le_of_ble_eq_true rfl) ?_
  refine G_new [.null, .int 0, .int 0, .int 0] dr_cJ4_toString_0e30d_0 (gk_J0 D I) wr_8_70 wr_8_71 wr_1_21 (gfs_J0) (show 0 + 1 ≤ 2 by first | omega | decide) (show 0 + 4 ≤ (p659722.toInt.toNat + 4) by first | omega | decide) (fun q659728 => Gp_in (fun P659729 F659730 hq659731 hP659732 e659733 n659734 => ?_))
  refine G_widen (cs' := 1) (sl' := 4) (by omega) (by omega) ?_
  have he659735 : F659730 q659719 = .inr (1, [.ref q659720, .int 0, .int p659721, .int p659722]) := (n659734 q659719 (fun h => hq659731 (h ▸ hmq659719))).trans heq659719
  have he659736 : F659730 q659720 = .inl (I .byte, n659724, .inl f659723) := (n659734 q659720 (fun h => hq659731 (h ▸ hmq659720))).trans heq659720
  have he659737 : F659730 q659728 = .inr (0, [.null, .int 0, .int 0, .int 0]) := e659733
  have hm659738 : q659719 ∈ P659729 := (hP659732 q659719).mpr (Or.inl hmq659719)
  have hm659739 : q659720 ∈ P659729 := (hP659732 q659720).mpr (Or.inl hmq659720)
  have hm659740 : q659728 ∈ P659729 := (hP659732 q659728).mpr (Or.inr rfl)
  have hq659741 : q659728 ∉ P659717 := fun z => hq659731 ((rSub_rf (P := P659717)) q659728 z)
  have hfr659742 : rFr [] P659717 F659718 F659730 := rFr_new (rSub_rf (P := P659717)) hq659731 (rFr_rf (W := []) (P := P659717) (F := F659718)) n659734
  have hsb659743 : rSub P659717 P659729 := rSub_new (rSub_rf (P := P659717)) hP659732
  refine G_dup dr_cJ4_toString_0e30d_3 rfl ?_
  refine G_aload_n 0 dr_cJ4_toString_0e30d_4 rfl ?_
  refine Gw_callI (As := [.ref q659719]) (gV_ok D I) (cp_659757_String_init l hl0 D I P659729 F659730 q659728 q659719 q659720 0 0 p659721 p659722 f659723 n659724 hm659740 hm659738 hm659739 he659737 he659735 he659736 (gB_w (gBl (show Int32.toInt 0 = 0 by decide)) (by decide) (by decide)) bp659721 bp659722 bf659723 (by have qa0 : Int32.toInt 0 = 0 := (by decide); omega) (by have qa0 : Int32.toInt 0 = 0 := (by decide); omega)) dr_cJ4_toString_0e30d_5 ⟨wr_8_72, wr_1_21, wr_8_74, by decide, rfl, (Nat.le_of_ble_eq_true rfl), (Nat.le_of_ble_eq_true rfl)⟩ wr_8_73 rfl (show 1 + 1 ≤ 2 by first | omega | decide) (show 4 + p659722.toInt.toNat ≤ (p659722.toInt.toNat + 4) by first | omega | decide) (Nat.le_of_ble_eq_true rfl) (fun r659982 w659983 dc659979 ds659980 hp659981 => ?_)
  obtain ⟨P659990, F659991, q659984, n659985, f659986, rfl, rfl, hsb659992, hfr659993, he659994, he659995, he659996, he659997, hm659998, hq659999, hdc, hds, bf659986, x659987, x659988, ht659989⟩ := hp659981
  have hm660000 : q659719 ∈ P659990 := hsb659992 q659719 hm659738
  have hm660001 : q659720 ∈ P659990 := hsb659992 q659720 hm659739
  have hm660002 : q659728 ∈ P659990 := hsb659992 q659728 hm659740
  have hq660003 : q659984 ∉ P659717 := fun z => hq659999 (hsb659743 q659984 z)
  have hsb660004 : rSub P659717 P659990 := rSub_tr hsb659743 hsb659992
  have hfr660005 : rFr [] P659717 F659718 F659991 := rFr_call hsb659743 hfr659742 hfr659993 (fun b hb hn => ⟨nm_n, (nm_c (fun e => hq659741 (e ▸ hb)) nm_n)⟩)
  change G _ _ _ _ _ _ _ _ _ _ _
  refine G_widen (cs' := 2) (sl' := 4 + p659722.toInt.toNat) (by omega) (by omega) ?_
  exact G_aretA (FieldType.object "java/lang/String") dr_cJ4_toString_0e30d_8 rfl (by first | exact Or.inl ⟨_, rfl⟩ | exact Or.inr ⟨_, rfl⟩) (Or.inr ⟨_, rfl⟩) (Nat.le_of_ble_eq_true rfl) (show 4 + p659722.toInt.toNat ≤ (p659722.toInt.toNat + 4) by omega) ⟨P659990, F659991, q659728, q659984, n659985, f659986, rfl, rfl, hsb660004, hfr660005, he659994, he659995, he659996, he659997, hm660002, hq659741, hm659998, hq660003, (Nat.le_of_ble_eq_true rfl), (by omega), bf659986, (by have qa0 : Int32.toInt 0 = 0 := (by decide); omega), (sK_c x659988 (by omega)), (fun R c1 => c1 n659985 f659986 ht659989)⟩
/- tl_RStringLatin1_equals_9: l2; out:  -/
def tl_RStringLatin1_equals_9 (a0_n : Nat) (a0_v : Nat → Int32) (bs : List Int32) (s1 : Int32) (k : Nat) : Prop := ∀ R : (Int32) → Nat → Prop,
  (∀ (l2_1 : Int32) (x1 : Int32), gB l2_1 0 16777216 → x1.toInt = (a0_n : Nat) → x1.toInt ≤ l2_1.toInt → R l2_1 32) →
  (∀ (l2_1 : Int32) (x1 : Int32) (x2 : Int32) (x3 : Int32) (x4 : Int32) (k : Nat), gB l2_1 0 16777216 → x1.toInt = (a0_n : Nat) → l2_1.toInt < x1.toInt → x2 = a0_v l2_1.toNatClampNeg → gB x2 (-128) 127 → x3 = bs.getD l2_1.toNatClampNeg 0 → x2.toInt = x3.toInt → x4.toInt = l2_1.toInt + 1 → R x4 k → R l2_1 k) →
  (∀ (l2_1 : Int32) (x1 : Int32) (x2 : Int32) (x3 : Int32), gB l2_1 0 16777216 → x1.toInt = (a0_n : Nat) → l2_1.toInt < x1.toInt → x2 = a0_v l2_1.toNatClampNeg → gB x2 (-128) 127 → x3 = bs.getD l2_1.toNatClampNeg 0 → x2.toInt ≠ x3.toInt → R l2_1 24) →
  R s1 k
/- tr_RStringLatin1_equals: result -/
def tr_RStringLatin1_equals (bs : List Int32) (a0_v : Nat → Int32) (a0_n : Nat) (o1 : Int32) : Prop := ∀ R : (Int32) → Prop,
  (∀ (x1 : Int32) (x2 : Int32), x1.toInt = (a0_n : Nat) → x2.toInt = (bs.length : Int) → x1.toInt ≠ x2.toInt → R (0 : Int32)) →
  (∀ (x1 : Int32) (x2 : Int32), x1.toInt = (a0_n : Nat) → x2.toInt = (bs.length : Int) → x1.toInt = x2.toInt → tl_RStringLatin1_equals_9 a0_n a0_v bs (0 : Int32) 32 → R (1 : Int32)) →
  (∀ (x1 : Int32) (x2 : Int32), x1.toInt = (a0_n : Nat) → x2.toInt = (bs.length : Int) → x1.toInt = x2.toInt → tl_RStringLatin1_equals_9 a0_n a0_v bs (0 : Int32) 24 → R (0 : Int32)) →
  R o1
abbrev ky_660034_StringLatin1_equals : gKey := (cJ1_equals_b5fdf, 3, "java/lang/StringLatin1", (some FieldType.boolean), [], "equals", fun _ _ => True)
def pp_660034_StringLatin1_equals (D : va_G) (I : FieldType → ClassId) (P660026 : List Nat) (F660027 : Nat → va_E) (q660028 : Nat) (qs660029 : Nat) (bs660030 : List Int32) (f660031 : Nat → Int32) (n660032 : Nat) : Option Value → va_W → Nat → Nat → Prop := fun r w dc ds => ∃ (o660117 : Int32), r = some (.int o660117) ∧ w = va_pl P660026 F660027 ∧ dc ≤ 0 ∧ ds ≤ 0 ∧ gB o660117 0 1 ∧ tr_RStringLatin1_equals bs660030 f660031 n660032 o660117
set_option maxRecDepth 100000 in
set_option maxHeartbeats 4000000 in
theorem cp_660034_StringLatin1_equals (l : Launch) (hl0 : l.stackTraces = false) (D : va_G) (I : FieldType → ClassId) (P660026 : List Nat) (F660027 : Nat → va_E) (q660028 : Nat) (qs660029 : Nat) (bs660030 : List Int32) (f660031 : Nat → Int32) (n660032 : Nat) (hmq660028 : q660028 ∈ P660026) (heq660028 : F660027 q660028 = .inl (I .byte, n660032, .inl f660031)) (hbs660030 : ∀ A s H, (gV D I).2.2.2.1 A s H → va_T .byte qs660029 bs660030.length (fun j => .int (bs660030.getD j 0)) A s H) (nbs660030 : (bs660030.length : Int) ≤ 65535) (lbs660030 : gLB bs660030) (bf660031 : gF f660031 (-128) 127) (x660033 : ((n660032 : Int) ≤ 16777216)) : CtA (gV D I) l yJ1_equals_b5fdf cJ1_equals_b5fdf 3 (some FieldType.boolean) 0 0 0 0 [.ref q660028, .ref qs660029] (va_pl P660026 F660027) (pp_660034_StringLatin1_equals D I P660026 F660027 q660028 qs660029 bs660030 f660031 n660032) gNA := by
  refine CtA_ofF hl0 (by decide +kernel) (Nat.le_of_ble_eq_true rfl) ?_
  refine G_aload_n 0 dr_cJ1_equals_b5fdf_0 rfl ?_
  refine Gp_alen (Int32.ofNat n660032) 1 hmq660028 heq660028 dr_cJ1_equals_b5fdf_1 rfl rfl (G_nam fun z660035 hz660035 => ?_)
  have ez660035 : z660035.toInt = (n660032 : Nat) := gI_ofM hz660035 (by omega)
  have bz660035 : gB z660035 0 16777216 := ⟨by omega, by omega⟩
  refine G_aload_n 1 dr_cJ1_equals_b5fdf_2 rfl ?_
  refine G_klen dr_cJ1_equals_b5fdf_3 hbs660030 (G_nam fun z660036 hz660036 => ?_)
  have ez660036 : z660036.toInt = (bs660030.length : Int) := gI_ofN hz660036 nbs660030
  have bz660036 : gB z660036 0 65535 := ⟨by omega, by omega⟩
  refine G_icmp_ne 34 dr_cJ1_equals_b5fdf_4 (by decide +kernel) (fun hc660037 => ?_) (fun hc660037 => ?_)
  · have r660038 : z660035.toInt ≠ z660036.toInt := gC_ne hc660037
    refine G_iconst 0 dr_cJ1_equals_b5fdf_34 (by decide +kernel) ?_
    exact G_zretA FieldType.boolean dr_cJ1_equals_b5fdf_35 rfl rfl (Nat.le_of_ble_eq_true rfl) (Nat.le_of_ble_eq_true rfl) ⟨0, rfl, rfl, (Nat.le_of_ble_eq_true rfl), (Nat.le_of_ble_eq_true rfl), (gB_w (gBl (show Int32.toInt 0 = 0 by decide)) (by decide) (by decide)), (fun R c1 c2 c3 => c1 z660035 z660036 ez660035 ez660036 r660038)⟩
  · have r660039 : z660035.toInt = z660036.toInt := gC_eq hc660037
    have bz660035' : gB z660035 0 65535 := ⟨by omega, by omega⟩
    refine G_iconst 0 dr_cJ1_equals_b5fdf_7 (by decide +kernel) ?_
    refine G_istore_n (L' := [(2, .int 0), (0, .ref q660028), (1, .ref qs660029)]) dr_cJ1_equals_b5fdf_8 (Nat.le_of_ble_eq_true rfl) rfl ?_
    have hlp9_660104 : ∀ (n9_660104 : Nat) (g660104 : Int32), gB g660104 0 16777216 → (∀ (k : Nat), tl_RStringLatin1_equals_9 n660032 f660031 bs660030 g660104 k → tl_RStringLatin1_equals_9 n660032 f660031 bs660030 (0 : Int32) k) → ((16777217 : Int) - g660104.toInt).toNat < n9_660104 → G (gV D I) l (gRm 0 0 0 0) (gMA (gV D I) (pp_660034_StringLatin1_equals D I P660026 F660027 q660028 qs660029 bs660030 f660031 n660032) gNA 0 0) ky_660034_StringLatin1_equals 9 [(2, .int g660104), (0, .ref q660028), (1, .ref qs660029)] [] (va_pl P660026 F660027) 0 0 := by
      intro n9_660104
      induction n9_660104 with
      | zero => intro g660104 bg660104 kt9_660104 hm9_660104; exact absurd hm9_660104 (Nat.not_lt_zero _)
      | succ n9_660104 ih9_660104 =>
        intro g660104 bg660104 kt9_660104 hm9_660104
        refine G_iload_n 0 dr_cJ1_equals_b5fdf_9 rfl ?_
        refine G_aload_n 1 dr_cJ1_equals_b5fdf_10 rfl ?_
        refine Gp_alen (Int32.ofNat n660032) 1 hmq660028 heq660028 dr_cJ1_equals_b5fdf_11 rfl rfl (G_nam fun z660105 hz660105 => ?_)
        have ez660105 : z660105.toInt = (n660032 : Nat) := gI_ofM hz660105 (by omega)
        have bz660105 : gB z660105 0 16777216 := ⟨by omega, by omega⟩
        refine G_icmp_ge 32 dr_cJ1_equals_b5fdf_12 (by decide +kernel) (fun hc660106 => ?_) (fun hc660106 => ?_)
        · have r660107 : z660105.toInt ≤ g660104.toInt := gC_le hc660106
          have hx660108 : tl_RStringLatin1_equals_9 n660032 f660031 bs660030 (0 : Int32) 32 := kt9_660104 32 (fun R c1 c2 c3 => c1 g660104 z660105 bg660104 ez660105 r660107)
          refine G_iconst 1 dr_cJ1_equals_b5fdf_32 (by decide +kernel) ?_
          exact G_zretA FieldType.boolean dr_cJ1_equals_b5fdf_33 rfl rfl (Nat.le_of_ble_eq_true rfl) (Nat.le_of_ble_eq_true rfl) ⟨1, rfl, rfl, (Nat.le_of_ble_eq_true rfl), (Nat.le_of_ble_eq_true rfl), (gB_w (gBl (show Int32.toInt 1 = 1 by decide)) (by decide) (by decide)), (fun R c1 c2 c3 => c2 z660035 z660036 ez660035 ez660036 r660039 hx660108)⟩
        · have r660109 : g660104.toInt < z660105.toInt := gC_nle hc660106
          have bg660104' : gB g660104 0 16777215 := ⟨by omega, by omega⟩
          have bz660105' : gB z660105 1 16777216 := ⟨by omega, by omega⟩
          refine G_aload_n 1 dr_cJ1_equals_b5fdf_15 rfl ?_
          refine G_iload_n 0 dr_cJ1_equals_b5fdf_16 rfl ?_
          refine Gp_bald 1 hmq660028 heq660028 dr_cJ1_equals_b5fdf_17 rfl (gB_inr (by omega) (by omega)) (G_nam fun z660110 hz660110 => ?_)
          have bz660110 : gB z660110 (-128) 127 := by rw [hz660110]; exact bf660031 _
          refine G_aload_n 2 dr_cJ1_equals_b5fdf_18 rfl ?_
          refine G_iload_n 0 dr_cJ1_equals_b5fdf_19 rfl ?_
          refine G_kbald (f := fun j => bs660030.getD j 0) dr_cJ1_equals_b5fdf_20 hbs660030 (gB_inr (by omega) (by omega)) (G_nam fun z660111 hz660111 => ?_)
          have bz660111 : gB z660111 (-2147483648) 2147483647 := gB_any z660111
          refine G_icmp_eq 26 dr_cJ1_equals_b5fdf_21 (by decide +kernel) (fun hc660112 => ?_) (fun hc660112 => ?_)
          · have r660113 : z660110.toInt = z660111.toInt := gC_eq hc660112
            have bz660111' : gB z660111 (-128) 127 := ⟨by omega, by omega⟩
            obtain ⟨z660114, hz660114⟩ : ∃ z : Int32, z = g660104 + Int32.ofInt 1 := ⟨_, rfl⟩
            have ez660114 : z660114.toInt = g660104.toInt + 1 := gI_inc hz660114 (by decide) bg660104' (by decide) (by decide)
            have bz660114 : gB z660114 1 16777216 := ⟨by omega, by omega⟩
            refine G_iinc (L' := [(2, .int z660114), (0, .ref q660028), (1, .ref qs660029)]) z660114 0 dr_cJ1_equals_b5fdf_26 rfl hz660114.symm (Nat.le_of_ble_eq_true rfl) rfl ?_
            refine G_goto 9 dr_cJ1_equals_b5fdf_29 (by decide +kernel) ?_
            exact ih9_660104 z660114 (gB_w bz660114 (by decide) (by decide)) (fun k ht => kt9_660104 k (fun R c1 c2 c3 => c2 g660104 z660105 z660110 z660111 z660114 k bg660104 ez660105 r660109 hz660110 bz660110 hz660111 r660113 ez660114 (ht R c1 c2 c3))) (by omega)
          · have r660115 : z660110.toInt ≠ z660111.toInt := gC_ne hc660112
            have hx660116 : tl_RStringLatin1_equals_9 n660032 f660031 bs660030 (0 : Int32) 24 := kt9_660104 24 (fun R c1 c2 c3 => c3 g660104 z660105 z660110 z660111 bg660104 ez660105 r660109 hz660110 bz660110 hz660111 r660115)
            refine G_iconst 0 dr_cJ1_equals_b5fdf_24 (by decide +kernel) ?_
            exact G_zretA FieldType.boolean dr_cJ1_equals_b5fdf_25 rfl rfl (Nat.le_of_ble_eq_true rfl) (Nat.le_of_ble_eq_true rfl) ⟨0, rfl, rfl, (Nat.le_of_ble_eq_true rfl), (Nat.le_of_ble_eq_true rfl), (gB_w (gBl (show Int32.toInt 0 = 0 by decide)) (by decide) (by decide)), (fun R c1 c2 c3 => c3 z660035 z660036 ez660035 ez660036 r660039 hx660116)⟩
    exact hlp9_660104 (((16777217 : Int) - 0).toNat + 1) 0 (gB_w (gBl (show Int32.toInt 0 = 0 by decide)) (by decide) (by decide)) (fun k ht => ht) (Nat.lt_succ_self _)
/- tr_RString_equals: result -/
def tr_RString_equals (bs : List Int32) (a0_value_v : Nat → Int32) (a0_value_n : Nat) (o1 : Int32) : Prop := ∀ R : (Int32) → Prop,
  (∀ (x1 : Int32), gB x1 0 1 → tr_RStringLatin1_equals bs a0_value_v a0_value_n x1 → x1.toInt = 0 → R (0 : Int32)) →
  (∀ (x1 : Int32), gB x1 0 1 → tr_RStringLatin1_equals bs a0_value_v a0_value_n x1 → x1.toInt ≠ 0 → R (1 : Int32)) →
  R o1
abbrev ky_660024_String_equals : gKey := (cJ0_equals_9ea2d, 3, "java/lang/String", (some FieldType.boolean), [], "equals", fun _ _ => True)
def pp_660024_String_equals (D : va_G) (I : FieldType → ClassId) (P660012 : List Nat) (F660013 : Nat → va_E) (q660014 : Nat) (q660015 : Nat) (qs660016 : Nat) (qb660017 : Nat) (bs660018 : List Int32) (p660019 : Int32) (p660020 : Int32) (f660021 : Nat → Int32) (n660022 : Nat) : Option Value → va_W → Nat → Nat → Prop := fun r w dc ds => (∃ (o660123 : Int32), r = some (.int 0) ∧ w = va_pl P660012 F660013 ∧ dc ≤ 0 ∧ ds ≤ 0 ∧ o660123.toInt = 0 ∧ gB o660123 0 0 ∧ tr_RString_equals bs660018 f660021 n660022 (0 : Int32)) ∨ (∃ (o660123 : Int32), r = some (.int 1) ∧ w = va_pl P660012 F660013 ∧ dc ≤ 0 ∧ ds ≤ 0 ∧ o660123.toInt ≠ 0 ∧ gB o660123 1 1 ∧ tr_RString_equals bs660018 f660021 n660022 (1 : Int32))
set_option maxRecDepth 100000 in
set_option maxHeartbeats 4000000 in
theorem cp_660024_String_equals (l : Launch) (hl0 : l.stackTraces = false) (D : va_G) (I : FieldType → ClassId) (P660012 : List Nat) (F660013 : Nat → va_E) (q660014 : Nat) (q660015 : Nat) (qs660016 : Nat) (qb660017 : Nat) (bs660018 : List Int32) (p660019 : Int32) (p660020 : Int32) (f660021 : Nat → Int32) (n660022 : Nat) (hmq660014 : q660014 ∈ P660012) (hmq660015 : q660015 ∈ P660012) (heq660014 : F660013 q660014 = .inr (0, [.ref q660015, .int 0, .int p660019, .int p660020])) (heq660015 : F660013 q660015 = .inl (I .byte, n660022, .inl f660021)) (hbs660018 : ∀ A s H, (gV D I).2.2.2.1 A s H → gSC qs660016 qb660017 bs660018 A s H) (nbs660018 : (bs660018.length : Int) ≤ 65535) (lbs660018 : gLB bs660018) (bp660020 : gB p660020 0 1) (bf660021 : gF f660021 (-128) 127) (x660023 : ((n660022 : Int) ≤ 16777216)) : CtA (gV D I) l yJ0_equals_9ea2d cJ0_equals_9ea2d 3 (some FieldType.boolean) 1 22 0 0 [.ref q660014, .ref qs660016] (va_pl P660012 F660013) (pp_660024_String_equals D I P660012 F660013 q660014 q660015 qs660016 qb660017 bs660018 p660019 p660020 f660021 n660022) gNA := by
  refine CtA_ofF hl0 (by decide +kernel) (Nat.le_of_ble_eq_true rfl) ?_
  have bp660019 := gB_any p660019
  refine G_aload_n 0 dr_cJ0_equals_9ea2d_0 rfl ?_
  refine G_aload_n 1 dr_cJ0_equals_9ea2d_1 rfl ?_
  refine G_pkne0 hmq660014 (fun _ _ _ h => (hbs660018 _ _ _ h).2.1) (fun hne660025 => ?_)
  refine G_acmp_ne 7 dr_cJ0_equals_9ea2d_2 (by decide +kernel) (fun _ => ?_) (fun hc => absurd hc hne660025)
  refine G_aload_n 1 dr_cJ0_equals_9ea2d_7 rfl ?_
  refine G_instK dr_cJ0_equals_9ea2d_8 wr_9_149 wr_8_71 (fun _ _ _ h => (hbs660018 _ _ _ h).1) ?_
  refine G_if_eq 54 dr_cJ0_equals_9ea2d_11 (by decide +kernel) (fun hc => absurd hc (by decide)) (fun _ => ?_)
  refine G_aload_n 1 dr_cJ0_equals_9ea2d_14 rfl ?_
  refine G_casK dr_cJ0_equals_9ea2d_15 wr_9_149 wr_8_71 (fun _ _ _ h => (hbs660018 _ _ _ h).1) ?_
  refine G_astore_n (L' := [(2, .ref qs660016), (0, .ref q660014), (1, .ref qs660016)]) dr_cJ0_equals_9ea2d_18 (Nat.le_of_ble_eq_true rfl) rfl ?_
  refine G_gets dr_cJ0_equals_9ea2d_19 wr_3_65 gz_cs (fun x hx => ?_)
  subst hx
  refine G_if_eq 36 dr_cJ0_equals_9ea2d_22 (by decide +kernel) (fun hc => absurd hc (by decide)) (fun _ => ?_)
  refine G_aload_n 1 dr_cJ0_equals_9ea2d_25 rfl ?_
  refine Gp_get 1 hmq660014 heq660014 dr_cJ0_equals_9ea2d_26 (gk_J0 D I) (Nat.le_of_ble_eq_true rfl) wr_8_183 rfl ?_
  refine G_aload_n 0 dr_cJ0_equals_9ea2d_29 rfl ?_
  refine G_kget dr_cJ0_equals_9ea2d_30 wr_8_183 (fun _ _ _ h => (hbs660018 _ _ _ h).2.1) ?_
  refine G_icmp_ne 54 dr_cJ0_equals_9ea2d_33 (by decide +kernel) (fun hc => absurd hc (by decide)) (fun _ => ?_)
  refine G_aload_n 1 dr_cJ0_equals_9ea2d_36 rfl ?_
  refine Gp_get 0 hmq660014 heq660014 dr_cJ0_equals_9ea2d_37 (gk_J0 D I) (Nat.le_of_ble_eq_true rfl) wr_8_182 rfl ?_
  refine G_aload_n 0 dr_cJ0_equals_9ea2d_40 rfl ?_
  refine G_kget dr_cJ0_equals_9ea2d_41 wr_8_182 (fun _ _ _ h => (hbs660018 _ _ _ h).2.2.1) ?_
  refine Gw_callS (As := [.ref q660015, .ref qb660017]) (gV_ok D I) (cp_660034_StringLatin1_equals l hl0 D I P660012 F660013 q660015 qb660017 bs660018 f660021 n660022 hmq660015 heq660015 (fun _ _ _ h => (hbs660018 _ _ _ h).2.2.2) (by omega) lbs660018 bf660021 (by have qa0 : Int32.toInt 0 = 0 := (by decide); omega)) dr_cJ0_equals_9ea2d_44 ⟨wr_9_150, wr_1_28, wr_9_152, by decide, rfl, (Nat.le_of_ble_eq_true rfl), (Nat.le_of_ble_eq_true rfl)⟩ wr_9_151 (show 0 + 0 ≤ 0 by first | omega | decide) (show 0 + 0 ≤ 0 by first | omega | decide) (Nat.le_of_ble_eq_true rfl) (fun r660121 w660122 dc660118 ds660119 hp660120 => ?_) (fun _ _ _ _ _ z => z.elim)
  obtain ⟨o660123, rfl, rfl, hdc, hds, bo660123, ht660124⟩ := hp660120
  change G _ _ _ _ _ _ _ (.int o660123 :: _) _ _ _
  refine G_widen (cs' := 0) (sl' := 0) (by omega) (by omega) ?_
  refine G_if_eq 54 dr_cJ0_equals_9ea2d_47 (by decide +kernel) (fun hc660125 => ?_) (fun hc660125 => ?_)
  · have r660126 : o660123.toInt = 0 := gj_eq hc660125 (show Int32.toInt 0 = 0 by decide)
    have bo660123' : gB o660123 0 0 := ⟨by omega, by omega⟩
    refine G_iconst 0 dr_cJ0_equals_9ea2d_54 (by decide +kernel) ?_
    exact G_zretA FieldType.boolean dr_cJ0_equals_9ea2d_55 rfl rfl (Nat.le_of_ble_eq_true rfl) (Nat.le_of_ble_eq_true rfl) (Or.inl ⟨o660123, rfl, rfl, (Nat.le_of_ble_eq_true rfl), (Nat.le_of_ble_eq_true rfl), r660126, bo660123', (fun R c1 c2 => c1 o660123 bo660123 ht660124 r660126)⟩)
  · have r660127 : o660123.toInt ≠ 0 := gj_neq hc660125 (show Int32.toInt 0 = 0 by decide)
    have bo660123' : gB o660123 1 1 := ⟨by omega, by omega⟩
    refine G_iconst 1 dr_cJ0_equals_9ea2d_50 (by decide +kernel) ?_
    refine G_goto 55 dr_cJ0_equals_9ea2d_51 (by decide +kernel) ?_
    exact G_zretA FieldType.boolean dr_cJ0_equals_9ea2d_55 rfl rfl (Nat.le_of_ble_eq_true rfl) (Nat.le_of_ble_eq_true rfl) (Or.inr (⟨o660123, rfl, rfl, (Nat.le_of_ble_eq_true rfl), (Nat.le_of_ble_eq_true rfl), r660127, bo660123', (fun R c1 c2 => c2 o660123 bo660123 ht660124 r660127)⟩))
