theorem dr_cJ5_getValue_6d5f1_0 : decode cJ5_getValue_6d5f1 0 = .ok (.aload_n 0, 1) := by decide +kernel
theorem dr_cJ5_getValue_6d5f1_1 : decode cJ5_getValue_6d5f1 1 = .ok (.getfield 15, 3) := by decide +kernel
theorem dr_cJ5_getValue_6d5f1_4 : decode cJ5_getValue_6d5f1 4 = .ok (.areturn, 1) := by decide +kernel
theorem dr_cJ7_checkLength_df160_0 : decode cJ7_checkLength_df160 0 = .ok (.iload_n 1, 1) := by decide +kernel
theorem dr_cJ7_checkLength_df160_1 : decode cJ7_checkLength_df160 1 = .ok (.iload_n 0, 1) := by decide +kernel
theorem dr_cJ7_checkLength_df160_2 : decode cJ7_checkLength_df160 2 = .ok (.if_icmp .ge 35, 3) := by decide +kernel
theorem dr_cJ7_checkLength_df160_37 : decode cJ7_checkLength_df160 37 = .ok (.return_, 1) := by decide +kernel
theorem dr_cJ7_copyOfRangeByte_39247_0 : decode cJ7_copyOfRangeByte_39247 0 = .ok (.iload_n 1, 1) := by decide +kernel
theorem dr_cJ7_copyOfRangeByte_39247_1 : decode cJ7_copyOfRangeByte_39247 1 = .ok (.iload_n 2, 1) := by decide +kernel
theorem dr_cJ7_copyOfRangeByte_39247_2 : decode cJ7_copyOfRangeByte_39247 2 = .ok (.invokestatic 343, 3) := by decide +kernel
theorem wr_8_99 : (Jvm.Cond.methodLink "java/util/Arrays" (343 : Nat) ({ cls := "java/util/Arrays", name := "checkLength", desc := "(II)V" } : Jvm.MethodName)) ∈ gw := gw_8 99 rfl rfl
theorem wr_8_101 : (Jvm.Cond.code ({ cls := "java/util/Arrays", name := "checkLength", desc := "(II)V" } : Jvm.MethodName) prog_44_method_131_code (2 : Nat) (Option.none : Option Jvm.ClassFile.FieldType)) ∈ gw := gw_8 101 rfl rfl
theorem wr_8_100 : (Jvm.Cond.static ({ cls := "java/util/Arrays", name := "checkLength", desc := "(II)V" } : Jvm.MethodName)) ∈ gw := gw_8 100 rfl rfl
theorem dr_cJ7_copyOfRangeByte_39247_5 : decode cJ7_copyOfRangeByte_39247 5 = .ok (.iload_n 2, 1) := by decide +kernel
theorem dr_cJ7_copyOfRangeByte_39247_6 : decode cJ7_copyOfRangeByte_39247 6 = .ok (.iload_n 1, 1) := by decide +kernel
theorem dr_cJ7_copyOfRangeByte_39247_7 : decode cJ7_copyOfRangeByte_39247 7 = .ok (.isub, 1) := by decide +kernel
theorem dr_cJ7_copyOfRangeByte_39247_8 : decode cJ7_copyOfRangeByte_39247 8 = .ok (.istore_n 3, 1) := by decide +kernel
theorem dr_cJ7_copyOfRangeByte_39247_9 : decode cJ7_copyOfRangeByte_39247 9 = .ok (.iload_n 3, 1) := by decide +kernel
theorem dr_cJ7_copyOfRangeByte_39247_10 : decode cJ7_copyOfRangeByte_39247 10 = .ok (.newarray .byte, 2) := by decide +kernel
theorem dr_cJ7_copyOfRangeByte_39247_12 : decode cJ7_copyOfRangeByte_39247 12 = .ok (.astore 4, 2) := by decide +kernel
theorem dr_cJ7_copyOfRangeByte_39247_14 : decode cJ7_copyOfRangeByte_39247 14 = .ok (.aload_n 0, 1) := by decide +kernel
theorem dr_cJ7_copyOfRangeByte_39247_15 : decode cJ7_copyOfRangeByte_39247 15 = .ok (.iload_n 1, 1) := by decide +kernel
theorem dr_cJ7_copyOfRangeByte_39247_16 : decode cJ7_copyOfRangeByte_39247 16 = .ok (.aload 4, 2) := by decide +kernel
theorem dr_cJ7_copyOfRangeByte_39247_18 : decode cJ7_copyOfRangeByte_39247 18 = .ok (.iconst 0, 1) := by decide +kernel
theorem dr_cJ7_copyOfRangeByte_39247_19 : decode cJ7_copyOfRangeByte_39247 19 = .ok (.aload_n 0, 1) := by decide +kernel
theorem dr_cJ7_copyOfRangeByte_39247_20 : decode cJ7_copyOfRangeByte_39247 20 = .ok (.arraylength, 1) := by decide +kernel
theorem dr_cJ7_copyOfRangeByte_39247_21 : decode cJ7_copyOfRangeByte_39247 21 = .ok (.iload_n 1, 1) := by decide +kernel
theorem dr_cJ7_copyOfRangeByte_39247_22 : decode cJ7_copyOfRangeByte_39247 22 = .ok (.isub, 1) := by decide +kernel
theorem dr_cJ7_copyOfRangeByte_39247_23 : decode cJ7_copyOfRangeByte_39247 23 = .ok (.iload_n 3, 1) := by decide +kernel
theorem dr_cJ7_copyOfRangeByte_39247_24 : decode cJ7_copyOfRangeByte_39247 24 = .ok (.invokestatic 304, 3) := by decide +kernel
theorem dr_cJ7_copyOfRangeByte_39247_27 : decode cJ7_copyOfRangeByte_39247 27 = .ok (.invokestatic 150, 3) := by decide +kernel
theorem dr_cJ7_copyOfRangeByte_39247_30 : decode cJ7_copyOfRangeByte_39247 30 = .ok (.aload 4, 2) := by decide +kernel
theorem dr_cJ7_copyOfRangeByte_39247_32 : decode cJ7_copyOfRangeByte_39247 32 = .ok (.areturn, 1) := by decide +kernel
theorem dr_cJ7_copyOfRange_39247_0 : decode cJ7_copyOfRange_39247 0 = .ok (.iload_n 1, 1) := by decide +kernel
theorem dr_cJ7_copyOfRange_39247_1 : decode cJ7_copyOfRange_39247 1 = .ok (.ifCond .ne 9, 3) := by decide +kernel
theorem dr_cJ7_copyOfRange_39247_4 : decode cJ7_copyOfRange_39247 4 = .ok (.iload_n 2, 1) := by decide +kernel
theorem dr_cJ7_copyOfRange_39247_5 : decode cJ7_copyOfRange_39247 5 = .ok (.aload_n 0, 1) := by decide +kernel
theorem dr_cJ7_copyOfRange_39247_6 : decode cJ7_copyOfRange_39247 6 = .ok (.arraylength, 1) := by decide +kernel
theorem dr_cJ7_copyOfRange_39247_7 : decode cJ7_copyOfRange_39247 7 = .ok (.if_icmp .eq 10, 3) := by decide +kernel
theorem dr_cJ7_copyOfRange_39247_17 : decode cJ7_copyOfRange_39247 17 = .ok (.aload_n 0, 1) := by decide +kernel
theorem dr_cJ7_copyOfRange_39247_18 : decode cJ7_copyOfRange_39247 18 = .ok (.invokevirtual 310, 3) := by decide +kernel
theorem wr_8_24 : (Jvm.Cond.methodLink "java/util/Arrays" (310 : Nat) ({ cls := "[B", name := "clone", desc := "()Ljava/lang/Object;" } : Jvm.MethodName)) ∈ gw := gw_8 24 rfl rfl
theorem wr_8_25 : (Jvm.Cond.sameMethod "[B" "java/lang/Object" "clone" "()Ljava/lang/Object;") ∈ gw := gw_8 25 rfl rfl
theorem wr_8_26 : (Jvm.Cond.native ({ cls := "java/lang/Object", name := "clone", desc := "()Ljava/lang/Object;" } : Jvm.MethodName)) ∈ gw := gw_8 26 rfl rfl
theorem wr_8_27 : (Jvm.Cond.instanceMethod ({ cls := "java/lang/Object", name := "clone", desc := "()Ljava/lang/Object;" } : Jvm.MethodName)) ∈ gw := gw_8 27 rfl rfl
theorem wr_8_28 : (Jvm.Cond.selects "[B" ({ cls := "[B", name := "clone", desc := "()Ljava/lang/Object;" } : Jvm.MethodName) ({ cls := "java/lang/Object", name := "clone", desc := "()Ljava/lang/Object;" } : Jvm.MethodName)) ∈ gw := gw_8 28 rfl rfl
theorem dr_cJ7_copyOfRange_39247_21 : decode cJ7_copyOfRange_39247 21 = .ok (.checkcast 311, 3) := by decide +kernel
theorem wr_8_30 : (Jvm.Cond.classLink "java/util/Arrays" (311 : Nat) "[B") ∈ gw := gw_8 30 rfl rfl
theorem dr_cJ7_copyOfRange_39247_24 : decode cJ7_copyOfRange_39247 24 = .ok (.areturn, 1) := by decide +kernel
theorem dr_cJ7_copyOfRange_39247_10 : decode cJ7_copyOfRange_39247 10 = .ok (.aload_n 0, 1) := by decide +kernel
theorem dr_cJ7_copyOfRange_39247_11 : decode cJ7_copyOfRange_39247 11 = .ok (.iload_n 1, 1) := by decide +kernel
theorem dr_cJ7_copyOfRange_39247_12 : decode cJ7_copyOfRange_39247 12 = .ok (.iload_n 2, 1) := by decide +kernel
theorem dr_cJ7_copyOfRange_39247_13 : decode cJ7_copyOfRange_39247 13 = .ok (.invokestatic 339, 3) := by decide +kernel
theorem wr_8_96 : (Jvm.Cond.methodLink "java/util/Arrays" (339 : Nat) ({ cls := "java/util/Arrays", name := "copyOfRangeByte", desc := "([BII)[B" } : Jvm.MethodName)) ∈ gw := gw_8 96 rfl rfl
theorem wr_8_98 : (Jvm.Cond.code ({ cls := "java/util/Arrays", name := "copyOfRangeByte", desc := "([BII)[B" } : Jvm.MethodName) prog_44_method_133_code (5 : Nat) (Option.some (Jvm.ClassFile.FieldType.array Jvm.ClassFile.FieldType.byte))) ∈ gw := gw_8 98 rfl rfl
theorem wr_8_97 : (Jvm.Cond.static ({ cls := "java/util/Arrays", name := "copyOfRangeByte", desc := "([BII)[B" } : Jvm.MethodName)) ∈ gw := gw_8 97 rfl rfl
theorem dr_cJ7_copyOfRange_39247_16 : decode cJ7_copyOfRange_39247 16 = .ok (.areturn, 1) := by decide +kernel
theorem dr_cJ0_init_db425_0 : decode cJ0_init_db425 0 = .ok (.aload_n 0, 1) := by decide +kernel
theorem dr_cJ0_init_db425_1 : decode cJ0_init_db425 1 = .ok (.invokespecial 1, 3) := by decide +kernel
theorem wr_8_78 : (Jvm.Cond.methodLink "java/lang/String" (1 : Nat) ({ cls := "java/lang/Object", name := "<init>", desc := "()V" } : Jvm.MethodName)) ∈ gw := gw_8 78 rfl rfl
theorem dr_cJ0_init_db425_4 : decode cJ0_init_db425 4 = .ok (.aload_n 1, 1) := by decide +kernel
theorem dr_cJ0_init_db425_5 : decode cJ0_init_db425 5 = .ok (.invokevirtual 552, 3) := by decide +kernel
theorem wr_8_79 : (Jvm.Cond.methodLink "java/lang/String" (552 : Nat) ({ cls := "java/lang/AbstractStringBuilder", name := "getValue", desc := "()[B" } : Jvm.MethodName)) ∈ gw := gw_8 79 rfl rfl
theorem wr_8_83 : (Jvm.Cond.code ({ cls := "java/lang/AbstractStringBuilder", name := "getValue", desc := "()[B" } : Jvm.MethodName) prog_21_method_64_code (1 : Nat) (Option.some (Jvm.ClassFile.FieldType.array Jvm.ClassFile.FieldType.byte))) ∈ gw := gw_8 83 rfl rfl
theorem wr_8_80 : (Jvm.Cond.instanceMethod ({ cls := "java/lang/AbstractStringBuilder", name := "getValue", desc := "()[B" } : Jvm.MethodName)) ∈ gw := gw_8 80 rfl rfl
theorem wr_8_82 : (Jvm.Cond.selects "java/lang/StringBuilder" ({ cls := "java/lang/AbstractStringBuilder", name := "getValue", desc := "()[B" } : Jvm.MethodName) ({ cls := "java/lang/AbstractStringBuilder", name := "getValue", desc := "()[B" } : Jvm.MethodName)) ∈ gw := gw_8 82 rfl rfl
theorem dr_cJ0_init_db425_8 : decode cJ0_init_db425 8 = .ok (.astore_n 3, 1) := by decide +kernel
theorem dr_cJ0_init_db425_9 : decode cJ0_init_db425 9 = .ok (.aload_n 1, 1) := by decide +kernel
theorem dr_cJ0_init_db425_10 : decode cJ0_init_db425 10 = .ok (.invokevirtual 549, 3) := by decide +kernel
theorem wr_8_84 : (Jvm.Cond.methodLink "java/lang/String" (549 : Nat) ({ cls := "java/lang/AbstractStringBuilder", name := "length", desc := "()I" } : Jvm.MethodName)) ∈ gw := gw_8 84 rfl rfl
theorem wr_8_87 : (Jvm.Cond.selects "java/lang/StringBuilder" ({ cls := "java/lang/AbstractStringBuilder", name := "length", desc := "()I" } : Jvm.MethodName) ({ cls := "java/lang/StringBuilder", name := "length", desc := "()I" } : Jvm.MethodName)) ∈ gw := gw_8 87 rfl rfl
theorem wr_8_88 : (Jvm.Cond.instanceMethod ({ cls := "java/lang/StringBuilder", name := "length", desc := "()I" } : Jvm.MethodName)) ∈ gw := gw_8 88 rfl rfl
theorem wr_1_20 : (Jvm.Cond.initialized "java/lang/StringBuilder") ∈ gw := gw_1 20 rfl rfl
theorem wr_8_89 : (Jvm.Cond.code ({ cls := "java/lang/StringBuilder", name := "length", desc := "()I" } : Jvm.MethodName) prog_35_method_93_code (1 : Nat) (Option.some Jvm.ClassFile.FieldType.int)) ∈ gw := gw_8 89 rfl rfl
theorem dr_cJ0_init_db425_13 : decode cJ0_init_db425 13 = .ok (.istore 4, 2) := by decide +kernel
theorem dr_cJ0_init_db425_15 : decode cJ0_init_db425 15 = .ok (.aload_n 1, 1) := by decide +kernel
theorem dr_cJ0_init_db425_16 : decode cJ0_init_db425 16 = .ok (.invokevirtual 1047, 3) := by decide +kernel
theorem wr_8_92 : (Jvm.Cond.methodLink "java/lang/String" (1047 : Nat) ({ cls := "java/lang/AbstractStringBuilder", name := "isLatin1", desc := "()Z" } : Jvm.MethodName)) ∈ gw := gw_8 92 rfl rfl
theorem dr_cJ0_init_db425_19 : decode cJ0_init_db425 19 = .ok (.ifCond .eq 22, 3) := by decide +kernel
theorem dr_cJ0_init_db425_22 : decode cJ0_init_db425 22 = .ok (.aload_n 0, 1) := by decide +kernel
theorem dr_cJ0_init_db425_23 : decode cJ0_init_db425 23 = .ok (.iconst 0, 1) := by decide +kernel
theorem dr_cJ0_init_db425_24 : decode cJ0_init_db425 24 = .ok (.putfield 15, 3) := by decide +kernel
theorem dr_cJ0_init_db425_27 : decode cJ0_init_db425 27 = .ok (.aload_n 0, 1) := by decide +kernel
theorem dr_cJ0_init_db425_28 : decode cJ0_init_db425 28 = .ok (.aload_n 3, 1) := by decide +kernel
theorem dr_cJ0_init_db425_29 : decode cJ0_init_db425 29 = .ok (.iconst 0, 1) := by decide +kernel
theorem dr_cJ0_init_db425_30 : decode cJ0_init_db425 30 = .ok (.iload 4, 2) := by decide +kernel
theorem dr_cJ0_init_db425_32 : decode cJ0_init_db425 32 = .ok (.invokestatic 54, 3) := by decide +kernel
theorem wr_8_93 : (Jvm.Cond.methodLink "java/lang/String" (54 : Nat) ({ cls := "java/util/Arrays", name := "copyOfRange", desc := "([BII)[B" } : Jvm.MethodName)) ∈ gw := gw_8 93 rfl rfl
theorem wr_8_95 : (Jvm.Cond.code ({ cls := "java/util/Arrays", name := "copyOfRange", desc := "([BII)[B" } : Jvm.MethodName) prog_44_method_132_code (3 : Nat) (Option.some (Jvm.ClassFile.FieldType.array Jvm.ClassFile.FieldType.byte))) ∈ gw := gw_8 95 rfl rfl
theorem wr_8_94 : (Jvm.Cond.static ({ cls := "java/util/Arrays", name := "copyOfRange", desc := "([BII)[B" } : Jvm.MethodName)) ∈ gw := gw_8 94 rfl rfl
theorem dr_cJ0_init_db425_35 : decode cJ0_init_db425 35 = .ok (.putfield 9, 3) := by decide +kernel
theorem dr_cJ0_init_db425_38 : decode cJ0_init_db425 38 = .ok (.goto 59, 3) := by decide +kernel
theorem dr_cJ0_init_db425_97 : decode cJ0_init_db425 97 = .ok (.return_, 1) := by decide +kernel
theorem dr_cJ0_init_81219_0 : decode cJ0_init_81219 0 = .ok (.aload_n 0, 1) := by decide +kernel
theorem dr_cJ0_init_81219_1 : decode cJ0_init_81219 1 = .ok (.aload_n 1, 1) := by decide +kernel
theorem dr_cJ0_init_81219_2 : decode cJ0_init_81219 2 = .ok (.aconst_null, 1) := by decide +kernel
theorem dr_cJ0_init_81219_3 : decode cJ0_init_81219 3 = .ok (.invokespecial 489, 3) := by decide +kernel
theorem wr_8_75 : (Jvm.Cond.methodLink "java/lang/String" (489 : Nat) ({ cls := "java/lang/String", name := "<init>", desc := "(Ljava/lang/AbstractStringBuilder;Ljava/lang/Void;)V" } : Jvm.MethodName)) ∈ gw := gw_8 75 rfl rfl
theorem wr_8_77 : (Jvm.Cond.code ({ cls := "java/lang/String", name := "<init>", desc := "(Ljava/lang/AbstractStringBuilder;Ljava/lang/Void;)V" } : Jvm.MethodName) prog_34_method_150_code (5 : Nat) (Option.none : Option Jvm.ClassFile.FieldType)) ∈ gw := gw_8 77 rfl rfl
theorem wr_8_76 : (Jvm.Cond.instanceMethod ({ cls := "java/lang/String", name := "<init>", desc := "(Ljava/lang/AbstractStringBuilder;Ljava/lang/Void;)V" } : Jvm.MethodName)) ∈ gw := gw_8 76 rfl rfl
theorem dr_cJ0_init_81219_6 : decode cJ0_init_81219 6 = .ok (.return_, 1) := by decide +kernel
theorem dr_cJ4_toString_0e30d_0 : decode cJ4_toString_0e30d 0 = .ok (.new 18, 3) := by decide +kernel
theorem wr_8_70 : (Jvm.Cond.classLink "java/lang/StringBuilder" (18 : Nat) "java/lang/String") ∈ gw := gw_8 70 rfl rfl
theorem wr_8_71 : (Jvm.Cond.instantiable "java/lang/String" (4 : Nat)) ∈ gw := gw_8 71 rfl rfl
theorem dr_cJ4_toString_0e30d_3 : decode cJ4_toString_0e30d 3 = .ok (.dup, 1) := by decide +kernel
theorem dr_cJ4_toString_0e30d_4 : decode cJ4_toString_0e30d 4 = .ok (.aload_n 0, 1) := by decide +kernel
theorem dr_cJ4_toString_0e30d_5 : decode cJ4_toString_0e30d 5 = .ok (.invokespecial 137, 3) := by decide +kernel
theorem wr_8_72 : (Jvm.Cond.methodLink "java/lang/StringBuilder" (137 : Nat) ({ cls := "java/lang/String", name := "<init>", desc := "(Ljava/lang/StringBuilder;)V" } : Jvm.MethodName)) ∈ gw := gw_8 72 rfl rfl
theorem wr_8_74 : (Jvm.Cond.code ({ cls := "java/lang/String", name := "<init>", desc := "(Ljava/lang/StringBuilder;)V" } : Jvm.MethodName) prog_34_method_53_code (2 : Nat) (Option.none : Option Jvm.ClassFile.FieldType)) ∈ gw := gw_8 74 rfl rfl
theorem wr_8_73 : (Jvm.Cond.instanceMethod ({ cls := "java/lang/String", name := "<init>", desc := "(Ljava/lang/StringBuilder;)V" } : Jvm.MethodName)) ∈ gw := gw_8 73 rfl rfl
theorem dr_cJ4_toString_0e30d_8 : decode cJ4_toString_0e30d 8 = .ok (.areturn, 1) := by decide +kernel
theorem dr_cJ1_equals_b5fdf_0 : decode cJ1_equals_b5fdf 0 = .ok (.aload_n 0, 1) := by decide +kernel
theorem dr_cJ1_equals_b5fdf_1 : decode cJ1_equals_b5fdf 1 = .ok (.arraylength, 1) := by decide +kernel
theorem dr_cJ1_equals_b5fdf_2 : decode cJ1_equals_b5fdf 2 = .ok (.aload_n 1, 1) := by decide +kernel
theorem dr_cJ1_equals_b5fdf_3 : decode cJ1_equals_b5fdf 3 = .ok (.arraylength, 1) := by decide +kernel
theorem dr_cJ1_equals_b5fdf_4 : decode cJ1_equals_b5fdf 4 = .ok (.if_icmp .ne 30, 3) := by decide +kernel
theorem dr_cJ1_equals_b5fdf_34 : decode cJ1_equals_b5fdf 34 = .ok (.iconst 0, 1) := by decide +kernel
theorem dr_cJ1_equals_b5fdf_35 : decode cJ1_equals_b5fdf 35 = .ok (.ireturn, 1) := by decide +kernel
theorem dr_cJ1_equals_b5fdf_7 : decode cJ1_equals_b5fdf 7 = .ok (.iconst 0, 1) := by decide +kernel
theorem dr_cJ1_equals_b5fdf_8 : decode cJ1_equals_b5fdf 8 = .ok (.istore_n 2, 1) := by decide +kernel
theorem dr_cJ1_equals_b5fdf_9 : decode cJ1_equals_b5fdf 9 = .ok (.iload_n 2, 1) := by decide +kernel
theorem dr_cJ1_equals_b5fdf_10 : decode cJ1_equals_b5fdf 10 = .ok (.aload_n 0, 1) := by decide +kernel
theorem dr_cJ1_equals_b5fdf_11 : decode cJ1_equals_b5fdf 11 = .ok (.arraylength, 1) := by decide +kernel
theorem dr_cJ1_equals_b5fdf_12 : decode cJ1_equals_b5fdf 12 = .ok (.if_icmp .ge 20, 3) := by decide +kernel
theorem dr_cJ1_equals_b5fdf_32 : decode cJ1_equals_b5fdf 32 = .ok (.iconst 1, 1) := by decide +kernel
theorem dr_cJ1_equals_b5fdf_33 : decode cJ1_equals_b5fdf 33 = .ok (.ireturn, 1) := by decide +kernel
theorem dr_cJ1_equals_b5fdf_15 : decode cJ1_equals_b5fdf 15 = .ok (.aload_n 0, 1) := by decide +kernel
theorem dr_cJ1_equals_b5fdf_16 : decode cJ1_equals_b5fdf 16 = .ok (.iload_n 2, 1) := by decide +kernel
theorem dr_cJ1_equals_b5fdf_17 : decode cJ1_equals_b5fdf 17 = .ok (.baload, 1) := by decide +kernel
theorem dr_cJ1_equals_b5fdf_18 : decode cJ1_equals_b5fdf 18 = .ok (.aload_n 1, 1) := by decide +kernel
theorem dr_cJ1_equals_b5fdf_19 : decode cJ1_equals_b5fdf 19 = .ok (.iload_n 2, 1) := by decide +kernel
theorem dr_cJ1_equals_b5fdf_20 : decode cJ1_equals_b5fdf 20 = .ok (.baload, 1) := by decide +kernel
theorem dr_cJ1_equals_b5fdf_21 : decode cJ1_equals_b5fdf 21 = .ok (.if_icmp .eq 5, 3) := by decide +kernel
theorem dr_cJ1_equals_b5fdf_26 : decode cJ1_equals_b5fdf 26 = .ok (.iinc 2 1, 3) := by decide +kernel
theorem dr_cJ1_equals_b5fdf_29 : decode cJ1_equals_b5fdf 29 = .ok (.goto (-20), 3) := by decide +kernel
theorem dr_cJ1_equals_b5fdf_24 : decode cJ1_equals_b5fdf 24 = .ok (.iconst 0, 1) := by decide +kernel
theorem dr_cJ1_equals_b5fdf_25 : decode cJ1_equals_b5fdf 25 = .ok (.ireturn, 1) := by decide +kernel
theorem dr_cJ0_equals_9ea2d_0 : decode cJ0_equals_9ea2d 0 = .ok (.aload_n 0, 1) := by decide +kernel
theorem dr_cJ0_equals_9ea2d_1 : decode cJ0_equals_9ea2d 1 = .ok (.aload_n 1, 1) := by decide +kernel
theorem dr_cJ0_equals_9ea2d_2 : decode cJ0_equals_9ea2d 2 = .ok (.if_acmp .ne 5, 3) := by decide +kernel
theorem dr_cJ0_equals_9ea2d_7 : decode cJ0_equals_9ea2d 7 = .ok (.aload_n 1, 1) := by decide +kernel
theorem dr_cJ0_equals_9ea2d_8 : decode cJ0_equals_9ea2d 8 = .ok (.instanceof 10, 3) := by decide +kernel
theorem wr_9_149 : (Jvm.Cond.classLink "java/lang/String" (10 : Nat) "java/lang/String") ∈ gw := gw_9 149 rfl rfl
theorem dr_cJ0_equals_9ea2d_11 : decode cJ0_equals_9ea2d 11 = .ok (.ifCond .eq 43, 3) := by decide +kernel
theorem dr_cJ0_equals_9ea2d_14 : decode cJ0_equals_9ea2d 14 = .ok (.aload_n 1, 1) := by decide +kernel
theorem dr_cJ0_equals_9ea2d_15 : decode cJ0_equals_9ea2d 15 = .ok (.checkcast 10, 3) := by decide +kernel
theorem dr_cJ0_equals_9ea2d_18 : decode cJ0_equals_9ea2d 18 = .ok (.astore_n 2, 1) := by decide +kernel
theorem dr_cJ0_equals_9ea2d_19 : decode cJ0_equals_9ea2d 19 = .ok (.getstatic 38, 3) := by decide +kernel
theorem dr_cJ0_equals_9ea2d_22 : decode cJ0_equals_9ea2d 22 = .ok (.ifCond .eq 14, 3) := by decide +kernel
theorem dr_cJ0_equals_9ea2d_25 : decode cJ0_equals_9ea2d 25 = .ok (.aload_n 0, 1) := by decide +kernel
theorem dr_cJ0_equals_9ea2d_26 : decode cJ0_equals_9ea2d 26 = .ok (.getfield 15, 3) := by decide +kernel
theorem dr_cJ0_equals_9ea2d_29 : decode cJ0_equals_9ea2d 29 = .ok (.aload_n 2, 1) := by decide +kernel
theorem dr_cJ0_equals_9ea2d_30 : decode cJ0_equals_9ea2d 30 = .ok (.getfield 15, 3) := by decide +kernel
theorem dr_cJ0_equals_9ea2d_33 : decode cJ0_equals_9ea2d 33 = .ok (.if_icmp .ne 21, 3) := by decide +kernel
theorem dr_cJ0_equals_9ea2d_36 : decode cJ0_equals_9ea2d 36 = .ok (.aload_n 0, 1) := by decide +kernel
theorem dr_cJ0_equals_9ea2d_37 : decode cJ0_equals_9ea2d 37 = .ok (.getfield 9, 3) := by decide +kernel
theorem dr_cJ0_equals_9ea2d_40 : decode cJ0_equals_9ea2d 40 = .ok (.aload_n 2, 1) := by decide +kernel
theorem dr_cJ0_equals_9ea2d_41 : decode cJ0_equals_9ea2d 41 = .ok (.getfield 9, 3) := by decide +kernel
theorem dr_cJ0_equals_9ea2d_44 : decode cJ0_equals_9ea2d 44 = .ok (.invokestatic 541, 3) := by decide +kernel
theorem wr_9_150 : (Jvm.Cond.methodLink "java/lang/String" (541 : Nat) ({ cls := "java/lang/StringLatin1", name := "equals", desc := "([B[B)Z" } : Jvm.MethodName)) ∈ gw := gw_9 150 rfl rfl
theorem wr_9_152 : (Jvm.Cond.code ({ cls := "java/lang/StringLatin1", name := "equals", desc := "([B[B)Z" } : Jvm.MethodName) prog_37_method_13_code (3 : Nat) (Option.some Jvm.ClassFile.FieldType.boolean)) ∈ gw := gw_9 152 rfl rfl
theorem wr_9_151 : (Jvm.Cond.static ({ cls := "java/lang/StringLatin1", name := "equals", desc := "([B[B)Z" } : Jvm.MethodName)) ∈ gw := gw_9 151 rfl rfl
theorem dr_cJ0_equals_9ea2d_47 : decode cJ0_equals_9ea2d 47 = .ok (.ifCond .eq 7, 3) := by decide +kernel
theorem dr_cJ0_equals_9ea2d_54 : decode cJ0_equals_9ea2d 54 = .ok (.iconst 0, 1) := by decide +kernel
theorem dr_cJ0_equals_9ea2d_55 : decode cJ0_equals_9ea2d 55 = .ok (.ireturn, 1) := by decide +kernel
theorem dr_cJ0_equals_9ea2d_50 : decode cJ0_equals_9ea2d 50 = .ok (.iconst 1, 1) := by decide +kernel
theorem dr_cJ0_equals_9ea2d_51 : decode cJ0_equals_9ea2d 51 = .ok (.goto 4, 3) := by decide +kernel
abbrev ky_656860_StringBuilder_append : gKey := (cJ4_append_15ec4, 2, "java/lang/StringBuilder", (some (FieldType.object "java/lang/StringBuilder")), [], "append", fun _ _ => True)
def pp_656860_StringBuilder_append (D : va_G) (I : FieldType → ClassId) (P656845 : List Nat) (F656846 : Nat → va_E) (q656847 : Nat) (q656848 : Nat) (qs656849 : Nat) (qb656850 : Nat) (bs656851 : List Int32) (p656852 : Int32) (p656853 : Int32) (f656854 : Nat → Int32) (n656855 : Nat) : Option Value → va_W → Nat → Nat → Prop := fun r w dc ds => ∃ (P656973 : List Nat) (F656974 : Nat → va_E) (o656969 : Int32) (q656970 : Nat) (n656971 : Nat) (f656972 : Nat → Int32), r = some (.ref q656847) ∧ w = va_pl P656973 F656974 ∧ rSub P656845 P656973 ∧ rFr [q656847, q656848] P656845 F656846 F656974 ∧ F656974 q656847 = .inr (1, [.ref q656970, .int 0, .int p656852, .int o656969]) ∧ F656974 q656970 = .inl (I .byte, n656971, .inl f656972) ∧ q656970 ∈ P656973 ∧ (q656970 = q656848 ∨ q656970 ∉ P656845) ∧ dc ≤ 1 ∧ ds ≤ 2 * (n656971 - n656855) ∧ gB o656969 0 16777216 ∧ gF f656972 (-128) 127 ∧ o656969.toInt = p656853.toInt + (bs656851.length : Int) ∧ o656969.toInt ≤ (n656971 : Int) ∧ (n656855 : Int) ≤ (n656971 : Int) ∧ (n656971 : Int) ≤ 2 * (n656855 : Int) + 2 + p656853.toInt + (bs656851.length : Int) ∧ ((n656971 : Int) = (n656855 : Int) ∨ (n656855 : Int) < o656969.toInt) ∧ tr_RStringBuilder_append6 bs656851 p656853 f656854 n656855 o656969 n656971 f656972
set_option maxRecDepth 100000 in
set_option maxHeartbeats 4000000 in
theorem cp_656860_StringBuilder_append (l : Launch) (hl0 : l.stackTraces = false) (D : va_G) (I : FieldType → ClassId) (P656845 : List Nat) (F656846 : Nat → va_E) (q656847 : Nat) (q656848 : Nat) (qs656849 : Nat) (qb656850 : Nat) (bs656851 : List Int32) (p656852 : Int32) (p656853 : Int32) (f656854 : Nat → Int32) (n656855 : Nat) (hmq656847 : q656847 ∈ P656845) (hmq656848 : q656848 ∈ P656845) (heq656847 : F656846 q656847 = .inr (1, [.ref q656848, .int 0, .int p656852, .int p656853])) (heq656848 : F656846 q656848 = .inl (I .byte, n656855, .inl f656854)) (hbs656851 : ∀ A s H, (gV D I).2.2.2.1 A s H → gSC qs656849 qb656850 bs656851 A s H) (nbs656851 : (bs656851.length : Int) ≤ 65535) (lbs656851 : gLB bs656851) (bp656852 : gB p656852 0 1) (bp656853 : gB p656853 0 16777216) (bf656854 : gF f656854 (-128) 127) (x656856 : (bs656851.length : Int) ≤ 65535) (x656857 : (n656855 : Int) ≤ 8388608 - 100000) (x656858 : p656853.toInt ≤ (n656855 : Int)) (x656859 : ((n656855 : Int) ≤ 16777216)) : CtA (gV D I) l yJ4_append_15ec4 cJ4_append_15ec4 2 (some (FieldType.object "java/lang/StringBuilder")) 5 106 1 (4 * n656855 + 4 + 2 * bs656851.length) [.ref q656847, .ref qs656849] (va_pl P656845 F656846) (pp_656860_StringBuilder_append D I P656845 F656846 q656847 q656848 qs656849 qb656850 bs656851 p656852 p656853 f656854 n656855) gNA := by
  refine CtA_ofF hl0 (by decide +kernel) (Nat.le_of_ble_eq_true rfl) ?_
  refine G_aload_n 0 dr_cJ4_append_15ec4_0 rfl ?_
  refine G_aload_n 1 dr_cJ4_append_15ec4_1 rfl ?_
  refine Gw_callSU (As := [.ref qs656849]) (gV_ok D I) (cp_656876_AbstractStringBuilder_append l hl0 D I P656845 F656846 q656847 q656848 qs656849 qb656850 bs656851 p656852 p656853 f656854 n656855 hmq656847 hmq656848 heq656847 heq656848 hbs656851 nbs656851 lbs656851 bp656852 bp656853 bf656854 (by have qa0 : Int32.toInt 0 = 0 := (by decide); omega) (by have qa0 : Int32.toInt 0 = 0 := (by decide); omega) (by have qa0 : Int32.toInt 0 = 0 := (by decide); omega) (by have qa0 : Int32.toInt 0 = 0 := (by decide); omega)) dr_cJ4_append_15ec4_2 ⟨wr_8_144, wr_1_19, wr_8_146, by decide, rfl, (Nat.le_of_ble_eq_true rfl), (Nat.le_of_ble_eq_true rfl)⟩ wr_8_145 wr_11_229 wr_7_73 wr_7_44 (by decide) hmq656847 heq656847 rfl (show 0 + 1 ≤ 1 by first | omega | decide) (show 0 + (4 * n656855 + 4 + 2 * bs656851.length) ≤ (4 * n656855 + 4 + 2 * bs656851.length) by first | omega | decide) (Nat.le_of_ble_eq_true rfl) (fun r656944 w656945 dc656941 ds656942 hp656943 => ?_)
  obtain ⟨P656956, F656957, o656946, q656947, n656948, f656949, rfl, rfl, hsb656958, hfr656959, he656960, he656961, hm656962, hq656963, hdc, hds, bo656946, bf656949, x656950, x656951, x656952, x656953, x656954, ht656955⟩ := hp656943
  have hm656964 : q656847 ∈ P656956 := hsb656958 q656847 hmq656847
  have hm656965 : q656848 ∈ P656956 := hsb656958 q656848 hmq656848
  have hor656966 : q656947 = q656848 ∨ q656947 ∉ P656845 := hq656963.elim Or.inl (fun n => Or.inr (fun z => n ((rSub_rf (P := P656845)) _ z)))
  have hsb656967 : rSub P656845 P656956 := rSub_tr (rSub_rf (P := P656845)) hsb656958
  have hfr656968 : rFr [q656847, q656848] P656845 F656846 F656957 := rFr_call (rSub_rf (P := P656845)) (rFr_rf (W := []) (P := P656845) (F := F656846)) hfr656959 (fun b hb hn => ⟨nm_n, (nm_c (fun e => hn (e ▸ List.mem_cons_self)) (nm_c (fun e => hn (e ▸ (List.mem_cons_of_mem _ List.mem_cons_self))) nm_n))⟩)
  change G _ _ _ _ _ _ _ (.ref q656847 :: _) _ _ _
  refine G_widen (cs' := 1) (sl' := 2 * (n656948 - n656855)) (by omega) (by omega) ?_
  refine G_pop dr_cJ4_append_15ec4_5 rfl ?_
  refine G_aload_n 0 dr_cJ4_append_15ec4_6 rfl ?_
  exact G_aretA (FieldType.object "java/lang/StringBuilder") dr_cJ4_append_15ec4_7 rfl (by first | exact Or.inl ⟨_, rfl⟩ | exact Or.inr ⟨_, rfl⟩) (Or.inr ⟨_, rfl⟩) (Nat.le_of_ble_eq_true rfl) (show 2 * (n656948 - n656855) ≤ (4 * n656855 + 4 + 2 * bs656851.length) by omega) ⟨P656956, F656957, o656946, q656947, n656948, f656949, rfl, rfl, hsb656967, hfr656968, he656960, he656961, hm656962, hor656966, (Nat.le_of_ble_eq_true rfl), (by omega), bo656946, bf656949, (by have qa0 : Int32.toInt 0 = 0 := (by decide); omega), (by have qa0 : Int32.toInt 0 = 0 := (by decide); omega), (by have qa0 : Int32.toInt 0 = 0 := (by decide); omega), (by have qa0 : Int32.toInt 0 = 0 := (by decide); omega), (by have qa0 : Int32.toInt 0 = 0 := (by decide); omega), (fun R c1 => c1 o656946 n656948 f656949 bo656946 ht656955)⟩
abbrev ky_657039_AbstractStringBuilder_getValue : gKey := (cJ5_getValue_6d5f1, 1, "java/lang/AbstractStringBuilder", (some (FieldType.array FieldType.byte)), [], "getValue", fun _ _ => True)
def pp_657039_AbstractStringBuilder_getValue (D : va_G) (I : FieldType → ClassId) (P657030 : List Nat) (F657031 : Nat → va_E) (q657032 : Nat) (q657033 : Nat) (p657034 : Int32) (p657035 : Int32) (f657036 : Nat → Int32) (n657037 : Nat) : Option Value → va_W → Nat → Nat → Prop := fun r w dc ds => r = some (.ref q657033) ∧ w = va_pl P657030 F657031 ∧ dc ≤ 0 ∧ ds ≤ 0
set_option maxRecDepth 100000 in
set_option maxHeartbeats 4000000 in
theorem cp_657039_AbstractStringBuilder_getValue (l : Launch) (hl0 : l.stackTraces = false) (D : va_G) (I : FieldType → ClassId) (P657030 : List Nat) (F657031 : Nat → va_E) (q657032 : Nat) (q657033 : Nat) (p657034 : Int32) (p657035 : Int32) (f657036 : Nat → Int32) (n657037 : Nat) (hmq657032 : q657032 ∈ P657030) (hmq657033 : q657033 ∈ P657030) (heq657032 : F657031 q657032 = .inr (1, [.ref q657033, .int 0, .int p657034, .int p657035])) (heq657033 : F657031 q657033 = .inl (I .byte, n657037, .inl f657036)) (bp657034 : gB p657034 0 1) (bp657035 : gB p657035 0 16777216) (bf657036 : gF f657036 (-128) 127) (x657038 : ((n657037 : Int) ≤ 16777216)) : CtA (gV D I) l yJ5_getValue_6d5f1 cJ5_getValue_6d5f1 1 (some (FieldType.array FieldType.byte)) 0 0 0 0 [.ref q657032] (va_pl P657030 F657031) (pp_657039_AbstractStringBuilder_getValue D I P657030 F657031 q657032 q657033 p657034 p657035 f657036 n657037) gNA := by
  refine CtA_ofF hl0 (by decide +kernel) (Nat.le_of_ble_eq_true rfl) ?_
  refine G_aload_n 0 dr_cJ5_getValue_6d5f1_0 rfl ?_
  refine Gp_get 0 hmq657032 heq657032 dr_cJ5_getValue_6d5f1_1 (gk_J4 D I) (Nat.le_of_ble_eq_true rfl) wr_7_60 rfl ?_
  exact G_aretA (FieldType.array FieldType.byte) dr_cJ5_getValue_6d5f1_4 rfl (by first | exact Or.inl ⟨_, rfl⟩ | exact Or.inr ⟨_, rfl⟩) (Or.inr ⟨_, rfl⟩) (Nat.le_of_ble_eq_true rfl) (Nat.le_of_ble_eq_true rfl) ⟨rfl, rfl, (Nat.le_of_ble_eq_true rfl), (Nat.le_of_ble_eq_true rfl)⟩
abbrev ky_657101_Arrays_checkLength : gKey := (cJ7_checkLength_df160, 2, "java/util/Arrays", none, [], "checkLength", fun _ _ => True)
def pp_657101_Arrays_checkLength (D : va_G) (I : FieldType → ClassId) (P657098 : List Nat) (F657099 : Nat → va_E) (p657100 : Int32) : Option Value → va_W → Nat → Nat → Prop := fun r w dc ds => r = none ∧ w = va_pl P657098 F657099 ∧ dc ≤ 0 ∧ ds ≤ 0
set_option maxRecDepth 100000 in
set_option maxHeartbeats 4000000 in
theorem cp_657101_Arrays_checkLength (l : Launch) (hl0 : l.stackTraces = false) (D : va_G) (I : FieldType → ClassId) (P657098 : List Nat) (F657099 : Nat → va_E) (p657100 : Int32) (bp657100 : gB p657100 0 16777216) : CtA (gV D I) l yJ7_checkLength_df160 cJ7_checkLength_df160 2 none 0 0 0 0 [.int 0, .int p657100] (va_pl P657098 F657099) (pp_657101_Arrays_checkLength D I P657098 F657099 p657100) gNA := by
  refine CtA_ofF hl0 (by decide +kernel) (Nat.le_of_ble_eq_true rfl) ?_
  refine G_iload_n 1 dr_cJ7_checkLength_df160_0 rfl ?_
  refine G_iload_n 0 dr_cJ7_checkLength_df160_1 rfl ?_
  refine G_icmp_ge 37 dr_cJ7_checkLength_df160_2 (by decide +kernel) (fun _ => ?_) (fun hc => absurd (show False by have := gj_nleL hc (show Int32.toInt 0 = 0 by decide); omega) not_false)
  exact G_vretA dr_cJ7_checkLength_df160_37 rfl (Nat.le_of_ble_eq_true rfl) (Nat.le_of_ble_eq_true rfl) ⟨rfl, rfl, (Nat.le_of_ble_eq_true rfl), (Nat.le_of_ble_eq_true rfl)⟩
/- tr_RArrays_copyOfRangeByte: a.3.#, a.3.[] -/
def tr_RArrays_copyOfRangeByte (a2 : Int32) (a0_v : Nat → Int32) (a0_n : Nat) (o1 : Nat) (o2 : Nat → Int32) : Prop := ∀ R : (Nat) → (Nat → Int32) → Prop,
  (∀ (x1 : Int32) (x2 : Int32) (x3 : Int32) (x4 : Int32) (x5 : Nat → Int32), x1.toInt = a2.toInt - 0 → x2.toInt = (a0_n : Nat) → x3.toInt = x2.toInt - 0 → (x3.toInt ≥ x4.toInt ∧ x1.toInt ≥ x4.toInt ∧ (x4.toInt = x3.toInt ∨ x4.toInt = x1.toInt)) → (x5 = va_cpy a0_v (fun _ => 0) (0 : Int32).toNatClampNeg (0 : Int32).toNatClampNeg x4.toNatClampNeg) → R x1.toInt.toNat x5) →
  R o1 o2
abbrev ky_657097_Arrays_copyOfRangeByte : gKey := (cJ7_copyOfRangeByte_39247, 5, "java/util/Arrays", (some (FieldType.array FieldType.byte)), [], "copyOfRangeByte", fun _ _ => True)
def pp_657097_Arrays_copyOfRangeByte (D : va_G) (I : FieldType → ClassId) (P657089 : List Nat) (F657090 : Nat → va_E) (q657091 : Nat) (p657092 : Int32) (f657093 : Nat → Int32) (n657094 : Nat) : Option Value → va_W → Nat → Nat → Prop := fun r w dc ds => ∃ (P657135 : List Nat) (F657136 : Nat → va_E) (q657132 : Nat) (n657133 : Nat) (f657134 : Nat → Int32), r = some (.ref q657132) ∧ w = va_pl P657135 F657136 ∧ rSub P657089 P657135 ∧ rFr [] P657089 F657090 F657136 ∧ F657136 q657091 = .inl (I .byte, n657094, .inl f657093) ∧ F657136 q657132 = .inl (I .byte, n657133, .inl f657134) ∧ q657132 ∈ P657135 ∧ q657132 ∉ P657089 ∧ dc ≤ 1 ∧ ds ≤ p657092.toInt.toNat ∧ gF f657134 (-128) 127 ∧ (n657133 : Int) = p657092.toInt ∧ sK f657093 f657134 p657092.toInt ∧ tr_RArrays_copyOfRangeByte p657092 f657093 n657094 n657133 f657134
set_option maxRecDepth 100000 in
set_option maxHeartbeats 4000000 in
theorem cp_657097_Arrays_copyOfRangeByte (l : Launch) (hl0 : l.stackTraces = false) (D : va_G) (I : FieldType → ClassId) (P657089 : List Nat) (F657090 : Nat → va_E) (q657091 : Nat) (p657092 : Int32) (f657093 : Nat → Int32) (n657094 : Nat) (hmq657091 : q657091 ∈ P657089) (heq657091 : F657090 q657091 = .inl (I .byte, n657094, .inl f657093)) (bp657092 : gB p657092 0 16777216) (bf657093 : gF f657093 (-128) 127) (x657095 : p657092.toInt ≤ (n657094 : Int)) (x657096 : ((n657094 : Int) ≤ 16777216)) : CtA (gV D I) l yJ7_copyOfRangeByte_39247 cJ7_copyOfRangeByte_39247 5 (some (FieldType.array FieldType.byte)) 1 21 1 p657092.toInt.toNat [.ref q657091, .int 0, .int p657092] (va_pl P657089 F657090) (pp_657097_Arrays_copyOfRangeByte D I P657089 F657090 q657091 p657092 f657093 n657094) gNA := by
  refine CtA_ofF hl0 (by decide +kernel) (Nat.le_of_ble_eq_true rfl) ?_
  refine G_iload_n 1 dr_cJ7_copyOfRangeByte_39247_0 rfl ?_
  refine G_iload_n 2 dr_cJ7_copyOfRangeByte_39247_1 rfl ?_
  refine Gw_callS (As := [.int 0, .int p657092]) (gV_ok D I) (cp_657101_Arrays_checkLength l hl0 D I P657089 F657090 p657092 bp657092) dr_cJ7_copyOfRangeByte_39247_2 ⟨wr_8_99, wr_1_30, wr_8_101, by decide, rfl, (Nat.le_of_ble_eq_true rfl), (Nat.le_of_ble_eq_true rfl)⟩ wr_8_100 (show 0 + 0 ≤ 1 by first | omega | decide) (show 0 + 0 ≤ p657092.toInt.toNat by first | omega | decide) (Nat.le_of_ble_eq_true rfl) (fun r657105 w657106 dc657102 ds657103 hp657104 => ?_) (fun _ _ _ _ _ z => z.elim)
  obtain ⟨rfl, rfl, hdc, hds⟩ := hp657104
  change G _ _ _ _ _ _ _ _ _ _ _
  refine G_widen (cs' := 0) (sl' := 0) (by omega) (by omega) ?_
  refine G_iload_n 2 dr_cJ7_copyOfRangeByte_39247_5 rfl ?_
  refine G_iload_n 1 dr_cJ7_copyOfRangeByte_39247_6 rfl ?_
  refine G_isub dr_cJ7_copyOfRangeByte_39247_7 (G_nam fun z657107 hz657107 => ?_)
  have ez657107 : z657107.toInt = p657092.toInt - 0 := by rw [gI_sub hz657107 bp657092 (gBl (show Int32.toInt 0 = 0 by decide)) (by decide) (by decide), show Int32.toInt 0 = 0 from by decide]
  have bz657107 : gB z657107 0 16777216 := gB_sub (gI_sub hz657107 bp657092 (gBl (show Int32.toInt 0 = 0 by decide)) (by decide) (by decide)) bp657092 (gBl (show Int32.toInt 0 = 0 by decide)) (by decide) (by decide)
  refine G_istore_n (L' := [(3, .int z657107), (0, .ref q657091), (1, .int 0), (2, .int p657092)]) dr_cJ7_copyOfRangeByte_39247_8 (Nat.le_of_ble_eq_true rfl) rfl ?_
  refine G_iload_n 0 dr_cJ7_copyOfRangeByte_39247_9 rfl ?_
  refine G_newa 1 (z657107.toInt.toNat, .inl (fun _ => 0)) dr_cJ7_copyOfRangeByte_39247_10 rfl rfl (by intro C h; cases h) wr_1_66 (fun _ => ga_byte _ _) (g_n0 (by omega)) rfl (show z657107.toInt.toNat * 1 ≤ 536870912 by omega) (show 0 + 1 ≤ 1 by first | omega | decide) (show 0 + z657107.toInt.toNat ≤ p657092.toInt.toNat by first | omega | decide) (fun q657108 => Gp_in (fun P657109 F657110 hq657111 hP657112 e657113 n657114 => ?_))
  refine G_widen (cs' := 1) (sl' := z657107.toInt.toNat) (by omega) (by omega) ?_
  have he657115 : F657110 q657091 = .inl (I .byte, n657094, .inl f657093) := (n657114 q657091 (fun h => hq657111 (h ▸ hmq657091))).trans heq657091
  have he657116 : F657110 q657108 = .inl (I .byte, z657107.toInt.toNat, .inl (fun _ => 0)) := e657113
  have hm657117 : q657091 ∈ P657109 := (hP657112 q657091).mpr (Or.inl hmq657091)
  have hm657118 : q657108 ∈ P657109 := (hP657112 q657108).mpr (Or.inr rfl)
  have hq657119 : q657108 ∉ P657089 := fun z => hq657111 ((rSub_rf (P := P657089)) q657108 z)
  have hfr657120 : rFr [] P657089 F657090 F657110 := rFr_new (rSub_rf (P := P657089)) hq657111 (rFr_rf (W := []) (P := P657089) (F := F657090)) n657114
  have hsb657121 : rSub P657089 P657109 := rSub_new (rSub_rf (P := P657089)) hP657112
  refine G_astore (L' := [(4, .ref q657108), (3, .int z657107), (0, .ref q657091), (1, .int 0), (2, .int p657092)]) dr_cJ7_copyOfRangeByte_39247_12 (Nat.le_of_ble_eq_true rfl) rfl ?_
  refine G_aload_n 2 dr_cJ7_copyOfRangeByte_39247_14 rfl ?_
  refine G_iload_n 3 dr_cJ7_copyOfRangeByte_39247_15 rfl ?_
  refine G_aload 0 dr_cJ7_copyOfRangeByte_39247_16 rfl ?_
  refine G_iconst 0 dr_cJ7_copyOfRangeByte_39247_18 (by decide +kernel) ?_
  refine G_aload_n 2 dr_cJ7_copyOfRangeByte_39247_19 rfl ?_
  refine Gp_alen (Int32.ofNat n657094) 1 hm657117 he657115 dr_cJ7_copyOfRangeByte_39247_20 rfl rfl (G_nam fun z657122 hz657122 => ?_)
  have ez657122 : z657122.toInt = (n657094 : Nat) := gI_ofM hz657122 (by omega)
  have bz657122 : gB z657122 0 16777216 := ⟨by omega, by omega⟩
  refine G_iload_n 3 dr_cJ7_copyOfRangeByte_39247_21 rfl ?_
  refine G_isub dr_cJ7_copyOfRangeByte_39247_22 (G_nam fun z657123 hz657123 => ?_)
  have ez657123 : z657123.toInt = z657122.toInt - 0 := by rw [gI_sub hz657123 bz657122 (gBl (show Int32.toInt 0 = 0 by decide)) (by decide) (by decide), show Int32.toInt 0 = 0 from by decide]
  have bz657123 : gB z657123 0 16777216 := gB_sub (gI_sub hz657123 bz657122 (gBl (show Int32.toInt 0 = 0 by decide)) (by decide) (by decide)) bz657122 (gBl (show Int32.toInt 0 = 0 by decide)) (by decide) (by decide)
  refine G_iload_n 1 dr_cJ7_copyOfRangeByte_39247_23 rfl ?_
  refine G_mmin dr_cJ7_copyOfRangeByte_39247_24 wr_8_31 wr_3_227 wr_1_6 wr_3_228 (Nat.le_of_ble_eq_true rfl) (Nat.le_of_ble_eq_true rfl) (show 1 ≤ 1 by first | omega | decide) (show z657107.toInt.toNat ≤ p657092.toInt.toNat by first | omega | decide) (G_nam fun z657124 hz657124 => ?_)
  have ez657124 : z657123.toInt ≥ z657124.toInt ∧ z657107.toInt ≥ z657124.toInt ∧ (z657124.toInt = z657123.toInt ∨ z657124.toInt = z657107.toInt) := by have := gI_min hz657124; omega
  have bz657124 : gB z657124 0 16777216 := ⟨by omega, by omega⟩
  refine Gp_copyp 1 hm657117 hm657118 he657115 he657116 dr_cJ7_copyOfRangeByte_39247_27 wr_8_32 wr_5_113 wr_5_112 wr_1_34 rfl rfl (fun j => gT_byte (bf657093 j)) (by decide) (by decide) (by omega) (by have qa0 : Int32.toInt 0 = 0 := (by decide); omega) (by have qa0 : Int32.toInt 0 = 0 := (by decide); omega) (Nat.le_of_ble_eq_true rfl) (Nat.le_of_ble_eq_true rfl) (fun F657125 e657126 n657127 => ?_)
  obtain ⟨f657128, hf657128⟩ : ∃ z, z = va_cpy f657093 (fun _ => 0) (0 : Int32).toNatClampNeg (0 : Int32).toNatClampNeg z657124.toNatClampNeg := ⟨_, rfl⟩
  rw [← hf657128] at e657126
  have bf657128 : gF f657128 (-128) 127 := gF_cpy hf657128 bf657093 (gF_w gF_0 (by decide) (by decide))
  have he657129 : F657125 q657091 = .inl (I .byte, n657094, .inl f657093) := (n657127 q657091 (fun h => hq657119 (h ▸ hmq657091))).trans he657115
  have he657130 : F657125 q657108 = .inl (I .byte, z657107.toInt.toNat, .inl f657128) := e657126
  have hfr657131 : rFr [] P657089 F657090 F657125 := rFr_newp hq657119 hfr657120 n657127
  refine G_aload 0 dr_cJ7_copyOfRangeByte_39247_30 rfl ?_
  exact G_aretA (FieldType.array FieldType.byte) dr_cJ7_copyOfRangeByte_39247_32 rfl (by first | exact Or.inl ⟨_, rfl⟩ | exact Or.inr ⟨_, rfl⟩) (Or.inr ⟨_, rfl⟩) (Nat.le_of_ble_eq_true rfl) (show z657107.toInt.toNat ≤ p657092.toInt.toNat by omega) ⟨P657109, F657125, q657108, z657107.toInt.toNat, f657128, rfl, rfl, hsb657121, hfr657131, he657129, he657130, hm657118, hq657119, (Nat.le_of_ble_eq_true rfl), (by omega), bf657128, (by have qa0 : Int32.toInt 0 = 0 := (by decide); omega), (sK_cp2 hf657128 (by decide) (by decide) (by omega)), (fun R c1 => c1 z657107 z657122 z657123 z657124 f657128 ez657107 ez657122 ez657123 ez657124 hf657128)⟩
/- tr_RArrays_copyOfRange: a.3.#, a.3.[] -/
def tr_RArrays_copyOfRange (a2 : Int32) (a0_v : Nat → Int32) (a0_n : Nat) (o1 : Nat) (o2 : Nat → Int32) : Prop := ∀ R : (Nat) → (Nat → Int32) → Prop,
  (∀ (x1 : Int32), x1.toInt = (a0_n : Nat) → a2.toInt = x1.toInt → R a0_n a0_v) →
  (∀ (x1 : Int32) (x2 : Nat) (x3 : Nat → Int32), x1.toInt = (a0_n : Nat) → a2.toInt ≠ x1.toInt → tr_RArrays_copyOfRangeByte a2 a0_v a0_n x2 x3 → R x2 x3) →
  R o1 o2
abbrev ky_657070_Arrays_copyOfRange : gKey := (cJ7_copyOfRange_39247, 3, "java/util/Arrays", (some (FieldType.array FieldType.byte)), [], "copyOfRange", fun _ _ => True)
def pp_657070_Arrays_copyOfRange (D : va_G) (I : FieldType → ClassId) (P657062 : List Nat) (F657063 : Nat → va_E) (q657064 : Nat) (p657065 : Int32) (f657066 : Nat → Int32) (n657067 : Nat) : Option Value → va_W → Nat → Nat → Prop := fun r w dc ds => ∃ (P657163 : List Nat) (F657164 : Nat → va_E) (q657160 : Nat) (n657161 : Nat) (f657162 : Nat → Int32), r = some (.ref q657160) ∧ w = va_pl P657163 F657164 ∧ rSub P657062 P657163 ∧ rFr [] P657062 F657063 F657164 ∧ F657164 q657064 = .inl (I .byte, n657067, .inl f657066) ∧ F657164 q657160 = .inl (I .byte, n657161, .inl f657162) ∧ q657160 ∈ P657163 ∧ q657160 ∉ P657062 ∧ dc ≤ 1 ∧ ds ≤ p657065.toInt.toNat ∧ gF f657162 (-128) 127 ∧ (n657161 : Int) = p657065.toInt ∧ sK f657066 f657162 p657065.toInt ∧ tr_RArrays_copyOfRange p657065 f657066 n657067 n657161 f657162
set_option maxRecDepth 100000 in
set_option maxHeartbeats 4000000 in
theorem cp_657070_Arrays_copyOfRange (l : Launch) (hl0 : l.stackTraces = false) (D : va_G) (I : FieldType → ClassId) (P657062 : List Nat) (F657063 : Nat → va_E) (q657064 : Nat) (p657065 : Int32) (f657066 : Nat → Int32) (n657067 : Nat) (hmq657064 : q657064 ∈ P657062) (heq657064 : F657063 q657064 = .inl (I .byte, n657067, .inl f657066)) (bp657065 : gB p657065 0 16777216) (bf657066 : gF f657066 (-128) 127) (x657068 : p657065.toInt ≤ (n657067 : Int)) (x657069 : ((n657067 : Int) ≤ 16777216)) : CtA (gV D I) l yJ7_copyOfRange_39247 cJ7_copyOfRange_39247 3 (some (FieldType.array FieldType.byte)) 2 45 1 p657065.toInt.toNat [.ref q657064, .int 0, .int p657065] (va_pl P657062 F657063) (pp_657070_Arrays_copyOfRange D I P657062 F657063 q657064 p657065 f657066 n657067) gNA := by
  refine CtA_ofF hl0 (by decide +kernel) (Nat.le_of_ble_eq_true rfl) ?_
  refine G_iload_n 1 dr_cJ7_copyOfRange_39247_0 rfl ?_
  refine G_if_ne 10 dr_cJ7_copyOfRange_39247_1 (by decide +kernel) (fun hc => absurd hc (by decide)) (fun _ => ?_)
  refine G_iload_n 2 dr_cJ7_copyOfRange_39247_4 rfl ?_
  refine G_aload_n 0 dr_cJ7_copyOfRange_39247_5 rfl ?_
  refine Gp_alen (Int32.ofNat n657067) 1 hmq657064 heq657064 dr_cJ7_copyOfRange_39247_6 rfl rfl (G_nam fun z657071 hz657071 => ?_)
  have ez657071 : z657071.toInt = (n657067 : Nat) := gI_ofM hz657071 (by omega)
  have bz657071 : gB z657071 0 16777216 := ⟨by omega, by omega⟩
  refine G_icmp_eq 17 dr_cJ7_copyOfRange_39247_7 (by decide +kernel) (fun hc657072 => ?_) (fun hc657072 => ?_)
  · have r657073 : p657065.toInt = z657071.toInt := gC_eq hc657072
    refine G_aload_n 0 dr_cJ7_copyOfRange_39247_17 rfl ?_
    refine Gp_clone 1 hmq657064 heq657064 rfl dr_cJ7_copyOfRange_39247_18 wr_8_24 wr_8_25 wr_8_26 wr_8_27 wr_8_28 (fun _ _ _ h => gn_w 76 rfl h) bf657066 (Nat.le_of_ble_eq_true rfl) (Nat.le_of_ble_eq_true rfl) (show 0 + 1 ≤ 1 by first | omega | decide) (show 0 + n657067 ≤ p657065.toInt.toNat by first | omega | decide) (fun q657074 P657075 F657076 hq657077 hP657078 e657079 n657080 => ?_)
    refine G_widen (cs' := 1) (sl' := n657067) (by omega) (by omega) ?_
    have he657081 : F657076 q657064 = .inl (I .byte, n657067, .inl f657066) := (n657080 q657064 (fun h => hq657077 (h ▸ hmq657064))).trans heq657064
    have he657082 : F657076 q657074 = .inl (I .byte, n657067, .inl f657066) := e657079
    have hm657083 : q657064 ∈ P657075 := (hP657078 q657064).mpr (Or.inl hmq657064)
    have hm657084 : q657074 ∈ P657075 := (hP657078 q657074).mpr (Or.inr rfl)
    have hq657085 : q657074 ∉ P657062 := fun z => hq657077 ((rSub_rf (P := P657062)) q657074 z)
    have hfr657086 : rFr [] P657062 F657063 F657076 := rFr_new (rSub_rf (P := P657062)) hq657077 (rFr_rf (W := []) (P := P657062) (F := F657063)) n657080
    have hsb657087 : rSub P657062 P657075 := rSub_new (rSub_rf (P := P657062)) hP657078
    refine Gp_casA 1 hm657084 he657082 rfl dr_cJ7_copyOfRange_39247_21 wr_8_30 ?_
    exact G_aretA (FieldType.array FieldType.byte) dr_cJ7_copyOfRange_39247_24 rfl (by first | exact Or.inl ⟨_, rfl⟩ | exact Or.inr ⟨_, rfl⟩) (Or.inr ⟨_, rfl⟩) (Nat.le_of_ble_eq_true rfl) (show n657067 ≤ p657065.toInt.toNat by omega) ⟨P657075, F657076, q657074, n657067, f657066, rfl, rfl, hsb657087, hfr657086, he657081, he657082, hm657084, hq657085, (Nat.le_of_ble_eq_true rfl), (by omega), bf657066, (by have qa0 : Int32.toInt 0 = 0 := (by decide); omega), sK_rf, (fun R c1 c2 => c1 z657071 ez657071 r657073)⟩
  · have r657088 : p657065.toInt ≠ z657071.toInt := gC_ne hc657072
    refine G_aload_n 0 dr_cJ7_copyOfRange_39247_10 rfl ?_
    refine G_iload_n 1 dr_cJ7_copyOfRange_39247_11 rfl ?_
    refine G_iload_n 2 dr_cJ7_copyOfRange_39247_12 rfl ?_
    refine Gw_callS (As := [.ref q657064, .int 0, .int p657065]) (gV_ok D I) (cp_657097_Arrays_copyOfRangeByte l hl0 D I P657062 F657063 q657064 p657065 f657066 n657067 hmq657064 heq657064 bp657065 bf657066 (by have qa0 : Int32.toInt 0 = 0 := (by decide); omega) (by have qa0 : Int32.toInt 0 = 0 := (by decide); omega)) dr_cJ7_copyOfRange_39247_13 ⟨wr_8_96, wr_1_30, wr_8_98, by decide, rfl, (Nat.le_of_ble_eq_true rfl), (Nat.le_of_ble_eq_true rfl)⟩ wr_8_97 (show 0 + 1 ≤ 1 by first | omega | decide) (show 0 + p657065.toInt.toNat ≤ p657065.toInt.toNat by first | omega | decide) (Nat.le_of_ble_eq_true rfl) (fun r657140 w657141 dc657137 ds657138 hp657139 => ?_) (fun _ _ _ _ _ z => z.elim)
    obtain ⟨P657148, F657149, q657142, n657143, f657144, rfl, rfl, hsb657150, hfr657151, he657152, he657153, hm657154, hq657155, hdc, hds, bf657144, x657145, x657146, ht657147⟩ := hp657139
    have hm657156 : q657064 ∈ P657148 := hsb657150 q657064 hmq657064
    have hq657157 : q657142 ∉ P657062 := fun z => hq657155 ((rSub_rf (P := P657062)) q657142 z)
    have hsb657158 : rSub P657062 P657148 := rSub_tr (rSub_rf (P := P657062)) hsb657150
    have hfr657159 : rFr [] P657062 F657063 F657149 := rFr_call (rSub_rf (P := P657062)) (rFr_rf (W := []) (P := P657062) (F := F657063)) hfr657151 (fun b hb hn => ⟨nm_n, nm_n⟩)
    change G _ _ _ _ _ _ _ (.ref q657142 :: _) _ _ _
    refine G_widen (cs' := 1) (sl' := p657065.toInt.toNat) (by omega) (by omega) ?_
    exact G_aretA (FieldType.array FieldType.byte) dr_cJ7_copyOfRange_39247_16 rfl (by first | exact Or.inl ⟨_, rfl⟩ | exact Or.inr ⟨_, rfl⟩) (Or.inr ⟨_, rfl⟩) (Nat.le_of_ble_eq_true rfl) (show p657065.toInt.toNat ≤ p657065.toInt.toNat by omega) ⟨P657148, F657149, q657142, n657143, f657144, rfl, rfl, hsb657158, hfr657159, he657152, he657153, hm657154, hq657157, (Nat.le_of_ble_eq_true rfl), (by omega), bf657144, (by have qa0 : Int32.toInt 0 = 0 := (by decide); omega), (sK_c x657146 (by omega)), (fun R c1 c2 => c2 z657071 n657143 f657144 ez657071 r657088 ht657147)⟩
/- tr_RString_init2: a.0.value.#, a.0.value.[] -/
def tr_RString_init2 (a1_count : Int32) (a1_value_v : Nat → Int32) (a1_value_n : Nat) (o1 : Nat) (o2 : Nat → Int32) : Prop := ∀ R : (Nat) → (Nat → Int32) → Prop,
  (∀ (x1 : Nat) (x2 : Nat → Int32), tr_RArrays_copyOfRange a1_count a1_value_v a1_value_n x1 x2 → R x1 x2) →
  R o1 o2
abbrev ky_657029_String_init : gKey := (cJ0_init_db425, 5, "java/lang/String", none, [], "<init>", fun _ _ => True)
def pp_657029_String_init (D : va_G) (I : FieldType → ClassId) (P657016 : List Nat) (F657017 : Nat → va_E) (q657018 : Nat) (q657019 : Nat) (q657020 : Nat) (p657021 : Int32) (p657022 : Int32) (p657023 : Int32) (p657024 : Int32) (f657025 : Nat → Int32) (n657026 : Nat) : Option Value → va_W → Nat → Nat → Prop := fun r w dc ds => ∃ (P657203 : List Nat) (F657204 : Nat → va_E) (q657200 : Nat) (n657201 : Nat) (f657202 : Nat → Int32), r = none ∧ w = va_pl P657203 F657204 ∧ rSub P657016 P657203 ∧ rFr [q657018] P657016 F657017 F657204 ∧ F657204 q657018 = .inr (0, [.ref q657200, .int 0, .int p657021, .int p657022]) ∧ F657204 q657019 = .inr (1, [.ref q657020, .int 0, .int p657023, .int p657024]) ∧ F657204 q657020 = .inl (I .byte, n657026, .inl f657025) ∧ F657204 q657200 = .inl (I .byte, n657201, .inl f657202) ∧ q657200 ∈ P657203 ∧ q657200 ∉ P657016 ∧ dc ≤ 1 ∧ ds ≤ p657024.toInt.toNat ∧ gF f657202 (-128) 127 ∧ (n657201 : Int) = p657024.toInt ∧ sK f657025 f657202 p657024.toInt ∧ tr_RString_init2 p657024 f657025 n657026 n657201 f657202
set_option maxRecDepth 100000 in
set_option maxHeartbeats 4000000 in
theorem cp_657029_String_init (l : Launch) (hl0 : l.stackTraces = false) (D : va_G) (I : FieldType → ClassId) (P657016 : List Nat) (F657017 : Nat → va_E) (q657018 : Nat) (q657019 : Nat) (q657020 : Nat) (p657021 : Int32) (p657022 : Int32) (p657023 : Int32) (p657024 : Int32) (f657025 : Nat → Int32) (n657026 : Nat) (hmq657018 : q657018 ∈ P657016) (hmq657019 : q657019 ∈ P657016) (hmq657020 : q657020 ∈ P657016) (heq657018 : F657017 q657018 = .inr (0, [.null, .int 0, .int p657021, .int p657022])) (heq657019 : F657017 q657019 = .inr (1, [.ref q657020, .int 0, .int p657023, .int p657024])) (heq657020 : F657017 q657020 = .inl (I .byte, n657026, .inl f657025)) (bp657022 : gB p657022 0 1) (bp657023 : gB p657023 0 1) (bp657024 : gB p657024 0 16777216) (bf657025 : gF f657025 (-128) 127) (x657027 : p657024.toInt ≤ (n657026 : Int)) (x657028 : ((n657026 : Int) ≤ 16777216)) : CtA (gV D I) l yJ0_init_db425 cJ0_init_db425 5 none 3 67 1 p657024.toInt.toNat [.ref q657018, .ref q657019, .null] (va_pl P657016 F657017) (pp_657029_String_init D I P657016 F657017 q657018 q657019 q657020 p657021 p657022 p657023 p657024 f657025 n657026) gNA := by
  refine CtA_ofF hl0 (by decide +kernel) (Nat.le_of_ble_eq_true rfl) ?_
  have bp657021 := gB_any p657021
  refine G_aload_n 0 dr_cJ0_init_db425_0 rfl ?_
  refine G_obj dr_cJ0_init_db425_1 wr_8_78 wr_1_51 wr_1_52 (Nat.le_of_ble_eq_true rfl) (Nat.le_of_ble_eq_true rfl) ?_
  refine G_aload_n 1 dr_cJ0_init_db425_4 rfl ?_
  refine Gw_callVB (As := []) (gV_ok D I) (cp_657039_AbstractStringBuilder_getValue l hl0 D I P657016 F657017 q657019 q657020 p657023 p657024 f657025 n657026 hmq657019 hmq657020 heq657019 heq657020 bp657023 bp657024 bf657025 (by have qa0 : Int32.toInt 0 = 0 := (by decide); omega)) dr_cJ0_init_db425_5 ⟨wr_8_79, wr_1_19, wr_8_83, by decide, rfl, (Nat.le_of_ble_eq_true rfl), (Nat.le_of_ble_eq_true rfl)⟩ wr_8_80 wr_8_82 hmq657019 heq657019 rfl (show 0 + 0 ≤ 1 by first | omega | decide) (show 0 + 0 ≤ p657024.toInt.toNat by first | omega | decide) (Nat.le_of_ble_eq_true rfl) (fun r657043 w657044 dc657040 ds657041 hp657042 => ?_) (fun _ _ _ _ _ z => z.elim)
  obtain ⟨rfl, rfl, hdc, hds⟩ := hp657042
  change G _ _ _ _ _ _ _ (.ref q657020 :: _) _ _ _
  refine G_widen (cs' := 0) (sl' := 0) (by omega) (by omega) ?_
  refine G_astore_n (L' := [(3, .ref q657020), (0, .ref q657018), (1, .ref q657019), (2, .null)]) dr_cJ0_init_db425_8 (Nat.le_of_ble_eq_true rfl) rfl ?_
  refine G_aload_n 2 dr_cJ0_init_db425_9 rfl ?_
  refine Gw_callVU (As := []) (owner := "java/lang/AbstractStringBuilder") (gV_ok D I) (cp_655668_StringBuilder_length l hl0 D I P657016 F657017 q657019 q657020 p657023 p657024 f657025 n657026 hmq657019 hmq657020 heq657019 heq657020 bp657023 bp657024 bf657025 (by have qa0 : Int32.toInt 0 = 0 := (by decide); omega)) dr_cJ0_init_db425_10 ⟨wr_8_84, wr_8_86, wr_8_85, wr_8_91, wr_8_87, wr_8_88, wr_1_20, wr_8_89, by decide, rfl, (Nat.le_of_ble_eq_true rfl), (Nat.le_of_ble_eq_true rfl)⟩ hmq657019 heq657019 rfl (show 0 + 0 ≤ 1 by first | omega | decide) (show 0 + 0 ≤ p657024.toInt.toNat by first | omega | decide) (Nat.le_of_ble_eq_true rfl) (fun r657048 w657049 dc657045 ds657046 hp657047 => ?_) (fun _ _ _ _ _ z => z.elim)
  obtain ⟨rfl, rfl, hdc, hds⟩ := hp657047
  change G _ _ _ _ _ _ _ (.int p657024 :: _) _ _ _
  refine G_widen (cs' := 0) (sl' := 0) (by omega) (by omega) ?_
  refine G_istore (L' := [(4, .int p657024), (3, .ref q657020), (0, .ref q657018), (1, .ref q657019), (2, .null)]) dr_cJ0_init_db425_13 (Nat.le_of_ble_eq_true rfl) rfl ?_
  refine G_aload_n 3 dr_cJ0_init_db425_15 rfl ?_
  refine Gw_callVB (As := []) (gV_ok D I) (cp_655818_AbstractStringBuilder_isLatin1 l hl0 D I P657016 F657017 q657019 q657020 p657023 p657024 f657025 n657026 hmq657019 hmq657020 heq657019 heq657020 bp657023 bp657024 bf657025 (by have qa0 : Int32.toInt 0 = 0 := (by decide); omega)) dr_cJ0_init_db425_16 ⟨wr_8_92, wr_1_19, wr_8_37, by decide, rfl, (Nat.le_of_ble_eq_true rfl), (Nat.le_of_ble_eq_true rfl)⟩ wr_8_34 wr_8_36 hmq657019 heq657019 rfl (show 0 + 0 ≤ 1 by first | omega | decide) (show 0 + 0 ≤ p657024.toInt.toNat by first | omega | decide) (Nat.le_of_ble_eq_true rfl) (fun r657053 w657054 dc657050 ds657051 hp657052 => ?_) (fun _ _ _ _ _ z => z.elim)
  obtain ⟨rfl, rfl, hdc, hds⟩ := hp657052
  change G _ _ _ _ _ _ _ (.int 1 :: _) _ _ _
  refine G_widen (cs' := 0) (sl' := 0) (by omega) (by omega) ?_
  refine G_if_eq 41 dr_cJ0_init_db425_19 (by decide +kernel) (fun hc => absurd hc (by decide)) (fun _ => ?_)
  refine G_aload_n 2 dr_cJ0_init_db425_22 rfl ?_
  refine G_iconst 0 dr_cJ0_init_db425_23 (by decide +kernel) ?_
  refine Gp_putF 1 hmq657018 heq657018 dr_cJ0_init_db425_24 (gk_J0 D I) (Nat.le_of_ble_eq_true rfl) wr_8_183 rfl rfl rfl rfl rfl (Nat.le_of_ble_eq_true rfl) (fun F657055 e657056 n657057 => ?_)
  have he657058 : F657055 q657019 = .inr (1, [.ref q657020, .int 0, .int p657023, .int p657024]) := (n657057 q657019 (rn_oo heq657019 heq657018 (by decide))).trans heq657019
  have he657059 : F657055 q657020 = .inl (I .byte, n657026, .inl f657025) := (n657057 q657020 (rn_ao heq657020 heq657018)).trans heq657020
  have he657060 : F657055 q657018 = .inr (0, [.null, .int 0, .int p657021, .int p657022]) := e657056
  have hfr657061 : rFr [q657018] P657016 F657017 F657055 := rFr_put (rFr_rf (W := []) (P := P657016) (F := F657017)) n657057
  refine G_aload_n 2 dr_cJ0_init_db425_27 rfl ?_
  refine G_aload_n 1 dr_cJ0_init_db425_28 rfl ?_
  refine G_iconst 0 dr_cJ0_init_db425_29 (by decide +kernel) ?_
  refine G_iload 0 dr_cJ0_init_db425_30 rfl ?_
  refine Gw_callS (As := [.ref q657020, .int 0, .int p657024]) (gV_ok D I) (cp_657070_Arrays_copyOfRange l hl0 D I P657016 F657055 q657020 p657024 f657025 n657026 hmq657020 he657059 bp657024 bf657025 (by have qa0 : Int32.toInt 0 = 0 := (by decide); omega) (by have qa0 : Int32.toInt 0 = 0 := (by decide); omega)) dr_cJ0_init_db425_32 ⟨wr_8_93, wr_1_30, wr_8_95, by decide, rfl, (Nat.le_of_ble_eq_true rfl), (Nat.le_of_ble_eq_true rfl)⟩ wr_8_94 (show 0 + 1 ≤ 1 by first | omega | decide) (show 0 + p657024.toInt.toNat ≤ p657024.toInt.toNat by first | omega | decide) (Nat.le_of_ble_eq_true rfl) (fun r657168 w657169 dc657165 ds657166 hp657167 => ?_) (fun _ _ _ _ _ z => z.elim)
  obtain ⟨P657176, F657177, q657170, n657171, f657172, rfl, rfl, hsb657178, hfr657179, he657180, he657181, hm657182, hq657183, hdc, hds, bf657172, x657173, x657174, ht657175⟩ := hp657167
  have hm657184 : q657018 ∈ P657176 := hsb657178 q657018 hmq657018
  have hm657185 : q657019 ∈ P657176 := hsb657178 q657019 hmq657019
  have hm657186 : q657020 ∈ P657176 := hsb657178 q657020 hmq657020
  have hq657187 : q657170 ∉ P657016 := fun z => hq657183 ((rSub_rf (P := P657016)) q657170 z)
  have hsb657188 : rSub P657016 P657176 := rSub_tr (rSub_rf (P := P657016)) hsb657178
  have he657189 : F657177 q657018 = .inr (0, [.null, .int 0, .int p657021, .int p657022]) := (hfr657179 q657018 hmq657018 nm_n).trans he657060
  have he657190 : F657177 q657019 = .inr (1, [.ref q657020, .int 0, .int p657023, .int p657024]) := (hfr657179 q657019 hmq657019 nm_n).trans he657058
  have hfr657191 : rFr [q657018] P657016 F657017 F657177 := rFr_call (rSub_rf (P := P657016)) hfr657061 hfr657179 (fun b hb hn => ⟨(nm_c (fun e => hn (e ▸ List.mem_cons_self)) nm_n), nm_n⟩)
  change G _ _ _ _ _ _ _ (.ref q657170 :: _) _ _ _
  refine G_widen (cs' := 1) (sl' := p657024.toInt.toNat) (by omega) (by omega) ?_
  refine Gp_putF 0 hm657184 he657189 dr_cJ0_init_db425_35 (gk_J0 D I) (Nat.le_of_ble_eq_true rfl) wr_8_182 rfl rfl rfl rfl rfl (Nat.le_of_ble_eq_true rfl) (fun F657192 e657193 n657194 => ?_)
  have he657195 : F657192 q657019 = .inr (1, [.ref q657020, .int 0, .int p657023, .int p657024]) := (n657194 q657019 (rn_oo he657190 he657189 (by decide))).trans he657190
  have he657196 : F657192 q657020 = .inl (I .byte, n657026, .inl f657025) := (n657194 q657020 (rn_ao he657180 he657189)).trans he657180
  have he657197 : F657192 q657170 = .inl (I .byte, n657171, .inl f657172) := (n657194 q657170 (fun h => hq657187 (h ▸ hmq657018))).trans he657181
  have he657198 : F657192 q657018 = .inr (0, [.ref q657170, .int 0, .int p657021, .int p657022]) := e657193
  have hfr657199 : rFr [q657018] P657016 F657017 F657192 := rFr_put' List.mem_cons_self hfr657191 n657194
  refine G_goto 97 dr_cJ0_init_db425_38 (by decide +kernel) ?_
  exact G_vretA dr_cJ0_init_db425_97 rfl (Nat.le_of_ble_eq_true rfl) (show p657024.toInt.toNat ≤ p657024.toInt.toNat by omega) ⟨P657176, F657192, q657170, n657171, f657172, rfl, rfl, hsb657188, hfr657199, he657198, he657195, he657196, he657197, hm657182, hq657187, (Nat.le_of_ble_eq_true rfl), (by omega), bf657172, (by have qa0 : Int32.toInt 0 = 0 := (by decide); omega), (sK_c x657174 (by omega)), (fun R c1 => c1 n657171 f657172 ht657175)⟩
/- tr_RString_init: a.0.value.#, a.0.value.[] -/
def tr_RString_init (a1_count : Int32) (a1_value_v : Nat → Int32) (a1_value_n : Nat) (o1 : Nat) (o2 : Nat → Int32) : Prop := ∀ R : (Nat) → (Nat → Int32) → Prop,
  (∀ (x1 : Nat) (x2 : Nat → Int32), tr_RString_init2 a1_count a1_value_v a1_value_n x1 x2 → R x1 x2) →
  R o1 o2
abbrev ky_657015_String_init : gKey := (cJ0_init_81219, 2, "java/lang/String", none, [], "<init>", fun _ _ => True)
def pp_657015_String_init (D : va_G) (I : FieldType → ClassId) (P657002 : List Nat) (F657003 : Nat → va_E) (q657004 : Nat) (q657005 : Nat) (q657006 : Nat) (p657007 : Int32) (p657008 : Int32) (p657009 : Int32) (p657010 : Int32) (f657011 : Nat → Int32) (n657012 : Nat) : Option Value → va_W → Nat → Nat → Prop := fun r w dc ds => ∃ (P657235 : List Nat) (F657236 : Nat → va_E) (q657232 : Nat) (n657233 : Nat) (f657234 : Nat → Int32), r = none ∧ w = va_pl P657235 F657236 ∧ rSub P657002 P657235 ∧ rFr [q657004] P657002 F657003 F657236 ∧ F657236 q657004 = .inr (0, [.ref q657232, .int 0, .int p657007, .int p657008]) ∧ F657236 q657005 = .inr (1, [.ref q657006, .int 0, .int p657009, .int p657010]) ∧ F657236 q657006 = .inl (I .byte, n657012, .inl f657011) ∧ F657236 q657232 = .inl (I .byte, n657233, .inl f657234) ∧ q657232 ∈ P657235 ∧ q657232 ∉ P657002 ∧ dc ≤ 1 ∧ ds ≤ p657010.toInt.toNat ∧ gF f657234 (-128) 127 ∧ (n657233 : Int) = p657010.toInt ∧ sK f657011 f657234 p657010.toInt ∧ tr_RString_init p657010 f657011 n657012 n657233 f657234
set_option maxRecDepth 100000 in
set_option maxHeartbeats 4000000 in
theorem cp_657015_String_init (l : Launch) (hl0 : l.stackTraces = false) (D : va_G) (I : FieldType → ClassId) (P657002 : List Nat) (F657003 : Nat → va_E) (q657004 : Nat) (q657005 : Nat) (q657006 : Nat) (p657007 : Int32) (p657008 : Int32) (p657009 : Int32) (p657010 : Int32) (f657011 : Nat → Int32) (n657012 : Nat) (hmq657004 : q657004 ∈ P657002) (hmq657005 : q657005 ∈ P657002) (hmq657006 : q657006 ∈ P657002) (heq657004 : F657003 q657004 = .inr (0, [.null, .int 0, .int p657007, .int p657008])) (heq657005 : F657003 q657005 = .inr (1, [.ref q657006, .int 0, .int p657009, .int p657010])) (heq657006 : F657003 q657006 = .inl (I .byte, n657012, .inl f657011)) (bp657008 : gB p657008 0 1) (bp657009 : gB p657009 0 1) (bp657010 : gB p657010 0 16777216) (bf657011 : gF f657011 (-128) 127) (x657013 : p657010.toInt ≤ (n657012 : Int)) (x657014 : ((n657012 : Int) ≤ 16777216)) : CtA (gV D I) l yJ0_init_81219 cJ0_init_81219 2 none 4 91 1 p657010.toInt.toNat [.ref q657004, .ref q657005] (va_pl P657002 F657003) (pp_657015_String_init D I P657002 F657003 q657004 q657005 q657006 p657007 p657008 p657009 p657010 f657011 n657012) gNA := by
  refine CtA_ofF hl0 (by decide +kernel) (Nat.le_of_ble_eq_true rfl) ?_
  have bp657007 := gB_any p657007
  refine G_aload_n 0 dr_cJ0_init_81219_0 rfl ?_
  refine G_aload_n 1 dr_cJ0_init_81219_1 rfl ?_
  refine G_null dr_cJ0_init_81219_2 ?_
  refine Gw_callI (As := [.ref q657005, .null]) (gV_ok D I) (cp_657029_String_init l hl0 D I P657002 F657003 q657004 q657005 q657006 p657007 p657008 p657009 p657010 f657011 n657012 hmq657004 hmq657005 hmq657006 heq657004 heq657005 heq657006 bp657008 bp657009 bp657010 bf657011 (by have qa0 : Int32.toInt 0 = 0 := (by decide); omega) (by have qa0 : Int32.toInt 0 = 0 := (by decide); omega)) dr_cJ0_init_81219_3 ⟨wr_8_75, wr_1_21, wr_8_77, by decide, rfl, (Nat.le_of_ble_eq_true rfl), (Nat.le_of_ble_eq_true rfl)⟩ wr_8_76 rfl (show 0 + 1 ≤ 1 by first | omega | decide) (show 0 + p657010.toInt.toNat ≤ p657010.toInt.toNat by first | omega | decide) (Nat.le_of_ble_eq_true rfl) (fun r657208 w657209 dc657205 ds657206 hp657207 => ?_)
  obtain ⟨P657216, F657217, q657210, n657211, f657212, rfl, rfl, hsb657218, hfr657219, he657220, he657221, he657222, he657223, hm657224, hq657225, hdc, hds, bf657212, x657213, x657214, ht657215⟩ := hp657207
  have hm657226 : q657004 ∈ P657216 := hsb657218 q657004 hmq657004
  have hm657227 : q657005 ∈ P657216 := hsb657218 q657005 hmq657005
  have hm657228 : q657006 ∈ P657216 := hsb657218 q657006 hmq657006
  have hq657229 : q657210 ∉ P657002 := fun z => hq657225 ((rSub_rf (P := P657002)) q657210 z)
  have hsb657230 : rSub P657002 P657216 := rSub_tr (rSub_rf (P := P657002)) hsb657218
  have hfr657231 : rFr [q657004] P657002 F657003 F657217 := rFr_call (rSub_rf (P := P657002)) (rFr_rf (W := []) (P := P657002) (F := F657003)) hfr657219 (fun b hb hn => ⟨nm_n, (nm_c (fun e => hn (e ▸ List.mem_cons_self)) nm_n)⟩)
  change G _ _ _ _ _ _ _ _ _ _ _
  refine G_widen (cs' := 1) (sl' := p657010.toInt.toNat) (by omega) (by omega) ?_
  exact G_vretA dr_cJ0_init_81219_6 rfl (Nat.le_of_ble_eq_true rfl) (show p657010.toInt.toNat ≤ p657010.toInt.toNat by omega) ⟨P657216, F657217, q657210, n657211, f657212, rfl, rfl, hsb657230, hfr657231, he657220, he657221, he657222, he657223, hm657224, hq657229, (Nat.le_of_ble_eq_true rfl), (by omega), bf657212, (by have qa0 : Int32.toInt 0 = 0 := (by decide); omega), (sK_c x657214 (by omega)), (fun R c1 => c1 n657211 f657212 ht657215)⟩
/- tr_RStringBuilder_toString: a.1.value.#, a.1.value.[] -/
def tr_RStringBuilder_toString (a0_count : Int32) (a0_value_v : Nat → Int32) (a0_value_n : Nat) (o1 : Nat) (o2 : Nat → Int32) : Prop := ∀ R : (Nat) → (Nat → Int32) → Prop,
  (∀ (x1 : Nat) (x2 : Nat → Int32), tr_RString_init a0_count a0_value_v a0_value_n x1 x2 → R x1 x2) →
  R o1 o2
abbrev ky_656985_StringBuilder_toString : gKey := (cJ4_toString_0e30d, 1, "java/lang/StringBuilder", (some (FieldType.object "java/lang/String")), [], "toString", fun _ _ => True)
def pp_656985_StringBuilder_toString (D : va_G) (I : FieldType → ClassId) (P656975 : List Nat) (F656976 : Nat → va_E) (q656977 : Nat) (q656978 : Nat) (p656979 : Int32) (p656980 : Int32) (f656981 : Nat → Int32) (n656982 : Nat) : Option Value → va_W → Nat → Nat → Prop := fun r w dc ds => ∃ (P657268 : List Nat) (F657269 : Nat → va_E) (q657264 : Nat) (q657265 : Nat) (n657266 : Nat) (f657267 : Nat → Int32), r = some (.ref q657264) ∧ w = va_pl P657268 F657269 ∧ rSub P656975 P657268 ∧ rFr [] P656975 F656976 F657269 ∧ F657269 q657264 = .inr (0, [.ref q657265, .int 0, .int 0, .int 0]) ∧ F657269 q656977 = .inr (1, [.ref q656978, .int 0, .int p656979, .int p656980]) ∧ F657269 q656978 = .inl (I .byte, n656982, .inl f656981) ∧ F657269 q657265 = .inl (I .byte, n657266, .inl f657267) ∧ q657264 ∈ P657268 ∧ q657264 ∉ P656975 ∧ q657265 ∈ P657268 ∧ q657265 ∉ P656975 ∧ dc ≤ 2 ∧ ds ≤ p656980.toInt.toNat + 4 ∧ gF f657267 (-128) 127 ∧ (n657266 : Int) = p656980.toInt ∧ sK f656981 f657267 p656980.toInt ∧ tr_RStringBuilder_toString p656980 f656981 n656982 n657266 f657267
set_option maxRecDepth 100000 in
set_option maxHeartbeats 4000000 in
theorem cp_656985_StringBuilder_toString (l : Launch) (hl0 : l.stackTraces = false) (D : va_G) (I : FieldType → ClassId) (P656975 : List Nat) (F656976 : Nat → va_E) (q656977 : Nat) (q656978 : Nat) (p656979 : Int32) (p656980 : Int32) (f656981 : Nat → Int32) (n656982 : Nat) (hmq656977 : q656977 ∈ P656975) (hmq656978 : q656978 ∈ P656975) (heq656977 : F656976 q656977 = .inr (1, [.ref q656978, .int 0, .int p656979, .int p656980])) (heq656978 : F656976 q656978 = .inl (I .byte, n656982, .inl f656981)) (bp656979 : gB p656979 0 1) (bp656980 : gB p656980 0 16777216) (bf656981 : gF f656981 (-128) 127) (x656983 : p656980.toInt ≤ (n656982 : Int)) (x656984 : ((n656982 : Int) ≤ 16777216)) : CtA (gV D I) l yJ4_toString_0e30d cJ4_toString_0e30d 1 (some (FieldType.object "java/lang/String")) 5 112 2 (p656980.toInt.toNat + 4) [.ref q656977] (va_pl P656975 F656976) (pp_656985_StringBuilder_toString D I P656975 F656976 q656977 q656978 p656979 p656980 f656981 n656982) gNA := by
  refine CtA_ofF hl0 (by decide +kernel) (Nat.le_of_ble_eq_true rfl) ?_
  refine G_new [.null, .int 0, .int 0, .int 0] dr_cJ4_toString_0e30d_0 (gk_J0 D I) wr_8_70 wr_8_71 wr_1_21 (gfs_J0) (show 0 + 1 ≤ 2 by first | omega | decide) (show 0 + 4 ≤ (p656980.toInt.toNat + 4) by first | omega | decide) (fun q656986 => Gp_in (fun P656987 F656988 hq656989 hP656990 e656991 n656992 => ?_))
  refine G_widen (cs' := 1) (sl' := 4) (by omega) (by omega) ?_
  have he656993 : F656988 q656977 = .inr (1, [.ref q656978, .int 0, .int p656979, .int p656980]) := (n656992 q656977 (fun h => hq656989 (h ▸ hmq656977))).trans heq656977
  have he656994 : F656988 q656978 = .inl (I .byte, n656982, .inl f656981) := (n656992 q656978 (fun h => hq656989 (h ▸ hmq656978))).trans heq656978
  have he656995 : F656988 q656986 = .inr (0, [.null, .int 0, .int 0, .int 0]) := e656991
  have hm656996 : q656977 ∈ P656987 := (hP656990 q656977).mpr (Or.inl hmq656977)
  have hm656997 : q656978 ∈ P656987 := (hP656990 q656978).mpr (Or.inl hmq656978)
  have hm656998 : q656986 ∈ P656987 := (hP656990 q656986).mpr (Or.inr rfl)
  have hq656999 : q656986 ∉ P656975 := fun z => hq656989 ((rSub_rf (P := P656975)) q656986 z)
  have hfr657000 : rFr [] P656975 F656976 F656988 := rFr_new (rSub_rf (P := P656975)) hq656989 (rFr_rf (W := []) (P := P656975) (F := F656976)) n656992
  have hsb657001 : rSub P656975 P656987 := rSub_new (rSub_rf (P := P656975)) hP656990
  refine G_dup dr_cJ4_toString_0e30d_3 rfl ?_
  refine G_aload_n 0 dr_cJ4_toString_0e30d_4 rfl ?_
  refine Gw_callI (As := [.ref q656977]) (gV_ok D I) (cp_657015_String_init l hl0 D I P656987 F656988 q656986 q656977 q656978 0 0 p656979 p656980 f656981 n656982 hm656998 hm656996 hm656997 he656995 he656993 he656994 (gB_w (gBl (show Int32.toInt 0 = 0 by decide)) (by decide) (by decide)) bp656979 bp656980 bf656981 (by have qa0 : Int32.toInt 0 = 0 := (by decide); omega) (by have qa0 : Int32.toInt 0 = 0 := (by decide); omega)) dr_cJ4_toString_0e30d_5 ⟨wr_8_72, wr_1_21, wr_8_74, by decide, rfl, (Nat.le_of_ble_eq_true rfl), (Nat.le_of_ble_eq_true rfl)⟩ wr_8_73 rfl (show 1 + 1 ≤ 2 by first | omega | decide) (show 4 + p656980.toInt.toNat ≤ (p656980.toInt.toNat + 4) by first | omega | decide) (Nat.le_of_ble_eq_true rfl) (fun r657240 w657241 dc657237 ds657238 hp657239 => ?_)
  obtain ⟨P657248, F657249, q657242, n657243, f657244, rfl, rfl, hsb657250, hfr657251, he657252, he657253, he657254, he657255, hm657256, hq657257, hdc, hds, bf657244, x657245, x657246, ht657247⟩ := hp657239
  have hm657258 : q656977 ∈ P657248 := hsb657250 q656977 hm656996
  have hm657259 : q656978 ∈ P657248 := hsb657250 q656978 hm656997
  have hm657260 : q656986 ∈ P657248 := hsb657250 q656986 hm656998
  have hq657261 : q657242 ∉ P656975 := fun z => hq657257 (hsb657001 q657242 z)
  have hsb657262 : rSub P656975 P657248 := rSub_tr hsb657001 hsb657250
  have hfr657263 : rFr [] P656975 F656976 F657249 := rFr_call hsb657001 hfr657000 hfr657251 (fun b hb hn => ⟨nm_n, (nm_c (fun e => hq656999 (e ▸ hb)) nm_n)⟩)
  change G _ _ _ _ _ _ _ _ _ _ _
  refine G_widen (cs' := 2) (sl' := 4 + p656980.toInt.toNat) (by omega) (by omega) ?_
  exact G_aretA (FieldType.object "java/lang/String") dr_cJ4_toString_0e30d_8 rfl (by first | exact Or.inl ⟨_, rfl⟩ | exact Or.inr ⟨_, rfl⟩) (Or.inr ⟨_, rfl⟩) (Nat.le_of_ble_eq_true rfl) (show 4 + p656980.toInt.toNat ≤ (p656980.toInt.toNat + 4) by omega) ⟨P657248, F657249, q656986, q657242, n657243, f657244, rfl, rfl, hsb657262, hfr657263, he657252, he657253, he657254, he657255, hm657260, hq656999, hm657256, hq657261, (Nat.le_of_ble_eq_true rfl), (by omega), bf657244, (by have qa0 : Int32.toInt 0 = 0 := (by decide); omega), (sK_c x657246 (by omega)), (fun R c1 => c1 n657243 f657244 ht657247)⟩
/- tl_RStringLatin1_equals_9: l2; out:  -/
def tl_RStringLatin1_equals_9 (a0_n : Nat) (a0_v : Nat → Int32) (bs : List Int32) (s1 : Int32) (k : Nat) : Prop := ∀ R : (Int32) → Nat → Prop,
  (∀ (l2_1 : Int32) (x1 : Int32), gB l2_1 0 16777216 → x1.toInt = (a0_n : Nat) → x1.toInt ≤ l2_1.toInt → R l2_1 32) →
  (∀ (l2_1 : Int32) (x1 : Int32) (x2 : Int32) (x3 : Int32) (x4 : Int32) (k : Nat), gB l2_1 0 16777216 → x1.toInt = (a0_n : Nat) → l2_1.toInt < x1.toInt → x2 = a0_v l2_1.toNatClampNeg → gB x2 (-128) 127 → x3 = bs.getD l2_1.toNatClampNeg 0 → x2.toInt = x3.toInt → x4.toInt = l2_1.toInt + 1 → R x4 k → R l2_1 k) →
  (∀ (l2_1 : Int32) (x1 : Int32) (x2 : Int32) (x3 : Int32), gB l2_1 0 16777216 → x1.toInt = (a0_n : Nat) → l2_1.toInt < x1.toInt → x2 = a0_v l2_1.toNatClampNeg → gB x2 (-128) 127 → x3 = bs.getD l2_1.toNatClampNeg 0 → x2.toInt ≠ x3.toInt → R l2_1 24) →
  R s1 k
/- tr_RStringLatin1_equals: result -/
def tr_RStringLatin1_equals (bs : List Int32) (a0_v : Nat → Int32) (a0_n : Nat) (o1 : Int32) : Prop := ∀ R : (Int32) → Prop,
  (∀ (x1 : Int32) (x2 : Int32), x1.toInt = (a0_n : Nat) → x2.toInt = (bs.length : Int) → x1.toInt ≠ x2.toInt → R (0 : Int32)) →
  (∀ (x1 : Int32) (x2 : Int32), x1.toInt = (a0_n : Nat) → x2.toInt = (bs.length : Int) → x1.toInt = x2.toInt → tl_RStringLatin1_equals_9 a0_n a0_v bs (0 : Int32) 32 → R (1 : Int32)) →
  (∀ (x1 : Int32) (x2 : Int32), x1.toInt = (a0_n : Nat) → x2.toInt = (bs.length : Int) → x1.toInt = x2.toInt → tl_RStringLatin1_equals_9 a0_n a0_v bs (0 : Int32) 24 → R (0 : Int32)) →
  R o1
abbrev ky_657292_StringLatin1_equals : gKey := (cJ1_equals_b5fdf, 3, "java/lang/StringLatin1", (some FieldType.boolean), [], "equals", fun _ _ => True)
def pp_657292_StringLatin1_equals (D : va_G) (I : FieldType → ClassId) (P657284 : List Nat) (F657285 : Nat → va_E) (q657286 : Nat) (qs657287 : Nat) (bs657288 : List Int32) (f657289 : Nat → Int32) (n657290 : Nat) : Option Value → va_W → Nat → Nat → Prop := fun r w dc ds => ∃ (o657375 : Int32), r = some (.int o657375) ∧ w = va_pl P657284 F657285 ∧ dc ≤ 0 ∧ ds ≤ 0 ∧ gB o657375 0 1 ∧ tr_RStringLatin1_equals bs657288 f657289 n657290 o657375
set_option maxRecDepth 100000 in
set_option maxHeartbeats 4000000 in
theorem cp_657292_StringLatin1_equals (l : Launch) (hl0 : l.stackTraces = false) (D : va_G) (I : FieldType → ClassId) (P657284 : List Nat) (F657285 : Nat → va_E) (q657286 : Nat) (qs657287 : Nat) (bs657288 : List Int32) (f657289 : Nat → Int32) (n657290 : Nat) (hmq657286 : q657286 ∈ P657284) (heq657286 : F657285 q657286 = .inl (I .byte, n657290, .inl f657289)) (hbs657288 : ∀ A s H, (gV D I).2.2.2.1 A s H → va_T .byte qs657287 bs657288.length (fun j => .int (bs657288.getD j 0)) A s H) (nbs657288 : (bs657288.length : Int) ≤ 65535) (lbs657288 : gLB bs657288) (bf657289 : gF f657289 (-128) 127) (x657291 : ((n657290 : Int) ≤ 16777216)) : CtA (gV D I) l yJ1_equals_b5fdf cJ1_equals_b5fdf 3 (some FieldType.boolean) 0 0 0 0 [.ref q657286, .ref qs657287] (va_pl P657284 F657285) (pp_657292_StringLatin1_equals D I P657284 F657285 q657286 qs657287 bs657288 f657289 n657290) gNA := by
  refine CtA_ofF hl0 (by decide +kernel) (Nat.le_of_ble_eq_true rfl) ?_
  refine G_aload_n 0 dr_cJ1_equals_b5fdf_0 rfl ?_
  refine Gp_alen (Int32.ofNat n657290) 1 hmq657286 heq657286 dr_cJ1_equals_b5fdf_1 rfl rfl (G_nam fun z657293 hz657293 => ?_)
  have ez657293 : z657293.toInt = (n657290 : Nat) := gI_ofM hz657293 (by omega)
  have bz657293 : gB z657293 0 16777216 := ⟨by omega, by omega⟩
  refine G_aload_n 1 dr_cJ1_equals_b5fdf_2 rfl ?_
  refine G_klen dr_cJ1_equals_b5fdf_3 hbs657288 (G_nam fun z657294 hz657294 => ?_)
  have ez657294 : z657294.toInt = (bs657288.length : Int) := gI_ofN hz657294 nbs657288
  have bz657294 : gB z657294 0 65535 := ⟨by omega, by omega⟩
  refine G_icmp_ne 34 dr_cJ1_equals_b5fdf_4 (by decide +kernel) (fun hc657295 => ?_) (fun hc657295 => ?_)
  · have r657296 : z657293.toInt ≠ z657294.toInt := gC_ne hc657295
    refine G_iconst 0 dr_cJ1_equals_b5fdf_34 (by decide +kernel) ?_
    exact G_zretA FieldType.boolean dr_cJ1_equals_b5fdf_35 rfl rfl (Nat.le_of_ble_eq_true rfl) (Nat.le_of_ble_eq_true rfl) ⟨0, rfl, rfl, (Nat.le_of_ble_eq_true rfl), (Nat.le_of_ble_eq_true rfl), (gB_w (gBl (show Int32.toInt 0 = 0 by decide)) (by decide) (by decide)), (fun R c1 c2 c3 => c1 z657293 z657294 ez657293 ez657294 r657296)⟩
  · have r657297 : z657293.toInt = z657294.toInt := gC_eq hc657295
    have bz657293' : gB z657293 0 65535 := ⟨by omega, by omega⟩
    refine G_iconst 0 dr_cJ1_equals_b5fdf_7 (by decide +kernel) ?_
    refine G_istore_n (L' := [(2, .int 0), (0, .ref q657286), (1, .ref qs657287)]) dr_cJ1_equals_b5fdf_8 (Nat.le_of_ble_eq_true rfl) rfl ?_
    have hlp9_657362 : ∀ (n9_657362 : Nat) (g657362 : Int32), gB g657362 0 16777216 → (∀ (k : Nat), tl_RStringLatin1_equals_9 n657290 f657289 bs657288 g657362 k → tl_RStringLatin1_equals_9 n657290 f657289 bs657288 (0 : Int32) k) → ((16777217 : Int) - g657362.toInt).toNat < n9_657362 → G (gV D I) l (gRm 0 0 0 0) (gMA (gV D I) (pp_657292_StringLatin1_equals D I P657284 F657285 q657286 qs657287 bs657288 f657289 n657290) gNA 0 0) ky_657292_StringLatin1_equals 9 [(2, .int g657362), (0, .ref q657286), (1, .ref qs657287)] [] (va_pl P657284 F657285) 0 0 := by
      intro n9_657362
      induction n9_657362 with
      | zero => intro g657362 bg657362 kt9_657362 hm9_657362; exact absurd hm9_657362 (Nat.not_lt_zero _)
      | succ n9_657362 ih9_657362 =>
        intro g657362 bg657362 kt9_657362 hm9_657362
        refine G_iload_n 0 dr_cJ1_equals_b5fdf_9 rfl ?_
        refine G_aload_n 1 dr_cJ1_equals_b5fdf_10 rfl ?_
        refine Gp_alen (Int32.ofNat n657290) 1 hmq657286 heq657286 dr_cJ1_equals_b5fdf_11 rfl rfl (G_nam fun z657363 hz657363 => ?_)
        have ez657363 : z657363.toInt = (n657290 : Nat) := gI_ofM hz657363 (by omega)
        have bz657363 : gB z657363 0 16777216 := ⟨by omega, by omega⟩
        refine G_icmp_ge 32 dr_cJ1_equals_b5fdf_12 (by decide +kernel) (fun hc657364 => ?_) (fun hc657364 => ?_)
        · have r657365 : z657363.toInt ≤ g657362.toInt := gC_le hc657364
          have hx657366 : tl_RStringLatin1_equals_9 n657290 f657289 bs657288 (0 : Int32) 32 := kt9_657362 32 (fun R c1 c2 c3 => c1 g657362 z657363 bg657362 ez657363 r657365)
          refine G_iconst 1 dr_cJ1_equals_b5fdf_32 (by decide +kernel) ?_
          exact G_zretA FieldType.boolean dr_cJ1_equals_b5fdf_33 rfl rfl (Nat.le_of_ble_eq_true rfl) (Nat.le_of_ble_eq_true rfl) ⟨1, rfl, rfl, (Nat.le_of_ble_eq_true rfl), (Nat.le_of_ble_eq_true rfl), (gB_w (gBl (show Int32.toInt 1 = 1 by decide)) (by decide) (by decide)), (fun R c1 c2 c3 => c2 z657293 z657294 ez657293 ez657294 r657297 hx657366)⟩
        · have r657367 : g657362.toInt < z657363.toInt := gC_nle hc657364
          have bg657362' : gB g657362 0 16777215 := ⟨by omega, by omega⟩
          have bz657363' : gB z657363 1 16777216 := ⟨by omega, by omega⟩
          refine G_aload_n 1 dr_cJ1_equals_b5fdf_15 rfl ?_
          refine G_iload_n 0 dr_cJ1_equals_b5fdf_16 rfl ?_
          refine Gp_bald 1 hmq657286 heq657286 dr_cJ1_equals_b5fdf_17 rfl (gB_inr (by omega) (by omega)) (G_nam fun z657368 hz657368 => ?_)
          have bz657368 : gB z657368 (-128) 127 := by rw [hz657368]; exact bf657289 _
          refine G_aload_n 2 dr_cJ1_equals_b5fdf_18 rfl ?_
          refine G_iload_n 0 dr_cJ1_equals_b5fdf_19 rfl ?_
          refine G_kbald (f := fun j => bs657288.getD j 0) dr_cJ1_equals_b5fdf_20 hbs657288 (gB_inr (by omega) (by omega)) (G_nam fun z657369 hz657369 => ?_)
          have bz657369 : gB z657369 (-2147483648) 2147483647 := gB_any z657369
          refine G_icmp_eq 26 dr_cJ1_equals_b5fdf_21 (by decide +kernel) (fun hc657370 => ?_) (fun hc657370 => ?_)
          · have r657371 : z657368.toInt = z657369.toInt := gC_eq hc657370
            have bz657369' : gB z657369 (-128) 127 := ⟨by omega, by omega⟩
            obtain ⟨z657372, hz657372⟩ : ∃ z : Int32, z = g657362 + Int32.ofInt 1 := ⟨_, rfl⟩
            have ez657372 : z657372.toInt = g657362.toInt + 1 := gI_inc hz657372 (by decide) bg657362' (by decide) (by decide)
            have bz657372 : gB z657372 1 16777216 := ⟨by omega, by omega⟩
            refine G_iinc (L' := [(2, .int z657372), (0, .ref q657286), (1, .ref qs657287)]) z657372 0 dr_cJ1_equals_b5fdf_26 rfl hz657372.symm (Nat.le_of_ble_eq_true rfl) rfl ?_
            refine G_goto 9 dr_cJ1_equals_b5fdf_29 (by decide +kernel) ?_
            exact ih9_657362 z657372 (gB_w bz657372 (by decide) (by decide)) (fun k ht => kt9_657362 k (fun R c1 c2 c3 => c2 g657362 z657363 z657368 z657369 z657372 k bg657362 ez657363 r657367 hz657368 bz657368 hz657369 r657371 ez657372 (ht R c1 c2 c3))) (by omega)
          · have r657373 : z657368.toInt ≠ z657369.toInt := gC_ne hc657370
            have hx657374 : tl_RStringLatin1_equals_9 n657290 f657289 bs657288 (0 : Int32) 24 := kt9_657362 24 (fun R c1 c2 c3 => c3 g657362 z657363 z657368 z657369 bg657362 ez657363 r657367 hz657368 bz657368 hz657369 r657373)
            refine G_iconst 0 dr_cJ1_equals_b5fdf_24 (by decide +kernel) ?_
            exact G_zretA FieldType.boolean dr_cJ1_equals_b5fdf_25 rfl rfl (Nat.le_of_ble_eq_true rfl) (Nat.le_of_ble_eq_true rfl) ⟨0, rfl, rfl, (Nat.le_of_ble_eq_true rfl), (Nat.le_of_ble_eq_true rfl), (gB_w (gBl (show Int32.toInt 0 = 0 by decide)) (by decide) (by decide)), (fun R c1 c2 c3 => c3 z657293 z657294 ez657293 ez657294 r657297 hx657374)⟩
    exact hlp9_657362 (((16777217 : Int) - 0).toNat + 1) 0 (gB_w (gBl (show Int32.toInt 0 = 0 by decide)) (by decide) (by decide)) (fun k ht => ht) (Nat.lt_succ_self _)
/- tr_RString_equals: result -/
def tr_RString_equals (bs : List Int32) (a0_value_v : Nat → Int32) (a0_value_n : Nat) (o1 : Int32) : Prop := ∀ R : (Int32) → Prop,
  (∀ (x1 : Int32), gB x1 0 1 → tr_RStringLatin1_equals bs a0_value_v a0_value_n x1 → x1.toInt = 0 → R (0 : Int32)) →
  (∀ (x1 : Int32), gB x1 0 1 → tr_RStringLatin1_equals bs a0_value_v a0_value_n x1 → x1.toInt ≠ 0 → R (1 : Int32)) →
  R o1
abbrev ky_657282_String_equals : gKey := (cJ0_equals_9ea2d, 3, "java/lang/String", (some FieldType.boolean), [], "equals", fun _ _ => True)
def pp_657282_String_equals (D : va_G) (I : FieldType → ClassId) (P657270 : List Nat) (F657271 : Nat → va_E) (q657272 : Nat) (q657273 : Nat) (qs657274 : Nat) (qb657275 : Nat) (bs657276 : List Int32) (p657277 : Int32) (p657278 : Int32) (f657279 : Nat → Int32) (n657280 : Nat) : Option Value → va_W → Nat → Nat → Prop := fun r w dc ds => (∃ (o657381 : Int32), r = some (.int 0) ∧ w = va_pl P657270 F657271 ∧ dc ≤ 0 ∧ ds ≤ 0 ∧ o657381.toInt = 0 ∧ gB o657381 0 0 ∧ tr_RString_equals bs657276 f657279 n657280 (0 : Int32)) ∨ (∃ (o657381 : Int32), r = some (.int 1) ∧ w = va_pl P657270 F657271 ∧ dc ≤ 0 ∧ ds ≤ 0 ∧ o657381.toInt ≠ 0 ∧ gB o657381 1 1 ∧ tr_RString_equals bs657276 f657279 n657280 (1 : Int32))
set_option maxRecDepth 100000 in
set_option maxHeartbeats 4000000 in
theorem cp_657282_String_equals (l : Launch) (hl0 : l.stackTraces = false) (D : va_G) (I : FieldType → ClassId) (P657270 : List Nat) (F657271 : Nat → va_E) (q657272 : Nat) (q657273 : Nat) (qs657274 : Nat) (qb657275 : Nat) (bs657276 : List Int32) (p657277 : Int32) (p657278 : Int32) (f657279 : Nat → Int32) (n657280 : Nat) (hmq657272 : q657272 ∈ P657270) (hmq657273 : q657273 ∈ P657270) (heq657272 : F657271 q657272 = .inr (0, [.ref q657273, .int 0, .int p657277, .int p657278])) (heq657273 : F657271 q657273 = .inl (I .byte, n657280, .inl f657279)) (hbs657276 : ∀ A s H, (gV D I).2.2.2.1 A s H → gSC qs657274 qb657275 bs657276 A s H) (nbs657276 : (bs657276.length : Int) ≤ 65535) (lbs657276 : gLB bs657276) (bp657278 : gB p657278 0 1) (bf657279 : gF f657279 (-128) 127) (x657281 : ((n657280 : Int) ≤ 16777216)) : CtA (gV D I) l yJ0_equals_9ea2d cJ0_equals_9ea2d 3 (some FieldType.boolean) 1 22 0 0 [.ref q657272, .ref qs657274] (va_pl P657270 F657271) (pp_657282_String_equals D I P657270 F657271 q657272 q657273 qs657274 qb657275 bs657276 p657277 p657278 f657279 n657280) gNA := by
  refine CtA_ofF hl0 (by decide +kernel) (Nat.le_of_ble_eq_true rfl) ?_
  have bp657277 := gB_any p657277
  refine G_aload_n 0 dr_cJ0_equals_9ea2d_0 rfl ?_
  refine G_aload_n 1 dr_cJ0_equals_9ea2d_1 rfl ?_
  refine G_pkne hmq657272 (fun _ _ _ h => (hbs657276 _ _ _ h).2.1) (fun hne657283 => ?_)
  refine G_acmp_ne 7 dr_cJ0_equals_9ea2d_2 (by decide +kernel) (fun _ => ?_) (fun hc => absurd hc hne657283)
  refine G_aload_n 1 dr_cJ0_equals_9ea2d_7 rfl ?_
  refine G_instK dr_cJ0_equals_9ea2d_8 wr_9_149 wr_8_71 (fun _ _ _ h => (hbs657276 _ _ _ h).1) ?_
  refine G_if_eq 54 dr_cJ0_equals_9ea2d_11 (by decide +kernel) (fun hc => absurd hc (by decide)) (fun _ => ?_)
  refine G_aload_n 1 dr_cJ0_equals_9ea2d_14 rfl ?_
  refine G_casK dr_cJ0_equals_9ea2d_15 wr_9_149 wr_8_71 (fun _ _ _ h => (hbs657276 _ _ _ h).1) ?_
  refine G_astore_n (L' := [(2, .ref qs657274), (0, .ref q657272), (1, .ref qs657274)]) dr_cJ0_equals_9ea2d_18 (Nat.le_of_ble_eq_true rfl) rfl ?_
  refine G_gets dr_cJ0_equals_9ea2d_19 wr_3_65 gz_cs (fun x hx => ?_)
  subst hx
  refine G_if_eq 36 dr_cJ0_equals_9ea2d_22 (by decide +kernel) (fun hc => absurd hc (by decide)) (fun _ => ?_)
  refine G_aload_n 1 dr_cJ0_equals_9ea2d_25 rfl ?_
  refine Gp_get 1 hmq657272 heq657272 dr_cJ0_equals_9ea2d_26 (gk_J0 D I) (Nat.le_of_ble_eq_true rfl) wr_8_183 rfl ?_
  refine G_aload_n 0 dr_cJ0_equals_9ea2d_29 rfl ?_
  refine G_kget dr_cJ0_equals_9ea2d_30 wr_8_183 (fun _ _ _ h => (hbs657276 _ _ _ h).2.1) ?_
  refine G_icmp_ne 54 dr_cJ0_equals_9ea2d_33 (by decide +kernel) (fun hc => absurd hc (by decide)) (fun _ => ?_)
  refine G_aload_n 1 dr_cJ0_equals_9ea2d_36 rfl ?_
  refine Gp_get 0 hmq657272 heq657272 dr_cJ0_equals_9ea2d_37 (gk_J0 D I) (Nat.le_of_ble_eq_true rfl) wr_8_182 rfl ?_
  refine G_aload_n 0 dr_cJ0_equals_9ea2d_40 rfl ?_
  refine G_kget dr_cJ0_equals_9ea2d_41 wr_8_182 (fun _ _ _ h => (hbs657276 _ _ _ h).2.2.1) ?_
  refine Gw_callS (As := [.ref q657273, .ref qb657275]) (gV_ok D I) (cp_657292_StringLatin1_equals l hl0 D I P657270 F657271 q657273 qb657275 bs657276 f657279 n657280 hmq657273 heq657273 (fun _ _ _ h => (hbs657276 _ _ _ h).2.2.2) (by omega) lbs657276 bf657279 (by have qa0 : Int32.toInt 0 = 0 := (by decide); omega)) dr_cJ0_equals_9ea2d_44 ⟨wr_9_150, wr_1_28, wr_9_152, by decide, rfl, (Nat.le_of_ble_eq_true rfl), (Nat.le_of_ble_eq_true rfl)⟩ wr_9_151 (show 0 + 0 ≤ 0 by first | omega | decide) (show 0 + 0 ≤ 0 by first | omega | decide) (Nat.le_of_ble_eq_true rfl) (fun r657379 w657380 dc657376 ds657377 hp657378 => ?_) (fun _ _ _ _ _ z => z.elim)
  obtain ⟨o657381, rfl, rfl, hdc, hds, bo657381, ht657382⟩ := hp657378
  change G _ _ _ _ _ _ _ (.int o657381 :: _) _ _ _
  refine G_widen (cs' := 0) (sl' := 0) (by omega) (by omega) ?_
  refine G_if_eq 54 dr_cJ0_equals_9ea2d_47 (by decide +kernel) (fun hc657383 => ?_) (fun hc657383 => ?_)
  · have r657384 : o657381.toInt = 0 := gj_eq hc657383 (show Int32.toInt 0 = 0 by decide)
    have bo657381' : gB o657381 0 0 := ⟨by omega, by omega⟩
    refine G_iconst 0 dr_cJ0_equals_9ea2d_54 (by decide +kernel) ?_
    exact G_zretA FieldType.boolean dr_cJ0_equals_9ea2d_55 rfl rfl (Nat.le_of_ble_eq_true rfl) (Nat.le_of_ble_eq_true rfl) (Or.inl ⟨o657381, rfl, rfl, (Nat.le_of_ble_eq_true rfl), (Nat.le_of_ble_eq_true rfl), r657384, bo657381', (fun R c1 c2 => c1 o657381 bo657381 ht657382 r657384)⟩)
  · have r657385 : o657381.toInt ≠ 0 := gj_neq hc657383 (show Int32.toInt 0 = 0 by decide)
    have bo657381' : gB o657381 1 1 := ⟨by omega, by omega⟩
    refine G_iconst 1 dr_cJ0_equals_9ea2d_50 (by decide +kernel) ?_
    refine G_goto 55 dr_cJ0_equals_9ea2d_51 (by decide +kernel) ?_
    exact G_zretA FieldType.boolean dr_cJ0_equals_9ea2d_55 rfl rfl (Nat.le_of_ble_eq_true rfl) (Nat.le_of_ble_eq_true rfl) (Or.inr (⟨o657381, rfl, rfl, (Nat.le_of_ble_eq_true rfl), (Nat.le_of_ble_eq_true rfl), r657385, bo657381', (fun R c1 c2 => c2 o657381 bo657381 ht657382 r657385)⟩))
