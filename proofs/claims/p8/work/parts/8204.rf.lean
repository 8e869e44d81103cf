theorem dr_cJ5_getValue_6d5f1_0 : decode cJ5_getValue_6d5f1 0 = .ok (.aload_n 0, 1) := by decide +kernel
theorem dr_cJ5_getValue_6d5f1_1 : decode cJ5_getValue_6d5f1 1 = .ok (.getfield 15, 3) := by decide +kernel
theorem dr_cJ5_getValue_6d5f1_4 : decode cJ5_getValue_6d5f1 4 = .ok (.areturn, 1) := by decide +kernel
theorem dr_cJ7_checkLength_df160_0 : decode cJ7_checkLength_df160 0 = .ok (.iload_n 1, 1) := by decide +kernel
theorem dr_cJ7_checkLength_df160_1 : decode cJ7_checkLength_df160 1 = .ok (.iload_n 0, 1) := by decide +kernel
theorem dr_cJ7_checkLength_df160_2 : decode cJ7_checkLength_df160 2 = .ok (.if_icmp .ge 35, 3) := by decide +kernel
theorem dr_cJ7_checkLength_df160_37 : decode cJ7_checkLength_df160 37 = .ok (.return_, 1) := by decide +kernel
theorem dr_cJ7_copyOfRangeByte_39247_0 : decode cJ7_copyOfRangeByte_39247 0 = .ok (.iload_n 1, 1) := by decide +kernel
theorem dr_cJ7_copyOfRangeByte_39247_1 : decode cJ7_copyOfRangeByte_39247 1 = .ok (.iload_n 2, 1) := by decide +kernel
theorem dr_cJ7_copyOfRangeByte_39247_2 : decode cJ7_copyOfRangeByte_39247 2 = .ok (.invokestatic 343, 3) := by decide +kernel
theorem wr_8_99 : (Jvm.Cond.methodLink "java/util/Arrays" (343 : Nat) ({ cls := "java/util/Arrays", name := "checkLength", desc := "(II)V" } : Jvm.MethodName)) ∈ gw := gw_8 99 rfl rfl
theorem wr_8_101 : (Jvm.Cond.code ({ cls := "java/util/Arrays", name := "checkLength", desc := "(II)V" } : Jvm.MethodName) prog_44_method_131_code (2 : Nat) (Option.none : Option Jvm.ClassFile.FieldType)) ∈ gw := gw_8 101 rfl rfl
theorem wr_8_100 : (Jvm.Cond.static ({ cls := "java/util/Arrays", name := "checkLength", desc := "(II)V" } : Jvm.MethodName)) ∈ gw := gw_8 100 rfl rfl
theorem dr_cJ7_copyOfRangeByte_39247_5 : decode cJ7_copyOfRangeByte_39247 5 = .ok (.iload_n 2, 1) := by decide +kernel
theorem dr_cJ7_copyOfRangeByte_39247_6 : decode cJ7_copyOfRangeByte_39247 6 = .ok (.iload_n 1, 1) := by decide +kernel
theorem dr_cJ7_copyOfRangeByte_39247_7 : decode cJ7_copyOfRangeByte_39247 7 = .ok (.isub, 1) := by decide +kernel
theorem dr_cJ7_copyOfRangeByte_39247_8 : decode cJ7_copyOfRangeByte_39247 8 = .ok (.istore_n 3, 1) := by decide +kernel
theorem dr_cJ7_copyOfRangeByte_39247_9 : decode cJ7_copyOfRangeByte_39247 9 = .ok (.iload_n 3, 1) := by decide +kernel
theorem dr_cJ7_copyOfRangeByte_39247_10 : decode cJ7_copyOfRangeByte_39247 10 = .ok (.newarray .byte, 2) := by decide +kernel
theorem dr_cJ7_copyOfRangeByte_39247_12 : decode cJ7_copyOfRangeByte_39247 12 = .ok (.astore 4, 2) := by decide +kernel
theorem dr_cJ7_copyOfRangeByte_39247_14 : decode cJ7_copyOfRangeByte_39247 14 = .ok (.aload_n 0, 1) := by decide +kernel
theorem dr_cJ7_copyOfRangeByte_39247_15 : decode cJ7_copyOfRangeByte_39247 15 = .ok (.iload_n 1, 1) := by decide +kernel
theorem dr_cJ7_copyOfRangeByte_39247_16 : decode cJ7_copyOfRangeByte_39247 16 = .ok (.aload 4, 2) := by decide +kernel
theorem dr_cJ7_copyOfRangeByte_39247_18 : decode cJ7_copyOfRangeByte_39247 18 = .ok (.iconst 0, 1) := by decide +kernel
theorem dr_cJ7_copyOfRangeByte_39247_19 : decode cJ7_copyOfRangeByte_39247 19 = .ok (.aload_n 0, 1) := by decide +kernel
theorem dr_cJ7_copyOfRangeByte_39247_20 : decode cJ7_copyOfRangeByte_39247 20 = .ok (.arraylength, 1) := by decide +kernel
theorem dr_cJ7_copyOfRangeByte_39247_21 : decode cJ7_copyOfRangeByte_39247 21 = .ok (.iload_n 1, 1) := by decide +kernel
theorem dr_cJ7_copyOfRangeByte_39247_22 : decode cJ7_copyOfRangeByte_39247 22 = .ok (.isub, 1) := by decide +kernel
theorem dr_cJ7_copyOfRangeByte_39247_23 : decode cJ7_copyOfRangeByte_39247 23 = .ok (.iload_n 3, 1) := by decide +kernel
theorem dr_cJ7_copyOfRangeByte_39247_24 : decode cJ7_copyOfRangeByte_39247 24 = .ok (.invokestatic 304, 3) := by decide +kernel
theorem dr_cJ7_copyOfRangeByte_39247_27 : decode cJ7_copyOfRangeByte_39247 27 = .ok (.invokestatic 150, 3) := by decide +kernel
theorem dr_cJ7_copyOfRangeByte_39247_30 : decode cJ7_copyOfRangeByte_39247 30 = .ok (.aload 4, 2) := by decide +kernel
theorem dr_cJ7_copyOfRangeByte_39247_32 : decode cJ7_copyOfRangeByte_39247 32 = .ok (.areturn, 1) := by decide +kernel
theorem dr_cJ7_copyOfRange_39247_0 : decode cJ7_copyOfRange_39247 0 = .ok (.iload_n 1, 1) := by decide +kernel
theorem dr_cJ7_copyOfRange_39247_1 : decode cJ7_copyOfRange_39247 1 = .ok (.ifCond .ne 9, 3) := by decide +kernel
theorem dr_cJ7_copyOfRange_39247_4 : decode cJ7_copyOfRange_39247 4 = .ok (.iload_n 2, 1) := by decide +kernel
theorem dr_cJ7_copyOfRange_39247_5 : decode cJ7_copyOfRange_39247 5 = .ok (.aload_n 0, 1) := by decide +kernel
theorem dr_cJ7_copyOfRange_39247_6 : decode cJ7_copyOfRange_39247 6 = .ok (.arraylength, 1) := by decide +kernel
theorem dr_cJ7_copyOfRange_39247_7 : decode cJ7_copyOfRange_39247 7 = .ok (.if_icmp .eq 10, 3) := by decide +kernel
theorem dr_cJ7_copyOfRange_39247_17 : decode cJ7_copyOfRange_39247 17 = .ok (.aload_n 0, 1) := by decide +kernel
theorem dr_cJ7_copyOfRange_39247_18 : decode cJ7_copyOfRange_39247 18 = .ok (.invokevirtual 310, 3) := by decide +kernel
theorem wr_8_24 : (Jvm.Cond.methodLink "java/util/Arrays" (310 : Nat) ({ cls := "[B", name := "clone", desc := "()Ljava/lang/Object;" } : Jvm.MethodName)) ∈ gw := gw_8 24 rfl rfl
theorem wr_8_25 : (Jvm.Cond.sameMethod "[B" "java/lang/Object" "clone" "()Ljava/lang/Object;") ∈ gw := gw_8 25 rfl rfl
theorem wr_8_26 : (Jvm.Cond.native ({ cls := "java/lang/Object", name := "clone", desc := "()Ljava/lang/Object;" } : Jvm.MethodName)) ∈ gw := gw_8 26 rfl rfl
theorem wr_8_27 : (Jvm.Cond.instanceMethod ({ cls := "java/lang/Object", name := "clone", desc := "()Ljava/lang/Object;" } : Jvm.MethodName)) ∈ gw := gw_8 27 rfl rfl
theorem wr_8_28 : (Jvm.Cond.selects "[B" ({ cls := "[B", name := "clone", desc := "()Ljava/lang/Object;" } : Jvm.MethodName) ({ cls := "java/lang/Object", name := "clone", desc := "()Ljava/lang/Object;" } : Jvm.MethodName)) ∈ gw := gw_8 28 rfl rfl
theorem dr_cJ7_copyOfRange_39247_21 : decode cJ7_copyOfRange_39247 21 = .ok (.checkcast 311, 3) := by decide +kernel
theorem wr_8_30 : (Jvm.Cond.classLink "java/util/Arrays" (311 : Nat) "[B") ∈ gw := gw_8 30 rfl rfl
theorem dr_cJ7_copyOfRange_39247_24 : decode cJ7_copyOfRange_39247 24 = .ok (.areturn, 1) := by decide +kernel
theorem dr_cJ7_copyOfRange_39247_10 : decode cJ7_copyOfRange_39247 10 = .ok (.aload_n 0, 1) := by decide +kernel
theorem dr_cJ7_copyOfRange_39247_11 : decode cJ7_copyOfRange_39247 11 = .ok (.iload_n 1, 1) := by decide +kernel
theorem dr_cJ7_copyOfRange_39247_12 : decode cJ7_copyOfRange_39247 12 = .ok (.iload_n 2, 1) := by decide +kernel
theorem dr_cJ7_copyOfRange_39247_13 : decode cJ7_copyOfRange_39247 13 = .ok (.invokestatic 339, 3) := by decide +kernel
theorem wr_8_96 : (Jvm.Cond.methodLink "java/util/Arrays" (339 : Nat) ({ cls := "java/util/Arrays", name := "copyOfRangeByte", desc := "([BII)[B" } : Jvm.MethodName)) ∈ gw := gw_8 96 rfl rfl
theorem wr_8_98 : (Jvm.Cond.code ({ cls := "java/util/Arrays", name := "copyOfRangeByte", desc := "([BII)[B" } : Jvm.MethodName) prog_44_method_133_code (5 : Nat) (Option.some (Jvm.ClassFile.FieldType.array Jvm.ClassFile.FieldType.byte))) ∈ gw := gw_8 98 rfl rfl
theorem wr_8_97 : (Jvm.Cond.static ({ cls := "java/util/Arrays", name := "copyOfRangeByte", desc := "([BII)[B" } : Jvm.MethodName)) ∈ gw := gw_8 97 rfl rfl
theorem dr_cJ7_copyOfRange_39247_16 : decode cJ7_copyOfRange_39247 16 = .ok (.areturn, 1) := by decide +kernel
theorem dr_cJ0_init_db425_0 : decode cJ0_init_db425 0 = .ok (.aload_n 0, 1) := by decide +kernel
theorem dr_cJ0_init_db425_1 : decode cJ0_init_db425 1 = .ok (.invokespecial 1, 3) := by decide +kernel
theorem wr_8_78 : (Jvm.Cond.methodLink "java/lang/String" (1 : Nat) ({ cls := "java/lang/Object", name := "<init>", desc := "()V" } : Jvm.MethodName)) ∈ gw := gw_8 78 rfl rfl
theorem dr_cJ0_init_db425_4 : decode cJ0_init_db425 4 = .ok (.aload_n 1, 1) := by decide +kernel
theorem dr_cJ0_init_db425_5 : decode cJ0_init_db425 5 = .ok (.invokevirtual 552, 3) := by decide +kernel
theorem wr_8_79 : (Jvm.Cond.methodLink "java/lang/String" (552 : Nat) ({ cls := "java/lang/AbstractStringBuilder", name := "getValue", desc := "()[B" } : Jvm.MethodName)) ∈ gw := gw_8 79 rfl rfl
theorem wr_8_83 : (Jvm.Cond.code ({ cls := "java/lang/AbstractStringBuilder", name := "getValue", desc := "()[B" } : Jvm.MethodName) prog_21_method_64_code (1 : Nat) (Option.some (Jvm.ClassFile.FieldType.array Jvm.ClassFile.FieldType.byte))) ∈ gw := gw_8 83 rfl rfl
theorem wr_8_80 : (Jvm.Cond.instanceMethod ({ cls := "java/lang/AbstractStringBuilder", name := "getValue", desc := "()[B" } : Jvm.MethodName)) ∈ gw := gw_8 80 rfl rfl
theorem wr_8_82 : (Jvm.Cond.selects "java/lang/StringBuilder" ({ cls := "java/lang/AbstractStringBuilder", name := "getValue", desc := "()[B" } : Jvm.MethodName) ({ cls := "java/lang/AbstractStringBuilder", name := "getValue", desc := "()[B" } : Jvm.MethodName)) ∈ gw := gw_8 82 rfl rfl
theorem dr_cJ0_init_db425_8 : decode cJ0_init_db425 8 = .ok (.astore_n 3, 1) := by decide +kernel
theorem dr_cJ0_init_db425_9 : decode cJ0_init_db425 9 = .ok (.aload_n 1, 1) := by decide +kernel
theorem dr_cJ0_init_db425_10 : decode cJ0_init_db425 10 = .ok (.invokevirtual 549, 3) := by decide +kernel
theorem wr_8_84 : (Jvm.Cond.methodLink "java/lang/String" (549 : Nat) ({ cls := "java/lang/AbstractStringBuilder", name := "length", desc := "()I" } : Jvm.MethodName)) ∈ gw := gw_8 84 rfl rfl
theorem wr_8_87 : (Jvm.Cond.selects "java/lang/StringBuilder" ({ cls := "java/lang/AbstractStringBuilder", name := "length", desc := "()I" } : Jvm.MethodName) ({ cls := "java/lang/StringBuilder", name := "length", desc := "()I" } : Jvm.MethodName)) ∈ gw := gw_8 87 rfl rfl
theorem wr_8_88 : (Jvm.Cond.instanceMethod ({ cls := "java/lang/StringBuilder", name := "length", desc := "()I" } : Jvm.MethodName)) ∈ gw := gw_8 88 rfl rfl
theorem wr_1_20 : (Jvm.Cond.initialized "java/lang/StringBuilder") ∈ gw := gw_1 20 rfl rfl
theorem wr_8_89 : (Jvm.Cond.code ({ cls := "java/lang/StringBuilder", name := "length", desc := "()I" } : Jvm.MethodName) prog_35_method_93_code (1 : Nat) (Option.some Jvm.ClassFile.FieldType.int)) ∈ gw := gw_8 89 rfl rfl
theorem dr_cJ0_init_db425_13 : decode cJ0_init_db425 13 = .ok (.istore 4, 2) := by decide +kernel
theorem dr_cJ0_init_db425_15 : decode cJ0_init_db425 15 = .ok (.aload_n 1, 1) := by decide +kernel
theorem dr_cJ0_init_db425_16 : decode cJ0_init_db425 16 = .ok (.invokevirtual 1047, 3) := by decide +kernel
theorem wr_8_92 : (Jvm.Cond.methodLink "java/lang/String" (1047 : Nat) ({ cls := "java/lang/AbstractStringBuilder", name := "isLatin1", desc := "()Z" } : Jvm.MethodName)) ∈ gw := gw_8 92 rfl rfl
theorem dr_cJ0_init_db425_19 : decode cJ0_init_db425 19 = .ok (.ifCond .eq 22, 3) := by decide +kernel
theorem dr_cJ0_init_db425_22 : decode cJ0_init_db425 22 = .ok (.aload_n 0, 1) := by decide +kernel
theorem dr_cJ0_init_db425_23 : decode cJ0_init_db425 23 = .ok (.iconst 0, 1) := by decide +kernel
theorem dr_cJ0_init_db425_24 : decode cJ0_init_db425 24 = .ok (.putfield 15, 3) := by decide +kernel
theorem dr_cJ0_init_db425_27 : decode cJ0_init_db425 27 = .ok (.aload_n 0, 1) := by decide +kernel
theorem dr_cJ0_init_db425_28 : decode cJ0_init_db425 28 = .ok (.aload_n 3, 1) := by decide +kernel
theorem dr_cJ0_init_db425_29 : decode cJ0_init_db425 29 = .ok (.iconst 0, 1) := by decide +kernel
theorem dr_cJ0_init_db425_30 : decode cJ0_init_db425 30 = .ok (.iload 4, 2) := by decide +kernel
theorem dr_cJ0_init_db425_32 : decode cJ0_init_db425 32 = .ok (.invokestatic 54, 3) := by decide +kernel
theorem wr_8_93 : (Jvm.Cond.methodLink "java/lang/String" (54 : Nat) ({ cls := "java/util/Arrays", name := "copyOfRange", desc := "([BII)[B" } : Jvm.MethodName)) ∈ gw := gw_8 93 rfl rfl
theorem wr_8_95 : (Jvm.Cond.code ({ cls := "java/util/Arrays", name := "copyOfRange", desc := "([BII)[B" } : Jvm.MethodName) prog_44_method_132_code (3 : Nat) (Option.some (Jvm.ClassFile.FieldType.array Jvm.ClassFile.FieldType.byte))) ∈ gw := gw_8 95 rfl rfl
theorem wr_8_94 : (Jvm.Cond.static ({ cls := "java/util/Arrays", name := "copyOfRange", desc := "([BII)[B" } : Jvm.MethodName)) ∈ gw := gw_8 94 rfl rfl
theorem dr_cJ0_init_db425_35 : decode cJ0_init_db425 35 = .ok (.putfield 9, 3) := by decide +kernel
theorem dr_cJ0_init_db425_38 : decode cJ0_init_db425 38 = .ok (.goto 59, 3) := by decide +kernel
theorem dr_cJ0_init_db425_97 : decode cJ0_init_db425 97 = .ok (.return_, 1) := by decide +kernel
theorem dr_cJ0_init_81219_0 : decode cJ0_init_81219 0 = .ok (.aload_n 0, 1) := by decide +kernel
theorem dr_cJ0_init_81219_1 : decode cJ0_init_81219 1 = .ok (.aload_n 1, 1) := by decide +kernel
theorem dr_cJ0_init_81219_2 : decode cJ0_init_81219 2 = .ok (.aconst_null, 1) := by decide +kernel
theorem dr_cJ0_init_81219_3 : decode cJ0_init_81219 3 = .ok (.invokespecial 489, 3) := by decide +kernel
theorem wr_8_75 : (Jvm.Cond.methodLink "java/lang/String" (489 : Nat) ({ cls := "java/lang/String", name := "<init>", desc := "(Ljava/lang/AbstractStringBuilder;Ljava/lang/Void;)V" } : Jvm.MethodName)) ∈ gw := gw_8 75 rfl rfl
theorem wr_8_77 : (Jvm.Cond.code ({ cls := "java/lang/String", name := "<init>", desc := "(Ljava/lang/AbstractStringBuilder;Ljava/lang/Void;)V" } : Jvm.MethodName) prog_34_method_150_code (5 : Nat) (Option.none : Option Jvm.ClassFile.FieldType)) ∈ gw := gw_8 77 rfl rfl
theorem wr_8_76 : (Jvm.Cond.instanceMethod ({ cls := "java/lang/String", name := "<init>", desc := "(Ljava/lang/AbstractStringBuilder;Ljava/lang/Void;)V" } : Jvm.MethodName)) ∈ gw := gw_8 76 rfl rfl
theorem dr_cJ0_init_81219_6 : decode cJ0_init_81219 6 = .ok (.return_, 1) := by decide +kernel
theorem dr_cJ4_toString_0e30d_0 : decode cJ4_toString_0e30d 0 = .ok (.new 18, 3) := by decide +kernel
theorem wr_8_70 : (Jvm.Cond.classLink "java/lang/StringBuilder" (18 : Nat) "java/lang/String") ∈ gw := gw_8 70 rfl rfl
theorem wr_8_71 : (Jvm.Cond.instantiable "java/lang/String" (4 : Nat)) ∈ gw := gw_8 71 rfl rfl
theorem dr_cJ4_toString_0e30d_3 : decode cJ4_toString_0e30d 3 = .ok (.dup, 1) := by decide +kernel
theorem dr_cJ4_toString_0e30d_4 : decode cJ4_toString_0e30d 4 = .ok (.aload_n 0, 1) := by decide +kernel
theorem dr_cJ4_toString_0e30d_5 : decode cJ4_toString_0e30d 5 = .ok (.invokespecial 137, 3) := by decide +kernel
theorem wr_8_72 : (Jvm.Cond.methodLink "java/lang/StringBuilder" (137 : Nat) ({ cls := "java/lang/String", name := "<init>", desc := "(Ljava/lang/StringBuilder;)V" } : Jvm.MethodName)) ∈ gw := gw_8 72 rfl rfl
theorem wr_8_74 : (Jvm.Cond.code ({ cls := "java/lang/String", name := "<init>", desc := "(Ljava/lang/StringBuilder;)V" } : Jvm.MethodName) prog_34_method_53_code (2 : Nat) (Option.none : Option Jvm.ClassFile.FieldType)) ∈ gw := gw_8 74 rfl rfl
theorem wr_8_73 : (Jvm.Cond.instanceMethod ({ cls := "java/lang/String", name := "<init>", desc := "(Ljava/lang/StringBuilder;)V" } : Jvm.MethodName)) ∈ gw := gw_8 73 rfl rfl
theorem dr_cJ4_toString_0e30d_8 : decode cJ4_toString_0e30d 8 = .ok (.areturn, 1) := by decide +kernel
theorem dr_cJ1_equals_b5fdf_0 : decode cJ1_equals_b5fdf 0 = .ok (.aload_n 0, 1) := by decide +kernel
theorem dr_cJ1_equals_b5fdf_1 : decode cJ1_equals_b5fdf 1 = .ok (.arraylength, 1) := by decide +kernel
theorem dr_cJ1_equals_b5fdf_2 : decode cJ1_equals_b5fdf 2 = .ok (.aload_n 1, 1) := by decide +kernel
theorem dr_cJ1_equals_b5fdf_3 : decode cJ1_equals_b5fdf 3 = .ok (.arraylength, 1) := by decide +kernel
theorem dr_cJ1_equals_b5fdf_4 : decode cJ1_equals_b5fdf 4 = .ok (.if_icmp .ne 30, 3) := by decide +kernel
theorem dr_cJ1_equals_b5fdf_34 : decode cJ1_equals_b5fdf 34 = .ok (.iconst 0, 1) := by decide +kernel
theorem dr_cJ1_equals_b5fdf_35 : decode cJ1_equals_b5fdf 35 = .ok (.ireturn, 1) := by decide +kernel
theorem dr_cJ1_equals_b5fdf_7 : decode cJ1_equals_b5fdf 7 = .ok (.iconst 0, 1) := by decide +kernel
theorem dr_cJ1_equals_b5fdf_8 : decode cJ1_equals_b5fdf 8 = .ok (.istore_n 2, 1) := by decide +kernel
theorem dr_cJ1_equals_b5fdf_9 : decode cJ1_equals_b5fdf 9 = .ok (.iload_n 2, 1) := by decide +kernel
theorem dr_cJ1_equals_b5fdf_10 : decode cJ1_equals_b5fdf 10 = .ok (.aload_n 0, 1) := by decide +kernel
theorem dr_cJ1_equals_b5fdf_11 : decode cJ1_equals_b5fdf 11 = .ok (.arraylength, 1) := by decide +kernel
theorem dr_cJ1_equals_b5fdf_12 : decode cJ1_equals_b5fdf 12 = .ok (.if_icmp .ge 20, 3) := by decide +kernel
theorem dr_cJ1_equals_b5fdf_32 : decode cJ1_equals_b5fdf 32 = .ok (.iconst 1, 1) := by decide +kernel
theorem dr_cJ1_equals_b5fdf_33 : decode cJ1_equals_b5fdf 33 = .ok (.ireturn, 1) := by decide +kernel
theorem dr_cJ1_equals_b5fdf_15 : decode cJ1_equals_b5fdf 15 = .ok (.aload_n 0, 1) := by decide +kernel
theorem dr_cJ1_equals_b5fdf_16 : decode cJ1_equals_b5fdf 16 = .ok (.iload_n 2, 1) := by decide +kernel
theorem dr_cJ1_equals_b5fdf_17 : decode cJ1_equals_b5fdf 17 = .ok (.baload, 1) := by decide +kernel
theorem dr_cJ1_equals_b5fdf_18 : decode cJ1_equals_b5fdf 18 = .ok (.aload_n 1, 1) := by decide +kernel
theorem dr_cJ1_equals_b5fdf_19 : decode cJ1_equals_b5fdf 19 = .ok (.iload_n 2, 1) := by decide +kernel
theorem dr_cJ1_equals_b5fdf_20 : decode cJ1_equals_b5fdf 20 = .ok (.baload, 1) := by decide +kernel
theorem dr_cJ1_equals_b5fdf_21 : decode cJ1_equals_b5fdf 21 = .ok (.if_icmp .eq 5, 3) := by decide +kernel
theorem dr_cJ1_equals_b5fdf_26 : decode cJ1_equals_b5fdf 26 = .ok (.iinc 2 1, 3) := by decide +kernel
theorem dr_cJ1_equals_b5fdf_29 : decode cJ1_equals_b5fdf 29 = .ok (.goto (-20), 3) := by decide +kernel
theorem dr_cJ1_equals_b5fdf_24 : decode cJ1_equals_b5fdf 24 = .ok (.iconst 0, 1) := by decide +kernel
theorem dr_cJ1_equals_b5fdf_25 : decode cJ1_equals_b5fdf 25 = .ok (.ireturn, 1) := by decide +kernel
theorem dr_cJ0_equals_9ea2d_0 : decode cJ0_equals_9ea2d 0 = .ok (.aload_n 0, 1) := by decide +kernel
theorem dr_cJ0_equals_9ea2d_1 : decode cJ0_equals_9ea2d 1 = .ok (.aload_n 1, 1) := by decide +kernel
theorem dr_cJ0_equals_9ea2d_2 : decode cJ0_equals_9ea2d 2 = .ok (.if_acmp .ne 5, 3) := by decide +kernel
theorem dr_cJ0_equals_9ea2d_7 : decode cJ0_equals_9ea2d 7 = .ok (.aload_n 1, 1) := by decide +kernel
theorem dr_cJ0_equals_9ea2d_8 : decode cJ0_equals_9ea2d 8 = .ok (.instanceof 10, 3) := by decide +kernel
theorem wr_9_149 : (Jvm.Cond.classLink "java/lang/String" (10 : Nat) "java/lang/String") ∈ gw := gw_9 149 rfl rfl
theorem dr_cJ0_equals_9ea2d_11 : decode cJ0_equals_9ea2d 11 = .ok (.ifCond .eq 43, 3) := by decide +kernel
theorem dr_cJ0_equals_9ea2d_14 : decode cJ0_equals_9ea2d 14 = .ok (.aload_n 1, 1) := by decide +kernel
theorem dr_cJ0_equals_9ea2d_15 : decode cJ0_equals_9ea2d 15 = .ok (.checkcast 10, 3) := by decide +kernel
theorem dr_cJ0_equals_9ea2d_18 : decode cJ0_equals_9ea2d 18 = .ok (.astore_n 2, 1) := by decide +kernel
theorem dr_cJ0_equals_9ea2d_19 : decode cJ0_equals_9ea2d 19 = .ok (.getstatic 38, 3) := by decide +kernel
theorem dr_cJ0_equals_9ea2d_22 : decode cJ0_equals_9ea2d 22 = .ok (.ifCond .eq 14, 3) := by decide +kernel
theorem dr_cJ0_equals_9ea2d_25 : decode cJ0_equals_9ea2d 25 = .ok (.aload_n 0, 1) := by decide +kernel
theorem dr_cJ0_equals_9ea2d_26 : decode cJ0_equals_9ea2d 26 = .ok (.getfield 15, 3) := by decide +kernel
theorem dr_cJ0_equals_9ea2d_29 : decode cJ0_equals_9ea2d 29 = .ok (.aload_n 2, 1) := by decide +kernel
theorem dr_cJ0_equals_9ea2d_30 : decode cJ0_equals_9ea2d 30 = .ok (.getfield 15, 3) := by decide +kernel
theorem dr_cJ0_equals_9ea2d_33 : decode cJ0_equals_9ea2d 33 = .ok (.if_icmp .ne 21, 3) := by decide +kernel
theorem dr_cJ0_equals_9ea2d_36 : decode cJ0_equals_9ea2d 36 = .ok (.aload_n 0, 1) := by decide +kernel
theorem dr_cJ0_equals_9ea2d_37 : decode cJ0_equals_9ea2d 37 = .ok (.getfield 9, 3) := by decide +kernel
theorem dr_cJ0_equals_9ea2d_40 : decode cJ0_equals_9ea2d 40 = .ok (.aload_n 2, 1) := by decide +kernel
theorem dr_cJ0_equals_9ea2d_41 : decode cJ0_equals_9ea2d 41 = .ok (.getfield 9, 3) := by decide +kernel
theorem dr_cJ0_equals_9ea2d_44 : decode cJ0_equals_9ea2d 44 = .ok (.invokestatic 541, 3) := by decide +kernel
theorem wr_9_150 : (Jvm.Cond.methodLink "java/lang/String" (541 : Nat) ({ cls := "java/lang/StringLatin1", name := "equals", desc := "([B[B)Z" } : Jvm.MethodName)) ∈ gw := gw_9 150 rfl rfl
theorem wr_9_152 : (Jvm.Cond.code ({ cls := "java/lang/StringLatin1", name := "equals", desc := "([B[B)Z" } : Jvm.MethodName) prog_37_method_13_code (3 : Nat) (Option.some Jvm.ClassFile.FieldType.boolean)) ∈ gw := gw_9 152 rfl rfl
theorem wr_9_151 : (Jvm.Cond.static ({ cls := "java/lang/StringLatin1", name := "equals", desc := "([B[B)Z" } : Jvm.MethodName)) ∈ gw := gw_9 151 rfl rfl
theorem dr_cJ0_equals_9ea2d_47 : decode cJ0_equals_9ea2d 47 = .ok (.ifCond .eq 7, 3) := by decide +kernel
theorem dr_cJ0_equals_9ea2d_54 : decode cJ0_equals_9ea2d 54 = .ok (.iconst 0, 1) := by decide +kernel
theorem dr_cJ0_equals_9ea2d_55 : decode cJ0_equals_9ea2d 55 = .ok (.ireturn, 1) := by decide +kernel
theorem dr_cJ0_equals_9ea2d_50 : decode cJ0_equals_9ea2d 50 = .ok (.iconst 1, 1) := by decide +kernel
theorem dr_cJ0_equals_9ea2d_51 : decode cJ0_equals_9ea2d 51 = .ok (.goto 4, 3) := by decide +kernel
abbrev ky_658834_StringBuilder_append : gKey := (cJ4_append_15ec4, 2, "java/lang/StringBuilder", (some (FieldType.object "java/lang/StringBuilder")), [], "append", fun _ _ => True)
def pp_658834_StringBuilder_append (D : va_G) (I : FieldType → ClassId) (P658819 : List Nat) (F658820 : Nat → va_E) (q658821 : Nat) (q658822 : Nat) (qs658823 : Nat) (qb658824 : Nat) (bs658825 : List Int32) (p658826 : Int32) (p658827 : Int32) (f658828 : Nat → Int32) (n658829 : Nat) : Option Value → va_W → Nat → Nat → Prop := fun r w dc ds => ∃ (P658947 : List Nat) (F658948 : Nat → va_E) (o658943 : Int32) (q658944 : Nat) (n658945 : Nat) (f658946 : Nat → Int32), r = some (.ref q658821) ∧ w = va_pl P658947 F658948 ∧ rSub P658819 P658947 ∧ rFr [q658821, q658822] P658819 F658820 F658948 ∧ F658948 q658821 = .inr (1, [.ref q658944, .int 0, .int p658826, .int o658943]) ∧ F658948 q658944 = .inl (I .byte, n658945, .inl f658946) ∧ q658944 ∈ P658947 ∧ (q658944 = q658822 ∨ q658944 ∉ P658819) ∧ dc ≤ 1 ∧ ds ≤ 2 * (n658945 - n658829) ∧ gB o658943 0 16777216 ∧ gF f658946 (-128) 127 ∧ o658943.toInt = p658827.toInt + (bs658825.length : Int) ∧ o658943.toInt ≤ (n658945 : Int) ∧ (n658829 : Int) ≤ (n658945 : Int) ∧ (n658945 : Int) ≤ 2 * (n658829 : Int) + 2 + p658827.toInt + (bs658825.length : Int) ∧ ((n658945 : Int) = (n658829 : Int) ∨ (n658829 : Int) < o658943.toInt) ∧ tr_RStringBuilder_append6 bs658825 p658827 f658828 n658829 o658943 n658945 f658946
set_option maxRecDepth 100000 in
set_option maxHeartbeats 4000000 in
theorem cp_658834_StringBuilder_append (l : Launch) (hl0 : l.stackTraces = false) (D : va_G) (I : FieldType → ClassId) (P658819 : List Nat) (F658820 : Nat → va_E) (q658821 : Nat) (q658822 : Nat) (qs658823 : Nat) (qb658824 : Nat) (bs658825 : List Int32) (p658826 : Int32) (p658827 : Int32) (f658828 : Nat → Int32) (n658829 : Nat) (hmq658821 : q658821 ∈ P658819) (hmq658822 : q658822 ∈ P658819) (heq658821 : F658820 q658821 = .inr (1, [.ref q658822, .int 0, .int p658826, .int p658827])) (heq658822 : F658820 q658822 = .inl (I .byte, n658829, .inl f658828)) (hbs658825 : ∀ A s H, (gV D I).2.2.2.1 A s H → gSC qs658823 qb658824 bs658825 A s H) (nbs658825 : (bs658825.length : Int) ≤ 65535) (lbs658825 : gLB bs658825) (bp658826 : gB p658826 0 1) (bp658827 : gB p658827 0 16777216) (bf658828 : gF f658828 (-128) 127) (x658830 : (bs658825.length : Int) ≤ 65535) (x658831 : (n658829 : Int) ≤ 8388608 - 100000) (x658832 : p658827.toInt ≤ (n658829 : Int)) (x658833 : ((n658829 : Int) ≤ 16777216)) : CtA (gV D I) l yJ4_append_15ec4 cJ4_append_15ec4 2 (some (FieldType.object "java/lang/StringBuilder")) 5 106 1 (4 * n658829 + 4 + 2 * bs658825.length) [.ref q658821, .ref qs658823] (va_pl P658819 F658820) (pp_658834_StringBuilder_append D I P658819 F658820 q658821 q658822 qs658823 qb658824 bs658825 p658826 p658827 f658828 n658829) gNA := by
  refine CtA_ofF hl0 (by decide +kernel) (Nat.le_of_ble_eq_true rfl) ?_
  refine G_aload_n 0 dr_cJ4_append_15ec4_0 rfl ?_
  refine G_aload_n 1 dr_cJ4_append_15ec4_1 rfl ?_
  refine Gw_callSU (As := [.ref qs658823]) (gV_ok D I) (cp_658850_AbstractStringBuilder_append l hl0 D I P658819 F658820 q658821 q658822 qs658823 qb658824 bs658825 p658826 p658827 f658828 n658829 hmq658821 hmq658822 heq658821 heq658822 hbs658825 nbs658825 lbs658825 bp658826 bp658827 bf658828 (by have qa0 : Int32.toInt 0 = 0 := (by decide); omega) (by have qa0 : Int32.toInt 0 = 0 := (by decide); omega) (by have qa0 : Int32.toInt 0 = 0 := (by decide); omega) (by have qa0 : Int32.toInt 0 = 0 := (by decide); omega)) dr_cJ4_append_15ec4_2 ⟨wr_8_144, wr_1_19, wr_8_146, by decide, rfl, (Nat.le_of_ble_eq_true rfl), (Nat.le_of_ble_eq_true rfl)⟩ wr_8_145 wr_11_229 wr_7_73 wr_7_44 (by decide) hmq658821 heq658821 rfl (show 0 + 1 ≤ 1 by first | omega | decide) (show 0 + (4 * n658829 + 4 + 2 * bs658825.length) ≤ (4 * n658829 + 4 + 2 * bs658825.length) by first | omega | decide) (Nat.le_of_ble_eq_true rfl) (fun r658918 w658919 dc658915 ds658916 hp658917 => ?_)
  obtain ⟨P658930, F658931, o658920, q658921, n658922, f658923, rfl, rfl, hsb658932, hfr658933, he658934, he658935, hm658936, hq658937, hdc, hds, bo658920, bf658923, x658924, x658925, x658926, x658927, x658928, ht658929⟩ := hp658917
  have hm658938 : q658821 ∈ P658930 := hsb658932 q658821 hmq658821
  have hm658939 : q658822 ∈ P658930 := hsb658932 q658822 hmq658822
  have hor658940 : q658921 = q658822 ∨ q658921 ∉ P658819 := hq658937.elim Or.inl (fun n => Or.inr (fun z => n ((rSub_rf (P := P658819)) _ z)))
  have hsb658941 : rSub P658819 P658930 := rSub_tr (rSub_rf (P := P658819)) hsb658932
  have hfr658942 : rFr [q658821, q658822] P658819 F658820 F658931 := rFr_call (rSub_rf (P := P658819)) (rFr_rf (W := []) (P := P658819) (F := F658820)) hfr658933 (fun b hb hn => ⟨nm_n, (nm_c (fun e => hn (e ▸ List.mem_cons_self)) (nm_c (fun e => hn (e ▸ (List.mem_cons_of_mem _ List.mem_cons_self))) nm_n))⟩)
  change G _ _ _ _ _ _ _ (.ref q658821 :: _) _ _ _
  refine G_widen (cs' := 1) (sl' := 2 * (n658922 - n658829)) (by omega) (by omega) ?_
  refine G_pop dr_cJ4_append_15ec4_5 rfl ?_
  refine G_aload_n 0 dr_cJ4_append_15ec4_6 rfl ?_
  exact G_aretA (FieldType.object "java/lang/StringBuilder") dr_cJ4_append_15ec4_7 rfl (by first | exact Or.inl ⟨_, rfl⟩ | exact Or.inr ⟨_, rfl⟩) (Or.inr ⟨_, rfl⟩) (Nat.le_of_ble_eq_true rfl) (show 2 * (n658922 - n658829) ≤ (4 * n658829 + 4 + 2 * bs658825.length) by omega) ⟨P658930, F658931, o658920, q658921, n658922, f658923, rfl, rfl, hsb658941, hfr658942, he658934, he658935, hm658936, hor658940, (Nat.le_of_ble_eq_true rfl), (by omega), bo658920, bf658923, (by have qa0 : Int32.toInt 0 = 0 := (by decide); omega), (by have qa0 : Int32.toInt 0 = 0 := (by decide); omega), (by have qa0 : Int32.toInt 0 = 0 := (by decide); omega), (by have qa0 : Int32.toInt 0 = 0 := (by decide); omega), (by have qa0 : Int32.toInt 0 = 0 := (by decide); omega), (fun R c1 => c1 o658920 n658922 f658923 bo658920 ht658929)⟩
abbrev ky_659013_AbstractStringBuilder_getValue : gKey := (cJ5_getValue_6d5f1, 1, "java/lang/AbstractStringBuilder", (some (FieldType.array FieldType.byte)), [], "getValue", fun _ _ => True)
def pp_659013_AbstractStringBuilder_getValue (D : va_G) (I : FieldType → ClassId) (P659004 : List Nat) (F659005 : Nat → va_E) (q659006 : Nat) (q659007 : Nat) (p659008 : Int32) (p659009 : Int32) (f659010 : Nat → Int32) (n659011 : Nat) : Option Value → va_W → Nat → Nat → Prop := fun r w dc ds => r = some (.ref q659007) ∧ w = va_pl P659004 F659005 ∧ dc ≤ 0 ∧ ds ≤ 0
set_option maxRecDepth 100000 in
set_option maxHeartbeats 4000000 in
theorem cp_659013_AbstractStringBuilder_getValue (l : Launch) (hl0 : l.stackTraces = false) (D : va_G) (I : FieldType → ClassId) (P659004 : List Nat) (F659005 : Nat → va_E) (q659006 : Nat) (q659007 : Nat) (p659008 : Int32) (p659009 : Int32) (f659010 : Nat → Int32) (n659011 : Nat) (hmq659006 : q659006 ∈ P659004) (hmq659007 : q659007 ∈ P659004) (heq659006 : F659005 q659006 = .inr (1, [.ref q659007, .int 0, .int p659008, .int p659009])) (heq659007 : F659005 q659007 = .inl (I .byte, n659011, .inl f659010)) (bp659008 : gB p659008 0 1) (bp659009 : gB p659009 0 16777216) (bf659010 : gF f659010 (-128) 127) (x659012 : ((n659011 : Int) ≤ 16777216)) : CtA (gV D I) l yJ5_getValue_6d5f1 cJ5_getValue_6d5f1 1 (some (FieldType.array FieldType.byte)) 0 0 0 0 [.ref q659006] (va_pl P659004 F659005) (pp_659013_AbstractStringBuilder_getValue D I P659004 F659005 q659006 q659007 p659008 p659009 f659010 n659011) gNA := by
  refine CtA_ofF hl0 (by decide +kernel) (Nat.le_of_ble_eq_true rfl) ?_
  refine G_aload_n 0 dr_cJ5_getValue_6d5f1_0 rfl ?_
  refine Gp_get 0 hmq659006 heq659006 dr_cJ5_getValue_6d5f1_1 (gk_J4 D I) (Nat.le_of_ble_eq_true rfl) wr_7_60 rfl ?_
  exact G_aretA (FieldType.array FieldType.byte) dr_cJ5_getValue_6d5f1_4 rfl (by first | exact Or.inl ⟨_, rfl⟩ | exact Or.inr ⟨_, rfl⟩) (Or.inr ⟨_, rfl⟩) (Nat.le_of_ble_eq_true rfl) (Nat.le_of_ble_eq_true rfl) ⟨rfl, rfl, (Nat.le_of_ble_eq_true rfl), (Nat.le_of_ble_eq_true rfl)⟩
abbrev ky_659075_Arrays_checkLength : gKey := (cJ7_checkLength_df160, 2, "java/util/Arrays", none, [], "checkLength", fun _ _ => True)
def pp_659075_Arrays_checkLength (D : va_G) (I : FieldType → ClassId) (P659072 : List Nat) (F659073 : Nat → va_E) (p659074 : Int32) : Option Value → va_W → Nat → Nat → Prop := fun r w dc ds => r = none ∧ w = va_pl P659072 F659073 ∧ dc ≤ 0 ∧ ds ≤ 0
set_option maxRecDepth 100000 in
set_option maxHeartbeats 4000000 in
theorem cp_659075_Arrays_checkLength (l : Launch) (hl0 : l.stackTraces = false) (D : va_G) (I : FieldType → ClassId) (P659072 : List Nat) (F659073 : Nat → va_E) (p659074 : Int32) (bp659074 : gB p659074 0 16777216) : CtA (gV D I) l yJ7_checkLength_df160 cJ7_checkLength_df160 2 none 0 0 0 0 [.int 0, .int p659074] (va_pl P659072 F659073) (pp_659075_Arrays_checkLength D I P659072 F659073 p659074) gNA := by
  refine CtA_ofF hl0 (by decide +kernel) (Nat.le_of_ble_eq_true rfl) ?_
  refine G_iload_n 1 dr_cJ7_checkLength_df160_0 rfl ?_
  refine G_iload_n 0 dr_cJ7_checkLength_df160_1 rfl ?_
  refine G_icmp_ge 37 dr_cJ7_checkLength_df160_2 (by decide +kernel) (fun _ => ?_) (fun hc => absurd (show False by have := gj_nleL hc (show Int32.toInt 0 = 0 by decide); omega) not_false)
  exact G_vretA dr_cJ7_checkLength_df160_37 rfl (Nat.le_of_ble_eq_true rfl) (Nat.le_of_ble_eq_true rfl) ⟨rfl, rfl, (Nat.le_of_ble_eq_true rfl), (Nat.le_of_ble_eq_true rfl)⟩
/- tr_RArrays_copyOfRangeByte: a.3.#, a.3.[] -/
def tr_RArrays_copyOfRangeByte (a2 : Int32) (a0_v : Nat → Int32) (a0_n : Nat) (o1 : Nat) (o2 : Nat → Int32) : Prop := ∀ R : (Nat) → (Nat → Int32) → Prop,
  (∀ (x1 : Int32) (x2 : Int32) (x3 : Int32) (x4 : Int32) (x5 : Nat → Int32), x1.toInt = a2.toInt - 0 → x2.toInt = (a0_n : Nat) → x3.toInt = x2.toInt - 0 → (x3.toInt ≥ x4.toInt ∧ x1.toInt ≥ x4.toInt ∧ (x4.toInt = x3.toInt ∨ x4.toInt = x1.toInt)) → (x5 = va_cpy a0_v (fun _ => 0) (0 : Int32).toNatClampNeg (0 : Int32).toNatClampNeg x4.toNatClampNeg) → R x1.toInt.toNat x5) →
  R o1 o2
abbrev ky_659071_Arrays_copyOfRangeByte : gKey := (cJ7_copyOfRangeByte_39247, 5, "java/util/Arrays", (some (FieldType.array FieldType.byte)), [], "copyOfRangeByte", fun _ _ => True)
def pp_659071_Arrays_copyOfRangeByte (D : va_G) (I : FieldType → ClassId) (P659063 : List Nat) (F659064 : Nat → va_E) (q659065 : Nat) (p659066 : Int32) (f659067 : Nat → Int32) (n659068 : Nat) : Option Value → va_W → Nat → Nat → Prop := fun r w dc ds => ∃ (P659109 : List Nat) (F659110 : Nat → va_E) (q659106 : Nat) (n659107 : Nat) (f659108 : Nat → Int32), r = some (.ref q659106) ∧ w = va_pl P659109 F659110 ∧ rSub P659063 P659109 ∧ rFr [] P659063 F659064 F659110 ∧ F659110 q659065 = .inl (I .byte, n659068, .inl f659067) ∧ F659110 q659106 = .inl (I .byte, n659107, .inl f659108) ∧ q659106 ∈ P659109 ∧ q659106 ∉ P659063 ∧ dc ≤ 1 ∧ ds ≤ p659066.toInt.toNat ∧ gF f659108 (-128) 127 ∧ (n659107 : Int) = p659066.toInt ∧ sK f659067 f659108 p659066.toInt ∧ tr_RArrays_copyOfRangeByte p659066 f659067 n659068 n659107 f659108
set_option maxRecDepth 100000 in
set_option maxHeartbeats 4000000 in
theorem cp_659071_Arrays_copyOfRangeByte (l : Launch) (hl0 : l.stackTraces = false) (D : va_G) (I : FieldType → ClassId) (P659063 : List Nat) (F659064 : Nat → va_E) (q659065 : Nat) (p659066 : Int32) (f659067 : Nat → Int32) (n659068 : Nat) (hmq659065 : q659065 ∈ P659063) (heq659065 : F659064 q659065 = .inl (I .byte, n659068, .inl f659067)) (bp659066 : gB p659066 0 16777216) (bf659067 : gF f659067 (-128) 127) (x659069 : p659066.toInt ≤ (n659068 : Int)) (x659070 : ((n659068 : Int) ≤ 16777216)) : CtA (gV D I) l yJ7_copyOfRangeByte_39247 cJ7_copyOfRangeByte_39247 5 (some (FieldType.array FieldType.byte)) 1 21 1 p659066.toInt.toNat [.ref q659065, .int 0, .int p659066] (va_pl P659063 F659064) (pp_659071_Arrays_copyOfRangeByte D I P659063 F659064 q659065 p659066 f659067 n659068) gNA := by
  refine CtA_ofF hl0 (by decide +kernel) (Nat.le_of_ble_eq_true rfl) ?_
  refine G_iload_n 1 dr_cJ7_copyOfRangeByte_39247_0 rfl ?_
  refine G_iload_n 2 dr_cJ7_copyOfRangeByte_39247_1 rfl ?_
  refine Gw_callS (As := [.int 0, .int p659066]) (gV_ok D I) (cp_659075_Arrays_checkLength l hl0 D I P659063 F659064 p659066 bp659066) dr_cJ7_copyOfRangeByte_39247_2 ⟨wr_8_99, wr_1_30, wr_8_101, by decide, rfl, (Nat.le_of_ble_eq_true rfl), (Nat.le_of_ble_eq_true rfl)⟩ wr_8_100 (show 0 + 0 ≤ 1 by first | omega | decide) (show 0 + 0 ≤ p659066.toInt.toNat by first | omega | decide) (Nat.le_of_ble_eq_true rfl) (fun r659079 w659080 dc659076 ds659077 hp659078 => ?_) (fun _ _ _ _ _ z => z.elim)
  obtain ⟨rfl, rfl, hdc, hds⟩ := hp659078
  change G _ _ _ _ _ _ _ _ _ _ _
  refine G_widen (cs' := 0) (sl' := 0) (by omega) (by omega) ?_
  refine G_iload_n 2 dr_cJ7_copyOfRangeByte_39247_5 rfl ?_
  refine G_iload_n 1 dr_cJ7_copyOfRangeByte_39247_6 rfl ?_
  refine G_isub dr_cJ7_copyOfRangeByte_39247_7 (G_nam fun z659081 hz659081 => ?_)
  have ez659081 : z659081.toInt = p659066.toInt - 0 := by rw [gI_sub hz659081 bp659066 (gBl (show Int32.toInt 0 = 0 by decide)) (by decide) (by decide), show Int32.toInt 0 = 0 from by decide]
  have bz659081 : gB z659081 0 16777216 := gB_sub (gI_sub hz659081 bp659066 (gBl (show Int32.toInt 0 = 0 by decide)) (by decide) (by decide)) bp659066 (gBl (show Int32.toInt 0 = 0 by decide)) (by decide) (by decide)
  refine G_istore_n (L' := [(3, .int z659081), (0, .ref q659065), (1, .int 0), (2, .int p659066)]) dr_cJ7_copyOfRangeByte_39247_8 (Nat.le_of_ble_eq_true rfl) rfl ?_
  refine G_iload_n 0 dr_cJ7_copyOfRangeByte_39247_9 rfl ?_
  refine G_newa 1 (z659081.toInt.toNat, .inl (fun _ => 0)) dr_cJ7_copyOfRangeByte_39247_10 rfl rfl (by intro C h; cases h) wr_1_66 (fun _ => ga_byte _ _) (g_n0 (by omega)) rfl (show z659081.toInt.toNat * 1 ≤ 536870912 by omega) (show 0 + 1 ≤ 1 by first | omega | decide) (show 0 + z659081.toInt.toNat ≤ p659066.toInt.toNat by first | omega | decide) (fun q659082 => Gp_in (fun P659083 F659084 hq659085 hP659086 e659087 n659088 => ?_))
  refine G_widen (cs' := 1) (sl' := z659081.toInt.toNat) (by omega) (by omega) ?_
  have he659089 : F659084 q659065 = .inl (I .byte, n659068, .inl f659067) := (n659088 q659065 (fun h => hq659085 (h ▸ hmq659065))).trans heq659065
  have he659090 : F659084 q659082 = .inl (I .byte, z659081.toInt.toNat, .inl (fun _ => 0)) := e659087
  have hm659091 : q659065 ∈ P659083 := (hP659086 q659065).mpr (Or.inl hmq659065)
  have hm659092 : q659082 ∈ P659083 := (hP659086 q659082).mpr (Or.inr rfl)
  have hq659093 : q659082 ∉ P659063 := fun z => hq659085 ((rSub_rf (P := P659063)) q659082 z)
  have hfr659094 : rFr [] P659063 F659064 F659084 := rFr_new (rSub_rf (P := P659063)) hq659085 (rFr_rf (W := []) (P := P659063) (F := F659064)) n659088
  have hsb659095 : rSub P659063 P659083 := rSub_new (rSub_rf (P := P659063)) hP659086
  refine G_astore (L' := [(4, .ref q659082), (3, .int z659081), (0, .ref q659065), (1, .int 0), (2, .int p659066)]) dr_cJ7_copyOfRangeByte_39247_12 (Nat.le_of_ble_eq_true rfl) rfl ?_
  refine G_aload_n 2 dr_cJ7_copyOfRangeByte_39247_14 rfl ?_
  refine G_iload_n 3 dr_cJ7_copyOfRangeByte_39247_15 rfl ?_
  refine G_aload 0 dr_cJ7_copyOfRangeByte_39247_16 rfl ?_
  refine G_iconst 0 dr_cJ7_copyOfRangeByte_39247_18 (by decide +kernel) ?_
  refine G_aload_n 2 dr_cJ7_copyOfRangeByte_39247_19 rfl ?_
  refine Gp_alen (Int32.ofNat n659068) 1 hm659091 he659089 dr_cJ7_copyOfRangeByte_39247_20 rfl rfl (G_nam fun z659096 hz659096 => ?_)
  have ez659096 : z659096.toInt = (n659068 : Nat) := gI_ofM hz659096 (by omega)
  have bz659096 : gB z659096 0 16777216 := ⟨by omega, by omega⟩
  refine G_iload_n 3 dr_cJ7_copyOfRangeByte_39247_21 rfl ?_
  refine G_isub dr_cJ7_copyOfRangeByte_39247_22 (G_nam fun z659097 hz659097 => ?_)
  have ez659097 : z659097.toInt = z659096.toInt - 0 := by rw [gI_sub hz659097 bz659096 (gBl (show Int32.toInt 0 = 0 by decide)) (by decide) (by decide), show Int32.toInt 0 = 0 from by decide]
  have bz659097 : gB z659097 0 16777216 := gB_sub (gI_sub hz659097 bz659096 (gBl (show Int32.toInt 0 = 0 by decide)) (by decide) (by decide)) bz659096 (gBl (show Int32.toInt 0 = 0 by decide)) (by decide) (by decide)
  refine G_iload_n 1 dr_cJ7_copyOfRangeByte_39247_23 rfl ?_
  refine G_mmin dr_cJ7_copyOfRangeByte_39247_24 wr_8_31 wr_3_227 wr_1_6 wr_3_228 (Nat.le_of_ble_eq_true rfl) (Nat.le_of_ble_eq_true rfl) (show 1 ≤ 1 by first | omega | decide) (show z659081.toInt.toNat ≤ p659066.toInt.toNat by first | omega | decide) (G_nam fun z659098 hz659098 => ?_)
  have ez659098 : z659097.toInt ≥ z659098.toInt ∧ z659081.toInt ≥ z659098.toInt ∧ (z659098.toInt = z659097.toInt ∨ z659098.toInt = z659081.toInt) := by have := gI_min hz659098; omega
  have bz659098 : gB z659098 0 16777216 := ⟨by omega, by omega⟩
  refine Gp_copyp 1 hm659091 hm659092 he659089 he659090 dr_cJ7_copyOfRangeByte_39247_27 wr_8_32 wr_5_113 wr_5_112 wr_1_34 rfl rfl (fun j => gT_byte (bf659067 j)) (by decide) (by decide) (by omega) (by have qa0 : Int32.toInt 0 = 0 := (by decide); omega) (by have qa0 : Int32.toInt 0 = 0 := (by decide); omega) (Nat.le_of_ble_eq_true rfl) (Nat.le_of_ble_eq_true rfl) (fun F659099 e659100 n659101 => ?_)
  obtain ⟨f659102, hf659102⟩ : ∃ z, z = va_cpy f659067 (fun _ => 0) (0 : Int32).toNatClampNeg (0 : Int32).toNatClampNeg z659098.toNatClampNeg := ⟨_, rfl⟩
  rw [← hf659102] at e659100
  have bf659102 : gF f659102 (-128) 127 := gF_cpy hf659102 bf659067 (gF_w gF_0 (by decide) (by decide))
  have he659103 : F659099 q659065 = .inl (I .byte, n659068, .inl f659067) := (n659101 q659065 (fun h => hq659093 (h ▸ hmq659065))).trans he659089
  have he659104 : F659099 q659082 = .inl (I .byte, z659081.toInt.toNat, .inl f659102) := e659100
  have hfr659105 : rFr [] P659063 F659064 F659099 := rFr_newp hq659093 hfr659094 n659101
  refine G_aload 0 dr_cJ7_copyOfRangeByte_39247_30 rfl ?_
  exact G_aretA (FieldType.array FieldType.byte) dr_cJ7_copyOfRangeByte_39247_32 rfl (by first | exact Or.inl ⟨_, rfl⟩ | exact Or.inr ⟨_, rfl⟩) (Or.inr ⟨_, rfl⟩) (Nat.le_of_ble_eq_true rfl) (show z659081.toInt.toNat ≤ p659066.toInt.toNat by omega) ⟨P659083, F659099, q659082, z659081.toInt.toNat, f659102, rfl, rfl, hsb659095, hfr659105, he659103, he659104, hm659092, hq659093, (Nat.le_of_ble_eq_true rfl), (by omega), bf659102, (by have qa0 : Int32.toInt 0 = 0 := (by decide); omega), (sK_cp2 hf659102 (by decide) (by decide) (by omega)), (fun R c1 => c1 z659081 z659096 z659097 z659098 f659102 ez659081 ez659096 ez659097 ez659098 hf659102)⟩
/- tr_RArrays_copyOfRange: a.3.#, a.3.[] -/
def tr_RArrays_copyOfRange (a2 : Int32) (a0_v : Nat → Int32) (a0_n : Nat) (o1 : Nat) (o2 : Nat → Int32) : Prop := ∀ R : (Nat) → (Nat → Int32) → Prop,
  (∀ (x1 : Int32), x1.toInt = (a0_n : Nat) → a2.toInt = x1.toInt → R a0_n a0_v) →
  (∀ (x1 : Int32) (x2 : Nat) (x3 : Nat → Int32), x1.toInt = (a0_n : Nat) → a2.toInt ≠ x1.toInt → tr_RArrays_copyOfRangeByte a2 a0_v a0_n x2 x3 → R x2 x3) →
  R o1 o2
abbrev ky_659044_Arrays_copyOfRange : gKey := (cJ7_copyOfRange_39247, 3, "java/util/Arrays", (some (FieldType.array FieldType.byte)), [], "copyOfRange", fun _ _ => True)
def pp_659044_Arrays_copyOfRange (D : va_G) (I : FieldType → ClassId) (P659036 : List Nat) (F659037 : Nat → va_E) (q659038 : Nat) (p659039 : Int32) (f659040 : Nat → Int32) (n659041 : Nat) : Option Value → va_W → Nat → Nat → Prop := fun r w dc ds => ∃ (P659137 : List Nat) (F659138 : Nat → va_E) (q659134 : Nat) (n659135 : Nat) (f659136 : Nat → Int32), r = some (.ref q659134) ∧ w = va_pl P659137 F659138 ∧ rSub P659036 P659137 ∧ rFr [] P659036 F659037 F659138 ∧ F659138 q659038 = .inl (I .byte, n659041, .inl f659040) ∧ F659138 q659134 = .inl (I .byte, n659135, .inl f659136) ∧ q659134 ∈ P659137 ∧ q659134 ∉ P659036 ∧ dc ≤ 1 ∧ ds ≤ p659039.toInt.toNat ∧ gF f659136 (-128) 127 ∧ (n659135 : Int) = p659039.toInt ∧ sK f659040 f659136 p659039.toInt ∧ tr_RArrays_copyOfRange p659039 f659040 n659041 n659135 f659136
set_option maxRecDepth 100000 in
set_option maxHeartbeats 4000000 in
theorem cp_659044_Arrays_copyOfRange (l : Launch) (hl0 : l.stackTraces = false) (D : va_G) (I : FieldType → ClassId) (P659036 : List Nat) (F659037 : Nat → va_E) (q659038 : Nat) (p659039 : Int32) (f659040 : Nat → Int32) (n659041 : Nat) (hmq659038 : q659038 ∈ P659036) (heq659038 : F659037 q659038 = .inl (I .byte, n659041, .inl f659040)) (bp659039 : gB p659039 0 16777216) (bf659040 : gF f659040 (-128) 127) (x659042 : p659039.toInt ≤ (n659041 : Int)) (x659043 : ((n659041 : Int) ≤ 16777216)) : CtA (gV D I) l yJ7_copyOfRange_39247 cJ7_copyOfRange_39247 3 (some (FieldType.array FieldType.byte)) 2 45 1 p659039.toInt.toNat [.ref q659038, .int 0, .int p659039] (va_pl P659036 F659037) (pp_659044_Arrays_copyOfRange D I P659036 F659037 q659038 p659039 f659040 n659041) gNA := by
  refine CtA_ofF hl0 (by decide +kernel) (Nat.le_of_ble_eq_true rfl) ?_
  refine G_iload_n 1 dr_cJ7_copyOfRange_39247_0 rfl ?_
  refine G_if_ne 10 dr_cJ7_copyOfRange_39247_1 (by decide +kernel) (fun hc => absurd hc (by decide)) (fun _ => ?_)
  refine G_iload_n 2 dr_cJ7_copyOfRange_39247_4 rfl ?_
  refine G_aload_n 0 dr_cJ7_copyOfRange_39247_5 rfl ?_
  refine Gp_alen (Int32.ofNat n659041) 1 hmq659038 heq659038 dr_cJ7_copyOfRange_39247_6 rfl rfl (G_nam fun z659045 hz659045 => ?_)
  have ez659045 : z659045.toInt = (n659041 : Nat) := gI_ofM hz659045 (by omega)
  have bz659045 : gB z659045 0 16777216 := ⟨by omega, by omega⟩
  refine G_icmp_eq 17 dr_cJ7_copyOfRange_39247_7 (by decide +kernel) (fun hc659046 => ?_) (fun hc659046 => ?_)
  · have r659047 : p659039.toInt = z659045.toInt := gC_eq hc659046
    refine G_aload_n 0 dr_cJ7_copyOfRange_39247_17 rfl ?_
    refine Gp_clone 1 hmq659038 heq659038 rfl dr_cJ7_copyOfRange_39247_18 wr_8_24 wr_8_25 wr_8_26 wr_8_27 wr_8_28 (fun _ _ _ h => gn_w 76 rfl h) bf659040 (Nat.le_of_ble_eq_true rfl) (Nat.le_of_ble_eq_true rfl) (show 0 + 1 ≤ 1 by first | omega | decide) (show 0 + n659041 ≤ p659039.toInt.toNat by first | omega | decide) (fun q659048 P659049 F659050 hq659051 hP659052 e659053 n659054 => ?_)
    refine G_widen (cs' := 1) (sl' := n659041) (by omega) (by omega) ?_
    have he659055 : F659050 q659038 = .inl (I .byte, n659041, .inl f659040) := (n659054 q659038 (fun h => hq659051 (h ▸ hmq659038))).trans heq659038
    have he659056 : F659050 q659048 = .inl (I .byte, n659041, .inl f659040) := e659053
    have hm659057 : q659038 ∈ P659049 := (hP659052 q659038).mpr (Or.inl hmq659038)
    have hm659058 : q659048 ∈ P659049 := (hP659052 q659048).mpr (Or.inr rfl)
    have hq659059 : q659048 ∉ P659036 := fun z => hq659051 ((rSub_rf (P := P659036)) q659048 z)
    have hfr659060 : rFr [] P659036 F659037 F659050 := rFr_new (rSub_rf (P := P659036)) hq659051 (rFr_rf (W := []) (P := P659036) (F := F659037)) n659054
    have hsb659061 : rSub P659036 P659049 := rSub_new (rSub_rf (P := P659036)) hP659052
    refine Gp_casA 1 hm659058 he659056 rfl dr_cJ7_copyOfRange_39247_21 wr_8_30 ?_
    exact G_aretA (FieldType.array FieldType.byte) dr_cJ7_copyOfRange_39247_24 rfl (by first | exact Or.inl ⟨_, rfl⟩ | exact Or.inr ⟨_, rfl⟩) (Or.inr ⟨_, rfl⟩) (Nat.le_of_ble_eq_true rfl) (show n659041 ≤ p659039.toInt.toNat by omega) ⟨P659049, F659050, q659048, n659041, f659040, rfl, rfl, hsb659061, hfr659060, he659055, he659056, hm659058, hq659059, (Nat.le_of_ble_eq_true rfl), (by omega), bf659040, (by have qa0 : Int32.toInt 0 = 0 := (by decide); omega), sK_rf, (fun R c1 c2 => c1 z659045 ez659045 r659047)⟩
  · have r659062 : p659039.toInt ≠ z659045.toInt := gC_ne hc659046
    refine G_aload_n 0 dr_cJ7_copyOfRange_39247_10 rfl ?_
    refine G_iload_n 1 dr_cJ7_copyOfRange_39247_11 rfl ?_
    refine G_iload_n 2 dr_cJ7_copyOfRange_39247_12 rfl ?_
    refine Gw_callS (As := [.ref q659038, .int 0, .int p659039]) (gV_ok D I) (cp_659071_Arrays_copyOfRangeByte l hl0 D I P659036 F659037 q659038 p659039 f659040 n659041 hmq659038 heq659038 bp659039 bf659040 (by have qa0 : Int32.toInt 0 = 0 := (by decide); omega) (by have qa0 : Int32.toInt 0 = 0 := (by decide); omega)) dr_cJ7_copyOfRange_39247_13 ⟨wr_8_96, wr_1_30, wr_8_98, by decide, rfl, (Nat.le_of_ble_eq_true rfl), (Nat.le_of_ble_eq_true rfl)⟩ wr_8_97 (show 0 + 1 ≤ 1 by first | omega | decide) (show 0 + p659039.toInt.toNat ≤ p659039.toInt.toNat by first | omega | decide) (Nat.le_of_ble_eq_true rfl) (fun r659114 w659115 dc659111 ds659112 hp659113 => ?_) (fun _ _ _ _ _ z => z.elim)
    obtain ⟨P659122, F659123, q659116, n659117, f659118, rfl, rfl, hsb659124, hfr659125, he659126, he659127, hm659128, hq659129, hdc, hds, bf659118, x659119, x659120, ht659121⟩ := hp659113
    have hm659130 : q659038 ∈ P659122 := hsb659124 q659038 hmq659038
    have hq659131 : q659116 ∉ P659036 := fun z => hq659129 ((rSub_rf (P := P659036)) q659116 z)
    have hsb659132 : rSub P659036 P659122 := rSub_tr (rSub_rf (P := P659036)) hsb659124
    have hfr659133 : rFr [] P659036 F659037 F659123 := rFr_call (rSub_rf (P := P659036)) (rFr_rf (W := []) (P := P659036) (F := F659037)) hfr659125 (fun b hb hn => ⟨nm_n, nm_n⟩)
    change G _ _ _ _ _ _ _ (.ref q659116 :: _) _ _ _
    refine G_widen (cs' := 1) (sl' := p659039.toInt.toNat) (by omega) (by omega) ?_
    exact G_aretA (FieldType.array FieldType.byte) dr_cJ7_copyOfRange_39247_16 rfl (by first | exact Or.inl ⟨_, rfl⟩ | exact Or.inr ⟨_, rfl⟩) (Or.inr ⟨_, rfl⟩) (Nat.le_of_ble_eq_true rfl) (show p659039.toInt.toNat ≤ p659039.toInt.toNat by omega) ⟨P659122, F659123, q659116, n659117, f659118, rfl, rfl, hsb659132, hfr659133, he659126, he659127, hm659128, hq659131, (Nat.le_of_ble_eq_true rfl), (by omega), bf659118, (by have qa0 : Int32.toInt 0 = 0 := (by decide); omega), (sK_c x659120 (by omega)), (fun R c1 c2 => c2 z659045 n659117 f659118 ez659045 r659062 ht659121)⟩
/- tr_RString_init2: a.0.value.#, a.0.value.[] -/
def tr_RString_init2 (a1_count : Int32) (a1_value_v : Nat → Int32) (a1_value_n : Nat) (o1 : Nat) (o2 : Nat → Int32) : Prop := ∀ R : (Nat) → (Nat → Int32) → Prop,
  (∀ (x1 : Nat) (x2 : Nat → Int32), tr_RArrays_copyOfRange a1_count a1_value_v a1_value_n x1 x2 → R x1 x2) →
  R o1 o2
abbrev ky_659003_String_init : gKey := (cJ0_init_db425, 5, "java/lang/String", none, [], "<init>", fun _ _ => True)
def pp_659003_String_init (D : va_G) (I : FieldType → ClassId) (P658990 : List Nat) (F658991 : Nat → va_E) (q658992 : Nat) (q658993 : Nat) (q658994 : Nat) (p658995 : Int32) (p658996 : Int32) (p658997 : Int32) (p658998 : Int32) (f658999 : Nat → Int32) (n659000 : Nat) : Option Value → va_W → Nat → Nat → Prop := fun r w dc ds => ∃ (P659177 : List Nat) (F659178 : Nat → va_E) (q659174 : Nat) (n659175 : Nat) (f659176 : Nat → Int32), r = none ∧ w = va_pl P659177 F659178 ∧ rSub P658990 P659177 ∧ rFr [q658992] P658990 F658991 F659178 ∧ F659178 q658992 = .inr (0, [.ref q659174, .int 0, .int p658995, .int p658996]) ∧ F659178 q658993 = .inr (1, [.ref q658994, .int 0, .int p658997, .int p658998]) ∧ F659178 q658994 = .inl (I .byte, n659000, .inl f658999) ∧ F659178 q659174 = .inl (I .byte, n659175, .inl f659176) ∧ q659174 ∈ P659177 ∧ q659174 ∉ P658990 ∧ dc ≤ 1 ∧ ds ≤ p658998.toInt.toNat ∧ gF f659176 (-128) 127 ∧ (n659175 : Int) = p658998.toInt ∧ sK f658999 f659176 p658998.toInt ∧ tr_RString_init2 p658998 f658999 n659000 n659175 f659176
set_option maxRecDepth 100000 in
set_option maxHeartbeats 4000000 in
theorem cp_659003_String_init (l : Launch) (hl0 : l.stackTraces = false) (D : va_G) (I : FieldType → ClassId) (P658990 : List Nat) (F658991 : Nat → va_E) (q658992 : Nat) (q658993 : Nat) (q658994 : Nat) (p658995 : Int32) (p658996 : Int32) (p658997 : Int32) (p658998 : Int32) (f658999 : Nat → Int32) (n659000 : Nat) (hmq658992 : q658992 ∈ P658990) (hmq658993 : q658993 ∈ P658990) (hmq658994 : q658994 ∈ P658990) (heq658992 : F658991 q658992 = .inr (0, [.null, .int 0, .int p658995, .int p658996])) (heq658993 : F658991 q658993 = .inr (1, [.ref q658994, .int 0, .int p658997, .int p658998])) (heq658994 : F658991 q658994 = .inl (I .byte, n659000, .inl f658999)) (bp658996 : gB p658996 0 1) (bp658997 : gB p658997 0 1) (bp658998 : gB p658998 0 16777216) (bf658999 : gF f658999 (-128) 127) (x659001 : p658998.toInt ≤ (n659000 : Int)) (x659002 : ((n659000 : Int) ≤ 16777216)) : CtA (gV D I) l yJ0_init_db425 cJ0_init_db425 5 none 3 67 1 p658998.toInt.toNat [.ref q658992, .ref q658993, .null] (va_pl P658990 F658991) (pp_659003_String_init D I P658990 F658991 q658992 q658993 q658994 p658995 p658996 p658997 p658998 f658999 n659000) gNA := by
  refine CtA_ofF hl0 (by decide +kernel) (Nat.le_of_ble_eq_true rfl) ?_
  have bp658995 := gB_any p658995
  refine G_aload_n 0 dr_cJ0_init_db425_0 rfl ?_
  refine G_obj dr_cJ0_init_db425_1 wr_8_78 wr_1_51 wr_1_52 (Nat.le_of_ble_eq_true rfl) (Nat.le_of_ble_eq_true rfl) ?_
  refine G_aload_n 1 dr_cJ0_init_db425_4 rfl ?_
  refine Gw_callVB (As := []) (gV_ok D I) (cp_659013_AbstractStringBuilder_getValue l hl0 D I P658990 F658991 q658993 q658994 p658997 p658998 f658999 n659000 hmq658993 hmq658994 heq658993 heq658994 bp658997 bp658998 bf658999 (by have qa0 : Int32.toInt 0 = 0 := (by decide); omega)) dr_cJ0_init_db425_5 ⟨wr_8_79, wr_1_19, wr_8_83, by decide, rfl, (Nat.le_of_ble_eq_true rfl), (Nat.le_of_ble_eq_true rfl)⟩ wr_8_80 wr_8_82 hmq658993 heq658993 rfl (show 0 + 0 ≤ 1 by first | omega | decide) (show 0 + 0 ≤ p658998.toInt.toNat by first | omega | decide) (Nat.le_of_ble_eq_true rfl) (fun r659017 w659018 dc659014 ds659015 hp659016 => ?_) (fun _ _ _ _ _ z => z.elim)
  obtain ⟨rfl, rfl, hdc, hds⟩ := hp659016
  change G _ _ _ _ _ _ _ (.ref q658994 :: _) _ _ _
  refine G_widen (cs' := 0) (sl' := 0) (by omega) (by omega) ?_
  refine G_astore_n (L' := [(3, .ref q658994), (0, .ref q658992), (1, .ref q658993), (2, .null)]) dr_cJ0_init_db425_8 (Nat.le_of_ble_eq_true rfl) rfl ?_
  refine G_aload_n 2 dr_cJ0_init_db425_9 rfl ?_
  refine Gw_callVU (As := []) (owner := "java/lang/AbstractStringBuilder") (gV_ok D I) (cp_657642_StringBuilder_length l hl0 D I P658990 F658991 q658993 q658994 p658997 p658998 f658999 n659000 hmq658993 hmq658994 heq658993 heq658994 bp658997 bp658998 bf658999 (by have qa0 : Int32.toInt 0 = 0 := (by decide); omega)) dr_cJ0_init_db425_10 ⟨wr_8_84, wr_8_86, wr_8_85, wr_8_91, wr_8_87, wr_8_88, wr_1_20, wr_8_89, by decide, rfl, (Nat.le_of_ble_eq_true rfl), (Nat.le_of_ble_eq_true rfl)⟩ hmq658993 heq658993 rfl (show 0 + 0 ≤ 1 by first | omega | decide) (show 0 + 0 ≤ p658998.toInt.toNat by first | omega | decide) (Nat.le_of_ble_eq_true rfl) (fun r659022 w659023 dc659019 ds659020 hp659021 => ?_) (fun _ _ _ _ _ z => z.elim)
  obtain ⟨rfl, rfl, hdc, hds⟩ := hp659021
  change G _ _ _ _ _ _ _ (.int p658998 :: _) _ _ _
  refine G_widen (cs' := 0) (sl' := 0) (by omega) (by omega) ?_
  refine G_istore (L' := [(4, .int p658998), (3, .ref q658994), (0, .ref q658992), (1, .ref q658993), (2, .null)]) dr_cJ0_init_db425_13 (Nat.le_of_ble_eq_true rfl) rfl ?_
  refine G_aload_n 3 dr_cJ0_init_db425_15 rfl ?_
  refine Gw_callVB (As := []) (gV_ok D I) (cp_657792_AbstractStringBuilder_isLatin1 l hl0 D I P658990 F658991 q658993 q658994 p658997 p658998 f658999 n659000 hmq658993 hmq658994 heq658993 heq658994 bp658997 bp658998 bf658999 (by have qa0 : Int32.toInt 0 = 0 := (by decide); omega)) dr_cJ0_init_db425_16 ⟨wr_8_92, wr_1_19, wr_8_37, by decide, rfl, (Nat.le_of_ble_eq_true rfl), (Nat.le_of_ble_eq_true rfl)⟩ wr_8_34 wr_8_36 hmq658993 heq658993 rfl (show 0 + 0 ≤ 1 by first | omega | decide) (show 0 + 0 ≤ p658998.toInt.toNat by first | omega | decide) (Nat.le_of_ble_eq_true rfl) (fun r659027 w659028 dc659024 ds659025 hp659026 => ?_) (fun _ _ _ _ _ z => z.elim)
  obtain ⟨rfl, rfl, hdc, hds⟩ := hp659026
  change G _ _ _ _ _ _ _ (.int 1 :: _) _ _ _
  refine G_widen (cs' := 0) (sl' := 0) (by omega) (by omega) ?_
  refine G_if_eq 41 dr_cJ0_init_db425_19 (by decide +kernel) (fun hc => absurd hc (by decide)) (fun _ => ?_)
  refine G_aload_n 2 dr_cJ0_init_db425_22 rfl ?_
  refine G_iconst 0 dr_cJ0_init_db425_23 (by decide +kernel) ?_
  refine Gp_putF 1 hmq658992 heq658992 dr_cJ0_init_db425_24 (gk_J0 D I) (Nat.le_of_ble_eq_true rfl) wr_8_183 rfl rfl rfl rfl rfl (Nat.le_of_ble_eq_true rfl) (fun F659029 e659030 n659031 => ?_)
  have he659032 : F659029 q658993 = .inr (1, [.ref q658994, .int 0, .int p658997, .int p658998]) := (n659031 q658993 (rn_oo heq658993 heq658992 (by decide))).trans heq658993
  have he659033 : F659029 q658994 = .inl (I .byte, n659000, .inl f658999) := (n659031 q658994 (rn_ao heq658994 heq658992)).trans heq658994
  have he659034 : F659029 q658992 = .inr (0, [.null, .int 0, .int p658995, .int p658996]) := e659030
  have hfr659035 : rFr [q658992] P658990 F658991 F659029 := rFr_put (rFr_rf (W := []) (P := P658990) (F := F658991)) n659031
  refine G_aload_n 2 dr_cJ0_init_db425_27 rfl ?_
  refine G_aload_n 1 dr_cJ0_init_db425_28 rfl ?_
  refine G_iconst 0 dr_cJ0_init_db425_29 (by decide +kernel) ?_
  refine G_iload 0 dr_cJ0_init_db425_30 rfl ?_
  refine Gw_callS (As := [.ref q658994, .int 0, .int p658998]) (gV_ok D I) (cp_659044_Arrays_copyOfRange l hl0 D I P658990 F659029 q658994 p658998 f658999 n659000 hmq658994 he659033 bp658998 bf658999 (by have qa0 : Int32.toInt 0 = 0 := (by decide); omega) (by have qa0 : Int32.toInt 0 = 0 := (by decide); omega)) dr_cJ0_init_db425_32 ⟨wr_8_93, wr_1_30, wr_8_95, by decide, rfl, (Nat.le_of_ble_eq_true rfl), (Nat.le_of_ble_eq_true rfl)⟩ wr_8_94 (show 0 + 1 ≤ 1 by first | omega | decide) (show 0 + p658998.toInt.toNat ≤ p658998.toInt.toNat by first | omega | decide) (Nat.le_of_ble_eq_true rfl) (fun r659142 w659143 dc659139 ds659140 hp659141 => ?_) (fun _ _ _ _ _ z => z.elim)
  obtain ⟨P659150, F659151, q659144, n659145, f659146, rfl, rfl, hsb659152, hfr659153, he659154, he659155, hm659156, hq659157, hdc, hds, bf659146, x659147, x659148, ht659149⟩ := hp659141
  have hm659158 : q658992 ∈ P659150 := hsb659152 q658992 hmq658992
  have hm659159 : q658993 ∈ P659150 := hsb659152 q658993 hmq658993
  have hm659160 : q658994 ∈ P659150 := hsb659152 q658994 hmq658994
  have hq659161 : q659144 ∉ P658990 := fun z => hq659157 ((rSub_rf (P := P658990)) q659144 z)
  have hsb659162 : rSub P658990 P659150 := rSub_tr (rSub_rf (P := P658990)) hsb659152
  have he659163 : F659151 q658992 = .inr (0, [.null, .int 0, .int p658995, .int p658996]) := (hfr659153 q658992 hmq658992 nm_n).trans he659034
  have he659164 : F659151 q658993 = .inr (1, [.ref q658994, .int 0, .int p658997, .int p658998]) := (hfr659153 q658993 hmq658993 nm_n).trans he659032
  have hfr659165 : rFr [q658992] P658990 F658991 F659151 := rFr_call (rSub_rf (P := P658990)) hfr659035 hfr659153 (fun b hb hn => ⟨(nm_c (fun e => hn (e ▸ List.mem_cons_self)) nm_n), nm_n⟩)
  change G _ _ _ _ _ _ _ (.ref q659144 :: _) _ _ _
  refine G_widen (cs' := 1) (sl' := p658998.toInt.toNat) (by omega) (by omega) ?_
  refine Gp_putF 0 hm659158 he659163 dr_cJ0_init_db425_35 (gk_J0 D I) (Nat.le_of_ble_eq_true rfl) wr_8_182 rfl rfl rfl rfl rfl (Nat.le_of_ble_eq_true rfl) (fun F659166 e659167 n659168 => ?_)
  have he659169 : F659166 q658993 = .inr (1, [.ref q658994, .int 0, .int p658997, .int p658998]) := (n659168 q658993 (rn_oo he659164 he659163 (by decide))).trans he659164
  have he659170 : F659166 q658994 = .inl (I .byte, n659000, .inl f658999) := (n659168 q658994 (rn_ao he659154 he659163)).trans he659154
  have he659171 : F659166 q659144 = .inl (I .byte, n659145, .inl f659146) := (n659168 q659144 (fun h => hq659161 (h ▸ hmq658992))).trans he659155
  have he659172 : F659166 q658992 = .inr (0, [.ref q659144, .int 0, .int p658995, .int p658996]) := e659167
  have hfr659173 : rFr [q658992] P658990 F658991 F659166 := rFr_put' List.mem_cons_self hfr659165 n659168
  refine G_goto 97 dr_cJ0_init_db425_38 (by decide +kernel) ?_
  exact G_vretA dr_cJ0_init_db425_97 rfl (Nat.le_of_ble_eq_true rfl) (show p658998.toInt.toNat ≤ p658998.toInt.toNat by omega) ⟨P659150, F659166, q659144, n659145, f659146, rfl, rfl, hsb659162, hfr659173, he659172, he659169, he659170, he659171, hm659156, hq659161, (Nat.le_of_ble_eq_true rfl), (by omega), bf659146, (by have qa0 : Int32.toInt 0 = 0 := (by decide); omega), (sK_c x659148 (by omega)), (fun R c1 => c1 n659145 f659146 ht659149)⟩
/- tr_RString_init: a.0.value.#, a.0.value.[] -/
def tr_RString_init (a1_count : Int32) (a1_value_v : Nat → Int32) (a1_value_n : Nat) (o1 : Nat) (o2 : Nat → Int32) : Prop := ∀ R : (Nat) → (Nat → Int32) → Prop,
  (∀ (x1 : Nat) (x2 : Nat → Int32), tr_RString_init2 a1_count a1_value_v a1_value_n x1 x2 → R x1 x2) →
  R o1 o2
abbrev ky_658989_String_init : gKey := (cJ0_init_81219, 2, "java/lang/String", none, [], "<init>", fun _ _ => True)
def pp_658989_String_init (D : va_G) (I : FieldType → ClassId) (P658976 : List Nat) (F658977 : Nat → va_E) (q658978 : Nat) (q658979 : Nat) (q658980 : Nat) (p658981 : Int32) (p658982 : Int32) (p658983 : Int32) (p658984 : Int32) (f658985 : Nat → Int32) (n658986 : Nat) : Option Value → va_W → Nat → Nat → Prop := fun r w dc ds => ∃ (P659209 : List Nat) (F659210 : Nat → va_E) (q659206 : Nat) (n659207 : Nat) (f659208 : Nat → Int32), r = none ∧ w = va_pl P659209 F659210 ∧ rSub P658976 P659209 ∧ rFr [q658978] P658976 F658977 F659210 ∧ F659210 q658978 = .inr (0, [.ref q659206, .int 0, .int p658981, .int p658982]) ∧ F659210 q658979 = .inr (1, [.ref q658980, .int 0, .int p658983, .int p658984]) ∧ F659210 q658980 = .inl (I .byte, n658986, .inl f658985) ∧ F659210 q659206 = .inl (I .byte, n659207, .inl f659208) ∧ q659206 ∈ P659209 ∧ q659206 ∉ P658976 ∧ dc ≤ 1 ∧ ds ≤ p658984.toInt.toNat ∧ gF f659208 (-128) 127 ∧ (n659207 : Int) = p658984.toInt ∧ sK f658985 f659208 p658984.toInt ∧ tr_RString_init p658984 f658985 n658986 n659207 f659208
set_option maxRecDepth 100000 in
set_option maxHeartbeats 4000000 in
theorem cp_658989_String_init (l : Launch) (hl0 : l.stackTraces = false) (D : va_G) (I : FieldType → ClassId) (P658976 : List Nat) (F658977 : Nat → va_E) (q658978 : Nat) (q658979 : Nat) (q658980 : Nat) (p658981 : Int32) (p658982 : Int32) (p658983 : Int32) (p658984 : Int32) (f658985 : Nat → Int32) (n658986 : Nat) (hmq658978 : q658978 ∈ P658976) (hmq658979 : q658979 ∈ P658976) (hmq658980 : q658980 ∈ P658976) (heq658978 : F658977 q658978 = .inr (0, [.null, .int 0, .int p658981, .int p658982])) (heq658979 : F658977 q658979 = .inr (1, [.ref q658980, .int 0, .int p658983, .int p658984])) (heq658980 : F658977 q658980 = .inl (I .byte, n658986, .inl f658985)) (bp658982 : gB p658982 0 1) (bp658983 : gB p658983 0 1) (bp658984 : gB p658984 0 16777216) (bf658985 : gF f658985 (-128) 127) (x658987 : p658984.toInt ≤ (n658986 : Int)) (x658988 : ((n658986 : Int) ≤ 16777216)) : CtA (gV D I) l yJ0_init_81219 cJ0_init_81219 2 none 4 91 1 p658984.toInt.toNat [.ref q658978, .ref q658979] (va_pl P658976 F658977) (pp_658989_String_init D I P658976 F658977 q658978 q658979 q658980 p658981 p658982 p658983 p658984 f658985 n658986) gNA := by
  refine CtA_ofF hl0 (by decide +kernel) (Nat.le_of_ble_eq_true rfl) ?_
  have bp658981 := gB_any p658981
  refine G_aload_n 0 dr_cJ0_init_81219_0 rfl ?_
  refine G_aload_n 1 dr_cJ0_init_81219_1 rfl ?_
  refine G_null dr_cJ0_init_81219_2 ?_
  refine Gw_callI (As := [.ref q658979, .null]) (gV_ok D I) (cp_659003_String_init l hl0 D I P658976 F658977 q658978 q658979 q658980 p658981 p658982 p658983 p658984 f658985 n658986 hmq658978 hmq658979 hmq658980 heq658978 heq658979 heq658980 bp658982 bp658983 bp658984 bf658985 (by have qa0 : Int32.toInt 0 = 0 := (by decide); omega) (by have qa0 : Int32.toInt 0 = 0 := (by decide); omega)) dr_cJ0_init_81219_3 ⟨wr_8_75, wr_1_21, wr_8_77, by decide, rfl, (Nat.le_of_ble_eq_true rfl), (Nat.le_of_ble_eq_true rfl)⟩ wr_8_76 rfl (show 0 + 1 ≤ 1 by first | omega | decide) (show 0 + p658984.toInt.toNat ≤ p658984.toInt.toNat by first | omega | decide) (Nat.le_of_ble_eq_true rfl) (fun r659182 w659183 dc659179 ds659180 hp659181 => ?_)
  obtain ⟨P659190, F659191, q659184, n659185, f659186, rfl, rfl, hsb659192, hfr659193, he659194, he659195, he659196, he659197, hm659198, hq659199, hdc, hds, bf659186, x659187, x659188, ht659189⟩ := hp659181
  have hm659200 : q658978 ∈ P659190 := hsb659192 q658978 hmq658978
  have hm659201 : q658979 ∈ P659190 := hsb659192 q658979 hmq658979
  have hm659202 : q658980 ∈ P659190 := hsb659192 q658980 hmq658980
  have hq659203 : q659184 ∉ P658976 := fun z => hq659199 ((rSub_rf (P := P658976)) q659184 z)
  have hsb659204 : rSub P658976 P659190 := rSub_tr (rSub_rf (P := P658976)) hsb659192
  have hfr659205 : rFr [q658978] P658976 F658977 F659191 := rFr_call (rSub_rf (P := P658976)) (rFr_rf (W := []) (P := P658976) (F := F658977)) hfr659193 (fun b hb hn => ⟨nm_n, (nm_c (fun e => hn (e ▸ List.mem_cons_self)) nm_n)⟩)
  change G _ _ _ _ _ _ _ _ _ _ _
  refine G_widen (cs' := 1) (sl' := p658984.toInt.toNat) (by omega) (by omega) ?_
  exact G_vretA dr_cJ0_init_81219_6 rfl (Nat.le_of_ble_eq_true rfl) (show p658984.toInt.toNat ≤ p658984.toInt.toNat by omega) ⟨P659190, F659191, q659184, n659185, f659186, rfl, rfl, hsb659204, hfr659205, he659194, he659195, he659196, he659197, hm659198, hq659203, (Nat.le_of_ble_eq_true rfl), (by omega), bf659186, (by have qa0 : Int32.toInt 0 = 0 := (by decide); omega), (sK_c x659188 (by omega)), (fun R c1 => c1 n659185 f659186 ht659189)⟩
/- tr_RStringBuilder_toString: a.1.value.#, a.1.value.[] -/
def tr_RStringBuilder_toString (a0_count : Int32) (a0_value_v : Nat → Int32) (a0_value_n : Nat) (o1 : Nat) (o2 : Nat → Int32) : Prop := ∀ R : (Nat) → (Nat → Int32) → Prop,
  (∀ (x1 : Nat) (x2 : Nat → Int32), tr_RString_init a0_count a0_value_v a0_value_n x1 x2 → R x1 x2) →
  R o1 o2
abbrev ky_658959_StringBuilder_toString : gKey := (cJ4_toString_0e30d, 1, "java/lang/StringBuilder", (some (FieldType.object "java/lang/String")), [], "toString", fun _ _ => True)
def pp_658959_StringBuilder_toString (D : va_G) (I : FieldType → ClassId) (P658949 : List Nat) (F658950 : Nat → va_E) (q658951 : Nat) (q658952 : Nat) (p658953 : Int32) (p658954 : Int32) (f658955 : Nat → Int32) (n658956 : Nat) : Option Value → va_W → Nat → Nat → Prop := fun r w dc ds => ∃ (P659242 : List Nat) (F659243 : Nat → va_E) (q659238 : Nat) (q659239 : Nat) (n659240 : Nat) (f659241 : Nat → Int32), r = some (.ref q659238) ∧ w = va_pl P659242 F659243 ∧ rSub P658949 P659242 ∧ rFr [] P658949 F658950 F659243 ∧ F659243 q659238 = .inr (0, [.ref q659239, .int 0, .int 0, .int 0]) ∧ F659243 q658951 = .inr (1, [.ref q658952, .int 0, .int p658953, .int p658954]) ∧ F659243 q658952 = .inl (I .byte, n658956, .inl f658955) ∧ F659243 q659239 = .inl (I .byte, n659240, .inl f659241) ∧ q659238 ∈ P659242 ∧ q659238 ∉ P658949 ∧ q659239 ∈ P659242 ∧ q659239 ∉ P658949 ∧ dc ≤ 2 ∧ ds ≤ p658954.toInt.toNat + 4 ∧ gF f659241 (-128) 127 ∧ (n659240 : Int) = p658954.toInt ∧ sK f658955 f659241 p658954.toInt ∧ tr_RStringBuilder_toString p658954 f658955 n658956 n659240 f659241
set_option maxRecDepth 100000 in
set_option maxHeartbeats 4000000 in
theorem cp_658959_StringBuilder_toString (l : Launch) (hl0 : l.stackTraces = false) (D : va_G) (I : FieldType → ClassId) (P658949 : List Nat) (F658950 : Nat → va_E) (q658951 : Nat) (q658952 : Nat) (p658953 : Int32) (p658954 : Int32) (f658955 : Nat → Int32) (n658956 : Nat) (hmq658951 : q658951 ∈ P658949) (hmq658952 : q658952 ∈ P658949) (heq658951 : F658950 q658951 = .inr (1, [.ref q658952, .int 0, .int p658953, .int p658954])) (heq658952 : F658950 q658952 = .inl (I .byte, n658956, .inl f658955)) (bp658953 : gB p658953 0 1) (bp658954 : gB p658954 0 16777216) (bf658955 : gF f658955 (-128) 127) (x658957 : p658954.toInt ≤ (n658956 : Int)) (x658958 : ((n658956 : Int) ≤ 16777216)) : CtA (gV D I) l yJ4_toString_0e30d cJ4_toString_0e30d 1 (some (FieldType.object "java/lang/String")) 5 112 2 (p658954.toInt.toNat + 4) [.ref q658951] (va_pl P658949 F658950) (pp_658959_StringBuilder_toString D I P658949 F658950 q658951 q658952 p658953 p658954 f658955 n658956) gNA := by
  refine CtA_ofF hl0 (by decide +kernel) (Nat.le_of_ble_eq_true rfl) ?_
  refine G_new [.null, .int 0, .int 0, .int 0] dr_cJ4_toString_0e30d_0 (gk_J0 D I) wr_8_70 wr_8_71 wr_1_21 (gfs_J0) (show 0 + 1 ≤ 2 by first | omega | decide) (show 0 + 4 ≤ (p658954.toInt.toNat + 4) by first | omega | decide) (fun q658960 => Gp_in (fun P658961 F658962 hq658963 hP658964 e658965 n658966 => ?_))
  refine G_widen (cs' := 1) (sl' := 4) (by omega) (by omega) ?_
  have he658967 : F658962 q658951 = .inr (1, [.ref q658952, .int 0, .int p658953, .int p658954]) := (n658966 q658951 (fun h => hq658963 (h ▸ hmq658951))).trans heq658951
  have he658968 : F658962 q658952 = .inl (I .byte, n658956, .inl f658955) := (n658966 q658952 (fun h => hq658963 (h ▸ hmq658952))).trans heq658952
  have he658969 : F658962 q658960 = .inr (0, [.null, .int 0, .int 0, .int 0]) := e658965
  have hm658970 : q658951 ∈ P658961 := (hP658964 q658951).mpr (Or.inl hmq658951)
  have hm658971 : q658952 ∈ P658961 := (hP658964 q658952).mpr (Or.inl hmq658952)
  have hm658972 : q658960 ∈ P658961 := (hP658964 q658960).mpr (Or.inr rfl)
  have hq658973 : q658960 ∉ P658949 := fun z => hq658963 ((rSub_rf (P := P658949)) q658960 z)
  have hfr658974 : rFr [] P658949 F658950 F658962 := rFr_new (rSub_rf (P := P658949)) hq658963 (rFr_rf (W := []) (P := P658949) (F := F658950)) n658966
  have hsb658975 : rSub P658949 P658961 := rSub_new (rSub_rf (P := P658949)) hP658964
  refine G_dup dr_cJ4_toString_0e30d_3 rfl ?_
  refine G_aload_n 0 dr_cJ4_toString_0e30d_4 rfl ?_
  refine Gw_callI (As := [.ref q658951]) (gV_ok D I) (cp_658989_String_init l hl0 D I P658961 F658962 q658960 q658951 q658952 0 0 p658953 p658954 f658955 n658956 hm658972 hm658970 hm658971 he658969 he658967 he658968 (gB_w (gBl (show Int32.toInt 0 = 0 by decide)) (by decide) (by decide)) bp658953 bp658954 bf658955 (by have qa0 : Int32.toInt 0 = 0 := (by decide); omega) (by have qa0 : Int32.toInt 0 = 0 := (by decide); omega)) dr_cJ4_toString_0e30d_5 ⟨wr_8_72, wr_1_21, wr_8_74, by decide, rfl, (Nat.le_of_ble_eq_true rfl), (Nat.le_of_ble_eq_true rfl)⟩ wr_8_73 rfl (show 1 + 1 ≤ 2 by first | omega | decide) (show 4 + p658954.toInt.toNat ≤ (p658954.toInt.toNat + 4) by first | omega | decide) (Nat.le_of_ble_eq_true rfl) (fun r659214 w659215 dc659211 ds659212 hp659213 => ?_)
  obtain ⟨P659222, F659223, q659216, n659217, f659218, rfl, rfl, hsb659224, hfr659225, he659226, he659227, he659228, he659229, hm659230, hq659231, hdc, hds, bf659218, x659219, x659220, ht659221⟩ := hp659213
  have hm659232 : q658951 ∈ P659222 := hsb659224 q658951 hm658970
  have hm659233 : q658952 ∈ P659222 := hsb659224 q658952 hm658971
  have hm659234 : q658960 ∈ P659222 := hsb659224 q658960 hm658972
  have hq659235 : q659216 ∉ P658949 := fun z => hq659231 (hsb658975 q659216 z)
  have hsb659236 : rSub P658949 P659222 := rSub_tr hsb658975 hsb659224
  have hfr659237 : rFr [] P658949 F658950 F659223 := rFr_call hsb658975 hfr658974 hfr659225 (fun b hb hn => ⟨nm_n, (nm_c (fun e => hq658973 (e ▸ hb)) nm_n)⟩)
  change G _ _ _ _ _ _ _ _ _ _ _
  refine G_widen (cs' := 2) (sl' := 4 + p658954.toInt.toNat) (by omega) (by omega) ?_
  exact G_aretA (FieldType.object "java/lang/String") dr_cJ4_toString_0e30d_8 rfl (by first | exact Or.inl ⟨_, rfl⟩ | exact Or.inr ⟨_, rfl⟩) (Or.inr ⟨_, rfl⟩) (Nat.le_of_ble_eq_true rfl) (show 4 + p658954.toInt.toNat ≤ (p658954.toInt.toNat + 4) by omega) ⟨P659222, F659223, q658960, q659216, n659217, f659218, rfl, rfl, hsb659236, hfr659237, he659226, he659227, he659228, he659229, hm659234, hq658973, hm659230, hq659235, (Nat.le_of_ble_eq_true rfl), (by omega), bf659218, (by have qa0 : Int32.toInt 0 = 0 := (by decide); omega), (sK_c x659220 (by omega)), (fun R c1 => c1 n659217 f659218 ht659221)⟩
/- tl_RStringLatin1_equals_9: l2; out:  -/
def tl_RStringLatin1_equals_9 (a0_n : Nat) (a0_v : Nat → Int32) (bs : List Int32) (s1 : Int32) (k : Nat) : Prop := ∀ R : (Int32) → Nat → Prop,
  (∀ (l2_1 : Int32) (x1 : Int32), gB l2_1 0 16777216 → x1.toInt = (a0_n : Nat) → x1.toInt ≤ l2_1.toInt → R l2_1 32) →
  (∀ (l2_1 : Int32) (x1 : Int32) (x2 : Int32) (x3 : Int32) (x4 : Int32) (k : Nat), gB l2_1 0 16777216 → x1.toInt = (a0_n : Nat) → l2_1.toInt < x1.toInt → x2 = a0_v l2_1.toNatClampNeg → gB x2 (-128) 127 → x3 = bs.getD l2_1.toNatClampNeg 0 → x2.toInt = x3.toInt → x4.toInt = l2_1.toInt + 1 → R x4 k → R l2_1 k) →
  (∀ (l2_1 : Int32) (x1 : Int32) (x2 : Int32) (x3 : Int32), gB l2_1 0 16777216 → x1.toInt = (a0_n : Nat) → l2_1.toInt < x1.toInt → x2 = a0_v l2_1.toNatClampNeg → gB x2 (-128) 127 → x3 = bs.getD l2_1.toNatClampNeg 0 → x2.toInt ≠ x3.toInt → R l2_1 24) →
  R s1 k
/- tr_RStringLatin1_equals: result -/
def tr_RStringLatin1_equals (bs : List Int32) (a0_v : Nat → Int32) (a0_n : Nat) (o1 : Int32) : Prop := ∀ R : (Int32) → Prop,
  (∀ (x1 : Int32) (x2 : Int32), x1.toInt = (a0_n : Nat) → x2.toInt = (bs.length : Int) → x1.toInt ≠ x2.toInt → R (0 : Int32)) →
  (∀ (x1 : Int32) (x2 : Int32), x1.toInt = (a0_n : Nat) → x2.toInt = (bs.length : Int) → x1.toInt = x2.toInt → tl_RStringLatin1_equals_9 a0_n a0_v bs (0 : Int32) 32 → R (1 : Int32)) →
  (∀ (x1 : Int32) (x2 : Int32), x1.toInt = (a0_n : Nat) → x2.toInt = (bs.length : Int) → x1.toInt = x2.toInt → tl_RStringLatin1_equals_9 a0_n a0_v bs (0 : Int32) 24 → R (0 : Int32)) →
  R o1
abbrev ky_659266_StringLatin1_equals : gKey := (cJ1_equals_b5fdf, 3, "java/lang/StringLatin1", (some FieldType.boolean), [], "equals", fun _ _ => True)
def pp_659266_StringLatin1_equals (D : va_G) (I : FieldType → ClassId) (P659258 : List Nat) (F659259 : Nat → va_E) (q659260 : Nat) (qs659261 : Nat) (bs659262 : List Int32) (f659263 : Nat → Int32) (n659264 : Nat) : Option Value → va_W → Nat → Nat → Prop := fun r w dc ds => ∃ (o659349 : Int32), r = some (.int o659349) ∧ w = va_pl P659258 F659259 ∧ dc ≤ 0 ∧ ds ≤ 0 ∧ gB o659349 0 1 ∧ tr_RStringLatin1_equals bs659262 f659263 n659264 o659349
set_option maxRecDepth 100000 in
set_option maxHeartbeats 4000000 in
theorem cp_659266_StringLatin1_equals (l : Launch) (hl0 : l.stackTraces = false) (D : va_G) (I : FieldType → ClassId) (P659258 : List Nat) (F659259 : Nat → va_E) (q659260 : Nat) (qs659261 : Nat) (bs659262 : List Int32) (f659263 : Nat → Int32) (n659264 : Nat) (hmq659260 : q659260 ∈ P659258) (heq659260 : F659259 q659260 = .inl (I .byte, n659264, .inl f659263)) (hbs659262 : ∀ A s H, (gV D I).2.2.2.1 A s H → va_T .byte qs659261 bs659262.length (fun j => .int (bs659262.getD j 0)) A s H) (nbs659262 : (bs659262.length : Int) ≤ 65535) (lbs659262 : gLB bs659262) (bf659263 : gF f659263 (-128) 127) (x659265 : ((n659264 : Int) ≤ 16777216)) : CtA (gV D I) l yJ1_equals_b5fdf cJ1_equals_b5fdf 3 (some FieldType.boolean) 0 0 0 0 [.ref q659260, .ref qs659261] (va_pl P659258 F659259) (pp_659266_StringLatin1_equals D I P659258 F659259 q659260 qs659261 bs659262 f659263 n659264) gNA := by
  refine CtA_ofF hl0 (by decide +kernel) (Nat.le_of_ble_eq_true rfl) ?_
  refine G_aload_n 0 dr_cJ1_equals_b5fdf_0 rfl ?_
  refine Gp_alen (Int32.ofNat n659264) 1 hmq659260 heq659260 dr_cJ1_equals_b5fdf_1 rfl rfl (G_nam fun z659267 hz659267 => ?_)
  have ez659267 : z659267.toInt = (n659264 : Nat) := gI_ofM hz659267 (by omega)
  have bz659267 : gB z659267 0 16777216 := ⟨by omega, by omega⟩
  refine G_aload_n 1 dr_cJ1_equals_b5fdf_2 rfl ?_
  refine G_klen dr_cJ1_equals_b5fdf_3 hbs659262 (G_nam fun z659268 hz659268 => ?_)
  have ez659268 : z659268.toInt = (bs659262.length : Int) := gI_ofN hz659268 nbs659262
  have bz659268 : gB z659268 0 65535 := ⟨by omega, by omega⟩
  refine G_icmp_ne 34 dr_cJ1_equals_b5fdf_4 (by decide +kernel) (fun hc659269 => ?_) (fun hc659269 => ?_)
  · have r659270 : z659267.toInt ≠ z659268.toInt := gC_ne hc659269
    refine G_iconst 0 dr_cJ1_equals_b5fdf_34 (by decide +kernel) ?_
    exact G_zretA FieldType.boolean dr_cJ1_equals_b5fdf_35 rfl rfl (Nat.le_of_ble_eq_true rfl) (Nat.le_of_ble_eq_true rfl) ⟨0, rfl, rfl, (Nat.le_of_ble_eq_true rfl), (Nat.le_of_ble_eq_true rfl), (gB_w (gBl (show Int32.toInt 0 = 0 by decide)) (by decide) (by decide)), (fun R c1 c2 c3 => c1 z659267 z659268 ez659267 ez659268 r659270)⟩
  · have r659271 : z659267.toInt = z659268.toInt := gC_eq hc659269
    have bz659267' : gB z659267 0 65535 := ⟨by omega, by omega⟩
    refine G_iconst 0 dr_cJ1_equals_b5fdf_7 (by decide +kernel) ?_
    refine G_istore_n (L' := [(2, .int 0), (0, .ref q659260), (1, .ref qs659261)]) dr_cJ1_equals_b5fdf_8 (Nat.le_of_ble_eq_true rfl) rfl ?_
    have hlp9_659336 : ∀ (n9_659336 : Nat) (g659336 : Int32), gB g659336 0 16777216 → (∀ (k : Nat), tl_RStringLatin1_equals_9 n659264 f659263 bs659262 g659336 k → tl_RStringLatin1_equals_9 n659264 f659263 bs659262 (0 : Int32) k) → ((16777217 : Int) - g659336.toInt).toNat < n9_659336 → G (gV D I) l (gRm 0 0 0 0) (gMA (gV D I) (pp_659266_StringLatin1_equals D I P659258 F659259 q659260 qs659261 bs659262 f659263 n659264) gNA 0 0) ky_659266_StringLatin1_equals 9 [(2, .int g659336), (0, .ref q659260), (1, .ref qs659261)] [] (va_pl P659258 F659259) 0 0 := by
      intro n9_659336
      induction n9_659336 with
      | zero => intro g659336 bg659336 kt9_659336 hm9_659336; exact absurd hm9_659336 (Nat.not_lt_zero _)
      | succ n9_659336 ih9_659336 =>
        intro g659336 bg659336 kt9_659336 hm9_659336
        refine G_iload_n 0 dr_cJ1_equals_b5fdf_9 rfl ?_
        refine G_aload_n 1 dr_cJ1_equals_b5fdf_10 rfl ?_
        refine Gp_alen (Int32.ofNat n659264) 1 hmq659260 heq659260 dr_cJ1_equals_b5fdf_11 rfl rfl (G_nam fun z659337 hz659337 => ?_)
        have ez659337 : z659337.toInt = (n659264 : Nat) := gI_ofM hz659337 (by omega)
        have bz659337 : gB z659337 0 16777216 := ⟨by omega, by omega⟩
        refine G_icmp_ge 32 dr_cJ1_equals_b5fdf_12 (by decide +kernel) (fun hc659338 => ?_) (fun hc659338 => ?_)
        · have r659339 : z659337.toInt ≤ g659336.toInt := gC_le hc659338
          have hx659340 : tl_RStringLatin1_equals_9 n659264 f659263 bs659262 (0 : Int32) 32 := kt9_659336 32 (fun R c1 c2 c3 => c1 g659336 z659337 bg659336 ez659337 r659339)
          refine G_iconst 1 dr_cJ1_equals_b5fdf_32 (by decide +kernel) ?_
          exact G_zretA FieldType.boolean dr_cJ1_equals_b5fdf_33 rfl rfl (Nat.le_of_ble_eq_true rfl) (Nat.le_of_ble_eq_true rfl) ⟨1, rfl, rfl, (Nat.le_of_ble_eq_true rfl), (Nat.le_of_ble_eq_true rfl), (gB_w (gBl (show Int32.toInt 1 = 1 by decide)) (by decide) (by decide)), (fun R c1 c2 c3 => c2 z659267 z659268 ez659267 ez659268 r659271 hx659340)⟩
        · have r659341 : g659336.toInt < z659337.toInt := gC_nle hc659338
          have bg659336' : gB g659336 0 16777215 := ⟨by omega, by omega⟩
          have bz659337' : gB z659337 1 16777216 := ⟨by omega, by omega⟩
          refine G_aload_n 1 dr_cJ1_equals_b5fdf_15 rfl ?_
          refine G_iload_n 0 dr_cJ1_equals_b5fdf_16 rfl ?_
          refine Gp_bald 1 hmq659260 heq659260 dr_cJ1_equals_b5fdf_17 rfl (gB_inr (by omega) (by omega)) (G_nam fun z659342 hz659342 => ?_)
          have bz659342 : gB z659342 (-128) 127 := by rw [hz659342]; exact bf659263 _
          refine G_aload_n 2 dr_cJ1_equals_b5fdf_18 rfl ?_
          refine G_iload_n 0 dr_cJ1_equals_b5fdf_19 rfl ?_
          refine G_kbald (f := fun j => bs659262.getD j 0) dr_cJ1_equals_b5fdf_20 hbs659262 (gB_inr (by omega) (by omega)) (G_nam fun z659343 hz659343 => ?_)
          have bz659343 : gB z659343 (-2147483648) 2147483647 := gB_any z659343
          refine G_icmp_eq 26 dr_cJ1_equals_b5fdf_21 (by decide +kernel) (fun hc659344 => ?_) (fun hc659344 => ?_)
          · have r659345 : z659342.toInt = z659343.toInt := gC_eq hc659344
            have bz659343' : gB z659343 (-128) 127 := ⟨by omega, by omega⟩
            obtain ⟨z659346, hz659346⟩ : ∃ z : Int32, z = g659336 + Int32.ofInt 1 := ⟨_, rfl⟩
            have ez659346 : z659346.toInt = g659336.toInt + 1 := gI_inc hz659346 (by decide) bg659336' (by decide) (by decide)
            have bz659346 : gB z659346 1 16777216 := ⟨by omega, by omega⟩
            refine G_iinc (L' := [(2, .int z659346), (0, .ref q659260), (1, .ref qs659261)]) z659346 0 dr_cJ1_equals_b5fdf_26 rfl hz659346.symm (Nat.le_of_ble_eq_true rfl) rfl ?_
            refine G_goto 9 dr_cJ1_equals_b5fdf_29 (by decide +kernel) ?_
            exact ih9_659336 z659346 (gB_w bz659346 (by decide) (by decide)) (fun k ht => kt9_659336 k (fun R c1 c2 c3 => c2 g659336 z659337 z659342 z659343 z659346 k bg659336 ez659337 r659341 hz659342 bz659342 hz659343 r659345 ez659346 (ht R c1 c2 c3))) (by omega)
          · have r659347 : z659342.toInt ≠ z659343.toInt := gC_ne hc659344
            have hx659348 : tl_RStringLatin1_equals_9 n659264 f659263 bs659262 (0 : Int32) 24 := kt9_659336 24 (fun R c1 c2 c3 => c3 g659336 z659337 z659342 z659343 bg659336 ez659337 r659341 hz659342 bz659342 hz659343 r659347)
            refine G_iconst 0 dr_cJ1_equals_b5fdf_24 (by decide +kernel) ?_
            exact G_zretA FieldType.boolean dr_cJ1_equals_b5fdf_25 rfl rfl (Nat.le_of_ble_eq_true rfl) (Nat.le_of_ble_eq_true rfl) ⟨0, rfl, rfl, (Nat.le_of_ble_eq_true rfl), (Nat.le_of_ble_eq_true rfl), (gB_w (gBl (show Int32.toInt 0 = 0 by decide)) (by decide) (by decide)), (fun R c1 c2 c3 => c3 z659267 z659268 ez659267 ez659268 r659271 hx659348)⟩
    exact hlp9_659336 (((16777217 : Int) - 0).toNat + 1) 0 (gB_w (gBl (show Int32.toInt 0 = 0 by decide)) (by decide) (by decide)) (fun k ht => ht) (Nat.lt_succ_self _)
/- tr_RString_equals: result -/
def tr_RString_equals (bs : List Int32) (a0_value_v : Nat → Int32) (a0_value_n : Nat) (o1 : Int32) : Prop := ∀ R : (Int32) → Prop,
  (∀ (x1 : Int32), gB x1 0 1 → tr_RStringLatin1_equals bs a0_value_v a0_value_n x1 → x1.toInt = 0 → R (0 : Int32)) →
  (∀ (x1 : Int32), gB x1 0 1 → tr_RStringLatin1_equals bs a0_value_v a0_value_n x1 → x1.toInt ≠ 0 → R (1 : Int32)) →
  R o1
abbrev ky_659256_String_equals : gKey := (cJ0_equals_9ea2d, 3, "java/lang/String", (some FieldType.boolean), [], "equals", fun _ _ => True)
def pp_659256_String_equals (D : va_G) (I : FieldType → ClassId) (P659244 : List Nat) (F659245 : Nat → va_E) (q659246 : Nat) (q659247 : Nat) (qs659248 : Nat) (qb659249 : Nat) (bs659250 : List Int32) (p659251 : Int32) (p659252 : Int32) (f659253 : Nat → Int32) (n659254 : Nat) : Option Value → va_W → Nat → Nat → Prop := fun r w dc ds => (∃ (o659355 : Int32), r = some (.int 0) ∧ w = va_pl P659244 F659245 ∧ dc ≤ 0 ∧ ds ≤ 0 ∧ o659355.toInt = 0 ∧ gB o659355 0 0 ∧ tr_RString_equals bs659250 f659253 n659254 (0 : Int32)) ∨ (∃ (o659355 : Int32), r = some (.int 1) ∧ w = va_pl P659244 F659245 ∧ dc ≤ 0 ∧ ds ≤ 0 ∧ o659355.toInt ≠ 0 ∧ gB o659355 1 1 ∧ tr_RString_equals bs659250 f659253 n659254 (1 : Int32))
set_option maxRecDepth 100000 in
set_option maxHeartbeats 4000000 in
theorem cp_659256_String_equals (l : Launch) (hl0 : l.stackTraces = false) (D : va_G) (I : FieldType → ClassId) (P659244 : List Nat) (F659245 : Nat → va_E) (q659246 : Nat) (q659247 : Nat) (qs659248 : Nat) (qb659249 : Nat) (bs659250 : List Int32) (p659251 : Int32) (p659252 : Int32) (f659253 : Nat → Int32) (n659254 : Nat) (hmq659246 : q659246 ∈ P659244) (hmq659247 : q659247 ∈ P659244) (heq659246 : F659245 q659246 = .inr (0, [.ref q659247, .int 0, .int p659251, .int p659252])) (heq659247 : F659245 q659247 = .inl (I .byte, n659254, .inl f659253)) (hbs659250 : ∀ A s H, (gV D I).2.2.2.1 A s H → gSC qs659248 qb659249 bs659250 A s H) (nbs659250 : (bs659250.length : Int) ≤ 65535) (lbs659250 : gLB bs659250) (bp659252 : gB p659252 0 1) (bf659253 : gF f659253 (-128) 127) (x659255 : ((n659254 : Int) ≤ 16777216)) : CtA (gV D I) l yJ0_equals_9ea2d cJ0_equals_9ea2d 3 (some FieldType.boolean) 1 22 0 0 [.ref q659246, .ref qs659248] (va_pl P659244 F659245) (pp_659256_String_equals D I P659244 F659245 q659246 q659247 qs659248 qb659249 bs659250 p659251 p659252 f659253 n659254) gNA := by
  refine CtA_ofF hl0 (by decide +kernel) (Nat.le_of_ble_eq_true rfl) ?_
  have bp659251 := gB_any p659251
  refine G_aload_n 0 dr_cJ0_equals_9ea2d_0 rfl ?_
  refine G_aload_n 1 dr_cJ0_equals_9ea2d_1 rfl ?_
  refine G_pkne0 hmq659246 (fun _ _ _ h => (hbs659250 _ _ _ h).2.1) (fun hne659257 => ?_)
  refine G_acmp_ne 7 dr_cJ0_equals_9ea2d_2 (by decide +kernel) (fun _ => ?_) (fun hc => absurd hc hne659257)
  refine G_aload_n 1 dr_cJ0_equals_9ea2d_7 rfl ?_
  refine G_instK dr_cJ0_equals_9ea2d_8 wr_9_149 wr_8_71 (fun _ _ _ h => (hbs659250 _ _ _ h).1) ?_
  refine G_if_eq 54 dr_cJ0_equals_9ea2d_11 (by decide +kernel) (fun hc => absurd hc (by decide)) (fun _ => ?_)
  refine G_aload_n 1 dr_cJ0_equals_9ea2d_14 rfl ?_
  refine G_casK dr_cJ0_equals_9ea2d_15 wr_9_149 wr_8_71 (fun _ _ _ h => (hbs659250 _ _ _ h).1) ?_
  refine G_astore_n (L' := [(2, .ref qs659248), (0, .ref q659246), (1, .ref qs659248)]) dr_cJ0_equals_9ea2d_18 (Nat.le_of_ble_eq_true rfl) rfl ?_
  refine G_gets dr_cJ0_equals_9ea2d_19 wr_3_65 gz_cs (fun x hx => ?_)
  subst hx
  refine G_if_eq 36 dr_cJ0_equals_9ea2d_22 (by decide +kernel) (fun hc => absurd hc (by decide)) (fun _ => ?_)
  refine G_aload_n 1 dr_cJ0_equals_9ea2d_25 rfl ?_
  refine Gp_get 1 hmq659246 heq659246 dr_cJ0_equals_9ea2d_26 (gk_J0 D I) (Nat.le_of_ble_eq_true rfl) wr_8_183 rfl ?_
  refine G_aload_n 0 dr_cJ0_equals_9ea2d_29 rfl ?_
  refine G_kget dr_cJ0_equals_9ea2d_30 wr_8_183 (fun _ _ _ h => (hbs659250 _ _ _ h).2.1) ?_
  refine G_icmp_ne 54 dr_cJ0_equals_9ea2d_33 (by decide +kernel) (fun hc => absurd hc (by decide)) (fun _ => ?_)
  refine G_aload_n 1 dr_cJ0_equals_9ea2d_36 rfl ?_
  refine Gp_get 0 hmq659246 heq659246 dr_cJ0_equals_9ea2d_37 (gk_J0 D I) (Nat.le_of_ble_eq_true rfl) wr_8_182 rfl ?_
  refine G_aload_n 0 dr_cJ0_equals_9ea2d_40 rfl ?_
  refine G_kget dr_cJ0_equals_9ea2d_41 wr_8_182 (fun _ _ _ h => (hbs659250 _ _ _ h).2.2.1) ?_
  refine Gw_callS (As := [.ref q659247, .ref qb659249]) (gV_ok D I) (cp_659266_StringLatin1_equals l hl0 D I P659244 F659245 q659247 qb659249 bs659250 f659253 n659254 hmq659247 heq659247 (fun _ _ _ h => (hbs659250 _ _ _ h).2.2.2) (by omega) lbs659250 bf659253 (by have qa0 : Int32.toInt 0 = 0 := (by decide); omega)) dr_cJ0_equals_9ea2d_44 ⟨wr_9_150, wr_1_28, wr_9_152, by decide, rfl, (Nat.le_of_ble_eq_true rfl), (Nat.le_of_ble_eq_true rfl)⟩ wr_9_151 (show 0 + 0 ≤ 0 by first | omega | decide) (show 0 + 0 ≤ 0 by first | omega | decide) (Nat.le_of_ble_eq_true rfl) (fun r659353 w659354 dc659350 ds659351 hp659352 => ?_) (fun _ _ _ _ _ z => z.elim)
  obtain ⟨o659355, rfl, rfl, hdc, hds, bo659355, ht659356⟩ := hp659352
  change G _ _ _ _ _ _ _ (.int o659355 :: _) _ _ _
  refine G_widen (cs' := 0) (sl' := 0) (by omega) (by omega) ?_
  refine G_if_eq 54 dr_cJ0_equals_9ea2d_47 (by decide +kernel) (fun hc659357 => ?_) (fun hc659357 => ?_)
  · have r659358 : o659355.toInt = 0 := gj_eq hc659357 (show Int32.toInt 0 = 0 by decide)
    have bo659355' : gB o659355 0 0 := ⟨by omega, by omega⟩
    refine G_iconst 0 dr_cJ0_equals_9ea2d_54 (by decide +kernel) ?_
    exact G_zretA FieldType.boolean dr_cJ0_equals_9ea2d_55 rfl rfl (Nat.le_of_ble_eq_true rfl) (Nat.le_of_ble_eq_true rfl) (Or.inl ⟨o659355, rfl, rfl, (Nat.le_of_ble_eq_true rfl), (Nat.le_of_ble_eq_true rfl), r659358, bo659355', (fun R c1 c2 => c1 o659355 bo659355 ht659356 r659358)⟩)
  · have r659359 : o659355.toInt ≠ 0 := gj_neq hc659357 (show Int32.toInt 0 = 0 by decide)
    have bo659355' : gB o659355 1 1 := ⟨by omega, by omega⟩
    refine G_iconst 1 dr_cJ0_equals_9ea2d_50 (by decide +kernel) ?_
    refine G_goto 55 dr_cJ0_equals_9ea2d_51 (by decide +kernel) ?_
    exact G_zretA FieldType.boolean dr_cJ0_equals_9ea2d_55 rfl rfl (Nat.le_of_ble_eq_true rfl) (Nat.le_of_ble_eq_true rfl) (Or.inr (⟨o659355, rfl, rfl, (Nat.le_of_ble_eq_true rfl), (Nat.le_of_ble_eq_true rfl), r659359, bo659355', (fun R c1 c2 => c2 o659355 bo659355 ht659356 r659359)⟩))
