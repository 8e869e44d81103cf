theorem dr_cJ5_getValue_6d5f1_0 : decode cJ5_getValue_6d5f1 0 = .ok (.aload_n 0, 1) := by decide +kernel
theorem dr_cJ5_getValue_6d5f1_1 : decode cJ5_getValue_6d5f1 1 = .ok (.getfield 15, 3) := by decide +kernel
theorem dr_cJ5_getValue_6d5f1_4 : decode cJ5_getValue_6d5f1 4 = .ok (.areturn, 1) := by decide +kernel
theorem dr_cJ7_checkLength_df160_0 : decode cJ7_checkLength_df160 0 = .ok (.iload_n 1, 1) := by decide +kernel
theorem dr_cJ7_checkLength_df160_1 : decode cJ7_checkLength_df160 1 = .ok (.iload_n 0, 1) := by decide +kernel
theorem dr_cJ7_checkLength_df160_2 : decode cJ7_checkLength_df160 2 = .ok (.if_icmp .ge 35, 3) := by decide +kernel
theorem dr_cJ7_checkLength_df160_37 : decode cJ7_checkLength_df160 37 = .ok (.return_, 1) := by decide +kernel
theorem dr_cJ7_copyOfRangeByte_39247_0 : decode cJ7_copyOfRangeByte_39247 0 = .ok (.iload_n 1, 1) := by decide +kernel
theorem dr_cJ7_copyOfRangeByte_39247_1 : decode cJ7_copyOfRangeByte_39247 1 = .ok (.iload_n 2, 1) := by decide +kernel
theorem dr_cJ7_copyOfRangeByte_39247_2 : decode cJ7_copyOfRangeByte_39247 2 = .ok (.invokestatic 343, 3) := by decide +kernel
theorem wr_8_99 : (Jvm.Cond.methodLink "java/util/Arrays" (343 : Nat) ({ cls := "java/util/Arrays", name := "checkLength", desc := "(II)V" } : Jvm.MethodName)) ∈ gw := gw_8 99 rfl rfl
theorem wr_8_101 : (Jvm.Cond.code ({ cls := "java/util/Arrays", name := "checkLength", desc := "(II)V" } : Jvm.MethodName) prog_44_method_131_code (2 : Nat) (Option.none : Option Jvm.ClassFile.FieldType)) ∈ gw := gw_8 101 rfl rfl
theorem wr_8_100 : (Jvm.Cond.static ({ cls := "java/util/Arrays", name := "checkLength", desc := "(II)V" } : Jvm.MethodName)) ∈ gw := gw_8 100 rfl rfl
theorem dr_cJ7_copyOfRangeByte_39247_5 : decode cJ7_copyOfRangeByte_39247 5 = .ok (.iload_n 2, 1) := by decide +kernel
theorem dr_cJ7_copyOfRangeByte_39247_6 : decode cJ7_copyOfRangeByte_39247 6 = .ok (.iload_n 1, 1) := by decide +kernel
theorem dr_cJ7_copyOfRangeByte_39247_7 : decode cJ7_copyOfRangeByte_39247 7 = .ok (.isub, 1) := by decide +kernel
theorem dr_cJ7_copyOfRangeByte_39247_8 : decode cJ7_copyOfRangeByte_39247 8 = .ok (.istore_n 3, 1) := by decide +kernel
theorem dr_cJ7_copyOfRangeByte_39247_9 : decode cJ7_copyOfRangeByte_39247 9 = .ok (.iload_n 3, 1) := by decide +kernel
theorem dr_cJ7_copyOfRangeByte_39247_10 : decode cJ7_copyOfRangeByte_39247 10 = .ok (.newarray .byte, 2) := by decide +kernel
theorem dr_cJ7_copyOfRangeByte_39247_12 : decode cJ7_copyOfRangeByte_39247 12 = .ok (.astore 4, 2) := by decide +kernel
theorem dr_cJ7_copyOfRangeByte_39247_14 : decode cJ7_copyOfRangeByte_39247 14 = .ok (.aload_n 0, 1) := by decide +kernel
theorem dr_cJ7_copyOfRangeByte_39247_15 : decode cJ7_copyOfRangeByte_39247 15 = .ok (.iload_n 1, 1) := by decide +kernel
theorem dr_cJ7_copyOfRangeByte_39247_16 : decode cJ7_copyOfRangeByte_39247 16 = .ok (.aload 4, 2) := by decide +kernel
theorem dr_cJ7_copyOfRangeByte_39247_18 : decode cJ7_copyOfRangeByte_39247 18 = .ok (.iconst 0, 1) := by decide +kernel
theorem dr_cJ7_copyOfRangeByte_39247_19 : decode cJ7_copyOfRangeByte_39247 19 = .ok (.aload_n 0, 1) := by decide +kernel
theorem dr_cJ7_copyOfRangeByte_39247_20 : decode cJ7_copyOfRangeByte_39247 20 = .ok (.arraylength, 1) := by decide +kernel
theorem dr_cJ7_copyOfRangeByte_39247_21 : decode cJ7_copyOfRangeByte_39247 21 = .ok (.iload_n 1, 1) := by decide +kernel
theorem dr_cJ7_copyOfRangeByte_39247_22 : decode cJ7_copyOfRangeByte_39247 22 = .ok (.isub, 1) := by decide +kernel
theorem dr_cJ7_copyOfRangeByte_39247_23 : decode cJ7_copyOfRangeByte_39247 23 = .ok (.iload_n 3, 1) := by decide +kernel
theorem dr_cJ7_copyOfRangeByte_39247_24 : decode cJ7_copyOfRangeByte_39247 24 = .ok (.invokestatic 304, 3) := by decide +kernel
theorem dr_cJ7_copyOfRangeByte_39247_27 : decode cJ7_copyOfRangeByte_39247 27 = .ok (.invokestatic 150, 3) := by decide +kernel
theorem dr_cJ7_copyOfRangeByte_39247_30 : decode cJ7_copyOfRangeByte_39247 30 = .ok (.aload 4, 2) := by decide +kernel
theorem dr_cJ7_copyOfRangeByte_39247_32 : decode cJ7_copyOfRangeByte_39247 32 = .ok (.areturn, 1) := by decide +kernel
theorem dr_cJ7_copyOfRange_39247_0 : decode cJ7_copyOfRange_39247 0 = .ok (.iload_n 1, 1) := by decide +kernel
theorem dr_cJ7_copyOfRange_39247_1 : decode cJ7_copyOfRange_39247 1 = .ok (.ifCond .ne 9, 3) := by decide +kernel
theorem dr_cJ7_copyOfRange_39247_4 : decode cJ7_copyOfRange_39247 4 = .ok (.iload_n 2, 1) := by decide +kernel
theorem dr_cJ7_copyOfRange_39247_5 : decode cJ7_copyOfRange_39247 5 = .ok (.aload_n 0, 1) := by decide +kernel
theorem dr_cJ7_copyOfRange_39247_6 : decode cJ7_copyOfRange_39247 6 = .ok (.arraylength, 1) := by decide +kernel
theorem dr_cJ7_copyOfRange_39247_7 : decode cJ7_copyOfRange_39247 7 = .ok (.if_icmp .eq 10, 3) := by decide +kernel
theorem dr_cJ7_copyOfRange_39247_17 : decode cJ7_copyOfRange_39247 17 = .ok (.aload_n 0, 1) := by decide +kernel
theorem dr_cJ7_copyOfRange_39247_18 : decode cJ7_copyOfRange_39247 18 = .ok (.invokevirtual 310, 3) := by decide +kernel
theorem wr_8_24 : (Jvm.Cond.methodLink "java/util/Arrays" (310 : Nat) ({ cls := "[B", name := "clone", desc := "()Ljava/lang/Object;" } : Jvm.MethodName)) ∈ gw := gw_8 24 rfl rfl
theorem wr_8_25 : (Jvm.Cond.sameMethod "[B" "java/lang/Object" "clone" "()Ljava/lang/Object;") ∈ gw := gw_8 25 rfl rfl
theorem wr_8_26 : (Jvm.Cond.native ({ cls := "java/lang/Object", name := "clone", desc := "()Ljava/lang/Object;" } : Jvm.MethodName)) ∈ gw := gw_8 26 rfl rfl
theorem wr_8_27 : (Jvm.Cond.instanceMethod ({ cls := "java/lang/Object", name := "clone", desc := "()Ljava/lang/Object;" } : Jvm.MethodName)) ∈ gw := gw_8 27 rfl rfl
theorem wr_8_28 : (Jvm.Cond.selects "[B" ({ cls := "[B", name := "clone", desc := "()Ljava/lang/Object;" } : Jvm.MethodName) ({ cls := "java/lang/Object", name := "clone", desc := "()Ljava/lang/Object;" } : Jvm.MethodName)) ∈ gw := gw_8 28 rfl rfl
theorem dr_cJ7_copyOfRange_39247_21 : decode cJ7_copyOfRange_39247 21 = .ok (.checkcast 311, 3) := by decide +kernel
theorem wr_8_30 : (Jvm.Cond.classLink "java/util/Arrays" (311 : Nat) "[B") ∈ gw := gw_8 30 rfl rfl
theorem dr_cJ7_copyOfRange_39247_24 : decode cJ7_copyOfRange_39247 24 = .ok (.areturn, 1) := by decide +kernel
theorem dr_cJ7_copyOfRange_39247_10 : decode cJ7_copyOfRange_39247 10 = .ok (.aload_n 0, 1) := by decide +kernel
theorem dr_cJ7_copyOfRange_39247_11 : decode cJ7_copyOfRange_39247 11 = .ok (.iload_n 1, 1) := by decide +kernel
theorem dr_cJ7_copyOfRange_39247_12 : decode cJ7_copyOfRange_39247 12 = .ok (.iload_n 2, 1) := by decide +kernel
theorem dr_cJ7_copyOfRange_39247_13 : decode cJ7_copyOfRange_39247 13 = .ok (.invokestatic 339, 3) := by decide +kernel
theorem wr_8_96 : (Jvm.Cond.methodLink "java/util/Arrays" (339 : Nat) ({ cls := "java/util/Arrays", name := "copyOfRangeByte", desc := "([BII)[B" } : Jvm.MethodName)) ∈ gw := gw_8 96 rfl rfl
theorem wr_8_98 : (Jvm.Cond.code ({ cls := "java/util/Arrays", name := "copyOfRangeByte", desc := "([BII)[B" } : Jvm.MethodName) prog_44_method_133_code (5 : Nat) (Option.some (Jvm.ClassFile.FieldType.array Jvm.ClassFile.FieldType.byte))) ∈ gw := gw_8 98 rfl rfl
theorem wr_8_97 : (Jvm.Cond.static ({ cls := "java/util/Arrays", name := "copyOfRangeByte", desc := "([BII)[B" } : Jvm.MethodName)) ∈ gw := gw_8 97 rfl rfl
theorem dr_cJ7_copyOfRange_39247_16 : decode cJ7_copyOfRange_39247 16 = .ok (.areturn, 1) := by decide +kernel
theorem dr_cJ0_init_db425_0 : decode cJ0_init_db425 0 = .ok (.aload_n 0, 1) := by decide +kernel
theorem dr_cJ0_init_db425_1 : decode cJ0_init_db425 1 = .ok (.invokespecial 1, 3) := by decide +kernel
theorem wr_8_78 : (Jvm.Cond.methodLink "java/lang/String" (1 : Nat) ({ cls := "java/lang/Object", name := "<init>", desc := "()V" } : Jvm.MethodName)) ∈ gw := gw_8 78 rfl rfl
theorem dr_cJ0_init_db425_4 : decode cJ0_init_db425 4 = .ok (.aload_n 1, 1) := by decide +kernel
theorem dr_cJ0_init_db425_5 : decode cJ0_init_db425 5 = .ok (.invokevirtual 552, 3) := by decide +kernel
theorem wr_8_79 : (Jvm.Cond.methodLink "java/lang/String" (552 : Nat) ({ cls := "java/lang/AbstractStringBuilder", name := "getValue", desc := "()[B" } : Jvm.MethodName)) ∈ gw := gw_8 79 rfl rfl
theorem wr_8_83 : (Jvm.Cond.code ({ cls := "java/lang/AbstractStringBuilder", name := "getValue", desc := "()[B" } : Jvm.MethodName) prog_21_method_64_code (1 : Nat) (Option.some (Jvm.ClassFile.FieldType.array Jvm.ClassFile.FieldType.byte))) ∈ gw := gw_8 83 rfl rfl
theorem wr_8_80 : (Jvm.Cond.instanceMethod ({ cls := "java/lang/AbstractStringBuilder", name := "getValue", desc := "()[B" } : Jvm.MethodName)) ∈ gw := gw_8 80 rfl rfl
theorem wr_8_82 : (Jvm.Cond.selects "java/lang/StringBuilder" ({ cls := "java/lang/AbstractStringBuilder", name := "getValue", desc := "()[B" } : Jvm.MethodName) ({ cls := "java/lang/AbstractStringBuilder", name := "getValue", desc := "()[B" } : Jvm.MethodName)) ∈ gw := gw_8 82 rfl rfl
theorem dr_cJ0_init_db425_8 : decode cJ0_init_db425 8 = .ok (.astore_n 3, 1) := by decide +kernel
theorem dr_cJ0_init_db425_9 : decode cJ0_init_db425 9 = .ok (.aload_n 1, 1) := by decide +kernel
theorem dr_cJ0_init_db425_10 : decode cJ0_init_db425 10 = .ok (.invokevirtual 549, 3) := by decide +kernel
theorem wr_8_84 : (Jvm.Cond.methodLink "java/lang/String" (549 : Nat) ({ cls := "java/lang/AbstractStringBuilder", name := "length", desc := "()I" } : Jvm.MethodName)) ∈ gw := gw_8 84 rfl rfl
theorem wr_8_87 : (Jvm.Cond.selects "java/lang/StringBuilder" ({ cls := "java/lang/AbstractStringBuilder", name := "length", desc := "()I" } : Jvm.MethodName) ({ cls := "java/lang/StringBuilder", name := "length", desc := "()I" } : Jvm.MethodName)) ∈ gw := gw_8 87 rfl rfl
theorem wr_8_88 : (Jvm.Cond.instanceMethod ({ cls := "java/lang/StringBuilder", name := "length", desc := "()I" } : Jvm.MethodName)) ∈ gw := gw_8 88 rfl rfl
theorem wr_1_20 : (Jvm.Cond.initialized "java/lang/StringBuilder") ∈ gw := gw_1 20 rfl rfl
theorem wr_8_89 : (Jvm.Cond.code ({ cls := "java/lang/StringBuilder", name := "length", desc := "()I" } : Jvm.MethodName) prog_35_method_93_code (1 : Nat) (Option.some Jvm.ClassFile.FieldType.int)) ∈ gw := gw_8 89 rfl rfl
theorem dr_cJ0_init_db425_13 : decode cJ0_init_db425 13 = .ok (.istore 4, 2) := by decide +kernel
theorem dr_cJ0_init_db425_15 : decode cJ0_init_db425 15 = .ok (.aload_n 1, 1) := by decide +kernel
theorem dr_cJ0_init_db425_16 : decode cJ0_init_db425 16 = .ok (.invokevirtual 1047, 3) := by decide +kernel
theorem wr_8_92 : (Jvm.Cond.methodLink "java/lang/String" (1047 : Nat) ({ cls := "java/lang/AbstractStringBuilder", name := "isLatin1", desc := "()Z" } : Jvm.MethodName)) ∈ gw := gw_8 92 rfl rfl
theorem dr_cJ0_init_db425_19 : decode cJ0_init_db425 19 = .ok (.ifCond .eq 22, 3) := by decide +kernel
theorem dr_cJ0_init_db425_22 : decode cJ0_init_db425 22 = .ok (.aload_n 0, 1) := by decide +kernel
theorem dr_cJ0_init_db425_23 : decode cJ0_init_db425 23 = .ok (.iconst 0, 1) := by decide +kernel
theorem dr_cJ0_init_db425_24 : decode cJ0_init_db425 24 = .ok (.putfield 15, 3) := by decide +kernel
theorem dr_cJ0_init_db425_27 : decode cJ0_init_db425 27 = .ok (.aload_n 0, 1) := by decide +kernel
theorem dr_cJ0_init_db425_28 : decode cJ0_init_db425 28 = .ok (.aload_n 3, 1) := by decide +kernel
theorem dr_cJ0_init_db425_29 : decode cJ0_init_db425 29 = .ok (.iconst 0, 1) := by decide +kernel
theorem dr_cJ0_init_db425_30 : decode cJ0_init_db425 30 = .ok (.iload 4, 2) := by decide +kernel
theorem dr_cJ0_init_db425_32 : decode cJ0_init_db425 32 = .ok (.invokestatic 54, 3) := by decide +kernel
theorem wr_8_93 : (Jvm.Cond.methodLink "java/lang/String" (54 : Nat) ({ cls := "java/util/Arrays", name := "copyOfRange", desc := "([BII)[B" } : Jvm.MethodName)) ∈ gw := gw_8 93 rfl rfl
theorem wr_8_95 : (Jvm.Cond.code ({ cls := "java/util/Arrays", name := "copyOfRange", desc := "([BII)[B" } : Jvm.MethodName) prog_44_method_132_code (3 : Nat) (Option.some (Jvm.ClassFile.FieldType.array Jvm.ClassFile.FieldType.byte))) ∈ gw := gw_8 95 rfl rfl
theorem wr_8_94 : (Jvm.Cond.static ({ cls := "java/util/Arrays", name := "copyOfRange", desc := "([BII)[B" } : Jvm.MethodName)) ∈ gw := gw_8 94 rfl rfl
theorem dr_cJ0_init_db425_35 : decode cJ0_init_db425 35 = .ok (.putfield 9, 3) := by decide +kernel
theorem dr_cJ0_init_db425_38 : decode cJ0_init_db425 38 = .ok (.goto 59, 3) := by decide +kernel
theorem dr_cJ0_init_db425_97 : decode cJ0_init_db425 97 = .ok (.return_, 1) := by decide +kernel
theorem dr_cJ0_init_81219_0 : decode cJ0_init_81219 0 = .ok (.aload_n 0, 1) := by decide +kernel
theorem dr_cJ0_init_81219_1 : decode cJ0_init_81219 1 = .ok (.aload_n 1, 1) := by decide +kernel
theorem dr_cJ0_init_81219_2 : decode cJ0_init_81219 2 = .ok (.aconst_null, 1) := by decide +kernel
theorem dr_cJ0_init_81219_3 : decode cJ0_init_81219 3 = .ok (.invokespecial 489, 3) := by decide +kernel
theorem wr_8_75 : (Jvm.Cond.methodLink "java/lang/String" (489 : Nat) ({ cls := "java/lang/String", name := "<init>", desc := "(Ljava/lang/AbstractStringBuilder;Ljava/lang/Void;)V" } : Jvm.MethodName)) ∈ gw := gw_8 75 rfl rfl
theorem wr_8_77 : (Jvm.Cond.code ({ cls := "java/lang/String", name := "<init>", desc := "(Ljava/lang/AbstractStringBuilder;Ljava/lang/Void;)V" } : Jvm.MethodName) prog_34_method_150_code (5 : Nat) (Option.none : Option Jvm.ClassFile.FieldType)) ∈ gw := gw_8 77 rfl rfl
theorem wr_8_76 : (Jvm.Cond.instanceMethod ({ cls := "java/lang/String", name := "<init>", desc := "(Ljava/lang/AbstractStringBuilder;Ljava/lang/Void;)V" } : Jvm.MethodName)) ∈ gw := gw_8 76 rfl rfl
theorem dr_cJ0_init_81219_6 : decode cJ0_init_81219 6 = .ok (.return_, 1) := by decide +kernel
theorem dr_cJ4_toString_0e30d_0 : decode cJ4_toString_0e30d 0 = .ok (.new 18, 3) := by decide +kernel
theorem wr_8_70 : (Jvm.Cond.classLink "java/lang/StringBuilder" (18 : Nat) "java/lang/String") ∈ gw := gw_8 70 rfl rfl
theorem wr_8_71 : (Jvm.Cond.instantiable "java/lang/String" (4 : Nat)) ∈ gw := gw_8 71 rfl rfl
theorem dr_cJ4_toString_0e30d_3 : decode cJ4_toString_0e30d 3 = .ok (.dup, 1) := by decide +kernel
theorem dr_cJ4_toString_0e30d_4 : decode cJ4_toString_0e30d 4 = .ok (.aload_n 0, 1) := by decide +kernel
theorem dr_cJ4_toString_0e30d_5 : decode cJ4_toString_0e30d 5 = .ok (.invokespecial 137, 3) := by decide +kernel
theorem wr_8_72 : (Jvm.Cond.methodLink "java/lang/StringBuilder" (137 : Nat) ({ cls := "java/lang/String", name := "<init>", desc := "(Ljava/lang/StringBuilder;)V" } : Jvm.MethodName)) ∈ gw := gw_8 72 rfl rfl
theorem wr_8_74 : (Jvm.Cond.code ({ cls := "java/lang/String", name := "<init>", desc := "(Ljava/lang/StringBuilder;)V" } : Jvm.MethodName) prog_34_method_53_code (2 : Nat) (Option.none : Option Jvm.ClassFile.FieldType)) ∈ gw := gw_8 74 rfl rfl
theorem wr_8_73 : (Jvm.Cond.instanceMethod ({ cls := "java/lang/String", name := "<init>", desc := "(Ljava/lang/StringBuilder;)V" } : Jvm.MethodName)) ∈ gw := gw_8 73 rfl rfl
theorem dr_cJ4_toString_0e30d_8 : decode cJ4_toString_0e30d 8 = .ok (.areturn, 1) := by decide +kernel
theorem dr_cJ1_equals_b5fdf_0 : decode cJ1_equals_b5fdf 0 = .ok (.aload_n 0, 1) := by decide +kernel
theorem dr_cJ1_equals_b5fdf_1 : decode cJ1_equals_b5fdf 1 = .ok (.arraylength, 1) := by decide +kernel
theorem dr_cJ1_equals_b5fdf_2 : decode cJ1_equals_b5fdf 2 = .ok (.aload_n 1, 1) := by decide +kernel
theorem dr_cJ1_equals_b5fdf_3 : decode cJ1_equals_b5fdf 3 = .ok (.arraylength, 1) := by decide +kernel
theorem dr_cJ1_equals_b5fdf_4 : decode cJ1_equals_b5fdf 4 = .ok (.if_icmp .ne 30, 3) := by decide +kernel
theorem dr_cJ1_equals_b5fdf_34 : decode cJ1_equals_b5fdf 34 = .ok (.iconst 0, 1) := by decide +kernel
theorem dr_cJ1_equals_b5fdf_35 : decode cJ1_equals_b5fdf 35 = .ok (.ireturn, 1) := by decide +kernel
theorem dr_cJ1_equals_b5fdf_7 : decode cJ1_equals_b5fdf 7 = .ok (.iconst 0, 1) := by decide +kernel
theorem dr_cJ1_equals_b5fdf_8 : decode cJ1_equals_b5fdf 8 = .ok (.istore_n 2, 1) := by decide +kernel
theorem dr_cJ1_equals_b5fdf_9 : decode cJ1_equals_b5fdf 9 = .ok (.iload_n 2, 1) := by decide +kernel
theorem dr_cJ1_equals_b5fdf_10 : decode cJ1_equals_b5fdf 10 = .ok (.aload_n 0, 1) := by decide +kernel
theorem dr_cJ1_equals_b5fdf_11 : decode cJ1_equals_b5fdf 11 = .ok (.arraylength, 1) := by decide +kernel
theorem dr_cJ1_equals_b5fdf_12 : decode cJ1_equals_b5fdf 12 = .ok (.if_icmp .ge 20, 3) := by decide +kernel
theorem dr_cJ1_equals_b5fdf_32 : decode cJ1_equals_b5fdf 32 = .ok (.iconst 1, 1) := by decide +kernel
theorem dr_cJ1_equals_b5fdf_33 : decode cJ1_equals_b5fdf 33 = .ok (.ireturn, 1) := by decide +kernel
theorem dr_cJ1_equals_b5fdf_15 : decode cJ1_equals_b5fdf 15 = .ok (.aload_n 0, 1) := by decide +kernel
theorem dr_cJ1_equals_b5fdf_16 : decode cJ1_equals_b5fdf 16 = .ok (.iload_n 2, 1) := by decide +kernel
theorem dr_cJ1_equals_b5fdf_17 : decode cJ1_equals_b5fdf 17 = .ok (.baload, 1) := by decide +kernel
theorem dr_cJ1_equals_b5fdf_18 : decode cJ1_equals_b5fdf 18 = .ok (.aload_n 1, 1) := by decide +kernel
theorem dr_cJ1_equals_b5fdf_19 : decode cJ1_equals_b5fdf 19 = .ok (.iload_n 2, 1) := by decide +kernel
theorem dr_cJ1_equals_b5fdf_20 : decode cJ1_equals_b5fdf 20 = .ok (.baload, 1) := by decide +kernel
theorem dr_cJ1_equals_b5fdf_21 : decode cJ1_equals_b5fdf 21 = .ok (.if_icmp .eq 5, 3) := by decide +kernel
theorem dr_cJ1_equals_b5fdf_26 : decode cJ1_equals_b5fdf 26 = .ok (.iinc 2 1, 3) := by decide +kernel
theorem dr_cJ1_equals_b5fdf_29 : decode cJ1_equals_b5fdf 29 = .ok (.goto (-20), 3) := by decide +kernel
theorem dr_cJ1_equals_b5fdf_24 : decode cJ1_equals_b5fdf 24 = .ok (.iconst 0, 1) := by decide +kernel
theorem dr_cJ1_equals_b5fdf_25 : decode cJ1_equals_b5fdf 25 = .ok (.ireturn, 1) := by decide +kernel
theorem dr_cJ0_equals_9ea2d_0 : decode cJ0_equals_9ea2d 0 = .ok (.aload_n 0, 1) := by decide +kernel
theorem dr_cJ0_equals_9ea2d_1 : decode cJ0_equals_9ea2d 1 = .ok (.aload_n 1, 1) := by decide +kernel
theorem dr_cJ0_equals_9ea2d_2 : decode cJ0_equals_9ea2d 2 = .ok (.if_acmp .ne 5, 3) := by decide +kernel
theorem dr_cJ0_equals_9ea2d_7 : decode cJ0_equals_9ea2d 7 = .ok (.aload_n 1, 1) := by decide +kernel
theorem dr_cJ0_equals_9ea2d_8 : decode cJ0_equals_9ea2d 8 = .ok (.instanceof 10, 3) := by decide +kernel
theorem wr_9_149 : (Jvm.Cond.classLink "java/lang/String" (10 : Nat) "java/lang/String") ∈ gw := gw_9 149 rfl rfl
theorem dr_cJ0_equals_9ea2d_11 : decode cJ0_equals_9ea2d 11 = .ok (.ifCond .eq 43, 3) := by decide +kernel
theorem dr_cJ0_equals_9ea2d_14 : decode cJ0_equals_9ea2d 14 = .ok (.aload_n 1, 1) := by decide +kernel
theorem dr_cJ0_equals_9ea2d_15 : decode cJ0_equals_9ea2d 15 = .ok (.checkcast 10, 3) := by decide +kernel
theorem dr_cJ0_equals_9ea2d_18 : decode cJ0_equals_9ea2d 18 = .ok (.astore_n 2, 1) := by decide +kernel
theorem dr_cJ0_equals_9ea2d_19 : decode cJ0_equals_9ea2d 19 = .ok (.getstatic 38, 3) := by decide +kernel
theorem dr_cJ0_equals_9ea2d_22 : decode cJ0_equals_9ea2d 22 = .ok (.ifCond .eq 14, 3) := by decide +kernel
theorem dr_cJ0_equals_9ea2d_25 : decode cJ0_equals_9ea2d 25 = .ok (.aload_n 0, 1) := by decide +kernel
theorem dr_cJ0_equals_9ea2d_26 : decode cJ0_equals_9ea2d 26 = .ok (.getfield 15, 3) := by decide +kernel
theorem dr_cJ0_equals_9ea2d_29 : decode cJ0_equals_9ea2d 29 = .ok (.aload_n 2, 1) := by decide +kernel
theorem dr_cJ0_equals_9ea2d_30 : decode cJ0_equals_9ea2d 30 = .ok (.getfield 15, 3) := by decide +kernel
theorem dr_cJ0_equals_9ea2d_33 : decode cJ0_equals_9ea2d 33 = .ok (.if_icmp .ne 21, 3) := by decide +kernel
theorem dr_cJ0_equals_9ea2d_36 : decode cJ0_equals_9ea2d 36 = .ok (.aload_n 0, 1) := by decide +kernel
theorem dr_cJ0_equals_9ea2d_37 : decode cJ0_equals_9ea2d 37 = .ok (.getfield 9, 3) := by decide +kernel
theorem dr_cJ0_equals_9ea2d_40 : decode cJ0_equals_9ea2d 40 = .ok (.aload_n 2, 1) := by decide +kernel
theorem dr_cJ0_equals_9ea2d_41 : decode cJ0_equals_9ea2d 41 = .ok (.getfield 9, 3) := by decide +kernel
theorem dr_cJ0_equals_9ea2d_44 : decode cJ0_equals_9ea2d 44 = .ok (.invokestatic 541, 3) := by decide +kernel
theorem wr_9_150 : (Jvm.Cond.methodLink "java/lang/String" (541 : Nat) ({ cls := "java/lang/StringLatin1", name := "equals", desc := "([B[B)Z" } : Jvm.MethodName)) ∈ gw := gw_9 150 rfl rfl
theorem wr_9_152 : (Jvm.Cond.code ({ cls := "java/lang/StringLatin1", name := "equals", desc := "([B[B)Z" } : Jvm.MethodName) prog_37_method_13_code (3 : Nat) (Option.some Jvm.ClassFile.FieldType.boolean)) ∈ gw := gw_9 152 rfl rfl
theorem wr_9_151 : (Jvm.Cond.static ({ cls := "java/lang/StringLatin1", name := "equals", desc := "([B[B)Z" } : Jvm.MethodName)) ∈ gw := gw_9 151 rfl rfl
theorem dr_cJ0_equals_9ea2d_47 : decode cJ0_equals_9ea2d 47 = .ok (.ifCond .eq 7, 3) := by decide +kernel
theorem dr_cJ0_equals_9ea2d_54 : decode cJ0_equals_9ea2d 54 = .ok (.iconst 0, 1) := by decide +kernel
theorem dr_cJ0_equals_9ea2d_55 : decode cJ0_equals_9ea2d 55 = .ok (.ireturn, 1) := by decide +kernel
theorem dr_cJ0_equals_9ea2d_50 : decode cJ0_equals_9ea2d 50 = .ok (.iconst 1, 1) := by decide +kernel
theorem dr_cJ0_equals_9ea2d_51 : decode cJ0_equals_9ea2d 51 = .ok (.goto 4, 3) := by decide +kernel
abbrev ky_656531_StringBuilder_append : gKey := (cJ4_append_15ec4, 2, "java/lang/StringBuilder", (some (FieldType.object "java/lang/StringBuilder")), [], "append", fun _ _ => True)
def pp_656531_StringBuilder_append (D : va_G) (I : FieldType → ClassId) (P656516 : List Nat) (F656517 : Nat → va_E) (q656518 : Nat) (q656519 : Nat) (qs656520 : Nat) (qb656521 : Nat) (bs656522 : List Int32) (p656523 : Int32) (p656524 : Int32) (f656525 : Nat → Int32) (n656526 : Nat) : Option Value → va_W → Nat → Nat → Prop := fun r w dc ds => ∃ (P656644 : List Nat) (F656645 : Nat → va_E) (o656640 : Int32) (q656641 : Nat) (n656642 : Nat) (f656643 : Nat → Int32), r = some (.ref q656518) ∧ w = va_pl P656644 F656645 ∧ rSub P656516 P656644 ∧ rFr [q656518, q656519] P656516 F656517 F656645 ∧ F656645 q656518 = .inr (1, [.ref q656641, .int 0, .int p656523, .int o656640]) ∧ F656645 q656641 = .inl (I .byte, n656642, .inl f656643) ∧ q656641 ∈ P656644 ∧ (q656641 = q656519 ∨ q656641 ∉ P656516) ∧ dc ≤ 1 ∧ ds ≤ 2 * (n656642 - n656526) ∧ gB o656640 0 16777216 ∧ gF f656643 (-128) 127 ∧ o656640.toInt = p656524.toInt + (bs656522.length : Int) ∧ o656640.toInt ≤ (n656642 : Int) ∧ (n656526 : Int) ≤ (n656642 : Int) ∧ (n656642 : Int) ≤ 2 * (n656526 : Int) + 2 + p656524.toInt + (bs656522.length : Int) ∧ ((n656642 : Int) = (n656526 : Int) ∨ (n656526 : Int) < o656640.toInt) ∧ tr_RStringBuilder_append6 bs656522 p656524 f656525 n656526 o656640 n656642 f656643
set_option maxRecDepth 100000 in
set_option maxHeartbeats 4000000 in
theorem cp_656531_StringBuilder_append (l : Launch) (hl0 : l.stackTraces = false) (D : va_G) (I : FieldType → ClassId) (P656516 : List Nat) (F656517 : Nat → va_E) (q656518 : Nat) (q656519 : Nat) (qs656520 : Nat) (qb656521 : Nat) (bs656522 : List Int32) (p656523 : Int32) (p656524 : Int32) (f656525 : Nat → Int32) (n656526 : Nat) (hmq656518 : q656518 ∈ P656516) (hmq656519 : q656519 ∈ P656516) (heq656518 : F656517 q656518 = .inr (1, [.ref q656519, .int 0, .int p656523, .int p656524])) (heq656519 : F656517 q656519 = .inl (I .byte, n656526, .inl f656525)) (hbs656522 : ∀ A s H, (gV D I).2.2.2.1 A s H → gSC qs656520 qb656521 bs656522 A s H) (nbs656522 : (bs656522.length : Int) ≤ 65535) (lbs656522 : gLB bs656522) (bp656523 : gB p656523 0 1) (bp656524 : gB p656524 0 16777216) (bf656525 : gF f656525 (-128) 127) (x656527 : (bs656522.length : Int) ≤ 65535) (x656528 : (n656526 : Int) ≤ 8388608 - 100000) (x656529 : p656524.toInt ≤ (n656526 : Int)) (x656530 : ((n656526 : Int) ≤ 16777216)) : CtA (gV D I) l yJ4_append_15ec4 cJ4_append_15ec4 2 (some (FieldType.object "java/lang/StringBuilder")) 5 106 1 (4 * n656526 + 4 + 2 * bs656522.length) [.ref q656518, .ref qs656520] (va_pl P656516 F656517) (pp_656531_StringBuilder_append D I P656516 F656517 q656518 q656519 qs656520 qb656521 bs656522 p656523 p656524 f656525 n656526) gNA := by
  refine CtA_ofF hl0 (by decide +kernel) (Nat.le_of_ble_eq_true rfl) ?_
  refine G_aload_n 0 dr_cJ4_append_15ec4_0 rfl ?_
  refine G_aload_n 1 dr_cJ4_append_15ec4_1 rfl ?_
  refine Gw_callSU (As := [.ref qs656520]) (gV_ok D I) (cp_656547_AbstractStringBuilder_append l hl0 D I P656516 F656517 q656518 q656519 qs656520 qb656521 bs656522 p656523 p656524 f656525 n656526 hmq656518 hmq656519 heq656518 heq656519 hbs656522 nbs656522 lbs656522 bp656523 bp656524 bf656525 (by have qa0 : Int32.toInt 0 = 0 := (by decide); omega) (by have qa0 : Int32.toInt 0 = 0 := (by decide); omega) (by have qa0 : Int32.toInt 0 = 0 := (by decide); omega) (by have qa0 : Int32.toInt 0 = 0 := (by decide); omega)) dr_cJ4_append_15ec4_2 ⟨wr_8_144, wr_1_19, wr_8_146, by decide, rfl, (Nat.le_of_ble_eq_true rfl), (Nat.le_of_ble_eq_true rfl)⟩ wr_8_145 wr_11_229 wr_7_73 wr_7_44 (by decide) hmq656518 heq656518 rfl (show 0 + 1 ≤ 1 by first | omega | decide) (show 0 + (4 * n656526 + 4 + 2 * bs656522.length) ≤ (4 * n656526 + 4 + 2 * bs656522.length) by first | omega | decide) (Nat.le_of_ble_eq_true rfl) (fun r656615 w656616 dc656612 ds656613 hp656614 => ?_)
  obtain ⟨P656627, F656628, o656617, q656618, n656619, f656620, rfl, rfl, hsb656629, hfr656630, he656631, he656632, hm656633, hq656634, hdc, hds, bo656617, bf656620, x656621, x656622, x656623, x656624, x656625, ht656626⟩ := hp656614
  have hm656635 : q656518 ∈ P656627 := hsb656629 q656518 hmq656518
  have hm656636 : q656519 ∈ P656627 := hsb656629 q656519 hmq656519
  have hor656637 : q656618 = q656519 ∨ q656618 ∉ P656516 := hq656634.elim Or.inl (fun n => Or.inr (fun z => n ((rSub_rf (P := P656516)) _ z)))
  have hsb656638 : rSub P656516 P656627 := rSub_tr (rSub_rf (P := P656516)) hsb656629
  have hfr656639 : rFr [q656518, q656519] P656516 F656517 F656628 := rFr_call (rSub_rf (P := P656516)) (rFr_rf (W := []) (P := P656516) (F := F656517)) hfr656630 (fun b hb hn => ⟨nm_n, (nm_c (fun e => hn (e ▸ List.mem_cons_self)) (nm_c (fun e => hn (e ▸ (List.mem_cons_of_mem _ List.mem_cons_self))) nm_n))⟩)
  change G _ _ _ _ _ _ _ (.ref q656518 :: _) _ _ _
  refine G_widen (cs' := 1) (sl' := 2 * (n656619 - n656526)) (by omega) (by omega) ?_
  refine G_pop dr_cJ4_append_15ec4_5 rfl ?_
  refine G_aload_n 0 dr_cJ4_append_15ec4_6 rfl ?_
  exact G_aretA (FieldType.object "java/lang/StringBuilder") dr_cJ4_append_15ec4_7 rfl (by first | exact Or.inl ⟨_, rfl⟩ | exact Or.inr ⟨_, rfl⟩) (Or.inr ⟨_, rfl⟩) (Nat.le_of_ble_eq_true rfl) (show 2 * (n656619 - n656526) ≤ (4 * n656526 + 4 + 2 * bs656522.length) by omega) ⟨P656627, F656628, o656617, q656618, n656619, f656620, rfl, rfl, hsb656638, hfr656639, he656631, he656632, hm656633, hor656637, (Nat.le_of_ble_eq_true rfl), (by omega), bo656617, bf656620, (by have qa0 : Int32.toInt 0 = 0 := (by decide); omega), (by have qa0 : Int32.toInt 0 = 0 := (by decide); omega), (by have qa0 : Int32.toInt 0 = 0 := (by decide); omega), (by have qa0 : Int32.toInt 0 = 0 := (by decide); omega), (by have qa0 : Int32.toInt 0 = 0 := (by decide); omega), (fun R c1 => c1 o656617 n656619 f656620 bo656617 ht656626)⟩
abbrev ky_656710_AbstractStringBuilder_getValue : gKey := (cJ5_getValue_6d5f1, 1, "java/lang/AbstractStringBuilder", (some (FieldType.array FieldType.byte)), [], "getValue", fun _ _ => True)
def pp_656710_AbstractStringBuilder_getValue (D : va_G) (I : FieldType → ClassId) (P656701 : List Nat) (F656702 : Nat → va_E) (q656703 : Nat) (q656704 : Nat) (p656705 : Int32) (p656706 : Int32) (f656707 : Nat → Int32) (n656708 : Nat) : Option Value → va_W → Nat → Nat → Prop := fun r w dc ds => r = some (.ref q656704) ∧ w = va_pl P656701 F656702 ∧ dc ≤ 0 ∧ ds ≤ 0
set_option maxRecDepth 100000 in
set_option maxHeartbeats 4000000 in
theorem cp_656710_AbstractStringBuilder_getValue (l : Launch) (hl0 : l.stackTraces = false) (D : va_G) (I : FieldType → ClassId) (P656701 : List Nat) (F656702 : Nat → va_E) (q656703 : Nat) (q656704 : Nat) (p656705 : Int32) (p656706 : Int32) (f656707 : Nat → Int32) (n656708 : Nat) (hmq656703 : q656703 ∈ P656701) (hmq656704 : q656704 ∈ P656701) (heq656703 : F656702 q656703 = .inr (1, [.ref q656704, .int 0, .int p656705, .int p656706])) (heq656704 : F656702 q656704 = .inl (I .byte, n656708, .inl f656707)) (bp656705 : gB p656705 0 1) (bp656706 : gB p656706 0 16777216) (bf656707 : gF f656707 (-128) 127) (x656709 : ((n656708 : Int) ≤ 16777216)) : CtA (gV D I) l yJ5_getValue_6d5f1 cJ5_getValue_6d5f1 1 (some (FieldType.array FieldType.byte)) 0 0 0 0 [.ref q656703] (va_pl P656701 F656702) (pp_656710_AbstractStringBuilder_getValue D I P656701 F656702 q656703 q656704 p656705 p656706 f656707 n656708) gNA := by
  refine CtA_ofF hl0 (by decide +kernel) (Nat.le_of_ble_eq_true rfl) ?_
  refine G_aload_n 0 dr_cJ5_getValue_6d5f1_0 rfl ?_
  refine Gp_get 0 hmq656703 heq656703 dr_cJ5_getValue_6d5f1_1 (gk_J4 D I) (Nat.le_of_ble_eq_true rfl) wr_7_60 rfl ?_
  exact G_aretA (FieldType.array FieldType.byte) dr_cJ5_getValue_6d5f1_4 rfl (by first | exact Or.inl ⟨_, rfl⟩ | exact Or.inr ⟨_, rfl⟩) (Or.inr ⟨_, rfl⟩) (Nat.le_of_ble_eq_true rfl) (Nat.le_of_ble_eq_true rfl) ⟨rfl, rfl, (Nat.le_of_ble_eq_true rfl), (Nat.le_of_ble_eq_true rfl)⟩
abbrev ky_656772_Arrays_checkLength : gKey := (cJ7_checkLength_df160, 2, "java/util/Arrays", none, [], "checkLength", fun _ _ => True)
def pp_656772_Arrays_checkLength (D : va_G) (I : FieldType → ClassId) (P656769 : List Nat) (F656770 : Nat → va_E) (p656771 : Int32) : Option Value → va_W → Nat → Nat → Prop := fun r w dc ds => r = none ∧ w = va_pl P656769 F656770 ∧ dc ≤ 0 ∧ ds ≤ 0
set_option maxRecDepth 100000 in
set_option maxHeartbeats 4000000 in
theorem cp_656772_Arrays_checkLength (l : Launch) (hl0 : l.stackTraces = false) (D : va_G) (I : FieldType → ClassId) (P656769 : List Nat) (F656770 : Nat → va_E) (p656771 : Int32) (bp656771 : gB p656771 0 16777216) : CtA (gV D I) l yJ7_checkLength_df160 cJ7_checkLength_df160 2 none 0 0 0 0 [.int 0, .int p656771] (va_pl P656769 F656770) (pp_656772_Arrays_checkLength D I P656769 F656770 p656771) gNA := by
  refine CtA_ofF hl0 (by decide +kernel) (Nat.le_of_ble_eq_true rfl) ?_
  refine G_iload_n 1 dr_cJ7_checkLength_df160_0 rfl ?_
  refine G_iload_n 0 dr_cJ7_checkLength_df160_1 rfl ?_
  refine G_icmp_ge 37 dr_cJ7_checkLength_df160_2 (by decide +kernel) (fun _ => ?_) (fun hc => absurd (show False by have := gj_nleL hc (show Int32.toInt 0 = 0 by decide); omega) not_false)
  exact G_vretA dr_cJ7_checkLength_df160_37 rfl (Nat.le_of_ble_eq_true rfl) (Nat.le_of_ble_eq_true rfl) ⟨rfl, rfl, (Nat.le_of_ble_eq_true rfl), (Nat.le_of_ble_eq_true rfl)⟩
/- tr_RArrays_copyOfRangeByte: a.3.#, a.3.[] -/
def tr_RArrays_copyOfRangeByte (a2 : Int32) (a0_v : Nat → Int32) (a0_n : Nat) (o1 : Nat) (o2 : Nat → Int32) : Prop := ∀ R : (Nat) → (Nat → Int32) → Prop,
  (∀ (x1 : Int32) (x2 : Int32) (x3 : Int32) (x4 : Int32) (x5 : Nat → Int32), x1.toInt = a2.toInt - 0 → x2.toInt = (a0_n : Nat) → x3.toInt = x2.toInt - 0 → (x3.toInt ≥ x4.toInt ∧ x1.toInt ≥ x4.toInt ∧ (x4.toInt = x3.toInt ∨ x4.toInt = x1.toInt)) → (x5 = va_cpy a0_v (fun _ => 0) (0 : Int32).toNatClampNeg (0 : Int32).toNatClampNeg x4.toNatClampNeg) → R x1.toInt.toNat x5) →
  R o1 o2
abbrev ky_656768_Arrays_copyOfRangeByte : gKey := (cJ7_copyOfRangeByte_39247, 5, "java/util/Arrays", (some (FieldType.array FieldType.byte)), [], "copyOfRangeByte", fun _ _ => True)
def pp_656768_Arrays_copyOfRangeByte (D : va_G) (I : FieldType → ClassId) (P656760 : List Nat) (F656761 : Nat → va_E) (q656762 : Nat) (p656763 : Int32) (f656764 : Nat → Int32) (n656765 : Nat) : Option Value → va_W → Nat → Nat → Prop := fun r w dc ds => ∃ (P656806 : List Nat) (F656807 : Nat → va_E) (q656803 : Nat) (n656804 : Nat) (f656805 : Nat → Int32), r = some (.ref q656803) ∧ w = va_pl P656806 F656807 ∧ rSub P656760 P656806 ∧ rFr [] P656760 F656761 F656807 ∧ F656807 q656762 = .inl (I .byte, n656765, .inl f656764) ∧ F656807 q656803 = .inl (I .byte, n656804, .inl f656805) ∧ q656803 ∈ P656806 ∧ q656803 ∉ P656760 ∧ dc ≤ 1 ∧ ds ≤ p656763.toInt.toNat ∧ gF f656805 (-128) 127 ∧ (n656804 : Int) = p656763.toInt ∧ sK f656764 f656805 p656763.toInt ∧ tr_RArrays_copyOfRangeByte p656763 f656764 n656765 n656804 f656805
set_option maxRecDepth 100000 in
set_option maxHeartbeats 4000000 in
theorem cp_656768_Arrays_copyOfRangeByte (l : Launch) (hl0 : l.stackTraces = false) (D : va_G) (I : FieldType → ClassId) (P656760 : List Nat) (F656761 : Nat → va_E) (q656762 : Nat) (p656763 : Int32) (f656764 : Nat → Int32) (n656765 : Nat) (hmq656762 : q656762 ∈ P656760) (heq656762 : F656761 q656762 = .inl (I .byte, n656765, .inl f656764)) (bp656763 : gB p656763 0 16777216) (bf656764 : gF f656764 (-128) 127) (x656766 : p656763.toInt ≤ (n656765 : Int)) (x656767 : ((n656765 : Int) ≤ 16777216)) : CtA (gV D I) l yJ7_copyOfRangeByte_39247 cJ7_copyOfRangeByte_39247 5 (some (FieldType.array FieldType.byte)) 1 21 1 p656763.toInt.toNat [.ref q656762, .int 0, .int p656763] (va_pl P656760 F656761) (pp_656768_Arrays_copyOfRangeByte D I P656760 F656761 q656762 p656763 f656764 n656765) gNA := by
  refine CtA_ofF hl0 (by decide +kernel) (Nat.le_of_ble_eq_true rfl) ?_
  refine G_iload_n 1 dr_cJ7_copyOfRangeByte_39247_0 rfl ?_
  refine G_iload_n 2 dr_cJ7_copyOfRangeByte_39247_1 rfl ?_
  refine Gw_callS (As := [.int 0, .int p656763]) (gV_ok D I) (cp_656772_Arrays_checkLength l hl0 D I P656760 F656761 p656763 bp656763) dr_cJ7_copyOfRangeByte_39247_2 ⟨wr_8_99, wr_1_30, wr_8_101, by decide, rfl, (Nat.le_of_ble_eq_true rfl), (Nat.le_of_ble_eq_true rfl)⟩ wr_8_100 (show 0 + 0 ≤ 1 by first | omega | decide) (show 0 + 0 ≤ p656763.toInt.toNat by first | omega | decide) (Nat.le_of_ble_eq_true rfl) (fun r656776 w656777 dc656773 ds656774 hp656775 => ?_) (fun _ _ _ _ _ z => z.elim)
  obtain ⟨rfl, rfl, hdc, hds⟩ := hp656775
  change G _ _ _ _ _ _ _ _ _ _ _
  refine G_widen (cs' := 0) (sl' := 0) (by omega) (by omega) ?_
  refine G_iload_n 2 dr_cJ7_copyOfRangeByte_39247_5 rfl ?_
  refine G_iload_n 1 dr_cJ7_copyOfRangeByte_39247_6 rfl ?_
  refine G_isub dr_cJ7_copyOfRangeByte_39247_7 (G_nam fun z656778 hz656778 => ?_)
  have ez656778 : z656778.toInt = p656763.toInt - 0 := by rw [gI_sub hz656778 bp656763 (gBl (show Int32.toInt 0 = 0 by decide)) (by decide) (by decide), show Int32.toInt 0 = 0 from by decide]
  have bz656778 : gB z656778 0 16777216 := gB_sub (gI_sub hz656778 bp656763 (gBl (show Int32.toInt 0 = 0 by decide)) (by decide) (by decide)) bp656763 (gBl (show Int32.toInt 0 = 0 by decide)) (by decide) (by decide)
  refine G_istore_n (L' := [(3, .int z656778), (0, .ref q656762), (1, .int 0), (2, .int p656763)]) dr_cJ7_copyOfRangeByte_39247_8 (Nat.le_of_ble_eq_true rfl) rfl ?_
  refine G_iload_n 0 dr_cJ7_copyOfRangeByte_39247_9 rfl ?_
  refine G_newa 1 (z656778.toInt.toNat, .inl (fun _ => 0)) dr_cJ7_copyOfRangeByte_39247_10 rfl rfl (by intro C h; cases h) wr_1_66 (fun _ => ga_byte _ _) (g_n0 (by omega)) rfl (show z656778.toInt.toNat * 1 ≤ 536870912 by omega) (show 0 + 1 ≤ 1 by first | omega | decide) (show 0 + z656778.toInt.toNat ≤ p656763.toInt.toNat by first | omega | decide) (fun q656779 => Gp_in (fun P656780 F656781 hq656782 hP656783 e656784 n656785 => ?_))
  refine G_widen (cs' := 1) (sl' := z656778.toInt.toNat) (by omega) (by omega) ?_
  have he656786 : F656781 q656762 = .inl (I .byte, n656765, .inl f656764) := (n656785 q656762 (fun h => hq656782 (h ▸ hmq656762))).trans heq656762
  have he656787 : F656781 q656779 = .inl (I .byte, z656778.toInt.toNat, .inl (fun _ => 0)) := e656784
  have hm656788 : q656762 ∈ P656780 := (hP656783 q656762).mpr (Or.inl hmq656762)
  have hm656789 : q656779 ∈ P656780 := (hP656783 q656779).mpr (Or.inr rfl)
  have hq656790 : q656779 ∉ P656760 := fun z => hq656782 ((rSub_rf (P := P656760)) q656779 z)
  have hfr656791 : rFr [] P656760 F656761 F656781 := rFr_new (rSub_rf (P := P656760)) hq656782 (rFr_rf (W := []) (P := P656760) (F := F656761)) n656785
  have hsb656792 : rSub P656760 P656780 := rSub_new (rSub_rf (P := P656760)) hP656783
  refine G_astore (L' := [(4, .ref q656779), (3, .int z656778), (0, .ref q656762), (1, .int 0), (2, .int p656763)]) dr_cJ7_copyOfRangeByte_39247_12 (Nat.le_of_ble_eq_true rfl) rfl ?_
  refine G_aload_n 2 dr_cJ7_copyOfRangeByte_39247_14 rfl ?_
  refine G_iload_n 3 dr_cJ7_copyOfRangeByte_39247_15 rfl ?_
  refine G_aload 0 dr_cJ7_copyOfRangeByte_39247_16 rfl ?_
  refine G_iconst 0 dr_cJ7_copyOfRangeByte_39247_18 (by decide +kernel) ?_
  refine G_aload_n 2 dr_cJ7_copyOfRangeByte_39247_19 rfl ?_
  refine Gp_alen (Int32.ofNat n656765) 1 hm656788 he656786 dr_cJ7_copyOfRangeByte_39247_20 rfl rfl (G_nam fun z656793 hz656793 => ?_)
  have ez656793 : z656793.toInt = (n656765 : Nat) := gI_ofM hz656793 (by omega)
  have bz656793 : gB z656793 0 16777216 := ⟨by omega, by omega⟩
  refine G_iload_n 3 dr_cJ7_copyOfRangeByte_39247_21 rfl ?_
  refine G_isub dr_cJ7_copyOfRangeByte_39247_22 (G_nam fun z656794 hz656794 => ?_)
  have ez656794 : z656794.toInt = z656793.toInt - 0 := by rw [gI_sub hz656794 bz656793 (gBl (show Int32.toInt 0 = 0 by decide)) (by decide) (by decide), show Int32.toInt 0 = 0 from by decide]
  have bz656794 : gB z656794 0 16777216 := gB_sub (gI_sub hz656794 bz656793 (gBl (show Int32.toInt 0 = 0 by decide)) (by decide) (by decide)) bz656793 (gBl (show Int32.toInt 0 = 0 by decide)) (by decide) (by decide)
  refine G_iload_n 1 dr_cJ7_copyOfRangeByte_39247_23 rfl ?_
  refine G_mmin dr_cJ7_copyOfRangeByte_39247_24 wr_8_31 wr_3_227 wr_1_6 wr_3_228 (Nat.le_of_ble_eq_true rfl) (Nat.le_of_ble_eq_true rfl) (show 1 ≤ 1 by first | omega | decide) (show z656778.toInt.toNat ≤ p656763.toInt.toNat by first | omega | decide) (G_nam fun z656795 hz656795 => ?_)
  have ez656795 : z656794.toInt ≥ z656795.toInt ∧ z656778.toInt ≥ z656795.toInt ∧ (z656795.toInt = z656794.toInt ∨ z656795.toInt = z656778.toInt) := by have := gI_min hz656795; omega
  have bz656795 : gB z656795 0 16777216 := ⟨by omega, by omega⟩
  refine Gp_copyp 1 hm656788 hm656789 he656786 he656787 dr_cJ7_copyOfRangeByte_39247_27 wr_8_32 wr_5_113 wr_5_112 wr_1_34 rfl rfl (fun j => gT_byte (bf656764 j)) (by decide) (by decide) (by omega) (by have qa0 : Int32.toInt 0 = 0 := (by decide); omega) (by have qa0 : Int32.toInt 0 = 0 := (by decide); omega) (Nat.le_of_ble_eq_true rfl) (Nat.le_of_ble_eq_true rfl) (fun F656796 e656797 n656798 => ?_)
  obtain ⟨f656799, hf656799⟩ : ∃ z, z = va_cpy f656764 (fun _ => 0) (0 : Int32).toNatClampNeg (0 : Int32).toNatClampNeg z656795.toNatClampNeg := ⟨_, rfl⟩
  rw [← hf656799] at e656797
  have bf656799 : gF f656799 (-128) 127 := gF_cpy hf656799 bf656764 (gF_w gF_0 (by decide) (by decide))
  have he656800 : F656796 q656762 = .inl (I .byte, n656765, .inl f656764) := (n656798 q656762 (fun h => hq656790 (h ▸ hmq656762))).trans he656786
  have he656801 : F656796 q656779 = .inl (I .byte, z656778.toInt.toNat, .inl f656799) := e656797
  have hfr656802 : rFr [] P656760 F656761 F656796 := rFr_newp hq656790 hfr656791 n656798
  refine G_aload 0 dr_cJ7_copyOfRangeByte_39247_30 rfl ?_
  exact G_aretA (FieldType.array FieldType.byte) dr_cJ7_copyOfRangeByte_39247_32 rfl (by first | exact Or.inl ⟨_, rfl⟩ | exact Or.inr ⟨_, rfl⟩) (Or.inr ⟨_, rfl⟩) (Nat.le_of_ble_eq_true rfl) (show z656778.toInt.toNat ≤ p656763.toInt.toNat by omega) ⟨P656780, F656796, q656779, z656778.toInt.toNat, f656799, rfl, rfl, hsb656792, hfr656802, he656800, he656801, hm656789, hq656790, (Nat.le_of_ble_eq_true rfl), (by omega), bf656799, (by have qa0 : Int32.toInt 0 = 0 := (by decide); omega), (sK_cp2 hf656799 (by decide) (by decide) (by omega)), (fun R c1 => c1 z656778 z656793 z656794 z656795 f656799 ez656778 ez656793 ez656794 ez656795 hf656799)⟩
/- tr_RArrays_copyOfRange: a.3.#, a.3.[] -/
def tr_RArrays_copyOfRange (a2 : Int32) (a0_v : Nat → Int32) (a0_n : Nat) (o1 : Nat) (o2 : Nat → Int32) : Prop := ∀ R : (Nat) → (Nat → Int32) → Prop,
  (∀ (x1 : Int32), x1.toInt = (a0_n : Nat) → a2.toInt = x1.toInt → R a0_n a0_v) →
  (∀ (x1 : Int32) (x2 : Nat) (x3 : Nat → Int32), x1.toInt = (a0_n : Nat) → a2.toInt ≠ x1.toInt → tr_RArrays_copyOfRangeByte a2 a0_v a0_n x2 x3 → R x2 x3) →
  R o1 o2
abbrev ky_656741_Arrays_copyOfRange : gKey := (cJ7_copyOfRange_39247, 3, "java/util/Arrays", (some (FieldType.array FieldType.byte)), [], "copyOfRange", fun _ _ => True)
def pp_656741_Arrays_copyOfRange (D : va_G) (I : FieldType → ClassId) (P656733 : List Nat) (F656734 : Nat → va_E) (q656735 : Nat) (p656736 : Int32) (f656737 : Nat → Int32) (n656738 : Nat) : Option Value → va_W → Nat → Nat → Prop := fun r w dc ds => ∃ (P656834 : List Nat) (F656835 : Nat → va_E) (q656831 : Nat) (n656832 : Nat) (f656833 : Nat → Int32), r = some (.ref q656831) ∧ w = va_pl P656834 F656835 ∧ rSub P656733 P656834 ∧ rFr [] P656733 F656734 F656835 ∧ F656835 q656735 = .inl (I .byte, n656738, .inl f656737) ∧ F656835 q656831 = .inl (I .byte, n656832, .inl f656833) ∧ q656831 ∈ P656834 ∧ q656831 ∉ P656733 ∧ dc ≤ 1 ∧ ds ≤ p656736.toInt.toNat ∧ gF f656833 (-128) 127 ∧ (n656832 : Int) = p656736.toInt ∧ sK f656737 f656833 p656736.toInt ∧ tr_RArrays_copyOfRange p656736 f656737 n656738 n656832 f656833
set_option maxRecDepth 100000 in
set_option maxHeartbeats 4000000 in
theorem cp_656741_Arrays_copyOfRange (l : Launch) (hl0 : l.stackTraces = false) (D : va_G) (I : FieldType → ClassId) (P656733 : List Nat) (F656734 : Nat → va_E) (q656735 : Nat) (p656736 : Int32) (f656737 : Nat → Int32) (n656738 : Nat) (hmq656735 : q656735 ∈ P656733) (heq656735 : F656734 q656735 = .inl (I .byte, n656738, .inl f656737)) (bp656736 : gB p656736 0 16777216) (bf656737 : gF f656737 (-128) 127) (x656739 : p656736.toInt ≤ (n656738 : Int)) (x656740 : ((n656738 : Int) ≤ 16777216)) : CtA (gV D I) l yJ7_copyOfRange_39247 cJ7_copyOfRange_39247 3 (some (FieldType.array FieldType.byte)) 2 45 1 p656736.toInt.toNat [.ref q656735, .int 0, .int p656736] (va_pl P656733 F656734) (pp_656741_Arrays_copyOfRange D I P656733 F656734 q656735 p656736 f656737 n656738) gNA := by
  refine CtA_ofF hl0 (by decide +kernel) (Nat.le_of_ble_eq_true rfl) ?_
  refine G_iload_n 1 dr_cJ7_copyOfRange_39247_0 rfl ?_
  refine G_if_ne 10 dr_cJ7_copyOfRange_39247_1 (by decide +kernel) (fun hc => absurd hc (by decide)) (fun _ => ?_)
  refine G_iload_n 2 dr_cJ7_copyOfRange_39247_4 rfl ?_
  refine G_aload_n 0 dr_cJ7_copyOfRange_39247_5 rfl ?_
  refine Gp_alen (Int32.ofNat n656738) 1 hmq656735 heq656735 dr_cJ7_copyOfRange_39247_6 rfl rfl (G_nam fun z656742 hz656742 => ?_)
  have ez656742 : z656742.toInt = (n656738 : Nat) := gI_ofM hz656742 (by omega)
  have bz656742 : gB z656742 0 16777216 := ⟨by omega, by omega⟩
  refine G_icmp_eq 17 dr_cJ7_copyOfRange_39247_7 (by decide +kernel) (fun hc656743 => ?_) (fun hc656743 => ?_)
  · have r656744 : p656736.toInt = z656742.toInt := gC_eq hc656743
    refine G_aload_n 0 dr_cJ7_copyOfRange_39247_17 rfl ?_
    refine Gp_clone 1 hmq656735 heq656735 rfl dr_cJ7_copyOfRange_39247_18 wr_8_24 wr_8_25 wr_8_26 wr_8_27 wr_8_28 (fun _ _ _ h => gn_w 76 rfl h) bf656737 (Nat.le_of_ble_eq_true rfl) (Nat.le_of_ble_eq_true rfl) (show 0 + 1 ≤ 1 by first | omega | decide) (show 0 + n656738 ≤ p656736.toInt.toNat by first | omega | decide) (fun q656745 P656746 F656747 hq656748 hP656749 e656750 n656751 => ?_)
    refine G_widen (cs' := 1) (sl' := n656738) (by omega) (by omega) ?_
    have he656752 : F656747 q656735 = .inl (I .byte, n656738, .inl f656737) := (n656751 q656735 (fun h => hq656748 (h ▸ hmq656735))).trans heq656735
    have he656753 : F656747 q656745 = .inl (I .byte, n656738, .inl f656737) := e656750
    have hm656754 : q656735 ∈ P656746 := (hP656749 q656735).mpr (Or.inl hmq656735)
    have hm656755 : q656745 ∈ P656746 := (hP656749 q656745).mpr (Or.inr rfl)
    have hq656756 : q656745 ∉ P656733 := fun z => hq656748 ((rSub_rf (P := P656733)) q656745 z)
    have hfr656757 : rFr [] P656733 F656734 F656747 := rFr_new (rSub_rf (P := P656733)) hq656748 (rFr_rf (W := []) (P := P656733) (F := F656734)) n656751
    have hsb656758 : rSub P656733 P656746 := rSub_new (rSub_rf (P := P656733)) hP656749
    refine Gp_casA 1 hm656755 he656753 rfl dr_cJ7_copyOfRange_39247_21 wr_8_30 ?_
    exact G_aretA (FieldType.array FieldType.byte) dr_cJ7_copyOfRange_39247_24 rfl (by first | exact Or.inl ⟨_, rfl⟩ | exact Or.inr ⟨_, rfl⟩) (Or.inr ⟨_, rfl⟩) (Nat.le_of_ble_eq_true rfl) (show n656738 ≤ p656736.toInt.toNat by omega) ⟨P656746, F656747, q656745, n656738, f656737, rfl, rfl, hsb656758, hfr656757, he656752, he656753, hm656755, hq656756, (Nat.le_of_ble_eq_true rfl), (by omega), bf656737, (by have qa0 : Int32.toInt 0 = 0 := (by decide); omega), sK_rf, (fun R c1 c2 => c1 z656742 ez656742 r656744)⟩
  · have r656759 : p656736.toInt ≠ z656742.toInt := gC_ne hc656743
    refine G_aload_n 0 dr_cJ7_copyOfRange_39247_10 rfl ?_
    refine G_iload_n 1 dr_cJ7_copyOfRange_39247_11 rfl ?_
    refine G_iload_n 2 dr_cJ7_copyOfRange_39247_12 rfl ?_
    refine Gw_callS (As := [.ref q656735, .int 0, .int p656736]) (gV_ok D I) (cp_656768_Arrays_copyOfRangeByte l hl0 D I P656733 F656734 q656735 p656736 f656737 n656738 hmq656735 heq656735 bp656736 bf656737 (by have qa0 : Int32.toInt 0 = 0 := (by decide); omega) (by have qa0 : Int32.toInt 0 = 0 := (by decide); omega)) dr_cJ7_copyOfRange_39247_13 ⟨wr_8_96, wr_1_30, wr_8_98, by decide, rfl, (Nat.le_of_ble_eq_true rfl), (Nat.le_of_ble_eq_true rfl)⟩ wr_8_97 (show 0 + 1 ≤ 1 by first | omega | decide) (show 0 + p656736.toInt.toNat ≤ p656736.toInt.toNat by first | omega | decide) (Nat.le_of_ble_eq_true rfl) (fun r656811 w656812 dc656808 ds656809 hp656810 => ?_) (fun _ _ _ _ _ z => z.elim)
    obtain ⟨P656819, F656820, q656813, n656814, f656815, rfl, rfl, hsb656821, hfr656822, he656823, he656824, hm656825, hq656826, hdc, hds, bf656815, x656816, x656817, ht656818⟩ := hp656810
    have hm656827 : q656735 ∈ P656819 := hsb656821 q656735 hmq656735
    have hq656828 : q656813 ∉ P656733 := fun z => hq656826 ((rSub_rf (P := P656733)) q656813 z)
    have hsb656829 : rSub P656733 P656819 := rSub_tr (rSub_rf (P := P656733)) hsb656821
    have hfr656830 : rFr [] P656733 F656734 F656820 := rFr_call (rSub_rf (P := P656733)) (rFr_rf (W := []) (P := P656733) (F := F656734)) hfr656822 (fun b hb hn => ⟨nm_n, nm_n⟩)
    change G _ _ _ _ _ _ _ (.ref q656813 :: _) _ _ _
    refine G_widen (cs' := 1) (sl' := p656736.toInt.toNat) (by omega) (by omega) ?_
    exact G_aretA (FieldType.array FieldType.byte) dr_cJ7_copyOfRange_39247_16 rfl (by first | exact Or.inl ⟨_, rfl⟩ | exact Or.inr ⟨_, rfl⟩) (Or.inr ⟨_, rfl⟩) (Nat.le_of_ble_eq_true rfl) (show p656736.toInt.toNat ≤ p656736.toInt.toNat by omega) ⟨P656819, F656820, q656813, n656814, f656815, rfl, rfl, hsb656829, hfr656830, he656823, he656824, hm656825, hq656828, (Nat.le_of_ble_eq_true rfl), (by omega), bf656815, (by have qa0 : Int32.toInt 0 = 0 := (by decide); omega), (sK_c x656817 (by omega)), (fun R c1 c2 => c2 z656742 n656814 f656815 ez656742 r656759 ht656818)⟩
/- tr_RString_init2: a.0.value.#, a.0.value.[] -/
def tr_RString_init2 (a1_count : Int32) (a1_value_v : Nat → Int32) (a1_value_n : Nat) (o1 : Nat) (o2 : Nat → Int32) : Prop := ∀ R : (Nat) → (Nat → Int32) → Prop,
  (∀ (x1 : Nat) (x2 : Nat → Int32), tr_RArrays_copyOfRange a1_count a1_value_v a1_value_n x1 x2 → R x1 x2) →
  R o1 o2
abbrev ky_656700_String_init : gKey := (cJ0_init_db425, 5, "java/lang/String", none, [], "<init>", fun _ _ => True)
def pp_656700_String_init (D : va_G) (I : FieldType → ClassId) (P656687 : List Nat) (F656688 : Nat → va_E) (q656689 : Nat) (q656690 : Nat) (q656691 : Nat) (p656692 : Int32) (p656693 : Int32) (p656694 : Int32) (p656695 : Int32) (f656696 : Nat → Int32) (n656697 : Nat) : Option Value → va_W → Nat → Nat → Prop := fun r w dc ds => ∃ (P656874 : List Nat) (F656875 : Nat → va_E) (q656871 : Nat) (n656872 : Nat) (f656873 : Nat → Int32), r = none ∧ w = va_pl P656874 F656875 ∧ rSub P656687 P656874 ∧ rFr [q656689] P656687 F656688 F656875 ∧ F656875 q656689 = .inr (0, [.ref q656871, .int 0, .int p656692, .int p656693]) ∧ F656875 q656690 = .inr (1, [.ref q656691, .int 0, .int p656694, .int p656695]) ∧ F656875 q656691 = .inl (I .byte, n656697, .inl f656696) ∧ F656875 q656871 = .inl (I .byte, n656872, .inl f656873) ∧ q656871 ∈ P656874 ∧ q656871 ∉ P656687 ∧ dc ≤ 1 ∧ ds ≤ p656695.toInt.toNat ∧ gF f656873 (-128) 127 ∧ (n656872 : Int) = p656695.toInt ∧ sK f656696 f656873 p656695.toInt ∧ tr_RString_init2 p656695 f656696 n656697 n656872 f656873
set_option maxRecDepth 100000 in
set_option maxHeartbeats 4000000 in
theorem cp_656700_String_init (l : Launch) (hl0 : l.stackTraces = false) (D : va_G) (I : FieldType → ClassId) (P656687 : List Nat) (F656688 : Nat → va_E) (q656689 : Nat) (q656690 : Nat) (q656691 : Nat) (p656692 : Int32) (p656693 : Int32) (p656694 : Int32) (p656695 : Int32) (f656696 : Nat → Int32) (n656697 : Nat) (hmq656689 : q656689 ∈ P656687) (hmq656690 : q656690 ∈ P656687) (hmq656691 : q656691 ∈ P656687) (heq656689 : F656688 q656689 = .inr (0, [.null, .int 0, .int p656692, .int p656693])) (heq656690 : F656688 q656690 = .inr (1, [.ref q656691, .int 0, .int p656694, .int p656695])) (heq656691 : F656688 q656691 = .inl (I .byte, n656697, .inl f656696)) (bp656693 : gB p656693 0 1) (bp656694 : gB p656694 0 1) (bp656695 : gB p656695 0 16777216) (bf656696 : gF f656696 (-128) 127) (x656698 : p656695.toInt ≤ (n656697 : Int)) (x656699 : ((n656697 : Int) ≤ 16777216)) : CtA (gV D I) l yJ0_init_db425 cJ0_init_db425 5 none 3 67 1 p656695.toInt.toNat [.ref q656689, .ref q656690, .null] (va_pl P656687 F656688) (pp_656700_String_init D I P656687 F656688 q656689 q656690 q656691 p656692 p656693 p656694 p656695 f656696 n656697) gNA := by
  refine CtA_ofF hl0 (by decide +kernel) (Nat.le_of_ble_eq_true rfl) ?_
  have bp656692 := gB_any p656692
  refine G_aload_n 0 dr_cJ0_init_db425_0 rfl ?_
  refine G_obj dr_cJ0_init_db425_1 wr_8_78 wr_1_51 wr_1_52 (Nat.le_of_ble_eq_true rfl) (Nat.le_of_ble_eq_true rfl) ?_
  refine G_aload_n 1 dr_cJ0_init_db425_4 rfl ?_
  refine Gw_callVB (As := []) (gV_ok D I) (cp_656710_AbstractStringBuilder_getValue l hl0 D I P656687 F656688 q656690 q656691 p656694 p656695 f656696 n656697 hmq656690 hmq656691 heq656690 heq656691 bp656694 bp656695 bf656696 (by have qa0 : Int32.toInt 0 = 0 := (by decide); omega)) dr_cJ0_init_db425_5 ⟨wr_8_79, wr_1_19, wr_8_83, by decide, rfl, (Nat.le_of_ble_eq_true rfl), (Nat.le_of_ble_eq_true rfl)⟩ wr_8_80 wr_8_82 hmq656690 heq656690 rfl (show 0 + 0 ≤ 1 by first | omega | decide) (show 0 + 0 ≤ p656695.toInt.toNat by first | omega | decide) (Nat.le_of_ble_eq_true rfl) (fun r656714 w656715 dc656711 ds656712 hp656713 => ?_) (fun _ _ _ _ _ z => z.elim)
  obtain ⟨rfl, rfl, hdc, hds⟩ := hp656713
  change G _ _ _ _ _ _ _ (.ref q656691 :: _) _ _ _
  refine G_widen (cs' := 0) (sl' := 0) (by omega) (by omega) ?_
  refine G_astore_n (L' := [(3, .ref q656691), (0, .ref q656689), (1, .ref q656690), (2, .null)]) dr_cJ0_init_db425_8 (Nat.le_of_ble_eq_true rfl) rfl ?_
  refine G_aload_n 2 dr_cJ0_init_db425_9 rfl ?_
  refine Gw_callVU (As := []) (owner := "java/lang/AbstractStringBuilder") (gV_ok D I) (cp_655339_StringBuilder_length l hl0 D I P656687 F656688 q656690 q656691 p656694 p656695 f656696 n656697 hmq656690 hmq656691 heq656690 heq656691 bp656694 bp656695 bf656696 (by have qa0 : Int32.toInt 0 = 0 := (by decide); omega)) dr_cJ0_init_db425_10 ⟨wr_8_84, wr_8_86, wr_8_85, wr_8_91, wr_8_87, wr_8_88, wr_1_20, wr_8_89, by decide, rfl, (Nat.le_of_ble_eq_true rfl), (Nat.le_of_ble_eq_true rfl)⟩ hmq656690 heq656690 rfl (show 0 + 0 ≤ 1 by first | omega | decide) (show 0 + 0 ≤ p656695.toInt.toNat by first | omega | decide) (Nat.le_of_ble_eq_true rfl) (fun r656719 w656720 dc656716 ds656717 hp656718 => ?_) (fun _ _ _ _ _ z => z.elim)
  obtain ⟨rfl, rfl, hdc, hds⟩ := hp656718
  change G _ _ _ _ _ _ _ (.int p656695 :: _) _ _ _
  refine G_widen (cs' := 0) (sl' := 0) (by omega) (by omega) ?_
  refine G_istore (L' := [(4, .int p656695), (3, .ref q656691), (0, .ref q656689), (1, .ref q656690), (2, .null)]) dr_cJ0_init_db425_13 (Nat.le_of_ble_eq_true rfl) rfl ?_
  refine G_aload_n 3 dr_cJ0_init_db425_15 rfl ?_
  refine Gw_callVB (As := []) (gV_ok D I) (cp_655489_AbstractStringBuilder_isLatin1 l hl0 D I P656687 F656688 q656690 q656691 p656694 p656695 f656696 n656697 hmq656690 hmq656691 heq656690 heq656691 bp656694 bp656695 bf656696 (by have qa0 : Int32.toInt 0 = 0 := (by decide); omega)) dr_cJ0_init_db425_16 ⟨wr_8_92, wr_1_19, wr_8_37, by decide, rfl, (Nat.le_of_ble_eq_true rfl), (Nat.le_of_ble_eq_true rfl)⟩ wr_8_34 wr_8_36 hmq656690 heq656690 rfl (show 0 + 0 ≤ 1 by first | omega | decide) (show 0 + 0 ≤ p656695.toInt.toNat by first | omega | decide) (Nat.le_of_ble_eq_true rfl) (fun r656724 w656725 dc656721 ds656722 hp656723 => ?_) (fun _ _ _ _ _ z => z.elim)
  obtain ⟨rfl, rfl, hdc, hds⟩ := hp656723
  change G _ _ _ _ _ _ _ (.int 1 :: _) _ _ _
  refine G_widen (cs' := 0) (sl' := 0) (by omega) (by omega) ?_
  refine G_if_eq 41 dr_cJ0_init_db425_19 (by decide +kernel) (fun hc => absurd hc (by decide)) (fun _ => ?_)
  refine G_aload_n 2 dr_cJ0_init_db425_22 rfl ?_
  refine G_iconst 0 dr_cJ0_init_db425_23 (by decide +kernel) ?_
  refine Gp_putF 1 hmq656689 heq656689 dr_cJ0_init_db425_24 (gk_J0 D I) (Nat.le_of_ble_eq_true rfl) wr_8_183 rfl rfl rfl rfl rfl (Nat.le_of_ble_eq_true rfl) (fun F656726 e656727 n656728 => ?_)
  have he656729 : F656726 q656690 = .inr (1, [.ref q656691, .int 0, .int p656694, .int p656695]) := (n656728 q656690 (rn_oo heq656690 heq656689 (by decide))).trans heq656690
  have he656730 : F656726 q656691 = .inl (I .byte, n656697, .inl f656696) := (n656728 q656691 (rn_ao heq656691 heq656689)).trans heq656691
  have he656731 : F656726 q656689 = .inr (0, [.null, .int 0, .int p656692, .int p656693]) := e656727
  have hfr656732 : rFr [q656689] P656687 F656688 F656726 := rFr_put (rFr_rf (W := []) (P := P656687) (F := F656688)) n656728
  refine G_aload_n 2 dr_cJ0_init_db425_27 rfl ?_
  refine G_aload_n 1 dr_cJ0_init_db425_28 rfl ?_
  refine G_iconst 0 dr_cJ0_init_db425_29 (by decide +kernel) ?_
  refine G_iload 0 dr_cJ0_init_db425_30 rfl ?_
  refine Gw_callS (As := [.ref q656691, .int 0, .int p656695]) (gV_ok D I) (cp_656741_Arrays_copyOfRange l hl0 D I P656687 F656726 q656691 p656695 f656696 n656697 hmq656691 he656730 bp656695 bf656696 (by have qa0 : Int32.toInt 0 = 0 := (by decide); omega) (by have qa0 : Int32.toInt 0 = 0 := (by decide); omega)) dr_cJ0_init_db425_32 ⟨wr_8_93, wr_1_30, wr_8_95, by decide, rfl, (Nat.le_of_ble_eq_true rfl), (Nat.le_of_ble_eq_true rfl)⟩ wr_8_94 (show 0 + 1 ≤ 1 by first | omega | decide) (show 0 + p656695.toInt.toNat ≤ p656695.toInt.toNat by first | omega | decide) (Nat.le_of_ble_eq_true rfl) (fun r656839 w656840 dc656836 ds656837 hp656838 => ?_) (fun _ _ _ _ _ z => z.elim)
  obtain ⟨P656847, F656848, q656841, n656842, f656843, rfl, rfl, hsb656849, hfr656850, he656851, he656852, hm656853, hq656854, hdc, hds, bf656843, x656844, x656845, ht656846⟩ := hp656838
  have hm656855 : q656689 ∈ P656847 := hsb656849 q656689 hmq656689
  have hm656856 : q656690 ∈ P656847 := hsb656849 q656690 hmq656690
  have hm656857 : q656691 ∈ P656847 := hsb656849 q656691 hmq656691
  have hq656858 : q656841 ∉ P656687 := fun z => hq656854 ((rSub_rf (P := P656687)) q656841 z)
  have hsb656859 : rSub P656687 P656847 := rSub_tr (rSub_rf (P := P656687)) hsb656849
  have he656860 : F656848 q656689 = .inr (0, [.null, .int 0, .int p656692, .int p656693]) := (hfr656850 q656689 hmq656689 nm_n).trans he656731
  have he656861 : F656848 q656690 = .inr (1, [.ref q656691, .int 0, .int p656694, .int p656695]) := (hfr656850 q656690 hmq656690 nm_n).trans he656729
  have hfr656862 : rFr [q656689] P656687 F656688 F656848 := rFr_call (rSub_rf (P := P656687)) hfr656732 hfr656850 (fun b hb hn => ⟨(nm_c (fun e => hn (e ▸ List.mem_cons_self)) nm_n), nm_n⟩)
  change G _ _ _ _ _ _ _ (.ref q656841 :: _) _ _ _
  refine G_widen (cs' := 1) (sl' := p656695.toInt.toNat) (by omega) (by omega) ?_
  refine Gp_putF 0 hm656855 he656860 dr_cJ0_init_db425_35 (gk_J0 D I) (Nat.le_of_ble_eq_true rfl) wr_8_182 rfl rfl rfl rfl rfl (Nat.le_of_ble_eq_true rfl) (fun F656863 e656864 n656865 => ?_)
  have he656866 : F656863 q656690 = .inr (1, [.ref q656691, .int 0, .int p656694, .int p656695]) := (n656865 q656690 (rn_oo he656861 he656860 (by decide))).trans he656861
  have he656867 : F656863 q656691 = .inl (I .byte, n656697, .inl f656696) := (n656865 q656691 (rn_ao he656851 he656860)).trans he656851
  have he656868 : F656863 q656841 = .inl (I .byte, n656842, .inl f656843) := (n656865 q656841 (fun h => hq656858 (h ▸ hmq656689))).trans he656852
  have he656869 : F656863 q656689 = .inr (0, [.ref q656841, .int 0, .int p656692, .int p656693]) := e656864
  have hfr656870 : rFr [q656689] P656687 F656688 F656863 := rFr_put' List.mem_cons_self hfr656862 n656865
  refine G_goto 97 dr_cJ0_init_db425_38 (by decide +kernel) ?_
  exact G_vretA dr_cJ0_init_db425_97 rfl (Nat.le_of_ble_eq_true rfl) (show p656695.toInt.toNat ≤ p656695.toInt.toNat by omega) ⟨P656847, F656863, q656841, n656842, f656843, rfl, rfl, hsb656859, hfr656870, he656869, he656866, he656867, he656868, hm656853, hq656858, (Nat.le_of_ble_eq_true rfl), (by omega), bf656843, (by have qa0 : Int32.toInt 0 = 0 := (by decide); omega), (sK_c x656845 (by omega)), (fun R c1 => c1 n656842 f656843 ht656846)⟩
/- tr_RString_init: a.0.value.#, a.0.value.[] -/
def tr_RString_init (a1_count : Int32) (a1_value_v : Nat → Int32) (a1_value_n : Nat) (o1 : Nat) (o2 : Nat → Int32) : Prop := ∀ R : (Nat) → (Nat → Int32) → Prop,
  (∀ (x1 : Nat) (x2 : Nat → Int32), tr_RString_init2 a1_count a1_value_v a1_value_n x1 x2 → R x1 x2) →
  R o1 o2
abbrev ky_656686_String_init : gKey := (cJ0_init_81219, 2, "java/lang/String", none, [], "<init>", fun _ _ => True)
def pp_656686_String_init (D : va_G) (I : FieldType → ClassId) (P656673 : List Nat) (F656674 : Nat → va_E) (q656675 : Nat) (q656676 : Nat) (q656677 : Nat) (p656678 : Int32) (p656679 : Int32) (p656680 : Int32) (p656681 : Int32) (f656682 : Nat → Int32) (n656683 : Nat) : Option Value → va_W → Nat → Nat → Prop := fun r w dc ds => ∃ (P656906 : List Nat) (F656907 : Nat → va_E) (q656903 : Nat) (n656904 : Nat) (f656905 : Nat → Int32), r = none ∧ w = va_pl P656906 F656907 ∧ rSub P656673 P656906 ∧ rFr [q656675] P656673 F656674 F656907 ∧ F656907 q656675 = .inr (0, [.ref q656903, .int 0, .int p656678, .int p656679]) ∧ F656907 q656676 = .inr (1, [.ref q656677, .int 0, .int p656680, .int p656681]) ∧ F656907 q656677 = .inl (I .byte, n656683, .inl f656682) ∧ F656907 q656903 = .inl (I .byte, n656904, .inl f656905) ∧ q656903 ∈ P656906 ∧ q656903 ∉ P656673 ∧ dc ≤ 1 ∧ ds ≤ p656681.toInt.toNat ∧ gF f656905 (-128) 127 ∧ (n656904 : Int) = p656681.toInt ∧ sK f656682 f656905 p656681.toInt ∧ tr_RString_init p656681 f656682 n656683 n656904 f656905
set_option maxRecDepth 100000 in
set_option maxHeartbeats 4000000 in
theorem cp_656686_String_init (l : Launch) (hl0 : l.stackTraces = false) (D : va_G) (I : FieldType → ClassId) (P656673 : List Nat) (F656674 : Nat → va_E) (q656675 : Nat) (q656676 : Nat) (q656677 : Nat) (p656678 : Int32) (p656679 : Int32) (p656680 : Int32) (p656681 : Int32) (f656682 : Nat → Int32) (n656683 : Nat) (hmq656675 : q656675 ∈ P656673) (hmq656676 : q656676 ∈ P656673) (hmq656677 : q656677 ∈ P656673) (heq656675 : F656674 q656675 = .inr (0, [.null, .int 0, .int p656678, .int p656679])) (heq656676 : F656674 q656676 = .inr (1, [.ref q656677, .int 0, .int p656680, .int p656681])) (heq656677 : F656674 q656677 = .inl (I .byte, n656683, .inl f656682)) (bp656679 : gB p656679 0 1) (bp656680 : gB p656680 0 1) (bp656681 : gB p656681 0 16777216) (bf656682 : gF f656682 (-128) 127) (x656684 : p656681.toInt ≤ (n656683 : Int)) (x656685 : ((n656683 : Int) ≤ 16777216)) : CtA (gV D I) l yJ0_init_81219 cJ0_init_81219 2 none 4 91 1 p656681.toInt.toNat [.ref q656675, .ref q656676] (va_pl P656673 F656674) (pp_656686_String_init D I P656673 F656674 q656675 q656676 q656677 p656678 p656679 p656680 p656681 f656682 n656683) gNA := by
  refine CtA_ofF hl0 (by decide +kernel) (Nat.le_of_ble_eq_true rfl) ?_
  have bp656678 := gB_any p656678
  refine G_aload_n 0 dr_cJ0_init_81219_0 rfl ?_
  refine G_aload_n 1 dr_cJ0_init_81219_1 rfl ?_
  refine G_null dr_cJ0_init_81219_2 ?_
  refine Gw_callI (As := [.ref q656676, .null]) (gV_ok D I) (cp_656700_String_init l hl0 D I P656673 F656674 q656675 q656676 q656677 p656678 p656679 p656680 p656681 f656682 n656683 hmq656675 hmq656676 hmq656677 heq656675 heq656676 heq656677 bp656679 bp656680 bp656681 bf656682 (by have qa0 : Int32.toInt 0 = 0 := (by decide); omega) (by have qa0 : Int32.toInt 0 = 0 := (by decide); omega)) dr_cJ0_init_81219_3 ⟨wr_8_75, wr_1_21, wr_8_77, by decide, rfl, (Nat.le_of_ble_eq_true rfl), (Nat.le_of_ble_eq_true rfl)⟩ wr_8_76 rfl (show 0 + 1 ≤ 1 by first | omega | decide) (show 0 + p656681.toInt.toNat ≤ p656681.toInt.toNat by first | omega | decide) (Nat.le_of_ble_eq_true rfl) (fun r656879 w656880 dc656876 ds656877 hp656878 => ?_)
  obtain ⟨P656887, F656888, q656881, n656882, f656883, rfl, rfl, hsb656889, hfr656890, he656891, he656892, he656893, he656894, hm656895, hq656896, hdc, hds, bf656883, x656884, x656885, ht656886⟩ := hp656878
  have hm656897 : q656675 ∈ P656887 := hsb656889 q656675 hmq656675
  have hm656898 : q656676 ∈ P656887 := hsb656889 q656676 hmq656676
  have hm656899 : q656677 ∈ P656887 := hsb656889 q656677 hmq656677
  have hq656900 : q656881 ∉ P656673 := fun z => hq656896 ((rSub_rf (P := P656673)) q656881 z)
  have hsb656901 : rSub P656673 P656887 := rSub_tr (rSub_rf (P := P656673)) hsb656889
  have hfr656902 : rFr [q656675] P656673 F656674 F656888 := rFr_call (rSub_rf (P := P656673)) (rFr_rf (W := []) (P := P656673) (F := F656674)) hfr656890 (fun b hb hn => ⟨nm_n, (nm_c (fun e => hn (e ▸ List.mem_cons_self)) nm_n)⟩)
  change G _ _ _ _ _ _ _ _ _ _ _
  refine G_widen (cs' := 1) (sl' := p656681.toInt.toNat) (by omega) (by omega) ?_
  exact G_vretA dr_cJ0_init_81219_6 rfl (Nat.le_of_ble_eq_true rfl) (show p656681.toInt.toNat ≤ p656681.toInt.toNat by omega) ⟨P656887, F656888, q656881, n656882, f656883, rfl, rfl, hsb656901, hfr656902, he656891, he656892, he656893, he656894, hm656895, hq656900, (Nat.le_of_ble_eq_true rfl), (by omega), bf656883, (by have qa0 : Int32.toInt 0 = 0 := (by decide); omega), (sK_c x656885 (by omega)), (fun R c1 => c1 n656882 f656883 ht656886)⟩
/- tr_RStringBuilder_toString: a.1.value.#, a.1.value.[] -/
def tr_RStringBuilder_toString (a0_count : Int32) (a0_value_v : Nat → Int32) (a0_value_n : Nat) (o1 : Nat) (o2 : Nat → Int32) : Prop := ∀ R : (Nat) → (Nat → Int32) → Prop,
  (∀ (x1 : Nat) (x2 : Nat → Int32), tr_RString_init a0_count a0_value_v a0_value_n x1 x2 → R x1 x2) →
  R o1 o2
abbrev ky_656656_StringBuilder_toString : gKey := (cJ4_toString_0e30d, 1, "java/lang/StringBuilder", (some (FieldType.object "java/lang/String")), [], "toString", fun _ _ => True)
def pp_656656_StringBuilder_toString (D : va_G) (I : FieldType → ClassId) (P656646 : List Nat) (F656647 : Nat → va_E) (q656648 : Nat) (q656649 : Nat) (p656650 : Int32) (p656651 : Int32) (f656652 : Nat → Int32) (n656653 : Nat) : Option Value → va_W → Nat → Nat → Prop := fun r w dc ds => ∃ (P656939 : List Nat) (F656940 : Nat → va_E) (q656935 : Nat) (q656936 : Nat) (n656937 : Nat) (f656938 : Nat → Int32), r = some (.ref q656935) ∧ w = va_pl P656939 F656940 ∧ rSub P656646 P656939 ∧ rFr [] P656646 F656647 F656940 ∧ F656940 q656935 = .inr (0, [.ref q656936, .int 0, .int 0, .int 0]) ∧ F656940 q656648 = .inr (1, [.ref q656649, .int 0, .int p656650, .int p656651]) ∧ F656940 q656649 = .inl (I .byte, n656653, .inl f656652) ∧ F656940 q656936 = .inl (I .byte, n656937, .inl f656938) ∧ q656935 ∈ P656939 ∧ q656935 ∉ P656646 ∧ q656936 ∈ P656939 ∧ q656936 ∉ P656646 ∧ dc ≤ 2 ∧ ds ≤ p656651.toInt.toNat + 4 ∧ gF f656938 (-128) 127 ∧ (n656937 : Int) = p656651.toInt ∧ sK f656652 f656938 p656651.toInt ∧ tr_RStringBuilder_toString p656651 f656652 n656653 n656937 f656938
set_option maxRecDepth 100000 in
set_option maxHeartbeats 4000000 in
theorem cp_656656_StringBuilder_toString (l : Launch) (hl0 : l.stackTraces = false) (D : va_G) (I : FieldType → ClassId) (P656646 : List Nat) (F656647 : Nat → va_E) (q656648 : Nat) (q656649 : Nat) (p656650 : Int32) (p656651 : Int32) (f656652 : Nat → Int32) (n656653 : Nat) (hmq656648 : q656648 ∈ P656646) (hmq656649 : q656649 ∈ P656646) (heq656648 : F656647 q656648 = .inr (1, [.ref q656649, .int 0, .int p656650, .int p656651])) (heq656649 : F656647 q656649 = .inl (I .byte, n656653, .inl f656652)) (bp656650 : gB p656650 0 1) (bp656651 : gB p656651 0 16777216) (bf656652 : gF f656652 (-128) 127) (x656654 : p656651.toInt ≤ (n656653 : Int)) (x656655 : ((n656653 : Int) ≤ 16777216)) : CtA (gV D I) l yJ4_toString_0e30d cJ4_toString_0e30d 1 (some (FieldType.object "java/lang/String")) 5 112 2 (p656651.toInt.toNat + 4) [.ref q656648] (va_pl P656646 F656647) (pp_656656_StringBuilder_toString D I P656646 F656647 q656648 q656649 p656650 p656651 f656652 n656653) gNA := by
  refine CtA_ofF hl0 (by decide +kernel) (Nat.le_of_ble_eq_true rfl) ?_
  refine G_new [.null, .int 0, .int 0, .int 0] dr_cJ4_toString_0e30d_0 (gk_J0 D I) wr_8_70 wr_8_71 wr_1_21 (gfs_J0) (show 0 + 1 ≤ 2 by first | omega | decide) (show 0 + 4 ≤ (p656651.toInt.toNat + 4) by first | omega | decide) (fun q656657 => Gp_in (fun P656658 F656659 hq656660 hP656661 e656662 n656663 => ?_))
  refine G_widen (cs' := 1) (sl' := 4) (by omega) (by omega) ?_
  have he656664 : F656659 q656648 = .inr (1, [.ref q656649, .int 0, .int p656650, .int p656651]) := (n656663 q656648 (fun h => hq656660 (h ▸ hmq656648))).trans heq656648
  have he656665 : F656659 q656649 = .inl (I .byte, n656653, .inl f656652) := (n656663 q656649 (fun h => hq656660 (h ▸ hmq656649))).trans heq656649
  have he656666 : F656659 q656657 = .inr (0, [.null, .int 0, .int 0, .int 0]) := e656662
  have hm656667 : q656648 ∈ P656658 := (hP656661 q656648).mpr (Or.inl hmq656648)
  have hm656668 : q656649 ∈ P656658 := (hP656661 q656649).mpr (Or.inl hmq656649)
  have hm656669 : q656657 ∈ P656658 := (hP656661 q656657).mpr (Or.inr rfl)
  have hq656670 : q656657 ∉ P656646 := fun z => hq656660 ((rSub_rf (P := P656646)) q656657 z)
  have hfr656671 : rFr [] P656646 F656647 F656659 := rFr_new (rSub_rf (P := P656646)) hq656660 (rFr_rf (W := []) (P := P656646) (F := F656647)) n656663
  have hsb656672 : rSub P656646 P656658 := rSub_new (rSub_rf (P := P656646)) hP656661
  refine G_dup dr_cJ4_toString_0e30d_3 rfl ?_
  refine G_aload_n 0 dr_cJ4_toString_0e30d_4 rfl ?_
  refine Gw_callI (As := [.ref q656648]) (gV_ok D I) (cp_656686_String_init l hl0 D I P656658 F656659 q656657 q656648 q656649 0 0 p656650 p656651 f656652 n656653 hm656669 hm656667 hm656668 he656666 he656664 he656665 (gB_w (gBl (show Int32.toInt 0 = 0 by decide)) (by decide) (by decide)) bp656650 bp656651 bf656652 (by have qa0 : Int32.toInt 0 = 0 := (by decide); omega) (by have qa0 : Int32.toInt 0 = 0 := (by decide); omega)) dr_cJ4_toString_0e30d_5 ⟨wr_8_72, wr_1_21, wr_8_74, by decide, rfl, (Nat.le_of_ble_eq_true rfl), (Nat.le_of_ble_eq_true rfl)⟩ wr_8_73 rfl (show 1 + 1 ≤ 2 by first | omega | decide) (show 4 + p656651.toInt.toNat ≤ (p656651.toInt.toNat + 4) by first | omega | decide) (Nat.le_of_ble_eq_true rfl) (fun r656911 w656912 dc656908 ds656909 hp656910 => ?_)
  obtain ⟨P656919, F656920, q656913, n656914, f656915, rfl, rfl, hsb656921, hfr656922, he656923, he656924, he656925, he656926, hm656927, hq656928, hdc, hds, bf656915, x656916, x656917, ht656918⟩ := hp656910
  have hm656929 : q656648 ∈ P656919 := hsb656921 q656648 hm656667
  have hm656930 : q656649 ∈ P656919 := hsb656921 q656649 hm656668
  have hm656931 : q656657 ∈ P656919 := hsb656921 q656657 hm656669
  have hq656932 : q656913 ∉ P656646 := fun z => hq656928 (hsb656672 q656913 z)
  have hsb656933 : rSub P656646 P656919 := rSub_tr hsb656672 hsb656921
  have hfr656934 : rFr [] P656646 F656647 F656920 := rFr_call hsb656672 hfr656671 hfr656922 (fun b hb hn => ⟨nm_n, (nm_c (fun e => hq656670 (e ▸ hb)) nm_n)⟩)
  change G _ _ _ _ _ _ _ _ _ _ _
  refine G_widen (cs' := 2) (sl' := 4 + p656651.toInt.toNat) (by omega) (by omega) ?_
  exact G_aretA (FieldType.object "java/lang/String") dr_cJ4_toString_0e30d_8 rfl (by first | exact Or.inl ⟨_, rfl⟩ | exact Or.inr ⟨_, rfl⟩) (Or.inr ⟨_, rfl⟩) (Nat.le_of_ble_eq_true rfl) (show 4 + p656651.toInt.toNat ≤ (p656651.toInt.toNat + 4) by omega) ⟨P656919, F656920, q656657, q656913, n656914, f656915, rfl, rfl, hsb656933, hfr656934, he656923, he656924, he656925, he656926, hm656931, hq656670, hm656927, hq656932, (Nat.le_of_ble_eq_true rfl), (by omega), bf656915, (by have qa0 : Int32.toInt 0 = 0 := (by decide); omega), (sK_c x656917 (by omega)), (fun R c1 => c1 n656914 f656915 ht656918)⟩
/- tl_RStringLatin1_equals_9: l2; out:  -/
def tl_RStringLatin1_equals_9 (a0_n : Nat) (a0_v : Nat → Int32) (bs : List Int32) (s1 : Int32) (k : Nat) : Prop := ∀ R : (Int32) → Nat → Prop,
  (∀ (l2_1 : Int32) (x1 : Int32), gB l2_1 0 16777216 → x1.toInt = (a0_n : Nat) → x1.toInt ≤ l2_1.toInt → R l2_1 32) →
  (∀ (l2_1 : Int32) (x1 : Int32) (x2 : Int32) (x3 : Int32) (x4 : Int32) (k : Nat), gB l2_1 0 16777216 → x1.toInt = (a0_n : Nat) → l2_1.toInt < x1.toInt → x2 = a0_v l2_1.toNatClampNeg → gB x2 (-128) 127 → x3 = bs.getD l2_1.toNatClampNeg 0 → x2.toInt = x3.toInt → x4.toInt = l2_1.toInt + 1 → R x4 k → R l2_1 k) →
  (∀ (l2_1 : Int32) (x1 : Int32) (x2 : Int32) (x3 : Int32), gB l2_1 0 16777216 → x1.toInt = (a0_n : Nat) → l2_1.toInt < x1.toInt → x2 = a0_v l2_1.toNatClampNeg → gB x2 (-128) 127 → x3 = bs.getD l2_1.toNatClampNeg 0 → x2.toInt ≠ x3.toInt → R l2_1 24) →
  R s1 k
/- tr_RStringLatin1_equals: result -/
def tr_RStringLatin1_equals (bs : List Int32) (a0_v : Nat → Int32) (a0_n : Nat) (o1 : Int32) : Prop := ∀ R : (Int32) → Prop,
  (∀ (x1 : Int32) (x2 : Int32), x1.toInt = (a0_n : Nat) → x2.toInt = (bs.length : Int) → x1.toInt ≠ x2.toInt → R (0 : Int32)) →
  (∀ (x1 : Int32) (x2 : Int32), x1.toInt = (a0_n : Nat) → x2.toInt = (bs.length : Int) → x1.toInt = x2.toInt → tl_RStringLatin1_equals_9 a0_n a0_v bs (0 : Int32) 32 → R (1 : Int32)) →
  (∀ (x1 : Int32) (x2 : Int32), x1.toInt = (a0_n : Nat) → x2.toInt = (bs.length : Int) → x1.toInt = x2.toInt → tl_RStringLatin1_equals_9 a0_n a0_v bs (0 : Int32) 24 → R (0 : Int32)) →
  R o1
abbrev ky_656963_StringLatin1_equals : gKey := (cJ1_equals_b5fdf, 3, "java/lang/StringLatin1", (some FieldType.boolean), [], "equals", fun _ _ => True)
def pp_656963_StringLatin1_equals (D : va_G) (I : FieldType → ClassId) (P656955 : List Nat) (F656956 : Nat → va_E) (q656957 : Nat) (qs656958 : Nat) (bs656959 : List Int32) (f656960 : Nat → Int32) (n656961 : Nat) : Option Value → va_W → Nat → Nat → Prop := fun r w dc ds => ∃ (o657046 : Int32), r = some (.int o657046) ∧ w = va_pl P656955 F656956 ∧ dc ≤ 0 ∧ ds ≤ 0 ∧ gB o657046 0 1 ∧ tr_RStringLatin1_equals bs656959 f656960 n656961 o657046
set_option maxRecDepth 100000 in
set_option maxHeartbeats 4000000 in
theorem cp_656963_StringLatin1_equals (l : Launch) (hl0 : l.stackTraces = false) (D : va_G) (I : FieldType → ClassId) (P656955 : List Nat) (F656956 : Nat → va_E) (q656957 : Nat) (qs656958 : Nat) (bs656959 : List Int32) (f656960 : Nat → Int32) (n656961 : Nat) (hmq656957 : q656957 ∈ P656955) (heq656957 : F656956 q656957 = .inl (I .byte, n656961, .inl f656960)) (hbs656959 : ∀ A s H, (gV D I).2.2.2.1 A s H → va_T .byte qs656958 bs656959.length (fun j => .int (bs656959.getD j 0)) A s H) (nbs656959 : (bs656959.length : Int) ≤ 65535) (lbs656959 : gLB bs656959) (bf656960 : gF f656960 (-128) 127) (x656962 : ((n656961 : Int) ≤ 16777216)) : CtA (gV D I) l yJ1_equals_b5fdf cJ1_equals_b5fdf 3 (some FieldType.boolean) 0 0 0 0 [.ref q656957, .ref qs656958] (va_pl P656955 F656956) (pp_656963_StringLatin1_equals D I P656955 F656956 q656957 qs656958 bs656959 f656960 n656961) gNA := by
  refine CtA_ofF hl0 (by decide +kernel) (Nat.le_of_ble_eq_true rfl) ?_
  refine G_aload_n 0 dr_cJ1_equals_b5fdf_0 rfl ?_
  refine Gp_alen (Int32.ofNat n656961) 1 hmq656957 heq656957 dr_cJ1_equals_b5fdf_1 rfl rfl (G_nam fun z656964 hz656964 => ?_)
  have ez656964 : z656964.toInt = (n656961 : Nat) := gI_ofM hz656964 (by omega)
  have bz656964 : gB z656964 0 16777216 := ⟨by omega, by omega⟩
  refine G_aload_n 1 dr_cJ1_equals_b5fdf_2 rfl ?_
  refine G_klen dr_cJ1_equals_b5fdf_3 hbs656959 (G_nam fun z656965 hz656965 => ?_)
  have ez656965 : z656965.toInt = (bs656959.length : Int) := gI_ofN hz656965 nbs656959
  have bz656965 : gB z656965 0 65535 := ⟨by omega, by omega⟩
  refine G_icmp_ne 34 dr_cJ1_equals_b5fdf_4 (by decide +kernel) (fun hc656966 => ?_) (fun hc656966 => ?_)
  · have r656967 : z656964.toInt ≠ z656965.toInt := gC_ne hc656966
    refine G_iconst 0 dr_cJ1_equals_b5fdf_34 (by decide +kernel) ?_
    exact G_zretA FieldType.boolean dr_cJ1_equals_b5fdf_35 rfl rfl (Nat.le_of_ble_eq_true rfl) (Nat.le_of_ble_eq_true rfl) ⟨0, rfl, rfl, (Nat.le_of_ble_eq_true rfl), (Nat.le_of_ble_eq_true rfl), (gB_w (gBl (show Int32.toInt 0 = 0 by decide)) (by decide) (by decide)), (fun R c1 c2 c3 => c1 z656964 z656965 ez656964 ez656965 r656967)⟩
  · have r656968 : z656964.toInt = z656965.toInt := gC_eq hc656966
    have bz656964' : gB z656964 0 65535 := ⟨by omega, by omega⟩
    refine G_iconst 0 dr_cJ1_equals_b5fdf_7 (by decide +kernel) ?_
    refine G_istore_n (L' := [(2, .int 0), (0, .ref q656957), (1, .ref qs656958)]) dr_cJ1_equals_b5fdf_8 (Nat.le_of_ble_eq_true rfl) rfl ?_
    have hlp9_657033 : ∀ (n9_657033 : Nat) (g657033 : Int32), gB g657033 0 16777216 → (∀ (k : Nat), tl_RStringLatin1_equals_9 n656961 f656960 bs656959 g657033 k → tl_RStringLatin1_equals_9 n656961 f656960 bs656959 (0 : Int32) k) → ((16777217 : Int) - g657033.toInt).toNat < n9_657033 → G (gV D I) l (gRm 0 0 0 0) (gMA (gV D I) (pp_656963_StringLatin1_equals D I P656955 F656956 q656957 qs656958 bs656959 f656960 n656961) gNA 0 0) ky_656963_StringLatin1_equals 9 [(2, .int g657033), (0, .ref q656957), (1, .ref qs656958)] [] (va_pl P656955 F656956) 0 0 := by
      intro n9_657033
      induction n9_657033 with
      | zero => intro g657033 bg657033 kt9_657033 hm9_657033; exact absurd hm9_657033 (Nat.not_lt_zero _)
      | succ n9_657033 ih9_657033 =>
        intro g657033 bg657033 kt9_657033 hm9_657033
        refine G_iload_n 0 dr_cJ1_equals_b5fdf_9 rfl ?_
        refine G_aload_n 1 dr_cJ1_equals_b5fdf_10 rfl ?_
        refine Gp_alen (Int32.ofNat n656961) 1 hmq656957 heq656957 dr_cJ1_equals_b5fdf_11 rfl rfl (G_nam fun z657034 hz657034 => ?_)
        have ez657034 : z657034.toInt = (n656961 : Nat) := gI_ofM hz657034 (by omega)
        have bz657034 : gB z657034 0 16777216 := ⟨by omega, by omega⟩
        refine G_icmp_ge 32 dr_cJ1_equals_b5fdf_12 (by decide +kernel) (fun hc657035 => ?_) (fun hc657035 => ?_)
        · have r657036 : z657034.toInt ≤ g657033.toInt := gC_le hc657035
          have hx657037 : tl_RStringLatin1_equals_9 n656961 f656960 bs656959 (0 : Int32) 32 := kt9_657033 32 (fun R c1 c2 c3 => c1 g657033 z657034 bg657033 ez657034 r657036)
          refine G_iconst 1 dr_cJ1_equals_b5fdf_32 (by decide +kernel) ?_
          exact G_zretA FieldType.boolean dr_cJ1_equals_b5fdf_33 rfl rfl (Nat.le_of_ble_eq_true rfl) (Nat.le_of_ble_eq_true rfl) ⟨1, rfl, rfl, (Nat.le_of_ble_eq_true rfl), (Nat.le_of_ble_eq_true rfl), (gB_w (gBl (show Int32.toInt 1 = 1 by decide)) (by decide) (by decide)), (fun R c1 c2 c3 => c2 z656964 z656965 ez656964 ez656965 r656968 hx657037)⟩
        · have r657038 : g657033.toInt < z657034.toInt := gC_nle hc657035
          have bg657033' : gB g657033 0 16777215 := ⟨by omega, by omega⟩
          have bz657034' : gB z657034 1 16777216 := ⟨by omega, by omega⟩
          refine G_aload_n 1 dr_cJ1_equals_b5fdf_15 rfl ?_
          refine G_iload_n 0 dr_cJ1_equals_b5fdf_16 rfl ?_
          refine Gp_bald 1 hmq656957 heq656957 dr_cJ1_equals_b5fdf_17 rfl (gB_inr (by omega) (by omega)) (G_nam fun z657039 hz657039 => ?_)
          have bz657039 : gB z657039 (-128) 127 := by rw [hz657039]; exact bf656960 _
          refine G_aload_n 2 dr_cJ1_equals_b5fdf_18 rfl ?_
          refine G_iload_n 0 dr_cJ1_equals_b5fdf_19 rfl ?_
          refine G_kbald (f := fun j => bs656959.getD j 0) dr_cJ1_equals_b5fdf_20 hbs656959 (gB_inr (by omega) (by omega)) (G_nam fun z657040 hz657040 => ?_)
          have bz657040 : gB z657040 (-2147483648) 2147483647 := gB_any z657040
          refine G_icmp_eq 26 dr_cJ1_equals_b5fdf_21 (by decide +kernel) (fun hc657041 => ?_) (fun hc657041 => ?_)
          · have r657042 : z657039.toInt = z657040.toInt := gC_eq hc657041
            have bz657040' : gB z657040 (-128) 127 := ⟨by omega, by omega⟩
            obtain ⟨z657043, hz657043⟩ : ∃ z : Int32, z = g657033 + Int32.ofInt 1 := ⟨_, rfl⟩
            have ez657043 : z657043.toInt = g657033.toInt + 1 := gI_inc hz657043 (by decide) bg657033' (by decide) (by decide)
            have bz657043 : gB z657043 1 16777216 := ⟨by omega, by omega⟩
            refine G_iinc (L' := [(2, .int z657043), (0, .ref q656957), (1, .ref qs656958)]) z657043 0 dr_cJ1_equals_b5fdf_26 rfl hz657043.symm (Nat.le_of_ble_eq_true rfl) rfl ?_
            refine G_goto 9 dr_cJ1_equals_b5fdf_29 (by decide +kernel) ?_
            exact ih9_657033 z657043 (gB_w bz657043 (by decide) (by decide)) (fun k ht => kt9_657033 k (fun R c1 c2 c3 => c2 g657033 z657034 z657039 z657040 z657043 k bg657033 ez657034 r657038 hz657039 bz657039 hz657040 r657042 ez657043 (ht R c1 c2 c3))) (by omega)
          · have r657044 : z657039.toInt ≠ z657040.toInt := gC_ne hc657041
            have hx657045 : tl_RStringLatin1_equals_9 n656961 f656960 bs656959 (0 : Int32) 24 := kt9_657033 24 (fun R c1 c2 c3 => c3 g657033 z657034 z657039 z657040 bg657033 ez657034 r657038 hz657039 bz657039 hz657040 r657044)
            refine G_iconst 0 dr_cJ1_equals_b5fdf_24 (by decide +kernel) ?_
            exact G_zretA FieldType.boolean dr_cJ1_equals_b5fdf_25 rfl rfl (Nat.le_of_ble_eq_true rfl) (Nat.le_of_ble_eq_true rfl) ⟨0, rfl, rfl, (Nat.le_of_ble_eq_true rfl), (Nat.le_of_ble_eq_true rfl), (gB_w (gBl (show Int32.toInt 0 = 0 by decide)) (by decide) (by decide)), (fun R c1 c2 c3 => c3 z656964 z656965 ez656964 ez656965 r656968 hx657045)⟩
    exact hlp9_657033 (((16777217 : Int) - 0).toNat + 1) 0 (gB_w (gBl (show Int32.toInt 0 = 0 by decide)) (by decide) (by decide)) (fun k ht => ht) (Nat.lt_succ_self _)
/- tr_RString_equals: result -/
def tr_RString_equals (bs : List Int32) (a0_value_v : Nat → Int32) (a0_value_n : Nat) (o1 : Int32) : Prop := ∀ R : (Int32) → Prop,
  (∀ (x1 : Int32), gB x1 0 1 → tr_RStringLatin1_equals bs a0_value_v a0_value_n x1 → x1.toInt = 0 → R (0 : Int32)) →
  (∀ (x1 : Int32), gB x1 0 1 → tr_RStringLatin1_equals bs a0_value_v a0_value_n x1 → x1.toInt ≠ 0 → R (1 : Int32)) →
  R o1
abbrev ky_656953_String_equals : gKey := (cJ0_equals_9ea2d, 3, "java/lang/String", (some FieldType.boolean), [], "equals", fun _ _ => True)
def pp_656953_String_equals (D : va_G) (I : FieldType → ClassId) (P656941 : List Nat) (F656942 : Nat → va_E) (q656943 : Nat) (q656944 : Nat) (qs656945 : Nat) (qb656946 : Nat) (bs656947 : List Int32) (p656948 : Int32) (p656949 : Int32) (f656950 : Nat → Int32) (n656951 : Nat) : Option Value → va_W → Nat → Nat → Prop := fun r w dc ds => (∃ (o657052 : Int32), r = some (.int 0) ∧ w = va_pl P656941 F656942 ∧ dc ≤ 0 ∧ ds ≤ 0 ∧ o657052.toInt = 0 ∧ gB o657052 0 0 ∧ tr_RString_equals bs656947 f656950 n656951 (0 : Int32)) ∨ (∃ (o657052 : Int32), r = some (.int 1) ∧ w = va_pl P656941 F656942 ∧ dc ≤ 0 ∧ ds ≤ 0 ∧ o657052.toInt ≠ 0 ∧ gB o657052 1 1 ∧ tr_RString_equals bs656947 f656950 n656951 (1 : Int32))
set_option maxRecDepth 100000 in
set_option maxHeartbeats 4000000 in
theorem cp_656953_String_equals (l : Launch) (hl0 : l.stackTraces = false) (D : va_G) (I : FieldType → ClassId) (P656941 : List Nat) (F656942 : Nat → va_E) (q656943 : Nat) (q656944 : Nat) (qs656945 : Nat) (qb656946 : Nat) (bs656947 : List Int32) (p656948 : Int32) (p656949 : Int32) (f656950 : Nat → Int32) (n656951 : Nat) (hmq656943 : q656943 ∈ P656941) (hmq656944 : q656944 ∈ P656941) (heq656943 : F656942 q656943 = .inr (0, [.ref q656944, .int 0, .int p656948, .int p656949])) (heq656944 : F656942 q656944 = .inl (I .byte, n656951, .inl f656950)) (hbs656947 : ∀ A s H, (gV D I).2.2.2.1 A s H → gSC qs656945 qb656946 bs656947 A s H) (nbs656947 : (bs656947.length : Int) ≤ 65535) (lbs656947 : gLB bs656947) (bp656949 : gB p656949 0 1) (bf656950 : gF f656950 (-128) 127) (x656952 : ((n656951 : Int) ≤ 16777216)) : CtA (gV D I) l yJ0_equals_9ea2d cJ0_equals_9ea2d 3 (some FieldType.boolean) 1 22 0 0 [.ref q656943, .ref qs656945] (va_pl P656941 F656942) (pp_656953_String_equals D I P656941 F656942 q656943 q656944 qs656945 qb656946 bs656947 p656948 p656949 f656950 n656951) gNA := by
  refine CtA_ofF hl0 (by decide +kernel) (Nat.le_of_ble_eq_true rfl) ?_
  have bp656948 := gB_any p656948
  refine G_aload_n 0 dr_cJ0_equals_9ea2d_0 rfl ?_
  refine G_aload_n 1 dr_cJ0_equals_9ea2d_1 rfl ?_
  refine G_pkne0 hmq656943 (fun _ _ _ h => (hbs656947 _ _ _ h).2.1) (fun hne656954 => ?_)
  refine G_acmp_ne 7 dr_cJ0_equals_9ea2d_2 (by decide +kernel) (fun _ => ?_) (fun hc => absurd hc hne656954)
  refine G_aload_n 1 dr_cJ0_equals_9ea2d_7 rfl ?_
  refine G_instK dr_cJ0_equals_9ea2d_8 wr_9_149 wr_8_71 (fun _ _ _ h => (hbs656947 _ _ _ h).1) ?_
  refine G_if_eq 54 dr_cJ0_equals_9ea2d_11 (by decide +kernel) (fun hc => absurd hc (by decide)) (fun _ => ?_)
  refine G_aload_n 1 dr_cJ0_equals_9ea2d_14 rfl ?_
  refine G_casK dr_cJ0_equals_9ea2d_15 wr_9_149 wr_8_71 (fun _ _ _ h => (hbs656947 _ _ _ h).1) ?_
  refine G_astore_n (L' := [(2, .ref qs656945), (0, .ref q656943), (1, .ref qs656945)]) dr_cJ0_equals_9ea2d_18 (Nat.le_of_ble_eq_true rfl) rfl ?_
  refine G_gets dr_cJ0_equals_9ea2d_19 wr_3_65 gz_cs (fun x hx => ?_)
  subst hx
  refine G_if_eq 36 dr_cJ0_equals_9ea2d_22 (by decide +kernel) (fun hc => absurd hc (by decide)) (fun _ => ?_)
  refine G_aload_n 1 dr_cJ0_equals_9ea2d_25 rfl ?_
  refine Gp_get 1 hmq656943 heq656943 dr_cJ0_equals_9ea2d_26 (gk_J0 D I) (Nat.le_of_ble_eq_true rfl) wr_8_183 rfl ?_
  refine G_aload_n 0 dr_cJ0_equals_9ea2d_29 rfl ?_
  refine G_kget dr_cJ0_equals_9ea2d_30 wr_8_183 (fun _ _ _ h => (hbs656947 _ _ _ h).2.1) ?_
  refine G_icmp_ne 54 dr_cJ0_equals_9ea2d_33 (by decide +kernel) (fun hc => absurd hc (by decide)) (fun _ => ?_)
  refine G_aload_n 1 dr_cJ0_equals_9ea2d_36 rfl ?_
  refine Gp_get 0 hmq656943 heq656943 dr_cJ0_equals_9ea2d_37 (gk_J0 D I) (Nat.le_of_ble_eq_true rfl) wr_8_182 rfl ?_
  refine G_aload_n 0 dr_cJ0_equals_9ea2d_40 rfl ?_
  refine G_kget dr_cJ0_equals_9ea2d_41 wr_8_182 (fun _ _ _ h => (hbs656947 _ _ _ h).2.2.1) ?_
  refine Gw_callS (As := [.ref q656944, .ref qb656946]) (gV_ok D I) (cp_656963_StringLatin1_equals l hl0 D I P656941 F656942 q656944 qb656946 bs656947 f656950 n656951 hmq656944 heq656944 (fun _ _ _ h => (hbs656947 _ _ _ h).2.2.2) (by omega) lbs656947 bf656950 (by have qa0 : Int32.toInt 0 = 0 := (by decide); omega)) dr_cJ0_equals_9ea2d_44 ⟨wr_9_150, wr_1_28, wr_9_152, by decide, rfl, (Nat.le_of_ble_eq_true rfl), (Nat.le_of_ble_eq_true rfl)⟩ wr_9_151 (show 0 + 0 ≤ 0 by first | omega | decide) (show 0 + 0 ≤ 0 by first | omega | decide) (Nat.le_of_ble_eq_true rfl) (fun r657050 w657051 dc657047 ds657048 hp657049 => ?_) (fun _ _ _ _ _ z => z.elim)
  obtain ⟨o657052, rfl, rfl, hdc, hds, bo657052, ht657053⟩ := hp657049
  change G _ _ _ _ _ _ _ (.int o657052 :: _) _ _ _
  refine G_widen (cs' := 0) (sl' := 0) (by omega) (by omega) ?_
  refine G_if_eq 54 dr_cJ0_equals_9ea2d_47 (by decide +kernel) (fun hc657054 => ?_) (fun hc657054 => ?_)
  · have r657055 : o657052.toInt = 0 := gj_eq hc657054 (show Int32.toInt 0 = 0 by decide)
    have bo657052' : gB o657052 0 0 := ⟨by omega, by omega⟩
    refine G_iconst 0 dr_cJ0_equals_9ea2d_54 (by decide +kernel) ?_
    exact G_zretA FieldType.boolean dr_cJ0_equals_9ea2d_55 rfl rfl (Nat.le_of_ble_eq_true rfl) (Nat.le_of_ble_eq_true rfl) (Or.inl ⟨o657052, rfl, rfl, (Nat.le_of_ble_eq_true rfl), (Nat.le_of_ble_eq_true rfl), r657055, bo657052', (fun R c1 c2 => c1 o657052 bo657052 ht657053 r657055)⟩)
  · have r657056 : o657052.toInt ≠ 0 := gj_neq hc657054 (show Int32.toInt 0 = 0 by decide)
    have bo657052' : gB o657052 1 1 := ⟨by omega, by omega⟩
    refine G_iconst 1 dr_cJ0_equals_9ea2d_50 (by decide +kernel) ?_
    refine G_goto 55 dr_cJ0_equals_9ea2d_51 (by decide +kernel) ?_
    exact G_zretA FieldType.boolean dr_cJ0_equals_9ea2d_55 rfl rfl (Nat.le_of_ble_eq_true rfl) (Nat.le_of_ble_eq_true rfl) (Or.inr (⟨o657052, rfl, rfl, (Nat.le_of_ble_eq_true rfl), (Nat.le_of_ble_eq_true rfl), r657056, bo657052', (fun R c1 c2 => c2 o657052 bo657052 ht657053 r657056)⟩))
