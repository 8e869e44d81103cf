theorem dr_cJ5_length_8abf5_0 : decode cJ5_length_8abf5 0 = .ok (.aload_n 0, 1) := by decide +kernel
theorem dr_cJ5_length_8abf5_1 : decode cJ5_length_8abf5 1 = .ok (.getfield 79, 3) := by decide +kernel
theorem wr_7_64 : (Jvm.Cond.fieldLink "java/lang/AbstractStringBuilder" (79 : Nat) "java/lang/AbstractStringBuilder" "count" "I") ∈ gw := gw_7 64 rfl rfl
theorem dr_cJ5_length_8abf5_4 : decode cJ5_length_8abf5 4 = .ok (.ireturn, 1) := by decide +kernel
theorem dr_cJ4_length_8abf5_0 : decode cJ4_length_8abf5 0 = .ok (.aload_n 0, 1) := by decide +kernel
theorem dr_cJ4_length_8abf5_1 : decode cJ4_length_8abf5 1 = .ok (.invokespecial 343, 3) := by decide +kernel
theorem wr_8_90 : (Jvm.Cond.methodLink "java/lang/StringBuilder" (343 : Nat) ({ cls := "java/lang/AbstractStringBuilder", name := "length", desc := "()I" } : Jvm.MethodName)) ∈ gw := gw_8 90 rfl rfl
theorem wr_1_19 : (Jvm.Cond.initialized "java/lang/AbstractStringBuilder") ∈ gw := gw_1 19 rfl rfl
theorem wr_8_91 : (Jvm.Cond.code ({ cls := "java/lang/AbstractStringBuilder", name := "length", desc := "()I" } : Jvm.MethodName) prog_21_method_6_code (1 : Nat) (Option.some Jvm.ClassFile.FieldType.int)) ∈ gw := gw_8 91 rfl rfl
theorem wr_8_85 : (Jvm.Cond.instanceMethod ({ cls := "java/lang/AbstractStringBuilder", name := "length", desc := "()I" } : Jvm.MethodName)) ∈ gw := gw_8 85 rfl rfl
theorem wr_8_86 : (Jvm.Cond.sameMethod "java/lang/AbstractStringBuilder" "java/lang/AbstractStringBuilder" "length" "()I") ∈ gw := gw_8 86 rfl rfl
theorem wr_7_73 : (Jvm.Cond.superclass "java/lang/StringBuilder" "java/lang/AbstractStringBuilder") ∈ gw := gw_7 73 rfl rfl
theorem wr_7_44 : (Jvm.Cond.instantiable "java/lang/StringBuilder" (4 : Nat)) ∈ gw := gw_7 44 rfl rfl
theorem dr_cJ4_length_8abf5_4 : decode cJ4_length_8abf5 4 = .ok (.ireturn, 1) := by decide +kernel
theorem dr_cJ0_checkIndex_df160_0 : decode cJ0_checkIndex_df160 0 = .ok (.iload_n 0, 1) := by decide +kernel
theorem dr_cJ0_checkIndex_df160_1 : decode cJ0_checkIndex_df160 1 = .ok (.iload_n 1, 1) := by decide +kernel
theorem dr_cJ0_checkIndex_df160_2 : decode cJ0_checkIndex_df160 2 = .ok (.getstatic 1053, 3) := by decide +kernel
theorem wr_3_81 : (Jvm.Cond.fieldLink "java/lang/String" (1053 : Nat) "jdk/internal/util/Preconditions" "SIOOBE_FORMATTER" "Ljava/util/function/BiFunction;") ∈ gw := gw_3 81 rfl rfl
theorem dr_cJ0_checkIndex_df160_5 : decode cJ0_checkIndex_df160 5 = .ok (.invokestatic 1059, 3) := by decide +kernel
theorem wr_3_83 : (Jvm.Cond.methodLink "java/lang/String" (1059 : Nat) ({ cls := "jdk/internal/util/Preconditions", name := "checkIndex", desc := "(IILjava/util/function/BiFunction;)I" } : Jvm.MethodName)) ∈ gw := gw_3 83 rfl rfl
theorem dr_cJ0_checkIndex_df160_8 : decode cJ0_checkIndex_df160 8 = .ok (.pop, 1) := by decide +kernel
theorem dr_cJ0_checkIndex_df160_9 : decode cJ0_checkIndex_df160 9 = .ok (.return_, 1) := by decide +kernel
theorem dr_cJ5_charAt_5068e_0 : decode cJ5_charAt_5068e 0 = .ok (.aload_n 0, 1) := by decide +kernel
theorem dr_cJ5_charAt_5068e_1 : decode cJ5_charAt_5068e 1 = .ok (.getfield 22, 3) := by decide +kernel
theorem wr_7_61 : (Jvm.Cond.fieldLink "java/lang/AbstractStringBuilder" (22 : Nat) "java/lang/AbstractStringBuilder" "coder" "B") ∈ gw := gw_7 61 rfl rfl
theorem dr_cJ5_charAt_5068e_4 : decode cJ5_charAt_5068e 4 = .ok (.istore_n 2, 1) := by decide +kernel
theorem dr_cJ5_charAt_5068e_5 : decode cJ5_charAt_5068e 5 = .ok (.aload_n 0, 1) := by decide +kernel
theorem dr_cJ5_charAt_5068e_6 : decode cJ5_charAt_5068e 6 = .ok (.getfield 15, 3) := by decide +kernel
theorem wr_7_60 : (Jvm.Cond.fieldLink "java/lang/AbstractStringBuilder" (15 : Nat) "java/lang/AbstractStringBuilder" "value" "[B") ∈ gw := gw_7 60 rfl rfl
theorem dr_cJ5_charAt_5068e_9 : decode cJ5_charAt_5068e 9 = .ok (.astore_n 3, 1) := by decide +kernel
theorem dr_cJ5_charAt_5068e_10 : decode cJ5_charAt_5068e 10 = .ok (.aload_n 0, 1) := by decide +kernel
theorem dr_cJ5_charAt_5068e_11 : decode cJ5_charAt_5068e 11 = .ok (.getfield 79, 3) := by decide +kernel
theorem dr_cJ5_charAt_5068e_14 : decode cJ5_charAt_5068e 14 = .ok (.aload_n 3, 1) := by decide +kernel
theorem dr_cJ5_charAt_5068e_15 : decode cJ5_charAt_5068e 15 = .ok (.arraylength, 1) := by decide +kernel
theorem dr_cJ5_charAt_5068e_16 : decode cJ5_charAt_5068e 16 = .ok (.iload_n 2, 1) := by decide +kernel
theorem dr_cJ5_charAt_5068e_17 : decode cJ5_charAt_5068e 17 = .ok (.ishr, 1) := by decide +kernel
theorem dr_cJ5_charAt_5068e_18 : decode cJ5_charAt_5068e 18 = .ok (.invokestatic 138, 3) := by decide +kernel
theorem wr_11_216 : (Jvm.Cond.methodLink "java/lang/AbstractStringBuilder" (138 : Nat) ({ cls := "java/lang/Math", name := "min", desc := "(II)I" } : Jvm.MethodName)) ∈ gw := gw_11 216 rfl rfl
theorem dr_cJ5_charAt_5068e_21 : decode cJ5_charAt_5068e 21 = .ok (.istore 4, 2) := by decide +kernel
theorem dr_cJ5_charAt_5068e_23 : decode cJ5_charAt_5068e 23 = .ok (.iload_n 1, 1) := by decide +kernel
theorem dr_cJ5_charAt_5068e_24 : decode cJ5_charAt_5068e 24 = .ok (.iload 4, 2) := by decide +kernel
theorem dr_cJ5_charAt_5068e_26 : decode cJ5_charAt_5068e 26 = .ok (.invokestatic 144, 3) := by decide +kernel
theorem wr_11_217 : (Jvm.Cond.methodLink "java/lang/AbstractStringBuilder" (144 : Nat) ({ cls := "java/lang/String", name := "checkIndex", desc := "(II)V" } : Jvm.MethodName)) ∈ gw := gw_11 217 rfl rfl
theorem wr_1_21 : (Jvm.Cond.initialized "java/lang/String") ∈ gw := gw_1 21 rfl rfl
theorem wr_3_80 : (Jvm.Cond.code ({ cls := "java/lang/String", name := "checkIndex", desc := "(II)V" } : Jvm.MethodName) prog_34_method_155_code (2 : Nat) (Option.none : Option Jvm.ClassFile.FieldType)) ∈ gw := gw_3 80 rfl rfl
theorem wr_3_79 : (Jvm.Cond.static ({ cls := "java/lang/String", name := "checkIndex", desc := "(II)V" } : Jvm.MethodName)) ∈ gw := gw_3 79 rfl rfl
theorem dr_cJ5_charAt_5068e_29 : decode cJ5_charAt_5068e 29 = .ok (.iload_n 2, 1) := by decide +kernel
theorem dr_cJ5_charAt_5068e_30 : decode cJ5_charAt_5068e 30 = .ok (.ifCond .ne 12, 3) := by decide +kernel
theorem dr_cJ5_charAt_5068e_33 : decode cJ5_charAt_5068e 33 = .ok (.aload_n 3, 1) := by decide +kernel
theorem dr_cJ5_charAt_5068e_34 : decode cJ5_charAt_5068e 34 = .ok (.iload_n 1, 1) := by decide +kernel
theorem dr_cJ5_charAt_5068e_35 : decode cJ5_charAt_5068e 35 = .ok (.baload, 1) := by decide +kernel
theorem dr_cJ5_charAt_5068e_36 : decode cJ5_charAt_5068e 36 = .ok (.sipush 255, 3) := by decide +kernel
theorem dr_cJ5_charAt_5068e_39 : decode cJ5_charAt_5068e 39 = .ok (.iand, 1) := by decide +kernel
theorem dr_cJ5_charAt_5068e_40 : decode cJ5_charAt_5068e 40 = .ok (.i2c, 1) := by decide +kernel
theorem dr_cJ5_charAt_5068e_41 : decode cJ5_charAt_5068e 41 = .ok (.ireturn, 1) := by decide +kernel
theorem dr_cJ4_charAt_5068e_0 : decode cJ4_charAt_5068e 0 = .ok (.aload_n 0, 1) := by decide +kernel
theorem dr_cJ4_charAt_5068e_1 : decode cJ4_charAt_5068e 1 = .ok (.iload_n 1, 1) := by decide +kernel
theorem dr_cJ4_charAt_5068e_2 : decode cJ4_charAt_5068e 2 = .ok (.invokespecial 329, 3) := by decide +kernel
theorem wr_11_213 : (Jvm.Cond.methodLink "java/lang/StringBuilder" (329 : Nat) ({ cls := "java/lang/AbstractStringBuilder", name := "charAt", desc := "(I)C" } : Jvm.MethodName)) ∈ gw := gw_11 213 rfl rfl
theorem wr_11_215 : (Jvm.Cond.code ({ cls := "java/lang/AbstractStringBuilder", name := "charAt", desc := "(I)C" } : Jvm.MethodName) prog_21_method_14_code (5 : Nat) (Option.some Jvm.ClassFile.FieldType.char)) ∈ gw := gw_11 215 rfl rfl
theorem wr_11_214 : (Jvm.Cond.instanceMethod ({ cls := "java/lang/AbstractStringBuilder", name := "charAt", desc := "(I)C" } : Jvm.MethodName)) ∈ gw := gw_11 214 rfl rfl
theorem wr_11_235 : (Jvm.Cond.sameMethod "java/lang/AbstractStringBuilder" "java/lang/AbstractStringBuilder" "charAt" "(I)C") ∈ gw := gw_11 235 rfl rfl
theorem dr_cJ4_charAt_5068e_5 : decode cJ4_charAt_5068e 5 = .ok (.ireturn, 1) := by decide +kernel
theorem dr_cJ5_ensureCapacityInternal_d00df_0 : decode cJ5_ensureCapacityInternal_d00df 0 = .ok (.aload_n 0, 1) := by decide +kernel
theorem dr_cJ5_ensureCapacityInternal_d00df_1 : decode cJ5_ensureCapacityInternal_d00df 1 = .ok (.getfield 15, 3) := by decide +kernel
theorem dr_cJ5_ensureCapacityInternal_d00df_4 : decode cJ5_ensureCapacityInternal_d00df 4 = .ok (.arraylength, 1) := by decide +kernel
theorem dr_cJ5_ensureCapacityInternal_d00df_5 : decode cJ5_ensureCapacityInternal_d00df 5 = .ok (.aload_n 0, 1) := by decide +kernel
theorem dr_cJ5_ensureCapacityInternal_d00df_6 : decode cJ5_ensureCapacityInternal_d00df 6 = .ok (.getfield 22, 3) := by decide +kernel
theorem dr_cJ5_ensureCapacityInternal_d00df_9 : decode cJ5_ensureCapacityInternal_d00df 9 = .ok (.ishr, 1) := by decide +kernel
theorem dr_cJ5_ensureCapacityInternal_d00df_10 : decode cJ5_ensureCapacityInternal_d00df 10 = .ok (.istore_n 2, 1) := by decide +kernel
theorem dr_cJ5_ensureCapacityInternal_d00df_11 : decode cJ5_ensureCapacityInternal_d00df 11 = .ok (.iload_n 1, 1) := by decide +kernel
theorem dr_cJ5_ensureCapacityInternal_d00df_12 : decode cJ5_ensureCapacityInternal_d00df 12 = .ok (.iload_n 2, 1) := by decide +kernel
theorem dr_cJ5_ensureCapacityInternal_d00df_13 : decode cJ5_ensureCapacityInternal_d00df 13 = .ok (.isub, 1) := by decide +kernel
theorem dr_cJ5_ensureCapacityInternal_d00df_14 : decode cJ5_ensureCapacityInternal_d00df 14 = .ok (.ifCond .le 24, 3) := by decide +kernel
theorem dr_cJ5_ensureCapacityInternal_d00df_38 : decode cJ5_ensureCapacityInternal_d00df 38 = .ok (.return_, 1) := by decide +kernel
theorem dr_cJ5_isLatin1_aae02_0 : decode cJ5_isLatin1_aae02 0 = .ok (.getstatic 18, 3) := by decide +kernel
theorem wr_7_52 : (Jvm.Cond.fieldLink "java/lang/AbstractStringBuilder" (18 : Nat) "java/lang/String" "COMPACT_STRINGS" "Z") ∈ gw := gw_7 52 rfl rfl
theorem dr_cJ5_isLatin1_aae02_3 : decode cJ5_isLatin1_aae02 3 = .ok (.ifCond .eq 14, 3) := by decide +kernel
theorem dr_cJ5_isLatin1_aae02_6 : decode cJ5_isLatin1_aae02 6 = .ok (.aload_n 0, 1) := by decide +kernel
theorem dr_cJ5_isLatin1_aae02_7 : decode cJ5_isLatin1_aae02 7 = .ok (.getfield 22, 3) := by decide +kernel
theorem dr_cJ5_isLatin1_aae02_10 : decode cJ5_isLatin1_aae02 10 = .ok (.ifCond .ne 7, 3) := by decide +kernel
theorem dr_cJ5_isLatin1_aae02_13 : decode cJ5_isLatin1_aae02 13 = .ok (.iconst 1, 1) := by decide +kernel
theorem dr_cJ5_isLatin1_aae02_14 : decode cJ5_isLatin1_aae02 14 = .ok (.goto 4, 3) := by decide +kernel
theorem dr_cJ5_isLatin1_aae02_18 : decode cJ5_isLatin1_aae02 18 = .ok (.ireturn, 1) := by decide +kernel
theorem dr_cJ1_canEncode_fc78d_0 : decode cJ1_canEncode_fc78d 0 = .ok (.iload_n 0, 1) := by decide +kernel
theorem dr_cJ1_canEncode_fc78d_1 : decode cJ1_canEncode_fc78d 1 = .ok (.sipush 255, 3) := by decide +kernel
theorem dr_cJ1_canEncode_fc78d_4 : decode cJ1_canEncode_fc78d 4 = .ok (.if_icmp .gt 7, 3) := by decide +kernel
theorem dr_cJ1_canEncode_fc78d_11 : decode cJ1_canEncode_fc78d 11 = .ok (.iconst 0, 1) := by decide +kernel
theorem dr_cJ1_canEncode_fc78d_12 : decode cJ1_canEncode_fc78d 12 = .ok (.ireturn, 1) := by decide +kernel
theorem dr_cJ1_canEncode_fc78d_7 : decode cJ1_canEncode_fc78d 7 = .ok (.iconst 1, 1) := by decide +kernel
theorem dr_cJ1_canEncode_fc78d_8 : decode cJ1_canEncode_fc78d 8 = .ok (.goto 4, 3) := by decide +kernel
theorem dr_cJ5_append_3fe6f_0 : decode cJ5_append_3fe6f 0 = .ok (.aload_n 0, 1) := by decide +kernel
theorem dr_cJ5_append_3fe6f_1 : decode cJ5_append_3fe6f 1 = .ok (.aload_n 0, 1) := by decide +kernel
theorem dr_cJ5_append_3fe6f_2 : decode cJ5_append_3fe6f 2 = .ok (.getfield 79, 3) := by decide +kernel
theorem dr_cJ5_append_3fe6f_5 : decode cJ5_append_3fe6f 5 = .ok (.iconst 1, 1) := by decide +kernel
theorem dr_cJ5_append_3fe6f_6 : decode cJ5_append_3fe6f 6 = .ok (.iadd, 1) := by decide +kernel
theorem dr_cJ5_append_3fe6f_7 : decode cJ5_append_3fe6f 7 = .ok (.invokevirtual 100, 3) := by decide +kernel
theorem wr_8_4 : (Jvm.Cond.methodLink "java/lang/AbstractStringBuilder" (100 : Nat) ({ cls := "java/lang/AbstractStringBuilder", name := "ensureCapacityInternal", desc := "(I)V" } : Jvm.MethodName)) ∈ gw := gw_8 4 rfl rfl
theorem wr_8_7 : (Jvm.Cond.code ({ cls := "java/lang/AbstractStringBuilder", name := "ensureCapacityInternal", desc := "(I)V" } : Jvm.MethodName) prog_21_method_9_code (3 : Nat) (Option.none : Option Jvm.ClassFile.FieldType)) ∈ gw := gw_8 7 rfl rfl
theorem wr_8_6 : (Jvm.Cond.instanceMethod ({ cls := "java/lang/AbstractStringBuilder", name := "ensureCapacityInternal", desc := "(I)V" } : Jvm.MethodName)) ∈ gw := gw_8 6 rfl rfl
theorem wr_s_0 : Cond.selects "java/lang/StringBuilder" ⟨"java/lang/AbstractStringBuilder", "ensureCapacityInternal", "(I)V"⟩ ⟨"java/lang/AbstractStringBuilder", "ensureCapacityInternal", "(I)V"⟩ ∈ gw := gw_s _ 0 rfl rfl rfl
theorem dr_cJ5_append_3fe6f_10 : decode cJ5_append_3fe6f 10 = .ok (.aload_n 0, 1) := by decide +kernel
theorem dr_cJ5_append_3fe6f_11 : decode cJ5_append_3fe6f 11 = .ok (.invokevirtual 83, 3) := by decide +kernel
theorem wr_8_33 : (Jvm.Cond.methodLink "java/lang/AbstractStringBuilder" (83 : Nat) ({ cls := "java/lang/AbstractStringBuilder", name := "isLatin1", desc := "()Z" } : Jvm.MethodName)) ∈ gw := gw_8 33 rfl rfl
theorem wr_8_37 : (Jvm.Cond.code ({ cls := "java/lang/AbstractStringBuilder", name := "isLatin1", desc := "()Z" } : Jvm.MethodName) prog_21_method_68_code (1 : Nat) (Option.some Jvm.ClassFile.FieldType.boolean)) ∈ gw := gw_8 37 rfl rfl
theorem wr_8_34 : (Jvm.Cond.instanceMethod ({ cls := "java/lang/AbstractStringBuilder", name := "isLatin1", desc := "()Z" } : Jvm.MethodName)) ∈ gw := gw_8 34 rfl rfl
theorem wr_8_36 : (Jvm.Cond.selects "java/lang/StringBuilder" ({ cls := "java/lang/AbstractStringBuilder", name := "isLatin1", desc := "()Z" } : Jvm.MethodName) ({ cls := "java/lang/AbstractStringBuilder", name := "isLatin1", desc := "()Z" } : Jvm.MethodName)) ∈ gw := gw_8 36 rfl rfl
theorem dr_cJ5_append_3fe6f_14 : decode cJ5_append_3fe6f 14 = .ok (.ifCond .eq 31, 3) := by decide +kernel
theorem dr_cJ5_append_3fe6f_17 : decode cJ5_append_3fe6f 17 = .ok (.iload_n 1, 1) := by decide +kernel
theorem dr_cJ5_append_3fe6f_18 : decode cJ5_append_3fe6f 18 = .ok (.invokestatic 191, 3) := by decide +kernel
theorem wr_8_38 : (Jvm.Cond.methodLink "java/lang/AbstractStringBuilder" (191 : Nat) ({ cls := "java/lang/StringLatin1", name := "canEncode", desc := "(C)Z" } : Jvm.MethodName)) ∈ gw := gw_8 38 rfl rfl
theorem wr_1_28 : (Jvm.Cond.initialized "java/lang/StringLatin1") ∈ gw := gw_1 28 rfl rfl
theorem wr_8_40 : (Jvm.Cond.code ({ cls := "java/lang/StringLatin1", name := "canEncode", desc := "(C)Z" } : Jvm.MethodName) prog_37_method_3_code (1 : Nat) (Option.some Jvm.ClassFile.FieldType.boolean)) ∈ gw := gw_8 40 rfl rfl
theorem wr_8_39 : (Jvm.Cond.static ({ cls := "java/lang/StringLatin1", name := "canEncode", desc := "(C)Z" } : Jvm.MethodName)) ∈ gw := gw_8 39 rfl rfl
theorem dr_cJ5_append_3fe6f_21 : decode cJ5_append_3fe6f 21 = .ok (.ifCond .eq 24, 3) := by decide +kernel
theorem dr_cJ5_append_3fe6f_24 : decode cJ5_append_3fe6f 24 = .ok (.aload_n 0, 1) := by decide +kernel
theorem dr_cJ5_append_3fe6f_25 : decode cJ5_append_3fe6f 25 = .ok (.getfield 15, 3) := by decide +kernel
theorem dr_cJ5_append_3fe6f_28 : decode cJ5_append_3fe6f 28 = .ok (.aload_n 0, 1) := by decide +kernel
theorem dr_cJ5_append_3fe6f_29 : decode cJ5_append_3fe6f 29 = .ok (.dup, 1) := by decide +kernel
theorem dr_cJ5_append_3fe6f_30 : decode cJ5_append_3fe6f 30 = .ok (.getfield 79, 3) := by decide +kernel
theorem dr_cJ5_append_3fe6f_33 : decode cJ5_append_3fe6f 33 = .ok (.dup_x1, 1) := by decide +kernel
theorem dr_cJ5_append_3fe6f_34 : decode cJ5_append_3fe6f 34 = .ok (.iconst 1, 1) := by decide +kernel
theorem dr_cJ5_append_3fe6f_35 : decode cJ5_append_3fe6f 35 = .ok (.iadd, 1) := by decide +kernel
theorem dr_cJ5_append_3fe6f_36 : decode cJ5_append_3fe6f 36 = .ok (.putfield 79, 3) := by decide +kernel
theorem dr_cJ5_append_3fe6f_39 : decode cJ5_append_3fe6f 39 = .ok (.iload_n 1, 1) := by decide +kernel
theorem dr_cJ5_append_3fe6f_40 : decode cJ5_append_3fe6f 40 = .ok (.i2b, 1) := by decide +kernel
theorem dr_cJ5_append_3fe6f_41 : decode cJ5_append_3fe6f 41 = .ok (.bastore, 1) := by decide +kernel
theorem dr_cJ5_append_3fe6f_42 : decode cJ5_append_3fe6f 42 = .ok (.goto 33, 3) := by decide +kernel
theorem dr_cJ5_append_3fe6f_75 : decode cJ5_append_3fe6f 75 = .ok (.aload_n 0, 1) := by decide +kernel
theorem dr_cJ5_append_3fe6f_76 : decode cJ5_append_3fe6f 76 = .ok (.areturn, 1) := by decide +kernel
theorem dr_cJ4_append_cf468_0 : decode cJ4_append_cf468 0 = .ok (.aload_n 0, 1) := by decide +kernel
theorem dr_cJ4_append_cf468_1 : decode cJ4_append_cf468 1 = .ok (.iload_n 1, 1) := by decide +kernel
theorem dr_cJ4_append_cf468_2 : decode cJ4_append_cf468 2 = .ok (.invokespecial 50, 3) := by decide +kernel
theorem wr_8_1 : (Jvm.Cond.methodLink "java/lang/StringBuilder" (50 : Nat) ({ cls := "java/lang/AbstractStringBuilder", name := "append", desc := "(C)Ljava/lang/AbstractStringBuilder;" } : Jvm.MethodName)) ∈ gw := gw_8 1 rfl rfl
theorem wr_8_3 : (Jvm.Cond.code ({ cls := "java/lang/AbstractStringBuilder", name := "append", desc := "(C)Ljava/lang/AbstractStringBuilder;" } : Jvm.MethodName) prog_21_method_31_code (2 : Nat) (Option.some (Jvm.ClassFile.FieldType.object "java/lang/AbstractStringBuilder"))) ∈ gw := gw_8 3 rfl rfl
theorem wr_8_2 : (Jvm.Cond.instanceMethod ({ cls := "java/lang/AbstractStringBuilder", name := "append", desc := "(C)Ljava/lang/AbstractStringBuilder;" } : Jvm.MethodName)) ∈ gw := gw_8 2 rfl rfl
theorem wr_11_224 : (Jvm.Cond.sameMethod "java/lang/AbstractStringBuilder" "java/lang/AbstractStringBuilder" "append" "(C)Ljava/lang/AbstractStringBuilder;") ∈ gw := gw_11 224 rfl rfl
theorem dr_cJ4_append_cf468_5 : decode cJ4_append_cf468 5 = .ok (.pop, 1) := by decide +kernel
theorem dr_cJ4_append_cf468_6 : decode cJ4_append_cf468 6 = .ok (.aload_n 0, 1) := by decide +kernel
theorem dr_cJ4_append_cf468_7 : decode cJ4_append_cf468 7 = .ok (.areturn, 1) := by decide +kernel
theorem dr_cJ5_newCapacity_0f7a4_0 : decode cJ5_newCapacity_0f7a4 0 = .ok (.aload_n 0, 1) := by decide +kernel
theorem dr_cJ5_newCapacity_0f7a4_1 : decode cJ5_newCapacity_0f7a4 1 = .ok (.getfield 15, 3) := by decide +kernel
theorem dr_cJ5_newCapacity_0f7a4_4 : decode cJ5_newCapacity_0f7a4 4 = .ok (.arraylength, 1) := by decide +kernel
theorem dr_cJ5_newCapacity_0f7a4_5 : decode cJ5_newCapacity_0f7a4 5 = .ok (.istore_n 2, 1) := by decide +kernel
theorem dr_cJ5_newCapacity_0f7a4_6 : decode cJ5_newCapacity_0f7a4 6 = .ok (.iload_n 1, 1) := by decide +kernel
theorem dr_cJ5_newCapacity_0f7a4_7 : decode cJ5_newCapacity_0f7a4 7 = .ok (.aload_n 0, 1) := by decide +kernel
theorem dr_cJ5_newCapacity_0f7a4_8 : decode cJ5_newCapacity_0f7a4 8 = .ok (.getfield 22, 3) := by decide +kernel
theorem dr_cJ5_newCapacity_0f7a4_11 : decode cJ5_newCapacity_0f7a4 11 = .ok (.ishl, 1) := by decide +kernel
theorem dr_cJ5_newCapacity_0f7a4_12 : decode cJ5_newCapacity_0f7a4 12 = .ok (.istore_n 3, 1) := by decide +kernel
theorem dr_cJ5_newCapacity_0f7a4_13 : decode cJ5_newCapacity_0f7a4 13 = .ok (.iload_n 3, 1) := by decide +kernel
theorem dr_cJ5_newCapacity_0f7a4_14 : decode cJ5_newCapacity_0f7a4 14 = .ok (.iload_n 2, 1) := by decide +kernel
theorem dr_cJ5_newCapacity_0f7a4_15 : decode cJ5_newCapacity_0f7a4 15 = .ok (.isub, 1) := by decide +kernel
theorem dr_cJ5_newCapacity_0f7a4_16 : decode cJ5_newCapacity_0f7a4 16 = .ok (.istore 4, 2) := by decide +kernel
theorem dr_cJ5_newCapacity_0f7a4_18 : decode cJ5_newCapacity_0f7a4 18 = .ok (.iload_n 2, 1) := by decide +kernel
theorem dr_cJ5_newCapacity_0f7a4_19 : decode cJ5_newCapacity_0f7a4 19 = .ok (.iload 4, 2) := by decide +kernel
theorem dr_cJ5_newCapacity_0f7a4_21 : decode cJ5_newCapacity_0f7a4 21 = .ok (.iload_n 2, 1) := by decide +kernel
theorem dr_cJ5_newCapacity_0f7a4_22 : decode cJ5_newCapacity_0f7a4 22 = .ok (.iconst 2, 1) := by decide +kernel
theorem dr_cJ5_newCapacity_0f7a4_23 : decode cJ5_newCapacity_0f7a4 23 = .ok (.aload_n 0, 1) := by decide +kernel
theorem dr_cJ5_newCapacity_0f7a4_24 : decode cJ5_newCapacity_0f7a4 24 = .ok (.getfield 22, 3) := by decide +kernel
theorem dr_cJ5_newCapacity_0f7a4_27 : decode cJ5_newCapacity_0f7a4 27 = .ok (.ishl, 1) := by decide +kernel
theorem dr_cJ5_newCapacity_0f7a4_28 : decode cJ5_newCapacity_0f7a4 28 = .ok (.iadd, 1) := by decide +kernel
theorem dr_cJ5_newCapacity_0f7a4_29 : decode cJ5_newCapacity_0f7a4 29 = .ok (.invokestatic 114, 3) := by decide +kernel
theorem wr_8_12 : (Jvm.Cond.methodLink "java/lang/AbstractStringBuilder" (114 : Nat) ({ cls := "jdk/internal/util/ArraysSupport", name := "newLength", desc := "(III)I" } : Jvm.MethodName)) ∈ gw := gw_8 12 rfl rfl
theorem dr_cJ5_newCapacity_0f7a4_32 : decode cJ5_newCapacity_0f7a4 32 = .ok (.istore 5, 2) := by decide +kernel
theorem dr_cJ5_newCapacity_0f7a4_34 : decode cJ5_newCapacity_0f7a4 34 = .ok (.iload 5, 2) := by decide +kernel
theorem dr_cJ5_newCapacity_0f7a4_36 : decode cJ5_newCapacity_0f7a4 36 = .ok (.ldc 39, 2) := by decide +kernel
theorem wr_8_20 : (Jvm.Cond.constant "java/lang/AbstractStringBuilder" (39 : Nat) (2147483647 : Int32)) ∈ gw := gw_8 20 rfl rfl
theorem dr_cJ5_newCapacity_0f7a4_38 : decode cJ5_newCapacity_0f7a4 38 = .ok (.if_icmp .ne 13, 3) := by decide +kernel
theorem dr_cJ5_newCapacity_0f7a4_51 : decode cJ5_newCapacity_0f7a4 51 = .ok (.iload 5, 2) := by decide +kernel
theorem dr_cJ5_newCapacity_0f7a4_53 : decode cJ5_newCapacity_0f7a4 53 = .ok (.aload_n 0, 1) := by decide +kernel
theorem dr_cJ5_newCapacity_0f7a4_54 : decode cJ5_newCapacity_0f7a4 54 = .ok (.getfield 22, 3) := by decide +kernel
theorem dr_cJ5_newCapacity_0f7a4_57 : decode cJ5_newCapacity_0f7a4 57 = .ok (.ishr, 1) := by decide +kernel
theorem dr_cJ5_newCapacity_0f7a4_58 : decode cJ5_newCapacity_0f7a4 58 = .ok (.ireturn, 1) := by decide +kernel
theorem dr_cJ7_copyOf_9075b_0 : decode cJ7_copyOf_9075b 0 = .ok (.iload_n 1, 1) := by decide +kernel
theorem dr_cJ7_copyOf_9075b_1 : decode cJ7_copyOf_9075b 1 = .ok (.aload_n 0, 1) := by decide +kernel
theorem dr_cJ7_copyOf_9075b_2 : decode cJ7_copyOf_9075b 2 = .ok (.arraylength, 1) := by decide +kernel
theorem dr_cJ7_copyOf_9075b_3 : decode cJ7_copyOf_9075b 3 = .ok (.if_icmp .ne 11, 3) := by decide +kernel
theorem dr_cJ7_copyOf_9075b_14 : decode cJ7_copyOf_9075b 14 = .ok (.iload_n 1, 1) := by decide +kernel
theorem dr_cJ7_copyOf_9075b_15 : decode cJ7_copyOf_9075b 15 = .ok (.newarray .byte, 2) := by decide +kernel
theorem wr_1_66 : (Jvm.Cond.arrayClass Jvm.ClassFile.FieldType.byte) ∈ gw := gw_1 66 rfl rfl
theorem dr_cJ7_copyOf_9075b_17 : decode cJ7_copyOf_9075b 17 = .ok (.astore_n 2, 1) := by decide +kernel
theorem dr_cJ7_copyOf_9075b_18 : decode cJ7_copyOf_9075b 18 = .ok (.aload_n 0, 1) := by decide +kernel
theorem dr_cJ7_copyOf_9075b_19 : decode cJ7_copyOf_9075b 19 = .ok (.iconst 0, 1) := by decide +kernel
theorem dr_cJ7_copyOf_9075b_20 : decode cJ7_copyOf_9075b 20 = .ok (.aload_n 2, 1) := by decide +kernel
theorem dr_cJ7_copyOf_9075b_21 : decode cJ7_copyOf_9075b 21 = .ok (.iconst 0, 1) := by decide +kernel
theorem dr_cJ7_copyOf_9075b_22 : decode cJ7_copyOf_9075b 22 = .ok (.aload_n 0, 1) := by decide +kernel
theorem dr_cJ7_copyOf_9075b_23 : decode cJ7_copyOf_9075b 23 = .ok (.arraylength, 1) := by decide +kernel
theorem dr_cJ7_copyOf_9075b_24 : decode cJ7_copyOf_9075b 24 = .ok (.iload_n 1, 1) := by decide +kernel
theorem dr_cJ7_copyOf_9075b_25 : decode cJ7_copyOf_9075b 25 = .ok (.invokestatic 304, 3) := by decide +kernel
theorem dr_cJ7_copyOf_9075b_28 : decode cJ7_copyOf_9075b 28 = .ok (.invokestatic 150, 3) := by decide +kernel
theorem dr_cJ7_copyOf_9075b_31 : decode cJ7_copyOf_9075b 31 = .ok (.aload_n 2, 1) := by decide +kernel
theorem dr_cJ7_copyOf_9075b_32 : decode cJ7_copyOf_9075b 32 = .ok (.areturn, 1) := by decide +kernel
theorem dr_cJ5_ensureCapacityInternal_d00df_17 : decode cJ5_ensureCapacityInternal_d00df 17 = .ok (.aload_n 0, 1) := by decide +kernel
theorem dr_cJ5_ensureCapacityInternal_d00df_18 : decode cJ5_ensureCapacityInternal_d00df 18 = .ok (.aload_n 0, 1) := by decide +kernel
theorem dr_cJ5_ensureCapacityInternal_d00df_19 : decode cJ5_ensureCapacityInternal_d00df 19 = .ok (.getfield 15, 3) := by decide +kernel
theorem dr_cJ5_ensureCapacityInternal_d00df_22 : decode cJ5_ensureCapacityInternal_d00df 22 = .ok (.aload_n 0, 1) := by decide +kernel
theorem dr_cJ5_ensureCapacityInternal_d00df_23 : decode cJ5_ensureCapacityInternal_d00df 23 = .ok (.iload_n 1, 1) := by decide +kernel
theorem dr_cJ5_ensureCapacityInternal_d00df_24 : decode cJ5_ensureCapacityInternal_d00df 24 = .ok (.invokevirtual 104, 3) := by decide +kernel
theorem wr_8_8 : (Jvm.Cond.methodLink "java/lang/AbstractStringBuilder" (104 : Nat) ({ cls := "java/lang/AbstractStringBuilder", name := "newCapacity", desc := "(I)I" } : Jvm.MethodName)) ∈ gw := gw_8 8 rfl rfl
theorem wr_8_11 : (Jvm.Cond.code ({ cls := "java/lang/AbstractStringBuilder", name := "newCapacity", desc := "(I)I" } : Jvm.MethodName) prog_21_method_10_code (6 : Nat) (Option.some Jvm.ClassFile.FieldType.int)) ∈ gw := gw_8 11 rfl rfl
theorem wr_8_10 : (Jvm.Cond.instanceMethod ({ cls := "java/lang/AbstractStringBuilder", name := "newCapacity", desc := "(I)I" } : Jvm.MethodName)) ∈ gw := gw_8 10 rfl rfl
theorem wr_s_1 : Cond.selects "java/lang/StringBuilder" ⟨"java/lang/AbstractStringBuilder", "newCapacity", "(I)I"⟩ ⟨"java/lang/AbstractStringBuilder", "newCapacity", "(I)I"⟩ ∈ gw := gw_s _ 1 rfl rfl rfl
theorem dr_cJ5_ensureCapacityInternal_d00df_27 : decode cJ5_ensureCapacityInternal_d00df 27 = .ok (.aload_n 0, 1) := by decide +kernel
theorem dr_cJ5_ensureCapacityInternal_d00df_28 : decode cJ5_ensureCapacityInternal_d00df 28 = .ok (.getfield 22, 3) := by decide +kernel
theorem dr_cJ5_ensureCapacityInternal_d00df_31 : decode cJ5_ensureCapacityInternal_d00df 31 = .ok (.ishl, 1) := by decide +kernel
theorem dr_cJ5_ensureCapacityInternal_d00df_32 : decode cJ5_ensureCapacityInternal_d00df 32 = .ok (.invokestatic 108, 3) := by decide +kernel
theorem wr_8_21 : (Jvm.Cond.methodLink "java/lang/AbstractStringBuilder" (108 : Nat) ({ cls := "java/util/Arrays", name := "copyOf", desc := "([BI)[B" } : Jvm.MethodName)) ∈ gw := gw_8 21 rfl rfl
theorem wr_8_23 : (Jvm.Cond.code ({ cls := "java/util/Arrays", name := "copyOf", desc := "([BI)[B" } : Jvm.MethodName) prog_44_method_121_code (3 : Nat) (Option.some (Jvm.ClassFile.FieldType.array Jvm.ClassFile.FieldType.byte))) ∈ gw := gw_8 23 rfl rfl
theorem wr_8_22 : (Jvm.Cond.static ({ cls := "java/util/Arrays", name := "copyOf", desc := "([BI)[B" } : Jvm.MethodName)) ∈ gw := gw_8 22 rfl rfl
theorem dr_cJ5_ensureCapacityInternal_d00df_35 : decode cJ5_ensureCapacityInternal_d00df 35 = .ok (.putfield 15, 3) := by decide +kernel
abbrev ky_655678_AbstractStringBuilder_length : gKey := (cJ5_length_8abf5, 1, "java/lang/AbstractStringBuilder", (some FieldType.int), [], "length", fun _ _ => True)
def pp_655678_AbstractStringBuilder_length (D : va_G) (I : FieldType → ClassId) (P655669 : List Nat) (F655670 : Nat → va_E) (q655671 : Nat) (q655672 : Nat) (p655673 : Int32) (p655674 : Int32) (f655675 : Nat → Int32) (n655676 : Nat) : Option Value → va_W → Nat → Nat → Prop := fun r w dc ds => r = some (.int p655674) ∧ w = va_pl P655669 F655670 ∧ dc ≤ 0 ∧ ds ≤ 0
set_option maxRecDepth 100000 in
set_option maxHeartbeats 4000000 in
theorem cp_655678_AbstractStringBuilder_length (l : Launch) (hl0 : l.stackTraces = false) (D : va_G) (I : FieldType → ClassId) (P655669 : List Nat) (F655670 : Nat → va_E) (q655671 : Nat) (q655672 : Nat) (p655673 : Int32) (p655674 : Int32) (f655675 : Nat → Int32) (n655676 : Nat) (hmq655671 : q655671 ∈ P655669) (hmq655672 : q655672 ∈ P655669) (heq655671 : F655670 q655671 = .inr (1, [.ref q655672, .int 0, .int p655673, .int p655674])) (heq655672 : F655670 q655672 = .inl (I .byte, n655676, .inl f655675)) (bp655673 : gB p655673 0 1) (bp655674 : gB p655674 0 16777216) (bf655675 : gF f655675 (-128) 127) (x655677 : ((n655676 : Int) ≤ 16777216)) : CtA (gV D I) l yJ5_length_8abf5 cJ5_length_8abf5 1 (some FieldType.int) 0 0 0 0 [.ref q655671] (va_pl P655669 F655670) (pp_655678_AbstractStringBuilder_length D I P655669 F655670 q655671 q655672 p655673 p655674 f655675 n655676) gNA := by
  refine CtA_ofF hl0 (by decide +kernel) (Nat.le_of_ble_eq_true rfl) ?_
  refine G_aload_n 0 dr_cJ5_length_8abf5_0 rfl ?_
  refine Gp_get 3 hmq655671 heq655671 dr_cJ5_length_8abf5_1 (gk_J4 D I) (Nat.le_of_ble_eq_true rfl) wr_7_64 rfl ?_
  exact G_iretA dr_cJ5_length_8abf5_4 rfl (Nat.le_of_ble_eq_true rfl) (Nat.le_of_ble_eq_true rfl) ⟨rfl, rfl, (Nat.le_of_ble_eq_true rfl), (Nat.le_of_ble_eq_true rfl)⟩
abbrev ky_655668_StringBuilder_length : gKey := (cJ4_length_8abf5, 1, "java/lang/StringBuilder", (some FieldType.int), [], "length", fun _ _ => True)
def pp_655668_StringBuilder_length (D : va_G) (I : FieldType → ClassId) (P655659 : List Nat) (F655660 : Nat → va_E) (q655661 : Nat) (q655662 : Nat) (p655663 : Int32) (p655664 : Int32) (f655665 : Nat → Int32) (n655666 : Nat) : Option Value → va_W → Nat → Nat → Prop := fun r w dc ds => r = some (.int p655664) ∧ w = va_pl P655659 F655660 ∧ dc ≤ 0 ∧ ds ≤ 0
set_option maxRecDepth 100000 in
set_option maxHeartbeats 4000000 in
theorem cp_655668_StringBuilder_length (l : Launch) (hl0 : l.stackTraces = false) (D : va_G) (I : FieldType → ClassId) (P655659 : List Nat) (F655660 : Nat → va_E) (q655661 : Nat) (q655662 : Nat) (p655663 : Int32) (p655664 : Int32) (f655665 : Nat → Int32) (n655666 : Nat) (hmq655661 : q655661 ∈ P655659) (hmq655662 : q655662 ∈ P655659) (heq655661 : F655660 q655661 = .inr (1, [.ref q655662, .int 0, .int p655663, .int p655664])) (heq655662 : F655660 q655662 = .inl (I .byte, n655666, .inl f655665)) (bp655663 : gB p655663 0 1) (bp655664 : gB p655664 0 16777216) (bf655665 : gF f655665 (-128) 127) (x655667 : ((n655666 : Int) ≤ 16777216)) : CtA (gV D I) l yJ4_length_8abf5 cJ4_length_8abf5 1 (some FieldType.int) 1 20 0 0 [.ref q655661] (va_pl P655659 F655660) (pp_655668_StringBuilder_length D I P655659 F655660 q655661 q655662 p655663 p655664 f655665 n655666) gNA := by
  refine CtA_ofF hl0 (by decide +kernel) (Nat.le_of_ble_eq_true rfl) ?_
  refine G_aload_n 0 dr_cJ4_length_8abf5_0 rfl ?_
  refine Gw_callSU (As := []) (gV_ok D I) (cp_655678_AbstractStringBuilder_length l hl0 D I P655659 F655660 q655661 q655662 p655663 p655664 f655665 n655666 hmq655661 hmq655662 heq655661 heq655662 bp655663 bp655664 bf655665 (by have qa0 : Int32.toInt 0 = 0 := (by decide); omega)) dr_cJ4_length_8abf5_1 ⟨wr_8_90, wr_1_19, wr_8_91, by decide, rfl, (Nat.le_of_ble_eq_true rfl), (Nat.le_of_ble_eq_true rfl)⟩ wr_8_85 wr_8_86 wr_7_73 wr_7_44 (by decide) hmq655661 heq655661 rfl (show 0 + 0 ≤ 0 by first | omega | decide) (show 0 + 0 ≤ 0 by first | omega | decide) (Nat.le_of_ble_eq_true rfl) (fun r655682 w655683 dc655679 ds655680 hp655681 => ?_)
  obtain ⟨rfl, rfl, hdc, hds⟩ := hp655681
  change G _ _ _ _ _ _ _ (.int p655664 :: _) _ _ _
  refine G_widen (cs' := 0) (sl' := 0) (by omega) (by omega) ?_
  exact G_iretA dr_cJ4_length_8abf5_4 rfl (Nat.le_of_ble_eq_true rfl) (Nat.le_of_ble_eq_true rfl) ⟨rfl, rfl, (Nat.le_of_ble_eq_true rfl), (Nat.le_of_ble_eq_true rfl)⟩
/- tr_RPreconditions_checkIndex2:  -/
def tr_RPreconditions_checkIndex2 (a0 : Int32) (a1 : Int32) : Prop := ∀ R : Prop,
  (a0.toInt < a1.toInt → R) →
  R
abbrev ky_655732_Preconditions_checkIndex : gKey := (cJ3_checkIndex_8e157, 3, "jdk/internal/util/Preconditions", (some FieldType.int), [], "checkIndex", fun _ _ => True)
def pp_655732_Preconditions_checkIndex (D : va_G) (I : FieldType → ClassId) (P655726 : List Nat) (F655727 : Nat → va_E) (p655728 : Int32) (p655729 : Int32) (qo655730 : Nat) : Option Value → va_W → Nat → Nat → Prop := fun r w dc ds => r = some (.int p655728) ∧ w = va_pl P655726 F655727 ∧ dc ≤ 0 ∧ ds ≤ 0 ∧ tr_RPreconditions_checkIndex2 p655728 p655729
set_option maxRecDepth 100000 in
set_option maxHeartbeats 4000000 in
theorem cp_655732_Preconditions_checkIndex (l : Launch) (hl0 : l.stackTraces = false) (D : va_G) (I : FieldType → ClassId) (P655726 : List Nat) (F655727 : Nat → va_E) (p655728 : Int32) (p655729 : Int32) (qo655730 : Nat) (bp655728 : gB p655728 0 16777216) (bp655729 : gB p655729 0 16777216) (x655731 : p655728.toInt < p655729.toInt) : CtA (gV D I) l yJ3_checkIndex_8e157 cJ3_checkIndex_8e157 3 (some FieldType.int) 0 0 0 0 [.int p655728, .int p655729, .ref qo655730] (va_pl P655726 F655727) (pp_655732_Preconditions_checkIndex D I P655726 F655727 p655728 p655729 qo655730) gNA := by
  refine CtA_ofF hl0 (by decide +kernel) (Nat.le_of_ble_eq_true rfl) ?_
  refine G_iload_n 0 dr_cJ3_checkIndex_8e157_0 rfl ?_
  refine G_if_lt 9 dr_cJ3_checkIndex_8e157_1 (by decide +kernel) (fun hc => absurd (show False by have := gj_lt hc (show Int32.toInt 0 = 0 by decide); omega) not_false) (fun _ => ?_)
  refine G_iload_n 0 dr_cJ3_checkIndex_8e157_4 rfl ?_
  refine G_iload_n 1 dr_cJ3_checkIndex_8e157_5 rfl ?_
  refine G_icmp_lt 16 dr_cJ3_checkIndex_8e157_6 (by decide +kernel) (fun hc655733 => ?_) (fun hc655733 => ?_)
  · have r655734 : p655728.toInt < p655729.toInt := gC_lt hc655733
    have bp655728' : gB p655728 0 16777215 := ⟨by omega, by omega⟩
    have bp655729' : gB p655729 1 16777216 := ⟨by omega, by omega⟩
    refine G_iload_n 0 dr_cJ3_checkIndex_8e157_16 rfl ?_
    exact G_iretA dr_cJ3_checkIndex_8e157_17 rfl (Nat.le_of_ble_eq_true rfl) (Nat.le_of_ble_eq_true rfl) ⟨rfl, rfl, (Nat.le_of_ble_eq_true rfl), (Nat.le_of_ble_eq_true rfl), (fun R c1 => c1 r655734)⟩
  · have r655735 : p655729.toInt ≤ p655728.toInt := gC_nlt hc655733
    exact absurd (show False by omega) not_false
/- tr_RString_checkIndex:  -/
def tr_RString_checkIndex (a0 : Int32) (a1 : Int32) : Prop := ∀ R : Prop,
  (tr_RPreconditions_checkIndex a0 a1 → R) →
  (tr_RPreconditions_checkIndex2 a0 a1 → R) →
  R
abbrev ky_655718_String_checkIndex : gKey := (cJ0_checkIndex_df160, 2, "java/lang/String", none, [], "checkIndex", fun _ _ => True)
def pp_655718_String_checkIndex (D : va_G) (I : FieldType → ClassId) (P655713 : List Nat) (F655714 : Nat → va_E) (p655715 : Int32) (p655716 : Int32) : Option Value → va_W → Nat → Nat → Prop := fun r w dc ds => r = none ∧ w = va_pl P655713 F655714 ∧ dc ≤ 0 ∧ ds ≤ 0 ∧ tr_RString_checkIndex p655715 p655716
set_option maxRecDepth 100000 in
set_option maxHeartbeats 4000000 in
theorem cp_655718_String_checkIndex (l : Launch) (hl0 : l.stackTraces = false) (D : va_G) (I : FieldType → ClassId) (P655713 : List Nat) (F655714 : Nat → va_E) (p655715 : Int32) (p655716 : Int32) (bp655715 : gB p655715 0 16777216) (bp655716 : gB p655716 0 16777216) (x655717 : p655715.toInt < p655716.toInt) : CtA (gV D I) l yJ0_checkIndex_df160 cJ0_checkIndex_df160 2 none 1 22 0 0 [.int p655715, .int p655716] (va_pl P655713 F655714) (pp_655718_String_checkIndex D I P655713 F655714 p655715 p655716) gNA := by
  refine CtA_ofF hl0 (by decide +kernel) (Nat.le_of_ble_eq_true rfl) ?_
  refine G_iload_n 0 dr_cJ0_checkIndex_df160_0 rfl ?_
  refine G_iload_n 1 dr_cJ0_checkIndex_df160_1 rfl ?_
  refine G_gets dr_cJ0_checkIndex_df160_2 wr_3_81 gz_pf (fun x hx => ?_)
  rcases hx with rfl | ⟨t655719, rfl⟩
  · refine Gw_callS (As := [.int p655715, .int p655716, .null]) (gV_ok D I) (cp_34_Preconditions_checkIndex l hl0 D I P655713 F655714 p655715 p655716 bp655715 bp655716 (by omega)) dr_cJ0_checkIndex_df160_5 ⟨wr_3_83, wr_1_29, wr_3_85, by decide, rfl, (Nat.le_of_ble_eq_true rfl), (Nat.le_of_ble_eq_true rfl)⟩ wr_3_84 (show 0 + 0 ≤ 0 by first | omega | decide) (show 0 + 0 ≤ 0 by first | omega | decide) (Nat.le_of_ble_eq_true rfl) (fun r655723 w655724 dc655720 ds655721 hp655722 => ?_) (fun _ _ _ _ _ z => z.elim)
    obtain ⟨rfl, rfl, hdc, hds, ht655725⟩ := hp655722
    change G _ _ _ _ _ _ _ (.int p655715 :: _) _ _ _
    refine G_widen (cs' := 0) (sl' := 0) (by omega) (by omega) ?_
    refine G_pop dr_cJ0_checkIndex_df160_8 rfl ?_
    exact G_vretA dr_cJ0_checkIndex_df160_9 rfl (Nat.le_of_ble_eq_true rfl) (Nat.le_of_ble_eq_true rfl) ⟨rfl, rfl, (Nat.le_of_ble_eq_true rfl), (Nat.le_of_ble_eq_true rfl), (fun R c1 c2 => c1 ht655725)⟩
  · refine Gw_callS (As := [.int p655715, .int p655716, .ref t655719]) (gV_ok D I) (cp_655732_Preconditions_checkIndex l hl0 D I P655713 F655714 p655715 p655716 t655719 bp655715 bp655716 (by omega)) dr_cJ0_checkIndex_df160_5 ⟨wr_3_83, wr_1_29, wr_3_85, by decide, rfl, (Nat.le_of_ble_eq_true rfl), (Nat.le_of_ble_eq_true rfl)⟩ wr_3_84 (show 0 + 0 ≤ 0 by first | omega | decide) (show 0 + 0 ≤ 0 by first | omega | decide) (Nat.le_of_ble_eq_true rfl) (fun r655739 w655740 dc655736 ds655737 hp655738 => ?_) (fun _ _ _ _ _ z => z.elim)
    obtain ⟨rfl, rfl, hdc, hds, ht655741⟩ := hp655738
    change G _ _ _ _ _ _ _ (.int p655715 :: _) _ _ _
    refine G_widen (cs' := 0) (sl' := 0) (by omega) (by omega) ?_
    refine G_pop dr_cJ0_checkIndex_df160_8 rfl ?_
    exact G_vretA dr_cJ0_checkIndex_df160_9 rfl (Nat.le_of_ble_eq_true rfl) (Nat.le_of_ble_eq_true rfl) ⟨rfl, rfl, (Nat.le_of_ble_eq_true rfl), (Nat.le_of_ble_eq_true rfl), (fun R c1 c2 => c2 ht655741)⟩
/- tr_RAbstractStringBuilder_charAt: result -/
def tr_RAbstractStringBuilder_charAt (a1 : Int32) (a0_count : Int32) (a0_value_v : Nat → Int32) (a0_value_n : Nat) (o1 : Int32) : Prop := ∀ R : (Int32) → Prop,
  (∀ (x1 : Int32) (x2 : Int32) (x3 : Int32) (x4 : Int32) (x5 : Int32) (x6 : Int32), x1.toInt = (a0_value_n : Nat) → x2.toInt = x1.toInt / 1 → (a0_count.toInt ≥ x3.toInt ∧ x2.toInt ≥ x3.toInt ∧ (x3.toInt = a0_count.toInt ∨ x3.toInt = x2.toInt)) → tr_RString_checkIndex a1 x3 → x4 = a0_value_v a1.toNatClampNeg → gB x4 (-128) 127 → x5 = x4 &&& (255 : Int32) → x6 = (x5.toUInt32 % 65536).toInt32 → R x6) →
  R o1
abbrev ky_655709_AbstractStringBuilder_charAt : gKey := (cJ5_charAt_5068e, 5, "java/lang/AbstractStringBuilder", (some FieldType.char), [], "charAt", fun _ _ => True)
def pp_655709_AbstractStringBuilder_charAt (D : va_G) (I : FieldType → ClassId) (P655697 : List Nat) (F655698 : Nat → va_E) (q655699 : Nat) (q655700 : Nat) (p655701 : Int32) (p655702 : Int32) (p655703 : Int32) (f655704 : Nat → Int32) (n655705 : Nat) : Option Value → va_W → Nat → Nat → Prop := fun r w dc ds => ∃ (o655751 : Int32), r = some (.int o655751) ∧ w = va_pl P655697 F655698 ∧ dc ≤ 0 ∧ ds ≤ 0 ∧ gB o655751 0 65535 ∧ tr_RAbstractStringBuilder_charAt p655701 p655703 f655704 n655705 o655751
set_option maxRecDepth 100000 in
set_option maxHeartbeats 4000000 in
theorem cp_655709_AbstractStringBuilder_charAt (l : Launch) (hl0 : l.stackTraces = false) (D : va_G) (I : FieldType → ClassId) (P655697 : List Nat) (F655698 : Nat → va_E) (q655699 : Nat) (q655700 : Nat) (p655701 : Int32) (p655702 : Int32) (p655703 : Int32) (f655704 : Nat → Int32) (n655705 : Nat) (hmq655699 : q655699 ∈ P655697) (hmq655700 : q655700 ∈ P655697) (heq655699 : F655698 q655699 = .inr (1, [.ref q655700, .int 0, .int p655702, .int p655703])) (heq655700 : F655698 q655700 = .inl (I .byte, n655705, .inl f655704)) (bp655701 : gB p655701 0 16777215) (bp655702 : gB p655702 0 1) (bp655703 : gB p655703 0 16777216) (bf655704 : gF f655704 (-128) 127) (x655706 : p655701.toInt < p655703.toInt) (x655707 : p655703.toInt ≤ (n655705 : Int)) (x655708 : ((n655705 : Int) ≤ 16777216)) : CtA (gV D I) l yJ5_charAt_5068e cJ5_charAt_5068e 5 (some FieldType.char) 2 43 0 0 [.ref q655699, .int p655701] (va_pl P655697 F655698) (pp_655709_AbstractStringBuilder_charAt D I P655697 F655698 q655699 q655700 p655701 p655702 p655703 f655704 n655705) gNA := by
  refine CtA_ofF hl0 (by decide +kernel) (Nat.le_of_ble_eq_true rfl) ?_
  refine G_aload_n 0 dr_cJ5_charAt_5068e_0 rfl ?_
  refine Gp_get 1 hmq655699 heq655699 dr_cJ5_charAt_5068e_1 (gk_J4 D I) (Nat.le_of_ble_eq_true rfl) wr_7_61 rfl ?_
  refine G_istore_n (L' := [(2, .int 0), (0, .ref q655699), (1, .int p655701)]) dr_cJ5_charAt_5068e_4 (Nat.le_of_ble_eq_true rfl) rfl ?_
  refine G_aload_n 1 dr_cJ5_charAt_5068e_5 rfl ?_
  refine Gp_get 0 hmq655699 heq655699 dr_cJ5_charAt_5068e_6 (gk_J4 D I) (Nat.le_of_ble_eq_true rfl) wr_7_60 rfl ?_
  refine G_astore_n (L' := [(3, .ref q655700), (2, .int 0), (0, .ref q655699), (1, .int p655701)]) dr_cJ5_charAt_5068e_9 (Nat.le_of_ble_eq_true rfl) rfl ?_
  refine G_aload_n 2 dr_cJ5_charAt_5068e_10 rfl ?_
  refine Gp_get 3 hmq655699 heq655699 dr_cJ5_charAt_5068e_11 (gk_J4 D I) (Nat.le_of_ble_eq_true rfl) wr_7_64 rfl ?_
  refine G_aload_n 0 dr_cJ5_charAt_5068e_14 rfl ?_
  refine Gp_alen (Int32.ofNat n655705) 1 hmq655700 heq655700 dr_cJ5_charAt_5068e_15 rfl rfl (G_nam fun z655710 hz655710 => ?_)
  have ez655710 : z655710.toInt = (n655705 : Nat) := gI_ofM hz655710 (by omega)
  have bz655710 : gB z655710 0 16777216 := ⟨by omega, by omega⟩
  refine G_iload_n 1 dr_cJ5_charAt_5068e_16 rfl ?_
  refine G_ishr dr_cJ5_charAt_5068e_17 (G_nam fun z655711 hz655711 => ?_)
  have ez655711 : z655711.toInt = z655710.toInt / 1 := gI_shr (k := 0) hz655711 (by decide)
  have bz655711 : gB z655711 0 16777216 := ⟨by omega, by omega⟩
  refine G_mmin dr_cJ5_charAt_5068e_18 wr_11_216 wr_3_227 wr_1_6 wr_3_228 (Nat.le_of_ble_eq_true rfl) (Nat.le_of_ble_eq_true rfl) (show 0 ≤ 0 by first | omega | decide) (show 0 ≤ 0 by first | omega | decide) (G_nam fun z655712 hz655712 => ?_)
  have ez655712 : p655703.toInt ≥ z655712.toInt ∧ z655711.toInt ≥ z655712.toInt ∧ (z655712.toInt = p655703.toInt ∨ z655712.toInt = z655711.toInt) := by have := gI_min hz655712; omega
  have bz655712 : gB z655712 0 16777216 := ⟨by omega, by omega⟩
  refine G_istore (L' := [(4, .int z655712), (3, .ref q655700), (2, .int 0), (0, .ref q655699), (1, .int p655701)]) dr_cJ5_charAt_5068e_21 (Nat.le_of_ble_eq_true rfl) rfl ?_
  refine G_iload_n 4 dr_cJ5_charAt_5068e_23 rfl ?_
  refine G_iload 0 dr_cJ5_charAt_5068e_24 rfl ?_
  refine Gw_callS (As := [.int p655701, .int z655712]) (gV_ok D I) (cp_655718_String_checkIndex l hl0 D I P655697 F655698 p655701 z655712 (gB_w bp655701 (by decide) (by decide)) bz655712 (by have qa0 : Int32.toInt 0 = 0 := (by decide); omega)) dr_cJ5_charAt_5068e_26 ⟨wr_11_217, wr_1_21, wr_3_80, by decide, rfl, (Nat.le_of_ble_eq_true rfl), (Nat.le_of_ble_eq_true rfl)⟩ wr_3_79 (show 0 + 0 ≤ 0 by first | omega | decide) (show 0 + 0 ≤ 0 by first | omega | decide) (Nat.le_of_ble_eq_true rfl) (fun r655745 w655746 dc655742 ds655743 hp655744 => ?_) (fun _ _ _ _ _ z => z.elim)
  obtain ⟨rfl, rfl, hdc, hds, ht655747⟩ := hp655744
  change G _ _ _ _ _ _ _ _ _ _ _
  refine G_widen (cs' := 0) (sl' := 0) (by omega) (by omega) ?_
  refine G_iload_n 2 dr_cJ5_charAt_5068e_29 rfl ?_
  refine G_if_ne 42 dr_cJ5_charAt_5068e_30 (by decide +kernel) (fun hc => absurd hc (by decide)) (fun _ => ?_)
  refine G_aload_n 1 dr_cJ5_charAt_5068e_33 rfl ?_
  refine G_iload_n 4 dr_cJ5_charAt_5068e_34 rfl ?_
  refine Gp_bald 1 hmq655700 heq655700 dr_cJ5_charAt_5068e_35 rfl (gB_inr (by omega) (by omega)) (G_nam fun z655748 hz655748 => ?_)
  have bz655748 : gB z655748 (-128) 127 := by rw [hz655748]; exact bf655704 _
  refine G_sipush 255 dr_cJ5_charAt_5068e_36 (by decide +kernel) ?_
  refine G_iand dr_cJ5_charAt_5068e_39 (G_nam fun z655749 hz655749 => ?_)
  have bz655749 : gB z655749 0 255 := gB_and hz655749 (gBl (show Int32.toInt 255 = 255 by decide)) (by decide)
  refine G_i2c dr_cJ5_charAt_5068e_40 (G_nam fun z655750 hz655750 => ?_)
  have bz655750 : gB z655750 0 65535 := gB_i2c hz655750
  exact G_zretA FieldType.char dr_cJ5_charAt_5068e_41 rfl (gN_char bz655750) (Nat.le_of_ble_eq_true rfl) (Nat.le_of_ble_eq_true rfl) ⟨z655750, rfl, rfl, (Nat.le_of_ble_eq_true rfl), (Nat.le_of_ble_eq_true rfl), bz655750, (fun R c1 => c1 z655710 z655711 z655712 z655748 z655749 z655750 ez655710 ez655711 ez655712 ht655747 hz655748 bz655748 hz655749 hz655750)⟩
/- tr_RStringBuilder_charAt: result -/
def tr_RStringBuilder_charAt (a1 : Int32) (a0_count : Int32) (a0_value_v : Nat → Int32) (a0_value_n : Nat) (o1 : Int32) : Prop := ∀ R : (Int32) → Prop,
  (∀ (x1 : Int32), gB x1 0 65535 → tr_RAbstractStringBuilder_charAt a1 a0_count a0_value_v a0_value_n x1 → R x1) →
  R o1
abbrev ky_655696_StringBuilder_charAt : gKey := (cJ4_charAt_5068e, 2, "java/lang/StringBuilder", (some FieldType.char), [], "charAt", fun _ _ => True)
def pp_655696_StringBuilder_charAt (D : va_G) (I : FieldType → ClassId) (P655684 : List Nat) (F655685 : Nat → va_E) (q655686 : Nat) (q655687 : Nat) (p655688 : Int32) (p655689 : Int32) (p655690 : Int32) (f655691 : Nat → Int32) (n655692 : Nat) : Option Value → va_W → Nat → Nat → Prop := fun r w dc ds => ∃ (o655759 : Int32), r = some (.int o655759) ∧ w = va_pl P655684 F655685 ∧ dc ≤ 0 ∧ ds ≤ 0 ∧ gB o655759 0 65535 ∧ tr_RStringBuilder_charAt p655688 p655690 f655691 n655692 o655759
set_option maxRecDepth 100000 in
set_option maxHeartbeats 4000000 in
theorem cp_655696_StringBuilder_charAt (l : Launch) (hl0 : l.stackTraces = false) (D : va_G) (I : FieldType → ClassId) (P655684 : List Nat) (F655685 : Nat → va_E) (q655686 : Nat) (q655687 : Nat) (p655688 : Int32) (p655689 : Int32) (p655690 : Int32) (f655691 : Nat → Int32) (n655692 : Nat) (hmq655686 : q655686 ∈ P655684) (hmq655687 : q655687 ∈ P655684) (heq655686 : F655685 q655686 = .inr (1, [.ref q655687, .int 0, .int p655689, .int p655690])) (heq655687 : F655685 q655687 = .inl (I .byte, n655692, .inl f655691)) (bp655688 : gB p655688 0 16777215) (bp655689 : gB p655689 0 1) (bp655690 : gB p655690 0 16777216) (bf655691 : gF f655691 (-128) 127) (x655693 : p655688.toInt < p655690.toInt) (x655694 : p655690.toInt ≤ (n655692 : Int)) (x655695 : ((n655692 : Int) ≤ 16777216)) : CtA (gV D I) l yJ4_charAt_5068e cJ4_charAt_5068e 2 (some FieldType.char) 3 67 0 0 [.ref q655686, .int p655688] (va_pl P655684 F655685) (pp_655696_StringBuilder_charAt D I P655684 F655685 q655686 q655687 p655688 p655689 p655690 f655691 n655692) gNA := by
  refine CtA_ofF hl0 (by decide +kernel) (Nat.le_of_ble_eq_true rfl) ?_
  refine G_aload_n 0 dr_cJ4_charAt_5068e_0 rfl ?_
  refine G_iload_n 1 dr_cJ4_charAt_5068e_1 rfl ?_
  refine Gw_callSU (As := [.int p655688]) (gV_ok D I) (cp_655709_AbstractStringBuilder_charAt l hl0 D I P655684 F655685 q655686 q655687 p655688 p655689 p655690 f655691 n655692 hmq655686 hmq655687 heq655686 heq655687 bp655688 bp655689 bp655690 bf655691 (by have qa0 : Int32.toInt 0 = 0 := (by decide); omega) (by have qa0 : Int32.toInt 0 = 0 := (by decide); omega) (by have qa0 : Int32.toInt 0 = 0 := (by decide); omega)) dr_cJ4_charAt_5068e_2 ⟨wr_11_213, wr_1_19, wr_11_215, by decide, rfl, (Nat.le_of_ble_eq_true rfl), (Nat.le_of_ble_eq_true rfl)⟩ wr_11_214 wr_11_235 wr_7_73 wr_7_44 (by decide) hmq655686 heq655686 rfl (show 0 + 0 ≤ 0 by first | omega | decide) (show 0 + 0 ≤ 0 by first | omega | decide) (Nat.le_of_ble_eq_true rfl) (fun r655755 w655756 dc655752 ds655753 hp655754 => ?_)
  obtain ⟨o655757, rfl, rfl, hdc, hds, bo655757, ht655758⟩ := hp655754
  change G _ _ _ _ _ _ _ (.int o655757 :: _) _ _ _
  refine G_widen (cs' := 0) (sl' := 0) (by omega) (by omega) ?_
  exact G_zretA FieldType.char dr_cJ4_charAt_5068e_5 rfl (gN_char bo655757) (Nat.le_of_ble_eq_true rfl) (Nat.le_of_ble_eq_true rfl) ⟨o655757, rfl, rfl, (Nat.le_of_ble_eq_true rfl), (Nat.le_of_ble_eq_true rfl), bo655757, (fun R c1 => c1 o655757 bo655757 ht655758)⟩
/- tr_RAbstractStringBuilder_ensureCapacityInternal:  -/
def tr_RAbstractStringBuilder_ensureCapacityInternal (a1 : Int32) (a0_value_n : Nat) : Prop := ∀ R : Prop,
  (∀ (x1 : Int32) (x2 : Int32) (x3 : Int32), x1.toInt = (a0_value_n : Nat) → x2.toInt = x1.toInt / 1 → x3.toInt = a1.toInt - x2.toInt → x3.toInt ≤ 0 → R) →
  R
abbrev ky_655796_AbstractStringBuilder_ensureCapacityInternal : gKey := (cJ5_ensureCapacityInternal_d00df, 3, "java/lang/AbstractStringBuilder", none, [], "ensureCapacityInternal", fun _ _ => True)
def pp_655796_AbstractStringBuilder_ensureCapacityInternal (D : va_G) (I : FieldType → ClassId) (P655785 : List Nat) (F655786 : Nat → va_E) (q655787 : Nat) (q655788 : Nat) (p655789 : Int32) (p655790 : Int32) (p655791 : Int32) (f655792 : Nat → Int32) (n655793 : Nat) : Option Value → va_W → Nat → Nat → Prop := fun r w dc ds => r = none ∧ w = va_pl P655785 F655786 ∧ dc ≤ 0 ∧ ds ≤ 0 ∧ tr_RAbstractStringBuilder_ensureCapacityInternal p655789 n655793
set_option maxRecDepth 100000 in
set_option maxHeartbeats 4000000 in
theorem cp_655796_AbstractStringBuilder_ensureCapacityInternal (l : Launch) (hl0 : l.stackTraces = false) (D : va_G) (I : FieldType → ClassId) (P655785 : List Nat) (F655786 : Nat → va_E) (q655787 : Nat) (q655788 : Nat) (p655789 : Int32) (p655790 : Int32) (p655791 : Int32) (f655792 : Nat → Int32) (n655793 : Nat) (hmq655787 : q655787 ∈ P655785) (hmq655788 : q655788 ∈ P655785) (heq655787 : F655786 q655787 = .inr (1, [.ref q655788, .int 0, .int p655790, .int p655791])) (heq655788 : F655786 q655788 = .inl (I .byte, n655793, .inl f655792)) (bp655789 : gB p655789 0 16777216) (bp655790 : gB p655790 0 1) (bp655791 : gB p655791 0 16777216) (bf655792 : gF f655792 (-128) 127) (x655794 : p655789.toInt ≤ (n655793 : Int)) (x655795 : ((n655793 : Int) ≤ 16777216)) : CtA (gV D I) l yJ5_ensureCapacityInternal_d00df cJ5_ensureCapacityInternal_d00df 3 none 0 0 0 0 [.ref q655787, .int p655789] (va_pl P655785 F655786) (pp_655796_AbstractStringBuilder_ensureCapacityInternal D I P655785 F655786 q655787 q655788 p655789 p655790 p655791 f655792 n655793) gNA := by
  refine CtA_ofF hl0 (by decide +kernel) (Nat.le_of_ble_eq_true rfl) ?_
  refine G_aload_n 0 dr_cJ5_ensureCapacityInternal_d00df_0 rfl ?_
  refine Gp_get 0 hmq655787 heq655787 dr_cJ5_ensureCapacityInternal_d00df_1 (gk_J4 D I) (Nat.le_of_ble_eq_true rfl) wr_7_60 rfl ?_
  refine Gp_alen (Int32.ofNat n655793) 1 hmq655788 heq655788 dr_cJ5_ensureCapacityInternal_d00df_4 rfl rfl (G_nam fun z655797 hz655797 => ?_)
  have ez655797 : z655797.toInt = (n655793 : Nat) := gI_ofM hz655797 (by omega)
  have bz655797 : gB z655797 0 16777216 := ⟨by omega, by omega⟩
  refine G_aload_n 0 dr_cJ5_ensureCapacityInternal_d00df_5 rfl ?_
  refine Gp_get 1 hmq655787 heq655787 dr_cJ5_ensureCapacityInternal_d00df_6 (gk_J4 D I) (Nat.le_of_ble_eq_true rfl) wr_7_61 rfl ?_
  refine G_ishr dr_cJ5_ensureCapacityInternal_d00df_9 (G_nam fun z655798 hz655798 => ?_)
  have ez655798 : z655798.toInt = z655797.toInt / 1 := gI_shr (k := 0) hz655798 (by decide)
  have bz655798 : gB z655798 0 16777216 := ⟨by omega, by omega⟩
  refine G_istore_n (L' := [(2, .int z655798), (0, .ref q655787), (1, .int p655789)]) dr_cJ5_ensureCapacityInternal_d00df_10 (Nat.le_of_ble_eq_true rfl) rfl ?_
  refine G_iload_n 2 dr_cJ5_ensureCapacityInternal_d00df_11 rfl ?_
  refine G_iload_n 0 dr_cJ5_ensureCapacityInternal_d00df_12 rfl ?_
  refine G_isub dr_cJ5_ensureCapacityInternal_d00df_13 (G_nam fun z655799 hz655799 => ?_)
  have ez655799 : z655799.toInt = p655789.toInt - z655798.toInt := by rw [gI_sub hz655799 bp655789 bz655798 (by decide) (by decide)]
  have bz655799 : gB z655799 (-16777216) 16777216 := gB_sub (gI_sub hz655799 bp655789 bz655798 (by decide) (by decide)) bp655789 bz655798 (by decide) (by decide)
  refine G_if_le 38 dr_cJ5_ensureCapacityInternal_d00df_14 (by decide +kernel) (fun hc655800 => ?_) (fun hc => absurd (show False by have := gj_nle hc (show Int32.toInt 0 = 0 by decide); omega) not_false)
  have r655802 : z655799.toInt ≤ 0 := gj_le hc655800 (show Int32.toInt 0 = 0 by decide)
  have bz655799' : gB z655799 (-16777216) 0 := ⟨by omega, by omega⟩
  exact G_vretA dr_cJ5_ensureCapacityInternal_d00df_38 rfl (Nat.le_of_ble_eq_true rfl) (Nat.le_of_ble_eq_true rfl) ⟨rfl, rfl, (Nat.le_of_ble_eq_true rfl), (Nat.le_of_ble_eq_true rfl), (fun R c1 => c1 z655797 z655798 z655799 ez655797 ez655798 ez655799 r655802)⟩
abbrev ky_655818_AbstractStringBuilder_isLatin1 : gKey := (cJ5_isLatin1_aae02, 1, "java/lang/AbstractStringBuilder", (some FieldType.boolean), [], "isLatin1", fun _ _ => True)
def pp_655818_AbstractStringBuilder_isLatin1 (D : va_G) (I : FieldType → ClassId) (P655809 : List Nat) (F655810 : Nat → va_E) (q655811 : Nat) (q655812 : Nat) (p655813 : Int32) (p655814 : Int32) (f655815 : Nat → Int32) (n655816 : Nat) : Option Value → va_W → Nat → Nat → Prop := fun r w dc ds => r = some (.int 1) ∧ w = va_pl P655809 F655810 ∧ dc ≤ 0 ∧ ds ≤ 0
set_option maxRecDepth 100000 in
set_option maxHeartbeats 4000000 in
theorem cp_655818_AbstractStringBuilder_isLatin1 (l : Launch) (hl0 : l.stackTraces = false) (D : va_G) (I : FieldType → ClassId) (P655809 : List Nat) (F655810 : Nat → va_E) (q655811 : Nat) (q655812 : Nat) (p655813 : Int32) (p655814 : Int32) (f655815 : Nat → Int32) (n655816 : Nat) (hmq655811 : q655811 ∈ P655809) (hmq655812 : q655812 ∈ P655809) (heq655811 : F655810 q655811 = .inr (1, [.ref q655812, .int 0, .int p655813, .int p655814])) (heq655812 : F655810 q655812 = .inl (I .byte, n655816, .inl f655815)) (bp655813 : gB p655813 0 1) (bp655814 : gB p655814 0 16777216) (bf655815 : gF f655815 (-128) 127) (x655817 : ((n655816 : Int) ≤ 16777216)) : CtA (gV D I) l yJ5_isLatin1_aae02 cJ5_isLatin1_aae02 1 (some FieldType.boolean) 0 0 0 0 [.ref q655811] (va_pl P655809 F655810) (pp_655818_AbstractStringBuilder_isLatin1 D I P655809 F655810 q655811 q655812 p655813 p655814 f655815 n655816) gNA := by
  refine CtA_ofF hl0 (by decide +kernel) (Nat.le_of_ble_eq_true rfl) ?_
  refine G_gets dr_cJ5_isLatin1_aae02_0 wr_7_52 gz_cs (fun x hx => ?_)
  subst hx
  refine G_if_eq 17 dr_cJ5_isLatin1_aae02_3 (by decide +kernel) (fun hc => absurd hc (by decide)) (fun _ => ?_)
  refine G_aload_n 0 dr_cJ5_isLatin1_aae02_6 rfl ?_
  refine Gp_get 1 hmq655811 heq655811 dr_cJ5_isLatin1_aae02_7 (gk_J4 D I) (Nat.le_of_ble_eq_true rfl) wr_7_61 rfl ?_
  refine G_if_ne 17 dr_cJ5_isLatin1_aae02_10 (by decide +kernel) (fun hc => absurd hc (by decide)) (fun _ => ?_)
  refine G_iconst 1 dr_cJ5_isLatin1_aae02_13 (by decide +kernel) ?_
  refine G_goto 18 dr_cJ5_isLatin1_aae02_14 (by decide +kernel) ?_
  exact G_zretA FieldType.boolean dr_cJ5_isLatin1_aae02_18 rfl rfl (Nat.le_of_ble_eq_true rfl) (Nat.le_of_ble_eq_true rfl) ⟨rfl, rfl, (Nat.le_of_ble_eq_true rfl), (Nat.le_of_ble_eq_true rfl)⟩
/- tr_RStringLatin1_canEncode: result -/
def tr_RStringLatin1_canEncode (a0 : Int32) (o1 : Int32) : Prop := ∀ R : (Int32) → Prop,
  (255 < a0.toInt → R (0 : Int32)) →
  (a0.toInt ≤ 255 → R (1 : Int32)) →
  R o1
abbrev ky_655827_StringLatin1_canEncode : gKey := (cJ1_canEncode_fc78d, 1, "java/lang/StringLatin1", (some FieldType.boolean), [], "canEncode", fun _ _ => True)
def pp_655827_StringLatin1_canEncode (D : va_G) (I : FieldType → ClassId) (P655824 : List Nat) (F655825 : Nat → va_E) (p655826 : Int32) : Option Value → va_W → Nat → Nat → Prop := fun r w dc ds => (r = some (.int 0) ∧ w = va_pl P655824 F655825 ∧ dc ≤ 0 ∧ ds ≤ 0 ∧ 255 < p655826.toInt ∧ tr_RStringLatin1_canEncode p655826 (0 : Int32)) ∨ (r = some (.int 1) ∧ w = va_pl P655824 F655825 ∧ dc ≤ 0 ∧ ds ≤ 0 ∧ p655826.toInt ≤ 255 ∧ tr_RStringLatin1_canEncode p655826 (1 : Int32))
set_option maxRecDepth 100000 in
set_option maxHeartbeats 4000000 in
theorem cp_655827_StringLatin1_canEncode (l : Launch) (hl0 : l.stackTraces = false) (D : va_G) (I : FieldType → ClassId) (P655824 : List Nat) (F655825 : Nat → va_E) (p655826 : Int32) (bp655826 : gB p655826 0 65535) : CtA (gV D I) l yJ1_canEncode_fc78d cJ1_canEncode_fc78d 1 (some FieldType.boolean) 0 0 0 0 [.int p655826] (va_pl P655824 F655825) (pp_655827_StringLatin1_canEncode D I P655824 F655825 p655826) gNA := by
  refine CtA_ofF hl0 (by decide +kernel) (Nat.le_of_ble_eq_true rfl) ?_
  refine G_iload_n 0 dr_cJ1_canEncode_fc78d_0 rfl ?_
  refine G_sipush 255 dr_cJ1_canEncode_fc78d_1 (by decide +kernel) ?_
  refine G_icmp_gt 11 dr_cJ1_canEncode_fc78d_4 (by decide +kernel) (fun hc655828 => ?_) (fun hc655828 => ?_)
  · have r655829 : 255 < p655826.toInt := gj_ltL hc655828 (show Int32.toInt 255 = 255 by decide)
    have bp655826' : gB p655826 256 65535 := ⟨by omega, by omega⟩
    refine G_iconst 0 dr_cJ1_canEncode_fc78d_11 (by decide +kernel) ?_
    exact G_zretA FieldType.boolean dr_cJ1_canEncode_fc78d_12 rfl rfl (Nat.le_of_ble_eq_true rfl) (Nat.le_of_ble_eq_true rfl) (Or.inl ⟨rfl, rfl, (Nat.le_of_ble_eq_true rfl), (Nat.le_of_ble_eq_true rfl), r655829, (fun R c1 c2 => c1 r655829)⟩)
  · have r655830 : p655826.toInt ≤ 255 := gj_nltL hc655828 (show Int32.toInt 255 = 255 by decide)
    have bp655826' : gB p655826 0 255 := ⟨by omega, by omega⟩
    refine G_iconst 1 dr_cJ1_canEncode_fc78d_7 (by decide +kernel) ?_
    refine G_goto 12 dr_cJ1_canEncode_fc78d_8 (by decide +kernel) ?_
    exact G_zretA FieldType.boolean dr_cJ1_canEncode_fc78d_12 rfl rfl (Nat.le_of_ble_eq_true rfl) (Nat.le_of_ble_eq_true rfl) (Or.inr (⟨rfl, rfl, (Nat.le_of_ble_eq_true rfl), (Nat.le_of_ble_eq_true rfl), r655830, (fun R c1 c2 => c2 r655830)⟩))
/- tr_RAbstractStringBuilder_append: a.0...count, a.0.value.[] -/
def tr_RAbstractStringBuilder_append (a1 : Int32) (a0_count : Int32) (a0_value_v : Nat → Int32) (a0_value_n : Nat) (o1 : Int32) (o2 : Nat → Int32) : Prop := ∀ R : (Int32) → (Nat → Int32) → Prop,
  (∀ (x1 : Int32) (x2 : Int32) (x3 : Int32) (x4 : Nat → Int32), x1.toInt = a0_count.toInt + 1 → tr_RAbstractStringBuilder_ensureCapacityInternal x1 a0_value_n → tr_RStringLatin1_canEncode a1 (1 : Int32) → x2.toInt = a0_count.toInt + 1 → x3 = a1.toInt8.toInt32 → x4 = upd a0_value_v a0_count.toNatClampNeg (vp_nar .byte x3) → R x2 x4) →
  R o1 o2
abbrev ky_655783_AbstractStringBuilder_append : gKey := (cJ5_append_3fe6f, 2, "java/lang/AbstractStringBuilder", (some (FieldType.object "java/lang/AbstractStringBuilder")), [], "append", fun _ _ => True)
def pp_655783_AbstractStringBuilder_append (D : va_G) (I : FieldType → ClassId) (P655772 : List Nat) (F655773 : Nat → va_E) (q655774 : Nat) (q655775 : Nat) (p655776 : Int32) (p655777 : Int32) (p655778 : Int32) (f655779 : Nat → Int32) (n655780 : Nat) : Option Value → va_W → Nat → Nat → Prop := fun r w dc ds => ∃ (F655859 : Nat → va_E) (o655856 : Int32) (f655857 : Nat → Int32), r = some (.ref q655774) ∧ w = va_pl P655772 F655859 ∧ rFr [q655775, q655774] P655772 F655773 F655859 ∧ F655859 q655774 = .inr (1, [.ref q655775, .int 0, .int p655777, .int o655856]) ∧ F655859 q655775 = .inl (I .byte, n655780, .inl f655857) ∧ dc ≤ 0 ∧ ds ≤ 0 ∧ gB o655856 1 16777216 ∧ gF f655857 (-128) 127 ∧ o655856.toInt = p655778.toInt + 1 ∧ tr_RAbstractStringBuilder_append p655776 p655778 f655779 n655780 o655856 f655857
set_option maxRecDepth 100000 in
set_option maxHeartbeats 4000000 in
theorem cp_655783_AbstractStringBuilder_append (l : Launch) (hl0 : l.stackTraces = false) (D : va_G) (I : FieldType → ClassId) (P655772 : List Nat) (F655773 : Nat → va_E) (q655774 : Nat) (q655775 : Nat) (p655776 : Int32) (p655777 : Int32) (p655778 : Int32) (f655779 : Nat → Int32) (n655780 : Nat) (hmq655774 : q655774 ∈ P655772) (hmq655775 : q655775 ∈ P655772) (heq655774 : F655773 q655774 = .inr (1, [.ref q655775, .int 0, .int p655777, .int p655778])) (heq655775 : F655773 q655775 = .inl (I .byte, n655780, .inl f655779)) (bp655776 : gB p655776 0 255) (bp655777 : gB p655777 0 1) (bp655778 : gB p655778 0 16777216) (bf655779 : gF f655779 (-128) 127) (x655781 : p655778.toInt < (n655780 : Int)) (x655782 : ((n655780 : Int) ≤ 16777216)) : CtA (gV D I) l yJ5_append_3fe6f cJ5_append_3fe6f 2 (some (FieldType.object "java/lang/AbstractStringBuilder")) 1 22 0 0 [.ref q655774, .int p655776] (va_pl P655772 F655773) (pp_655783_AbstractStringBuilder_append D I P655772 F655773 q655774 q655775 p655776 p655777 p655778 f655779 n655780) gNA := by
  refine CtA_ofF hl0 (by decide +kernel) (Nat.le_of_ble_eq_true rfl) ?_
  refine G_aload_n 0 dr_cJ5_append_3fe6f_0 rfl ?_
  refine G_aload_n 0 dr_cJ5_append_3fe6f_1 rfl ?_
  refine Gp_get 3 hmq655774 heq655774 dr_cJ5_append_3fe6f_2 (gk_J4 D I) (Nat.le_of_ble_eq_true rfl) wr_7_64 rfl ?_
  refine G_iconst 1 dr_cJ5_append_3fe6f_5 (by decide +kernel) ?_
  refine G_iadd dr_cJ5_append_3fe6f_6 (G_nam fun z655784 hz655784 => ?_)
  have ez655784 : z655784.toInt = p655778.toInt + 1 := by rw [gI_add hz655784 bp655778 (gBl (show Int32.toInt 1 = 1 by decide)) (by decide) (by decide), show Int32.toInt 1 = 1 from by decide]
  have bz655784 : gB z655784 1 16777217 := gB_add (gI_add hz655784 bp655778 (gBl (show Int32.toInt 1 = 1 by decide)) (by decide) (by decide)) bp655778 (gBl (show Int32.toInt 1 = 1 by decide)) (by decide) (by decide)
  refine Gw_callVB (As := [.int z655784]) (gV_ok D I) (cp_655796_AbstractStringBuilder_ensureCapacityInternal l hl0 D I P655772 F655773 q655774 q655775 z655784 p655777 p655778 f655779 n655780 hmq655774 hmq655775 heq655774 heq655775 ⟨by omega, by omega⟩ bp655777 bp655778 bf655779 (by have qa0 : Int32.toInt 0 = 0 := (by decide); omega) (by have qa0 : Int32.toInt 0 = 0 := (by decide); omega)) dr_cJ5_append_3fe6f_7 ⟨wr_8_4, wr_1_19, wr_8_7, by decide, rfl, (Nat.le_of_ble_eq_true rfl), (Nat.le_of_ble_eq_true rfl)⟩ wr_8_6 wr_s_0 hmq655774 heq655774 rfl (show 0 + 0 ≤ 0 by first | omega | decide) (show 0 + 0 ≤ 0 by first | omega | decide) (Nat.le_of_ble_eq_true rfl) (fun r655806 w655807 dc655803 ds655804 hp655805 => ?_) (fun _ _ _ _ _ z => z.elim)
  obtain ⟨rfl, rfl, hdc, hds, ht655808⟩ := hp655805
  change G _ _ _ _ _ _ _ _ _ _ _
  refine G_widen (cs' := 0) (sl' := 0) (by omega) (by omega) ?_
  refine G_aload_n 0 dr_cJ5_append_3fe6f_10 rfl ?_
  refine Gw_callVB (As := []) (gV_ok D I) (cp_655818_AbstractStringBuilder_isLatin1 l hl0 D I P655772 F655773 q655774 q655775 p655777 p655778 f655779 n655780 hmq655774 hmq655775 heq655774 heq655775 bp655777 bp655778 bf655779 (by have qa0 : Int32.toInt 0 = 0 := (by decide); omega)) dr_cJ5_append_3fe6f_11 ⟨wr_8_33, wr_1_19, wr_8_37, by decide, rfl, (Nat.le_of_ble_eq_true rfl), (Nat.le_of_ble_eq_true rfl)⟩ wr_8_34 wr_8_36 hmq655774 heq655774 rfl (show 0 + 0 ≤ 0 by first | omega | decide) (show 0 + 0 ≤ 0 by first | omega | decide) (Nat.le_of_ble_eq_true rfl) (fun r655822 w655823 dc655819 ds655820 hp655821 => ?_) (fun _ _ _ _ _ z => z.elim)
  obtain ⟨rfl, rfl, hdc, hds⟩ := hp655821
  change G _ _ _ _ _ _ _ (.int 1 :: _) _ _ _
  refine G_widen (cs' := 0) (sl' := 0) (by omega) (by omega) ?_
  refine G_if_eq 45 dr_cJ5_append_3fe6f_14 (by decide +kernel) (fun hc => absurd hc (by decide)) (fun _ => ?_)
  refine G_iload_n 1 dr_cJ5_append_3fe6f_17 rfl ?_
  refine Gw_callS (As := [.int p655776]) (gV_ok D I) (cp_655827_StringLatin1_canEncode l hl0 D I P655772 F655773 p655776 (gB_w bp655776 (by decide) (by decide))) dr_cJ5_append_3fe6f_18 ⟨wr_8_38, wr_1_28, wr_8_40, by decide, rfl, (Nat.le_of_ble_eq_true rfl), (Nat.le_of_ble_eq_true rfl)⟩ wr_8_39 (show 0 + 0 ≤ 0 by first | omega | decide) (show 0 + 0 ≤ 0 by first | omega | decide) (Nat.le_of_ble_eq_true rfl) (fun r655834 w655835 dc655831 ds655832 hp655833 => ?_) (fun _ _ _ _ _ z => z.elim)
  rcases hp655833 with ⟨rfl, rfl, hdc, hds, r655836, r655837⟩ | ⟨rfl, rfl, hdc, hds, r655838, r655839⟩
  · exact absurd (show False by omega) not_false
  · change G _ _ _ _ _ _ _ (.int 1 :: _) _ _ _
    refine G_widen (cs' := 0) (sl' := 0) (by omega) (by omega) ?_
    refine G_if_eq 45 dr_cJ5_append_3fe6f_21 (by decide +kernel) (fun hc => absurd hc (by decide)) (fun _ => ?_)
    refine G_aload_n 0 dr_cJ5_append_3fe6f_24 rfl ?_
    refine Gp_get 0 hmq655774 heq655774 dr_cJ5_append_3fe6f_25 (gk_J4 D I) (Nat.le_of_ble_eq_true rfl) wr_7_60 rfl ?_
    refine G_aload_n 0 dr_cJ5_append_3fe6f_28 rfl ?_
    refine G_dup dr_cJ5_append_3fe6f_29 rfl ?_
    refine Gp_get 3 hmq655774 heq655774 dr_cJ5_append_3fe6f_30 (gk_J4 D I) (Nat.le_of_ble_eq_true rfl) wr_7_64 rfl ?_
    refine G_dup_x1 dr_cJ5_append_3fe6f_33 rfl rfl ?_
    refine G_iconst 1 dr_cJ5_append_3fe6f_34 (by decide +kernel) ?_
    refine G_iadd dr_cJ5_append_3fe6f_35 (G_nam fun z655841 hz655841 => ?_)
    have ez655841 : z655841.toInt = p655778.toInt + 1 := by rw [gI_add hz655841 bp655778 (gBl (show Int32.toInt 1 = 1 by decide)) (by decide) (by decide), show Int32.toInt 1 = 1 from by decide]
    have bz655841 : gB z655841 1 16777217 := gB_add (gI_add hz655841 bp655778 (gBl (show Int32.toInt 1 = 1 by decide)) (by decide) (by decide)) bp655778 (gBl (show Int32.toInt 1 = 1 by decide)) (by decide) (by decide)
    refine Gp_put 3 hmq655774 heq655774 dr_cJ5_append_3fe6f_36 (gk_J4 D I) (Nat.le_of_ble_eq_true rfl) wr_7_64 rfl rfl rfl (Nat.le_of_ble_eq_true rfl) (fun F655842 e655843 n655844 => ?_)
    have he655845 : F655842 q655775 = .inl (I .byte, n655780, .inl f655779) := (n655844 q655775 (rn_ao heq655775 heq655774)).trans heq655775
    have he655846 : F655842 q655774 = .inr (1, [.ref q655775, .int 0, .int p655777, .int z655841]) := e655843
    have hfr655847 : rFr [q655774] P655772 F655773 F655842 := rFr_put (rFr_rf (W := []) (P := P655772) (F := F655773)) n655844
    refine G_iload_n 1 dr_cJ5_append_3fe6f_39 rfl ?_
    refine G_i2b dr_cJ5_append_3fe6f_40 (G_nam fun z655848 hz655848 => ?_)
    have bz655848 : gB z655848 (-128) 127 := gB_i2b hz655848
    refine Gp_bast 1 hmq655775 he655845 dr_cJ5_append_3fe6f_41 rfl (gB_inr (by omega) (by omega)) (fun F655849 e655850 n655851 => ?_)
    obtain ⟨f655852, hf655852⟩ : ∃ z, z = upd f655779 p655778.toNatClampNeg (vp_nar .byte z655848) := ⟨_, rfl⟩
    rw [← hf655852] at e655850
    have he655853 : F655849 q655774 = .inr (1, [.ref q655775, .int 0, .int p655777, .int z655841]) := (n655851 q655774 (rn_oa he655846 he655845)).trans he655846
    have he655854 : F655849 q655775 = .inl (I .byte, n655780, .inl f655852) := e655850
    have hfr655855 : rFr [q655775, q655774] P655772 F655773 F655849 := rFr_put hfr655847 n655851
    have bf655852 : gF f655852 (-128) 127 := gF_upd hf655852 bf655779 gB_byte
    refine G_goto 75 dr_cJ5_append_3fe6f_42 (by decide +kernel) ?_
    refine G_aload_n 0 dr_cJ5_append_3fe6f_75 rfl ?_
    exact G_aretA (FieldType.object "java/lang/AbstractStringBuilder") dr_cJ5_append_3fe6f_76 rfl (by first | exact Or.inl ⟨_, rfl⟩ | exact Or.inr ⟨_, rfl⟩) (Or.inr ⟨_, rfl⟩) (Nat.le_of_ble_eq_true rfl) (Nat.le_of_ble_eq_true rfl) ⟨F655849, z655841, f655852, rfl, rfl, hfr655855, he655853, he655854, (Nat.le_of_ble_eq_true rfl), (Nat.le_of_ble_eq_true rfl), ⟨by omega, by omega⟩, bf655852, (by have qa0 : Int32.toInt 0 = 0 := (by decide); omega), (fun R c1 => c1 z655784 z655841 z655848 f655852 ez655784 ht655808 r655839 ez655841 hz655848 hf655852)⟩
/- tr_RStringBuilder_append: a.0...count, a.0.value.[] -/
def tr_RStringBuilder_append (a1 : Int32) (a0_count : Int32) (a0_value_v : Nat → Int32) (a0_value_n : Nat) (o1 : Int32) (o2 : Nat → Int32) : Prop := ∀ R : (Int32) → (Nat → Int32) → Prop,
  (∀ (x1 : Int32) (x2 : Nat → Int32), gB x1 1 16777216 → tr_RAbstractStringBuilder_append a1 a0_count a0_value_v a0_value_n x1 x2 → R x1 x2) →
  R o1 o2
abbrev ky_655771_StringBuilder_append : gKey := (cJ4_append_cf468, 2, "java/lang/StringBuilder", (some (FieldType.object "java/lang/StringBuilder")), [], "append", fun _ _ => True)
def pp_655771_StringBuilder_append (D : va_G) (I : FieldType → ClassId) (P655760 : List Nat) (F655761 : Nat → va_E) (q655762 : Nat) (q655763 : Nat) (p655764 : Int32) (p655765 : Int32) (p655766 : Int32) (f655767 : Nat → Int32) (n655768 : Nat) : Option Value → va_W → Nat → Nat → Prop := fun r w dc ds => ∃ (F655878 : Nat → va_E) (o655875 : Int32) (f655876 : Nat → Int32), r = some (.ref q655762) ∧ w = va_pl P655760 F655878 ∧ rFr [q655763, q655762] P655760 F655761 F655878 ∧ F655878 q655762 = .inr (1, [.ref q655763, .int 0, .int p655765, .int o655875]) ∧ F655878 q655763 = .inl (I .byte, n655768, .inl f655876) ∧ dc ≤ 0 ∧ ds ≤ 0 ∧ gB o655875 1 16777216 ∧ gF f655876 (-128) 127 ∧ o655875.toInt = p655766.toInt + 1 ∧ tr_RStringBuilder_append p655764 p655766 f655767 n655768 o655875 f655876
set_option maxRecDepth 100000 in
set_option maxHeartbeats 4000000 in
theorem cp_655771_StringBuilder_append (l : Launch) (hl0 : l.stackTraces = false) (D : va_G) (I : FieldType → ClassId) (P655760 : List Nat) (F655761 : Nat → va_E) (q655762 : Nat) (q655763 : Nat) (p655764 : Int32) (p655765 : Int32) (p655766 : Int32) (f655767 : Nat → Int32) (n655768 : Nat) (hmq655762 : q655762 ∈ P655760) (hmq655763 : q655763 ∈ P655760) (heq655762 : F655761 q655762 = .inr (1, [.ref q655763, .int 0, .int p655765, .int p655766])) (heq655763 : F655761 q655763 = .inl (I .byte, n655768, .inl f655767)) (bp655764 : gB p655764 0 255) (bp655765 : gB p655765 0 1) (bp655766 : gB p655766 0 16777216) (bf655767 : gF f655767 (-128) 127) (x655769 : p655766.toInt < (n655768 : Int)) (x655770 : ((n655768 : Int) ≤ 16777216)) : CtA (gV D I) l yJ4_append_cf468 cJ4_append_cf468 2 (some (FieldType.object "java/lang/StringBuilder")) 2 43 0 0 [.ref q655762, .int p655764] (va_pl P655760 F655761) (pp_655771_StringBuilder_append D I P655760 F655761 q655762 q655763 p655764 p655765 p655766 f655767 n655768) gNA := by
  refine CtA_ofF hl0 (by decide +kernel) (Nat.le_of_ble_eq_true rfl) ?_
  refine G_aload_n 0 dr_cJ4_append_cf468_0 rfl ?_
  refine G_iload_n 1 dr_cJ4_append_cf468_1 rfl ?_
  refine Gw_callSU (As := [.int p655764]) (gV_ok D I) (cp_655783_AbstractStringBuilder_append l hl0 D I P655760 F655761 q655762 q655763 p655764 p655765 p655766 f655767 n655768 hmq655762 hmq655763 heq655762 heq655763 bp655764 bp655765 bp655766 bf655767 (by have qa0 : Int32.toInt 0 = 0 := (by decide); omega) (by have qa0 : Int32.toInt 0 = 0 := (by decide); omega)) dr_cJ4_append_cf468_2 ⟨wr_8_1, wr_1_19, wr_8_3, by decide, rfl, (Nat.le_of_ble_eq_true rfl), (Nat.le_of_ble_eq_true rfl)⟩ wr_8_2 wr_11_224 wr_7_73 wr_7_44 (by decide) hmq655762 heq655762 rfl (show 0 + 0 ≤ 0 by first | omega | decide) (show 0 + 0 ≤ 0 by first | omega | decide) (Nat.le_of_ble_eq_true rfl) (fun r655863 w655864 dc655860 ds655861 hp655862 => ?_)
  obtain ⟨F655869, o655865, f655866, rfl, rfl, hfr655871, he655872, he655873, hdc, hds, bo655865, bf655866, x655867, ht655868⟩ := hp655862
  have hfr655874 : rFr [q655763, q655762] P655760 F655761 F655869 := rFr_call (rSub_rf (P := P655760)) (rFr_rf (W := []) (P := P655760) (F := F655761)) hfr655871 (fun b hb hn => ⟨nm_n, (nm_c (fun e => hn (e ▸ List.mem_cons_self)) (nm_c (fun e => hn (e ▸ (List.mem_cons_of_mem _ List.mem_cons_self))) nm_n))⟩)
  change G _ _ _ _ _ _ _ (.ref q655762 :: _) _ _ _
  refine G_widen (cs' := 0) (sl' := 0) (by omega) (by omega) ?_
  refine G_pop dr_cJ4_append_cf468_5 rfl ?_
  refine G_aload_n 0 dr_cJ4_append_cf468_6 rfl ?_
  exact G_aretA (FieldType.object "java/lang/StringBuilder") dr_cJ4_append_cf468_7 rfl (by first | exact Or.inl ⟨_, rfl⟩ | exact Or.inr ⟨_, rfl⟩) (Or.inr ⟨_, rfl⟩) (Nat.le_of_ble_eq_true rfl) (Nat.le_of_ble_eq_true rfl) ⟨F655869, o655865, f655866, rfl, rfl, hfr655874, he655872, he655873, (Nat.le_of_ble_eq_true rfl), (Nat.le_of_ble_eq_true rfl), bo655865, bf655866, (by have qa0 : Int32.toInt 0 = 0 := (by decide); omega), (fun R c1 => c1 o655865 f655866 bo655865 ht655868)⟩
/- tr_RAbstractStringBuilder_newCapacity: result -/
def tr_RAbstractStringBuilder_newCapacity (a1 : Int32) (a0_value_n : Nat) (o1 : Int32) : Prop := ∀ R : (Int32) → Prop,
  (∀ (x1 : Int32) (x2 : Int32) (x3 : Int32) (x4 : Int32) (x5 : Int32) (x6 : Int32) (x7 : Int32), x1.toInt = (a0_value_n : Nat) → x2.toInt = a1.toInt * 1 → x3.toInt = x2.toInt - x1.toInt → x4.toInt = 2 * 1 → x5.toInt = x1.toInt + x4.toInt → gB x6 1 33554432 → tr_RArraysSupport_newLength x1 x3 x5 x6 → x7.toInt = x6.toInt / 1 → R x7) →
  R o1
abbrev ky_655936_AbstractStringBuilder_newCapacity : gKey := (cJ5_newCapacity_0f7a4, 6, "java/lang/AbstractStringBuilder", (some FieldType.int), [], "newCapacity", fun _ _ => True)
def pp_655936_AbstractStringBuilder_newCapacity (D : va_G) (I : FieldType → ClassId) (P655924 : List Nat) (F655925 : Nat → va_E) (q655926 : Nat) (q655927 : Nat) (p655928 : Int32) (p655929 : Int32) (p655930 : Int32) (f655931 : Nat → Int32) (n655932 : Nat) : Option Value → va_W → Nat → Nat → Prop := fun r w dc ds => ∃ (o655951 : Int32), r = some (.int o655951) ∧ w = va_pl P655924 F655925 ∧ dc ≤ 0 ∧ ds ≤ 0 ∧ gB o655951 1 33554432 ∧ p655928.toInt ≤ o655951.toInt ∧ 2 * (n655932 : Int) + 2 ≤ o655951.toInt ∧ (o655951.toInt ≤ 2 * (n655932 : Int) + 2 ∨ o655951.toInt ≤ p655928.toInt) ∧ tr_RAbstractStringBuilder_newCapacity p655928 n655932 o655951
set_option maxRecDepth 100000 in
set_option maxHeartbeats 4000000 in
theorem cp_655936_AbstractStringBuilder_newCapacity (l : Launch) (hl0 : l.stackTraces = false) (D : va_G) (I : FieldType → ClassId) (P655924 : List Nat) (F655925 : Nat → va_E) (q655926 : Nat) (q655927 : Nat) (p655928 : Int32) (p655929 : Int32) (p655930 : Int32) (f655931 : Nat → Int32) (n655932 : Nat) (hmq655926 : q655926 ∈ P655924) (hmq655927 : q655927 ∈ P655924) (heq655926 : F655925 q655926 = .inr (1, [.ref q655927, .int 0, .int p655929, .int p655930])) (heq655927 : F655925 q655927 = .inl (I .byte, n655932, .inl f655931)) (bp655928 : gB p655928 0 8388608) (bp655929 : gB p655929 0 1) (bp655930 : gB p655930 0 16777216) (bf655931 : gF f655931 (-128) 127) (x655933 : (n655932 : Int) < p655928.toInt) (x655934 : (n655932 : Int) ≤ 8388608) (x655935 : ((n655932 : Int) ≤ 16777216)) : CtA (gV D I) l yJ5_newCapacity_0f7a4 cJ5_newCapacity_0f7a4 6 (some FieldType.int) 2 37 0 0 [.ref q655926, .int p655928] (va_pl P655924 F655925) (pp_655936_AbstractStringBuilder_newCapacity D I P655924 F655925 q655926 q655927 p655928 p655929 p655930 f655931 n655932) gNA := by
  refine CtA_ofF hl0 (by decide +kernel) (Nat.le_of_ble_eq_true rfl) ?_
  refine G_aload_n 0 dr_cJ5_newCapacity_0f7a4_0 rfl ?_
  refine Gp_get 0 hmq655926 heq655926 dr_cJ5_newCapacity_0f7a4_1 (gk_J4 D I) (Nat.le_of_ble_eq_true rfl) wr_7_60 rfl ?_
  refine Gp_alen (Int32.ofNat n655932) 1 hmq655927 heq655927 dr_cJ5_newCapacity_0f7a4_4 rfl rfl (G_nam fun z655937 hz655937 => ?_)
  have ez655937 : z655937.toInt = (n655932 : Nat) := gI_ofM hz655937 (by omega)
  have bz655937 : gB z655937 0 16777216 := ⟨by omega, by omega⟩
  refine G_istore_n (L' := [(2, .int z655937), (0, .ref q655926), (1, .int p655928)]) dr_cJ5_newCapacity_0f7a4_5 (Nat.le_of_ble_eq_true rfl) rfl ?_
  refine G_iload_n 2 dr_cJ5_newCapacity_0f7a4_6 rfl ?_
  refine G_aload_n 1 dr_cJ5_newCapacity_0f7a4_7 rfl ?_
  refine Gp_get 1 hmq655926 heq655926 dr_cJ5_newCapacity_0f7a4_8 (gk_J4 D I) (Nat.le_of_ble_eq_true rfl) wr_7_61 rfl ?_
  refine G_ishl dr_cJ5_newCapacity_0f7a4_11 (G_nam fun z655938 hz655938 => ?_)
  have ez655938 : z655938.toInt = p655928.toInt * 1 := gI_shl (k := 0) hz655938 (by decide) bp655928 (by decide) (by decide)
  have bz655938 : gB z655938 0 8388608 := ⟨by omega, by omega⟩
  refine G_istore_n (L' := [(3, .int z655938), (2, .int z655937), (0, .ref q655926), (1, .int p655928)]) dr_cJ5_newCapacity_0f7a4_12 (Nat.le_of_ble_eq_true rfl) rfl ?_
  refine G_iload_n 0 dr_cJ5_newCapacity_0f7a4_13 rfl ?_
  refine G_iload_n 1 dr_cJ5_newCapacity_0f7a4_14 rfl ?_
  refine G_isub dr_cJ5_newCapacity_0f7a4_15 (G_nam fun z655939 hz655939 => ?_)
  have ez655939 : z655939.toInt = z655938.toInt - z655937.toInt := by rw [gI_sub hz655939 bz655938 bz655937 (by decide) (by decide)]
  have bz655939 : gB z655939 (-16777216) 8388608 := gB_sub (gI_sub hz655939 bz655938 bz655937 (by decide) (by decide)) bz655938 bz655937 (by decide) (by decide)
  refine G_istore (L' := [(4, .int z655939), (3, .int z655938), (2, .int z655937), (0, .ref q655926), (1, .int p655928)]) dr_cJ5_newCapacity_0f7a4_16 (Nat.le_of_ble_eq_true rfl) rfl ?_
  refine G_iload_n 2 dr_cJ5_newCapacity_0f7a4_18 rfl ?_
  refine G_iload 0 dr_cJ5_newCapacity_0f7a4_19 rfl ?_
  refine G_iload_n 2 dr_cJ5_newCapacity_0f7a4_21 rfl ?_
  refine G_iconst 2 dr_cJ5_newCapacity_0f7a4_22 (by decide +kernel) ?_
  refine G_aload_n 3 dr_cJ5_newCapacity_0f7a4_23 rfl ?_
  refine Gp_get 1 hmq655926 heq655926 dr_cJ5_newCapacity_0f7a4_24 (gk_J4 D I) (Nat.le_of_ble_eq_true rfl) wr_7_61 rfl ?_
  refine G_ishl dr_cJ5_newCapacity_0f7a4_27 (G_nam fun z655940 hz655940 => ?_)
  have ez655940 : z655940.toInt = 2 * 1 := gI_shl (k := 0) hz655940 (by decide) (gBl (show Int32.toInt 2 = 2 by decide)) (by decide) (by decide)
  have bz655940 : gB z655940 2 2 := ⟨by omega, by omega⟩
  refine G_iadd dr_cJ5_newCapacity_0f7a4_28 (G_nam fun z655941 hz655941 => ?_)
  have ez655941 : z655941.toInt = z655937.toInt + z655940.toInt := by rw [gI_add hz655941 bz655937 bz655940 (by decide) (by decide)]
  have bz655941 : gB z655941 2 16777218 := gB_add (gI_add hz655941 bz655937 bz655940 (by decide) (by decide)) bz655937 bz655940 (by decide) (by decide)
  refine Gw_callS (As := [.int z655937, .int z655939, .int z655941]) (gV_ok D I) (cp_355_ArraysSupport_newLength l hl0 D I P655924 F655925 z655937 z655939 z655941 bz655937 ⟨by omega, by omega⟩ ⟨by omega, by omega⟩) dr_cJ5_newCapacity_0f7a4_29 ⟨wr_8_12, wr_1_33, wr_8_14, by decide, rfl, (Nat.le_of_ble_eq_true rfl), (Nat.le_of_ble_eq_true rfl)⟩ wr_8_13 (show 0 + 0 ≤ 0 by first | omega | decide) (show 0 + 0 ≤ 0 by first | omega | decide) (Nat.le_of_ble_eq_true rfl) (fun r655945 w655946 dc655942 ds655943 hp655944 => ?_) (fun _ _ _ _ _ z => z.elim)
  obtain ⟨o655947, rfl, rfl, hdc, hds, bo655947, x655948, ht655949⟩ := hp655944
  change G _ _ _ _ _ _ _ (.int o655947 :: _) _ _ _
  refine G_widen (cs' := 0) (sl' := 0) (by omega) (by omega) ?_
  refine G_istore (L' := [(5, .int o655947), (4, .int z655939), (3, .int z655938), (2, .int z655937), (0, .ref q655926), (1, .int p655928)]) dr_cJ5_newCapacity_0f7a4_32 (Nat.le_of_ble_eq_true rfl) rfl ?_
  refine G_iload 0 dr_cJ5_newCapacity_0f7a4_34 rfl ?_
  refine G_ldc 2147483647 dr_cJ5_newCapacity_0f7a4_36 wr_8_20 ?_
  refine G_icmp_ne 51 dr_cJ5_newCapacity_0f7a4_38 (by decide +kernel) (fun _ => ?_) (fun hc => absurd (show False by have := gj_eq hc (show Int32.toInt 2147483647 = 2147483647 by decide); omega) not_false)
  refine G_iload 0 dr_cJ5_newCapacity_0f7a4_51 rfl ?_
  refine G_aload_n 4 dr_cJ5_newCapacity_0f7a4_53 rfl ?_
  refine Gp_get 1 hmq655926 heq655926 dr_cJ5_newCapacity_0f7a4_54 (gk_J4 D I) (Nat.le_of_ble_eq_true rfl) wr_7_61 rfl ?_
  refine G_ishr dr_cJ5_newCapacity_0f7a4_57 (G_nam fun z655950 hz655950 => ?_)
  have ez655950 : z655950.toInt = o655947.toInt / 1 := gI_shr (k := 0) hz655950 (by decide)
  have bz655950 : gB z655950 1 33554432 := ⟨by omega, by omega⟩
  exact G_iretA dr_cJ5_newCapacity_0f7a4_58 rfl (Nat.le_of_ble_eq_true rfl) (Nat.le_of_ble_eq_true rfl) ⟨z655950, rfl, rfl, (Nat.le_of_ble_eq_true rfl), (Nat.le_of_ble_eq_true rfl), bz655950, (by have qa0 : Int32.toInt 0 = 0 := (by decide); omega), (by have qa0 : Int32.toInt 0 = 0 := (by decide); omega), (by have qa0 : Int32.toInt 0 = 0 := (by decide); omega), (fun R c1 => c1 z655937 z655938 z655939 z655940 z655941 o655947 z655950 ez655937 ez655938 ez655939 ez655940 ez655941 bo655947 ht655949 ez655950)⟩
/- tr_RArrays_copyOf3: a.2.[] -/
def tr_RArrays_copyOf3 (a1 : Int32) (a0_v : Nat → Int32) (a0_n : Nat) (o1 : Nat → Int32) : Prop := ∀ R : (Nat → Int32) → Prop,
  (∀ (x1 : Int32) (x2 : Int32) (x3 : Int32) (x4 : Nat → Int32), x1.toInt = (a0_n : Nat) → a1.toInt ≠ x1.toInt → x2.toInt = (a0_n : Nat) → (x2.toInt ≥ x3.toInt ∧ a1.toInt ≥ x3.toInt ∧ (x3.toInt = x2.toInt ∨ x3.toInt = a1.toInt)) → (x4 = va_cpy a0_v (fun _ => 0) (0 : Int32).toNatClampNeg (0 : Int32).toNatClampNeg x3.toNatClampNeg) → R x4) →
  R o1
abbrev ky_655971_Arrays_copyOf : gKey := (cJ7_copyOf_9075b, 3, "java/util/Arrays", (some (FieldType.array FieldType.byte)), [], "copyOf", fun _ _ => True)
def pp_655971_Arrays_copyOf (D : va_G) (I : FieldType → ClassId) (P655963 : List Nat) (F655964 : Nat → va_E) (q655965 : Nat) (p655966 : Int32) (f655967 : Nat → Int32) (n655968 : Nat) : Option Value → va_W → Nat → Nat → Prop := fun r w dc ds => ∃ (P656001 : List Nat) (F656002 : Nat → va_E) (q655999 : Nat) (f656000 : Nat → Int32), r = some (.ref q655999) ∧ w = va_pl P656001 F656002 ∧ rSub P655963 P656001 ∧ rFr [] P655963 F655964 F656002 ∧ F656002 q655965 = .inl (I .byte, n655968, .inl f655967) ∧ F656002 q655999 = .inl (I .byte, p655966.toInt.toNat, .inl f656000) ∧ q655999 ∈ P656001 ∧ q655999 ∉ P655963 ∧ dc ≤ 1 ∧ ds ≤ p655966.toInt.toNat ∧ gF f656000 (-128) 127 ∧ tr_RArrays_copyOf3 p655966 f655967 n655968 f656000
set_option maxRecDepth 100000 in
set_option maxHeartbeats 4000000 in
theorem cp_655971_Arrays_copyOf (l : Launch) (hl0 : l.stackTraces = false) (D : va_G) (I : FieldType → ClassId) (P655963 : List Nat) (F655964 : Nat → va_E) (q655965 : Nat) (p655966 : Int32) (f655967 : Nat → Int32) (n655968 : Nat) (hmq655965 : q655965 ∈ P655963) (heq655965 : F655964 q655965 = .inl (I .byte, n655968, .inl f655967)) (bp655966 : gB p655966 0 33554432) (bf655967 : gF f655967 (-128) 127) (x655969 : (n655968 : Int) < p655966.toInt) (x655970 : ((n655968 : Int) ≤ 16777216)) : CtA (gV D I) l yJ7_copyOf_9075b cJ7_copyOf_9075b 3 (some (FieldType.array FieldType.byte)) 1 18 1 p655966.toInt.toNat [.ref q655965, .int p655966] (va_pl P655963 F655964) (pp_655971_Arrays_copyOf D I P655963 F655964 q655965 p655966 f655967 n655968) gNA := by
  refine CtA_ofF hl0 (by decide +kernel) (Nat.le_of_ble_eq_true rfl) ?_
  refine G_iload_n 1 dr_cJ7_copyOf_9075b_0 rfl ?_
  refine G_aload_n 0 dr_cJ7_copyOf_9075b_1 rfl ?_
  refine Gp_alen (Int32.ofNat n655968) 1 hmq655965 heq655965 dr_cJ7_copyOf_9075b_2 rfl rfl (G_nam fun z655972 hz655972 => ?_)
  have ez655972 : z655972.toInt = (n655968 : Nat) := gI_ofM hz655972 (by omega)
  have bz655972 : gB z655972 0 16777216 := ⟨by omega, by omega⟩
  refine G_icmp_ne 14 dr_cJ7_copyOf_9075b_3 (by decide +kernel) (fun hc655973 => ?_) (fun hc => absurd (show False by have := gC_eq hc; omega) not_false)
  have r655975 : p655966.toInt ≠ z655972.toInt := gC_ne hc655973
  refine G_iload_n 1 dr_cJ7_copyOf_9075b_14 rfl ?_
  refine G_newa 1 (p655966.toInt.toNat, .inl (fun _ => 0)) dr_cJ7_copyOf_9075b_15 rfl rfl (by intro C h; cases h) wr_1_66 (fun _ => ga_byte _ _) (g_n0 (by omega)) rfl (show p655966.toInt.toNat * 1 ≤ 536870912 by omega) (show 0 + 1 ≤ 1 by first | omega | decide) (show 0 + p655966.toInt.toNat ≤ p655966.toInt.toNat by first | omega | decide) (fun q655976 => Gp_in (fun P655977 F655978 hq655979 hP655980 e655981 n655982 => ?_))
  refine G_widen (cs' := 1) (sl' := p655966.toInt.toNat) (by omega) (by omega) ?_
  have he655983 : F655978 q655965 = .inl (I .byte, n655968, .inl f655967) := (n655982 q655965 (fun h => hq655979 (h ▸ hmq655965))).trans heq655965
  have he655984 : F655978 q655976 = .inl (I .byte, p655966.toInt.toNat, .inl (fun _ => 0)) := e655981
  have hm655985 : q655965 ∈ P655977 := (hP655980 q655965).mpr (Or.inl hmq655965)
  have hm655986 : q655976 ∈ P655977 := (hP655980 q655976).mpr (Or.inr rfl)
  have hq655987 : q655976 ∉ P655963 := fun z => hq655979 ((rSub_rf (P := P655963)) q655976 z)
  have hfr655988 : rFr [] P655963 F655964 F655978 := rFr_new (rSub_rf (P := P655963)) hq655979 (rFr_rf (W := []) (P := P655963) (F := F655964)) n655982
  have hsb655989 : rSub P655963 P655977 := rSub_new (rSub_rf (P := P655963)) hP655980
  refine G_astore_n (L' := [(2, .ref q655976), (0, .ref q655965), (1, .int p655966)]) dr_cJ7_copyOf_9075b_17 (Nat.le_of_ble_eq_true rfl) rfl ?_
  refine G_aload_n 1 dr_cJ7_copyOf_9075b_18 rfl ?_
  refine G_iconst 0 dr_cJ7_copyOf_9075b_19 (by decide +kernel) ?_
  refine G_aload_n 0 dr_cJ7_copyOf_9075b_20 rfl ?_
  refine G_iconst 0 dr_cJ7_copyOf_9075b_21 (by decide +kernel) ?_
  refine G_aload_n 1 dr_cJ7_copyOf_9075b_22 rfl ?_
  refine Gp_alen (Int32.ofNat n655968) 1 hm655985 he655983 dr_cJ7_copyOf_9075b_23 rfl rfl (G_nam fun z655990 hz655990 => ?_)
  have ez655990 : z655990.toInt = (n655968 : Nat) := gI_ofM hz655990 (by omega)
  have bz655990 : gB z655990 0 16777216 := ⟨by omega, by omega⟩
  refine G_iload_n 2 dr_cJ7_copyOf_9075b_24 rfl ?_
  refine G_mmin dr_cJ7_copyOf_9075b_25 wr_8_31 wr_3_227 wr_1_6 wr_3_228 (Nat.le_of_ble_eq_true rfl) (Nat.le_of_ble_eq_true rfl) (show 1 ≤ 1 by first | omega | decide) (show p655966.toInt.toNat ≤ p655966.toInt.toNat by first | omega | decide) (G_nam fun z655991 hz655991 => ?_)
  have ez655991 : z655990.toInt ≥ z655991.toInt ∧ p655966.toInt ≥ z655991.toInt ∧ (z655991.toInt = z655990.toInt ∨ z655991.toInt = p655966.toInt) := by have := gI_min hz655991; omega
  have bz655991 : gB z655991 0 16777216 := ⟨by omega, by omega⟩
  refine Gp_copyp 1 hm655985 hm655986 he655983 he655984 dr_cJ7_copyOf_9075b_28 wr_8_32 wr_5_113 wr_5_112 wr_1_34 rfl rfl (fun j => gT_byte (bf655967 j)) (by decide) (by decide) (by omega) (by have qa0 : Int32.toInt 0 = 0 := (by decide); omega) (by have qa0 : Int32.toInt 0 = 0 := (by decide); omega) (Nat.le_of_ble_eq_true rfl) (Nat.le_of_ble_eq_true rfl) (fun F655992 e655993 n655994 => ?_)
  obtain ⟨f655995, hf655995⟩ : ∃ z, z = va_cpy f655967 (fun _ => 0) (0 : Int32).toNatClampNeg (0 : Int32).toNatClampNeg z655991.toNatClampNeg := ⟨_, rfl⟩
  rw [← hf655995] at e655993
  have bf655995 : gF f655995 (-128) 127 := gF_cpy hf655995 bf655967 (gF_w gF_0 (by decide) (by decide))
  have he655996 : F655992 q655965 = .inl (I .byte, n655968, .inl f655967) := (n655994 q655965 (fun h => hq655987 (h ▸ hmq655965))).trans he655983
  have he655997 : F655992 q655976 = .inl (I .byte, p655966.toInt.toNat, .inl f655995) := e655993
  have hfr655998 : rFr [] P655963 F655964 F655992 := rFr_newp hq655987 hfr655988 n655994
  refine G_aload_n 0 dr_cJ7_copyOf_9075b_31 rfl ?_
  exact G_aretA (FieldType.array FieldType.byte) dr_cJ7_copyOf_9075b_32 rfl (by first | exact Or.inl ⟨_, rfl⟩ | exact Or.inr ⟨_, rfl⟩) (Or.inr ⟨_, rfl⟩) (Nat.le_of_ble_eq_true rfl) (show p655966.toInt.toNat ≤ p655966.toInt.toNat by omega) ⟨P655977, F655992, q655976, f655995, rfl, rfl, hsb655989, hfr655998, he655996, he655997, hm655986, hq655987, (Nat.le_of_ble_eq_true rfl), (by omega), bf655995, (fun R c1 => c1 z655972 z655990 z655991 f655995 ez655972 r655975 ez655990 ez655991 hf655995)⟩
/- tr_RAbstractStringBuilder_ensureCapacityInternal2: a.0.value.#, a.0.value.[] -/
def tr_RAbstractStringBuilder_ensureCapacityInternal2 (a1 : Int32) (a0_value_v : Nat → Int32) (a0_value_n : Nat) (o1 : Nat) (o2 : Nat → Int32) : Prop := ∀ R : (Nat) → (Nat → Int32) → Prop,
  (∀ (x1 : Int32) (x2 : Int32) (x3 : Int32), x1.toInt = (a0_value_n : Nat) → x2.toInt = x1.toInt / 1 → x3.toInt = a1.toInt - x2.toInt → x3.toInt ≤ 0 → R a0_value_n a0_value_v) →
  (∀ (x1 : Int32) (x2 : Int32) (x3 : Int32) (x4 : Int32) (x5 : Int32) (x6 : Nat → Int32), x1.toInt = (a0_value_n : Nat) → x2.toInt = x1.toInt / 1 → x3.toInt = a1.toInt - x2.toInt → 0 < x3.toInt → gB x4 1 33554432 → tr_RAbstractStringBuilder_newCapacity a1 a0_value_n x4 → x5.toInt = x4.toInt * 1 → tr_RArrays_copyOf3 x5 a0_value_v a0_value_n x6 → R x5.toInt.toNat x6) →
  R o1 o2
abbrev ky_655917_AbstractStringBuilder_ensureCapacityInternal : gKey := (cJ5_ensureCapacityInternal_d00df, 3, "java/lang/AbstractStringBuilder", none, [], "ensureCapacityInternal", fun _ _ => True)
def pp_655917_AbstractStringBuilder_ensureCapacityInternal (D : va_G) (I : FieldType → ClassId) (P655906 : List Nat) (F655907 : Nat → va_E) (q655908 : Nat) (q655909 : Nat) (p655910 : Int32) (p655911 : Int32) (p655912 : Int32) (f655913 : Nat → Int32) (n655914 : Nat) : Option Value → va_W → Nat → Nat → Prop := fun r w dc ds => ∃ (P656035 : List Nat) (F656036 : Nat → va_E) (q656032 : Nat) (n656033 : Nat) (f656034 : Nat → Int32), r = none ∧ w = va_pl P656035 F656036 ∧ rSub P655906 P656035 ∧ rFr [q655908] P655906 F655907 F656036 ∧ F656036 q655908 = .inr (1, [.ref q656032, .int 0, .int p655911, .int p655912]) ∧ F656036 q656032 = .inl (I .byte, n656033, .inl f656034) ∧ q656032 ∈ P656035 ∧ (q656032 = q655909 ∨ q656032 ∉ P655906) ∧ dc ≤ 1 ∧ ds ≤ 2 * (n656033 - n655914) ∧ gF f656034 (-128) 127 ∧ p655910.toInt ≤ (n656033 : Int) ∧ (n655914 : Int) ≤ (n656033 : Int) ∧ ((n656033 : Int) = (n655914 : Int) ∨ (n655914 : Int) < p655910.toInt) ∧ ((n656033 : Int) ≤ 2 * (n655914 : Int) + 2 ∨ (n656033 : Int) ≤ p655910.toInt) ∧ tr_RAbstractStringBuilder_ensureCapacityInternal2 p655910 f655913 n655914 n656033 f656034
set_option maxRecDepth 100000 in
set_option maxHeartbeats 4000000 in
theorem cp_655917_AbstractStringBuilder_ensureCapacityInternal (l : Launch) (hl0 : l.stackTraces = false) (D : va_G) (I : FieldType → ClassId) (P655906 : List Nat) (F655907 : Nat → va_E) (q655908 : Nat) (q655909 : Nat) (p655910 : Int32) (p655911 : Int32) (p655912 : Int32) (f655913 : Nat → Int32) (n655914 : Nat) (hmq655908 : q655908 ∈ P655906) (hmq655909 : q655909 ∈ P655906) (heq655908 : F655907 q655908 = .inr (1, [.ref q655909, .int 0, .int p655911, .int p655912])) (heq655909 : F655907 q655909 = .inl (I .byte, n655914, .inl f655913)) (bp655910 : gB p655910 0 8388608) (bp655911 : gB p655911 0 1) (bp655912 : gB p655912 0 16777216) (bf655913 : gF f655913 (-128) 127) (x655915 : (n655914 : Int) ≤ 8388608) (x655916 : ((n655914 : Int) ≤ 16777216)) : CtA (gV D I) l yJ5_ensureCapacityInternal_d00df cJ5_ensureCapacityInternal_d00df 3 none 3 62 1 (2 * n655914 + 2 + p655910.toInt.toNat) [.ref q655908, .int p655910] (va_pl P655906 F655907) (pp_655917_AbstractStringBuilder_ensureCapacityInternal D I P655906 F655907 q655908 q655909 p655910 p655911 p655912 f655913 n655914) gNA := by
  refine CtA_ofF hl0 (by decide +kernel) (Nat.le_of_ble_eq_true rfl) ?_
  refine G_aload_n 0 dr_cJ5_ensureCapacityInternal_d00df_0 rfl ?_
  refine Gp_get 0 hmq655908 heq655908 dr_cJ5_ensureCapacityInternal_d00df_1 (gk_J4 D I) (Nat.le_of_ble_eq_true rfl) wr_7_60 rfl ?_
  refine Gp_alen (Int32.ofNat n655914) 1 hmq655909 heq655909 dr_cJ5_ensureCapacityInternal_d00df_4 rfl rfl (G_nam fun z655918 hz655918 => ?_)
  have ez655918 : z655918.toInt = (n655914 : Nat) := gI_ofM hz655918 (by omega)
  have bz655918 : gB z655918 0 16777216 := ⟨by omega, by omega⟩
  refine G_aload_n 0 dr_cJ5_ensureCapacityInternal_d00df_5 rfl ?_
  refine Gp_get 1 hmq655908 heq655908 dr_cJ5_ensureCapacityInternal_d00df_6 (gk_J4 D I) (Nat.le_of_ble_eq_true rfl) wr_7_61 rfl ?_
  refine G_ishr dr_cJ5_ensureCapacityInternal_d00df_9 (G_nam fun z655919 hz655919 => ?_)
  have ez655919 : z655919.toInt = z655918.toInt / 1 := gI_shr (k := 0) hz655919 (by decide)
  have bz655919 : gB z655919 0 16777216 := ⟨by omega, by omega⟩
  refine G_istore_n (L' := [(2, .int z655919), (0, .ref q655908), (1, .int p655910)]) dr_cJ5_ensureCapacityInternal_d00df_10 (Nat.le_of_ble_eq_true rfl) rfl ?_
  refine G_iload_n 2 dr_cJ5_ensureCapacityInternal_d00df_11 rfl ?_
  refine G_iload_n 0 dr_cJ5_ensureCapacityInternal_d00df_12 rfl ?_
  refine G_isub dr_cJ5_ensureCapacityInternal_d00df_13 (G_nam fun z655920 hz655920 => ?_)
  have ez655920 : z655920.toInt = p655910.toInt - z655919.toInt := by rw [gI_sub hz655920 bp655910 bz655919 (by decide) (by decide)]
  have bz655920 : gB z655920 (-16777216) 8388608 := gB_sub (gI_sub hz655920 bp655910 bz655919 (by decide) (by decide)) bp655910 bz655919 (by decide) (by decide)
  refine G_if_le 38 dr_cJ5_ensureCapacityInternal_d00df_14 (by decide +kernel) (fun hc655921 => ?_) (fun hc655921 => ?_)
  · have r655922 : z655920.toInt ≤ 0 := gj_le hc655921 (show Int32.toInt 0 = 0 by decide)
    have bz655920' : gB z655920 (-16777216) 0 := ⟨by omega, by omega⟩
    exact G_vretA dr_cJ5_ensureCapacityInternal_d00df_38 rfl (Nat.le_of_ble_eq_true rfl) (Nat.le_of_ble_eq_true rfl) ⟨P655906, F655907, q655909, n655914, f655913, rfl, rfl, (rSub_rf (P := P655906)), (rFr_v (rFr_rf (W := []) (P := P655906) (F := F655907)) (fun b hn => nm_n)), heq655908, heq655909, hmq655909, (Or.inl rfl), (Nat.le_of_ble_eq_true rfl), (by omega), bf655913, (by have qa0 : Int32.toInt 0 = 0 := (by decide); omega), (by have qa0 : Int32.toInt 0 = 0 := (by decide); omega), (by have qa0 : Int32.toInt 0 = 0 := (by decide); omega), (by have qa0 : Int32.toInt 0 = 0 := (by decide); omega), (fun R c1 c2 => c1 z655918 z655919 z655920 ez655918 ez655919 ez655920 r655922)⟩
  · have r655923 : 0 < z655920.toInt := gj_nle hc655921 (show Int32.toInt 0 = 0 by decide)
    have bz655920' : gB z655920 1 8388608 := ⟨by omega, by omega⟩
    refine G_aload_n 1 dr_cJ5_ensureCapacityInternal_d00df_17 rfl ?_
    refine G_aload_n 1 dr_cJ5_ensureCapacityInternal_d00df_18 rfl ?_
    refine Gp_get 0 hmq655908 heq655908 dr_cJ5_ensureCapacityInternal_d00df_19 (gk_J4 D I) (Nat.le_of_ble_eq_true rfl) wr_7_60 rfl ?_
    refine G_aload_n 1 dr_cJ5_ensureCapacityInternal_d00df_22 rfl ?_
    refine G_iload_n 2 dr_cJ5_ensureCapacityInternal_d00df_23 rfl ?_
    refine Gw_callVB (As := [.int p655910]) (gV_ok D I) (cp_655936_AbstractStringBuilder_newCapacity l hl0 D I P655906 F655907 q655908 q655909 p655910 p655911 p655912 f655913 n655914 hmq655908 hmq655909 heq655908 heq655909 bp655910 bp655911 bp655912 bf655913 (by have qa0 : Int32.toInt 0 = 0 := (by decide); omega) (by have qa0 : Int32.toInt 0 = 0 := (by decide); omega) (by have qa0 : Int32.toInt 0 = 0 := (by decide); omega)) dr_cJ5_ensureCapacityInternal_d00df_24 ⟨wr_8_8, wr_1_19, wr_8_11, by decide, rfl, (Nat.le_of_ble_eq_true rfl), (Nat.le_of_ble_eq_true rfl)⟩ wr_8_10 wr_s_1 hmq655908 heq655908 rfl (show 0 + 0 ≤ 1 by first | omega | decide) (show 0 + 0 ≤ (2 * n655914 + 2 + p655910.toInt.toNat) by first | omega | decide) (Nat.le_of_ble_eq_true rfl) (fun r655955 w655956 dc655952 ds655953 hp655954 => ?_) (fun _ _ _ _ _ z => z.elim)
    obtain ⟨o655957, rfl, rfl, hdc, hds, bo655957, x655958, x655959, x655960, ht655961⟩ := hp655954
    change G _ _ _ _ _ _ _ (.int o655957 :: _) _ _ _
    refine G_widen (cs' := 0) (sl' := 0) (by omega) (by omega) ?_
    refine G_aload_n 1 dr_cJ5_ensureCapacityInternal_d00df_27 rfl ?_
    refine Gp_get 1 hmq655908 heq655908 dr_cJ5_ensureCapacityInternal_d00df_28 (gk_J4 D I) (Nat.le_of_ble_eq_true rfl) wr_7_61 rfl ?_
    refine G_ishl dr_cJ5_ensureCapacityInternal_d00df_31 (G_nam fun z655962 hz655962 => ?_)
    have ez655962 : z655962.toInt = o655957.toInt * 1 := gI_shl (k := 0) hz655962 (by decide) bo655957 (by decide) (by decide)
    have bz655962 : gB z655962 1 33554432 := ⟨by omega, by omega⟩
    refine Gw_callS (As := [.ref q655909, .int z655962]) (gV_ok D I) (cp_655971_Arrays_copyOf l hl0 D I P655906 F655907 q655909 z655962 f655913 n655914 hmq655909 heq655909 (gB_w bz655962 (by decide) (by decide)) bf655913 (by have qa0 : Int32.toInt 0 = 0 := (by decide); omega) (by have qa0 : Int32.toInt 0 = 0 := (by decide); omega)) dr_cJ5_ensureCapacityInternal_d00df_32 ⟨wr_8_21, wr_1_30, wr_8_23, by decide, rfl, (Nat.le_of_ble_eq_true rfl), (Nat.le_of_ble_eq_true rfl)⟩ wr_8_22 (show 0 + 1 ≤ 1 by first | omega | decide) (show 0 + z655962.toInt.toNat ≤ (2 * n655914 + 2 + p655910.toInt.toNat) by first | omega | decide) (Nat.le_of_ble_eq_true rfl) (fun r656006 w656007 dc656003 ds656004 hp656005 => ?_) (fun _ _ _ _ _ z => z.elim)
    obtain ⟨P656011, F656012, q656008, f656009, rfl, rfl, hsb656013, hfr656014, he656015, he656016, hm656017, hq656018, hdc, hds, bf656009, ht656010⟩ := hp656005
    have hm656019 : q655908 ∈ P656011 := hsb656013 q655908 hmq655908
    have hm656020 : q655909 ∈ P656011 := hsb656013 q655909 hmq655909
    have hq656021 : q656008 ∉ P655906 := fun z => hq656018 ((rSub_rf (P := P655906)) q656008 z)
    have hsb656022 : rSub P655906 P656011 := rSub_tr (rSub_rf (P := P655906)) hsb656013
    have he656023 : F656012 q655908 = .inr (1, [.ref q655909, .int 0, .int p655911, .int p655912]) := (hfr656014 q655908 hmq655908 nm_n).trans heq655908
    have hfr656024 : rFr [] P655906 F655907 F656012 := rFr_call (rSub_rf (P := P655906)) (rFr_rf (W := []) (P := P655906) (F := F655907)) hfr656014 (fun b hb hn => ⟨nm_n, nm_n⟩)
    change G _ _ _ _ _ _ _ (.ref q656008 :: _) _ _ _
    refine G_widen (cs' := 1) (sl' := z655962.toInt.toNat) (by omega) (by omega) ?_
    refine Gp_put 0 hm656019 he656023 dr_cJ5_ensureCapacityInternal_d00df_35 (gk_J4 D I) (Nat.le_of_ble_eq_true rfl) wr_7_60 rfl rfl rfl (Nat.le_of_ble_eq_true rfl) (fun F656025 e656026 n656027 => ?_)
    have he656028 : F656025 q655909 = .inl (I .byte, n655914, .inl f655913) := (n656027 q655909 (rn_ao he656015 he656023)).trans he656015
    have he656029 : F656025 q656008 = .inl (I .byte, z655962.toInt.toNat, .inl f656009) := (n656027 q656008 (fun h => hq656021 (h ▸ hmq655908))).trans he656016
    have he656030 : F656025 q655908 = .inr (1, [.ref q656008, .int 0, .int p655911, .int p655912]) := e656026
    have hfr656031 : rFr [q655908] P655906 F655907 F656025 := rFr_put hfr656024 n656027
    exact G_vretA dr_cJ5_ensureCapacityInternal_d00df_38 rfl (Nat.le_of_ble_eq_true rfl) (show z655962.toInt.toNat ≤ (2 * n655914 + 2 + p655910.toInt.toNat) by omega) ⟨P656011, F656025, q656008, z655962.toInt.toNat, f656009, rfl, rfl, hsb656022, hfr656031, he656030, he656029, hm656017, (Or.inr hq656021), (Nat.le_of_ble_eq_true rfl), (by omega), bf656009, (by have qa0 : Int32.toInt 0 = 0 := (by decide); omega), (by have qa0 : Int32.toInt 0 = 0 := (by decide); omega), (by have qa0 : Int32.toInt 0 = 0 := (by decide); omega), (by have qa0 : Int32.toInt 0 = 0 := (by decide); omega), (fun R c1 c2 => c2 z655918 z655919 z655920 o655957 z655962 f656009 ez655918 ez655919 ez655920 r655923 bo655957 ht655961 ez655962 ht656010)⟩
/- tr_RAbstractStringBuilder_append2: a.0...count, a.0.value.#, a.0.value.[] -/
def tr_RAbstractStringBuilder_append2 (a1 : Int32) (a0_count : Int32) (a0_value_v : Nat → Int32) (a0_value_n : Nat) (o1 : Int32) (o2 : Nat) (o3 : Nat → Int32) : Prop := ∀ R : (Int32) → (Nat) → (Nat → Int32) → Prop,
  (∀ (x1 : Int32) (x2 : Nat) (x3 : Nat → Int32) (x4 : Int32) (x5 : Int32) (x6 : Nat → Int32), x1.toInt = a0_count.toInt + 1 → tr_RAbstractStringBuilder_ensureCapacityInternal2 x1 a0_value_v a0_value_n x2 x3 → tr_RStringLatin1_canEncode a1 (1 : Int32) → x4.toInt = a0_count.toInt + 1 → x5 = a1.toInt8.toInt32 → x6 = upd x3 a0_count.toNatClampNeg (vp_nar .byte x5) → R x4 x2 x6) →
  R o1 o2 o3
